set_option maxHeartbeats 4000000 in
set_option maxRecDepth 20000 in
theorem j_X12_look_80_ok (X : Nat × (Nat → Int32)) {F L : Nat} (hF : 1 ≤ F) (hL : 21 ≤ L) (nn : Nat) (l0 : Nat) (l1 : Int32) (h : mx_H) {r : (Int32 × mx_H)} (hf : j_X12_look_80 nn l0 l1 h = some r) : mx_S X F L 376 80 [(0, .ref l0), (1, .int l1)] [] h 0 0 (some (.int r.1), r.2, 0, 0) := by
  have hm : mx_mt 376 = some (yX12_look, cX12_look, 2, (some .int)) := mt_X12_look
  unfold j_X12_look_80 at hf
  refine mx_S.pu (pc2 := 81) (lv2 := [(0, .ref l0), (1, .int l1)]) (st2 := [.ref l0]) hm dX12_look_80 rfl ?_
  replace hf := mx_sv_el hf; obtain ⟨v1, e_v1, hf⟩ := hf
  refine sx_get hm dX12_look_81 rs_RX12_69 (xgr_el e_v1) ?_
  clear e_v1
  refine mx_S.pu (pc2 := 85) (lv2 := [(0, .ref l0), (1, .int l1)]) (st2 := [.int l1, .ref v1]) hm dX12_look_84 rfl ?_
  replace hf := mx_gd_el hf; obtain ⟨c2, hf⟩ := hf
  replace hf := mx_sv_el hf; obtain ⟨u3, e_u3, hf⟩ := hf
  refine sx_cv hm dX12_look_85 rs_RX12_205 mt_X5_tell [.int l1] [] (b := v1) (ci := 5) rfl rfl rfl c2 (Nat.le_of_ble_eq_true rfl) (Nat.le_of_ble_eq_true rfl) (by omega) (by omega) (f_X5_tell_ok X (by omega) (by omega) nn v1 l1 h e_u3) ?_
  clear e_u3
  show mx_S X F L 376 88 [(0, .ref l0), (1, .int l1)] [.int u3.1] u3.2 0 0 (some (.int r.1), r.2, 0, 0)
  cases hf
  exact sx_ire hm dX12_look_88 rfl rfl
set_option maxHeartbeats 4000000 in
set_option maxRecDepth 20000 in
theorem f_X12_look_ok (X : Nat × (Nat → Int32)) {F L : Nat} (hF : 1 ≤ F) (hL : 21 ≤ L) (nn : Nat) (a0 : Nat) (a1 : Int32) (h : mx_H) {r : (Int32 × mx_H)} (hf : f_X12_look nn a0 a1 h = some r) : mx_R X F L 376 [.ref a0, .int a1] h (some (.int r.1), r.2, 0, 0) := by
  have hm : mx_mt 376 = some (yX12_look, cX12_look, 2, (some .int)) := mt_X12_look
  show mx_S X F L 376 0 [(0, .ref a0), (1, .int a1)] [] h 0 0 (some (.int r.1), r.2, 0, 0)
  unfold f_X12_look at hf
  refine mx_S.pu (pc2 := 1) (lv2 := [(0, .ref a0), (1, .int a1)]) (st2 := [.int a1]) hm dX12_look_0 rfl ?_
  rcases mx_if_el hf with ⟨n_0, hf⟩ | ⟨n_0, hf⟩
  · refine sx_tin hm dX12_look_1 (by rw [n_0]; decide) (by rw [n_0]; decide) (off := 27) (by rw [n_0]; rfl) (tgt := 28) rfl ?_
    clear n_0
    refine mx_S.pu (pc2 := 29) (lv2 := [(0, .ref a0), (1, .int a1)]) (st2 := [.ref a0]) hm dX12_look_28 rfl ?_
    replace hf := mx_sv_el hf; obtain ⟨v9, e_v9, hf⟩ := hf
    refine sx_get hm dX12_look_29 rs_RX12_53 (xgr_el e_v9) ?_
    clear e_v9
    replace hf := mx_sv_el hf; obtain ⟨v10, e_v10, hf⟩ := hf
    refine sx_get hm dX12_look_32 rs_RX12_199 (xgi_el e_v10) ?_
    clear e_v10
    cases hf
    exact sx_ire hm dX12_look_35 rfl rfl
  · rcases mx_if_el hf with ⟨n_1, hf⟩ | ⟨n_1, hf⟩
    · refine sx_tin hm dX12_look_1 (by rw [n_1]; decide) (by rw [n_1]; decide) (off := 35) (by rw [n_1]; rfl) (tgt := 36) rfl ?_
      clear n_0 n_1
      refine mx_S.pu (pc2 := 37) (lv2 := [(0, .ref a0), (1, .int a1)]) (st2 := [.ref a0]) hm dX12_look_36 rfl ?_
      replace hf := mx_sv_el hf; obtain ⟨v11, e_v11, hf⟩ := hf
      refine sx_get hm dX12_look_37 rs_RX12_53 (xgr_el e_v11) ?_
      clear e_v11
      replace hf := mx_sv_el hf; obtain ⟨v12, e_v12, hf⟩ := hf
      refine sx_get hm dX12_look_40 rs_RX12_165 (xgi_el e_v12) ?_
      clear e_v12
      rcases mx_if_el hf with ⟨c13, hf⟩ | ⟨c13, hf⟩
      · refine sb_if_eq hm dX12_look_43 (tgt := 50) rfl (fun _ => ?_) (fun z => absurd c13 z)
        refine sx_ic (v := 0) hm dX12_look_50 (by decide) ?_
        cases hf
        exact sx_ire hm dX12_look_51 rfl rfl
      · refine sb_if_eq hm dX12_look_43 (tgt := 50) rfl (fun z => absurd z c13) (fun _ => ?_)
        refine sx_ic (v := 1) hm dX12_look_46 (by decide) ?_
        refine mx_S.pu (pc2 := 51) (lv2 := [(0, .ref a0), (1, .int a1)]) (st2 := [.int 1]) hm dX12_look_47 rfl ?_
        cases hf
        exact sx_ire hm dX12_look_51 rfl rfl
    · rcases mx_if_el hf with ⟨n_2, hf⟩ | ⟨n_2, hf⟩
      · refine sx_tin hm dX12_look_1 (by rw [n_2]; decide) (by rw [n_2]; decide) (off := 51) (by rw [n_2]; rfl) (tgt := 52) rfl ?_
        clear n_0 n_1 n_2
        refine mx_S.pu (pc2 := 53) (lv2 := [(0, .ref a0), (1, .int a1)]) (st2 := [.ref a0]) hm dX12_look_52 rfl ?_
        replace hf := mx_sv_el hf; obtain ⟨v14, e_v14, hf⟩ := hf
        refine sx_get hm dX12_look_53 rs_RX12_73 (xgi_el e_v14) ?_
        clear e_v14
        cases hf
        exact sx_ire hm dX12_look_56 rfl rfl
      · rcases (show (a1.toInt < 11 ∨ 13 < a1.toInt) ∨ a1.toInt = 11 ∨ a1.toInt = 12 ∨ a1.toInt = 13 by omega) with z0 | z0 | z0 | z0
        · refine sx_tout hm dX12_look_1 z0 (tgt := 57) rfl ?_
          refine mx_S.pu (pc2 := 58) (lv2 := [(0, .ref a0), (1, .int a1)]) (st2 := [.int a1]) hm dX12_look_57 rfl ?_
          refine sx_bi (v := 7) hm dX12_look_58 (by decide) ?_
          rcases mx_if_el hf with ⟨c8, hf⟩ | ⟨c8, hf⟩
          · refine sb_ic_lt hm dX12_look_60 (tgt := 80) rfl (fun _ => ?_) (fun z => absurd c8 z)
            exact j_X12_look_80_ok X hF hL nn a0 a1 h hf
          · refine sb_ic_lt hm dX12_look_60 (tgt := 80) rfl (fun z => absurd z c8) (fun _ => ?_)
            refine mx_S.pu (pc2 := 64) (lv2 := [(0, .ref a0), (1, .int a1)]) (st2 := [.int a1]) hm dX12_look_63 rfl ?_
            refine sx_bi (v := 10) hm dX12_look_64 (by decide) ?_
            rcases mx_if_el hf with ⟨c7, hf⟩ | ⟨c7, hf⟩
            · refine sb_ic_gt hm dX12_look_66 (tgt := 80) rfl (fun _ => ?_) (fun z => absurd c7 z)
              exact j_X12_look_80_ok X hF hL nn a0 a1 h hf
            · refine sb_ic_gt hm dX12_look_66 (tgt := 80) rfl (fun z => absurd z c7) (fun _ => ?_)
              refine mx_S.pu (pc2 := 70) (lv2 := [(0, .ref a0), (1, .int a1)]) (st2 := [.ref a0]) hm dX12_look_69 rfl ?_
              replace hf := mx_sv_el hf; obtain ⟨v4, e_v4, hf⟩ := hf
              refine sx_get hm dX12_look_70 rs_RX12_69 (xgr_el e_v4) ?_
              clear e_v4
              refine mx_S.pu (pc2 := 74) (lv2 := [(0, .ref a0), (1, .int a1)]) (st2 := [.int a1, .ref v4]) hm dX12_look_73 rfl ?_
              replace hf := mx_gd_el hf; obtain ⟨c5, hf⟩ := hf
              replace hf := mx_sv_el hf; obtain ⟨u6, e_u6, hf⟩ := hf
              refine sx_cv hm dX12_look_74 rs_RX12_202 mt_X5_tellTop [.int a1] [] (b := v4) (ci := 5) rfl rfl rfl c5 (Nat.le_of_ble_eq_true rfl) (Nat.le_of_ble_eq_true rfl) (by omega) (by omega) (f_X5_tellTop_ok X (by omega) (by omega) nn v4 a1 h e_u6) ?_
              clear e_u6
              show mx_S X F L 376 77 [(0, .ref a0), (1, .int a1)] [.int u6.1] u6.2 0 0 (some (.int r.1), r.2, 0, 0)
              refine mx_S.pu (pc2 := 88) (lv2 := [(0, .ref a0), (1, .int a1)]) (st2 := [.int u6.1]) hm dX12_look_77 rfl ?_
              cases hf
              exact sx_ire hm dX12_look_88 rfl rfl
        · exact absurd (Int32.toInt_inj.mp (z0.trans (by decide : (11 : Int) = (11 : Int32).toInt))) n_0
        · exact absurd (Int32.toInt_inj.mp (z0.trans (by decide : (12 : Int) = (12 : Int32).toInt))) n_1
        · exact absurd (Int32.toInt_inj.mp (z0.trans (by decide : (13 : Int) = (13 : Int32).toInt))) n_2
set_option maxHeartbeats 4000000 in
set_option maxRecDepth 20000 in
theorem f_X5_printedAt_ok (X : Nat × (Nat → Int32)) {F L : Nat} (hF : 0 ≤ F) (hL : 0 ≤ L) (nn : Nat) (a0 : Nat) (a1 : Int32) (h : mx_H) {r : (Int32 × mx_H)} (hf : f_X5_printedAt nn a0 a1 h = some r) : mx_R X F L 148 [.ref a0, .int a1] h (some (.int r.1), r.2, 0, 0) := by
  have hm : mx_mt 148 = some (yX5_printedAt, cX5_printedAt, 2, (some .int)) := mt_X5_printedAt
  show mx_S X F L 148 0 [(0, .ref a0), (1, .int a1)] [] h 0 0 (some (.int r.1), r.2, 0, 0)
  unfold f_X5_printedAt at hf
  refine mx_S.pu (pc2 := 1) (lv2 := [(0, .ref a0), (1, .int a1)]) (st2 := [.int a1]) hm dX5_printedAt_0 rfl ?_
  rcases mx_if_el hf with ⟨c6, hf⟩ | ⟨c6, hf⟩
  · refine sb_if_lt hm dX5_printedAt_1 (tgt := 28) rfl (fun _ => ?_) (fun z => absurd c6 z)
    refine sx_ic (v := 0) hm dX5_printedAt_28 (by decide) ?_
    cases hf
    exact sx_ire hm dX5_printedAt_29 rfl rfl
  · refine sb_if_lt hm dX5_printedAt_1 (tgt := 28) rfl (fun z => absurd z c6) (fun _ => ?_)
    refine mx_S.pu (pc2 := 5) (lv2 := [(0, .ref a0), (1, .int a1)]) (st2 := [.int a1]) hm dX5_printedAt_4 rfl ?_
    refine mx_S.pu (pc2 := 6) (lv2 := [(0, .ref a0), (1, .int a1)]) (st2 := [.ref a0, .int a1]) hm dX5_printedAt_5 rfl ?_
    replace hf := mx_sv_el hf; obtain ⟨v1, e_v1, hf⟩ := hf
    refine sx_get hm dX5_printedAt_6 rs_RX5_69 (xgi_el e_v1) ?_
    clear e_v1
    rcases mx_if_el hf with ⟨c5, hf⟩ | ⟨c5, hf⟩
    · refine sb_ic_ge hm dX5_printedAt_9 (tgt := 28) rfl (fun _ => ?_) (fun z => absurd c5 z)
      refine sx_ic (v := 0) hm dX5_printedAt_28 (by decide) ?_
      cases hf
      exact sx_ire hm dX5_printedAt_29 rfl rfl
    · refine sb_ic_ge hm dX5_printedAt_9 (tgt := 28) rfl (fun z => absurd z c5) (fun _ => ?_)
      refine mx_S.pu (pc2 := 13) (lv2 := [(0, .ref a0), (1, .int a1)]) (st2 := [.int a1]) hm dX5_printedAt_12 rfl ?_
      refine sx_si (v := 1000) hm dX5_printedAt_13 (by decide) ?_
      rcases mx_if_el hf with ⟨c4, hf⟩ | ⟨c4, hf⟩
      · refine sb_ic_ge hm dX5_printedAt_16 (tgt := 28) rfl (fun _ => ?_) (fun z => absurd c4 z)
        refine sx_ic (v := 0) hm dX5_printedAt_28 (by decide) ?_
        cases hf
        exact sx_ire hm dX5_printedAt_29 rfl rfl
      · refine sb_ic_ge hm dX5_printedAt_16 (tgt := 28) rfl (fun z => absurd z c4) (fun _ => ?_)
        refine mx_S.pu (pc2 := 20) (lv2 := [(0, .ref a0), (1, .int a1)]) (st2 := [.ref a0]) hm dX5_printedAt_19 rfl ?_
        replace hf := mx_sv_el hf; obtain ⟨v2, e_v2, hf⟩ := hf
        refine sx_get hm dX5_printedAt_20 rs_RX5_13 (xgr_el e_v2) ?_
        clear e_v2
        refine mx_S.pu (pc2 := 24) (lv2 := [(0, .ref a0), (1, .int a1)]) (st2 := [.int a1, .ref v2]) hm dX5_printedAt_23 rfl ?_
        replace hf := mx_sv_el hf; obtain ⟨v3, e_v3, hf⟩ := hf
        refine sx_ald hm dX5_printedAt_24 e_v3 ?_
        clear e_v3
        refine mx_S.pu (pc2 := 29) (lv2 := [(0, .ref a0), (1, .int a1)]) (st2 := [.int v3]) hm dX5_printedAt_25 rfl ?_
        cases hf
        exact sx_ire hm dX5_printedAt_29 rfl rfl
set_option maxHeartbeats 4000000 in
set_option maxRecDepth 20000 in
theorem f_X12_out_ok (X : Nat × (Nat → Int32)) {F L : Nat} (hF : 1 ≤ F) (hL : 21 ≤ L) (nn : Nat) (a0 : Nat) (a1 : Int32) (h : mx_H) {r : (Int32 × mx_H)} (hf : f_X12_out nn a0 a1 h = some r) : mx_R X F L 377 [.ref a0, .int a1] h (some (.int r.1), r.2, 0, 0) := by
  have hm : mx_mt 377 = some (yX12_out, cX12_out, 2, (some .int)) := mt_X12_out
  show mx_S X F L 377 0 [(0, .ref a0), (1, .int a1)] [] h 0 0 (some (.int r.1), r.2, 0, 0)
  unfold f_X12_out at hf
  refine mx_S.pu (pc2 := 1) (lv2 := [(0, .ref a0), (1, .int a1)]) (st2 := [.ref a0]) hm dX12_out_0 rfl ?_
  replace hf := mx_sv_el hf; obtain ⟨v1, e_v1, hf⟩ := hf
  refine sx_get hm dX12_out_1 rs_RX12_69 (xgr_el e_v1) ?_
  clear e_v1
  refine mx_S.pu (pc2 := 5) (lv2 := [(0, .ref a0), (1, .int a1)]) (st2 := [.int a1, .ref v1]) hm dX12_out_4 rfl ?_
  replace hf := mx_gd_el hf; obtain ⟨c2, hf⟩ := hf
  replace hf := mx_sv_el hf; obtain ⟨u3, e_u3, hf⟩ := hf
  refine sx_cv hm dX12_out_5 rs_RX12_208 mt_X5_printedAt [.int a1] [] (b := v1) (ci := 5) rfl rfl rfl c2 (Nat.le_of_ble_eq_true rfl) (Nat.le_of_ble_eq_true rfl) (by omega) (by omega) (f_X5_printedAt_ok X (by omega) (by omega) nn v1 a1 h e_u3) ?_
  clear e_u3
  show mx_S X F L 377 8 [(0, .ref a0), (1, .int a1)] [.int u3.1] u3.2 0 0 (some (.int r.1), r.2, 0, 0)
  cases hf
  exact sx_ire hm dX12_out_8 rfl rfl
set_option maxHeartbeats 4000000 in
set_option maxRecDepth 20000 in
theorem f_X3_ownBytes_ok (X : Nat × (Nat → Int32)) {F L : Nat} (hF : 0 ≤ F) (hL : 0 ≤ L) (nn : Nat) (a0 : Nat) (h : mx_H) {r : (Option Nat × mx_H)} (hf : f_X3_ownBytes nn a0 h = some r) : mx_R X F L 94 [.ref a0] h (some (va_rf r.1), r.2, 0, 0) := by
  have hm : mx_mt 94 = some (yX3_ownBytes, cX3_ownBytes, 1, (some (.array .byte))) := mt_X3_ownBytes
  show mx_S X F L 94 0 [(0, .ref a0)] [] h 0 0 (some (va_rf r.1), r.2, 0, 0)
  unfold f_X3_ownBytes at hf
  refine mx_S.pu (pc2 := 1) (lv2 := [(0, .ref a0)]) (st2 := [.ref a0]) hm dX3_ownBytes_0 rfl ?_
  replace hf := mx_sv_el hf; obtain ⟨v1, e_v1, hf⟩ := hf
  refine sx_get hm dX3_ownBytes_1 rs_RX3_9 (xgr_el e_v1) ?_
  clear e_v1
  cases hf
  exact sx_are hm dX3_ownBytes_4 rfl rfl (v := (some v1))
set_option maxHeartbeats 4000000 in
set_option maxRecDepth 20000 in
theorem f_X7_imageOf_ok (X : Nat × (Nat → Int32)) {F L : Nat} (hF : 0 ≤ F) (hL : 0 ≤ L) (nn : Nat) (a0 : Nat) (a1 : Int32) (h : mx_H) {r : (Option Nat × mx_H)} (hf : f_X7_imageOf nn a0 a1 h = some r) : mx_R X F L 198 [.ref a0, .int a1] h (some (va_rf r.1), r.2, 0, 0) := by
  have hm : mx_mt 198 = some (yX7_imageOf, cX7_imageOf, 2, (some (.object "ClassMill$Image"))) := mt_X7_imageOf
  show mx_S X F L 198 0 [(0, .ref a0), (1, .int a1)] [] h 0 0 (some (va_rf r.1), r.2, 0, 0)
  unfold f_X7_imageOf at hf
  refine mx_S.pu (pc2 := 1) (lv2 := [(0, .ref a0), (1, .int a1)]) (st2 := [.int a1]) hm dX7_imageOf_0 rfl ?_
  refine sx_bi (v := 8) hm dX7_imageOf_1 (by decide) ?_
  rcases mx_if_el hf with ⟨c7, hf⟩ | ⟨c7, hf⟩
  · refine sb_ic_lt hm dX7_imageOf_3 (tgt := 29) rfl (fun _ => ?_) (fun z => absurd c7 z)
    refine mx_S.pu (pc2 := 30) (lv2 := [(0, .ref a0), (1, .int a1)]) (st2 := [va_rf none]) hm dX7_imageOf_29 rfl ?_
    cases hf
    exact sx_are hm dX7_imageOf_30 rfl rfl (v := none)
  · refine sb_ic_lt hm dX7_imageOf_3 (tgt := 29) rfl (fun z => absurd z c7) (fun _ => ?_)
    refine mx_S.pu (pc2 := 7) (lv2 := [(0, .ref a0), (1, .int a1)]) (st2 := [.int a1]) hm dX7_imageOf_6 rfl ?_
    refine sx_bi (v := 8) hm dX7_imageOf_7 (by decide) ?_
    refine mx_S.pu (pc2 := 10) (lv2 := [(0, .ref a0), (1, .int a1)]) (st2 := [.ref a0, .int 8, .int a1]) hm dX7_imageOf_9 rfl ?_
    replace hf := mx_sv_el hf; obtain ⟨v1, e_v1, hf⟩ := hf
    refine sx_get hm dX7_imageOf_10 rs_RX7_41 (xgi_el e_v1) ?_
    clear e_v1
    replace hf := xl_el hf; obtain ⟨v2, e_v2, hf⟩ := hf
    refine mx_S.pu (pc2 := 14) (lv2 := [(0, .ref a0), (1, .int a1)]) (st2 := [.int v2, .int a1]) hm dX7_imageOf_13 (by rw [← e_v2]; rfl) ?_
    clear e_v2
    rcases mx_if_el hf with ⟨c6, hf⟩ | ⟨c6, hf⟩
    · refine sb_ic_ge hm dX7_imageOf_14 (tgt := 29) rfl (fun _ => ?_) (fun z => absurd c6 z)
      refine mx_S.pu (pc2 := 30) (lv2 := [(0, .ref a0), (1, .int a1)]) (st2 := [va_rf none]) hm dX7_imageOf_29 rfl ?_
      cases hf
      exact sx_are hm dX7_imageOf_30 rfl rfl (v := none)
    · refine sb_ic_ge hm dX7_imageOf_14 (tgt := 29) rfl (fun z => absurd z c6) (fun _ => ?_)
      refine mx_S.pu (pc2 := 18) (lv2 := [(0, .ref a0), (1, .int a1)]) (st2 := [.ref a0]) hm dX7_imageOf_17 rfl ?_
      replace hf := mx_sv_el hf; obtain ⟨v3, e_v3, hf⟩ := hf
      refine sx_get hm dX7_imageOf_18 rs_RX7_22 (xgr_el e_v3) ?_
      clear e_v3
      refine mx_S.pu (pc2 := 22) (lv2 := [(0, .ref a0), (1, .int a1)]) (st2 := [.int a1, .ref v3]) hm dX7_imageOf_21 rfl ?_
      refine sx_bi (v := 8) hm dX7_imageOf_22 (by decide) ?_
      replace hf := xl_el hf; obtain ⟨v4, e_v4, hf⟩ := hf
      refine mx_S.pu (pc2 := 25) (lv2 := [(0, .ref a0), (1, .int a1)]) (st2 := [.int v4, .ref v3]) hm dX7_imageOf_24 (by rw [← e_v4]; rfl) ?_
      clear e_v4
      replace hf := mx_sv_el hf; obtain ⟨v5, e_v5, hf⟩ := hf
      refine sx_qld hm dX7_imageOf_25 e_v5 ?_
      clear e_v5
      refine mx_S.pu (pc2 := 30) (lv2 := [(0, .ref a0), (1, .int a1)]) (st2 := [va_rf v5]) hm dX7_imageOf_26 rfl ?_
      cases hf
      exact sx_are hm dX7_imageOf_30 rfl rfl (v := v5)
set_option maxHeartbeats 4000000 in
set_option maxRecDepth 20000 in
theorem f_X3_sameText_ok (X : Nat × (Nat → Int32)) {F L : Nat} (hF : 1 ≤ F) (hL : 27 ≤ L) (nn : Nat) (a0 : Nat) (a1 : Int32) (a2 : Nat) (a3 : Int32) (h : mx_H) {r : (Int32 × mx_H)} (hf : f_X3_sameText nn a0 a1 a2 a3 h = some r) : mx_R X F L 110 [.ref a0, .int a1, .ref a2, .int a3] h (some (.int r.1), r.2, 0, 0) := by
  have hm : mx_mt 110 = some (yX3_sameText, cX3_sameText, 4, (some .boolean)) := mt_X3_sameText
  show mx_S X F L 110 0 [(0, .ref a0), (1, .int a1), (2, .ref a2), (3, .int a3)] [] h 0 0 (some (.int r.1), r.2, 0, 0)
  unfold f_X3_sameText at hf
  refine mx_S.pu (pc2 := 1) (lv2 := [(0, .ref a0), (1, .int a1), (2, .ref a2), (3, .int a3)]) (st2 := [.ref a0]) hm dX3_sameText_0 rfl ?_
  refine mx_S.pu (pc2 := 2) (lv2 := [(0, .ref a0), (1, .int a1), (2, .ref a2), (3, .int a3)]) (st2 := [.ref a0, .ref a0]) hm dX3_sameText_1 rfl ?_
  refine mx_S.pu (pc2 := 3) (lv2 := [(0, .ref a0), (1, .int a1), (2, .ref a2), (3, .int a3)]) (st2 := [.int a1, .ref a0, .ref a0]) hm dX3_sameText_2 rfl ?_
  replace hf := mx_gd_el hf; obtain ⟨c1, hf⟩ := hf
  replace hf := mx_sv_el hf; obtain ⟨u2, e_u2, hf⟩ := hf
  refine sx_cv hm dX3_sameText_3 rs_RX3_122 mt_X3_textAt [.int a1] [.ref a0] (b := a0) (ci := 3) rfl rfl rfl c1 (Nat.le_of_ble_eq_true rfl) (Nat.le_of_ble_eq_true rfl) (by omega) (by omega) (f_X3_textAt_ok X (by omega) (by omega) nn a0 a1 h e_u2) ?_
  clear e_u2
  show mx_S X F L 110 6 [(0, .ref a0), (1, .int a1), (2, .ref a2), (3, .int a3)] [.int u2.1, .ref a0] u2.2 0 0 (some (.int r.1), r.2, 0, 0)
  refine mx_S.pu (pc2 := 7) (lv2 := [(0, .ref a0), (1, .int a1), (2, .ref a2), (3, .int a3)]) (st2 := [.ref a0, .int u2.1, .ref a0]) hm dX3_sameText_6 rfl ?_
  refine mx_S.pu (pc2 := 8) (lv2 := [(0, .ref a0), (1, .int a1), (2, .ref a2), (3, .int a3)]) (st2 := [.int a1, .ref a0, .int u2.1, .ref a0]) hm dX3_sameText_7 rfl ?_
  replace hf := mx_gd_el hf; obtain ⟨c3, hf⟩ := hf
  replace hf := mx_sv_el hf; obtain ⟨u4, e_u4, hf⟩ := hf
  refine sx_cv hm dX3_sameText_8 rs_RX3_125 mt_X3_textEnd [.int a1] [.int u2.1, .ref a0] (b := a0) (ci := 3) rfl rfl rfl c3 (Nat.le_of_ble_eq_true rfl) (Nat.le_of_ble_eq_true rfl) (by omega) (by omega) (f_X3_textEnd_ok X (by omega) (by omega) nn a0 a1 u2.2 e_u4) ?_
  clear e_u4
  show mx_S X F L 110 11 [(0, .ref a0), (1, .int a1), (2, .ref a2), (3, .int a3)] [.int u4.1, .int u2.1, .ref a0] u4.2 0 0 (some (.int r.1), r.2, 0, 0)
  refine mx_S.pu (pc2 := 12) (lv2 := [(0, .ref a0), (1, .int a1), (2, .ref a2), (3, .int a3)]) (st2 := [.ref a2, .int u4.1, .int u2.1, .ref a0]) hm dX3_sameText_11 rfl ?_
  refine mx_S.pu (pc2 := 13) (lv2 := [(0, .ref a0), (1, .int a1), (2, .ref a2), (3, .int a3)]) (st2 := [.ref a2, .ref a2, .int u4.1, .int u2.1, .ref a0]) hm dX3_sameText_12 rfl ?_
  refine mx_S.pu (pc2 := 14) (lv2 := [(0, .ref a0), (1, .int a1), (2, .ref a2), (3, .int a3)]) (st2 := [.int a3, .ref a2, .ref a2, .int u4.1, .int u2.1, .ref a0]) hm dX3_sameText_13 rfl ?_
  replace hf := mx_gd_el hf; obtain ⟨c5, hf⟩ := hf
  replace hf := mx_sv_el hf; obtain ⟨u6, e_u6, hf⟩ := hf
  refine sx_cv hm dX3_sameText_14 rs_RX3_122 mt_X3_textAt [.int a3] [.ref a2, .int u4.1, .int u2.1, .ref a0] (b := a2) (ci := 3) rfl rfl rfl c5 (Nat.le_of_ble_eq_true rfl) (Nat.le_of_ble_eq_true rfl) (by omega) (by omega) (f_X3_textAt_ok X (by omega) (by omega) nn a2 a3 u4.2 e_u6) ?_
  clear e_u6
  show mx_S X F L 110 17 [(0, .ref a0), (1, .int a1), (2, .ref a2), (3, .int a3)] [.int u6.1, .ref a2, .int u4.1, .int u2.1, .ref a0] u6.2 0 0 (some (.int r.1), r.2, 0, 0)
  refine mx_S.pu (pc2 := 18) (lv2 := [(0, .ref a0), (1, .int a1), (2, .ref a2), (3, .int a3)]) (st2 := [.ref a2, .int u6.1, .ref a2, .int u4.1, .int u2.1, .ref a0]) hm dX3_sameText_17 rfl ?_
  refine mx_S.pu (pc2 := 19) (lv2 := [(0, .ref a0), (1, .int a1), (2, .ref a2), (3, .int a3)]) (st2 := [.int a3, .ref a2, .int u6.1, .ref a2, .int u4.1, .int u2.1, .ref a0]) hm dX3_sameText_18 rfl ?_
  replace hf := mx_gd_el hf; obtain ⟨c7, hf⟩ := hf
  replace hf := mx_sv_el hf; obtain ⟨u8, e_u8, hf⟩ := hf
  refine sx_cv hm dX3_sameText_19 rs_RX3_125 mt_X3_textEnd [.int a3] [.int u6.1, .ref a2, .int u4.1, .int u2.1, .ref a0] (b := a2) (ci := 3) rfl rfl rfl c7 (Nat.le_of_ble_eq_true rfl) (Nat.le_of_ble_eq_true rfl) (by omega) (by omega) (f_X3_textEnd_ok X (by omega) (by omega) nn a2 a3 u6.2 e_u8) ?_
  clear e_u8
  show mx_S X F L 110 22 [(0, .ref a0), (1, .int a1), (2, .ref a2), (3, .int a3)] [.int u8.1, .int u6.1, .ref a2, .int u4.1, .int u2.1, .ref a0] u8.2 0 0 (some (.int r.1), r.2, 0, 0)
  replace hf := mx_gd_el hf; obtain ⟨c9, hf⟩ := hf
  replace hf := mx_sv_el hf; obtain ⟨u10, e_u10, hf⟩ := hf
  refine sx_cv hm dX3_sameText_22 rs_RX3_128 mt_X3_sameBytes [.int u2.1, .int u4.1, .ref a2, .int u6.1, .int u8.1] [] (b := a0) (ci := 3) rfl rfl rfl c9 (Nat.le_of_ble_eq_true rfl) (Nat.le_of_ble_eq_true rfl) (by omega) (by omega) (f_X3_sameBytes_ok X (by omega) (by omega) nn a0 u2.1 u4.1 a2 u6.1 u8.1 u8.2 e_u10) ?_
  clear e_u10
  show mx_S X F L 110 25 [(0, .ref a0), (1, .int a1), (2, .ref a2), (3, .int a3)] [.int u10.1] u10.2 0 0 (some (.int r.1), r.2, 0, 0)
  replace hf := mx_gd_el hf; obtain ⟨c11, hf⟩ := hf
  cases hf
  exact sx_ire hm dX3_sameText_25 rfl (xbq_ok c11).1
set_option maxHeartbeats 4000000 in
set_option maxRecDepth 20000 in
theorem j_X7_isNamedAsOther_98_ok (X : Nat × (Nat → Int32)) {F L : Nat} (hF : 5 ≤ F) (hL : 112 ≤ L) (nn : Nat) {kk_44 : Nat → Int32 → Int32 → Int32 → Int32 → mx_H → Option (Int32 × mx_H)} (hk_44 : ∀ (l0 : Nat) (l1 : Int32) (l2 : Int32) (l3 : Int32) (l4 : Int32) (h : mx_H) (r : (Int32 × mx_H)), kk_44 l0 l1 l2 l3 l4 h = some r → mx_S X F L 203 44 [(0, .ref l0), (1, .int l1), (2, .int l2), (3, .int l3), (4, .int l4)] [] h 0 0 (some (.int r.1), r.2, 0, 0)) (l0 : Nat) (l1 : Int32) (l2 : Int32) (l4 : Int32) (h : mx_H) {r : (Int32 × mx_H)} (hf : j_X7_isNamedAsOther_98 nn kk_44 l0 l1 l2 l4 h = some r) : mx_S X F L 203 98 [(0, .ref l0), (1, .int l1), (2, .int l2), (4, .int l4)] [] h 0 0 (some (.int r.1), r.2, 0, 0) := by
  have hm : mx_mt 203 = some (yX7_isNamedAsOther, cX7_isNamedAsOther, 5, (some .boolean)) := mt_X7_isNamedAsOther
  unfold j_X7_isNamedAsOther_98 at hf
  refine sx_ic (v := 0) hm dX7_isNamedAsOther_98 (by decide) ?_
  refine mx_S.pu (pc2 := 100) (lv2 := [(3, .int 0), (0, .ref l0), (1, .int l1), (2, .int l2), (4, .int l4)]) (st2 := []) hm dX7_isNamedAsOther_99 rfl ?_
  replace hf := xl_el hf; obtain ⟨v1, e_v1, hf⟩ := hf
  refine mx_S.pu (pc2 := 103) (lv2 := [(4, .int v1), (3, .int 0), (0, .ref l0), (1, .int l1), (2, .int l2)]) (st2 := []) hm dX7_isNamedAsOther_100 (by rw [← e_v1]; rfl) ?_
  clear e_v1
  refine mx_S.pu (pc2 := 44) (lv2 := [(4, .int v1), (3, .int 0), (0, .ref l0), (1, .int l1), (2, .int l2)]) (st2 := []) hm dX7_isNamedAsOther_103 rfl ?_
  refine mx_S.ext [(0, .ref l0), (1, .int l1), (2, .int l2), (3, .int 0), (4, .int v1)] (mx_sub_pos [2, 3, 4, 1, 0] rfl (show ([4, 3, 0, 1, 2] : List Nat).Nodup by decide)) ?_
  exact hk_44 l0 l1 l2 0 v1 h _ hf
set_option maxHeartbeats 4000000 in
set_option maxRecDepth 20000 in
theorem j_X7_isNamedAsOther_94_ok (X : Nat × (Nat → Int32)) {F L : Nat} (hF : 5 ≤ F) (hL : 112 ≤ L) (nn : Nat) {kk_44 : Nat → Int32 → Int32 → Int32 → Int32 → mx_H → Option (Int32 × mx_H)} (hk_44 : ∀ (l0 : Nat) (l1 : Int32) (l2 : Int32) (l3 : Int32) (l4 : Int32) (h : mx_H) (r : (Int32 × mx_H)), kk_44 l0 l1 l2 l3 l4 h = some r → mx_S X F L 203 44 [(0, .ref l0), (1, .int l1), (2, .int l2), (3, .int l3), (4, .int l4)] [] h 0 0 (some (.int r.1), r.2, 0, 0)) (l0 : Nat) (l1 : Int32) (l2 : Int32) (l4 : Int32) (h : mx_H) {r : (Int32 × mx_H)} (hf : j_X7_isNamedAsOther_94 nn kk_44 l0 l1 l2 l4 h = some r) : mx_S X F L 203 94 [(0, .ref l0), (1, .int l1), (2, .int l2), (4, .int l4)] [] h 0 0 (some (.int r.1), r.2, 0, 0) := by
  have hm : mx_mt 203 = some (yX7_isNamedAsOther, cX7_isNamedAsOther, 5, (some .boolean)) := mt_X7_isNamedAsOther
  unfold j_X7_isNamedAsOther_94 at hf
  refine sx_ic (v := 1) hm dX7_isNamedAsOther_94 (by decide) ?_
  refine mx_S.pu (pc2 := 99) (lv2 := [(0, .ref l0), (1, .int l1), (2, .int l2), (4, .int l4)]) (st2 := [.int 1]) hm dX7_isNamedAsOther_95 rfl ?_
  refine mx_S.pu (pc2 := 100) (lv2 := [(3, .int 1), (0, .ref l0), (1, .int l1), (2, .int l2), (4, .int l4)]) (st2 := []) hm dX7_isNamedAsOther_99 rfl ?_
  replace hf := xl_el hf; obtain ⟨v2, e_v2, hf⟩ := hf
  refine mx_S.pu (pc2 := 103) (lv2 := [(4, .int v2), (3, .int 1), (0, .ref l0), (1, .int l1), (2, .int l2)]) (st2 := []) hm dX7_isNamedAsOther_100 (by rw [← e_v2]; rfl) ?_
  clear e_v2
  refine mx_S.pu (pc2 := 44) (lv2 := [(4, .int v2), (3, .int 1), (0, .ref l0), (1, .int l1), (2, .int l2)]) (st2 := []) hm dX7_isNamedAsOther_103 rfl ?_
  refine mx_S.ext [(0, .ref l0), (1, .int l1), (2, .int l2), (3, .int 1), (4, .int v2)] (mx_sub_pos [2, 3, 4, 1, 0] rfl (show ([4, 3, 0, 1, 2] : List Nat).Nodup by decide)) ?_
  exact hk_44 l0 l1 l2 1 v2 h _ hf
set_option maxHeartbeats 4000000 in
set_option maxRecDepth 20000 in
theorem w_X7_isNamedAsOther_44_ok (X : Nat × (Nat → Int32)) {F L : Nat} (hF : 5 ≤ F) (hL : 112 ≤ L) (nn : Nat) : ∀ (k : Nat) (l0 : Nat) (l1 : Int32) (l2 : Int32) (l3 : Int32) (l4 : Int32) (h : mx_H) (r : (Int32 × mx_H)), w_X7_isNamedAsOther_44 nn k l0 l1 l2 l3 l4 h = some r → mx_S X F L 203 44 [(0, .ref l0), (1, .int l1), (2, .int l2), (3, .int l3), (4, .int l4)] [] h 0 0 (some (.int r.1), r.2, 0, 0) := by
  have hm : mx_mt 203 = some (yX7_isNamedAsOther, cX7_isNamedAsOther, 5, (some .boolean)) := mt_X7_isNamedAsOther
  intro k
  induction k with
  | zero => intro l0 l1 l2 l3 l4 h r hf; cases hf
  | succ k ih =>
    intro l0 l1 l2 l3 l4 h r hf
    unfold w_X7_isNamedAsOther_44 at hf
    refine mx_S.pu (pc2 := 46) (lv2 := [(0, .ref l0), (1, .int l1), (2, .int l2), (3, .int l3), (4, .int l4)]) (st2 := [.int l4]) hm dX7_isNamedAsOther_44 rfl ?_
    refine mx_S.pu (pc2 := 47) (lv2 := [(0, .ref l0), (1, .int l1), (2, .int l2), (3, .int l3), (4, .int l4)]) (st2 := [.ref l0, .int l4]) hm dX7_isNamedAsOther_46 rfl ?_
    replace hf := mx_sv_el hf; obtain ⟨v3, e_v3, hf⟩ := hf
    refine sx_get hm dX7_isNamedAsOther_47 rs_RX7_41 (xgi_el e_v3) ?_
    clear e_v3
    rcases mx_if_el hf with ⟨c19, hf⟩ | ⟨c19, hf⟩
    · refine sb_ic_ge hm dX7_isNamedAsOther_50 (tgt := 106) rfl (fun _ => ?_) (fun z => absurd c19 z)
      refine mx_S.pu (pc2 := 107) (lv2 := [(0, .ref l0), (1, .int l1), (2, .int l2), (3, .int l3), (4, .int l4)]) (st2 := [.int l3]) hm dX7_isNamedAsOther_106 rfl ?_
      replace hf := mx_gd_el hf; obtain ⟨c4, hf⟩ := hf
      cases hf
      exact sx_ire hm dX7_isNamedAsOther_107 rfl (xbq_ok c4).1
    · refine sb_ic_ge hm dX7_isNamedAsOther_50 (tgt := 106) rfl (fun z => absurd z c19) (fun _ => ?_)
      refine mx_S.pu (pc2 := 54) (lv2 := [(0, .ref l0), (1, .int l1), (2, .int l2), (3, .int l3), (4, .int l4)]) (st2 := [.int l3]) hm dX7_isNamedAsOther_53 rfl ?_
      rcases mx_if_el hf with ⟨c18, hf⟩ | ⟨c18, hf⟩
      · refine sb_if_ne hm dX7_isNamedAsOther_54 (tgt := 94) rfl (fun _ => ?_) (fun z => absurd c18 z)
        refine mx_S.ext [(0, .ref l0), (1, .int l1), (2, .int l2), (4, .int l4)] (mx_sub_pos [0, 1, 2, 4] rfl (show ([0, 1, 2, 3, 4] : List Nat).Nodup by decide)) ?_
        exact j_X7_isNamedAsOther_94_ok X hF hL nn ih l0 l1 l2 l4 h hf
      · refine sb_if_ne hm dX7_isNamedAsOther_54 (tgt := 94) rfl (fun z => absurd z c18) (fun _ => ?_)
        refine sx_bi (v := 8) hm dX7_isNamedAsOther_57 (by decide) ?_
        refine mx_S.pu (pc2 := 61) (lv2 := [(0, .ref l0), (1, .int l1), (2, .int l2), (3, .int l3), (4, .int l4)]) (st2 := [.int l4, .int 8]) hm dX7_isNamedAsOther_59 rfl ?_
        replace hf := xl_el hf; obtain ⟨v5, e_v5, hf⟩ := hf
        refine mx_S.pu (pc2 := 62) (lv2 := [(0, .ref l0), (1, .int l1), (2, .int l2), (3, .int l3), (4, .int l4)]) (st2 := [.int v5]) hm dX7_isNamedAsOther_61 (by rw [← e_v5]; rfl) ?_
        clear e_v5
        refine mx_S.pu (pc2 := 63) (lv2 := [(0, .ref l0), (1, .int l1), (2, .int l2), (3, .int l3), (4, .int l4)]) (st2 := [.int l1, .int v5]) hm dX7_isNamedAsOther_62 rfl ?_
        rcases mx_if_el hf with ⟨c17, hf⟩ | ⟨c17, hf⟩
        · refine sb_ic_eq hm dX7_isNamedAsOther_63 (tgt := 98) rfl (fun _ => ?_) (fun z => absurd c17 z)
          refine mx_S.ext [(0, .ref l0), (1, .int l1), (2, .int l2), (4, .int l4)] (mx_sub_pos [0, 1, 2, 4] rfl (show ([0, 1, 2, 3, 4] : List Nat).Nodup by decide)) ?_
          exact j_X7_isNamedAsOther_98_ok X hF hL nn ih l0 l1 l2 l4 h hf
        · refine sb_ic_eq hm dX7_isNamedAsOther_63 (tgt := 98) rfl (fun z => absurd z c17) (fun _ => ?_)
          refine mx_S.pu (pc2 := 67) (lv2 := [(0, .ref l0), (1, .int l1), (2, .int l2), (3, .int l3), (4, .int l4)]) (st2 := [.ref l0]) hm dX7_isNamedAsOther_66 rfl ?_
          replace hf := mx_sv_el hf; obtain ⟨v6, e_v6, hf⟩ := hf
          refine sx_get hm dX7_isNamedAsOther_67 rs_RX7_22 (xgr_el e_v6) ?_
          clear e_v6
          refine mx_S.pu (pc2 := 72) (lv2 := [(0, .ref l0), (1, .int l1), (2, .int l2), (3, .int l3), (4, .int l4)]) (st2 := [.int l4, .ref v6]) hm dX7_isNamedAsOther_70 rfl ?_
          replace hf := mx_sv_el hf; obtain ⟨v7, e_v7, hf⟩ := hf
          refine sx_qld hm dX7_isNamedAsOther_72 e_v7 ?_
          clear e_v7
          refine mx_S.pu (pc2 := 74) (lv2 := [(0, .ref l0), (1, .int l1), (2, .int l2), (3, .int l3), (4, .int l4)]) (st2 := [.ref l0, va_rf v7]) hm dX7_isNamedAsOther_73 rfl ?_
          replace hf := mx_sv_el hf; obtain ⟨v8, e_v8, hf⟩ := hf
          refine sx_get hm dX7_isNamedAsOther_74 rs_RX7_22 (xgr_el e_v8) ?_
          clear e_v8
          refine mx_S.pu (pc2 := 79) (lv2 := [(0, .ref l0), (1, .int l1), (2, .int l2), (3, .int l3), (4, .int l4)]) (st2 := [.int l4, .ref v8, va_rf v7]) hm dX7_isNamedAsOther_77 rfl ?_
          replace hf := mx_sv_el hf; obtain ⟨v9, e_v9, hf⟩ := hf
          refine sx_qld hm dX7_isNamedAsOther_79 e_v9 ?_
          clear e_v9
          replace hf := mx_sv_el hf; obtain ⟨b10, e_b10, hf⟩ := hf
          rw [show va_rf v9 = Value.ref b10 by rw [e_b10]; rfl]
          clear e_b10
          replace hf := mx_sv_el hf; obtain ⟨v11, e_v11, hf⟩ := hf
          refine sx_get hm dX7_isNamedAsOther_80 rs_RX7_56 (xgi_el e_v11) ?_
          clear e_v11
          refine mx_S.pu (pc2 := 84) (lv2 := [(0, .ref l0), (1, .int l1), (2, .int l2), (3, .int l3), (4, .int l4)]) (st2 := [.ref l0, .int v11, va_rf v7]) hm dX7_isNamedAsOther_83 rfl ?_
          replace hf := mx_sv_el hf; obtain ⟨v12, e_v12, hf⟩ := hf
          refine sx_get hm dX7_isNamedAsOther_84 rs_RX7_27 (xgr_el e_v12) ?_
          clear e_v12
          refine mx_S.pu (pc2 := 88) (lv2 := [(0, .ref l0), (1, .int l1), (2, .int l2), (3, .int l3), (4, .int l4)]) (st2 := [.int l2, .ref v12, .int v11, va_rf v7]) hm dX7_isNamedAsOther_87 rfl ?_
          replace hf := mx_sv_el hf; obtain ⟨b13, e_b13, hf⟩ := hf
          rw [show va_rf v7 = Value.ref b13 by rw [e_b13]; rfl]
          clear e_b13
          replace hf := mx_gd_el hf; obtain ⟨c14, hf⟩ := hf
          replace hf := mx_sv_el hf; obtain ⟨u15, e_u15, hf⟩ := hf
          refine sx_cv hm dX7_isNamedAsOther_88 rs_RX7_109 mt_X3_sameText [.int v11, .ref v12, .int l2] [] (b := b13) (ci := 3) rfl rfl rfl c14 (Nat.le_of_ble_eq_true rfl) (Nat.le_of_ble_eq_true rfl) (by omega) (by omega) (f_X3_sameText_ok X (by omega) (by omega) nn b13 v11 v12 l2 h e_u15) ?_
          clear e_u15
          show mx_S X F L 203 91 [(0, .ref l0), (1, .int l1), (2, .int l2), (3, .int l3), (4, .int l4)] [.int u15.1] u15.2 0 0 (some (.int r.1), r.2, 0, 0)
          rcases mx_if_el hf with ⟨c16, hf⟩ | ⟨c16, hf⟩
          · refine sb_if_eq hm dX7_isNamedAsOther_91 (tgt := 98) rfl (fun _ => ?_) (fun z => absurd c16 z)
            refine mx_S.ext [(0, .ref l0), (1, .int l1), (2, .int l2), (4, .int l4)] (mx_sub_pos [0, 1, 2, 4] rfl (show ([0, 1, 2, 3, 4] : List Nat).Nodup by decide)) ?_
            exact j_X7_isNamedAsOther_98_ok X hF hL nn ih l0 l1 l2 l4 u15.2 hf
          · refine sb_if_eq hm dX7_isNamedAsOther_91 (tgt := 98) rfl (fun z => absurd z c16) (fun _ => ?_)
            refine mx_S.ext [(0, .ref l0), (1, .int l1), (2, .int l2), (4, .int l4)] (mx_sub_pos [0, 1, 2, 4] rfl (show ([0, 1, 2, 3, 4] : List Nat).Nodup by decide)) ?_
            exact j_X7_isNamedAsOther_94_ok X hF hL nn ih l0 l1 l2 l4 u15.2 hf
set_option maxHeartbeats 4000000 in
set_option maxRecDepth 20000 in
theorem f_X7_isNamedAsOther_ok (X : Nat × (Nat → Int32)) {F L : Nat} (hF : 5 ≤ F) (hL : 112 ≤ L) (nn : Nat) (a0 : Nat) (a1 : Int32) (h : mx_H) {r : (Int32 × mx_H)} (hf : f_X7_isNamedAsOther nn a0 a1 h = some r) : mx_R X F L 203 [.ref a0, .int a1] h (some (.int r.1), r.2, 0, 0) := by
  have hm : mx_mt 203 = some (yX7_isNamedAsOther, cX7_isNamedAsOther, 5, (some .boolean)) := mt_X7_isNamedAsOther
  show mx_S X F L 203 0 [(0, .ref a0), (1, .int a1)] [] h 0 0 (some (.int r.1), r.2, 0, 0)
  unfold f_X7_isNamedAsOther at hf
  refine mx_S.pu (pc2 := 1) (lv2 := [(0, .ref a0), (1, .int a1)]) (st2 := [.ref a0]) hm dX7_isNamedAsOther_0 rfl ?_
  replace hf := mx_sv_el hf; obtain ⟨v20, e_v20, hf⟩ := hf
  refine sx_get hm dX7_isNamedAsOther_1 rs_RX7_27 (xgr_el e_v20) ?_
  clear e_v20
  replace hf := mx_sv_el hf; obtain ⟨v21, e_v21, hf⟩ := hf
  refine sx_get hm dX7_isNamedAsOther_4 rs_RX7_56 (xgi_el e_v21) ?_
  clear e_v21
  refine mx_S.pu (pc2 := 8) (lv2 := [(2, .int v21), (0, .ref a0), (1, .int a1)]) (st2 := []) hm dX7_isNamedAsOther_7 rfl ?_
  refine mx_S.pu (pc2 := 9) (lv2 := [(2, .int v21), (0, .ref a0), (1, .int a1)]) (st2 := [.ref a0]) hm dX7_isNamedAsOther_8 rfl ?_
  replace hf := mx_sv_el hf; obtain ⟨v22, e_v22, hf⟩ := hf
  refine sx_get hm dX7_isNamedAsOther_9 rs_RX7_27 (xgr_el e_v22) ?_
  clear e_v22
  refine mx_S.pu (pc2 := 13) (lv2 := [(2, .int v21), (0, .ref a0), (1, .int a1)]) (st2 := [.ref a0, .ref v22]) hm dX7_isNamedAsOther_12 rfl ?_
  replace hf := mx_sv_el hf; obtain ⟨v23, e_v23, hf⟩ := hf
  refine sx_get hm dX7_isNamedAsOther_13 rs_RX7_27 (xgr_el e_v23) ?_
  clear e_v23
  refine mx_S.pu (pc2 := 17) (lv2 := [(2, .int v21), (0, .ref a0), (1, .int a1)]) (st2 := [.int v21, .ref v23, .ref v22]) hm dX7_isNamedAsOther_16 rfl ?_
  replace hf := mx_gd_el hf; obtain ⟨c24, hf⟩ := hf
  replace hf := mx_sv_el hf; obtain ⟨u25, e_u25, hf⟩ := hf
  refine sx_cv hm dX7_isNamedAsOther_17 rs_RX7_59 mt_X3_textAt [.int v21] [.ref v22] (b := v23) (ci := 3) rfl rfl rfl c24 (Nat.le_of_ble_eq_true rfl) (Nat.le_of_ble_eq_true rfl) (by omega) (by omega) (f_X3_textAt_ok X (by omega) (by omega) nn v23 v21 h e_u25) ?_
  clear e_u25
  show mx_S X F L 203 20 [(2, .int v21), (0, .ref a0), (1, .int a1)] [.int u25.1, .ref v22] u25.2 0 0 (some (.int r.1), r.2, 0, 0)
  refine mx_S.pu (pc2 := 21) (lv2 := [(2, .int v21), (0, .ref a0), (1, .int a1)]) (st2 := [.ref a0, .int u25.1, .ref v22]) hm dX7_isNamedAsOther_20 rfl ?_
  replace hf := mx_sv_el hf; obtain ⟨v26, e_v26, hf⟩ := hf
  refine sx_get hm dX7_isNamedAsOther_21 rs_RX7_27 (xgr_el e_v26) ?_
  clear e_v26
  refine mx_S.pu (pc2 := 25) (lv2 := [(2, .int v21), (0, .ref a0), (1, .int a1)]) (st2 := [.int v21, .ref v26, .int u25.1, .ref v22]) hm dX7_isNamedAsOther_24 rfl ?_
  replace hf := mx_gd_el hf; obtain ⟨c27, hf⟩ := hf
  replace hf := mx_sv_el hf; obtain ⟨u28, e_u28, hf⟩ := hf
  refine sx_cv hm dX7_isNamedAsOther_25 rs_RX7_63 mt_X3_textEnd [.int v21] [.int u25.1, .ref v22] (b := v26) (ci := 3) rfl rfl rfl c27 (Nat.le_of_ble_eq_true rfl) (Nat.le_of_ble_eq_true rfl) (by omega) (by omega) (f_X3_textEnd_ok X (by omega) (by omega) nn v26 v21 u25.2 e_u28) ?_
  clear e_u28
  show mx_S X F L 203 28 [(2, .int v21), (0, .ref a0), (1, .int a1)] [.int u28.1, .int u25.1, .ref v22] u28.2 0 0 (some (.int r.1), r.2, 0, 0)
  replace hf := mx_gd_el hf; obtain ⟨c29, hf⟩ := hf
  replace hf := mx_sv_el hf; obtain ⟨u30, e_u30, hf⟩ := hf
  refine sx_cv hm dX7_isNamedAsOther_28 rs_RX7_105 mt_X3_builtIn [.int u25.1, .int u28.1] [] (b := v22) (ci := 3) rfl rfl rfl c29 (Nat.le_of_ble_eq_true rfl) (Nat.le_of_ble_eq_true rfl) (by omega) (by omega) (f_X3_builtIn_ok X (by omega) (by omega) nn v22 u25.1 u28.1 u28.2 e_u30) ?_
  clear e_u30
  show mx_S X F L 203 31 [(2, .int v21), (0, .ref a0), (1, .int a1)] [.int u30.1] u30.2 0 0 (some (.int r.1), r.2, 0, 0)
  refine sx_ic (v := (-1)) hm dX7_isNamedAsOther_31 (by decide) ?_
  rcases mx_if_el hf with ⟨c31, hf⟩ | ⟨c31, hf⟩
  · refine sb_ic_eq hm dX7_isNamedAsOther_32 (tgt := 39) rfl (fun _ => ?_) (fun z => absurd c31 z)
    refine sx_ic (v := 0) hm dX7_isNamedAsOther_39 (by decide) ?_
    refine mx_S.pu (pc2 := 41) (lv2 := [(3, .int 0), (2, .int v21), (0, .ref a0), (1, .int a1)]) (st2 := []) hm dX7_isNamedAsOther_40 rfl ?_
    refine sx_ic (v := 0) hm dX7_isNamedAsOther_41 (by decide) ?_
    refine mx_S.pu (pc2 := 44) (lv2 := [(4, .int 0), (3, .int 0), (2, .int v21), (0, .ref a0), (1, .int a1)]) (st2 := []) hm dX7_isNamedAsOther_42 rfl ?_
    refine mx_S.ext [(0, .ref a0), (1, .int a1), (2, .int v21), (3, .int 0), (4, .int 0)] (mx_sub_pos [3, 4, 2, 1, 0] rfl (show ([4, 3, 2, 0, 1] : List Nat).Nodup by decide)) ?_
    exact w_X7_isNamedAsOther_44_ok X hF hL nn nn a0 a1 v21 0 0 u30.2 _ hf
  · refine sb_ic_eq hm dX7_isNamedAsOther_32 (tgt := 39) rfl (fun z => absurd z c31) (fun _ => ?_)
    refine sx_ic (v := 1) hm dX7_isNamedAsOther_35 (by decide) ?_
    refine mx_S.pu (pc2 := 40) (lv2 := [(2, .int v21), (0, .ref a0), (1, .int a1)]) (st2 := [.int 1]) hm dX7_isNamedAsOther_36 rfl ?_
    refine mx_S.pu (pc2 := 41) (lv2 := [(3, .int 1), (2, .int v21), (0, .ref a0), (1, .int a1)]) (st2 := []) hm dX7_isNamedAsOther_40 rfl ?_
    refine sx_ic (v := 0) hm dX7_isNamedAsOther_41 (by decide) ?_
    refine mx_S.pu (pc2 := 44) (lv2 := [(4, .int 0), (3, .int 1), (2, .int v21), (0, .ref a0), (1, .int a1)]) (st2 := []) hm dX7_isNamedAsOther_42 rfl ?_
    refine mx_S.ext [(0, .ref a0), (1, .int a1), (2, .int v21), (3, .int 1), (4, .int 0)] (mx_sub_pos [3, 4, 2, 1, 0] rfl (show ([4, 3, 2, 0, 1] : List Nat).Nodup by decide)) ?_
    exact w_X7_isNamedAsOther_44_ok X hF hL nn nn a0 a1 v21 1 0 u30.2 _ hf
set_option maxHeartbeats 4000000 in
set_option maxRecDepth 20000 in
theorem j_X7_change_72_ok (X : Nat × (Nat → Int32)) {F L : Nat} (hF : 7 ≤ F) (hL : 159 ≤ L) (nn : Nat) (l2 : Int32) (l5 : (Option Nat)) (l6 : Int32) (h : mx_H) {r : (Int32 × mx_H)} (hf : j_X7_change_72 nn l2 l5 l6 h = some r) : mx_S X F L 202 72 [(2, .int l2), (5, va_rf l5), (6, .int l6)] [] h 0 0 (some (.int r.1), r.2, 0, 0) := by
  have hm : mx_mt 202 = some (yX7_change, cX7_change, 7, (some .boolean)) := mt_X7_change
  unfold j_X7_change_72 at hf
  refine sx_ao hm dX7_change_72 rfl ?_
  refine mx_S.pu (pc2 := 75) (lv2 := [(2, .int l2), (5, va_rf l5), (6, .int l6)]) (st2 := [.int l2, va_rf l5]) hm dX7_change_74 rfl ?_
  refine mx_S.pu (pc2 := 77) (lv2 := [(2, .int l2), (5, va_rf l5), (6, .int l6)]) (st2 := [.int l6, .int l2, va_rf l5]) hm dX7_change_75 rfl ?_
  replace hf := mx_sv_el hf; obtain ⟨b1, e_b1, hf⟩ := hf
  rw [show va_rf l5 = Value.ref b1 by rw [e_b1]; rfl]
  clear e_b1
  replace hf := mx_sv_el hf; obtain ⟨h2, e_h2, hf⟩ := hf
  refine sx_bst hm dX7_change_77 e_h2 ?_
  clear e_h2
  refine sx_ic (v := 0) hm dX7_change_78 (by decide) ?_
  cases hf
  exact sx_ire hm dX7_change_79 rfl (by decide)
set_option maxHeartbeats 4000000 in
set_option maxRecDepth 20000 in
theorem f_X7_change_ok (X : Nat × (Nat → Int32)) {F L : Nat} (hF : 7 ≤ F) (hL : 159 ≤ L) (nn : Nat) (a0 : Nat) (a1 : Int32) (a2 : Int32) (a3 : Int32) (h : mx_H) {r : (Int32 × mx_H)} (hf : f_X7_change nn a0 a1 a2 a3 h = some r) : mx_R X F L 202 [.ref a0, .int a1, .int a2, .int a3] h (some (.int r.1), r.2, 0, 0) := by
  have hm : mx_mt 202 = some (yX7_change, cX7_change, 7, (some .boolean)) := mt_X7_change
  show mx_S X F L 202 0 [(0, .ref a0), (1, .int a1), (2, .int a2), (3, .int a3)] [] h 0 0 (some (.int r.1), r.2, 0, 0)
  unfold f_X7_change at hf
  refine mx_S.pu (pc2 := 1) (lv2 := [(0, .ref a0), (1, .int a1), (2, .int a2), (3, .int a3)]) (st2 := [.ref a0]) hm dX7_change_0 rfl ?_
  refine mx_S.pu (pc2 := 2) (lv2 := [(0, .ref a0), (1, .int a1), (2, .int a2), (3, .int a3)]) (st2 := [.int a1, .ref a0]) hm dX7_change_1 rfl ?_
  replace hf := mx_gd_el hf; obtain ⟨c3, hf⟩ := hf
  replace hf := mx_sv_el hf; obtain ⟨u4, e_u4, hf⟩ := hf
  refine sx_cv hm dX7_change_2 rs_RX7_90 mt_X7_imageOf [.int a1] [] (b := a0) (ci := 7) rfl rfl rfl c3 (Nat.le_of_ble_eq_true rfl) (Nat.le_of_ble_eq_true rfl) (by omega) (by omega) (f_X7_imageOf_ok X (by omega) (by omega) nn a0 a1 h e_u4) ?_
  clear e_u4
  show mx_S X F L 202 5 [(0, .ref a0), (1, .int a1), (2, .int a2), (3, .int a3)] [va_rf u4.1] u4.2 0 0 (some (.int r.1), r.2, 0, 0)
  refine sx_so (lv2 := [(4, va_rf u4.1), (0, .ref a0), (1, .int a1), (2, .int a2), (3, .int a3)]) hm dX7_change_5 rfl rfl ?_
  refine sx_ao hm dX7_change_7 rfl ?_
  rcases mx_oc_el hf with ⟨c6, hf⟩ | ⟨b5, c6, hf⟩
  · refine sx_ifnull_n hm dX7_change_9 c6 (tgt := 25) rfl ?_
    refine sx_ic (v := 0) hm dX7_change_25 (by decide) ?_
    cases hf
    exact sx_ire hm dX7_change_26 rfl (by decide)
  · refine sx_ifnull_s hm dX7_change_9 c6 (tgt := 25) rfl ?_
    rw [show va_rf u4.1 = Value.ref b5 by rw [c6]; rfl]
    refine mx_S.pu (pc2 := 13) (lv2 := [(4, .ref b5), (0, .ref a0), (1, .int a1), (2, .int a2), (3, .int a3)]) (st2 := [.int a2]) hm dX7_change_12 rfl ?_
    rcases mx_if_el hf with ⟨c28, hf⟩ | ⟨c28, hf⟩
    · refine sb_if_lt hm dX7_change_13 (tgt := 25) rfl (fun _ => ?_) (fun z => absurd c28 z)
      refine sx_ic (v := 0) hm dX7_change_25 (by decide) ?_
      cases hf
      exact sx_ire hm dX7_change_26 rfl (by decide)
    · refine sb_if_lt hm dX7_change_13 (tgt := 25) rfl (fun z => absurd z c28) (fun _ => ?_)
      refine mx_S.pu (pc2 := 17) (lv2 := [(4, .ref b5), (0, .ref a0), (1, .int a1), (2, .int a2), (3, .int a3)]) (st2 := [.int a2]) hm dX7_change_16 rfl ?_
      refine mx_S.pu (pc2 := 19) (lv2 := [(4, .ref b5), (0, .ref a0), (1, .int a1), (2, .int a2), (3, .int a3)]) (st2 := [.ref b5, .int a2]) hm dX7_change_17 rfl ?_
      replace hf := mx_sv_el hf; obtain ⟨v7, e_v7, hf⟩ := hf
      refine sx_get hm dX7_change_19 rs_RX7_94 (xgi_el e_v7) ?_
      clear e_v7
      rcases mx_if_el hf with ⟨c27, hf⟩ | ⟨c27, hf⟩
      · refine sb_ic_lt hm dX7_change_22 (tgt := 27) rfl (fun _ => ?_) (fun z => absurd c27 z)
        refine mx_S.pu (pc2 := 29) (lv2 := [(4, .ref b5), (0, .ref a0), (1, .int a1), (2, .int a2), (3, .int a3)]) (st2 := [.ref b5]) hm dX7_change_27 rfl ?_
        replace hf := mx_gd_el hf; obtain ⟨c8, hf⟩ := hf
        replace hf := mx_sv_el hf; obtain ⟨u9, e_u9, hf⟩ := hf
        refine sx_cv hm dX7_change_29 rs_RX7_97 mt_X3_ownBytes [] [] (b := b5) (ci := 3) rfl rfl rfl c8 (Nat.le_of_ble_eq_true rfl) (Nat.le_of_ble_eq_true rfl) (by omega) (by omega) (f_X3_ownBytes_ok X (by omega) (by omega) nn b5 u4.2 e_u9) ?_
        clear e_u9
        show mx_S X F L 202 32 [(4, .ref b5), (0, .ref a0), (1, .int a1), (2, .int a2), (3, .int a3)] [va_rf u9.1] u9.2 0 0 (some (.int r.1), r.2, 0, 0)
        refine sx_so (lv2 := [(5, va_rf u9.1), (4, .ref b5), (0, .ref a0), (1, .int a1), (2, .int a2), (3, .int a3)]) hm dX7_change_32 rfl rfl ?_
        refine sx_ao hm dX7_change_34 rfl ?_
        refine mx_S.pu (pc2 := 37) (lv2 := [(5, va_rf u9.1), (4, .ref b5), (0, .ref a0), (1, .int a1), (2, .int a2), (3, .int a3)]) (st2 := [.int a2, va_rf u9.1]) hm dX7_change_36 rfl ?_
        replace hf := mx_sv_el hf; obtain ⟨b10, e_b10, hf⟩ := hf
        rw [show va_rf u9.1 = Value.ref b10 by rw [e_b10]; rfl]
        clear e_b10
        replace hf := mx_sv_el hf; obtain ⟨v11, e_v11, hf⟩ := hf
        refine sx_bld hm dX7_change_37 e_v11 ?_
        clear e_v11
        refine mx_S.pu (pc2 := 40) (lv2 := [(6, .int v11), (5, .ref b10), (4, .ref b5), (0, .ref a0), (1, .int a1), (2, .int a2), (3, .int a3)]) (st2 := []) hm dX7_change_38 rfl ?_
        refine mx_S.pu (pc2 := 42) (lv2 := [(6, .int v11), (5, .ref b10), (4, .ref b5), (0, .ref a0), (1, .int a1), (2, .int a2), (3, .int a3)]) (st2 := [.ref b10]) hm dX7_change_40 rfl ?_
        refine mx_S.pu (pc2 := 43) (lv2 := [(6, .int v11), (5, .ref b10), (4, .ref b5), (0, .ref a0), (1, .int a1), (2, .int a2), (3, .int a3)]) (st2 := [.int a2, .ref b10]) hm dX7_change_42 rfl ?_
        refine mx_S.pu (pc2 := 44) (lv2 := [(6, .int v11), (5, .ref b10), (4, .ref b5), (0, .ref a0), (1, .int a1), (2, .int a2), (3, .int a3)]) (st2 := [.int a3, .int a2, .ref b10]) hm dX7_change_43 rfl ?_
        replace hf := xl_el hf; obtain ⟨v12, e_v12, hf⟩ := hf
        refine mx_S.pu (pc2 := 45) (lv2 := [(6, .int v11), (5, .ref b10), (4, .ref b5), (0, .ref a0), (1, .int a1), (2, .int a2), (3, .int a3)]) (st2 := [.int v12, .int a2, .ref b10]) hm dX7_change_44 (by rw [← e_v12]; rfl) ?_
        clear e_v12
        replace hf := mx_sv_el hf; obtain ⟨h13, e_h13, hf⟩ := hf
        refine sx_bst hm dX7_change_45 e_h13 ?_
        clear e_h13
        refine mx_S.pu (pc2 := 47) (lv2 := [(6, .int v11), (5, .ref b10), (4, .ref b5), (0, .ref a0), (1, .int a1), (2, .int a2), (3, .int a3)]) (st2 := [.ref a0]) hm dX7_change_46 rfl ?_
        replace hf := mx_sv_el hf; obtain ⟨v14, e_v14, hf⟩ := hf
        refine sx_get hm dX7_change_47 rs_RX7_27 (xgr_el e_v14) ?_
        clear e_v14
        refine mx_S.pu (pc2 := 52) (lv2 := [(6, .int v11), (5, .ref b10), (4, .ref b5), (0, .ref a0), (1, .int a1), (2, .int a2), (3, .int a3)]) (st2 := [.ref b10, .ref v14]) hm dX7_change_50 rfl ?_
        refine mx_S.pu (pc2 := 54) (lv2 := [(6, .int v11), (5, .ref b10), (4, .ref b5), (0, .ref a0), (1, .int a1), (2, .int a2), (3, .int a3)]) (st2 := [.ref b5, .ref b10, .ref v14]) hm dX7_change_52 rfl ?_
        replace hf := mx_sv_el hf; obtain ⟨v15, e_v15, hf⟩ := hf
        refine sx_get hm dX7_change_54 rs_RX7_94 (xgi_el e_v15) ?_
        clear e_v15
        replace hf := mx_gd_el hf; obtain ⟨c16, hf⟩ := hf
        replace hf := mx_sv_el hf; obtain ⟨u17, e_u17, hf⟩ := hf
        refine sx_cv hm dX7_change_57 rs_RX7_52 mt_X3_read [.ref b10, .int v15] [] (b := v14) (ci := 3) rfl rfl rfl c16 (Nat.le_of_ble_eq_true rfl) (Nat.le_of_ble_eq_true rfl) (by omega) (by omega) (f_X3_read_ok X (by omega) (by omega) nn v14 b10 v15 h13 e_u17) ?_
        clear e_u17
        show mx_S X F L 202 60 [(6, .int v11), (5, .ref b10), (4, .ref b5), (0, .ref a0), (1, .int a1), (2, .int a2), (3, .int a3)] [.int u17.1] u17.2 0 0 (some (.int r.1), r.2, 0, 0)
        refine sx_ic (v := (-1)) hm dX7_change_60 (by decide) ?_
        rcases mx_if_el hf with ⟨c26, hf⟩ | ⟨c26, hf⟩
        · refine sb_ic_ne hm dX7_change_61 (tgt := 72) rfl (fun _ => ?_) (fun z => absurd c26 z)
          refine mx_S.ext [(2, .int a2), (5, va_rf (some b10)), (6, .int v11)] (mx_sub_pos [5, 1, 0] rfl (show ([6, 5, 4, 0, 1, 2, 3] : List Nat).Nodup by decide)) ?_
          exact j_X7_change_72_ok X hF hL nn a2 (some b10) v11 u17.2 hf
        · refine sb_ic_ne hm dX7_change_61 (tgt := 72) rfl (fun z => absurd z c26) (fun _ => ?_)
          refine mx_S.pu (pc2 := 65) (lv2 := [(6, .int v11), (5, .ref b10), (4, .ref b5), (0, .ref a0), (1, .int a1), (2, .int a2), (3, .int a3)]) (st2 := [.ref a0]) hm dX7_change_64 rfl ?_
          refine mx_S.pu (pc2 := 66) (lv2 := [(6, .int v11), (5, .ref b10), (4, .ref b5), (0, .ref a0), (1, .int a1), (2, .int a2), (3, .int a3)]) (st2 := [.int a1, .ref a0]) hm dX7_change_65 rfl ?_
          replace hf := mx_gd_el hf; obtain ⟨c18, hf⟩ := hf
          replace hf := mx_sv_el hf; obtain ⟨u19, e_u19, hf⟩ := hf
          refine sx_cv hm dX7_change_66 rs_RX7_101 mt_X7_isNamedAsOther [.int a1] [] (b := a0) (ci := 7) rfl rfl rfl c18 (Nat.le_of_ble_eq_true rfl) (Nat.le_of_ble_eq_true rfl) (by omega) (by omega) (f_X7_isNamedAsOther_ok X (by omega) (by omega) nn a0 a1 u17.2 e_u19) ?_
          clear e_u19
          show mx_S X F L 202 69 [(6, .int v11), (5, .ref b10), (4, .ref b5), (0, .ref a0), (1, .int a1), (2, .int a2), (3, .int a3)] [.int u19.1] u19.2 0 0 (some (.int r.1), r.2, 0, 0)
          rcases mx_if_el hf with ⟨c25, hf⟩ | ⟨c25, hf⟩
          · refine sb_if_eq hm dX7_change_69 (tgt := 80) rfl (fun _ => ?_) (fun z => absurd c25 z)
            refine mx_S.pu (pc2 := 81) (lv2 := [(6, .int v11), (5, .ref b10), (4, .ref b5), (0, .ref a0), (1, .int a1), (2, .int a2), (3, .int a3)]) (st2 := [.ref a0]) hm dX7_change_80 rfl ?_
            refine mx_S.pu (pc2 := 82) (lv2 := [(6, .int v11), (5, .ref b10), (4, .ref b5), (0, .ref a0), (1, .int a1), (2, .int a2), (3, .int a3)]) (st2 := [.int a1, .ref a0]) hm dX7_change_81 rfl ?_
            refine sx_bi (v := 8) hm dX7_change_82 (by decide) ?_
            replace hf := xl_el hf; obtain ⟨v20, e_v20, hf⟩ := hf
            refine mx_S.pu (pc2 := 85) (lv2 := [(6, .int v11), (5, .ref b10), (4, .ref b5), (0, .ref a0), (1, .int a1), (2, .int a2), (3, .int a3)]) (st2 := [.int v20, .ref a0]) hm dX7_change_84 (by rw [← e_v20]; rfl) ?_
            clear e_v20
            replace hf := mx_gd_el hf; obtain ⟨c21, hf⟩ := hf
            replace hf := mx_sv_el hf; obtain ⟨u22, e_u22, hf⟩ := hf
            refine sx_cv hm dX7_change_85 rs_RX7_73 mt_X7_swapSpare [.int v20] [] (b := a0) (ci := 7) rfl rfl rfl c21 (Nat.le_of_ble_eq_true rfl) (Nat.le_of_ble_eq_true rfl) (by omega) (by omega) (f_X7_swapSpare_ok X (by omega) (by omega) nn a0 v20 u19.2 e_u22) ?_
            clear e_u22
            show mx_S X F L 202 88 [(6, .int v11), (5, .ref b10), (4, .ref b5), (0, .ref a0), (1, .int a1), (2, .int a2), (3, .int a3)] [] u22 0 0 (some (.int r.1), r.2, 0, 0)
            refine mx_S.pu (pc2 := 89) (lv2 := [(6, .int v11), (5, .ref b10), (4, .ref b5), (0, .ref a0), (1, .int a1), (2, .int a2), (3, .int a3)]) (st2 := [.ref a0]) hm dX7_change_88 rfl ?_
            replace hf := mx_gd_el hf; obtain ⟨c23, hf⟩ := hf
            replace hf := mx_sv_el hf; obtain ⟨u24, e_u24, hf⟩ := hf
            refine sx_cv hm dX7_change_89 rs_RX7_77 mt_X7_relate [] [] (b := a0) (ci := 7) rfl rfl rfl c23 (Nat.le_of_ble_eq_true rfl) (Nat.le_of_ble_eq_true rfl) (by omega) (by omega) (f_X7_relate_ok X (by omega) (by omega) nn a0 u22 e_u24) ?_
            clear e_u24
            show mx_S X F L 202 92 [(6, .int v11), (5, .ref b10), (4, .ref b5), (0, .ref a0), (1, .int a1), (2, .int a2), (3, .int a3)] [] u24 0 0 (some (.int r.1), r.2, 0, 0)
            refine sx_ic (v := 1) hm dX7_change_92 (by decide) ?_
            cases hf
            exact sx_ire hm dX7_change_93 rfl (by decide)
          · refine sb_if_eq hm dX7_change_69 (tgt := 80) rfl (fun z => absurd z c25) (fun _ => ?_)
            refine mx_S.ext [(2, .int a2), (5, va_rf (some b10)), (6, .int v11)] (mx_sub_pos [5, 1, 0] rfl (show ([6, 5, 4, 0, 1, 2, 3] : List Nat).Nodup by decide)) ?_
            exact j_X7_change_72_ok X hF hL nn a2 (some b10) v11 u19.2 hf
      · refine sb_ic_lt hm dX7_change_22 (tgt := 27) rfl (fun z => absurd z c27) (fun _ => ?_)
        refine sx_ic (v := 0) hm dX7_change_25 (by decide) ?_
        cases hf
        exact sx_ire hm dX7_change_26 rfl (by decide)
set_option maxHeartbeats 4000000 in
set_option maxRecDepth 20000 in
theorem f_X12_patch_ok (X : Nat × (Nat → Int32)) {F L : Nat} (hF : 8 ≤ F) (hL : 185 ≤ L) (nn : Nat) (a0 : Nat) (a1 : Int32) (a2 : Int32) (a3 : Int32) (h : mx_H) {r : (Int32 × mx_H)} (hf : f_X12_patch nn a0 a1 a2 a3 h = some r) : mx_R X F L 370 [.ref a0, .int a1, .int a2, .int a3] h (some (.int r.1), r.2, 0, 0) := by
  have hm : mx_mt 370 = some (yX12_patch, cX12_patch, 5, (some .boolean)) := mt_X12_patch
  show mx_S X F L 370 0 [(0, .ref a0), (1, .int a1), (2, .int a2), (3, .int a3)] [] h 0 0 (some (.int r.1), r.2, 0, 0)
  unfold f_X12_patch at hf
  refine mx_S.pu (pc2 := 1) (lv2 := [(0, .ref a0), (1, .int a1), (2, .int a2), (3, .int a3)]) (st2 := [.ref a0]) hm dX12_patch_0 rfl ?_
  replace hf := mx_sv_el hf; obtain ⟨v1, e_v1, hf⟩ := hf
  refine sx_get hm dX12_patch_1 rs_RX12_53 (xgr_el e_v1) ?_
  clear e_v1
  refine mx_S.pu (pc2 := 5) (lv2 := [(0, .ref a0), (1, .int a1), (2, .int a2), (3, .int a3)]) (st2 := [.int a1, .ref v1]) hm dX12_patch_4 rfl ?_
  refine mx_S.pu (pc2 := 6) (lv2 := [(0, .ref a0), (1, .int a1), (2, .int a2), (3, .int a3)]) (st2 := [.int a2, .int a1, .ref v1]) hm dX12_patch_5 rfl ?_
  refine mx_S.pu (pc2 := 7) (lv2 := [(0, .ref a0), (1, .int a1), (2, .int a2), (3, .int a3)]) (st2 := [.int a3, .int a2, .int a1, .ref v1]) hm dX12_patch_6 rfl ?_
  replace hf := mx_gd_el hf; obtain ⟨c2, hf⟩ := hf
  replace hf := mx_sv_el hf; obtain ⟨u3, e_u3, hf⟩ := hf
  refine sx_cv hm dX12_patch_7 rs_RX12_154 mt_X7_change [.int a1, .int a2, .int a3] [] (b := v1) (ci := 7) rfl rfl rfl c2 (Nat.le_of_ble_eq_true rfl) (Nat.le_of_ble_eq_true rfl) (by omega) (by omega) (f_X7_change_ok X (by omega) (by omega) nn v1 a1 a2 a3 h e_u3) ?_
  clear e_u3
  show mx_S X F L 370 10 [(0, .ref a0), (1, .int a1), (2, .int a2), (3, .int a3)] [.int u3.1] u3.2 0 0 (some (.int r.1), r.2, 0, 0)
  refine mx_S.pu (pc2 := 12) (lv2 := [(4, .int u3.1), (0, .ref a0), (1, .int a1), (2, .int a2), (3, .int a3)]) (st2 := []) hm dX12_patch_10 rfl ?_
  refine mx_S.pu (pc2 := 14) (lv2 := [(4, .int u3.1), (0, .ref a0), (1, .int a1), (2, .int a2), (3, .int a3)]) (st2 := [.int u3.1]) hm dX12_patch_12 rfl ?_
  rcases mx_if_el hf with ⟨c9, hf⟩ | ⟨c9, hf⟩
  · refine sb_if_eq hm dX12_patch_14 (tgt := 24) rfl (fun _ => ?_) (fun z => absurd c9 z)
    refine mx_S.pu (pc2 := 26) (lv2 := [(4, .int u3.1), (0, .ref a0), (1, .int a1), (2, .int a2), (3, .int a3)]) (st2 := [.int u3.1]) hm dX12_patch_24 rfl ?_
    replace hf := mx_gd_el hf; obtain ⟨c4, hf⟩ := hf
    cases hf
    exact sx_ire hm dX12_patch_26 rfl (xbq_ok c4).1
  · refine sb_if_eq hm dX12_patch_14 (tgt := 24) rfl (fun z => absurd z c9) (fun _ => ?_)
    refine mx_S.pu (pc2 := 18) (lv2 := [(4, .int u3.1), (0, .ref a0), (1, .int a1), (2, .int a2), (3, .int a3)]) (st2 := [.ref a0]) hm dX12_patch_17 rfl ?_
    replace hf := mx_sv_el hf; obtain ⟨v5, e_v5, hf⟩ := hf
    refine sx_get hm dX12_patch_18 rs_RX12_69 (xgr_el e_v5) ?_
    clear e_v5
    replace hf := mx_gd_el hf; obtain ⟨c6, hf⟩ := hf
    replace hf := mx_sv_el hf; obtain ⟨u7, e_u7, hf⟩ := hf
    refine sx_cv hm dX12_patch_21 rs_RX12_153 mt_X5_forget [] [] (b := v5) (ci := 5) rfl rfl rfl c6 (Nat.le_of_ble_eq_true rfl) (Nat.le_of_ble_eq_true rfl) (by omega) (by omega) (f_X5_forget_ok X (by omega) (by omega) nn v5 u3.2 e_u7) ?_
    clear e_u7
    show mx_S X F L 370 24 [(4, .int u3.1), (0, .ref a0), (1, .int a1), (2, .int a2), (3, .int a3)] [] u7 0 0 (some (.int r.1), r.2, 0, 0)
    refine mx_S.pu (pc2 := 26) (lv2 := [(4, .int u3.1), (0, .ref a0), (1, .int a1), (2, .int a2), (3, .int a3)]) (st2 := [.int u3.1]) hm dX12_patch_24 rfl ?_
    replace hf := mx_gd_el hf; obtain ⟨c8, hf⟩ := hf
    cases hf
    exact sx_ire hm dX12_patch_26 rfl (xbq_ok c8).1
set_option maxHeartbeats 4000000 in
set_option maxRecDepth 20000 in
theorem f_J7_rangeCheck_23922_ok (X : Nat × (Nat → Int32)) {F L : Nat} (hF : 0 ≤ F) (hL : 0 ≤ L) (nn : Nat) (a0 : Int32) (a1 : Int32) (a2 : Int32) (h : mx_H) {r : mx_H} (hf : f_J7_rangeCheck_23922 nn a0 a1 a2 h = some r) : mx_R X F L 599 [.int a0, .int a1, .int a2] h (none, r, 0, 0) := by
  have hm : mx_mt 599 = some (yJ7_rangeCheck_23922, cJ7_rangeCheck_23922, 3, none) := mt_J7_rangeCheck_23922
  show mx_S X F L 599 0 [(0, .int a0), (1, .int a1), (2, .int a2)] [] h 0 0 (none, r, 0, 0)
  unfold f_J7_rangeCheck_23922 at hf
  refine mx_S.pu (pc2 := 1) (lv2 := [(0, .int a0), (1, .int a1), (2, .int a2)]) (st2 := [.int a1]) hm dJ7_rangeCheck_23922_0 rfl ?_
  refine mx_S.pu (pc2 := 2) (lv2 := [(0, .int a0), (1, .int a1), (2, .int a2)]) (st2 := [.int a2, .int a1]) hm dJ7_rangeCheck_23922_1 rfl ?_
  rcases mx_if_el hf with ⟨c3, hf⟩ | ⟨c3, hf⟩
  · refine sb_ic_le hm dJ7_rangeCheck_23922_2 (tgt := 46) rfl (fun _ => ?_) (fun z => absurd c3 z)
    refine mx_S.pu (pc2 := 47) (lv2 := [(0, .int a0), (1, .int a1), (2, .int a2)]) (st2 := [.int a1]) hm dJ7_rangeCheck_23922_46 rfl ?_
    rcases mx_if_el hf with ⟨c2, hf⟩ | ⟨c2, hf⟩
    · refine sb_if_ge hm dJ7_rangeCheck_23922_47 (tgt := 59) rfl (fun _ => ?_) (fun z => absurd c2 z)
      refine mx_S.pu (pc2 := 60) (lv2 := [(0, .int a0), (1, .int a1), (2, .int a2)]) (st2 := [.int a2]) hm dJ7_rangeCheck_23922_59 rfl ?_
      refine mx_S.pu (pc2 := 61) (lv2 := [(0, .int a0), (1, .int a1), (2, .int a2)]) (st2 := [.int a0, .int a2]) hm dJ7_rangeCheck_23922_60 rfl ?_
      rcases mx_if_el hf with ⟨c1, hf⟩ | ⟨c1, hf⟩
      · refine sb_ic_le hm dJ7_rangeCheck_23922_61 (tgt := 73) rfl (fun _ => ?_) (fun z => absurd c1 z)
        cases hf
        exact sx_ret hm dJ7_rangeCheck_23922_73 rfl
      · refine sb_ic_le hm dJ7_rangeCheck_23922_61 (tgt := 73) rfl (fun z => absurd z c1) (fun _ => ?_)
        cases hf
    · refine sb_if_ge hm dJ7_rangeCheck_23922_47 (tgt := 59) rfl (fun z => absurd z c2) (fun _ => ?_)
      cases hf
  · refine sb_ic_le hm dJ7_rangeCheck_23922_2 (tgt := 46) rfl (fun z => absurd z c3) (fun _ => ?_)
    cases hf
set_option maxHeartbeats 4000000 in
set_option maxRecDepth 20000 in
theorem w_J7_fill_fda19_10_ok (X : Nat × (Nat → Int32)) {F L : Nat} (hF : 1 ≤ F) (hL : 22 ≤ L) (nn : Nat) : ∀ (k : Nat) (l0 : Nat) (l2 : Int32) (l3 : Int32) (l4 : Int32) (h : mx_H) (r : mx_H), w_J7_fill_fda19_10 nn k l0 l2 l3 l4 h = some r → mx_S X F L 601 10 [(0, .ref l0), (2, .int l2), (3, .int l3), (4, .int l4)] [] h 0 0 (none, r, 0, 0) := by
  have hm : mx_mt 601 = some (yJ7_fill_fda19, cJ7_fill_fda19, 5, none) := mt_J7_fill_fda19
  intro k
  induction k with
  | zero => intro l0 l2 l3 l4 h r hf; cases hf
  | succ k ih =>
    intro l0 l2 l3 l4 h r hf
    unfold w_J7_fill_fda19_10 at hf
    refine mx_S.pu (pc2 := 12) (lv2 := [(0, .ref l0), (2, .int l2), (3, .int l3), (4, .int l4)]) (st2 := [.int l4]) hm dJ7_fill_fda19_10 rfl ?_
    refine mx_S.pu (pc2 := 13) (lv2 := [(0, .ref l0), (2, .int l2), (3, .int l3), (4, .int l4)]) (st2 := [.int l2, .int l4]) hm dJ7_fill_fda19_12 rfl ?_
    rcases mx_if_el hf with ⟨c3, hf⟩ | ⟨c3, hf⟩
    · refine sb_ic_ge hm dJ7_fill_fda19_13 (tgt := 27) rfl (fun _ => ?_) (fun z => absurd c3 z)
      cases hf
      exact sx_ret hm dJ7_fill_fda19_27 rfl
    · refine sb_ic_ge hm dJ7_fill_fda19_13 (tgt := 27) rfl (fun z => absurd z c3) (fun _ => ?_)
      refine mx_S.pu (pc2 := 17) (lv2 := [(0, .ref l0), (2, .int l2), (3, .int l3), (4, .int l4)]) (st2 := [.ref l0]) hm dJ7_fill_fda19_16 rfl ?_
      refine mx_S.pu (pc2 := 19) (lv2 := [(0, .ref l0), (2, .int l2), (3, .int l3), (4, .int l4)]) (st2 := [.int l4, .ref l0]) hm dJ7_fill_fda19_17 rfl ?_
      refine mx_S.pu (pc2 := 20) (lv2 := [(0, .ref l0), (2, .int l2), (3, .int l3), (4, .int l4)]) (st2 := [.int l3, .int l4, .ref l0]) hm dJ7_fill_fda19_19 rfl ?_
      replace hf := mx_sv_el hf; obtain ⟨h1, e_h1, hf⟩ := hf
      refine sx_ast hm dJ7_fill_fda19_20 e_h1 ?_
      clear e_h1
      replace hf := xl_el hf; obtain ⟨v2, e_v2, hf⟩ := hf
      refine mx_S.pu (pc2 := 24) (lv2 := [(4, .int v2), (0, .ref l0), (2, .int l2), (3, .int l3)]) (st2 := []) hm dJ7_fill_fda19_21 (by rw [← e_v2]; rfl) ?_
      clear e_v2
      refine mx_S.pu (pc2 := 10) (lv2 := [(4, .int v2), (0, .ref l0), (2, .int l2), (3, .int l3)]) (st2 := []) hm dJ7_fill_fda19_24 rfl ?_
      refine mx_S.ext [(0, .ref l0), (2, .int l2), (3, .int l3), (4, .int v2)] (mx_sub_pos [1, 2, 3, 0] rfl (show ([4, 0, 2, 3] : List Nat).Nodup by decide)) ?_
      exact ih l0 l2 l3 v2 h1 _ hf
set_option maxHeartbeats 4000000 in
set_option maxRecDepth 20000 in
theorem f_J7_fill_fda19_ok (X : Nat × (Nat → Int32)) {F L : Nat} (hF : 1 ≤ F) (hL : 22 ≤ L) (nn : Nat) (a0 : Nat) (a1 : Int32) (a2 : Int32) (a3 : Int32) (h : mx_H) {r : mx_H} (hf : f_J7_fill_fda19 nn a0 a1 a2 a3 h = some r) : mx_R X F L 601 [.ref a0, .int a1, .int a2, .int a3] h (none, r, 0, 0) := by
  have hm : mx_mt 601 = some (yJ7_fill_fda19, cJ7_fill_fda19, 5, none) := mt_J7_fill_fda19
  show mx_S X F L 601 0 [(0, .ref a0), (1, .int a1), (2, .int a2), (3, .int a3)] [] h 0 0 (none, r, 0, 0)
  unfold f_J7_fill_fda19 at hf
  refine mx_S.pu (pc2 := 1) (lv2 := [(0, .ref a0), (1, .int a1), (2, .int a2), (3, .int a3)]) (st2 := [.ref a0]) hm dJ7_fill_fda19_0 rfl ?_
  replace hf := mx_sv_el hf; obtain ⟨v4, e_v4, hf⟩ := hf
  refine sx_len hm dJ7_fill_fda19_1 e_v4 ?_
  clear e_v4
  refine mx_S.pu (pc2 := 3) (lv2 := [(0, .ref a0), (1, .int a1), (2, .int a2), (3, .int a3)]) (st2 := [.int a1, .int v4]) hm dJ7_fill_fda19_2 rfl ?_
  refine mx_S.pu (pc2 := 4) (lv2 := [(0, .ref a0), (1, .int a1), (2, .int a2), (3, .int a3)]) (st2 := [.int a2, .int a1, .int v4]) hm dJ7_fill_fda19_3 rfl ?_
  replace hf := mx_sv_el hf; obtain ⟨u5, e_u5, hf⟩ := hf
  refine sx_cs hm dJ7_fill_fda19_4 rs_RJ7_13 mt_J7_rangeCheck_23922 [.int v4, .int a1, .int a2] [] rfl rfl (Nat.le_of_ble_eq_true rfl) (Nat.le_of_ble_eq_true rfl) (by omega) (by omega) (f_J7_rangeCheck_23922_ok X (by omega) (by omega) nn v4 a1 a2 h e_u5) ?_
  clear e_u5
  show mx_S X F L 601 7 [(0, .ref a0), (1, .int a1), (2, .int a2), (3, .int a3)] [] u5 0 0 (none, r, 0, 0)
  refine mx_S.pu (pc2 := 8) (lv2 := [(0, .ref a0), (1, .int a1), (2, .int a2), (3, .int a3)]) (st2 := [.int a1]) hm dJ7_fill_fda19_7 rfl ?_
  refine mx_S.pu (pc2 := 10) (lv2 := [(4, .int a1), (0, .ref a0), (1, .int a1), (2, .int a2), (3, .int a3)]) (st2 := []) hm dJ7_fill_fda19_8 rfl ?_
  refine mx_S.ext [(0, .ref a0), (2, .int a2), (3, .int a3), (4, .int a1)] (mx_sub_pos [1, 3, 4, 0] rfl (show ([4, 0, 1, 2, 3] : List Nat).Nodup by decide)) ?_
  exact w_J7_fill_fda19_10_ok X hF hL nn nn a0 a2 a3 a1 u5 _ hf
set_option maxHeartbeats 4000000 in
set_option maxRecDepth 20000 in
theorem j_X5_make_26_ok (X : Nat × (Nat → Int32)) {F L : Nat} (hF : 2 ≤ F) (hL : 46 ≤ L) (nn : Nat) (l0 : Nat) (h : mx_H) {r : (Int32 × mx_H)} (hf : j_X5_make_26 nn l0 h = some r) : mx_S X F L 173 26 [(0, .ref l0)] [] h 0 0 (some (.int r.1), r.2, 0, 0) := by
  have hm : mx_mt 173 = some (yX5_make, cX5_make, 3, (some .int)) := mt_X5_make
  unfold j_X5_make_26 at hf
  refine mx_S.pu (pc2 := 27) (lv2 := [(0, .ref l0)]) (st2 := [.ref l0]) hm dX5_make_26 rfl ?_
  refine sx_ic (v := 4) hm dX5_make_27 (by decide) ?_
  replace hf := mx_sv_el hf; obtain ⟨h1, e_h1, hf⟩ := hf
  refine sx_put hm dX5_make_28 rs_RX5_54 ft_5_1 ⟨rfl, rfl⟩ (fun z => by cases z) e_h1 ?_
  clear e_h1
  refine sx_ic (v := 0) hm dX5_make_31 (by decide) ?_
  cases hf
  exact sx_ire hm dX5_make_32 rfl rfl
set_option maxHeartbeats 4000000 in
set_option maxRecDepth 20000 in
theorem f_X5_make_ok (X : Nat × (Nat → Int32)) {F L : Nat} (hF : 2 ≤ F) (hL : 46 ≤ L) (nn : Nat) (a0 : Nat) (a1 : Int32) (a2 : Int32) (h : mx_H) {r : (Int32 × mx_H)} (hf : f_X5_make nn a0 a1 a2 h = some r) : mx_R X F L 173 [.ref a0, .int a1, .int a2] h (some (.int r.1), r.2, 0, 0) := by
  have hm : mx_mt 173 = some (yX5_make, cX5_make, 3, (some .int)) := mt_X5_make
  show mx_S X F L 173 0 [(0, .ref a0), (1, .int a1), (2, .int a2)] [] h 0 0 (some (.int r.1), r.2, 0, 0)
  unfold f_X5_make at hf
  refine mx_S.pu (pc2 := 1) (lv2 := [(0, .ref a0), (1, .int a1), (2, .int a2)]) (st2 := [.ref a0]) hm dX5_make_0 rfl ?_
  replace hf := mx_sv_el hf; obtain ⟨v2, e_v2, hf⟩ := hf
  refine sx_get hm dX5_make_1 rs_RX5_60 (xgi_el e_v2) ?_
  clear e_v2
  refine sx_si (v := 2000) hm dX5_make_4 (by decide) ?_
  rcases mx_if_el hf with ⟨c31, hf⟩ | ⟨c31, hf⟩
  · refine sb_ic_ge hm dX5_make_7 (tgt := 26) rfl (fun _ => ?_) (fun z => absurd c31 z)
    refine mx_S.ext [(0, .ref a0)] (mx_sub_pos [0] rfl (show ([0, 1, 2] : List Nat).Nodup by decide)) ?_
    exact j_X5_make_26_ok X hF hL nn a0 h hf
  · refine sb_ic_ge hm dX5_make_7 (tgt := 26) rfl (fun z => absurd z c31) (fun _ => ?_)
    refine mx_S.pu (pc2 := 11) (lv2 := [(0, .ref a0), (1, .int a1), (2, .int a2)]) (st2 := [.int a2]) hm dX5_make_10 rfl ?_
    rcases mx_if_el hf with ⟨c30, hf⟩ | ⟨c30, hf⟩
    · refine sb_if_lt hm dX5_make_11 (tgt := 26) rfl (fun _ => ?_) (fun z => absurd c30 z)
      refine mx_S.ext [(0, .ref a0)] (mx_sub_pos [0] rfl (show ([0, 1, 2] : List Nat).Nodup by decide)) ?_
      exact j_X5_make_26_ok X hF hL nn a0 h hf
    · refine sb_if_lt hm dX5_make_11 (tgt := 26) rfl (fun z => absurd z c30) (fun _ => ?_)
      refine mx_S.pu (pc2 := 15) (lv2 := [(0, .ref a0), (1, .int a1), (2, .int a2)]) (st2 := [.int a2]) hm dX5_make_14 rfl ?_
      refine sx_si (v := 20000) hm dX5_make_15 (by decide) ?_
      refine mx_S.pu (pc2 := 19) (lv2 := [(0, .ref a0), (1, .int a1), (2, .int a2)]) (st2 := [.ref a0, .int 20000, .int a2]) hm dX5_make_18 rfl ?_
      replace hf := mx_sv_el hf; obtain ⟨v3, e_v3, hf⟩ := hf
      refine sx_get hm dX5_make_19 rs_RX5_63 (xgi_el e_v3) ?_
      clear e_v3
      replace hf := xl_el hf; obtain ⟨v4, e_v4, hf⟩ := hf
      refine mx_S.pu (pc2 := 23) (lv2 := [(0, .ref a0), (1, .int a1), (2, .int a2)]) (st2 := [.int v4, .int a2]) hm dX5_make_22 (by rw [← e_v4]; rfl) ?_
      clear e_v4
      rcases mx_if_el hf with ⟨c29, hf⟩ | ⟨c29, hf⟩
      · refine sb_ic_le hm dX5_make_23 (tgt := 33) rfl (fun _ => ?_) (fun z => absurd c29 z)
        refine mx_S.pu (pc2 := 34) (lv2 := [(0, .ref a0), (1, .int a1), (2, .int a2)]) (st2 := [.ref a0]) hm dX5_make_33 rfl ?_
        refine mx_S.pu (pc2 := 35) (lv2 := [(0, .ref a0), (1, .int a1), (2, .int a2)]) (st2 := [.ref a0, .ref a0]) hm dX5_make_34 rfl ?_
        replace hf := mx_sv_el hf; obtain ⟨v5, e_v5, hf⟩ := hf
        refine sx_get hm dX5_make_35 rs_RX5_60 (xgi_el e_v5) ?_
        clear e_v5
        refine sx_ic (v := 1) hm dX5_make_38 (by decide) ?_
        replace hf := xl_el hf; obtain ⟨v6, e_v6, hf⟩ := hf
        refine mx_S.pu (pc2 := 40) (lv2 := [(0, .ref a0), (1, .int a1), (2, .int a2)]) (st2 := [.int v6, .ref a0]) hm dX5_make_39 (by rw [← e_v6]; rfl) ?_
        clear e_v6
        replace hf := mx_sv_el hf; obtain ⟨h7, e_h7, hf⟩ := hf
        refine sx_put hm dX5_make_40 rs_RX5_60 ft_5_4 ⟨rfl, rfl⟩ (fun z => by cases z) e_h7 ?_
        clear e_h7
        refine mx_S.pu (pc2 := 44) (lv2 := [(0, .ref a0), (1, .int a1), (2, .int a2)]) (st2 := [.ref a0]) hm dX5_make_43 rfl ?_
        replace hf := mx_sv_el hf; obtain ⟨v8, e_v8, hf⟩ := hf
        refine sx_get hm dX5_make_44 rs_RX5_17 (xgr_el e_v8) ?_
        clear e_v8
        refine mx_S.pu (pc2 := 48) (lv2 := [(0, .ref a0), (1, .int a1), (2, .int a2)]) (st2 := [.ref a0, .ref v8]) hm dX5_make_47 rfl ?_
        replace hf := mx_sv_el hf; obtain ⟨v9, e_v9, hf⟩ := hf
        refine sx_get hm dX5_make_48 rs_RX5_60 (xgi_el e_v9) ?_
        clear e_v9
        refine mx_S.pu (pc2 := 52) (lv2 := [(0, .ref a0), (1, .int a1), (2, .int a2)]) (st2 := [.int a1, .int v9, .ref v8]) hm dX5_make_51 rfl ?_
        replace hf := mx_sv_el hf; obtain ⟨h10, e_h10, hf⟩ := hf
        refine sx_ast hm dX5_make_52 e_h10 ?_
        clear e_h10
        refine mx_S.pu (pc2 := 54) (lv2 := [(0, .ref a0), (1, .int a1), (2, .int a2)]) (st2 := [.ref a0]) hm dX5_make_53 rfl ?_
        replace hf := mx_sv_el hf; obtain ⟨v11, e_v11, hf⟩ := hf
        refine sx_get hm dX5_make_54 rs_RX5_20 (xgr_el e_v11) ?_
        clear e_v11
        refine mx_S.pu (pc2 := 58) (lv2 := [(0, .ref a0), (1, .int a1), (2, .int a2)]) (st2 := [.ref a0, .ref v11]) hm dX5_make_57 rfl ?_
        replace hf := mx_sv_el hf; obtain ⟨v12, e_v12, hf⟩ := hf
        refine sx_get hm dX5_make_58 rs_RX5_60 (xgi_el e_v12) ?_
        clear e_v12
        refine mx_S.pu (pc2 := 62) (lv2 := [(0, .ref a0), (1, .int a1), (2, .int a2)]) (st2 := [.ref a0, .int v12, .ref v11]) hm dX5_make_61 rfl ?_
        replace hf := mx_sv_el hf; obtain ⟨v13, e_v13, hf⟩ := hf
        refine sx_get hm dX5_make_62 rs_RX5_63 (xgi_el e_v13) ?_
        clear e_v13
        replace hf := mx_sv_el hf; obtain ⟨h14, e_h14, hf⟩ := hf
        refine sx_ast hm dX5_make_65 e_h14 ?_
        clear e_h14
        refine mx_S.pu (pc2 := 67) (lv2 := [(0, .ref a0), (1, .int a1), (2, .int a2)]) (st2 := [.ref a0]) hm dX5_make_66 rfl ?_
        replace hf := mx_sv_el hf; obtain ⟨v15, e_v15, hf⟩ := hf
        refine sx_get hm dX5_make_67 rs_RX5_23 (xgr_el e_v15) ?_
        clear e_v15
        refine mx_S.pu (pc2 := 71) (lv2 := [(0, .ref a0), (1, .int a1), (2, .int a2)]) (st2 := [.ref a0, .ref v15]) hm dX5_make_70 rfl ?_
        replace hf := mx_sv_el hf; obtain ⟨v16, e_v16, hf⟩ := hf
        refine sx_get hm dX5_make_71 rs_RX5_63 (xgi_el e_v16) ?_
        clear e_v16
        refine mx_S.pu (pc2 := 75) (lv2 := [(0, .ref a0), (1, .int a1), (2, .int a2)]) (st2 := [.ref a0, .int v16, .ref v15]) hm dX5_make_74 rfl ?_
        replace hf := mx_sv_el hf; obtain ⟨v17, e_v17, hf⟩ := hf
        refine sx_get hm dX5_make_75 rs_RX5_63 (xgi_el e_v17) ?_
        clear e_v17
        refine mx_S.pu (pc2 := 79) (lv2 := [(0, .ref a0), (1, .int a1), (2, .int a2)]) (st2 := [.int a2, .int v17, .int v16, .ref v15]) hm dX5_make_78 rfl ?_
        replace hf := xl_el hf; obtain ⟨v18, e_v18, hf⟩ := hf
        refine mx_S.pu (pc2 := 80) (lv2 := [(0, .ref a0), (1, .int a1), (2, .int a2)]) (st2 := [.int v18, .int v16, .ref v15]) hm dX5_make_79 (by rw [← e_v18]; rfl) ?_
        clear e_v18
        refine sx_ic (v := 0) hm dX5_make_80 (by decide) ?_
        replace hf := mx_sv_el hf; obtain ⟨u19, e_u19, hf⟩ := hf
        refine sx_cs hm dX5_make_81 rs_RX5_100 mt_J7_fill_fda19 [.ref v15, .int v16, .int v18, .int 0] [] rfl rfl (Nat.le_of_ble_eq_true rfl) (Nat.le_of_ble_eq_true rfl) (by omega) (by omega) (f_J7_fill_fda19_ok X (by omega) (by omega) nn v15 v16 v18 0 h14 e_u19) ?_
        clear e_u19
        show mx_S X F L 173 84 [(0, .ref a0), (1, .int a1), (2, .int a2)] [] u19 0 0 (some (.int r.1), r.2, 0, 0)
        refine mx_S.pu (pc2 := 85) (lv2 := [(0, .ref a0), (1, .int a1), (2, .int a2)]) (st2 := [.ref a0]) hm dX5_make_84 rfl ?_
        refine mx_S.pu (pc2 := 86) (lv2 := [(0, .ref a0), (1, .int a1), (2, .int a2)]) (st2 := [.ref a0, .ref a0]) hm dX5_make_85 rfl ?_
        replace hf := mx_sv_el hf; obtain ⟨v20, e_v20, hf⟩ := hf
        refine sx_get hm dX5_make_86 rs_RX5_63 (xgi_el e_v20) ?_
        clear e_v20
        refine mx_S.pu (pc2 := 90) (lv2 := [(0, .ref a0), (1, .int a1), (2, .int a2)]) (st2 := [.int a2, .int v20, .ref a0]) hm dX5_make_89 rfl ?_
        replace hf := xl_el hf; obtain ⟨v21, e_v21, hf⟩ := hf
        refine mx_S.pu (pc2 := 91) (lv2 := [(0, .ref a0), (1, .int a1), (2, .int a2)]) (st2 := [.int v21, .ref a0]) hm dX5_make_90 (by rw [← e_v21]; rfl) ?_
        clear e_v21
        replace hf := mx_sv_el hf; obtain ⟨h22, e_h22, hf⟩ := hf
        refine sx_put hm dX5_make_91 rs_RX5_63 ft_5_5 ⟨rfl, rfl⟩ (fun z => by cases z) e_h22 ?_
        clear e_h22
        refine mx_S.pu (pc2 := 95) (lv2 := [(0, .ref a0), (1, .int a1), (2, .int a2)]) (st2 := [.ref a0]) hm dX5_make_94 rfl ?_
        replace hf := mx_sv_el hf; obtain ⟨v23, e_v23, hf⟩ := hf
        refine sx_get hm dX5_make_95 rs_RX5_20 (xgr_el e_v23) ?_
        clear e_v23
        refine mx_S.pu (pc2 := 99) (lv2 := [(0, .ref a0), (1, .int a1), (2, .int a2)]) (st2 := [.ref a0, .ref v23]) hm dX5_make_98 rfl ?_
        replace hf := mx_sv_el hf; obtain ⟨v24, e_v24, hf⟩ := hf
        refine sx_get hm dX5_make_99 rs_RX5_60 (xgi_el e_v24) ?_
        clear e_v24
        refine sx_ic (v := 1) hm dX5_make_102 (by decide) ?_
        replace hf := xl_el hf; obtain ⟨v25, e_v25, hf⟩ := hf
        refine mx_S.pu (pc2 := 104) (lv2 := [(0, .ref a0), (1, .int a1), (2, .int a2)]) (st2 := [.int v25, .ref v23]) hm dX5_make_103 (by rw [← e_v25]; rfl) ?_
        clear e_v25
        refine mx_S.pu (pc2 := 105) (lv2 := [(0, .ref a0), (1, .int a1), (2, .int a2)]) (st2 := [.ref a0, .int v25, .ref v23]) hm dX5_make_104 rfl ?_
        replace hf := mx_sv_el hf; obtain ⟨v26, e_v26, hf⟩ := hf
        refine sx_get hm dX5_make_105 rs_RX5_63 (xgi_el e_v26) ?_
        clear e_v26
        replace hf := mx_sv_el hf; obtain ⟨h27, e_h27, hf⟩ := hf
        refine sx_ast hm dX5_make_108 e_h27 ?_
        clear e_h27
        refine mx_S.pu (pc2 := 110) (lv2 := [(0, .ref a0), (1, .int a1), (2, .int a2)]) (st2 := [.ref a0]) hm dX5_make_109 rfl ?_
        replace hf := mx_sv_el hf; obtain ⟨v28, e_v28, hf⟩ := hf
        refine sx_get hm dX5_make_110 rs_RX5_60 (xgi_el e_v28) ?_
        clear e_v28
        cases hf
        exact sx_ire hm dX5_make_113 rfl rfl
      · refine sb_ic_le hm dX5_make_23 (tgt := 33) rfl (fun z => absurd z c29) (fun _ => ?_)
        refine mx_S.ext [(0, .ref a0)] (mx_sub_pos [0] rfl (show ([0, 1, 2] : List Nat).Nodup by decide)) ?_
        exact j_X5_make_26_ok X hF hL nn a0 h hf
set_option maxHeartbeats 4000000 in
set_option maxRecDepth 20000 in
theorem j_X11_isArithmetic_158_ok (X : Nat × (Nat → Int32)) {F L : Nat} (hF : 0 ≤ F) (hL : 0 ≤ L) (nn : Nat) (h : mx_H) {r : (Int32 × mx_H)} (hf : j_X11_isArithmetic_158 nn h = some r) : mx_S X F L 322 158 [] [] h 0 0 (some (.int r.1), r.2, 0, 0) := by
  have hm : mx_mt 322 = some (yX11_isArithmetic, cX11_isArithmetic, 1, (some .boolean)) := mt_X11_isArithmetic
  unfold j_X11_isArithmetic_158 at hf
  refine sx_ic (v := 0) hm dX11_isArithmetic_158 (by decide) ?_
  cases hf
  exact sx_ire hm dX11_isArithmetic_159 rfl (by decide)
set_option maxHeartbeats 4000000 in
set_option maxRecDepth 20000 in
theorem j_X11_isArithmetic_156_ok (X : Nat × (Nat → Int32)) {F L : Nat} (hF : 0 ≤ F) (hL : 0 ≤ L) (nn : Nat) (h : mx_H) {r : (Int32 × mx_H)} (hf : j_X11_isArithmetic_156 nn h = some r) : mx_S X F L 322 156 [] [] h 0 0 (some (.int r.1), r.2, 0, 0) := by
  have hm : mx_mt 322 = some (yX11_isArithmetic, cX11_isArithmetic, 1, (some .boolean)) := mt_X11_isArithmetic
  unfold j_X11_isArithmetic_156 at hf
  refine sx_ic (v := 1) hm dX11_isArithmetic_156 (by decide) ?_
  cases hf
  exact sx_ire hm dX11_isArithmetic_157 rfl (by decide)
set_option maxHeartbeats 4000000 in
set_option maxRecDepth 20000 in
theorem f_X11_isArithmetic_ok (X : Nat × (Nat → Int32)) {F L : Nat} (hF : 0 ≤ F) (hL : 0 ≤ L) (nn : Nat) (a0 : Int32) (h : mx_H) {r : (Int32 × mx_H)} (hf : f_X11_isArithmetic nn a0 h = some r) : mx_R X F L 322 [.int a0] h (some (.int r.1), r.2, 0, 0) := by
  have hm : mx_mt 322 = some (yX11_isArithmetic, cX11_isArithmetic, 1, (some .boolean)) := mt_X11_isArithmetic
  show mx_S X F L 322 0 [(0, .int a0)] [] h 0 0 (some (.int r.1), r.2, 0, 0)
  unfold f_X11_isArithmetic at hf
  refine mx_S.pu (pc2 := 1) (lv2 := [(0, .int a0)]) (st2 := [.int a0]) hm dX11_isArithmetic_0 rfl ?_
  rcases mx_if_el hf with ⟨n_0, hf⟩ | ⟨n_0, hf⟩
  · refine sx_tin hm dX11_isArithmetic_1 (by rw [n_0]; decide) (by rw [n_0]; decide) (off := 155) (by rw [n_0]; rfl) (tgt := 156) rfl ?_
    clear n_0
    refine mx_S.ext [] (mx_sub_pos [] rfl (show ([0] : List Nat).Nodup by decide)) ?_
    exact j_X11_isArithmetic_156_ok X hF hL nn h hf
  · rcases mx_if_el hf with ⟨n_1, hf⟩ | ⟨n_1, hf⟩
    · refine sx_tin hm dX11_isArithmetic_1 (by rw [n_1]; decide) (by rw [n_1]; decide) (off := 155) (by rw [n_1]; rfl) (tgt := 156) rfl ?_
      clear n_0 n_1
      refine mx_S.ext [] (mx_sub_pos [] rfl (show ([0] : List Nat).Nodup by decide)) ?_
      exact j_X11_isArithmetic_156_ok X hF hL nn h hf
    · rcases mx_if_el hf with ⟨n_2, hf⟩ | ⟨n_2, hf⟩
      · refine sx_tin hm dX11_isArithmetic_1 (by rw [n_2]; decide) (by rw [n_2]; decide) (off := 155) (by rw [n_2]; rfl) (tgt := 156) rfl ?_
        clear n_0 n_1 n_2
        refine mx_S.ext [] (mx_sub_pos [] rfl (show ([0] : List Nat).Nodup by decide)) ?_
        exact j_X11_isArithmetic_156_ok X hF hL nn h hf
      · rcases mx_if_el hf with ⟨n_3, hf⟩ | ⟨n_3, hf⟩
        · refine sx_tin hm dX11_isArithmetic_1 (by rw [n_3]; decide) (by rw [n_3]; decide) (off := 155) (by rw [n_3]; rfl) (tgt := 156) rfl ?_
          clear n_0 n_1 n_2 n_3
          refine mx_S.ext [] (mx_sub_pos [] rfl (show ([0] : List Nat).Nodup by decide)) ?_
          exact j_X11_isArithmetic_156_ok X hF hL nn h hf
        · rcases mx_if_el hf with ⟨n_4, hf⟩ | ⟨n_4, hf⟩
          · refine sx_tin hm dX11_isArithmetic_1 (by rw [n_4]; decide) (by rw [n_4]; decide) (off := 155) (by rw [n_4]; rfl) (tgt := 156) rfl ?_
            clear n_0 n_1 n_2 n_3 n_4
            refine mx_S.ext [] (mx_sub_pos [] rfl (show ([0] : List Nat).Nodup by decide)) ?_
            exact j_X11_isArithmetic_156_ok X hF hL nn h hf
          · rcases mx_if_el hf with ⟨n_5, hf⟩ | ⟨n_5, hf⟩
            · refine sx_tin hm dX11_isArithmetic_1 (by rw [n_5]; decide) (by rw [n_5]; decide) (off := 155) (by rw [n_5]; rfl) (tgt := 156) rfl ?_
              clear n_0 n_1 n_2 n_3 n_4 n_5
              refine mx_S.ext [] (mx_sub_pos [] rfl (show ([0] : List Nat).Nodup by decide)) ?_
              exact j_X11_isArithmetic_156_ok X hF hL nn h hf
            · rcases mx_if_el hf with ⟨n_6, hf⟩ | ⟨n_6, hf⟩
              · refine sx_tin hm dX11_isArithmetic_1 (by rw [n_6]; decide) (by rw [n_6]; decide) (off := 155) (by rw [n_6]; rfl) (tgt := 156) rfl ?_
                clear n_0 n_1 n_2 n_3 n_4 n_5 n_6
                refine mx_S.ext [] (mx_sub_pos [] rfl (show ([0] : List Nat).Nodup by decide)) ?_
                exact j_X11_isArithmetic_156_ok X hF hL nn h hf
              · rcases mx_if_el hf with ⟨n_7, hf⟩ | ⟨n_7, hf⟩
                · refine sx_tin hm dX11_isArithmetic_1 (by rw [n_7]; decide) (by rw [n_7]; decide) (off := 155) (by rw [n_7]; rfl) (tgt := 156) rfl ?_
                  clear n_0 n_1 n_2 n_3 n_4 n_5 n_6 n_7
                  refine mx_S.ext [] (mx_sub_pos [] rfl (show ([0] : List Nat).Nodup by decide)) ?_
                  exact j_X11_isArithmetic_156_ok X hF hL nn h hf
                · rcases mx_if_el hf with ⟨n_8, hf⟩ | ⟨n_8, hf⟩
                  · refine sx_tin hm dX11_isArithmetic_1 (by rw [n_8]; decide) (by rw [n_8]; decide) (off := 155) (by rw [n_8]; rfl) (tgt := 156) rfl ?_
                    clear n_0 n_1 n_2 n_3 n_4 n_5 n_6 n_7 n_8
                    refine mx_S.ext [] (mx_sub_pos [] rfl (show ([0] : List Nat).Nodup by decide)) ?_
                    exact j_X11_isArithmetic_156_ok X hF hL nn h hf
                  · rcases mx_if_el hf with ⟨n_9, hf⟩ | ⟨n_9, hf⟩
                    · refine sx_tin hm dX11_isArithmetic_1 (by rw [n_9]; decide) (by rw [n_9]; decide) (off := 155) (by rw [n_9]; rfl) (tgt := 156) rfl ?_
                      clear n_0 n_1 n_2 n_3 n_4 n_5 n_6 n_7 n_8 n_9
                      refine mx_S.ext [] (mx_sub_pos [] rfl (show ([0] : List Nat).Nodup by decide)) ?_
                      exact j_X11_isArithmetic_156_ok X hF hL nn h hf
                    · rcases mx_if_el hf with ⟨n_10, hf⟩ | ⟨n_10, hf⟩
                      · refine sx_tin hm dX11_isArithmetic_1 (by rw [n_10]; decide) (by rw [n_10]; decide) (off := 155) (by rw [n_10]; rfl) (tgt := 156) rfl ?_
                        clear n_0 n_1 n_2 n_3 n_4 n_5 n_6 n_7 n_8 n_9 n_10
                        refine mx_S.ext [] (mx_sub_pos [] rfl (show ([0] : List Nat).Nodup by decide)) ?_
                        exact j_X11_isArithmetic_156_ok X hF hL nn h hf
                      · rcases (show (a0.toInt < 96 ∨ 130 < a0.toInt) ∨ a0.toInt = 96 ∨ a0.toInt = 97 ∨ a0.toInt = 98 ∨ a0.toInt = 99 ∨ a0.toInt = 100 ∨ a0.toInt = 101 ∨ a0.toInt = 102 ∨ a0.toInt = 103 ∨ a0.toInt = 104 ∨ a0.toInt = 105 ∨ a0.toInt = 106 ∨ a0.toInt = 107 ∨ a0.toInt = 108 ∨ a0.toInt = 109 ∨ a0.toInt = 110 ∨ a0.toInt = 111 ∨ a0.toInt = 112 ∨ a0.toInt = 113 ∨ a0.toInt = 114 ∨ a0.toInt = 115 ∨ a0.toInt = 116 ∨ a0.toInt = 117 ∨ a0.toInt = 118 ∨ a0.toInt = 119 ∨ a0.toInt = 120 ∨ a0.toInt = 121 ∨ a0.toInt = 122 ∨ a0.toInt = 123 ∨ a0.toInt = 124 ∨ a0.toInt = 125 ∨ a0.toInt = 126 ∨ a0.toInt = 127 ∨ a0.toInt = 128 ∨ a0.toInt = 129 ∨ a0.toInt = 130 by omega) with z0 | z0 | z0 | z0 | z0 | z0 | z0 | z0 | z0 | z0 | z0 | z0 | z0 | z0 | z0 | z0 | z0 | z0 | z0 | z0 | z0 | z0 | z0 | z0 | z0 | z0 | z0 | z0 | z0 | z0 | z0 | z0 | z0 | z0 | z0 | z0
                        · refine sx_tout hm dX11_isArithmetic_1 z0 (tgt := 158) rfl ?_
                          refine mx_S.ext [] (mx_sub_pos [] rfl (show ([0] : List Nat).Nodup by decide)) ?_
                          exact j_X11_isArithmetic_158_ok X hF hL nn h hf
                        · exact absurd (Int32.toInt_inj.mp (z0.trans (by decide : (96 : Int) = (96 : Int32).toInt))) n_0
                        · refine sx_tin hm dX11_isArithmetic_1 (by omega) (by omega) (off := 157) (by rw [z0]; rfl) (tgt := 158) rfl ?_
                          refine mx_S.ext [] (mx_sub_pos [] rfl (show ([0] : List Nat).Nodup by decide)) ?_
                          exact j_X11_isArithmetic_158_ok X hF hL nn h hf
                        · refine sx_tin hm dX11_isArithmetic_1 (by omega) (by omega) (off := 157) (by rw [z0]; rfl) (tgt := 158) rfl ?_
                          refine mx_S.ext [] (mx_sub_pos [] rfl (show ([0] : List Nat).Nodup by decide)) ?_
                          exact j_X11_isArithmetic_158_ok X hF hL nn h hf
                        · refine sx_tin hm dX11_isArithmetic_1 (by omega) (by omega) (off := 157) (by rw [z0]; rfl) (tgt := 158) rfl ?_
                          refine mx_S.ext [] (mx_sub_pos [] rfl (show ([0] : List Nat).Nodup by decide)) ?_
                          exact j_X11_isArithmetic_158_ok X hF hL nn h hf
                        · exact absurd (Int32.toInt_inj.mp (z0.trans (by decide : (100 : Int) = (100 : Int32).toInt))) n_1
                        · refine sx_tin hm dX11_isArithmetic_1 (by omega) (by omega) (off := 157) (by rw [z0]; rfl) (tgt := 158) rfl ?_
                          refine mx_S.ext [] (mx_sub_pos [] rfl (show ([0] : List Nat).Nodup by decide)) ?_
                          exact j_X11_isArithmetic_158_ok X hF hL nn h hf
                        · refine sx_tin hm dX11_isArithmetic_1 (by omega) (by omega) (off := 157) (by rw [z0]; rfl) (tgt := 158) rfl ?_
                          refine mx_S.ext [] (mx_sub_pos [] rfl (show ([0] : List Nat).Nodup by decide)) ?_
                          exact j_X11_isArithmetic_158_ok X hF hL nn h hf
                        · refine sx_tin hm dX11_isArithmetic_1 (by omega) (by omega) (off := 157) (by rw [z0]; rfl) (tgt := 158) rfl ?_
                          refine mx_S.ext [] (mx_sub_pos [] rfl (show ([0] : List Nat).Nodup by decide)) ?_
                          exact j_X11_isArithmetic_158_ok X hF hL nn h hf
                        · exact absurd (Int32.toInt_inj.mp (z0.trans (by decide : (104 : Int) = (104 : Int32).toInt))) n_2
                        · refine sx_tin hm dX11_isArithmetic_1 (by omega) (by omega) (off := 157) (by rw [z0]; rfl) (tgt := 158) rfl ?_
                          refine mx_S.ext [] (mx_sub_pos [] rfl (show ([0] : List Nat).Nodup by decide)) ?_
                          exact j_X11_isArithmetic_158_ok X hF hL nn h hf
                        · refine sx_tin hm dX11_isArithmetic_1 (by omega) (by omega) (off := 157) (by rw [z0]; rfl) (tgt := 158) rfl ?_
                          refine mx_S.ext [] (mx_sub_pos [] rfl (show ([0] : List Nat).Nodup by decide)) ?_
                          exact j_X11_isArithmetic_158_ok X hF hL nn h hf
                        · refine sx_tin hm dX11_isArithmetic_1 (by omega) (by omega) (off := 157) (by rw [z0]; rfl) (tgt := 158) rfl ?_
                          refine mx_S.ext [] (mx_sub_pos [] rfl (show ([0] : List Nat).Nodup by decide)) ?_
                          exact j_X11_isArithmetic_158_ok X hF hL nn h hf
                        · exact absurd (Int32.toInt_inj.mp (z0.trans (by decide : (108 : Int) = (108 : Int32).toInt))) n_3
                        · refine sx_tin hm dX11_isArithmetic_1 (by omega) (by omega) (off := 157) (by rw [z0]; rfl) (tgt := 158) rfl ?_
                          refine mx_S.ext [] (mx_sub_pos [] rfl (show ([0] : List Nat).Nodup by decide)) ?_
                          exact j_X11_isArithmetic_158_ok X hF hL nn h hf
                        · refine sx_tin hm dX11_isArithmetic_1 (by omega) (by omega) (off := 157) (by rw [z0]; rfl) (tgt := 158) rfl ?_
                          refine mx_S.ext [] (mx_sub_pos [] rfl (show ([0] : List Nat).Nodup by decide)) ?_
                          exact j_X11_isArithmetic_158_ok X hF hL nn h hf
                        · refine sx_tin hm dX11_isArithmetic_1 (by omega) (by omega) (off := 157) (by rw [z0]; rfl) (tgt := 158) rfl ?_
                          refine mx_S.ext [] (mx_sub_pos [] rfl (show ([0] : List Nat).Nodup by decide)) ?_
                          exact j_X11_isArithmetic_158_ok X hF hL nn h hf
                        · exact absurd (Int32.toInt_inj.mp (z0.trans (by decide : (112 : Int) = (112 : Int32).toInt))) n_4
                        · refine sx_tin hm dX11_isArithmetic_1 (by omega) (by omega) (off := 157) (by rw [z0]; rfl) (tgt := 158) rfl ?_
                          refine mx_S.ext [] (mx_sub_pos [] rfl (show ([0] : List Nat).Nodup by decide)) ?_
                          exact j_X11_isArithmetic_158_ok X hF hL nn h hf
                        · refine sx_tin hm dX11_isArithmetic_1 (by omega) (by omega) (off := 157) (by rw [z0]; rfl) (tgt := 158) rfl ?_
                          refine mx_S.ext [] (mx_sub_pos [] rfl (show ([0] : List Nat).Nodup by decide)) ?_
                          exact j_X11_isArithmetic_158_ok X hF hL nn h hf
                        · refine sx_tin hm dX11_isArithmetic_1 (by omega) (by omega) (off := 157) (by rw [z0]; rfl) (tgt := 158) rfl ?_
                          refine mx_S.ext [] (mx_sub_pos [] rfl (show ([0] : List Nat).Nodup by decide)) ?_
                          exact j_X11_isArithmetic_158_ok X hF hL nn h hf
                        · refine sx_tin hm dX11_isArithmetic_1 (by omega) (by omega) (off := 157) (by rw [z0]; rfl) (tgt := 158) rfl ?_
                          refine mx_S.ext [] (mx_sub_pos [] rfl (show ([0] : List Nat).Nodup by decide)) ?_
                          exact j_X11_isArithmetic_158_ok X hF hL nn h hf
                        · refine sx_tin hm dX11_isArithmetic_1 (by omega) (by omega) (off := 157) (by rw [z0]; rfl) (tgt := 158) rfl ?_
                          refine mx_S.ext [] (mx_sub_pos [] rfl (show ([0] : List Nat).Nodup by decide)) ?_
                          exact j_X11_isArithmetic_158_ok X hF hL nn h hf
                        · refine sx_tin hm dX11_isArithmetic_1 (by omega) (by omega) (off := 157) (by rw [z0]; rfl) (tgt := 158) rfl ?_
                          refine mx_S.ext [] (mx_sub_pos [] rfl (show ([0] : List Nat).Nodup by decide)) ?_
                          exact j_X11_isArithmetic_158_ok X hF hL nn h hf
                        · refine sx_tin hm dX11_isArithmetic_1 (by omega) (by omega) (off := 157) (by rw [z0]; rfl) (tgt := 158) rfl ?_
                          refine mx_S.ext [] (mx_sub_pos [] rfl (show ([0] : List Nat).Nodup by decide)) ?_
                          exact j_X11_isArithmetic_158_ok X hF hL nn h hf
                        · exact absurd (Int32.toInt_inj.mp (z0.trans (by decide : (120 : Int) = (120 : Int32).toInt))) n_5
                        · refine sx_tin hm dX11_isArithmetic_1 (by omega) (by omega) (off := 157) (by rw [z0]; rfl) (tgt := 158) rfl ?_
                          refine mx_S.ext [] (mx_sub_pos [] rfl (show ([0] : List Nat).Nodup by decide)) ?_
                          exact j_X11_isArithmetic_158_ok X hF hL nn h hf
                        · exact absurd (Int32.toInt_inj.mp (z0.trans (by decide : (122 : Int) = (122 : Int32).toInt))) n_6
                        · refine sx_tin hm dX11_isArithmetic_1 (by omega) (by omega) (off := 157) (by rw [z0]; rfl) (tgt := 158) rfl ?_
                          refine mx_S.ext [] (mx_sub_pos [] rfl (show ([0] : List Nat).Nodup by decide)) ?_
                          exact j_X11_isArithmetic_158_ok X hF hL nn h hf
                        · exact absurd (Int32.toInt_inj.mp (z0.trans (by decide : (124 : Int) = (124 : Int32).toInt))) n_7
                        · refine sx_tin hm dX11_isArithmetic_1 (by omega) (by omega) (off := 157) (by rw [z0]; rfl) (tgt := 158) rfl ?_
                          refine mx_S.ext [] (mx_sub_pos [] rfl (show ([0] : List Nat).Nodup by decide)) ?_
                          exact j_X11_isArithmetic_158_ok X hF hL nn h hf
                        · exact absurd (Int32.toInt_inj.mp (z0.trans (by decide : (126 : Int) = (126 : Int32).toInt))) n_8
                        · refine sx_tin hm dX11_isArithmetic_1 (by omega) (by omega) (off := 157) (by rw [z0]; rfl) (tgt := 158) rfl ?_
                          refine mx_S.ext [] (mx_sub_pos [] rfl (show ([0] : List Nat).Nodup by decide)) ?_
                          exact j_X11_isArithmetic_158_ok X hF hL nn h hf
                        · exact absurd (Int32.toInt_inj.mp (z0.trans (by decide : (128 : Int) = (128 : Int32).toInt))) n_9
                        · refine sx_tin hm dX11_isArithmetic_1 (by omega) (by omega) (off := 157) (by rw [z0]; rfl) (tgt := 158) rfl ?_
                          refine mx_S.ext [] (mx_sub_pos [] rfl (show ([0] : List Nat).Nodup by decide)) ?_
                          exact j_X11_isArithmetic_158_ok X hF hL nn h hf
                        · exact absurd (Int32.toInt_inj.mp (z0.trans (by decide : (130 : Int) = (130 : Int32).toInt))) n_10
set_option maxHeartbeats 4000000 in
set_option maxRecDepth 20000 in
theorem f_X11_isJump_ok (X : Nat × (Nat → Int32)) {F L : Nat} (hF : 0 ≤ F) (hL : 0 ≤ L) (nn : Nat) (a0 : Int32) (h : mx_H) {r : (Int32 × mx_H)} (hf : f_X11_isJump nn a0 h = some r) : mx_R X F L 321 [.int a0] h (some (.int r.1), r.2, 0, 0) := by
  have hm : mx_mt 321 = some (yX11_isJump, cX11_isJump, 1, (some .boolean)) := mt_X11_isJump
  show mx_S X F L 321 0 [(0, .int a0)] [] h 0 0 (some (.int r.1), r.2, 0, 0)
  unfold f_X11_isJump at hf
  refine mx_S.pu (pc2 := 1) (lv2 := [(0, .int a0)]) (st2 := [.int a0]) hm dX11_isJump_0 rfl ?_
  refine sx_si (v := 153) hm dX11_isJump_1 (by decide) ?_
  rcases mx_if_el hf with ⟨c4, hf⟩ | ⟨c4, hf⟩
  · refine sb_ic_eq hm dX11_isJump_4 (tgt := 28) rfl (fun _ => ?_) (fun z => absurd c4 z)
    refine sx_ic (v := 1) hm dX11_isJump_28 (by decide) ?_
    refine mx_S.pu (pc2 := 33) (lv2 := [(0, .int a0)]) (st2 := [.int 1]) hm dX11_isJump_29 rfl ?_
    cases hf
    exact sx_ire hm dX11_isJump_33 rfl (by decide)
  · refine sb_ic_eq hm dX11_isJump_4 (tgt := 28) rfl (fun z => absurd z c4) (fun _ => ?_)
    refine mx_S.pu (pc2 := 8) (lv2 := [(0, .int a0)]) (st2 := [.int a0]) hm dX11_isJump_7 rfl ?_
    refine sx_si (v := 154) hm dX11_isJump_8 (by decide) ?_
    rcases mx_if_el hf with ⟨c3, hf⟩ | ⟨c3, hf⟩
    · refine sb_ic_eq hm dX11_isJump_11 (tgt := 28) rfl (fun _ => ?_) (fun z => absurd c3 z)
      refine sx_ic (v := 1) hm dX11_isJump_28 (by decide) ?_
      refine mx_S.pu (pc2 := 33) (lv2 := [(0, .int a0)]) (st2 := [.int 1]) hm dX11_isJump_29 rfl ?_
      cases hf
      exact sx_ire hm dX11_isJump_33 rfl (by decide)
    · refine sb_ic_eq hm dX11_isJump_11 (tgt := 28) rfl (fun z => absurd z c3) (fun _ => ?_)
      refine mx_S.pu (pc2 := 15) (lv2 := [(0, .int a0)]) (st2 := [.int a0]) hm dX11_isJump_14 rfl ?_
      refine sx_si (v := 159) hm dX11_isJump_15 (by decide) ?_
      rcases mx_if_el hf with ⟨c2, hf⟩ | ⟨c2, hf⟩
      · refine sb_ic_lt hm dX11_isJump_18 (tgt := 32) rfl (fun _ => ?_) (fun z => absurd c2 z)
        refine sx_ic (v := 0) hm dX11_isJump_32 (by decide) ?_
        cases hf
        exact sx_ire hm dX11_isJump_33 rfl (by decide)
      · refine sb_ic_lt hm dX11_isJump_18 (tgt := 32) rfl (fun z => absurd z c2) (fun _ => ?_)
        refine mx_S.pu (pc2 := 22) (lv2 := [(0, .int a0)]) (st2 := [.int a0]) hm dX11_isJump_21 rfl ?_
        refine sx_si (v := 167) hm dX11_isJump_22 (by decide) ?_
        rcases mx_if_el hf with ⟨c1, hf⟩ | ⟨c1, hf⟩
        · refine sb_ic_gt hm dX11_isJump_25 (tgt := 32) rfl (fun _ => ?_) (fun z => absurd c1 z)
          refine sx_ic (v := 0) hm dX11_isJump_32 (by decide) ?_
          cases hf
          exact sx_ire hm dX11_isJump_33 rfl (by decide)
        · refine sb_ic_gt hm dX11_isJump_25 (tgt := 32) rfl (fun z => absurd z c1) (fun _ => ?_)
          refine sx_ic (v := 1) hm dX11_isJump_28 (by decide) ?_
          refine mx_S.pu (pc2 := 33) (lv2 := [(0, .int a0)]) (st2 := [.int 1]) hm dX11_isJump_29 rfl ?_
          cases hf
          exact sx_ire hm dX11_isJump_33 rfl (by decide)
set_option maxHeartbeats 4000000 in
set_option maxRecDepth 20000 in
theorem f_X5_goOn_ok (X : Nat × (Nat → Int32)) {F L : Nat} (hF : 0 ≤ F) (hL : 0 ≤ L) (nn : Nat) (a0 : Nat) (a1 : Int32) (h : mx_H) {r : mx_H} (hf : f_X5_goOn nn a0 a1 h = some r) : mx_R X F L 154 [.ref a0, .int a1] h (none, r, 0, 0) := by
  have hm : mx_mt 154 = some (yX5_goOn, cX5_goOn, 2, none) := mt_X5_goOn
  show mx_S X F L 154 0 [(0, .ref a0), (1, .int a1)] [] h 0 0 (none, r, 0, 0)
  unfold f_X5_goOn at hf
  refine mx_S.pu (pc2 := 1) (lv2 := [(0, .ref a0), (1, .int a1)]) (st2 := [.ref a0]) hm dX5_goOn_0 rfl ?_
  replace hf := mx_sv_el hf; obtain ⟨v1, e_v1, hf⟩ := hf
  refine sx_get hm dX5_goOn_1 rs_RX5_29 (xgr_el e_v1) ?_
  clear e_v1
  refine mx_S.pu (pc2 := 5) (lv2 := [(0, .ref a0), (1, .int a1)]) (st2 := [.ref a0, .ref v1]) hm dX5_goOn_4 rfl ?_
  replace hf := mx_sv_el hf; obtain ⟨v2, e_v2, hf⟩ := hf
  refine sx_get hm dX5_goOn_5 rs_RX5_97 (xgi_el e_v2) ?_
  clear e_v2
  refine mx_S.pu (pc2 := 9) (lv2 := [(0, .ref a0), (1, .int a1)]) (st2 := [.int v2, .ref v1, .int v2, .ref v1]) hm dX5_goOn_8 rfl ?_
  replace hf := mx_sv_el hf; obtain ⟨v3, e_v3, hf⟩ := hf
  refine sx_ald hm dX5_goOn_9 e_v3 ?_
  clear e_v3
  refine mx_S.pu (pc2 := 11) (lv2 := [(0, .ref a0), (1, .int a1)]) (st2 := [.int a1, .int v3, .int v2, .ref v1]) hm dX5_goOn_10 rfl ?_
  replace hf := xl_el hf; obtain ⟨v4, e_v4, hf⟩ := hf
  refine mx_S.pu (pc2 := 12) (lv2 := [(0, .ref a0), (1, .int a1)]) (st2 := [.int v4, .int v2, .ref v1]) hm dX5_goOn_11 (by rw [← e_v4]; rfl) ?_
  clear e_v4
  replace hf := mx_sv_el hf; obtain ⟨h5, e_h5, hf⟩ := hf
  refine sx_ast hm dX5_goOn_12 e_h5 ?_
  clear e_h5
  cases hf
  exact sx_ret hm dX5_goOn_13 rfl
set_option maxHeartbeats 4000000 in
set_option maxRecDepth 20000 in
theorem f_X5_push_ok (X : Nat × (Nat → Int32)) {F L : Nat} (hF : 0 ≤ F) (hL : 0 ≤ L) (nn : Nat) (a0 : Nat) (a1 : Int32) (h : mx_H) {r : mx_H} (hf : f_X5_push nn a0 a1 h = some r) : mx_R X F L 152 [.ref a0, .int a1] h (none, r, 0, 0) := by
  have hm : mx_mt 152 = some (yX5_push, cX5_push, 3, none) := mt_X5_push
  show mx_S X F L 152 0 [(0, .ref a0), (1, .int a1)] [] h 0 0 (none, r, 0, 0)
  unfold f_X5_push at hf
  refine mx_S.pu (pc2 := 1) (lv2 := [(0, .ref a0), (1, .int a1)]) (st2 := [.ref a0]) hm dX5_push_0 rfl ?_
  replace hf := mx_sv_el hf; obtain ⟨v1, e_v1, hf⟩ := hf
  refine sx_get hm dX5_push_1 rs_RX5_32 (xgr_el e_v1) ?_
  clear e_v1
  refine mx_S.pu (pc2 := 5) (lv2 := [(0, .ref a0), (1, .int a1)]) (st2 := [.ref a0, .ref v1]) hm dX5_push_4 rfl ?_
  replace hf := mx_sv_el hf; obtain ⟨v2, e_v2, hf⟩ := hf
  refine sx_get hm dX5_push_5 rs_RX5_97 (xgi_el e_v2) ?_
  clear e_v2
  replace hf := mx_sv_el hf; obtain ⟨v3, e_v3, hf⟩ := hf
  refine sx_ald hm dX5_push_8 e_v3 ?_
  clear e_v3
  refine mx_S.pu (pc2 := 10) (lv2 := [(2, .int v3), (0, .ref a0), (1, .int a1)]) (st2 := []) hm dX5_push_9 rfl ?_
  refine mx_S.pu (pc2 := 11) (lv2 := [(2, .int v3), (0, .ref a0), (1, .int a1)]) (st2 := [.int v3]) hm dX5_push_10 rfl ?_
  refine sx_bi (v := 30) hm dX5_push_11 (by decide) ?_
  rcases mx_if_el hf with ⟨c14, hf⟩ | ⟨c14, hf⟩
  · refine sb_ic_lt hm dX5_push_13 (tgt := 23) rfl (fun _ => ?_) (fun z => absurd c14 z)
    refine mx_S.pu (pc2 := 24) (lv2 := [(2, .int v3), (0, .ref a0), (1, .int a1)]) (st2 := [.ref a0]) hm dX5_push_23 rfl ?_
    replace hf := mx_sv_el hf; obtain ⟨v4, e_v4, hf⟩ := hf
    refine sx_get hm dX5_push_24 rs_RX5_38 (xgr_el e_v4) ?_
    clear e_v4
    refine mx_S.pu (pc2 := 28) (lv2 := [(2, .int v3), (0, .ref a0), (1, .int a1)]) (st2 := [.ref a0, .ref v4]) hm dX5_push_27 rfl ?_
    replace hf := mx_sv_el hf; obtain ⟨v5, e_v5, hf⟩ := hf
    refine sx_get hm dX5_push_28 rs_RX5_97 (xgi_el e_v5) ?_
    clear e_v5
    refine sx_bi (v := 30) hm dX5_push_31 (by decide) ?_
    replace hf := xl_el hf; obtain ⟨v6, e_v6, hf⟩ := hf
    refine mx_S.pu (pc2 := 34) (lv2 := [(2, .int v3), (0, .ref a0), (1, .int a1)]) (st2 := [.int v6, .ref v4]) hm dX5_push_33 (by rw [← e_v6]; rfl) ?_
    clear e_v6
    refine mx_S.pu (pc2 := 35) (lv2 := [(2, .int v3), (0, .ref a0), (1, .int a1)]) (st2 := [.int v3, .int v6, .ref v4]) hm dX5_push_34 rfl ?_
    replace hf := xl_el hf; obtain ⟨v7, e_v7, hf⟩ := hf
    refine mx_S.pu (pc2 := 36) (lv2 := [(2, .int v3), (0, .ref a0), (1, .int a1)]) (st2 := [.int v7, .ref v4]) hm dX5_push_35 (by rw [← e_v7]; rfl) ?_
    clear e_v7
    refine mx_S.pu (pc2 := 37) (lv2 := [(2, .int v3), (0, .ref a0), (1, .int a1)]) (st2 := [.int a1, .int v7, .ref v4]) hm dX5_push_36 rfl ?_
    replace hf := mx_sv_el hf; obtain ⟨h8, e_h8, hf⟩ := hf
    refine sx_ast hm dX5_push_37 e_h8 ?_
    clear e_h8
    refine mx_S.pu (pc2 := 39) (lv2 := [(2, .int v3), (0, .ref a0), (1, .int a1)]) (st2 := [.ref a0]) hm dX5_push_38 rfl ?_
    replace hf := mx_sv_el hf; obtain ⟨v9, e_v9, hf⟩ := hf
    refine sx_get hm dX5_push_39 rs_RX5_32 (xgr_el e_v9) ?_
    clear e_v9
    refine mx_S.pu (pc2 := 43) (lv2 := [(2, .int v3), (0, .ref a0), (1, .int a1)]) (st2 := [.ref a0, .ref v9]) hm dX5_push_42 rfl ?_
    replace hf := mx_sv_el hf; obtain ⟨v10, e_v10, hf⟩ := hf
    refine sx_get hm dX5_push_43 rs_RX5_97 (xgi_el e_v10) ?_
    clear e_v10
    refine mx_S.pu (pc2 := 47) (lv2 := [(2, .int v3), (0, .ref a0), (1, .int a1)]) (st2 := [.int v3, .int v10, .ref v9]) hm dX5_push_46 rfl ?_
    refine sx_ic (v := 1) hm dX5_push_47 (by decide) ?_
    replace hf := xl_el hf; obtain ⟨v11, e_v11, hf⟩ := hf
    refine mx_S.pu (pc2 := 49) (lv2 := [(2, .int v3), (0, .ref a0), (1, .int a1)]) (st2 := [.int v11, .int v10, .ref v9]) hm dX5_push_48 (by rw [← e_v11]; rfl) ?_
    clear e_v11
    replace hf := mx_sv_el hf; obtain ⟨h12, e_h12, hf⟩ := hf
    refine sx_ast hm dX5_push_49 e_h12 ?_
    clear e_h12
    cases hf
    exact sx_ret hm dX5_push_50 rfl
  · refine sb_ic_lt hm dX5_push_13 (tgt := 23) rfl (fun z => absurd z c14) (fun _ => ?_)
    refine mx_S.pu (pc2 := 17) (lv2 := [(2, .int v3), (0, .ref a0), (1, .int a1)]) (st2 := [.ref a0]) hm dX5_push_16 rfl ?_
    refine sx_bi (v := 6) hm dX5_push_17 (by decide) ?_
    replace hf := mx_sv_el hf; obtain ⟨h13, e_h13, hf⟩ := hf
    refine sx_put hm dX5_push_19 rs_RX5_54 ft_5_1 ⟨rfl, rfl⟩ (fun z => by cases z) e_h13 ?_
    clear e_h13
    cases hf
    exact sx_ret hm dX5_push_22 rfl
set_option maxHeartbeats 4000000 in
set_option maxRecDepth 20000 in
theorem f_X5_give_ok (X : Nat × (Nat → Int32)) {F L : Nat} (hF : 1 ≤ F) (hL : 22 ≤ L) (nn : Nat) (a0 : Nat) (a1 : Int32) (a2 : Int32) (h : mx_H) {r : mx_H} (hf : f_X5_give nn a0 a1 a2 h = some r) : mx_R X F L 155 [.ref a0, .int a1, .int a2] h (none, r, 0, 0) := by
  have hm : mx_mt 155 = some (yX5_give, cX5_give, 3, none) := mt_X5_give
  show mx_S X F L 155 0 [(0, .ref a0), (1, .int a1), (2, .int a2)] [] h 0 0 (none, r, 0, 0)
  unfold f_X5_give at hf
  refine mx_S.pu (pc2 := 1) (lv2 := [(0, .ref a0), (1, .int a1), (2, .int a2)]) (st2 := [.ref a0]) hm dX5_give_0 rfl ?_
  refine mx_S.pu (pc2 := 2) (lv2 := [(0, .ref a0), (1, .int a1), (2, .int a2)]) (st2 := [.int a1, .ref a0]) hm dX5_give_1 rfl ?_
  replace hf := mx_gd_el hf; obtain ⟨c1, hf⟩ := hf
  replace hf := mx_sv_el hf; obtain ⟨u2, e_u2, hf⟩ := hf
  refine sx_cv hm dX5_give_2 rs_RX5_135 mt_X5_push [.int a1] [] (b := a0) (ci := 5) rfl rfl rfl c1 (Nat.le_of_ble_eq_true rfl) (Nat.le_of_ble_eq_true rfl) (by omega) (by omega) (f_X5_push_ok X (by omega) (by omega) nn a0 a1 h e_u2) ?_
  clear e_u2
  show mx_S X F L 155 5 [(0, .ref a0), (1, .int a1), (2, .int a2)] [] u2 0 0 (none, r, 0, 0)
  refine mx_S.pu (pc2 := 6) (lv2 := [(0, .ref a0), (1, .int a1), (2, .int a2)]) (st2 := [.ref a0]) hm dX5_give_5 rfl ?_
  refine mx_S.pu (pc2 := 7) (lv2 := [(0, .ref a0), (1, .int a1), (2, .int a2)]) (st2 := [.int a2, .ref a0]) hm dX5_give_6 rfl ?_
  replace hf := mx_gd_el hf; obtain ⟨c3, hf⟩ := hf
  replace hf := mx_sv_el hf; obtain ⟨u4, e_u4, hf⟩ := hf
  refine sx_cv hm dX5_give_7 rs_RX5_138 mt_X5_goOn [.int a2] [] (b := a0) (ci := 5) rfl rfl rfl c3 (Nat.le_of_ble_eq_true rfl) (Nat.le_of_ble_eq_true rfl) (by omega) (by omega) (f_X5_goOn_ok X (by omega) (by omega) nn a0 a2 u2 e_u4) ?_
  clear e_u4
  show mx_S X F L 155 10 [(0, .ref a0), (1, .int a1), (2, .int a2)] [] u4 0 0 (none, r, 0, 0)
  cases hf
  exact sx_ret hm dX5_give_10 rfl
set_option maxHeartbeats 4000000 in
set_option maxRecDepth 20000 in
theorem f_X7_link_ok (X : Nat × (Nat → Int32)) {F L : Nat} (hF : 0 ≤ F) (hL : 0 ≤ L) (nn : Nat) (a0 : Nat) (a1 : Int32) (a2 : Int32) (h : mx_H) {r : (Int32 × mx_H)} (hf : f_X7_link nn a0 a1 a2 h = some r) : mx_R X F L 216 [.ref a0, .int a1, .int a2] h (some (.int r.1), r.2, 0, 0) := by
  have hm : mx_mt 216 = some (yX7_link, cX7_link, 3, (some .int)) := mt_X7_link
  show mx_S X F L 216 0 [(0, .ref a0), (1, .int a1), (2, .int a2)] [] h 0 0 (some (.int r.1), r.2, 0, 0)
  unfold f_X7_link at hf
  refine mx_S.pu (pc2 := 1) (lv2 := [(0, .ref a0), (1, .int a1), (2, .int a2)]) (st2 := [.int a1]) hm dX7_link_0 rfl ?_
  rcases mx_if_el hf with ⟨c8, hf⟩ | ⟨c8, hf⟩
  · refine sb_if_lt hm dX7_link_1 (tgt := 36) rfl (fun _ => ?_) (fun z => absurd c8 z)
    refine sx_ic (v := (-1)) hm dX7_link_36 (by decide) ?_
    cases hf
    exact sx_ire hm dX7_link_37 rfl rfl
  · refine sb_if_lt hm dX7_link_1 (tgt := 36) rfl (fun z => absurd z c8) (fun _ => ?_)
    refine mx_S.pu (pc2 := 5) (lv2 := [(0, .ref a0), (1, .int a1), (2, .int a2)]) (st2 := [.int a1]) hm dX7_link_4 rfl ?_
    refine sx_bi (v := 8) hm dX7_link_5 (by decide) ?_
    rcases mx_if_el hf with ⟨c7, hf⟩ | ⟨c7, hf⟩
    · refine sb_ic_ge hm dX7_link_7 (tgt := 36) rfl (fun _ => ?_) (fun z => absurd c7 z)
      refine sx_ic (v := (-1)) hm dX7_link_36 (by decide) ?_
      cases hf
      exact sx_ire hm dX7_link_37 rfl rfl
    · refine sb_ic_ge hm dX7_link_7 (tgt := 36) rfl (fun z => absurd z c7) (fun _ => ?_)
      refine mx_S.pu (pc2 := 11) (lv2 := [(0, .ref a0), (1, .int a1), (2, .int a2)]) (st2 := [.int a2]) hm dX7_link_10 rfl ?_
      rcases mx_if_el hf with ⟨c6, hf⟩ | ⟨c6, hf⟩
      · refine sb_if_lt hm dX7_link_11 (tgt := 36) rfl (fun _ => ?_) (fun z => absurd c6 z)
        refine sx_ic (v := (-1)) hm dX7_link_36 (by decide) ?_
        cases hf
        exact sx_ire hm dX7_link_37 rfl rfl
      · refine sb_if_lt hm dX7_link_11 (tgt := 36) rfl (fun z => absurd z c6) (fun _ => ?_)
        refine mx_S.pu (pc2 := 15) (lv2 := [(0, .ref a0), (1, .int a1), (2, .int a2)]) (st2 := [.int a2]) hm dX7_link_14 rfl ?_
        refine sx_si (v := 256) hm dX7_link_15 (by decide) ?_
        rcases mx_if_el hf with ⟨c5, hf⟩ | ⟨c5, hf⟩
        · refine sb_ic_ge hm dX7_link_18 (tgt := 36) rfl (fun _ => ?_) (fun z => absurd c5 z)
          refine sx_ic (v := (-1)) hm dX7_link_36 (by decide) ?_
          cases hf
          exact sx_ire hm dX7_link_37 rfl rfl
        · refine sb_ic_ge hm dX7_link_18 (tgt := 36) rfl (fun z => absurd z c5) (fun _ => ?_)
          refine mx_S.pu (pc2 := 22) (lv2 := [(0, .ref a0), (1, .int a1), (2, .int a2)]) (st2 := [.ref a0]) hm dX7_link_21 rfl ?_
          replace hf := mx_sv_el hf; obtain ⟨v1, e_v1, hf⟩ := hf
          refine sx_get hm dX7_link_22 rs_RX7_31 (xgr_el e_v1) ?_
          clear e_v1
          refine mx_S.pu (pc2 := 26) (lv2 := [(0, .ref a0), (1, .int a1), (2, .int a2)]) (st2 := [.int a1, .ref v1]) hm dX7_link_25 rfl ?_
          refine sx_si (v := 256) hm dX7_link_26 (by decide) ?_
          replace hf := xl_el hf; obtain ⟨v2, e_v2, hf⟩ := hf
          refine mx_S.pu (pc2 := 30) (lv2 := [(0, .ref a0), (1, .int a1), (2, .int a2)]) (st2 := [.int v2, .ref v1]) hm dX7_link_29 (by rw [← e_v2]; rfl) ?_
          clear e_v2
          refine mx_S.pu (pc2 := 31) (lv2 := [(0, .ref a0), (1, .int a1), (2, .int a2)]) (st2 := [.int a2, .int v2, .ref v1]) hm dX7_link_30 rfl ?_
          replace hf := xl_el hf; obtain ⟨v3, e_v3, hf⟩ := hf
          refine mx_S.pu (pc2 := 32) (lv2 := [(0, .ref a0), (1, .int a1), (2, .int a2)]) (st2 := [.int v3, .ref v1]) hm dX7_link_31 (by rw [← e_v3]; rfl) ?_
          clear e_v3
          replace hf := mx_sv_el hf; obtain ⟨v4, e_v4, hf⟩ := hf
          refine sx_ald hm dX7_link_32 e_v4 ?_
          clear e_v4
          refine mx_S.pu (pc2 := 37) (lv2 := [(0, .ref a0), (1, .int a1), (2, .int a2)]) (st2 := [.int v4]) hm dX7_link_33 rfl ?_
          cases hf
          exact sx_ire hm dX7_link_37 rfl rfl
set_option maxHeartbeats 4000000 in
set_option maxRecDepth 20000 in
theorem f_X5_link_ok (X : Nat × (Nat → Int32)) {F L : Nat} (hF : 1 ≤ F) (hL : 22 ≤ L) (nn : Nat) (a0 : Nat) (a1 : Int32) (h : mx_H) {r : (Int32 × mx_H)} (hf : f_X5_link nn a0 a1 h = some r) : mx_R X F L 151 [.ref a0, .int a1] h (some (.int r.1), r.2, 0, 0) := by
  have hm : mx_mt 151 = some (yX5_link, cX5_link, 2, (some .int)) := mt_X5_link
  show mx_S X F L 151 0 [(0, .ref a0), (1, .int a1)] [] h 0 0 (some (.int r.1), r.2, 0, 0)
  unfold f_X5_link at hf
  refine mx_S.pu (pc2 := 1) (lv2 := [(0, .ref a0), (1, .int a1)]) (st2 := [.ref a0]) hm dX5_link_0 rfl ?_
  replace hf := mx_sv_el hf; obtain ⟨v1, e_v1, hf⟩ := hf
  refine sx_get hm dX5_link_1 rs_RX5_41 (xgr_el e_v1) ?_
  clear e_v1
  refine mx_S.pu (pc2 := 5) (lv2 := [(0, .ref a0), (1, .int a1)]) (st2 := [.ref a0, .ref v1]) hm dX5_link_4 rfl ?_
  replace hf := mx_sv_el hf; obtain ⟨v2, e_v2, hf⟩ := hf
  refine sx_get hm dX5_link_5 rs_RX5_26 (xgr_el e_v2) ?_
  clear e_v2
  refine mx_S.pu (pc2 := 9) (lv2 := [(0, .ref a0), (1, .int a1)]) (st2 := [.ref a0, .ref v2, .ref v1]) hm dX5_link_8 rfl ?_
  replace hf := mx_sv_el hf; obtain ⟨v3, e_v3, hf⟩ := hf
  refine sx_get hm dX5_link_9 rs_RX5_97 (xgi_el e_v3) ?_
  clear e_v3
  replace hf := mx_sv_el hf; obtain ⟨v4, e_v4, hf⟩ := hf
  refine sx_ald hm dX5_link_12 e_v4 ?_
  clear e_v4
  refine sx_bi (v := 12) hm dX5_link_13 (by decide) ?_
  replace hf := xl_el hf; obtain ⟨v5, e_v5, hf⟩ := hf
  refine sx_idiv (v := v5) hm dX5_link_15 (by decide) e_v5 ?_
  clear e_v5
  refine mx_S.pu (pc2 := 17) (lv2 := [(0, .ref a0), (1, .int a1)]) (st2 := [.int a1, .int v5, .ref v1]) hm dX5_link_16 rfl ?_
  replace hf := mx_gd_el hf; obtain ⟨c6, hf⟩ := hf
  replace hf := mx_sv_el hf; obtain ⟨u7, e_u7, hf⟩ := hf
  refine sx_cv hm dX5_link_17 rs_RX5_132 mt_X7_link [.int v5, .int a1] [] (b := v1) (ci := 7) rfl rfl rfl c6 (Nat.le_of_ble_eq_true rfl) (Nat.le_of_ble_eq_true rfl) (by omega) (by omega) (f_X7_link_ok X (by omega) (by omega) nn v1 v5 a1 h e_u7) ?_
  clear e_u7
  show mx_S X F L 151 20 [(0, .ref a0), (1, .int a1)] [.int u7.1] u7.2 0 0 (some (.int r.1), r.2, 0, 0)
  cases hf
  exact sx_ire hm dX5_link_20 rfl rfl
set_option maxHeartbeats 4000000 in
set_option maxRecDepth 20000 in
theorem f_X5_pop_ok (X : Nat × (Nat → Int32)) {F L : Nat} (hF : 0 ≤ F) (hL : 0 ≤ L) (nn : Nat) (a0 : Nat) (h : mx_H) {r : (Int32 × mx_H)} (hf : f_X5_pop nn a0 h = some r) : mx_R X F L 153 [.ref a0] h (some (.int r.1), r.2, 0, 0) := by
  have hm : mx_mt 153 = some (yX5_pop, cX5_pop, 2, (some .int)) := mt_X5_pop
  show mx_S X F L 153 0 [(0, .ref a0)] [] h 0 0 (some (.int r.1), r.2, 0, 0)
  unfold f_X5_pop at hf
  refine mx_S.pu (pc2 := 1) (lv2 := [(0, .ref a0)]) (st2 := [.ref a0]) hm dX5_pop_0 rfl ?_
  replace hf := mx_sv_el hf; obtain ⟨v1, e_v1, hf⟩ := hf
  refine sx_get hm dX5_pop_1 rs_RX5_32 (xgr_el e_v1) ?_
  clear e_v1
  refine mx_S.pu (pc2 := 5) (lv2 := [(0, .ref a0)]) (st2 := [.ref a0, .ref v1]) hm dX5_pop_4 rfl ?_
  replace hf := mx_sv_el hf; obtain ⟨v2, e_v2, hf⟩ := hf
  refine sx_get hm dX5_pop_5 rs_RX5_97 (xgi_el e_v2) ?_
  clear e_v2
  replace hf := mx_sv_el hf; obtain ⟨v3, e_v3, hf⟩ := hf
  refine sx_ald hm dX5_pop_8 e_v3 ?_
  clear e_v3
  refine sx_ic (v := 1) hm dX5_pop_9 (by decide) ?_
  replace hf := xl_el hf; obtain ⟨v4, e_v4, hf⟩ := hf
  refine mx_S.pu (pc2 := 11) (lv2 := [(0, .ref a0)]) (st2 := [.int v4]) hm dX5_pop_10 (by rw [← e_v4]; rfl) ?_
  clear e_v4
  refine mx_S.pu (pc2 := 12) (lv2 := [(1, .int v4), (0, .ref a0)]) (st2 := []) hm dX5_pop_11 rfl ?_
  refine mx_S.pu (pc2 := 13) (lv2 := [(1, .int v4), (0, .ref a0)]) (st2 := [.int v4]) hm dX5_pop_12 rfl ?_
  rcases mx_if_el hf with ⟨c14, hf⟩ | ⟨c14, hf⟩
  · refine sb_if_ge hm dX5_pop_13 (tgt := 24) rfl (fun _ => ?_) (fun z => absurd c14 z)
    refine mx_S.pu (pc2 := 25) (lv2 := [(1, .int v4), (0, .ref a0)]) (st2 := [.ref a0]) hm dX5_pop_24 rfl ?_
    replace hf := mx_sv_el hf; obtain ⟨v5, e_v5, hf⟩ := hf
    refine sx_get hm dX5_pop_25 rs_RX5_32 (xgr_el e_v5) ?_
    clear e_v5
    refine mx_S.pu (pc2 := 29) (lv2 := [(1, .int v4), (0, .ref a0)]) (st2 := [.ref a0, .ref v5]) hm dX5_pop_28 rfl ?_
    replace hf := mx_sv_el hf; obtain ⟨v6, e_v6, hf⟩ := hf
    refine sx_get hm dX5_pop_29 rs_RX5_97 (xgi_el e_v6) ?_
    clear e_v6
    refine mx_S.pu (pc2 := 33) (lv2 := [(1, .int v4), (0, .ref a0)]) (st2 := [.int v4, .int v6, .ref v5]) hm dX5_pop_32 rfl ?_
    replace hf := mx_sv_el hf; obtain ⟨h7, e_h7, hf⟩ := hf
    refine sx_ast hm dX5_pop_33 e_h7 ?_
    clear e_h7
    refine mx_S.pu (pc2 := 35) (lv2 := [(1, .int v4), (0, .ref a0)]) (st2 := [.ref a0]) hm dX5_pop_34 rfl ?_
    replace hf := mx_sv_el hf; obtain ⟨v8, e_v8, hf⟩ := hf
    refine sx_get hm dX5_pop_35 rs_RX5_38 (xgr_el e_v8) ?_
    clear e_v8
    refine mx_S.pu (pc2 := 39) (lv2 := [(1, .int v4), (0, .ref a0)]) (st2 := [.ref a0, .ref v8]) hm dX5_pop_38 rfl ?_
    replace hf := mx_sv_el hf; obtain ⟨v9, e_v9, hf⟩ := hf
    refine sx_get hm dX5_pop_39 rs_RX5_97 (xgi_el e_v9) ?_
    clear e_v9
    refine sx_bi (v := 30) hm dX5_pop_42 (by decide) ?_
    replace hf := xl_el hf; obtain ⟨v10, e_v10, hf⟩ := hf
    refine mx_S.pu (pc2 := 45) (lv2 := [(1, .int v4), (0, .ref a0)]) (st2 := [.int v10, .ref v8]) hm dX5_pop_44 (by rw [← e_v10]; rfl) ?_
    clear e_v10
    refine mx_S.pu (pc2 := 46) (lv2 := [(1, .int v4), (0, .ref a0)]) (st2 := [.int v4, .int v10, .ref v8]) hm dX5_pop_45 rfl ?_
    replace hf := xl_el hf; obtain ⟨v11, e_v11, hf⟩ := hf
    refine mx_S.pu (pc2 := 47) (lv2 := [(1, .int v4), (0, .ref a0)]) (st2 := [.int v11, .ref v8]) hm dX5_pop_46 (by rw [← e_v11]; rfl) ?_
    clear e_v11
    replace hf := mx_sv_el hf; obtain ⟨v12, e_v12, hf⟩ := hf
    refine sx_ald hm dX5_pop_47 e_v12 ?_
    clear e_v12
    cases hf
    exact sx_ire hm dX5_pop_48 rfl rfl
  · refine sb_if_ge hm dX5_pop_13 (tgt := 24) rfl (fun z => absurd z c14) (fun _ => ?_)
    refine mx_S.pu (pc2 := 17) (lv2 := [(1, .int v4), (0, .ref a0)]) (st2 := [.ref a0]) hm dX5_pop_16 rfl ?_
    refine sx_bi (v := 6) hm dX5_pop_17 (by decide) ?_
    replace hf := mx_sv_el hf; obtain ⟨h13, e_h13, hf⟩ := hf
    refine sx_put hm dX5_pop_19 rs_RX5_54 ft_5_1 ⟨rfl, rfl⟩ (fun z => by cases z) e_h13 ?_
    clear e_h13
    refine sx_ic (v := 0) hm dX5_pop_22 (by decide) ?_
    cases hf
    exact sx_ire hm dX5_pop_23 rfl rfl
set_option maxHeartbeats 4000000 in
set_option maxRecDepth 20000 in
theorem j_X5_computed_204_ok (X : Nat × (Nat → Int32)) {F L : Nat} (hF : 0 ≤ F) (hL : 0 ≤ L) (nn : Nat) (l1 : Int32) (l2 : Int32) (h : mx_H) {r : (Int32 × mx_H)} (hf : j_X5_computed_204 nn l1 l2 h = some r) : mx_S X F L 159 204 [(1, .int l1), (2, .int l2)] [] h 0 0 (some (.int r.1), r.2, 0, 0) := by
  have hm : mx_mt 159 = some (yX5_computed, cX5_computed, 3, (some .int)) := mt_X5_computed
  unfold j_X5_computed_204 at hf
  refine mx_S.pu (pc2 := 205) (lv2 := [(1, .int l1), (2, .int l2)]) (st2 := [.int l1]) hm dX5_computed_204 rfl ?_
  refine mx_S.pu (pc2 := 206) (lv2 := [(1, .int l1), (2, .int l2)]) (st2 := [.int l2, .int l1]) hm dX5_computed_205 rfl ?_
  replace hf := xl_el hf; obtain ⟨v1, e_v1, hf⟩ := hf
  refine mx_S.pu (pc2 := 207) (lv2 := [(1, .int l1), (2, .int l2)]) (st2 := [.int v1]) hm dX5_computed_206 (by rw [← e_v1]; rfl) ?_
  clear e_v1
  cases hf
  exact sx_ire hm dX5_computed_207 rfl rfl
set_option maxHeartbeats 4000000 in
set_option maxRecDepth 20000 in
theorem f_X5_computed_ok (X : Nat × (Nat → Int32)) {F L : Nat} (hF : 0 ≤ F) (hL : 0 ≤ L) (nn : Nat) (a0 : Int32) (a1 : Int32) (a2 : Int32) (h : mx_H) {r : (Int32 × mx_H)} (hf : f_X5_computed nn a0 a1 a2 h = some r) : mx_R X F L 159 [.int a0, .int a1, .int a2] h (some (.int r.1), r.2, 0, 0) := by
  have hm : mx_mt 159 = some (yX5_computed, cX5_computed, 3, (some .int)) := mt_X5_computed
  show mx_S X F L 159 0 [(0, .int a0), (1, .int a1), (2, .int a2)] [] h 0 0 (some (.int r.1), r.2, 0, 0)
  unfold f_X5_computed at hf
  refine mx_S.pu (pc2 := 1) (lv2 := [(0, .int a0), (1, .int a1), (2, .int a2)]) (st2 := [.int a0]) hm dX5_computed_0 rfl ?_
  rcases mx_if_el hf with ⟨n_0, hf⟩ | ⟨n_0, hf⟩
  · refine sx_tin hm dX5_computed_1 (by rw [n_0]; decide) (by rw [n_0]; decide) (off := 147) (by rw [n_0]; rfl) (tgt := 148) rfl ?_
    clear n_0
    refine mx_S.pu (pc2 := 149) (lv2 := [(0, .int a0), (1, .int a1), (2, .int a2)]) (st2 := [.int a1]) hm dX5_computed_148 rfl ?_
    refine mx_S.pu (pc2 := 150) (lv2 := [(0, .int a0), (1, .int a1), (2, .int a2)]) (st2 := [.int a2, .int a1]) hm dX5_computed_149 rfl ?_
    replace hf := xl_el hf; obtain ⟨v2, e_v2, hf⟩ := hf
    refine mx_S.pu (pc2 := 151) (lv2 := [(0, .int a0), (1, .int a1), (2, .int a2)]) (st2 := [.int v2]) hm dX5_computed_150 (by rw [← e_v2]; rfl) ?_
    clear e_v2
    cases hf
    exact sx_ire hm dX5_computed_151 rfl rfl
  · rcases mx_if_el hf with ⟨n_1, hf⟩ | ⟨n_1, hf⟩
    · refine sx_tin hm dX5_computed_1 (by rw [n_1]; decide) (by rw [n_1]; decide) (off := 151) (by rw [n_1]; rfl) (tgt := 152) rfl ?_
      clear n_0 n_1
      refine mx_S.pu (pc2 := 153) (lv2 := [(0, .int a0), (1, .int a1), (2, .int a2)]) (st2 := [.int a1]) hm dX5_computed_152 rfl ?_
      refine mx_S.pu (pc2 := 154) (lv2 := [(0, .int a0), (1, .int a1), (2, .int a2)]) (st2 := [.int a2, .int a1]) hm dX5_computed_153 rfl ?_
      replace hf := xl_el hf; obtain ⟨v3, e_v3, hf⟩ := hf
      refine mx_S.pu (pc2 := 155) (lv2 := [(0, .int a0), (1, .int a1), (2, .int a2)]) (st2 := [.int v3]) hm dX5_computed_154 (by rw [← e_v3]; rfl) ?_
      clear e_v3
      cases hf
      exact sx_ire hm dX5_computed_155 rfl rfl
    · rcases mx_if_el hf with ⟨n_2, hf⟩ | ⟨n_2, hf⟩
      · refine sx_tin hm dX5_computed_1 (by rw [n_2]; decide) (by rw [n_2]; decide) (off := 155) (by rw [n_2]; rfl) (tgt := 156) rfl ?_
        clear n_0 n_1 n_2
        refine mx_S.pu (pc2 := 157) (lv2 := [(0, .int a0), (1, .int a1), (2, .int a2)]) (st2 := [.int a1]) hm dX5_computed_156 rfl ?_
        refine mx_S.pu (pc2 := 158) (lv2 := [(0, .int a0), (1, .int a1), (2, .int a2)]) (st2 := [.int a2, .int a1]) hm dX5_computed_157 rfl ?_
        replace hf := xl_el hf; obtain ⟨v4, e_v4, hf⟩ := hf
        refine mx_S.pu (pc2 := 159) (lv2 := [(0, .int a0), (1, .int a1), (2, .int a2)]) (st2 := [.int v4]) hm dX5_computed_158 (by rw [← e_v4]; rfl) ?_
        clear e_v4
        cases hf
        exact sx_ire hm dX5_computed_159 rfl rfl
      · rcases mx_if_el hf with ⟨n_3, hf⟩ | ⟨n_3, hf⟩
        · refine sx_tin hm dX5_computed_1 (by rw [n_3]; decide) (by rw [n_3]; decide) (off := 159) (by rw [n_3]; rfl) (tgt := 160) rfl ?_
          clear n_0 n_1 n_2 n_3
          refine mx_S.pu (pc2 := 161) (lv2 := [(0, .int a0), (1, .int a1), (2, .int a2)]) (st2 := [.int a2]) hm dX5_computed_160 rfl ?_
          rcases mx_if_el hf with ⟨c6, hf⟩ | ⟨c6, hf⟩
          · refine sb_if_ne hm dX5_computed_161 (tgt := 168) rfl (fun _ => ?_) (fun z => absurd c6 z)
            refine mx_S.pu (pc2 := 169) (lv2 := [(0, .int a0), (1, .int a1), (2, .int a2)]) (st2 := [.int a1]) hm dX5_computed_168 rfl ?_
            refine mx_S.pu (pc2 := 170) (lv2 := [(0, .int a0), (1, .int a1), (2, .int a2)]) (st2 := [.int a2, .int a1]) hm dX5_computed_169 rfl ?_
            replace hf := mx_if_el hf; obtain ⟨q_v5, hf⟩ := Or.resolve_left hf (fun z => by cases z.2)
            replace hf := xl_el hf; obtain ⟨v5, e_v5, hf⟩ := hf
            refine sx_idiv (v := v5) hm dX5_computed_170 q_v5 e_v5 ?_
            clear e_v5 q_v5
            cases hf
            exact sx_ire hm dX5_computed_171 rfl rfl
          · refine sb_if_ne hm dX5_computed_161 (tgt := 168) rfl (fun z => absurd z c6) (fun _ => ?_)
            refine sx_ic (v := 0) hm dX5_computed_164 (by decide) ?_
            refine mx_S.pu (pc2 := 171) (lv2 := [(0, .int a0), (1, .int a1), (2, .int a2)]) (st2 := [.int 0]) hm dX5_computed_165 rfl ?_
            cases hf
            exact sx_ire hm dX5_computed_171 rfl rfl
        · rcases mx_if_el hf with ⟨n_4, hf⟩ | ⟨n_4, hf⟩
          · refine sx_tin hm dX5_computed_1 (by rw [n_4]; decide) (by rw [n_4]; decide) (off := 171) (by rw [n_4]; rfl) (tgt := 172) rfl ?_
            clear n_0 n_1 n_2 n_3 n_4
            refine mx_S.pu (pc2 := 173) (lv2 := [(0, .int a0), (1, .int a1), (2, .int a2)]) (st2 := [.int a2]) hm dX5_computed_172 rfl ?_
            rcases mx_if_el hf with ⟨c8, hf⟩ | ⟨c8, hf⟩
            · refine sb_if_ne hm dX5_computed_173 (tgt := 180) rfl (fun _ => ?_) (fun z => absurd c8 z)
              refine mx_S.pu (pc2 := 181) (lv2 := [(0, .int a0), (1, .int a1), (2, .int a2)]) (st2 := [.int a1]) hm dX5_computed_180 rfl ?_
              refine mx_S.pu (pc2 := 182) (lv2 := [(0, .int a0), (1, .int a1), (2, .int a2)]) (st2 := [.int a2, .int a1]) hm dX5_computed_181 rfl ?_
              replace hf := mx_if_el hf; obtain ⟨q_v7, hf⟩ := Or.resolve_left hf (fun z => by cases z.2)
              replace hf := xl_el hf; obtain ⟨v7, e_v7, hf⟩ := hf
              refine sx_irem (v := v7) hm dX5_computed_182 q_v7 e_v7 ?_
              clear e_v7 q_v7
              cases hf
              exact sx_ire hm dX5_computed_183 rfl rfl
            · refine sb_if_ne hm dX5_computed_173 (tgt := 180) rfl (fun z => absurd z c8) (fun _ => ?_)
              refine sx_ic (v := 0) hm dX5_computed_176 (by decide) ?_
              refine mx_S.pu (pc2 := 183) (lv2 := [(0, .int a0), (1, .int a1), (2, .int a2)]) (st2 := [.int 0]) hm dX5_computed_177 rfl ?_
              cases hf
              exact sx_ire hm dX5_computed_183 rfl rfl
          · rcases mx_if_el hf with ⟨n_5, hf⟩ | ⟨n_5, hf⟩
            · refine sx_tin hm dX5_computed_1 (by rw [n_5]; decide) (by rw [n_5]; decide) (off := 183) (by rw [n_5]; rfl) (tgt := 184) rfl ?_
              clear n_0 n_1 n_2 n_3 n_4 n_5
              refine mx_S.pu (pc2 := 185) (lv2 := [(0, .int a0), (1, .int a1), (2, .int a2)]) (st2 := [.int a1]) hm dX5_computed_184 rfl ?_
              refine mx_S.pu (pc2 := 186) (lv2 := [(0, .int a0), (1, .int a1), (2, .int a2)]) (st2 := [.int a2, .int a1]) hm dX5_computed_185 rfl ?_
              replace hf := xl_el hf; obtain ⟨v9, e_v9, hf⟩ := hf
              refine mx_S.pu (pc2 := 187) (lv2 := [(0, .int a0), (1, .int a1), (2, .int a2)]) (st2 := [.int v9]) hm dX5_computed_186 (by rw [← e_v9]; rfl) ?_
              clear e_v9
              cases hf
              exact sx_ire hm dX5_computed_187 rfl rfl
            · rcases mx_if_el hf with ⟨n_6, hf⟩ | ⟨n_6, hf⟩
              · refine sx_tin hm dX5_computed_1 (by rw [n_6]; decide) (by rw [n_6]; decide) (off := 187) (by rw [n_6]; rfl) (tgt := 188) rfl ?_
                clear n_0 n_1 n_2 n_3 n_4 n_5 n_6
                refine mx_S.pu (pc2 := 189) (lv2 := [(0, .int a0), (1, .int a1), (2, .int a2)]) (st2 := [.int a1]) hm dX5_computed_188 rfl ?_
                refine mx_S.pu (pc2 := 190) (lv2 := [(0, .int a0), (1, .int a1), (2, .int a2)]) (st2 := [.int a2, .int a1]) hm dX5_computed_189 rfl ?_
                replace hf := xl_el hf; obtain ⟨v10, e_v10, hf⟩ := hf
                refine mx_S.pu (pc2 := 191) (lv2 := [(0, .int a0), (1, .int a1), (2, .int a2)]) (st2 := [.int v10]) hm dX5_computed_190 (by rw [← e_v10]; rfl) ?_
                clear e_v10
                cases hf
                exact sx_ire hm dX5_computed_191 rfl rfl
              · rcases mx_if_el hf with ⟨n_7, hf⟩ | ⟨n_7, hf⟩
                · refine sx_tin hm dX5_computed_1 (by rw [n_7]; decide) (by rw [n_7]; decide) (off := 191) (by rw [n_7]; rfl) (tgt := 192) rfl ?_
                  clear n_0 n_1 n_2 n_3 n_4 n_5 n_6 n_7
                  refine mx_S.pu (pc2 := 193) (lv2 := [(0, .int a0), (1, .int a1), (2, .int a2)]) (st2 := [.int a1]) hm dX5_computed_192 rfl ?_
                  refine mx_S.pu (pc2 := 194) (lv2 := [(0, .int a0), (1, .int a1), (2, .int a2)]) (st2 := [.int a2, .int a1]) hm dX5_computed_193 rfl ?_
                  replace hf := xl_el hf; obtain ⟨v11, e_v11, hf⟩ := hf
                  refine mx_S.pu (pc2 := 195) (lv2 := [(0, .int a0), (1, .int a1), (2, .int a2)]) (st2 := [.int v11]) hm dX5_computed_194 (by rw [← e_v11]; rfl) ?_
                  clear e_v11
                  cases hf
                  exact sx_ire hm dX5_computed_195 rfl rfl
                · rcases mx_if_el hf with ⟨n_8, hf⟩ | ⟨n_8, hf⟩
                  · refine sx_tin hm dX5_computed_1 (by rw [n_8]; decide) (by rw [n_8]; decide) (off := 195) (by rw [n_8]; rfl) (tgt := 196) rfl ?_
                    clear n_0 n_1 n_2 n_3 n_4 n_5 n_6 n_7 n_8
                    refine mx_S.pu (pc2 := 197) (lv2 := [(0, .int a0), (1, .int a1), (2, .int a2)]) (st2 := [.int a1]) hm dX5_computed_196 rfl ?_
                    refine mx_S.pu (pc2 := 198) (lv2 := [(0, .int a0), (1, .int a1), (2, .int a2)]) (st2 := [.int a2, .int a1]) hm dX5_computed_197 rfl ?_
                    replace hf := xl_el hf; obtain ⟨v12, e_v12, hf⟩ := hf
                    refine mx_S.pu (pc2 := 199) (lv2 := [(0, .int a0), (1, .int a1), (2, .int a2)]) (st2 := [.int v12]) hm dX5_computed_198 (by rw [← e_v12]; rfl) ?_
                    clear e_v12
                    cases hf
                    exact sx_ire hm dX5_computed_199 rfl rfl
                  · rcases mx_if_el hf with ⟨n_9, hf⟩ | ⟨n_9, hf⟩
                    · refine sx_tin hm dX5_computed_1 (by rw [n_9]; decide) (by rw [n_9]; decide) (off := 199) (by rw [n_9]; rfl) (tgt := 200) rfl ?_
                      clear n_0 n_1 n_2 n_3 n_4 n_5 n_6 n_7 n_8 n_9
                      refine mx_S.pu (pc2 := 201) (lv2 := [(0, .int a0), (1, .int a1), (2, .int a2)]) (st2 := [.int a1]) hm dX5_computed_200 rfl ?_
                      refine mx_S.pu (pc2 := 202) (lv2 := [(0, .int a0), (1, .int a1), (2, .int a2)]) (st2 := [.int a2, .int a1]) hm dX5_computed_201 rfl ?_
                      replace hf := xl_el hf; obtain ⟨v13, e_v13, hf⟩ := hf
                      refine mx_S.pu (pc2 := 203) (lv2 := [(0, .int a0), (1, .int a1), (2, .int a2)]) (st2 := [.int v13]) hm dX5_computed_202 (by rw [← e_v13]; rfl) ?_
                      clear e_v13
                      cases hf
                      exact sx_ire hm dX5_computed_203 rfl rfl
                    · rcases (show (a0.toInt < 96 ∨ 128 < a0.toInt) ∨ a0.toInt = 96 ∨ a0.toInt = 97 ∨ a0.toInt = 98 ∨ a0.toInt = 99 ∨ a0.toInt = 100 ∨ a0.toInt = 101 ∨ a0.toInt = 102 ∨ a0.toInt = 103 ∨ a0.toInt = 104 ∨ a0.toInt = 105 ∨ a0.toInt = 106 ∨ a0.toInt = 107 ∨ a0.toInt = 108 ∨ a0.toInt = 109 ∨ a0.toInt = 110 ∨ a0.toInt = 111 ∨ a0.toInt = 112 ∨ a0.toInt = 113 ∨ a0.toInt = 114 ∨ a0.toInt = 115 ∨ a0.toInt = 116 ∨ a0.toInt = 117 ∨ a0.toInt = 118 ∨ a0.toInt = 119 ∨ a0.toInt = 120 ∨ a0.toInt = 121 ∨ a0.toInt = 122 ∨ a0.toInt = 123 ∨ a0.toInt = 124 ∨ a0.toInt = 125 ∨ a0.toInt = 126 ∨ a0.toInt = 127 ∨ a0.toInt = 128 by omega) with z0 | z0 | z0 | z0 | z0 | z0 | z0 | z0 | z0 | z0 | z0 | z0 | z0 | z0 | z0 | z0 | z0 | z0 | z0 | z0 | z0 | z0 | z0 | z0 | z0 | z0 | z0 | z0 | z0 | z0 | z0 | z0 | z0 | z0
                      · refine sx_tout hm dX5_computed_1 z0 (tgt := 204) rfl ?_
                        refine mx_S.ext [(1, .int a1), (2, .int a2)] (mx_sub_pos [1, 2] rfl (show ([0, 1, 2] : List Nat).Nodup by decide)) ?_
                        exact j_X5_computed_204_ok X hF hL nn a1 a2 h hf
                      · exact absurd (Int32.toInt_inj.mp (z0.trans (by decide : (96 : Int) = (96 : Int32).toInt))) n_0
                      · refine sx_tin hm dX5_computed_1 (by omega) (by omega) (off := 203) (by rw [z0]; rfl) (tgt := 204) rfl ?_
                        refine mx_S.ext [(1, .int a1), (2, .int a2)] (mx_sub_pos [1, 2] rfl (show ([0, 1, 2] : List Nat).Nodup by decide)) ?_
                        exact j_X5_computed_204_ok X hF hL nn a1 a2 h hf
                      · refine sx_tin hm dX5_computed_1 (by omega) (by omega) (off := 203) (by rw [z0]; rfl) (tgt := 204) rfl ?_
                        refine mx_S.ext [(1, .int a1), (2, .int a2)] (mx_sub_pos [1, 2] rfl (show ([0, 1, 2] : List Nat).Nodup by decide)) ?_
                        exact j_X5_computed_204_ok X hF hL nn a1 a2 h hf
                      · refine sx_tin hm dX5_computed_1 (by omega) (by omega) (off := 203) (by rw [z0]; rfl) (tgt := 204) rfl ?_
                        refine mx_S.ext [(1, .int a1), (2, .int a2)] (mx_sub_pos [1, 2] rfl (show ([0, 1, 2] : List Nat).Nodup by decide)) ?_
                        exact j_X5_computed_204_ok X hF hL nn a1 a2 h hf
                      · exact absurd (Int32.toInt_inj.mp (z0.trans (by decide : (100 : Int) = (100 : Int32).toInt))) n_1
                      · refine sx_tin hm dX5_computed_1 (by omega) (by omega) (off := 203) (by rw [z0]; rfl) (tgt := 204) rfl ?_
                        refine mx_S.ext [(1, .int a1), (2, .int a2)] (mx_sub_pos [1, 2] rfl (show ([0, 1, 2] : List Nat).Nodup by decide)) ?_
                        exact j_X5_computed_204_ok X hF hL nn a1 a2 h hf
                      · refine sx_tin hm dX5_computed_1 (by omega) (by omega) (off := 203) (by rw [z0]; rfl) (tgt := 204) rfl ?_
                        refine mx_S.ext [(1, .int a1), (2, .int a2)] (mx_sub_pos [1, 2] rfl (show ([0, 1, 2] : List Nat).Nodup by decide)) ?_
                        exact j_X5_computed_204_ok X hF hL nn a1 a2 h hf
                      · refine sx_tin hm dX5_computed_1 (by omega) (by omega) (off := 203) (by rw [z0]; rfl) (tgt := 204) rfl ?_
                        refine mx_S.ext [(1, .int a1), (2, .int a2)] (mx_sub_pos [1, 2] rfl (show ([0, 1, 2] : List Nat).Nodup by decide)) ?_
                        exact j_X5_computed_204_ok X hF hL nn a1 a2 h hf
                      · exact absurd (Int32.toInt_inj.mp (z0.trans (by decide : (104 : Int) = (104 : Int32).toInt))) n_2
                      · refine sx_tin hm dX5_computed_1 (by omega) (by omega) (off := 203) (by rw [z0]; rfl) (tgt := 204) rfl ?_
                        refine mx_S.ext [(1, .int a1), (2, .int a2)] (mx_sub_pos [1, 2] rfl (show ([0, 1, 2] : List Nat).Nodup by decide)) ?_
                        exact j_X5_computed_204_ok X hF hL nn a1 a2 h hf
                      · refine sx_tin hm dX5_computed_1 (by omega) (by omega) (off := 203) (by rw [z0]; rfl) (tgt := 204) rfl ?_
                        refine mx_S.ext [(1, .int a1), (2, .int a2)] (mx_sub_pos [1, 2] rfl (show ([0, 1, 2] : List Nat).Nodup by decide)) ?_
                        exact j_X5_computed_204_ok X hF hL nn a1 a2 h hf
                      · refine sx_tin hm dX5_computed_1 (by omega) (by omega) (off := 203) (by rw [z0]; rfl) (tgt := 204) rfl ?_
                        refine mx_S.ext [(1, .int a1), (2, .int a2)] (mx_sub_pos [1, 2] rfl (show ([0, 1, 2] : List Nat).Nodup by decide)) ?_
                        exact j_X5_computed_204_ok X hF hL nn a1 a2 h hf
                      · exact absurd (Int32.toInt_inj.mp (z0.trans (by decide : (108 : Int) = (108 : Int32).toInt))) n_3
                      · refine sx_tin hm dX5_computed_1 (by omega) (by omega) (off := 203) (by rw [z0]; rfl) (tgt := 204) rfl ?_
                        refine mx_S.ext [(1, .int a1), (2, .int a2)] (mx_sub_pos [1, 2] rfl (show ([0, 1, 2] : List Nat).Nodup by decide)) ?_
                        exact j_X5_computed_204_ok X hF hL nn a1 a2 h hf
                      · refine sx_tin hm dX5_computed_1 (by omega) (by omega) (off := 203) (by rw [z0]; rfl) (tgt := 204) rfl ?_
                        refine mx_S.ext [(1, .int a1), (2, .int a2)] (mx_sub_pos [1, 2] rfl (show ([0, 1, 2] : List Nat).Nodup by decide)) ?_
                        exact j_X5_computed_204_ok X hF hL nn a1 a2 h hf
                      · refine sx_tin hm dX5_computed_1 (by omega) (by omega) (off := 203) (by rw [z0]; rfl) (tgt := 204) rfl ?_
                        refine mx_S.ext [(1, .int a1), (2, .int a2)] (mx_sub_pos [1, 2] rfl (show ([0, 1, 2] : List Nat).Nodup by decide)) ?_
                        exact j_X5_computed_204_ok X hF hL nn a1 a2 h hf
                      · exact absurd (Int32.toInt_inj.mp (z0.trans (by decide : (112 : Int) = (112 : Int32).toInt))) n_4
                      · refine sx_tin hm dX5_computed_1 (by omega) (by omega) (off := 203) (by rw [z0]; rfl) (tgt := 204) rfl ?_
                        refine mx_S.ext [(1, .int a1), (2, .int a2)] (mx_sub_pos [1, 2] rfl (show ([0, 1, 2] : List Nat).Nodup by decide)) ?_
                        exact j_X5_computed_204_ok X hF hL nn a1 a2 h hf
                      · refine sx_tin hm dX5_computed_1 (by omega) (by omega) (off := 203) (by rw [z0]; rfl) (tgt := 204) rfl ?_
                        refine mx_S.ext [(1, .int a1), (2, .int a2)] (mx_sub_pos [1, 2] rfl (show ([0, 1, 2] : List Nat).Nodup by decide)) ?_
                        exact j_X5_computed_204_ok X hF hL nn a1 a2 h hf
                      · refine sx_tin hm dX5_computed_1 (by omega) (by omega) (off := 203) (by rw [z0]; rfl) (tgt := 204) rfl ?_
                        refine mx_S.ext [(1, .int a1), (2, .int a2)] (mx_sub_pos [1, 2] rfl (show ([0, 1, 2] : List Nat).Nodup by decide)) ?_
                        exact j_X5_computed_204_ok X hF hL nn a1 a2 h hf
                      · refine sx_tin hm dX5_computed_1 (by omega) (by omega) (off := 203) (by rw [z0]; rfl) (tgt := 204) rfl ?_
                        refine mx_S.ext [(1, .int a1), (2, .int a2)] (mx_sub_pos [1, 2] rfl (show ([0, 1, 2] : List Nat).Nodup by decide)) ?_
                        exact j_X5_computed_204_ok X hF hL nn a1 a2 h hf
                      · refine sx_tin hm dX5_computed_1 (by omega) (by omega) (off := 203) (by rw [z0]; rfl) (tgt := 204) rfl ?_
                        refine mx_S.ext [(1, .int a1), (2, .int a2)] (mx_sub_pos [1, 2] rfl (show ([0, 1, 2] : List Nat).Nodup by decide)) ?_
                        exact j_X5_computed_204_ok X hF hL nn a1 a2 h hf
                      · refine sx_tin hm dX5_computed_1 (by omega) (by omega) (off := 203) (by rw [z0]; rfl) (tgt := 204) rfl ?_
                        refine mx_S.ext [(1, .int a1), (2, .int a2)] (mx_sub_pos [1, 2] rfl (show ([0, 1, 2] : List Nat).Nodup by decide)) ?_
                        exact j_X5_computed_204_ok X hF hL nn a1 a2 h hf
                      · refine sx_tin hm dX5_computed_1 (by omega) (by omega) (off := 203) (by rw [z0]; rfl) (tgt := 204) rfl ?_
                        refine mx_S.ext [(1, .int a1), (2, .int a2)] (mx_sub_pos [1, 2] rfl (show ([0, 1, 2] : List Nat).Nodup by decide)) ?_
                        exact j_X5_computed_204_ok X hF hL nn a1 a2 h hf
                      · exact absurd (Int32.toInt_inj.mp (z0.trans (by decide : (120 : Int) = (120 : Int32).toInt))) n_5
                      · refine sx_tin hm dX5_computed_1 (by omega) (by omega) (off := 203) (by rw [z0]; rfl) (tgt := 204) rfl ?_
                        refine mx_S.ext [(1, .int a1), (2, .int a2)] (mx_sub_pos [1, 2] rfl (show ([0, 1, 2] : List Nat).Nodup by decide)) ?_
                        exact j_X5_computed_204_ok X hF hL nn a1 a2 h hf
                      · exact absurd (Int32.toInt_inj.mp (z0.trans (by decide : (122 : Int) = (122 : Int32).toInt))) n_6
                      · refine sx_tin hm dX5_computed_1 (by omega) (by omega) (off := 203) (by rw [z0]; rfl) (tgt := 204) rfl ?_
                        refine mx_S.ext [(1, .int a1), (2, .int a2)] (mx_sub_pos [1, 2] rfl (show ([0, 1, 2] : List Nat).Nodup by decide)) ?_
                        exact j_X5_computed_204_ok X hF hL nn a1 a2 h hf
                      · exact absurd (Int32.toInt_inj.mp (z0.trans (by decide : (124 : Int) = (124 : Int32).toInt))) n_7
                      · refine sx_tin hm dX5_computed_1 (by omega) (by omega) (off := 203) (by rw [z0]; rfl) (tgt := 204) rfl ?_
                        refine mx_S.ext [(1, .int a1), (2, .int a2)] (mx_sub_pos [1, 2] rfl (show ([0, 1, 2] : List Nat).Nodup by decide)) ?_
                        exact j_X5_computed_204_ok X hF hL nn a1 a2 h hf
                      · exact absurd (Int32.toInt_inj.mp (z0.trans (by decide : (126 : Int) = (126 : Int32).toInt))) n_8
                      · refine sx_tin hm dX5_computed_1 (by omega) (by omega) (off := 203) (by rw [z0]; rfl) (tgt := 204) rfl ?_
                        refine mx_S.ext [(1, .int a1), (2, .int a2)] (mx_sub_pos [1, 2] rfl (show ([0, 1, 2] : List Nat).Nodup by decide)) ?_
                        exact j_X5_computed_204_ok X hF hL nn a1 a2 h hf
                      · exact absurd (Int32.toInt_inj.mp (z0.trans (by decide : (128 : Int) = (128 : Int32).toInt))) n_9

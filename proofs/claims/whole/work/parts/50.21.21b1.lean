set_option maxHeartbeats 4000000 in
set_option maxRecDepth 20000 in
theorem j_X11_areKindsThere_58_ok (X : Nat × (Nat → Int32)) {F L : Nat} (hF : 8 ≤ F) (hL : 190 ≤ L) (nn : Nat) {kk_4 : Nat → Int32 → Int32 → mx_H → Option (Int32 × mx_H)} (hk_4 : ∀ (l0 : Nat) (l1 : Int32) (l2 : Int32) (h : mx_H) (r : (Int32 × mx_H)), kk_4 l0 l1 l2 h = some r → mx_S X F L 312 4 [(0, .ref l0), (1, .int l1), (2, .int l2)] [] h 0 0 (some (.int r.1), r.2, 0, 0)) (l0 : Nat) (l2 : Int32) (h : mx_H) {r : (Int32 × mx_H)} (hf : j_X11_areKindsThere_58 nn kk_4 l0 l2 h = some r) : mx_S X F L 312 58 [(0, .ref l0), (2, .int l2)] [] h 0 0 (some (.int r.1), r.2, 0, 0) := by
  have hm : mx_mt 312 = some (yX11_areKindsThere, cX11_areKindsThere, 5, (some .boolean)) := mt_X11_areKindsThere
  unfold j_X11_areKindsThere_58 at hf
  refine sx_ic (v := 0) hm dX11_areKindsThere_58 (by decide) ?_
  refine mx_S.pu (pc2 := 60) (lv2 := [(1, .int 0), (0, .ref l0), (2, .int l2)]) (st2 := []) hm dX11_areKindsThere_59 rfl ?_
  replace hf := xl_el hf; obtain ⟨v21, e_v21, hf⟩ := hf
  refine mx_S.pu (pc2 := 63) (lv2 := [(2, .int v21), (1, .int 0), (0, .ref l0)]) (st2 := []) hm dX11_areKindsThere_60 (by rw [← e_v21]; rfl) ?_
  clear e_v21
  refine mx_S.pu (pc2 := 4) (lv2 := [(2, .int v21), (1, .int 0), (0, .ref l0)]) (st2 := []) hm dX11_areKindsThere_63 rfl ?_
  refine mx_S.ext [(0, .ref l0), (1, .int 0), (2, .int v21)] (mx_sub_pos [2, 1, 0] rfl (show ([2, 1, 0] : List Nat).Nodup by decide)) ?_
  exact hk_4 l0 0 v21 h _ hf
set_option maxHeartbeats 4000000 in
set_option maxRecDepth 20000 in
theorem w_X11_areKindsThere_4_ok (X : Nat × (Nat → Int32)) {F L : Nat} (hF : 8 ≤ F) (hL : 190 ≤ L) (nn : Nat) : ∀ (k : Nat) (l0 : Nat) (l1 : Int32) (l2 : Int32) (h : mx_H) (r : (Int32 × mx_H)), w_X11_areKindsThere_4 nn k l0 l1 l2 h = some r → mx_S X F L 312 4 [(0, .ref l0), (1, .int l1), (2, .int l2)] [] h 0 0 (some (.int r.1), r.2, 0, 0) := by
  have hm : mx_mt 312 = some (yX11_areKindsThere, cX11_areKindsThere, 5, (some .boolean)) := mt_X11_areKindsThere
  intro k
  induction k with
  | zero => intro l0 l1 l2 h r hf; cases hf
  | succ k ih =>
    intro l0 l1 l2 h r hf
    unfold w_X11_areKindsThere_4 at hf
    refine mx_S.pu (pc2 := 5) (lv2 := [(0, .ref l0), (1, .int l1), (2, .int l2)]) (st2 := [.int l2]) hm dX11_areKindsThere_4 rfl ?_
    refine mx_S.pu (pc2 := 6) (lv2 := [(0, .ref l0), (1, .int l1), (2, .int l2)]) (st2 := [.ref l0, .int l2]) hm dX11_areKindsThere_5 rfl ?_
    replace hf := mx_sv_el hf; obtain ⟨v22, e_v22, hf⟩ := hf
    refine sx_get hm dX11_areKindsThere_6 rs_RX11_62 (xgr_el e_v22) ?_
    clear e_v22
    replace hf := mx_sv_el hf; obtain ⟨v23, e_v23, hf⟩ := hf
    refine sx_get hm dX11_areKindsThere_9 rs_RX11_136 (xgi_el e_v23) ?_
    clear e_v23
    rcases mx_if_el hf with ⟨c37, hf⟩ | ⟨c37, hf⟩
    · refine sb_ic_ge hm dX11_areKindsThere_12 (tgt := 66) rfl (fun _ => ?_) (fun z => absurd c37 z)
      refine sx_ic (v := 0) hm dX11_areKindsThere_66 (by decide) ?_
      refine mx_S.pu (pc2 := 68) (lv2 := [(2, .int 0), (0, .ref l0), (1, .int l1)]) (st2 := []) hm dX11_areKindsThere_67 rfl ?_
      refine mx_S.ext [(0, .ref l0), (1, .int l1), (2, .int 0)] (mx_sub_pos [1, 2, 0] rfl (show ([2, 0, 1] : List Nat).Nodup by decide)) ?_
      exact w_X11_areKindsThere_68_ok X hF hL nn nn l0 l1 0 h _ hf
    · refine sb_ic_ge hm dX11_areKindsThere_12 (tgt := 66) rfl (fun z => absurd z c37) (fun _ => ?_)
      refine mx_S.pu (pc2 := 16) (lv2 := [(0, .ref l0), (1, .int l1), (2, .int l2)]) (st2 := [.ref l0]) hm dX11_areKindsThere_15 rfl ?_
      replace hf := mx_sv_el hf; obtain ⟨v24, e_v24, hf⟩ := hf
      refine sx_get hm dX11_areKindsThere_16 rs_RX11_50 (xgr_el e_v24) ?_
      clear e_v24
      refine mx_S.pu (pc2 := 20) (lv2 := [(0, .ref l0), (1, .int l1), (2, .int l2)]) (st2 := [.ref l0, .ref v24]) hm dX11_areKindsThere_19 rfl ?_
      replace hf := mx_sv_el hf; obtain ⟨v25, e_v25, hf⟩ := hf
      refine sx_get hm dX11_areKindsThere_20 rs_RX11_62 (xgr_el e_v25) ?_
      clear e_v25
      refine mx_S.pu (pc2 := 24) (lv2 := [(0, .ref l0), (1, .int l1), (2, .int l2)]) (st2 := [.ref l0, .ref v25, .ref v24]) hm dX11_areKindsThere_23 rfl ?_
      replace hf := mx_sv_el hf; obtain ⟨v26, e_v26, hf⟩ := hf
      refine sx_get hm dX11_areKindsThere_24 rs_RX11_62 (xgr_el e_v26) ?_
      clear e_v26
      refine mx_S.pu (pc2 := 28) (lv2 := [(0, .ref l0), (1, .int l1), (2, .int l2)]) (st2 := [.int l2, .ref v26, .ref v25, .ref v24]) hm dX11_areKindsThere_27 rfl ?_
      replace hf := mx_gd_el hf; obtain ⟨c27, hf⟩ := hf
      replace hf := mx_sv_el hf; obtain ⟨u28, e_u28, hf⟩ := hf
      refine sx_cv hm dX11_areKindsThere_28 rs_RX11_139 mt_X3_fieldKind [.int l2] [.ref v25, .ref v24] (b := v26) (ci := 3) rfl rfl rfl c27 (Nat.le_of_ble_eq_true rfl) (Nat.le_of_ble_eq_true rfl) (by omega) (by omega) (f_X3_fieldKind_ok X (by omega) (by omega) nn v26 l2 h e_u28) ?_
      clear e_u28
      show mx_S X F L 312 31 [(0, .ref l0), (1, .int l1), (2, .int l2)] [.int u28.1, .ref v25, .ref v24] u28.2 0 0 (some (.int r.1), r.2, 0, 0)
      refine mx_S.pu (pc2 := 32) (lv2 := [(0, .ref l0), (1, .int l1), (2, .int l2)]) (st2 := [.ref l0, .int u28.1, .ref v25, .ref v24]) hm dX11_areKindsThere_31 rfl ?_
      replace hf := mx_sv_el hf; obtain ⟨v29, e_v29, hf⟩ := hf
      refine sx_get hm dX11_areKindsThere_32 rs_RX11_33 (xgr_el e_v29) ?_
      clear e_v29
      refine sx_ic (v := 0) hm dX11_areKindsThere_35 (by decide) ?_
      replace hf := mx_gd_el hf; obtain ⟨c30, hf⟩ := hf
      replace hf := mx_sv_el hf; obtain ⟨u31, e_u31, hf⟩ := hf
      refine sx_cv hm dX11_areKindsThere_36 rs_RX11_142 mt_X7_readKind [.ref v25, .int u28.1, .ref v29, .int 0] [] (b := v24) (ci := 7) rfl rfl rfl c30 (Nat.le_of_ble_eq_true rfl) (Nat.le_of_ble_eq_true rfl) (by omega) (by omega) (f_X7_readKind_ok X (by omega) (by omega) nn v24 v25 u28.1 v29 0 u28.2 e_u31) ?_
      clear e_u31
      show mx_S X F L 312 39 [(0, .ref l0), (1, .int l1), (2, .int l2)] [.int u31.1] u31.2 0 0 (some (.int r.1), r.2, 0, 0)
      refine mx_S.pu (pc2 := 40) (lv2 := [(0, .ref l0), (1, .int l1), (2, .int l2)]) (st2 := []) hm dX11_areKindsThere_39 rfl ?_
      refine mx_S.pu (pc2 := 41) (lv2 := [(0, .ref l0), (1, .int l1), (2, .int l2)]) (st2 := [.int l1]) hm dX11_areKindsThere_40 rfl ?_
      rcases mx_if_el hf with ⟨c36, hf⟩ | ⟨c36, hf⟩
      · refine sb_if_eq hm dX11_areKindsThere_41 (tgt := 58) rfl (fun _ => ?_) (fun z => absurd c36 z)
        refine mx_S.ext [(0, .ref l0), (2, .int l2)] (mx_sub_pos [0, 2] rfl (show ([0, 1, 2] : List Nat).Nodup by decide)) ?_
        exact j_X11_areKindsThere_58_ok X hF hL nn ih l0 l2 u31.2 hf
      · refine sb_if_eq hm dX11_areKindsThere_41 (tgt := 58) rfl (fun z => absurd z c36) (fun _ => ?_)
        refine mx_S.pu (pc2 := 45) (lv2 := [(0, .ref l0), (1, .int l1), (2, .int l2)]) (st2 := [.ref l0]) hm dX11_areKindsThere_44 rfl ?_
        replace hf := mx_sv_el hf; obtain ⟨v32, e_v32, hf⟩ := hf
        refine sx_get hm dX11_areKindsThere_45 rs_RX11_33 (xgr_el e_v32) ?_
        clear e_v32
        refine sx_ic (v := 0) hm dX11_areKindsThere_48 (by decide) ?_
        replace hf := mx_sv_el hf; obtain ⟨v33, e_v33, hf⟩ := hf
        refine sx_ald hm dX11_areKindsThere_49 e_v33 ?_
        clear e_v33
        refine sx_ic (v := (-1)) hm dX11_areKindsThere_50 (by decide) ?_
        rcases mx_if_el hf with ⟨c35, hf⟩ | ⟨c35, hf⟩
        · refine sb_ic_eq hm dX11_areKindsThere_51 (tgt := 58) rfl (fun _ => ?_) (fun z => absurd c35 z)
          refine mx_S.ext [(0, .ref l0), (2, .int l2)] (mx_sub_pos [0, 2] rfl (show ([0, 1, 2] : List Nat).Nodup by decide)) ?_
          exact j_X11_areKindsThere_58_ok X hF hL nn ih l0 l2 u31.2 hf
        · refine sb_ic_eq hm dX11_areKindsThere_51 (tgt := 58) rfl (fun z => absurd z c35) (fun _ => ?_)
          refine sx_ic (v := 1) hm dX11_areKindsThere_54 (by decide) ?_
          refine mx_S.pu (pc2 := 59) (lv2 := [(0, .ref l0), (1, .int l1), (2, .int l2)]) (st2 := [.int 1]) hm dX11_areKindsThere_55 rfl ?_
          refine mx_S.pu (pc2 := 60) (lv2 := [(1, .int 1), (0, .ref l0), (2, .int l2)]) (st2 := []) hm dX11_areKindsThere_59 rfl ?_
          replace hf := xl_el hf; obtain ⟨v34, e_v34, hf⟩ := hf
          refine mx_S.pu (pc2 := 63) (lv2 := [(2, .int v34), (1, .int 1), (0, .ref l0)]) (st2 := []) hm dX11_areKindsThere_60 (by rw [← e_v34]; rfl) ?_
          clear e_v34
          refine mx_S.pu (pc2 := 4) (lv2 := [(2, .int v34), (1, .int 1), (0, .ref l0)]) (st2 := []) hm dX11_areKindsThere_63 rfl ?_
          refine mx_S.ext [(0, .ref l0), (1, .int 1), (2, .int v34)] (mx_sub_pos [2, 1, 0] rfl (show ([2, 1, 0] : List Nat).Nodup by decide)) ?_
          exact ih l0 1 v34 u31.2 _ hf
set_option maxHeartbeats 4000000 in
set_option maxRecDepth 20000 in
theorem f_X11_areKindsThere_ok (X : Nat × (Nat → Int32)) {F L : Nat} (hF : 8 ≤ F) (hL : 190 ≤ L) (nn : Nat) (a0 : Nat) (h : mx_H) {r : (Int32 × mx_H)} (hf : f_X11_areKindsThere nn a0 h = some r) : mx_R X F L 312 [.ref a0] h (some (.int r.1), r.2, 0, 0) := by
  have hm : mx_mt 312 = some (yX11_areKindsThere, cX11_areKindsThere, 5, (some .boolean)) := mt_X11_areKindsThere
  show mx_S X F L 312 0 [(0, .ref a0)] [] h 0 0 (some (.int r.1), r.2, 0, 0)
  unfold f_X11_areKindsThere at hf
  refine sx_ic (v := 1) hm dX11_areKindsThere_0 (by decide) ?_
  refine mx_S.pu (pc2 := 2) (lv2 := [(1, .int 1), (0, .ref a0)]) (st2 := []) hm dX11_areKindsThere_1 rfl ?_
  refine sx_ic (v := 0) hm dX11_areKindsThere_2 (by decide) ?_
  refine mx_S.pu (pc2 := 4) (lv2 := [(2, .int 0), (1, .int 1), (0, .ref a0)]) (st2 := []) hm dX11_areKindsThere_3 rfl ?_
  refine mx_S.ext [(0, .ref a0), (1, .int 1), (2, .int 0)] (mx_sub_pos [2, 1, 0] rfl (show ([2, 1, 0] : List Nat).Nodup by decide)) ?_
  exact w_X11_areKindsThere_4_ok X hF hL nn nn a0 1 0 h _ hf
set_option maxHeartbeats 4000000 in
set_option maxRecDepth 20000 in
theorem f_X7_numberOf_ok (X : Nat × (Nat → Int32)) {F L : Nat} (hF : 0 ≤ F) (hL : 0 ≤ L) (nn : Nat) (a0 : Nat) (a1 : Int32) (a2 : Int32) (h : mx_H) {r : (Int32 × mx_H)} (hf : f_X7_numberOf nn a0 a1 a2 h = some r) : mx_R X F L 208 [.ref a0, .int a1, .int a2] h (some (.int r.1), r.2, 0, 0) := by
  have hm : mx_mt 208 = some (yX7_numberOf, cX7_numberOf, 3, (some .int)) := mt_X7_numberOf
  show mx_S X F L 208 0 [(0, .ref a0), (1, .int a1), (2, .int a2)] [] h 0 0 (some (.int r.1), r.2, 0, 0)
  unfold f_X7_numberOf at hf
  refine mx_S.pu (pc2 := 1) (lv2 := [(0, .ref a0), (1, .int a1), (2, .int a2)]) (st2 := [.int a1]) hm dX7_numberOf_0 rfl ?_
  refine sx_bi (v := 8) hm dX7_numberOf_1 (by decide) ?_
  replace hf := xl_el hf; obtain ⟨v1, e_v1, hf⟩ := hf
  refine mx_S.pu (pc2 := 4) (lv2 := [(0, .ref a0), (1, .int a1), (2, .int a2)]) (st2 := [.int v1]) hm dX7_numberOf_3 (by rw [← e_v1]; rfl) ?_
  clear e_v1
  refine sx_bi (v := 12) hm dX7_numberOf_4 (by decide) ?_
  replace hf := xl_el hf; obtain ⟨v2, e_v2, hf⟩ := hf
  refine mx_S.pu (pc2 := 7) (lv2 := [(0, .ref a0), (1, .int a1), (2, .int a2)]) (st2 := [.int v2]) hm dX7_numberOf_6 (by rw [← e_v2]; rfl) ?_
  clear e_v2
  refine mx_S.pu (pc2 := 8) (lv2 := [(0, .ref a0), (1, .int a1), (2, .int a2)]) (st2 := [.int a2, .int v2]) hm dX7_numberOf_7 rfl ?_
  replace hf := xl_el hf; obtain ⟨v3, e_v3, hf⟩ := hf
  refine mx_S.pu (pc2 := 9) (lv2 := [(0, .ref a0), (1, .int a1), (2, .int a2)]) (st2 := [.int v3]) hm dX7_numberOf_8 (by rw [← e_v3]; rfl) ?_
  clear e_v3
  cases hf
  exact sx_ire hm dX7_numberOf_9 rfl rfl

set_option maxHeartbeats 4000000 in
set_option maxRecDepth 20000 in
theorem j_X13_typeOf_56_ok (X : Nat × (Nat → Int32)) {F L : Nat} (hF : 6 ≤ F) (hL : 135 ≤ L) (nn : Nat) (l3 : Int32) (l4 : Int32) (h : mx_H) {r : (Int32 × mx_H)} (hf : j_X13_typeOf_56 nn l3 l4 h = some r) : mx_S X F L 424 56 [(3, .int l3), (4, .int l4)] [] h 0 0 (some (.int r.1), r.2, 0, 0) := by
  have hm : mx_mt 424 = some (yX13_typeOf, cX13_typeOf, 5, (some .int)) := mt_X13_typeOf
  unfold j_X13_typeOf_56 at hf
  refine sx_bi (v := 8) hm dX13_typeOf_56 (by decide) ?_
  refine sx_ic (v := 2) hm dX13_typeOf_58 (by decide) ?_
  refine mx_S.pu (pc2 := 61) (lv2 := [(3, .int l3), (4, .int l4)]) (st2 := [.int l4, .int 2, .int 8]) hm dX13_typeOf_59 rfl ?_
  replace hf := xl_el hf; obtain ⟨v1, e_v1, hf⟩ := hf
  refine mx_S.pu (pc2 := 62) (lv2 := [(3, .int l3), (4, .int l4)]) (st2 := [.int v1, .int 8]) hm dX13_typeOf_61 (by rw [← e_v1]; rfl) ?_
  clear e_v1
  replace hf := xl_el hf; obtain ⟨v2, e_v2, hf⟩ := hf
  refine mx_S.pu (pc2 := 63) (lv2 := [(3, .int l3), (4, .int l4)]) (st2 := [.int v2]) hm dX13_typeOf_62 (by rw [← e_v2]; rfl) ?_
  clear e_v2
  refine mx_S.pu (pc2 := 64) (lv2 := [(3, .int l3), (4, .int l4)]) (st2 := [.int l3, .int v2]) hm dX13_typeOf_63 rfl ?_
  rcases mx_if_el hf with ⟨c5, hf⟩ | ⟨c5, hf⟩
  · refine sb_if_eq hm dX13_typeOf_64 (tgt := 71) rfl (fun _ => ?_) (fun z => absurd c5 z)
    refine sx_ic (v := 0) hm dX13_typeOf_71 (by decide) ?_
    replace hf := xl_el hf; obtain ⟨v3, e_v3, hf⟩ := hf
    refine mx_S.pu (pc2 := 73) (lv2 := [(3, .int l3), (4, .int l4)]) (st2 := [.int v3]) hm dX13_typeOf_72 (by rw [← e_v3]; rfl) ?_
    clear e_v3
    cases hf
    exact sx_ire hm dX13_typeOf_73 rfl rfl
  · refine sb_if_eq hm dX13_typeOf_64 (tgt := 71) rfl (fun z => absurd z c5) (fun _ => ?_)
    refine sx_ic (v := 1) hm dX13_typeOf_67 (by decide) ?_
    refine mx_S.pu (pc2 := 72) (lv2 := [(3, .int l3), (4, .int l4)]) (st2 := [.int 1, .int v2]) hm dX13_typeOf_68 rfl ?_
    replace hf := xl_el hf; obtain ⟨v4, e_v4, hf⟩ := hf
    refine mx_S.pu (pc2 := 73) (lv2 := [(3, .int l3), (4, .int l4)]) (st2 := [.int v4]) hm dX13_typeOf_72 (by rw [← e_v4]; rfl) ?_
    clear e_v4
    cases hf
    exact sx_ire hm dX13_typeOf_73 rfl rfl
set_option maxHeartbeats 4000000 in
set_option maxRecDepth 20000 in
theorem f_X13_typeOf_ok (X : Nat × (Nat → Int32)) {F L : Nat} (hF : 6 ≤ F) (hL : 135 ≤ L) (nn : Nat) (a0 : Nat) (a1 : Int32) (a2 : Int32) (a3 : Int32) (h : mx_H) {r : (Int32 × mx_H)} (hf : f_X13_typeOf nn a0 a1 a2 a3 h = some r) : mx_R X F L 424 [.ref a0, .int a1, .int a2, .int a3] h (some (.int r.1), r.2, 0, 0) := by
  have hm : mx_mt 424 = some (yX13_typeOf, cX13_typeOf, 5, (some .int)) := mt_X13_typeOf
  show mx_S X F L 424 0 [(0, .ref a0), (1, .int a1), (2, .int a2), (3, .int a3)] [] h 0 0 (some (.int r.1), r.2, 0, 0)
  unfold f_X13_typeOf at hf
  refine mx_S.pu (pc2 := 1) (lv2 := [(0, .ref a0), (1, .int a1), (2, .int a2), (3, .int a3)]) (st2 := [.ref a0]) hm dX13_typeOf_0 rfl ?_
  replace hf := mx_sv_el hf; obtain ⟨v6, e_v6, hf⟩ := hf
  refine sx_get hm dX13_typeOf_1 rs_RX13_319 (xgi_el e_v6) ?_
  clear e_v6
  rcases mx_if_el hf with ⟨c16, hf⟩ | ⟨c16, hf⟩
  · refine sb_if_eq hm dX13_typeOf_4 (tgt := 9) rfl (fun _ => ?_) (fun z => absurd c16 z)
    refine mx_S.pu (pc2 := 10) (lv2 := [(0, .ref a0), (1, .int a1), (2, .int a2), (3, .int a3)]) (st2 := [.int a1]) hm dX13_typeOf_9 rfl ?_
    rcases mx_if_el hf with ⟨c15, hf⟩ | ⟨c15, hf⟩
    · refine sb_if_ne hm dX13_typeOf_10 (tgt := 23) rfl (fun _ => ?_) (fun z => absurd c15 z)
      refine mx_S.pu (pc2 := 24) (lv2 := [(0, .ref a0), (1, .int a1), (2, .int a2), (3, .int a3)]) (st2 := [.int a1]) hm dX13_typeOf_23 rfl ?_
      refine sx_ic (v := 1) hm dX13_typeOf_24 (by decide) ?_
      rcases mx_if_el hf with ⟨c13, hf⟩ | ⟨c13, hf⟩
      · refine sb_ic_ne hm dX13_typeOf_25 (tgt := 30) rfl (fun _ => ?_) (fun z => absurd c13 z)
        refine mx_S.pu (pc2 := 31) (lv2 := [(0, .ref a0), (1, .int a1), (2, .int a2), (3, .int a3)]) (st2 := [.int a1]) hm dX13_typeOf_30 rfl ?_
        refine sx_ic (v := 2) hm dX13_typeOf_31 (by decide) ?_
        rcases mx_if_el hf with ⟨c12, hf⟩ | ⟨c12, hf⟩
        · refine sb_ic_ne hm dX13_typeOf_32 (tgt := 37) rfl (fun _ => ?_) (fun z => absurd c12 z)
          refine mx_S.pu (pc2 := 38) (lv2 := [(0, .ref a0), (1, .int a1), (2, .int a2), (3, .int a3)]) (st2 := [.ref a0]) hm dX13_typeOf_37 rfl ?_
          refine mx_S.pu (pc2 := 39) (lv2 := [(0, .ref a0), (1, .int a1), (2, .int a2), (3, .int a3)]) (st2 := [.int a2, .ref a0]) hm dX13_typeOf_38 rfl ?_
          replace hf := mx_gd_el hf; obtain ⟨c7, hf⟩ := hf
          replace hf := mx_sv_el hf; obtain ⟨u8, e_u8, hf⟩ := hf
          refine sx_cv hm dX13_typeOf_39 rs_RX13_494 mt_X13_classOf [.int a2] [] (b := a0) (ci := 13) rfl rfl rfl c7 (Nat.le_of_ble_eq_true rfl) (Nat.le_of_ble_eq_true rfl) (by omega) (by omega) (f_X13_classOf_ok X (by omega) (by omega) nn a0 a2 h e_u8) ?_
          clear e_u8
          show mx_S X F L 424 42 [(0, .ref a0), (1, .int a1), (2, .int a2), (3, .int a3)] [.int u8.1] u8.2 0 0 (some (.int r.1), r.2, 0, 0)
          refine mx_S.pu (pc2 := 44) (lv2 := [(4, .int u8.1), (0, .ref a0), (1, .int a1), (2, .int a2), (3, .int a3)]) (st2 := []) hm dX13_typeOf_42 rfl ?_
          refine mx_S.pu (pc2 := 46) (lv2 := [(4, .int u8.1), (0, .ref a0), (1, .int a1), (2, .int a2), (3, .int a3)]) (st2 := [.int u8.1]) hm dX13_typeOf_44 rfl ?_
          refine sx_ic (v := (-1)) hm dX13_typeOf_46 (by decide) ?_
          rcases mx_if_el hf with ⟨c11, hf⟩ | ⟨c11, hf⟩
          · refine sb_ic_ne hm dX13_typeOf_47 (tgt := 56) rfl (fun _ => ?_) (fun z => absurd c11 z)
            refine mx_S.ext [(3, .int a3), (4, .int u8.1)] (mx_sub_pos [4, 0] rfl (show ([4, 0, 1, 2, 3] : List Nat).Nodup by decide)) ?_
            exact j_X13_typeOf_56_ok X hF hL nn a3 u8.1 u8.2 hf
          · refine sb_ic_ne hm dX13_typeOf_47 (tgt := 56) rfl (fun z => absurd z c11) (fun _ => ?_)
            refine mx_S.pu (pc2 := 51) (lv2 := [(4, .int u8.1), (0, .ref a0), (1, .int a1), (2, .int a2), (3, .int a3)]) (st2 := [.ref a0]) hm dX13_typeOf_50 rfl ?_
            refine sx_ic (v := 5) hm dX13_typeOf_51 (by decide) ?_
            refine mx_S.pu (pc2 := 53) (lv2 := [(4, .int u8.1), (0, .ref a0), (1, .int a1), (2, .int a2), (3, .int a3)]) (st2 := [.int a2, .int 5, .ref a0]) hm dX13_typeOf_52 rfl ?_
            replace hf := mx_gd_el hf; obtain ⟨c9, hf⟩ := hf
            replace hf := mx_sv_el hf; obtain ⟨u10, e_u10, hf⟩ := hf
            refine sx_cv hm dX13_typeOf_53 rs_RX13_379 mt_X13_wrong [.int 5, .int a2] [] (b := a0) (ci := 13) rfl rfl rfl c9 (Nat.le_of_ble_eq_true rfl) (Nat.le_of_ble_eq_true rfl) (by omega) (by omega) (f_X13_wrong_ok X (by omega) (by omega) nn a0 5 a2 u8.2 e_u10) ?_
            clear e_u10
            show mx_S X F L 424 56 [(4, .int u8.1), (0, .ref a0), (1, .int a1), (2, .int a2), (3, .int a3)] [] u10 0 0 (some (.int r.1), r.2, 0, 0)
            refine mx_S.ext [(3, .int a3), (4, .int u8.1)] (mx_sub_pos [4, 0] rfl (show ([4, 0, 1, 2, 3] : List Nat).Nodup by decide)) ?_
            exact j_X13_typeOf_56_ok X hF hL nn a3 u8.1 u10 hf
        · refine sb_ic_ne hm dX13_typeOf_32 (tgt := 37) rfl (fun z => absurd z c12) (fun _ => ?_)
          refine sx_ic (v := 3) hm dX13_typeOf_35 (by decide) ?_
          cases hf
          exact sx_ire hm dX13_typeOf_36 rfl rfl
      · refine sb_ic_ne hm dX13_typeOf_25 (tgt := 30) rfl (fun z => absurd z c13) (fun _ => ?_)
        refine sx_ic (v := 1) hm dX13_typeOf_28 (by decide) ?_
        cases hf
        exact sx_ire hm dX13_typeOf_29 rfl rfl
    · refine sb_if_ne hm dX13_typeOf_10 (tgt := 23) rfl (fun z => absurd z c15) (fun _ => ?_)
      refine mx_S.pu (pc2 := 14) (lv2 := [(0, .ref a0), (1, .int a1), (2, .int a2), (3, .int a3)]) (st2 := [.int a3]) hm dX13_typeOf_13 rfl ?_
      rcases mx_if_el hf with ⟨c14, hf⟩ | ⟨c14, hf⟩
      · refine sb_if_eq hm dX13_typeOf_14 (tgt := 21) rfl (fun _ => ?_) (fun z => absurd c14 z)
        refine sx_ic (v := 0) hm dX13_typeOf_21 (by decide) ?_
        cases hf
        exact sx_ire hm dX13_typeOf_22 rfl rfl
      · refine sb_if_eq hm dX13_typeOf_14 (tgt := 21) rfl (fun z => absurd z c14) (fun _ => ?_)
        refine sx_ic (v := 4) hm dX13_typeOf_17 (by decide) ?_
        refine mx_S.pu (pc2 := 22) (lv2 := [(0, .ref a0), (1, .int a1), (2, .int a2), (3, .int a3)]) (st2 := [.int 4]) hm dX13_typeOf_18 rfl ?_
        cases hf
        exact sx_ire hm dX13_typeOf_22 rfl rfl
  · refine sb_if_eq hm dX13_typeOf_4 (tgt := 9) rfl (fun z => absurd z c16) (fun _ => ?_)
    refine sx_ic (v := 0) hm dX13_typeOf_7 (by decide) ?_
    cases hf
    exact sx_ire hm dX13_typeOf_8 rfl rfl

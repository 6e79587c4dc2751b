set_option maxHeartbeats 4000000 in
set_option maxRecDepth 20000 in
theorem f_X12_load_ok (X : Nat × (Nat → Int32)) {F L : Nat} (hF : 8 ≤ F) (hL : 183 ≤ L) (nn : Nat) (a0 : Nat) (h : mx_H) {r : (Int32 × mx_H × Nat × Nat)} (hf : f_X12_load nn a0 h = some r) : mx_R X F L 368 [.ref a0] h (some (.int r.1), r.2.1, r.2.2.1, r.2.2.2) := by
  have hm : mx_mt 368 = some (yX12_load, cX12_load, 2, (some .int)) := mt_X12_load
  show mx_S X F L 368 0 [(0, .ref a0)] [] h 0 0 (some (.int r.1), r.2.1, r.2.2.1, r.2.2.2)
  unfold f_X12_load at hf
  refine mx_S.pu (pc2 := 1) (lv2 := [(0, .ref a0)]) (st2 := [.ref a0]) hm dX12_load_0 rfl ?_
  replace hf := mx_sv_el hf; obtain ⟨v1, e_v1, hf⟩ := hf
  refine sx_get hm dX12_load_1 rs_RX12_53 (xgr_el e_v1) ?_
  clear e_v1
  refine mx_S.pu (pc2 := 5) (lv2 := [(0, .ref a0)]) (st2 := [.ref a0, .ref v1]) hm dX12_load_4 rfl ?_
  replace hf := mx_sv_el hf; obtain ⟨v2, e_v2, hf⟩ := hf
  refine sx_get hm dX12_load_5 rs_RX12_9 (xgr_el e_v2) ?_
  clear e_v2
  refine mx_S.pu (pc2 := 9) (lv2 := [(0, .ref a0)]) (st2 := [.ref a0, .ref v2, .ref v1]) hm dX12_load_8 rfl ?_
  replace hf := mx_sv_el hf; obtain ⟨v3, e_v3, hf⟩ := hf
  refine sx_get hm dX12_load_9 rs_RX12_73 (xgi_el e_v3) ?_
  clear e_v3
  replace hf := mx_gd_el hf; obtain ⟨c4, hf⟩ := hf
  replace hf := mx_sv_el hf; obtain ⟨u5, e_u5, hf⟩ := hf
  refine sx_cvA hm dX12_load_12 rs_RX12_149 mt_X7_bring [.ref v2, .int v3] [] (b := v1) (ci := 7) rfl rfl rfl c4 (Nat.le_of_ble_eq_true rfl) (Nat.le_of_ble_eq_true rfl) (by omega) (by omega) (f_X7_bring_ok X (by omega) (by omega) nn v1 v2 v3 h e_u5) ?_
  clear e_u5
  show mx_S X F L 368 15 [(0, .ref a0)] [.int u5.1] u5.2.1 (0 + u5.2.2.1) (0 + u5.2.2.2) (some (.int r.1), r.2.1, r.2.2.1, r.2.2.2)
  refine mx_S.pu (pc2 := 16) (lv2 := [(1, .int u5.1), (0, .ref a0)]) (st2 := []) hm dX12_load_15 rfl ?_
  refine mx_S.pu (pc2 := 17) (lv2 := [(1, .int u5.1), (0, .ref a0)]) (st2 := [.ref a0]) hm dX12_load_16 rfl ?_
  refine sx_ic (v := 0) hm dX12_load_17 (by decide) ?_
  replace hf := mx_sv_el hf; obtain ⟨h6, e_h6, hf⟩ := hf
  refine sx_put hm dX12_load_18 rs_RX12_73 ft_12_1 ⟨rfl, rfl⟩ (fun z => by cases z) e_h6 ?_
  clear e_h6
  refine mx_S.pu (pc2 := 22) (lv2 := [(1, .int u5.1), (0, .ref a0)]) (st2 := [.int u5.1]) hm dX12_load_21 rfl ?_
  rcases mx_if_el hf with ⟨c10, hf⟩ | ⟨c10, hf⟩
  · refine sb_if_lt hm dX12_load_22 (tgt := 32) rfl (fun _ => ?_) (fun z => absurd c10 z)
    refine mx_S.pu (pc2 := 33) (lv2 := [(1, .int u5.1), (0, .ref a0)]) (st2 := [.int u5.1]) hm dX12_load_32 rfl ?_
    cases hf
    exact sx_ire hm dX12_load_33 rfl rfl
  · refine sb_if_lt hm dX12_load_22 (tgt := 32) rfl (fun z => absurd z c10) (fun _ => ?_)
    refine mx_S.pu (pc2 := 26) (lv2 := [(1, .int u5.1), (0, .ref a0)]) (st2 := [.ref a0]) hm dX12_load_25 rfl ?_
    replace hf := mx_sv_el hf; obtain ⟨v7, e_v7, hf⟩ := hf
    refine sx_get hm dX12_load_26 rs_RX12_69 (xgr_el e_v7) ?_
    clear e_v7
    replace hf := mx_gd_el hf; obtain ⟨c8, hf⟩ := hf
    replace hf := mx_sv_el hf; obtain ⟨u9, e_u9, hf⟩ := hf
    refine sx_cv hm dX12_load_29 rs_RX12_153 mt_X5_forget [] [] (b := v7) (ci := 5) rfl rfl rfl c8 (Nat.le_of_ble_eq_true rfl) (Nat.le_of_ble_eq_true rfl) (by omega) (by omega) (f_X5_forget_ok X (by omega) (by omega) nn v7 h6 e_u9) ?_
    clear e_u9
    show mx_S X F L 368 32 [(1, .int u5.1), (0, .ref a0)] [] u9 (0 + u5.2.2.1) (0 + u5.2.2.2) (some (.int r.1), r.2.1, r.2.2.1, r.2.2.2)
    refine mx_S.pu (pc2 := 33) (lv2 := [(1, .int u5.1), (0, .ref a0)]) (st2 := [.int u5.1]) hm dX12_load_32 rfl ?_
    cases hf
    exact sx_ire hm dX12_load_33 rfl rfl
set_option maxHeartbeats 4000000 in
set_option maxRecDepth 20000 in
theorem f_X5_tell_ok (X : Nat × (Nat → Int32)) {F L : Nat} (hF : 0 ≤ F) (hL : 0 ≤ L) (nn : Nat) (a0 : Nat) (a1 : Int32) (h : mx_H) {r : (Int32 × mx_H)} (hf : f_X5_tell nn a0 a1 h = some r) : mx_R X F L 146 [.ref a0, .int a1] h (some (.int r.1), r.2, 0, 0) := by
  have hm : mx_mt 146 = some (yX5_tell, cX5_tell, 2, (some .int)) := mt_X5_tell
  show mx_S X F L 146 0 [(0, .ref a0), (1, .int a1)] [] h 0 0 (some (.int r.1), r.2, 0, 0)
  unfold f_X5_tell at hf
  refine mx_S.pu (pc2 := 1) (lv2 := [(0, .ref a0), (1, .int a1)]) (st2 := [.int a1]) hm dX5_tell_0 rfl ?_
  rcases mx_if_el hf with ⟨n_0, hf⟩ | ⟨n_0, hf⟩
  · refine sx_tin hm dX5_tell_1 (by rw [n_0]; decide) (by rw [n_0]; decide) (off := 43) (by rw [n_0]; rfl) (tgt := 44) rfl ?_
    clear n_0
    refine mx_S.pu (pc2 := 45) (lv2 := [(0, .ref a0), (1, .int a1)]) (st2 := [.ref a0]) hm dX5_tell_44 rfl ?_
    replace hf := mx_sv_el hf; obtain ⟨v1, e_v1, hf⟩ := hf
    refine sx_get hm dX5_tell_45 rs_RX5_54 (xgi_el e_v1) ?_
    clear e_v1
    cases hf
    exact sx_ire hm dX5_tell_48 rfl rfl
  · rcases mx_if_el hf with ⟨n_1, hf⟩ | ⟨n_1, hf⟩
    · refine sx_tin hm dX5_tell_1 (by rw [n_1]; decide) (by rw [n_1]; decide) (off := 48) (by rw [n_1]; rfl) (tgt := 49) rfl ?_
      clear n_0 n_1
      refine mx_S.pu (pc2 := 50) (lv2 := [(0, .ref a0), (1, .int a1)]) (st2 := [.ref a0]) hm dX5_tell_49 rfl ?_
      replace hf := mx_sv_el hf; obtain ⟨v2, e_v2, hf⟩ := hf
      refine sx_get hm dX5_tell_50 rs_RX5_50 (xgi_el e_v2) ?_
      clear e_v2
      cases hf
      exact sx_ire hm dX5_tell_53 rfl rfl
    · rcases mx_if_el hf with ⟨n_2, hf⟩ | ⟨n_2, hf⟩
      · refine sx_tin hm dX5_tell_1 (by rw [n_2]; decide) (by rw [n_2]; decide) (off := 53) (by rw [n_2]; rfl) (tgt := 54) rfl ?_
        clear n_0 n_1 n_2
        refine mx_S.pu (pc2 := 55) (lv2 := [(0, .ref a0), (1, .int a1)]) (st2 := [.ref a0]) hm dX5_tell_54 rfl ?_
        replace hf := mx_sv_el hf; obtain ⟨v3, e_v3, hf⟩ := hf
        refine sx_get hm dX5_tell_55 rs_RX5_57 (xgi_el e_v3) ?_
        clear e_v3
        cases hf
        exact sx_ire hm dX5_tell_58 rfl rfl
      · rcases mx_if_el hf with ⟨n_3, hf⟩ | ⟨n_3, hf⟩
        · refine sx_tin hm dX5_tell_1 (by rw [n_3]; decide) (by rw [n_3]; decide) (off := 58) (by rw [n_3]; rfl) (tgt := 59) rfl ?_
          clear n_0 n_1 n_2 n_3
          refine mx_S.pu (pc2 := 60) (lv2 := [(0, .ref a0), (1, .int a1)]) (st2 := [.ref a0]) hm dX5_tell_59 rfl ?_
          replace hf := mx_sv_el hf; obtain ⟨v4, e_v4, hf⟩ := hf
          refine sx_get hm dX5_tell_60 rs_RX5_60 (xgi_el e_v4) ?_
          clear e_v4
          cases hf
          exact sx_ire hm dX5_tell_63 rfl rfl
        · rcases mx_if_el hf with ⟨n_4, hf⟩ | ⟨n_4, hf⟩
          · refine sx_tin hm dX5_tell_1 (by rw [n_4]; decide) (by rw [n_4]; decide) (off := 63) (by rw [n_4]; rfl) (tgt := 64) rfl ?_
            clear n_0 n_1 n_2 n_3 n_4
            refine mx_S.pu (pc2 := 65) (lv2 := [(0, .ref a0), (1, .int a1)]) (st2 := [.ref a0]) hm dX5_tell_64 rfl ?_
            replace hf := mx_sv_el hf; obtain ⟨v5, e_v5, hf⟩ := hf
            refine sx_get hm dX5_tell_65 rs_RX5_63 (xgi_el e_v5) ?_
            clear e_v5
            cases hf
            exact sx_ire hm dX5_tell_68 rfl rfl
          · rcases mx_if_el hf with ⟨n_5, hf⟩ | ⟨n_5, hf⟩
            · refine sx_tin hm dX5_tell_1 (by rw [n_5]; decide) (by rw [n_5]; decide) (off := 68) (by rw [n_5]; rfl) (tgt := 69) rfl ?_
              clear n_0 n_1 n_2 n_3 n_4 n_5
              refine mx_S.pu (pc2 := 70) (lv2 := [(0, .ref a0), (1, .int a1)]) (st2 := [.ref a0]) hm dX5_tell_69 rfl ?_
              replace hf := mx_sv_el hf; obtain ⟨v6, e_v6, hf⟩ := hf
              refine sx_get hm dX5_tell_70 rs_RX5_66 (xgi_el e_v6) ?_
              clear e_v6
              cases hf
              exact sx_ire hm dX5_tell_73 rfl rfl
            · rcases mx_if_el hf with ⟨n_6, hf⟩ | ⟨n_6, hf⟩
              · refine sx_tin hm dX5_tell_1 (by rw [n_6]; decide) (by rw [n_6]; decide) (off := 73) (by rw [n_6]; rfl) (tgt := 74) rfl ?_
                clear n_0 n_1 n_2 n_3 n_4 n_5 n_6
                refine mx_S.pu (pc2 := 75) (lv2 := [(0, .ref a0), (1, .int a1)]) (st2 := [.ref a0]) hm dX5_tell_74 rfl ?_
                replace hf := mx_sv_el hf; obtain ⟨v7, e_v7, hf⟩ := hf
                refine sx_get hm dX5_tell_75 rs_RX5_69 (xgi_el e_v7) ?_
                clear e_v7
                cases hf
                exact sx_ire hm dX5_tell_78 rfl rfl
              · rcases (show (a1.toInt < 0 ∨ 6 < a1.toInt) ∨ a1.toInt = 0 ∨ a1.toInt = 1 ∨ a1.toInt = 2 ∨ a1.toInt = 3 ∨ a1.toInt = 4 ∨ a1.toInt = 5 ∨ a1.toInt = 6 by omega) with z0 | z0 | z0 | z0 | z0 | z0 | z0 | z0
                · refine sx_tout hm dX5_tell_1 z0 (tgt := 79) rfl ?_
                  refine sx_ic (v := (-1)) hm dX5_tell_79 (by decide) ?_
                  cases hf
                  exact sx_ire hm dX5_tell_80 rfl rfl
                · exact absurd (Int32.toInt_inj.mp (z0.trans (by decide : (0 : Int) = (0 : Int32).toInt))) n_0
                · exact absurd (Int32.toInt_inj.mp (z0.trans (by decide : (1 : Int) = (1 : Int32).toInt))) n_1
                · exact absurd (Int32.toInt_inj.mp (z0.trans (by decide : (2 : Int) = (2 : Int32).toInt))) n_2
                · exact absurd (Int32.toInt_inj.mp (z0.trans (by decide : (3 : Int) = (3 : Int32).toInt))) n_3
                · exact absurd (Int32.toInt_inj.mp (z0.trans (by decide : (4 : Int) = (4 : Int32).toInt))) n_4
                · exact absurd (Int32.toInt_inj.mp (z0.trans (by decide : (5 : Int) = (5 : Int32).toInt))) n_5
                · exact absurd (Int32.toInt_inj.mp (z0.trans (by decide : (6 : Int) = (6 : Int32).toInt))) n_6
set_option maxHeartbeats 4000000 in
set_option maxRecDepth 20000 in
theorem f_X5_tellTop_ok (X : Nat × (Nat → Int32)) {F L : Nat} (hF : 0 ≤ F) (hL : 0 ≤ L) (nn : Nat) (a0 : Nat) (a1 : Int32) (h : mx_H) {r : (Int32 × mx_H)} (hf : f_X5_tellTop nn a0 a1 h = some r) : mx_R X F L 147 [.ref a0, .int a1] h (some (.int r.1), r.2, 0, 0) := by
  have hm : mx_mt 147 = some (yX5_tellTop, cX5_tellTop, 2, (some .int)) := mt_X5_tellTop
  show mx_S X F L 147 0 [(0, .ref a0), (1, .int a1)] [] h 0 0 (some (.int r.1), r.2, 0, 0)
  unfold f_X5_tellTop at hf
  refine mx_S.pu (pc2 := 1) (lv2 := [(0, .ref a0), (1, .int a1)]) (st2 := [.ref a0]) hm dX5_tellTop_0 rfl ?_
  replace hf := mx_sv_el hf; obtain ⟨v1, e_v1, hf⟩ := hf
  refine sx_get hm dX5_tellTop_1 rs_RX5_54 (xgi_el e_v1) ?_
  clear e_v1
  refine sx_ic (v := 1) hm dX5_tellTop_4 (by decide) ?_
  rcases mx_if_el hf with ⟨c17, hf⟩ | ⟨c17, hf⟩
  · refine sb_ic_eq hm dX5_tellTop_5 (tgt := 10) rfl (fun _ => ?_) (fun z => absurd c17 z)
    refine mx_S.pu (pc2 := 11) (lv2 := [(0, .ref a0), (1, .int a1)]) (st2 := [.int a1]) hm dX5_tellTop_10 rfl ?_
    rcases mx_if_el hf with ⟨n_0, hf⟩ | ⟨n_0, hf⟩
    · refine sx_tin hm dX5_tellTop_11 (by rw [n_0]; decide) (by rw [n_0]; decide) (off := 29) (by rw [n_0]; rfl) (tgt := 40) rfl ?_
      clear n_0
      refine sx_bi (v := 8) hm dX5_tellTop_40 (by decide) ?_
      refine mx_S.pu (pc2 := 43) (lv2 := [(0, .ref a0), (1, .int a1)]) (st2 := [.ref a0, .int 8]) hm dX5_tellTop_42 rfl ?_
      replace hf := mx_sv_el hf; obtain ⟨v2, e_v2, hf⟩ := hf
      refine sx_get hm dX5_tellTop_43 rs_RX5_26 (xgr_el e_v2) ?_
      clear e_v2
      refine mx_S.pu (pc2 := 47) (lv2 := [(0, .ref a0), (1, .int a1)]) (st2 := [.ref a0, .ref v2, .int 8]) hm dX5_tellTop_46 rfl ?_
      replace hf := mx_sv_el hf; obtain ⟨v3, e_v3, hf⟩ := hf
      refine sx_get hm dX5_tellTop_47 rs_RX5_97 (xgi_el e_v3) ?_
      clear e_v3
      replace hf := mx_sv_el hf; obtain ⟨v4, e_v4, hf⟩ := hf
      refine sx_ald hm dX5_tellTop_50 e_v4 ?_
      clear e_v4
      refine sx_bi (v := 12) hm dX5_tellTop_51 (by decide) ?_
      replace hf := xl_el hf; obtain ⟨v5, e_v5, hf⟩ := hf
      refine sx_idiv (v := v5) hm dX5_tellTop_53 (by decide) e_v5 ?_
      clear e_v5
      replace hf := xl_el hf; obtain ⟨v6, e_v6, hf⟩ := hf
      refine mx_S.pu (pc2 := 55) (lv2 := [(0, .ref a0), (1, .int a1)]) (st2 := [.int v6]) hm dX5_tellTop_54 (by rw [← e_v6]; rfl) ?_
      clear e_v6
      cases hf
      exact sx_ire hm dX5_tellTop_55 rfl rfl
    · rcases mx_if_el hf with ⟨n_1, hf⟩ | ⟨n_1, hf⟩
      · refine sx_tin hm dX5_tellTop_11 (by rw [n_1]; decide) (by rw [n_1]; decide) (off := 45) (by rw [n_1]; rfl) (tgt := 56) rfl ?_
        clear n_0 n_1
        refine mx_S.pu (pc2 := 57) (lv2 := [(0, .ref a0), (1, .int a1)]) (st2 := [.ref a0]) hm dX5_tellTop_56 rfl ?_
        replace hf := mx_sv_el hf; obtain ⟨v7, e_v7, hf⟩ := hf
        refine sx_get hm dX5_tellTop_57 rs_RX5_26 (xgr_el e_v7) ?_
        clear e_v7
        refine mx_S.pu (pc2 := 61) (lv2 := [(0, .ref a0), (1, .int a1)]) (st2 := [.ref a0, .ref v7]) hm dX5_tellTop_60 rfl ?_
        replace hf := mx_sv_el hf; obtain ⟨v8, e_v8, hf⟩ := hf
        refine sx_get hm dX5_tellTop_61 rs_RX5_97 (xgi_el e_v8) ?_
        clear e_v8
        replace hf := mx_sv_el hf; obtain ⟨v9, e_v9, hf⟩ := hf
        refine sx_ald hm dX5_tellTop_64 e_v9 ?_
        clear e_v9
        refine sx_bi (v := 12) hm dX5_tellTop_65 (by decide) ?_
        replace hf := xl_el hf; obtain ⟨v10, e_v10, hf⟩ := hf
        refine sx_irem (v := v10) hm dX5_tellTop_67 (by decide) e_v10 ?_
        clear e_v10
        cases hf
        exact sx_ire hm dX5_tellTop_68 rfl rfl
      · rcases mx_if_el hf with ⟨n_2, hf⟩ | ⟨n_2, hf⟩
        · refine sx_tin hm dX5_tellTop_11 (by rw [n_2]; decide) (by rw [n_2]; decide) (off := 58) (by rw [n_2]; rfl) (tgt := 69) rfl ?_
          clear n_0 n_1 n_2
          refine mx_S.pu (pc2 := 70) (lv2 := [(0, .ref a0), (1, .int a1)]) (st2 := [.ref a0]) hm dX5_tellTop_69 rfl ?_
          replace hf := mx_sv_el hf; obtain ⟨v11, e_v11, hf⟩ := hf
          refine sx_get hm dX5_tellTop_70 rs_RX5_29 (xgr_el e_v11) ?_
          clear e_v11
          refine mx_S.pu (pc2 := 74) (lv2 := [(0, .ref a0), (1, .int a1)]) (st2 := [.ref a0, .ref v11]) hm dX5_tellTop_73 rfl ?_
          replace hf := mx_sv_el hf; obtain ⟨v12, e_v12, hf⟩ := hf
          refine sx_get hm dX5_tellTop_74 rs_RX5_97 (xgi_el e_v12) ?_
          clear e_v12
          replace hf := mx_sv_el hf; obtain ⟨v13, e_v13, hf⟩ := hf
          refine sx_ald hm dX5_tellTop_77 e_v13 ?_
          clear e_v13
          cases hf
          exact sx_ire hm dX5_tellTop_78 rfl rfl
        · rcases mx_if_el hf with ⟨n_3, hf⟩ | ⟨n_3, hf⟩
          · refine sx_tin hm dX5_tellTop_11 (by rw [n_3]; decide) (by rw [n_3]; decide) (off := 68) (by rw [n_3]; rfl) (tgt := 79) rfl ?_
            clear n_0 n_1 n_2 n_3
            refine mx_S.pu (pc2 := 80) (lv2 := [(0, .ref a0), (1, .int a1)]) (st2 := [.ref a0]) hm dX5_tellTop_79 rfl ?_
            replace hf := mx_sv_el hf; obtain ⟨v14, e_v14, hf⟩ := hf
            refine sx_get hm dX5_tellTop_80 rs_RX5_32 (xgr_el e_v14) ?_
            clear e_v14
            refine mx_S.pu (pc2 := 84) (lv2 := [(0, .ref a0), (1, .int a1)]) (st2 := [.ref a0, .ref v14]) hm dX5_tellTop_83 rfl ?_
            replace hf := mx_sv_el hf; obtain ⟨v15, e_v15, hf⟩ := hf
            refine sx_get hm dX5_tellTop_84 rs_RX5_97 (xgi_el e_v15) ?_
            clear e_v15
            replace hf := mx_sv_el hf; obtain ⟨v16, e_v16, hf⟩ := hf
            refine sx_ald hm dX5_tellTop_87 e_v16 ?_
            clear e_v16
            cases hf
            exact sx_ire hm dX5_tellTop_88 rfl rfl
          · rcases (show (a1.toInt < 7 ∨ 10 < a1.toInt) ∨ a1.toInt = 7 ∨ a1.toInt = 8 ∨ a1.toInt = 9 ∨ a1.toInt = 10 by omega) with z0 | z0 | z0 | z0 | z0
            · refine sx_tout hm dX5_tellTop_11 z0 (tgt := 89) rfl ?_
              refine sx_ic (v := (-1)) hm dX5_tellTop_89 (by decide) ?_
              cases hf
              exact sx_ire hm dX5_tellTop_90 rfl rfl
            · exact absurd (Int32.toInt_inj.mp (z0.trans (by decide : (7 : Int) = (7 : Int32).toInt))) n_0
            · exact absurd (Int32.toInt_inj.mp (z0.trans (by decide : (8 : Int) = (8 : Int32).toInt))) n_1
            · exact absurd (Int32.toInt_inj.mp (z0.trans (by decide : (9 : Int) = (9 : Int32).toInt))) n_2
            · exact absurd (Int32.toInt_inj.mp (z0.trans (by decide : (10 : Int) = (10 : Int32).toInt))) n_3
  · refine sb_ic_eq hm dX5_tellTop_5 (tgt := 10) rfl (fun z => absurd z c17) (fun _ => ?_)
    refine sx_ic (v := (-1)) hm dX5_tellTop_8 (by decide) ?_
    cases hf
    exact sx_ire hm dX5_tellTop_9 rfl rfl

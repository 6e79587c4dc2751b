set_option maxHeartbeats 4000000 in
set_option maxRecDepth 20000 in
theorem w_X13_isNamed_184_ok (X : Nat × (Nat → Int32)) {F L : Nat} (hF : 4 ≤ F) (hL : 85 ≤ L) (nn : Nat) : ∀ (k : Nat) (l0 : Nat) (l2 : Nat) (l3 : Int32) (l4 : Int32) (l5 : Int32) (l6 : Int32) (l7 : Int32) (h : mx_H) (r : (Int32 × mx_H)), w_X13_isNamed_184 nn k l0 l2 l3 l4 l5 l6 l7 h = some r → mx_S X F L 509 184 [(0, .ref l0), (2, .ref l2), (3, .int l3), (4, .int l4), (5, .int l5), (6, .int l6), (7, .int l7)] [] h 0 0 (some (.int r.1), r.2, 0, 0) := by
  have hm : mx_mt 509 = some (yX13_isNamed, cX13_isNamed, 9, (some .boolean)) := mt_X13_isNamed
  intro k
  induction k with
  | zero => intro l0 l2 l3 l4 l5 l6 l7 h r hf; cases hf
  | succ k ih =>
    intro l0 l2 l3 l4 l5 l6 l7 h r hf
    unfold w_X13_isNamed_184 at hf
    refine mx_S.pu (pc2 := 186) (lv2 := [(0, .ref l0), (2, .ref l2), (3, .int l3), (4, .int l4), (5, .int l5), (6, .int l6), (7, .int l7)]) (st2 := [.int l7]) hm dX13_isNamed_184 rfl ?_
    refine mx_S.pu (pc2 := 188) (lv2 := [(0, .ref l0), (2, .ref l2), (3, .int l3), (4, .int l4), (5, .int l5), (6, .int l6), (7, .int l7)]) (st2 := [.int l4, .int l7]) hm dX13_isNamed_186 rfl ?_
    rcases mx_if_el hf with ⟨c13, hf⟩ | ⟨c13, hf⟩
    · refine sb_ic_ge hm dX13_isNamed_188 (tgt := 230) rfl (fun _ => ?_) (fun z => absurd c13 z)
      refine mx_S.pu (pc2 := 232) (lv2 := [(0, .ref l0), (2, .ref l2), (3, .int l3), (4, .int l4), (5, .int l5), (6, .int l6), (7, .int l7)]) (st2 := [.int l6]) hm dX13_isNamed_230 rfl ?_
      replace hf := mx_gd_el hf; obtain ⟨c1, hf⟩ := hf
      cases hf
      exact sx_ire hm dX13_isNamed_232 rfl (xbq_ok c1).1
    · refine sb_ic_ge hm dX13_isNamed_188 (tgt := 230) rfl (fun z => absurd z c13) (fun _ => ?_)
      refine mx_S.pu (pc2 := 193) (lv2 := [(0, .ref l0), (2, .ref l2), (3, .int l3), (4, .int l4), (5, .int l5), (6, .int l6), (7, .int l7)]) (st2 := [.int l6]) hm dX13_isNamed_191 rfl ?_
      rcases mx_if_el hf with ⟨c12, hf⟩ | ⟨c12, hf⟩
      · refine sb_if_eq hm dX13_isNamed_193 (tgt := 230) rfl (fun _ => ?_) (fun z => absurd c12 z)
        refine mx_S.pu (pc2 := 232) (lv2 := [(0, .ref l0), (2, .ref l2), (3, .int l3), (4, .int l4), (5, .int l5), (6, .int l6), (7, .int l7)]) (st2 := [.int l6]) hm dX13_isNamed_230 rfl ?_
        replace hf := mx_gd_el hf; obtain ⟨c2, hf⟩ := hf
        cases hf
        exact sx_ire hm dX13_isNamed_232 rfl (xbq_ok c2).1
      · refine sb_if_eq hm dX13_isNamed_193 (tgt := 230) rfl (fun z => absurd z c12) (fun _ => ?_)
        refine mx_S.pu (pc2 := 197) (lv2 := [(0, .ref l0), (2, .ref l2), (3, .int l3), (4, .int l4), (5, .int l5), (6, .int l6), (7, .int l7)]) (st2 := [.ref l0]) hm dX13_isNamed_196 rfl ?_
        replace hf := mx_sv_el hf; obtain ⟨v3, e_v3, hf⟩ := hf
        refine sx_get hm dX13_isNamed_197 rs_RX13_209 (xgr_el e_v3) ?_
        clear e_v3
        refine mx_S.pu (pc2 := 202) (lv2 := [(0, .ref l0), (2, .ref l2), (3, .int l3), (4, .int l4), (5, .int l5), (6, .int l6), (7, .int l7)]) (st2 := [.int l5, .ref v3]) hm dX13_isNamed_200 rfl ?_
        refine sx_ic (v := 1) hm dX13_isNamed_202 (by decide) ?_
        replace hf := xl_el hf; obtain ⟨v4, e_v4, hf⟩ := hf
        refine mx_S.pu (pc2 := 204) (lv2 := [(0, .ref l0), (2, .ref l2), (3, .int l3), (4, .int l4), (5, .int l5), (6, .int l6), (7, .int l7)]) (st2 := [.int v4, .ref v3]) hm dX13_isNamed_203 (by rw [← e_v4]; rfl) ?_
        clear e_v4
        refine mx_S.pu (pc2 := 206) (lv2 := [(0, .ref l0), (2, .ref l2), (3, .int l3), (4, .int l4), (5, .int l5), (6, .int l6), (7, .int l7)]) (st2 := [.int l7, .int v4, .ref v3]) hm dX13_isNamed_204 rfl ?_
        replace hf := xl_el hf; obtain ⟨v5, e_v5, hf⟩ := hf
        refine mx_S.pu (pc2 := 207) (lv2 := [(0, .ref l0), (2, .ref l2), (3, .int l3), (4, .int l4), (5, .int l5), (6, .int l6), (7, .int l7)]) (st2 := [.int v5, .ref v3]) hm dX13_isNamed_206 (by rw [← e_v5]; rfl) ?_
        clear e_v5
        replace hf := mx_sv_el hf; obtain ⟨v6, e_v6, hf⟩ := hf
        refine sx_ald hm dX13_isNamed_207 e_v6 ?_
        clear e_v6
        refine mx_S.pu (pc2 := 209) (lv2 := [(0, .ref l0), (2, .ref l2), (3, .int l3), (4, .int l4), (5, .int l5), (6, .int l6), (7, .int l7)]) (st2 := [.ref l2, .int v6]) hm dX13_isNamed_208 rfl ?_
        refine mx_S.pu (pc2 := 210) (lv2 := [(0, .ref l0), (2, .ref l2), (3, .int l3), (4, .int l4), (5, .int l5), (6, .int l6), (7, .int l7)]) (st2 := [.int l3, .ref l2, .int v6]) hm dX13_isNamed_209 rfl ?_
        refine mx_S.pu (pc2 := 212) (lv2 := [(0, .ref l0), (2, .ref l2), (3, .int l3), (4, .int l4), (5, .int l5), (6, .int l6), (7, .int l7)]) (st2 := [.int l7, .int l3, .ref l2, .int v6]) hm dX13_isNamed_210 rfl ?_
        replace hf := xl_el hf; obtain ⟨v7, e_v7, hf⟩ := hf
        refine mx_S.pu (pc2 := 213) (lv2 := [(0, .ref l0), (2, .ref l2), (3, .int l3), (4, .int l4), (5, .int l5), (6, .int l6), (7, .int l7)]) (st2 := [.int v7, .ref l2, .int v6]) hm dX13_isNamed_212 (by rw [← e_v7]; rfl) ?_
        clear e_v7
        replace hf := mx_sv_el hf; obtain ⟨v8, e_v8, hf⟩ := hf
        refine sx_ald hm dX13_isNamed_213 e_v8 ?_
        clear e_v8
        rcases mx_if_el hf with ⟨c11, hf⟩ | ⟨c11, hf⟩
        · refine sb_ic_ne hm dX13_isNamed_214 (tgt := 221) rfl (fun _ => ?_) (fun z => absurd c11 z)
          refine sx_ic (v := 0) hm dX13_isNamed_221 (by decide) ?_
          refine mx_S.pu (pc2 := 224) (lv2 := [(6, .int 0), (0, .ref l0), (2, .ref l2), (3, .int l3), (4, .int l4), (5, .int l5), (7, .int l7)]) (st2 := []) hm dX13_isNamed_222 rfl ?_
          replace hf := xl_el hf; obtain ⟨v9, e_v9, hf⟩ := hf
          refine mx_S.pu (pc2 := 227) (lv2 := [(7, .int v9), (6, .int 0), (0, .ref l0), (2, .ref l2), (3, .int l3), (4, .int l4), (5, .int l5)]) (st2 := []) hm dX13_isNamed_224 (by rw [← e_v9]; rfl) ?_
          clear e_v9
          refine mx_S.pu (pc2 := 184) (lv2 := [(7, .int v9), (6, .int 0), (0, .ref l0), (2, .ref l2), (3, .int l3), (4, .int l4), (5, .int l5)]) (st2 := []) hm dX13_isNamed_227 rfl ?_
          refine mx_S.ext [(0, .ref l0), (2, .ref l2), (3, .int l3), (4, .int l4), (5, .int l5), (6, .int 0), (7, .int v9)] (mx_sub_pos [2, 3, 4, 5, 6, 1, 0] rfl (show ([7, 6, 0, 2, 3, 4, 5] : List Nat).Nodup by decide)) ?_
          exact ih l0 l2 l3 l4 l5 0 v9 h _ hf
        · refine sb_ic_ne hm dX13_isNamed_214 (tgt := 221) rfl (fun z => absurd z c11) (fun _ => ?_)
          refine sx_ic (v := 1) hm dX13_isNamed_217 (by decide) ?_
          refine mx_S.pu (pc2 := 222) (lv2 := [(0, .ref l0), (2, .ref l2), (3, .int l3), (4, .int l4), (5, .int l5), (6, .int l6), (7, .int l7)]) (st2 := [.int 1]) hm dX13_isNamed_218 rfl ?_
          refine mx_S.pu (pc2 := 224) (lv2 := [(6, .int 1), (0, .ref l0), (2, .ref l2), (3, .int l3), (4, .int l4), (5, .int l5), (7, .int l7)]) (st2 := []) hm dX13_isNamed_222 rfl ?_
          replace hf := xl_el hf; obtain ⟨v10, e_v10, hf⟩ := hf
          refine mx_S.pu (pc2 := 227) (lv2 := [(7, .int v10), (6, .int 1), (0, .ref l0), (2, .ref l2), (3, .int l3), (4, .int l4), (5, .int l5)]) (st2 := []) hm dX13_isNamed_224 (by rw [← e_v10]; rfl) ?_
          clear e_v10
          refine mx_S.pu (pc2 := 184) (lv2 := [(7, .int v10), (6, .int 1), (0, .ref l0), (2, .ref l2), (3, .int l3), (4, .int l4), (5, .int l5)]) (st2 := []) hm dX13_isNamed_227 rfl ?_
          refine mx_S.ext [(0, .ref l0), (2, .ref l2), (3, .int l3), (4, .int l4), (5, .int l5), (6, .int 1), (7, .int v10)] (mx_sub_pos [2, 3, 4, 5, 6, 1, 0] rfl (show ([7, 6, 0, 2, 3, 4, 5] : List Nat).Nodup by decide)) ?_
          exact ih l0 l2 l3 l4 l5 1 v10 h _ hf
set_option maxHeartbeats 4000000 in
set_option maxRecDepth 20000 in
theorem w_X13_isNamed_97_ok (X : Nat × (Nat → Int32)) {F L : Nat} (hF : 4 ≤ F) (hL : 85 ≤ L) (nn : Nat) : ∀ (k : Nat) (l2 : Nat) (l3 : Int32) (l4 : Int32) (l6 : Int32) (l7 : Int32) (l8 : Int32) (h : mx_H) (r : (Int32 × mx_H)), w_X13_isNamed_97 nn k l2 l3 l4 l6 l7 l8 h = some r → mx_S X F L 509 97 [(2, .ref l2), (3, .int l3), (4, .int l4), (6, .int l6), (7, .int l7), (8, .int l8)] [] h 0 0 (some (.int r.1), r.2, 0, 0) := by
  have hm : mx_mt 509 = some (yX13_isNamed, cX13_isNamed, 9, (some .boolean)) := mt_X13_isNamed
  intro k
  induction k with
  | zero => intro l2 l3 l4 l6 l7 l8 h r hf; cases hf
  | succ k ih =>
    intro l2 l3 l4 l6 l7 l8 h r hf
    unfold w_X13_isNamed_97 at hf
    refine mx_S.pu (pc2 := 99) (lv2 := [(2, .ref l2), (3, .int l3), (4, .int l4), (6, .int l6), (7, .int l7), (8, .int l8)]) (st2 := [.int l8]) hm dX13_isNamed_97 rfl ?_
    refine mx_S.pu (pc2 := 101) (lv2 := [(2, .ref l2), (3, .int l3), (4, .int l4), (6, .int l6), (7, .int l7), (8, .int l8)]) (st2 := [.int l4, .int l8]) hm dX13_isNamed_99 rfl ?_
    rcases mx_if_el hf with ⟨c25, hf⟩ | ⟨c25, hf⟩
    · refine sb_ic_ge hm dX13_isNamed_101 (tgt := 144) rfl (fun _ => ?_) (fun z => absurd c25 z)
      refine mx_S.pu (pc2 := 146) (lv2 := [(2, .ref l2), (3, .int l3), (4, .int l4), (6, .int l6), (7, .int l7), (8, .int l8)]) (st2 := [.int l7]) hm dX13_isNamed_144 rfl ?_
      replace hf := mx_gd_el hf; obtain ⟨c14, hf⟩ := hf
      cases hf
      exact sx_ire hm dX13_isNamed_146 rfl (xbq_ok c14).1
    · refine sb_ic_ge hm dX13_isNamed_101 (tgt := 144) rfl (fun z => absurd z c25) (fun _ => ?_)
      refine mx_S.pu (pc2 := 106) (lv2 := [(2, .ref l2), (3, .int l3), (4, .int l4), (6, .int l6), (7, .int l7), (8, .int l8)]) (st2 := [.int l7]) hm dX13_isNamed_104 rfl ?_
      rcases mx_if_el hf with ⟨c24, hf⟩ | ⟨c24, hf⟩
      · refine sb_if_eq hm dX13_isNamed_106 (tgt := 144) rfl (fun _ => ?_) (fun z => absurd c24 z)
        refine mx_S.pu (pc2 := 146) (lv2 := [(2, .ref l2), (3, .int l3), (4, .int l4), (6, .int l6), (7, .int l7), (8, .int l8)]) (st2 := [.int l7]) hm dX13_isNamed_144 rfl ?_
        replace hf := mx_gd_el hf; obtain ⟨c15, hf⟩ := hf
        cases hf
        exact sx_ire hm dX13_isNamed_146 rfl (xbq_ok c15).1
      · refine sb_if_eq hm dX13_isNamed_106 (tgt := 144) rfl (fun z => absurd z c24) (fun _ => ?_)
        refine sx_ldcw hm dX13_isNamed_109 rs_RX13_477 ?_
        refine mx_S.pu (pc2 := 114) (lv2 := [(2, .ref l2), (3, .int l3), (4, .int l4), (6, .int l6), (7, .int l7), (8, .int l8)]) (st2 := [.int l6, .ref (1000000000 + 3)]) hm dX13_isNamed_112 rfl ?_
        refine sx_ic (v := 1) hm dX13_isNamed_114 (by decide) ?_
        replace hf := xl_el hf; obtain ⟨v16, e_v16, hf⟩ := hf
        refine mx_S.pu (pc2 := 116) (lv2 := [(2, .ref l2), (3, .int l3), (4, .int l4), (6, .int l6), (7, .int l7), (8, .int l8)]) (st2 := [.int v16, .ref (1000000000 + 3)]) hm dX13_isNamed_115 (by rw [← e_v16]; rfl) ?_
        clear e_v16
        refine mx_S.pu (pc2 := 118) (lv2 := [(2, .ref l2), (3, .int l3), (4, .int l4), (6, .int l6), (7, .int l7), (8, .int l8)]) (st2 := [.int l8, .int v16, .ref (1000000000 + 3)]) hm dX13_isNamed_116 rfl ?_
        replace hf := xl_el hf; obtain ⟨v17, e_v17, hf⟩ := hf
        refine mx_S.pu (pc2 := 119) (lv2 := [(2, .ref l2), (3, .int l3), (4, .int l4), (6, .int l6), (7, .int l7), (8, .int l8)]) (st2 := [.int v17, .ref (1000000000 + 3)]) hm dX13_isNamed_118 (by rw [← e_v17]; rfl) ?_
        clear e_v17
        replace hf := mx_sv_el hf; obtain ⟨v18, e_v18, hf⟩ := hf
        refine sx_chr hm dX13_isNamed_119 rs_RX13_334 e_v18 (by omega) (by omega) (Nat.le_of_ble_eq_true rfl) ?_
        clear e_v18
        refine mx_S.pu (pc2 := 123) (lv2 := [(2, .ref l2), (3, .int l3), (4, .int l4), (6, .int l6), (7, .int l7), (8, .int l8)]) (st2 := [.ref l2, .int v18]) hm dX13_isNamed_122 rfl ?_
        refine mx_S.pu (pc2 := 124) (lv2 := [(2, .ref l2), (3, .int l3), (4, .int l4), (6, .int l6), (7, .int l7), (8, .int l8)]) (st2 := [.int l3, .ref l2, .int v18]) hm dX13_isNamed_123 rfl ?_
        refine mx_S.pu (pc2 := 126) (lv2 := [(2, .ref l2), (3, .int l3), (4, .int l4), (6, .int l6), (7, .int l7), (8, .int l8)]) (st2 := [.int l8, .int l3, .ref l2, .int v18]) hm dX13_isNamed_124 rfl ?_
        replace hf := xl_el hf; obtain ⟨v19, e_v19, hf⟩ := hf
        refine mx_S.pu (pc2 := 127) (lv2 := [(2, .ref l2), (3, .int l3), (4, .int l4), (6, .int l6), (7, .int l7), (8, .int l8)]) (st2 := [.int v19, .ref l2, .int v18]) hm dX13_isNamed_126 (by rw [← e_v19]; rfl) ?_
        clear e_v19
        replace hf := mx_sv_el hf; obtain ⟨v20, e_v20, hf⟩ := hf
        refine sx_ald hm dX13_isNamed_127 e_v20 ?_
        clear e_v20
        rcases mx_if_el hf with ⟨c23, hf⟩ | ⟨c23, hf⟩
        · refine sb_ic_ne hm dX13_isNamed_128 (tgt := 135) rfl (fun _ => ?_) (fun z => absurd c23 z)
          refine sx_ic (v := 0) hm dX13_isNamed_135 (by decide) ?_
          refine mx_S.pu (pc2 := 138) (lv2 := [(7, .int 0), (2, .ref l2), (3, .int l3), (4, .int l4), (6, .int l6), (8, .int l8)]) (st2 := []) hm dX13_isNamed_136 rfl ?_
          replace hf := xl_el hf; obtain ⟨v21, e_v21, hf⟩ := hf
          refine mx_S.pu (pc2 := 141) (lv2 := [(8, .int v21), (7, .int 0), (2, .ref l2), (3, .int l3), (4, .int l4), (6, .int l6)]) (st2 := []) hm dX13_isNamed_138 (by rw [← e_v21]; rfl) ?_
          clear e_v21
          refine mx_S.pu (pc2 := 97) (lv2 := [(8, .int v21), (7, .int 0), (2, .ref l2), (3, .int l3), (4, .int l4), (6, .int l6)]) (st2 := []) hm dX13_isNamed_141 rfl ?_
          refine mx_S.ext [(2, .ref l2), (3, .int l3), (4, .int l4), (6, .int l6), (7, .int 0), (8, .int v21)] (mx_sub_pos [2, 3, 4, 5, 1, 0] rfl (show ([8, 7, 2, 3, 4, 6] : List Nat).Nodup by decide)) ?_
          exact ih l2 l3 l4 l6 0 v21 h _ hf
        · refine sb_ic_ne hm dX13_isNamed_128 (tgt := 135) rfl (fun z => absurd z c23) (fun _ => ?_)
          refine sx_ic (v := 1) hm dX13_isNamed_131 (by decide) ?_
          refine mx_S.pu (pc2 := 136) (lv2 := [(2, .ref l2), (3, .int l3), (4, .int l4), (6, .int l6), (7, .int l7), (8, .int l8)]) (st2 := [.int 1]) hm dX13_isNamed_132 rfl ?_
          refine mx_S.pu (pc2 := 138) (lv2 := [(7, .int 1), (2, .ref l2), (3, .int l3), (4, .int l4), (6, .int l6), (8, .int l8)]) (st2 := []) hm dX13_isNamed_136 rfl ?_
          replace hf := xl_el hf; obtain ⟨v22, e_v22, hf⟩ := hf
          refine mx_S.pu (pc2 := 141) (lv2 := [(8, .int v22), (7, .int 1), (2, .ref l2), (3, .int l3), (4, .int l4), (6, .int l6)]) (st2 := []) hm dX13_isNamed_138 (by rw [← e_v22]; rfl) ?_
          clear e_v22
          refine mx_S.pu (pc2 := 97) (lv2 := [(8, .int v22), (7, .int 1), (2, .ref l2), (3, .int l3), (4, .int l4), (6, .int l6)]) (st2 := []) hm dX13_isNamed_141 rfl ?_
          refine mx_S.ext [(2, .ref l2), (3, .int l3), (4, .int l4), (6, .int l6), (7, .int 1), (8, .int v22)] (mx_sub_pos [2, 3, 4, 5, 1, 0] rfl (show ([8, 7, 2, 3, 4, 6] : List Nat).Nodup by decide)) ?_
          exact ih l2 l3 l4 l6 1 v22 h _ hf
set_option maxHeartbeats 4000000 in
set_option maxRecDepth 20000 in
theorem j_X13_isNamed_91_ok (X : Nat × (Nat → Int32)) {F L : Nat} (hF : 4 ≤ F) (hL : 85 ≤ L) (nn : Nat) (l2 : Nat) (l3 : Int32) (l4 : Int32) (l6 : Int32) (h : mx_H) {r : (Int32 × mx_H)} (hf : j_X13_isNamed_91 nn l2 l3 l4 l6 h = some r) : mx_S X F L 509 91 [(2, .ref l2), (3, .int l3), (4, .int l4), (6, .int l6)] [] h 0 0 (some (.int r.1), r.2, 0, 0) := by
  have hm : mx_mt 509 = some (yX13_isNamed, cX13_isNamed, 9, (some .boolean)) := mt_X13_isNamed
  unfold j_X13_isNamed_91 at hf
  refine sx_ic (v := 0) hm dX13_isNamed_91 (by decide) ?_
  refine mx_S.pu (pc2 := 94) (lv2 := [(7, .int 0), (2, .ref l2), (3, .int l3), (4, .int l4), (6, .int l6)]) (st2 := []) hm dX13_isNamed_92 rfl ?_
  refine sx_ic (v := 0) hm dX13_isNamed_94 (by decide) ?_
  refine mx_S.pu (pc2 := 97) (lv2 := [(8, .int 0), (7, .int 0), (2, .ref l2), (3, .int l3), (4, .int l4), (6, .int l6)]) (st2 := []) hm dX13_isNamed_95 rfl ?_
  refine mx_S.ext [(2, .ref l2), (3, .int l3), (4, .int l4), (6, .int l6), (7, .int 0), (8, .int 0)] (mx_sub_pos [2, 3, 4, 5, 1, 0] rfl (show ([8, 7, 2, 3, 4, 6] : List Nat).Nodup by decide)) ?_
  exact w_X13_isNamed_97_ok X hF hL nn nn l2 l3 l4 l6 0 0 h _ hf
set_option maxHeartbeats 4000000 in
set_option maxRecDepth 20000 in
theorem w_X13_isNamed_12_ok (X : Nat × (Nat → Int32)) {F L : Nat} (hF : 4 ≤ F) (hL : 85 ≤ L) (nn : Nat) : ∀ (k : Nat) (l1 : Int32) (l2 : Nat) (l3 : Int32) (l4 : Int32) (l5 : Int32) (l6 : Int32) (h : mx_H) (r : (Int32 × mx_H)), w_X13_isNamed_12 nn k l1 l2 l3 l4 l5 l6 h = some r → mx_S X F L 509 12 [(1, .int l1), (2, .ref l2), (3, .int l3), (4, .int l4), (5, .int l5), (6, .int l6)] [] h 0 0 (some (.int r.1), r.2, 0, 0) := by
  have hm : mx_mt 509 = some (yX13_isNamed, cX13_isNamed, 9, (some .boolean)) := mt_X13_isNamed
  intro k
  induction k with
  | zero => intro l1 l2 l3 l4 l5 l6 h r hf; cases hf
  | succ k ih =>
    intro l1 l2 l3 l4 l5 l6 h r hf
    unfold w_X13_isNamed_12 at hf
    refine mx_S.pu (pc2 := 14) (lv2 := [(1, .int l1), (2, .ref l2), (3, .int l3), (4, .int l4), (5, .int l5), (6, .int l6)]) (st2 := [.int l6]) hm dX13_isNamed_12 rfl ?_
    refine sx_ic (v := 1) hm dX13_isNamed_14 (by decide) ?_
    replace hf := xl_el hf; obtain ⟨v26, e_v26, hf⟩ := hf
    refine mx_S.pu (pc2 := 16) (lv2 := [(1, .int l1), (2, .ref l2), (3, .int l3), (4, .int l4), (5, .int l5), (6, .int l6)]) (st2 := [.int v26]) hm dX13_isNamed_15 (by rw [← e_v26]; rfl) ?_
    clear e_v26
    refine sx_ldcw hm dX13_isNamed_16 rs_RX13_477 ?_
    replace hf := mx_sv_el hf; obtain ⟨v27, e_v27, hf⟩ := hf
    refine sx_sln hm dX13_isNamed_19 rs_RX13_328 e_v27 (by omega) (by omega) (Nat.le_of_ble_eq_true rfl) ?_
    clear e_v27
    rcases mx_if_el hf with ⟨c42, hf⟩ | ⟨c42, hf⟩
    · refine sb_ic_ge hm dX13_isNamed_22 (tgt := 153) rfl (fun _ => ?_) (fun z => absurd c42 z)
      refine sx_ic (v := 0) hm dX13_isNamed_153 (by decide) ?_
      cases hf
      exact sx_ire hm dX13_isNamed_154 rfl (by decide)
    · refine sb_ic_ge hm dX13_isNamed_22 (tgt := 153) rfl (fun z => absurd z c42) (fun _ => ?_)
      refine sx_ldcw hm dX13_isNamed_25 rs_RX13_477 ?_
      refine mx_S.pu (pc2 := 30) (lv2 := [(1, .int l1), (2, .ref l2), (3, .int l3), (4, .int l4), (5, .int l5), (6, .int l6)]) (st2 := [.int l6, .ref (1000000000 + 3)]) hm dX13_isNamed_28 rfl ?_
      replace hf := mx_sv_el hf; obtain ⟨v28, e_v28, hf⟩ := hf
      refine sx_chr hm dX13_isNamed_30 rs_RX13_334 e_v28 (by omega) (by omega) (Nat.le_of_ble_eq_true rfl) ?_
      clear e_v28
      refine sx_bi (v := 32) hm dX13_isNamed_33 (by decide) ?_
      rcases mx_if_el hf with ⟨c41, hf⟩ | ⟨c41, hf⟩
      · refine sb_ic_eq hm dX13_isNamed_35 (tgt := 41) rfl (fun _ => ?_) (fun z => absurd c41 z)
        replace hf := xl_el hf; obtain ⟨v29, e_v29, hf⟩ := hf
        refine mx_S.pu (pc2 := 44) (lv2 := [(5, .int v29), (1, .int l1), (2, .ref l2), (3, .int l3), (4, .int l4), (6, .int l6)]) (st2 := []) hm dX13_isNamed_41 (by rw [← e_v29]; rfl) ?_
        clear e_v29
        refine mx_S.pu (pc2 := 46) (lv2 := [(5, .int v29), (1, .int l1), (2, .ref l2), (3, .int l3), (4, .int l4), (6, .int l6)]) (st2 := [.int v29]) hm dX13_isNamed_44 rfl ?_
        refine mx_S.pu (pc2 := 47) (lv2 := [(5, .int v29), (1, .int l1), (2, .ref l2), (3, .int l3), (4, .int l4), (6, .int l6)]) (st2 := [.int l1, .int v29]) hm dX13_isNamed_46 rfl ?_
        rcases mx_if_el hf with ⟨c39, hf⟩ | ⟨c39, hf⟩
        · refine sb_ic_eq hm dX13_isNamed_47 (tgt := 53) rfl (fun _ => ?_) (fun z => absurd c39 z)
          refine mx_S.pu (pc2 := 55) (lv2 := [(5, .int v29), (1, .int l1), (2, .ref l2), (3, .int l3), (4, .int l4), (6, .int l6)]) (st2 := [.int l6]) hm dX13_isNamed_53 rfl ?_
          refine mx_S.pu (pc2 := 57) (lv2 := [(5, .int v29), (1, .int l1), (2, .ref l2), (3, .int l3), (4, .int l4), (6, .int l6)]) (st2 := [.int l4, .int l6]) hm dX13_isNamed_55 rfl ?_
          replace hf := xl_el hf; obtain ⟨v30, e_v30, hf⟩ := hf
          refine mx_S.pu (pc2 := 58) (lv2 := [(5, .int v29), (1, .int l1), (2, .ref l2), (3, .int l3), (4, .int l4), (6, .int l6)]) (st2 := [.int v30]) hm dX13_isNamed_57 (by rw [← e_v30]; rfl) ?_
          clear e_v30
          refine sx_ic (v := 1) hm dX13_isNamed_58 (by decide) ?_
          replace hf := xl_el hf; obtain ⟨v31, e_v31, hf⟩ := hf
          refine mx_S.pu (pc2 := 60) (lv2 := [(5, .int v29), (1, .int l1), (2, .ref l2), (3, .int l3), (4, .int l4), (6, .int l6)]) (st2 := [.int v31]) hm dX13_isNamed_59 (by rw [← e_v31]; rfl) ?_
          clear e_v31
          refine sx_ldcw hm dX13_isNamed_60 rs_RX13_477 ?_
          replace hf := mx_sv_el hf; obtain ⟨v32, e_v32, hf⟩ := hf
          refine sx_sln hm dX13_isNamed_63 rs_RX13_328 e_v32 (by omega) (by omega) (Nat.le_of_ble_eq_true rfl) ?_
          clear e_v32
          rcases mx_if_el hf with ⟨c37, hf⟩ | ⟨c37, hf⟩
          · refine sb_ic_ge hm dX13_isNamed_66 (tgt := 91) rfl (fun _ => ?_) (fun z => absurd c37 z)
            refine mx_S.ext [(2, .ref l2), (3, .int l3), (4, .int l4), (6, .int l6)] (mx_sub_pos [2, 3, 4, 5] rfl (show ([5, 1, 2, 3, 4, 6] : List Nat).Nodup by decide)) ?_
            exact j_X13_isNamed_91_ok X hF hL nn l2 l3 l4 l6 h hf
          · refine sb_ic_ge hm dX13_isNamed_66 (tgt := 91) rfl (fun z => absurd z c37) (fun _ => ?_)
            refine sx_ldcw hm dX13_isNamed_69 rs_RX13_477 ?_
            refine mx_S.pu (pc2 := 74) (lv2 := [(5, .int v29), (1, .int l1), (2, .ref l2), (3, .int l3), (4, .int l4), (6, .int l6)]) (st2 := [.int l6, .ref (1000000000 + 3)]) hm dX13_isNamed_72 rfl ?_
            refine mx_S.pu (pc2 := 76) (lv2 := [(5, .int v29), (1, .int l1), (2, .ref l2), (3, .int l3), (4, .int l4), (6, .int l6)]) (st2 := [.int l4, .int l6, .ref (1000000000 + 3)]) hm dX13_isNamed_74 rfl ?_
            replace hf := xl_el hf; obtain ⟨v33, e_v33, hf⟩ := hf
            refine mx_S.pu (pc2 := 77) (lv2 := [(5, .int v29), (1, .int l1), (2, .ref l2), (3, .int l3), (4, .int l4), (6, .int l6)]) (st2 := [.int v33, .ref (1000000000 + 3)]) hm dX13_isNamed_76 (by rw [← e_v33]; rfl) ?_
            clear e_v33
            refine sx_ic (v := 1) hm dX13_isNamed_77 (by decide) ?_
            replace hf := xl_el hf; obtain ⟨v34, e_v34, hf⟩ := hf
            refine mx_S.pu (pc2 := 79) (lv2 := [(5, .int v29), (1, .int l1), (2, .ref l2), (3, .int l3), (4, .int l4), (6, .int l6)]) (st2 := [.int v34, .ref (1000000000 + 3)]) hm dX13_isNamed_78 (by rw [← e_v34]; rfl) ?_
            clear e_v34
            replace hf := mx_sv_el hf; obtain ⟨v35, e_v35, hf⟩ := hf
            refine sx_chr hm dX13_isNamed_79 rs_RX13_334 e_v35 (by omega) (by omega) (Nat.le_of_ble_eq_true rfl) ?_
            clear e_v35
            refine sx_bi (v := 32) hm dX13_isNamed_82 (by decide) ?_
            rcases mx_if_el hf with ⟨c36, hf⟩ | ⟨c36, hf⟩
            · refine sb_ic_ne hm dX13_isNamed_84 (tgt := 91) rfl (fun _ => ?_) (fun z => absurd c36 z)
              refine mx_S.ext [(2, .ref l2), (3, .int l3), (4, .int l4), (6, .int l6)] (mx_sub_pos [2, 3, 4, 5] rfl (show ([5, 1, 2, 3, 4, 6] : List Nat).Nodup by decide)) ?_
              exact j_X13_isNamed_91_ok X hF hL nn l2 l3 l4 l6 h hf
            · refine sb_ic_ne hm dX13_isNamed_84 (tgt := 91) rfl (fun z => absurd z c36) (fun _ => ?_)
              refine sx_ic (v := 1) hm dX13_isNamed_87 (by decide) ?_
              refine mx_S.pu (pc2 := 92) (lv2 := [(5, .int v29), (1, .int l1), (2, .ref l2), (3, .int l3), (4, .int l4), (6, .int l6)]) (st2 := [.int 1]) hm dX13_isNamed_88 rfl ?_
              refine mx_S.pu (pc2 := 94) (lv2 := [(7, .int 1), (5, .int v29), (1, .int l1), (2, .ref l2), (3, .int l3), (4, .int l4), (6, .int l6)]) (st2 := []) hm dX13_isNamed_92 rfl ?_
              refine sx_ic (v := 0) hm dX13_isNamed_94 (by decide) ?_
              refine mx_S.pu (pc2 := 97) (lv2 := [(8, .int 0), (7, .int 1), (5, .int v29), (1, .int l1), (2, .ref l2), (3, .int l3), (4, .int l4), (6, .int l6)]) (st2 := []) hm dX13_isNamed_95 rfl ?_
              refine mx_S.ext [(2, .ref l2), (3, .int l3), (4, .int l4), (6, .int l6), (7, .int 1), (8, .int 0)] (mx_sub_pos [4, 5, 6, 7, 1, 0] rfl (show ([8, 7, 5, 1, 2, 3, 4, 6] : List Nat).Nodup by decide)) ?_
              exact w_X13_isNamed_97_ok X hF hL nn nn l2 l3 l4 l6 1 0 h _ hf
        · refine sb_ic_eq hm dX13_isNamed_47 (tgt := 53) rfl (fun z => absurd z c39) (fun _ => ?_)
          refine mx_S.pu (pc2 := 147) (lv2 := [(5, .int v29), (1, .int l1), (2, .ref l2), (3, .int l3), (4, .int l4), (6, .int l6)]) (st2 := []) hm dX13_isNamed_50 rfl ?_
          replace hf := xl_el hf; obtain ⟨v38, e_v38, hf⟩ := hf
          refine mx_S.pu (pc2 := 150) (lv2 := [(6, .int v38), (5, .int v29), (1, .int l1), (2, .ref l2), (3, .int l3), (4, .int l4)]) (st2 := []) hm dX13_isNamed_147 (by rw [← e_v38]; rfl) ?_
          clear e_v38
          refine mx_S.pu (pc2 := 12) (lv2 := [(6, .int v38), (5, .int v29), (1, .int l1), (2, .ref l2), (3, .int l3), (4, .int l4)]) (st2 := []) hm dX13_isNamed_150 rfl ?_
          refine mx_S.ext [(1, .int l1), (2, .ref l2), (3, .int l3), (4, .int l4), (5, .int v29), (6, .int v38)] (mx_sub_pos [2, 3, 4, 5, 1, 0] rfl (show ([6, 5, 1, 2, 3, 4] : List Nat).Nodup by decide)) ?_
          exact ih l1 l2 l3 l4 v29 v38 h _ hf
      · refine sb_ic_eq hm dX13_isNamed_35 (tgt := 41) rfl (fun z => absurd z c41) (fun _ => ?_)
        refine mx_S.pu (pc2 := 147) (lv2 := [(1, .int l1), (2, .ref l2), (3, .int l3), (4, .int l4), (5, .int l5), (6, .int l6)]) (st2 := []) hm dX13_isNamed_38 rfl ?_
        replace hf := xl_el hf; obtain ⟨v40, e_v40, hf⟩ := hf
        refine mx_S.pu (pc2 := 150) (lv2 := [(6, .int v40), (1, .int l1), (2, .ref l2), (3, .int l3), (4, .int l4), (5, .int l5)]) (st2 := []) hm dX13_isNamed_147 (by rw [← e_v40]; rfl) ?_
        clear e_v40
        refine mx_S.pu (pc2 := 12) (lv2 := [(6, .int v40), (1, .int l1), (2, .ref l2), (3, .int l3), (4, .int l4), (5, .int l5)]) (st2 := []) hm dX13_isNamed_150 rfl ?_
        refine mx_S.ext [(1, .int l1), (2, .ref l2), (3, .int l3), (4, .int l4), (5, .int l5), (6, .int v40)] (mx_sub_pos [1, 2, 3, 4, 5, 0] rfl (show ([6, 1, 2, 3, 4, 5] : List Nat).Nodup by decide)) ?_
        exact ih l1 l2 l3 l4 l5 v40 h _ hf
set_option maxHeartbeats 4000000 in
set_option maxRecDepth 20000 in
theorem f_X13_isNamed_ok (X : Nat × (Nat → Int32)) {F L : Nat} (hF : 4 ≤ F) (hL : 85 ≤ L) (nn : Nat) (a0 : Nat) (a1 : Int32) (a2 : Nat) (a3 : Int32) (a4 : Int32) (h : mx_H) {r : (Int32 × mx_H)} (hf : f_X13_isNamed nn a0 a1 a2 a3 a4 h = some r) : mx_R X F L 509 [.ref a0, .int a1, .ref a2, .int a3, .int a4] h (some (.int r.1), r.2, 0, 0) := by
  have hm : mx_mt 509 = some (yX13_isNamed, cX13_isNamed, 9, (some .boolean)) := mt_X13_isNamed
  show mx_S X F L 509 0 [(0, .ref a0), (1, .int a1), (2, .ref a2), (3, .int a3), (4, .int a4)] [] h 0 0 (some (.int r.1), r.2, 0, 0)
  unfold f_X13_isNamed at hf
  refine mx_S.pu (pc2 := 1) (lv2 := [(0, .ref a0), (1, .int a1), (2, .ref a2), (3, .int a3), (4, .int a4)]) (st2 := [.int a1]) hm dX13_isNamed_0 rfl ?_
  refine sx_bi (v := 8) hm dX13_isNamed_1 (by decide) ?_
  rcases mx_if_el hf with ⟨c48, hf⟩ | ⟨c48, hf⟩
  · refine sb_ic_ge hm dX13_isNamed_3 (tgt := 155) rfl (fun _ => ?_) (fun z => absurd c48 z)
    refine mx_S.pu (pc2 := 156) (lv2 := [(0, .ref a0), (1, .int a1), (2, .ref a2), (3, .int a3), (4, .int a4)]) (st2 := [.ref a0]) hm dX13_isNamed_155 rfl ?_
    refine mx_S.pu (pc2 := 157) (lv2 := [(0, .ref a0), (1, .int a1), (2, .ref a2), (3, .int a3), (4, .int a4)]) (st2 := [.int a1, .ref a0]) hm dX13_isNamed_156 rfl ?_
    replace hf := mx_gd_el hf; obtain ⟨c43, hf⟩ := hf
    replace hf := mx_sv_el hf; obtain ⟨u44, e_u44, hf⟩ := hf
    refine sx_cv hm dX13_isNamed_157 rs_RX13_830 mt_X13_nameAt [.int a1] [] (b := a0) (ci := 13) rfl rfl rfl c43 (Nat.le_of_ble_eq_true rfl) (Nat.le_of_ble_eq_true rfl) (by omega) (by omega) (f_X13_nameAt_ok X (by omega) (by omega) nn a0 a1 h e_u44) ?_
    clear e_u44
    show mx_S X F L 509 160 [(0, .ref a0), (1, .int a1), (2, .ref a2), (3, .int a3), (4, .int a4)] [.int u44.1] u44.2 0 0 (some (.int r.1), r.2, 0, 0)
    refine mx_S.pu (pc2 := 162) (lv2 := [(5, .int u44.1), (0, .ref a0), (1, .int a1), (2, .ref a2), (3, .int a3), (4, .int a4)]) (st2 := []) hm dX13_isNamed_160 rfl ?_
    refine mx_S.pu (pc2 := 163) (lv2 := [(5, .int u44.1), (0, .ref a0), (1, .int a1), (2, .ref a2), (3, .int a3), (4, .int a4)]) (st2 := [.ref a0]) hm dX13_isNamed_162 rfl ?_
    replace hf := mx_sv_el hf; obtain ⟨v45, e_v45, hf⟩ := hf
    refine sx_get hm dX13_isNamed_163 rs_RX13_209 (xgr_el e_v45) ?_
    clear e_v45
    refine mx_S.pu (pc2 := 168) (lv2 := [(5, .int u44.1), (0, .ref a0), (1, .int a1), (2, .ref a2), (3, .int a3), (4, .int a4)]) (st2 := [.int u44.1, .ref v45]) hm dX13_isNamed_166 rfl ?_
    replace hf := mx_sv_el hf; obtain ⟨v46, e_v46, hf⟩ := hf
    refine sx_ald hm dX13_isNamed_168 e_v46 ?_
    clear e_v46
    refine mx_S.pu (pc2 := 171) (lv2 := [(5, .int u44.1), (0, .ref a0), (1, .int a1), (2, .ref a2), (3, .int a3), (4, .int a4)]) (st2 := [.int a4, .int v46]) hm dX13_isNamed_169 rfl ?_
    rcases mx_if_el hf with ⟨c47, hf⟩ | ⟨c47, hf⟩
    · refine sb_ic_ne hm dX13_isNamed_171 (tgt := 178) rfl (fun _ => ?_) (fun z => absurd c47 z)
      refine sx_ic (v := 0) hm dX13_isNamed_178 (by decide) ?_
      refine mx_S.pu (pc2 := 181) (lv2 := [(6, .int 0), (5, .int u44.1), (0, .ref a0), (1, .int a1), (2, .ref a2), (3, .int a3), (4, .int a4)]) (st2 := []) hm dX13_isNamed_179 rfl ?_
      refine sx_ic (v := 0) hm dX13_isNamed_181 (by decide) ?_
      refine mx_S.pu (pc2 := 184) (lv2 := [(7, .int 0), (6, .int 0), (5, .int u44.1), (0, .ref a0), (1, .int a1), (2, .ref a2), (3, .int a3), (4, .int a4)]) (st2 := []) hm dX13_isNamed_182 rfl ?_
      refine mx_S.ext [(0, .ref a0), (2, .ref a2), (3, .int a3), (4, .int a4), (5, .int u44.1), (6, .int 0), (7, .int 0)] (mx_sub_pos [3, 5, 6, 7, 2, 1, 0] rfl (show ([7, 6, 5, 0, 1, 2, 3, 4] : List Nat).Nodup by decide)) ?_
      exact w_X13_isNamed_184_ok X hF hL nn nn a0 a2 a3 a4 u44.1 0 0 u44.2 _ hf
    · refine sb_ic_ne hm dX13_isNamed_171 (tgt := 178) rfl (fun z => absurd z c47) (fun _ => ?_)
      refine sx_ic (v := 1) hm dX13_isNamed_174 (by decide) ?_
      refine mx_S.pu (pc2 := 179) (lv2 := [(5, .int u44.1), (0, .ref a0), (1, .int a1), (2, .ref a2), (3, .int a3), (4, .int a4)]) (st2 := [.int 1]) hm dX13_isNamed_175 rfl ?_
      refine mx_S.pu (pc2 := 181) (lv2 := [(6, .int 1), (5, .int u44.1), (0, .ref a0), (1, .int a1), (2, .ref a2), (3, .int a3), (4, .int a4)]) (st2 := []) hm dX13_isNamed_179 rfl ?_
      refine sx_ic (v := 0) hm dX13_isNamed_181 (by decide) ?_
      refine mx_S.pu (pc2 := 184) (lv2 := [(7, .int 0), (6, .int 1), (5, .int u44.1), (0, .ref a0), (1, .int a1), (2, .ref a2), (3, .int a3), (4, .int a4)]) (st2 := []) hm dX13_isNamed_182 rfl ?_
      refine mx_S.ext [(0, .ref a0), (2, .ref a2), (3, .int a3), (4, .int a4), (5, .int u44.1), (6, .int 1), (7, .int 0)] (mx_sub_pos [3, 5, 6, 7, 2, 1, 0] rfl (show ([7, 6, 5, 0, 1, 2, 3, 4] : List Nat).Nodup by decide)) ?_
      exact w_X13_isNamed_184_ok X hF hL nn nn a0 a2 a3 a4 u44.1 1 0 u44.2 _ hf
  · refine sb_ic_ge hm dX13_isNamed_3 (tgt := 155) rfl (fun z => absurd z c48) (fun _ => ?_)
    refine sx_ic (v := (-1)) hm dX13_isNamed_6 (by decide) ?_
    refine mx_S.pu (pc2 := 9) (lv2 := [(5, .int (-1)), (0, .ref a0), (1, .int a1), (2, .ref a2), (3, .int a3), (4, .int a4)]) (st2 := []) hm dX13_isNamed_7 rfl ?_
    refine sx_ic (v := 0) hm dX13_isNamed_9 (by decide) ?_
    refine mx_S.pu (pc2 := 12) (lv2 := [(6, .int 0), (5, .int (-1)), (0, .ref a0), (1, .int a1), (2, .ref a2), (3, .int a3), (4, .int a4)]) (st2 := []) hm dX13_isNamed_10 rfl ?_
    refine mx_S.ext [(1, .int a1), (2, .ref a2), (3, .int a3), (4, .int a4), (5, .int (-1)), (6, .int 0)] (mx_sub_pos [3, 4, 5, 6, 1, 0] rfl (show ([6, 5, 0, 1, 2, 3, 4] : List Nat).Nodup by decide)) ?_
    exact w_X13_isNamed_12_ok X hF hL nn nn a1 a2 a3 a4 (-1) 0 h _ hf
set_option maxHeartbeats 4000000 in
set_option maxRecDepth 20000 in
theorem w_X13_classNamed_3_ok (X : Nat × (Nat → Int32)) {F L : Nat} (hF : 5 ≤ F) (hL : 113 ≤ L) (nn : Nat) : ∀ (k : Nat) (l0 : Nat) (l1 : Nat) (l2 : Int32) (l3 : Int32) (l4 : Int32) (h : mx_H) (r : (Int32 × mx_H)), w_X13_classNamed_3 nn k l0 l1 l2 l3 l4 h = some r → mx_S X F L 511 3 [(0, .ref l0), (1, .ref l1), (2, .int l2), (3, .int l3), (4, .int l4)] [] h 0 0 (some (.int r.1), r.2, 0, 0) := by
  have hm : mx_mt 511 = some (yX13_classNamed, cX13_classNamed, 5, (some .int)) := mt_X13_classNamed
  intro k
  induction k with
  | zero => intro l0 l1 l2 l3 l4 h r hf; cases hf
  | succ k ih =>
    intro l0 l1 l2 l3 l4 h r hf
    unfold w_X13_classNamed_3 at hf
    refine mx_S.pu (pc2 := 5) (lv2 := [(0, .ref l0), (1, .ref l1), (2, .int l2), (3, .int l3), (4, .int l4)]) (st2 := [.int l4]) hm dX13_classNamed_3 rfl ?_
    refine sx_bi (v := 8) hm dX13_classNamed_5 (by decide) ?_
    refine mx_S.pu (pc2 := 8) (lv2 := [(0, .ref l0), (1, .ref l1), (2, .int l2), (3, .int l3), (4, .int l4)]) (st2 := [.ref l0, .int 8, .int l4]) hm dX13_classNamed_7 rfl ?_
    replace hf := mx_sv_el hf; obtain ⟨v1, e_v1, hf⟩ := hf
    refine sx_get hm dX13_classNamed_8 rs_RX13_833 (xgi_el e_v1) ?_
    clear e_v1
    replace hf := xl_el hf; obtain ⟨v2, e_v2, hf⟩ := hf
    refine mx_S.pu (pc2 := 12) (lv2 := [(0, .ref l0), (1, .ref l1), (2, .int l2), (3, .int l3), (4, .int l4)]) (st2 := [.int v2, .int l4]) hm dX13_classNamed_11 (by rw [← e_v2]; rfl) ?_
    clear e_v2
    rcases mx_if_el hf with ⟨c7, hf⟩ | ⟨c7, hf⟩
    · refine sb_ic_ge hm dX13_classNamed_12 (tgt := 36) rfl (fun _ => ?_) (fun z => absurd c7 z)
      refine sx_ic (v := (-1)) hm dX13_classNamed_36 (by decide) ?_
      cases hf
      exact sx_ire hm dX13_classNamed_37 rfl rfl
    · refine sb_ic_ge hm dX13_classNamed_12 (tgt := 36) rfl (fun z => absurd z c7) (fun _ => ?_)
      refine mx_S.pu (pc2 := 16) (lv2 := [(0, .ref l0), (1, .ref l1), (2, .int l2), (3, .int l3), (4, .int l4)]) (st2 := [.ref l0]) hm dX13_classNamed_15 rfl ?_
      refine mx_S.pu (pc2 := 18) (lv2 := [(0, .ref l0), (1, .ref l1), (2, .int l2), (3, .int l3), (4, .int l4)]) (st2 := [.int l4, .ref l0]) hm dX13_classNamed_16 rfl ?_
      refine mx_S.pu (pc2 := 19) (lv2 := [(0, .ref l0), (1, .ref l1), (2, .int l2), (3, .int l3), (4, .int l4)]) (st2 := [.ref l1, .int l4, .ref l0]) hm dX13_classNamed_18 rfl ?_
      refine mx_S.pu (pc2 := 20) (lv2 := [(0, .ref l0), (1, .ref l1), (2, .int l2), (3, .int l3), (4, .int l4)]) (st2 := [.int l2, .ref l1, .int l4, .ref l0]) hm dX13_classNamed_19 rfl ?_
      refine mx_S.pu (pc2 := 21) (lv2 := [(0, .ref l0), (1, .ref l1), (2, .int l2), (3, .int l3), (4, .int l4)]) (st2 := [.int l3, .int l2, .ref l1, .int l4, .ref l0]) hm dX13_classNamed_20 rfl ?_
      replace hf := mx_gd_el hf; obtain ⟨c3, hf⟩ := hf
      replace hf := mx_sv_el hf; obtain ⟨u4, e_u4, hf⟩ := hf
      refine sx_cv hm dX13_classNamed_21 rs_RX13_836 mt_X13_isNamed [.int l4, .ref l1, .int l2, .int l3] [] (b := l0) (ci := 13) rfl rfl rfl c3 (Nat.le_of_ble_eq_true rfl) (Nat.le_of_ble_eq_true rfl) (by omega) (by omega) (f_X13_isNamed_ok X (by omega) (by omega) nn l0 l4 l1 l2 l3 h e_u4) ?_
      clear e_u4
      show mx_S X F L 511 24 [(0, .ref l0), (1, .ref l1), (2, .int l2), (3, .int l3), (4, .int l4)] [.int u4.1] u4.2 0 0 (some (.int r.1), r.2, 0, 0)
      rcases mx_if_el hf with ⟨c6, hf⟩ | ⟨c6, hf⟩
      · refine sb_if_eq hm dX13_classNamed_24 (tgt := 30) rfl (fun _ => ?_) (fun z => absurd c6 z)
        replace hf := xl_el hf; obtain ⟨v5, e_v5, hf⟩ := hf
        refine mx_S.pu (pc2 := 33) (lv2 := [(4, .int v5), (0, .ref l0), (1, .ref l1), (2, .int l2), (3, .int l3)]) (st2 := []) hm dX13_classNamed_30 (by rw [← e_v5]; rfl) ?_
        clear e_v5
        refine mx_S.pu (pc2 := 3) (lv2 := [(4, .int v5), (0, .ref l0), (1, .ref l1), (2, .int l2), (3, .int l3)]) (st2 := []) hm dX13_classNamed_33 rfl ?_
        refine mx_S.ext [(0, .ref l0), (1, .ref l1), (2, .int l2), (3, .int l3), (4, .int v5)] (mx_sub_pos [1, 2, 3, 4, 0] rfl (show ([4, 0, 1, 2, 3] : List Nat).Nodup by decide)) ?_
        exact ih l0 l1 l2 l3 v5 u4.2 _ hf
      · refine sb_if_eq hm dX13_classNamed_24 (tgt := 30) rfl (fun z => absurd z c6) (fun _ => ?_)
        refine mx_S.pu (pc2 := 29) (lv2 := [(0, .ref l0), (1, .ref l1), (2, .int l2), (3, .int l3), (4, .int l4)]) (st2 := [.int l4]) hm dX13_classNamed_27 rfl ?_
        cases hf
        exact sx_ire hm dX13_classNamed_29 rfl rfl
set_option maxHeartbeats 4000000 in
set_option maxRecDepth 20000 in
theorem f_X13_classNamed_ok (X : Nat × (Nat → Int32)) {F L : Nat} (hF : 5 ≤ F) (hL : 113 ≤ L) (nn : Nat) (a0 : Nat) (a1 : Nat) (a2 : Int32) (a3 : Int32) (h : mx_H) {r : (Int32 × mx_H)} (hf : f_X13_classNamed nn a0 a1 a2 a3 h = some r) : mx_R X F L 511 [.ref a0, .ref a1, .int a2, .int a3] h (some (.int r.1), r.2, 0, 0) := by
  have hm : mx_mt 511 = some (yX13_classNamed, cX13_classNamed, 5, (some .int)) := mt_X13_classNamed
  show mx_S X F L 511 0 [(0, .ref a0), (1, .ref a1), (2, .int a2), (3, .int a3)] [] h 0 0 (some (.int r.1), r.2, 0, 0)
  unfold f_X13_classNamed at hf
  refine sx_ic (v := 0) hm dX13_classNamed_0 (by decide) ?_
  refine mx_S.pu (pc2 := 3) (lv2 := [(4, .int 0), (0, .ref a0), (1, .ref a1), (2, .int a2), (3, .int a3)]) (st2 := []) hm dX13_classNamed_1 rfl ?_
  refine mx_S.ext [(0, .ref a0), (1, .ref a1), (2, .int a2), (3, .int a3), (4, .int 0)] (mx_sub_pos [1, 2, 3, 4, 0] rfl (show ([4, 0, 1, 2, 3] : List Nat).Nodup by decide)) ?_
  exact w_X13_classNamed_3_ok X hF hL nn nn a0 a1 a2 a3 0 h _ hf
set_option maxHeartbeats 4000000 in
set_option maxRecDepth 20000 in
theorem w_X13_install_2_ok (X : Nat × (Nat → Int32)) {F L : Nat} (hF : 0 ≤ F) (hL : 0 ≤ L) (nn : Nat) : ∀ (k : Nat) (l0 : Nat) (l1 : Int32) (l2 : Int32) (h : mx_H) (r : (Int32 × mx_H)), w_X13_install_2 nn k l0 l1 l2 h = some r → mx_S X F L 512 2 [(0, .ref l0), (1, .int l1), (2, .int l2)] [] h 0 0 (some (.int r.1), r.2, 0, 0) := by
  have hm : mx_mt 512 = some (yX13_install, cX13_install, 3, (some .int)) := mt_X13_install
  intro k
  induction k with
  | zero => intro l0 l1 l2 h r hf; cases hf
  | succ k ih =>
    intro l0 l1 l2 h r hf
    unfold w_X13_install_2 at hf
    refine mx_S.pu (pc2 := 3) (lv2 := [(0, .ref l0), (1, .int l1), (2, .int l2)]) (st2 := [.int l2]) hm dX13_install_2 rfl ?_
    refine mx_S.pu (pc2 := 4) (lv2 := [(0, .ref l0), (1, .int l1), (2, .int l2)]) (st2 := [.ref l0, .int l2]) hm dX13_install_3 rfl ?_
    replace hf := mx_sv_el hf; obtain ⟨v1, e_v1, hf⟩ := hf
    refine sx_get hm dX13_install_4 rs_RX13_767 (xgi_el e_v1) ?_
    clear e_v1
    rcases mx_if_el hf with ⟨c13, hf⟩ | ⟨c13, hf⟩
    · refine sb_ic_ge hm dX13_install_7 (tgt := 34) rfl (fun _ => ?_) (fun z => absurd c13 z)
      refine mx_S.pu (pc2 := 35) (lv2 := [(0, .ref l0), (1, .int l1), (2, .int l2)]) (st2 := [.ref l0]) hm dX13_install_34 rfl ?_
      replace hf := mx_sv_el hf; obtain ⟨v2, e_v2, hf⟩ := hf
      refine sx_get hm dX13_install_35 rs_RX13_212 (xgr_el e_v2) ?_
      clear e_v2
      refine mx_S.pu (pc2 := 39) (lv2 := [(0, .ref l0), (1, .int l1), (2, .int l2)]) (st2 := [.int l1, .ref v2]) hm dX13_install_38 rfl ?_
      refine mx_S.pu (pc2 := 40) (lv2 := [(0, .ref l0), (1, .int l1), (2, .int l2)]) (st2 := [.ref l0, .int l1, .ref v2]) hm dX13_install_39 rfl ?_
      replace hf := mx_sv_el hf; obtain ⟨v3, e_v3, hf⟩ := hf
      refine sx_get hm dX13_install_40 rs_RX13_767 (xgi_el e_v3) ?_
      clear e_v3
      replace hf := mx_sv_el hf; obtain ⟨h4, e_h4, hf⟩ := hf
      refine sx_ast hm dX13_install_43 e_h4 ?_
      clear e_h4
      refine sx_bi (v := 8) hm dX13_install_44 (by decide) ?_
      refine mx_S.pu (pc2 := 47) (lv2 := [(0, .ref l0), (1, .int l1), (2, .int l2)]) (st2 := [.int l1, .int 8]) hm dX13_install_46 rfl ?_
      replace hf := xl_el hf; obtain ⟨v5, e_v5, hf⟩ := hf
      refine mx_S.pu (pc2 := 48) (lv2 := [(0, .ref l0), (1, .int l1), (2, .int l2)]) (st2 := [.int v5]) hm dX13_install_47 (by rw [← e_v5]; rfl) ?_
      clear e_v5
      cases hf
      exact sx_ire hm dX13_install_48 rfl rfl
    · refine sb_ic_ge hm dX13_install_7 (tgt := 34) rfl (fun z => absurd z c13) (fun _ => ?_)
      refine mx_S.pu (pc2 := 11) (lv2 := [(0, .ref l0), (1, .int l1), (2, .int l2)]) (st2 := [.ref l0]) hm dX13_install_10 rfl ?_
      replace hf := mx_sv_el hf; obtain ⟨v6, e_v6, hf⟩ := hf
      refine sx_get hm dX13_install_11 rs_RX13_209 (xgr_el e_v6) ?_
      clear e_v6
      refine sx_si (v := 6000) hm dX13_install_14 (by decide) ?_
      refine mx_S.pu (pc2 := 18) (lv2 := [(0, .ref l0), (1, .int l1), (2, .int l2)]) (st2 := [.int l1, .int 6000, .ref v6]) hm dX13_install_17 rfl ?_
      replace hf := xl_el hf; obtain ⟨v7, e_v7, hf⟩ := hf
      refine mx_S.pu (pc2 := 19) (lv2 := [(0, .ref l0), (1, .int l1), (2, .int l2)]) (st2 := [.int v7, .ref v6]) hm dX13_install_18 (by rw [← e_v7]; rfl) ?_
      clear e_v7
      refine mx_S.pu (pc2 := 20) (lv2 := [(0, .ref l0), (1, .int l1), (2, .int l2)]) (st2 := [.int l2, .int v7, .ref v6]) hm dX13_install_19 rfl ?_
      replace hf := xl_el hf; obtain ⟨v8, e_v8, hf⟩ := hf
      refine mx_S.pu (pc2 := 21) (lv2 := [(0, .ref l0), (1, .int l1), (2, .int l2)]) (st2 := [.int v8, .ref v6]) hm dX13_install_20 (by rw [← e_v8]; rfl) ?_
      clear e_v8
      refine mx_S.pu (pc2 := 22) (lv2 := [(0, .ref l0), (1, .int l1), (2, .int l2)]) (st2 := [.ref l0, .int v8, .ref v6]) hm dX13_install_21 rfl ?_
      replace hf := mx_sv_el hf; obtain ⟨v9, e_v9, hf⟩ := hf
      refine sx_get hm dX13_install_22 rs_RX13_245 (xgr_el e_v9) ?_
      clear e_v9
      refine mx_S.pu (pc2 := 26) (lv2 := [(0, .ref l0), (1, .int l1), (2, .int l2)]) (st2 := [.int l2, .ref v9, .int v8, .ref v6]) hm dX13_install_25 rfl ?_
      replace hf := mx_sv_el hf; obtain ⟨v10, e_v10, hf⟩ := hf
      refine sx_ald hm dX13_install_26 e_v10 ?_
      clear e_v10
      replace hf := mx_sv_el hf; obtain ⟨h11, e_h11, hf⟩ := hf
      refine sx_ast hm dX13_install_27 e_h11 ?_
      clear e_h11
      replace hf := xl_el hf; obtain ⟨v12, e_v12, hf⟩ := hf
      refine mx_S.pu (pc2 := 31) (lv2 := [(2, .int v12), (0, .ref l0), (1, .int l1)]) (st2 := []) hm dX13_install_28 (by rw [← e_v12]; rfl) ?_
      clear e_v12
      refine mx_S.pu (pc2 := 2) (lv2 := [(2, .int v12), (0, .ref l0), (1, .int l1)]) (st2 := []) hm dX13_install_31 rfl ?_
      refine mx_S.ext [(0, .ref l0), (1, .int l1), (2, .int v12)] (mx_sub_pos [1, 2, 0] rfl (show ([2, 0, 1] : List Nat).Nodup by decide)) ?_
      exact ih l0 l1 v12 h11 _ hf
set_option maxHeartbeats 4000000 in
set_option maxRecDepth 20000 in
theorem f_X13_install_ok (X : Nat × (Nat → Int32)) {F L : Nat} (hF : 0 ≤ F) (hL : 0 ≤ L) (nn : Nat) (a0 : Nat) (a1 : Int32) (h : mx_H) {r : (Int32 × mx_H)} (hf : f_X13_install nn a0 a1 h = some r) : mx_R X F L 512 [.ref a0, .int a1] h (some (.int r.1), r.2, 0, 0) := by
  have hm : mx_mt 512 = some (yX13_install, cX13_install, 3, (some .int)) := mt_X13_install
  show mx_S X F L 512 0 [(0, .ref a0), (1, .int a1)] [] h 0 0 (some (.int r.1), r.2, 0, 0)
  unfold f_X13_install at hf
  refine sx_ic (v := 0) hm dX13_install_0 (by decide) ?_
  refine mx_S.pu (pc2 := 2) (lv2 := [(2, .int 0), (0, .ref a0), (1, .int a1)]) (st2 := []) hm dX13_install_1 rfl ?_
  refine mx_S.ext [(0, .ref a0), (1, .int a1), (2, .int 0)] (mx_sub_pos [1, 2, 0] rfl (show ([2, 0, 1] : List Nat).Nodup by decide)) ?_
  exact w_X13_install_2_ok X hF hL nn nn a0 a1 0 h _ hf
set_option maxHeartbeats 4000000 in
set_option maxRecDepth 20000 in
theorem f_X13_constantOf_ok (X : Nat × (Nat → Int32)) {F L : Nat} (hF : 0 ≤ F) (hL : 0 ≤ L) (nn : Nat) (a0 : Nat) (a1 : Int32) (a2 : Int32) (h : mx_H) {r : (Int32 × mx_H)} (hf : f_X13_constantOf nn a0 a1 a2 h = some r) : mx_R X F L 491 [.ref a0, .int a1, .int a2] h (some (.int r.1), r.2, 0, 0) := by
  have hm : mx_mt 491 = some (yX13_constantOf, cX13_constantOf, 3, (some .int)) := mt_X13_constantOf
  show mx_S X F L 491 0 [(0, .ref a0), (1, .int a1), (2, .int a2)] [] h 0 0 (some (.int r.1), r.2, 0, 0)
  unfold f_X13_constantOf at hf
  refine mx_S.pu (pc2 := 1) (lv2 := [(0, .ref a0), (1, .int a1), (2, .int a2)]) (st2 := [.int a2]) hm dX13_constantOf_0 rfl ?_
  refine sx_ic (v := 1) hm dX13_constantOf_1 (by decide) ?_
  rcases mx_if_el hf with ⟨c8, hf⟩ | ⟨c8, hf⟩
  · refine sb_ic_lt hm dX13_constantOf_2 (tgt := 30) rfl (fun _ => ?_) (fun z => absurd c8 z)
    refine sx_ic (v := (-1)) hm dX13_constantOf_30 (by decide) ?_
    cases hf
    exact sx_ire hm dX13_constantOf_31 rfl rfl
  · refine sb_ic_lt hm dX13_constantOf_2 (tgt := 30) rfl (fun z => absurd z c8) (fun _ => ?_)
    refine mx_S.pu (pc2 := 6) (lv2 := [(0, .ref a0), (1, .int a1), (2, .int a2)]) (st2 := [.int a2]) hm dX13_constantOf_5 rfl ?_
    refine mx_S.pu (pc2 := 7) (lv2 := [(0, .ref a0), (1, .int a1), (2, .int a2)]) (st2 := [.ref a0, .int a2]) hm dX13_constantOf_6 rfl ?_
    replace hf := mx_sv_el hf; obtain ⟨v1, e_v1, hf⟩ := hf
    refine sx_get hm dX13_constantOf_7 rs_RX13_218 (xgr_el e_v1) ?_
    clear e_v1
    refine mx_S.pu (pc2 := 11) (lv2 := [(0, .ref a0), (1, .int a1), (2, .int a2)]) (st2 := [.int a1, .ref v1, .int a2]) hm dX13_constantOf_10 rfl ?_
    replace hf := mx_sv_el hf; obtain ⟨v2, e_v2, hf⟩ := hf
    refine sx_ald hm dX13_constantOf_11 e_v2 ?_
    clear e_v2
    rcases mx_if_el hf with ⟨c7, hf⟩ | ⟨c7, hf⟩
    · refine sb_ic_gt hm dX13_constantOf_12 (tgt := 30) rfl (fun _ => ?_) (fun z => absurd c7 z)
      refine sx_ic (v := (-1)) hm dX13_constantOf_30 (by decide) ?_
      cases hf
      exact sx_ire hm dX13_constantOf_31 rfl rfl
    · refine sb_ic_gt hm dX13_constantOf_12 (tgt := 30) rfl (fun z => absurd z c7) (fun _ => ?_)
      refine mx_S.pu (pc2 := 16) (lv2 := [(0, .ref a0), (1, .int a1), (2, .int a2)]) (st2 := [.ref a0]) hm dX13_constantOf_15 rfl ?_
      replace hf := mx_sv_el hf; obtain ⟨v3, e_v3, hf⟩ := hf
      refine sx_get hm dX13_constantOf_16 rs_RX13_215 (xgr_el e_v3) ?_
      clear e_v3
      refine sx_si (v := 256) hm dX13_constantOf_19 (by decide) ?_
      refine mx_S.pu (pc2 := 23) (lv2 := [(0, .ref a0), (1, .int a1), (2, .int a2)]) (st2 := [.int a1, .int 256, .ref v3]) hm dX13_constantOf_22 rfl ?_
      replace hf := xl_el hf; obtain ⟨v4, e_v4, hf⟩ := hf
      refine mx_S.pu (pc2 := 24) (lv2 := [(0, .ref a0), (1, .int a1), (2, .int a2)]) (st2 := [.int v4, .ref v3]) hm dX13_constantOf_23 (by rw [← e_v4]; rfl) ?_
      clear e_v4
      refine mx_S.pu (pc2 := 25) (lv2 := [(0, .ref a0), (1, .int a1), (2, .int a2)]) (st2 := [.int a2, .int v4, .ref v3]) hm dX13_constantOf_24 rfl ?_
      replace hf := xl_el hf; obtain ⟨v5, e_v5, hf⟩ := hf
      refine mx_S.pu (pc2 := 26) (lv2 := [(0, .ref a0), (1, .int a1), (2, .int a2)]) (st2 := [.int v5, .ref v3]) hm dX13_constantOf_25 (by rw [← e_v5]; rfl) ?_
      clear e_v5
      replace hf := mx_sv_el hf; obtain ⟨v6, e_v6, hf⟩ := hf
      refine sx_ald hm dX13_constantOf_26 e_v6 ?_
      clear e_v6
      refine mx_S.pu (pc2 := 31) (lv2 := [(0, .ref a0), (1, .int a1), (2, .int a2)]) (st2 := [.int v6]) hm dX13_constantOf_27 rfl ?_
      cases hf
      exact sx_ire hm dX13_constantOf_31 rfl rfl
set_option maxHeartbeats 4000000 in
set_option maxRecDepth 20000 in
theorem f_X13_isNamePart_ok (X : Nat × (Nat → Int32)) {F L : Nat} (hF : 1 ≤ F) (hL : 20 ≤ L) (nn : Nat) (a0 : Int32) (a1 : Int32) (h : mx_H) {r : (Int32 × mx_H)} (hf : f_X13_isNamePart nn a0 a1 h = some r) : mx_R X F L 492 [.int a0, .int a1] h (some (.int r.1), r.2, 0, 0) := by
  have hm : mx_mt 492 = some (yX13_isNamePart, cX13_isNamePart, 2, (some .boolean)) := mt_X13_isNamePart
  show mx_S X F L 492 0 [(0, .int a0), (1, .int a1)] [] h 0 0 (some (.int r.1), r.2, 0, 0)
  unfold f_X13_isNamePart at hf
  refine mx_S.pu (pc2 := 1) (lv2 := [(0, .int a0), (1, .int a1)]) (st2 := [.int a0]) hm dX13_isNamePart_0 rfl ?_
  replace hf := mx_sv_el hf; obtain ⟨u1, e_u1, hf⟩ := hf
  refine sx_cs hm dX13_isNamePart_1 rs_RX13_345 mt_X13_isLetter [.int a0] [] rfl rfl (Nat.le_of_ble_eq_true rfl) (Nat.le_of_ble_eq_true rfl) (by omega) (by omega) (f_X13_isLetter_ok X (by omega) (by omega) nn a0 h e_u1) ?_
  clear e_u1
  show mx_S X F L 492 4 [(0, .int a0), (1, .int a1)] [.int u1.1] u1.2 0 0 (some (.int r.1), r.2, 0, 0)
  rcases mx_if_el hf with ⟨c6, hf⟩ | ⟨c6, hf⟩
  · refine sb_if_ne hm dX13_isNamePart_4 (tgt := 24) rfl (fun _ => ?_) (fun z => absurd c6 z)
    refine sx_ic (v := 1) hm dX13_isNamePart_24 (by decide) ?_
    refine mx_S.pu (pc2 := 29) (lv2 := [(0, .int a0), (1, .int a1)]) (st2 := [.int 1]) hm dX13_isNamePart_25 rfl ?_
    cases hf
    exact sx_ire hm dX13_isNamePart_29 rfl (by decide)
  · refine sb_if_ne hm dX13_isNamePart_4 (tgt := 24) rfl (fun z => absurd z c6) (fun _ => ?_)
    refine mx_S.pu (pc2 := 8) (lv2 := [(0, .int a0), (1, .int a1)]) (st2 := [.int a1]) hm dX13_isNamePart_7 rfl ?_
    rcases mx_if_el hf with ⟨c5, hf⟩ | ⟨c5, hf⟩
    · refine sb_if_ne hm dX13_isNamePart_8 (tgt := 28) rfl (fun _ => ?_) (fun z => absurd c5 z)
      refine sx_ic (v := 0) hm dX13_isNamePart_28 (by decide) ?_
      cases hf
      exact sx_ire hm dX13_isNamePart_29 rfl (by decide)
    · refine sb_if_ne hm dX13_isNamePart_8 (tgt := 28) rfl (fun z => absurd z c5) (fun _ => ?_)
      refine mx_S.pu (pc2 := 12) (lv2 := [(0, .int a0), (1, .int a1)]) (st2 := [.int a0]) hm dX13_isNamePart_11 rfl ?_
      replace hf := mx_sv_el hf; obtain ⟨u2, e_u2, hf⟩ := hf
      refine sx_cs hm dX13_isNamePart_12 rs_RX13_349 mt_X13_isDigit [.int a0] [] rfl rfl (Nat.le_of_ble_eq_true rfl) (Nat.le_of_ble_eq_true rfl) (by omega) (by omega) (f_X13_isDigit_ok X (by omega) (by omega) nn a0 u1.2 e_u2) ?_
      clear e_u2
      show mx_S X F L 492 15 [(0, .int a0), (1, .int a1)] [.int u2.1] u2.2 0 0 (some (.int r.1), r.2, 0, 0)
      rcases mx_if_el hf with ⟨c4, hf⟩ | ⟨c4, hf⟩
      · refine sb_if_ne hm dX13_isNamePart_15 (tgt := 24) rfl (fun _ => ?_) (fun z => absurd c4 z)
        refine sx_ic (v := 1) hm dX13_isNamePart_24 (by decide) ?_
        refine mx_S.pu (pc2 := 29) (lv2 := [(0, .int a0), (1, .int a1)]) (st2 := [.int 1]) hm dX13_isNamePart_25 rfl ?_
        cases hf
        exact sx_ire hm dX13_isNamePart_29 rfl (by decide)
      · refine sb_if_ne hm dX13_isNamePart_15 (tgt := 24) rfl (fun z => absurd z c4) (fun _ => ?_)
        refine mx_S.pu (pc2 := 19) (lv2 := [(0, .int a0), (1, .int a1)]) (st2 := [.int a0]) hm dX13_isNamePart_18 rfl ?_
        refine sx_bi (v := 95) hm dX13_isNamePart_19 (by decide) ?_
        rcases mx_if_el hf with ⟨c3, hf⟩ | ⟨c3, hf⟩
        · refine sb_ic_ne hm dX13_isNamePart_21 (tgt := 28) rfl (fun _ => ?_) (fun z => absurd c3 z)
          refine sx_ic (v := 0) hm dX13_isNamePart_28 (by decide) ?_
          cases hf
          exact sx_ire hm dX13_isNamePart_29 rfl (by decide)
        · refine sb_ic_ne hm dX13_isNamePart_21 (tgt := 28) rfl (fun z => absurd z c3) (fun _ => ?_)
          refine sx_ic (v := 1) hm dX13_isNamePart_24 (by decide) ?_
          refine mx_S.pu (pc2 := 29) (lv2 := [(0, .int a0), (1, .int a1)]) (st2 := [.int 1]) hm dX13_isNamePart_25 rfl ?_
          cases hf
          exact sx_ire hm dX13_isNamePart_29 rfl (by decide)
set_option maxHeartbeats 4000000 in
set_option maxRecDepth 20000 in
theorem j_X13_isName_46_ok (X : Nat × (Nat → Int32)) {F L : Nat} (hF : 2 ≤ F) (hL : 41 ≤ L) (nn : Nat) {kk_20 : Nat → Int32 → Int32 → Int32 → Int32 → mx_H → Option (Int32 × mx_H)} (hk_20 : ∀ (l0 : Nat) (l1 : Int32) (l2 : Int32) (l3 : Int32) (l4 : Int32) (h : mx_H) (r : (Int32 × mx_H)), kk_20 l0 l1 l2 l3 l4 h = some r → mx_S X F L 493 20 [(0, .ref l0), (1, .int l1), (2, .int l2), (3, .int l3), (4, .int l4)] [] h 0 0 (some (.int r.1), r.2, 0, 0)) (l0 : Nat) (l1 : Int32) (l2 : Int32) (l4 : Int32) (s0 : Int32) (s1 : Int32) (h : mx_H) {r : (Int32 × mx_H)} (hf : j_X13_isName_46 nn kk_20 l0 l1 l2 l4 s0 s1 h = some r) : mx_S X F L 493 46 [(0, .ref l0), (1, .int l1), (2, .int l2), (4, .int l4)] [.int s0, .int s1] h 0 0 (some (.int r.1), r.2, 0, 0) := by
  have hm : mx_mt 493 = some (yX13_isName, cX13_isName, 5, (some .boolean)) := mt_X13_isName
  unfold j_X13_isName_46 at hf
  replace hf := mx_sv_el hf; obtain ⟨u1, e_u1, hf⟩ := hf
  refine sx_cs hm dX13_isName_46 rs_RX13_770 mt_X13_isNamePart [.int s1, .int s0] [] rfl rfl (Nat.le_of_ble_eq_true rfl) (Nat.le_of_ble_eq_true rfl) (by omega) (by omega) (f_X13_isNamePart_ok X (by omega) (by omega) nn s1 s0 h e_u1) ?_
  clear e_u1
  show mx_S X F L 493 49 [(0, .ref l0), (1, .int l1), (2, .int l2), (4, .int l4)] [.int u1.1] u1.2 0 0 (some (.int r.1), r.2, 0, 0)
  refine mx_S.pu (pc2 := 50) (lv2 := [(3, .int u1.1), (0, .ref l0), (1, .int l1), (2, .int l2), (4, .int l4)]) (st2 := []) hm dX13_isName_49 rfl ?_
  replace hf := xl_el hf; obtain ⟨v2, e_v2, hf⟩ := hf
  refine mx_S.pu (pc2 := 53) (lv2 := [(4, .int v2), (3, .int u1.1), (0, .ref l0), (1, .int l1), (2, .int l2)]) (st2 := []) hm dX13_isName_50 (by rw [← e_v2]; rfl) ?_
  clear e_v2
  refine mx_S.pu (pc2 := 20) (lv2 := [(4, .int v2), (3, .int u1.1), (0, .ref l0), (1, .int l1), (2, .int l2)]) (st2 := []) hm dX13_isName_53 rfl ?_
  refine mx_S.ext [(0, .ref l0), (1, .int l1), (2, .int l2), (3, .int u1.1), (4, .int v2)] (mx_sub_pos [2, 3, 4, 1, 0] rfl (show ([4, 3, 0, 1, 2] : List Nat).Nodup by decide)) ?_
  exact hk_20 l0 l1 l2 u1.1 v2 u1.2 _ hf
set_option maxHeartbeats 4000000 in
set_option maxRecDepth 20000 in
theorem w_X13_isName_20_ok (X : Nat × (Nat → Int32)) {F L : Nat} (hF : 2 ≤ F) (hL : 41 ≤ L) (nn : Nat) : ∀ (k : Nat) (l0 : Nat) (l1 : Int32) (l2 : Int32) (l3 : Int32) (l4 : Int32) (h : mx_H) (r : (Int32 × mx_H)), w_X13_isName_20 nn k l0 l1 l2 l3 l4 h = some r → mx_S X F L 493 20 [(0, .ref l0), (1, .int l1), (2, .int l2), (3, .int l3), (4, .int l4)] [] h 0 0 (some (.int r.1), r.2, 0, 0) := by
  have hm : mx_mt 493 = some (yX13_isName, cX13_isName, 5, (some .boolean)) := mt_X13_isName
  intro k
  induction k with
  | zero => intro l0 l1 l2 l3 l4 h r hf; cases hf
  | succ k ih =>
    intro l0 l1 l2 l3 l4 h r hf
    unfold w_X13_isName_20 at hf
    refine mx_S.pu (pc2 := 22) (lv2 := [(0, .ref l0), (1, .int l1), (2, .int l2), (3, .int l3), (4, .int l4)]) (st2 := [.int l4]) hm dX13_isName_20 rfl ?_
    refine mx_S.pu (pc2 := 23) (lv2 := [(0, .ref l0), (1, .int l1), (2, .int l2), (3, .int l3), (4, .int l4)]) (st2 := [.int l2, .int l4]) hm dX13_isName_22 rfl ?_
    rcases mx_if_el hf with ⟨c9, hf⟩ | ⟨c9, hf⟩
    · refine sb_ic_ge hm dX13_isName_23 (tgt := 56) rfl (fun _ => ?_) (fun z => absurd c9 z)
      refine mx_S.pu (pc2 := 57) (lv2 := [(0, .ref l0), (1, .int l1), (2, .int l2), (3, .int l3), (4, .int l4)]) (st2 := [.int l3]) hm dX13_isName_56 rfl ?_
      replace hf := mx_gd_el hf; obtain ⟨c3, hf⟩ := hf
      cases hf
      exact sx_ire hm dX13_isName_57 rfl (xbq_ok c3).1
    · refine sb_ic_ge hm dX13_isName_23 (tgt := 56) rfl (fun z => absurd z c9) (fun _ => ?_)
      refine mx_S.pu (pc2 := 27) (lv2 := [(0, .ref l0), (1, .int l1), (2, .int l2), (3, .int l3), (4, .int l4)]) (st2 := [.int l3]) hm dX13_isName_26 rfl ?_
      rcases mx_if_el hf with ⟨c8, hf⟩ | ⟨c8, hf⟩
      · refine sb_if_eq hm dX13_isName_27 (tgt := 56) rfl (fun _ => ?_) (fun z => absurd c8 z)
        refine mx_S.pu (pc2 := 57) (lv2 := [(0, .ref l0), (1, .int l1), (2, .int l2), (3, .int l3), (4, .int l4)]) (st2 := [.int l3]) hm dX13_isName_56 rfl ?_
        replace hf := mx_gd_el hf; obtain ⟨c4, hf⟩ := hf
        cases hf
        exact sx_ire hm dX13_isName_57 rfl (xbq_ok c4).1
      · refine sb_if_eq hm dX13_isName_27 (tgt := 56) rfl (fun z => absurd z c8) (fun _ => ?_)
        refine mx_S.pu (pc2 := 31) (lv2 := [(0, .ref l0), (1, .int l1), (2, .int l2), (3, .int l3), (4, .int l4)]) (st2 := [.ref l0]) hm dX13_isName_30 rfl ?_
        refine mx_S.pu (pc2 := 32) (lv2 := [(0, .ref l0), (1, .int l1), (2, .int l2), (3, .int l3), (4, .int l4)]) (st2 := [.int l1, .ref l0]) hm dX13_isName_31 rfl ?_
        refine mx_S.pu (pc2 := 34) (lv2 := [(0, .ref l0), (1, .int l1), (2, .int l2), (3, .int l3), (4, .int l4)]) (st2 := [.int l4, .int l1, .ref l0]) hm dX13_isName_32 rfl ?_
        replace hf := xl_el hf; obtain ⟨v5, e_v5, hf⟩ := hf
        refine mx_S.pu (pc2 := 35) (lv2 := [(0, .ref l0), (1, .int l1), (2, .int l2), (3, .int l3), (4, .int l4)]) (st2 := [.int v5, .ref l0]) hm dX13_isName_34 (by rw [← e_v5]; rfl) ?_
        clear e_v5
        replace hf := mx_sv_el hf; obtain ⟨v6, e_v6, hf⟩ := hf
        refine sx_ald hm dX13_isName_35 e_v6 ?_
        clear e_v6
        refine mx_S.pu (pc2 := 38) (lv2 := [(0, .ref l0), (1, .int l1), (2, .int l2), (3, .int l3), (4, .int l4)]) (st2 := [.int l4, .int v6]) hm dX13_isName_36 rfl ?_
        rcases mx_if_el hf with ⟨c7, hf⟩ | ⟨c7, hf⟩
        · refine sb_if_ne hm dX13_isName_38 (tgt := 45) rfl (fun _ => ?_) (fun z => absurd c7 z)
          refine sx_ic (v := 0) hm dX13_isName_45 (by decide) ?_
          refine mx_S.ext [(0, .ref l0), (1, .int l1), (2, .int l2), (4, .int l4)] (mx_sub_pos [0, 1, 2, 4] rfl (show ([0, 1, 2, 3, 4] : List Nat).Nodup by decide)) ?_
          exact j_X13_isName_46_ok X hF hL nn ih l0 l1 l2 l4 0 v6 h hf
        · refine sb_if_ne hm dX13_isName_38 (tgt := 45) rfl (fun z => absurd z c7) (fun _ => ?_)
          refine sx_ic (v := 1) hm dX13_isName_41 (by decide) ?_
          refine mx_S.pu (pc2 := 46) (lv2 := [(0, .ref l0), (1, .int l1), (2, .int l2), (3, .int l3), (4, .int l4)]) (st2 := [.int 1, .int v6]) hm dX13_isName_42 rfl ?_
          refine mx_S.ext [(0, .ref l0), (1, .int l1), (2, .int l2), (4, .int l4)] (mx_sub_pos [0, 1, 2, 4] rfl (show ([0, 1, 2, 3, 4] : List Nat).Nodup by decide)) ?_
          exact j_X13_isName_46_ok X hF hL nn ih l0 l1 l2 l4 1 v6 h hf
set_option maxHeartbeats 4000000 in
set_option maxRecDepth 20000 in
theorem j_X13_isName_15_ok (X : Nat × (Nat → Int32)) {F L : Nat} (hF : 2 ≤ F) (hL : 41 ≤ L) (nn : Nat) (l0 : Nat) (l1 : Int32) (l2 : Int32) (h : mx_H) {r : (Int32 × mx_H)} (hf : j_X13_isName_15 nn l0 l1 l2 h = some r) : mx_S X F L 493 15 [(0, .ref l0), (1, .int l1), (2, .int l2)] [] h 0 0 (some (.int r.1), r.2, 0, 0) := by
  have hm : mx_mt 493 = some (yX13_isName, cX13_isName, 5, (some .boolean)) := mt_X13_isName
  unfold j_X13_isName_15 at hf
  refine sx_ic (v := 0) hm dX13_isName_15 (by decide) ?_
  refine mx_S.pu (pc2 := 17) (lv2 := [(3, .int 0), (0, .ref l0), (1, .int l1), (2, .int l2)]) (st2 := []) hm dX13_isName_16 rfl ?_
  refine sx_ic (v := 0) hm dX13_isName_17 (by decide) ?_
  refine mx_S.pu (pc2 := 20) (lv2 := [(4, .int 0), (3, .int 0), (0, .ref l0), (1, .int l1), (2, .int l2)]) (st2 := []) hm dX13_isName_18 rfl ?_
  refine mx_S.ext [(0, .ref l0), (1, .int l1), (2, .int l2), (3, .int 0), (4, .int 0)] (mx_sub_pos [2, 3, 4, 1, 0] rfl (show ([4, 3, 0, 1, 2] : List Nat).Nodup by decide)) ?_
  exact w_X13_isName_20_ok X hF hL nn nn l0 l1 l2 0 0 h _ hf
set_option maxHeartbeats 4000000 in
set_option maxRecDepth 20000 in
theorem f_X13_isName_ok (X : Nat × (Nat → Int32)) {F L : Nat} (hF : 2 ≤ F) (hL : 41 ≤ L) (nn : Nat) (a0 : Nat) (a1 : Int32) (a2 : Int32) (h : mx_H) {r : (Int32 × mx_H)} (hf : f_X13_isName nn a0 a1 a2 h = some r) : mx_R X F L 493 [.ref a0, .int a1, .int a2] h (some (.int r.1), r.2, 0, 0) := by
  have hm : mx_mt 493 = some (yX13_isName, cX13_isName, 5, (some .boolean)) := mt_X13_isName
  show mx_S X F L 493 0 [(0, .ref a0), (1, .int a1), (2, .int a2)] [] h 0 0 (some (.int r.1), r.2, 0, 0)
  unfold f_X13_isName at hf
  refine mx_S.pu (pc2 := 1) (lv2 := [(0, .ref a0), (1, .int a1), (2, .int a2)]) (st2 := [.int a2]) hm dX13_isName_0 rfl ?_
  refine sx_ic (v := 1) hm dX13_isName_1 (by decide) ?_
  rcases mx_if_el hf with ⟨c11, hf⟩ | ⟨c11, hf⟩
  · refine sb_ic_lt hm dX13_isName_2 (tgt := 15) rfl (fun _ => ?_) (fun z => absurd c11 z)
    exact j_X13_isName_15_ok X hF hL nn a0 a1 a2 h hf
  · refine sb_ic_lt hm dX13_isName_2 (tgt := 15) rfl (fun z => absurd z c11) (fun _ => ?_)
    refine mx_S.pu (pc2 := 6) (lv2 := [(0, .ref a0), (1, .int a1), (2, .int a2)]) (st2 := [.int a2]) hm dX13_isName_5 rfl ?_
    refine sx_bi (v := 12) hm dX13_isName_6 (by decide) ?_
    rcases mx_if_el hf with ⟨c10, hf⟩ | ⟨c10, hf⟩
    · refine sb_ic_gt hm dX13_isName_8 (tgt := 15) rfl (fun _ => ?_) (fun z => absurd c10 z)
      exact j_X13_isName_15_ok X hF hL nn a0 a1 a2 h hf
    · refine sb_ic_gt hm dX13_isName_8 (tgt := 15) rfl (fun z => absurd z c10) (fun _ => ?_)
      refine sx_ic (v := 1) hm dX13_isName_11 (by decide) ?_
      refine mx_S.pu (pc2 := 16) (lv2 := [(0, .ref a0), (1, .int a1), (2, .int a2)]) (st2 := [.int 1]) hm dX13_isName_12 rfl ?_
      refine mx_S.pu (pc2 := 17) (lv2 := [(3, .int 1), (0, .ref a0), (1, .int a1), (2, .int a2)]) (st2 := []) hm dX13_isName_16 rfl ?_
      refine sx_ic (v := 0) hm dX13_isName_17 (by decide) ?_
      refine mx_S.pu (pc2 := 20) (lv2 := [(4, .int 0), (3, .int 1), (0, .ref a0), (1, .int a1), (2, .int a2)]) (st2 := []) hm dX13_isName_18 rfl ?_
      refine mx_S.ext [(0, .ref a0), (1, .int a1), (2, .int a2), (3, .int 1), (4, .int 0)] (mx_sub_pos [2, 3, 4, 1, 0] rfl (show ([4, 3, 0, 1, 2] : List Nat).Nodup by decide)) ?_
      exact w_X13_isName_20_ok X hF hL nn nn a0 a1 a2 1 0 h _ hf
set_option maxHeartbeats 4000000 in
set_option maxRecDepth 20000 in
theorem j_X13_kindBytes_93_ok (X : Nat × (Nat → Int32)) {F L : Nat} (hF : 3 ≤ F) (hL : 65 ≤ L) (nn : Nat) (l0 : Nat) (l1 : Int32) (l2 : Int32) (l3 : Int32) (l4 : Int32) (h : mx_H) {r : (Int32 × mx_H)} (hf : j_X13_kindBytes_93 nn l0 l1 l2 l3 l4 h = some r) : mx_S X F L 494 93 [(0, .ref l0), (1, .int l1), (2, .int l2), (3, .int l3), (4, .int l4)] [] h 0 0 (some (.int r.1), r.2, 0, 0) := by
  have hm : mx_mt 494 = some (yX13_kindBytes, cX13_kindBytes, 5, (some .int)) := mt_X13_kindBytes
  unfold j_X13_kindBytes_93 at hf
  refine mx_S.pu (pc2 := 95) (lv2 := [(0, .ref l0), (1, .int l1), (2, .int l2), (3, .int l3), (4, .int l4)]) (st2 := [.int l4]) hm dX13_kindBytes_93 rfl ?_
  refine mx_S.pu (pc2 := 96) (lv2 := [(0, .ref l0), (1, .int l1), (2, .int l2), (3, .int l3), (4, .int l4)]) (st2 := [.int l2, .int l4]) hm dX13_kindBytes_95 rfl ?_
  rcases mx_if_el hf with ⟨c8, hf⟩ | ⟨c8, hf⟩
  · refine sb_ic_ge hm dX13_kindBytes_96 (tgt := 124) rfl (fun _ => ?_) (fun z => absurd c8 z)
    refine sx_ic (v := 0) hm dX13_kindBytes_124 (by decide) ?_
    cases hf
    exact sx_ire hm dX13_kindBytes_125 rfl rfl
  · refine sb_ic_ge hm dX13_kindBytes_96 (tgt := 124) rfl (fun z => absurd z c8) (fun _ => ?_)
    refine mx_S.pu (pc2 := 100) (lv2 := [(0, .ref l0), (1, .int l1), (2, .int l2), (3, .int l3), (4, .int l4)]) (st2 := [.ref l0]) hm dX13_kindBytes_99 rfl ?_
    refine mx_S.pu (pc2 := 101) (lv2 := [(0, .ref l0), (1, .int l1), (2, .int l2), (3, .int l3), (4, .int l4)]) (st2 := [.int l3, .ref l0]) hm dX13_kindBytes_100 rfl ?_
    refine sx_ic (v := 1) hm dX13_kindBytes_101 (by decide) ?_
    replace hf := xl_el hf; obtain ⟨v1, e_v1, hf⟩ := hf
    refine mx_S.pu (pc2 := 103) (lv2 := [(0, .ref l0), (1, .int l1), (2, .int l2), (3, .int l3), (4, .int l4)]) (st2 := [.int v1, .ref l0]) hm dX13_kindBytes_102 (by rw [← e_v1]; rfl) ?_
    clear e_v1
    refine mx_S.pu (pc2 := 105) (lv2 := [(0, .ref l0), (1, .int l1), (2, .int l2), (3, .int l3), (4, .int l4)]) (st2 := [.int l4, .int v1, .ref l0]) hm dX13_kindBytes_103 rfl ?_
    refine mx_S.pu (pc2 := 106) (lv2 := [(0, .ref l0), (1, .int l1), (2, .int l2), (3, .int l3), (4, .int l4)]) (st2 := [.int l3, .int l4, .int v1, .ref l0]) hm dX13_kindBytes_105 rfl ?_
    replace hf := xl_el hf; obtain ⟨v2, e_v2, hf⟩ := hf
    refine mx_S.pu (pc2 := 107) (lv2 := [(0, .ref l0), (1, .int l1), (2, .int l2), (3, .int l3), (4, .int l4)]) (st2 := [.int v2, .int v1, .ref l0]) hm dX13_kindBytes_106 (by rw [← e_v2]; rfl) ?_
    clear e_v2
    refine sx_ic (v := 1) hm dX13_kindBytes_107 (by decide) ?_
    replace hf := xl_el hf; obtain ⟨v3, e_v3, hf⟩ := hf
    refine mx_S.pu (pc2 := 109) (lv2 := [(0, .ref l0), (1, .int l1), (2, .int l2), (3, .int l3), (4, .int l4)]) (st2 := [.int v3, .int v1, .ref l0]) hm dX13_kindBytes_108 (by rw [← e_v3]; rfl) ?_
    clear e_v3
    replace hf := mx_sv_el hf; obtain ⟨u4, e_u4, hf⟩ := hf
    refine sx_cs hm dX13_kindBytes_109 rs_RX13_774 mt_X13_isName [.ref l0, .int v1, .int v3] [] rfl rfl (Nat.le_of_ble_eq_true rfl) (Nat.le_of_ble_eq_true rfl) (by omega) (by omega) (f_X13_isName_ok X (by omega) (by omega) nn l0 v1 v3 h e_u4) ?_
    clear e_u4
    show mx_S X F L 494 112 [(0, .ref l0), (1, .int l1), (2, .int l2), (3, .int l3), (4, .int l4)] [.int u4.1] u4.2 0 0 (some (.int r.1), r.2, 0, 0)
    rcases mx_if_el hf with ⟨c7, hf⟩ | ⟨c7, hf⟩
    · refine sb_if_eq hm dX13_kindBytes_112 (tgt := 124) rfl (fun _ => ?_) (fun z => absurd c7 z)
      refine sx_ic (v := 0) hm dX13_kindBytes_124 (by decide) ?_
      cases hf
      exact sx_ire hm dX13_kindBytes_125 rfl rfl
    · refine sb_if_eq hm dX13_kindBytes_112 (tgt := 124) rfl (fun z => absurd z c7) (fun _ => ?_)
      refine mx_S.pu (pc2 := 117) (lv2 := [(0, .ref l0), (1, .int l1), (2, .int l2), (3, .int l3), (4, .int l4)]) (st2 := [.int l4]) hm dX13_kindBytes_115 rfl ?_
      refine sx_ic (v := 1) hm dX13_kindBytes_117 (by decide) ?_
      replace hf := xl_el hf; obtain ⟨v5, e_v5, hf⟩ := hf
      refine mx_S.pu (pc2 := 119) (lv2 := [(0, .ref l0), (1, .int l1), (2, .int l2), (3, .int l3), (4, .int l4)]) (st2 := [.int v5]) hm dX13_kindBytes_118 (by rw [← e_v5]; rfl) ?_
      clear e_v5
      refine mx_S.pu (pc2 := 120) (lv2 := [(0, .ref l0), (1, .int l1), (2, .int l2), (3, .int l3), (4, .int l4)]) (st2 := [.int l1, .int v5]) hm dX13_kindBytes_119 rfl ?_
      replace hf := xl_el hf; obtain ⟨v6, e_v6, hf⟩ := hf
      refine mx_S.pu (pc2 := 121) (lv2 := [(0, .ref l0), (1, .int l1), (2, .int l2), (3, .int l3), (4, .int l4)]) (st2 := [.int v6]) hm dX13_kindBytes_120 (by rw [← e_v6]; rfl) ?_
      clear e_v6
      refine mx_S.pu (pc2 := 125) (lv2 := [(0, .ref l0), (1, .int l1), (2, .int l2), (3, .int l3), (4, .int l4)]) (st2 := [.int v6]) hm dX13_kindBytes_121 rfl ?_
      cases hf
      exact sx_ire hm dX13_kindBytes_125 rfl rfl
set_option maxHeartbeats 4000000 in
set_option maxRecDepth 20000 in
theorem w_X13_kindBytes_72_ok (X : Nat × (Nat → Int32)) {F L : Nat} (hF : 3 ≤ F) (hL : 65 ≤ L) (nn : Nat) : ∀ (k : Nat) (l0 : Nat) (l1 : Int32) (l2 : Int32) (l3 : Int32) (l4 : Int32) (h : mx_H) (r : (Int32 × mx_H)), w_X13_kindBytes_72 nn k l0 l1 l2 l3 l4 h = some r → mx_S X F L 494 72 [(0, .ref l0), (1, .int l1), (2, .int l2), (3, .int l3), (4, .int l4)] [] h 0 0 (some (.int r.1), r.2, 0, 0) := by
  have hm : mx_mt 494 = some (yX13_kindBytes, cX13_kindBytes, 5, (some .int)) := mt_X13_kindBytes
  intro k
  induction k with
  | zero => intro l0 l1 l2 l3 l4 h r hf; cases hf
  | succ k ih =>
    intro l0 l1 l2 l3 l4 h r hf
    unfold w_X13_kindBytes_72 at hf
    refine mx_S.pu (pc2 := 74) (lv2 := [(0, .ref l0), (1, .int l1), (2, .int l2), (3, .int l3), (4, .int l4)]) (st2 := [.int l4]) hm dX13_kindBytes_72 rfl ?_
    refine mx_S.pu (pc2 := 75) (lv2 := [(0, .ref l0), (1, .int l1), (2, .int l2), (3, .int l3), (4, .int l4)]) (st2 := [.int l2, .int l4]) hm dX13_kindBytes_74 rfl ?_
    rcases mx_if_el hf with ⟨c12, hf⟩ | ⟨c12, hf⟩
    · refine sb_ic_ge hm dX13_kindBytes_75 (tgt := 93) rfl (fun _ => ?_) (fun z => absurd c12 z)
      exact j_X13_kindBytes_93_ok X hF hL nn l0 l1 l2 l3 l4 h hf
    · refine sb_ic_ge hm dX13_kindBytes_75 (tgt := 93) rfl (fun z => absurd z c12) (fun _ => ?_)
      refine mx_S.pu (pc2 := 79) (lv2 := [(0, .ref l0), (1, .int l1), (2, .int l2), (3, .int l3), (4, .int l4)]) (st2 := [.ref l0]) hm dX13_kindBytes_78 rfl ?_
      refine mx_S.pu (pc2 := 81) (lv2 := [(0, .ref l0), (1, .int l1), (2, .int l2), (3, .int l3), (4, .int l4)]) (st2 := [.int l4, .ref l0]) hm dX13_kindBytes_79 rfl ?_
      replace hf := mx_sv_el hf; obtain ⟨v9, e_v9, hf⟩ := hf
      refine sx_ald hm dX13_kindBytes_81 e_v9 ?_
      clear e_v9
      refine sx_bi (v := 59) hm dX13_kindBytes_82 (by decide) ?_
      rcases mx_if_el hf with ⟨c11, hf⟩ | ⟨c11, hf⟩
      · refine sb_ic_eq hm dX13_kindBytes_84 (tgt := 93) rfl (fun _ => ?_) (fun z => absurd c11 z)
        exact j_X13_kindBytes_93_ok X hF hL nn l0 l1 l2 l3 l4 h hf
      · refine sb_ic_eq hm dX13_kindBytes_84 (tgt := 93) rfl (fun z => absurd z c11) (fun _ => ?_)
        replace hf := xl_el hf; obtain ⟨v10, e_v10, hf⟩ := hf
        refine mx_S.pu (pc2 := 90) (lv2 := [(4, .int v10), (0, .ref l0), (1, .int l1), (2, .int l2), (3, .int l3)]) (st2 := []) hm dX13_kindBytes_87 (by rw [← e_v10]; rfl) ?_
        clear e_v10
        refine mx_S.pu (pc2 := 72) (lv2 := [(4, .int v10), (0, .ref l0), (1, .int l1), (2, .int l2), (3, .int l3)]) (st2 := []) hm dX13_kindBytes_90 rfl ?_
        refine mx_S.ext [(0, .ref l0), (1, .int l1), (2, .int l2), (3, .int l3), (4, .int v10)] (mx_sub_pos [1, 2, 3, 4, 0] rfl (show ([4, 0, 1, 2, 3] : List Nat).Nodup by decide)) ?_
        exact ih l0 l1 l2 l3 v10 h _ hf
set_option maxHeartbeats 4000000 in
set_option maxRecDepth 20000 in
theorem j_X13_kindBytes_52_ok (X : Nat × (Nat → Int32)) {F L : Nat} (hF : 3 ≤ F) (hL : 65 ≤ L) (nn : Nat) (l0 : Nat) (l1 : Int32) (l2 : Int32) (l3 : Int32) (h : mx_H) {r : (Int32 × mx_H)} (hf : j_X13_kindBytes_52 nn l0 l1 l2 l3 h = some r) : mx_S X F L 494 52 [(0, .ref l0), (1, .int l1), (2, .int l2), (3, .int l3)] [] h 0 0 (some (.int r.1), r.2, 0, 0) := by
  have hm : mx_mt 494 = some (yX13_kindBytes, cX13_kindBytes, 5, (some .int)) := mt_X13_kindBytes
  unfold j_X13_kindBytes_52 at hf
  refine mx_S.pu (pc2 := 53) (lv2 := [(0, .ref l0), (1, .int l1), (2, .int l2), (3, .int l3)]) (st2 := [.int l3]) hm dX13_kindBytes_52 rfl ?_
  refine mx_S.pu (pc2 := 54) (lv2 := [(0, .ref l0), (1, .int l1), (2, .int l2), (3, .int l3)]) (st2 := [.int l2, .int l3]) hm dX13_kindBytes_53 rfl ?_
  rcases mx_if_el hf with ⟨c16, hf⟩ | ⟨c16, hf⟩
  · refine sb_ic_ge hm dX13_kindBytes_54 (tgt := 65) rfl (fun _ => ?_) (fun z => absurd c16 z)
    refine sx_ic (v := 0) hm dX13_kindBytes_65 (by decide) ?_
    cases hf
    exact sx_ire hm dX13_kindBytes_66 rfl rfl
  · refine sb_ic_ge hm dX13_kindBytes_54 (tgt := 65) rfl (fun z => absurd z c16) (fun _ => ?_)
    refine mx_S.pu (pc2 := 58) (lv2 := [(0, .ref l0), (1, .int l1), (2, .int l2), (3, .int l3)]) (st2 := [.ref l0]) hm dX13_kindBytes_57 rfl ?_
    refine mx_S.pu (pc2 := 59) (lv2 := [(0, .ref l0), (1, .int l1), (2, .int l2), (3, .int l3)]) (st2 := [.int l3, .ref l0]) hm dX13_kindBytes_58 rfl ?_
    replace hf := mx_sv_el hf; obtain ⟨v13, e_v13, hf⟩ := hf
    refine sx_ald hm dX13_kindBytes_59 e_v13 ?_
    clear e_v13
    refine sx_bi (v := 76) hm dX13_kindBytes_60 (by decide) ?_
    rcases mx_if_el hf with ⟨c15, hf⟩ | ⟨c15, hf⟩
    · refine sb_ic_eq hm dX13_kindBytes_62 (tgt := 67) rfl (fun _ => ?_) (fun z => absurd c15 z)
      refine mx_S.pu (pc2 := 68) (lv2 := [(0, .ref l0), (1, .int l1), (2, .int l2), (3, .int l3)]) (st2 := [.int l3]) hm dX13_kindBytes_67 rfl ?_
      refine sx_ic (v := 1) hm dX13_kindBytes_68 (by decide) ?_
      replace hf := xl_el hf; obtain ⟨v14, e_v14, hf⟩ := hf
      refine mx_S.pu (pc2 := 70) (lv2 := [(0, .ref l0), (1, .int l1), (2, .int l2), (3, .int l3)]) (st2 := [.int v14]) hm dX13_kindBytes_69 (by rw [← e_v14]; rfl) ?_
      clear e_v14
      refine mx_S.pu (pc2 := 72) (lv2 := [(4, .int v14), (0, .ref l0), (1, .int l1), (2, .int l2), (3, .int l3)]) (st2 := []) hm dX13_kindBytes_70 rfl ?_
      refine mx_S.ext [(0, .ref l0), (1, .int l1), (2, .int l2), (3, .int l3), (4, .int v14)] (mx_sub_pos [1, 2, 3, 4, 0] rfl (show ([4, 0, 1, 2, 3] : List Nat).Nodup by decide)) ?_
      exact w_X13_kindBytes_72_ok X hF hL nn nn l0 l1 l2 l3 v14 h _ hf
    · refine sb_ic_eq hm dX13_kindBytes_62 (tgt := 67) rfl (fun z => absurd z c15) (fun _ => ?_)
      refine sx_ic (v := 0) hm dX13_kindBytes_65 (by decide) ?_
      cases hf
      exact sx_ire hm dX13_kindBytes_66 rfl rfl
set_option maxHeartbeats 4000000 in
set_option maxRecDepth 20000 in
theorem j_X13_kindBytes_33_ok (X : Nat × (Nat → Int32)) {F L : Nat} (hF : 3 ≤ F) (hL : 65 ≤ L) (nn : Nat) (l0 : Nat) (l1 : Int32) (l2 : Int32) (l3 : Int32) (h : mx_H) {r : (Int32 × mx_H)} (hf : j_X13_kindBytes_33 nn l0 l1 l2 l3 h = some r) : mx_S X F L 494 33 [(0, .ref l0), (1, .int l1), (2, .int l2), (3, .int l3)] [] h 0 0 (some (.int r.1), r.2, 0, 0) := by
  have hm : mx_mt 494 = some (yX13_kindBytes, cX13_kindBytes, 5, (some .int)) := mt_X13_kindBytes
  unfold j_X13_kindBytes_33 at hf
  refine mx_S.pu (pc2 := 34) (lv2 := [(0, .ref l0), (1, .int l1), (2, .int l2), (3, .int l3)]) (st2 := [.int l3]) hm dX13_kindBytes_33 rfl ?_
  refine mx_S.pu (pc2 := 35) (lv2 := [(0, .ref l0), (1, .int l1), (2, .int l2), (3, .int l3)]) (st2 := [.int l2, .int l3]) hm dX13_kindBytes_34 rfl ?_
  rcases mx_if_el hf with ⟨c21, hf⟩ | ⟨c21, hf⟩
  · refine sb_ic_ge hm dX13_kindBytes_35 (tgt := 52) rfl (fun _ => ?_) (fun z => absurd c21 z)
    exact j_X13_kindBytes_52_ok X hF hL nn l0 l1 l2 l3 h hf
  · refine sb_ic_ge hm dX13_kindBytes_35 (tgt := 52) rfl (fun z => absurd z c21) (fun _ => ?_)
    refine mx_S.pu (pc2 := 39) (lv2 := [(0, .ref l0), (1, .int l1), (2, .int l2), (3, .int l3)]) (st2 := [.ref l0]) hm dX13_kindBytes_38 rfl ?_
    refine mx_S.pu (pc2 := 40) (lv2 := [(0, .ref l0), (1, .int l1), (2, .int l2), (3, .int l3)]) (st2 := [.int l3, .ref l0]) hm dX13_kindBytes_39 rfl ?_
    replace hf := mx_sv_el hf; obtain ⟨v17, e_v17, hf⟩ := hf
    refine sx_ald hm dX13_kindBytes_40 e_v17 ?_
    clear e_v17
    refine sx_bi (v := 73) hm dX13_kindBytes_41 (by decide) ?_
    rcases mx_if_el hf with ⟨c20, hf⟩ | ⟨c20, hf⟩
    · refine sb_ic_ne hm dX13_kindBytes_43 (tgt := 52) rfl (fun _ => ?_) (fun z => absurd c20 z)
      exact j_X13_kindBytes_52_ok X hF hL nn l0 l1 l2 l3 h hf
    · refine sb_ic_ne hm dX13_kindBytes_43 (tgt := 52) rfl (fun z => absurd z c20) (fun _ => ?_)
      refine mx_S.pu (pc2 := 47) (lv2 := [(0, .ref l0), (1, .int l1), (2, .int l2), (3, .int l3)]) (st2 := [.int l3]) hm dX13_kindBytes_46 rfl ?_
      refine sx_ic (v := 1) hm dX13_kindBytes_47 (by decide) ?_
      replace hf := xl_el hf; obtain ⟨v18, e_v18, hf⟩ := hf
      refine mx_S.pu (pc2 := 49) (lv2 := [(0, .ref l0), (1, .int l1), (2, .int l2), (3, .int l3)]) (st2 := [.int v18]) hm dX13_kindBytes_48 (by rw [← e_v18]; rfl) ?_
      clear e_v18
      refine mx_S.pu (pc2 := 50) (lv2 := [(0, .ref l0), (1, .int l1), (2, .int l2), (3, .int l3)]) (st2 := [.int l1, .int v18]) hm dX13_kindBytes_49 rfl ?_
      replace hf := xl_el hf; obtain ⟨v19, e_v19, hf⟩ := hf
      refine mx_S.pu (pc2 := 51) (lv2 := [(0, .ref l0), (1, .int l1), (2, .int l2), (3, .int l3)]) (st2 := [.int v19]) hm dX13_kindBytes_50 (by rw [← e_v19]; rfl) ?_
      clear e_v19
      cases hf
      exact sx_ire hm dX13_kindBytes_51 rfl rfl
set_option maxHeartbeats 4000000 in
set_option maxRecDepth 20000 in
theorem j_X13_kindBytes_17_ok (X : Nat × (Nat → Int32)) {F L : Nat} (hF : 3 ≤ F) (hL : 65 ≤ L) (nn : Nat) (l0 : Nat) (l1 : Int32) (l2 : Int32) (l3 : Int32) (h : mx_H) {r : (Int32 × mx_H)} (hf : j_X13_kindBytes_17 nn l0 l1 l2 l3 h = some r) : mx_S X F L 494 17 [(0, .ref l0), (1, .int l1), (2, .int l2), (3, .int l3)] [] h 0 0 (some (.int r.1), r.2, 0, 0) := by
  have hm : mx_mt 494 = some (yX13_kindBytes, cX13_kindBytes, 5, (some .int)) := mt_X13_kindBytes
  unfold j_X13_kindBytes_17 at hf
  refine mx_S.pu (pc2 := 18) (lv2 := [(0, .ref l0), (1, .int l1), (2, .int l2), (3, .int l3)]) (st2 := [.int l3]) hm dX13_kindBytes_17 rfl ?_
  refine mx_S.pu (pc2 := 19) (lv2 := [(0, .ref l0), (1, .int l1), (2, .int l2), (3, .int l3)]) (st2 := [.int l2, .int l3]) hm dX13_kindBytes_18 rfl ?_
  rcases mx_if_el hf with ⟨c25, hf⟩ | ⟨c25, hf⟩
  · refine sb_ic_ge hm dX13_kindBytes_19 (tgt := 33) rfl (fun _ => ?_) (fun z => absurd c25 z)
    exact j_X13_kindBytes_33_ok X hF hL nn l0 l1 l2 l3 h hf
  · refine sb_ic_ge hm dX13_kindBytes_19 (tgt := 33) rfl (fun z => absurd z c25) (fun _ => ?_)
    refine mx_S.pu (pc2 := 23) (lv2 := [(0, .ref l0), (1, .int l1), (2, .int l2), (3, .int l3)]) (st2 := [.ref l0]) hm dX13_kindBytes_22 rfl ?_
    refine mx_S.pu (pc2 := 24) (lv2 := [(0, .ref l0), (1, .int l1), (2, .int l2), (3, .int l3)]) (st2 := [.int l3, .ref l0]) hm dX13_kindBytes_23 rfl ?_
    replace hf := mx_sv_el hf; obtain ⟨v22, e_v22, hf⟩ := hf
    refine sx_ald hm dX13_kindBytes_24 e_v22 ?_
    clear e_v22
    refine sx_bi (v := 91) hm dX13_kindBytes_25 (by decide) ?_
    rcases mx_if_el hf with ⟨c24, hf⟩ | ⟨c24, hf⟩
    · refine sb_ic_ne hm dX13_kindBytes_27 (tgt := 33) rfl (fun _ => ?_) (fun z => absurd c24 z)
      exact j_X13_kindBytes_33_ok X hF hL nn l0 l1 l2 l3 h hf
    · refine sb_ic_ne hm dX13_kindBytes_27 (tgt := 33) rfl (fun z => absurd z c24) (fun _ => ?_)
      replace hf := xl_el hf; obtain ⟨v23, e_v23, hf⟩ := hf
      refine mx_S.pu (pc2 := 33) (lv2 := [(3, .int v23), (0, .ref l0), (1, .int l1), (2, .int l2)]) (st2 := []) hm dX13_kindBytes_30 (by rw [← e_v23]; rfl) ?_
      clear e_v23
      refine mx_S.ext [(0, .ref l0), (1, .int l1), (2, .int l2), (3, .int v23)] (mx_sub_pos [1, 2, 3, 0] rfl (show ([3, 0, 1, 2] : List Nat).Nodup by decide)) ?_
      exact j_X13_kindBytes_33_ok X hF hL nn l0 l1 l2 v23 h hf
set_option maxHeartbeats 4000000 in
set_option maxRecDepth 20000 in
theorem f_X13_kindBytes_ok (X : Nat × (Nat → Int32)) {F L : Nat} (hF : 3 ≤ F) (hL : 65 ≤ L) (nn : Nat) (a0 : Nat) (a1 : Int32) (a2 : Int32) (h : mx_H) {r : (Int32 × mx_H)} (hf : f_X13_kindBytes nn a0 a1 a2 h = some r) : mx_R X F L 494 [.ref a0, .int a1, .int a2] h (some (.int r.1), r.2, 0, 0) := by
  have hm : mx_mt 494 = some (yX13_kindBytes, cX13_kindBytes, 5, (some .int)) := mt_X13_kindBytes
  show mx_S X F L 494 0 [(0, .ref a0), (1, .int a1), (2, .int a2)] [] h 0 0 (some (.int r.1), r.2, 0, 0)
  unfold f_X13_kindBytes at hf
  refine mx_S.pu (pc2 := 1) (lv2 := [(0, .ref a0), (1, .int a1), (2, .int a2)]) (st2 := [.int a1]) hm dX13_kindBytes_0 rfl ?_
  refine mx_S.pu (pc2 := 2) (lv2 := [(3, .int a1), (0, .ref a0), (1, .int a1), (2, .int a2)]) (st2 := []) hm dX13_kindBytes_1 rfl ?_
  refine mx_S.pu (pc2 := 3) (lv2 := [(3, .int a1), (0, .ref a0), (1, .int a1), (2, .int a2)]) (st2 := [.int a1]) hm dX13_kindBytes_2 rfl ?_
  refine mx_S.pu (pc2 := 4) (lv2 := [(3, .int a1), (0, .ref a0), (1, .int a1), (2, .int a2)]) (st2 := [.int a2, .int a1]) hm dX13_kindBytes_3 rfl ?_
  rcases mx_if_el hf with ⟨c28, hf⟩ | ⟨c28, hf⟩
  · refine sb_ic_ge hm dX13_kindBytes_4 (tgt := 17) rfl (fun _ => ?_) (fun z => absurd c28 z)
    refine mx_S.ext [(0, .ref a0), (1, .int a1), (2, .int a2), (3, .int a1)] (mx_sub_pos [1, 2, 3, 0] rfl (show ([3, 0, 1, 2] : List Nat).Nodup by decide)) ?_
    exact j_X13_kindBytes_17_ok X hF hL nn a0 a1 a2 a1 h hf
  · refine sb_ic_ge hm dX13_kindBytes_4 (tgt := 17) rfl (fun z => absurd z c28) (fun _ => ?_)
    refine mx_S.pu (pc2 := 8) (lv2 := [(3, .int a1), (0, .ref a0), (1, .int a1), (2, .int a2)]) (st2 := [.ref a0]) hm dX13_kindBytes_7 rfl ?_
    refine mx_S.pu (pc2 := 9) (lv2 := [(3, .int a1), (0, .ref a0), (1, .int a1), (2, .int a2)]) (st2 := [.int a1, .ref a0]) hm dX13_kindBytes_8 rfl ?_
    replace hf := mx_sv_el hf; obtain ⟨v26, e_v26, hf⟩ := hf
    refine sx_ald hm dX13_kindBytes_9 e_v26 ?_
    clear e_v26
    refine sx_bi (v := 90) hm dX13_kindBytes_10 (by decide) ?_
    rcases mx_if_el hf with ⟨c27, hf⟩ | ⟨c27, hf⟩
    · refine sb_ic_ne hm dX13_kindBytes_12 (tgt := 17) rfl (fun _ => ?_) (fun z => absurd c27 z)
      refine mx_S.ext [(0, .ref a0), (1, .int a1), (2, .int a2), (3, .int a1)] (mx_sub_pos [1, 2, 3, 0] rfl (show ([3, 0, 1, 2] : List Nat).Nodup by decide)) ?_
      exact j_X13_kindBytes_17_ok X hF hL nn a0 a1 a2 a1 h hf
    · refine sb_ic_ne hm dX13_kindBytes_12 (tgt := 17) rfl (fun z => absurd z c27) (fun _ => ?_)
      refine sx_ic (v := 1) hm dX13_kindBytes_15 (by decide) ?_
      cases hf
      exact sx_ire hm dX13_kindBytes_16 rfl rfl
set_option maxHeartbeats 4000000 in
set_option maxRecDepth 20000 in
theorem f_X13_isFieldKind_ok (X : Nat × (Nat → Int32)) {F L : Nat} (hF : 4 ≤ F) (hL : 89 ≤ L) (nn : Nat) (a0 : Nat) (a1 : Int32) (a2 : Int32) (h : mx_H) {r : (Int32 × mx_H)} (hf : f_X13_isFieldKind nn a0 a1 a2 h = some r) : mx_R X F L 495 [.ref a0, .int a1, .int a2] h (some (.int r.1), r.2, 0, 0) := by
  have hm : mx_mt 495 = some (yX13_isFieldKind, cX13_isFieldKind, 3, (some .boolean)) := mt_X13_isFieldKind
  show mx_S X F L 495 0 [(0, .ref a0), (1, .int a1), (2, .int a2)] [] h 0 0 (some (.int r.1), r.2, 0, 0)
  unfold f_X13_isFieldKind at hf
  refine mx_S.pu (pc2 := 1) (lv2 := [(0, .ref a0), (1, .int a1), (2, .int a2)]) (st2 := [.int a2]) hm dX13_isFieldKind_0 rfl ?_
  rcases mx_if_el hf with ⟨c4, hf⟩ | ⟨c4, hf⟩
  · refine sb_if_le hm dX13_isFieldKind_1 (tgt := 20) rfl (fun _ => ?_) (fun z => absurd c4 z)
    refine sx_ic (v := 0) hm dX13_isFieldKind_20 (by decide) ?_
    cases hf
    exact sx_ire hm dX13_isFieldKind_21 rfl (by decide)
  · refine sb_if_le hm dX13_isFieldKind_1 (tgt := 20) rfl (fun z => absurd z c4) (fun _ => ?_)
    refine mx_S.pu (pc2 := 5) (lv2 := [(0, .ref a0), (1, .int a1), (2, .int a2)]) (st2 := [.ref a0]) hm dX13_isFieldKind_4 rfl ?_
    refine mx_S.pu (pc2 := 6) (lv2 := [(0, .ref a0), (1, .int a1), (2, .int a2)]) (st2 := [.int a1, .ref a0]) hm dX13_isFieldKind_5 rfl ?_
    refine mx_S.pu (pc2 := 7) (lv2 := [(0, .ref a0), (1, .int a1), (2, .int a2)]) (st2 := [.int a1, .int a1, .ref a0]) hm dX13_isFieldKind_6 rfl ?_
    refine mx_S.pu (pc2 := 8) (lv2 := [(0, .ref a0), (1, .int a1), (2, .int a2)]) (st2 := [.int a2, .int a1, .int a1, .ref a0]) hm dX13_isFieldKind_7 rfl ?_
    replace hf := xl_el hf; obtain ⟨v1, e_v1, hf⟩ := hf
    refine mx_S.pu (pc2 := 9) (lv2 := [(0, .ref a0), (1, .int a1), (2, .int a2)]) (st2 := [.int v1, .int a1, .ref a0]) hm dX13_isFieldKind_8 (by rw [← e_v1]; rfl) ?_
    clear e_v1
    replace hf := mx_sv_el hf; obtain ⟨u2, e_u2, hf⟩ := hf
    refine sx_cs hm dX13_isFieldKind_9 rs_RX13_778 mt_X13_kindBytes [.ref a0, .int a1, .int v1] [] rfl rfl (Nat.le_of_ble_eq_true rfl) (Nat.le_of_ble_eq_true rfl) (by omega) (by omega) (f_X13_kindBytes_ok X (by omega) (by omega) nn a0 a1 v1 h e_u2) ?_
    clear e_u2
    show mx_S X F L 495 12 [(0, .ref a0), (1, .int a1), (2, .int a2)] [.int u2.1] u2.2 0 0 (some (.int r.1), r.2, 0, 0)
    refine mx_S.pu (pc2 := 13) (lv2 := [(0, .ref a0), (1, .int a1), (2, .int a2)]) (st2 := [.int a2, .int u2.1]) hm dX13_isFieldKind_12 rfl ?_
    rcases mx_if_el hf with ⟨c3, hf⟩ | ⟨c3, hf⟩
    · refine sb_ic_ne hm dX13_isFieldKind_13 (tgt := 20) rfl (fun _ => ?_) (fun z => absurd c3 z)
      refine sx_ic (v := 0) hm dX13_isFieldKind_20 (by decide) ?_
      cases hf
      exact sx_ire hm dX13_isFieldKind_21 rfl (by decide)
    · refine sb_ic_ne hm dX13_isFieldKind_13 (tgt := 20) rfl (fun z => absurd z c3) (fun _ => ?_)
      refine sx_ic (v := 1) hm dX13_isFieldKind_16 (by decide) ?_
      refine mx_S.pu (pc2 := 21) (lv2 := [(0, .ref a0), (1, .int a1), (2, .int a2)]) (st2 := [.int 1]) hm dX13_isFieldKind_17 rfl ?_
      cases hf
      exact sx_ire hm dX13_isFieldKind_21 rfl (by decide)
set_option maxHeartbeats 4000000 in
set_option maxRecDepth 20000 in
theorem j_X13_isClassText_19_ok (X : Nat × (Nat → Int32)) {F L : Nat} (hF : 5 ≤ F) (hL : 111 ≤ L) (nn : Nat) (l0 : Nat) (l1 : Int32) (l2 : Int32) (h : mx_H) {r : (Int32 × mx_H)} (hf : j_X13_isClassText_19 nn l0 l1 l2 h = some r) : mx_S X F L 498 19 [(0, .ref l0), (1, .int l1), (2, .int l2)] [] h 0 0 (some (.int r.1), r.2, 0, 0) := by
  have hm : mx_mt 498 = some (yX13_isClassText, cX13_isClassText, 3, (some .boolean)) := mt_X13_isClassText
  unfold j_X13_isClassText_19 at hf
  refine mx_S.pu (pc2 := 20) (lv2 := [(0, .ref l0), (1, .int l1), (2, .int l2)]) (st2 := [.ref l0]) hm dX13_isClassText_19 rfl ?_
  refine mx_S.pu (pc2 := 21) (lv2 := [(0, .ref l0), (1, .int l1), (2, .int l2)]) (st2 := [.int l1, .ref l0]) hm dX13_isClassText_20 rfl ?_
  refine mx_S.pu (pc2 := 22) (lv2 := [(0, .ref l0), (1, .int l1), (2, .int l2)]) (st2 := [.int l2, .int l1, .ref l0]) hm dX13_isClassText_21 rfl ?_
  replace hf := mx_sv_el hf; obtain ⟨u1, e_u1, hf⟩ := hf
  refine sx_cs hm dX13_isClassText_22 rs_RX13_774 mt_X13_isName [.ref l0, .int l1, .int l2] [] rfl rfl (Nat.le_of_ble_eq_true rfl) (Nat.le_of_ble_eq_true rfl) (by omega) (by omega) (f_X13_isName_ok X (by omega) (by omega) nn l0 l1 l2 h e_u1) ?_
  clear e_u1
  show mx_S X F L 498 25 [(0, .ref l0), (1, .int l1), (2, .int l2)] [.int u1.1] u1.2 0 0 (some (.int r.1), r.2, 0, 0)
  replace hf := mx_gd_el hf; obtain ⟨c2, hf⟩ := hf
  cases hf
  exact sx_ire hm dX13_isClassText_25 rfl (xbq_ok c2).1
set_option maxHeartbeats 4000000 in
set_option maxRecDepth 20000 in
theorem f_X13_isClassText_ok (X : Nat × (Nat → Int32)) {F L : Nat} (hF : 5 ≤ F) (hL : 111 ≤ L) (nn : Nat) (a0 : Nat) (a1 : Int32) (a2 : Int32) (h : mx_H) {r : (Int32 × mx_H)} (hf : f_X13_isClassText nn a0 a1 a2 h = some r) : mx_R X F L 498 [.ref a0, .int a1, .int a2] h (some (.int r.1), r.2, 0, 0) := by
  have hm : mx_mt 498 = some (yX13_isClassText, cX13_isClassText, 3, (some .boolean)) := mt_X13_isClassText
  show mx_S X F L 498 0 [(0, .ref a0), (1, .int a1), (2, .int a2)] [] h 0 0 (some (.int r.1), r.2, 0, 0)
  unfold f_X13_isClassText at hf
  refine mx_S.pu (pc2 := 1) (lv2 := [(0, .ref a0), (1, .int a1), (2, .int a2)]) (st2 := [.int a2]) hm dX13_isClassText_0 rfl ?_
  rcases mx_if_el hf with ⟨c7, hf⟩ | ⟨c7, hf⟩
  · refine sb_if_le hm dX13_isClassText_1 (tgt := 19) rfl (fun _ => ?_) (fun z => absurd c7 z)
    exact j_X13_isClassText_19_ok X hF hL nn a0 a1 a2 h hf
  · refine sb_if_le hm dX13_isClassText_1 (tgt := 19) rfl (fun z => absurd z c7) (fun _ => ?_)
    refine mx_S.pu (pc2 := 5) (lv2 := [(0, .ref a0), (1, .int a1), (2, .int a2)]) (st2 := [.ref a0]) hm dX13_isClassText_4 rfl ?_
    refine mx_S.pu (pc2 := 6) (lv2 := [(0, .ref a0), (1, .int a1), (2, .int a2)]) (st2 := [.int a1, .ref a0]) hm dX13_isClassText_5 rfl ?_
    replace hf := mx_sv_el hf; obtain ⟨v3, e_v3, hf⟩ := hf
    refine sx_ald hm dX13_isClassText_6 e_v3 ?_
    clear e_v3
    refine sx_bi (v := 91) hm dX13_isClassText_7 (by decide) ?_
    rcases mx_if_el hf with ⟨c6, hf⟩ | ⟨c6, hf⟩
    · refine sb_ic_ne hm dX13_isClassText_9 (tgt := 19) rfl (fun _ => ?_) (fun z => absurd c6 z)
      exact j_X13_isClassText_19_ok X hF hL nn a0 a1 a2 h hf
    · refine sb_ic_ne hm dX13_isClassText_9 (tgt := 19) rfl (fun z => absurd z c6) (fun _ => ?_)
      refine mx_S.pu (pc2 := 13) (lv2 := [(0, .ref a0), (1, .int a1), (2, .int a2)]) (st2 := [.ref a0]) hm dX13_isClassText_12 rfl ?_
      refine mx_S.pu (pc2 := 14) (lv2 := [(0, .ref a0), (1, .int a1), (2, .int a2)]) (st2 := [.int a1, .ref a0]) hm dX13_isClassText_13 rfl ?_
      refine mx_S.pu (pc2 := 15) (lv2 := [(0, .ref a0), (1, .int a1), (2, .int a2)]) (st2 := [.int a2, .int a1, .ref a0]) hm dX13_isClassText_14 rfl ?_
      replace hf := mx_sv_el hf; obtain ⟨u4, e_u4, hf⟩ := hf
      refine sx_cs hm dX13_isClassText_15 rs_RX13_782 mt_X13_isFieldKind [.ref a0, .int a1, .int a2] [] rfl rfl (Nat.le_of_ble_eq_true rfl) (Nat.le_of_ble_eq_true rfl) (by omega) (by omega) (f_X13_isFieldKind_ok X (by omega) (by omega) nn a0 a1 a2 h e_u4) ?_
      clear e_u4
      show mx_S X F L 498 18 [(0, .ref a0), (1, .int a1), (2, .int a2)] [.int u4.1] u4.2 0 0 (some (.int r.1), r.2, 0, 0)
      replace hf := mx_gd_el hf; obtain ⟨c5, hf⟩ := hf
      cases hf
      exact sx_ire hm dX13_isClassText_18 rfl (xbq_ok c5).1
set_option maxHeartbeats 4000000 in
set_option maxRecDepth 20000 in
theorem j_X13_parametersIn_117_ok (X : Nat × (Nat → Int32)) {F L : Nat} (hF : 5 ≤ F) (hL : 111 ≤ L) (nn : Nat) (l5 : Int32) (s0 : Int32) (h : mx_H) {r : (Int32 × mx_H)} (hf : j_X13_parametersIn_117 nn l5 s0 h = some r) : mx_S X F L 496 117 [(5, .int l5)] [.int s0] h 0 0 (some (.int r.1), r.2, 0, 0) := by
  have hm : mx_mt 496 = some (yX13_parametersIn, cX13_parametersIn, 7, (some .int)) := mt_X13_parametersIn
  unfold j_X13_parametersIn_117 at hf
  refine mx_S.pu (pc2 := 119) (lv2 := [(6, .int s0), (5, .int l5)]) (st2 := []) hm dX13_parametersIn_117 rfl ?_
  refine mx_S.pu (pc2 := 121) (lv2 := [(6, .int s0), (5, .int l5)]) (st2 := [.int s0]) hm dX13_parametersIn_119 rfl ?_
  rcases mx_if_el hf with ⟨c1, hf⟩ | ⟨c1, hf⟩
  · refine sb_if_eq hm dX13_parametersIn_121 (tgt := 129) rfl (fun _ => ?_) (fun z => absurd c1 z)
    refine sx_ic (v := (-1)) hm dX13_parametersIn_129 (by decide) ?_
    cases hf
    exact sx_ire hm dX13_parametersIn_130 rfl rfl
  · refine sb_if_eq hm dX13_parametersIn_121 (tgt := 129) rfl (fun z => absurd z c1) (fun _ => ?_)
    refine mx_S.pu (pc2 := 126) (lv2 := [(6, .int s0), (5, .int l5)]) (st2 := [.int l5]) hm dX13_parametersIn_124 rfl ?_
    refine mx_S.pu (pc2 := 130) (lv2 := [(6, .int s0), (5, .int l5)]) (st2 := [.int l5]) hm dX13_parametersIn_126 rfl ?_
    cases hf
    exact sx_ire hm dX13_parametersIn_130 rfl rfl
set_option maxHeartbeats 4000000 in
set_option maxRecDepth 20000 in
theorem j_X13_parametersIn_112_ok (X : Nat × (Nat → Int32)) {F L : Nat} (hF : 5 ≤ F) (hL : 111 ≤ L) (nn : Nat) (l5 : Int32) (h : mx_H) {r : (Int32 × mx_H)} (hf : j_X13_parametersIn_112 nn l5 h = some r) : mx_S X F L 496 112 [(5, .int l5)] [] h 0 0 (some (.int r.1), r.2, 0, 0) := by
  have hm : mx_mt 496 = some (yX13_parametersIn, cX13_parametersIn, 7, (some .int)) := mt_X13_parametersIn
  unfold j_X13_parametersIn_112 at hf
  refine sx_ic (v := 1) hm dX13_parametersIn_112 (by decide) ?_
  refine mx_S.pu (pc2 := 117) (lv2 := [(5, .int l5)]) (st2 := [.int 1]) hm dX13_parametersIn_113 rfl ?_
  exact j_X13_parametersIn_117_ok X hF hL nn l5 1 h hf
set_option maxHeartbeats 4000000 in
set_option maxRecDepth 20000 in
theorem j_X13_parametersIn_99_ok (X : Nat × (Nat → Int32)) {F L : Nat} (hF : 5 ≤ F) (hL : 111 ≤ L) (nn : Nat) (l0 : Nat) (l3 : Int32) (l4 : Int32) (l5 : Int32) (h : mx_H) {r : (Int32 × mx_H)} (hf : j_X13_parametersIn_99 nn l0 l3 l4 l5 h = some r) : mx_S X F L 496 99 [(0, .ref l0), (3, .int l3), (4, .int l4), (5, .int l5)] [] h 0 0 (some (.int r.1), r.2, 0, 0) := by
  have hm : mx_mt 496 = some (yX13_parametersIn, cX13_parametersIn, 7, (some .int)) := mt_X13_parametersIn
  unfold j_X13_parametersIn_99 at hf
  refine mx_S.pu (pc2 := 100) (lv2 := [(0, .ref l0), (3, .int l3), (4, .int l4), (5, .int l5)]) (st2 := [.ref l0]) hm dX13_parametersIn_99 rfl ?_
  refine mx_S.pu (pc2 := 102) (lv2 := [(0, .ref l0), (3, .int l3), (4, .int l4), (5, .int l5)]) (st2 := [.int l4, .ref l0]) hm dX13_parametersIn_100 rfl ?_
  refine mx_S.pu (pc2 := 103) (lv2 := [(0, .ref l0), (3, .int l3), (4, .int l4), (5, .int l5)]) (st2 := [.int l3, .int l4, .ref l0]) hm dX13_parametersIn_102 rfl ?_
  refine mx_S.pu (pc2 := 105) (lv2 := [(0, .ref l0), (3, .int l3), (4, .int l4), (5, .int l5)]) (st2 := [.int l4, .int l3, .int l4, .ref l0]) hm dX13_parametersIn_103 rfl ?_
  replace hf := xl_el hf; obtain ⟨v2, e_v2, hf⟩ := hf
  refine mx_S.pu (pc2 := 106) (lv2 := [(0, .ref l0), (3, .int l3), (4, .int l4), (5, .int l5)]) (st2 := [.int v2, .int l4, .ref l0]) hm dX13_parametersIn_105 (by rw [← e_v2]; rfl) ?_
  clear e_v2
  replace hf := mx_sv_el hf; obtain ⟨u3, e_u3, hf⟩ := hf
  refine sx_cs hm dX13_parametersIn_106 rs_RX13_782 mt_X13_isFieldKind [.ref l0, .int l4, .int v2] [] rfl rfl (Nat.le_of_ble_eq_true rfl) (Nat.le_of_ble_eq_true rfl) (by omega) (by omega) (f_X13_isFieldKind_ok X (by omega) (by omega) nn l0 l4 v2 h e_u3) ?_
  clear e_u3
  show mx_S X F L 496 109 [(0, .ref l0), (3, .int l3), (4, .int l4), (5, .int l5)] [.int u3.1] u3.2 0 0 (some (.int r.1), r.2, 0, 0)
  rcases mx_if_el hf with ⟨c4, hf⟩ | ⟨c4, hf⟩
  · refine sb_if_eq hm dX13_parametersIn_109 (tgt := 116) rfl (fun _ => ?_) (fun z => absurd c4 z)
    refine sx_ic (v := 0) hm dX13_parametersIn_116 (by decide) ?_
    refine mx_S.ext [(5, .int l5)] (mx_sub_pos [3] rfl (show ([0, 3, 4, 5] : List Nat).Nodup by decide)) ?_
    exact j_X13_parametersIn_117_ok X hF hL nn l5 0 u3.2 hf
  · refine sb_if_eq hm dX13_parametersIn_109 (tgt := 116) rfl (fun z => absurd z c4) (fun _ => ?_)
    refine mx_S.ext [(5, .int l5)] (mx_sub_pos [3] rfl (show ([0, 3, 4, 5] : List Nat).Nodup by decide)) ?_
    exact j_X13_parametersIn_112_ok X hF hL nn l5 u3.2 hf
set_option maxHeartbeats 4000000 in
set_option maxRecDepth 20000 in
theorem j_X13_parametersIn_71_ok (X : Nat × (Nat → Int32)) {F L : Nat} (hF : 5 ≤ F) (hL : 111 ≤ L) (nn : Nat) (l0 : Nat) (l3 : Int32) (l4 : Int32) (l5 : Int32) (h : mx_H) {r : (Int32 × mx_H)} (hf : j_X13_parametersIn_71 nn l0 l3 l4 l5 h = some r) : mx_S X F L 496 71 [(0, .ref l0), (3, .int l3), (4, .int l4), (5, .int l5)] [] h 0 0 (some (.int r.1), r.2, 0, 0) := by
  have hm : mx_mt 496 = some (yX13_parametersIn, cX13_parametersIn, 7, (some .int)) := mt_X13_parametersIn
  unfold j_X13_parametersIn_71 at hf
  refine mx_S.pu (pc2 := 73) (lv2 := [(0, .ref l0), (3, .int l3), (4, .int l4), (5, .int l5)]) (st2 := [.int l4]) hm dX13_parametersIn_71 rfl ?_
  refine mx_S.pu (pc2 := 74) (lv2 := [(0, .ref l0), (3, .int l3), (4, .int l4), (5, .int l5)]) (st2 := [.int l3, .int l4]) hm dX13_parametersIn_73 rfl ?_
  rcases mx_if_el hf with ⟨c10, hf⟩ | ⟨c10, hf⟩
  · refine sb_ic_lt hm dX13_parametersIn_74 (tgt := 79) rfl (fun _ => ?_) (fun z => absurd c10 z)
    replace hf := xl_el hf; obtain ⟨v5, e_v5, hf⟩ := hf
    refine mx_S.pu (pc2 := 82) (lv2 := [(4, .int v5), (0, .ref l0), (3, .int l3), (5, .int l5)]) (st2 := []) hm dX13_parametersIn_79 (by rw [← e_v5]; rfl) ?_
    clear e_v5
    refine mx_S.pu (pc2 := 84) (lv2 := [(4, .int v5), (0, .ref l0), (3, .int l3), (5, .int l5)]) (st2 := [.int v5]) hm dX13_parametersIn_82 rfl ?_
    refine sx_ic (v := 1) hm dX13_parametersIn_84 (by decide) ?_
    replace hf := xl_el hf; obtain ⟨v6, e_v6, hf⟩ := hf
    refine mx_S.pu (pc2 := 86) (lv2 := [(4, .int v5), (0, .ref l0), (3, .int l3), (5, .int l5)]) (st2 := [.int v6]) hm dX13_parametersIn_85 (by rw [← e_v6]; rfl) ?_
    clear e_v6
    refine mx_S.pu (pc2 := 87) (lv2 := [(4, .int v5), (0, .ref l0), (3, .int l3), (5, .int l5)]) (st2 := [.int l3, .int v6]) hm dX13_parametersIn_86 rfl ?_
    rcases mx_if_el hf with ⟨c9, hf⟩ | ⟨c9, hf⟩
    · refine sb_ic_ne hm dX13_parametersIn_87 (tgt := 99) rfl (fun _ => ?_) (fun z => absurd c9 z)
      refine mx_S.ext [(0, .ref l0), (3, .int l3), (4, .int v5), (5, .int l5)] (mx_sub_pos [1, 2, 0, 3] rfl (show ([4, 0, 3, 5] : List Nat).Nodup by decide)) ?_
      exact j_X13_parametersIn_99_ok X hF hL nn l0 l3 v5 l5 h hf
    · refine sb_ic_ne hm dX13_parametersIn_87 (tgt := 99) rfl (fun z => absurd z c9) (fun _ => ?_)
      refine mx_S.pu (pc2 := 91) (lv2 := [(4, .int v5), (0, .ref l0), (3, .int l3), (5, .int l5)]) (st2 := [.ref l0]) hm dX13_parametersIn_90 rfl ?_
      refine mx_S.pu (pc2 := 93) (lv2 := [(4, .int v5), (0, .ref l0), (3, .int l3), (5, .int l5)]) (st2 := [.int v5, .ref l0]) hm dX13_parametersIn_91 rfl ?_
      replace hf := mx_sv_el hf; obtain ⟨v7, e_v7, hf⟩ := hf
      refine sx_ald hm dX13_parametersIn_93 e_v7 ?_
      clear e_v7
      refine sx_bi (v := 86) hm dX13_parametersIn_94 (by decide) ?_
      rcases mx_if_el hf with ⟨c8, hf⟩ | ⟨c8, hf⟩
      · refine sb_ic_eq hm dX13_parametersIn_96 (tgt := 112) rfl (fun _ => ?_) (fun z => absurd c8 z)
        refine mx_S.ext [(5, .int l5)] (mx_sub_pos [3] rfl (show ([4, 0, 3, 5] : List Nat).Nodup by decide)) ?_
        exact j_X13_parametersIn_112_ok X hF hL nn l5 h hf
      · refine sb_ic_eq hm dX13_parametersIn_96 (tgt := 112) rfl (fun z => absurd z c8) (fun _ => ?_)
        refine mx_S.ext [(0, .ref l0), (3, .int l3), (4, .int v5), (5, .int l5)] (mx_sub_pos [1, 2, 0, 3] rfl (show ([4, 0, 3, 5] : List Nat).Nodup by decide)) ?_
        exact j_X13_parametersIn_99_ok X hF hL nn l0 l3 v5 l5 h hf
  · refine sb_ic_lt hm dX13_parametersIn_74 (tgt := 79) rfl (fun z => absurd z c10) (fun _ => ?_)
    refine sx_ic (v := (-1)) hm dX13_parametersIn_77 (by decide) ?_
    cases hf
    exact sx_ire hm dX13_parametersIn_78 rfl rfl
set_option maxHeartbeats 4000000 in
set_option maxRecDepth 20000 in
theorem w_X13_parametersIn_27_ok (X : Nat × (Nat → Int32)) {F L : Nat} (hF : 5 ≤ F) (hL : 111 ≤ L) (nn : Nat) : ∀ (k : Nat) (l0 : Nat) (l3 : Int32) (l4 : Int32) (l5 : Int32) (h : mx_H) (r : (Int32 × mx_H)), w_X13_parametersIn_27 nn k l0 l3 l4 l5 h = some r → mx_S X F L 496 27 [(0, .ref l0), (3, .int l3), (4, .int l4), (5, .int l5)] [] h 0 0 (some (.int r.1), r.2, 0, 0) := by
  have hm : mx_mt 496 = some (yX13_parametersIn, cX13_parametersIn, 7, (some .int)) := mt_X13_parametersIn
  intro k
  induction k with
  | zero => intro l0 l3 l4 l5 h r hf; cases hf
  | succ k ih =>
    intro l0 l3 l4 l5 h r hf
    unfold w_X13_parametersIn_27 at hf
    refine mx_S.pu (pc2 := 29) (lv2 := [(0, .ref l0), (3, .int l3), (4, .int l4), (5, .int l5)]) (st2 := [.int l4]) hm dX13_parametersIn_27 rfl ?_
    refine mx_S.pu (pc2 := 30) (lv2 := [(0, .ref l0), (3, .int l3), (4, .int l4), (5, .int l5)]) (st2 := [.int l3, .int l4]) hm dX13_parametersIn_29 rfl ?_
    rcases mx_if_el hf with ⟨c17, hf⟩ | ⟨c17, hf⟩
    · refine sb_ic_ge hm dX13_parametersIn_30 (tgt := 71) rfl (fun _ => ?_) (fun z => absurd c17 z)
      exact j_X13_parametersIn_71_ok X hF hL nn l0 l3 l4 l5 h hf
    · refine sb_ic_ge hm dX13_parametersIn_30 (tgt := 71) rfl (fun z => absurd z c17) (fun _ => ?_)
      refine mx_S.pu (pc2 := 34) (lv2 := [(0, .ref l0), (3, .int l3), (4, .int l4), (5, .int l5)]) (st2 := [.ref l0]) hm dX13_parametersIn_33 rfl ?_
      refine mx_S.pu (pc2 := 36) (lv2 := [(0, .ref l0), (3, .int l3), (4, .int l4), (5, .int l5)]) (st2 := [.int l4, .ref l0]) hm dX13_parametersIn_34 rfl ?_
      replace hf := mx_sv_el hf; obtain ⟨v11, e_v11, hf⟩ := hf
      refine sx_ald hm dX13_parametersIn_36 e_v11 ?_
      clear e_v11
      refine sx_bi (v := 41) hm dX13_parametersIn_37 (by decide) ?_
      rcases mx_if_el hf with ⟨c16, hf⟩ | ⟨c16, hf⟩
      · refine sb_ic_eq hm dX13_parametersIn_39 (tgt := 71) rfl (fun _ => ?_) (fun z => absurd c16 z)
        exact j_X13_parametersIn_71_ok X hF hL nn l0 l3 l4 l5 h hf
      · refine sb_ic_eq hm dX13_parametersIn_39 (tgt := 71) rfl (fun z => absurd z c16) (fun _ => ?_)
        refine mx_S.pu (pc2 := 43) (lv2 := [(0, .ref l0), (3, .int l3), (4, .int l4), (5, .int l5)]) (st2 := [.ref l0]) hm dX13_parametersIn_42 rfl ?_
        refine mx_S.pu (pc2 := 45) (lv2 := [(0, .ref l0), (3, .int l3), (4, .int l4), (5, .int l5)]) (st2 := [.int l4, .ref l0]) hm dX13_parametersIn_43 rfl ?_
        refine mx_S.pu (pc2 := 46) (lv2 := [(0, .ref l0), (3, .int l3), (4, .int l4), (5, .int l5)]) (st2 := [.int l3, .int l4, .ref l0]) hm dX13_parametersIn_45 rfl ?_
        replace hf := mx_sv_el hf; obtain ⟨u12, e_u12, hf⟩ := hf
        refine sx_cs hm dX13_parametersIn_46 rs_RX13_778 mt_X13_kindBytes [.ref l0, .int l4, .int l3] [] rfl rfl (Nat.le_of_ble_eq_true rfl) (Nat.le_of_ble_eq_true rfl) (by omega) (by omega) (f_X13_kindBytes_ok X (by omega) (by omega) nn l0 l4 l3 h e_u12) ?_
        clear e_u12
        show mx_S X F L 496 49 [(0, .ref l0), (3, .int l3), (4, .int l4), (5, .int l5)] [.int u12.1] u12.2 0 0 (some (.int r.1), r.2, 0, 0)
        refine mx_S.pu (pc2 := 51) (lv2 := [(6, .int u12.1), (0, .ref l0), (3, .int l3), (4, .int l4), (5, .int l5)]) (st2 := []) hm dX13_parametersIn_49 rfl ?_
        refine mx_S.pu (pc2 := 53) (lv2 := [(6, .int u12.1), (0, .ref l0), (3, .int l3), (4, .int l4), (5, .int l5)]) (st2 := [.int u12.1]) hm dX13_parametersIn_51 rfl ?_
        rcases mx_if_el hf with ⟨c15, hf⟩ | ⟨c15, hf⟩
        · refine sb_if_ne hm dX13_parametersIn_53 (tgt := 58) rfl (fun _ => ?_) (fun z => absurd c15 z)
          refine mx_S.pu (pc2 := 60) (lv2 := [(6, .int u12.1), (0, .ref l0), (3, .int l3), (4, .int l4), (5, .int l5)]) (st2 := [.int l4]) hm dX13_parametersIn_58 rfl ?_
          refine mx_S.pu (pc2 := 62) (lv2 := [(6, .int u12.1), (0, .ref l0), (3, .int l3), (4, .int l4), (5, .int l5)]) (st2 := [.int u12.1, .int l4]) hm dX13_parametersIn_60 rfl ?_
          replace hf := xl_el hf; obtain ⟨v13, e_v13, hf⟩ := hf
          refine mx_S.pu (pc2 := 63) (lv2 := [(6, .int u12.1), (0, .ref l0), (3, .int l3), (4, .int l4), (5, .int l5)]) (st2 := [.int v13]) hm dX13_parametersIn_62 (by rw [← e_v13]; rfl) ?_
          clear e_v13
          refine mx_S.pu (pc2 := 65) (lv2 := [(4, .int v13), (6, .int u12.1), (0, .ref l0), (3, .int l3), (5, .int l5)]) (st2 := []) hm dX13_parametersIn_63 rfl ?_
          replace hf := xl_el hf; obtain ⟨v14, e_v14, hf⟩ := hf
          refine mx_S.pu (pc2 := 68) (lv2 := [(5, .int v14), (4, .int v13), (6, .int u12.1), (0, .ref l0), (3, .int l3)]) (st2 := []) hm dX13_parametersIn_65 (by rw [← e_v14]; rfl) ?_
          clear e_v14
          refine mx_S.pu (pc2 := 27) (lv2 := [(5, .int v14), (4, .int v13), (6, .int u12.1), (0, .ref l0), (3, .int l3)]) (st2 := []) hm dX13_parametersIn_68 rfl ?_
          refine mx_S.ext [(0, .ref l0), (3, .int l3), (4, .int v13), (5, .int v14)] (mx_sub_pos [3, 4, 1, 0] rfl (show ([5, 4, 6, 0, 3] : List Nat).Nodup by decide)) ?_
          exact ih l0 l3 v13 v14 u12.2 _ hf
        · refine sb_if_ne hm dX13_parametersIn_53 (tgt := 58) rfl (fun z => absurd z c15) (fun _ => ?_)
          refine sx_ic (v := (-1)) hm dX13_parametersIn_56 (by decide) ?_
          cases hf
          exact sx_ire hm dX13_parametersIn_57 rfl rfl
set_option maxHeartbeats 4000000 in
set_option maxRecDepth 20000 in
theorem f_X13_parametersIn_ok (X : Nat × (Nat → Int32)) {F L : Nat} (hF : 5 ≤ F) (hL : 111 ≤ L) (nn : Nat) (a0 : Nat) (a1 : Int32) (a2 : Int32) (h : mx_H) {r : (Int32 × mx_H)} (hf : f_X13_parametersIn nn a0 a1 a2 h = some r) : mx_R X F L 496 [.ref a0, .int a1, .int a2] h (some (.int r.1), r.2, 0, 0) := by
  have hm : mx_mt 496 = some (yX13_parametersIn, cX13_parametersIn, 7, (some .int)) := mt_X13_parametersIn
  show mx_S X F L 496 0 [(0, .ref a0), (1, .int a1), (2, .int a2)] [] h 0 0 (some (.int r.1), r.2, 0, 0)
  unfold f_X13_parametersIn at hf
  refine mx_S.pu (pc2 := 1) (lv2 := [(0, .ref a0), (1, .int a1), (2, .int a2)]) (st2 := [.int a1]) hm dX13_parametersIn_0 rfl ?_
  refine mx_S.pu (pc2 := 2) (lv2 := [(0, .ref a0), (1, .int a1), (2, .int a2)]) (st2 := [.int a2, .int a1]) hm dX13_parametersIn_1 rfl ?_
  replace hf := xl_el hf; obtain ⟨v18, e_v18, hf⟩ := hf
  refine mx_S.pu (pc2 := 3) (lv2 := [(0, .ref a0), (1, .int a1), (2, .int a2)]) (st2 := [.int v18]) hm dX13_parametersIn_2 (by rw [← e_v18]; rfl) ?_
  clear e_v18
  refine mx_S.pu (pc2 := 4) (lv2 := [(3, .int v18), (0, .ref a0), (1, .int a1), (2, .int a2)]) (st2 := []) hm dX13_parametersIn_3 rfl ?_
  refine mx_S.pu (pc2 := 5) (lv2 := [(3, .int v18), (0, .ref a0), (1, .int a1), (2, .int a2)]) (st2 := [.int a2]) hm dX13_parametersIn_4 rfl ?_
  refine sx_ic (v := 3) hm dX13_parametersIn_5 (by decide) ?_
  rcases mx_if_el hf with ⟨c22, hf⟩ | ⟨c22, hf⟩
  · refine sb_ic_lt hm dX13_parametersIn_6 (tgt := 17) rfl (fun _ => ?_) (fun z => absurd c22 z)
    refine sx_ic (v := (-1)) hm dX13_parametersIn_17 (by decide) ?_
    cases hf
    exact sx_ire hm dX13_parametersIn_18 rfl rfl
  · refine sb_ic_lt hm dX13_parametersIn_6 (tgt := 17) rfl (fun z => absurd z c22) (fun _ => ?_)
    refine mx_S.pu (pc2 := 10) (lv2 := [(3, .int v18), (0, .ref a0), (1, .int a1), (2, .int a2)]) (st2 := [.ref a0]) hm dX13_parametersIn_9 rfl ?_
    refine mx_S.pu (pc2 := 11) (lv2 := [(3, .int v18), (0, .ref a0), (1, .int a1), (2, .int a2)]) (st2 := [.int a1, .ref a0]) hm dX13_parametersIn_10 rfl ?_
    replace hf := mx_sv_el hf; obtain ⟨v19, e_v19, hf⟩ := hf
    refine sx_ald hm dX13_parametersIn_11 e_v19 ?_
    clear e_v19
    refine sx_bi (v := 40) hm dX13_parametersIn_12 (by decide) ?_
    rcases mx_if_el hf with ⟨c21, hf⟩ | ⟨c21, hf⟩
    · refine sb_ic_eq hm dX13_parametersIn_14 (tgt := 19) rfl (fun _ => ?_) (fun z => absurd c21 z)
      refine mx_S.pu (pc2 := 20) (lv2 := [(3, .int v18), (0, .ref a0), (1, .int a1), (2, .int a2)]) (st2 := [.int a1]) hm dX13_parametersIn_19 rfl ?_
      refine sx_ic (v := 1) hm dX13_parametersIn_20 (by decide) ?_
      replace hf := xl_el hf; obtain ⟨v20, e_v20, hf⟩ := hf
      refine mx_S.pu (pc2 := 22) (lv2 := [(3, .int v18), (0, .ref a0), (1, .int a1), (2, .int a2)]) (st2 := [.int v20]) hm dX13_parametersIn_21 (by rw [← e_v20]; rfl) ?_
      clear e_v20
      refine mx_S.pu (pc2 := 24) (lv2 := [(4, .int v20), (3, .int v18), (0, .ref a0), (1, .int a1), (2, .int a2)]) (st2 := []) hm dX13_parametersIn_22 rfl ?_
      refine sx_ic (v := 0) hm dX13_parametersIn_24 (by decide) ?_
      refine mx_S.pu (pc2 := 27) (lv2 := [(5, .int 0), (4, .int v20), (3, .int v18), (0, .ref a0), (1, .int a1), (2, .int a2)]) (st2 := []) hm dX13_parametersIn_25 rfl ?_
      refine mx_S.ext [(0, .ref a0), (3, .int v18), (4, .int v20), (5, .int 0)] (mx_sub_pos [3, 2, 1, 0] rfl (show ([5, 4, 3, 0, 1, 2] : List Nat).Nodup by decide)) ?_
      exact w_X13_parametersIn_27_ok X hF hL nn nn a0 v18 v20 0 h _ hf
    · refine sb_ic_eq hm dX13_parametersIn_14 (tgt := 19) rfl (fun z => absurd z c21) (fun _ => ?_)
      refine sx_ic (v := (-1)) hm dX13_parametersIn_17 (by decide) ?_
      cases hf
      exact sx_ire hm dX13_parametersIn_18 rfl rfl
set_option maxHeartbeats 4000000 in
set_option maxRecDepth 20000 in
theorem f_X13_isMethodKind_ok (X : Nat × (Nat → Int32)) {F L : Nat} (hF : 6 ≤ F) (hL : 137 ≤ L) (nn : Nat) (a0 : Nat) (a1 : Int32) (a2 : Int32) (h : mx_H) {r : (Int32 × mx_H)} (hf : f_X13_isMethodKind nn a0 a1 a2 h = some r) : mx_R X F L 497 [.ref a0, .int a1, .int a2] h (some (.int r.1), r.2, 0, 0) := by
  have hm : mx_mt 497 = some (yX13_isMethodKind, cX13_isMethodKind, 4, (some .boolean)) := mt_X13_isMethodKind
  show mx_S X F L 497 0 [(0, .ref a0), (1, .int a1), (2, .int a2)] [] h 0 0 (some (.int r.1), r.2, 0, 0)
  unfold f_X13_isMethodKind at hf
  refine mx_S.pu (pc2 := 1) (lv2 := [(0, .ref a0), (1, .int a1), (2, .int a2)]) (st2 := [.ref a0]) hm dX13_isMethodKind_0 rfl ?_
  refine mx_S.pu (pc2 := 2) (lv2 := [(0, .ref a0), (1, .int a1), (2, .int a2)]) (st2 := [.int a1, .ref a0]) hm dX13_isMethodKind_1 rfl ?_
  refine mx_S.pu (pc2 := 3) (lv2 := [(0, .ref a0), (1, .int a1), (2, .int a2)]) (st2 := [.int a2, .int a1, .ref a0]) hm dX13_isMethodKind_2 rfl ?_
  replace hf := mx_sv_el hf; obtain ⟨u1, e_u1, hf⟩ := hf
  refine sx_cs hm dX13_isMethodKind_3 rs_RX13_785 mt_X13_parametersIn [.ref a0, .int a1, .int a2] [] rfl rfl (Nat.le_of_ble_eq_true rfl) (Nat.le_of_ble_eq_true rfl) (by omega) (by omega) (f_X13_parametersIn_ok X (by omega) (by omega) nn a0 a1 a2 h e_u1) ?_
  clear e_u1
  show mx_S X F L 497 6 [(0, .ref a0), (1, .int a1), (2, .int a2)] [.int u1.1] u1.2 0 0 (some (.int r.1), r.2, 0, 0)
  refine mx_S.pu (pc2 := 7) (lv2 := [(3, .int u1.1), (0, .ref a0), (1, .int a1), (2, .int a2)]) (st2 := []) hm dX13_isMethodKind_6 rfl ?_
  refine mx_S.pu (pc2 := 8) (lv2 := [(3, .int u1.1), (0, .ref a0), (1, .int a1), (2, .int a2)]) (st2 := [.int u1.1]) hm dX13_isMethodKind_7 rfl ?_
  rcases mx_if_el hf with ⟨c3, hf⟩ | ⟨c3, hf⟩
  · refine sb_if_lt hm dX13_isMethodKind_8 (tgt := 21) rfl (fun _ => ?_) (fun z => absurd c3 z)
    refine sx_ic (v := 0) hm dX13_isMethodKind_21 (by decide) ?_
    cases hf
    exact sx_ire hm dX13_isMethodKind_22 rfl (by decide)
  · refine sb_if_lt hm dX13_isMethodKind_8 (tgt := 21) rfl (fun z => absurd z c3) (fun _ => ?_)
    refine mx_S.pu (pc2 := 12) (lv2 := [(3, .int u1.1), (0, .ref a0), (1, .int a1), (2, .int a2)]) (st2 := [.int u1.1]) hm dX13_isMethodKind_11 rfl ?_
    refine sx_bi (v := 6) hm dX13_isMethodKind_12 (by decide) ?_
    rcases mx_if_el hf with ⟨c2, hf⟩ | ⟨c2, hf⟩
    · refine sb_ic_gt hm dX13_isMethodKind_14 (tgt := 21) rfl (fun _ => ?_) (fun z => absurd c2 z)
      refine sx_ic (v := 0) hm dX13_isMethodKind_21 (by decide) ?_
      cases hf
      exact sx_ire hm dX13_isMethodKind_22 rfl (by decide)
    · refine sb_ic_gt hm dX13_isMethodKind_14 (tgt := 21) rfl (fun z => absurd z c2) (fun _ => ?_)
      refine sx_ic (v := 1) hm dX13_isMethodKind_17 (by decide) ?_
      refine mx_S.pu (pc2 := 22) (lv2 := [(3, .int u1.1), (0, .ref a0), (1, .int a1), (2, .int a2)]) (st2 := [.int 1]) hm dX13_isMethodKind_18 rfl ?_
      cases hf
      exact sx_ire hm dX13_isMethodKind_22 rfl (by decide)
set_option maxHeartbeats 4000000 in
set_option maxRecDepth 20000 in
theorem f_X13_isText_ok (X : Nat × (Nat → Int32)) {F L : Nat} (hF : 7 ≤ F) (hL : 160 ≤ L) (nn : Nat) (a0 : Nat) (a1 : Int32) (a2 : Int32) (h : mx_H) {r : (Int32 × mx_H)} (hf : f_X13_isText nn a0 a1 a2 h = some r) : mx_R X F L 499 [.ref a0, .int a1, .int a2] h (some (.int r.1), r.2, 0, 0) := by
  have hm : mx_mt 499 = some (yX13_isText, cX13_isText, 5, (some .boolean)) := mt_X13_isText
  show mx_S X F L 499 0 [(0, .ref a0), (1, .int a1), (2, .int a2)] [] h 0 0 (some (.int r.1), r.2, 0, 0)
  unfold f_X13_isText at hf
  refine mx_S.pu (pc2 := 1) (lv2 := [(0, .ref a0), (1, .int a1), (2, .int a2)]) (st2 := [.ref a0]) hm dX13_isText_0 rfl ?_
  refine mx_S.pu (pc2 := 2) (lv2 := [(0, .ref a0), (1, .int a1), (2, .int a2)]) (st2 := [.ref a0, .ref a0]) hm dX13_isText_1 rfl ?_
  replace hf := mx_sv_el hf; obtain ⟨v1, e_v1, hf⟩ := hf
  refine sx_get hm dX13_isText_2 rs_RX13_788 (xgi_el e_v1) ?_
  clear e_v1
  refine mx_S.pu (pc2 := 6) (lv2 := [(0, .ref a0), (1, .int a1), (2, .int a2)]) (st2 := [.int a1, .int v1, .ref a0]) hm dX13_isText_5 rfl ?_
  replace hf := mx_gd_el hf; obtain ⟨c2, hf⟩ := hf
  replace hf := mx_sv_el hf; obtain ⟨u3, e_u3, hf⟩ := hf
  refine sx_cv hm dX13_isText_6 rs_RX13_791 mt_X13_constantOf [.int v1, .int a1] [] (b := a0) (ci := 13) rfl rfl rfl c2 (Nat.le_of_ble_eq_true rfl) (Nat.le_of_ble_eq_true rfl) (by omega) (by omega) (f_X13_constantOf_ok X (by omega) (by omega) nn a0 v1 a1 h e_u3) ?_
  clear e_u3
  show mx_S X F L 499 9 [(0, .ref a0), (1, .int a1), (2, .int a2)] [.int u3.1] u3.2 0 0 (some (.int r.1), r.2, 0, 0)
  refine mx_S.pu (pc2 := 10) (lv2 := [(3, .int u3.1), (0, .ref a0), (1, .int a1), (2, .int a2)]) (st2 := []) hm dX13_isText_9 rfl ?_
  refine mx_S.pu (pc2 := 11) (lv2 := [(3, .int u3.1), (0, .ref a0), (1, .int a1), (2, .int a2)]) (st2 := [.int u3.1]) hm dX13_isText_10 rfl ?_
  rcases mx_if_el hf with ⟨c34, hf⟩ | ⟨c34, hf⟩
  · refine sb_if_lt hm dX13_isText_11 (tgt := 24) rfl (fun _ => ?_) (fun z => absurd c34 z)
    refine sx_ic (v := 0) hm dX13_isText_24 (by decide) ?_
    cases hf
    exact sx_ire hm dX13_isText_25 rfl (by decide)
  · refine sb_if_lt hm dX13_isText_11 (tgt := 24) rfl (fun z => absurd z c34) (fun _ => ?_)
    refine mx_S.pu (pc2 := 15) (lv2 := [(3, .int u3.1), (0, .ref a0), (1, .int a1), (2, .int a2)]) (st2 := [.ref a0]) hm dX13_isText_14 rfl ?_
    replace hf := mx_sv_el hf; obtain ⟨v4, e_v4, hf⟩ := hf
    refine sx_get hm dX13_isText_15 rs_RX13_245 (xgr_el e_v4) ?_
    clear e_v4
    refine mx_S.pu (pc2 := 19) (lv2 := [(3, .int u3.1), (0, .ref a0), (1, .int a1), (2, .int a2)]) (st2 := [.int u3.1, .ref v4]) hm dX13_isText_18 rfl ?_
    replace hf := mx_sv_el hf; obtain ⟨v5, e_v5, hf⟩ := hf
    refine sx_ald hm dX13_isText_19 e_v5 ?_
    clear e_v5
    refine sx_ic (v := 1) hm dX13_isText_20 (by decide) ?_
    rcases mx_if_el hf with ⟨c33, hf⟩ | ⟨c33, hf⟩
    · refine sb_ic_eq hm dX13_isText_21 (tgt := 26) rfl (fun _ => ?_) (fun z => absurd c33 z)
      refine mx_S.pu (pc2 := 27) (lv2 := [(3, .int u3.1), (0, .ref a0), (1, .int a1), (2, .int a2)]) (st2 := [.ref a0]) hm dX13_isText_26 rfl ?_
      replace hf := mx_sv_el hf; obtain ⟨v6, e_v6, hf⟩ := hf
      refine sx_get hm dX13_isText_27 rs_RX13_245 (xgr_el e_v6) ?_
      clear e_v6
      refine mx_S.pu (pc2 := 31) (lv2 := [(3, .int u3.1), (0, .ref a0), (1, .int a1), (2, .int a2)]) (st2 := [.int u3.1, .ref v6]) hm dX13_isText_30 rfl ?_
      refine sx_ic (v := 1) hm dX13_isText_31 (by decide) ?_
      replace hf := xl_el hf; obtain ⟨v7, e_v7, hf⟩ := hf
      refine mx_S.pu (pc2 := 33) (lv2 := [(3, .int u3.1), (0, .ref a0), (1, .int a1), (2, .int a2)]) (st2 := [.int v7, .ref v6]) hm dX13_isText_32 (by rw [← e_v7]; rfl) ?_
      clear e_v7
      replace hf := mx_sv_el hf; obtain ⟨v8, e_v8, hf⟩ := hf
      refine sx_ald hm dX13_isText_33 e_v8 ?_
      clear e_v8
      refine mx_S.pu (pc2 := 36) (lv2 := [(4, .int v8), (3, .int u3.1), (0, .ref a0), (1, .int a1), (2, .int a2)]) (st2 := []) hm dX13_isText_34 rfl ?_
      refine mx_S.pu (pc2 := 37) (lv2 := [(4, .int v8), (3, .int u3.1), (0, .ref a0), (1, .int a1), (2, .int a2)]) (st2 := [.int a2]) hm dX13_isText_36 rfl ?_
      rcases mx_if_el hf with ⟨n_0, hf⟩ | ⟨n_0, hf⟩
      · refine sx_tin hm dX13_isText_37 (by rw [n_0]; decide) (by rw [n_0]; decide) (off := 31) (by rw [n_0]; rfl) (tgt := 68) rfl ?_
        clear n_0
        refine mx_S.pu (pc2 := 69) (lv2 := [(4, .int v8), (3, .int u3.1), (0, .ref a0), (1, .int a1), (2, .int a2)]) (st2 := [.ref a0]) hm dX13_isText_68 rfl ?_
        replace hf := mx_sv_el hf; obtain ⟨v13, e_v13, hf⟩ := hf
        refine sx_get hm dX13_isText_69 rs_RX13_245 (xgr_el e_v13) ?_
        clear e_v13
        refine mx_S.pu (pc2 := 73) (lv2 := [(4, .int v8), (3, .int u3.1), (0, .ref a0), (1, .int a1), (2, .int a2)]) (st2 := [.int u3.1, .ref v13]) hm dX13_isText_72 rfl ?_
        refine sx_ic (v := 2) hm dX13_isText_73 (by decide) ?_
        replace hf := xl_el hf; obtain ⟨v14, e_v14, hf⟩ := hf
        refine mx_S.pu (pc2 := 75) (lv2 := [(4, .int v8), (3, .int u3.1), (0, .ref a0), (1, .int a1), (2, .int a2)]) (st2 := [.int v14, .ref v13]) hm dX13_isText_74 (by rw [← e_v14]; rfl) ?_
        clear e_v14
        refine mx_S.pu (pc2 := 77) (lv2 := [(4, .int v8), (3, .int u3.1), (0, .ref a0), (1, .int a1), (2, .int a2)]) (st2 := [.int v8, .int v14, .ref v13]) hm dX13_isText_75 rfl ?_
        replace hf := mx_sv_el hf; obtain ⟨u15, e_u15, hf⟩ := hf
        refine sx_cs hm dX13_isText_77 rs_RX13_774 mt_X13_isName [.ref v13, .int v14, .int v8] [] rfl rfl (Nat.le_of_ble_eq_true rfl) (Nat.le_of_ble_eq_true rfl) (by omega) (by omega) (f_X13_isName_ok X (by omega) (by omega) nn v13 v14 v8 u3.2 e_u15) ?_
        clear e_u15
        show mx_S X F L 499 80 [(4, .int v8), (3, .int u3.1), (0, .ref a0), (1, .int a1), (2, .int a2)] [.int u15.1] u15.2 0 0 (some (.int r.1), r.2, 0, 0)
        replace hf := mx_gd_el hf; obtain ⟨c16, hf⟩ := hf
        cases hf
        exact sx_ire hm dX13_isText_80 rfl (xbq_ok c16).1
      · rcases mx_if_el hf with ⟨n_1, hf⟩ | ⟨n_1, hf⟩
        · refine sx_tin hm dX13_isText_37 (by rw [n_1]; decide) (by rw [n_1]; decide) (off := 44) (by rw [n_1]; rfl) (tgt := 81) rfl ?_
          clear n_0 n_1
          refine mx_S.pu (pc2 := 82) (lv2 := [(4, .int v8), (3, .int u3.1), (0, .ref a0), (1, .int a1), (2, .int a2)]) (st2 := [.ref a0]) hm dX13_isText_81 rfl ?_
          replace hf := mx_sv_el hf; obtain ⟨v17, e_v17, hf⟩ := hf
          refine sx_get hm dX13_isText_82 rs_RX13_245 (xgr_el e_v17) ?_
          clear e_v17
          refine mx_S.pu (pc2 := 86) (lv2 := [(4, .int v8), (3, .int u3.1), (0, .ref a0), (1, .int a1), (2, .int a2)]) (st2 := [.int u3.1, .ref v17]) hm dX13_isText_85 rfl ?_
          refine sx_ic (v := 2) hm dX13_isText_86 (by decide) ?_
          replace hf := xl_el hf; obtain ⟨v18, e_v18, hf⟩ := hf
          refine mx_S.pu (pc2 := 88) (lv2 := [(4, .int v8), (3, .int u3.1), (0, .ref a0), (1, .int a1), (2, .int a2)]) (st2 := [.int v18, .ref v17]) hm dX13_isText_87 (by rw [← e_v18]; rfl) ?_
          clear e_v18
          refine mx_S.pu (pc2 := 90) (lv2 := [(4, .int v8), (3, .int u3.1), (0, .ref a0), (1, .int a1), (2, .int a2)]) (st2 := [.int v8, .int v18, .ref v17]) hm dX13_isText_88 rfl ?_
          replace hf := mx_sv_el hf; obtain ⟨u19, e_u19, hf⟩ := hf
          refine sx_cs hm dX13_isText_90 rs_RX13_782 mt_X13_isFieldKind [.ref v17, .int v18, .int v8] [] rfl rfl (Nat.le_of_ble_eq_true rfl) (Nat.le_of_ble_eq_true rfl) (by omega) (by omega) (f_X13_isFieldKind_ok X (by omega) (by omega) nn v17 v18 v8 u3.2 e_u19) ?_
          clear e_u19
          show mx_S X F L 499 93 [(4, .int v8), (3, .int u3.1), (0, .ref a0), (1, .int a1), (2, .int a2)] [.int u19.1] u19.2 0 0 (some (.int r.1), r.2, 0, 0)
          replace hf := mx_gd_el hf; obtain ⟨c20, hf⟩ := hf
          cases hf
          exact sx_ire hm dX13_isText_93 rfl (xbq_ok c20).1
        · rcases mx_if_el hf with ⟨n_2, hf⟩ | ⟨n_2, hf⟩
          · refine sx_tin hm dX13_isText_37 (by rw [n_2]; decide) (by rw [n_2]; decide) (off := 57) (by rw [n_2]; rfl) (tgt := 94) rfl ?_
            clear n_0 n_1 n_2
            refine mx_S.pu (pc2 := 95) (lv2 := [(4, .int v8), (3, .int u3.1), (0, .ref a0), (1, .int a1), (2, .int a2)]) (st2 := [.ref a0]) hm dX13_isText_94 rfl ?_
            replace hf := mx_sv_el hf; obtain ⟨v21, e_v21, hf⟩ := hf
            refine sx_get hm dX13_isText_95 rs_RX13_245 (xgr_el e_v21) ?_
            clear e_v21
            refine mx_S.pu (pc2 := 99) (lv2 := [(4, .int v8), (3, .int u3.1), (0, .ref a0), (1, .int a1), (2, .int a2)]) (st2 := [.int u3.1, .ref v21]) hm dX13_isText_98 rfl ?_
            refine sx_ic (v := 2) hm dX13_isText_99 (by decide) ?_
            replace hf := xl_el hf; obtain ⟨v22, e_v22, hf⟩ := hf
            refine mx_S.pu (pc2 := 101) (lv2 := [(4, .int v8), (3, .int u3.1), (0, .ref a0), (1, .int a1), (2, .int a2)]) (st2 := [.int v22, .ref v21]) hm dX13_isText_100 (by rw [← e_v22]; rfl) ?_
            clear e_v22
            refine mx_S.pu (pc2 := 103) (lv2 := [(4, .int v8), (3, .int u3.1), (0, .ref a0), (1, .int a1), (2, .int a2)]) (st2 := [.int v8, .int v22, .ref v21]) hm dX13_isText_101 rfl ?_
            replace hf := mx_sv_el hf; obtain ⟨u23, e_u23, hf⟩ := hf
            refine sx_cs hm dX13_isText_103 rs_RX13_794 mt_X13_isMethodKind [.ref v21, .int v22, .int v8] [] rfl rfl (Nat.le_of_ble_eq_true rfl) (Nat.le_of_ble_eq_true rfl) (by omega) (by omega) (f_X13_isMethodKind_ok X (by omega) (by omega) nn v21 v22 v8 u3.2 e_u23) ?_
            clear e_u23
            show mx_S X F L 499 106 [(4, .int v8), (3, .int u3.1), (0, .ref a0), (1, .int a1), (2, .int a2)] [.int u23.1] u23.2 0 0 (some (.int r.1), r.2, 0, 0)
            replace hf := mx_gd_el hf; obtain ⟨c24, hf⟩ := hf
            cases hf
            exact sx_ire hm dX13_isText_106 rfl (xbq_ok c24).1
          · rcases mx_if_el hf with ⟨n_3, hf⟩ | ⟨n_3, hf⟩
            · refine sx_tin hm dX13_isText_37 (by rw [n_3]; decide) (by rw [n_3]; decide) (off := 70) (by rw [n_3]; rfl) (tgt := 107) rfl ?_
              clear n_0 n_1 n_2 n_3
              refine mx_S.pu (pc2 := 108) (lv2 := [(4, .int v8), (3, .int u3.1), (0, .ref a0), (1, .int a1), (2, .int a2)]) (st2 := [.ref a0]) hm dX13_isText_107 rfl ?_
              replace hf := mx_sv_el hf; obtain ⟨v25, e_v25, hf⟩ := hf
              refine sx_get hm dX13_isText_108 rs_RX13_245 (xgr_el e_v25) ?_
              clear e_v25
              refine mx_S.pu (pc2 := 112) (lv2 := [(4, .int v8), (3, .int u3.1), (0, .ref a0), (1, .int a1), (2, .int a2)]) (st2 := [.int u3.1, .ref v25]) hm dX13_isText_111 rfl ?_
              refine sx_ic (v := 2) hm dX13_isText_112 (by decide) ?_
              replace hf := xl_el hf; obtain ⟨v26, e_v26, hf⟩ := hf
              refine mx_S.pu (pc2 := 114) (lv2 := [(4, .int v8), (3, .int u3.1), (0, .ref a0), (1, .int a1), (2, .int a2)]) (st2 := [.int v26, .ref v25]) hm dX13_isText_113 (by rw [← e_v26]; rfl) ?_
              clear e_v26
              refine mx_S.pu (pc2 := 116) (lv2 := [(4, .int v8), (3, .int u3.1), (0, .ref a0), (1, .int a1), (2, .int a2)]) (st2 := [.int v8, .int v26, .ref v25]) hm dX13_isText_114 rfl ?_
              replace hf := mx_sv_el hf; obtain ⟨u27, e_u27, hf⟩ := hf
              refine sx_cs hm dX13_isText_116 rs_RX13_782 mt_X13_isFieldKind [.ref v25, .int v26, .int v8] [] rfl rfl (Nat.le_of_ble_eq_true rfl) (Nat.le_of_ble_eq_true rfl) (by omega) (by omega) (f_X13_isFieldKind_ok X (by omega) (by omega) nn v25 v26 v8 u3.2 e_u27) ?_
              clear e_u27
              show mx_S X F L 499 119 [(4, .int v8), (3, .int u3.1), (0, .ref a0), (1, .int a1), (2, .int a2)] [.int u27.1] u27.2 0 0 (some (.int r.1), r.2, 0, 0)
              rcases mx_if_el hf with ⟨c32, hf⟩ | ⟨c32, hf⟩
              · refine sb_if_ne hm dX13_isText_119 (tgt := 137) rfl (fun _ => ?_) (fun z => absurd c32 z)
                refine sx_ic (v := 1) hm dX13_isText_137 (by decide) ?_
                refine mx_S.pu (pc2 := 142) (lv2 := [(4, .int v8), (3, .int u3.1), (0, .ref a0), (1, .int a1), (2, .int a2)]) (st2 := [.int 1]) hm dX13_isText_138 rfl ?_
                cases hf
                exact sx_ire hm dX13_isText_142 rfl (by decide)
              · refine sb_if_ne hm dX13_isText_119 (tgt := 137) rfl (fun z => absurd z c32) (fun _ => ?_)
                refine mx_S.pu (pc2 := 123) (lv2 := [(4, .int v8), (3, .int u3.1), (0, .ref a0), (1, .int a1), (2, .int a2)]) (st2 := [.ref a0]) hm dX13_isText_122 rfl ?_
                replace hf := mx_sv_el hf; obtain ⟨v28, e_v28, hf⟩ := hf
                refine sx_get hm dX13_isText_123 rs_RX13_245 (xgr_el e_v28) ?_
                clear e_v28
                refine mx_S.pu (pc2 := 127) (lv2 := [(4, .int v8), (3, .int u3.1), (0, .ref a0), (1, .int a1), (2, .int a2)]) (st2 := [.int u3.1, .ref v28]) hm dX13_isText_126 rfl ?_
                refine sx_ic (v := 2) hm dX13_isText_127 (by decide) ?_
                replace hf := xl_el hf; obtain ⟨v29, e_v29, hf⟩ := hf
                refine mx_S.pu (pc2 := 129) (lv2 := [(4, .int v8), (3, .int u3.1), (0, .ref a0), (1, .int a1), (2, .int a2)]) (st2 := [.int v29, .ref v28]) hm dX13_isText_128 (by rw [← e_v29]; rfl) ?_
                clear e_v29
                refine mx_S.pu (pc2 := 131) (lv2 := [(4, .int v8), (3, .int u3.1), (0, .ref a0), (1, .int a1), (2, .int a2)]) (st2 := [.int v8, .int v29, .ref v28]) hm dX13_isText_129 rfl ?_
                replace hf := mx_sv_el hf; obtain ⟨u30, e_u30, hf⟩ := hf
                refine sx_cs hm dX13_isText_131 rs_RX13_794 mt_X13_isMethodKind [.ref v28, .int v29, .int v8] [] rfl rfl (Nat.le_of_ble_eq_true rfl) (Nat.le_of_ble_eq_true rfl) (by omega) (by omega) (f_X13_isMethodKind_ok X (by omega) (by omega) nn v28 v29 v8 u27.2 e_u30) ?_
                clear e_u30
                show mx_S X F L 499 134 [(4, .int v8), (3, .int u3.1), (0, .ref a0), (1, .int a1), (2, .int a2)] [.int u30.1] u30.2 0 0 (some (.int r.1), r.2, 0, 0)
                rcases mx_if_el hf with ⟨c31, hf⟩ | ⟨c31, hf⟩
                · refine sb_if_eq hm dX13_isText_134 (tgt := 141) rfl (fun _ => ?_) (fun z => absurd c31 z)
                  refine sx_ic (v := 0) hm dX13_isText_141 (by decide) ?_
                  cases hf
                  exact sx_ire hm dX13_isText_142 rfl (by decide)
                · refine sb_if_eq hm dX13_isText_134 (tgt := 141) rfl (fun z => absurd z c31) (fun _ => ?_)
                  refine sx_ic (v := 1) hm dX13_isText_137 (by decide) ?_
                  refine mx_S.pu (pc2 := 142) (lv2 := [(4, .int v8), (3, .int u3.1), (0, .ref a0), (1, .int a1), (2, .int a2)]) (st2 := [.int 1]) hm dX13_isText_138 rfl ?_
                  cases hf
                  exact sx_ire hm dX13_isText_142 rfl (by decide)
            · rcases (show (a2.toInt < 0 ∨ 3 < a2.toInt) ∨ a2.toInt = 0 ∨ a2.toInt = 1 ∨ a2.toInt = 2 ∨ a2.toInt = 3 by omega) with z0 | z0 | z0 | z0 | z0
              · refine sx_tout hm dX13_isText_37 z0 (tgt := 143) rfl ?_
                refine mx_S.pu (pc2 := 144) (lv2 := [(4, .int v8), (3, .int u3.1), (0, .ref a0), (1, .int a1), (2, .int a2)]) (st2 := [.ref a0]) hm dX13_isText_143 rfl ?_
                replace hf := mx_sv_el hf; obtain ⟨v9, e_v9, hf⟩ := hf
                refine sx_get hm dX13_isText_144 rs_RX13_245 (xgr_el e_v9) ?_
                clear e_v9
                refine mx_S.pu (pc2 := 148) (lv2 := [(4, .int v8), (3, .int u3.1), (0, .ref a0), (1, .int a1), (2, .int a2)]) (st2 := [.int u3.1, .ref v9]) hm dX13_isText_147 rfl ?_
                refine sx_ic (v := 2) hm dX13_isText_148 (by decide) ?_
                replace hf := xl_el hf; obtain ⟨v10, e_v10, hf⟩ := hf
                refine mx_S.pu (pc2 := 150) (lv2 := [(4, .int v8), (3, .int u3.1), (0, .ref a0), (1, .int a1), (2, .int a2)]) (st2 := [.int v10, .ref v9]) hm dX13_isText_149 (by rw [← e_v10]; rfl) ?_
                clear e_v10
                refine mx_S.pu (pc2 := 152) (lv2 := [(4, .int v8), (3, .int u3.1), (0, .ref a0), (1, .int a1), (2, .int a2)]) (st2 := [.int v8, .int v10, .ref v9]) hm dX13_isText_150 rfl ?_
                replace hf := mx_sv_el hf; obtain ⟨u11, e_u11, hf⟩ := hf
                refine sx_cs hm dX13_isText_152 rs_RX13_797 mt_X13_isClassText [.ref v9, .int v10, .int v8] [] rfl rfl (Nat.le_of_ble_eq_true rfl) (Nat.le_of_ble_eq_true rfl) (by omega) (by omega) (f_X13_isClassText_ok X (by omega) (by omega) nn v9 v10 v8 u3.2 e_u11) ?_
                clear e_u11
                show mx_S X F L 499 155 [(4, .int v8), (3, .int u3.1), (0, .ref a0), (1, .int a1), (2, .int a2)] [.int u11.1] u11.2 0 0 (some (.int r.1), r.2, 0, 0)
                replace hf := mx_gd_el hf; obtain ⟨c12, hf⟩ := hf
                cases hf
                exact sx_ire hm dX13_isText_155 rfl (xbq_ok c12).1
              · exact absurd (Int32.toInt_inj.mp (z0.trans (by decide : (0 : Int) = (0 : Int32).toInt))) n_0
              · exact absurd (Int32.toInt_inj.mp (z0.trans (by decide : (1 : Int) = (1 : Int32).toInt))) n_1
              · exact absurd (Int32.toInt_inj.mp (z0.trans (by decide : (2 : Int) = (2 : Int32).toInt))) n_2
              · exact absurd (Int32.toInt_inj.mp (z0.trans (by decide : (3 : Int) = (3 : Int32).toInt))) n_3
    · refine sb_ic_eq hm dX13_isText_21 (tgt := 26) rfl (fun z => absurd z c33) (fun _ => ?_)
      refine sx_ic (v := 0) hm dX13_isText_24 (by decide) ?_
      cases hf
      exact sx_ire hm dX13_isText_25 rfl (by decide)

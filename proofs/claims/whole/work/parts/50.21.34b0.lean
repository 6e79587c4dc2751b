set_option maxHeartbeats 4000000 in
set_option maxRecDepth 20000 in
theorem w_X13_frame_192_ok (X : Nat × (Nat → Int32)) {F L : Nat} (hF : 0 ≤ F) (hL : 0 ≤ L) (nn : Nat) : ∀ (k : Nat) (l0 : Nat) (l3 : Int32) (l4 : Int32) (h : mx_H) (r : mx_H), w_X13_frame_192 nn k l0 l3 l4 h = some r → mx_S X F L 463 192 [(0, .ref l0), (3, .int l3), (4, .int l4)] [] h 0 0 (none, r, 0, 0) := by
  have hm : mx_mt 463 = some (yX13_frame, cX13_frame, 5, none) := mt_X13_frame
  intro k
  induction k with
  | zero => intro l0 l3 l4 h r hf; cases hf
  | succ k ih =>
    intro l0 l3 l4 h r hf
    unfold w_X13_frame_192 at hf
    refine mx_S.pu (pc2 := 194) (lv2 := [(0, .ref l0), (3, .int l3), (4, .int l4)]) (st2 := [.int l4]) hm dX13_frame_192 rfl ?_
    refine mx_S.pu (pc2 := 195) (lv2 := [(0, .ref l0), (3, .int l3), (4, .int l4)]) (st2 := [.ref l0, .int l4]) hm dX13_frame_194 rfl ?_
    replace hf := mx_sv_el hf; obtain ⟨v1, e_v1, hf⟩ := hf
    refine sx_get hm dX13_frame_195 rs_RX13_629 (xgi_el e_v1) ?_
    clear e_v1
    rcases mx_if_el hf with ⟨c19, hf⟩ | ⟨c19, hf⟩
    · refine sb_ic_ge hm dX13_frame_198 (tgt := 233) rfl (fun _ => ?_) (fun z => absurd c19 z)
      refine mx_S.pu (pc2 := 234) (lv2 := [(0, .ref l0), (3, .int l3), (4, .int l4)]) (st2 := [.ref l0]) hm dX13_frame_233 rfl ?_
      refine mx_S.pu (pc2 := 235) (lv2 := [(0, .ref l0), (3, .int l3), (4, .int l4)]) (st2 := [.ref l0, .ref l0]) hm dX13_frame_234 rfl ?_
      replace hf := mx_sv_el hf; obtain ⟨v2, e_v2, hf⟩ := hf
      refine sx_get hm dX13_frame_235 rs_RX13_655 (xgi_el e_v2) ?_
      clear e_v2
      refine mx_S.pu (pc2 := 239) (lv2 := [(0, .ref l0), (3, .int l3), (4, .int l4)]) (st2 := [.int l3, .int v2, .ref l0]) hm dX13_frame_238 rfl ?_
      refine mx_S.pu (pc2 := 240) (lv2 := [(0, .ref l0), (3, .int l3), (4, .int l4)]) (st2 := [.ref l0, .int l3, .int v2, .ref l0]) hm dX13_frame_239 rfl ?_
      replace hf := mx_sv_el hf; obtain ⟨v3, e_v3, hf⟩ := hf
      refine sx_get hm dX13_frame_240 rs_RX13_513 (xgi_el e_v3) ?_
      clear e_v3
      replace hf := xl_el hf; obtain ⟨v4, e_v4, hf⟩ := hf
      refine mx_S.pu (pc2 := 244) (lv2 := [(0, .ref l0), (3, .int l3), (4, .int l4)]) (st2 := [.int v4, .int v2, .ref l0]) hm dX13_frame_243 (by rw [← e_v4]; rfl) ?_
      clear e_v4
      refine mx_S.pu (pc2 := 245) (lv2 := [(0, .ref l0), (3, .int l3), (4, .int l4)]) (st2 := [.ref l0, .int v4, .int v2, .ref l0]) hm dX13_frame_244 rfl ?_
      replace hf := mx_sv_el hf; obtain ⟨v5, e_v5, hf⟩ := hf
      refine sx_get hm dX13_frame_245 rs_RX13_629 (xgi_el e_v5) ?_
      clear e_v5
      replace hf := xl_el hf; obtain ⟨v6, e_v6, hf⟩ := hf
      refine mx_S.pu (pc2 := 249) (lv2 := [(0, .ref l0), (3, .int l3), (4, .int l4)]) (st2 := [.int v6, .int v2, .ref l0]) hm dX13_frame_248 (by rw [← e_v6]; rfl) ?_
      clear e_v6
      replace hf := xl_el hf; obtain ⟨v7, e_v7, hf⟩ := hf
      refine mx_S.pu (pc2 := 250) (lv2 := [(0, .ref l0), (3, .int l3), (4, .int l4)]) (st2 := [.int v7, .ref l0]) hm dX13_frame_249 (by rw [← e_v7]; rfl) ?_
      clear e_v7
      replace hf := mx_sv_el hf; obtain ⟨h8, e_h8, hf⟩ := hf
      refine sx_put hm dX13_frame_250 rs_RX13_655 ft_13_79 ⟨rfl, rfl⟩ (fun z => by cases z) e_h8 ?_
      clear e_h8
      cases hf
      exact sx_ret hm dX13_frame_253 rfl
    · refine sb_ic_ge hm dX13_frame_198 (tgt := 233) rfl (fun z => absurd z c19) (fun _ => ?_)
      refine mx_S.pu (pc2 := 202) (lv2 := [(0, .ref l0), (3, .int l3), (4, .int l4)]) (st2 := [.ref l0]) hm dX13_frame_201 rfl ?_
      replace hf := mx_sv_el hf; obtain ⟨v9, e_v9, hf⟩ := hf
      refine sx_get hm dX13_frame_202 rs_RX13_166 (xgr_el e_v9) ?_
      clear e_v9
      refine mx_S.pu (pc2 := 206) (lv2 := [(0, .ref l0), (3, .int l3), (4, .int l4)]) (st2 := [.ref l0, .ref v9]) hm dX13_frame_205 rfl ?_
      replace hf := mx_sv_el hf; obtain ⟨v10, e_v10, hf⟩ := hf
      refine sx_get hm dX13_frame_206 rs_RX13_655 (xgi_el e_v10) ?_
      clear e_v10
      refine mx_S.pu (pc2 := 210) (lv2 := [(0, .ref l0), (3, .int l3), (4, .int l4)]) (st2 := [.int l3, .int v10, .ref v9]) hm dX13_frame_209 rfl ?_
      replace hf := xl_el hf; obtain ⟨v11, e_v11, hf⟩ := hf
      refine mx_S.pu (pc2 := 211) (lv2 := [(0, .ref l0), (3, .int l3), (4, .int l4)]) (st2 := [.int v11, .ref v9]) hm dX13_frame_210 (by rw [← e_v11]; rfl) ?_
      clear e_v11
      refine mx_S.pu (pc2 := 212) (lv2 := [(0, .ref l0), (3, .int l3), (4, .int l4)]) (st2 := [.ref l0, .int v11, .ref v9]) hm dX13_frame_211 rfl ?_
      replace hf := mx_sv_el hf; obtain ⟨v12, e_v12, hf⟩ := hf
      refine sx_get hm dX13_frame_212 rs_RX13_513 (xgi_el e_v12) ?_
      clear e_v12
      replace hf := xl_el hf; obtain ⟨v13, e_v13, hf⟩ := hf
      refine mx_S.pu (pc2 := 216) (lv2 := [(0, .ref l0), (3, .int l3), (4, .int l4)]) (st2 := [.int v13, .ref v9]) hm dX13_frame_215 (by rw [← e_v13]; rfl) ?_
      clear e_v13
      refine mx_S.pu (pc2 := 218) (lv2 := [(0, .ref l0), (3, .int l3), (4, .int l4)]) (st2 := [.int l4, .int v13, .ref v9]) hm dX13_frame_216 rfl ?_
      replace hf := xl_el hf; obtain ⟨v14, e_v14, hf⟩ := hf
      refine mx_S.pu (pc2 := 219) (lv2 := [(0, .ref l0), (3, .int l3), (4, .int l4)]) (st2 := [.int v14, .ref v9]) hm dX13_frame_218 (by rw [← e_v14]; rfl) ?_
      clear e_v14
      refine mx_S.pu (pc2 := 220) (lv2 := [(0, .ref l0), (3, .int l3), (4, .int l4)]) (st2 := [.ref l0, .int v14, .ref v9]) hm dX13_frame_219 rfl ?_
      replace hf := mx_sv_el hf; obtain ⟨v15, e_v15, hf⟩ := hf
      refine sx_get hm dX13_frame_220 rs_RX13_150 (xgr_el e_v15) ?_
      clear e_v15
      refine mx_S.pu (pc2 := 225) (lv2 := [(0, .ref l0), (3, .int l3), (4, .int l4)]) (st2 := [.int l4, .ref v15, .int v14, .ref v9]) hm dX13_frame_223 rfl ?_
      replace hf := mx_sv_el hf; obtain ⟨v16, e_v16, hf⟩ := hf
      refine sx_ald hm dX13_frame_225 e_v16 ?_
      clear e_v16
      replace hf := mx_sv_el hf; obtain ⟨h17, e_h17, hf⟩ := hf
      refine sx_ast hm dX13_frame_226 e_h17 ?_
      clear e_h17
      replace hf := xl_el hf; obtain ⟨v18, e_v18, hf⟩ := hf
      refine mx_S.pu (pc2 := 230) (lv2 := [(4, .int v18), (0, .ref l0), (3, .int l3)]) (st2 := []) hm dX13_frame_227 (by rw [← e_v18]; rfl) ?_
      clear e_v18
      refine mx_S.pu (pc2 := 192) (lv2 := [(4, .int v18), (0, .ref l0), (3, .int l3)]) (st2 := []) hm dX13_frame_230 rfl ?_
      refine mx_S.ext [(0, .ref l0), (3, .int l3), (4, .int v18)] (mx_sub_pos [1, 2, 0] rfl (show ([4, 0, 3] : List Nat).Nodup by decide)) ?_
      exact ih l0 l3 v18 h17 _ hf
set_option maxHeartbeats 4000000 in
set_option maxRecDepth 20000 in
theorem w_X13_frame_153_ok (X : Nat × (Nat → Int32)) {F L : Nat} (hF : 0 ≤ F) (hL : 0 ≤ L) (nn : Nat) : ∀ (k : Nat) (l0 : Nat) (l3 : Int32) (l4 : Int32) (h : mx_H) (r : mx_H), w_X13_frame_153 nn k l0 l3 l4 h = some r → mx_S X F L 463 153 [(0, .ref l0), (3, .int l3), (4, .int l4)] [] h 0 0 (none, r, 0, 0) := by
  have hm : mx_mt 463 = some (yX13_frame, cX13_frame, 5, none) := mt_X13_frame
  intro k
  induction k with
  | zero => intro l0 l3 l4 h r hf; cases hf
  | succ k ih =>
    intro l0 l3 l4 h r hf
    unfold w_X13_frame_153 at hf
    refine mx_S.pu (pc2 := 155) (lv2 := [(0, .ref l0), (3, .int l3), (4, .int l4)]) (st2 := [.int l4]) hm dX13_frame_153 rfl ?_
    refine mx_S.pu (pc2 := 156) (lv2 := [(0, .ref l0), (3, .int l3), (4, .int l4)]) (st2 := [.ref l0, .int l4]) hm dX13_frame_155 rfl ?_
    replace hf := mx_sv_el hf; obtain ⟨v20, e_v20, hf⟩ := hf
    refine sx_get hm dX13_frame_156 rs_RX13_513 (xgi_el e_v20) ?_
    clear e_v20
    rcases mx_if_el hf with ⟨c29, hf⟩ | ⟨c29, hf⟩
    · refine sb_ic_ge hm dX13_frame_159 (tgt := 189) rfl (fun _ => ?_) (fun z => absurd c29 z)
      refine sx_ic (v := 0) hm dX13_frame_189 (by decide) ?_
      refine mx_S.pu (pc2 := 192) (lv2 := [(4, .int 0), (0, .ref l0), (3, .int l3)]) (st2 := []) hm dX13_frame_190 rfl ?_
      refine mx_S.ext [(0, .ref l0), (3, .int l3), (4, .int 0)] (mx_sub_pos [1, 2, 0] rfl (show ([4, 0, 3] : List Nat).Nodup by decide)) ?_
      exact w_X13_frame_192_ok X hF hL nn nn l0 l3 0 h _ hf
    · refine sb_ic_ge hm dX13_frame_159 (tgt := 189) rfl (fun z => absurd z c29) (fun _ => ?_)
      refine mx_S.pu (pc2 := 163) (lv2 := [(0, .ref l0), (3, .int l3), (4, .int l4)]) (st2 := [.ref l0]) hm dX13_frame_162 rfl ?_
      replace hf := mx_sv_el hf; obtain ⟨v21, e_v21, hf⟩ := hf
      refine sx_get hm dX13_frame_163 rs_RX13_166 (xgr_el e_v21) ?_
      clear e_v21
      refine mx_S.pu (pc2 := 167) (lv2 := [(0, .ref l0), (3, .int l3), (4, .int l4)]) (st2 := [.ref l0, .ref v21]) hm dX13_frame_166 rfl ?_
      replace hf := mx_sv_el hf; obtain ⟨v22, e_v22, hf⟩ := hf
      refine sx_get hm dX13_frame_167 rs_RX13_655 (xgi_el e_v22) ?_
      clear e_v22
      refine mx_S.pu (pc2 := 171) (lv2 := [(0, .ref l0), (3, .int l3), (4, .int l4)]) (st2 := [.int l3, .int v22, .ref v21]) hm dX13_frame_170 rfl ?_
      replace hf := xl_el hf; obtain ⟨v23, e_v23, hf⟩ := hf
      refine mx_S.pu (pc2 := 172) (lv2 := [(0, .ref l0), (3, .int l3), (4, .int l4)]) (st2 := [.int v23, .ref v21]) hm dX13_frame_171 (by rw [← e_v23]; rfl) ?_
      clear e_v23
      refine mx_S.pu (pc2 := 174) (lv2 := [(0, .ref l0), (3, .int l3), (4, .int l4)]) (st2 := [.int l4, .int v23, .ref v21]) hm dX13_frame_172 rfl ?_
      replace hf := xl_el hf; obtain ⟨v24, e_v24, hf⟩ := hf
      refine mx_S.pu (pc2 := 175) (lv2 := [(0, .ref l0), (3, .int l3), (4, .int l4)]) (st2 := [.int v24, .ref v21]) hm dX13_frame_174 (by rw [← e_v24]; rfl) ?_
      clear e_v24
      refine mx_S.pu (pc2 := 176) (lv2 := [(0, .ref l0), (3, .int l3), (4, .int l4)]) (st2 := [.ref l0, .int v24, .ref v21]) hm dX13_frame_175 rfl ?_
      replace hf := mx_sv_el hf; obtain ⟨v25, e_v25, hf⟩ := hf
      refine sx_get hm dX13_frame_176 rs_RX13_119 (xgr_el e_v25) ?_
      clear e_v25
      refine mx_S.pu (pc2 := 181) (lv2 := [(0, .ref l0), (3, .int l3), (4, .int l4)]) (st2 := [.int l4, .ref v25, .int v24, .ref v21]) hm dX13_frame_179 rfl ?_
      replace hf := mx_sv_el hf; obtain ⟨v26, e_v26, hf⟩ := hf
      refine sx_ald hm dX13_frame_181 e_v26 ?_
      clear e_v26
      replace hf := mx_sv_el hf; obtain ⟨h27, e_h27, hf⟩ := hf
      refine sx_ast hm dX13_frame_182 e_h27 ?_
      clear e_h27
      replace hf := xl_el hf; obtain ⟨v28, e_v28, hf⟩ := hf
      refine mx_S.pu (pc2 := 186) (lv2 := [(4, .int v28), (0, .ref l0), (3, .int l3)]) (st2 := []) hm dX13_frame_183 (by rw [← e_v28]; rfl) ?_
      clear e_v28
      refine mx_S.pu (pc2 := 153) (lv2 := [(4, .int v28), (0, .ref l0), (3, .int l3)]) (st2 := []) hm dX13_frame_186 rfl ?_
      refine mx_S.ext [(0, .ref l0), (3, .int l3), (4, .int v28)] (mx_sub_pos [1, 2, 0] rfl (show ([4, 0, 3] : List Nat).Nodup by decide)) ?_
      exact ih l0 l3 v28 h27 _ hf
set_option maxHeartbeats 4000000 in
set_option maxRecDepth 20000 in
theorem j_X13_frame_80_ok (X : Nat × (Nat → Int32)) {F L : Nat} (hF : 0 ≤ F) (hL : 0 ≤ L) (nn : Nat) (l0 : Nat) (l2 : Int32) (s0 : Int32) (h : mx_H) {r : mx_H} (hf : j_X13_frame_80 nn l0 l2 s0 h = some r) : mx_S X F L 463 80 [(0, .ref l0), (2, .int l2)] [.int s0] h 0 0 (none, r, 0, 0) := by
  have hm : mx_mt 463 = some (yX13_frame, cX13_frame, 5, none) := mt_X13_frame
  unfold j_X13_frame_80 at hf
  refine mx_S.pu (pc2 := 81) (lv2 := [(3, .int s0), (0, .ref l0), (2, .int l2)]) (st2 := []) hm dX13_frame_80 rfl ?_
  refine mx_S.pu (pc2 := 82) (lv2 := [(3, .int s0), (0, .ref l0), (2, .int l2)]) (st2 := [.ref l0]) hm dX13_frame_81 rfl ?_
  replace hf := mx_sv_el hf; obtain ⟨v30, e_v30, hf⟩ := hf
  refine sx_get hm dX13_frame_82 rs_RX13_159 (xgr_el e_v30) ?_
  clear e_v30
  refine mx_S.pu (pc2 := 86) (lv2 := [(3, .int s0), (0, .ref l0), (2, .int l2)]) (st2 := [.int l2, .ref v30]) hm dX13_frame_85 rfl ?_
  refine mx_S.pu (pc2 := 87) (lv2 := [(3, .int s0), (0, .ref l0), (2, .int l2)]) (st2 := [.ref l0, .int l2, .ref v30]) hm dX13_frame_86 rfl ?_
  replace hf := mx_sv_el hf; obtain ⟨v31, e_v31, hf⟩ := hf
  refine sx_get hm dX13_frame_87 rs_RX13_513 (xgi_el e_v31) ?_
  clear e_v31
  refine mx_S.pu (pc2 := 91) (lv2 := [(3, .int s0), (0, .ref l0), (2, .int l2)]) (st2 := [.int s0, .int v31, .int l2, .ref v30]) hm dX13_frame_90 rfl ?_
  replace hf := xl_el hf; obtain ⟨v32, e_v32, hf⟩ := hf
  refine mx_S.pu (pc2 := 92) (lv2 := [(3, .int s0), (0, .ref l0), (2, .int l2)]) (st2 := [.int v32, .int l2, .ref v30]) hm dX13_frame_91 (by rw [← e_v32]; rfl) ?_
  clear e_v32
  replace hf := mx_sv_el hf; obtain ⟨h33, e_h33, hf⟩ := hf
  refine sx_ast hm dX13_frame_92 e_h33 ?_
  clear e_h33
  refine mx_S.pu (pc2 := 94) (lv2 := [(3, .int s0), (0, .ref l0), (2, .int l2)]) (st2 := [.ref l0]) hm dX13_frame_93 rfl ?_
  replace hf := mx_sv_el hf; obtain ⟨v34, e_v34, hf⟩ := hf
  refine sx_get hm dX13_frame_94 rs_RX13_162 (xgr_el e_v34) ?_
  clear e_v34
  refine mx_S.pu (pc2 := 98) (lv2 := [(3, .int s0), (0, .ref l0), (2, .int l2)]) (st2 := [.int l2, .ref v34]) hm dX13_frame_97 rfl ?_
  refine mx_S.pu (pc2 := 99) (lv2 := [(3, .int s0), (0, .ref l0), (2, .int l2)]) (st2 := [.ref l0, .int l2, .ref v34]) hm dX13_frame_98 rfl ?_
  replace hf := mx_sv_el hf; obtain ⟨v35, e_v35, hf⟩ := hf
  refine sx_get hm dX13_frame_99 rs_RX13_629 (xgi_el e_v35) ?_
  clear e_v35
  replace hf := mx_sv_el hf; obtain ⟨h36, e_h36, hf⟩ := hf
  refine sx_ast hm dX13_frame_102 e_h36 ?_
  clear e_h36
  refine mx_S.pu (pc2 := 104) (lv2 := [(3, .int s0), (0, .ref l0), (2, .int l2)]) (st2 := [.ref l0]) hm dX13_frame_103 rfl ?_
  replace hf := mx_sv_el hf; obtain ⟨v37, e_v37, hf⟩ := hf
  refine sx_get hm dX13_frame_104 rs_RX13_655 (xgi_el e_v37) ?_
  clear e_v37
  refine mx_S.pu (pc2 := 108) (lv2 := [(3, .int s0), (0, .ref l0), (2, .int l2)]) (st2 := [.ref l0, .int v37]) hm dX13_frame_107 rfl ?_
  replace hf := mx_sv_el hf; obtain ⟨v38, e_v38, hf⟩ := hf
  refine sx_get hm dX13_frame_108 rs_RX13_513 (xgi_el e_v38) ?_
  clear e_v38
  replace hf := xl_el hf; obtain ⟨v39, e_v39, hf⟩ := hf
  refine mx_S.pu (pc2 := 112) (lv2 := [(3, .int s0), (0, .ref l0), (2, .int l2)]) (st2 := [.int v39]) hm dX13_frame_111 (by rw [← e_v39]; rfl) ?_
  clear e_v39
  refine sx_ic (v := 1) hm dX13_frame_112 (by decide) ?_
  replace hf := xl_el hf; obtain ⟨v40, e_v40, hf⟩ := hf
  refine mx_S.pu (pc2 := 114) (lv2 := [(3, .int s0), (0, .ref l0), (2, .int l2)]) (st2 := [.int v40]) hm dX13_frame_113 (by rw [← e_v40]; rfl) ?_
  clear e_v40
  refine mx_S.pu (pc2 := 115) (lv2 := [(3, .int s0), (0, .ref l0), (2, .int l2)]) (st2 := [.ref l0, .int v40]) hm dX13_frame_114 rfl ?_
  replace hf := mx_sv_el hf; obtain ⟨v41, e_v41, hf⟩ := hf
  refine sx_get hm dX13_frame_115 rs_RX13_629 (xgi_el e_v41) ?_
  clear e_v41
  replace hf := xl_el hf; obtain ⟨v42, e_v42, hf⟩ := hf
  refine mx_S.pu (pc2 := 119) (lv2 := [(3, .int s0), (0, .ref l0), (2, .int l2)]) (st2 := [.int v42]) hm dX13_frame_118 (by rw [← e_v42]; rfl) ?_
  clear e_v42
  refine sx_ldc hm dX13_frame_119 rs_RX13_165 ?_
  rcases mx_if_el hf with ⟨c51, hf⟩ | ⟨c51, hf⟩
  · refine sb_ic_le hm dX13_frame_121 (tgt := 125) rfl (fun _ => ?_) (fun z => absurd c51 z)
    refine mx_S.pu (pc2 := 126) (lv2 := [(3, .int s0), (0, .ref l0), (2, .int l2)]) (st2 := [.ref l0]) hm dX13_frame_125 rfl ?_
    replace hf := mx_sv_el hf; obtain ⟨v43, e_v43, hf⟩ := hf
    refine sx_get hm dX13_frame_126 rs_RX13_510 (xgi_el e_v43) ?_
    clear e_v43
    rcases mx_if_el hf with ⟨c50, hf⟩ | ⟨c50, hf⟩
    · refine sb_if_ne hm dX13_frame_129 (tgt := 150) rfl (fun _ => ?_) (fun z => absurd c50 z)
      refine sx_ic (v := 0) hm dX13_frame_150 (by decide) ?_
      refine mx_S.pu (pc2 := 153) (lv2 := [(4, .int 0), (3, .int s0), (0, .ref l0), (2, .int l2)]) (st2 := []) hm dX13_frame_151 rfl ?_
      refine mx_S.ext [(0, .ref l0), (3, .int s0), (4, .int 0)] (mx_sub_pos [2, 1, 0] rfl (show ([4, 3, 0, 2] : List Nat).Nodup by decide)) ?_
      exact w_X13_frame_153_ok X hF hL nn nn l0 s0 0 h36 _ hf
    · refine sb_if_ne hm dX13_frame_129 (tgt := 150) rfl (fun z => absurd z c50) (fun _ => ?_)
      refine mx_S.pu (pc2 := 133) (lv2 := [(3, .int s0), (0, .ref l0), (2, .int l2)]) (st2 := [.ref l0]) hm dX13_frame_132 rfl ?_
      replace hf := mx_sv_el hf; obtain ⟨v44, e_v44, hf⟩ := hf
      refine sx_get hm dX13_frame_133 rs_RX13_166 (xgr_el e_v44) ?_
      clear e_v44
      refine mx_S.pu (pc2 := 137) (lv2 := [(3, .int s0), (0, .ref l0), (2, .int l2)]) (st2 := [.ref l0, .ref v44]) hm dX13_frame_136 rfl ?_
      replace hf := mx_sv_el hf; obtain ⟨v45, e_v45, hf⟩ := hf
      refine sx_get hm dX13_frame_137 rs_RX13_655 (xgi_el e_v45) ?_
      clear e_v45
      refine sx_bi (v := 8) hm dX13_frame_140 (by decide) ?_
      refine sx_ic (v := 2) hm dX13_frame_142 (by decide) ?_
      refine mx_S.pu (pc2 := 144) (lv2 := [(3, .int s0), (0, .ref l0), (2, .int l2)]) (st2 := [.ref l0, .int 2, .int 8, .int v45, .ref v44]) hm dX13_frame_143 rfl ?_
      replace hf := mx_sv_el hf; obtain ⟨v46, e_v46, hf⟩ := hf
      refine sx_get hm dX13_frame_144 rs_RX13_519 (xgi_el e_v46) ?_
      clear e_v46
      replace hf := xl_el hf; obtain ⟨v47, e_v47, hf⟩ := hf
      refine mx_S.pu (pc2 := 148) (lv2 := [(3, .int s0), (0, .ref l0), (2, .int l2)]) (st2 := [.int v47, .int 8, .int v45, .ref v44]) hm dX13_frame_147 (by rw [← e_v47]; rfl) ?_
      clear e_v47
      replace hf := xl_el hf; obtain ⟨v48, e_v48, hf⟩ := hf
      refine mx_S.pu (pc2 := 149) (lv2 := [(3, .int s0), (0, .ref l0), (2, .int l2)]) (st2 := [.int v48, .int v45, .ref v44]) hm dX13_frame_148 (by rw [← e_v48]; rfl) ?_
      clear e_v48
      replace hf := mx_sv_el hf; obtain ⟨h49, e_h49, hf⟩ := hf
      refine sx_ast hm dX13_frame_149 e_h49 ?_
      clear e_h49
      refine sx_ic (v := 0) hm dX13_frame_150 (by decide) ?_
      refine mx_S.pu (pc2 := 153) (lv2 := [(4, .int 0), (3, .int s0), (0, .ref l0), (2, .int l2)]) (st2 := []) hm dX13_frame_151 rfl ?_
      refine mx_S.ext [(0, .ref l0), (3, .int s0), (4, .int 0)] (mx_sub_pos [2, 1, 0] rfl (show ([4, 3, 0, 2] : List Nat).Nodup by decide)) ?_
      exact w_X13_frame_153_ok X hF hL nn nn l0 s0 0 h49 _ hf
  · refine sb_ic_le hm dX13_frame_121 (tgt := 125) rfl (fun z => absurd z c51) (fun _ => ?_)
    cases hf
    exact sx_ret hm dX13_frame_124 rfl
set_option maxHeartbeats 4000000 in
set_option maxRecDepth 20000 in
theorem j_X13_frame_51_ok (X : Nat × (Nat → Int32)) {F L : Nat} (hF : 0 ≤ F) (hL : 0 ≤ L) (nn : Nat) (l0 : Nat) (l1 : Int32) (l2 : Int32) (h : mx_H) {r : mx_H} (hf : j_X13_frame_51 nn l0 l1 l2 h = some r) : mx_S X F L 463 51 [(0, .ref l0), (1, .int l1), (2, .int l2)] [] h 0 0 (none, r, 0, 0) := by
  have hm : mx_mt 463 = some (yX13_frame, cX13_frame, 5, none) := mt_X13_frame
  unfold j_X13_frame_51 at hf
  refine mx_S.pu (pc2 := 52) (lv2 := [(0, .ref l0), (1, .int l1), (2, .int l2)]) (st2 := [.ref l0]) hm dX13_frame_51 rfl ?_
  replace hf := mx_sv_el hf; obtain ⟨v52, e_v52, hf⟩ := hf
  refine sx_get hm dX13_frame_52 rs_RX13_153 (xgr_el e_v52) ?_
  clear e_v52
  refine mx_S.pu (pc2 := 56) (lv2 := [(0, .ref l0), (1, .int l1), (2, .int l2)]) (st2 := [.int l2, .ref v52]) hm dX13_frame_55 rfl ?_
  refine mx_S.pu (pc2 := 57) (lv2 := [(0, .ref l0), (1, .int l1), (2, .int l2)]) (st2 := [.int l1, .int l2, .ref v52]) hm dX13_frame_56 rfl ?_
  replace hf := mx_sv_el hf; obtain ⟨h53, e_h53, hf⟩ := hf
  refine sx_ast hm dX13_frame_57 e_h53 ?_
  clear e_h53
  refine mx_S.pu (pc2 := 59) (lv2 := [(0, .ref l0), (1, .int l1), (2, .int l2)]) (st2 := [.ref l0]) hm dX13_frame_58 rfl ?_
  replace hf := mx_sv_el hf; obtain ⟨v54, e_v54, hf⟩ := hf
  refine sx_get hm dX13_frame_59 rs_RX13_156 (xgr_el e_v54) ?_
  clear e_v54
  refine mx_S.pu (pc2 := 63) (lv2 := [(0, .ref l0), (1, .int l1), (2, .int l2)]) (st2 := [.int l2, .ref v54]) hm dX13_frame_62 rfl ?_
  refine mx_S.pu (pc2 := 64) (lv2 := [(0, .ref l0), (1, .int l1), (2, .int l2)]) (st2 := [.ref l0, .int l2, .ref v54]) hm dX13_frame_63 rfl ?_
  replace hf := mx_sv_el hf; obtain ⟨v55, e_v55, hf⟩ := hf
  refine sx_get hm dX13_frame_64 rs_RX13_655 (xgi_el e_v55) ?_
  clear e_v55
  replace hf := mx_sv_el hf; obtain ⟨h56, e_h56, hf⟩ := hf
  refine sx_ast hm dX13_frame_67 e_h56 ?_
  clear e_h56
  refine mx_S.pu (pc2 := 69) (lv2 := [(0, .ref l0), (1, .int l1), (2, .int l2)]) (st2 := [.ref l0]) hm dX13_frame_68 rfl ?_
  replace hf := mx_sv_el hf; obtain ⟨v57, e_v57, hf⟩ := hf
  refine sx_get hm dX13_frame_69 rs_RX13_510 (xgi_el e_v57) ?_
  clear e_v57
  rcases mx_if_el hf with ⟨c58, hf⟩ | ⟨c58, hf⟩
  · refine sb_if_eq hm dX13_frame_72 (tgt := 79) rfl (fun _ => ?_) (fun z => absurd c58 z)
    refine sx_ic (v := 1) hm dX13_frame_79 (by decide) ?_
    refine mx_S.ext [(0, .ref l0), (2, .int l2)] (mx_sub_pos [0, 2] rfl (show ([0, 1, 2] : List Nat).Nodup by decide)) ?_
    exact j_X13_frame_80_ok X hF hL nn l0 l2 1 h56 hf
  · refine sb_if_eq hm dX13_frame_72 (tgt := 79) rfl (fun z => absurd z c58) (fun _ => ?_)
    refine sx_ic (v := 0) hm dX13_frame_75 (by decide) ?_
    refine mx_S.pu (pc2 := 80) (lv2 := [(0, .ref l0), (1, .int l1), (2, .int l2)]) (st2 := [.int 0]) hm dX13_frame_76 rfl ?_
    refine mx_S.ext [(0, .ref l0), (2, .int l2)] (mx_sub_pos [0, 2] rfl (show ([0, 1, 2] : List Nat).Nodup by decide)) ?_
    exact j_X13_frame_80_ok X hF hL nn l0 l2 0 h56 hf
set_option maxHeartbeats 4000000 in
set_option maxRecDepth 20000 in
theorem w_X13_frame_7_ok (X : Nat × (Nat → Int32)) {F L : Nat} (hF : 0 ≤ F) (hL : 0 ≤ L) (nn : Nat) : ∀ (k : Nat) (l0 : Nat) (l1 : Int32) (l2 : Int32) (l3 : Int32) (h : mx_H) (r : mx_H), w_X13_frame_7 nn k l0 l1 l2 l3 h = some r → mx_S X F L 463 7 [(0, .ref l0), (1, .int l1), (2, .int l2), (3, .int l3)] [] h 0 0 (none, r, 0, 0) := by
  have hm : mx_mt 463 = some (yX13_frame, cX13_frame, 5, none) := mt_X13_frame
  intro k
  induction k with
  | zero => intro l0 l1 l2 l3 h r hf; cases hf
  | succ k ih =>
    intro l0 l1 l2 l3 h r hf
    unfold w_X13_frame_7 at hf
    refine mx_S.pu (pc2 := 8) (lv2 := [(0, .ref l0), (1, .int l1), (2, .int l2), (3, .int l3)]) (st2 := [.int l3]) hm dX13_frame_7 rfl ?_
    refine mx_S.pu (pc2 := 9) (lv2 := [(0, .ref l0), (1, .int l1), (2, .int l2), (3, .int l3)]) (st2 := [.ref l0, .int l3]) hm dX13_frame_8 rfl ?_
    replace hf := mx_sv_el hf; obtain ⟨v59, e_v59, hf⟩ := hf
    refine sx_get hm dX13_frame_9 rs_RX13_652 (xgi_el e_v59) ?_
    clear e_v59
    rcases mx_if_el hf with ⟨c70, hf⟩ | ⟨c70, hf⟩
    · refine sb_ic_ge hm dX13_frame_12 (tgt := 33) rfl (fun _ => ?_) (fun z => absurd c70 z)
      refine mx_S.pu (pc2 := 34) (lv2 := [(0, .ref l0), (1, .int l1), (2, .int l2), (3, .int l3)]) (st2 := [.int l2]) hm dX13_frame_33 rfl ?_
      refine mx_S.pu (pc2 := 35) (lv2 := [(0, .ref l0), (1, .int l1), (2, .int l2), (3, .int l3)]) (st2 := [.ref l0, .int l2]) hm dX13_frame_34 rfl ?_
      replace hf := mx_sv_el hf; obtain ⟨v60, e_v60, hf⟩ := hf
      refine sx_get hm dX13_frame_35 rs_RX13_652 (xgi_el e_v60) ?_
      clear e_v60
      rcases mx_if_el hf with ⟨c64, hf⟩ | ⟨c64, hf⟩
      · refine sb_ic_ne hm dX13_frame_38 (tgt := 51) rfl (fun _ => ?_) (fun z => absurd c64 z)
        refine mx_S.ext [(0, .ref l0), (1, .int l1), (2, .int l2)] (mx_sub_pos [0, 1, 2] rfl (show ([0, 1, 2, 3] : List Nat).Nodup by decide)) ?_
        exact j_X13_frame_51_ok X hF hL nn l0 l1 l2 h hf
      · refine sb_ic_ne hm dX13_frame_38 (tgt := 51) rfl (fun z => absurd z c64) (fun _ => ?_)
        refine mx_S.pu (pc2 := 42) (lv2 := [(0, .ref l0), (1, .int l1), (2, .int l2), (3, .int l3)]) (st2 := [.ref l0]) hm dX13_frame_41 rfl ?_
        refine mx_S.pu (pc2 := 43) (lv2 := [(0, .ref l0), (1, .int l1), (2, .int l2), (3, .int l3)]) (st2 := [.ref l0, .ref l0]) hm dX13_frame_42 rfl ?_
        replace hf := mx_sv_el hf; obtain ⟨v61, e_v61, hf⟩ := hf
        refine sx_get hm dX13_frame_43 rs_RX13_652 (xgi_el e_v61) ?_
        clear e_v61
        refine sx_ic (v := 1) hm dX13_frame_46 (by decide) ?_
        replace hf := xl_el hf; obtain ⟨v62, e_v62, hf⟩ := hf
        refine mx_S.pu (pc2 := 48) (lv2 := [(0, .ref l0), (1, .int l1), (2, .int l2), (3, .int l3)]) (st2 := [.int v62, .ref l0]) hm dX13_frame_47 (by rw [← e_v62]; rfl) ?_
        clear e_v62
        replace hf := mx_sv_el hf; obtain ⟨h63, e_h63, hf⟩ := hf
        refine sx_put hm dX13_frame_48 rs_RX13_652 ft_13_78 ⟨rfl, rfl⟩ (fun z => by cases z) e_h63 ?_
        clear e_h63
        refine mx_S.ext [(0, .ref l0), (1, .int l1), (2, .int l2)] (mx_sub_pos [0, 1, 2] rfl (show ([0, 1, 2, 3] : List Nat).Nodup by decide)) ?_
        exact j_X13_frame_51_ok X hF hL nn l0 l1 l2 h63 hf
    · refine sb_ic_ge hm dX13_frame_12 (tgt := 33) rfl (fun z => absurd z c70) (fun _ => ?_)
      refine mx_S.pu (pc2 := 16) (lv2 := [(0, .ref l0), (1, .int l1), (2, .int l2), (3, .int l3)]) (st2 := [.ref l0]) hm dX13_frame_15 rfl ?_
      replace hf := mx_sv_el hf; obtain ⟨v65, e_v65, hf⟩ := hf
      refine sx_get hm dX13_frame_16 rs_RX13_153 (xgr_el e_v65) ?_
      clear e_v65
      refine mx_S.pu (pc2 := 20) (lv2 := [(0, .ref l0), (1, .int l1), (2, .int l2), (3, .int l3)]) (st2 := [.int l3, .ref v65]) hm dX13_frame_19 rfl ?_
      replace hf := mx_sv_el hf; obtain ⟨v66, e_v66, hf⟩ := hf
      refine sx_ald hm dX13_frame_20 e_v66 ?_
      clear e_v66
      refine mx_S.pu (pc2 := 22) (lv2 := [(0, .ref l0), (1, .int l1), (2, .int l2), (3, .int l3)]) (st2 := [.int l1, .int v66]) hm dX13_frame_21 rfl ?_
      rcases mx_if_el hf with ⟨c69, hf⟩ | ⟨c69, hf⟩
      · refine sb_ic_ne hm dX13_frame_22 (tgt := 27) rfl (fun _ => ?_) (fun z => absurd c69 z)
        replace hf := xl_el hf; obtain ⟨v67, e_v67, hf⟩ := hf
        refine mx_S.pu (pc2 := 30) (lv2 := [(3, .int v67), (0, .ref l0), (1, .int l1), (2, .int l2)]) (st2 := []) hm dX13_frame_27 (by rw [← e_v67]; rfl) ?_
        clear e_v67
        refine mx_S.pu (pc2 := 7) (lv2 := [(3, .int v67), (0, .ref l0), (1, .int l1), (2, .int l2)]) (st2 := []) hm dX13_frame_30 rfl ?_
        refine mx_S.ext [(0, .ref l0), (1, .int l1), (2, .int l2), (3, .int v67)] (mx_sub_pos [1, 2, 3, 0] rfl (show ([3, 0, 1, 2] : List Nat).Nodup by decide)) ?_
        exact ih l0 l1 l2 v67 h _ hf
      · refine sb_ic_ne hm dX13_frame_22 (tgt := 27) rfl (fun z => absurd z c69) (fun _ => ?_)
        refine mx_S.pu (pc2 := 26) (lv2 := [(0, .ref l0), (1, .int l1), (2, .int l2), (3, .int l3)]) (st2 := [.int l3]) hm dX13_frame_25 rfl ?_
        refine mx_S.pu (pc2 := 27) (lv2 := [(2, .int l3), (0, .ref l0), (1, .int l1), (3, .int l3)]) (st2 := []) hm dX13_frame_26 rfl ?_
        replace hf := xl_el hf; obtain ⟨v68, e_v68, hf⟩ := hf
        refine mx_S.pu (pc2 := 30) (lv2 := [(3, .int v68), (2, .int l3), (0, .ref l0), (1, .int l1)]) (st2 := []) hm dX13_frame_27 (by rw [← e_v68]; rfl) ?_
        clear e_v68
        refine mx_S.pu (pc2 := 7) (lv2 := [(3, .int v68), (2, .int l3), (0, .ref l0), (1, .int l1)]) (st2 := []) hm dX13_frame_30 rfl ?_
        refine mx_S.ext [(0, .ref l0), (1, .int l1), (2, .int l3), (3, .int v68)] (mx_sub_pos [2, 3, 1, 0] rfl (show ([3, 2, 0, 1] : List Nat).Nodup by decide)) ?_
        exact ih l0 l1 l3 v68 h _ hf
set_option maxHeartbeats 4000000 in
set_option maxRecDepth 20000 in
theorem f_X13_frame_ok (X : Nat × (Nat → Int32)) {F L : Nat} (hF : 0 ≤ F) (hL : 0 ≤ L) (nn : Nat) (a0 : Nat) (a1 : Int32) (h : mx_H) {r : mx_H} (hf : f_X13_frame nn a0 a1 h = some r) : mx_R X F L 463 [.ref a0, .int a1] h (none, r, 0, 0) := by
  have hm : mx_mt 463 = some (yX13_frame, cX13_frame, 5, none) := mt_X13_frame
  show mx_S X F L 463 0 [(0, .ref a0), (1, .int a1)] [] h 0 0 (none, r, 0, 0)
  unfold f_X13_frame at hf
  refine mx_S.pu (pc2 := 1) (lv2 := [(0, .ref a0), (1, .int a1)]) (st2 := [.ref a0]) hm dX13_frame_0 rfl ?_
  replace hf := mx_sv_el hf; obtain ⟨v71, e_v71, hf⟩ := hf
  refine sx_get hm dX13_frame_1 rs_RX13_652 (xgi_el e_v71) ?_
  clear e_v71
  refine mx_S.pu (pc2 := 5) (lv2 := [(2, .int v71), (0, .ref a0), (1, .int a1)]) (st2 := []) hm dX13_frame_4 rfl ?_
  refine sx_ic (v := 0) hm dX13_frame_5 (by decide) ?_
  refine mx_S.pu (pc2 := 7) (lv2 := [(3, .int 0), (2, .int v71), (0, .ref a0), (1, .int a1)]) (st2 := []) hm dX13_frame_6 rfl ?_
  refine mx_S.ext [(0, .ref a0), (1, .int a1), (2, .int v71), (3, .int 0)] (mx_sub_pos [2, 3, 1, 0] rfl (show ([3, 2, 0, 1] : List Nat).Nodup by decide)) ?_
  exact w_X13_frame_7_ok X hF hL nn nn a0 a1 v71 0 h _ hf
set_option maxHeartbeats 4000000 in
set_option maxRecDepth 20000 in
theorem j_X13_stands_154_ok (X : Nat × (Nat → Int32)) {F L : Nat} (hF : 1 ≤ F) (hL : 24 ≤ L) (nn : Nat) (h : mx_H) {r : mx_H} (hf : j_X13_stands_154 nn h = some r) : mx_S X F L 462 154 [] [] h 0 0 (none, r, 0, 0) := by
  have hm : mx_mt 462 = some (yX13_stands, cX13_stands, 7, none) := mt_X13_stands
  unfold j_X13_stands_154 at hf
  cases hf
  exact sx_ret hm dX13_stands_154 rfl
set_option maxHeartbeats 4000000 in
set_option maxRecDepth 20000 in
theorem w_X13_stands_8_ok (X : Nat × (Nat → Int32)) {F L : Nat} (hF : 1 ≤ F) (hL : 24 ≤ L) (nn : Nat) : ∀ (k : Nat) (l0 : Nat) (l1 : Int32) (l2 : Int32) (l3 : Int32) (l4 : Int32) (l5 : Int32) (h : mx_H) (r : mx_H), w_X13_stands_8 nn k l0 l1 l2 l3 l4 l5 h = some r → mx_S X F L 462 8 [(0, .ref l0), (1, .int l1), (2, .int l2), (3, .int l3), (4, .int l4), (5, .int l5)] [] h 0 0 (none, r, 0, 0) := by
  have hm : mx_mt 462 = some (yX13_stands, cX13_stands, 7, none) := mt_X13_stands
  intro k
  induction k with
  | zero => intro l0 l1 l2 l3 l4 l5 h r hf; cases hf
  | succ k ih =>
    intro l0 l1 l2 l3 l4 l5 h r hf
    unfold w_X13_stands_8 at hf
    refine mx_S.pu (pc2 := 10) (lv2 := [(0, .ref l0), (1, .int l1), (2, .int l2), (3, .int l3), (4, .int l4), (5, .int l5)]) (st2 := [.int l5]) hm dX13_stands_8 rfl ?_
    refine mx_S.pu (pc2 := 11) (lv2 := [(0, .ref l0), (1, .int l1), (2, .int l2), (3, .int l3), (4, .int l4), (5, .int l5)]) (st2 := [.ref l0, .int l5]) hm dX13_stands_10 rfl ?_
    replace hf := mx_sv_el hf; obtain ⟨v1, e_v1, hf⟩ := hf
    refine sx_get hm dX13_stands_11 rs_RX13_643 (xgi_el e_v1) ?_
    clear e_v1
    rcases mx_if_el hf with ⟨c41, hf⟩ | ⟨c41, hf⟩
    · refine sb_ic_ge hm dX13_stands_14 (tgt := 139) rfl (fun _ => ?_) (fun z => absurd c41 z)
      refine mx_S.pu (pc2 := 140) (lv2 := [(0, .ref l0), (1, .int l1), (2, .int l2), (3, .int l3), (4, .int l4), (5, .int l5)]) (st2 := [.ref l0]) hm dX13_stands_139 rfl ?_
      refine mx_S.pu (pc2 := 142) (lv2 := [(0, .ref l0), (1, .int l1), (2, .int l2), (3, .int l3), (4, .int l4), (5, .int l5)]) (st2 := [.int l4, .ref l0]) hm dX13_stands_140 rfl ?_
      replace hf := mx_sv_el hf; obtain ⟨h2, e_h2, hf⟩ := hf
      refine sx_put hm dX13_stands_142 rs_RX13_643 ft_13_87 ⟨rfl, rfl⟩ (fun z => by cases z) e_h2 ?_
      clear e_h2
      refine mx_S.pu (pc2 := 146) (lv2 := [(0, .ref l0), (1, .int l1), (2, .int l2), (3, .int l3), (4, .int l4), (5, .int l5)]) (st2 := [.int l3]) hm dX13_stands_145 rfl ?_
      rcases mx_if_el hf with ⟨c5, hf⟩ | ⟨c5, hf⟩
      · refine sb_if_eq hm dX13_stands_146 (tgt := 154) rfl (fun _ => ?_) (fun z => absurd c5 z)
        refine mx_S.ext [] (mx_sub_pos [] rfl (show ([0, 1, 2, 3, 4, 5] : List Nat).Nodup by decide)) ?_
        exact j_X13_stands_154_ok X hF hL nn h2 hf
      · refine sb_if_eq hm dX13_stands_146 (tgt := 154) rfl (fun z => absurd z c5) (fun _ => ?_)
        refine mx_S.pu (pc2 := 150) (lv2 := [(0, .ref l0), (1, .int l1), (2, .int l2), (3, .int l3), (4, .int l4), (5, .int l5)]) (st2 := [.ref l0]) hm dX13_stands_149 rfl ?_
        refine mx_S.pu (pc2 := 151) (lv2 := [(0, .ref l0), (1, .int l1), (2, .int l2), (3, .int l3), (4, .int l4), (5, .int l5)]) (st2 := [.int l2, .ref l0]) hm dX13_stands_150 rfl ?_
        replace hf := mx_gd_el hf; obtain ⟨c3, hf⟩ := hf
        replace hf := mx_sv_el hf; obtain ⟨u4, e_u4, hf⟩ := hf
        refine sx_cv hm dX13_stands_151 rs_RX13_649 mt_X13_frame [.int l2] [] (b := l0) (ci := 13) rfl rfl rfl c3 (Nat.le_of_ble_eq_true rfl) (Nat.le_of_ble_eq_true rfl) (by omega) (by omega) (f_X13_frame_ok X (by omega) (by omega) nn l0 l2 h2 e_u4) ?_
        clear e_u4
        show mx_S X F L 462 154 [(0, .ref l0), (1, .int l1), (2, .int l2), (3, .int l3), (4, .int l4), (5, .int l5)] [] u4 0 0 (none, r, 0, 0)
        refine mx_S.ext [] (mx_sub_pos [] rfl (show ([0, 1, 2, 3, 4, 5] : List Nat).Nodup by decide)) ?_
        exact j_X13_stands_154_ok X hF hL nn u4 hf
    · refine sb_ic_ge hm dX13_stands_14 (tgt := 139) rfl (fun z => absurd z c41) (fun _ => ?_)
      refine mx_S.pu (pc2 := 18) (lv2 := [(0, .ref l0), (1, .int l1), (2, .int l2), (3, .int l3), (4, .int l4), (5, .int l5)]) (st2 := [.ref l0]) hm dX13_stands_17 rfl ?_
      replace hf := mx_sv_el hf; obtain ⟨v6, e_v6, hf⟩ := hf
      refine sx_get hm dX13_stands_18 rs_RX13_184 (xgr_el e_v6) ?_
      clear e_v6
      refine mx_S.pu (pc2 := 23) (lv2 := [(0, .ref l0), (1, .int l1), (2, .int l2), (3, .int l3), (4, .int l4), (5, .int l5)]) (st2 := [.int l5, .ref v6]) hm dX13_stands_21 rfl ?_
      replace hf := mx_sv_el hf; obtain ⟨v7, e_v7, hf⟩ := hf
      refine sx_ald hm dX13_stands_23 e_v7 ?_
      clear e_v7
      refine mx_S.pu (pc2 := 25) (lv2 := [(0, .ref l0), (1, .int l1), (2, .int l2), (3, .int l3), (4, .int l4), (5, .int l5)]) (st2 := [.int l1, .int v7]) hm dX13_stands_24 rfl ?_
      rcases mx_if_el hf with ⟨c40, hf⟩ | ⟨c40, hf⟩
      · refine sb_ic_ne hm dX13_stands_25 (tgt := 102) rfl (fun _ => ?_) (fun z => absurd c40 z)
        refine mx_S.pu (pc2 := 103) (lv2 := [(0, .ref l0), (1, .int l1), (2, .int l2), (3, .int l3), (4, .int l4), (5, .int l5)]) (st2 := [.ref l0]) hm dX13_stands_102 rfl ?_
        replace hf := mx_sv_el hf; obtain ⟨v8, e_v8, hf⟩ := hf
        refine sx_get hm dX13_stands_103 rs_RX13_181 (xgr_el e_v8) ?_
        clear e_v8
        refine mx_S.pu (pc2 := 108) (lv2 := [(0, .ref l0), (1, .int l1), (2, .int l2), (3, .int l3), (4, .int l4), (5, .int l5)]) (st2 := [.int l4, .ref v8]) hm dX13_stands_106 rfl ?_
        refine mx_S.pu (pc2 := 109) (lv2 := [(0, .ref l0), (1, .int l1), (2, .int l2), (3, .int l3), (4, .int l4), (5, .int l5)]) (st2 := [.ref l0, .int l4, .ref v8]) hm dX13_stands_108 rfl ?_
        replace hf := mx_sv_el hf; obtain ⟨v9, e_v9, hf⟩ := hf
        refine sx_get hm dX13_stands_109 rs_RX13_181 (xgr_el e_v9) ?_
        clear e_v9
        refine mx_S.pu (pc2 := 114) (lv2 := [(0, .ref l0), (1, .int l1), (2, .int l2), (3, .int l3), (4, .int l4), (5, .int l5)]) (st2 := [.int l5, .ref v9, .int l4, .ref v8]) hm dX13_stands_112 rfl ?_
        replace hf := mx_sv_el hf; obtain ⟨v10, e_v10, hf⟩ := hf
        refine sx_ald hm dX13_stands_114 e_v10 ?_
        clear e_v10
        replace hf := mx_sv_el hf; obtain ⟨h11, e_h11, hf⟩ := hf
        refine sx_ast hm dX13_stands_115 e_h11 ?_
        clear e_h11
        refine mx_S.pu (pc2 := 117) (lv2 := [(0, .ref l0), (1, .int l1), (2, .int l2), (3, .int l3), (4, .int l4), (5, .int l5)]) (st2 := [.ref l0]) hm dX13_stands_116 rfl ?_
        replace hf := mx_sv_el hf; obtain ⟨v12, e_v12, hf⟩ := hf
        refine sx_get hm dX13_stands_117 rs_RX13_184 (xgr_el e_v12) ?_
        clear e_v12
        refine mx_S.pu (pc2 := 122) (lv2 := [(0, .ref l0), (1, .int l1), (2, .int l2), (3, .int l3), (4, .int l4), (5, .int l5)]) (st2 := [.int l4, .ref v12]) hm dX13_stands_120 rfl ?_
        refine mx_S.pu (pc2 := 123) (lv2 := [(0, .ref l0), (1, .int l1), (2, .int l2), (3, .int l3), (4, .int l4), (5, .int l5)]) (st2 := [.ref l0, .int l4, .ref v12]) hm dX13_stands_122 rfl ?_
        replace hf := mx_sv_el hf; obtain ⟨v13, e_v13, hf⟩ := hf
        refine sx_get hm dX13_stands_123 rs_RX13_184 (xgr_el e_v13) ?_
        clear e_v13
        refine mx_S.pu (pc2 := 128) (lv2 := [(0, .ref l0), (1, .int l1), (2, .int l2), (3, .int l3), (4, .int l4), (5, .int l5)]) (st2 := [.int l5, .ref v13, .int l4, .ref v12]) hm dX13_stands_126 rfl ?_
        replace hf := mx_sv_el hf; obtain ⟨v14, e_v14, hf⟩ := hf
        refine sx_ald hm dX13_stands_128 e_v14 ?_
        clear e_v14
        replace hf := mx_sv_el hf; obtain ⟨h15, e_h15, hf⟩ := hf
        refine sx_ast hm dX13_stands_129 e_h15 ?_
        clear e_h15
        replace hf := xl_el hf; obtain ⟨v16, e_v16, hf⟩ := hf
        refine mx_S.pu (pc2 := 133) (lv2 := [(4, .int v16), (0, .ref l0), (1, .int l1), (2, .int l2), (3, .int l3), (5, .int l5)]) (st2 := []) hm dX13_stands_130 (by rw [← e_v16]; rfl) ?_
        clear e_v16
        replace hf := xl_el hf; obtain ⟨v17, e_v17, hf⟩ := hf
        refine mx_S.pu (pc2 := 136) (lv2 := [(5, .int v17), (4, .int v16), (0, .ref l0), (1, .int l1), (2, .int l2), (3, .int l3)]) (st2 := []) hm dX13_stands_133 (by rw [← e_v17]; rfl) ?_
        clear e_v17
        refine mx_S.pu (pc2 := 8) (lv2 := [(5, .int v17), (4, .int v16), (0, .ref l0), (1, .int l1), (2, .int l2), (3, .int l3)]) (st2 := []) hm dX13_stands_136 rfl ?_
        refine mx_S.ext [(0, .ref l0), (1, .int l1), (2, .int l2), (3, .int l3), (4, .int v16), (5, .int v17)] (mx_sub_pos [2, 3, 4, 5, 1, 0] rfl (show ([5, 4, 0, 1, 2, 3] : List Nat).Nodup by decide)) ?_
        exact ih l0 l1 l2 l3 v16 v17 h15 _ hf
      · refine sb_ic_ne hm dX13_stands_25 (tgt := 102) rfl (fun z => absurd z c40) (fun _ => ?_)
        refine sx_ic (v := 1) hm dX13_stands_28 (by decide) ?_
        refine mx_S.pu (pc2 := 30) (lv2 := [(3, .int 1), (0, .ref l0), (1, .int l1), (2, .int l2), (4, .int l4), (5, .int l5)]) (st2 := []) hm dX13_stands_29 rfl ?_
        refine mx_S.pu (pc2 := 31) (lv2 := [(3, .int 1), (0, .ref l0), (1, .int l1), (2, .int l2), (4, .int l4), (5, .int l5)]) (st2 := [.int l2]) hm dX13_stands_30 rfl ?_
        refine mx_S.pu (pc2 := 32) (lv2 := [(3, .int 1), (0, .ref l0), (1, .int l1), (2, .int l2), (4, .int l4), (5, .int l5)]) (st2 := [.ref l0, .int l2]) hm dX13_stands_31 rfl ?_
        replace hf := mx_sv_el hf; obtain ⟨v18, e_v18, hf⟩ := hf
        refine sx_get hm dX13_stands_32 rs_RX13_181 (xgr_el e_v18) ?_
        clear e_v18
        refine mx_S.pu (pc2 := 37) (lv2 := [(3, .int 1), (0, .ref l0), (1, .int l1), (2, .int l2), (4, .int l4), (5, .int l5)]) (st2 := [.int l5, .ref v18, .int l2]) hm dX13_stands_35 rfl ?_
        replace hf := mx_sv_el hf; obtain ⟨v19, e_v19, hf⟩ := hf
        refine sx_ald hm dX13_stands_37 e_v19 ?_
        clear e_v19
        replace hf := xl_el hf; obtain ⟨v20, e_v20, hf⟩ := hf
        refine mx_S.pu (pc2 := 39) (lv2 := [(3, .int 1), (0, .ref l0), (1, .int l1), (2, .int l2), (4, .int l4), (5, .int l5)]) (st2 := [.int v20]) hm dX13_stands_38 (by rw [← e_v20]; rfl) ?_
        clear e_v20
        refine mx_S.pu (pc2 := 41) (lv2 := [(6, .int v20), (3, .int 1), (0, .ref l0), (1, .int l1), (2, .int l2), (4, .int l4), (5, .int l5)]) (st2 := []) hm dX13_stands_39 rfl ?_
        refine mx_S.pu (pc2 := 42) (lv2 := [(6, .int v20), (3, .int 1), (0, .ref l0), (1, .int l1), (2, .int l2), (4, .int l4), (5, .int l5)]) (st2 := [.ref l0]) hm dX13_stands_41 rfl ?_
        replace hf := mx_sv_el hf; obtain ⟨v21, e_v21, hf⟩ := hf
        refine sx_get hm dX13_stands_42 rs_RX13_181 (xgr_el e_v21) ?_
        clear e_v21
        refine mx_S.pu (pc2 := 47) (lv2 := [(6, .int v20), (3, .int 1), (0, .ref l0), (1, .int l1), (2, .int l2), (4, .int l4), (5, .int l5)]) (st2 := [.int l5, .ref v21]) hm dX13_stands_45 rfl ?_
        replace hf := mx_sv_el hf; obtain ⟨v22, e_v22, hf⟩ := hf
        refine sx_ald hm dX13_stands_47 e_v22 ?_
        clear e_v22
        refine sx_ic (v := 2) hm dX13_stands_48 (by decide) ?_
        replace hf := xl_el hf; obtain ⟨v23, e_v23, hf⟩ := hf
        refine mx_S.pu (pc2 := 50) (lv2 := [(6, .int v20), (3, .int 1), (0, .ref l0), (1, .int l1), (2, .int l2), (4, .int l4), (5, .int l5)]) (st2 := [.int v23]) hm dX13_stands_49 (by rw [← e_v23]; rfl) ?_
        clear e_v23
        refine sx_si (v := 12000) hm dX13_stands_50 (by decide) ?_
        rcases mx_if_el hf with ⟨c39, hf⟩ | ⟨c39, hf⟩
        · refine sb_ic_ge hm dX13_stands_53 (tgt := 99) rfl (fun _ => ?_) (fun z => absurd c39 z)
          refine mx_S.pu (pc2 := 133) (lv2 := [(6, .int v20), (3, .int 1), (0, .ref l0), (1, .int l1), (2, .int l2), (4, .int l4), (5, .int l5)]) (st2 := []) hm dX13_stands_99 rfl ?_
          replace hf := xl_el hf; obtain ⟨v24, e_v24, hf⟩ := hf
          refine mx_S.pu (pc2 := 136) (lv2 := [(5, .int v24), (6, .int v20), (3, .int 1), (0, .ref l0), (1, .int l1), (2, .int l2), (4, .int l4)]) (st2 := []) hm dX13_stands_133 (by rw [← e_v24]; rfl) ?_
          clear e_v24
          refine mx_S.pu (pc2 := 8) (lv2 := [(5, .int v24), (6, .int v20), (3, .int 1), (0, .ref l0), (1, .int l1), (2, .int l2), (4, .int l4)]) (st2 := []) hm dX13_stands_136 rfl ?_
          refine mx_S.ext [(0, .ref l0), (1, .int l1), (2, .int l2), (3, .int 1), (4, .int l4), (5, .int v24)] (mx_sub_pos [3, 4, 5, 2, 6, 0] rfl (show ([5, 6, 3, 0, 1, 2, 4] : List Nat).Nodup by decide)) ?_
          exact ih l0 l1 l2 1 l4 v24 h _ hf
        · refine sb_ic_ge hm dX13_stands_53 (tgt := 99) rfl (fun z => absurd z c39) (fun _ => ?_)
          refine mx_S.pu (pc2 := 57) (lv2 := [(6, .int v20), (3, .int 1), (0, .ref l0), (1, .int l1), (2, .int l2), (4, .int l4), (5, .int l5)]) (st2 := [.ref l0]) hm dX13_stands_56 rfl ?_
          replace hf := mx_sv_el hf; obtain ⟨v25, e_v25, hf⟩ := hf
          refine sx_get hm dX13_stands_57 rs_RX13_147 (xgr_el e_v25) ?_
          clear e_v25
          refine mx_S.pu (pc2 := 61) (lv2 := [(6, .int v20), (3, .int 1), (0, .ref l0), (1, .int l1), (2, .int l2), (4, .int l4), (5, .int l5)]) (st2 := [.ref l0, .ref v25]) hm dX13_stands_60 rfl ?_
          replace hf := mx_sv_el hf; obtain ⟨v26, e_v26, hf⟩ := hf
          refine sx_get hm dX13_stands_61 rs_RX13_181 (xgr_el e_v26) ?_
          clear e_v26
          refine mx_S.pu (pc2 := 66) (lv2 := [(6, .int v20), (3, .int 1), (0, .ref l0), (1, .int l1), (2, .int l2), (4, .int l4), (5, .int l5)]) (st2 := [.int l5, .ref v26, .ref v25]) hm dX13_stands_64 rfl ?_
          replace hf := mx_sv_el hf; obtain ⟨v27, e_v27, hf⟩ := hf
          refine sx_ald hm dX13_stands_66 e_v27 ?_
          clear e_v27
          refine sx_ic (v := 1) hm dX13_stands_67 (by decide) ?_
          replace hf := xl_el hf; obtain ⟨v28, e_v28, hf⟩ := hf
          refine mx_S.pu (pc2 := 69) (lv2 := [(6, .int v20), (3, .int 1), (0, .ref l0), (1, .int l1), (2, .int l2), (4, .int l4), (5, .int l5)]) (st2 := [.int v28, .ref v25]) hm dX13_stands_68 (by rw [← e_v28]; rfl) ?_
          clear e_v28
          refine mx_S.pu (pc2 := 71) (lv2 := [(6, .int v20), (3, .int 1), (0, .ref l0), (1, .int l1), (2, .int l2), (4, .int l4), (5, .int l5)]) (st2 := [.int v20, .int v28, .ref v25]) hm dX13_stands_69 rfl ?_
          refine sx_bi (v := 8) hm dX13_stands_71 (by decide) ?_
          replace hf := xl_el hf; obtain ⟨v29, e_v29, hf⟩ := hf
          refine mx_S.pu (pc2 := 74) (lv2 := [(6, .int v20), (3, .int 1), (0, .ref l0), (1, .int l1), (2, .int l2), (4, .int l4), (5, .int l5)]) (st2 := [.int v29, .int v28, .ref v25]) hm dX13_stands_73 (by rw [← e_v29]; rfl) ?_
          clear e_v29
          refine sx_si (v := 255) hm dX13_stands_74 (by decide) ?_
          replace hf := xl_el hf; obtain ⟨v30, e_v30, hf⟩ := hf
          refine mx_S.pu (pc2 := 78) (lv2 := [(6, .int v20), (3, .int 1), (0, .ref l0), (1, .int l1), (2, .int l2), (4, .int l4), (5, .int l5)]) (st2 := [.int v30, .int v28, .ref v25]) hm dX13_stands_77 (by rw [← e_v30]; rfl) ?_
          clear e_v30
          replace hf := mx_sv_el hf; obtain ⟨h31, e_h31, hf⟩ := hf
          refine sx_ast hm dX13_stands_78 e_h31 ?_
          clear e_h31
          refine mx_S.pu (pc2 := 80) (lv2 := [(6, .int v20), (3, .int 1), (0, .ref l0), (1, .int l1), (2, .int l2), (4, .int l4), (5, .int l5)]) (st2 := [.ref l0]) hm dX13_stands_79 rfl ?_
          replace hf := mx_sv_el hf; obtain ⟨v32, e_v32, hf⟩ := hf
          refine sx_get hm dX13_stands_80 rs_RX13_147 (xgr_el e_v32) ?_
          clear e_v32
          refine mx_S.pu (pc2 := 84) (lv2 := [(6, .int v20), (3, .int 1), (0, .ref l0), (1, .int l1), (2, .int l2), (4, .int l4), (5, .int l5)]) (st2 := [.ref l0, .ref v32]) hm dX13_stands_83 rfl ?_
          replace hf := mx_sv_el hf; obtain ⟨v33, e_v33, hf⟩ := hf
          refine sx_get hm dX13_stands_84 rs_RX13_181 (xgr_el e_v33) ?_
          clear e_v33
          refine mx_S.pu (pc2 := 89) (lv2 := [(6, .int v20), (3, .int 1), (0, .ref l0), (1, .int l1), (2, .int l2), (4, .int l4), (5, .int l5)]) (st2 := [.int l5, .ref v33, .ref v32]) hm dX13_stands_87 rfl ?_
          replace hf := mx_sv_el hf; obtain ⟨v34, e_v34, hf⟩ := hf
          refine sx_ald hm dX13_stands_89 e_v34 ?_
          clear e_v34
          refine sx_ic (v := 2) hm dX13_stands_90 (by decide) ?_
          replace hf := xl_el hf; obtain ⟨v35, e_v35, hf⟩ := hf
          refine mx_S.pu (pc2 := 92) (lv2 := [(6, .int v20), (3, .int 1), (0, .ref l0), (1, .int l1), (2, .int l2), (4, .int l4), (5, .int l5)]) (st2 := [.int v35, .ref v32]) hm dX13_stands_91 (by rw [← e_v35]; rfl) ?_
          clear e_v35
          refine mx_S.pu (pc2 := 94) (lv2 := [(6, .int v20), (3, .int 1), (0, .ref l0), (1, .int l1), (2, .int l2), (4, .int l4), (5, .int l5)]) (st2 := [.int v20, .int v35, .ref v32]) hm dX13_stands_92 rfl ?_
          refine sx_si (v := 255) hm dX13_stands_94 (by decide) ?_
          replace hf := xl_el hf; obtain ⟨v36, e_v36, hf⟩ := hf
          refine mx_S.pu (pc2 := 98) (lv2 := [(6, .int v20), (3, .int 1), (0, .ref l0), (1, .int l1), (2, .int l2), (4, .int l4), (5, .int l5)]) (st2 := [.int v36, .int v35, .ref v32]) hm dX13_stands_97 (by rw [← e_v36]; rfl) ?_
          clear e_v36
          replace hf := mx_sv_el hf; obtain ⟨h37, e_h37, hf⟩ := hf
          refine sx_ast hm dX13_stands_98 e_h37 ?_
          clear e_h37
          refine mx_S.pu (pc2 := 133) (lv2 := [(6, .int v20), (3, .int 1), (0, .ref l0), (1, .int l1), (2, .int l2), (4, .int l4), (5, .int l5)]) (st2 := []) hm dX13_stands_99 rfl ?_
          replace hf := xl_el hf; obtain ⟨v38, e_v38, hf⟩ := hf
          refine mx_S.pu (pc2 := 136) (lv2 := [(5, .int v38), (6, .int v20), (3, .int 1), (0, .ref l0), (1, .int l1), (2, .int l2), (4, .int l4)]) (st2 := []) hm dX13_stands_133 (by rw [← e_v38]; rfl) ?_
          clear e_v38
          refine mx_S.pu (pc2 := 8) (lv2 := [(5, .int v38), (6, .int v20), (3, .int 1), (0, .ref l0), (1, .int l1), (2, .int l2), (4, .int l4)]) (st2 := []) hm dX13_stands_136 rfl ?_
          refine mx_S.ext [(0, .ref l0), (1, .int l1), (2, .int l2), (3, .int 1), (4, .int l4), (5, .int v38)] (mx_sub_pos [3, 4, 5, 2, 6, 0] rfl (show ([5, 6, 3, 0, 1, 2, 4] : List Nat).Nodup by decide)) ?_
          exact ih l0 l1 l2 1 l4 v38 h37 _ hf
set_option maxHeartbeats 4000000 in
set_option maxRecDepth 20000 in
theorem f_X13_stands_ok (X : Nat × (Nat → Int32)) {F L : Nat} (hF : 1 ≤ F) (hL : 24 ≤ L) (nn : Nat) (a0 : Nat) (a1 : Int32) (a2 : Int32) (h : mx_H) {r : mx_H} (hf : f_X13_stands nn a0 a1 a2 h = some r) : mx_R X F L 462 [.ref a0, .int a1, .int a2] h (none, r, 0, 0) := by
  have hm : mx_mt 462 = some (yX13_stands, cX13_stands, 7, none) := mt_X13_stands
  show mx_S X F L 462 0 [(0, .ref a0), (1, .int a1), (2, .int a2)] [] h 0 0 (none, r, 0, 0)
  unfold f_X13_stands at hf
  refine sx_ic (v := 0) hm dX13_stands_0 (by decide) ?_
  refine mx_S.pu (pc2 := 2) (lv2 := [(3, .int 0), (0, .ref a0), (1, .int a1), (2, .int a2)]) (st2 := []) hm dX13_stands_1 rfl ?_
  refine sx_ic (v := 0) hm dX13_stands_2 (by decide) ?_
  refine mx_S.pu (pc2 := 5) (lv2 := [(4, .int 0), (3, .int 0), (0, .ref a0), (1, .int a1), (2, .int a2)]) (st2 := []) hm dX13_stands_3 rfl ?_
  refine sx_ic (v := 0) hm dX13_stands_5 (by decide) ?_
  refine mx_S.pu (pc2 := 8) (lv2 := [(5, .int 0), (4, .int 0), (3, .int 0), (0, .ref a0), (1, .int a1), (2, .int a2)]) (st2 := []) hm dX13_stands_6 rfl ?_
  refine mx_S.ext [(0, .ref a0), (1, .int a1), (2, .int a2), (3, .int 0), (4, .int 0), (5, .int 0)] (mx_sub_pos [3, 4, 5, 2, 1, 0] rfl (show ([5, 4, 3, 0, 1, 2] : List Nat).Nodup by decide)) ?_
  exact w_X13_stands_8_ok X hF hL nn nn a0 a1 a2 0 0 0 h _ hf
set_option maxHeartbeats 4000000 in
set_option maxRecDepth 20000 in
theorem f_X13_truth_ok (X : Nat × (Nat → Int32)) {F L : Nat} (hF : 2 ≤ F) (hL : 81 ≤ L) (nn : Nat) (a0 : Nat) (a1 : Int32) (a2 : Int32) (h : mx_H) {r : mx_H} (hf : f_X13_truth nn a0 a1 a2 h = some r) : mx_R X F L 477 [.ref a0, .int a1, .int a2] h (none, r, 0, 0) := by
  have hm : mx_mt 477 = some (yX13_truth, cX13_truth, 5, none) := mt_X13_truth
  show mx_S X F L 477 0 [(0, .ref a0), (1, .int a1), (2, .int a2)] [] h 0 0 (none, r, 0, 0)
  unfold f_X13_truth at hf
  refine mx_S.pu (pc2 := 1) (lv2 := [(0, .ref a0), (1, .int a1), (2, .int a2)]) (st2 := [.ref a0]) hm dX13_truth_0 rfl ?_
  replace hf := mx_gd_el hf; obtain ⟨c1, hf⟩ := hf
  replace hf := mx_sv_el hf; obtain ⟨u2, e_u2, hf⟩ := hf
  refine sx_cv hm dX13_truth_1 rs_RX13_676 mt_X13_label [] [] (b := a0) (ci := 13) rfl rfl rfl c1 (Nat.le_of_ble_eq_true rfl) (Nat.le_of_ble_eq_true rfl) (by omega) (by omega) (f_X13_label_ok X (by omega) (by omega) nn a0 h e_u2) ?_
  clear e_u2
  show mx_S X F L 477 4 [(0, .ref a0), (1, .int a1), (2, .int a2)] [.int u2.1] u2.2 0 0 (none, r, 0, 0)
  refine mx_S.pu (pc2 := 5) (lv2 := [(3, .int u2.1), (0, .ref a0), (1, .int a1), (2, .int a2)]) (st2 := []) hm dX13_truth_4 rfl ?_
  refine mx_S.pu (pc2 := 6) (lv2 := [(3, .int u2.1), (0, .ref a0), (1, .int a1), (2, .int a2)]) (st2 := [.ref a0]) hm dX13_truth_5 rfl ?_
  replace hf := mx_gd_el hf; obtain ⟨c3, hf⟩ := hf
  replace hf := mx_sv_el hf; obtain ⟨u4, e_u4, hf⟩ := hf
  refine sx_cv hm dX13_truth_6 rs_RX13_676 mt_X13_label [] [] (b := a0) (ci := 13) rfl rfl rfl c3 (Nat.le_of_ble_eq_true rfl) (Nat.le_of_ble_eq_true rfl) (by omega) (by omega) (f_X13_label_ok X (by omega) (by omega) nn a0 u2.2 e_u4) ?_
  clear e_u4
  show mx_S X F L 477 9 [(3, .int u2.1), (0, .ref a0), (1, .int a1), (2, .int a2)] [.int u4.1] u4.2 0 0 (none, r, 0, 0)
  refine mx_S.pu (pc2 := 11) (lv2 := [(4, .int u4.1), (3, .int u2.1), (0, .ref a0), (1, .int a1), (2, .int a2)]) (st2 := []) hm dX13_truth_9 rfl ?_
  refine mx_S.pu (pc2 := 12) (lv2 := [(4, .int u4.1), (3, .int u2.1), (0, .ref a0), (1, .int a1), (2, .int a2)]) (st2 := [.ref a0]) hm dX13_truth_11 rfl ?_
  refine mx_S.pu (pc2 := 13) (lv2 := [(4, .int u4.1), (3, .int u2.1), (0, .ref a0), (1, .int a1), (2, .int a2)]) (st2 := [.ref a0, .ref a0]) hm dX13_truth_12 rfl ?_
  replace hf := mx_sv_el hf; obtain ⟨v5, e_v5, hf⟩ := hf
  refine sx_get hm dX13_truth_13 rs_RX13_629 (xgi_el e_v5) ?_
  clear e_v5
  refine mx_S.pu (pc2 := 17) (lv2 := [(4, .int u4.1), (3, .int u2.1), (0, .ref a0), (1, .int a1), (2, .int a2)]) (st2 := [.int a2, .int v5, .ref a0]) hm dX13_truth_16 rfl ?_
  replace hf := xl_el hf; obtain ⟨v6, e_v6, hf⟩ := hf
  refine mx_S.pu (pc2 := 18) (lv2 := [(4, .int u4.1), (3, .int u2.1), (0, .ref a0), (1, .int a1), (2, .int a2)]) (st2 := [.int v6, .ref a0]) hm dX13_truth_17 (by rw [← e_v6]; rfl) ?_
  clear e_v6
  replace hf := mx_sv_el hf; obtain ⟨h7, e_h7, hf⟩ := hf
  refine sx_put hm dX13_truth_18 rs_RX13_629 ft_13_70 ⟨rfl, rfl⟩ (fun z => by cases z) e_h7 ?_
  clear e_h7
  refine mx_S.pu (pc2 := 22) (lv2 := [(4, .int u4.1), (3, .int u2.1), (0, .ref a0), (1, .int a1), (2, .int a2)]) (st2 := [.ref a0]) hm dX13_truth_21 rfl ?_
  refine mx_S.pu (pc2 := 23) (lv2 := [(4, .int u4.1), (3, .int u2.1), (0, .ref a0), (1, .int a1), (2, .int a2)]) (st2 := [.int a1, .ref a0]) hm dX13_truth_22 rfl ?_
  refine mx_S.pu (pc2 := 24) (lv2 := [(4, .int u4.1), (3, .int u2.1), (0, .ref a0), (1, .int a1), (2, .int a2)]) (st2 := [.int u2.1, .int a1, .ref a0]) hm dX13_truth_23 rfl ?_
  replace hf := mx_gd_el hf; obtain ⟨c8, hf⟩ := hf
  replace hf := mx_sv_el hf; obtain ⟨u9, e_u9, hf⟩ := hf
  refine sx_cv hm dX13_truth_24 rs_RX13_679 mt_X13_jump [.int a1, .int u2.1] [] (b := a0) (ci := 13) rfl rfl rfl c8 (Nat.le_of_ble_eq_true rfl) (Nat.le_of_ble_eq_true rfl) (by omega) (by omega) (f_X13_jump_ok X (by omega) (by omega) nn a0 a1 u2.1 h7 e_u9) ?_
  clear e_u9
  show mx_S X F L 477 27 [(4, .int u4.1), (3, .int u2.1), (0, .ref a0), (1, .int a1), (2, .int a2)] [] u9 0 0 (none, r, 0, 0)
  refine mx_S.pu (pc2 := 28) (lv2 := [(4, .int u4.1), (3, .int u2.1), (0, .ref a0), (1, .int a1), (2, .int a2)]) (st2 := [.ref a0]) hm dX13_truth_27 rfl ?_
  refine sx_ic (v := 3) hm dX13_truth_28 (by decide) ?_
  replace hf := mx_gd_el hf; obtain ⟨c10, hf⟩ := hf
  replace hf := mx_sv_el hf; obtain ⟨u11, e_u11, hf⟩ := hf
  refine sx_cv hm dX13_truth_29 rs_RX13_646 mt_X13_put [.int 3] [] (b := a0) (ci := 13) rfl rfl rfl c10 (Nat.le_of_ble_eq_true rfl) (Nat.le_of_ble_eq_true rfl) (by omega) (by omega) (f_X13_put_ok X (by omega) (by omega) nn a0 3 u9 e_u11) ?_
  clear e_u11
  show mx_S X F L 477 32 [(4, .int u4.1), (3, .int u2.1), (0, .ref a0), (1, .int a1), (2, .int a2)] [] u11 0 0 (none, r, 0, 0)
  refine mx_S.pu (pc2 := 33) (lv2 := [(4, .int u4.1), (3, .int u2.1), (0, .ref a0), (1, .int a1), (2, .int a2)]) (st2 := [.ref a0]) hm dX13_truth_32 rfl ?_
  refine sx_ic (v := 0) hm dX13_truth_33 (by decide) ?_
  replace hf := mx_gd_el hf; obtain ⟨c12, hf⟩ := hf
  replace hf := mx_sv_el hf; obtain ⟨u13, e_u13, hf⟩ := hf
  refine sx_cv hm dX13_truth_34 rs_RX13_640 mt_X13_push [.int 0] [] (b := a0) (ci := 13) rfl rfl rfl c12 (Nat.le_of_ble_eq_true rfl) (Nat.le_of_ble_eq_true rfl) (by omega) (by omega) (f_X13_push_ok X (by omega) (by omega) nn a0 0 u11 e_u13) ?_
  clear e_u13
  show mx_S X F L 477 37 [(4, .int u4.1), (3, .int u2.1), (0, .ref a0), (1, .int a1), (2, .int a2)] [] u13 0 0 (none, r, 0, 0)
  refine mx_S.pu (pc2 := 38) (lv2 := [(4, .int u4.1), (3, .int u2.1), (0, .ref a0), (1, .int a1), (2, .int a2)]) (st2 := [.ref a0]) hm dX13_truth_37 rfl ?_
  refine mx_S.pu (pc2 := 39) (lv2 := [(4, .int u4.1), (3, .int u2.1), (0, .ref a0), (1, .int a1), (2, .int a2)]) (st2 := [.ref a0, .ref a0]) hm dX13_truth_38 rfl ?_
  replace hf := mx_sv_el hf; obtain ⟨v14, e_v14, hf⟩ := hf
  refine sx_get hm dX13_truth_39 rs_RX13_629 (xgi_el e_v14) ?_
  clear e_v14
  refine sx_ic (v := 1) hm dX13_truth_42 (by decide) ?_
  replace hf := xl_el hf; obtain ⟨v15, e_v15, hf⟩ := hf
  refine mx_S.pu (pc2 := 44) (lv2 := [(4, .int u4.1), (3, .int u2.1), (0, .ref a0), (1, .int a1), (2, .int a2)]) (st2 := [.int v15, .ref a0]) hm dX13_truth_43 (by rw [← e_v15]; rfl) ?_
  clear e_v15
  replace hf := mx_sv_el hf; obtain ⟨h16, e_h16, hf⟩ := hf
  refine sx_put hm dX13_truth_44 rs_RX13_629 ft_13_70 ⟨rfl, rfl⟩ (fun z => by cases z) e_h16 ?_
  clear e_h16
  refine mx_S.pu (pc2 := 48) (lv2 := [(4, .int u4.1), (3, .int u2.1), (0, .ref a0), (1, .int a1), (2, .int a2)]) (st2 := [.ref a0]) hm dX13_truth_47 rfl ?_
  refine sx_si (v := 167) hm dX13_truth_48 (by decide) ?_
  refine mx_S.pu (pc2 := 53) (lv2 := [(4, .int u4.1), (3, .int u2.1), (0, .ref a0), (1, .int a1), (2, .int a2)]) (st2 := [.int u4.1, .int 167, .ref a0]) hm dX13_truth_51 rfl ?_
  replace hf := mx_gd_el hf; obtain ⟨c17, hf⟩ := hf
  replace hf := mx_sv_el hf; obtain ⟨u18, e_u18, hf⟩ := hf
  refine sx_cv hm dX13_truth_53 rs_RX13_679 mt_X13_jump [.int 167, .int u4.1] [] (b := a0) (ci := 13) rfl rfl rfl c17 (Nat.le_of_ble_eq_true rfl) (Nat.le_of_ble_eq_true rfl) (by omega) (by omega) (f_X13_jump_ok X (by omega) (by omega) nn a0 167 u4.1 h16 e_u18) ?_
  clear e_u18
  show mx_S X F L 477 56 [(4, .int u4.1), (3, .int u2.1), (0, .ref a0), (1, .int a1), (2, .int a2)] [] u18 0 0 (none, r, 0, 0)
  refine mx_S.pu (pc2 := 57) (lv2 := [(4, .int u4.1), (3, .int u2.1), (0, .ref a0), (1, .int a1), (2, .int a2)]) (st2 := [.ref a0]) hm dX13_truth_56 rfl ?_
  refine mx_S.pu (pc2 := 58) (lv2 := [(4, .int u4.1), (3, .int u2.1), (0, .ref a0), (1, .int a1), (2, .int a2)]) (st2 := [.int u2.1, .ref a0]) hm dX13_truth_57 rfl ?_
  refine mx_S.pu (pc2 := 59) (lv2 := [(4, .int u4.1), (3, .int u2.1), (0, .ref a0), (1, .int a1), (2, .int a2)]) (st2 := [.ref a0, .int u2.1, .ref a0]) hm dX13_truth_58 rfl ?_
  replace hf := mx_sv_el hf; obtain ⟨v19, e_v19, hf⟩ := hf
  refine sx_get hm dX13_truth_59 rs_RX13_627 (xgi_el e_v19) ?_
  clear e_v19
  replace hf := mx_gd_el hf; obtain ⟨c20, hf⟩ := hf
  replace hf := mx_sv_el hf; obtain ⟨u21, e_u21, hf⟩ := hf
  refine sx_cv hm dX13_truth_62 rs_RX13_682 mt_X13_stands [.int u2.1, .int v19] [] (b := a0) (ci := 13) rfl rfl rfl c20 (Nat.le_of_ble_eq_true rfl) (Nat.le_of_ble_eq_true rfl) (by omega) (by omega) (f_X13_stands_ok X (by omega) (by omega) nn a0 u2.1 v19 u18 e_u21) ?_
  clear e_u21
  show mx_S X F L 477 65 [(4, .int u4.1), (3, .int u2.1), (0, .ref a0), (1, .int a1), (2, .int a2)] [] u21 0 0 (none, r, 0, 0)
  refine mx_S.pu (pc2 := 66) (lv2 := [(4, .int u4.1), (3, .int u2.1), (0, .ref a0), (1, .int a1), (2, .int a2)]) (st2 := [.ref a0]) hm dX13_truth_65 rfl ?_
  refine sx_ic (v := 4) hm dX13_truth_66 (by decide) ?_
  replace hf := mx_gd_el hf; obtain ⟨c22, hf⟩ := hf
  replace hf := mx_sv_el hf; obtain ⟨u23, e_u23, hf⟩ := hf
  refine sx_cv hm dX13_truth_67 rs_RX13_646 mt_X13_put [.int 4] [] (b := a0) (ci := 13) rfl rfl rfl c22 (Nat.le_of_ble_eq_true rfl) (Nat.le_of_ble_eq_true rfl) (by omega) (by omega) (f_X13_put_ok X (by omega) (by omega) nn a0 4 u21 e_u23) ?_
  clear e_u23
  show mx_S X F L 477 70 [(4, .int u4.1), (3, .int u2.1), (0, .ref a0), (1, .int a1), (2, .int a2)] [] u23 0 0 (none, r, 0, 0)
  refine mx_S.pu (pc2 := 71) (lv2 := [(4, .int u4.1), (3, .int u2.1), (0, .ref a0), (1, .int a1), (2, .int a2)]) (st2 := [.ref a0]) hm dX13_truth_70 rfl ?_
  refine sx_ic (v := 1) hm dX13_truth_71 (by decide) ?_
  replace hf := mx_gd_el hf; obtain ⟨c24, hf⟩ := hf
  replace hf := mx_sv_el hf; obtain ⟨u25, e_u25, hf⟩ := hf
  refine sx_cv hm dX13_truth_72 rs_RX13_640 mt_X13_push [.int 1] [] (b := a0) (ci := 13) rfl rfl rfl c24 (Nat.le_of_ble_eq_true rfl) (Nat.le_of_ble_eq_true rfl) (by omega) (by omega) (f_X13_push_ok X (by omega) (by omega) nn a0 1 u23 e_u25) ?_
  clear e_u25
  show mx_S X F L 477 75 [(4, .int u4.1), (3, .int u2.1), (0, .ref a0), (1, .int a1), (2, .int a2)] [] u25 0 0 (none, r, 0, 0)
  refine mx_S.pu (pc2 := 76) (lv2 := [(4, .int u4.1), (3, .int u2.1), (0, .ref a0), (1, .int a1), (2, .int a2)]) (st2 := [.ref a0]) hm dX13_truth_75 rfl ?_
  refine mx_S.pu (pc2 := 78) (lv2 := [(4, .int u4.1), (3, .int u2.1), (0, .ref a0), (1, .int a1), (2, .int a2)]) (st2 := [.int u4.1, .ref a0]) hm dX13_truth_76 rfl ?_
  refine mx_S.pu (pc2 := 79) (lv2 := [(4, .int u4.1), (3, .int u2.1), (0, .ref a0), (1, .int a1), (2, .int a2)]) (st2 := [.ref a0, .int u4.1, .ref a0]) hm dX13_truth_78 rfl ?_
  replace hf := mx_sv_el hf; obtain ⟨v26, e_v26, hf⟩ := hf
  refine sx_get hm dX13_truth_79 rs_RX13_627 (xgi_el e_v26) ?_
  clear e_v26
  replace hf := mx_gd_el hf; obtain ⟨c27, hf⟩ := hf
  replace hf := mx_sv_el hf; obtain ⟨u28, e_u28, hf⟩ := hf
  refine sx_cv hm dX13_truth_82 rs_RX13_682 mt_X13_stands [.int u4.1, .int v26] [] (b := a0) (ci := 13) rfl rfl rfl c27 (Nat.le_of_ble_eq_true rfl) (Nat.le_of_ble_eq_true rfl) (by omega) (by omega) (f_X13_stands_ok X (by omega) (by omega) nn a0 u4.1 v26 u25 e_u28) ?_
  clear e_u28
  show mx_S X F L 477 85 [(4, .int u4.1), (3, .int u2.1), (0, .ref a0), (1, .int a1), (2, .int a2)] [] u28 0 0 (none, r, 0, 0)
  cases hf
  exact sx_ret hm dX13_truth_85 rfl
set_option maxHeartbeats 4000000 in
set_option maxRecDepth 20000 in
theorem f_X13_turn_ok (X : Nat × (Nat → Int32)) {F L : Nat} (hF : 2 ≤ F) (hL : 81 ≤ L) (nn : Nat) (a0 : Nat) (a1 : Int32) (a2 : Int32) (h : mx_H) {r : mx_H} (hf : f_X13_turn nn a0 a1 a2 h = some r) : mx_R X F L 460 [.ref a0, .int a1, .int a2] h (none, r, 0, 0) := by
  have hm : mx_mt 460 = some (yX13_turn, cX13_turn, 3, none) := mt_X13_turn
  show mx_S X F L 460 0 [(0, .ref a0), (1, .int a1), (2, .int a2)] [] h 0 0 (none, r, 0, 0)
  unfold f_X13_turn at hf
  refine mx_S.pu (pc2 := 1) (lv2 := [(0, .ref a0), (1, .int a1), (2, .int a2)]) (st2 := [.ref a0]) hm dX13_turn_0 rfl ?_
  refine mx_S.pu (pc2 := 2) (lv2 := [(0, .ref a0), (1, .int a1), (2, .int a2)]) (st2 := [.ref a0, .ref a0]) hm dX13_turn_1 rfl ?_
  replace hf := mx_sv_el hf; obtain ⟨v1, e_v1, hf⟩ := hf
  refine sx_get hm dX13_turn_2 rs_RX13_629 (xgi_el e_v1) ?_
  clear e_v1
  refine mx_S.pu (pc2 := 6) (lv2 := [(0, .ref a0), (1, .int a1), (2, .int a2)]) (st2 := [.int a1, .int v1, .ref a0]) hm dX13_turn_5 rfl ?_
  replace hf := xl_el hf; obtain ⟨v2, e_v2, hf⟩ := hf
  refine mx_S.pu (pc2 := 7) (lv2 := [(0, .ref a0), (1, .int a1), (2, .int a2)]) (st2 := [.int v2, .ref a0]) hm dX13_turn_6 (by rw [← e_v2]; rfl) ?_
  clear e_v2
  replace hf := mx_sv_el hf; obtain ⟨h3, e_h3, hf⟩ := hf
  refine sx_put hm dX13_turn_7 rs_RX13_629 ft_13_70 ⟨rfl, rfl⟩ (fun z => by cases z) e_h3 ?_
  clear e_h3
  refine mx_S.pu (pc2 := 11) (lv2 := [(0, .ref a0), (1, .int a1), (2, .int a2)]) (st2 := [.int a2]) hm dX13_turn_10 rfl ?_
  refine sx_ic (v := 3) hm dX13_turn_11 (by decide) ?_
  rcases mx_if_el hf with ⟨c6, hf⟩ | ⟨c6, hf⟩
  · refine sb_ic_eq hm dX13_turn_12 (tgt := 20) rfl (fun _ => ?_) (fun z => absurd c6 z)
    cases hf
    exact sx_ret hm dX13_turn_20 rfl
  · refine sb_ic_eq hm dX13_turn_12 (tgt := 20) rfl (fun z => absurd z c6) (fun _ => ?_)
    refine mx_S.pu (pc2 := 16) (lv2 := [(0, .ref a0), (1, .int a1), (2, .int a2)]) (st2 := [.ref a0]) hm dX13_turn_15 rfl ?_
    refine mx_S.pu (pc2 := 17) (lv2 := [(0, .ref a0), (1, .int a1), (2, .int a2)]) (st2 := [.int a2, .ref a0]) hm dX13_turn_16 rfl ?_
    replace hf := mx_gd_el hf; obtain ⟨c4, hf⟩ := hf
    replace hf := mx_sv_el hf; obtain ⟨u5, e_u5, hf⟩ := hf
    refine sx_cv hm dX13_turn_17 rs_RX13_640 mt_X13_push [.int a2] [] (b := a0) (ci := 13) rfl rfl rfl c4 (Nat.le_of_ble_eq_true rfl) (Nat.le_of_ble_eq_true rfl) (by omega) (by omega) (f_X13_push_ok X (by omega) (by omega) nn a0 a2 h3 e_u5) ?_
    clear e_u5
    show mx_S X F L 460 20 [(0, .ref a0), (1, .int a1), (2, .int a2)] [] u5 0 0 (none, r, 0, 0)
    cases hf
    exact sx_ret hm dX13_turn_20 rfl
set_option maxHeartbeats 4000000 in
set_option maxRecDepth 20000 in
theorem f_X13_operation_ok (X : Nat × (Nat → Int32)) {F L : Nat} (hF : 1 ≤ F) (hL : 22 ≤ L) (nn : Nat) (a0 : Int32) (h : mx_H) {r : (Int32 × mx_H)} (hf : f_X13_operation nn a0 h = some r) : mx_R X F L 479 [.int a0] h (some (.int r.1), r.2, 0, 0) := by
  have hm : mx_mt 479 = some (yX13_operation, cX13_operation, 1, (some .int)) := mt_X13_operation
  show mx_S X F L 479 0 [(0, .int a0)] [] h 0 0 (some (.int r.1), r.2, 0, 0)
  unfold f_X13_operation at hf
  refine mx_S.pu (pc2 := 1) (lv2 := [(0, .int a0)]) (st2 := [.int a0]) hm dX13_operation_0 rfl ?_
  refine sx_bi (v := 43) hm dX13_operation_1 (by decide) ?_
  rcases mx_if_el hf with ⟨c12, hf⟩ | ⟨c12, hf⟩
  · refine sb_ic_ne hm dX13_operation_3 (tgt := 9) rfl (fun _ => ?_) (fun z => absurd c12 z)
    refine mx_S.pu (pc2 := 10) (lv2 := [(0, .int a0)]) (st2 := [.int a0]) hm dX13_operation_9 rfl ?_
    refine sx_bi (v := 45) hm dX13_operation_10 (by decide) ?_
    rcases mx_if_el hf with ⟨c11, hf⟩ | ⟨c11, hf⟩
    · refine sb_ic_ne hm dX13_operation_12 (tgt := 18) rfl (fun _ => ?_) (fun z => absurd c11 z)
      refine mx_S.pu (pc2 := 19) (lv2 := [(0, .int a0)]) (st2 := [.int a0]) hm dX13_operation_18 rfl ?_
      refine sx_bi (v := 42) hm dX13_operation_19 (by decide) ?_
      rcases mx_if_el hf with ⟨c10, hf⟩ | ⟨c10, hf⟩
      · refine sb_ic_ne hm dX13_operation_21 (tgt := 27) rfl (fun _ => ?_) (fun z => absurd c10 z)
        refine mx_S.pu (pc2 := 28) (lv2 := [(0, .int a0)]) (st2 := [.int a0]) hm dX13_operation_27 rfl ?_
        refine sx_bi (v := 47) hm dX13_operation_28 (by decide) ?_
        rcases mx_if_el hf with ⟨c9, hf⟩ | ⟨c9, hf⟩
        · refine sb_ic_ne hm dX13_operation_30 (tgt := 36) rfl (fun _ => ?_) (fun z => absurd c9 z)
          refine mx_S.pu (pc2 := 37) (lv2 := [(0, .int a0)]) (st2 := [.int a0]) hm dX13_operation_36 rfl ?_
          refine sx_bi (v := 37) hm dX13_operation_37 (by decide) ?_
          rcases mx_if_el hf with ⟨c8, hf⟩ | ⟨c8, hf⟩
          · refine sb_ic_ne hm dX13_operation_39 (tgt := 45) rfl (fun _ => ?_) (fun z => absurd c8 z)
            refine mx_S.pu (pc2 := 46) (lv2 := [(0, .int a0)]) (st2 := [.int a0]) hm dX13_operation_45 rfl ?_
            refine sx_bi (v := 38) hm dX13_operation_46 (by decide) ?_
            rcases mx_if_el hf with ⟨c7, hf⟩ | ⟨c7, hf⟩
            · refine sb_ic_ne hm dX13_operation_48 (tgt := 54) rfl (fun _ => ?_) (fun z => absurd c7 z)
              refine mx_S.pu (pc2 := 55) (lv2 := [(0, .int a0)]) (st2 := [.int a0]) hm dX13_operation_54 rfl ?_
              refine sx_bi (v := 124) hm dX13_operation_55 (by decide) ?_
              rcases mx_if_el hf with ⟨c6, hf⟩ | ⟨c6, hf⟩
              · refine sb_ic_ne hm dX13_operation_57 (tgt := 64) rfl (fun _ => ?_) (fun z => absurd c6 z)
                refine mx_S.pu (pc2 := 65) (lv2 := [(0, .int a0)]) (st2 := [.int a0]) hm dX13_operation_64 rfl ?_
                refine sx_bi (v := 94) hm dX13_operation_65 (by decide) ?_
                rcases mx_if_el hf with ⟨c5, hf⟩ | ⟨c5, hf⟩
                · refine sb_ic_ne hm dX13_operation_67 (tgt := 74) rfl (fun _ => ?_) (fun z => absurd c5 z)
                  refine mx_S.pu (pc2 := 75) (lv2 := [(0, .int a0)]) (st2 := [.int a0]) hm dX13_operation_74 rfl ?_
                  refine sx_ic (v := 0) hm dX13_operation_75 (by decide) ?_
                  refine sx_bi (v := 60) hm dX13_operation_76 (by decide) ?_
                  refine sx_bi (v := 60) hm dX13_operation_78 (by decide) ?_
                  replace hf := mx_sv_el hf; obtain ⟨u1, e_u1, hf⟩ := hf
                  refine sx_cs hm dX13_operation_80 rs_RX13_454 mt_X13_sign [.int 0, .int 60, .int 60] [.int a0] rfl rfl (Nat.le_of_ble_eq_true rfl) (Nat.le_of_ble_eq_true rfl) (by omega) (by omega) (f_X13_sign_ok X (by omega) (by omega) nn 0 60 60 h e_u1) ?_
                  clear e_u1
                  show mx_S X F L 479 83 [(0, .int a0)] [.int u1.1, .int a0] u1.2 0 0 (some (.int r.1), r.2, 0, 0)
                  rcases mx_if_el hf with ⟨c4, hf⟩ | ⟨c4, hf⟩
                  · refine sb_ic_ne hm dX13_operation_83 (tgt := 91) rfl (fun _ => ?_) (fun z => absurd c4 z)
                    refine mx_S.pu (pc2 := 92) (lv2 := [(0, .int a0)]) (st2 := [.int a0]) hm dX13_operation_91 rfl ?_
                    refine sx_ic (v := 0) hm dX13_operation_92 (by decide) ?_
                    refine sx_bi (v := 62) hm dX13_operation_93 (by decide) ?_
                    refine sx_bi (v := 62) hm dX13_operation_95 (by decide) ?_
                    replace hf := mx_sv_el hf; obtain ⟨u2, e_u2, hf⟩ := hf
                    refine sx_cs hm dX13_operation_97 rs_RX13_454 mt_X13_sign [.int 0, .int 62, .int 62] [.int a0] rfl rfl (Nat.le_of_ble_eq_true rfl) (Nat.le_of_ble_eq_true rfl) (by omega) (by omega) (f_X13_sign_ok X (by omega) (by omega) nn 0 62 62 u1.2 e_u2) ?_
                    clear e_u2
                    show mx_S X F L 479 100 [(0, .int a0)] [.int u2.1, .int a0] u2.2 0 0 (some (.int r.1), r.2, 0, 0)
                    rcases mx_if_el hf with ⟨c3, hf⟩ | ⟨c3, hf⟩
                    · refine sb_ic_ne hm dX13_operation_100 (tgt := 108) rfl (fun _ => ?_) (fun z => absurd c3 z)
                      refine sx_bi (v := 124) hm dX13_operation_108 (by decide) ?_
                      cases hf
                      exact sx_ire hm dX13_operation_110 rfl rfl
                    · refine sb_ic_ne hm dX13_operation_100 (tgt := 108) rfl (fun z => absurd z c3) (fun _ => ?_)
                      refine sx_bi (v := 122) hm dX13_operation_103 (by decide) ?_
                      refine mx_S.pu (pc2 := 110) (lv2 := [(0, .int a0)]) (st2 := [.int 122]) hm dX13_operation_105 rfl ?_
                      cases hf
                      exact sx_ire hm dX13_operation_110 rfl rfl
                  · refine sb_ic_ne hm dX13_operation_83 (tgt := 91) rfl (fun z => absurd z c4) (fun _ => ?_)
                    refine sx_bi (v := 120) hm dX13_operation_86 (by decide) ?_
                    refine mx_S.pu (pc2 := 110) (lv2 := [(0, .int a0)]) (st2 := [.int 120]) hm dX13_operation_88 rfl ?_
                    cases hf
                    exact sx_ire hm dX13_operation_110 rfl rfl
                · refine sb_ic_ne hm dX13_operation_67 (tgt := 74) rfl (fun z => absurd z c5) (fun _ => ?_)
                  refine sx_si (v := 130) hm dX13_operation_70 (by decide) ?_
                  cases hf
                  exact sx_ire hm dX13_operation_73 rfl rfl
              · refine sb_ic_ne hm dX13_operation_57 (tgt := 64) rfl (fun z => absurd z c6) (fun _ => ?_)
                refine sx_si (v := 128) hm dX13_operation_60 (by decide) ?_
                cases hf
                exact sx_ire hm dX13_operation_63 rfl rfl
            · refine sb_ic_ne hm dX13_operation_48 (tgt := 54) rfl (fun z => absurd z c7) (fun _ => ?_)
              refine sx_bi (v := 126) hm dX13_operation_51 (by decide) ?_
              cases hf
              exact sx_ire hm dX13_operation_53 rfl rfl
          · refine sb_ic_ne hm dX13_operation_39 (tgt := 45) rfl (fun z => absurd z c8) (fun _ => ?_)
            refine sx_bi (v := 112) hm dX13_operation_42 (by decide) ?_
            cases hf
            exact sx_ire hm dX13_operation_44 rfl rfl
        · refine sb_ic_ne hm dX13_operation_30 (tgt := 36) rfl (fun z => absurd z c9) (fun _ => ?_)
          refine sx_bi (v := 108) hm dX13_operation_33 (by decide) ?_
          cases hf
          exact sx_ire hm dX13_operation_35 rfl rfl
      · refine sb_ic_ne hm dX13_operation_21 (tgt := 27) rfl (fun z => absurd z c10) (fun _ => ?_)
        refine sx_bi (v := 104) hm dX13_operation_24 (by decide) ?_
        cases hf
        exact sx_ire hm dX13_operation_26 rfl rfl
    · refine sb_ic_ne hm dX13_operation_12 (tgt := 18) rfl (fun z => absurd z c11) (fun _ => ?_)
      refine sx_bi (v := 100) hm dX13_operation_15 (by decide) ?_
      cases hf
      exact sx_ire hm dX13_operation_17 rfl rfl
  · refine sb_ic_ne hm dX13_operation_3 (tgt := 9) rfl (fun z => absurd z c12) (fun _ => ?_)
    refine sx_bi (v := 96) hm dX13_operation_6 (by decide) ?_
    cases hf
    exact sx_ire hm dX13_operation_8 rfl rfl

/- PARSE: all of S; the group -/
section
variable {nn : Nat} {K P : Nat → Int} {c p : Nat} {h g r w u v : ms_M}
theorem c_kindE (BK : TBn K c) (B : TBc K P c h) (hp : p < c) (hc : h 2 10 = (p : Int)) (hf : h 2 11 = 0) : qf_X9_kind nn h = some (K p) := by
  have n3 := BK.2.1
  have b1 := B.1
  unfold qf_X9_kind
  rw [if_neg (fun z => z hf), if_neg (by omega), if_neg (by omega), hc]
  unfold rd_A
  rw [if_pos (by omega), Int.toNat_natCast, (B.2 p hp).1]
theorem c_plainE (BK : TBn K c) (B : TBc K P c h) (hp : p < c) (hc : h 2 10 = (p : Int)) (hf : h 2 11 = 0) {a : Int} : qf_X8_readPlain nn a h = if (K p) = 11 then (qj_X8_readPlain_56 nn h) else (if (K p) = 14 then (qj_X8_readPlain_56 nn h) else (if (K p) = 23 then (mx_sv (qf_X8_readCondition nn a h) fun u16 => some u16) else (if (K p) = 24 then (xl (oq_add (h 2 10) 1) fun v19 => xl (up_M h 2 10 v19) fun h20 => mx_sv (qf_X9_kind nn h20) fun u23 => if u23 = 46 then (some h20) else (mx_sv (qf_X8_readValue nn a h20) fun u25 => some u25)) else (if (K p) = 27 then (xl (oq_add (h 2 10) 1) fun v29 => xl (up_M h 2 10 v29) fun h30 => mx_sv (qf_X8_readValue nn a h30) fun u32 => some u32) else (mx_sv (qf_X8_readValue nn a h) fun u9 => mx_sv (qf_X8_accept nn 51 u9) fun u11 => if u11.1 = 0 then (some u11.2) else (mx_sv (qf_X8_readValue nn a u11.2) fun u13 => some u13)))))) := by
  unfold qf_X8_readPlain
  rw [c_kindE BK B hp hc hf, mx_svs]
/-- the reference: an S that begins with a word of its own -/
theorem rs_go (BK : TBn K c) {rd : tq_X13_block} {a : Int} {Y : Int × ms_M → Prop} (B : TBq K P c r) (hp : p < c) (hc : r 160 23 = (p : Int)) (n42 : ¬ K p = 42) (nt : ¬ TYp K (p : Int)) (kw : 10 ≤ K p ∧ K p ≤ 31) (H : ∀ v83 : Int, v83 = K p - 10 → Pc (if v83 = 1 then (qj_X13_statement_467 nn rd (r 160 23) r) else (if v83 = 4 then (qj_X13_statement_467 nn rd (r 160 23) r) else (if v83 = 8 then (mx_sv (qf_X13_add nn 3 (r 160 23) (r 160 23) r) fun u86 => xl (oq_add (u86.2 160 23) 1) fun v88 => xl (up_M u86.2 160 23 v88) fun h89 => mx_sv (qf_X13_sign_ nn 40 h89) fun u91 => xl (oq_add a 1) fun v93 => mx_sv (qf_X13_expression nn v93 u91) fun u95 => wr_A 9000 170 u86.1 u95.1 u95.2 fun h96 => mx_sv (qf_X13_sign_ nn 41 h96) fun u98 => qj_X13_statement_310 nn rd a u86.1 u98) else (if v83 = 13 then (mx_sv (qf_X13_add nn 10 (r 160 23) (r 160 23) r) fun u101 => xl (oq_add (u101.2 160 23) 1) fun v103 => xl (up_M u101.2 160 23 v103) fun h104 => mx_sv (qf_X13_sign_ nn 40 h104) fun u106 => xl (oq_add a 1) fun v108 => mx_sv (qf_X13_expression nn v108 u106) fun u110 => wr_A 9000 170 u101.1 u110.1 u110.2 fun h111 => mx_sv (qf_X13_sign_ nn 41 h111) fun u113 => mx_sv (qf_X13_sign_ nn 59 u113) fun u115 => some (u101.1, u115)) else (if v83 = 14 then (mx_sv (qf_X13_add nn 7 (r 160 23) (r 160 23) r) fun u118 => xl (oq_add (u118.2 160 23) 1) fun v120 => xl (up_M u118.2 160 23 v120) fun h121 => mx_sv (qf_X13_isSign nn (h121 160 23) 59 h121) fun u124 => if ¬ u124 = 0 then (qj_X13_statement_562 nn rd u118.1 h121) else (xl (oq_add a 1) fun v126 => mx_sv (qf_X13_expression nn v126 h121) fun u128 => wr_A 9000 170 u118.1 u128.1 u128.2 fun h129 => qj_X13_statement_562 nn rd u118.1 h129)) else (if v83 = 17 then (mx_sv (qf_X13_add nn 8 (r 160 23) (r 160 23) r) fun u133 => xl (oq_add (u133.2 160 23) 1) fun v135 => xl (up_M u133.2 160 23 v135) fun h136 => xl (oq_add a 1) fun v138 => mx_sv (qf_X13_expression nn v138 h136) fun u140 => wr_A 9000 170 u133.1 u140.1 u140.2 fun h141 => mx_sv (qf_X13_sign_ nn 59 h141) fun u143 => some (u133.1, u143)) else (if v83 = 19 then (mx_sv (qf_X13_add nn 9 (r 160 23) (r 160 23) r) fun u146 => xl (oq_add (u146.2 160 23) 1) fun v148 => xl (up_M u146.2 160 23 v148) fun h149 => xl (oq_add a 1) fun v151 => mx_sv (rd.1 v151 h149) fun u153 => wr_A 9000 170 u146.1 u153.1 u153.2 fun h154 => mx_sv (qf_X13_word nn 2 h154) fun u156 => mx_sv (qf_X13_sign_ nn 40 u156) fun u158 => mx_sv (qf_X13_name nn u158) fun u161 => wr_A 9000 168 u146.1 u161.1 u161.2 fun h162 => mx_sv (qf_X13_name nn h162) fun u165 => wr_A 9000 176 u146.1 u165.1 u165.2 fun h166 => mx_sv (qf_X13_sign_ nn 41 h166) fun u168 => xl (oq_add a 1) fun v170 => mx_sv (rd.1 v170 u168) fun u172 => wr_A 9000 171 u146.1 u172.1 u172.2 fun h173 => qj_X13_statement_698 nn rd u146.1 h173) else (if v83 = 21 then (mx_sv (qf_X13_add nn 4 (r 160 23) (r 160 23) r) fun u176 => xl (oq_add (u176.2 160 23) 1) fun v178 => xl (up_M u176.2 160 23 v178) fun h179 => mx_sv (qf_X13_sign_ nn 40 h179) fun u181 => mx_sv (qf_X13_isWord nn (u181 160 23) 18 u181) fun u185 => if u185 = 0 then (qj_X13_statement_431 nn rd a u176.1 u176.1 u181) else (xl (oq_add (u181 160 23) 1) fun v187 => mx_sv (qf_X13_isSign nn v187 41 u181) fun u189 => if u189 = 0 then (qj_X13_statement_431 nn rd a u176.1 u176.1 u181) else (qj_X13_statement_432 nn rd a u176.1 1 u176.1 u181))) else (qj_X13_statement_755 nn rd a r))))))))) Y) : Pc (mx_sv (qf_X13_isSign nn (r 160 23) 123 r) fun u75 => if u75 = 0 then (mx_sv (qf_X13_isTyped nn r) fun u77 => if u77 = 0 then (rd_A 3008 163 (r 160 23) r fun v80 => if v80 = 3 then (rd_A 3002 166 (r 160 23) r fun v83 => if v83 = 1 then (qj_X13_statement_467 nn rd (r 160 23) r) else (if v83 = 4 then (qj_X13_statement_467 nn rd (r 160 23) r) else (if v83 = 8 then (mx_sv (qf_X13_add nn 3 (r 160 23) (r 160 23) r) fun u86 => xl (oq_add (u86.2 160 23) 1) fun v88 => xl (up_M u86.2 160 23 v88) fun h89 => mx_sv (qf_X13_sign_ nn 40 h89) fun u91 => xl (oq_add a 1) fun v93 => mx_sv (qf_X13_expression nn v93 u91) fun u95 => wr_A 9000 170 u86.1 u95.1 u95.2 fun h96 => mx_sv (qf_X13_sign_ nn 41 h96) fun u98 => qj_X13_statement_310 nn rd a u86.1 u98) else (if v83 = 13 then (mx_sv (qf_X13_add nn 10 (r 160 23) (r 160 23) r) fun u101 => xl (oq_add (u101.2 160 23) 1) fun v103 => xl (up_M u101.2 160 23 v103) fun h104 => mx_sv (qf_X13_sign_ nn 40 h104) fun u106 => xl (oq_add a 1) fun v108 => mx_sv (qf_X13_expression nn v108 u106) fun u110 => wr_A 9000 170 u101.1 u110.1 u110.2 fun h111 => mx_sv (qf_X13_sign_ nn 41 h111) fun u113 => mx_sv (qf_X13_sign_ nn 59 u113) fun u115 => some (u101.1, u115)) else (if v83 = 14 then (mx_sv (qf_X13_add nn 7 (r 160 23) (r 160 23) r) fun u118 => xl (oq_add (u118.2 160 23) 1) fun v120 => xl (up_M u118.2 160 23 v120) fun h121 => mx_sv (qf_X13_isSign nn (h121 160 23) 59 h121) fun u124 => if ¬ u124 = 0 then (qj_X13_statement_562 nn rd u118.1 h121) else (xl (oq_add a 1) fun v126 => mx_sv (qf_X13_expression nn v126 h121) fun u128 => wr_A 9000 170 u118.1 u128.1 u128.2 fun h129 => qj_X13_statement_562 nn rd u118.1 h129)) else (if v83 = 17 then (mx_sv (qf_X13_add nn 8 (r 160 23) (r 160 23) r) fun u133 => xl (oq_add (u133.2 160 23) 1) fun v135 => xl (up_M u133.2 160 23 v135) fun h136 => xl (oq_add a 1) fun v138 => mx_sv (qf_X13_expression nn v138 h136) fun u140 => wr_A 9000 170 u133.1 u140.1 u140.2 fun h141 => mx_sv (qf_X13_sign_ nn 59 h141) fun u143 => some (u133.1, u143)) else (if v83 = 19 then (mx_sv (qf_X13_add nn 9 (r 160 23) (r 160 23) r) fun u146 => xl (oq_add (u146.2 160 23) 1) fun v148 => xl (up_M u146.2 160 23 v148) fun h149 => xl (oq_add a 1) fun v151 => mx_sv (rd.1 v151 h149) fun u153 => wr_A 9000 170 u146.1 u153.1 u153.2 fun h154 => mx_sv (qf_X13_word nn 2 h154) fun u156 => mx_sv (qf_X13_sign_ nn 40 u156) fun u158 => mx_sv (qf_X13_name nn u158) fun u161 => wr_A 9000 168 u146.1 u161.1 u161.2 fun h162 => mx_sv (qf_X13_name nn h162) fun u165 => wr_A 9000 176 u146.1 u165.1 u165.2 fun h166 => mx_sv (qf_X13_sign_ nn 41 h166) fun u168 => xl (oq_add a 1) fun v170 => mx_sv (rd.1 v170 u168) fun u172 => wr_A 9000 171 u146.1 u172.1 u172.2 fun h173 => qj_X13_statement_698 nn rd u146.1 h173) else (if v83 = 21 then (mx_sv (qf_X13_add nn 4 (r 160 23) (r 160 23) r) fun u176 => xl (oq_add (u176.2 160 23) 1) fun v178 => xl (up_M u176.2 160 23 v178) fun h179 => mx_sv (qf_X13_sign_ nn 40 h179) fun u181 => mx_sv (qf_X13_isWord nn (u181 160 23) 18 u181) fun u185 => if u185 = 0 then (qj_X13_statement_431 nn rd a u176.1 u176.1 u181) else (xl (oq_add (u181 160 23) 1) fun v187 => mx_sv (qf_X13_isSign nn v187 41 u181) fun u189 => if u189 = 0 then (qj_X13_statement_431 nn rd a u176.1 u176.1 u181) else (qj_X13_statement_432 nn rd a u176.1 1 u176.1 u181))) else (qj_X13_statement_755 nn rd a r))))))))) else (mx_sv (qf_X13_plain nn a r) fun u193 => some (u193.1, u193.2))) else (mx_sv (qf_X13_type nn r) fun u196 => mx_sv (qf_X13_add nn 2 0 (r 160 23) u196) fun u198 => xl (oq_mul 4 (u198.2 160 46)) fun v201 => if (u198.2 160 47) = 0 then (qj_X13_statement_78 nn rd a u198.1 0 v201 u198.1 u198.2) else (qj_X13_statement_78 nn rd a u198.1 2 v201 u198.1 u198.2))) else (xl (oq_add a 1) fun v205 => mx_sv (rd.1 v205 r) fun u207 => some (u207.1, u207.2))) Y := by
  have n3 := BK.2.1
  have kd := r_kd BK B (t := p) (by omega)
  have E : (r 160 23).toNat = p := by omega
  refine pc_sv (r_sgn BK B (t := p) hc (by omega) (k := 42) (by decide) (by decide)) ?_; intro u75 q75
  refine pc_if (fun _ => ?_) (fun z => absurd (by omega) z)
  refine pc_sv (r_typed BK B hp hc) ?_; intro u77 q77
  refine pc_if (fun _ => ?_) (fun z => ?_)
  · refine pc_rA ?_; intro _ _ v80 e80
    rw [E] at e80
    refine pc_if (fun _ => ?_) (fun z => absurd (by omega) z)
    refine pc_rA ?_; intro _ _ v83 e83
    rw [E, B.2.2.1 p kw.1 kw.2] at e83
    exact H v83 e83
  · rcases q77 with ⟨-, q⟩ | ⟨q, -⟩
    · exact absurd q nt
    · exact absurd q z
theorem js_T (BK : TBn K c) {rc : tq_X8_readBlock} {rd : tq_X13_block} {a : Int} (ha : 0 ≤ a ∧ a ≤ 40) (Gc : FScG_X8_readBlock rc) (Gr : FSrG_X13_block rd) (IT : PT K P c 6 rc.2.1 rd.2) (IB : PT K P c 8 rc.1 rd.1) (IY : a < 40 → K p = 29 → Pc (rc.2.2 (a + 1) h) (fun u => Pc (mx_sv (qf_X13_add nn 9 (r 160 23) (r 160 23) r) fun u146 => xl (oq_add (u146.2 160 23) 1) fun v148 => xl (up_M u146.2 160 23 v148) fun h149 => xl (oq_add a 1) fun v151 => mx_sv (rd.1 v151 h149) fun u153 => wr_A 9000 170 u146.1 u153.1 u153.2 fun h154 => mx_sv (qf_X13_word nn 2 h154) fun u156 => mx_sv (qf_X13_sign_ nn 40 u156) fun u158 => mx_sv (qf_X13_name nn u158) fun u161 => wr_A 9000 168 u146.1 u161.1 u161.2 fun h162 => mx_sv (qf_X13_name nn h162) fun u165 => wr_A 9000 176 u146.1 u165.1 u165.2 fun h166 => mx_sv (qf_X13_sign_ nn 41 h166) fun u168 => xl (oq_add a 1) fun v170 => mx_sv (rd.1 v170 u168) fun u172 => wr_A 9000 171 u146.1 u172.1 u172.2 fun h173 => qj_X13_statement_698 nn rd u146.1 h173) (fun v => JS a K P c p 6 r u v))) (J : JPp K P c p h r) (hr : 0 ≤ r 160 22) : Pc (qo_X8_readStatement nn rc a h) (fun u => Pc (qo_X13_statement nn rd a r) (fun v => JS a K P c p 6 r u v)) := by
  have n3 := BK.2.1
  have J0 := J
  obtain ⟨b, d, ⟨g1, g2, g3⟩, g4, g5⟩ := J
  have kd := r_kd BK d (t := p) (by omega)
  have E1 : ((p : Int) + 1).toNat = p + 1 := by omega
  unfold qo_X8_readStatement qo_X13_statement
  refine p2_sv (j_deep BK J0) ?_; intro u4 u71 q71
  rcases q71 with ⟨a40, c1, c2⟩ | ⟨c1, c2, S⟩
  · have ha2 : 0 ≤ a ∧ a < 40 := ⟨ha.1, a40⟩
    rw [c1, c2]
    dsimp only
    refine pc_if (fun _ => ?_) (fun z => absurd rfl z)
    refine pc_fl ?_
    refine pc_if (fun _ => ?_) (fun z => absurd rfl z)
    refine pc_fl ?_
    rw [c_kindE BK b g3 g1 g4, mx_svs]
    have TYn : ∀ k : Int, K p = k → ¬ k = 20 → ¬ k = 10 → ¬ k = 2 → ¬ TYp K (p : Int) := fun k e a1 a2 a3 => by
      unfold TYp; rw [Int.toNat_natCast]; omega
    -- a word
    refine pc_if (fun z => ?_) (fun z18 => ?_)
    · refine pc_fl (rs_go BK d g3 g2 (by omega) (TYn 18 z (by decide) (by decide) (by decide)) (by omega) (fun v83 e83 => ?_))
      refine pc_if (fun y => absurd y (by omega)) (fun _ => pc_if (fun y => absurd y (by omega)) (fun _ => pc_if (fun _ => ?_) (fun y => absurd (by omega) y)))
      exact pc_fl (js_if BK ha2 Gc Gr IT z J0 hr)
    refine pc_if (fun z => ?_) (fun z29 => ?_)
    · refine pc_fl (rs_go BK d g3 g2 (by omega) (TYn 29 z (by decide) (by decide) (by decide)) (by omega) (fun v83 e83 => ?_))
      refine pc_if (fun y => absurd y (by omega)) (fun _ => pc_if (fun y => absurd y (by omega)) (fun _ => pc_if (fun y => absurd y (by omega)) (fun _ => pc_if (fun y => absurd y (by omega)) (fun _ => pc_if (fun y => absurd y (by omega)) (fun _ => pc_if (fun y => absurd y (by omega)) (fun _ => pc_if (fun _ => ?_) (fun y => absurd (by omega) y)))))))
      refine pc_fl ?_
      refine pc_add (by omega) ?_; intro v30 e30
      rw [e30]
      refine p2_sa ?_
      refine pc_imp (IY a40 z) (fun u q => pc_imp q (fun v q2 => pc_ret q2))
    refine pc_if (fun z => ?_) (fun z31 => ?_)
    · refine pc_fl (rs_go BK d g3 g2 (by omega) (TYn 31 z (by decide) (by decide) (by decide)) (by omega) (fun v83 e83 => ?_))
      refine pc_if (fun y => absurd y (by omega)) (fun _ => pc_if (fun y => absurd y (by omega)) (fun _ => pc_if (fun y => absurd y (by omega)) (fun _ => pc_if (fun y => absurd y (by omega)) (fun _ => pc_if (fun y => absurd y (by omega)) (fun _ => pc_if (fun y => absurd y (by omega)) (fun _ => pc_if (fun y => absurd y (by omega)) (fun _ => pc_if (fun _ => ?_) (fun y => absurd (by omega) y))))))))
      exact pc_fl (js_while BK ha2 Gc Gr IT z J0 hr)
    refine pc_if (fun z => ?_) (fun z42 => ?_)
    · -- BLOCK
      refine pc_fl ?_
      refine pc_sv (r_sgn BK d (t := p) g2 (by omega) (k := 42) (by decide) (by decide)) ?_; intro u75 q75
      refine pc_if (fun y => absurd y (by omega)) (fun _ => ?_)
      refine pc_add (by omega) ?_; intro v205 e205
      rw [e205]
      refine pc_fl ?_
      refine pc_add (by omega) ?_; intro v39 e39
      rw [e39]
      refine p2_sv (IB (a + 1) p h r (by omega) J0 hr) ?_; intro u41 u207 q207
      refine pc_ret (pc_ret ?_)
      rcases q207 with S | ⟨q, y1, y2, y3, y4⟩
      · exact .inl S
      · exact .inr ⟨q, y1, lk_tb y2, y3, y4⟩
    refine pc_sv (c_typed BK b g3 g1 g4) ?_; intro u10 q10
    rcases q10 with ⟨t1, TY⟩ | ⟨t1, TY⟩
    · -- a variable
      refine pc_if (fun y => absurd y (by omega)) (fun _ => ?_)
      refine pc_add (by omega) ?_; intro v14 e14
      rw [e14]
      refine pc_fl ?_
      refine pc_sv (r_sgn BK d (t := p) g2 (by omega) (k := 42) (by decide) (by decide)) ?_; intro u75 q75
      refine pc_if (fun _ => ?_) (fun y => absurd (by omega) y)
      refine pc_sv (r_typed BK d g3 g2) ?_; intro u77 q77
      refine pc_if (fun y => ?_) (fun _ => ?_)
      · rcases q77 with ⟨q, -⟩ | ⟨-, q⟩
        · omega
        · exact absurd TY q
      · exact pc_fl (js_var BK ha2 Gc Gr TY J0 hr)
    · refine pc_if (fun _ => ?_) (fun y => absurd t1 y)
      refine pc_add (by omega) ?_; intro v11 e11
      rw [e11, c_plainE BK b g3 g1 g4]
      by_cases z11 : K p = 11
      · rw [if_pos z11]
        refine pc_fl (rs_go BK d g3 g2 (by omega) TY (by omega) (fun v83 e83 => ?_))
        refine pc_if (fun _ => ?_) (fun y => absurd (by omega) y)
        unfold qj_X13_statement_467
        refine pc_rA ?_; intro _ _ v15 e15
        rw [show (r 160 23).toNat = p by omega, d.2.2.1 p (by omega) (by omega)] at e15
        refine pc_if (fun y => absurd (by omega) y) (fun _ => ?_)
        exact pc_fl (js_leave (a := a) BK ha Gc (.inl ⟨z11, rfl⟩) J0 hr)
      rw [if_neg z11]
      by_cases z14 : K p = 14
      · rw [if_pos z14]
        refine pc_fl (rs_go BK d g3 g2 (by omega) TY (by omega) (fun v83 e83 => ?_))
        refine pc_if (fun y => absurd y (by omega)) (fun _ => pc_if (fun _ => ?_) (fun y => absurd (by omega) y))
        unfold qj_X13_statement_467
        refine pc_rA ?_; intro _ _ v15 e15
        rw [show (r 160 23).toNat = p by omega, d.2.2.1 p (by omega) (by omega)] at e15
        refine pc_if (fun _ => ?_) (fun y => absurd (by omega) y)
        exact pc_fl (js_leave (a := a) BK ha Gc (.inr ⟨z14, rfl⟩) J0 hr)
      rw [if_neg z14]
      by_cases z23 : K p = 23
      · rw [if_pos z23]
        refine pc_fl (rs_go BK d g3 g2 (by omega) TY (by omega) (fun v83 e83 => ?_))
        refine pc_if (fun y => absurd y (by omega)) (fun _ => pc_if (fun y => absurd y (by omega)) (fun _ => pc_if (fun y => absurd y (by omega)) (fun _ => pc_if (fun _ => ?_) (fun y => absurd (by omega) y))))
        exact pc_fl (js_print BK ha2 Gc z23 J0 hr)
      rw [if_neg z23]
      by_cases z24 : K p = 24
      · rw [if_pos z24]
        refine pc_fl (rs_go BK d g3 g2 (by omega) TY (by omega) (fun v83 e83 => ?_))
        refine pc_if (fun y => absurd y (by omega)) (fun _ => pc_if (fun y => absurd y (by omega)) (fun _ => pc_if (fun y => absurd y (by omega)) (fun _ => pc_if (fun y => absurd y (by omega)) (fun _ => pc_if (fun _ => ?_) (fun y => absurd (by omega) y)))))
        exact pc_fl (js_return BK ha2 Gc z24 J0 hr)
      rw [if_neg z24]
      by_cases z27 : K p = 27
      · rw [if_pos z27]
        refine pc_fl (rs_go BK d g3 g2 (by omega) TY (by omega) (fun v83 e83 => ?_))
        refine pc_if (fun y => absurd y (by omega)) (fun _ => pc_if (fun y => absurd y (by omega)) (fun _ => pc_if (fun y => absurd y (by omega)) (fun _ => pc_if (fun y => absurd y (by omega)) (fun _ => pc_if (fun y => absurd y (by omega)) (fun _ => pc_if (fun _ => ?_) (fun y => absurd (by omega) y))))))
        exact pc_fl (js_throw BK ha2 Gc z27 J0 hr)
      rw [if_neg z27]
      have PL : PLp K (p : Int) := by
        refine ⟨TY, ?_⟩
        rw [Int.toNat_natCast]; omega
      have R := js_plain (nn := nn) BK ha2 Gc PL J0 hr
      by_cases kw : 10 ≤ K p ∧ K p ≤ 31
      · refine pc_fl (rs_go BK d g3 g2 (by omega) TY kw (fun v83 e83 => ?_))
        refine pc_if (fun y => absurd y (by omega)) (fun _ => pc_if (fun y => absurd y (by omega)) (fun _ => pc_if (fun y => absurd y (by omega)) (fun _ => pc_if (fun y => absurd y (by omega)) (fun _ => pc_if (fun y => absurd y (by omega)) (fun _ => pc_if (fun y => absurd y (by omega)) (fun _ => pc_if (fun y => absurd y (by omega)) (fun _ => pc_if (fun y => absurd y (by omega)) (fun _ => ?_))))))))
        unfold qj_X13_statement_755
        exact pc_sb (pc_imp (pc_fl R) (fun a q => pc_ret q))
      · refine pc_fl ?_
        refine pc_sv (r_sgn BK d (t := p) g2 (by omega) (k := 42) (by decide) (by decide)) ?_; intro u75 q75
        refine pc_if (fun _ => ?_) (fun y => absurd (by omega) y)
        refine pc_sv (r_typed BK d g3 g2) ?_; intro u77 q77
        refine pc_if (fun _ => ?_) (fun y => ?_)
        · refine pc_rA ?_; intro _ _ v80 e80
          rw [show (r 160 23).toNat = p by omega] at e80
          refine pc_if (fun y => absurd y (by omega)) (fun _ => ?_)
          exact pc_sb (pc_imp (pc_fl R) (fun a q => pc_ret q))
        · rcases q77 with ⟨-, q⟩ | ⟨q, -⟩
          · exact absurd q TY
          · exact absurd q y
  · refine pc_if (fun z => absurd z c1) (fun _ => ?_)
    refine pc_ret ?_
    exact pc_if (fun z => absurd z c2) (fun _ => pc_ret (.inl S))
/-- blocks and statements, at any depth of both sides' calls -/
theorem gst_all (BK : TBn K c) : ∀ d d2 : Nat, PT K P c 8 (qg_X8_readBlock nn d).1 (qg_X13_block nn d2).1 ∧ PT K P c 6 (qg_X8_readBlock nn d).2.1 (qg_X13_block nn d2).2 := by
  intro d
  induction d using Nat.strongRecOn with
  | ind d ih =>
    intro d2
    cases d with
    | zero => exact ⟨fun a p h r _ _ _ => pc_none, fun a p h r _ _ _ => pc_none⟩
    | succ d =>
      have I := ih d (by omega)
      have Gc := fsg_X8_readBlock nn d
      cases d2 with
      | zero => exact ⟨fun a p h r _ _ _ => fun _ _ => pc_none, fun a p h r _ _ _ => fun _ _ => pc_none⟩
      | succ d2 =>
        have Gr := ftg_X13_block nn d2
        refine ⟨fun a p h r ha J hr => ?_, fun a p h r ha J hr => ?_⟩
        · exact js_B BK ha Gc Gr (I d2).2 J hr
        · refine js_T BK ha Gc Gr (I d2).2 (I d2).1 (fun a40 kp => ?_) J hr
          cases d with
          | zero => exact pc_none
          | succ d0 => exact js_try BK ⟨ha.1, a40⟩ (fsg_X8_readBlock nn d0) Gr (ih d0 (by omega) d2).1 kp J hr
theorem j_block (BK : TBn K c) {a : Int} (ha : 0 ≤ a ∧ a ≤ 40) (J : JPp K P c p h r) (hr : 0 ≤ r 160 22) : Pc (qf_X8_readBlock nn a h) (fun u => Pc (qf_X13_block nn a r) (fun v => JS a K P c p 8 r u v)) := (gst_all BK 150 160).1 a p h r ha J hr
end

set_option maxHeartbeats 4000000 in
set_option maxRecDepth 20000 in
theorem j_X13_init_725_ok (X : Nat × (Nat → Int32)) {F L : Nat} (hF : 1 ≤ F) (hL : 60 ≤ L) (nn : Nat) (l0 : Nat) (h : mx_H) (c : Nat) (s : Nat) {r : (mx_H × Nat × Nat)} (hf : j_X13_init_725 nn l0 h c s = some r) : mx_S X F L 379 725 [(0, .ref l0)] [] h c s (none, r.1, r.2.1, r.2.2) := by
  have hm : mx_mt 379 = some (yX13_init, cX13_init, 1, none) := mt_X13_init
  unfold j_X13_init_725 at hf
  refine mx_S.pu (pc2 := 726) (lv2 := [(0, .ref l0)]) (st2 := [.ref l0]) hm dX13_init_725 rfl ?_
  refine sx_ic (v := (-1)) hm dX13_init_726 (by decide) ?_
  replace hf := mx_sv_el hf; obtain ⟨h1, e_h1, hf⟩ := hf
  refine sx_put hm dX13_init_727 rs_RX13_264 ft_13_125 ⟨rfl, rfl⟩ (fun z => by cases z) e_h1 ?_
  clear e_h1
  refine mx_S.pu (pc2 := 731) (lv2 := [(0, .ref l0)]) (st2 := [.ref l0]) hm dX13_init_730 rfl ?_
  refine sx_si (v := 1501) hm dX13_init_731 (by decide) ?_
  replace hf := mx_gd_el hf; obtain ⟨c2, hf⟩ := hf
  replace hf := mx_sv_el hf; obtain ⟨u3, e_u3, hf⟩ := hf
  refine sx_na hm dX13_init_734 rfl (Or.inr (Or.inr rfl)) c2 e_u3 ?_
  clear e_u3
  replace hf := mx_sv_el hf; obtain ⟨h4, e_h4, hf⟩ := hf
  refine sx_put hm dX13_init_736 rs_RX13_267 ft_13_126 ⟨rfl, rfl⟩ (fun _ => ⟨rfl, rfl⟩) e_h4 ?_
  clear e_h4
  refine mx_S.pu (pc2 := 740) (lv2 := [(0, .ref l0)]) (st2 := [.ref l0]) hm dX13_init_739 rfl ?_
  refine sx_bi (v := 30) hm dX13_init_740 (by decide) ?_
  replace hf := mx_gd_el hf; obtain ⟨c5, hf⟩ := hf
  replace hf := mx_sv_el hf; obtain ⟨u6, e_u6, hf⟩ := hf
  refine sx_na hm dX13_init_742 rfl (Or.inl rfl) c5 e_u6 ?_
  clear e_u6
  replace hf := mx_sv_el hf; obtain ⟨h7, e_h7, hf⟩ := hf
  refine sx_put hm dX13_init_744 rs_RX13_270 ft_13_127 ⟨rfl, rfl⟩ (fun _ => ⟨rfl, rfl⟩) e_h7 ?_
  clear e_h7
  refine mx_S.pu (pc2 := 748) (lv2 := [(0, .ref l0)]) (st2 := [.ref l0]) hm dX13_init_747 rfl ?_
  refine sx_bi (v := 31) hm dX13_init_748 (by decide) ?_
  replace hf := mx_gd_el hf; obtain ⟨c8, hf⟩ := hf
  replace hf := mx_sv_el hf; obtain ⟨u9, e_u9, hf⟩ := hf
  refine sx_na hm dX13_init_750 rfl (Or.inl rfl) c8 e_u9 ?_
  clear e_u9
  replace hf := mx_sv_el hf; obtain ⟨h10, e_h10, hf⟩ := hf
  refine sx_put hm dX13_init_752 rs_RX13_273 ft_13_128 ⟨rfl, rfl⟩ (fun _ => ⟨rfl, rfl⟩) e_h10 ?_
  clear e_h10
  refine mx_S.pu (pc2 := 756) (lv2 := [(0, .ref l0)]) (st2 := [.ref l0]) hm dX13_init_755 rfl ?_
  refine sx_bi (v := 6) hm dX13_init_756 (by decide) ?_
  replace hf := mx_gd_el hf; obtain ⟨c11, hf⟩ := hf
  replace hf := mx_sv_el hf; obtain ⟨u12, e_u12, hf⟩ := hf
  refine sx_na hm dX13_init_758 rfl (Or.inl rfl) c11 e_u12 ?_
  clear e_u12
  replace hf := mx_sv_el hf; obtain ⟨h13, e_h13, hf⟩ := hf
  refine sx_put hm dX13_init_760 rs_RX13_276 ft_13_137 ⟨rfl, rfl⟩ (fun _ => ⟨rfl, rfl⟩) e_h13 ?_
  clear e_h13
  refine mx_S.pu (pc2 := 764) (lv2 := [(0, .ref l0)]) (st2 := [.ref l0]) hm dX13_init_763 rfl ?_
  refine sx_si (v := 2001) hm dX13_init_764 (by decide) ?_
  replace hf := mx_gd_el hf; obtain ⟨c14, hf⟩ := hf
  replace hf := mx_sv_el hf; obtain ⟨u15, e_u15, hf⟩ := hf
  refine sx_na hm dX13_init_767 rfl (Or.inl rfl) c14 e_u15 ?_
  clear e_u15
  replace hf := mx_sv_el hf; obtain ⟨h16, e_h16, hf⟩ := hf
  refine sx_put hm dX13_init_769 rs_RX13_279 ft_13_144 ⟨rfl, rfl⟩ (fun _ => ⟨rfl, rfl⟩) e_h16 ?_
  clear e_h16
  refine mx_S.pu (pc2 := 773) (lv2 := [(0, .ref l0)]) (st2 := [.ref l0]) hm dX13_init_772 rfl ?_
  refine sx_si (v := 2001) hm dX13_init_773 (by decide) ?_
  replace hf := mx_gd_el hf; obtain ⟨c17, hf⟩ := hf
  replace hf := mx_sv_el hf; obtain ⟨u18, e_u18, hf⟩ := hf
  refine sx_na hm dX13_init_776 rfl (Or.inl rfl) c17 e_u18 ?_
  clear e_u18
  replace hf := mx_sv_el hf; obtain ⟨h19, e_h19, hf⟩ := hf
  refine sx_put hm dX13_init_778 rs_RX13_282 ft_13_145 ⟨rfl, rfl⟩ (fun _ => ⟨rfl, rfl⟩) e_h19 ?_
  clear e_h19
  refine mx_S.pu (pc2 := 782) (lv2 := [(0, .ref l0)]) (st2 := [.ref l0]) hm dX13_init_781 rfl ?_
  refine sx_si (v := 2001) hm dX13_init_782 (by decide) ?_
  replace hf := mx_gd_el hf; obtain ⟨c20, hf⟩ := hf
  replace hf := mx_sv_el hf; obtain ⟨u21, e_u21, hf⟩ := hf
  refine sx_na hm dX13_init_785 rfl (Or.inl rfl) c20 e_u21 ?_
  clear e_u21
  replace hf := mx_sv_el hf; obtain ⟨h22, e_h22, hf⟩ := hf
  refine sx_put hm dX13_init_787 rs_RX13_285 ft_13_146 ⟨rfl, rfl⟩ (fun _ => ⟨rfl, rfl⟩) e_h22 ?_
  clear e_h22
  refine mx_S.pu (pc2 := 791) (lv2 := [(0, .ref l0)]) (st2 := [.ref l0]) hm dX13_init_790 rfl ?_
  refine sx_si (v := 20000) hm dX13_init_791 (by decide) ?_
  replace hf := mx_gd_el hf; obtain ⟨c23, hf⟩ := hf
  replace hf := mx_sv_el hf; obtain ⟨u24, e_u24, hf⟩ := hf
  refine sx_na hm dX13_init_794 rfl (Or.inl rfl) c23 e_u24 ?_
  clear e_u24
  replace hf := mx_sv_el hf; obtain ⟨h25, e_h25, hf⟩ := hf
  refine sx_put hm dX13_init_796 rs_RX13_288 ft_13_147 ⟨rfl, rfl⟩ (fun _ => ⟨rfl, rfl⟩) e_h25 ?_
  clear e_h25
  refine mx_S.pu (pc2 := 800) (lv2 := [(0, .ref l0)]) (st2 := [.ref l0]) hm dX13_init_799 rfl ?_
  refine sx_si (v := 1000) hm dX13_init_800 (by decide) ?_
  replace hf := mx_gd_el hf; obtain ⟨c26, hf⟩ := hf
  replace hf := mx_sv_el hf; obtain ⟨u27, e_u27, hf⟩ := hf
  refine sx_na hm dX13_init_803 rfl (Or.inl rfl) c26 e_u27 ?_
  clear e_u27
  replace hf := mx_sv_el hf; obtain ⟨h28, e_h28, hf⟩ := hf
  refine sx_put hm dX13_init_805 rs_RX13_291 ft_13_148 ⟨rfl, rfl⟩ (fun _ => ⟨rfl, rfl⟩) e_h28 ?_
  clear e_h28
  refine mx_S.pu (pc2 := 809) (lv2 := [(0, .ref l0)]) (st2 := [.ref l0]) hm dX13_init_808 rfl ?_
  refine sx_bi (v := 60) hm dX13_init_809 (by decide) ?_
  replace hf := mx_gd_el hf; obtain ⟨c29, hf⟩ := hf
  replace hf := mx_sv_el hf; obtain ⟨u30, e_u30, hf⟩ := hf
  refine sx_na hm dX13_init_811 rfl (Or.inl rfl) c29 e_u30 ?_
  clear e_u30
  replace hf := mx_sv_el hf; obtain ⟨h31, e_h31, hf⟩ := hf
  refine sx_put hm dX13_init_813 rs_RX13_294 ft_13_150 ⟨rfl, rfl⟩ (fun _ => ⟨rfl, rfl⟩) e_h31 ?_
  clear e_h31
  refine mx_S.pu (pc2 := 817) (lv2 := [(0, .ref l0)]) (st2 := [.ref l0]) hm dX13_init_816 rfl ?_
  refine sx_bi (v := 60) hm dX13_init_817 (by decide) ?_
  replace hf := mx_gd_el hf; obtain ⟨c32, hf⟩ := hf
  replace hf := mx_sv_el hf; obtain ⟨u33, e_u33, hf⟩ := hf
  refine sx_na hm dX13_init_819 rfl (Or.inl rfl) c32 e_u33 ?_
  clear e_u33
  replace hf := mx_sv_el hf; obtain ⟨h34, e_h34, hf⟩ := hf
  refine sx_put hm dX13_init_821 rs_RX13_297 ft_13_151 ⟨rfl, rfl⟩ (fun _ => ⟨rfl, rfl⟩) e_h34 ?_
  clear e_h34
  refine mx_S.pu (pc2 := 825) (lv2 := [(0, .ref l0)]) (st2 := [.ref l0]) hm dX13_init_824 rfl ?_
  refine sx_bi (v := 60) hm dX13_init_825 (by decide) ?_
  replace hf := mx_gd_el hf; obtain ⟨c35, hf⟩ := hf
  replace hf := mx_sv_el hf; obtain ⟨u36, e_u36, hf⟩ := hf
  refine sx_na hm dX13_init_827 rfl (Or.inl rfl) c35 e_u36 ?_
  clear e_u36
  replace hf := mx_sv_el hf; obtain ⟨h37, e_h37, hf⟩ := hf
  refine sx_put hm dX13_init_829 rs_RX13_300 ft_13_152 ⟨rfl, rfl⟩ (fun _ => ⟨rfl, rfl⟩) e_h37 ?_
  clear e_h37
  refine mx_S.pu (pc2 := 833) (lv2 := [(0, .ref l0)]) (st2 := [.ref l0]) hm dX13_init_832 rfl ?_
  refine sx_bi (v := 60) hm dX13_init_833 (by decide) ?_
  replace hf := mx_gd_el hf; obtain ⟨c38, hf⟩ := hf
  replace hf := mx_sv_el hf; obtain ⟨u39, e_u39, hf⟩ := hf
  refine sx_na hm dX13_init_835 rfl (Or.inl rfl) c38 e_u39 ?_
  clear e_u39
  replace hf := mx_sv_el hf; obtain ⟨h40, e_h40, hf⟩ := hf
  refine sx_put hm dX13_init_837 rs_RX13_303 ft_13_153 ⟨rfl, rfl⟩ (fun _ => ⟨rfl, rfl⟩) e_h40 ?_
  clear e_h40
  refine mx_S.pu (pc2 := 841) (lv2 := [(0, .ref l0)]) (st2 := [.ref l0]) hm dX13_init_840 rfl ?_
  refine sx_si (v := 3600) hm dX13_init_841 (by decide) ?_
  replace hf := mx_gd_el hf; obtain ⟨c41, hf⟩ := hf
  replace hf := mx_sv_el hf; obtain ⟨u42, e_u42, hf⟩ := hf
  refine sx_na hm dX13_init_844 rfl (Or.inl rfl) c41 e_u42 ?_
  clear e_u42
  replace hf := mx_sv_el hf; obtain ⟨h43, e_h43, hf⟩ := hf
  refine sx_put hm dX13_init_846 rs_RX13_306 ft_13_154 ⟨rfl, rfl⟩ (fun _ => ⟨rfl, rfl⟩) e_h43 ?_
  clear e_h43
  refine mx_S.pu (pc2 := 850) (lv2 := [(0, .ref l0)]) (st2 := [.ref l0]) hm dX13_init_849 rfl ?_
  replace hf := mx_gd_el hf; obtain ⟨c44, hf⟩ := hf
  replace hf := mx_sv_el hf; obtain ⟨u45, e_u45, hf⟩ := hf
  refine sx_cv hm dX13_init_850 rs_RX13_309 mt_X13_clear [] [] (b := l0) (ci := 13) rfl rfl rfl c44 (Nat.le_of_ble_eq_true rfl) (Nat.le_of_ble_eq_true rfl) (by omega) (by omega) (f_X13_clear_ok X (by omega) (by omega) nn l0 h43 e_u45) ?_
  clear e_u45
  show mx_S X F L 379 853 [(0, .ref l0)] [] u45 ((((((((((((((c + 1) + 1) + 1) + 1) + 1) + 1) + 1) + 1) + 1) + 1) + 1) + 1) + 1) + 1) ((((((((((((((s + (1501 : Int32).toNatClampNeg) + (30 : Int32).toNatClampNeg) + (31 : Int32).toNatClampNeg) + (6 : Int32).toNatClampNeg) + (2001 : Int32).toNatClampNeg) + (2001 : Int32).toNatClampNeg) + (2001 : Int32).toNatClampNeg) + (20000 : Int32).toNatClampNeg) + (1000 : Int32).toNatClampNeg) + (60 : Int32).toNatClampNeg) + (60 : Int32).toNatClampNeg) + (60 : Int32).toNatClampNeg) + (60 : Int32).toNatClampNeg) + (3600 : Int32).toNatClampNeg) (none, r.1, r.2.1, r.2.2)
  cases hf
  exact sx_ret hm dX13_init_853 rfl
set_option maxHeartbeats 4000000 in
set_option maxRecDepth 20000 in
theorem j_X13_init_558_ok (X : Nat × (Nat → Int32)) {F L : Nat} (hF : 1 ≤ F) (hL : 60 ≤ L) (nn : Nat) (l0 : Nat) (h : mx_H) (c : Nat) (s : Nat) {r : (mx_H × Nat × Nat)} (hf : j_X13_init_558 nn l0 h c s = some r) : mx_S X F L 379 558 [(0, .ref l0)] [] h c s (none, r.1, r.2.1, r.2.2) := by
  have hm : mx_mt 379 = some (yX13_init, cX13_init, 1, none) := mt_X13_init
  unfold j_X13_init_558 at hf
  refine mx_S.pu (pc2 := 559) (lv2 := [(0, .ref l0)]) (st2 := [.ref l0]) hm dX13_init_558 rfl ?_
  refine sx_ldc hm dX13_init_559 rs_RX13_193 ?_
  replace hf := mx_gd_el hf; obtain ⟨c46, hf⟩ := hf
  replace hf := mx_sv_el hf; obtain ⟨u47, e_u47, hf⟩ := hf
  refine sx_na hm dX13_init_561 rfl (Or.inl rfl) c46 e_u47 ?_
  clear e_u47
  replace hf := mx_sv_el hf; obtain ⟨h48, e_h48, hf⟩ := hf
  refine sx_put hm dX13_init_563 rs_RX13_200 ft_13_94 ⟨rfl, rfl⟩ (fun _ => ⟨rfl, rfl⟩) e_h48 ?_
  clear e_h48
  refine mx_S.pu (pc2 := 567) (lv2 := [(0, .ref l0)]) (st2 := [.ref l0]) hm dX13_init_566 rfl ?_
  refine sx_bi (v := 8) hm dX13_init_567 (by decide) ?_
  replace hf := mx_gd_el hf; obtain ⟨c49, hf⟩ := hf
  replace hf := mx_sv_el hf; obtain ⟨u50, e_u50, hf⟩ := hf
  refine sx_na hm dX13_init_569 rfl (Or.inl rfl) c49 e_u50 ?_
  clear e_u50
  replace hf := mx_sv_el hf; obtain ⟨h51, e_h51, hf⟩ := hf
  refine sx_put hm dX13_init_571 rs_RX13_203 ft_13_95 ⟨rfl, rfl⟩ (fun _ => ⟨rfl, rfl⟩) e_h51 ?_
  clear e_h51
  refine mx_S.pu (pc2 := 575) (lv2 := [(0, .ref l0)]) (st2 := [.ref l0]) hm dX13_init_574 rfl ?_
  refine sx_ldc hm dX13_init_575 rs_RX13_140 ?_
  replace hf := mx_gd_el hf; obtain ⟨c52, hf⟩ := hf
  replace hf := mx_sv_el hf; obtain ⟨u53, e_u53, hf⟩ := hf
  refine sx_na hm dX13_init_577 rfl (Or.inl rfl) c52 e_u53 ?_
  clear e_u53
  replace hf := mx_sv_el hf; obtain ⟨h54, e_h54, hf⟩ := hf
  refine sx_put hm dX13_init_579 rs_RX13_206 ft_13_96 ⟨rfl, rfl⟩ (fun _ => ⟨rfl, rfl⟩) e_h54 ?_
  clear e_h54
  refine mx_S.pu (pc2 := 583) (lv2 := [(0, .ref l0)]) (st2 := [.ref l0]) hm dX13_init_582 rfl ?_
  refine sx_ldc hm dX13_init_583 rs_RX13_193 ?_
  replace hf := mx_gd_el hf; obtain ⟨c55, hf⟩ := hf
  replace hf := mx_sv_el hf; obtain ⟨u56, e_u56, hf⟩ := hf
  refine sx_na hm dX13_init_585 rfl (Or.inl rfl) c55 e_u56 ?_
  clear e_u56
  replace hf := mx_sv_el hf; obtain ⟨h57, e_h57, hf⟩ := hf
  refine sx_put hm dX13_init_587 rs_RX13_209 ft_13_100 ⟨rfl, rfl⟩ (fun _ => ⟨rfl, rfl⟩) e_h57 ?_
  clear e_h57
  refine mx_S.pu (pc2 := 591) (lv2 := [(0, .ref l0)]) (st2 := [.ref l0]) hm dX13_init_590 rfl ?_
  refine sx_bi (v := 8) hm dX13_init_591 (by decide) ?_
  replace hf := mx_gd_el hf; obtain ⟨c58, hf⟩ := hf
  replace hf := mx_sv_el hf; obtain ⟨u59, e_u59, hf⟩ := hf
  refine sx_na hm dX13_init_593 rfl (Or.inl rfl) c58 e_u59 ?_
  clear e_u59
  replace hf := mx_sv_el hf; obtain ⟨h60, e_h60, hf⟩ := hf
  refine sx_put hm dX13_init_595 rs_RX13_212 ft_13_101 ⟨rfl, rfl⟩ (fun _ => ⟨rfl, rfl⟩) e_h60 ?_
  clear e_h60
  refine mx_S.pu (pc2 := 599) (lv2 := [(0, .ref l0)]) (st2 := [.ref l0]) hm dX13_init_598 rfl ?_
  refine sx_si (v := 2048) hm dX13_init_599 (by decide) ?_
  replace hf := mx_gd_el hf; obtain ⟨c61, hf⟩ := hf
  replace hf := mx_sv_el hf; obtain ⟨u62, e_u62, hf⟩ := hf
  refine sx_na hm dX13_init_602 rfl (Or.inl rfl) c61 e_u62 ?_
  clear e_u62
  replace hf := mx_sv_el hf; obtain ⟨h63, e_h63, hf⟩ := hf
  refine sx_put hm dX13_init_604 rs_RX13_215 ft_13_102 ⟨rfl, rfl⟩ (fun _ => ⟨rfl, rfl⟩) e_h63 ?_
  clear e_h63
  refine mx_S.pu (pc2 := 608) (lv2 := [(0, .ref l0)]) (st2 := [.ref l0]) hm dX13_init_607 rfl ?_
  refine sx_bi (v := 8) hm dX13_init_608 (by decide) ?_
  replace hf := mx_gd_el hf; obtain ⟨c64, hf⟩ := hf
  replace hf := mx_sv_el hf; obtain ⟨u65, e_u65, hf⟩ := hf
  refine sx_na hm dX13_init_610 rfl (Or.inl rfl) c64 e_u65 ?_
  clear e_u65
  replace hf := mx_sv_el hf; obtain ⟨h66, e_h66, hf⟩ := hf
  refine sx_put hm dX13_init_612 rs_RX13_218 ft_13_103 ⟨rfl, rfl⟩ (fun _ => ⟨rfl, rfl⟩) e_h66 ?_
  clear e_h66
  refine mx_S.pu (pc2 := 616) (lv2 := [(0, .ref l0)]) (st2 := [.ref l0]) hm dX13_init_615 rfl ?_
  refine sx_bi (v := 8) hm dX13_init_616 (by decide) ?_
  replace hf := mx_gd_el hf; obtain ⟨c67, hf⟩ := hf
  replace hf := mx_sv_el hf; obtain ⟨u68, e_u68, hf⟩ := hf
  refine sx_na hm dX13_init_618 rfl (Or.inl rfl) c67 e_u68 ?_
  clear e_u68
  replace hf := mx_sv_el hf; obtain ⟨h69, e_h69, hf⟩ := hf
  refine sx_put hm dX13_init_620 rs_RX13_221 ft_13_104 ⟨rfl, rfl⟩ (fun _ => ⟨rfl, rfl⟩) e_h69 ?_
  clear e_h69
  refine mx_S.pu (pc2 := 624) (lv2 := [(0, .ref l0)]) (st2 := [.ref l0]) hm dX13_init_623 rfl ?_
  refine sx_bi (v := 8) hm dX13_init_624 (by decide) ?_
  replace hf := mx_gd_el hf; obtain ⟨c70, hf⟩ := hf
  replace hf := mx_sv_el hf; obtain ⟨u71, e_u71, hf⟩ := hf
  refine sx_na hm dX13_init_626 rfl (Or.inl rfl) c70 e_u71 ?_
  clear e_u71
  replace hf := mx_sv_el hf; obtain ⟨h72, e_h72, hf⟩ := hf
  refine sx_put hm dX13_init_628 rs_RX13_224 ft_13_105 ⟨rfl, rfl⟩ (fun _ => ⟨rfl, rfl⟩) e_h72 ?_
  clear e_h72
  refine mx_S.pu (pc2 := 632) (lv2 := [(0, .ref l0)]) (st2 := [.ref l0]) hm dX13_init_631 rfl ?_
  refine sx_bi (v := 8) hm dX13_init_632 (by decide) ?_
  replace hf := mx_gd_el hf; obtain ⟨c73, hf⟩ := hf
  replace hf := mx_sv_el hf; obtain ⟨u74, e_u74, hf⟩ := hf
  refine sx_na hm dX13_init_634 rfl (Or.inl rfl) c73 e_u74 ?_
  clear e_u74
  replace hf := mx_sv_el hf; obtain ⟨h75, e_h75, hf⟩ := hf
  refine sx_put hm dX13_init_636 rs_RX13_227 ft_13_106 ⟨rfl, rfl⟩ (fun _ => ⟨rfl, rfl⟩) e_h75 ?_
  clear e_h75
  refine mx_S.pu (pc2 := 640) (lv2 := [(0, .ref l0)]) (st2 := [.ref l0]) hm dX13_init_639 rfl ?_
  refine sx_bi (v := 96) hm dX13_init_640 (by decide) ?_
  replace hf := mx_gd_el hf; obtain ⟨c76, hf⟩ := hf
  replace hf := mx_sv_el hf; obtain ⟨u77, e_u77, hf⟩ := hf
  refine sx_na hm dX13_init_642 rfl (Or.inl rfl) c76 e_u77 ?_
  clear e_u77
  replace hf := mx_sv_el hf; obtain ⟨h78, e_h78, hf⟩ := hf
  refine sx_put hm dX13_init_644 rs_RX13_230 ft_13_107 ⟨rfl, rfl⟩ (fun _ => ⟨rfl, rfl⟩) e_h78 ?_
  clear e_h78
  refine mx_S.pu (pc2 := 648) (lv2 := [(0, .ref l0)]) (st2 := [.ref l0]) hm dX13_init_647 rfl ?_
  refine sx_bi (v := 8) hm dX13_init_648 (by decide) ?_
  replace hf := mx_gd_el hf; obtain ⟨c79, hf⟩ := hf
  replace hf := mx_sv_el hf; obtain ⟨u80, e_u80, hf⟩ := hf
  refine sx_na hm dX13_init_650 rfl (Or.inl rfl) c79 e_u80 ?_
  clear e_u80
  replace hf := mx_sv_el hf; obtain ⟨h81, e_h81, hf⟩ := hf
  refine sx_put hm dX13_init_652 rs_RX13_233 ft_13_108 ⟨rfl, rfl⟩ (fun _ => ⟨rfl, rfl⟩) e_h81 ?_
  clear e_h81
  refine mx_S.pu (pc2 := 656) (lv2 := [(0, .ref l0)]) (st2 := [.ref l0]) hm dX13_init_655 rfl ?_
  refine sx_bi (v := 96) hm dX13_init_656 (by decide) ?_
  replace hf := mx_gd_el hf; obtain ⟨c82, hf⟩ := hf
  replace hf := mx_sv_el hf; obtain ⟨u83, e_u83, hf⟩ := hf
  refine sx_na hm dX13_init_658 rfl (Or.inl rfl) c82 e_u83 ?_
  clear e_u83
  replace hf := mx_sv_el hf; obtain ⟨h84, e_h84, hf⟩ := hf
  refine sx_put hm dX13_init_660 rs_RX13_236 ft_13_109 ⟨rfl, rfl⟩ (fun _ => ⟨rfl, rfl⟩) e_h84 ?_
  clear e_h84
  refine mx_S.pu (pc2 := 664) (lv2 := [(0, .ref l0)]) (st2 := [.ref l0]) hm dX13_init_663 rfl ?_
  refine sx_bi (v := 96) hm dX13_init_664 (by decide) ?_
  replace hf := mx_gd_el hf; obtain ⟨c85, hf⟩ := hf
  replace hf := mx_sv_el hf; obtain ⟨u86, e_u86, hf⟩ := hf
  refine sx_na hm dX13_init_666 rfl (Or.inl rfl) c85 e_u86 ?_
  clear e_u86
  replace hf := mx_sv_el hf; obtain ⟨h87, e_h87, hf⟩ := hf
  refine sx_put hm dX13_init_668 rs_RX13_239 ft_13_110 ⟨rfl, rfl⟩ (fun _ => ⟨rfl, rfl⟩) e_h87 ?_
  clear e_h87
  refine mx_S.pu (pc2 := 672) (lv2 := [(0, .ref l0)]) (st2 := [.ref l0]) hm dX13_init_671 rfl ?_
  refine sx_bi (v := 96) hm dX13_init_672 (by decide) ?_
  replace hf := mx_gd_el hf; obtain ⟨c88, hf⟩ := hf
  replace hf := mx_sv_el hf; obtain ⟨u89, e_u89, hf⟩ := hf
  refine sx_na hm dX13_init_674 rfl (Or.inl rfl) c88 e_u89 ?_
  clear e_u89
  replace hf := mx_sv_el hf; obtain ⟨h90, e_h90, hf⟩ := hf
  refine sx_put hm dX13_init_676 rs_RX13_242 ft_13_111 ⟨rfl, rfl⟩ (fun _ => ⟨rfl, rfl⟩) e_h90 ?_
  clear e_h90
  refine mx_S.pu (pc2 := 680) (lv2 := [(0, .ref l0)]) (st2 := [.ref l0]) hm dX13_init_679 rfl ?_
  refine sx_si (v := 6000) hm dX13_init_680 (by decide) ?_
  replace hf := mx_gd_el hf; obtain ⟨c91, hf⟩ := hf
  replace hf := mx_sv_el hf; obtain ⟨u92, e_u92, hf⟩ := hf
  refine sx_na hm dX13_init_683 rfl (Or.inl rfl) c91 e_u92 ?_
  clear e_u92
  replace hf := mx_sv_el hf; obtain ⟨h93, e_h93, hf⟩ := hf
  refine sx_put hm dX13_init_685 rs_RX13_245 ft_13_112 ⟨rfl, rfl⟩ (fun _ => ⟨rfl, rfl⟩) e_h93 ?_
  clear e_h93
  refine mx_S.pu (pc2 := 689) (lv2 := [(0, .ref l0)]) (st2 := [.ref l0]) hm dX13_init_688 rfl ?_
  refine sx_si (v := 309) hm dX13_init_689 (by decide) ?_
  replace hf := mx_gd_el hf; obtain ⟨c94, hf⟩ := hf
  replace hf := mx_sv_el hf; obtain ⟨u95, e_u95, hf⟩ := hf
  refine sx_na hm dX13_init_692 rfl (Or.inl rfl) c94 e_u95 ?_
  clear e_u95
  replace hf := mx_sv_el hf; obtain ⟨h96, e_h96, hf⟩ := hf
  refine sx_put hm dX13_init_694 rs_RX13_248 ft_13_116 ⟨rfl, rfl⟩ (fun _ => ⟨rfl, rfl⟩) e_h96 ?_
  clear e_h96
  refine mx_S.pu (pc2 := 698) (lv2 := [(0, .ref l0)]) (st2 := [.ref l0]) hm dX13_init_697 rfl ?_
  refine sx_si (v := 2100) hm dX13_init_698 (by decide) ?_
  replace hf := mx_gd_el hf; obtain ⟨c97, hf⟩ := hf
  replace hf := mx_sv_el hf; obtain ⟨u98, e_u98, hf⟩ := hf
  refine sx_na hm dX13_init_701 rfl (Or.inl rfl) c97 e_u98 ?_
  clear e_u98
  replace hf := mx_sv_el hf; obtain ⟨h99, e_h99, hf⟩ := hf
  refine sx_put hm dX13_init_703 rs_RX13_251 ft_13_118 ⟨rfl, rfl⟩ (fun _ => ⟨rfl, rfl⟩) e_h99 ?_
  clear e_h99
  refine mx_S.pu (pc2 := 707) (lv2 := [(0, .ref l0)]) (st2 := [.ref l0]) hm dX13_init_706 rfl ?_
  refine sx_si (v := 2100) hm dX13_init_707 (by decide) ?_
  replace hf := mx_gd_el hf; obtain ⟨c100, hf⟩ := hf
  replace hf := mx_sv_el hf; obtain ⟨u101, e_u101, hf⟩ := hf
  refine sx_na hm dX13_init_710 rfl (Or.inl rfl) c100 e_u101 ?_
  clear e_u101
  replace hf := mx_sv_el hf; obtain ⟨h102, e_h102, hf⟩ := hf
  refine sx_put hm dX13_init_712 rs_RX13_254 ft_13_119 ⟨rfl, rfl⟩ (fun _ => ⟨rfl, rfl⟩) e_h102 ?_
  clear e_h102
  refine mx_S.pu (pc2 := 716) (lv2 := [(0, .ref l0)]) (st2 := [.ref l0]) hm dX13_init_715 rfl ?_
  refine sx_ic (v := (-1)) hm dX13_init_716 (by decide) ?_
  replace hf := mx_sv_el hf; obtain ⟨h103, e_h103, hf⟩ := hf
  refine sx_put hm dX13_init_717 rs_RX13_257 ft_13_123 ⟨rfl, rfl⟩ (fun z => by cases z) e_h103 ?_
  clear e_h103
  refine mx_S.pu (pc2 := 721) (lv2 := [(0, .ref l0)]) (st2 := [.ref l0]) hm dX13_init_720 rfl ?_
  refine sx_ic (v := (-1)) hm dX13_init_721 (by decide) ?_
  replace hf := mx_sv_el hf; obtain ⟨h104, e_h104, hf⟩ := hf
  refine sx_put hm dX13_init_722 rs_RX13_261 ft_13_124 ⟨rfl, rfl⟩ (fun z => by cases z) e_h104 ?_
  clear e_h104
  exact j_X13_init_725_ok X hF hL nn l0 h104 (((((((((((((((((((c + 1) + 1) + 1) + 1) + 1) + 1) + 1) + 1) + 1) + 1) + 1) + 1) + 1) + 1) + 1) + 1) + 1) + 1) + 1) (((((((((((((((((((s + (Int32.ofNat 48000).toNatClampNeg) + (8 : Int32).toNatClampNeg) + (Int32.ofNat 40000).toNatClampNeg) + (Int32.ofNat 48000).toNatClampNeg) + (8 : Int32).toNatClampNeg) + (2048 : Int32).toNatClampNeg) + (8 : Int32).toNatClampNeg) + (8 : Int32).toNatClampNeg) + (8 : Int32).toNatClampNeg) + (8 : Int32).toNatClampNeg) + (96 : Int32).toNatClampNeg) + (8 : Int32).toNatClampNeg) + (96 : Int32).toNatClampNeg) + (96 : Int32).toNatClampNeg) + (96 : Int32).toNatClampNeg) + (6000 : Int32).toNatClampNeg) + (309 : Int32).toNatClampNeg) + (2100 : Int32).toNatClampNeg) + (2100 : Int32).toNatClampNeg) hf
set_option maxHeartbeats 4000000 in
set_option maxRecDepth 20000 in
theorem j_X13_init_373_ok (X : Nat × (Nat → Int32)) {F L : Nat} (hF : 1 ≤ F) (hL : 60 ≤ L) (nn : Nat) (l0 : Nat) (h : mx_H) (c : Nat) (s : Nat) {r : (mx_H × Nat × Nat)} (hf : j_X13_init_373 nn l0 h c s = some r) : mx_S X F L 379 373 [(0, .ref l0)] [] h c s (none, r.1, r.2.1, r.2.2) := by
  have hm : mx_mt 379 = some (yX13_init, cX13_init, 1, none) := mt_X13_init
  unfold j_X13_init_373 at hf
  refine mx_S.pu (pc2 := 374) (lv2 := [(0, .ref l0)]) (st2 := [.ref l0]) hm dX13_init_373 rfl ?_
  refine sx_si (v := 2000) hm dX13_init_374 (by decide) ?_
  replace hf := mx_gd_el hf; obtain ⟨c105, hf⟩ := hf
  replace hf := mx_sv_el hf; obtain ⟨u106, e_u106, hf⟩ := hf
  refine sx_na hm dX13_init_377 rfl (Or.inl rfl) c105 e_u106 ?_
  clear e_u106
  replace hf := mx_sv_el hf; obtain ⟨h107, e_h107, hf⟩ := hf
  refine sx_put hm dX13_init_379 rs_RX13_134 ft_13_60 ⟨rfl, rfl⟩ (fun _ => ⟨rfl, rfl⟩) e_h107 ?_
  clear e_h107
  refine mx_S.pu (pc2 := 383) (lv2 := [(0, .ref l0)]) (st2 := [.ref l0]) hm dX13_init_382 rfl ?_
  refine sx_si (v := 2000) hm dX13_init_383 (by decide) ?_
  replace hf := mx_gd_el hf; obtain ⟨c108, hf⟩ := hf
  replace hf := mx_sv_el hf; obtain ⟨u109, e_u109, hf⟩ := hf
  refine sx_na hm dX13_init_386 rfl (Or.inl rfl) c108 e_u109 ?_
  clear e_u109
  replace hf := mx_sv_el hf; obtain ⟨h110, e_h110, hf⟩ := hf
  refine sx_put hm dX13_init_388 rs_RX13_137 ft_13_61 ⟨rfl, rfl⟩ (fun _ => ⟨rfl, rfl⟩) e_h110 ?_
  clear e_h110
  refine mx_S.pu (pc2 := 392) (lv2 := [(0, .ref l0)]) (st2 := [.ref l0]) hm dX13_init_391 rfl ?_
  refine sx_ldc hm dX13_init_392 rs_RX13_140 ?_
  replace hf := mx_gd_el hf; obtain ⟨c111, hf⟩ := hf
  replace hf := mx_sv_el hf; obtain ⟨u112, e_u112, hf⟩ := hf
  refine sx_na hm dX13_init_394 rfl (Or.inl rfl) c111 e_u112 ?_
  clear e_u112
  replace hf := mx_sv_el hf; obtain ⟨h113, e_h113, hf⟩ := hf
  refine sx_put hm dX13_init_396 rs_RX13_141 ft_13_63 ⟨rfl, rfl⟩ (fun _ => ⟨rfl, rfl⟩) e_h113 ?_
  clear e_h113
  refine mx_S.pu (pc2 := 400) (lv2 := [(0, .ref l0)]) (st2 := [.ref l0]) hm dX13_init_399 rfl ?_
  refine sx_si (v := 200) hm dX13_init_400 (by decide) ?_
  replace hf := mx_gd_el hf; obtain ⟨c114, hf⟩ := hf
  replace hf := mx_sv_el hf; obtain ⟨u115, e_u115, hf⟩ := hf
  refine sx_na hm dX13_init_403 rfl (Or.inl rfl) c114 e_u115 ?_
  clear e_u115
  replace hf := mx_sv_el hf; obtain ⟨h116, e_h116, hf⟩ := hf
  refine sx_put hm dX13_init_405 rs_RX13_144 ft_13_65 ⟨rfl, rfl⟩ (fun _ => ⟨rfl, rfl⟩) e_h116 ?_
  clear e_h116
  refine mx_S.pu (pc2 := 409) (lv2 := [(0, .ref l0)]) (st2 := [.ref l0]) hm dX13_init_408 rfl ?_
  refine sx_si (v := 12000) hm dX13_init_409 (by decide) ?_
  replace hf := mx_gd_el hf; obtain ⟨c117, hf⟩ := hf
  replace hf := mx_sv_el hf; obtain ⟨u118, e_u118, hf⟩ := hf
  refine sx_na hm dX13_init_412 rfl (Or.inl rfl) c117 e_u118 ?_
  clear e_u118
  replace hf := mx_sv_el hf; obtain ⟨h119, e_h119, hf⟩ := hf
  refine sx_put hm dX13_init_414 rs_RX13_147 ft_13_67 ⟨rfl, rfl⟩ (fun _ => ⟨rfl, rfl⟩) e_h119 ?_
  clear e_h119
  refine mx_S.pu (pc2 := 418) (lv2 := [(0, .ref l0)]) (st2 := [.ref l0]) hm dX13_init_417 rfl ?_
  refine sx_si (v := 3000) hm dX13_init_418 (by decide) ?_
  replace hf := mx_gd_el hf; obtain ⟨c120, hf⟩ := hf
  replace hf := mx_sv_el hf; obtain ⟨u121, e_u121, hf⟩ := hf
  refine sx_na hm dX13_init_421 rfl (Or.inl rfl) c120 e_u121 ?_
  clear e_u121
  replace hf := mx_sv_el hf; obtain ⟨h122, e_h122, hf⟩ := hf
  refine sx_put hm dX13_init_423 rs_RX13_150 ft_13_69 ⟨rfl, rfl⟩ (fun _ => ⟨rfl, rfl⟩) e_h122 ?_
  clear e_h122
  refine mx_S.pu (pc2 := 427) (lv2 := [(0, .ref l0)]) (st2 := [.ref l0]) hm dX13_init_426 rfl ?_
  refine sx_si (v := 6200) hm dX13_init_427 (by decide) ?_
  replace hf := mx_gd_el hf; obtain ⟨c123, hf⟩ := hf
  replace hf := mx_sv_el hf; obtain ⟨u124, e_u124, hf⟩ := hf
  refine sx_na hm dX13_init_430 rfl (Or.inl rfl) c123 e_u124 ?_
  clear e_u124
  replace hf := mx_sv_el hf; obtain ⟨h125, e_h125, hf⟩ := hf
  refine sx_put hm dX13_init_432 rs_RX13_153 ft_13_73 ⟨rfl, rfl⟩ (fun _ => ⟨rfl, rfl⟩) e_h125 ?_
  clear e_h125
  refine mx_S.pu (pc2 := 436) (lv2 := [(0, .ref l0)]) (st2 := [.ref l0]) hm dX13_init_435 rfl ?_
  refine sx_si (v := 6200) hm dX13_init_436 (by decide) ?_
  replace hf := mx_gd_el hf; obtain ⟨c126, hf⟩ := hf
  replace hf := mx_sv_el hf; obtain ⟨u127, e_u127, hf⟩ := hf
  refine sx_na hm dX13_init_439 rfl (Or.inl rfl) c126 e_u127 ?_
  clear e_u127
  replace hf := mx_sv_el hf; obtain ⟨h128, e_h128, hf⟩ := hf
  refine sx_put hm dX13_init_441 rs_RX13_156 ft_13_74 ⟨rfl, rfl⟩ (fun _ => ⟨rfl, rfl⟩) e_h128 ?_
  clear e_h128
  refine mx_S.pu (pc2 := 445) (lv2 := [(0, .ref l0)]) (st2 := [.ref l0]) hm dX13_init_444 rfl ?_
  refine sx_si (v := 6200) hm dX13_init_445 (by decide) ?_
  replace hf := mx_gd_el hf; obtain ⟨c129, hf⟩ := hf
  replace hf := mx_sv_el hf; obtain ⟨u130, e_u130, hf⟩ := hf
  refine sx_na hm dX13_init_448 rfl (Or.inl rfl) c129 e_u130 ?_
  clear e_u130
  replace hf := mx_sv_el hf; obtain ⟨h131, e_h131, hf⟩ := hf
  refine sx_put hm dX13_init_450 rs_RX13_159 ft_13_75 ⟨rfl, rfl⟩ (fun _ => ⟨rfl, rfl⟩) e_h131 ?_
  clear e_h131
  refine mx_S.pu (pc2 := 454) (lv2 := [(0, .ref l0)]) (st2 := [.ref l0]) hm dX13_init_453 rfl ?_
  refine sx_si (v := 6200) hm dX13_init_454 (by decide) ?_
  replace hf := mx_gd_el hf; obtain ⟨c132, hf⟩ := hf
  replace hf := mx_sv_el hf; obtain ⟨u133, e_u133, hf⟩ := hf
  refine sx_na hm dX13_init_457 rfl (Or.inl rfl) c132 e_u133 ?_
  clear e_u133
  replace hf := mx_sv_el hf; obtain ⟨h134, e_h134, hf⟩ := hf
  refine sx_put hm dX13_init_459 rs_RX13_162 ft_13_76 ⟨rfl, rfl⟩ (fun _ => ⟨rfl, rfl⟩) e_h134 ?_
  clear e_h134
  refine mx_S.pu (pc2 := 463) (lv2 := [(0, .ref l0)]) (st2 := [.ref l0]) hm dX13_init_462 rfl ?_
  refine sx_ldc hm dX13_init_463 rs_RX13_165 ?_
  replace hf := mx_gd_el hf; obtain ⟨c135, hf⟩ := hf
  replace hf := mx_sv_el hf; obtain ⟨u136, e_u136, hf⟩ := hf
  refine sx_na hm dX13_init_465 rfl (Or.inl rfl) c135 e_u136 ?_
  clear e_u136
  replace hf := mx_sv_el hf; obtain ⟨h137, e_h137, hf⟩ := hf
  refine sx_put hm dX13_init_467 rs_RX13_166 ft_13_77 ⟨rfl, rfl⟩ (fun _ => ⟨rfl, rfl⟩) e_h137 ?_
  clear e_h137
  refine mx_S.pu (pc2 := 471) (lv2 := [(0, .ref l0)]) (st2 := [.ref l0]) hm dX13_init_470 rfl ?_
  refine sx_si (v := 1000) hm dX13_init_471 (by decide) ?_
  replace hf := mx_gd_el hf; obtain ⟨c138, hf⟩ := hf
  replace hf := mx_sv_el hf; obtain ⟨u139, e_u139, hf⟩ := hf
  refine sx_na hm dX13_init_474 rfl (Or.inl rfl) c138 e_u139 ?_
  clear e_u139
  replace hf := mx_sv_el hf; obtain ⟨h140, e_h140, hf⟩ := hf
  refine sx_put hm dX13_init_476 rs_RX13_169 ft_13_80 ⟨rfl, rfl⟩ (fun _ => ⟨rfl, rfl⟩) e_h140 ?_
  clear e_h140
  refine mx_S.pu (pc2 := 480) (lv2 := [(0, .ref l0)]) (st2 := [.ref l0]) hm dX13_init_479 rfl ?_
  refine sx_si (v := 1000) hm dX13_init_480 (by decide) ?_
  replace hf := mx_gd_el hf; obtain ⟨c141, hf⟩ := hf
  replace hf := mx_sv_el hf; obtain ⟨u142, e_u142, hf⟩ := hf
  refine sx_na hm dX13_init_483 rfl (Or.inl rfl) c141 e_u142 ?_
  clear e_u142
  replace hf := mx_sv_el hf; obtain ⟨h143, e_h143, hf⟩ := hf
  refine sx_put hm dX13_init_485 rs_RX13_172 ft_13_81 ⟨rfl, rfl⟩ (fun _ => ⟨rfl, rfl⟩) e_h143 ?_
  clear e_h143
  refine mx_S.pu (pc2 := 489) (lv2 := [(0, .ref l0)]) (st2 := [.ref l0]) hm dX13_init_488 rfl ?_
  refine sx_si (v := 1000) hm dX13_init_489 (by decide) ?_
  replace hf := mx_gd_el hf; obtain ⟨c144, hf⟩ := hf
  replace hf := mx_sv_el hf; obtain ⟨u145, e_u145, hf⟩ := hf
  refine sx_na hm dX13_init_492 rfl (Or.inl rfl) c144 e_u145 ?_
  clear e_u145
  replace hf := mx_sv_el hf; obtain ⟨h146, e_h146, hf⟩ := hf
  refine sx_put hm dX13_init_494 rs_RX13_175 ft_13_82 ⟨rfl, rfl⟩ (fun _ => ⟨rfl, rfl⟩) e_h146 ?_
  clear e_h146
  refine mx_S.pu (pc2 := 498) (lv2 := [(0, .ref l0)]) (st2 := [.ref l0]) hm dX13_init_497 rfl ?_
  refine sx_si (v := 1000) hm dX13_init_498 (by decide) ?_
  replace hf := mx_gd_el hf; obtain ⟨c147, hf⟩ := hf
  replace hf := mx_sv_el hf; obtain ⟨u148, e_u148, hf⟩ := hf
  refine sx_na hm dX13_init_501 rfl (Or.inl rfl) c147 e_u148 ?_
  clear e_u148
  replace hf := mx_sv_el hf; obtain ⟨h149, e_h149, hf⟩ := hf
  refine sx_put hm dX13_init_503 rs_RX13_178 ft_13_83 ⟨rfl, rfl⟩ (fun _ => ⟨rfl, rfl⟩) e_h149 ?_
  clear e_h149
  refine mx_S.pu (pc2 := 507) (lv2 := [(0, .ref l0)]) (st2 := [.ref l0]) hm dX13_init_506 rfl ?_
  refine sx_si (v := 3000) hm dX13_init_507 (by decide) ?_
  replace hf := mx_gd_el hf; obtain ⟨c150, hf⟩ := hf
  replace hf := mx_sv_el hf; obtain ⟨u151, e_u151, hf⟩ := hf
  refine sx_na hm dX13_init_510 rfl (Or.inl rfl) c150 e_u151 ?_
  clear e_u151
  replace hf := mx_sv_el hf; obtain ⟨h152, e_h152, hf⟩ := hf
  refine sx_put hm dX13_init_512 rs_RX13_181 ft_13_85 ⟨rfl, rfl⟩ (fun _ => ⟨rfl, rfl⟩) e_h152 ?_
  clear e_h152
  refine mx_S.pu (pc2 := 516) (lv2 := [(0, .ref l0)]) (st2 := [.ref l0]) hm dX13_init_515 rfl ?_
  refine sx_si (v := 3000) hm dX13_init_516 (by decide) ?_
  replace hf := mx_gd_el hf; obtain ⟨c153, hf⟩ := hf
  replace hf := mx_sv_el hf; obtain ⟨u154, e_u154, hf⟩ := hf
  refine sx_na hm dX13_init_519 rfl (Or.inl rfl) c153 e_u154 ?_
  clear e_u154
  replace hf := mx_sv_el hf; obtain ⟨h155, e_h155, hf⟩ := hf
  refine sx_put hm dX13_init_521 rs_RX13_184 ft_13_86 ⟨rfl, rfl⟩ (fun _ => ⟨rfl, rfl⟩) e_h155 ?_
  clear e_h155
  refine mx_S.pu (pc2 := 525) (lv2 := [(0, .ref l0)]) (st2 := [.ref l0]) hm dX13_init_524 rfl ?_
  refine sx_si (v := 3000) hm dX13_init_525 (by decide) ?_
  replace hf := mx_gd_el hf; obtain ⟨c156, hf⟩ := hf
  replace hf := mx_sv_el hf; obtain ⟨u157, e_u157, hf⟩ := hf
  refine sx_na hm dX13_init_528 rfl (Or.inl rfl) c156 e_u157 ?_
  clear e_u157
  replace hf := mx_sv_el hf; obtain ⟨h158, e_h158, hf⟩ := hf
  refine sx_put hm dX13_init_530 rs_RX13_187 ft_13_89 ⟨rfl, rfl⟩ (fun _ => ⟨rfl, rfl⟩) e_h158 ?_
  clear e_h158
  refine mx_S.pu (pc2 := 534) (lv2 := [(0, .ref l0)]) (st2 := [.ref l0]) hm dX13_init_533 rfl ?_
  refine sx_si (v := 3000) hm dX13_init_534 (by decide) ?_
  replace hf := mx_gd_el hf; obtain ⟨c159, hf⟩ := hf
  replace hf := mx_sv_el hf; obtain ⟨u160, e_u160, hf⟩ := hf
  refine sx_na hm dX13_init_537 rfl (Or.inl rfl) c159 e_u160 ?_
  clear e_u160
  replace hf := mx_sv_el hf; obtain ⟨h161, e_h161, hf⟩ := hf
  refine sx_put hm dX13_init_539 rs_RX13_190 ft_13_90 ⟨rfl, rfl⟩ (fun _ => ⟨rfl, rfl⟩) e_h161 ?_
  clear e_h161
  refine mx_S.pu (pc2 := 543) (lv2 := [(0, .ref l0)]) (st2 := [.ref l0]) hm dX13_init_542 rfl ?_
  refine sx_ldc hm dX13_init_543 rs_RX13_193 ?_
  replace hf := mx_gd_el hf; obtain ⟨c162, hf⟩ := hf
  replace hf := mx_sv_el hf; obtain ⟨u163, e_u163, hf⟩ := hf
  refine sx_na hm dX13_init_545 rfl (Or.inl rfl) c162 e_u163 ?_
  clear e_u163
  replace hf := mx_sv_el hf; obtain ⟨h164, e_h164, hf⟩ := hf
  refine sx_put hm dX13_init_547 rs_RX13_194 ft_13_91 ⟨rfl, rfl⟩ (fun _ => ⟨rfl, rfl⟩) e_h164 ?_
  clear e_h164
  refine mx_S.pu (pc2 := 551) (lv2 := [(0, .ref l0)]) (st2 := [.ref l0]) hm dX13_init_550 rfl ?_
  refine sx_bi (v := 8) hm dX13_init_551 (by decide) ?_
  replace hf := mx_gd_el hf; obtain ⟨c165, hf⟩ := hf
  replace hf := mx_sv_el hf; obtain ⟨u166, e_u166, hf⟩ := hf
  refine sx_na hm dX13_init_553 rfl (Or.inl rfl) c165 e_u166 ?_
  clear e_u166
  replace hf := mx_sv_el hf; obtain ⟨h167, e_h167, hf⟩ := hf
  refine sx_put hm dX13_init_555 rs_RX13_197 ft_13_92 ⟨rfl, rfl⟩ (fun _ => ⟨rfl, rfl⟩) e_h167 ?_
  clear e_h167
  exact j_X13_init_558_ok X hF hL nn l0 h167 (((((((((((((((((((((c + 1) + 1) + 1) + 1) + 1) + 1) + 1) + 1) + 1) + 1) + 1) + 1) + 1) + 1) + 1) + 1) + 1) + 1) + 1) + 1) + 1) (((((((((((((((((((((s + (2000 : Int32).toNatClampNeg) + (2000 : Int32).toNatClampNeg) + (Int32.ofNat 40000).toNatClampNeg) + (200 : Int32).toNatClampNeg) + (12000 : Int32).toNatClampNeg) + (3000 : Int32).toNatClampNeg) + (6200 : Int32).toNatClampNeg) + (6200 : Int32).toNatClampNeg) + (6200 : Int32).toNatClampNeg) + (6200 : Int32).toNatClampNeg) + (Int32.ofNat 60000).toNatClampNeg) + (1000 : Int32).toNatClampNeg) + (1000 : Int32).toNatClampNeg) + (1000 : Int32).toNatClampNeg) + (1000 : Int32).toNatClampNeg) + (3000 : Int32).toNatClampNeg) + (3000 : Int32).toNatClampNeg) + (3000 : Int32).toNatClampNeg) + (3000 : Int32).toNatClampNeg) + (Int32.ofNat 48000).toNatClampNeg) + (8 : Int32).toNatClampNeg) hf
set_option maxHeartbeats 4000000 in
set_option maxRecDepth 20000 in
theorem j_X13_init_184_ok (X : Nat × (Nat → Int32)) {F L : Nat} (hF : 1 ≤ F) (hL : 60 ≤ L) (nn : Nat) (l0 : Nat) (h : mx_H) (c : Nat) (s : Nat) {r : (mx_H × Nat × Nat)} (hf : j_X13_init_184 nn l0 h c s = some r) : mx_S X F L 379 184 [(0, .ref l0)] [] h c s (none, r.1, r.2.1, r.2.2) := by
  have hm : mx_mt 379 = some (yX13_init, cX13_init, 1, none) := mt_X13_init
  unfold j_X13_init_184 at hf
  refine mx_S.pu (pc2 := 185) (lv2 := [(0, .ref l0)]) (st2 := [.ref l0]) hm dX13_init_184 rfl ?_
  refine sx_si (v := 800) hm dX13_init_185 (by decide) ?_
  replace hf := mx_gd_el hf; obtain ⟨c168, hf⟩ := hf
  replace hf := mx_sv_el hf; obtain ⟨u169, e_u169, hf⟩ := hf
  refine sx_na hm dX13_init_188 rfl (Or.inl rfl) c168 e_u169 ?_
  clear e_u169
  replace hf := mx_sv_el hf; obtain ⟨h170, e_h170, hf⟩ := hf
  refine sx_put hm dX13_init_190 rs_RX13_71 ft_13_29 ⟨rfl, rfl⟩ (fun _ => ⟨rfl, rfl⟩) e_h170 ?_
  clear e_h170
  refine mx_S.pu (pc2 := 194) (lv2 := [(0, .ref l0)]) (st2 := [.ref l0]) hm dX13_init_193 rfl ?_
  refine sx_si (v := 800) hm dX13_init_194 (by decide) ?_
  replace hf := mx_gd_el hf; obtain ⟨c171, hf⟩ := hf
  replace hf := mx_sv_el hf; obtain ⟨u172, e_u172, hf⟩ := hf
  refine sx_na hm dX13_init_197 rfl (Or.inl rfl) c171 e_u172 ?_
  clear e_u172
  replace hf := mx_sv_el hf; obtain ⟨h173, e_h173, hf⟩ := hf
  refine sx_put hm dX13_init_199 rs_RX13_74 ft_13_30 ⟨rfl, rfl⟩ (fun _ => ⟨rfl, rfl⟩) e_h173 ?_
  clear e_h173
  refine mx_S.pu (pc2 := 203) (lv2 := [(0, .ref l0)]) (st2 := [.ref l0]) hm dX13_init_202 rfl ?_
  refine sx_si (v := 800) hm dX13_init_203 (by decide) ?_
  replace hf := mx_gd_el hf; obtain ⟨c174, hf⟩ := hf
  replace hf := mx_sv_el hf; obtain ⟨u175, e_u175, hf⟩ := hf
  refine sx_na hm dX13_init_206 rfl (Or.inl rfl) c174 e_u175 ?_
  clear e_u175
  replace hf := mx_sv_el hf; obtain ⟨h176, e_h176, hf⟩ := hf
  refine sx_put hm dX13_init_208 rs_RX13_77 ft_13_31 ⟨rfl, rfl⟩ (fun _ => ⟨rfl, rfl⟩) e_h176 ?_
  clear e_h176
  refine mx_S.pu (pc2 := 212) (lv2 := [(0, .ref l0)]) (st2 := [.ref l0]) hm dX13_init_211 rfl ?_
  refine sx_si (v := 800) hm dX13_init_212 (by decide) ?_
  replace hf := mx_gd_el hf; obtain ⟨c177, hf⟩ := hf
  replace hf := mx_sv_el hf; obtain ⟨u178, e_u178, hf⟩ := hf
  refine sx_na hm dX13_init_215 rfl (Or.inl rfl) c177 e_u178 ?_
  clear e_u178
  replace hf := mx_sv_el hf; obtain ⟨h179, e_h179, hf⟩ := hf
  refine sx_put hm dX13_init_217 rs_RX13_80 ft_13_32 ⟨rfl, rfl⟩ (fun _ => ⟨rfl, rfl⟩) e_h179 ?_
  clear e_h179
  refine mx_S.pu (pc2 := 221) (lv2 := [(0, .ref l0)]) (st2 := [.ref l0]) hm dX13_init_220 rfl ?_
  refine sx_si (v := 800) hm dX13_init_221 (by decide) ?_
  replace hf := mx_gd_el hf; obtain ⟨c180, hf⟩ := hf
  replace hf := mx_sv_el hf; obtain ⟨u181, e_u181, hf⟩ := hf
  refine sx_na hm dX13_init_224 rfl (Or.inr (Or.inr rfl)) c180 e_u181 ?_
  clear e_u181
  replace hf := mx_sv_el hf; obtain ⟨h182, e_h182, hf⟩ := hf
  refine sx_put hm dX13_init_226 rs_RX13_83 ft_13_33 ⟨rfl, rfl⟩ (fun _ => ⟨rfl, rfl⟩) e_h182 ?_
  clear e_h182
  refine mx_S.pu (pc2 := 230) (lv2 := [(0, .ref l0)]) (st2 := [.ref l0]) hm dX13_init_229 rfl ?_
  refine sx_si (v := 800) hm dX13_init_230 (by decide) ?_
  replace hf := mx_gd_el hf; obtain ⟨c183, hf⟩ := hf
  replace hf := mx_sv_el hf; obtain ⟨u184, e_u184, hf⟩ := hf
  refine sx_na hm dX13_init_233 rfl (Or.inl rfl) c183 e_u184 ?_
  clear e_u184
  replace hf := mx_sv_el hf; obtain ⟨h185, e_h185, hf⟩ := hf
  refine sx_put hm dX13_init_235 rs_RX13_86 ft_13_34 ⟨rfl, rfl⟩ (fun _ => ⟨rfl, rfl⟩) e_h185 ?_
  clear e_h185
  refine mx_S.pu (pc2 := 239) (lv2 := [(0, .ref l0)]) (st2 := [.ref l0]) hm dX13_init_238 rfl ?_
  refine sx_si (v := 800) hm dX13_init_239 (by decide) ?_
  replace hf := mx_gd_el hf; obtain ⟨c186, hf⟩ := hf
  replace hf := mx_sv_el hf; obtain ⟨u187, e_u187, hf⟩ := hf
  refine sx_na hm dX13_init_242 rfl (Or.inl rfl) c186 e_u187 ?_
  clear e_u187
  replace hf := mx_sv_el hf; obtain ⟨h188, e_h188, hf⟩ := hf
  refine sx_put hm dX13_init_244 rs_RX13_89 ft_13_35 ⟨rfl, rfl⟩ (fun _ => ⟨rfl, rfl⟩) e_h188 ?_
  clear e_h188
  refine mx_S.pu (pc2 := 248) (lv2 := [(0, .ref l0)]) (st2 := [.ref l0]) hm dX13_init_247 rfl ?_
  refine sx_si (v := 800) hm dX13_init_248 (by decide) ?_
  replace hf := mx_gd_el hf; obtain ⟨c189, hf⟩ := hf
  replace hf := mx_sv_el hf; obtain ⟨u190, e_u190, hf⟩ := hf
  refine sx_na hm dX13_init_251 rfl (Or.inl rfl) c189 e_u190 ?_
  clear e_u190
  replace hf := mx_sv_el hf; obtain ⟨h191, e_h191, hf⟩ := hf
  refine sx_put hm dX13_init_253 rs_RX13_92 ft_13_36 ⟨rfl, rfl⟩ (fun _ => ⟨rfl, rfl⟩) e_h191 ?_
  clear e_h191
  refine mx_S.pu (pc2 := 257) (lv2 := [(0, .ref l0)]) (st2 := [.ref l0]) hm dX13_init_256 rfl ?_
  refine sx_si (v := 800) hm dX13_init_257 (by decide) ?_
  replace hf := mx_gd_el hf; obtain ⟨c192, hf⟩ := hf
  replace hf := mx_sv_el hf; obtain ⟨u193, e_u193, hf⟩ := hf
  refine sx_na hm dX13_init_260 rfl (Or.inl rfl) c192 e_u193 ?_
  clear e_u193
  replace hf := mx_sv_el hf; obtain ⟨h194, e_h194, hf⟩ := hf
  refine sx_put hm dX13_init_262 rs_RX13_95 ft_13_37 ⟨rfl, rfl⟩ (fun _ => ⟨rfl, rfl⟩) e_h194 ?_
  clear e_h194
  refine mx_S.pu (pc2 := 266) (lv2 := [(0, .ref l0)]) (st2 := [.ref l0]) hm dX13_init_265 rfl ?_
  refine sx_si (v := 800) hm dX13_init_266 (by decide) ?_
  replace hf := mx_gd_el hf; obtain ⟨c195, hf⟩ := hf
  replace hf := mx_sv_el hf; obtain ⟨u196, e_u196, hf⟩ := hf
  refine sx_na hm dX13_init_269 rfl (Or.inl rfl) c195 e_u196 ?_
  clear e_u196
  replace hf := mx_sv_el hf; obtain ⟨h197, e_h197, hf⟩ := hf
  refine sx_put hm dX13_init_271 rs_RX13_98 ft_13_38 ⟨rfl, rfl⟩ (fun _ => ⟨rfl, rfl⟩) e_h197 ?_
  clear e_h197
  refine mx_S.pu (pc2 := 275) (lv2 := [(0, .ref l0)]) (st2 := [.ref l0]) hm dX13_init_274 rfl ?_
  refine sx_si (v := 1500) hm dX13_init_275 (by decide) ?_
  replace hf := mx_gd_el hf; obtain ⟨c198, hf⟩ := hf
  replace hf := mx_sv_el hf; obtain ⟨u199, e_u199, hf⟩ := hf
  refine sx_na hm dX13_init_278 rfl (Or.inl rfl) c198 e_u199 ?_
  clear e_u199
  replace hf := mx_sv_el hf; obtain ⟨h200, e_h200, hf⟩ := hf
  refine sx_put hm dX13_init_280 rs_RX13_101 ft_13_40 ⟨rfl, rfl⟩ (fun _ => ⟨rfl, rfl⟩) e_h200 ?_
  clear e_h200
  refine mx_S.pu (pc2 := 284) (lv2 := [(0, .ref l0)]) (st2 := [.ref l0]) hm dX13_init_283 rfl ?_
  refine sx_si (v := 1500) hm dX13_init_284 (by decide) ?_
  replace hf := mx_gd_el hf; obtain ⟨c201, hf⟩ := hf
  replace hf := mx_sv_el hf; obtain ⟨u202, e_u202, hf⟩ := hf
  refine sx_na hm dX13_init_287 rfl (Or.inl rfl) c201 e_u202 ?_
  clear e_u202
  replace hf := mx_sv_el hf; obtain ⟨h203, e_h203, hf⟩ := hf
  refine sx_put hm dX13_init_289 rs_RX13_104 ft_13_41 ⟨rfl, rfl⟩ (fun _ => ⟨rfl, rfl⟩) e_h203 ?_
  clear e_h203
  refine mx_S.pu (pc2 := 293) (lv2 := [(0, .ref l0)]) (st2 := [.ref l0]) hm dX13_init_292 rfl ?_
  refine sx_si (v := 1500) hm dX13_init_293 (by decide) ?_
  replace hf := mx_gd_el hf; obtain ⟨c204, hf⟩ := hf
  replace hf := mx_sv_el hf; obtain ⟨u205, e_u205, hf⟩ := hf
  refine sx_na hm dX13_init_296 rfl (Or.inr (Or.inr rfl)) c204 e_u205 ?_
  clear e_u205
  replace hf := mx_sv_el hf; obtain ⟨h206, e_h206, hf⟩ := hf
  refine sx_put hm dX13_init_298 rs_RX13_107 ft_13_42 ⟨rfl, rfl⟩ (fun _ => ⟨rfl, rfl⟩) e_h206 ?_
  clear e_h206
  refine mx_S.pu (pc2 := 302) (lv2 := [(0, .ref l0)]) (st2 := [.ref l0]) hm dX13_init_301 rfl ?_
  refine sx_si (v := 1500) hm dX13_init_302 (by decide) ?_
  replace hf := mx_gd_el hf; obtain ⟨c207, hf⟩ := hf
  replace hf := mx_sv_el hf; obtain ⟨u208, e_u208, hf⟩ := hf
  refine sx_na hm dX13_init_305 rfl (Or.inl rfl) c207 e_u208 ?_
  clear e_u208
  replace hf := mx_sv_el hf; obtain ⟨h209, e_h209, hf⟩ := hf
  refine sx_put hm dX13_init_307 rs_RX13_110 ft_13_43 ⟨rfl, rfl⟩ (fun _ => ⟨rfl, rfl⟩) e_h209 ?_
  clear e_h209
  refine mx_S.pu (pc2 := 311) (lv2 := [(0, .ref l0)]) (st2 := [.ref l0]) hm dX13_init_310 rfl ?_
  refine sx_si (v := 1500) hm dX13_init_311 (by decide) ?_
  replace hf := mx_gd_el hf; obtain ⟨c210, hf⟩ := hf
  replace hf := mx_sv_el hf; obtain ⟨u211, e_u211, hf⟩ := hf
  refine sx_na hm dX13_init_314 rfl (Or.inl rfl) c210 e_u211 ?_
  clear e_u211
  replace hf := mx_sv_el hf; obtain ⟨h212, e_h212, hf⟩ := hf
  refine sx_put hm dX13_init_316 rs_RX13_113 ft_13_44 ⟨rfl, rfl⟩ (fun _ => ⟨rfl, rfl⟩) e_h212 ?_
  clear e_h212
  refine mx_S.pu (pc2 := 320) (lv2 := [(0, .ref l0)]) (st2 := [.ref l0]) hm dX13_init_319 rfl ?_
  refine sx_si (v := 3000) hm dX13_init_320 (by decide) ?_
  replace hf := mx_gd_el hf; obtain ⟨c213, hf⟩ := hf
  replace hf := mx_sv_el hf; obtain ⟨u214, e_u214, hf⟩ := hf
  refine sx_na hm dX13_init_323 rfl (Or.inl rfl) c213 e_u214 ?_
  clear e_u214
  replace hf := mx_sv_el hf; obtain ⟨h215, e_h215, hf⟩ := hf
  refine sx_put hm dX13_init_325 rs_RX13_116 ft_13_48 ⟨rfl, rfl⟩ (fun _ => ⟨rfl, rfl⟩) e_h215 ?_
  clear e_h215
  refine mx_S.pu (pc2 := 329) (lv2 := [(0, .ref l0)]) (st2 := [.ref l0]) hm dX13_init_328 rfl ?_
  refine sx_si (v := 3000) hm dX13_init_329 (by decide) ?_
  replace hf := mx_gd_el hf; obtain ⟨c216, hf⟩ := hf
  replace hf := mx_sv_el hf; obtain ⟨u217, e_u217, hf⟩ := hf
  refine sx_na hm dX13_init_332 rfl (Or.inl rfl) c216 e_u217 ?_
  clear e_u217
  replace hf := mx_sv_el hf; obtain ⟨h218, e_h218, hf⟩ := hf
  refine sx_put hm dX13_init_334 rs_RX13_119 ft_13_49 ⟨rfl, rfl⟩ (fun _ => ⟨rfl, rfl⟩) e_h218 ?_
  clear e_h218
  refine mx_S.pu (pc2 := 338) (lv2 := [(0, .ref l0)]) (st2 := [.ref l0]) hm dX13_init_337 rfl ?_
  refine sx_si (v := 3000) hm dX13_init_338 (by decide) ?_
  replace hf := mx_gd_el hf; obtain ⟨c219, hf⟩ := hf
  replace hf := mx_sv_el hf; obtain ⟨u220, e_u220, hf⟩ := hf
  refine sx_na hm dX13_init_341 rfl (Or.inr (Or.inr rfl)) c219 e_u220 ?_
  clear e_u220
  replace hf := mx_sv_el hf; obtain ⟨h221, e_h221, hf⟩ := hf
  refine sx_put hm dX13_init_343 rs_RX13_122 ft_13_55 ⟨rfl, rfl⟩ (fun _ => ⟨rfl, rfl⟩) e_h221 ?_
  clear e_h221
  refine mx_S.pu (pc2 := 347) (lv2 := [(0, .ref l0)]) (st2 := [.ref l0]) hm dX13_init_346 rfl ?_
  refine sx_si (v := 9000) hm dX13_init_347 (by decide) ?_
  replace hf := mx_gd_el hf; obtain ⟨c222, hf⟩ := hf
  replace hf := mx_sv_el hf; obtain ⟨u223, e_u223, hf⟩ := hf
  refine sx_na hm dX13_init_350 rfl (Or.inl rfl) c222 e_u223 ?_
  clear e_u223
  replace hf := mx_sv_el hf; obtain ⟨h224, e_h224, hf⟩ := hf
  refine sx_put hm dX13_init_352 rs_RX13_125 ft_13_56 ⟨rfl, rfl⟩ (fun _ => ⟨rfl, rfl⟩) e_h224 ?_
  clear e_h224
  refine mx_S.pu (pc2 := 356) (lv2 := [(0, .ref l0)]) (st2 := [.ref l0]) hm dX13_init_355 rfl ?_
  refine sx_si (v := 2000) hm dX13_init_356 (by decide) ?_
  replace hf := mx_gd_el hf; obtain ⟨c225, hf⟩ := hf
  replace hf := mx_sv_el hf; obtain ⟨u226, e_u226, hf⟩ := hf
  refine sx_na hm dX13_init_359 rfl (Or.inl rfl) c225 e_u226 ?_
  clear e_u226
  replace hf := mx_sv_el hf; obtain ⟨h227, e_h227, hf⟩ := hf
  refine sx_put hm dX13_init_361 rs_RX13_128 ft_13_58 ⟨rfl, rfl⟩ (fun _ => ⟨rfl, rfl⟩) e_h227 ?_
  clear e_h227
  refine mx_S.pu (pc2 := 365) (lv2 := [(0, .ref l0)]) (st2 := [.ref l0]) hm dX13_init_364 rfl ?_
  refine sx_si (v := 2000) hm dX13_init_365 (by decide) ?_
  replace hf := mx_gd_el hf; obtain ⟨c228, hf⟩ := hf
  replace hf := mx_sv_el hf; obtain ⟨u229, e_u229, hf⟩ := hf
  refine sx_na hm dX13_init_368 rfl (Or.inl rfl) c228 e_u229 ?_
  clear e_u229
  replace hf := mx_sv_el hf; obtain ⟨h230, e_h230, hf⟩ := hf
  refine sx_put hm dX13_init_370 rs_RX13_131 ft_13_59 ⟨rfl, rfl⟩ (fun _ => ⟨rfl, rfl⟩) e_h230 ?_
  clear e_h230
  exact j_X13_init_373_ok X hF hL nn l0 h230 (((((((((((((((((((((c + 1) + 1) + 1) + 1) + 1) + 1) + 1) + 1) + 1) + 1) + 1) + 1) + 1) + 1) + 1) + 1) + 1) + 1) + 1) + 1) + 1) (((((((((((((((((((((s + (800 : Int32).toNatClampNeg) + (800 : Int32).toNatClampNeg) + (800 : Int32).toNatClampNeg) + (800 : Int32).toNatClampNeg) + (800 : Int32).toNatClampNeg) + (800 : Int32).toNatClampNeg) + (800 : Int32).toNatClampNeg) + (800 : Int32).toNatClampNeg) + (800 : Int32).toNatClampNeg) + (800 : Int32).toNatClampNeg) + (1500 : Int32).toNatClampNeg) + (1500 : Int32).toNatClampNeg) + (1500 : Int32).toNatClampNeg) + (1500 : Int32).toNatClampNeg) + (1500 : Int32).toNatClampNeg) + (3000 : Int32).toNatClampNeg) + (3000 : Int32).toNatClampNeg) + (3000 : Int32).toNatClampNeg) + (9000 : Int32).toNatClampNeg) + (2000 : Int32).toNatClampNeg) + (2000 : Int32).toNatClampNeg) hf
set_option maxHeartbeats 4000000 in
set_option maxRecDepth 20000 in
theorem f_X13_init_ok (X : Nat × (Nat → Int32)) {F L : Nat} (hF : 1 ≤ F) (hL : 60 ≤ L) (nn : Nat) (a0 : Nat) (h : mx_H) {r : (mx_H × Nat × Nat)} (hf : f_X13_init nn a0 h = some r) : mx_R X F L 379 [.ref a0] h (none, r.1, r.2.1, r.2.2) := by
  have hm : mx_mt 379 = some (yX13_init, cX13_init, 1, none) := mt_X13_init
  show mx_S X F L 379 0 [(0, .ref a0)] [] h 0 0 (none, r.1, r.2.1, r.2.2)
  unfold f_X13_init at hf
  refine mx_S.pu (pc2 := 1) (lv2 := [(0, .ref a0)]) (st2 := [.ref a0]) hm dX13_init_0 rfl ?_
  refine sx_oi hm dX13_init_1 rs_RX13_1 (by omega) (Nat.le_trans (Nat.le_of_ble_eq_true rfl : _ ≤ 60) (by omega)) ?_
  refine mx_S.pu (pc2 := 5) (lv2 := [(0, .ref a0)]) (st2 := [.ref a0]) hm dX13_init_4 rfl ?_
  refine sx_si (v := 6000) hm dX13_init_5 (by decide) ?_
  replace hf := mx_gd_el hf; obtain ⟨c231, hf⟩ := hf
  replace hf := mx_sv_el hf; obtain ⟨u232, e_u232, hf⟩ := hf
  refine sx_na hm dX13_init_8 rfl (Or.inl rfl) c231 e_u232 ?_
  clear e_u232
  replace hf := mx_sv_el hf; obtain ⟨h233, e_h233, hf⟩ := hf
  refine sx_put hm dX13_init_10 rs_RX13_9 ft_13_0 ⟨rfl, rfl⟩ (fun _ => ⟨rfl, rfl⟩) e_h233 ?_
  clear e_h233
  refine mx_S.pu (pc2 := 14) (lv2 := [(0, .ref a0)]) (st2 := [.ref a0]) hm dX13_init_13 rfl ?_
  refine sx_si (v := 3000) hm dX13_init_14 (by decide) ?_
  replace hf := mx_gd_el hf; obtain ⟨c234, hf⟩ := hf
  replace hf := mx_sv_el hf; obtain ⟨u235, e_u235, hf⟩ := hf
  refine sx_na hm dX13_init_17 rfl (Or.inl rfl) c234 e_u235 ?_
  clear e_u235
  replace hf := mx_sv_el hf; obtain ⟨h236, e_h236, hf⟩ := hf
  refine sx_put hm dX13_init_19 rs_RX13_13 ft_13_2 ⟨rfl, rfl⟩ (fun _ => ⟨rfl, rfl⟩) e_h236 ?_
  clear e_h236
  refine mx_S.pu (pc2 := 23) (lv2 := [(0, .ref a0)]) (st2 := [.ref a0]) hm dX13_init_22 rfl ?_
  refine sx_si (v := 3008) hm dX13_init_23 (by decide) ?_
  replace hf := mx_gd_el hf; obtain ⟨c237, hf⟩ := hf
  replace hf := mx_sv_el hf; obtain ⟨u238, e_u238, hf⟩ := hf
  refine sx_na hm dX13_init_26 rfl (Or.inl rfl) c237 e_u238 ?_
  clear e_u238
  replace hf := mx_sv_el hf; obtain ⟨h239, e_h239, hf⟩ := hf
  refine sx_put hm dX13_init_28 rs_RX13_16 ft_13_4 ⟨rfl, rfl⟩ (fun _ => ⟨rfl, rfl⟩) e_h239 ?_
  clear e_h239
  refine mx_S.pu (pc2 := 32) (lv2 := [(0, .ref a0)]) (st2 := [.ref a0]) hm dX13_init_31 rfl ?_
  refine sx_si (v := 3002) hm dX13_init_32 (by decide) ?_
  replace hf := mx_gd_el hf; obtain ⟨c240, hf⟩ := hf
  replace hf := mx_sv_el hf; obtain ⟨u241, e_u241, hf⟩ := hf
  refine sx_na hm dX13_init_35 rfl (Or.inl rfl) c240 e_u241 ?_
  clear e_u241
  replace hf := mx_sv_el hf; obtain ⟨h242, e_h242, hf⟩ := hf
  refine sx_put hm dX13_init_37 rs_RX13_19 ft_13_5 ⟨rfl, rfl⟩ (fun _ => ⟨rfl, rfl⟩) e_h242 ?_
  clear e_h242
  refine mx_S.pu (pc2 := 41) (lv2 := [(0, .ref a0)]) (st2 := [.ref a0]) hm dX13_init_40 rfl ?_
  refine sx_si (v := 3002) hm dX13_init_41 (by decide) ?_
  replace hf := mx_gd_el hf; obtain ⟨c243, hf⟩ := hf
  replace hf := mx_sv_el hf; obtain ⟨u244, e_u244, hf⟩ := hf
  refine sx_na hm dX13_init_44 rfl (Or.inl rfl) c243 e_u244 ?_
  clear e_u244
  replace hf := mx_sv_el hf; obtain ⟨h245, e_h245, hf⟩ := hf
  refine sx_put hm dX13_init_46 rs_RX13_22 ft_13_6 ⟨rfl, rfl⟩ (fun _ => ⟨rfl, rfl⟩) e_h245 ?_
  clear e_h245
  refine mx_S.pu (pc2 := 50) (lv2 := [(0, .ref a0)]) (st2 := [.ref a0]) hm dX13_init_49 rfl ?_
  refine sx_si (v := 3002) hm dX13_init_50 (by decide) ?_
  replace hf := mx_gd_el hf; obtain ⟨c246, hf⟩ := hf
  replace hf := mx_sv_el hf; obtain ⟨u247, e_u247, hf⟩ := hf
  refine sx_na hm dX13_init_53 rfl (Or.inl rfl) c246 e_u247 ?_
  clear e_u247
  replace hf := mx_sv_el hf; obtain ⟨h248, e_h248, hf⟩ := hf
  refine sx_put hm dX13_init_55 rs_RX13_25 ft_13_7 ⟨rfl, rfl⟩ (fun _ => ⟨rfl, rfl⟩) e_h248 ?_
  clear e_h248
  refine mx_S.pu (pc2 := 59) (lv2 := [(0, .ref a0)]) (st2 := [.ref a0]) hm dX13_init_58 rfl ?_
  refine sx_si (v := 9000) hm dX13_init_59 (by decide) ?_
  replace hf := mx_gd_el hf; obtain ⟨c249, hf⟩ := hf
  replace hf := mx_sv_el hf; obtain ⟨u250, e_u250, hf⟩ := hf
  refine sx_na hm dX13_init_62 rfl (Or.inl rfl) c249 e_u250 ?_
  clear e_u250
  replace hf := mx_sv_el hf; obtain ⟨h251, e_h251, hf⟩ := hf
  refine sx_put hm dX13_init_64 rs_RX13_28 ft_13_11 ⟨rfl, rfl⟩ (fun _ => ⟨rfl, rfl⟩) e_h251 ?_
  clear e_h251
  refine mx_S.pu (pc2 := 68) (lv2 := [(0, .ref a0)]) (st2 := [.ref a0]) hm dX13_init_67 rfl ?_
  refine sx_si (v := 9000) hm dX13_init_68 (by decide) ?_
  replace hf := mx_gd_el hf; obtain ⟨c252, hf⟩ := hf
  replace hf := mx_sv_el hf; obtain ⟨u253, e_u253, hf⟩ := hf
  refine sx_na hm dX13_init_71 rfl (Or.inl rfl) c252 e_u253 ?_
  clear e_u253
  replace hf := mx_sv_el hf; obtain ⟨h254, e_h254, hf⟩ := hf
  refine sx_put hm dX13_init_73 rs_RX13_31 ft_13_12 ⟨rfl, rfl⟩ (fun _ => ⟨rfl, rfl⟩) e_h254 ?_
  clear e_h254
  refine mx_S.pu (pc2 := 77) (lv2 := [(0, .ref a0)]) (st2 := [.ref a0]) hm dX13_init_76 rfl ?_
  refine sx_si (v := 9000) hm dX13_init_77 (by decide) ?_
  replace hf := mx_gd_el hf; obtain ⟨c255, hf⟩ := hf
  replace hf := mx_sv_el hf; obtain ⟨u256, e_u256, hf⟩ := hf
  refine sx_na hm dX13_init_80 rfl (Or.inl rfl) c255 e_u256 ?_
  clear e_u256
  replace hf := mx_sv_el hf; obtain ⟨h257, e_h257, hf⟩ := hf
  refine sx_put hm dX13_init_82 rs_RX13_34 ft_13_13 ⟨rfl, rfl⟩ (fun _ => ⟨rfl, rfl⟩) e_h257 ?_
  clear e_h257
  refine mx_S.pu (pc2 := 86) (lv2 := [(0, .ref a0)]) (st2 := [.ref a0]) hm dX13_init_85 rfl ?_
  refine sx_si (v := 9000) hm dX13_init_86 (by decide) ?_
  replace hf := mx_gd_el hf; obtain ⟨c258, hf⟩ := hf
  replace hf := mx_sv_el hf; obtain ⟨u259, e_u259, hf⟩ := hf
  refine sx_na hm dX13_init_89 rfl (Or.inl rfl) c258 e_u259 ?_
  clear e_u259
  replace hf := mx_sv_el hf; obtain ⟨h260, e_h260, hf⟩ := hf
  refine sx_put hm dX13_init_91 rs_RX13_37 ft_13_14 ⟨rfl, rfl⟩ (fun _ => ⟨rfl, rfl⟩) e_h260 ?_
  clear e_h260
  refine mx_S.pu (pc2 := 95) (lv2 := [(0, .ref a0)]) (st2 := [.ref a0]) hm dX13_init_94 rfl ?_
  refine sx_si (v := 9000) hm dX13_init_95 (by decide) ?_
  replace hf := mx_gd_el hf; obtain ⟨c261, hf⟩ := hf
  replace hf := mx_sv_el hf; obtain ⟨u262, e_u262, hf⟩ := hf
  refine sx_na hm dX13_init_98 rfl (Or.inl rfl) c261 e_u262 ?_
  clear e_u262
  replace hf := mx_sv_el hf; obtain ⟨h263, e_h263, hf⟩ := hf
  refine sx_put hm dX13_init_100 rs_RX13_40 ft_13_15 ⟨rfl, rfl⟩ (fun _ => ⟨rfl, rfl⟩) e_h263 ?_
  clear e_h263
  refine mx_S.pu (pc2 := 104) (lv2 := [(0, .ref a0)]) (st2 := [.ref a0]) hm dX13_init_103 rfl ?_
  refine sx_si (v := 9000) hm dX13_init_104 (by decide) ?_
  replace hf := mx_gd_el hf; obtain ⟨c264, hf⟩ := hf
  replace hf := mx_sv_el hf; obtain ⟨u265, e_u265, hf⟩ := hf
  refine sx_na hm dX13_init_107 rfl (Or.inl rfl) c264 e_u265 ?_
  clear e_u265
  replace hf := mx_sv_el hf; obtain ⟨h266, e_h266, hf⟩ := hf
  refine sx_put hm dX13_init_109 rs_RX13_43 ft_13_16 ⟨rfl, rfl⟩ (fun _ => ⟨rfl, rfl⟩) e_h266 ?_
  clear e_h266
  refine mx_S.pu (pc2 := 113) (lv2 := [(0, .ref a0)]) (st2 := [.ref a0]) hm dX13_init_112 rfl ?_
  refine sx_si (v := 9000) hm dX13_init_113 (by decide) ?_
  replace hf := mx_gd_el hf; obtain ⟨c267, hf⟩ := hf
  replace hf := mx_sv_el hf; obtain ⟨u268, e_u268, hf⟩ := hf
  refine sx_na hm dX13_init_116 rfl (Or.inl rfl) c267 e_u268 ?_
  clear e_u268
  replace hf := mx_sv_el hf; obtain ⟨h269, e_h269, hf⟩ := hf
  refine sx_put hm dX13_init_118 rs_RX13_46 ft_13_17 ⟨rfl, rfl⟩ (fun _ => ⟨rfl, rfl⟩) e_h269 ?_
  clear e_h269
  refine mx_S.pu (pc2 := 122) (lv2 := [(0, .ref a0)]) (st2 := [.ref a0]) hm dX13_init_121 rfl ?_
  refine sx_si (v := 9000) hm dX13_init_122 (by decide) ?_
  replace hf := mx_gd_el hf; obtain ⟨c270, hf⟩ := hf
  replace hf := mx_sv_el hf; obtain ⟨u271, e_u271, hf⟩ := hf
  refine sx_na hm dX13_init_125 rfl (Or.inl rfl) c270 e_u271 ?_
  clear e_u271
  replace hf := mx_sv_el hf; obtain ⟨h272, e_h272, hf⟩ := hf
  refine sx_put hm dX13_init_127 rs_RX13_49 ft_13_18 ⟨rfl, rfl⟩ (fun _ => ⟨rfl, rfl⟩) e_h272 ?_
  clear e_h272
  refine mx_S.pu (pc2 := 131) (lv2 := [(0, .ref a0)]) (st2 := [.ref a0]) hm dX13_init_130 rfl ?_
  refine sx_si (v := 9000) hm dX13_init_131 (by decide) ?_
  replace hf := mx_gd_el hf; obtain ⟨c273, hf⟩ := hf
  replace hf := mx_sv_el hf; obtain ⟨u274, e_u274, hf⟩ := hf
  refine sx_na hm dX13_init_134 rfl (Or.inl rfl) c273 e_u274 ?_
  clear e_u274
  replace hf := mx_sv_el hf; obtain ⟨h275, e_h275, hf⟩ := hf
  refine sx_put hm dX13_init_136 rs_RX13_52 ft_13_19 ⟨rfl, rfl⟩ (fun _ => ⟨rfl, rfl⟩) e_h275 ?_
  clear e_h275
  refine mx_S.pu (pc2 := 140) (lv2 := [(0, .ref a0)]) (st2 := [.ref a0]) hm dX13_init_139 rfl ?_
  refine sx_si (v := 9000) hm dX13_init_140 (by decide) ?_
  replace hf := mx_gd_el hf; obtain ⟨c276, hf⟩ := hf
  replace hf := mx_sv_el hf; obtain ⟨u277, e_u277, hf⟩ := hf
  refine sx_na hm dX13_init_143 rfl (Or.inl rfl) c276 e_u277 ?_
  clear e_u277
  replace hf := mx_sv_el hf; obtain ⟨h278, e_h278, hf⟩ := hf
  refine sx_put hm dX13_init_145 rs_RX13_55 ft_13_20 ⟨rfl, rfl⟩ (fun _ => ⟨rfl, rfl⟩) e_h278 ?_
  clear e_h278
  refine mx_S.pu (pc2 := 149) (lv2 := [(0, .ref a0)]) (st2 := [.ref a0]) hm dX13_init_148 rfl ?_
  refine sx_si (v := 9000) hm dX13_init_149 (by decide) ?_
  replace hf := mx_gd_el hf; obtain ⟨c279, hf⟩ := hf
  replace hf := mx_sv_el hf; obtain ⟨u280, e_u280, hf⟩ := hf
  refine sx_na hm dX13_init_152 rfl (Or.inr (Or.inr rfl)) c279 e_u280 ?_
  clear e_u280
  replace hf := mx_sv_el hf; obtain ⟨h281, e_h281, hf⟩ := hf
  refine sx_put hm dX13_init_154 rs_RX13_58 ft_13_21 ⟨rfl, rfl⟩ (fun _ => ⟨rfl, rfl⟩) e_h281 ?_
  clear e_h281
  refine mx_S.pu (pc2 := 158) (lv2 := [(0, .ref a0)]) (st2 := [.ref a0]) hm dX13_init_157 rfl ?_
  refine sx_si (v := 400) hm dX13_init_158 (by decide) ?_
  replace hf := mx_gd_el hf; obtain ⟨c282, hf⟩ := hf
  replace hf := mx_sv_el hf; obtain ⟨u283, e_u283, hf⟩ := hf
  refine sx_na hm dX13_init_161 rfl (Or.inl rfl) c282 e_u283 ?_
  clear e_u283
  replace hf := mx_sv_el hf; obtain ⟨h284, e_h284, hf⟩ := hf
  refine sx_put hm dX13_init_163 rs_RX13_62 ft_13_25 ⟨rfl, rfl⟩ (fun _ => ⟨rfl, rfl⟩) e_h284 ?_
  clear e_h284
  refine mx_S.pu (pc2 := 167) (lv2 := [(0, .ref a0)]) (st2 := [.ref a0]) hm dX13_init_166 rfl ?_
  refine sx_si (v := 400) hm dX13_init_167 (by decide) ?_
  replace hf := mx_gd_el hf; obtain ⟨c285, hf⟩ := hf
  replace hf := mx_sv_el hf; obtain ⟨u286, e_u286, hf⟩ := hf
  refine sx_na hm dX13_init_170 rfl (Or.inl rfl) c285 e_u286 ?_
  clear e_u286
  replace hf := mx_sv_el hf; obtain ⟨h287, e_h287, hf⟩ := hf
  refine sx_put hm dX13_init_172 rs_RX13_65 ft_13_26 ⟨rfl, rfl⟩ (fun _ => ⟨rfl, rfl⟩) e_h287 ?_
  clear e_h287
  refine mx_S.pu (pc2 := 176) (lv2 := [(0, .ref a0)]) (st2 := [.ref a0]) hm dX13_init_175 rfl ?_
  refine sx_si (v := 400) hm dX13_init_176 (by decide) ?_
  replace hf := mx_gd_el hf; obtain ⟨c288, hf⟩ := hf
  replace hf := mx_sv_el hf; obtain ⟨u289, e_u289, hf⟩ := hf
  refine sx_na hm dX13_init_179 rfl (Or.inl rfl) c288 e_u289 ?_
  clear e_u289
  replace hf := mx_sv_el hf; obtain ⟨h290, e_h290, hf⟩ := hf
  refine sx_put hm dX13_init_181 rs_RX13_68 ft_13_27 ⟨rfl, rfl⟩ (fun _ => ⟨rfl, rfl⟩) e_h290 ?_
  clear e_h290
  exact j_X13_init_184_ok X hF hL nn a0 h290 ((((((((((((((((((((0 + 1) + 1) + 1) + 1) + 1) + 1) + 1) + 1) + 1) + 1) + 1) + 1) + 1) + 1) + 1) + 1) + 1) + 1) + 1) + 1) ((((((((((((((((((((0 + (6000 : Int32).toNatClampNeg) + (3000 : Int32).toNatClampNeg) + (3008 : Int32).toNatClampNeg) + (3002 : Int32).toNatClampNeg) + (3002 : Int32).toNatClampNeg) + (3002 : Int32).toNatClampNeg) + (9000 : Int32).toNatClampNeg) + (9000 : Int32).toNatClampNeg) + (9000 : Int32).toNatClampNeg) + (9000 : Int32).toNatClampNeg) + (9000 : Int32).toNatClampNeg) + (9000 : Int32).toNatClampNeg) + (9000 : Int32).toNatClampNeg) + (9000 : Int32).toNatClampNeg) + (9000 : Int32).toNatClampNeg) + (9000 : Int32).toNatClampNeg) + (9000 : Int32).toNatClampNeg) + (400 : Int32).toNatClampNeg) + (400 : Int32).toNatClampNeg) + (400 : Int32).toNatClampNeg) hf
set_option maxHeartbeats 4000000 in
set_option maxRecDepth 20000 in
theorem w_X13_again_107_ok (X : Nat × (Nat → Int32)) {F L : Nat} (hF : 0 ≤ F) (hL : 0 ≤ L) (nn : Nat) : ∀ (k : Nat) (l0 : Nat) (l1 : Int32) (l2 : Int32) (l3 : Int32) (h : mx_H) (r : mx_H), w_X13_again_107 nn k l0 l1 l2 l3 h = some r → mx_S X F L 515 107 [(0, .ref l0), (1, .int l1), (2, .int l2), (3, .int l3)] [] h 0 0 (none, r, 0, 0) := by
  have hm : mx_mt 515 = some (yX13_again, cX13_again, 4, none) := mt_X13_again
  intro k
  induction k with
  | zero => intro l0 l1 l2 l3 h r hf; cases hf
  | succ k ih =>
    intro l0 l1 l2 l3 h r hf
    unfold w_X13_again_107 at hf
    refine mx_S.pu (pc2 := 108) (lv2 := [(0, .ref l0), (1, .int l1), (2, .int l2), (3, .int l3)]) (st2 := [.int l3]) hm dX13_again_107 rfl ?_
    refine sx_bi (v := 12) hm dX13_again_108 (by decide) ?_
    rcases mx_if_el hf with ⟨c34, hf⟩ | ⟨c34, hf⟩
    · refine sb_ic_ge hm dX13_again_110 (tgt := 206) rfl (fun _ => ?_) (fun z => absurd c34 z)
      cases hf
      exact sx_ret hm dX13_again_206 rfl
    · refine sb_ic_ge hm dX13_again_110 (tgt := 206) rfl (fun z => absurd z c34) (fun _ => ?_)
      refine mx_S.pu (pc2 := 114) (lv2 := [(0, .ref l0), (1, .int l1), (2, .int l2), (3, .int l3)]) (st2 := [.ref l0]) hm dX13_again_113 rfl ?_
      replace hf := mx_sv_el hf; obtain ⟨v1, e_v1, hf⟩ := hf
      refine sx_get hm dX13_again_114 rs_RX13_230 (xgr_el e_v1) ?_
      clear e_v1
      refine sx_bi (v := 12) hm dX13_again_117 (by decide) ?_
      refine mx_S.pu (pc2 := 120) (lv2 := [(0, .ref l0), (1, .int l1), (2, .int l2), (3, .int l3)]) (st2 := [.int l1, .int 12, .ref v1]) hm dX13_again_119 rfl ?_
      replace hf := xl_el hf; obtain ⟨v2, e_v2, hf⟩ := hf
      refine mx_S.pu (pc2 := 121) (lv2 := [(0, .ref l0), (1, .int l1), (2, .int l2), (3, .int l3)]) (st2 := [.int v2, .ref v1]) hm dX13_again_120 (by rw [← e_v2]; rfl) ?_
      clear e_v2
      refine mx_S.pu (pc2 := 122) (lv2 := [(0, .ref l0), (1, .int l1), (2, .int l2), (3, .int l3)]) (st2 := [.int l3, .int v2, .ref v1]) hm dX13_again_121 rfl ?_
      replace hf := xl_el hf; obtain ⟨v3, e_v3, hf⟩ := hf
      refine mx_S.pu (pc2 := 123) (lv2 := [(0, .ref l0), (1, .int l1), (2, .int l2), (3, .int l3)]) (st2 := [.int v3, .ref v1]) hm dX13_again_122 (by rw [← e_v3]; rfl) ?_
      clear e_v3
      refine mx_S.pu (pc2 := 124) (lv2 := [(0, .ref l0), (1, .int l1), (2, .int l2), (3, .int l3)]) (st2 := [.ref l0, .int v3, .ref v1]) hm dX13_again_123 rfl ?_
      replace hf := mx_sv_el hf; obtain ⟨v4, e_v4, hf⟩ := hf
      refine sx_get hm dX13_again_124 rs_RX13_248 (xgr_el e_v4) ?_
      clear e_v4
      refine mx_S.pu (pc2 := 128) (lv2 := [(0, .ref l0), (1, .int l1), (2, .int l2), (3, .int l3)]) (st2 := [.int l2, .ref v4, .int v3, .ref v1]) hm dX13_again_127 rfl ?_
      refine sx_ic (v := 5) hm dX13_again_128 (by decide) ?_
      replace hf := xl_el hf; obtain ⟨v5, e_v5, hf⟩ := hf
      refine mx_S.pu (pc2 := 130) (lv2 := [(0, .ref l0), (1, .int l1), (2, .int l2), (3, .int l3)]) (st2 := [.int v5, .ref v4, .int v3, .ref v1]) hm dX13_again_129 (by rw [← e_v5]; rfl) ?_
      clear e_v5
      refine mx_S.pu (pc2 := 131) (lv2 := [(0, .ref l0), (1, .int l1), (2, .int l2), (3, .int l3)]) (st2 := [.int l3, .int v5, .ref v4, .int v3, .ref v1]) hm dX13_again_130 rfl ?_
      replace hf := xl_el hf; obtain ⟨v6, e_v6, hf⟩ := hf
      refine mx_S.pu (pc2 := 132) (lv2 := [(0, .ref l0), (1, .int l1), (2, .int l2), (3, .int l3)]) (st2 := [.int v6, .ref v4, .int v3, .ref v1]) hm dX13_again_131 (by rw [← e_v6]; rfl) ?_
      clear e_v6
      replace hf := mx_sv_el hf; obtain ⟨v7, e_v7, hf⟩ := hf
      refine sx_ald hm dX13_again_132 e_v7 ?_
      clear e_v7
      replace hf := mx_sv_el hf; obtain ⟨h8, e_h8, hf⟩ := hf
      refine sx_ast hm dX13_again_133 e_h8 ?_
      clear e_h8
      refine mx_S.pu (pc2 := 135) (lv2 := [(0, .ref l0), (1, .int l1), (2, .int l2), (3, .int l3)]) (st2 := [.ref l0]) hm dX13_again_134 rfl ?_
      replace hf := mx_sv_el hf; obtain ⟨v9, e_v9, hf⟩ := hf
      refine sx_get hm dX13_again_135 rs_RX13_236 (xgr_el e_v9) ?_
      clear e_v9
      refine sx_bi (v := 12) hm dX13_again_138 (by decide) ?_
      refine mx_S.pu (pc2 := 141) (lv2 := [(0, .ref l0), (1, .int l1), (2, .int l2), (3, .int l3)]) (st2 := [.int l1, .int 12, .ref v9]) hm dX13_again_140 rfl ?_
      replace hf := xl_el hf; obtain ⟨v10, e_v10, hf⟩ := hf
      refine mx_S.pu (pc2 := 142) (lv2 := [(0, .ref l0), (1, .int l1), (2, .int l2), (3, .int l3)]) (st2 := [.int v10, .ref v9]) hm dX13_again_141 (by rw [← e_v10]; rfl) ?_
      clear e_v10
      refine mx_S.pu (pc2 := 143) (lv2 := [(0, .ref l0), (1, .int l1), (2, .int l2), (3, .int l3)]) (st2 := [.int l3, .int v10, .ref v9]) hm dX13_again_142 rfl ?_
      replace hf := xl_el hf; obtain ⟨v11, e_v11, hf⟩ := hf
      refine mx_S.pu (pc2 := 144) (lv2 := [(0, .ref l0), (1, .int l1), (2, .int l2), (3, .int l3)]) (st2 := [.int v11, .ref v9]) hm dX13_again_143 (by rw [← e_v11]; rfl) ?_
      clear e_v11
      refine mx_S.pu (pc2 := 145) (lv2 := [(0, .ref l0), (1, .int l1), (2, .int l2), (3, .int l3)]) (st2 := [.ref l0, .int v11, .ref v9]) hm dX13_again_144 rfl ?_
      replace hf := mx_sv_el hf; obtain ⟨v12, e_v12, hf⟩ := hf
      refine sx_get hm dX13_again_145 rs_RX13_248 (xgr_el e_v12) ?_
      clear e_v12
      refine mx_S.pu (pc2 := 149) (lv2 := [(0, .ref l0), (1, .int l1), (2, .int l2), (3, .int l3)]) (st2 := [.int l2, .ref v12, .int v11, .ref v9]) hm dX13_again_148 rfl ?_
      refine sx_bi (v := 17) hm dX13_again_149 (by decide) ?_
      replace hf := xl_el hf; obtain ⟨v13, e_v13, hf⟩ := hf
      refine mx_S.pu (pc2 := 152) (lv2 := [(0, .ref l0), (1, .int l1), (2, .int l2), (3, .int l3)]) (st2 := [.int v13, .ref v12, .int v11, .ref v9]) hm dX13_again_151 (by rw [← e_v13]; rfl) ?_
      clear e_v13
      refine mx_S.pu (pc2 := 153) (lv2 := [(0, .ref l0), (1, .int l1), (2, .int l2), (3, .int l3)]) (st2 := [.int l3, .int v13, .ref v12, .int v11, .ref v9]) hm dX13_again_152 rfl ?_
      replace hf := xl_el hf; obtain ⟨v14, e_v14, hf⟩ := hf
      refine mx_S.pu (pc2 := 154) (lv2 := [(0, .ref l0), (1, .int l1), (2, .int l2), (3, .int l3)]) (st2 := [.int v14, .ref v12, .int v11, .ref v9]) hm dX13_again_153 (by rw [← e_v14]; rfl) ?_
      clear e_v14
      replace hf := mx_sv_el hf; obtain ⟨v15, e_v15, hf⟩ := hf
      refine sx_ald hm dX13_again_154 e_v15 ?_
      clear e_v15
      replace hf := mx_sv_el hf; obtain ⟨h16, e_h16, hf⟩ := hf
      refine sx_ast hm dX13_again_155 e_h16 ?_
      clear e_h16
      refine mx_S.pu (pc2 := 157) (lv2 := [(0, .ref l0), (1, .int l1), (2, .int l2), (3, .int l3)]) (st2 := [.ref l0]) hm dX13_again_156 rfl ?_
      replace hf := mx_sv_el hf; obtain ⟨v17, e_v17, hf⟩ := hf
      refine sx_get hm dX13_again_157 rs_RX13_239 (xgr_el e_v17) ?_
      clear e_v17
      refine sx_bi (v := 12) hm dX13_again_160 (by decide) ?_
      refine mx_S.pu (pc2 := 163) (lv2 := [(0, .ref l0), (1, .int l1), (2, .int l2), (3, .int l3)]) (st2 := [.int l1, .int 12, .ref v17]) hm dX13_again_162 rfl ?_
      replace hf := xl_el hf; obtain ⟨v18, e_v18, hf⟩ := hf
      refine mx_S.pu (pc2 := 164) (lv2 := [(0, .ref l0), (1, .int l1), (2, .int l2), (3, .int l3)]) (st2 := [.int v18, .ref v17]) hm dX13_again_163 (by rw [← e_v18]; rfl) ?_
      clear e_v18
      refine mx_S.pu (pc2 := 165) (lv2 := [(0, .ref l0), (1, .int l1), (2, .int l2), (3, .int l3)]) (st2 := [.int l3, .int v18, .ref v17]) hm dX13_again_164 rfl ?_
      replace hf := xl_el hf; obtain ⟨v19, e_v19, hf⟩ := hf
      refine mx_S.pu (pc2 := 166) (lv2 := [(0, .ref l0), (1, .int l1), (2, .int l2), (3, .int l3)]) (st2 := [.int v19, .ref v17]) hm dX13_again_165 (by rw [← e_v19]; rfl) ?_
      clear e_v19
      refine mx_S.pu (pc2 := 167) (lv2 := [(0, .ref l0), (1, .int l1), (2, .int l2), (3, .int l3)]) (st2 := [.ref l0, .int v19, .ref v17]) hm dX13_again_166 rfl ?_
      replace hf := mx_sv_el hf; obtain ⟨v20, e_v20, hf⟩ := hf
      refine sx_get hm dX13_again_167 rs_RX13_248 (xgr_el e_v20) ?_
      clear e_v20
      refine mx_S.pu (pc2 := 171) (lv2 := [(0, .ref l0), (1, .int l1), (2, .int l2), (3, .int l3)]) (st2 := [.int l2, .ref v20, .int v19, .ref v17]) hm dX13_again_170 rfl ?_
      refine sx_bi (v := 29) hm dX13_again_171 (by decide) ?_
      replace hf := xl_el hf; obtain ⟨v21, e_v21, hf⟩ := hf
      refine mx_S.pu (pc2 := 174) (lv2 := [(0, .ref l0), (1, .int l1), (2, .int l2), (3, .int l3)]) (st2 := [.int v21, .ref v20, .int v19, .ref v17]) hm dX13_again_173 (by rw [← e_v21]; rfl) ?_
      clear e_v21
      refine mx_S.pu (pc2 := 175) (lv2 := [(0, .ref l0), (1, .int l1), (2, .int l2), (3, .int l3)]) (st2 := [.int l3, .int v21, .ref v20, .int v19, .ref v17]) hm dX13_again_174 rfl ?_
      replace hf := xl_el hf; obtain ⟨v22, e_v22, hf⟩ := hf
      refine mx_S.pu (pc2 := 176) (lv2 := [(0, .ref l0), (1, .int l1), (2, .int l2), (3, .int l3)]) (st2 := [.int v22, .ref v20, .int v19, .ref v17]) hm dX13_again_175 (by rw [← e_v22]; rfl) ?_
      clear e_v22
      replace hf := mx_sv_el hf; obtain ⟨v23, e_v23, hf⟩ := hf
      refine sx_ald hm dX13_again_176 e_v23 ?_
      clear e_v23
      replace hf := mx_sv_el hf; obtain ⟨h24, e_h24, hf⟩ := hf
      refine sx_ast hm dX13_again_177 e_h24 ?_
      clear e_h24
      refine mx_S.pu (pc2 := 179) (lv2 := [(0, .ref l0), (1, .int l1), (2, .int l2), (3, .int l3)]) (st2 := [.ref l0]) hm dX13_again_178 rfl ?_
      replace hf := mx_sv_el hf; obtain ⟨v25, e_v25, hf⟩ := hf
      refine sx_get hm dX13_again_179 rs_RX13_242 (xgr_el e_v25) ?_
      clear e_v25
      refine sx_bi (v := 12) hm dX13_again_182 (by decide) ?_
      refine mx_S.pu (pc2 := 185) (lv2 := [(0, .ref l0), (1, .int l1), (2, .int l2), (3, .int l3)]) (st2 := [.int l1, .int 12, .ref v25]) hm dX13_again_184 rfl ?_
      replace hf := xl_el hf; obtain ⟨v26, e_v26, hf⟩ := hf
      refine mx_S.pu (pc2 := 186) (lv2 := [(0, .ref l0), (1, .int l1), (2, .int l2), (3, .int l3)]) (st2 := [.int v26, .ref v25]) hm dX13_again_185 (by rw [← e_v26]; rfl) ?_
      clear e_v26
      refine mx_S.pu (pc2 := 187) (lv2 := [(0, .ref l0), (1, .int l1), (2, .int l2), (3, .int l3)]) (st2 := [.int l3, .int v26, .ref v25]) hm dX13_again_186 rfl ?_
      replace hf := xl_el hf; obtain ⟨v27, e_v27, hf⟩ := hf
      refine mx_S.pu (pc2 := 188) (lv2 := [(0, .ref l0), (1, .int l1), (2, .int l2), (3, .int l3)]) (st2 := [.int v27, .ref v25]) hm dX13_again_187 (by rw [← e_v27]; rfl) ?_
      clear e_v27
      refine mx_S.pu (pc2 := 189) (lv2 := [(0, .ref l0), (1, .int l1), (2, .int l2), (3, .int l3)]) (st2 := [.ref l0, .int v27, .ref v25]) hm dX13_again_188 rfl ?_
      replace hf := mx_sv_el hf; obtain ⟨v28, e_v28, hf⟩ := hf
      refine sx_get hm dX13_again_189 rs_RX13_248 (xgr_el e_v28) ?_
      clear e_v28
      refine mx_S.pu (pc2 := 193) (lv2 := [(0, .ref l0), (1, .int l1), (2, .int l2), (3, .int l3)]) (st2 := [.int l2, .ref v28, .int v27, .ref v25]) hm dX13_again_192 rfl ?_
      refine sx_bi (v := 41) hm dX13_again_193 (by decide) ?_
      replace hf := xl_el hf; obtain ⟨v29, e_v29, hf⟩ := hf
      refine mx_S.pu (pc2 := 196) (lv2 := [(0, .ref l0), (1, .int l1), (2, .int l2), (3, .int l3)]) (st2 := [.int v29, .ref v28, .int v27, .ref v25]) hm dX13_again_195 (by rw [← e_v29]; rfl) ?_
      clear e_v29
      refine mx_S.pu (pc2 := 197) (lv2 := [(0, .ref l0), (1, .int l1), (2, .int l2), (3, .int l3)]) (st2 := [.int l3, .int v29, .ref v28, .int v27, .ref v25]) hm dX13_again_196 rfl ?_
      replace hf := xl_el hf; obtain ⟨v30, e_v30, hf⟩ := hf
      refine mx_S.pu (pc2 := 198) (lv2 := [(0, .ref l0), (1, .int l1), (2, .int l2), (3, .int l3)]) (st2 := [.int v30, .ref v28, .int v27, .ref v25]) hm dX13_again_197 (by rw [← e_v30]; rfl) ?_
      clear e_v30
      replace hf := mx_sv_el hf; obtain ⟨v31, e_v31, hf⟩ := hf
      refine sx_ald hm dX13_again_198 e_v31 ?_
      clear e_v31
      replace hf := mx_sv_el hf; obtain ⟨h32, e_h32, hf⟩ := hf
      refine sx_ast hm dX13_again_199 e_h32 ?_
      clear e_h32
      replace hf := xl_el hf; obtain ⟨v33, e_v33, hf⟩ := hf
      refine mx_S.pu (pc2 := 203) (lv2 := [(3, .int v33), (0, .ref l0), (1, .int l1), (2, .int l2)]) (st2 := []) hm dX13_again_200 (by rw [← e_v33]; rfl) ?_
      clear e_v33
      refine mx_S.pu (pc2 := 107) (lv2 := [(3, .int v33), (0, .ref l0), (1, .int l1), (2, .int l2)]) (st2 := []) hm dX13_again_203 rfl ?_
      refine mx_S.ext [(0, .ref l0), (1, .int l1), (2, .int l2), (3, .int v33)] (mx_sub_pos [1, 2, 3, 0] rfl (show ([3, 0, 1, 2] : List Nat).Nodup by decide)) ?_
      exact ih l0 l1 l2 v33 h32 _ hf
set_option maxHeartbeats 4000000 in
set_option maxRecDepth 20000 in
theorem w_X13_again_2_ok (X : Nat × (Nat → Int32)) {F L : Nat} (hF : 0 ≤ F) (hL : 0 ≤ L) (nn : Nat) : ∀ (k : Nat) (l0 : Nat) (l1 : Int32) (l2 : Int32) (h : mx_H) (r : mx_H), w_X13_again_2 nn k l0 l1 l2 h = some r → mx_S X F L 515 2 [(0, .ref l0), (1, .int l1), (2, .int l2)] [] h 0 0 (none, r, 0, 0) := by
  have hm : mx_mt 515 = some (yX13_again, cX13_again, 4, none) := mt_X13_again
  intro k
  induction k with
  | zero => intro l0 l1 l2 h r hf; cases hf
  | succ k ih =>
    intro l0 l1 l2 h r hf
    unfold w_X13_again_2 at hf
    refine mx_S.pu (pc2 := 3) (lv2 := [(0, .ref l0), (1, .int l1), (2, .int l2)]) (st2 := [.int l2]) hm dX13_again_2 rfl ?_
    refine sx_si (v := 256) hm dX13_again_3 (by decide) ?_
    rcases mx_if_el hf with ⟨c66, hf⟩ | ⟨c66, hf⟩
    · refine sb_ic_ge hm dX13_again_6 (tgt := 33) rfl (fun _ => ?_) (fun z => absurd c66 z)
      refine sx_si (v := 256) hm dX13_again_33 (by decide) ?_
      refine mx_S.pu (pc2 := 37) (lv2 := [(2, .int 256), (0, .ref l0), (1, .int l1)]) (st2 := []) hm dX13_again_36 rfl ?_
      refine mx_S.pu (pc2 := 38) (lv2 := [(2, .int 256), (0, .ref l0), (1, .int l1)]) (st2 := [.ref l0]) hm dX13_again_37 rfl ?_
      replace hf := mx_sv_el hf; obtain ⟨v35, e_v35, hf⟩ := hf
      refine sx_get hm dX13_again_38 rs_RX13_218 (xgr_el e_v35) ?_
      clear e_v35
      refine mx_S.pu (pc2 := 42) (lv2 := [(2, .int 256), (0, .ref l0), (1, .int l1)]) (st2 := [.int l1, .ref v35]) hm dX13_again_41 rfl ?_
      refine mx_S.pu (pc2 := 43) (lv2 := [(2, .int 256), (0, .ref l0), (1, .int l1)]) (st2 := [.ref l0, .int l1, .ref v35]) hm dX13_again_42 rfl ?_
      replace hf := mx_sv_el hf; obtain ⟨v36, e_v36, hf⟩ := hf
      refine sx_get hm dX13_again_43 rs_RX13_248 (xgr_el e_v36) ?_
      clear e_v36
      refine mx_S.pu (pc2 := 47) (lv2 := [(2, .int 256), (0, .ref l0), (1, .int l1)]) (st2 := [.int 256, .ref v36, .int l1, .ref v35]) hm dX13_again_46 rfl ?_
      replace hf := mx_sv_el hf; obtain ⟨v37, e_v37, hf⟩ := hf
      refine sx_ald hm dX13_again_47 e_v37 ?_
      clear e_v37
      replace hf := mx_sv_el hf; obtain ⟨h38, e_h38, hf⟩ := hf
      refine sx_ast hm dX13_again_48 e_h38 ?_
      clear e_h38
      refine mx_S.pu (pc2 := 50) (lv2 := [(2, .int 256), (0, .ref l0), (1, .int l1)]) (st2 := [.ref l0]) hm dX13_again_49 rfl ?_
      replace hf := mx_sv_el hf; obtain ⟨v39, e_v39, hf⟩ := hf
      refine sx_get hm dX13_again_50 rs_RX13_221 (xgr_el e_v39) ?_
      clear e_v39
      refine mx_S.pu (pc2 := 54) (lv2 := [(2, .int 256), (0, .ref l0), (1, .int l1)]) (st2 := [.int l1, .ref v39]) hm dX13_again_53 rfl ?_
      refine mx_S.pu (pc2 := 55) (lv2 := [(2, .int 256), (0, .ref l0), (1, .int l1)]) (st2 := [.ref l0, .int l1, .ref v39]) hm dX13_again_54 rfl ?_
      replace hf := mx_sv_el hf; obtain ⟨v40, e_v40, hf⟩ := hf
      refine sx_get hm dX13_again_55 rs_RX13_248 (xgr_el e_v40) ?_
      clear e_v40
      refine mx_S.pu (pc2 := 59) (lv2 := [(2, .int 256), (0, .ref l0), (1, .int l1)]) (st2 := [.int 256, .ref v40, .int l1, .ref v39]) hm dX13_again_58 rfl ?_
      refine sx_ic (v := 1) hm dX13_again_59 (by decide) ?_
      replace hf := xl_el hf; obtain ⟨v41, e_v41, hf⟩ := hf
      refine mx_S.pu (pc2 := 61) (lv2 := [(2, .int 256), (0, .ref l0), (1, .int l1)]) (st2 := [.int v41, .ref v40, .int l1, .ref v39]) hm dX13_again_60 (by rw [← e_v41]; rfl) ?_
      clear e_v41
      replace hf := mx_sv_el hf; obtain ⟨v42, e_v42, hf⟩ := hf
      refine sx_ald hm dX13_again_61 e_v42 ?_
      clear e_v42
      replace hf := mx_sv_el hf; obtain ⟨h43, e_h43, hf⟩ := hf
      refine sx_ast hm dX13_again_62 e_h43 ?_
      clear e_h43
      refine mx_S.pu (pc2 := 64) (lv2 := [(2, .int 256), (0, .ref l0), (1, .int l1)]) (st2 := [.ref l0]) hm dX13_again_63 rfl ?_
      replace hf := mx_sv_el hf; obtain ⟨v44, e_v44, hf⟩ := hf
      refine sx_get hm dX13_again_64 rs_RX13_224 (xgr_el e_v44) ?_
      clear e_v44
      refine mx_S.pu (pc2 := 68) (lv2 := [(2, .int 256), (0, .ref l0), (1, .int l1)]) (st2 := [.int l1, .ref v44]) hm dX13_again_67 rfl ?_
      refine mx_S.pu (pc2 := 69) (lv2 := [(2, .int 256), (0, .ref l0), (1, .int l1)]) (st2 := [.ref l0, .int l1, .ref v44]) hm dX13_again_68 rfl ?_
      replace hf := mx_sv_el hf; obtain ⟨v45, e_v45, hf⟩ := hf
      refine sx_get hm dX13_again_69 rs_RX13_248 (xgr_el e_v45) ?_
      clear e_v45
      refine mx_S.pu (pc2 := 73) (lv2 := [(2, .int 256), (0, .ref l0), (1, .int l1)]) (st2 := [.int 256, .ref v45, .int l1, .ref v44]) hm dX13_again_72 rfl ?_
      refine sx_ic (v := 2) hm dX13_again_73 (by decide) ?_
      replace hf := xl_el hf; obtain ⟨v46, e_v46, hf⟩ := hf
      refine mx_S.pu (pc2 := 75) (lv2 := [(2, .int 256), (0, .ref l0), (1, .int l1)]) (st2 := [.int v46, .ref v45, .int l1, .ref v44]) hm dX13_again_74 (by rw [← e_v46]; rfl) ?_
      clear e_v46
      replace hf := mx_sv_el hf; obtain ⟨v47, e_v47, hf⟩ := hf
      refine sx_ald hm dX13_again_75 e_v47 ?_
      clear e_v47
      replace hf := mx_sv_el hf; obtain ⟨h48, e_h48, hf⟩ := hf
      refine sx_ast hm dX13_again_76 e_h48 ?_
      clear e_h48
      refine mx_S.pu (pc2 := 78) (lv2 := [(2, .int 256), (0, .ref l0), (1, .int l1)]) (st2 := [.ref l0]) hm dX13_again_77 rfl ?_
      replace hf := mx_sv_el hf; obtain ⟨v49, e_v49, hf⟩ := hf
      refine sx_get hm dX13_again_78 rs_RX13_227 (xgr_el e_v49) ?_
      clear e_v49
      refine mx_S.pu (pc2 := 82) (lv2 := [(2, .int 256), (0, .ref l0), (1, .int l1)]) (st2 := [.int l1, .ref v49]) hm dX13_again_81 rfl ?_
      refine mx_S.pu (pc2 := 83) (lv2 := [(2, .int 256), (0, .ref l0), (1, .int l1)]) (st2 := [.ref l0, .int l1, .ref v49]) hm dX13_again_82 rfl ?_
      replace hf := mx_sv_el hf; obtain ⟨v50, e_v50, hf⟩ := hf
      refine sx_get hm dX13_again_83 rs_RX13_248 (xgr_el e_v50) ?_
      clear e_v50
      refine mx_S.pu (pc2 := 87) (lv2 := [(2, .int 256), (0, .ref l0), (1, .int l1)]) (st2 := [.int 256, .ref v50, .int l1, .ref v49]) hm dX13_again_86 rfl ?_
      refine sx_ic (v := 3) hm dX13_again_87 (by decide) ?_
      replace hf := xl_el hf; obtain ⟨v51, e_v51, hf⟩ := hf
      refine mx_S.pu (pc2 := 89) (lv2 := [(2, .int 256), (0, .ref l0), (1, .int l1)]) (st2 := [.int v51, .ref v50, .int l1, .ref v49]) hm dX13_again_88 (by rw [← e_v51]; rfl) ?_
      clear e_v51
      replace hf := mx_sv_el hf; obtain ⟨v52, e_v52, hf⟩ := hf
      refine sx_ald hm dX13_again_89 e_v52 ?_
      clear e_v52
      replace hf := mx_sv_el hf; obtain ⟨h53, e_h53, hf⟩ := hf
      refine sx_ast hm dX13_again_90 e_h53 ?_
      clear e_h53
      refine mx_S.pu (pc2 := 92) (lv2 := [(2, .int 256), (0, .ref l0), (1, .int l1)]) (st2 := [.ref l0]) hm dX13_again_91 rfl ?_
      replace hf := mx_sv_el hf; obtain ⟨v54, e_v54, hf⟩ := hf
      refine sx_get hm dX13_again_92 rs_RX13_233 (xgr_el e_v54) ?_
      clear e_v54
      refine mx_S.pu (pc2 := 96) (lv2 := [(2, .int 256), (0, .ref l0), (1, .int l1)]) (st2 := [.int l1, .ref v54]) hm dX13_again_95 rfl ?_
      refine mx_S.pu (pc2 := 97) (lv2 := [(2, .int 256), (0, .ref l0), (1, .int l1)]) (st2 := [.ref l0, .int l1, .ref v54]) hm dX13_again_96 rfl ?_
      replace hf := mx_sv_el hf; obtain ⟨v55, e_v55, hf⟩ := hf
      refine sx_get hm dX13_again_97 rs_RX13_248 (xgr_el e_v55) ?_
      clear e_v55
      refine mx_S.pu (pc2 := 101) (lv2 := [(2, .int 256), (0, .ref l0), (1, .int l1)]) (st2 := [.int 256, .ref v55, .int l1, .ref v54]) hm dX13_again_100 rfl ?_
      refine sx_ic (v := 4) hm dX13_again_101 (by decide) ?_
      replace hf := xl_el hf; obtain ⟨v56, e_v56, hf⟩ := hf
      refine mx_S.pu (pc2 := 103) (lv2 := [(2, .int 256), (0, .ref l0), (1, .int l1)]) (st2 := [.int v56, .ref v55, .int l1, .ref v54]) hm dX13_again_102 (by rw [← e_v56]; rfl) ?_
      clear e_v56
      replace hf := mx_sv_el hf; obtain ⟨v57, e_v57, hf⟩ := hf
      refine sx_ald hm dX13_again_103 e_v57 ?_
      clear e_v57
      replace hf := mx_sv_el hf; obtain ⟨h58, e_h58, hf⟩ := hf
      refine sx_ast hm dX13_again_104 e_h58 ?_
      clear e_h58
      refine sx_ic (v := 0) hm dX13_again_105 (by decide) ?_
      refine mx_S.pu (pc2 := 107) (lv2 := [(3, .int 0), (2, .int 256), (0, .ref l0), (1, .int l1)]) (st2 := []) hm dX13_again_106 rfl ?_
      refine mx_S.ext [(0, .ref l0), (1, .int l1), (2, .int 256), (3, .int 0)] (mx_sub_pos [2, 3, 1, 0] rfl (show ([3, 2, 0, 1] : List Nat).Nodup by decide)) ?_
      exact w_X13_again_107_ok X hF hL nn nn l0 l1 256 0 h58 _ hf
    · refine sb_ic_ge hm dX13_again_6 (tgt := 33) rfl (fun z => absurd z c66) (fun _ => ?_)
      refine mx_S.pu (pc2 := 10) (lv2 := [(0, .ref l0), (1, .int l1), (2, .int l2)]) (st2 := [.ref l0]) hm dX13_again_9 rfl ?_
      replace hf := mx_sv_el hf; obtain ⟨v59, e_v59, hf⟩ := hf
      refine sx_get hm dX13_again_10 rs_RX13_215 (xgr_el e_v59) ?_
      clear e_v59
      refine sx_si (v := 256) hm dX13_again_13 (by decide) ?_
      refine mx_S.pu (pc2 := 17) (lv2 := [(0, .ref l0), (1, .int l1), (2, .int l2)]) (st2 := [.int l1, .int 256, .ref v59]) hm dX13_again_16 rfl ?_
      replace hf := xl_el hf; obtain ⟨v60, e_v60, hf⟩ := hf
      refine mx_S.pu (pc2 := 18) (lv2 := [(0, .ref l0), (1, .int l1), (2, .int l2)]) (st2 := [.int v60, .ref v59]) hm dX13_again_17 (by rw [← e_v60]; rfl) ?_
      clear e_v60
      refine mx_S.pu (pc2 := 19) (lv2 := [(0, .ref l0), (1, .int l1), (2, .int l2)]) (st2 := [.int l2, .int v60, .ref v59]) hm dX13_again_18 rfl ?_
      replace hf := xl_el hf; obtain ⟨v61, e_v61, hf⟩ := hf
      refine mx_S.pu (pc2 := 20) (lv2 := [(0, .ref l0), (1, .int l1), (2, .int l2)]) (st2 := [.int v61, .ref v59]) hm dX13_again_19 (by rw [← e_v61]; rfl) ?_
      clear e_v61
      refine mx_S.pu (pc2 := 21) (lv2 := [(0, .ref l0), (1, .int l1), (2, .int l2)]) (st2 := [.ref l0, .int v61, .ref v59]) hm dX13_again_20 rfl ?_
      replace hf := mx_sv_el hf; obtain ⟨v62, e_v62, hf⟩ := hf
      refine sx_get hm dX13_again_21 rs_RX13_248 (xgr_el e_v62) ?_
      clear e_v62
      refine mx_S.pu (pc2 := 25) (lv2 := [(0, .ref l0), (1, .int l1), (2, .int l2)]) (st2 := [.int l2, .ref v62, .int v61, .ref v59]) hm dX13_again_24 rfl ?_
      replace hf := mx_sv_el hf; obtain ⟨v63, e_v63, hf⟩ := hf
      refine sx_ald hm dX13_again_25 e_v63 ?_
      clear e_v63
      replace hf := mx_sv_el hf; obtain ⟨h64, e_h64, hf⟩ := hf
      refine sx_ast hm dX13_again_26 e_h64 ?_
      clear e_h64
      replace hf := xl_el hf; obtain ⟨v65, e_v65, hf⟩ := hf
      refine mx_S.pu (pc2 := 30) (lv2 := [(2, .int v65), (0, .ref l0), (1, .int l1)]) (st2 := []) hm dX13_again_27 (by rw [← e_v65]; rfl) ?_
      clear e_v65
      refine mx_S.pu (pc2 := 2) (lv2 := [(2, .int v65), (0, .ref l0), (1, .int l1)]) (st2 := []) hm dX13_again_30 rfl ?_
      refine mx_S.ext [(0, .ref l0), (1, .int l1), (2, .int v65)] (mx_sub_pos [1, 2, 0] rfl (show ([2, 0, 1] : List Nat).Nodup by decide)) ?_
      exact ih l0 l1 v65 h64 _ hf
set_option maxHeartbeats 4000000 in
set_option maxRecDepth 20000 in
theorem f_X13_again_ok (X : Nat × (Nat → Int32)) {F L : Nat} (hF : 0 ≤ F) (hL : 0 ≤ L) (nn : Nat) (a0 : Nat) (a1 : Int32) (h : mx_H) {r : mx_H} (hf : f_X13_again nn a0 a1 h = some r) : mx_R X F L 515 [.ref a0, .int a1] h (none, r, 0, 0) := by
  have hm : mx_mt 515 = some (yX13_again, cX13_again, 4, none) := mt_X13_again
  show mx_S X F L 515 0 [(0, .ref a0), (1, .int a1)] [] h 0 0 (none, r, 0, 0)
  unfold f_X13_again at hf
  refine sx_ic (v := 0) hm dX13_again_0 (by decide) ?_
  refine mx_S.pu (pc2 := 2) (lv2 := [(2, .int 0), (0, .ref a0), (1, .int a1)]) (st2 := []) hm dX13_again_1 rfl ?_
  refine mx_S.ext [(0, .ref a0), (1, .int a1), (2, .int 0)] (mx_sub_pos [1, 2, 0] rfl (show ([2, 0, 1] : List Nat).Nodup by decide)) ?_
  exact w_X13_again_2_ok X hF hL nn nn a0 a1 0 h _ hf
set_option maxHeartbeats 4000000 in
set_option maxRecDepth 20000 in
theorem w_X13_aside_107_ok (X : Nat × (Nat → Int32)) {F L : Nat} (hF : 0 ≤ F) (hL : 0 ≤ L) (nn : Nat) : ∀ (k : Nat) (l0 : Nat) (l1 : Int32) (l2 : Int32) (l3 : Int32) (h : mx_H) (r : mx_H), w_X13_aside_107 nn k l0 l1 l2 l3 h = some r → mx_S X F L 514 107 [(0, .ref l0), (1, .int l1), (2, .int l2), (3, .int l3)] [] h 0 0 (none, r, 0, 0) := by
  have hm : mx_mt 514 = some (yX13_aside, cX13_aside, 4, none) := mt_X13_aside
  intro k
  induction k with
  | zero => intro l0 l1 l2 l3 h r hf; cases hf
  | succ k ih =>
    intro l0 l1 l2 l3 h r hf
    unfold w_X13_aside_107 at hf
    refine mx_S.pu (pc2 := 108) (lv2 := [(0, .ref l0), (1, .int l1), (2, .int l2), (3, .int l3)]) (st2 := [.int l3]) hm dX13_aside_107 rfl ?_
    refine sx_bi (v := 12) hm dX13_aside_108 (by decide) ?_
    rcases mx_if_el hf with ⟨c34, hf⟩ | ⟨c34, hf⟩
    · refine sb_ic_ge hm dX13_aside_110 (tgt := 206) rfl (fun _ => ?_) (fun z => absurd c34 z)
      cases hf
      exact sx_ret hm dX13_aside_206 rfl
    · refine sb_ic_ge hm dX13_aside_110 (tgt := 206) rfl (fun z => absurd z c34) (fun _ => ?_)
      refine mx_S.pu (pc2 := 114) (lv2 := [(0, .ref l0), (1, .int l1), (2, .int l2), (3, .int l3)]) (st2 := [.ref l0]) hm dX13_aside_113 rfl ?_
      replace hf := mx_sv_el hf; obtain ⟨v1, e_v1, hf⟩ := hf
      refine sx_get hm dX13_aside_114 rs_RX13_248 (xgr_el e_v1) ?_
      clear e_v1
      refine mx_S.pu (pc2 := 118) (lv2 := [(0, .ref l0), (1, .int l1), (2, .int l2), (3, .int l3)]) (st2 := [.int l2, .ref v1]) hm dX13_aside_117 rfl ?_
      refine sx_ic (v := 5) hm dX13_aside_118 (by decide) ?_
      replace hf := xl_el hf; obtain ⟨v2, e_v2, hf⟩ := hf
      refine mx_S.pu (pc2 := 120) (lv2 := [(0, .ref l0), (1, .int l1), (2, .int l2), (3, .int l3)]) (st2 := [.int v2, .ref v1]) hm dX13_aside_119 (by rw [← e_v2]; rfl) ?_
      clear e_v2
      refine mx_S.pu (pc2 := 121) (lv2 := [(0, .ref l0), (1, .int l1), (2, .int l2), (3, .int l3)]) (st2 := [.int l3, .int v2, .ref v1]) hm dX13_aside_120 rfl ?_
      replace hf := xl_el hf; obtain ⟨v3, e_v3, hf⟩ := hf
      refine mx_S.pu (pc2 := 122) (lv2 := [(0, .ref l0), (1, .int l1), (2, .int l2), (3, .int l3)]) (st2 := [.int v3, .ref v1]) hm dX13_aside_121 (by rw [← e_v3]; rfl) ?_
      clear e_v3
      refine mx_S.pu (pc2 := 123) (lv2 := [(0, .ref l0), (1, .int l1), (2, .int l2), (3, .int l3)]) (st2 := [.ref l0, .int v3, .ref v1]) hm dX13_aside_122 rfl ?_
      replace hf := mx_sv_el hf; obtain ⟨v4, e_v4, hf⟩ := hf
      refine sx_get hm dX13_aside_123 rs_RX13_230 (xgr_el e_v4) ?_
      clear e_v4
      refine sx_bi (v := 12) hm dX13_aside_126 (by decide) ?_
      refine mx_S.pu (pc2 := 129) (lv2 := [(0, .ref l0), (1, .int l1), (2, .int l2), (3, .int l3)]) (st2 := [.int l1, .int 12, .ref v4, .int v3, .ref v1]) hm dX13_aside_128 rfl ?_
      replace hf := xl_el hf; obtain ⟨v5, e_v5, hf⟩ := hf
      refine mx_S.pu (pc2 := 130) (lv2 := [(0, .ref l0), (1, .int l1), (2, .int l2), (3, .int l3)]) (st2 := [.int v5, .ref v4, .int v3, .ref v1]) hm dX13_aside_129 (by rw [← e_v5]; rfl) ?_
      clear e_v5
      refine mx_S.pu (pc2 := 131) (lv2 := [(0, .ref l0), (1, .int l1), (2, .int l2), (3, .int l3)]) (st2 := [.int l3, .int v5, .ref v4, .int v3, .ref v1]) hm dX13_aside_130 rfl ?_
      replace hf := xl_el hf; obtain ⟨v6, e_v6, hf⟩ := hf
      refine mx_S.pu (pc2 := 132) (lv2 := [(0, .ref l0), (1, .int l1), (2, .int l2), (3, .int l3)]) (st2 := [.int v6, .ref v4, .int v3, .ref v1]) hm dX13_aside_131 (by rw [← e_v6]; rfl) ?_
      clear e_v6
      replace hf := mx_sv_el hf; obtain ⟨v7, e_v7, hf⟩ := hf
      refine sx_ald hm dX13_aside_132 e_v7 ?_
      clear e_v7
      replace hf := mx_sv_el hf; obtain ⟨h8, e_h8, hf⟩ := hf
      refine sx_ast hm dX13_aside_133 e_h8 ?_
      clear e_h8
      refine mx_S.pu (pc2 := 135) (lv2 := [(0, .ref l0), (1, .int l1), (2, .int l2), (3, .int l3)]) (st2 := [.ref l0]) hm dX13_aside_134 rfl ?_
      replace hf := mx_sv_el hf; obtain ⟨v9, e_v9, hf⟩ := hf
      refine sx_get hm dX13_aside_135 rs_RX13_248 (xgr_el e_v9) ?_
      clear e_v9
      refine mx_S.pu (pc2 := 139) (lv2 := [(0, .ref l0), (1, .int l1), (2, .int l2), (3, .int l3)]) (st2 := [.int l2, .ref v9]) hm dX13_aside_138 rfl ?_
      refine sx_bi (v := 17) hm dX13_aside_139 (by decide) ?_
      replace hf := xl_el hf; obtain ⟨v10, e_v10, hf⟩ := hf
      refine mx_S.pu (pc2 := 142) (lv2 := [(0, .ref l0), (1, .int l1), (2, .int l2), (3, .int l3)]) (st2 := [.int v10, .ref v9]) hm dX13_aside_141 (by rw [← e_v10]; rfl) ?_
      clear e_v10
      refine mx_S.pu (pc2 := 143) (lv2 := [(0, .ref l0), (1, .int l1), (2, .int l2), (3, .int l3)]) (st2 := [.int l3, .int v10, .ref v9]) hm dX13_aside_142 rfl ?_
      replace hf := xl_el hf; obtain ⟨v11, e_v11, hf⟩ := hf
      refine mx_S.pu (pc2 := 144) (lv2 := [(0, .ref l0), (1, .int l1), (2, .int l2), (3, .int l3)]) (st2 := [.int v11, .ref v9]) hm dX13_aside_143 (by rw [← e_v11]; rfl) ?_
      clear e_v11
      refine mx_S.pu (pc2 := 145) (lv2 := [(0, .ref l0), (1, .int l1), (2, .int l2), (3, .int l3)]) (st2 := [.ref l0, .int v11, .ref v9]) hm dX13_aside_144 rfl ?_
      replace hf := mx_sv_el hf; obtain ⟨v12, e_v12, hf⟩ := hf
      refine sx_get hm dX13_aside_145 rs_RX13_236 (xgr_el e_v12) ?_
      clear e_v12
      refine sx_bi (v := 12) hm dX13_aside_148 (by decide) ?_
      refine mx_S.pu (pc2 := 151) (lv2 := [(0, .ref l0), (1, .int l1), (2, .int l2), (3, .int l3)]) (st2 := [.int l1, .int 12, .ref v12, .int v11, .ref v9]) hm dX13_aside_150 rfl ?_
      replace hf := xl_el hf; obtain ⟨v13, e_v13, hf⟩ := hf
      refine mx_S.pu (pc2 := 152) (lv2 := [(0, .ref l0), (1, .int l1), (2, .int l2), (3, .int l3)]) (st2 := [.int v13, .ref v12, .int v11, .ref v9]) hm dX13_aside_151 (by rw [← e_v13]; rfl) ?_
      clear e_v13
      refine mx_S.pu (pc2 := 153) (lv2 := [(0, .ref l0), (1, .int l1), (2, .int l2), (3, .int l3)]) (st2 := [.int l3, .int v13, .ref v12, .int v11, .ref v9]) hm dX13_aside_152 rfl ?_
      replace hf := xl_el hf; obtain ⟨v14, e_v14, hf⟩ := hf
      refine mx_S.pu (pc2 := 154) (lv2 := [(0, .ref l0), (1, .int l1), (2, .int l2), (3, .int l3)]) (st2 := [.int v14, .ref v12, .int v11, .ref v9]) hm dX13_aside_153 (by rw [← e_v14]; rfl) ?_
      clear e_v14
      replace hf := mx_sv_el hf; obtain ⟨v15, e_v15, hf⟩ := hf
      refine sx_ald hm dX13_aside_154 e_v15 ?_
      clear e_v15
      replace hf := mx_sv_el hf; obtain ⟨h16, e_h16, hf⟩ := hf
      refine sx_ast hm dX13_aside_155 e_h16 ?_
      clear e_h16
      refine mx_S.pu (pc2 := 157) (lv2 := [(0, .ref l0), (1, .int l1), (2, .int l2), (3, .int l3)]) (st2 := [.ref l0]) hm dX13_aside_156 rfl ?_
      replace hf := mx_sv_el hf; obtain ⟨v17, e_v17, hf⟩ := hf
      refine sx_get hm dX13_aside_157 rs_RX13_248 (xgr_el e_v17) ?_
      clear e_v17
      refine mx_S.pu (pc2 := 161) (lv2 := [(0, .ref l0), (1, .int l1), (2, .int l2), (3, .int l3)]) (st2 := [.int l2, .ref v17]) hm dX13_aside_160 rfl ?_
      refine sx_bi (v := 29) hm dX13_aside_161 (by decide) ?_
      replace hf := xl_el hf; obtain ⟨v18, e_v18, hf⟩ := hf
      refine mx_S.pu (pc2 := 164) (lv2 := [(0, .ref l0), (1, .int l1), (2, .int l2), (3, .int l3)]) (st2 := [.int v18, .ref v17]) hm dX13_aside_163 (by rw [← e_v18]; rfl) ?_
      clear e_v18
      refine mx_S.pu (pc2 := 165) (lv2 := [(0, .ref l0), (1, .int l1), (2, .int l2), (3, .int l3)]) (st2 := [.int l3, .int v18, .ref v17]) hm dX13_aside_164 rfl ?_
      replace hf := xl_el hf; obtain ⟨v19, e_v19, hf⟩ := hf
      refine mx_S.pu (pc2 := 166) (lv2 := [(0, .ref l0), (1, .int l1), (2, .int l2), (3, .int l3)]) (st2 := [.int v19, .ref v17]) hm dX13_aside_165 (by rw [← e_v19]; rfl) ?_
      clear e_v19
      refine mx_S.pu (pc2 := 167) (lv2 := [(0, .ref l0), (1, .int l1), (2, .int l2), (3, .int l3)]) (st2 := [.ref l0, .int v19, .ref v17]) hm dX13_aside_166 rfl ?_
      replace hf := mx_sv_el hf; obtain ⟨v20, e_v20, hf⟩ := hf
      refine sx_get hm dX13_aside_167 rs_RX13_239 (xgr_el e_v20) ?_
      clear e_v20
      refine sx_bi (v := 12) hm dX13_aside_170 (by decide) ?_
      refine mx_S.pu (pc2 := 173) (lv2 := [(0, .ref l0), (1, .int l1), (2, .int l2), (3, .int l3)]) (st2 := [.int l1, .int 12, .ref v20, .int v19, .ref v17]) hm dX13_aside_172 rfl ?_
      replace hf := xl_el hf; obtain ⟨v21, e_v21, hf⟩ := hf
      refine mx_S.pu (pc2 := 174) (lv2 := [(0, .ref l0), (1, .int l1), (2, .int l2), (3, .int l3)]) (st2 := [.int v21, .ref v20, .int v19, .ref v17]) hm dX13_aside_173 (by rw [← e_v21]; rfl) ?_
      clear e_v21
      refine mx_S.pu (pc2 := 175) (lv2 := [(0, .ref l0), (1, .int l1), (2, .int l2), (3, .int l3)]) (st2 := [.int l3, .int v21, .ref v20, .int v19, .ref v17]) hm dX13_aside_174 rfl ?_
      replace hf := xl_el hf; obtain ⟨v22, e_v22, hf⟩ := hf
      refine mx_S.pu (pc2 := 176) (lv2 := [(0, .ref l0), (1, .int l1), (2, .int l2), (3, .int l3)]) (st2 := [.int v22, .ref v20, .int v19, .ref v17]) hm dX13_aside_175 (by rw [← e_v22]; rfl) ?_
      clear e_v22
      replace hf := mx_sv_el hf; obtain ⟨v23, e_v23, hf⟩ := hf
      refine sx_ald hm dX13_aside_176 e_v23 ?_
      clear e_v23
      replace hf := mx_sv_el hf; obtain ⟨h24, e_h24, hf⟩ := hf
      refine sx_ast hm dX13_aside_177 e_h24 ?_
      clear e_h24
      refine mx_S.pu (pc2 := 179) (lv2 := [(0, .ref l0), (1, .int l1), (2, .int l2), (3, .int l3)]) (st2 := [.ref l0]) hm dX13_aside_178 rfl ?_
      replace hf := mx_sv_el hf; obtain ⟨v25, e_v25, hf⟩ := hf
      refine sx_get hm dX13_aside_179 rs_RX13_248 (xgr_el e_v25) ?_
      clear e_v25
      refine mx_S.pu (pc2 := 183) (lv2 := [(0, .ref l0), (1, .int l1), (2, .int l2), (3, .int l3)]) (st2 := [.int l2, .ref v25]) hm dX13_aside_182 rfl ?_
      refine sx_bi (v := 41) hm dX13_aside_183 (by decide) ?_
      replace hf := xl_el hf; obtain ⟨v26, e_v26, hf⟩ := hf
      refine mx_S.pu (pc2 := 186) (lv2 := [(0, .ref l0), (1, .int l1), (2, .int l2), (3, .int l3)]) (st2 := [.int v26, .ref v25]) hm dX13_aside_185 (by rw [← e_v26]; rfl) ?_
      clear e_v26
      refine mx_S.pu (pc2 := 187) (lv2 := [(0, .ref l0), (1, .int l1), (2, .int l2), (3, .int l3)]) (st2 := [.int l3, .int v26, .ref v25]) hm dX13_aside_186 rfl ?_
      replace hf := xl_el hf; obtain ⟨v27, e_v27, hf⟩ := hf
      refine mx_S.pu (pc2 := 188) (lv2 := [(0, .ref l0), (1, .int l1), (2, .int l2), (3, .int l3)]) (st2 := [.int v27, .ref v25]) hm dX13_aside_187 (by rw [← e_v27]; rfl) ?_
      clear e_v27
      refine mx_S.pu (pc2 := 189) (lv2 := [(0, .ref l0), (1, .int l1), (2, .int l2), (3, .int l3)]) (st2 := [.ref l0, .int v27, .ref v25]) hm dX13_aside_188 rfl ?_
      replace hf := mx_sv_el hf; obtain ⟨v28, e_v28, hf⟩ := hf
      refine sx_get hm dX13_aside_189 rs_RX13_242 (xgr_el e_v28) ?_
      clear e_v28
      refine sx_bi (v := 12) hm dX13_aside_192 (by decide) ?_
      refine mx_S.pu (pc2 := 195) (lv2 := [(0, .ref l0), (1, .int l1), (2, .int l2), (3, .int l3)]) (st2 := [.int l1, .int 12, .ref v28, .int v27, .ref v25]) hm dX13_aside_194 rfl ?_
      replace hf := xl_el hf; obtain ⟨v29, e_v29, hf⟩ := hf
      refine mx_S.pu (pc2 := 196) (lv2 := [(0, .ref l0), (1, .int l1), (2, .int l2), (3, .int l3)]) (st2 := [.int v29, .ref v28, .int v27, .ref v25]) hm dX13_aside_195 (by rw [← e_v29]; rfl) ?_
      clear e_v29
      refine mx_S.pu (pc2 := 197) (lv2 := [(0, .ref l0), (1, .int l1), (2, .int l2), (3, .int l3)]) (st2 := [.int l3, .int v29, .ref v28, .int v27, .ref v25]) hm dX13_aside_196 rfl ?_
      replace hf := xl_el hf; obtain ⟨v30, e_v30, hf⟩ := hf
      refine mx_S.pu (pc2 := 198) (lv2 := [(0, .ref l0), (1, .int l1), (2, .int l2), (3, .int l3)]) (st2 := [.int v30, .ref v28, .int v27, .ref v25]) hm dX13_aside_197 (by rw [← e_v30]; rfl) ?_
      clear e_v30
      replace hf := mx_sv_el hf; obtain ⟨v31, e_v31, hf⟩ := hf
      refine sx_ald hm dX13_aside_198 e_v31 ?_
      clear e_v31
      replace hf := mx_sv_el hf; obtain ⟨h32, e_h32, hf⟩ := hf
      refine sx_ast hm dX13_aside_199 e_h32 ?_
      clear e_h32
      replace hf := xl_el hf; obtain ⟨v33, e_v33, hf⟩ := hf
      refine mx_S.pu (pc2 := 203) (lv2 := [(3, .int v33), (0, .ref l0), (1, .int l1), (2, .int l2)]) (st2 := []) hm dX13_aside_200 (by rw [← e_v33]; rfl) ?_
      clear e_v33
      refine mx_S.pu (pc2 := 107) (lv2 := [(3, .int v33), (0, .ref l0), (1, .int l1), (2, .int l2)]) (st2 := []) hm dX13_aside_203 rfl ?_
      refine mx_S.ext [(0, .ref l0), (1, .int l1), (2, .int l2), (3, .int v33)] (mx_sub_pos [1, 2, 3, 0] rfl (show ([3, 0, 1, 2] : List Nat).Nodup by decide)) ?_
      exact ih l0 l1 l2 v33 h32 _ hf
set_option maxHeartbeats 4000000 in
set_option maxRecDepth 20000 in
theorem w_X13_aside_2_ok (X : Nat × (Nat → Int32)) {F L : Nat} (hF : 0 ≤ F) (hL : 0 ≤ L) (nn : Nat) : ∀ (k : Nat) (l0 : Nat) (l1 : Int32) (l2 : Int32) (h : mx_H) (r : mx_H), w_X13_aside_2 nn k l0 l1 l2 h = some r → mx_S X F L 514 2 [(0, .ref l0), (1, .int l1), (2, .int l2)] [] h 0 0 (none, r, 0, 0) := by
  have hm : mx_mt 514 = some (yX13_aside, cX13_aside, 4, none) := mt_X13_aside
  intro k
  induction k with
  | zero => intro l0 l1 l2 h r hf; cases hf
  | succ k ih =>
    intro l0 l1 l2 h r hf
    unfold w_X13_aside_2 at hf
    refine mx_S.pu (pc2 := 3) (lv2 := [(0, .ref l0), (1, .int l1), (2, .int l2)]) (st2 := [.int l2]) hm dX13_aside_2 rfl ?_
    refine sx_si (v := 256) hm dX13_aside_3 (by decide) ?_
    rcases mx_if_el hf with ⟨c66, hf⟩ | ⟨c66, hf⟩
    · refine sb_ic_ge hm dX13_aside_6 (tgt := 33) rfl (fun _ => ?_) (fun z => absurd c66 z)
      refine sx_si (v := 256) hm dX13_aside_33 (by decide) ?_
      refine mx_S.pu (pc2 := 37) (lv2 := [(2, .int 256), (0, .ref l0), (1, .int l1)]) (st2 := []) hm dX13_aside_36 rfl ?_
      refine mx_S.pu (pc2 := 38) (lv2 := [(2, .int 256), (0, .ref l0), (1, .int l1)]) (st2 := [.ref l0]) hm dX13_aside_37 rfl ?_
      replace hf := mx_sv_el hf; obtain ⟨v35, e_v35, hf⟩ := hf
      refine sx_get hm dX13_aside_38 rs_RX13_248 (xgr_el e_v35) ?_
      clear e_v35
      refine mx_S.pu (pc2 := 42) (lv2 := [(2, .int 256), (0, .ref l0), (1, .int l1)]) (st2 := [.int 256, .ref v35]) hm dX13_aside_41 rfl ?_
      refine mx_S.pu (pc2 := 43) (lv2 := [(2, .int 256), (0, .ref l0), (1, .int l1)]) (st2 := [.ref l0, .int 256, .ref v35]) hm dX13_aside_42 rfl ?_
      replace hf := mx_sv_el hf; obtain ⟨v36, e_v36, hf⟩ := hf
      refine sx_get hm dX13_aside_43 rs_RX13_218 (xgr_el e_v36) ?_
      clear e_v36
      refine mx_S.pu (pc2 := 47) (lv2 := [(2, .int 256), (0, .ref l0), (1, .int l1)]) (st2 := [.int l1, .ref v36, .int 256, .ref v35]) hm dX13_aside_46 rfl ?_
      replace hf := mx_sv_el hf; obtain ⟨v37, e_v37, hf⟩ := hf
      refine sx_ald hm dX13_aside_47 e_v37 ?_
      clear e_v37
      replace hf := mx_sv_el hf; obtain ⟨h38, e_h38, hf⟩ := hf
      refine sx_ast hm dX13_aside_48 e_h38 ?_
      clear e_h38
      refine mx_S.pu (pc2 := 50) (lv2 := [(2, .int 256), (0, .ref l0), (1, .int l1)]) (st2 := [.ref l0]) hm dX13_aside_49 rfl ?_
      replace hf := mx_sv_el hf; obtain ⟨v39, e_v39, hf⟩ := hf
      refine sx_get hm dX13_aside_50 rs_RX13_248 (xgr_el e_v39) ?_
      clear e_v39
      refine mx_S.pu (pc2 := 54) (lv2 := [(2, .int 256), (0, .ref l0), (1, .int l1)]) (st2 := [.int 256, .ref v39]) hm dX13_aside_53 rfl ?_
      refine sx_ic (v := 1) hm dX13_aside_54 (by decide) ?_
      replace hf := xl_el hf; obtain ⟨v40, e_v40, hf⟩ := hf
      refine mx_S.pu (pc2 := 56) (lv2 := [(2, .int 256), (0, .ref l0), (1, .int l1)]) (st2 := [.int v40, .ref v39]) hm dX13_aside_55 (by rw [← e_v40]; rfl) ?_
      clear e_v40
      refine mx_S.pu (pc2 := 57) (lv2 := [(2, .int 256), (0, .ref l0), (1, .int l1)]) (st2 := [.ref l0, .int v40, .ref v39]) hm dX13_aside_56 rfl ?_
      replace hf := mx_sv_el hf; obtain ⟨v41, e_v41, hf⟩ := hf
      refine sx_get hm dX13_aside_57 rs_RX13_221 (xgr_el e_v41) ?_
      clear e_v41
      refine mx_S.pu (pc2 := 61) (lv2 := [(2, .int 256), (0, .ref l0), (1, .int l1)]) (st2 := [.int l1, .ref v41, .int v40, .ref v39]) hm dX13_aside_60 rfl ?_
      replace hf := mx_sv_el hf; obtain ⟨v42, e_v42, hf⟩ := hf
      refine sx_ald hm dX13_aside_61 e_v42 ?_
      clear e_v42
      replace hf := mx_sv_el hf; obtain ⟨h43, e_h43, hf⟩ := hf
      refine sx_ast hm dX13_aside_62 e_h43 ?_
      clear e_h43
      refine mx_S.pu (pc2 := 64) (lv2 := [(2, .int 256), (0, .ref l0), (1, .int l1)]) (st2 := [.ref l0]) hm dX13_aside_63 rfl ?_
      replace hf := mx_sv_el hf; obtain ⟨v44, e_v44, hf⟩ := hf
      refine sx_get hm dX13_aside_64 rs_RX13_248 (xgr_el e_v44) ?_
      clear e_v44
      refine mx_S.pu (pc2 := 68) (lv2 := [(2, .int 256), (0, .ref l0), (1, .int l1)]) (st2 := [.int 256, .ref v44]) hm dX13_aside_67 rfl ?_
      refine sx_ic (v := 2) hm dX13_aside_68 (by decide) ?_
      replace hf := xl_el hf; obtain ⟨v45, e_v45, hf⟩ := hf
      refine mx_S.pu (pc2 := 70) (lv2 := [(2, .int 256), (0, .ref l0), (1, .int l1)]) (st2 := [.int v45, .ref v44]) hm dX13_aside_69 (by rw [← e_v45]; rfl) ?_
      clear e_v45
      refine mx_S.pu (pc2 := 71) (lv2 := [(2, .int 256), (0, .ref l0), (1, .int l1)]) (st2 := [.ref l0, .int v45, .ref v44]) hm dX13_aside_70 rfl ?_
      replace hf := mx_sv_el hf; obtain ⟨v46, e_v46, hf⟩ := hf
      refine sx_get hm dX13_aside_71 rs_RX13_224 (xgr_el e_v46) ?_
      clear e_v46
      refine mx_S.pu (pc2 := 75) (lv2 := [(2, .int 256), (0, .ref l0), (1, .int l1)]) (st2 := [.int l1, .ref v46, .int v45, .ref v44]) hm dX13_aside_74 rfl ?_
      replace hf := mx_sv_el hf; obtain ⟨v47, e_v47, hf⟩ := hf
      refine sx_ald hm dX13_aside_75 e_v47 ?_
      clear e_v47
      replace hf := mx_sv_el hf; obtain ⟨h48, e_h48, hf⟩ := hf
      refine sx_ast hm dX13_aside_76 e_h48 ?_
      clear e_h48
      refine mx_S.pu (pc2 := 78) (lv2 := [(2, .int 256), (0, .ref l0), (1, .int l1)]) (st2 := [.ref l0]) hm dX13_aside_77 rfl ?_
      replace hf := mx_sv_el hf; obtain ⟨v49, e_v49, hf⟩ := hf
      refine sx_get hm dX13_aside_78 rs_RX13_248 (xgr_el e_v49) ?_
      clear e_v49
      refine mx_S.pu (pc2 := 82) (lv2 := [(2, .int 256), (0, .ref l0), (1, .int l1)]) (st2 := [.int 256, .ref v49]) hm dX13_aside_81 rfl ?_
      refine sx_ic (v := 3) hm dX13_aside_82 (by decide) ?_
      replace hf := xl_el hf; obtain ⟨v50, e_v50, hf⟩ := hf
      refine mx_S.pu (pc2 := 84) (lv2 := [(2, .int 256), (0, .ref l0), (1, .int l1)]) (st2 := [.int v50, .ref v49]) hm dX13_aside_83 (by rw [← e_v50]; rfl) ?_
      clear e_v50
      refine mx_S.pu (pc2 := 85) (lv2 := [(2, .int 256), (0, .ref l0), (1, .int l1)]) (st2 := [.ref l0, .int v50, .ref v49]) hm dX13_aside_84 rfl ?_
      replace hf := mx_sv_el hf; obtain ⟨v51, e_v51, hf⟩ := hf
      refine sx_get hm dX13_aside_85 rs_RX13_227 (xgr_el e_v51) ?_
      clear e_v51
      refine mx_S.pu (pc2 := 89) (lv2 := [(2, .int 256), (0, .ref l0), (1, .int l1)]) (st2 := [.int l1, .ref v51, .int v50, .ref v49]) hm dX13_aside_88 rfl ?_
      replace hf := mx_sv_el hf; obtain ⟨v52, e_v52, hf⟩ := hf
      refine sx_ald hm dX13_aside_89 e_v52 ?_
      clear e_v52
      replace hf := mx_sv_el hf; obtain ⟨h53, e_h53, hf⟩ := hf
      refine sx_ast hm dX13_aside_90 e_h53 ?_
      clear e_h53
      refine mx_S.pu (pc2 := 92) (lv2 := [(2, .int 256), (0, .ref l0), (1, .int l1)]) (st2 := [.ref l0]) hm dX13_aside_91 rfl ?_
      replace hf := mx_sv_el hf; obtain ⟨v54, e_v54, hf⟩ := hf
      refine sx_get hm dX13_aside_92 rs_RX13_248 (xgr_el e_v54) ?_
      clear e_v54
      refine mx_S.pu (pc2 := 96) (lv2 := [(2, .int 256), (0, .ref l0), (1, .int l1)]) (st2 := [.int 256, .ref v54]) hm dX13_aside_95 rfl ?_
      refine sx_ic (v := 4) hm dX13_aside_96 (by decide) ?_
      replace hf := xl_el hf; obtain ⟨v55, e_v55, hf⟩ := hf
      refine mx_S.pu (pc2 := 98) (lv2 := [(2, .int 256), (0, .ref l0), (1, .int l1)]) (st2 := [.int v55, .ref v54]) hm dX13_aside_97 (by rw [← e_v55]; rfl) ?_
      clear e_v55
      refine mx_S.pu (pc2 := 99) (lv2 := [(2, .int 256), (0, .ref l0), (1, .int l1)]) (st2 := [.ref l0, .int v55, .ref v54]) hm dX13_aside_98 rfl ?_
      replace hf := mx_sv_el hf; obtain ⟨v56, e_v56, hf⟩ := hf
      refine sx_get hm dX13_aside_99 rs_RX13_233 (xgr_el e_v56) ?_
      clear e_v56
      refine mx_S.pu (pc2 := 103) (lv2 := [(2, .int 256), (0, .ref l0), (1, .int l1)]) (st2 := [.int l1, .ref v56, .int v55, .ref v54]) hm dX13_aside_102 rfl ?_
      replace hf := mx_sv_el hf; obtain ⟨v57, e_v57, hf⟩ := hf
      refine sx_ald hm dX13_aside_103 e_v57 ?_
      clear e_v57
      replace hf := mx_sv_el hf; obtain ⟨h58, e_h58, hf⟩ := hf
      refine sx_ast hm dX13_aside_104 e_h58 ?_
      clear e_h58
      refine sx_ic (v := 0) hm dX13_aside_105 (by decide) ?_
      refine mx_S.pu (pc2 := 107) (lv2 := [(3, .int 0), (2, .int 256), (0, .ref l0), (1, .int l1)]) (st2 := []) hm dX13_aside_106 rfl ?_
      refine mx_S.ext [(0, .ref l0), (1, .int l1), (2, .int 256), (3, .int 0)] (mx_sub_pos [2, 3, 1, 0] rfl (show ([3, 2, 0, 1] : List Nat).Nodup by decide)) ?_
      exact w_X13_aside_107_ok X hF hL nn nn l0 l1 256 0 h58 _ hf
    · refine sb_ic_ge hm dX13_aside_6 (tgt := 33) rfl (fun z => absurd z c66) (fun _ => ?_)
      refine mx_S.pu (pc2 := 10) (lv2 := [(0, .ref l0), (1, .int l1), (2, .int l2)]) (st2 := [.ref l0]) hm dX13_aside_9 rfl ?_
      replace hf := mx_sv_el hf; obtain ⟨v59, e_v59, hf⟩ := hf
      refine sx_get hm dX13_aside_10 rs_RX13_248 (xgr_el e_v59) ?_
      clear e_v59
      refine mx_S.pu (pc2 := 14) (lv2 := [(0, .ref l0), (1, .int l1), (2, .int l2)]) (st2 := [.int l2, .ref v59]) hm dX13_aside_13 rfl ?_
      refine mx_S.pu (pc2 := 15) (lv2 := [(0, .ref l0), (1, .int l1), (2, .int l2)]) (st2 := [.ref l0, .int l2, .ref v59]) hm dX13_aside_14 rfl ?_
      replace hf := mx_sv_el hf; obtain ⟨v60, e_v60, hf⟩ := hf
      refine sx_get hm dX13_aside_15 rs_RX13_215 (xgr_el e_v60) ?_
      clear e_v60
      refine sx_si (v := 256) hm dX13_aside_18 (by decide) ?_
      refine mx_S.pu (pc2 := 22) (lv2 := [(0, .ref l0), (1, .int l1), (2, .int l2)]) (st2 := [.int l1, .int 256, .ref v60, .int l2, .ref v59]) hm dX13_aside_21 rfl ?_
      replace hf := xl_el hf; obtain ⟨v61, e_v61, hf⟩ := hf
      refine mx_S.pu (pc2 := 23) (lv2 := [(0, .ref l0), (1, .int l1), (2, .int l2)]) (st2 := [.int v61, .ref v60, .int l2, .ref v59]) hm dX13_aside_22 (by rw [← e_v61]; rfl) ?_
      clear e_v61
      refine mx_S.pu (pc2 := 24) (lv2 := [(0, .ref l0), (1, .int l1), (2, .int l2)]) (st2 := [.int l2, .int v61, .ref v60, .int l2, .ref v59]) hm dX13_aside_23 rfl ?_
      replace hf := xl_el hf; obtain ⟨v62, e_v62, hf⟩ := hf
      refine mx_S.pu (pc2 := 25) (lv2 := [(0, .ref l0), (1, .int l1), (2, .int l2)]) (st2 := [.int v62, .ref v60, .int l2, .ref v59]) hm dX13_aside_24 (by rw [← e_v62]; rfl) ?_
      clear e_v62
      replace hf := mx_sv_el hf; obtain ⟨v63, e_v63, hf⟩ := hf
      refine sx_ald hm dX13_aside_25 e_v63 ?_
      clear e_v63
      replace hf := mx_sv_el hf; obtain ⟨h64, e_h64, hf⟩ := hf
      refine sx_ast hm dX13_aside_26 e_h64 ?_
      clear e_h64
      replace hf := xl_el hf; obtain ⟨v65, e_v65, hf⟩ := hf
      refine mx_S.pu (pc2 := 30) (lv2 := [(2, .int v65), (0, .ref l0), (1, .int l1)]) (st2 := []) hm dX13_aside_27 (by rw [← e_v65]; rfl) ?_
      clear e_v65
      refine mx_S.pu (pc2 := 2) (lv2 := [(2, .int v65), (0, .ref l0), (1, .int l1)]) (st2 := []) hm dX13_aside_30 rfl ?_
      refine mx_S.ext [(0, .ref l0), (1, .int l1), (2, .int v65)] (mx_sub_pos [1, 2, 0] rfl (show ([2, 0, 1] : List Nat).Nodup by decide)) ?_
      exact ih l0 l1 v65 h64 _ hf
set_option maxHeartbeats 4000000 in
set_option maxRecDepth 20000 in
theorem f_X13_aside_ok (X : Nat × (Nat → Int32)) {F L : Nat} (hF : 0 ≤ F) (hL : 0 ≤ L) (nn : Nat) (a0 : Nat) (a1 : Int32) (h : mx_H) {r : mx_H} (hf : f_X13_aside nn a0 a1 h = some r) : mx_R X F L 514 [.ref a0, .int a1] h (none, r, 0, 0) := by
  have hm : mx_mt 514 = some (yX13_aside, cX13_aside, 4, none) := mt_X13_aside
  show mx_S X F L 514 0 [(0, .ref a0), (1, .int a1)] [] h 0 0 (none, r, 0, 0)
  unfold f_X13_aside at hf
  refine sx_ic (v := 0) hm dX13_aside_0 (by decide) ?_
  refine mx_S.pu (pc2 := 2) (lv2 := [(2, .int 0), (0, .ref a0), (1, .int a1)]) (st2 := []) hm dX13_aside_1 rfl ?_
  refine mx_S.ext [(0, .ref a0), (1, .int a1), (2, .int 0)] (mx_sub_pos [1, 2, 0] rfl (show ([2, 0, 1] : List Nat).Nodup by decide)) ?_
  exact w_X13_aside_2_ok X hF hL nn nn a0 a1 0 h _ hf
set_option maxHeartbeats 4000000 in
set_option maxRecDepth 20000 in
theorem f_X13_nameAt_ok (X : Nat × (Nat → Int32)) {F L : Nat} (hF : 0 ≤ F) (hL : 0 ≤ L) (nn : Nat) (a0 : Nat) (a1 : Int32) (h : mx_H) {r : (Int32 × mx_H)} (hf : f_X13_nameAt nn a0 a1 h = some r) : mx_R X F L 510 [.ref a0, .int a1] h (some (.int r.1), r.2, 0, 0) := by
  have hm : mx_mt 510 = some (yX13_nameAt, cX13_nameAt, 4, (some .int)) := mt_X13_nameAt
  show mx_S X F L 510 0 [(0, .ref a0), (1, .int a1)] [] h 0 0 (some (.int r.1), r.2, 0, 0)
  unfold f_X13_nameAt at hf
  refine mx_S.pu (pc2 := 1) (lv2 := [(0, .ref a0), (1, .int a1)]) (st2 := [.int a1]) hm dX13_nameAt_0 rfl ?_
  refine sx_bi (v := 8) hm dX13_nameAt_1 (by decide) ?_
  replace hf := xl_el hf; obtain ⟨v1, e_v1, hf⟩ := hf
  refine mx_S.pu (pc2 := 4) (lv2 := [(0, .ref a0), (1, .int a1)]) (st2 := [.int v1]) hm dX13_nameAt_3 (by rw [← e_v1]; rfl) ?_
  clear e_v1
  refine mx_S.pu (pc2 := 5) (lv2 := [(2, .int v1), (0, .ref a0), (1, .int a1)]) (st2 := []) hm dX13_nameAt_4 rfl ?_
  refine sx_si (v := 6000) hm dX13_nameAt_5 (by decide) ?_
  refine mx_S.pu (pc2 := 9) (lv2 := [(2, .int v1), (0, .ref a0), (1, .int a1)]) (st2 := [.int v1, .int 6000]) hm dX13_nameAt_8 rfl ?_
  replace hf := xl_el hf; obtain ⟨v2, e_v2, hf⟩ := hf
  refine mx_S.pu (pc2 := 10) (lv2 := [(2, .int v1), (0, .ref a0), (1, .int a1)]) (st2 := [.int v2]) hm dX13_nameAt_9 (by rw [← e_v2]; rfl) ?_
  clear e_v2
  refine mx_S.pu (pc2 := 11) (lv2 := [(2, .int v1), (0, .ref a0), (1, .int a1)]) (st2 := [.ref a0, .int v2]) hm dX13_nameAt_10 rfl ?_
  replace hf := mx_sv_el hf; obtain ⟨v3, e_v3, hf⟩ := hf
  refine sx_get hm dX13_nameAt_11 rs_RX13_215 (xgr_el e_v3) ?_
  clear e_v3
  refine sx_si (v := 256) hm dX13_nameAt_14 (by decide) ?_
  refine mx_S.pu (pc2 := 18) (lv2 := [(2, .int v1), (0, .ref a0), (1, .int a1)]) (st2 := [.int v1, .int 256, .ref v3, .int v2]) hm dX13_nameAt_17 rfl ?_
  replace hf := xl_el hf; obtain ⟨v4, e_v4, hf⟩ := hf
  refine mx_S.pu (pc2 := 19) (lv2 := [(2, .int v1), (0, .ref a0), (1, .int a1)]) (st2 := [.int v4, .ref v3, .int v2]) hm dX13_nameAt_18 (by rw [← e_v4]; rfl) ?_
  clear e_v4
  refine mx_S.pu (pc2 := 20) (lv2 := [(2, .int v1), (0, .ref a0), (1, .int a1)]) (st2 := [.ref a0, .int v4, .ref v3, .int v2]) hm dX13_nameAt_19 rfl ?_
  replace hf := mx_sv_el hf; obtain ⟨v5, e_v5, hf⟩ := hf
  refine sx_get hm dX13_nameAt_20 rs_RX13_221 (xgr_el e_v5) ?_
  clear e_v5
  refine mx_S.pu (pc2 := 24) (lv2 := [(2, .int v1), (0, .ref a0), (1, .int a1)]) (st2 := [.int v1, .ref v5, .int v4, .ref v3, .int v2]) hm dX13_nameAt_23 rfl ?_
  replace hf := mx_sv_el hf; obtain ⟨v6, e_v6, hf⟩ := hf
  refine sx_ald hm dX13_nameAt_24 e_v6 ?_
  clear e_v6
  replace hf := xl_el hf; obtain ⟨v7, e_v7, hf⟩ := hf
  refine mx_S.pu (pc2 := 26) (lv2 := [(2, .int v1), (0, .ref a0), (1, .int a1)]) (st2 := [.int v7, .ref v3, .int v2]) hm dX13_nameAt_25 (by rw [← e_v7]; rfl) ?_
  clear e_v7
  replace hf := mx_sv_el hf; obtain ⟨v8, e_v8, hf⟩ := hf
  refine sx_ald hm dX13_nameAt_26 e_v8 ?_
  clear e_v8
  replace hf := xl_el hf; obtain ⟨v9, e_v9, hf⟩ := hf
  refine mx_S.pu (pc2 := 28) (lv2 := [(2, .int v1), (0, .ref a0), (1, .int a1)]) (st2 := [.int v9]) hm dX13_nameAt_27 (by rw [← e_v9]; rfl) ?_
  clear e_v9
  refine mx_S.pu (pc2 := 29) (lv2 := [(3, .int v9), (2, .int v1), (0, .ref a0), (1, .int a1)]) (st2 := []) hm dX13_nameAt_28 rfl ?_
  refine sx_si (v := 6000) hm dX13_nameAt_29 (by decide) ?_
  refine mx_S.pu (pc2 := 33) (lv2 := [(3, .int v9), (2, .int v1), (0, .ref a0), (1, .int a1)]) (st2 := [.int v1, .int 6000]) hm dX13_nameAt_32 rfl ?_
  replace hf := xl_el hf; obtain ⟨v10, e_v10, hf⟩ := hf
  refine mx_S.pu (pc2 := 34) (lv2 := [(3, .int v9), (2, .int v1), (0, .ref a0), (1, .int a1)]) (st2 := [.int v10]) hm dX13_nameAt_33 (by rw [← e_v10]; rfl) ?_
  clear e_v10
  refine mx_S.pu (pc2 := 35) (lv2 := [(3, .int v9), (2, .int v1), (0, .ref a0), (1, .int a1)]) (st2 := [.ref a0, .int v10]) hm dX13_nameAt_34 rfl ?_
  replace hf := mx_sv_el hf; obtain ⟨v11, e_v11, hf⟩ := hf
  refine sx_get hm dX13_nameAt_35 rs_RX13_215 (xgr_el e_v11) ?_
  clear e_v11
  refine sx_si (v := 256) hm dX13_nameAt_38 (by decide) ?_
  refine mx_S.pu (pc2 := 42) (lv2 := [(3, .int v9), (2, .int v1), (0, .ref a0), (1, .int a1)]) (st2 := [.int v1, .int 256, .ref v11, .int v10]) hm dX13_nameAt_41 rfl ?_
  replace hf := xl_el hf; obtain ⟨v12, e_v12, hf⟩ := hf
  refine mx_S.pu (pc2 := 43) (lv2 := [(3, .int v9), (2, .int v1), (0, .ref a0), (1, .int a1)]) (st2 := [.int v12, .ref v11, .int v10]) hm dX13_nameAt_42 (by rw [← e_v12]; rfl) ?_
  clear e_v12
  refine mx_S.pu (pc2 := 44) (lv2 := [(3, .int v9), (2, .int v1), (0, .ref a0), (1, .int a1)]) (st2 := [.ref a0, .int v12, .ref v11, .int v10]) hm dX13_nameAt_43 rfl ?_
  replace hf := mx_sv_el hf; obtain ⟨v13, e_v13, hf⟩ := hf
  refine sx_get hm dX13_nameAt_44 rs_RX13_209 (xgr_el e_v13) ?_
  clear e_v13
  refine mx_S.pu (pc2 := 48) (lv2 := [(3, .int v9), (2, .int v1), (0, .ref a0), (1, .int a1)]) (st2 := [.int v9, .ref v13, .int v12, .ref v11, .int v10]) hm dX13_nameAt_47 rfl ?_
  refine sx_ic (v := 1) hm dX13_nameAt_48 (by decide) ?_
  replace hf := xl_el hf; obtain ⟨v14, e_v14, hf⟩ := hf
  refine mx_S.pu (pc2 := 50) (lv2 := [(3, .int v9), (2, .int v1), (0, .ref a0), (1, .int a1)]) (st2 := [.int v14, .ref v13, .int v12, .ref v11, .int v10]) hm dX13_nameAt_49 (by rw [← e_v14]; rfl) ?_
  clear e_v14
  replace hf := mx_sv_el hf; obtain ⟨v15, e_v15, hf⟩ := hf
  refine sx_ald hm dX13_nameAt_50 e_v15 ?_
  clear e_v15
  replace hf := xl_el hf; obtain ⟨v16, e_v16, hf⟩ := hf
  refine mx_S.pu (pc2 := 52) (lv2 := [(3, .int v9), (2, .int v1), (0, .ref a0), (1, .int a1)]) (st2 := [.int v16, .ref v11, .int v10]) hm dX13_nameAt_51 (by rw [← e_v16]; rfl) ?_
  clear e_v16
  replace hf := mx_sv_el hf; obtain ⟨v17, e_v17, hf⟩ := hf
  refine sx_ald hm dX13_nameAt_52 e_v17 ?_
  clear e_v17
  replace hf := xl_el hf; obtain ⟨v18, e_v18, hf⟩ := hf
  refine mx_S.pu (pc2 := 54) (lv2 := [(3, .int v9), (2, .int v1), (0, .ref a0), (1, .int a1)]) (st2 := [.int v18]) hm dX13_nameAt_53 (by rw [← e_v18]; rfl) ?_
  clear e_v18
  refine sx_ic (v := 1) hm dX13_nameAt_54 (by decide) ?_
  replace hf := xl_el hf; obtain ⟨v19, e_v19, hf⟩ := hf
  refine mx_S.pu (pc2 := 56) (lv2 := [(3, .int v9), (2, .int v1), (0, .ref a0), (1, .int a1)]) (st2 := [.int v19]) hm dX13_nameAt_55 (by rw [← e_v19]; rfl) ?_
  clear e_v19
  cases hf
  exact sx_ire hm dX13_nameAt_56 rfl rfl

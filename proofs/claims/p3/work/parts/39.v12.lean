set_option maxRecDepth 4000 in
theorem vj_X4_endsAbove_33 {nn : Nat} (hn : 1000000 ≤ nn) {l2 : Int} {h : ms_M} (a_l2 : (-1) ≤ l2) (b_l2 : l2 ≤ 341) (V_h : VS_ h)  : Ok_ (qj_X4_endsAbove_33 nn l2 h) (QP_ 0 1) := by
  unfold qj_X4_endsAbove_33
  refine ok_if ?_ ?_
  · intro C0
    exact ok_rP (by omega) (by omega)
  · intro C0
    exact ok_rP (by omega) (by omega)
set_option maxRecDepth 4000 in
theorem vw_X4_endsAbove_4 {nn : Nat} (hn : 1000000 ≤ nn) : ∀ (k : Nat) {l2 : Int} {l3 : Int} {h : ms_M} (a_l2 : (-1) ≤ l2) (b_l2 : l2 ≤ 341) (a_l3 : 0 ≤ l3) (b_l3 : l3 ≤ 17) (V_h : VS_ h)  (hm : 18 - l3 < (k : Int)), Ok_ (qw_X4_endsAbove_4 nn k l2 l3 h) (QP_ 0 1) := by
  intro k
  induction k with
  | zero => intros; exfalso; omega
  | succ k ih =>
    intro l2 l3 h a_l2 b_l2 a_l3 b_l3 V_h hm
    unfold qw_X4_endsAbove_4
    refine ok_if ?_ ?_
    · intro C0
      exact vj_X4_endsAbove_33 hn (by omega) (by omega) V_h
    · intro C0
      refine ok_if ?_ ?_
      · intro C1
        exact vj_X4_endsAbove_33 hn (by omega) (by omega) V_h
      · intro C1
        refine ok_if ?_ ?_
        · intro C2
          exact vj_X4_endsAbove_33 hn (by omega) (by omega) V_h
        · intro C2
          refine ok_rd (by omega) (gA_58 V_h) ?_; intro v3 e_v3 a_v3 b_v3
          refine ok_add (by omega) ?_; intro v4 e_v4
          exact ih (by omega) (by omega) (by omega) (by omega) V_h (by omega)
set_option maxRecDepth 4000 in
theorem vf_X4_endsAbove {nn : Nat} (hn : 1000000 ≤ nn) {a1 : Int} {h : ms_M} (a_a1 : 8 ≤ a1) (b_a1 : a1 ≤ 15) (V_h : VS_ h)  : Ok_ (qf_X4_endsAbove nn a1 h) (QP_ 0 1) := by
  unfold qf_X4_endsAbove
  exact vw_X4_endsAbove_4 hn _ (by omega) (by omega) (by omega) (by omega) V_h (by omega)
set_option maxRecDepth 4000 in
theorem vj_X11_proveHeads_81 {nn : Nat} (hn : 1000000 ≤ nn) {qkk_3 : Int → ms_M → Option (Int × ms_M)} {K_kk_3 : Int} (hk_kk_3 : ∀ {l1 : Int} {h : ms_M} (a_l1 : 8 ≤ l1) (b_l1 : l1 ≤ 16) (V_h : VS_ h) (_ : 17 - l1 < K_kk_3), Ok_ (qkk_3 l1 h) (QI_ 0 12)) {l1 : Int} {l2 : Int} {h : ms_M} (a_l1 : 8 ≤ l1) (b_l1 : l1 ≤ 15) (a_l2 : 0 ≤ l2) (b_l2 : l2 ≤ 5) (V_h : VS_ h) (hm_kk_3 : 17 - l1 + 0 ≤ K_kk_3) : Ok_ (qj_X11_proveHeads_81 nn qkk_3 l1 l2 h) (QI_ 0 12) := by
  unfold qj_X11_proveHeads_81
  refine ok_if ?_ ?_
  · intro C0
    refine ok_add (by omega) ?_; intro v1 e_v1
    exact hk_kk_3 (by omega) (by omega) V_h (by omega)
  · intro C0
    refine ok_cI (vf_X11_tellNumber hn (by omega) (by omega) (by omega) (by omega) (by omega) (by omega) (by omega) (by omega) V_h) ?_; intro u3 E_u3 V_u3 a_u3 b_u3
    exact ok_rI V_u3 (by omega) (by omega)
set_option maxRecDepth 4000 in
theorem vj_X11_proveHeads_54 {nn : Nat} (hn : 1000000 ≤ nn) {qkk_3 : Int → ms_M → Option (Int × ms_M)} {K_kk_3 : Int} (hk_kk_3 : ∀ {l1 : Int} {h : ms_M} (a_l1 : 8 ≤ l1) (b_l1 : l1 ≤ 16) (V_h : VS_ h) (_ : 17 - l1 < K_kk_3), Ok_ (qkk_3 l1 h) (QI_ 0 12)) {l1 : Int} {h : ms_M} (a_l1 : 8 ≤ l1) (b_l1 : l1 ≤ 15) (V_h : VS_ h) (hm_kk_3 : 17 - l1 + 0 ≤ K_kk_3) : Ok_ (qj_X11_proveHeads_54 nn qkk_3 l1 h) (QI_ 0 12) := by
  unfold qj_X11_proveHeads_54
  exact vj_X11_proveHeads_81 hn hk_kk_3 (by omega) (by omega) (by omega) (by omega) V_h (by omega)
set_option maxRecDepth 4000 in
theorem vw_X11_proveHeads_3 {nn : Nat} (hn : 1000000 ≤ nn) : ∀ (k : Nat) {l1 : Int} {h : ms_M} (a_l1 : 8 ≤ l1) (b_l1 : l1 ≤ 16) (V_h : VS_ h)  (hm : 17 - l1 < (k : Int)), Ok_ (qw_X11_proveHeads_3 nn k l1 h) (QI_ 0 12) := by
  intro k
  induction k with
  | zero => intros; exfalso; omega
  | succ k ih =>
    intro l1 h a_l1 b_l1 V_h hm
    unfold qw_X11_proveHeads_3
    have T1 := gF_56_3 V_h
    refine ok_add (by omega) ?_; intro v7 e_v7
    refine ok_if ?_ ?_
    · intro C1
      exact ok_rI V_h (by omega) (by omega)
    · intro C1
      refine ok_cV (vf_X11_takeImage hn (by omega) (by omega) V_h) ?_; intro u9 E_u9 V_u9
      refine ok_cP (vf_X4_above hn rfl (by omega) (by omega) V_u9) ?_; intro u12 e_u12 a_u12 b_u12
      refine ok_if ?_ ?_
      · intro C2
        exact vj_X11_proveHeads_54 hn ih (by omega) (by omega) V_u9 (by omega)
      · intro C2
        refine ok_cI (vf_X11_areKindsThere hn V_u9) ?_; intro u14 E_u14 V_u14 a_u14 b_u14
        refine ok_if ?_ ?_
        · intro C3
          exact vj_X11_proveHeads_54 hn ih (by omega) (by omega) V_u14 (by omega)
        · intro C3
          refine ok_cP (vf_X4_endsAbove hn (by omega) (by omega) V_u14) ?_; intro u17 e_u17 a_u17 b_u17
          refine ok_if ?_ ?_
          · intro C4
            refine ok_cP (vf_X11_hasTwins hn V_u14) ?_; intro u19 e_u19 a_u19 b_u19
            refine ok_if ?_ ?_
            · intro C5
              refine ok_cP (vf_X11_hasOtherAbove hn (by omega) (by omega) V_u14) ?_; intro u21 e_u21 a_u21 b_u21
              refine ok_if ?_ ?_
              · intro C6
                exact vj_X11_proveHeads_81 hn ih (by omega) (by omega) (by omega) (by omega) V_u14 (by omega)
              · intro C6
                exact vj_X11_proveHeads_81 hn ih (by omega) (by omega) (by omega) (by omega) V_u14 (by omega)
            · intro C5
              exact vj_X11_proveHeads_81 hn ih (by omega) (by omega) (by omega) (by omega) V_u14 (by omega)
          · intro C4
            exact vj_X11_proveHeads_54 hn ih (by omega) (by omega) V_u14 (by omega)
set_option maxRecDepth 4000 in
theorem vf_X11_proveHeads {nn : Nat} (hn : 1000000 ≤ nn) {h : ms_M} (V_h : VS_ h)  : Ok_ (qf_X11_proveHeads nn h) (QI_ 0 12) := by
  unfold qf_X11_proveHeads
  exact vw_X11_proveHeads_3 hn _ (by omega) (by omega) V_h (by omega)
set_option maxRecDepth 4000 in
theorem vf_X11_info {nn : Nat} (hn : 1000000 ≤ nn) {a1 : Int} {h : ms_M} (a_a1 : 0 ≤ a1) (b_a1 : a1 ≤ 10) (V_h : VS_ h)  : Ok_ (qf_X11_info nn a1 h) (QP_ (-1) 65535) := by
  unfold qf_X11_info
  refine ok_ck (vi_r V_h).2.1.1 ?_
  have T1 := gF_127_6 V_h
  have hb1 : kc_O (h 127 5).toNat = 3 := (vi_r V_h).2.1.2
  refine ok_ck hb1 ?_
  refine ok_cP (vf_X3_of hn hb1 (by omega) (by omega) (by omega) (by omega) V_h) ?_; intro u4 e_u4 a_u4 b_u4
  exact ok_rP (by omega) (by omega)
set_option maxRecDepth 4000 in
theorem vj_X11_beginState_83 {nn : Nat} (hn : 1000000 ≤ nn) {l2 : Int} {l3 : Int} {h : ms_M} (a_l2 : 0 ≤ l2) (b_l2 : l2 ≤ 6) (a_l3 : 0 ≤ l3) (b_l3 : l3 ≤ 1) (V_h : VS_ h) (N_h : VG_ h)  : Ok_ (qj_X11_beginState_83 nn l2 l3 h) QV_ := by
  unfold qj_X11_beginState_83
  refine ok_cp V_h (gA_131 V_h) rfl (show _ ∧ _ ∧ _ ∧ _ + _ ≤ (1799 : Int) ∧ _ + _ ≤ (30 : Int) by omega) (fun z y => wA_134 z (by omega)) ?_; intro h3 V_h3 F_h3
  have N_h3 : VG_ h3 := vg_cp V_h N_h (fun c k z => F_h3 c k z) rfl
  exact ok_rV V_h3
set_option maxRecDepth 4000 in
theorem vf_X11_beginState {nn : Nat} (hn : 1000000 ≤ nn) {a1 : Int} {h : ms_M} (a_a1 : 8 ≤ a1) (b_a1 : a1 ≤ 15) (V_h : VS_ h) (N_h : VG_ h)  : Ok_ (qf_X11_beginState nn a1 h) QV_ := by
  unfold qf_X11_beginState
  refine ok_xl ?_; intro h4 E_h4; have V_h4 : VS_ h4 := by rw [E_h4]; exact wF_127_18 V_h (by omega)
  have N_h4 : VG_ h4 := by rw [E_h4]; exact vg_up V_h N_h rfl
  refine ok_cV (vfill hn V_h4 (show 134 < 256 by decide) rfl (show 30 ≤ 100000 by decide) (fun _ _ z => wA_134 z (by omega))) ?_; intro u6 E_u6 V_u6
  have N_u6 : VG_ u6 := vg_cp V_h4 N_h4 (fun c k z => (ff_J7_fill_53178 nn) _ E_u6 c k z) rfl
  refine ok_cP (vf_X11_info hn (by omega) (by omega) V_u6) ?_; intro u8 e_u8 a_u8 b_u8
  have T1 := lm_info3 V_u6 N_u6 e_u8
  refine ok_ite ?_; intro v11 e_v11
  refine ok_xl ?_; intro h12 E_h12; have V_h12 : VS_ h12 := by rw [E_h12]; exact wF_127_17 V_u6 (by omega)
  have N_h12 : VG_ h12 := by rw [E_h12]; exact vg_up V_u6 N_u6 rfl
  refine ok_ck (vi_r V_h12).2.1.1 ?_
  refine ok_cP (vf_X11_info hn (by omega) (by omega) V_h12) ?_; intro u16 e_u16 a_u16 b_u16
  refine ok_cI (vf_X7_readKind hn (vi_r V_h12).2.1.2 (by omega) (by omega) (by omega) (by omega) V_h12) ?_; intro u19 E_u19 V_u19 a_u19 b_u19
  have N_u19_2 : VG_ u19.2 := vg_fr V_h12 N_h12 (fun c k z => (ff_X7_readKind nn) _ E_u19 c k z) rfl
  refine ok_rd (by omega) (gA_131 V_u19) ?_; intro v21 e_v21 a_v21 b_v21
  refine ok_xl ?_; intro h22 E_h22; have V_h22 : VS_ h22 := by rw [E_h22]; exact wF_127_20 V_u19 (by omega)
  have N_h22 : VG_ h22 := by rw [E_h22]; exact vg_up V_u19 N_u19_2 rfl
  refine ok_cP (vf_X11_info hn (by omega) (by omega) V_h22) ?_; intro u24 e_u24 a_u24 b_u24
  refine ok_if ?_ ?_
  · intro C1
    exact vj_X11_beginState_83 hn (by omega) (by omega) (by omega) (by omega) V_h22 N_h22
  · intro C1
    refine ok_wA (by omega) ?_; intro h26 E_h26; have V_h26 : VS_ h26 := by rw [E_h26]; exact wA_134 V_h22 (by omega)
    have N_h26 : VG_ h26 := by rw [E_h26]; exact vg_ua V_h22 N_h22 rfl
    exact vj_X11_beginState_83 hn (by omega) (by omega) (by omega) (by omega) V_h26 N_h26
set_option maxRecDepth 4000 in
theorem vj_X11_areThere_41 {nn : Nat} (hn : 1000000 ≤ nn) {qkk_5 : Int → Int → Int → Int → ms_M → Option Int} {K_kk_5 : Int} (hk_kk_5 : ∀ {l1 : Int} {l2 : Int} {l3 : Int} {l4 : Int} {h : ms_M} (a_l1 : 0 ≤ l1) (b_l1 : l1 ≤ 6369) (a_l2 : (-1) ≤ l2) (b_l2 : l2 ≤ 65535) (a_l3 : 0 ≤ l3) (b_l3 : l3 ≤ 1) (a_l4 : 0 ≤ l4) (b_l4 : l4 ≤ 6399) (V_h : VS_ h) (x_0 : l1 ≤ l4 ∧ l4 ≤ l1 + 30) (_ : 6400 - l4 < K_kk_5), Ok_ (qkk_5 l1 l2 l3 l4 h) (QP_ 0 1)) {l1 : Int} {l2 : Int} {l4 : Int} {h : ms_M} (a_l1 : 0 ≤ l1) (b_l1 : l1 ≤ 6369) (a_l2 : (-1) ≤ l2) (b_l2 : l2 ≤ 65535) (a_l4 : 0 ≤ l4) (b_l4 : l4 ≤ 6398) (V_h : VS_ h) (x_0 : l1 ≤ l4 ∧ l4 < l1 + 30) (hm_kk_5 : 6400 - l4 + 0 ≤ K_kk_5) : Ok_ (qj_X11_areThere_41 nn qkk_5 l1 l2 l4 h) (QP_ 0 1) := by
  unfold qj_X11_areThere_41
  refine ok_add (by omega) ?_; intro v1 e_v1
  exact hk_kk_5 (by omega) (by omega) (by omega) (by omega) (by omega) (by omega) (by omega) (by omega) V_h (by omega) (by omega)
set_option maxRecDepth 4000 in
theorem vw_X11_areThere_5 {nn : Nat} (hn : 1000000 ≤ nn) : ∀ (k : Nat) {l1 : Int} {l2 : Int} {l3 : Int} {l4 : Int} {h : ms_M} (a_l1 : 0 ≤ l1) (b_l1 : l1 ≤ 6369) (a_l2 : (-1) ≤ l2) (b_l2 : l2 ≤ 65535) (a_l3 : 0 ≤ l3) (b_l3 : l3 ≤ 1) (a_l4 : 0 ≤ l4) (b_l4 : l4 ≤ 6399) (V_h : VS_ h) (x_0 : l1 ≤ l4 ∧ l4 ≤ l1 + 30)  (hm : 6400 - l4 < (k : Int)), Ok_ (qw_X11_areThere_5 nn k l1 l2 l3 l4 h) (QP_ 0 1) := by
  intro k
  induction k with
  | zero => intros; exfalso; omega
  | succ k ih =>
    intro l1 l2 l3 l4 h a_l1 b_l1 a_l2 b_l2 a_l3 b_l3 a_l4 b_l4 V_h x_0 hm
    unfold qw_X11_areThere_5
    refine ok_add (by omega) ?_; intro v2 e_v2
    refine ok_if ?_ ?_
    · intro C0
      refine ok_ck (by omega) ?_
      exact ok_rP (by omega) (by omega)
    · intro C0
      refine ok_add (by omega) ?_; intro v4 e_v4
      refine ok_if ?_ ?_
      · intro C1
        refine ok_ck (by omega) ?_
        exact ok_rP (by omega) (by omega)
      · intro C1
        refine ok_if ?_ ?_
        · intro C2
          exact vj_X11_areThere_41 hn ih (by omega) (by omega) (by omega) (by omega) (by omega) (by omega) V_h (by omega) (by omega)
        · intro C2
          refine ok_rd (by omega) (gA_133 V_h) ?_; intro v7 e_v7 a_v7 b_v7
          refine ok_if ?_ ?_
          · intro C3
            exact vj_X11_areThere_41 hn ih (by omega) (by omega) (by omega) (by omega) (by omega) (by omega) V_h (by omega) (by omega)
          · intro C3
            refine ok_add (by omega) ?_; intro v8 e_v8
            exact ih (by omega) (by omega) (by omega) (by omega) (by omega) (by omega) (by omega) (by omega) V_h (by omega) (by omega)
set_option maxRecDepth 4000 in
theorem vf_X11_areThere {nn : Nat} (hn : 1000000 ≤ nn) {a1 : Int} {a2 : Int} {h : ms_M} (a_a1 : 0 ≤ a1) (b_a1 : a1 ≤ 6369) (a_a2 : (-1) ≤ a2) (b_a2 : a2 ≤ 65535) (V_h : VS_ h)  : Ok_ (qf_X11_areThere nn a1 a2 h) (QP_ 0 1) := by
  unfold qf_X11_areThere
  exact vw_X11_areThere_5 hn _ (by omega) (by omega) (by omega) (by omega) (by omega) (by omega) (by omega) (by omega) V_h (by omega) (by omega)
set_option maxRecDepth 4000 in
theorem vf_X11_at {nn : Nat} (hn : 1000000 ≤ nn) {a1 : Int} {a2 : Int} {h : ms_M} (a_a1 : 1 ≤ a1) (b_a1 : a1 ≤ 12) (a_a2 : 0 ≤ a2) (b_a2 : a2 ≤ 65534) (V_h : VS_ h)  : Ok_ (qf_X11_at nn a1 a2 h) (QI_ 1 12) := by
  unfold qf_X11_at
  refine ok_xl ?_; intro h1 E_h1; have V_h1 : VS_ h1 := by rw [E_h1]; exact wF_127_7 V_h (by omega)
  exact ok_rI V_h1 (by omega) (by omega)
set_option maxRecDepth 4000 in
theorem vf_X11_begins {nn : Nat} (hn : 1000000 ≤ nn) {a1 : Int} {h : ms_M} (a_a1 : (-32768) ≤ a1) (b_a1 : a1 ≤ 65535) (V_h : VS_ h)  : Ok_ (qf_X11_begins nn a1 h) (QP_ 0 1) := by
  unfold qf_X11_begins
  refine ok_if ?_ ?_
  · intro C0
    exact ok_rP (by omega) (by omega)
  · intro C0
    have T2 := gF_127_16 V_h
    refine ok_if ?_ ?_
    · intro C2
      exact ok_rP (by omega) (by omega)
    · intro C2
      refine ok_rd (by omega) (gA_132 V_h) ?_; intro v3 e_v3 a_v3 b_v3
      refine ok_if ?_ ?_
      · intro C3
        exact ok_rP (by omega) (by omega)
      · intro C3
        exact ok_rP (by omega) (by omega)
set_option maxRecDepth 4000 in
theorem vj_X11_proveFrames_116 {nn : Nat} (hn : 1000000 ≤ nn) {qkk_4 : Int → Int → ms_M → Option (Int × ms_M)} {K_kk_4 : Int} (hk_kk_4 : ∀ {l1 : Int} {l2 : Int} {h : ms_M} (a_l1 : (-1) ≤ l1) (b_l1 : l1 ≤ 65535) (a_l2 : 0 ≤ l2) (b_l2 : l2 ≤ 100) (V_h : VS_ h) (N_h : VG_ h) (_ : 101 - l2 < K_kk_4), Ok_ (qkk_4 l1 l2 h) (QI_ 0 12)) {l2 : Int} {l3 : Int} {s0 : Int} {h : ms_M} (a_l2 : 0 ≤ l2) (b_l2 : l2 ≤ 99) (a_l3 : 0 ≤ l3) (b_l3 : l3 ≤ 6336) (a_s0 : 0 ≤ s0) (b_s0 : s0 ≤ 1) (V_h : VS_ h) (N_h : VG_ h) (hm_kk_4 : 101 - l2 + 0 ≤ K_kk_4) : Ok_ (qj_X11_proveFrames_116 nn qkk_4 l2 l3 s0 h) (QI_ 0 12) := by
  unfold qj_X11_proveFrames_116
  refine ok_if ?_ ?_
  · intro C0
    refine ok_rd (by omega) (gA_133 V_h) ?_; intro v2 e_v2 a_v2 b_v2
    refine ok_add (by omega) ?_; intro v3 e_v3
    exact hk_kk_4 (by omega) (by omega) (by omega) (by omega) V_h N_h (by omega)
  · intro C0
    refine ok_cI (vf_X11_at hn (by omega) (by omega) (by omega) (by omega) V_h) ?_; intro u5 E_u5 V_u5 a_u5 b_u5
    have N_u5_2 : VG_ u5.2 := vg_fr V_h N_h (fun c k z => (ff_X11_at nn) _ E_u5 c k z) rfl
    exact ok_rI V_u5 (by omega) (by omega)
set_option maxRecDepth 4000 in
theorem vj_X11_proveFrames_115 {nn : Nat} (hn : 1000000 ≤ nn) {qkk_4 : Int → Int → ms_M → Option (Int × ms_M)} {K_kk_4 : Int} (hk_kk_4 : ∀ {l1 : Int} {l2 : Int} {h : ms_M} (a_l1 : (-1) ≤ l1) (b_l1 : l1 ≤ 65535) (a_l2 : 0 ≤ l2) (b_l2 : l2 ≤ 100) (V_h : VS_ h) (N_h : VG_ h) (_ : 101 - l2 < K_kk_4), Ok_ (qkk_4 l1 l2 h) (QI_ 0 12)) {l2 : Int} {l3 : Int} {h : ms_M} (a_l2 : 0 ≤ l2) (b_l2 : l2 ≤ 99) (a_l3 : 0 ≤ l3) (b_l3 : l3 ≤ 6336) (V_h : VS_ h) (N_h : VG_ h) (hm_kk_4 : 101 - l2 + 0 ≤ K_kk_4) : Ok_ (qj_X11_proveFrames_115 nn qkk_4 l2 l3 h) (QI_ 0 12) := by
  unfold qj_X11_proveFrames_115
  exact vj_X11_proveFrames_116 hn hk_kk_4 (by omega) (by omega) (by omega) (by omega) (by omega) (by omega) V_h N_h (by omega)
set_option maxRecDepth 4000 in
theorem vw_X11_proveFrames_4 {nn : Nat} (hn : 1000000 ≤ nn) : ∀ (k : Nat) {l1 : Int} {l2 : Int} {h : ms_M} (a_l1 : (-1) ≤ l1) (b_l1 : l1 ≤ 65535) (a_l2 : 0 ≤ l2) (b_l2 : l2 ≤ 100) (V_h : VS_ h) (N_h : VG_ h)  (hm : 101 - l2 < (k : Int)), Ok_ (qw_X11_proveFrames_4 nn k l1 l2 h) (QI_ 0 12) := by
  intro k
  induction k with
  | zero => intros; exfalso; omega
  | succ k ih =>
    intro l1 l2 h a_l1 b_l1 a_l2 b_l2 V_h N_h hm
    unfold qw_X11_proveFrames_4
    refine ok_cP (vf_X11_info hn (by omega) (by omega) V_h) ?_; intro u8 e_u8 a_u8 b_u8
    have T1 := lm_info9 V_h N_h e_u8
    refine ok_if ?_ ?_
    · intro C1
      exact ok_rI V_h (by omega) (by omega)
    · intro C1
      refine ok_mul (by omega) ?_; intro v9 e_v9
      refine ok_rd (by omega) (gA_133 V_h) ?_; intro v11 e_v11 a_v11 b_v11
      refine ok_cP (vf_X11_begins hn (by omega) (by omega) V_h) ?_; intro u13 e_u13 a_u13 b_u13
      have T3 := pr_X11_begins e_u13
      refine ok_if ?_ ?_
      · intro C3
        exact vj_X11_proveFrames_115 hn ih (by omega) (by omega) (by omega) (by omega) V_h N_h (by omega)
      · intro C3
        refine ok_rd (by omega) (gA_133 V_h) ?_; intro v15 e_v15 a_v15 b_v15
        refine ok_if ?_ ?_
        · intro C4
          exact vj_X11_proveFrames_115 hn ih (by omega) (by omega) (by omega) (by omega) V_h N_h (by omega)
        · intro C4
          refine ok_add (by omega) ?_; intro v17 e_v17
          refine ok_rd (by omega) (gA_133 V_h) ?_; intro v18 e_v18 a_v18 b_v18
          refine ok_cP (vf_X11_info hn (by omega) (by omega) V_h) ?_; intro u20 e_u20 a_u20 b_u20
          have T6 := lm_info4 V_h N_h e_u20
          refine ok_if ?_ ?_
          · intro C6
            exact vj_X11_proveFrames_115 hn ih (by omega) (by omega) (by omega) (by omega) V_h N_h (by omega)
          · intro C6
            refine ok_add (by omega) ?_; intro v22 e_v22
            refine ok_rd (by omega) (gA_133 V_h) ?_; intro v23 e_v23 a_v23 b_v23
            refine ok_cP (vf_X11_info hn (by omega) (by omega) V_h) ?_; intro u25 e_u25 a_u25 b_u25
            have T8 := lm_info3 V_h N_h e_u25
            refine ok_if ?_ ?_
            · intro C8
              exact vj_X11_proveFrames_115 hn ih (by omega) (by omega) (by omega) (by omega) V_h N_h (by omega)
            · intro C8
              refine ok_add (by omega) ?_; intro v26 e_v26
              refine ok_add (by omega) ?_; intro v28 e_v28
              refine ok_rd (by omega) (gA_133 V_h) ?_; intro v29 e_v29 a_v29 b_v29
              refine ok_cP (vf_X11_areThere hn (by omega) (by omega) (by omega) (by omega) V_h) ?_; intro u31 e_u31 a_u31 b_u31
              refine ok_if ?_ ?_
              · intro C9
                exact vj_X11_proveFrames_115 hn ih (by omega) (by omega) (by omega) (by omega) V_h N_h (by omega)
              · intro C9
                refine ok_add (by omega) ?_; intro v32 e_v32
                refine ok_add (by omega) ?_; intro v34 e_v34
                refine ok_rd (by omega) (gA_133 V_h) ?_; intro v35 e_v35 a_v35 b_v35
                refine ok_cP (vf_X11_areThere hn (by omega) (by omega) (by omega) (by omega) V_h) ?_; intro u37 e_u37 a_u37 b_u37
                refine ok_if ?_ ?_
                · intro C10
                  exact vj_X11_proveFrames_115 hn ih (by omega) (by omega) (by omega) (by omega) V_h N_h (by omega)
                · intro C10
                  exact vj_X11_proveFrames_116 hn ih (by omega) (by omega) (by omega) (by omega) (by omega) (by omega) V_h N_h (by omega)
set_option maxRecDepth 4000 in
theorem vf_X11_proveFrames {nn : Nat} (hn : 1000000 ≤ nn) {h : ms_M} (V_h : VS_ h) (N_h : VG_ h)  : Ok_ (qf_X11_proveFrames nn h) (QI_ 0 12) := by
  unfold qf_X11_proveFrames
  exact vw_X11_proveFrames_4 hn _ (by omega) (by omega) (by omega) (by omega) V_h N_h (by omega)
set_option maxRecDepth 4000 in
theorem vf_X11_frameAt {nn : Nat} (hn : 1000000 ≤ nn) {a1 : Int} {h : ms_M} (a_a1 : (-32768) ≤ a1) (b_a1 : a1 ≤ 65535) (V_h : VS_ h)  : Ok_ (qf_X11_frameAt nn a1 h) (QP_ (-2) 99) := by
  unfold qf_X11_frameAt
  refine ok_cP (vf_X11_begins hn (by omega) (by omega) V_h) ?_; intro u2 e_u2 a_u2 b_u2
  have T1 := pr_X11_begins e_u2
  refine ok_if ?_ ?_
  · intro C1
    exact ok_rP (by omega) (by omega)
  · intro C1
    refine ok_rd (by omega) (gA_132 V_h) ?_; intro v4 e_v4 a_v4 b_v4
    exact ok_rP (by omega) (by omega)
set_option maxRecDepth 4000 in
theorem vf_X11_handler {nn : Nat} (hn : 1000000 ≤ nn) {a1 : Int} {a2 : Int} {h : ms_M} (a_a1 : 0 ≤ a1) (b_a1 : a1 ≤ 65534) (a_a2 : 0 ≤ a2) (b_a2 : a2 ≤ 4) (V_h : VS_ h)  : Ok_ (qf_X11_handler nn a1 a2 h) (QP_ 0 65535) := by
  unfold qf_X11_handler
  refine ok_ck (vi_r V_h).2.1.1 ?_
  refine ok_cP (vf_X11_info hn (by omega) (by omega) V_h) ?_; intro u3 e_u3 a_u3 b_u3
  refine ok_mul (by omega) ?_; intro v4 e_v4
  refine ok_add (by omega) ?_; intro v5 e_v5
  refine ok_add (by omega) ?_; intro v6 e_v6
  have hb1 : kc_O (h 127 5).toNat = 3 := (vi_r V_h).2.1.2
  refine ok_ck hb1 ?_
  refine ok_cP (vf_X3_pairAt hn hb1 (by omega) (by omega) V_h) ?_; intro u8 e_u8 a_u8 b_u8
  exact ok_rP (by omega) (by omega)
set_option maxRecDepth 4000 in
theorem vf_X11_handlerClass {nn : Nat} (hn : 1000000 ≤ nn) {a1 : Int} {h : ms_M} (a_a1 : 0 ≤ a1) (b_a1 : a1 ≤ 65534) (V_h : VS_ h)  : Ok_ (qf_X11_handlerClass nn a1 h) (QP_ (-1) 303) := by
  unfold qf_X11_handlerClass
  refine ok_ck (vi_r V_h).2.1.1 ?_
  refine ok_cP (vf_X11_info hn (by omega) (by omega) V_h) ?_; intro u4 e_u4 a_u4 b_u4
  refine ok_mul (by omega) ?_; intro v5 e_v5
  refine ok_add (by omega) ?_; intro v6 e_v6
  refine ok_add (by omega) ?_; intro v7 e_v7
  have hb1 : kc_O (h 127 5).toNat = 3 := (vi_r V_h).2.1.2
  refine ok_ck hb1 ?_
  refine ok_cP (vf_X3_byteAt hn hb1 (by omega) (by omega) V_h) ?_; intro u9 e_u9 a_u9 b_u9
  refine ok_rd (by omega) (gA_128 V_h) ?_; intro v10 e_v10 a_v10 b_v10
  exact ok_rP (by omega) (by omega)
set_option maxRecDepth 4000 in
theorem vj_X11_proveHandlers_100 {nn : Nat} (hn : 1000000 ≤ nn) {l1 : Int} {h : ms_M} (a_l1 : 0 ≤ l1) (b_l1 : l1 ≤ 65534) (V_h : VS_ h)  : Ok_ (qj_X11_proveHandlers_100 nn l1 h) (QI_ 0 12) := by
  unfold qj_X11_proveHandlers_100
  refine ok_cI (vf_X11_at hn (by omega) (by omega) (by omega) (by omega) V_h) ?_; intro u2 E_u2 V_u2 a_u2 b_u2
  exact ok_rI V_u2 (by omega) (by omega)
set_option maxRecDepth 4000 in
theorem vj_X11_proveHandlers_68 {nn : Nat} (hn : 1000000 ≤ nn) {qkk_2 : Int → ms_M → Option (Int × ms_M)} {K_kk_2 : Int} (hk_kk_2 : ∀ {l1 : Int} {h : ms_M} (a_l1 : 0 ≤ l1) (b_l1 : l1 ≤ 65535) (V_h : VS_ h) (_ : 65536 - l1 < K_kk_2), Ok_ (qkk_2 l1 h) (QI_ 0 12)) {l1 : Int} {l4 : Int} {s0 : Int} {h : ms_M} (a_l1 : 0 ≤ l1) (b_l1 : l1 ≤ 65534) (a_l4 : 0 ≤ l4) (b_l4 : l4 ≤ 65535) (a_s0 : 0 ≤ s0) (b_s0 : s0 ≤ 1) (V_h : VS_ h) (hm_kk_2 : 65536 - l1 + 0 ≤ K_kk_2) : Ok_ (qj_X11_proveHandlers_68 nn qkk_2 l1 l4 s0 h) (QI_ 0 12) := by
  unfold qj_X11_proveHandlers_68
  refine ok_if ?_ ?_
  · intro C0
    exact vj_X11_proveHandlers_100 hn (by omega) (by omega) V_h
  · intro C0
    refine ok_cP (vf_X11_frameAt hn (by omega) (by omega) V_h) ?_; intro u4 e_u4 a_u4 b_u4
    refine ok_if ?_ ?_
    · intro C1
      exact vj_X11_proveHandlers_100 hn (by omega) (by omega) V_h
    · intro C1
      refine ok_cP (vf_X11_handlerClass hn (by omega) (by omega) V_h) ?_; intro u7 e_u7 a_u7 b_u7
      refine ok_cP (vf_X4_fits hn rfl (by omega) (by omega) (by omega) (by omega) V_h) ?_; intro u9 e_u9 a_u9 b_u9
      refine ok_if ?_ ?_
      · intro C2
        refine ok_add (by omega) ?_; intro v10 e_v10
        exact hk_kk_2 (by omega) (by omega) V_h (by omega)
      · intro C2
        exact vj_X11_proveHandlers_100 hn (by omega) (by omega) V_h
set_option maxRecDepth 4000 in
theorem vj_X11_proveHandlers_67 {nn : Nat} (hn : 1000000 ≤ nn) {qkk_2 : Int → ms_M → Option (Int × ms_M)} {K_kk_2 : Int} (hk_kk_2 : ∀ {l1 : Int} {h : ms_M} (a_l1 : 0 ≤ l1) (b_l1 : l1 ≤ 65535) (V_h : VS_ h) (_ : 65536 - l1 < K_kk_2), Ok_ (qkk_2 l1 h) (QI_ 0 12)) {l1 : Int} {l4 : Int} {h : ms_M} (a_l1 : 0 ≤ l1) (b_l1 : l1 ≤ 65534) (a_l4 : 0 ≤ l4) (b_l4 : l4 ≤ 65535) (V_h : VS_ h) (hm_kk_2 : 65536 - l1 + 0 ≤ K_kk_2) : Ok_ (qj_X11_proveHandlers_67 nn qkk_2 l1 l4 h) (QI_ 0 12) := by
  unfold qj_X11_proveHandlers_67
  exact vj_X11_proveHandlers_68 hn hk_kk_2 (by omega) (by omega) (by omega) (by omega) (by omega) (by omega) V_h (by omega)
set_option maxRecDepth 4000 in
theorem vj_X11_proveHandlers_58 {nn : Nat} (hn : 1000000 ≤ nn) {qkk_2 : Int → ms_M → Option (Int × ms_M)} {K_kk_2 : Int} (hk_kk_2 : ∀ {l1 : Int} {h : ms_M} (a_l1 : 0 ≤ l1) (b_l1 : l1 ≤ 65535) (V_h : VS_ h) (_ : 65536 - l1 < K_kk_2), Ok_ (qkk_2 l1 h) (QI_ 0 12)) {l1 : Int} {l2 : Int} {l3 : Int} {l4 : Int} {h : ms_M} (a_l1 : 0 ≤ l1) (b_l1 : l1 ≤ 65534) (a_l2 : 0 ≤ l2) (b_l2 : l2 ≤ 1499) (a_l3 : 0 ≤ l3) (b_l3 : l3 ≤ 1500) (a_l4 : 0 ≤ l4) (b_l4 : l4 ≤ 65535) (V_h : VS_ h) (hm_kk_2 : 65536 - l1 + 0 ≤ K_kk_2) : Ok_ (qj_X11_proveHandlers_58 nn qkk_2 l1 l2 l3 l4 h) (QI_ 0 12) := by
  unfold qj_X11_proveHandlers_58
  refine ok_if ?_ ?_
  · intro C0
    exact vj_X11_proveHandlers_67 hn hk_kk_2 (by omega) (by omega) (by omega) (by omega) V_h (by omega)
  · intro C0
    exact vj_X11_proveHandlers_68 hn hk_kk_2 (by omega) (by omega) (by omega) (by omega) (by omega) (by omega) V_h (by omega)
set_option maxRecDepth 4000 in
theorem vw_X11_proveHandlers_2 {nn : Nat} (hn : 1000000 ≤ nn) : ∀ (k : Nat) {l1 : Int} {h : ms_M} (a_l1 : 0 ≤ l1) (b_l1 : l1 ≤ 65535) (V_h : VS_ h)  (hm : 65536 - l1 < (k : Int)), Ok_ (qw_X11_proveHandlers_2 nn k l1 h) (QI_ 0 12) := by
  intro k
  induction k with
  | zero => intros; exfalso; omega
  | succ k ih =>
    intro l1 h a_l1 b_l1 V_h hm
    unfold qw_X11_proveHandlers_2
    refine ok_cP (vf_X11_info hn (by omega) (by omega) V_h) ?_; intro u16 e_u16 a_u16 b_u16
    refine ok_if ?_ ?_
    · intro C0
      exact ok_rI V_h (by omega) (by omega)
    · intro C0
      refine ok_cP (vf_X11_handler hn (by omega) (by omega) (by omega) (by omega) V_h) ?_; intro u18 e_u18 a_u18 b_u18
      refine ok_cP (vf_X11_handler hn (by omega) (by omega) (by omega) (by omega) V_h) ?_; intro u20 e_u20 a_u20 b_u20
      refine ok_cP (vf_X11_handler hn (by omega) (by omega) (by omega) (by omega) V_h) ?_; intro u22 e_u22 a_u22 b_u22
      refine ok_cP (vf_X11_begins hn (by omega) (by omega) V_h) ?_; intro u24 e_u24 a_u24 b_u24
      have T2 := pr_X11_begins e_u24
      refine ok_if ?_ ?_
      · intro C2
        exact vj_X11_proveHandlers_67 hn ih (by omega) (by omega) (by omega) (by omega) V_h (by omega)
      · intro C2
        refine ok_cP (vf_X11_begins hn (by omega) (by omega) V_h) ?_; intro u26 e_u26 a_u26 b_u26
        have T4 := pr_X11_begins e_u26
        refine ok_if ?_ ?_
        · intro C4
          exact vj_X11_proveHandlers_58 hn ih (by omega) (by omega) (by omega) (by omega) (by omega) (by omega) (by omega) (by omega) V_h (by omega)
        · intro C4
          have T6 := gF_127_16 V_h
          refine ok_if ?_ ?_
          · intro C6
            exact vj_X11_proveHandlers_67 hn ih (by omega) (by omega) (by omega) (by omega) V_h (by omega)
          · intro C6
            exact vj_X11_proveHandlers_58 hn ih (by omega) (by omega) (by omega) (by omega) (by omega) (by omega) (by omega) (by omega) V_h (by omega)
set_option maxRecDepth 4000 in
theorem vf_X11_proveHandlers {nn : Nat} (hn : 1000000 ≤ nn) {h : ms_M} (V_h : VS_ h)  : Ok_ (qf_X11_proveHandlers nn h) (QI_ 0 12) := by
  unfold qf_X11_proveHandlers
  exact vw_X11_proveHandlers_2 hn _ (by omega) (by omega) V_h (by omega)
set_option maxRecDepth 4000 in
theorem vf_X11_codeAt {nn : Nat} (hn : 1000000 ≤ nn) {a1 : Int} {h : ms_M} (a_a1 : 0 ≤ a1) (b_a1 : a1 ≤ 1501) (V_h : VS_ h)  : Ok_ (qf_X11_codeAt nn a1 h) (QP_ 0 255) := by
  unfold qf_X11_codeAt
  refine ok_ck (vi_r V_h).2.1.1 ?_
  refine ok_cP (vf_X11_info hn (by omega) (by omega) V_h) ?_; intro u3 e_u3 a_u3 b_u3
  refine ok_add (by omega) ?_; intro v4 e_v4
  have hb1 : kc_O (h 127 5).toNat = 3 := (vi_r V_h).2.1.2
  refine ok_ck hb1 ?_
  refine ok_cP (vf_X3_byteAt hn hb1 (by omega) (by omega) V_h) ?_; intro u6 e_u6 a_u6 b_u6
  exact ok_rP (by omega) (by omega)
set_option maxRecDepth 4000 in
theorem vj_X11_isBare_116 {nn : Nat} (hn : 1000000 ≤ nn) {h : ms_M} (V_h : VS_ h)  : Ok_ (qj_X11_isBare_116 nn h) (QP_ 0 1) := by
  unfold qj_X11_isBare_116
  exact ok_rP (by omega) (by omega)
set_option maxRecDepth 4000 in
theorem vf_X11_isBare {nn : Nat} (hn : 1000000 ≤ nn) {a0 : Int} {h : ms_M} (a_a0 : 9 ≤ a0) (b_a0 : a0 ≤ 255) (V_h : VS_ h)  : Ok_ (qf_X11_isBare nn a0 h) (QP_ 0 1) := by
  unfold qf_X11_isBare
  refine ok_if ?_ ?_
  · intro C0
    exact vj_X11_isBare_116 hn V_h
  · intro C0
    refine ok_if ?_ ?_
    · intro C1
      exact vj_X11_isBare_116 hn V_h
    · intro C1
      refine ok_if ?_ ?_
      · intro C2
        exact vj_X11_isBare_116 hn V_h
      · intro C2
        refine ok_if ?_ ?_
        · intro C3
          exact vj_X11_isBare_116 hn V_h
        · intro C3
          refine ok_if ?_ ?_
          · intro C4
            exact vj_X11_isBare_116 hn V_h
          · intro C4
            refine ok_if ?_ ?_
            · intro C5
              exact vj_X11_isBare_116 hn V_h
            · intro C5
              refine ok_if ?_ ?_
              · intro C6
                exact vj_X11_isBare_116 hn V_h
              · intro C6
                refine ok_if ?_ ?_
                · intro C7
                  exact vj_X11_isBare_116 hn V_h
                · intro C7
                  refine ok_if ?_ ?_
                  · intro C8
                    exact vj_X11_isBare_116 hn V_h
                  · intro C8
                    refine ok_if ?_ ?_
                    · intro C9
                      exact vj_X11_isBare_116 hn V_h
                    · intro C9
                      refine ok_if ?_ ?_
                      · intro C10
                        exact vj_X11_isBare_116 hn V_h
                      · intro C10
                        refine ok_if ?_ ?_
                        · intro C11
                          exact vj_X11_isBare_116 hn V_h
                        · intro C11
                          refine ok_if ?_ ?_
                          · intro C12
                            exact vj_X11_isBare_116 hn V_h
                          · intro C12
                            refine ok_cP (vf_X11_isArithmetic hn (by omega) (by omega) V_h) ?_; intro u1 e_u1 a_u1 b_u1
                            refine ok_ck (by omega) ?_
                            exact ok_rP (by omega) (by omega)
set_option maxRecDepth 4000 in
theorem vj_X11_widthOf_156 {nn : Nat} (hn : 1000000 ≤ nn) {h : ms_M} (V_h : VS_ h)  : Ok_ (qj_X11_widthOf_156 nn h) (QP_ 0 3) := by
  unfold qj_X11_widthOf_156
  exact ok_rP (by omega) (by omega)
set_option maxRecDepth 4000 in
theorem vf_X11_widthOf {nn : Nat} (hn : 1000000 ≤ nn) {a0 : Int} {h : ms_M} (a_a0 : 0 ≤ a0) (b_a0 : a0 ≤ 255) (V_h : VS_ h)  : Ok_ (qf_X11_widthOf nn a0 h) (QP_ 0 3) := by
  unfold qf_X11_widthOf
  refine ok_if ?_ ?_
  · intro C0
    exact ok_rP (by omega) (by omega)
  · intro C0
    refine ok_cP (vf_X11_isBare hn (by omega) (by omega) V_h) ?_; intro u1 e_u1 a_u1 b_u1
    refine ok_if ?_ ?_
    · intro C1
      refine ok_cP (vf_X11_isJump hn (by omega) (by omega) V_h) ?_; intro u2 e_u2 a_u2 b_u2
      refine ok_if ?_ ?_
      · intro C2
        refine ok_if ?_ ?_
        · intro C3
          exact vj_X11_widthOf_156 hn V_h
        · intro C3
          refine ok_if ?_ ?_
          · intro C4
            exact vj_X11_widthOf_156 hn V_h
          · intro C4
            refine ok_if ?_ ?_
            · intro C5
              exact vj_X11_widthOf_156 hn V_h
            · intro C5
              refine ok_if ?_ ?_
              · intro C6
                exact vj_X11_widthOf_156 hn V_h
              · intro C6
                refine ok_if ?_ ?_
                · intro C7
                  exact vj_X11_widthOf_156 hn V_h
                · intro C7
                  refine ok_if ?_ ?_
                  · intro C8
                    exact vj_X11_widthOf_156 hn V_h
                  · intro C8
                    refine ok_if ?_ ?_
                    · intro C9
                      exact vj_X11_widthOf_156 hn V_h
                    · intro C9
                      refine ok_if ?_ ?_
                      · intro C10
                        exact vj_X11_widthOf_156 hn V_h
                      · intro C10
                        refine ok_if ?_ ?_
                        · intro C11
                          exact vj_X11_widthOf_156 hn V_h
                        · intro C11
                          refine ok_if ?_ ?_
                          · intro C12
                            exact vj_X11_widthOf_156 hn V_h
                          · intro C12
                            refine ok_if ?_ ?_
                            · intro C13
                              exact vj_X11_widthOf_156 hn V_h
                            · intro C13
                              refine ok_if ?_ ?_
                              · intro C14
                                exact vj_X11_widthOf_156 hn V_h
                              · intro C14
                                refine ok_if ?_ ?_
                                · intro C15
                                  exact vj_X11_widthOf_156 hn V_h
                                · intro C15
                                  refine ok_if ?_ ?_
                                  · intro C16
                                    exact vj_X11_widthOf_156 hn V_h
                                  · intro C16
                                    refine ok_if ?_ ?_
                                    · intro C17
                                      exact vj_X11_widthOf_156 hn V_h
                                    · intro C17
                                      exact ok_rP (by omega) (by omega)
      · intro C2
        exact ok_rP (by omega) (by omega)
    · intro C1
      exact ok_rP (by omega) (by omega)
set_option maxRecDepth 4000 in
theorem vj_X11_proveInstructions_64 {nn : Nat} (hn : 1000000 ≤ nn) {l1 : Int} {h : ms_M} (a_l1 : 0 ≤ l1) (b_l1 : l1 ≤ 1499) (V_h : VS_ h) (N_h : VG_ h)  : Ok_ (qj_X11_proveInstructions_64 nn l1 h) (QI_ 0 12) := by
  unfold qj_X11_proveInstructions_64
  refine ok_cI (vf_X11_at hn (by omega) (by omega) (by omega) (by omega) V_h) ?_; intro u2 E_u2 V_u2 a_u2 b_u2
  have N_u2_2 : VG_ u2.2 := vg_fr V_h N_h (fun c k z => (ff_X11_at nn) _ E_u2 c k z) rfl
  exact ok_rI V_u2 (by omega) (by omega)
set_option maxRecDepth 4000 in
theorem vw_X11_proveInstructions_33 {nn : Nat} (hn : 1000000 ≤ nn) : ∀ (k : Nat) {l1 : Int} {h : ms_M} (a_l1 : 0 ≤ l1) (b_l1 : l1 ≤ 1500) (V_h : VS_ h) (N_h : VG_ h)  (hm : 1501 - l1 < (k : Int)), Ok_ (qw_X11_proveInstructions_33 nn k l1 h) (QI_ 0 12) := by
  intro k
  induction k with
  | zero => intros; exfalso; omega
  | succ k ih =>
    intro l1 h a_l1 b_l1 V_h N_h hm
    unfold qw_X11_proveInstructions_33
    have T1 := gF_127_16 V_h
    refine ok_if ?_ ?_
    · intro C1
      exact ok_rI V_h (by omega) (by omega)
    · intro C1
      refine ok_cP (vf_X11_codeAt hn (by omega) (by omega) V_h) ?_; intro u5 e_u5 a_u5 b_u5
      refine ok_cP (vf_X11_widthOf hn (by omega) (by omega) V_h) ?_; intro u6 e_u6 a_u6 b_u6
      refine ok_if ?_ ?_
      · intro C2
        exact vj_X11_proveInstructions_64 hn (by omega) (by omega) V_h N_h
      · intro C2
        refine ok_add (by omega) ?_; intro v7 e_v7
        refine ok_if ?_ ?_
        · intro C3
          refine ok_wA (by omega) ?_; intro h10 E_h10; have V_h10 : VS_ h10 := by rw [E_h10]; exact wA_132 V_h (by omega)
          have N_h10 : VG_ h10 := by rw [E_h10]; exact vg_ua V_h N_h rfl
          refine ok_add (by omega) ?_; intro v11 e_v11
          exact ih (by omega) (by omega) V_h10 N_h10 (by omega)
        · intro C3
          exact vj_X11_proveInstructions_64 hn (by omega) (by omega) V_h N_h
set_option maxRecDepth 4000 in
theorem vf_X11_proveInstructions {nn : Nat} (hn : 1000000 ≤ nn) {h : ms_M} (V_h : VS_ h) (N_h : VG_ h)  : Ok_ (qf_X11_proveInstructions nn h) (QI_ 0 12) := by
  unfold qf_X11_proveInstructions
  refine ok_cP (vf_X11_info hn (by omega) (by omega) V_h) ?_; intro u16 e_u16 a_u16 b_u16
  have T1 := lm_info5 V_h N_h e_u16
  refine ok_ite ?_; intro v19 e_v19
  refine ok_xl ?_; intro h20 E_h20; have V_h20 : VS_ h20 := by rw [E_h20]; exact wF_127_16 V_h (by omega)
  have N_h20 : VG_ h20 := by rw [E_h20]; exact vg_up V_h N_h rfl
  have T2 : h20 127 16 = v19 := by rw [E_h20]; exact up_s
  refine ok_cV (vfillR hn V_h20 (show 132 < 256 by decide) rfl (show 1500 ≤ 100000 by decide) (fun _ _ z => wA_132 z (by omega)) (show _ ∧ _ ∧ _ ≤ (1500 : Int) by omega)) ?_; intro u23 E_u23 V_u23
  have N_u23 : VG_ u23 := vg_cp V_h20 N_h20 (fun c k z => (ff_J7_fill_fda19 nn) _ E_u23 c k z) rfl
  exact vw_X11_proveInstructions_33 hn _ (by omega) (by omega) V_u23 N_u23 (by omega)
set_option maxRecDepth 4000 in
theorem vf_X11_aimOf {nn : Nat} (hn : 1000000 ≤ nn) {a1 : Int} {h : ms_M} (a_a1 : 0 ≤ a1) (b_a1 : a1 ≤ 1499) (V_h : VS_ h)  : Ok_ (qf_X11_aimOf nn a1 h) (QP_ (-32768) 34266) := by
  unfold qf_X11_aimOf
  refine ok_add (by omega) ?_; intro v1 e_v1
  refine ok_cP (vf_X11_codeAt hn (by omega) (by omega) V_h) ?_; intro u3 e_u3 a_u3 b_u3
  refine ok_shl8 (by omega) ?_; intro v4 e_v4
  refine ok_add (by omega) ?_; intro v5 e_v5
  refine ok_cP (vf_X11_codeAt hn (by omega) (by omega) V_h) ?_; intro u7 e_u7 a_u7 b_u7
  refine ok_or (by omega) (by omega) ?_; intro v8 a_v8 b_v8
  refine ok_s ?_; intro v9 a_v9 b_v9
  refine ok_add (by omega) ?_; intro v10 e_v10
  exact ok_rP (by omega) (by omega)
set_option maxRecDepth 4000 in
theorem vw_X11_proveJumps_2 {nn : Nat} (hn : 1000000 ≤ nn) : ∀ (k : Nat) {l1 : Int} {h : ms_M} (a_l1 : 0 ≤ l1) (b_l1 : l1 ≤ 1500) (V_h : VS_ h)  (hm : 1501 - l1 < (k : Int)), Ok_ (qw_X11_proveJumps_2 nn k l1 h) (QI_ 0 12) := by
  intro k
  induction k with
  | zero => intros; exfalso; omega
  | succ k ih =>
    intro l1 h a_l1 b_l1 V_h hm
    unfold qw_X11_proveJumps_2
    have T1 := gF_127_16 V_h
    refine ok_if ?_ ?_
    · intro C1
      exact ok_rI V_h (by omega) (by omega)
    · intro C1
      refine ok_cP (vf_X11_begins hn (by omega) (by omega) V_h) ?_; intro u3 e_u3 a_u3 b_u3
      have T3 := pr_X11_begins e_u3
      refine ok_if ?_ ?_
      · intro C3
        refine ok_add (by omega) ?_; intro v4 e_v4
        exact ih (by omega) (by omega) V_h (by omega)
      · intro C3
        refine ok_cP (vf_X11_codeAt hn (by omega) (by omega) V_h) ?_; intro u6 e_u6 a_u6 b_u6
        refine ok_cP (vf_X11_isJump hn (by omega) (by omega) V_h) ?_; intro u7 e_u7 a_u7 b_u7
        refine ok_if ?_ ?_
        · intro C4
          refine ok_add (by omega) ?_; intro v8 e_v8
          exact ih (by omega) (by omega) V_h (by omega)
        · intro C4
          refine ok_cP (vf_X11_aimOf hn (by omega) (by omega) V_h) ?_; intro u10 e_u10 a_u10 b_u10
          refine ok_cP (vf_X11_begins hn (by omega) (by omega) V_h) ?_; intro u12 e_u12 a_u12 b_u12
          have T6 := pr_X11_begins e_u12
          refine ok_if ?_ ?_
          · intro C6
            refine ok_add (by omega) ?_; intro v13 e_v13
            exact ih (by omega) (by omega) V_h (by omega)
          · intro C6
            refine ok_cI (vf_X11_at hn (by omega) (by omega) (by omega) (by omega) V_h) ?_; intro u15 E_u15 V_u15 a_u15 b_u15
            exact ok_rI V_u15 (by omega) (by omega)
set_option maxRecDepth 4000 in
theorem vf_X11_proveJumps {nn : Nat} (hn : 1000000 ≤ nn) {h : ms_M} (V_h : VS_ h)  : Ok_ (qf_X11_proveJumps nn h) (QI_ 0 12) := by
  unfold qf_X11_proveJumps
  exact vw_X11_proveJumps_2 hn _ (by omega) (by omega) V_h (by omega)
set_option maxRecDepth 4000 in
theorem vf_X11_isLast {nn : Nat} (hn : 1000000 ≤ nn) {a0 : Int} {h : ms_M} (a_a0 : 0 ≤ a0) (b_a0 : a0 ≤ 255) (V_h : VS_ h)  : Ok_ (qf_X11_isLast nn a0 h) (QP_ 0 1) := by
  unfold qf_X11_isLast
  refine ok_if ?_ ?_
  · intro C0
    exact ok_rP (by omega) (by omega)
  · intro C0
    refine ok_if ?_ ?_
    · intro C1
      exact ok_rP (by omega) (by omega)
    · intro C1
      refine ok_if ?_ ?_
      · intro C2
        exact ok_rP (by omega) (by omega)
      · intro C2
        refine ok_if ?_ ?_
        · intro C3
          exact ok_rP (by omega) (by omega)
        · intro C3
          refine ok_if ?_ ?_
          · intro C4
            exact ok_rP (by omega) (by omega)
          · intro C4
            exact ok_rP (by omega) (by omega)
set_option maxRecDepth 4000 in
theorem vf_X11_pop {nn : Nat} (hn : 1000000 ≤ nn) {h : ms_M} (V_h : VS_ h)  : Ok_ (qf_X11_pop nn h) (QI_ (-2147483648) 2147483647) := by
  unfold qf_X11_pop
  have T1 := gF_127_18 V_h
  refine ok_if ?_ ?_
  · intro C1
    refine ok_sub (by omega) ?_; intro v3 e_v3
    refine ok_xl ?_; intro h4 E_h4; have V_h4 : VS_ h4 := by rw [E_h4]; exact wF_127_18 V_h (by omega)
    have T3 : h4 127 18 = v3 := by rw [E_h4]; exact up_s
    refine ok_rd (by omega) (gA_135 V_h4) ?_; intro v7 e_v7 a_v7 b_v7
    exact ok_rI V_h4 (by omega) (by omega)
  · intro C1
    refine ok_xl ?_; intro h8 E_h8; have V_h8 : VS_ h8 := by rw [E_h8]; exact wF_127_19 V_h (by omega)
    exact ok_rI V_h8 (by omega) (by omega)
set_option maxRecDepth 4000 in
theorem vf_X11_push {nn : Nat} (hn : 1000000 ≤ nn) {a1 : Int} {h : ms_M} (a_a1 : (-2147483648) ≤ a1) (b_a1 : a1 ≤ 2147483647) (V_h : VS_ h)  : Ok_ (qf_X11_push nn a1 h) QV_ := by
  unfold qf_X11_push
  have T1 := gF_127_18 V_h
  have T2 := gF_127_17 V_h
  refine ok_if ?_ ?_
  · intro C2
    refine ok_wA (by omega) ?_; intro h5 E_h5; have V_h5 : VS_ h5 := by rw [E_h5]; exact wA_135 V_h (by omega)
    have T4 : h5 127 18 = h 127 18 := by rw [E_h5]; exact up_n (fun z => absurd z.1 (by decide))
    refine ok_add (by omega) ?_; intro v7 e_v7
    refine ok_xl ?_; intro h8 E_h8; have V_h8 : VS_ h8 := by rw [E_h8]; exact wF_127_18 V_h5 (by omega)
    exact ok_rV V_h8
  · intro C2
    refine ok_xl ?_; intro h9 E_h9; have V_h9 : VS_ h9 := by rw [E_h9]; exact wF_127_19 V_h (by omega)
    exact ok_rV V_h9
set_option maxRecDepth 4000 in
theorem vj_X11_want_32 {nn : Nat} (hn : 1000000 ≤ nn) {h : ms_M} (V_h : VS_ h)  : Ok_ (qj_X11_want_32 nn h) QV_ := by
  unfold qj_X11_want_32
  refine ok_xl ?_; intro h1 E_h1; have V_h1 : VS_ h1 := by rw [E_h1]; exact wF_127_19 V_h (by omega)
  exact ok_rV V_h1
set_option maxRecDepth 4000 in
theorem vf_X11_want {nn : Nat} (hn : 1000000 ≤ nn) {a1 : Int} {h : ms_M} (a_a1 : (-1) ≤ a1) (b_a1 : a1 ≤ 303) (V_h : VS_ h)  : Ok_ (qf_X11_want nn a1 h) QV_ := by
  unfold qf_X11_want
  refine ok_cI (vf_X11_pop hn V_h) ?_; intro u3 E_u3 V_u3 a_u3 b_u3
  have T1 := gF_127_19 V_u3
  refine ok_if ?_ ?_
  · intro C1
    refine ok_xl ?_; intro h5 E_h5; have V_h5 : VS_ h5 := by rw [E_h5]; exact wF_127_19 V_u3 (by omega)
    exact ok_rV V_h5
  · intro C1
    refine ok_if ?_ ?_
    · intro C2
      exfalso; omega
    · intro C2
      refine ok_cP (vf_X4_fits hn rfl (by omega) (by omega) (by omega) (by omega) V_u3) ?_; intro u8 e_u8 a_u8 b_u8
      refine ok_if ?_ ?_
      · intro C3
        refine ok_xl ?_; intro h9 E_h9; have V_h9 : VS_ h9 := by rw [E_h9]; exact wF_127_19 V_u3 (by omega)
        exact ok_rV V_h9
      · intro C3
        exact vj_X11_want_32 hn V_u3
set_option maxRecDepth 4000 in
theorem vj_X11_wantArray_61 {nn : Nat} (hn : 1000000 ≤ nn) {l3 : Int} {h : ms_M} (a_l3 : (-2147483648) ≤ l3) (b_l3 : l3 ≤ 2147483647) (V_h : VS_ h)  : Ok_ (qj_X11_wantArray_61 nn l3 h) (QI_ (-2147483648) 2147483647) := by
  unfold qj_X11_wantArray_61
  refine ok_xl ?_; intro h1 E_h1; have V_h1 : VS_ h1 := by rw [E_h1]; exact wF_127_19 V_h (by omega)
  exact ok_rI V_h1 (by omega) (by omega)
set_option maxRecDepth 4000 in
theorem vj_X11_wantArray_42 {nn : Nat} (hn : 1000000 ≤ nn) {l3 : Int} {s0 : Int} {h : ms_M} (a_l3 : (-2147483648) ≤ l3) (b_l3 : l3 ≤ 2147483647) (a_s0 : 0 ≤ s0) (b_s0 : s0 ≤ 1) (V_h : VS_ h)  : Ok_ (qj_X11_wantArray_42 nn l3 s0 h) (QI_ (-2147483648) 2147483647) := by
  unfold qj_X11_wantArray_42
  have T1 := gF_127_19 V_h
  refine ok_if ?_ ?_
  · intro C1
    exact vj_X11_wantArray_61 hn (by omega) (by omega) V_h
  · intro C1
    refine ok_if ?_ ?_
    · intro C2
      exact vj_X11_wantArray_61 hn (by omega) (by omega) V_h
    · intro C2
      refine ok_xl ?_; intro h3 E_h3; have V_h3 : VS_ h3 := by rw [E_h3]; exact wF_127_19 V_h (by omega)
      exact ok_rI V_h3 (by omega) (by omega)
set_option maxRecDepth 4000 in
theorem vj_X11_wantArray_41 {nn : Nat} (hn : 1000000 ≤ nn) {l3 : Int} {h : ms_M} (a_l3 : (-2147483648) ≤ l3) (b_l3 : l3 ≤ 2147483647) (V_h : VS_ h)  : Ok_ (qj_X11_wantArray_41 nn l3 h) (QI_ (-2147483648) 2147483647) := by
  unfold qj_X11_wantArray_41
  exact vj_X11_wantArray_42 hn (by omega) (by omega) (by omega) (by omega) V_h
set_option maxRecDepth 4000 in
theorem vj_X11_wantArray_37 {nn : Nat} (hn : 1000000 ≤ nn) {l3 : Int} {h : ms_M} (a_l3 : 100 ≤ l3) (b_l3 : l3 ≤ 300) (V_h : VS_ h)  : Ok_ (qj_X11_wantArray_37 nn l3 h) (QI_ (-2147483648) 2147483647) := by
  unfold qj_X11_wantArray_37
  exact vj_X11_wantArray_42 hn (by omega) (by omega) (by omega) (by omega) V_h
set_option maxRecDepth 4000 in
theorem vf_X11_wantArray {nn : Nat} (hn : 1000000 ≤ nn) {a1 : Int} {a2 : Int} {h : ms_M} (a_a1 : 0 ≤ a1) (b_a1 : a1 ≤ 1) (a_a2 : 0 ≤ a2) (b_a2 : a2 ≤ 1) (V_h : VS_ h)  : Ok_ (qf_X11_wantArray nn a1 a2 h) (QI_ (-2147483648) 2147483647) := by
  unfold qf_X11_wantArray
  refine ok_cI (vf_X11_pop hn V_h) ?_; intro u7 E_u7 V_u7 a_u7 b_u7
  refine ok_if ?_ ?_
  · intro C0
    exact vj_X11_wantArray_37 hn (by omega) (by omega) V_u7
  · intro C0
    refine ok_if ?_ ?_
    · intro C1
      refine ok_if ?_ ?_
      · intro C2
        exact vj_X11_wantArray_41 hn (by omega) (by omega) V_u7
      · intro C2
        refine ok_cP (vf_X4_isArray hn (by omega) (by omega) V_u7) ?_; intro u8 e_u8 a_u8 b_u8
        have T4 := pr_X4_isArray e_u8
        refine ok_if ?_ ?_
        · intro C4
          exact vj_X11_wantArray_41 hn (by omega) (by omega) V_u7
        · intro C4
          exact vj_X11_wantArray_37 hn (by omega) (by omega) V_u7
    · intro C1
      refine ok_if ?_ ?_
      · intro C5
        exact vj_X11_wantArray_41 hn (by omega) (by omega) V_u7
      · intro C5
        exact vj_X11_wantArray_37 hn (by omega) (by omega) V_u7
set_option maxRecDepth 4000 in
theorem vj_X11_wantReference_24 {nn : Nat} (hn : 1000000 ≤ nn) {l1 : Int} {h : ms_M} (a_l1 : (-2147483648) ≤ l1) (b_l1 : l1 ≤ 2147483647) (V_h : VS_ h)  : Ok_ (qj_X11_wantReference_24 nn l1 h) (QI_ (-2147483648) 2147483647) := by
  unfold qj_X11_wantReference_24
  refine ok_xl ?_; intro h1 E_h1; have V_h1 : VS_ h1 := by rw [E_h1]; exact wF_127_19 V_h (by omega)
  exact ok_rI V_h1 (by omega) (by omega)
set_option maxRecDepth 4000 in
theorem vf_X11_wantReference {nn : Nat} (hn : 1000000 ≤ nn) {h : ms_M} (V_h : VS_ h)  : Ok_ (qf_X11_wantReference nn h) (QI_ (-2147483648) 2147483647) := by
  unfold qf_X11_wantReference
  refine ok_cI (vf_X11_pop hn V_h) ?_; intro u3 E_u3 V_u3 a_u3 b_u3
  have T1 := gF_127_19 V_u3
  refine ok_if ?_ ?_
  · intro C1
    exact vj_X11_wantReference_24 hn (by omega) (by omega) V_u3
  · intro C1
    refine ok_cP (vf_X4_isReference hn (by omega) (by omega) V_u3) ?_; intro u5 e_u5 a_u5 b_u5
    refine ok_if ?_ ?_
    · intro C2
      exact vj_X11_wantReference_24 hn (by omega) (by omega) V_u3
    · intro C2
      refine ok_xl ?_; intro h6 E_h6; have V_h6 : VS_ h6 := by rw [E_h6]; exact wF_127_19 V_u3 (by omega)
      exact ok_rI V_h6 (by omega) (by omega)
set_option maxRecDepth 4000 in
theorem vf_X11_applyArray {nn : Nat} (hn : 1000000 ≤ nn) {a1 : Int} {h : ms_M} (a_a1 : 0 ≤ a1) (b_a1 : a1 ≤ 171) (V_h : VS_ h)  : Ok_ (qf_X11_applyArray nn a1 h) QV_ := by
  unfold qf_X11_applyArray
  refine ok_if ?_ ?_
  · intro C0
    refine ok_cV (vf_X11_want hn (by omega) (by omega) V_h) ?_; intro u2 E_u2 V_u2
    refine ok_cI (vf_X11_wantArray hn (by omega) (by omega) (by omega) (by omega) V_u2) ?_; intro u4 E_u4 V_u4 a_u4 b_u4
    refine ok_cV (vf_X11_push hn (by omega) (by omega) V_u4) ?_; intro u6 E_u6 V_u6
    exact ok_rV V_u6
  · intro C0
    refine ok_if ?_ ?_
    · intro C1
      refine ok_cV (vf_X11_want hn (by omega) (by omega) V_h) ?_; intro u8 E_u8 V_u8
      refine ok_cI (vf_X11_wantArray hn (by omega) (by omega) (by omega) (by omega) V_u8) ?_; intro u10 E_u10 V_u10 a_u10 b_u10
      refine ok_if ?_ ?_
      · intro C2
        refine ok_cP (vf_X4_elementOf hn (by omega) (by omega) V_u10) ?_; intro u11 e_u11 a_u11 b_u11
        refine ok_cV (vf_X11_push hn (by omega) (by omega) V_u10) ?_; intro u13 E_u13 V_u13
        exact ok_rV V_u13
      · intro C2
        refine ok_cV (vf_X11_push hn (by omega) (by omega) V_u10) ?_; intro u15 E_u15 V_u15
        exact ok_rV V_u15
    · intro C1
      refine ok_if ?_ ?_
      · intro C3
        refine ok_cV (vf_X11_want hn (by omega) (by omega) V_h) ?_; intro u18 E_u18 V_u18
        refine ok_cV (vf_X11_want hn (by omega) (by omega) V_u18) ?_; intro u20 E_u20 V_u20
        refine ok_cI (vf_X11_wantArray hn (by omega) (by omega) (by omega) (by omega) V_u20) ?_; intro u22 E_u22 V_u22 a_u22 b_u22
        exact ok_rV V_u22
      · intro C3
        refine ok_if ?_ ?_
        · intro C4
          refine ok_cI (vf_X11_wantReference hn V_h) ?_; intro u24 E_u24 V_u24 a_u24 b_u24
          refine ok_cV (vf_X11_want hn (by omega) (by omega) V_u24) ?_; intro u26 E_u26 V_u26
          refine ok_cI (vf_X11_wantArray hn (by omega) (by omega) (by omega) (by omega) V_u26) ?_; intro u28 E_u28 V_u28 a_u28 b_u28
          exact ok_rV V_u28
        · intro C4
          refine ok_if ?_ ?_
          · intro C5
            refine ok_cI (vf_X11_pop hn V_h) ?_; intro u30 E_u30 V_u30 a_u30 b_u30
            exact ok_rV V_u30
          · intro C5
            refine ok_if ?_ ?_
            · intro C6
              refine ok_cI (vf_X11_pop hn V_h) ?_; intro u32 E_u32 V_u32 a_u32 b_u32
              refine ok_cV (vf_X11_push hn (by omega) (by omega) V_u32) ?_; intro u34 E_u34 V_u34
              refine ok_cV (vf_X11_push hn (by omega) (by omega) V_u34) ?_; intro u36 E_u36 V_u36
              exact ok_rV V_u36
            · intro C6
              refine ok_if ?_ ?_
              · intro C7
                refine ok_cV (vf_X11_want hn (by omega) (by omega) V_h) ?_; intro u38 E_u38 V_u38
                refine ok_cV (vf_X11_push hn (by omega) (by omega) V_u38) ?_; intro u40 E_u40 V_u40
                exact ok_rV V_u40
              · intro C7
                exact ok_rV V_h
set_option maxRecDepth 4000 in
theorem vj_X11_applyJump_22 {nn : Nat} (hn : 1000000 ≤ nn) {h : ms_M} (V_h : VS_ h)  : Ok_ (qj_X11_applyJump_22 nn h) QV_ := by
  unfold qj_X11_applyJump_22
  refine ok_cI (vf_X11_wantReference hn V_h) ?_; intro u2 E_u2 V_u2 a_u2 b_u2
  refine ok_cI (vf_X11_wantReference hn V_u2) ?_; intro u4 E_u4 V_u4 a_u4 b_u4
  exact ok_rV V_u4
set_option maxRecDepth 4000 in
theorem vf_X11_applyJump {nn : Nat} (hn : 1000000 ≤ nn) {a1 : Int} {h : ms_M} (a_a1 : 0 ≤ a1) (b_a1 : a1 ≤ 255) (V_h : VS_ h)  : Ok_ (qf_X11_applyJump nn a1 h) QV_ := by
  unfold qf_X11_applyJump
  refine ok_if ?_ ?_
  · intro C0
    refine ok_if ?_ ?_
    · intro C1
      exact vj_X11_applyJump_22 hn V_h
    · intro C1
      refine ok_if ?_ ?_
      · intro C2
        refine ok_cV (vf_X11_want hn (by omega) (by omega) V_h) ?_; intro u6 E_u6 V_u6
        refine ok_if ?_ ?_
        · intro C3
          exact ok_rV V_u6
        · intro C3
          refine ok_cV (vf_X11_want hn (by omega) (by omega) V_u6) ?_; intro u8 E_u8 V_u8
          exact ok_rV V_u8
      · intro C2
        exact vj_X11_applyJump_22 hn V_h
  · intro C0
    exact ok_rV V_h
set_option maxRecDepth 4000 in
theorem vj_X11_applyLocal_91 {nn : Nat} (hn : 1000000 ≤ nn) {l2 : Int} {s0 : Int} {h : ms_M} (a_l2 : 0 ≤ l2) (b_l2 : l2 ≤ 29) (a_s0 : 0 ≤ s0) (b_s0 : s0 ≤ 1) (V_h : VS_ h)  : Ok_ (qj_X11_applyLocal_91 nn l2 s0 h) QV_ := by
  unfold qj_X11_applyLocal_91
  refine ok_ck (by omega) ?_
  refine ok_xl ?_; intro h2 E_h2; have V_h2 : VS_ h2 := by rw [E_h2]; exact wF_127_19 V_h (by omega)
  refine ok_rd (by omega) (gA_134 V_h2) ?_; intro v4 e_v4 a_v4 b_v4
  refine ok_cV (vf_X11_push hn (by omega) (by omega) V_h2) ?_; intro u6 E_u6 V_u6
  exact ok_rV V_u6
set_option maxRecDepth 4000 in
theorem vj_X11_applyLocal_90 {nn : Nat} (hn : 1000000 ≤ nn) {l2 : Int} {h : ms_M} (a_l2 : 0 ≤ l2) (b_l2 : l2 ≤ 29) (V_h : VS_ h)  : Ok_ (qj_X11_applyLocal_90 nn l2 h) QV_ := by
  unfold qj_X11_applyLocal_90
  exact vj_X11_applyLocal_91 hn (by omega) (by omega) (by omega) (by omega) V_h
set_option maxRecDepth 4000 in
theorem vj_X11_applyLocal_73 {nn : Nat} (hn : 1000000 ≤ nn) {l2 : Int} {s0 : Int} {h : ms_M} (a_l2 : 0 ≤ l2) (b_l2 : l2 ≤ 29) (a_s0 : 0 ≤ s0) (b_s0 : s0 ≤ 1) (V_h : VS_ h)  : Ok_ (qj_X11_applyLocal_73 nn l2 s0 h) QV_ := by
  unfold qj_X11_applyLocal_73
  have T1 := gF_127_19 V_h
  refine ok_if ?_ ?_
  · intro C1
    exact vj_X11_applyLocal_90 hn (by omega) (by omega) V_h
  · intro C1
    refine ok_if ?_ ?_
    · intro C2
      exact vj_X11_applyLocal_90 hn (by omega) (by omega) V_h
    · intro C2
      exact vj_X11_applyLocal_91 hn (by omega) (by omega) (by omega) (by omega) V_h
set_option maxRecDepth 4000 in
theorem vj_X11_applyLocal_38 {nn : Nat} (hn : 1000000 ≤ nn) {l1 : Int} {l2 : Int} {h : ms_M} (a_l1 : 21 ≤ l1) (b_l1 : l1 ≤ 25) (a_l2 : 0 ≤ l2) (b_l2 : l2 ≤ 29) (V_h : VS_ h)  : Ok_ (qj_X11_applyLocal_38 nn l1 l2 h) QV_ := by
  unfold qj_X11_applyLocal_38
  refine ok_if ?_ ?_
  · intro C0
    refine ok_rd (by omega) (gA_134 V_h) ?_; intro v11 e_v11 a_v11 b_v11
    refine ok_cP (vf_X4_isReference hn (by omega) (by omega) V_h) ?_; intro u12 e_u12 a_u12 b_u12
    exact vj_X11_applyLocal_73 hn (by omega) (by omega) (by omega) (by omega) V_h
  · intro C0
    refine ok_rd (by omega) (gA_134 V_h) ?_; intro v14 e_v14 a_v14 b_v14
    refine ok_if ?_ ?_
    · intro C1
      exact vj_X11_applyLocal_73 hn (by omega) (by omega) (by omega) (by omega) V_h
    · intro C1
      exact vj_X11_applyLocal_73 hn (by omega) (by omega) (by omega) (by omega) V_h
set_option maxRecDepth 4000 in
theorem vj_X11_applyLocal_18 {nn : Nat} (hn : 1000000 ≤ nn) {h : ms_M} (V_h : VS_ h)  : Ok_ (qj_X11_applyLocal_18 nn h) QV_ := by
  unfold qj_X11_applyLocal_18
  refine ok_xl ?_; intro h17 E_h17; have V_h17 : VS_ h17 := by rw [E_h17]; exact wF_127_19 V_h (by omega)
  exact ok_rV V_h17
set_option maxRecDepth 4000 in
theorem vf_X11_applyLocal {nn : Nat} (hn : 1000000 ≤ nn) {a1 : Int} {a2 : Int} {h : ms_M} (a_a1 : 21 ≤ a1) (b_a1 : a1 ≤ 58) (a_a2 : 0 ≤ a2) (b_a2 : a2 ≤ 255) (V_h : VS_ h)  : Ok_ (qf_X11_applyLocal nn a1 a2 h) QV_ := by
  unfold qf_X11_applyLocal
  refine ok_cP (vf_X11_info hn (by omega) (by omega) V_h) ?_; intro u19 e_u19 a_u19 b_u19
  refine ok_if ?_ ?_
  · intro C0
    exact vj_X11_applyLocal_18 hn V_h
  · intro C0
    refine ok_if ?_ ?_
    · intro C1
      refine ok_if ?_ ?_
      · intro C2
        exact vj_X11_applyLocal_38 hn (by omega) (by omega) (by omega) (by omega) V_h
      · intro C2
        refine ok_if ?_ ?_
        · intro C3
          refine ok_if ?_ ?_
          · intro C4
            refine ok_cI (vf_X11_wantReference hn V_h) ?_; intro u24 E_u24 V_u24 a_u24 b_u24
            refine ok_wA (by omega) ?_; intro h25 E_h25; have V_h25 : VS_ h25 := by rw [E_h25]; exact wA_134 V_u24 (by omega)
            exact ok_rV V_h25
          · intro C4
            refine ok_cV (vf_X11_want hn (by omega) (by omega) V_h) ?_; intro u27 E_u27 V_u27
            refine ok_wA (by omega) ?_; intro h29 E_h29; have V_h29 : VS_ h29 := by rw [E_h29]; exact wA_134 V_u27 (by omega)
            exact ok_rV V_h29
        · intro C3
          exact vj_X11_applyLocal_38 hn (by omega) (by omega) (by omega) (by omega) V_h
    · intro C1
      exact vj_X11_applyLocal_18 hn V_h
set_option maxRecDepth 4000 in
theorem vj_X11_applyMember_131 {nn : Nat} (hn : 1000000 ≤ nn) {l4 : Int} {h : ms_M} (a_l4 : 0 ≤ l4) (b_l4 : l4 ≤ 1785) (V_h : VS_ h)  : Ok_ (qj_X11_applyMember_131 nn l4 h) QV_ := by
  unfold qj_X11_applyMember_131
  refine ok_rd (by omega) (gA_131 V_h) ?_; intro v2 e_v2 a_v2 b_v2
  refine ok_if ?_ ?_
  · intro C0
    exact ok_rV V_h
  · intro C0
    refine ok_rd (by omega) (gA_131 V_h) ?_; intro v4 e_v4 a_v4 b_v4
    refine ok_cV (vf_X11_push hn (by omega) (by omega) V_h) ?_; intro u6 E_u6 V_u6
    exact ok_rV V_u6
set_option maxRecDepth 4000 in
theorem vw_X11_applyMember_94 {nn : Nat} (hn : 1000000 ≤ nn) : ∀ (k : Nat) {l1 : Int} {l3 : Int} {l4 : Int} {l5 : Int} {h : ms_M} (a_l1 : 182 ≤ l1) (b_l1 : l1 ≤ 184) (a_l3 : (-1) ≤ l3) (b_l3 : l3 ≤ 303) (a_l4 : 0 ≤ l4) (b_l4 : l4 ≤ 1785) (a_l5 : 0 ≤ l5) (b_l5 : l5 ≤ 6) (V_h : VS_ h)  (hm : l5 - (-1) < (k : Int)), Ok_ (qw_X11_applyMember_94 nn k l1 l3 l4 l5 h) QV_ := by
  intro k
  induction k with
  | zero => intros; exfalso; omega
  | succ k ih =>
    intro l1 l3 l4 l5 h a_l1 b_l1 a_l3 b_l3 a_l4 b_l4 a_l5 b_l5 V_h hm
    unfold qw_X11_applyMember_94
    refine ok_if ?_ ?_
    · intro C0
      refine ok_if ?_ ?_
      · intro C1
        exact vj_X11_applyMember_131 hn (by omega) (by omega) V_h
      · intro C1
        refine ok_cV (vf_X11_want hn (by omega) (by omega) V_h) ?_; intro u9 E_u9 V_u9
        exact vj_X11_applyMember_131 hn (by omega) (by omega) V_u9
    · intro C0
      refine ok_add (by omega) ?_; intro v12 e_v12
      refine ok_rd (by omega) (gA_131 V_h) ?_; intro v13 e_v13 a_v13 b_v13
      refine ok_cV (vf_X11_want hn (by omega) (by omega) V_h) ?_; intro u15 E_u15 V_u15
      refine ok_add (by omega) ?_; intro v16 e_v16
      exact ih (by omega) (by omega) (by omega) (by omega) (by omega) (by omega) (by omega) (by omega) V_u15 (by omega)
set_option maxRecDepth 4000 in
theorem vf_X11_applyMember {nn : Nat} (hn : 1000000 ≤ nn) {a1 : Int} {a2 : Int} {h : ms_M} (a_a1 : 180 ≤ a1) (b_a1 : a1 ≤ 184) (a_a2 : 0 ≤ a2) (b_a2 : a2 ≤ 255) (V_h : VS_ h)  : Ok_ (qf_X11_applyMember nn a1 a2 h) QV_ := by
  unfold qf_X11_applyMember
  refine ok_ck (vi_r V_h).2.1.1 ?_
  have hb1 : kc_O (h 127 5).toNat = 3 := (vi_r V_h).2.1.2
  refine ok_ck hb1 ?_
  refine ok_cP (vf_X3_partOf hn hb1 (by omega) (by omega) (by omega) (by omega) V_h) ?_; intro u21 e_u21 a_u21 b_u21
  refine ok_rd (by omega) (gA_128 V_h) ?_; intro v22 e_v22 a_v22 b_v22
  refine ok_mul (by omega) ?_; intro v23 e_v23
  refine ok_if ?_ ?_
  · intro C0
    refine ok_cV (vf_X11_want hn (by omega) (by omega) V_h) ?_; intro u27 E_u27 V_u27
    refine ok_rd (by omega) (gA_131 V_u27) ?_; intro v29 e_v29 a_v29 b_v29
    refine ok_cV (vf_X11_push hn (by omega) (by omega) V_u27) ?_; intro u31 E_u31 V_u31
    exact ok_rV V_u31
  · intro C0
    refine ok_if ?_ ?_
    · intro C1
      refine ok_rd (by omega) (gA_131 V_h) ?_; intro v33 e_v33 a_v33 b_v33
      refine ok_cV (vf_X11_want hn (by omega) (by omega) V_h) ?_; intro u35 E_u35 V_u35
      refine ok_cV (vf_X11_want hn (by omega) (by omega) V_u35) ?_; intro u37 E_u37 V_u37
      exact ok_rV V_u37
    · intro C1
      refine ok_rd (by omega) (gA_130 V_h) ?_; intro v25 e_v25 a_v25 b_v25
      exact vw_X11_applyMember_94 hn _ (by omega) (by omega) (by omega) (by omega) (by omega) (by omega) (by omega) (by omega) V_h (by omega)
set_option maxRecDepth 4000 in
theorem vf_X11_applyObject {nn : Nat} (hn : 1000000 ≤ nn) {a1 : Int} {a2 : Int} {h : ms_M} (a_a1 : 185 ≤ a1) (b_a1 : a1 ≤ 255) (a_a2 : 0 ≤ a2) (b_a2 : a2 ≤ 255) (V_h : VS_ h)  : Ok_ (qf_X11_applyObject nn a1 a2 h) QV_ := by
  unfold qf_X11_applyObject
  refine ok_if ?_ ?_
  · intro C0
    refine ok_cV (vf_X11_want hn (by omega) (by omega) V_h) ?_; intro u6 E_u6 V_u6
    exact ok_rV V_u6
  · intro C0
    refine ok_if ?_ ?_
    · intro C1
      refine ok_rd (by omega) (gA_128 V_h) ?_; intro v8 e_v8 a_v8 b_v8
      refine ok_cV (vf_X11_push hn (by omega) (by omega) V_h) ?_; intro u10 E_u10 V_u10
      exact ok_rV V_u10
    · intro C1
      refine ok_if ?_ ?_
      · intro C2
        refine ok_cV (vf_X11_want hn (by omega) (by omega) V_h) ?_; intro u12 E_u12 V_u12
        refine ok_cV (vf_X11_push hn (by omega) (by omega) V_u12) ?_; intro u14 E_u14 V_u14
        exact ok_rV V_u14
      · intro C2
        refine ok_if ?_ ?_
        · intro C3
          refine ok_cV (vf_X11_want hn (by omega) (by omega) V_h) ?_; intro u16 E_u16 V_u16
          refine ok_rd (by omega) (gA_128 V_u16) ?_; intro v18 e_v18 a_v18 b_v18
          refine ok_add (by omega) ?_; intro v19 e_v19
          refine ok_cV (vf_X11_push hn (by omega) (by omega) V_u16) ?_; intro u21 E_u21 V_u21
          exact ok_rV V_u21
        · intro C3
          refine ok_if ?_ ?_
          · intro C4
            refine ok_cI (vf_X11_wantArray hn (by omega) (by omega) (by omega) (by omega) V_h) ?_; intro u23 E_u23 V_u23 a_u23 b_u23
            refine ok_cV (vf_X11_push hn (by omega) (by omega) V_u23) ?_; intro u25 E_u25 V_u25
            exact ok_rV V_u25
          · intro C4
            refine ok_if ?_ ?_
            · intro C5
              refine ok_cV (vf_X11_want hn (by omega) (by omega) V_h) ?_; intro u27 E_u27 V_u27
              exact ok_rV V_u27
            · intro C5
              refine ok_if ?_ ?_
              · intro C6
                refine ok_cI (vf_X11_wantReference hn V_h) ?_; intro u29 E_u29 V_u29 a_u29 b_u29
                refine ok_rd (by omega) (gA_128 V_u29) ?_; intro v31 e_v31 a_v31 b_v31
                refine ok_cV (vf_X11_push hn (by omega) (by omega) V_u29) ?_; intro u33 E_u33 V_u33
                exact ok_rV V_u33
              · intro C6
                refine ok_cI (vf_X11_wantReference hn V_h) ?_; intro u2 E_u2 V_u2 a_u2 b_u2
                refine ok_cV (vf_X11_push hn (by omega) (by omega) V_u2) ?_; intro u4 E_u4 V_u4
                exact ok_rV V_u4
set_option maxRecDepth 4000 in
theorem vj_X11_applyReturn_65 {nn : Nat} (hn : 1000000 ≤ nn) {h : ms_M} (V_h : VS_ h)  : Ok_ (qj_X11_applyReturn_65 nn h) QV_ := by
  unfold qj_X11_applyReturn_65
  refine ok_xl ?_; intro h1 E_h1; have V_h1 : VS_ h1 := by rw [E_h1]; exact wF_127_19 V_h (by omega)
  exact ok_rV V_h1
set_option maxRecDepth 4000 in
theorem vf_X11_applyReturn {nn : Nat} (hn : 1000000 ≤ nn) {a1 : Int} {h : ms_M} (a_a1 : 172 ≤ a1) (b_a1 : a1 ≤ 179) (V_h : VS_ h)  : Ok_ (qf_X11_applyReturn nn a1 h) QV_ := by
  unfold qf_X11_applyReturn
  refine ok_if ?_ ?_
  · intro C0
    refine ok_if ?_ ?_
    · intro C1
      have T3 := gF_127_20 V_h
      refine ok_cV (vf_X11_want hn (by omega) (by omega) V_h) ?_; intro u4 E_u4 V_u4
      have T4 : u4 127 20 = h 127 20 := (ff_X11_want nn) _ E_u4 127 20 rfl
      have T5 := gF_127_19 V_u4
      refine ok_if ?_ ?_
      · intro C5
        refine ok_xl ?_; intro h6 E_h6; have V_h6 : VS_ h6 := by rw [E_h6]; exact wF_127_19 V_u4 (by omega)
        exact ok_rV V_h6
      · intro C5
        refine ok_if ?_ ?_
        · intro C6
          refine ok_xl ?_; intro h8 E_h8; have V_h8 : VS_ h8 := by rw [E_h8]; exact wF_127_19 V_u4 (by omega)
          exact ok_rV V_h8
        · intro C6
          refine ok_if ?_ ?_
          · intro C7
            refine ok_xl ?_; intro h10 E_h10; have V_h10 : VS_ h10 := by rw [E_h10]; exact wF_127_19 V_u4 (by omega)
            exact ok_rV V_h10
          · intro C7
            refine ok_xl ?_; intro h11 E_h11; have V_h11 : VS_ h11 := by rw [E_h11]; exact wF_127_19 V_u4 (by omega)
            exact ok_rV V_h11
    · intro C1
      refine ok_cV (vf_X11_want hn (by omega) (by omega) V_h) ?_; intro u16 E_u16 V_u16
      have T9 := gF_127_19 V_u16
      refine ok_if ?_ ?_
      · intro C9
        exact vj_X11_applyReturn_65 hn V_u16
      · intro C9
        have T11 := gF_127_20 V_u16
        refine ok_if ?_ ?_
        · intro C11
          exact vj_X11_applyReturn_65 hn V_u16
        · intro C11
          refine ok_xl ?_; intro h19 E_h19; have V_h19 : VS_ h19 := by rw [E_h19]; exact wF_127_19 V_u16 (by omega)
          exact ok_rV V_h19
  · intro C0
    have T13 := gF_127_20 V_h
    refine ok_if ?_ ?_
    · intro C13
      refine ok_xl ?_; intro h24 E_h24; have V_h24 : VS_ h24 := by rw [E_h24]; exact wF_127_19 V_h (by omega)
      exact ok_rV V_h24
    · intro C13
      refine ok_xl ?_; intro h25 E_h25; have V_h25 : VS_ h25 := by rw [E_h25]; exact wF_127_19 V_h (by omega)
      exact ok_rV V_h25

set_option maxRecDepth 4000 in
theorem vf_X1_typeOfLocal {nn : Nat} (hn : 1000000 ≤ nn) {a1 : Int} {h : ms_M} (a_a1 : 0 ≤ a1) (b_a1 : a1 ≤ 749) (V_h : VS_ h)  : Ok_ (qf_X1_typeOfLocal nn a1 h) (QP_ (-1) 441) := by
  unfold qf_X1_typeOfLocal
  refine ok_if ?_ ?_
  · intro C0
    exfalso; omega
  · intro C0
    refine ok_if ?_ ?_
    · intro C1
      exfalso; omega
    · intro C1
      refine ok_rd (by omega) (gA_38 V_h) ?_; intro v4 e_v4 a_v4 b_v4
      exact ok_rP (by omega) (by omega)
set_option maxRecDepth 4000 in
theorem vj_X9_beginsCast_140 {nn : Nat} (hn : 1000000 ≤ nn) {h : ms_M} (V_h : VS_ h)  : Ok_ (qj_X9_beginsCast_140 nn h) (QP_ 0 1) := by
  unfold qj_X9_beginsCast_140
  exact ok_rP (by omega) (by omega)
set_option maxRecDepth 4000 in
theorem vf_X9_beginsCast {nn : Nat} (hn : 1000000 ≤ nn) {h : ms_M} (V_h : VS_ h)  : Ok_ (qf_X9_beginsCast nn h) (QP_ 0 1) := by
  unfold qf_X9_beginsCast
  refine ok_cP (vf_X9_kind hn V_h) ?_; intro u2 e_u2 a_u2 b_u2
  refine ok_if ?_ ?_
  · intro C0
    exact ok_rP (by omega) (by omega)
  · intro C0
    have T2 := gF_2_10 V_h
    refine ok_addW (by omega) ?_; intro v4 a_v4 b_v4 w_v4
    refine ok_cP (vf_X9_kindAt hn (by omega) (by omega) V_h) ?_; intro u6 e_u6 a_u6 b_u6
    refine ok_if ?_ ?_
    · intro C2
      exact ok_rP (by omega) (by omega)
    · intro C2
      refine ok_addW (by omega) ?_; intro v8 a_v8 b_v8 w_v8
      refine ok_cP (vf_X9_kindAt hn (by omega) (by omega) V_h) ?_; intro u10 e_u10 a_u10 b_u10
      refine ok_if ?_ ?_
      · intro C3
        refine ok_addW (by omega) ?_; intro v12 a_v12 b_v12 w_v12
        refine ok_cP (vf_X9_kindAt hn (by omega) (by omega) V_h) ?_; intro u14 e_u14 a_u14 b_u14
        refine ok_if ?_ ?_
        · intro C4
          exact vj_X9_beginsCast_140 hn V_h
        · intro C4
          refine ok_if ?_ ?_
          · intro C5
            exact vj_X9_beginsCast_140 hn V_h
          · intro C5
            refine ok_if ?_ ?_
            · intro C6
              exact vj_X9_beginsCast_140 hn V_h
            · intro C6
              refine ok_if ?_ ?_
              · intro C7
                exact vj_X9_beginsCast_140 hn V_h
              · intro C7
                refine ok_if ?_ ?_
                · intro C8
                  exact vj_X9_beginsCast_140 hn V_h
                · intro C8
                  refine ok_if ?_ ?_
                  · intro C9
                    exact vj_X9_beginsCast_140 hn V_h
                  · intro C9
                    refine ok_if ?_ ?_
                    · intro C10
                      exact vj_X9_beginsCast_140 hn V_h
                    · intro C10
                      refine ok_if ?_ ?_
                      · intro C11
                        exact vj_X9_beginsCast_140 hn V_h
                      · intro C11
                        refine ok_if ?_ ?_
                        · intro C12
                          exact vj_X9_beginsCast_140 hn V_h
                        · intro C12
                          refine ok_if ?_ ?_
                          · intro C13
                            exact vj_X9_beginsCast_140 hn V_h
                          · intro C13
                            exact ok_rP (by omega) (by omega)
      · intro C3
        exact ok_rP (by omega) (by omega)
set_option maxRecDepth 4000 in
theorem vj_X2_readType_109 {nn : Nat} (hn : 1000000 ≤ nn) {l1 : Int} {l3 : Int} {l4 : Int} {h : ms_M} (a_l1 : 0 ≤ l1) (b_l1 : l1 ≤ 1740) (a_l3 : 0 ≤ l3) (b_l3 : l3 ≤ 341) (a_l4 : 0 ≤ l4) (b_l4 : l4 ≤ 1) (V_h : VS_ h)  : Ok_ (qj_X2_readType_109 nn l1 l3 l4 h) (QI_ 0 441) := by
  unfold qj_X2_readType_109
  refine ok_if ?_ ?_
  · intro C0
    refine ok_if ?_ ?_
    · intro C1
      exact ok_rI V_h (by omega) (by omega)
    · intro C1
      refine ok_add (by omega) ?_; intro v1 e_v1
      exact ok_rI V_h (by omega) (by omega)
  · intro C0
    refine ok_if ?_ ?_
    · intro C2
      exact ok_rI V_h (by omega) (by omega)
    · intro C2
      exact ok_rI V_h (by omega) (by omega)
set_option maxRecDepth 4000 in
theorem vj_X2_readType_89 {nn : Nat} (hn : 1000000 ≤ nn) {l1 : Int} {l3 : Int} {s0 : Int} {h : ms_M} (a_l1 : 0 ≤ l1) (b_l1 : l1 ≤ 1740) (a_l3 : 0 ≤ l3) (b_l3 : l3 ≤ 341) (a_s0 : 0 ≤ s0) (b_s0 : s0 ≤ 1) (V_h : VS_ h)  : Ok_ (qj_X2_readType_89 nn l1 l3 s0 h) (QI_ 0 441) := by
  unfold qj_X2_readType_89
  refine ok_if ?_ ?_
  · intro C0
    exact vj_X2_readType_109 hn (by omega) (by omega) (by omega) (by omega) (by omega) (by omega) V_h
  · intro C0
    have T2 := gF_2_10 V_h
    refine ok_addW (by omega) ?_; intro v7 a_v7 b_v7 w_v7
    refine ok_xl ?_; intro h8 E_h8; have V_h8 : VS_ h8 := by rw [E_h8]; exact wF_2_10 V_h (by omega)
    exact vj_X2_readType_109 hn (by omega) (by omega) (by omega) (by omega) (by omega) (by omega) V_h8
set_option maxRecDepth 4000 in
theorem vj_X2_readType_53 {nn : Nat} (hn : 1000000 ≤ nn) {l1 : Int} {l2 : Int} {s0 : Int} {h : ms_M} (a_l1 : 0 ≤ l1) (b_l1 : l1 ≤ 1740) (a_l2 : (-2147483648) ≤ l2) (b_l2 : l2 ≤ 2147483647) (a_s0 : (-1) ≤ s0) (b_s0 : s0 ≤ 341) (V_h : VS_ h)  : Ok_ (qj_X2_readType_53 nn l1 l2 s0 h) (QI_ 0 441) := by
  unfold qj_X2_readType_53
  refine ok_if ?_ ?_
  · intro C0
    refine ok_cP (vf_X9_kind hn V_h) ?_; intro u12 e_u12 a_u12 b_u12
    refine ok_if ?_ ?_
    · intro C1
      exact vj_X2_readType_89 hn (by omega) (by omega) (by omega) (by omega) (by omega) (by omega) V_h
    · intro C1
      exact vj_X2_readType_89 hn (by omega) (by omega) (by omega) (by omega) (by omega) (by omega) V_h
  · intro C0
    refine ok_cV (vf_X9_tell hn (by omega) (by omega) (by omega) (by omega) V_h) ?_; intro u16 E_u16 V_u16
    exact ok_rI V_u16 (by omega) (by omega)
set_option maxRecDepth 4000 in
theorem vf_X2_readType {nn : Nat} (hn : 1000000 ≤ nn) {h : ms_M} (V_h : VS_ h)  : Ok_ (qf_X2_readType nn h) (QI_ 0 441) := by
  unfold qf_X2_readType
  refine ok_cP (vf_X9_kind hn V_h) ?_; intro u20 e_u20 a_u20 b_u20
  have T1 := gF_2_10 V_h
  refine ok_addW (by omega) ?_; intro v25 a_v25 b_v25 w_v25
  refine ok_xl ?_; intro h26 E_h26; have V_h26 : VS_ h26 := by rw [E_h26]; exact wF_2_10 V_h (by omega)
  refine ok_if ?_ ?_
  · intro C1
    refine ok_if ?_ ?_
    · intro C2
      exact vj_X2_readType_53 hn (by omega) (by omega) (by omega) (by omega) (by omega) (by omega) V_h26
    · intro C2
      refine ok_cP (vf_X2_classAt hn (by omega) (by omega) V_h26) ?_; intro u28 e_u28 a_u28 b_u28
      exact vj_X2_readType_53 hn (by omega) (by omega) (by omega) (by omega) (by omega) (by omega) V_h26
  · intro C1
    exact ok_rI V_h26 (by omega) (by omega)
set_option maxRecDepth 4000 in
theorem vf_X9_isWhileTrue {nn : Nat} (hn : 1000000 ≤ nn) {h : ms_M} (V_h : VS_ h)  : Ok_ (qf_X9_isWhileTrue nn h) (QP_ 0 1) := by
  unfold qf_X9_isWhileTrue
  have T1 := gF_2_10 V_h
  refine ok_addW (by omega) ?_; intro v2 a_v2 b_v2 w_v2
  refine ok_cP (vf_X9_kindAt hn (by omega) (by omega) V_h) ?_; intro u4 e_u4 a_u4 b_u4
  refine ok_if ?_ ?_
  · intro C1
    exact ok_rP (by omega) (by omega)
  · intro C1
    refine ok_addW (by omega) ?_; intro v6 a_v6 b_v6 w_v6
    refine ok_cP (vf_X9_kindAt hn (by omega) (by omega) V_h) ?_; intro u8 e_u8 a_u8 b_u8
    refine ok_if ?_ ?_
    · intro C2
      exact ok_rP (by omega) (by omega)
    · intro C2
      refine ok_addW (by omega) ?_; intro v10 a_v10 b_v10 w_v10
      refine ok_cP (vf_X9_kindAt hn (by omega) (by omega) V_h) ?_; intro u12 e_u12 a_u12 b_u12
      refine ok_if ?_ ?_
      · intro C3
        exact ok_rP (by omega) (by omega)
      · intro C3
        exact ok_rP (by omega) (by omega)
set_option maxRecDepth 4000 in
theorem vf_X9_beginsVariable {nn : Nat} (hn : 1000000 ≤ nn) {h : ms_M} (V_h : VS_ h)  : Ok_ (qf_X9_beginsVariable nn h) (QP_ 0 1) := by
  unfold qf_X9_beginsVariable
  refine ok_cP (vf_X9_kind hn V_h) ?_; intro u2 e_u2 a_u2 b_u2
  refine ok_if ?_ ?_
  · intro C0
    have T2 := gF_2_10 V_h
    refine ok_addW (by omega) ?_; intro v4 a_v4 b_v4 w_v4
    refine ok_cP (vf_X9_kindAt hn (by omega) (by omega) V_h) ?_; intro u6 e_u6 a_u6 b_u6
    refine ok_if ?_ ?_
    · intro C2
      exact ok_rP (by omega) (by omega)
    · intro C2
      refine ok_if ?_ ?_
      · intro C3
        exact ok_rP (by omega) (by omega)
      · intro C3
        refine ok_addW (by omega) ?_; intro v8 a_v8 b_v8 w_v8
        refine ok_cP (vf_X9_kindAt hn (by omega) (by omega) V_h) ?_; intro u10 e_u10 a_u10 b_u10
        refine ok_if ?_ ?_
        · intro C4
          exact ok_rP (by omega) (by omega)
        · intro C4
          exact ok_rP (by omega) (by omega)
  · intro C0
    refine ok_if ?_ ?_
    · intro C5
      exact ok_rP (by omega) (by omega)
    · intro C5
      refine ok_if ?_ ?_
      · intro C6
        exact ok_rP (by omega) (by omega)
      · intro C6
        exact ok_rP (by omega) (by omega)
set_option maxRecDepth 4000 in
theorem vf_X10_beginMethod {nn : Nat} (hn : 1000000 ≤ nn) {a1 : Int} {a2 : Int} {h : ms_M} (a_a1 : 8 ≤ a1) (b_a1 : a1 ≤ 341) (a_a2 : 0 ≤ a2) (b_a2 : a2 ≤ 1) (V_h : VS_ h)  : Ok_ (qf_X10_beginMethod nn a1 a2 h) QV_ := by
  unfold qf_X10_beginMethod
  refine ok_xl ?_; intro h1 E_h1; have V_h1 : VS_ h1 := by rw [E_h1]; exact wF_49_16 V_h (by omega)
  refine ok_ck (by omega) ?_
  refine ok_xl ?_; intro h3 E_h3; have V_h3 : VS_ h3 := by rw [E_h3]; exact wF_49_17 V_h1 (by omega)
  refine ok_xl ?_; intro h4 E_h4; have V_h4 : VS_ h4 := by rw [E_h4]; exact wF_49_18 V_h3 (by omega)
  refine ok_xl ?_; intro h5 E_h5; have V_h5 : VS_ h5 := by rw [E_h5]; exact wF_49_10 V_h4 (by omega)
  exact ok_rV V_h5
set_option maxRecDepth 4000 in
theorem vf_X1_beginMethod {nn : Nat} (hn : 1000000 ≤ nn) {h : ms_M} (V_h : VS_ h)  : Ok_ (qf_X1_beginMethod nn h) QV_ := by
  unfold qf_X1_beginMethod
  refine ok_xl ?_; intro h1 E_h1; have V_h1 : VS_ h1 := by rw [E_h1]; exact wF_34_1 V_h (by omega)
  refine ok_xl ?_; intro h2 E_h2; have V_h2 : VS_ h2 := by rw [E_h2]; exact wF_34_3 V_h1 (by omega)
  refine ok_xl ?_; intro h3 E_h3; have V_h3 : VS_ h3 := by rw [E_h3]; exact wF_34_4 V_h2 (by omega)
  refine ok_xl ?_; intro h4 E_h4; have V_h4 : VS_ h4 := by rw [E_h4]; exact wF_34_7 V_h3 (by omega)
  refine ok_xl ?_; intro h5 E_h5; have V_h5 : VS_ h5 := by rw [E_h5]; exact wF_34_8 V_h4 (by omega)
  refine ok_xl ?_; intro h6 E_h6; have V_h6 : VS_ h6 := by rw [E_h6]; exact wF_34_10 V_h5 (by omega)
  refine ok_xl ?_; intro h7 E_h7; have V_h7 : VS_ h7 := by rw [E_h7]; exact wF_34_14 V_h6 (by omega)
  refine ok_xl ?_; intro h8 E_h8; have V_h8 : VS_ h8 := by rw [E_h8]; exact wF_34_15 V_h7 (by omega)
  exact ok_rV V_h8
set_option maxRecDepth 4000 in
theorem vf_X1_isTooMuch {nn : Nat} (hn : 1000000 ≤ nn) {h : ms_M} (V_h : VS_ h)  : Ok_ (qf_X1_isTooMuch nn h) (QP_ 0 1) := by
  unfold qf_X1_isTooMuch
  have T1 := gF_34_15 V_h
  refine ok_if ?_ ?_
  · intro C1
    exact ok_rP (by omega) (by omega)
  · intro C1
    have T3 := gF_34_1 V_h
    refine ok_if ?_ ?_
    · intro C3
      exact ok_rP (by omega) (by omega)
    · intro C3
      have T5 := gF_34_8 V_h
      refine ok_if ?_ ?_
      · intro C5
        exact ok_rP (by omega) (by omega)
      · intro C5
        have T7 := gF_34_4 V_h
        refine ok_if ?_ ?_
        · intro C7
          exact ok_rP (by omega) (by omega)
        · intro C7
          exact ok_rP (by omega) (by omega)
set_option maxRecDepth 4000 in
theorem vf_X2_bodyOf {nn : Nat} (hn : 1000000 ≤ nn) {a1 : Int} {h : ms_M} (a_a1 : 0 ≤ a1) (b_a1 : a1 ≤ 4007) (V_h : VS_ h)  : Ok_ (qf_X2_bodyOf nn a1 h) (QP_ (-2147483648) 2147483647) := by
  unfold qf_X2_bodyOf
  refine ok_cP (vf_X2_isMethod hn (by omega) (by omega) V_h) ?_; intro u2 e_u2 a_u2 b_u2
  have T1 := pr_X2_isMethod e_u2
  refine ok_if ?_ ?_
  · intro C1
    exact ok_rP (by omega) (by omega)
  · intro C1
    refine ok_rd (by omega) (gA_23 V_h) ?_; intro v4 e_v4 a_v4 b_v4
    exact ok_rP (by omega) (by omega)
set_option maxRecDepth 4000 in
theorem vf_X2_parameterName {nn : Nat} (hn : 1000000 ≤ nn) {a1 : Int} {a2 : Int} {h : ms_M} (a_a1 : 0 ≤ a1) (b_a1 : a1 ≤ 95) (a_a2 : 0 ≤ a2) (b_a2 : a2 ≤ 5) (V_h : VS_ h)  : Ok_ (qf_X2_parameterName nn a1 a2 h) (QP_ (-1) 2147483647) := by
  unfold qf_X2_parameterName
  refine ok_if ?_ ?_
  · intro C0
    exfalso; omega
  · intro C0
    refine ok_cP (vf_X2_parametersOf hn (by omega) (by omega) V_h) ?_; intro u2 e_u2 a_u2 b_u2
    have T2 := pr_X2_parametersOf e_u2
    refine ok_if ?_ ?_
    · intro C2
      exact ok_rP (by omega) (by omega)
    · intro C2
      refine ok_mul (by omega) ?_; intro v4 e_v4
      refine ok_add (by omega) ?_; intro v5 e_v5
      refine ok_rd (by omega) (gA_28 V_h) ?_; intro v6 e_v6 a_v6 b_v6
      exact ok_rP (by omega) (by omega)
set_option maxRecDepth 4000 in
theorem vf_X2_tokenOfMethod {nn : Nat} (hn : 1000000 ≤ nn) {a1 : Int} {h : ms_M} (a_a1 : 0 ≤ a1) (b_a1 : a1 ≤ 4007) (V_h : VS_ h)  : Ok_ (qf_X2_tokenOfMethod nn a1 h) (QP_ (-2147483648) 2147483647) := by
  unfold qf_X2_tokenOfMethod
  refine ok_cP (vf_X2_isMethod hn (by omega) (by omega) V_h) ?_; intro u2 e_u2 a_u2 b_u2
  have T1 := pr_X2_isMethod e_u2
  refine ok_if ?_ ?_
  · intro C1
    exact ok_rP (by omega) (by omega)
  · intro C1
    refine ok_rd (by omega) (gA_22 V_h) ?_; intro v4 e_v4 a_v4 b_v4
    exact ok_rP (by omega) (by omega)
set_option maxRecDepth 4000 in
theorem vj_X2_checkOverride_131 {nn : Nat} (hn : 1000000 ≤ nn) {l1 : Int} {l3 : Int} {h : ms_M} (a_l1 : 0 ≤ l1) (b_l1 : l1 ≤ 95) (a_l3 : 0 ≤ l3) (b_l3 : l3 ≤ 1) (V_h : VS_ h)  : Ok_ (qj_X2_checkOverride_131 nn l1 l3 h) QV_ := by
  unfold qj_X2_checkOverride_131
  refine ok_if ?_ ?_
  · intro C0
    exact ok_rV V_h
  · intro C0
    refine ok_rd (by omega) (gA_22 V_h) ?_; intro v3 e_v3 a_v3 b_v3
    refine ok_cV (vf_X9_tell hn (by omega) (by omega) (by omega) (by omega) V_h) ?_; intro u5 E_u5 V_u5
    exact ok_rV V_u5
set_option maxRecDepth 4000 in
theorem vw_X2_checkOverride_87 {nn : Nat} (hn : 1000000 ≤ nn) : ∀ (k : Nat) {l1 : Int} {l2 : Int} {l3 : Int} {l4 : Int} {h : ms_M} (a_l1 : 0 ≤ l1) (b_l1 : l1 ≤ 95) (a_l2 : 0 ≤ l2) (b_l2 : l2 ≤ 95) (a_l3 : 0 ≤ l3) (b_l3 : l3 ≤ 1) (a_l4 : 0 ≤ l4) (b_l4 : l4 ≤ 6) (V_h : VS_ h)  (hm : 7 - l4 < (k : Int)), Ok_ (qw_X2_checkOverride_87 nn k l1 l2 l3 l4 h) QV_ := by
  intro k
  induction k with
  | zero => intros; exfalso; omega
  | succ k ih =>
    intro l1 l2 l3 l4 h a_l1 b_l1 a_l2 b_l2 a_l3 b_l3 a_l4 b_l4 V_h hm
    unfold qw_X2_checkOverride_87
    refine ok_rd (by omega) (gA_27 V_h) ?_; intro v8 e_v8 a_v8 b_v8
    refine ok_if ?_ ?_
    · intro C0
      exact vj_X2_checkOverride_131 hn (by omega) (by omega) (by omega) (by omega) V_h
    · intro C0
      refine ok_if ?_ ?_
      · intro C1
        exact vj_X2_checkOverride_131 hn (by omega) (by omega) (by omega) (by omega) V_h
      · intro C1
        refine ok_cP (vf_X2_parameterType hn (by omega) (by omega) (by omega) (by omega) V_h) ?_; intro u10 e_u10 a_u10 b_u10
        refine ok_cP (vf_X2_parameterType hn (by omega) (by omega) (by omega) (by omega) V_h) ?_; intro u12 e_u12 a_u12 b_u12
        refine ok_if ?_ ?_
        · intro C2
          refine ok_add (by omega) ?_; intro v13 e_v13
          exact ih (by omega) (by omega) (by omega) (by omega) (by omega) (by omega) (by omega) (by omega) V_h (by omega)
        · intro C2
          refine ok_add (by omega) ?_; intro v14 e_v14
          exact ih (by omega) (by omega) (by omega) (by omega) (by omega) (by omega) (by omega) (by omega) V_h (by omega)
set_option maxRecDepth 4000 in
theorem vj_X2_checkOverride_82 {nn : Nat} (hn : 1000000 ≤ nn) {l1 : Int} {l2 : Int} {h : ms_M} (a_l1 : 0 ≤ l1) (b_l1 : l1 ≤ 95) (a_l2 : 0 ≤ l2) (b_l2 : l2 ≤ 95) (V_h : VS_ h)  : Ok_ (qj_X2_checkOverride_82 nn l1 l2 h) QV_ := by
  unfold qj_X2_checkOverride_82
  exact vw_X2_checkOverride_87 hn _ (by omega) (by omega) (by omega) (by omega) (by omega) (by omega) (by omega) (by omega) V_h (by omega)
set_option maxRecDepth 4000 in
theorem vf_X2_checkOverride {nn : Nat} (hn : 1000000 ≤ nn) {a1 : Int} {h : ms_M} (a_a1 : 0 ≤ a1) (b_a1 : a1 ≤ 95) (V_h : VS_ h)  : Ok_ (qf_X2_checkOverride nn a1 h) QV_ := by
  unfold qf_X2_checkOverride
  refine ok_div (n := 12) (by omega) ?_; intro v19 e_v19
  refine ok_add (by omega) ?_; intro v20 e_v20
  refine ok_cP (vf_X4_above hn rfl (by omega) (by omega) V_h) ?_; intro u22 e_u22 a_u22 b_u22
  refine ok_cP (vf_X2_nameOfMethod hn (by omega) (by omega) V_h) ?_; intro u24 e_u24 a_u24 b_u24
  refine ok_cP (vf_X2_methodOf hn (by omega) (by omega) (by omega) (by omega) V_h) ?_; intro u26 e_u26 a_u26 b_u26
  refine ok_if ?_ ?_
  · intro C0
    refine ok_rd (by omega) (gA_25 V_h) ?_; intro v28 e_v28 a_v28 b_v28
    refine ok_if ?_ ?_
    · intro C1
      exact vj_X2_checkOverride_82 hn (by omega) (by omega) (by omega) (by omega) V_h
    · intro C1
      refine ok_rd (by omega) (gA_25 V_h) ?_; intro v30 e_v30 a_v30 b_v30
      refine ok_if ?_ ?_
      · intro C2
        exact vj_X2_checkOverride_82 hn (by omega) (by omega) (by omega) (by omega) V_h
      · intro C2
        refine ok_rd (by omega) (gA_24 V_h) ?_; intro v32 e_v32 a_v32 b_v32
        refine ok_rd (by omega) (gA_24 V_h) ?_; intro v34 e_v34 a_v34 b_v34
        refine ok_if ?_ ?_
        · intro C3
          exact vj_X2_checkOverride_82 hn (by omega) (by omega) (by omega) (by omega) V_h
        · intro C3
          refine ok_rd (by omega) (gA_27 V_h) ?_; intro v36 e_v36 a_v36 b_v36
          refine ok_rd (by omega) (gA_27 V_h) ?_; intro v38 e_v38 a_v38 b_v38
          refine ok_if ?_ ?_
          · intro C4
            exact vj_X2_checkOverride_82 hn (by omega) (by omega) (by omega) (by omega) V_h
          · intro C4
            exact vw_X2_checkOverride_87 hn _ (by omega) (by omega) (by omega) (by omega) (by omega) (by omega) (by omega) (by omega) V_h (by omega)
  · intro C0
    exact ok_rV V_h
set_option maxRecDepth 4000 in
theorem vw_X2_checkOverrides_2 {nn : Nat} (hn : 1000000 ≤ nn) : ∀ (k : Nat) {l1 : Int} {h : ms_M} (a_l1 : 0 ≤ l1) (b_l1 : l1 ≤ 96) (V_h : VS_ h)  (hm : 97 - l1 < (k : Int)), Ok_ (qw_X2_checkOverrides_2 nn k l1 h) QV_ := by
  intro k
  induction k with
  | zero => intros; exfalso; omega
  | succ k ih =>
    intro l1 h a_l1 b_l1 V_h hm
    unfold qw_X2_checkOverrides_2
    refine ok_if ?_ ?_
    · intro C0
      exact ok_rV V_h
    · intro C0
      have T2 := gF_2_11 V_h
      refine ok_if ?_ ?_
      · intro C2
        exact ok_rV V_h
      · intro C2
        refine ok_cP (vf_X2_isMethod hn (by omega) (by omega) V_h) ?_; intro u6 e_u6 a_u6 b_u6
        have T4 := pr_X2_isMethod e_u6
        refine ok_if ?_ ?_
        · intro C4
          refine ok_add (by omega) ?_; intro v7 e_v7
          exact ih (by omega) (by omega) V_h (by omega)
        · intro C4
          refine ok_cV (vf_X2_checkOverride hn (by omega) (by omega) V_h) ?_; intro u9 E_u9 V_u9
          refine ok_add (by omega) ?_; intro v10 e_v10
          exact ih (by omega) (by omega) V_u9 (by omega)
set_option maxRecDepth 4000 in
theorem vf_X2_checkOverrides {nn : Nat} (hn : 1000000 ≤ nn) {h : ms_M} (V_h : VS_ h)  : Ok_ (qf_X2_checkOverrides nn h) QV_ := by
  unfold qf_X2_checkOverrides
  exact vw_X2_checkOverrides_2 hn _ (by omega) (by omega) V_h (by omega)
set_option maxRecDepth 4000 in
theorem vf_X2_forget {nn : Nat} (hn : 1000000 ≤ nn) {h : ms_M} (V_h : VS_ h)  : Ok_ (qf_X2_forget nn h) QV_ := by
  unfold qf_X2_forget
  refine ok_xl ?_; intro h1 E_h1; have V_h1 : VS_ h1 := by rw [E_h1]; exact wF_11_2 V_h (by omega)
  refine ok_cV (vfill hn V_h1 (show 17 < 256 by decide) rfl (show 8 ≤ 100000 by decide) (fun _ _ z => wA_17 z (by omega))) ?_; intro u3 E_u3 V_u3
  refine ok_cV (vfill hn V_u3 (show 21 < 256 by decide) rfl (show 8 ≤ 100000 by decide) (fun _ _ z => wA_21 z (by omega))) ?_; intro u5 E_u5 V_u5
  refine ok_cV (vf_X4_forget hn rfl V_u5) ?_; intro u8 E_u8 V_u8
  exact ok_rV V_u8
set_option maxRecDepth 4000 in
theorem vf_X2_addKindByte {nn : Nat} (hn : 1000000 ≤ nn) {a1 : Int} {h : ms_M} (a_a1 : 40 ≤ a1) (b_a1 : a1 ≤ 91) (V_h : VS_ h)  : Ok_ (qf_X2_addKindByte nn a1 h) QV_ := by
  unfold qf_X2_addKindByte
  have T1 := gF_11_20 V_h
  refine ok_if ?_ ?_
  · intro C1
    exact ok_rV V_h
  · intro C1
    refine ok_b ?_; intro v6 a_v6 b_v6
    refine ok_wB (by omega) ?_; intro h7 E_h7; have V_h7 : VS_ h7 := by rw [E_h7]; exact wA_31 V_h oq_b_rh
    have T3 : h7 11 20 = h 11 20 := by rw [E_h7]; exact up_n (fun z => absurd z.1 (by decide))
    refine ok_add (by omega) ?_; intro v9 e_v9
    refine ok_xl ?_; intro h10 E_h10; have V_h10 : VS_ h10 := by rw [E_h10]; exact wF_11_20 V_h7 (by omega)
    exact ok_rV V_h10
set_option maxRecDepth 4000 in
theorem vf_X9_bucketOf {nn : Nat} (hn : 1000000 ≤ nn) {a0 : Nat} {a1 : Int} {a2 : Int} {h : ms_M} (a_a1 : 0 ≤ a1) (b_a1 : a1 ≤ 6400) (a_a2 : (-6400) ≤ a2) (b_a2 : a2 ≤ 6528) (V_h : VS_ h) (t_a0 : a0 < cn_M h ∧ ly_T a0 = 1) (x_0 : 0 ≤ a1 ∧ 1 ≤ a2 ∧ a1 + a2 ≤ ln_I h a0)  : Ok_ (qf_X9_bucketOf nn a0 a1 a2 h) (QP_ 0 63) := by
  unfold qf_X9_bucketOf
  refine ok_rT V_h t_a0 (by omega) ?_; intro v1 e_v1 a_v1 b_v1
  refine ok_mul (by omega) ?_; intro v2 e_v2
  refine ok_add (by omega) ?_; intro v3 e_v3
  refine ok_sub (by omega) ?_; intro v4 e_v4
  refine ok_rT V_h t_a0 (by omega) ?_; intro v5 e_v5 a_v5 b_v5
  refine ok_mul (by omega) ?_; intro v6 e_v6
  refine ok_add (by omega) ?_; intro v7 e_v7
  refine ok_add (by omega) ?_; intro v8 e_v8
  refine ok_and (by omega) ?_; intro v9 a_v9 b_v9
  exact ok_rP (by omega) (by omega)
set_option maxRecDepth 4000 in
theorem vf_X9_closeName {nn : Nat} (hn : 1000000 ≤ nn) {a1 : Int} {h : ms_M} (a_a1 : 0 ≤ a1) (b_a1 : a1 ≤ 6528) (V_h : VS_ h) (x_0 : h 7 (h 2 9).toNat < a1 ∧ a1 ≤ 6400 ∧ h 2 9 ≤ 1739)  : Ok_ (qf_X9_closeName nn a1 h) QV_ := by
  unfold qf_X9_closeName
  have T1 := gF_2_9 V_h
  refine ok_rd (by omega) (gA_7 V_h) ?_; intro v3 e_v3 a_v3 b_v3
  refine ok_sub (by omega) ?_; intro v5 e_v5
  have T2 := vi_ln (M := h) (show 6 < 256 by decide); have T3 : (ly_N 6 : Int) = 6400 := rfl
  refine ok_cP (vf_X9_bucketOf hn (by omega) (by omega) (by omega) (by omega) V_h ⟨Nat.lt_of_lt_of_le (by decide) (vi_c V_h), rfl⟩ (by omega)) ?_; intro u6 e_u6 a_u6 b_u6
  refine ok_rd (by omega) (gA_9 V_h) ?_; intro v10 e_v10 a_v10 b_v10
  refine ok_wA (by omega) ?_; intro h11 E_h11; have V_h11 : VS_ h11 := by rw [E_h11]; exact wA_8 V_h (by omega)
  have T4 : h11 2 9 = h 2 9 := by rw [E_h11]; exact up_n (fun z => absurd z.1 (by decide))
  refine ok_wA (by omega) ?_; intro h14 E_h14; have V_h14 : VS_ h14 := by rw [E_h14]; exact wA_9 V_h11 (by omega)
  have T5 : h14 2 9 = h11 2 9 := by rw [E_h14]; exact up_n (fun z => absurd z.1 (by decide))
  refine ok_add (by omega) ?_; intro v16 e_v16
  refine ok_xl ?_; intro h17 E_h17; have V_h17 : VS_ h17 := by rw [E_h17]; exact wF_2_9 V_h14 (by omega)
  have T6 : h17 2 9 = v16 := by rw [E_h17]; exact up_s
  refine ok_wA (by omega) ?_; intro h20 E_h20; have V_h20 : VS_ h20 := by rw [E_h20]; exact wA_7 V_h17 (by omega)
  exact ok_rV V_h20
set_option maxRecDepth 4000 in
theorem vw_X9_isNamed_29 {nn : Nat} (hn : 1000000 ≤ nn) : ∀ (k : Nat) {l2 : Nat} {l3 : Int} {l4 : Int} {l5 : Int} {l6 : Int} {h : ms_M} (a_l3 : 0 ≤ l3) (b_l3 : l3 ≤ 2999) (a_l4 : 1 ≤ l4) (b_l4 : l4 ≤ 128) (a_l5 : 0 ≤ l5) (b_l5 : l5 ≤ 6400) (a_l6 : 0 ≤ l6) (b_l6 : l6 ≤ 128) (V_h : VS_ h) (t_l2 : l2 < cn_M h ∧ ly_T l2 = 1) (x_0 : 0 ≤ l3 ∧ l3 + l4 ≤ ln_I h l2 ∧ l5 + l4 ≤ 6400)  (hm : 129 - l6 < (k : Int)), Ok_ (qw_X9_isNamed_29 nn k l2 l3 l4 l5 l6 h) (QP_ 0 1) := by
  intro k
  induction k with
  | zero => intros; exfalso; omega
  | succ k ih =>
    intro l2 l3 l4 l5 l6 h a_l3 b_l3 a_l4 b_l4 a_l5 b_l5 a_l6 b_l6 V_h t_l2 x_0 hm
    unfold qw_X9_isNamed_29
    refine ok_if ?_ ?_
    · intro C0
      exact ok_rP (by omega) (by omega)
    · intro C0
      refine ok_add (by omega) ?_; intro v2 e_v2
      refine ok_rd (by omega) (gA_6 V_h) ?_; intro v3 e_v3 a_v3 b_v3
      refine ok_add (by omega) ?_; intro v4 e_v4
      refine ok_rT V_h t_l2 (by omega) ?_; intro v5 e_v5 a_v5 b_v5
      refine ok_if ?_ ?_
      · intro C1
        refine ok_add (by omega) ?_; intro v6 e_v6
        exact ih (by omega) (by omega) (by omega) (by omega) (by omega) (by omega) (by omega) (by omega) V_h t_l2 (by omega) (by omega)
      · intro C1
        exact ok_rP (by omega) (by omega)
set_option maxRecDepth 4000 in
theorem vf_X9_isNamed {nn : Nat} (hn : 1000000 ≤ nn) {a1 : Int} {a2 : Nat} {a3 : Int} {a4 : Int} {h : ms_M} (a_a1 : 0 ≤ a1) (b_a1 : a1 ≤ 1739) (a_a3 : 0 ≤ a3) (b_a3 : a3 ≤ 2999) (a_a4 : 1 ≤ a4) (b_a4 : a4 ≤ 128) (V_h : VS_ h) (t_a2 : a2 < cn_M h ∧ ly_T a2 = 1) (x_0 : 0 ≤ a3 ∧ a3 + a4 ≤ ln_I h a2)  : Ok_ (qf_X9_isNamed nn a1 a2 a3 a4 h) (QP_ 0 1) := by
  unfold qf_X9_isNamed
  refine ok_rd (by omega) (gA_7 V_h) ?_; intro v10 e_v10 a_v10 b_v10
  refine ok_add (by omega) ?_; intro v12 e_v12
  refine ok_rd (by omega) (gA_7 V_h) ?_; intro v13 e_v13 a_v13 b_v13
  refine ok_sub (by omega) ?_; intro v14 e_v14
  refine ok_if ?_ ?_
  · intro C0
    exact vw_X9_isNamed_29 hn _ (by omega) (by omega) (by omega) (by omega) (by omega) (by omega) (by omega) (by omega) V_h t_a2 (by omega) (by omega)
  · intro C0
    exact ok_rP (by omega) (by omega)
set_option maxRecDepth 4000 in
theorem vj_X9_nameOf_79 {nn : Nat} (hn : 1000000 ≤ nn) {l1 : Nat} {l2 : Int} {l3 : Int} {h : ms_M} (a_l2 : 0 ≤ l2) (b_l2 : l2 ≤ 2999) (a_l3 : 1 ≤ l3) (b_l3 : l3 ≤ 128) (V_h : VS_ h) (t_l1 : l1 < cn_M h ∧ ly_T l1 = 1) (x_0 : 0 ≤ l2 ∧ 1 ≤ l3 ∧ l2 + l3 ≤ ln_I h l1)  : Ok_ (qj_X9_nameOf_79 nn l1 l2 l3 h) (QI_ 0 1739) := by
  unfold qj_X9_nameOf_79
  have T1 := gF_2_9 V_h
  refine ok_rd (by omega) (gA_7 V_h) ?_; intro v3 e_v3 a_v3 b_v3
  refine ok_if ?_ ?_
  · intro C1
    exact ok_rI V_h (by omega) (by omega)
  · intro C1
    refine ok_add (by omega) ?_; intro v5 e_v5
    refine ok_if ?_ ?_
    · intro C2
      have L1 := vi_ln (M := h) (show 6 < 256 by decide)
      have L2 : (ly_N 6 : Int) = 6400 := rfl
      refine ok_cpB V_h t_l1 ⟨Nat.lt_of_lt_of_le (by decide) (vi_c V_h), rfl⟩ (by omega) ?_; intro h9 V_h9 F_h9
      refine ok_add (by omega) ?_; intro v10 e_v10
      have T2 : h9 2 9 = h 2 9 := F_h9 _ _ (by decide)
      have T3 : h9 7 (h9 2 9).toNat = h 7 (h 2 9).toNat := by rw [T2]; exact F_h9 _ _ (by decide)
      refine ok_cV (vf_X9_closeName hn (by omega) (by omega) V_h9 (by omega)) ?_; intro u12 E_u12 V_u12
      have T4 : u12 2 9 = h9 2 9 + 1 := by rw [lm_X9_closeName E_u12]; exact oq_add_eq (by omega) (by omega) (by omega)
      refine ok_sub (by omega) ?_; intro v14 e_v14
      exact ok_rI V_u12 (by omega) (by omega)
    · intro C2
      exact ok_rI V_h (by omega) (by omega)
set_option maxRecDepth 4000 in
theorem vw_X9_nameOf_35 {nn : Nat} (hn : 1000000 ≤ nn) : ∀ (k : Nat) {l1 : Nat} {l2 : Int} {l3 : Int} {l4 : Int} {l5 : Int} {h : ms_M} (a_l2 : 0 ≤ l2) (b_l2 : l2 ≤ 2999) (a_l3 : 1 ≤ l3) (b_l3 : l3 ≤ 128) (a_l4 : (-1) ≤ l4) (b_l4 : l4 ≤ 1739) (a_l5 : 0 ≤ l5) (b_l5 : l5 ≤ 1740) (V_h : VS_ h) (t_l1 : l1 < cn_M h ∧ ly_T l1 = 1) (x_0 : 0 ≤ l2 ∧ 1 ≤ l3 ∧ l2 + l3 ≤ ln_I h l1)  (hm : 1741 - l5 < (k : Int)), Ok_ (qw_X9_nameOf_35 nn k l1 l2 l3 l4 l5 h) (QI_ 0 1739) := by
  intro k
  induction k with
  | zero => intros; exfalso; omega
  | succ k ih =>
    intro l1 l2 l3 l4 l5 h a_l2 b_l2 a_l3 b_l3 a_l4 b_l4 a_l5 b_l5 V_h t_l1 x_0 hm
    unfold qw_X9_nameOf_35
    refine ok_if ?_ ?_
    · intro C0
      exact vj_X9_nameOf_79 hn (by omega) (by omega) (by omega) (by omega) V_h t_l1 (by omega)
    · intro C0
      refine ok_if ?_ ?_
      · intro C1
        exact vj_X9_nameOf_79 hn (by omega) (by omega) (by omega) (by omega) V_h t_l1 (by omega)
      · intro C1
        refine ok_cP (vf_X9_isNamed hn (by omega) (by omega) (by omega) (by omega) (by omega) (by omega) V_h t_l1 (by omega)) ?_; intro u18 e_u18 a_u18 b_u18
        refine ok_if ?_ ?_
        · intro C2
          refine ok_rd (by omega) (gA_8 V_h) ?_; intro v20 e_v20 a_v20 b_v20
          refine ok_add (by omega) ?_; intro v21 e_v21
          exact ih (by omega) (by omega) (by omega) (by omega) (by omega) (by omega) (by omega) (by omega) V_h t_l1 (by omega) (by omega)
        · intro C2
          exact ok_rI V_h (by omega) (by omega)
set_option maxRecDepth 4000 in
theorem vf_X9_nameOf {nn : Nat} (hn : 1000000 ≤ nn) {a1 : Nat} {a2 : Int} {a3 : Int} {h : ms_M} (a_a2 : 0 ≤ a2) (b_a2 : a2 ≤ 2999) (a_a3 : (-2999) ≤ a3) (b_a3 : a3 ≤ 128) (V_h : VS_ h) (t_a1 : a1 < cn_M h ∧ ly_T a1 = 1)  : Ok_ (qf_X9_nameOf nn a1 a2 a3 h) (QI_ 0 1739) := by
  unfold qf_X9_nameOf
  refine ok_if ?_ ?_
  · intro C0
    exact ok_rI V_h (by omega) (by omega)
  · intro C0
    refine ok_if ?_ ?_
    · intro C1
      exfalso; omega
    · intro C1
      refine ok_add (by omega) ?_; intro v25 e_v25
      refine ok_lS t_a1 ?_; intro v26 e_v26
      refine ok_if ?_ ?_
      · intro C2
        refine ok_cP (vf_X9_bucketOf hn (by omega) (by omega) (by omega) (by omega) V_h t_a1 (by omega)) ?_; intro u28 e_u28 a_u28 b_u28
        refine ok_rd (by omega) (gA_9 V_h) ?_; intro v29 e_v29 a_v29 b_v29
        exact vw_X9_nameOf_35 hn _ (by omega) (by omega) (by omega) (by omega) (by omega) (by omega) (by omega) (by omega) V_h t_a1 (by omega) (by omega)
      · intro C2
        exact ok_rI V_h (by omega) (by omega)
set_option maxRecDepth 4000 in
theorem vf_X2_classAbove {nn : Nat} (hn : 1000000 ≤ nn) {a1 : Int} {h : ms_M} (a_a1 : 0 ≤ a1) (b_a1 : a1 ≤ 333) (V_h : VS_ h)  : Ok_ (qf_X2_classAbove nn a1 h) (QP_ (-1) 341) := by
  unfold qf_X2_classAbove
  refine ok_cP (vf_X2_tokenOfClass hn (by omega) (by omega) V_h) ?_; intro u2 e_u2 a_u2 b_u2
  refine ok_addW (by omega) ?_; intro v4 a_v4 b_v4 w_v4
  refine ok_cP (vf_X9_kindAt hn (by omega) (by omega) V_h) ?_; intro u6 e_u6 a_u6 b_u6
  refine ok_if ?_ ?_
  · intro C0
    exact ok_rP (by omega) (by omega)
  · intro C0
    refine ok_addW (by omega) ?_; intro v7 a_v7 b_v7 w_v7
    refine ok_cP (vf_X2_classAt hn (by omega) (by omega) V_h) ?_; intro u9 e_u9 a_u9 b_u9
    exact ok_rP (by omega) (by omega)
set_option maxRecDepth 4000 in
theorem vj_X2_endsAbove_36 {nn : Nat} (hn : 1000000 ≤ nn) {l2 : Int} {h : ms_M} (a_l2 : (-1) ≤ l2) (b_l2 : l2 ≤ 341) (V_h : VS_ h)  : Ok_ (qj_X2_endsAbove_36 nn l2 h) (QP_ 0 1) := by
  unfold qj_X2_endsAbove_36
  refine ok_if ?_ ?_
  · intro C0
    exact ok_rP (by omega) (by omega)
  · intro C0
    exact ok_rP (by omega) (by omega)
set_option maxRecDepth 4000 in
theorem vw_X2_endsAbove_7 {nn : Nat} (hn : 1000000 ≤ nn) : ∀ (k : Nat) {l2 : Int} {l3 : Int} {h : ms_M} (a_l2 : (-1) ≤ l2) (b_l2 : l2 ≤ 341) (a_l3 : 0 ≤ l3) (b_l3 : l3 ≤ 335) (V_h : VS_ h)  (hm : 336 - l3 < (k : Int)), Ok_ (qw_X2_endsAbove_7 nn k l2 l3 h) (QP_ 0 1) := by
  intro k
  induction k with
  | zero => intros; exfalso; omega
  | succ k ih =>
    intro l2 l3 h a_l2 b_l2 a_l3 b_l3 V_h hm
    unfold qw_X2_endsAbove_7
    have T1 := gF_11_2 V_h
    refine ok_if ?_ ?_
    · intro C1
      exact vj_X2_endsAbove_36 hn (by omega) (by omega) V_h
    · intro C1
      refine ok_if ?_ ?_
      · intro C2
        exact vj_X2_endsAbove_36 hn (by omega) (by omega) V_h
      · intro C2
        refine ok_sub (by omega) ?_; intro v3 e_v3
        refine ok_cP (vf_X2_classAbove hn (by omega) (by omega) V_h) ?_; intro u5 e_u5 a_u5 b_u5
        refine ok_add (by omega) ?_; intro v6 e_v6
        exact ih (by omega) (by omega) (by omega) (by omega) V_h (by omega)
set_option maxRecDepth 4000 in
theorem vf_X2_endsAbove {nn : Nat} (hn : 1000000 ≤ nn) {a1 : Int} {h : ms_M} (a_a1 : 0 ≤ a1) (b_a1 : a1 ≤ 333) (V_h : VS_ h)  : Ok_ (qf_X2_endsAbove nn a1 h) (QP_ 0 1) := by
  unfold qf_X2_endsAbove
  refine ok_add (by omega) ?_; intro v9 e_v9
  exact vw_X2_endsAbove_7 hn _ (by omega) (by omega) (by omega) (by omega) V_h (by omega)
set_option maxRecDepth 4000 in
theorem vj_X2_checkClassHead_64 {nn : Nat} (hn : 1000000 ≤ nn) {l1 : Int} {l2 : Int} {h : ms_M} (a_l1 : 0 ≤ l1) (b_l1 : l1 ≤ 333) (a_l2 : (-2147483648) ≤ l2) (b_l2 : l2 ≤ 2147483647) (V_h : VS_ h)  : Ok_ (qj_X2_checkClassHead_64 nn l1 l2 h) QV_ := by
  unfold qj_X2_checkClassHead_64
  refine ok_cP (vf_X2_endsAbove hn (by omega) (by omega) V_h) ?_; intro u2 e_u2 a_u2 b_u2
  refine ok_if ?_ ?_
  · intro C0
    exact ok_rV V_h
  · intro C0
    refine ok_addW (by omega) ?_; intro v4 a_v4 b_v4 w_v4
    refine ok_cV (vf_X9_tell hn (by omega) (by omega) (by omega) (by omega) V_h) ?_; intro u6 E_u6 V_u6
    exact ok_rV V_u6
set_option maxRecDepth 4000 in
theorem vj_X2_checkClassHead_44 {nn : Nat} (hn : 1000000 ≤ nn) {l1 : Int} {l2 : Int} {h : ms_M} (a_l1 : 0 ≤ l1) (b_l1 : l1 ≤ 333) (a_l2 : (-2147483648) ≤ l2) (b_l2 : l2 ≤ 2147483647) (V_h : VS_ h)  : Ok_ (qj_X2_checkClassHead_44 nn l1 l2 h) QV_ := by
  unfold qj_X2_checkClassHead_44
  refine ok_cP (vf_X2_classAbove hn (by omega) (by omega) V_h) ?_; intro u9 e_u9 a_u9 b_u9
  refine ok_if ?_ ?_
  · intro C0
    exact vj_X2_checkClassHead_64 hn (by omega) (by omega) (by omega) (by omega) V_h
  · intro C0
    refine ok_addW (by omega) ?_; intro v11 a_v11 b_v11 w_v11
    refine ok_cV (vf_X9_tell hn (by omega) (by omega) (by omega) (by omega) V_h) ?_; intro u13 E_u13 V_u13
    exact vj_X2_checkClassHead_64 hn (by omega) (by omega) (by omega) (by omega) V_u13
set_option maxRecDepth 4000 in
theorem vj_X2_checkClassHead_23 {nn : Nat} (hn : 1000000 ≤ nn) {l1 : Int} {l2 : Int} {h : ms_M} (a_l1 : 0 ≤ l1) (b_l1 : l1 ≤ 333) (a_l2 : (-2147483648) ≤ l2) (b_l2 : l2 ≤ 2147483647) (V_h : VS_ h)  : Ok_ (qj_X2_checkClassHead_23 nn l1 l2 h) QV_ := by
  unfold qj_X2_checkClassHead_23
  refine ok_cP (vf_X2_classAt hn (by omega) (by omega) V_h) ?_; intro u16 e_u16 a_u16 b_u16
  refine ok_add (by omega) ?_; intro v17 e_v17
  refine ok_if ?_ ?_
  · intro C0
    exact vj_X2_checkClassHead_44 hn (by omega) (by omega) (by omega) (by omega) V_h
  · intro C0
    refine ok_cV (vf_X9_tell hn (by omega) (by omega) (by omega) (by omega) V_h) ?_; intro u20 E_u20 V_u20
    exact vj_X2_checkClassHead_44 hn (by omega) (by omega) (by omega) (by omega) V_u20
set_option maxRecDepth 4000 in
theorem vf_X2_checkClassHead {nn : Nat} (hn : 1000000 ≤ nn) {a1 : Int} {h : ms_M} (a_a1 : 0 ≤ a1) (b_a1 : a1 ≤ 333) (V_h : VS_ h)  : Ok_ (qf_X2_checkClassHead nn a1 h) QV_ := by
  unfold qf_X2_checkClassHead
  refine ok_rd (by omega) (gA_15 V_h) ?_; intro v23 e_v23 a_v23 b_v23
  refine ok_if ?_ ?_
  · intro C0
    exact vj_X2_checkClassHead_23 hn (by omega) (by omega) (by omega) (by omega) V_h
  · intro C0
    refine ok_cV (vf_X9_tell hn (by omega) (by omega) (by omega) (by omega) V_h) ?_; intro u26 E_u26 V_u26
    exact vj_X2_checkClassHead_23 hn (by omega) (by omega) (by omega) (by omega) V_u26
set_option maxRecDepth 4000 in
theorem vw_X2_nameClasses_47 {nn : Nat} (hn : 1000000 ≤ nn) : ∀ (k : Nat) {l1 : Int} {h : ms_M} (a_l1 : 0 ≤ l1) (b_l1 : l1 ≤ 334) (V_h : VS_ h)  (hm : 335 - l1 < (k : Int)), Ok_ (qw_X2_nameClasses_47 nn k l1 h) QV_ := by
  intro k
  induction k with
  | zero => intros; exfalso; omega
  | succ k ih =>
    intro l1 h a_l1 b_l1 V_h hm
    unfold qw_X2_nameClasses_47
    have T1 := gF_11_2 V_h
    refine ok_if ?_ ?_
    · intro C1
      exact ok_rV V_h
    · intro C1
      refine ok_rd (by omega) (gA_15 V_h) ?_; intro v4 e_v4 a_v4 b_v4
      refine ok_cP (vf_X9_valueAt hn (by omega) (by omega) V_h) ?_; intro u6 e_u6 a_u6 b_u6
      refine ok_if ?_ ?_
      · intro C2
        refine ok_add (by omega) ?_; intro v9 e_v9
        exact ih (by omega) (by omega) V_h (by omega)
      · intro C2
        refine ok_rd (by omega) (gA_16 V_h) ?_; intro v11 e_v11 a_v11 b_v11
        refine ok_if ?_ ?_
        · intro C3
          refine ok_add (by omega) ?_; intro v12 e_v12
          exact ih (by omega) (by omega) V_h (by omega)
        · intro C3
          refine ok_add (by omega) ?_; intro v14 e_v14
          refine ok_wA (by omega) ?_; intro h15 E_h15; have V_h15 : VS_ h15 := by rw [E_h15]; exact wA_16 V_h (by omega)
          refine ok_add (by omega) ?_; intro v16 e_v16
          exact ih (by omega) (by omega) V_h15 (by omega)
set_option maxRecDepth 4000 in
theorem vw_X2_nameClasses_2 {nn : Nat} (hn : 1000000 ≤ nn) : ∀ (k : Nat) {l1 : Int} {h : ms_M} (a_l1 : 0 ≤ l1) (b_l1 : l1 ≤ 1740) (V_h : VS_ h)  (hm : 1741 - l1 < (k : Int)), Ok_ (qw_X2_nameClasses_2 nn k l1 h) QV_ := by
  intro k
  induction k with
  | zero => intros; exfalso; omega
  | succ k ih =>
    intro l1 h a_l1 b_l1 V_h hm
    unfold qw_X2_nameClasses_2
    have T1 := gF_2_9 V_h
    refine ok_if ?_ ?_
    · intro C1
      exact vw_X2_nameClasses_47 hn _ (by omega) (by omega) V_h (by omega)
    · intro C1
      refine ok_if ?_ ?_
      · intro C2
        exfalso; omega
      · intro C2
        refine ok_if ?_ ?_
        · intro C3
          refine ok_wA (by omega) ?_; intro h25 E_h25; have V_h25 : VS_ h25 := by rw [E_h25]; exact wA_16 V_h (by omega)
          refine ok_add (by omega) ?_; intro v26 e_v26
          exact ih (by omega) (by omega) V_h25 (by omega)
        · intro C3
          refine ok_wA (by omega) ?_; intro h27 E_h27; have V_h27 : VS_ h27 := by rw [E_h27]; exact wA_16 V_h (by omega)
          refine ok_add (by omega) ?_; intro v28 e_v28
          exact ih (by omega) (by omega) V_h27 (by omega)
set_option maxRecDepth 4000 in
theorem vf_X2_nameClasses {nn : Nat} (hn : 1000000 ≤ nn) {h : ms_M} (V_h : VS_ h)  : Ok_ (qf_X2_nameClasses nn h) QV_ := by
  unfold qf_X2_nameClasses
  exact vw_X2_nameClasses_2 hn _ (by omega) (by omega) V_h (by omega)
set_option maxRecDepth 4000 in
theorem vf_X4_setAbove {nn : Nat} (hn : 1000000 ≤ nn) {a0 : Nat} {a1 : Int} {a2 : Int} {h : ms_M} (hb_a0 : kc_O a0 = 4) (a_a1 : 8 ≤ a1) (b_a1 : a1 ≤ 341) (a_a2 : (-1) ≤ a2) (b_a2 : a2 ≤ 341) (V_h : VS_ h)  : Ok_ (qf_X4_setAbove nn a0 a1 a2 h) QV_ := by
  unfold qf_X4_setAbove
  refine ok_cP (vf_X4_isClass hn (by omega) (by omega) V_h) ?_; intro u1 e_u1 a_u1 b_u1
  have T1 := pr_X4_isClass e_u1
  refine ok_if ?_ ?_
  · intro C1
    exact ok_rV V_h
  · intro C1
    refine ok_wA (by omega) ?_; intro h3 E_h3; have V_h3 : VS_ h3 := by rw [E_h3]; exact wKA_1 V_h hb_a0 (by omega)
    exact ok_rV V_h3
set_option maxRecDepth 4000 in
theorem vj_X2_readClasses_88 {nn : Nat} (hn : 1000000 ≤ nn) {h : ms_M} (V_h : VS_ h)  : Ok_ (qj_X2_readClasses_88 nn h) QV_ := by
  unfold qj_X2_readClasses_88
  refine ok_cV (vf_X4_settle hn rfl V_h) ?_; intro u3 E_u3 V_u3
  exact ok_rV V_u3
set_option maxRecDepth 4000 in
theorem vw_X2_readClasses_48 {nn : Nat} (hn : 1000000 ≤ nn) : ∀ (k : Nat) {l1 : Int} {h : ms_M} (a_l1 : 0 ≤ l1) (b_l1 : l1 ≤ 334) (V_h : VS_ h)  (hm : 335 - l1 < (k : Int)), Ok_ (qw_X2_readClasses_48 nn k l1 h) QV_ := by
  intro k
  induction k with
  | zero => intros; exfalso; omega
  | succ k ih =>
    intro l1 h a_l1 b_l1 V_h hm
    unfold qw_X2_readClasses_48
    have T1 := gF_11_2 V_h
    refine ok_if ?_ ?_
    · intro C1
      exact vj_X2_readClasses_88 hn V_h
    · intro C1
      have T3 := gF_2_11 V_h
      refine ok_if ?_ ?_
      · intro C3
        exact vj_X2_readClasses_88 hn V_h
      · intro C3
        refine ok_add (by omega) ?_; intro v8 e_v8
        refine ok_cP (vf_X2_classAbove hn (by omega) (by omega) V_h) ?_; intro u10 e_u10 a_u10 b_u10
        refine ok_cV (vf_X4_setAbove hn rfl (by omega) (by omega) (by omega) (by omega) V_h) ?_; intro u12 E_u12 V_u12
        refine ok_add (by omega) ?_; intro v13 e_v13
        exact ih (by omega) (by omega) V_u12 (by omega)
set_option maxRecDepth 4000 in
theorem vw_X2_readClasses_17 {nn : Nat} (hn : 1000000 ≤ nn) : ∀ (k : Nat) {l1 : Int} {h : ms_M} (a_l1 : 0 ≤ l1) (b_l1 : l1 ≤ 334) (V_h : VS_ h)  (hm : 335 - l1 < (k : Int)), Ok_ (qw_X2_readClasses_17 nn k l1 h) QV_ := by
  intro k
  induction k with
  | zero => intros; exfalso; omega
  | succ k ih =>
    intro l1 h a_l1 b_l1 V_h hm
    unfold qw_X2_readClasses_17
    have T1 := gF_11_2 V_h
    refine ok_if ?_ ?_
    · intro C1
      exact vw_X2_readClasses_48 hn _ (by omega) (by omega) V_h (by omega)
    · intro C1
      have T3 := gF_2_11 V_h
      refine ok_if ?_ ?_
      · intro C3
        exact vw_X2_readClasses_48 hn _ (by omega) (by omega) V_h (by omega)
      · intro C3
        refine ok_cV (vf_X2_checkClassHead hn (by omega) (by omega) V_h) ?_; intro u20 E_u20 V_u20
        refine ok_add (by omega) ?_; intro v21 e_v21
        exact ih (by omega) (by omega) V_u20 (by omega)
set_option maxRecDepth 4000 in
theorem vf_X2_readClasses {nn : Nat} (hn : 1000000 ≤ nn) {h : ms_M} (V_h : VS_ h)  : Ok_ (qf_X2_readClasses nn h) QV_ := by
  unfold qf_X2_readClasses
  have T1 := gF_2_11 V_h
  refine ok_if ?_ ?_
  · intro C1
    refine ok_cV (vf_X2_nameClasses hn V_h) ?_; intro u27 E_u27 V_u27
    exact vw_X2_readClasses_17 hn _ (by omega) (by omega) V_u27 (by omega)
  · intro C1
    exact ok_rV V_h
set_option maxRecDepth 4000 in
theorem vj_X2_skipBlock_60 {nn : Nat} (hn : 1000000 ≤ nn) {qkk_6 : Int → Int → Int → ms_M → Option ms_M} {K_kk_6 : Int} (hk_kk_6 : ∀ {l1 : Int} {l2 : Int} {l3 : Int} {h : ms_M} (a_l1 : (-2147483648) ≤ l1) (b_l1 : l1 ≤ 2147483647) (a_l2 : 0 ≤ l2) (b_l2 : l2 ≤ 1) (a_l3 : 0 ≤ l3) (b_l3 : l3 ≤ 3000) (V_h : VS_ h) (_ : 3001 - l3 < K_kk_6), Ok_ (qkk_6 l1 l2 l3 h) QV_) {l1 : Int} {l3 : Int} {h : ms_M} (a_l1 : (-2147483648) ≤ l1) (b_l1 : l1 ≤ 2147483647) (a_l3 : 0 ≤ l3) (b_l3 : l3 ≤ 2999) (V_h : VS_ h) (hm_kk_6 : 3001 - l3 + 0 ≤ K_kk_6) : Ok_ (qj_X2_skipBlock_60 nn qkk_6 l1 l3 h) QV_ := by
  unfold qj_X2_skipBlock_60
  have T1 := gF_2_10 V_h
  refine ok_addW (by omega) ?_; intro v3 a_v3 b_v3 w_v3
  refine ok_xl ?_; intro h4 E_h4; have V_h4 : VS_ h4 := by rw [E_h4]; exact wF_2_10 V_h (by omega)
  refine ok_if ?_ ?_
  · intro C1
    refine ok_add (by omega) ?_; intro v5 e_v5
    exact hk_kk_6 (by omega) (by omega) (by omega) (by omega) (by omega) (by omega) V_h4 (by omega)
  · intro C1
    refine ok_add (by omega) ?_; intro v6 e_v6
    exact hk_kk_6 (by omega) (by omega) (by omega) (by omega) (by omega) (by omega) V_h4 (by omega)
set_option maxRecDepth 4000 in
theorem vw_X2_skipBlock_6 {nn : Nat} (hn : 1000000 ≤ nn) : ∀ (k : Nat) {l1 : Int} {l2 : Int} {l3 : Int} {h : ms_M} (a_l1 : (-2147483648) ≤ l1) (b_l1 : l1 ≤ 2147483647) (a_l2 : 0 ≤ l2) (b_l2 : l2 ≤ 1) (a_l3 : 0 ≤ l3) (b_l3 : l3 ≤ 3000) (V_h : VS_ h)  (hm : 3001 - l3 < (k : Int)), Ok_ (qw_X2_skipBlock_6 nn k l1 l2 l3 h) QV_ := by
  intro k
  induction k with
  | zero => intros; exfalso; omega
  | succ k ih =>
    intro l1 l2 l3 h a_l1 b_l1 a_l2 b_l2 a_l3 b_l3 V_h hm
    unfold qw_X2_skipBlock_6
    refine ok_if ?_ ?_
    · intro C0
      exact ok_rV V_h
    · intro C0
      refine ok_if ?_ ?_
      · intro C1
        exact ok_rV V_h
      · intro C1
        refine ok_cP (vf_X9_kind hn V_h) ?_; intro u10 e_u10 a_u10 b_u10
        refine ok_if ?_ ?_
        · intro C2
          exact ok_rV V_h
        · intro C2
          refine ok_cP (vf_X9_kind hn V_h) ?_; intro u13 e_u13 a_u13 b_u13
          refine ok_if ?_ ?_
          · intro C3
            refine ok_cP (vf_X9_kind hn V_h) ?_; intro u16 e_u16 a_u16 b_u16
            refine ok_if ?_ ?_
            · intro C4
              exact vj_X2_skipBlock_60 hn ih (by omega) (by omega) (by omega) (by omega) V_h (by omega)
            · intro C4
              refine ok_addW (by omega) ?_; intro v17 a_v17 b_v17 w_v17
              exact vj_X2_skipBlock_60 hn ih (by omega) (by omega) (by omega) (by omega) V_h (by omega)
          · intro C3
            refine ok_addW (by omega) ?_; intro v19 a_v19 b_v19 w_v19
            exact vj_X2_skipBlock_60 hn ih (by omega) (by omega) (by omega) (by omega) V_h (by omega)
set_option maxRecDepth 4000 in
theorem vf_X2_skipBlock {nn : Nat} (hn : 1000000 ≤ nn) {h : ms_M} (V_h : VS_ h)  : Ok_ (qf_X2_skipBlock nn h) QV_ := by
  unfold qf_X2_skipBlock
  exact vw_X2_skipBlock_6 hn _ (by omega) (by omega) (by omega) (by omega) (by omega) (by omega) V_h (by omega)
set_option maxRecDepth 4000 in
theorem vf_X2_addClass {nn : Nat} (hn : 1000000 ≤ nn) {a1 : Int} {h : ms_M} (a_a1 : (-2147483648) ≤ a1) (b_a1 : a1 ≤ 2147483647) (V_h : VS_ h)  : Ok_ (qf_X2_addClass nn a1 h) QV_ := by
  unfold qf_X2_addClass
  have T1 := gF_11_2 V_h
  refine ok_if ?_ ?_
  · intro C1
    exact ok_rV V_h
  · intro C1
    refine ok_wA (by omega) ?_; intro h6 E_h6; have V_h6 : VS_ h6 := by rw [E_h6]; exact wA_15 V_h (by omega)
    have T3 : h6 11 2 = h 11 2 := by rw [E_h6]; exact up_n (fun z => absurd z.1 (by decide))
    refine ok_add (by omega) ?_; intro v8 e_v8
    refine ok_xl ?_; intro h9 E_h9; have V_h9 : VS_ h9 := by rw [E_h9]; exact wF_11_2 V_h6 (by omega)
    exact ok_rV V_h9
set_option maxRecDepth 4000 in
theorem vf_X8_accept {nn : Nat} (hn : 1000000 ≤ nn) {a1 : Int} {h : ms_M} (a_a1 : 10 ≤ a1) (b_a1 : a1 ≤ 51) (V_h : VS_ h)  : Ok_ (qf_X8_accept nn a1 h) (QI_ 0 1) := by
  unfold qf_X8_accept
  refine ok_cP (vf_X9_kind hn V_h) ?_; intro u3 e_u3 a_u3 b_u3
  refine ok_if ?_ ?_
  · intro C0
    have T2 := gF_2_10 V_h
    refine ok_addW (by omega) ?_; intro v6 a_v6 b_v6 w_v6
    refine ok_xl ?_; intro h7 E_h7; have V_h7 : VS_ h7 := by rw [E_h7]; exact wF_2_10 V_h (by omega)
    exact ok_rI V_h7 (by omega) (by omega)
  · intro C0
    exact ok_rI V_h (by omega) (by omega)
set_option maxRecDepth 4000 in
theorem vj_X9_tellHere_44 {nn : Nat} (hn : 1000000 ≤ nn) {s0 : Int} {h : ms_M} (a_s0 : 1 ≤ s0) (b_s0 : s0 ≤ 3) (V_h : VS_ h) (x_0 : 0 ≤ h 2 10 ∧ h 2 10 < h 2 3)  : Ok_ (qj_X9_tellHere_44 nn s0 h) QV_ := by
  unfold qj_X9_tellHere_44
  have T1 := gF_2_10 V_h
  have T2 := gF_2_3 V_h
  refine ok_xl ?_; intro h1 E_h1; have V_h1 : VS_ h1 := by rw [E_h1]; exact wF_2_11 V_h (by omega)
  have T3 : h1 2 10 = h 2 10 := by rw [E_h1]; exact up_n (by decide)
  refine ok_rd (by omega) (gA_4 V_h1) ?_; intro v4 e_v4 a_v4 b_v4
  refine ok_xl ?_; intro h5 E_h5; have V_h5 : VS_ h5 := by rw [E_h5]; exact wF_2_12 V_h1 (by omega)
  exact ok_rV V_h5
set_option maxRecDepth 4000 in
theorem vf_X9_tellHere {nn : Nat} (hn : 1000000 ≤ nn) {a1 : Int} {h : ms_M} (a_a1 : 2 ≤ a1) (b_a1 : a1 ≤ 3) (V_h : VS_ h)  : Ok_ (qf_X9_tellHere nn a1 h) QV_ := by
  unfold qf_X9_tellHere
  have T1 := gF_2_11 V_h
  refine ok_if ?_ ?_
  · intro C1
    exact ok_rV V_h
  · intro C1
    have T3 := gF_2_10 V_h
    refine ok_if ?_ ?_
    · intro C3
      exact ok_rV V_h
    · intro C3
      have T5 := gF_2_3 V_h
      refine ok_if ?_ ?_
      · intro C5
        exact ok_rV V_h
      · intro C5
        refine ok_rd (by omega) (gA_3 V_h) ?_; intro v12 e_v12 a_v12 b_v12
        refine ok_if ?_ ?_
        · intro C6
          exact vj_X9_tellHere_44 hn (by omega) (by omega) V_h (by omega)
        · intro C6
          exact vj_X9_tellHere_44 hn (by omega) (by omega) V_h (by omega)
set_option maxRecDepth 4000 in
theorem vf_X8_need {nn : Nat} (hn : 1000000 ≤ nn) {a1 : Int} {h : ms_M} (a_a1 : 2 ≤ a1) (b_a1 : a1 ≤ 51) (V_h : VS_ h)  : Ok_ (qf_X8_need nn a1 h) QV_ := by
  unfold qf_X8_need
  refine ok_cP (vf_X9_kind hn V_h) ?_; intro u3 e_u3 a_u3 b_u3
  refine ok_if ?_ ?_
  · intro C0
    refine ok_cV (vf_X9_tellHere hn (by omega) (by omega) V_h) ?_; intro u6 E_u6 V_u6
    exact ok_rV V_u6
  · intro C0
    have T2 := gF_2_10 V_h
    refine ok_addW (by omega) ?_; intro v9 a_v9 b_v9 w_v9
    refine ok_xl ?_; intro h10 E_h10; have V_h10 : VS_ h10 := by rw [E_h10]; exact wF_2_10 V_h (by omega)
    exact ok_rV V_h10
set_option maxRecDepth 4000 in
theorem vf_X8_binaryAhead {nn : Nat} (hn : 1000000 ≤ nn) {a1 : Int} {h : ms_M} (a_a1 : 0 ≤ a1) (b_a1 : a1 ≤ 1) (V_h : VS_ h)  : Ok_ (qf_X8_binaryAhead nn a1 h) (QP_ 0 1) := by
  unfold qf_X8_binaryAhead
  refine ok_cP (vf_X9_kind hn V_h) ?_; intro u3 e_u3 a_u3 b_u3
  refine ok_cP (vf_X9_level hn (by omega) (by omega) V_h) ?_; intro u4 e_u4 a_u4 b_u4
  refine ok_if ?_ ?_
  · intro C0
    exact ok_rP (by omega) (by omega)
  · intro C0
    refine ok_if ?_ ?_
    · intro C1
      exact ok_rP (by omega) (by omega)
    · intro C1
      refine ok_if ?_ ?_
      · intro C2
        exact ok_rP (by omega) (by omega)
      · intro C2
        exact ok_rP (by omega) (by omega)
set_option maxRecDepth 4000 in
theorem vj_X8_tooDeep_14 {nn : Nat} (hn : 1000000 ≤ nn) {h : ms_M} (V_h : VS_ h)  : Ok_ (qj_X8_tooDeep_14 nn h) (QI_ 0 1) := by
  unfold qj_X8_tooDeep_14
  have T1 := gF_2_11 V_h
  refine ok_if ?_ ?_
  · intro C1
    exact ok_rI V_h (by omega) (by omega)
  · intro C1
    exact ok_rI V_h (by omega) (by omega)
set_option maxRecDepth 4000 in
theorem vf_X8_tooDeep {nn : Nat} (hn : 1000000 ≤ nn) {a1 : Int} {h : ms_M} (a_a1 : (-2147483648) ≤ a1) (b_a1 : a1 ≤ 2147483647) (V_h : VS_ h)  : Ok_ (qf_X8_tooDeep nn a1 h) (QI_ 0 1) := by
  unfold qf_X8_tooDeep
  refine ok_if ?_ ?_
  · intro C0
    exact vj_X8_tooDeep_14 hn V_h
  · intro C0
    refine ok_cV (vf_X9_tellHere hn (by omega) (by omega) V_h) ?_; intro u6 E_u6 V_u6
    exact vj_X8_tooDeep_14 hn V_u6
set_option maxRecDepth 4000 in
theorem vj_X8_readType_24 {nn : Nat} (hn : 1000000 ≤ nn) {h : ms_M} (V_h : VS_ h)  : Ok_ (qj_X8_readType_24 nn h) QV_ := by
  unfold qj_X8_readType_24
  refine ok_cI (vf_X8_accept hn (by omega) (by omega) V_h) ?_; intro u2 E_u2 V_u2 a_u2 b_u2
  refine ok_if ?_ ?_
  · intro C0
    exact ok_rV V_u2
  · intro C0
    refine ok_cV (vf_X8_need hn (by omega) (by omega) V_u2) ?_; intro u4 E_u4 V_u4
    exact ok_rV V_u4
set_option maxRecDepth 4000 in
theorem vf_X8_readType {nn : Nat} (hn : 1000000 ≤ nn) {h : ms_M} (V_h : VS_ h)  : Ok_ (qf_X8_readType nn h) QV_ := by
  unfold qf_X8_readType
  refine ok_cI (vf_X8_accept hn (by omega) (by omega) V_h) ?_; intro u7 E_u7 V_u7 a_u7 b_u7
  refine ok_if ?_ ?_
  · intro C0
    refine ok_cI (vf_X8_accept hn (by omega) (by omega) V_u7) ?_; intro u9 E_u9 V_u9 a_u9 b_u9
    refine ok_if ?_ ?_
    · intro C1
      exact vj_X8_readType_24 hn V_u9
    · intro C1
      refine ok_cV (vf_X8_need hn (by omega) (by omega) V_u9) ?_; intro u11 E_u11 V_u11
      exact vj_X8_readType_24 hn V_u11
  · intro C0
    exact ok_rV V_u7
set_option maxRecDepth 4000 in
theorem vw_X8_readParameters_4 {nn : Nat} (hn : 1000000 ≤ nn) : ∀ (k : Nat) {l1 : Int} {l2 : Int} {h : ms_M} (a_l1 : 0 ≤ l1) (b_l1 : l1 ≤ 1) (a_l2 : 0 ≤ l2) (b_l2 : l2 ≤ 3000) (V_h : VS_ h)  (hm : 3001 - l2 < (k : Int)), Ok_ (qw_X8_readParameters_4 nn k l1 l2 h) QV_ := by
  intro k
  induction k with
  | zero => intros; exfalso; omega
  | succ k ih =>
    intro l1 l2 h a_l1 b_l1 a_l2 b_l2 V_h hm
    unfold qw_X8_readParameters_4
    refine ok_if ?_ ?_
    · intro C0
      exact ok_rV V_h
    · intro C0
      refine ok_if ?_ ?_
      · intro C1
        exact ok_rV V_h
      · intro C1
        refine ok_cV (vf_X8_readType hn V_h) ?_; intro u2 E_u2 V_u2
        refine ok_cV (vf_X8_need hn (by omega) (by omega) V_u2) ?_; intro u4 E_u4 V_u4
        refine ok_cI (vf_X8_accept hn (by omega) (by omega) V_u4) ?_; intro u6 E_u6 V_u6 a_u6 b_u6
        refine ok_add (by omega) ?_; intro v7 e_v7
        exact ih (by omega) (by omega) (by omega) (by omega) V_u6 (by omega)
set_option maxRecDepth 4000 in
theorem vf_X8_readParameters {nn : Nat} (hn : 1000000 ≤ nn) {h : ms_M} (V_h : VS_ h)  : Ok_ (qf_X8_readParameters nn h) QV_ := by
  unfold qf_X8_readParameters
  exact vw_X8_readParameters_4 hn _ (by omega) (by omega) (by omega) (by omega) V_h (by omega)
set_option maxRecDepth 4000 in
theorem vf_X9_refuse {nn : Nat} (hn : 1000000 ≤ nn) {a1 : Int} {a2 : Int} {h : ms_M} (a_a1 : 1 ≤ a1) (b_a1 : a1 ≤ 1) (a_a2 : 3000 ≤ a2) (b_a2 : a2 ≤ 3000) (V_h : VS_ h)  : Ok_ (qf_X9_refuse nn a1 a2 h) QV_ := by
  unfold qf_X9_refuse
  refine ok_xl ?_; intro h1 E_h1; have V_h1 : VS_ h1 := by rw [E_h1]; exact wF_2_11 V_h (by omega)
  refine ok_xl ?_; intro h2 E_h2; have V_h2 : VS_ h2 := by rw [E_h2]; exact wF_2_12 V_h1 (by omega)
  exact ok_rV V_h2
set_option maxRecDepth 4000 in
theorem vf_X9_addToken {nn : Nat} (hn : 1000000 ≤ nn) {a1 : Int} {a2 : Int} {a3 : Int} {h : ms_M} (a_a1 : 0 ≤ a1) (b_a1 : a1 ≤ 1740) (a_a2 : 0 ≤ a2) (b_a2 : a2 ≤ 3000) (a_a3 : 0 ≤ a3) (b_a3 : a3 ≤ 2147483647) (V_h : VS_ h)  : Ok_ (qf_X9_addToken nn a1 a2 a3 h) QV_ := by
  unfold qf_X9_addToken
  have T1 := gF_2_3 V_h
  refine ok_if ?_ ?_
  · intro C1
    exact ok_rV V_h
  · intro C1
    refine ok_wA (by omega) ?_; intro h6 E_h6; have V_h6 : VS_ h6 := by rw [E_h6]; exact wA_3 V_h (by omega)
    have T3 : h6 2 3 = h 2 3 := by rw [E_h6]; exact up_n (fun z => absurd z.1 (by decide))
    refine ok_wA (by omega) ?_; intro h9 E_h9; have V_h9 : VS_ h9 := by rw [E_h9]; exact wA_4 V_h6 (by omega)
    have T4 : h9 2 3 = h6 2 3 := by rw [E_h9]; exact up_n (fun z => absurd z.1 (by decide))
    refine ok_wA (by omega) ?_; intro h12 E_h12; have V_h12 : VS_ h12 := by rw [E_h12]; exact wA_5 V_h9 (by omega)
    have T5 : h12 2 3 = h9 2 3 := by rw [E_h12]; exact up_n (fun z => absurd z.1 (by decide))
    refine ok_add (by omega) ?_; intro v14 e_v14
    refine ok_xl ?_; intro h15 E_h15; have V_h15 : VS_ h15 := by rw [E_h15]; exact wF_2_3 V_h12 (by omega)
    exact ok_rV V_h15
set_option maxRecDepth 4000 in
theorem vj_X9_behindBlanks_45 {nn : Nat} (hn : 1000000 ≤ nn) {qkk_5 : Int → Int → Int → ms_M → Option Int} {K_kk_5 : Int} (hk_kk_5 : ∀ {l1 : Int} {l3 : Int} {l4 : Int} {h : ms_M} (a_l1 : 0 ≤ l1) (b_l1 : l1 ≤ 3000) (a_l3 : 0 ≤ l3) (b_l3 : l3 ≤ 12000) (a_l4 : 0 ≤ l4) (b_l4 : l4 ≤ 1) (V_h : VS_ h) (_ : 12001 - l3 < K_kk_5), Ok_ (qkk_5 l1 l3 l4 h) (QP_ 0 12000)) {l1 : Int} {l3 : Int} {l4 : Int} {l5 : Int} {h : ms_M} (a_l1 : 0 ≤ l1) (b_l1 : l1 ≤ 3000) (a_l3 : 0 ≤ l3) (b_l3 : l3 ≤ 2999) (a_l4 : 0 ≤ l4) (b_l4 : l4 ≤ 1) (a_l5 : (-128) ≤ l5) (b_l5 : l5 ≤ 127) (V_h : VS_ h) (hm_kk_5 : 12001 - l3 + 0 ≤ K_kk_5) : Ok_ (qj_X9_behindBlanks_45 nn qkk_5 l1 l3 l4 l5 h) (QP_ 0 12000) := by
  unfold qj_X9_behindBlanks_45
  refine ok_if ?_ ?_
  · intro C0
    refine ok_if ?_ ?_
    · intro C1
      refine ok_add (by omega) ?_; intro v1 e_v1
      exact hk_kk_5 (by omega) (by omega) (by omega) (by omega) (by omega) (by omega) V_h (by omega)
    · intro C1
      refine ok_if ?_ ?_
      · intro C2
        refine ok_add (by omega) ?_; intro v2 e_v2
        exact hk_kk_5 (by omega) (by omega) (by omega) (by omega) (by omega) (by omega) V_h (by omega)
      · intro C2
        exact ok_rP (by omega) (by omega)
  · intro C0
    refine ok_add (by omega) ?_; intro v5 e_v5
    exact hk_kk_5 (by omega) (by omega) (by omega) (by omega) (by omega) (by omega) V_h (by omega)
set_option maxRecDepth 4000 in
theorem vw_X9_behindBlanks_5 {nn : Nat} (hn : 1000000 ≤ nn) : ∀ (k : Nat) {l1 : Int} {l3 : Int} {l4 : Int} {h : ms_M} (a_l1 : 0 ≤ l1) (b_l1 : l1 ≤ 3000) (a_l3 : 0 ≤ l3) (b_l3 : l3 ≤ 12000) (a_l4 : 0 ≤ l4) (b_l4 : l4 ≤ 1) (V_h : VS_ h)  (hm : 12001 - l3 < (k : Int)), Ok_ (qw_X9_behindBlanks_5 nn k l1 l3 l4 h) (QP_ 0 12000) := by
  intro k
  induction k with
  | zero => intros; exfalso; omega
  | succ k ih =>
    intro l1 l3 l4 h a_l1 b_l1 a_l3 b_l3 a_l4 b_l4 V_h hm
    unfold qw_X9_behindBlanks_5
    refine ok_if ?_ ?_
    · intro C0
      exact ok_rP (by omega) (by omega)
    · intro C0
      refine ok_rd (by omega) (gA_1 V_h) ?_; intro v7 e_v7 a_v7 b_v7
      refine ok_if ?_ ?_
      · intro C1
        exact vj_X9_behindBlanks_45 hn ih (by omega) (by omega) (by omega) (by omega) (by omega) (by omega) (by omega) (by omega) V_h (by omega)
      · intro C1
        refine ok_add (by omega) ?_; intro v8 e_v8
        refine ok_if ?_ ?_
        · intro C2
          exact vj_X9_behindBlanks_45 hn ih (by omega) (by omega) (by omega) (by omega) (by omega) (by omega) (by omega) (by omega) V_h (by omega)
        · intro C2
          refine ok_add (by omega) ?_; intro v9 e_v9
          refine ok_rd (by omega) (gA_1 V_h) ?_; intro v10 e_v10 a_v10 b_v10
          refine ok_if ?_ ?_
          · intro C3
            exact vj_X9_behindBlanks_45 hn ih (by omega) (by omega) (by omega) (by omega) (by omega) (by omega) (by omega) (by omega) V_h (by omega)
          · intro C3
            refine ok_add (by omega) ?_; intro v11 e_v11
            exact ih (by omega) (by omega) (by omega) (by omega) (by omega) (by omega) V_h (by omega)
set_option maxRecDepth 4000 in
theorem vf_X9_behindBlanks {nn : Nat} (hn : 1000000 ≤ nn) {a1 : Int} {a2 : Int} {h : ms_M} (a_a1 : 0 ≤ a1) (b_a1 : a1 ≤ 3000) (a_a2 : 0 ≤ a2) (b_a2 : a2 ≤ 12000) (V_h : VS_ h)  : Ok_ (qf_X9_behindBlanks nn a1 a2 h) (QP_ 0 12000) := by
  unfold qf_X9_behindBlanks
  exact vw_X9_behindBlanks_5 hn _ (by omega) (by omega) (by omega) (by omega) (by omega) (by omega) V_h (by omega)
set_option maxRecDepth 4000 in
theorem vf_X9_isDigit {nn : Nat} (hn : 1000000 ≤ nn) {a0 : Int} {h : ms_M} (a_a0 : (-128) ≤ a0) (b_a0 : a0 ≤ 127) (V_h : VS_ h)  : Ok_ (qf_X9_isDigit nn a0 h) (QP_ 0 1) := by
  unfold qf_X9_isDigit
  refine ok_if ?_ ?_
  · intro C0
    exact ok_rP (by omega) (by omega)
  · intro C0
    refine ok_if ?_ ?_
    · intro C1
      exact ok_rP (by omega) (by omega)
    · intro C1
      exact ok_rP (by omega) (by omega)
set_option maxRecDepth 4000 in
theorem vj_X9_isLetter_12 {nn : Nat} (hn : 1000000 ≤ nn) {l0 : Int} {h : ms_M} (a_l0 : (-128) ≤ l0) (b_l0 : l0 ≤ 127) (V_h : VS_ h)  : Ok_ (qj_X9_isLetter_12 nn l0 h) (QP_ 0 1) := by
  unfold qj_X9_isLetter_12
  refine ok_if ?_ ?_
  · intro C0
    exact ok_rP (by omega) (by omega)
  · intro C0
    refine ok_if ?_ ?_
    · intro C1
      exact ok_rP (by omega) (by omega)
    · intro C1
      exact ok_rP (by omega) (by omega)
set_option maxRecDepth 4000 in
theorem vf_X9_isLetter {nn : Nat} (hn : 1000000 ≤ nn) {a0 : Int} {h : ms_M} (a_a0 : (-128) ≤ a0) (b_a0 : a0 ≤ 127) (V_h : VS_ h)  : Ok_ (qf_X9_isLetter nn a0 h) (QP_ 0 1) := by
  unfold qf_X9_isLetter
  refine ok_if ?_ ?_
  · intro C0
    exact vj_X9_isLetter_12 hn (by omega) (by omega) V_h
  · intro C0
    refine ok_if ?_ ?_
    · intro C1
      exact ok_rP (by omega) (by omega)
    · intro C1
      exact vj_X9_isLetter_12 hn (by omega) (by omega) V_h
set_option maxRecDepth 4000 in
theorem vf_X9_isNamePart {nn : Nat} (hn : 1000000 ≤ nn) {a0 : Int} {h : ms_M} (a_a0 : (-128) ≤ a0) (b_a0 : a0 ≤ 127) (V_h : VS_ h)  : Ok_ (qf_X9_isNamePart nn a0 h) (QP_ 0 1) := by
  unfold qf_X9_isNamePart
  refine ok_cP (vf_X9_isLetter hn (by omega) (by omega) V_h) ?_; intro u1 e_u1 a_u1 b_u1
  refine ok_if ?_ ?_
  · intro C0
    exact ok_rP (by omega) (by omega)
  · intro C0
    refine ok_cP (vf_X9_isDigit hn (by omega) (by omega) V_h) ?_; intro u2 e_u2 a_u2 b_u2
    have T2 := pr_X9_isDigit e_u2
    refine ok_if ?_ ?_
    · intro C2
      exact ok_rP (by omega) (by omega)
    · intro C2
      refine ok_if ?_ ?_
      · intro C3
        exact ok_rP (by omega) (by omega)
      · intro C3
        exact ok_rP (by omega) (by omega)
set_option maxRecDepth 4000 in
theorem vj_X9_scanNumber_96 {nn : Nat} (hn : 1000000 ≤ nn) {l3 : Int} {l4 : Int} {l6 : Int} {l7 : Int} {s0 : Int} {h : ms_M} (a_l3 : 0 ≤ l3) (b_l3 : l3 ≤ 2999) (a_l4 : 0 ≤ l4) (b_l4 : l4 ≤ 2147483648) (a_l6 : 0 ≤ l6) (b_l6 : l6 ≤ 3000) (a_l7 : 0 ≤ l7) (b_l7 : l7 ≤ 1) (a_s0 : 0 ≤ s0) (b_s0 : s0 ≤ 1) (V_h : VS_ h) (x_0 : l3 ≤ l6)  : Ok_ (qj_X9_scanNumber_96 nn l3 l4 l6 l7 s0 h) (QI_ 0 6000) := by
  unfold qj_X9_scanNumber_96
  refine ok_if ?_ ?_
  · intro C0
    exact ok_rI V_h (by omega) (by omega)
  · intro C0
    refine ok_if ?_ ?_
    · intro C1
      exact ok_rI V_h (by omega) (by omega)
    · intro C1
      refine ok_cmp ?_; intro v1 e_v1
      refine ok_if ?_ ?_
      · intro C2
        refine ok_l2i ?_; intro v2 a_v2 b_v2 e_v2
        refine ok_cV (vf_X9_addToken hn (by omega) (by omega) (by omega) (by omega) (by omega) (by omega) V_h) ?_; intro u4 E_u4 V_u4
        refine ok_sub (by omega) ?_; intro v5 e_v5
        exact ok_rI V_u4 (by omega) (by omega)
      · intro C2
        exact ok_rI V_h (by omega) (by omega)
set_option maxRecDepth 4000 in
theorem vj_X9_scanNumber_95 {nn : Nat} (hn : 1000000 ≤ nn) {l3 : Int} {l4 : Int} {l6 : Int} {l7 : Int} {h : ms_M} (a_l3 : 0 ≤ l3) (b_l3 : l3 ≤ 2999) (a_l4 : 0 ≤ l4) (b_l4 : l4 ≤ 2147483648) (a_l6 : 0 ≤ l6) (b_l6 : l6 ≤ 3000) (a_l7 : 0 ≤ l7) (b_l7 : l7 ≤ 1) (V_h : VS_ h) (x_0 : l3 ≤ l6)  : Ok_ (qj_X9_scanNumber_95 nn l3 l4 l6 l7 h) (QI_ 0 6000) := by
  unfold qj_X9_scanNumber_95
  exact vj_X9_scanNumber_96 hn (by omega) (by omega) (by omega) (by omega) (by omega) (by omega) (by omega) (by omega) (by omega) (by omega) V_h (by omega)
set_option maxRecDepth 4000 in
theorem vj_X9_scanNumber_73 {nn : Nat} (hn : 1000000 ≤ nn) {l2 : Int} {l3 : Int} {l4 : Int} {l6 : Int} {s0 : Int} {h : ms_M} (a_l2 : 1 ≤ l2) (b_l2 : l2 ≤ 3000) (a_l3 : 0 ≤ l3) (b_l3 : l3 ≤ 2999) (a_l4 : 0 ≤ l4) (b_l4 : l4 ≤ 2147483648) (a_l6 : 0 ≤ l6) (b_l6 : l6 ≤ 3000) (a_s0 : 0 ≤ s0) (b_s0 : s0 ≤ 1) (V_h : VS_ h) (x_0 : l3 ≤ l6)  : Ok_ (qj_X9_scanNumber_73 nn l2 l3 l4 l6 s0 h) (QI_ 0 6000) := by
  unfold qj_X9_scanNumber_73
  refine ok_if ?_ ?_
  · intro C0
    exact vj_X9_scanNumber_95 hn (by omega) (by omega) (by omega) (by omega) (by omega) (by omega) (by omega) (by omega) V_h (by omega)
  · intro C0
    refine ok_rd (by omega) (gA_1 V_h) ?_; intro v9 e_v9 a_v9 b_v9
    refine ok_cP (vf_X9_isNamePart hn (by omega) (by omega) V_h) ?_; intro u10 e_u10 a_u10 b_u10
    refine ok_if ?_ ?_
    · intro C1
      exact vj_X9_scanNumber_95 hn (by omega) (by omega) (by omega) (by omega) (by omega) (by omega) (by omega) (by omega) V_h (by omega)
    · intro C1
      exact vj_X9_scanNumber_96 hn (by omega) (by omega) (by omega) (by omega) (by omega) (by omega) (by omega) (by omega) (by omega) (by omega) V_h (by omega)
set_option maxRecDepth 4000 in
theorem vj_X9_scanNumber_72 {nn : Nat} (hn : 1000000 ≤ nn) {l2 : Int} {l3 : Int} {l4 : Int} {l6 : Int} {h : ms_M} (a_l2 : 1 ≤ l2) (b_l2 : l2 ≤ 3000) (a_l3 : 0 ≤ l3) (b_l3 : l3 ≤ 2999) (a_l4 : 0 ≤ l4) (b_l4 : l4 ≤ 2147483648) (a_l6 : 0 ≤ l6) (b_l6 : l6 ≤ 3000) (V_h : VS_ h) (x_0 : l3 ≤ l6)  : Ok_ (qj_X9_scanNumber_72 nn l2 l3 l4 l6 h) (QI_ 0 6000) := by
  unfold qj_X9_scanNumber_72
  exact vj_X9_scanNumber_73 hn (by omega) (by omega) (by omega) (by omega) (by omega) (by omega) (by omega) (by omega) (by omega) (by omega) V_h (by omega)
set_option maxRecDepth 4000 in
theorem vj_X9_scanNumber_52 {nn : Nat} (hn : 1000000 ≤ nn) {l2 : Int} {l3 : Int} {l4 : Int} {l6 : Int} {h : ms_M} (a_l2 : 1 ≤ l2) (b_l2 : l2 ≤ 3000) (a_l3 : 0 ≤ l3) (b_l3 : l3 ≤ 2999) (a_l4 : 0 ≤ l4) (b_l4 : l4 ≤ 2147483648) (a_l6 : 0 ≤ l6) (b_l6 : l6 ≤ 3000) (V_h : VS_ h) (x_0 : l3 ≤ l6)  : Ok_ (qj_X9_scanNumber_52 nn l2 l3 l4 l6 h) (QI_ 0 6000) := by
  unfold qj_X9_scanNumber_52
  refine ok_rd (by omega) (gA_1 V_h) ?_; intro v13 e_v13 a_v13 b_v13
  refine ok_if ?_ ?_
  · intro C0
    exact vj_X9_scanNumber_72 hn (by omega) (by omega) (by omega) (by omega) (by omega) (by omega) (by omega) (by omega) V_h (by omega)
  · intro C0
    refine ok_add (by omega) ?_; intro v14 e_v14
    refine ok_if ?_ ?_
    · intro C1
      exact vj_X9_scanNumber_72 hn (by omega) (by omega) (by omega) (by omega) (by omega) (by omega) (by omega) (by omega) V_h (by omega)
    · intro C1
      exact vj_X9_scanNumber_73 hn (by omega) (by omega) (by omega) (by omega) (by omega) (by omega) (by omega) (by omega) (by omega) (by omega) V_h (by omega)
set_option maxRecDepth 4000 in
theorem vw_X9_scanNumber_6 {nn : Nat} (hn : 1000000 ≤ nn) : ∀ (k : Nat) {l2 : Int} {l3 : Int} {l4 : Int} {l6 : Int} {h : ms_M} (a_l2 : 1 ≤ l2) (b_l2 : l2 ≤ 3000) (a_l3 : 0 ≤ l3) (b_l3 : l3 ≤ 2999) (a_l4 : 0 ≤ l4) (b_l4 : l4 ≤ 2147483648) (a_l6 : 0 ≤ l6) (b_l6 : l6 ≤ 3000) (V_h : VS_ h) (x_0 : l3 ≤ l6)  (hm : 3001 - l6 < (k : Int)), Ok_ (qw_X9_scanNumber_6 nn k l2 l3 l4 l6 h) (QI_ 0 6000) := by
  intro k
  induction k with
  | zero => intros; exfalso; omega
  | succ k ih =>
    intro l2 l3 l4 l6 h a_l2 b_l2 a_l3 b_l3 a_l4 b_l4 a_l6 b_l6 V_h x_0 hm
    unfold qw_X9_scanNumber_6
    refine ok_if ?_ ?_
    · intro C0
      exact vj_X9_scanNumber_52 hn (by omega) (by omega) (by omega) (by omega) (by omega) (by omega) (by omega) (by omega) V_h (by omega)
    · intro C0
      refine ok_rd (by omega) (gA_1 V_h) ?_; intro v17 e_v17 a_v17 b_v17
      refine ok_cP (vf_X9_isDigit hn (by omega) (by omega) V_h) ?_; intro u18 e_u18 a_u18 b_u18
      have T2 := pr_X9_isDigit e_u18
      refine ok_if ?_ ?_
      · intro C2
        exact vj_X9_scanNumber_52 hn (by omega) (by omega) (by omega) (by omega) (by omega) (by omega) (by omega) (by omega) V_h (by omega)
      · intro C2
        refine ok_c6 (by omega) ?_; intro v19 e_v19
        refine ok_rd (by omega) (gA_1 V_h) ?_; intro v20 e_v20 a_v20 b_v20
        refine ok_xl ?_; intro v21 e_v21
        refine ok_c6 (by omega) ?_; intro v22 e_v22
        refine ok_c6 (by omega) ?_; intro v23 e_v23
        refine ok_xl ?_; intro v24 e_v24
        refine ok_add (by omega) ?_; intro v25 e_v25
        exact ih (by omega) (by omega) (by omega) (by omega) (by omega) (by omega) (by omega) (by omega) V_h (by omega) (by omega)
set_option maxRecDepth 4000 in
theorem vf_X9_scanNumber {nn : Nat} (hn : 1000000 ≤ nn) {a2 : Int} {a3 : Int} {h : ms_M} (a_a2 : 1 ≤ a2) (b_a2 : a2 ≤ 3000) (a_a3 : 0 ≤ a3) (b_a3 : a3 ≤ 2999) (V_h : VS_ h)  : Ok_ (qf_X9_scanNumber nn a2 a3 h) (QI_ 0 6000) := by
  unfold qf_X9_scanNumber
  exact vw_X9_scanNumber_6 hn _ (by omega) (by omega) (by omega) (by omega) (by omega) (by omega) (by omega) (by omega) V_h (by omega) (by omega)

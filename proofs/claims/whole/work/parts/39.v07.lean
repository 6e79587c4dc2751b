set_option maxRecDepth 4000 in
theorem vf_X13_bad {nn : Nat} (hn : 1000000 ≤ nn) {a1 : Int} {a2 : Int} {a3 : Int} {a4 : Int} {h : ms_M} (a_a1 : 3 ≤ a1) (b_a1 : a1 ≤ 12) (a_a2 : 8 ≤ a2) (b_a2 : a2 ≤ 15) (a_a3 : (-1) ≤ a3) (b_a3 : a3 ≤ 254) (a_a4 : (-2147483648) ≤ a4) (b_a4 : a4 ≤ 65535) (V_h : VS_ h)  : Ok_ (qf_X13_bad nn a1 a2 a3 a4 h) (QI_ 0 0) := by
  unfold qf_X13_bad
  refine ok_xl ?_; intro h1 E_h1; have V_h1 : VS_ h1 := by rw [E_h1]; exact wF_160_122 V_h (by omega)
  refine ok_xl ?_; intro h2 E_h2; have V_h2 : VS_ h2 := by rw [E_h2]; exact wF_160_123 V_h1 (by omega)
  refine ok_xl ?_; intro h3 E_h3; have V_h3 : VS_ h3 := by rw [E_h3]; exact wF_160_124 V_h2 (by omega)
  refine ok_xl ?_; intro h4 E_h4; have V_h4 : VS_ h4 := by rw [E_h4]; exact wF_160_125 V_h3 (by omega)
  exact ok_rI V_h4 (by omega) (by omega)
set_option maxRecDepth 4000 in
theorem vf_X13_isThere {nn : Nat} (hn : 1000000 ≤ nn) {a0 : Int} {h : ms_M} (a_a0 : 0 ≤ a0) (b_a0 : a0 ≤ 4237) (V_h : VS_ h)  : Ok_ (qf_X13_isThere nn a0 h) (QP_ 0 1) := by
  unfold qf_X13_isThere
  refine ok_if ?_ ?_
  · intro C0
    exact ok_rP (by omega) (by omega)
  · intro C0
    refine ok_sub (by omega) ?_; intro v1 e_v1
    refine ok_div (n := 2) (by omega) ?_; intro v2 e_v2
    refine ok_if ?_ ?_
    · intro C1
      exact ok_rP (by omega) (by omega)
    · intro C1
      exact ok_rP (by omega) (by omega)
set_option maxRecDepth 4000 in
theorem vf_X13_isRow {nn : Nat} (hn : 1000000 ≤ nn) {a0 : Int} {h : ms_M} (a_a0 : (-2147483648) ≤ a0) (b_a0 : a0 ≤ 2147483647) (V_h : VS_ h)  : Ok_ (qf_X13_isRow nn a0 h) (QP_ 0 1) := by
  unfold qf_X13_isRow
  refine ok_if ?_ ?_
  · intro C0
    exact ok_rP (by omega) (by omega)
  · intro C0
    refine ok_if ?_ ?_
    · intro C1
      exact ok_rP (by omega) (by omega)
    · intro C1
      refine ok_rem (n := 2) (by omega) ?_; intro v1 e_v1
      refine ok_if ?_ ?_
      · intro C2
        exact ok_rP (by omega) (by omega)
      · intro C2
        exact ok_rP (by omega) (by omega)
set_option maxRecDepth 4000 in
theorem vf_X13_isJump {nn : Nat} (hn : 1000000 ≤ nn) {a0 : Int} {h : ms_M} (a_a0 : 0 ≤ a0) (b_a0 : a0 ≤ 255) (V_h : VS_ h)  : Ok_ (qf_X13_isJump nn a0 h) (QP_ 0 1) := by
  unfold qf_X13_isJump
  refine ok_if ?_ ?_
  · intro C0
    exact ok_rP (by omega) (by omega)
  · intro C0
    refine ok_if ?_ ?_
    · intro C1
      exact ok_rP (by omega) (by omega)
    · intro C1
      exact ok_rP (by omega) (by omega)
set_option maxRecDepth 4000 in
theorem vf_X13_pull {nn : Nat} (hn : 1000000 ≤ nn) {h : ms_M} (V_h : VS_ h)  : Ok_ (qf_X13_pull nn h) (QI_ (-2147483648) 2147483647) := by
  unfold qf_X13_pull
  have T1 := gF_160_131 V_h
  refine ok_if ?_ ?_
  · intro C1
    refine ok_sub (by omega) ?_; intro v3 e_v3
    refine ok_xl ?_; intro h4 E_h4; have V_h4 : VS_ h4 := by rw [E_h4]; exact wF_160_131 V_h (by omega)
    have T3 : h4 160 131 = v3 := by rw [E_h4]; exact up_s
    refine ok_rd (by omega) (gA_244 V_h4) ?_; intro v7 e_v7 a_v7 b_v7
    exact ok_rI V_h4 (by omega) (by omega)
  · intro C1
    exact ok_rI V_h (by omega) (by omega)
set_option maxRecDepth 4000 in
theorem vw_X13_pullInts_2 {nn : Nat} (hn : 1000000 ≤ nn) : ∀ (k : Nat) {l1 : Int} {l2 : Int} {h : ms_M} (a_l1 : 1 ≤ l1) (b_l1 : l1 ≤ 2) (a_l2 : 0 ≤ l2) (b_l2 : l2 ≤ 2) (V_h : VS_ h)  (hm : 3 - l2 < (k : Int)), Ok_ (qw_X13_pullInts_2 nn k l1 l2 h) (QI_ 0 1) := by
  intro k
  induction k with
  | zero => intros; exfalso; omega
  | succ k ih =>
    intro l1 l2 h a_l1 b_l1 a_l2 b_l2 V_h hm
    unfold qw_X13_pullInts_2
    refine ok_if ?_ ?_
    · intro C0
      exact ok_rI V_h (by omega) (by omega)
    · intro C0
      refine ok_cI (vf_X13_pull hn V_h) ?_; intro u2 E_u2 V_u2 a_u2 b_u2
      refine ok_if ?_ ?_
      · intro C1
        refine ok_add (by omega) ?_; intro v3 e_v3
        exact ih (by omega) (by omega) (by omega) (by omega) V_u2 (by omega)
      · intro C1
        exact ok_rI V_u2 (by omega) (by omega)
set_option maxRecDepth 4000 in
theorem vf_X13_pullInts {nn : Nat} (hn : 1000000 ≤ nn) {a1 : Int} {h : ms_M} (a_a1 : 1 ≤ a1) (b_a1 : a1 ≤ 2) (V_h : VS_ h)  : Ok_ (qf_X13_pullInts nn a1 h) (QI_ 0 1) := by
  unfold qf_X13_pullInts
  exact vw_X13_pullInts_2 hn _ (by omega) (by omega) (by omega) (by omega) V_h (by omega)
set_option maxRecDepth 4000 in
theorem vf_X13_pullThing {nn : Nat} (hn : 1000000 ≤ nn) {h : ms_M} (V_h : VS_ h)  : Ok_ (qf_X13_pullThing nn h) (QI_ 0 1) := by
  unfold qf_X13_pullThing
  refine ok_cI (vf_X13_pull hn V_h) ?_; intro u2 E_u2 V_u2 a_u2 b_u2
  refine ok_if ?_ ?_
  · intro C0
    exact ok_rI V_u2 (by omega) (by omega)
  · intro C0
    exact ok_rI V_u2 (by omega) (by omega)
set_option maxRecDepth 4000 in
theorem vf_X13_where {nn : Nat} (hn : 1000000 ≤ nn) {a1 : Int} {h : ms_M} (a_a1 : (-2147483648) ≤ a1) (b_a1 : a1 ≤ 2147483647) (V_h : VS_ h)  : Ok_ (qf_X13_where nn a1 h) (QP_ (-2147483648) 65535) := by
  unfold qf_X13_where
  refine ok_if ?_ ?_
  · intro C0
    refine ok_if ?_ ?_
    · intro C1
      refine ok_if ?_ ?_
      · intro C2
        exact ok_rP (by omega) (by omega)
      · intro C2
        have T4 := gF_160_125 V_h
        exact ok_rP (by omega) (by omega)
    · intro C1
      have T5 := gF_160_124 V_h
      exact ok_rP (by omega) (by omega)
  · intro C0
    have T6 := gF_160_123 V_h
    exact ok_rP (by omega) (by omega)

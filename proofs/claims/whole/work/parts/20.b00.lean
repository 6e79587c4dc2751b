/-- ClassMill$Kin.isClass(I)Z -/
def f_X4_isClass (nn : Nat) (a0 : Int32) (h : mx_H) : Option (Int32 × mx_H) := if a0 < 0 then (some (0, h)) else (if 16 ≤ a0 then (some (0, h)) else (some (1, h)))
set_option maxHeartbeats 4000000 in
theorem f_X4_isClass_ok (X : Nat × (Nat → Int32)) {F L : Nat} (hF : 0 ≤ F) (hL : 0 ≤ L) (nn : Nat) (a0 : Int32) (h : mx_H) {r : (Int32 × mx_H)} (hf : f_X4_isClass nn a0 h = some r) : mx_R X F L 134 [.int a0] h (some (.int r.1), r.2, 0, 0) := by
  have hm : mx_mt 134 = some (yX4_isClass, cX4_isClass, 1, (some .boolean)) := mt_X4_isClass
  show mx_S X F L 134 0 [(0, .int a0)] [] h 0 0 (some (.int r.1), r.2, 0, 0)
  unfold f_X4_isClass at hf
  refine mx_S.pu (pc2 := 1) (lv2 := [(0, .int a0)]) (st2 := [.int a0]) hm dX4_isClass_0 rfl ?_
  rcases mx_if_el hf with ⟨c2, hf⟩ | ⟨c2, hf⟩
  · refine sb_if_lt hm dX4_isClass_1 (tgt := 14) rfl (fun _ => ?_) (fun z => absurd c2 z)
    refine sx_ic (v := 0) hm dX4_isClass_14 (by decide) ?_
    cases hf
    exact sx_ire hm dX4_isClass_15 rfl (by decide)
  · refine sb_if_lt hm dX4_isClass_1 (tgt := 14) rfl (fun z => absurd z c2) (fun _ => ?_)
    refine mx_S.pu (pc2 := 5) (lv2 := [(0, .int a0)]) (st2 := [.int a0]) hm dX4_isClass_4 rfl ?_
    refine sx_bi (v := 16) hm dX4_isClass_5 (by decide) ?_
    rcases mx_if_el hf with ⟨c1, hf⟩ | ⟨c1, hf⟩
    · refine sb_ic_ge hm dX4_isClass_7 (tgt := 14) rfl (fun _ => ?_) (fun z => absurd c1 z)
      refine sx_ic (v := 0) hm dX4_isClass_14 (by decide) ?_
      cases hf
      exact sx_ire hm dX4_isClass_15 rfl (by decide)
    · refine sb_ic_ge hm dX4_isClass_7 (tgt := 14) rfl (fun z => absurd z c1) (fun _ => ?_)
      refine sx_ic (v := 1) hm dX4_isClass_10 (by decide) ?_
      refine mx_S.pu (pc2 := 15) (lv2 := [(0, .int a0)]) (st2 := [.int 1]) hm dX4_isClass_11 rfl ?_
      cases hf
      exact sx_ire hm dX4_isClass_15 rfl (by decide)
/-- ClassMill$Kin.above(I)I -/
def f_X4_above (nn : Nat) (a0 : Nat) (a1 : Int32) (h : mx_H) : Option (Int32 × mx_H) := mx_sv (f_X4_isClass nn a1 h) fun u1 => if u1.1 = 0 then (some ((-1), u1.2)) else (mx_sv (xgr u1.2 a0 4 0) fun v2 => mx_sv (xai u1.2 v2 a1) fun v3 => some (v3, u1.2))
set_option maxHeartbeats 4000000 in
theorem f_X4_above_ok (X : Nat × (Nat → Int32)) {F L : Nat} (hF : 1 ≤ F) (hL : 20 ≤ L) (nn : Nat) (a0 : Nat) (a1 : Int32) (h : mx_H) {r : (Int32 × mx_H)} (hf : f_X4_above nn a0 a1 h = some r) : mx_R X F L 131 [.ref a0, .int a1] h (some (.int r.1), r.2, 0, 0) := by
  have hm : mx_mt 131 = some (yX4_above, cX4_above, 2, (some .int)) := mt_X4_above
  show mx_S X F L 131 0 [(0, .ref a0), (1, .int a1)] [] h 0 0 (some (.int r.1), r.2, 0, 0)
  unfold f_X4_above at hf
  refine mx_S.pu (pc2 := 1) (lv2 := [(0, .ref a0), (1, .int a1)]) (st2 := [.int a1]) hm dX4_above_0 rfl ?_
  replace hf := mx_sv_el hf; obtain ⟨u1, e_u1, hf⟩ := hf
  refine sx_cs hm dX4_above_1 rs_RX4_31 mt_X4_isClass [.int a1] [] rfl rfl (Nat.le_of_ble_eq_true rfl) (Nat.le_of_ble_eq_true rfl) (by omega) (by omega) (f_X4_isClass_ok X (by omega) (by omega) nn a1 h e_u1) ?_
  clear e_u1
  show mx_S X F L 131 4 [(0, .ref a0), (1, .int a1)] [.int u1.1] u1.2 0 0 (some (.int r.1), r.2, 0, 0)
  rcases mx_if_el hf with ⟨c4, hf⟩ | ⟨c4, hf⟩
  · refine sb_if_eq hm dX4_above_4 (tgt := 16) rfl (fun _ => ?_) (fun z => absurd c4 z)
    refine sx_ic (v := (-1)) hm dX4_above_16 (by decide) ?_
    cases hf
    exact sx_ire hm dX4_above_17 rfl rfl
  · refine sb_if_eq hm dX4_above_4 (tgt := 16) rfl (fun z => absurd z c4) (fun _ => ?_)
    refine mx_S.pu (pc2 := 8) (lv2 := [(0, .ref a0), (1, .int a1)]) (st2 := [.ref a0]) hm dX4_above_7 rfl ?_
    replace hf := mx_sv_el hf; obtain ⟨v2, e_v2, hf⟩ := hf
    refine sx_get hm dX4_above_8 rs_RX4_11 (xgr_el e_v2) ?_
    clear e_v2
    refine mx_S.pu (pc2 := 12) (lv2 := [(0, .ref a0), (1, .int a1)]) (st2 := [.int a1, .ref v2]) hm dX4_above_11 rfl ?_
    replace hf := mx_sv_el hf; obtain ⟨v3, e_v3, hf⟩ := hf
    refine sx_ald hm dX4_above_12 e_v3 ?_
    clear e_v3
    refine mx_S.pu (pc2 := 17) (lv2 := [(0, .ref a0), (1, .int a1)]) (st2 := [.int v3]) hm dX4_above_13 rfl ?_
    cases hf
    exact sx_ire hm dX4_above_17 rfl rfl
/-- ClassMill$Kin.isNumber(I)Z -/
def f_X4_isNumber (nn : Nat) (a0 : Int32) (h : mx_H) : Option (Int32 × mx_H) := if a0 = 301 then (some (1, h)) else (if ¬ a0 = 302 then (some (0, h)) else (some (1, h)))
set_option maxHeartbeats 4000000 in
theorem f_X4_isNumber_ok (X : Nat × (Nat → Int32)) {F L : Nat} (hF : 0 ≤ F) (hL : 0 ≤ L) (nn : Nat) (a0 : Int32) (h : mx_H) {r : (Int32 × mx_H)} (hf : f_X4_isNumber nn a0 h = some r) : mx_R X F L 137 [.int a0] h (some (.int r.1), r.2, 0, 0) := by
  have hm : mx_mt 137 = some (yX4_isNumber, cX4_isNumber, 1, (some .boolean)) := mt_X4_isNumber
  show mx_S X F L 137 0 [(0, .int a0)] [] h 0 0 (some (.int r.1), r.2, 0, 0)
  unfold f_X4_isNumber at hf
  refine mx_S.pu (pc2 := 1) (lv2 := [(0, .int a0)]) (st2 := [.int a0]) hm dX4_isNumber_0 rfl ?_
  refine sx_si (v := 301) hm dX4_isNumber_1 (by decide) ?_
  rcases mx_if_el hf with ⟨c2, hf⟩ | ⟨c2, hf⟩
  · refine sb_ic_eq hm dX4_isNumber_4 (tgt := 14) rfl (fun _ => ?_) (fun z => absurd c2 z)
    refine sx_ic (v := 1) hm dX4_isNumber_14 (by decide) ?_
    refine mx_S.pu (pc2 := 19) (lv2 := [(0, .int a0)]) (st2 := [.int 1]) hm dX4_isNumber_15 rfl ?_
    cases hf
    exact sx_ire hm dX4_isNumber_19 rfl (by decide)
  · refine sb_ic_eq hm dX4_isNumber_4 (tgt := 14) rfl (fun z => absurd z c2) (fun _ => ?_)
    refine mx_S.pu (pc2 := 8) (lv2 := [(0, .int a0)]) (st2 := [.int a0]) hm dX4_isNumber_7 rfl ?_
    refine sx_si (v := 302) hm dX4_isNumber_8 (by decide) ?_
    rcases mx_if_el hf with ⟨c1, hf⟩ | ⟨c1, hf⟩
    · refine sb_ic_ne hm dX4_isNumber_11 (tgt := 18) rfl (fun _ => ?_) (fun z => absurd c1 z)
      refine sx_ic (v := 0) hm dX4_isNumber_18 (by decide) ?_
      cases hf
      exact sx_ire hm dX4_isNumber_19 rfl (by decide)
    · refine sb_ic_ne hm dX4_isNumber_11 (tgt := 18) rfl (fun z => absurd z c1) (fun _ => ?_)
      refine sx_ic (v := 1) hm dX4_isNumber_14 (by decide) ?_
      refine mx_S.pu (pc2 := 19) (lv2 := [(0, .int a0)]) (st2 := [.int 1]) hm dX4_isNumber_15 rfl ?_
      cases hf
      exact sx_ire hm dX4_isNumber_19 rfl (by decide)
/-- ClassMill$Kin.isReference(I)Z -/
def f_X4_isReference (nn : Nat) (a0 : Int32) (h : mx_H) : Option (Int32 × mx_H) := if a0 = 300 then (some (1, h)) else (if a0 < 0 then (some (0, h)) else (if 200 < a0 then (some (0, h)) else (some (1, h))))
set_option maxHeartbeats 4000000 in
theorem f_X4_isReference_ok (X : Nat × (Nat → Int32)) {F L : Nat} (hF : 0 ≤ F) (hL : 0 ≤ L) (nn : Nat) (a0 : Int32) (h : mx_H) {r : (Int32 × mx_H)} (hf : f_X4_isReference nn a0 h = some r) : mx_R X F L 136 [.int a0] h (some (.int r.1), r.2, 0, 0) := by
  have hm : mx_mt 136 = some (yX4_isReference, cX4_isReference, 1, (some .boolean)) := mt_X4_isReference
  show mx_S X F L 136 0 [(0, .int a0)] [] h 0 0 (some (.int r.1), r.2, 0, 0)
  unfold f_X4_isReference at hf
  refine mx_S.pu (pc2 := 1) (lv2 := [(0, .int a0)]) (st2 := [.int a0]) hm dX4_isReference_0 rfl ?_
  refine sx_si (v := 300) hm dX4_isReference_1 (by decide) ?_
  rcases mx_if_el hf with ⟨c3, hf⟩ | ⟨c3, hf⟩
  · refine sb_ic_eq hm dX4_isReference_4 (tgt := 18) rfl (fun _ => ?_) (fun z => absurd c3 z)
    refine sx_ic (v := 1) hm dX4_isReference_18 (by decide) ?_
    refine mx_S.pu (pc2 := 23) (lv2 := [(0, .int a0)]) (st2 := [.int 1]) hm dX4_isReference_19 rfl ?_
    cases hf
    exact sx_ire hm dX4_isReference_23 rfl (by decide)
  · refine sb_ic_eq hm dX4_isReference_4 (tgt := 18) rfl (fun z => absurd z c3) (fun _ => ?_)
    refine mx_S.pu (pc2 := 8) (lv2 := [(0, .int a0)]) (st2 := [.int a0]) hm dX4_isReference_7 rfl ?_
    rcases mx_if_el hf with ⟨c2, hf⟩ | ⟨c2, hf⟩
    · refine sb_if_lt hm dX4_isReference_8 (tgt := 22) rfl (fun _ => ?_) (fun z => absurd c2 z)
      refine sx_ic (v := 0) hm dX4_isReference_22 (by decide) ?_
      cases hf
      exact sx_ire hm dX4_isReference_23 rfl (by decide)
    · refine sb_if_lt hm dX4_isReference_8 (tgt := 22) rfl (fun z => absurd z c2) (fun _ => ?_)
      refine mx_S.pu (pc2 := 12) (lv2 := [(0, .int a0)]) (st2 := [.int a0]) hm dX4_isReference_11 rfl ?_
      refine sx_si (v := 200) hm dX4_isReference_12 (by decide) ?_
      rcases mx_if_el hf with ⟨c1, hf⟩ | ⟨c1, hf⟩
      · refine sb_ic_gt hm dX4_isReference_15 (tgt := 22) rfl (fun _ => ?_) (fun z => absurd c1 z)
        refine sx_ic (v := 0) hm dX4_isReference_22 (by decide) ?_
        cases hf
        exact sx_ire hm dX4_isReference_23 rfl (by decide)
      · refine sb_ic_gt hm dX4_isReference_15 (tgt := 22) rfl (fun z => absurd z c1) (fun _ => ?_)
        refine sx_ic (v := 1) hm dX4_isReference_18 (by decide) ?_
        refine mx_S.pu (pc2 := 23) (lv2 := [(0, .int a0)]) (st2 := [.int 1]) hm dX4_isReference_19 rfl ?_
        cases hf
        exact sx_ire hm dX4_isReference_23 rfl (by decide)
def j_X4_fits_123 (nn : Nat) (l0 : Nat) (l1 : Int32) (l2 : Int32) (s0 : Int32) (h : mx_H) : Option (Int32 × mx_H) := if s0 = 0 then (some (0, h)) else (mx_sv (xgr h l0 4 1) fun v1 => xl (l1 - 100 : Int32) fun v2 => xl (v2 * 16 : Int32) fun v3 => xl (v3 + l2 : Int32) fun v4 => xl (v4 - 100 : Int32) fun v5 => mx_sv (xab h v1 v5) fun v6 => if v6 = 0 then (some (0, h)) else (some (1, h)))
set_option maxHeartbeats 4000000 in
theorem j_X4_fits_123_ok (X : Nat × (Nat → Int32)) {F L : Nat} (hF : 0 ≤ F) (hL : 0 ≤ L) (nn : Nat) (l0 : Nat) (l1 : Int32) (l2 : Int32) (s0 : Int32) (h : mx_H) {r : (Int32 × mx_H)} (hf : j_X4_fits_123 nn l0 l1 l2 s0 h = some r) : mx_S X F L 139 123 [(0, .ref l0), (1, .int l1), (2, .int l2)] [.int s0] h 0 0 (some (.int r.1), r.2, 0, 0) := by
  have hm : mx_mt 139 = some (yX4_fits, cX4_fits, 4, (some .boolean)) := mt_X4_fits
  unfold j_X4_fits_123 at hf
  refine mx_S.pu (pc2 := 124) (lv2 := [(3, .int s0), (0, .ref l0), (1, .int l1), (2, .int l2)]) (st2 := []) hm dX4_fits_123 rfl ?_
  refine mx_S.pu (pc2 := 125) (lv2 := [(3, .int s0), (0, .ref l0), (1, .int l1), (2, .int l2)]) (st2 := [.int s0]) hm dX4_fits_124 rfl ?_
  rcases mx_if_el hf with ⟨c8, hf⟩ | ⟨c8, hf⟩
  · refine sb_if_eq hm dX4_fits_125 (tgt := 152) rfl (fun _ => ?_) (fun z => absurd c8 z)
    refine sx_ic (v := 0) hm dX4_fits_152 (by decide) ?_
    cases hf
    exact sx_ire hm dX4_fits_153 rfl (by decide)
  · refine sb_if_eq hm dX4_fits_125 (tgt := 152) rfl (fun z => absurd z c8) (fun _ => ?_)
    refine mx_S.pu (pc2 := 129) (lv2 := [(3, .int s0), (0, .ref l0), (1, .int l1), (2, .int l2)]) (st2 := [.ref l0]) hm dX4_fits_128 rfl ?_
    replace hf := mx_sv_el hf; obtain ⟨v1, e_v1, hf⟩ := hf
    refine sx_get hm dX4_fits_129 rs_RX4_15 (xgr_el e_v1) ?_
    clear e_v1
    refine mx_S.pu (pc2 := 133) (lv2 := [(3, .int s0), (0, .ref l0), (1, .int l1), (2, .int l2)]) (st2 := [.int l1, .ref v1]) hm dX4_fits_132 rfl ?_
    refine sx_bi (v := 100) hm dX4_fits_133 (by decide) ?_
    replace hf := xl_el hf; obtain ⟨v2, e_v2, hf⟩ := hf
    refine mx_S.pu (pc2 := 136) (lv2 := [(3, .int s0), (0, .ref l0), (1, .int l1), (2, .int l2)]) (st2 := [.int v2, .ref v1]) hm dX4_fits_135 (by rw [← e_v2]; rfl) ?_
    clear e_v2
    refine sx_bi (v := 16) hm dX4_fits_136 (by decide) ?_
    replace hf := xl_el hf; obtain ⟨v3, e_v3, hf⟩ := hf
    refine mx_S.pu (pc2 := 139) (lv2 := [(3, .int s0), (0, .ref l0), (1, .int l1), (2, .int l2)]) (st2 := [.int v3, .ref v1]) hm dX4_fits_138 (by rw [← e_v3]; rfl) ?_
    clear e_v3
    refine mx_S.pu (pc2 := 140) (lv2 := [(3, .int s0), (0, .ref l0), (1, .int l1), (2, .int l2)]) (st2 := [.int l2, .int v3, .ref v1]) hm dX4_fits_139 rfl ?_
    replace hf := xl_el hf; obtain ⟨v4, e_v4, hf⟩ := hf
    refine mx_S.pu (pc2 := 141) (lv2 := [(3, .int s0), (0, .ref l0), (1, .int l1), (2, .int l2)]) (st2 := [.int v4, .ref v1]) hm dX4_fits_140 (by rw [← e_v4]; rfl) ?_
    clear e_v4
    refine sx_bi (v := 100) hm dX4_fits_141 (by decide) ?_
    replace hf := xl_el hf; obtain ⟨v5, e_v5, hf⟩ := hf
    refine mx_S.pu (pc2 := 144) (lv2 := [(3, .int s0), (0, .ref l0), (1, .int l1), (2, .int l2)]) (st2 := [.int v5, .ref v1]) hm dX4_fits_143 (by rw [← e_v5]; rfl) ?_
    clear e_v5
    replace hf := mx_sv_el hf; obtain ⟨v6, e_v6, hf⟩ := hf
    refine sx_bld hm dX4_fits_144 e_v6 ?_
    clear e_v6
    rcases mx_if_el hf with ⟨c7, hf⟩ | ⟨c7, hf⟩
    · refine sb_if_eq hm dX4_fits_145 (tgt := 152) rfl (fun _ => ?_) (fun z => absurd c7 z)
      refine sx_ic (v := 0) hm dX4_fits_152 (by decide) ?_
      cases hf
      exact sx_ire hm dX4_fits_153 rfl (by decide)
    · refine sb_if_eq hm dX4_fits_145 (tgt := 152) rfl (fun z => absurd z c7) (fun _ => ?_)
      refine sx_ic (v := 1) hm dX4_fits_148 (by decide) ?_
      refine mx_S.pu (pc2 := 153) (lv2 := [(3, .int s0), (0, .ref l0), (1, .int l1), (2, .int l2)]) (st2 := [.int 1]) hm dX4_fits_149 rfl ?_
      cases hf
      exact sx_ire hm dX4_fits_153 rfl (by decide)
def j_X4_fits_122 (nn : Nat) (l0 : Nat) (l1 : Int32) (l2 : Int32) (h : mx_H) : Option (Int32 × mx_H) := j_X4_fits_123 nn l0 l1 l2 0 h
set_option maxHeartbeats 4000000 in
theorem j_X4_fits_122_ok (X : Nat × (Nat → Int32)) {F L : Nat} (hF : 0 ≤ F) (hL : 0 ≤ L) (nn : Nat) (l0 : Nat) (l1 : Int32) (l2 : Int32) (h : mx_H) {r : (Int32 × mx_H)} (hf : j_X4_fits_122 nn l0 l1 l2 h = some r) : mx_S X F L 139 122 [(0, .ref l0), (1, .int l1), (2, .int l2)] [] h 0 0 (some (.int r.1), r.2, 0, 0) := by
  have hm : mx_mt 139 = some (yX4_fits, cX4_fits, 4, (some .boolean)) := mt_X4_fits
  unfold j_X4_fits_122 at hf
  refine sx_ic (v := 0) hm dX4_fits_122 (by decide) ?_
  exact j_X4_fits_123_ok X hF hL nn l0 l1 l2 0 h hf
def j_X4_fits_71 (nn : Nat) (l0 : Nat) (l1 : Int32) (l2 : Int32) (h : mx_H) : Option (Int32 × mx_H) := if ¬ l2 = 0 then (if l1 < 100 then (j_X4_fits_122 nn l0 l1 l2 h) else (if 116 ≤ l1 then (j_X4_fits_122 nn l0 l1 l2 h) else (if l2 < 100 then (j_X4_fits_122 nn l0 l1 l2 h) else (if 116 ≤ l2 then (j_X4_fits_122 nn l0 l1 l2 h) else (j_X4_fits_123 nn l0 l1 l2 1 h))))) else (if l1 < 100 then (some (0, h)) else (if 200 < l1 then (some (0, h)) else (some (1, h))))
set_option maxHeartbeats 4000000 in
theorem j_X4_fits_71_ok (X : Nat × (Nat → Int32)) {F L : Nat} (hF : 0 ≤ F) (hL : 0 ≤ L) (nn : Nat) (l0 : Nat) (l1 : Int32) (l2 : Int32) (h : mx_H) {r : (Int32 × mx_H)} (hf : j_X4_fits_71 nn l0 l1 l2 h = some r) : mx_S X F L 139 71 [(0, .ref l0), (1, .int l1), (2, .int l2)] [] h 0 0 (some (.int r.1), r.2, 0, 0) := by
  have hm : mx_mt 139 = some (yX4_fits, cX4_fits, 4, (some .boolean)) := mt_X4_fits
  unfold j_X4_fits_71 at hf
  refine mx_S.pu (pc2 := 72) (lv2 := [(0, .ref l0), (1, .int l1), (2, .int l2)]) (st2 := [.int l2]) hm dX4_fits_71 rfl ?_
  rcases mx_if_el hf with ⟨c15, hf⟩ | ⟨c15, hf⟩
  · refine sb_if_ne hm dX4_fits_72 (tgt := 94) rfl (fun _ => ?_) (fun z => absurd c15 z)
    refine mx_S.pu (pc2 := 95) (lv2 := [(0, .ref l0), (1, .int l1), (2, .int l2)]) (st2 := [.int l1]) hm dX4_fits_94 rfl ?_
    refine sx_bi (v := 100) hm dX4_fits_95 (by decide) ?_
    rcases mx_if_el hf with ⟨c12, hf⟩ | ⟨c12, hf⟩
    · refine sb_ic_lt hm dX4_fits_97 (tgt := 122) rfl (fun _ => ?_) (fun z => absurd c12 z)
      exact j_X4_fits_122_ok X hF hL nn l0 l1 l2 h hf
    · refine sb_ic_lt hm dX4_fits_97 (tgt := 122) rfl (fun z => absurd z c12) (fun _ => ?_)
      refine mx_S.pu (pc2 := 101) (lv2 := [(0, .ref l0), (1, .int l1), (2, .int l2)]) (st2 := [.int l1]) hm dX4_fits_100 rfl ?_
      refine sx_bi (v := 116) hm dX4_fits_101 (by decide) ?_
      rcases mx_if_el hf with ⟨c11, hf⟩ | ⟨c11, hf⟩
      · refine sb_ic_ge hm dX4_fits_103 (tgt := 122) rfl (fun _ => ?_) (fun z => absurd c11 z)
        exact j_X4_fits_122_ok X hF hL nn l0 l1 l2 h hf
      · refine sb_ic_ge hm dX4_fits_103 (tgt := 122) rfl (fun z => absurd z c11) (fun _ => ?_)
        refine mx_S.pu (pc2 := 107) (lv2 := [(0, .ref l0), (1, .int l1), (2, .int l2)]) (st2 := [.int l2]) hm dX4_fits_106 rfl ?_
        refine sx_bi (v := 100) hm dX4_fits_107 (by decide) ?_
        rcases mx_if_el hf with ⟨c10, hf⟩ | ⟨c10, hf⟩
        · refine sb_ic_lt hm dX4_fits_109 (tgt := 122) rfl (fun _ => ?_) (fun z => absurd c10 z)
          exact j_X4_fits_122_ok X hF hL nn l0 l1 l2 h hf
        · refine sb_ic_lt hm dX4_fits_109 (tgt := 122) rfl (fun z => absurd z c10) (fun _ => ?_)
          refine mx_S.pu (pc2 := 113) (lv2 := [(0, .ref l0), (1, .int l1), (2, .int l2)]) (st2 := [.int l2]) hm dX4_fits_112 rfl ?_
          refine sx_bi (v := 116) hm dX4_fits_113 (by decide) ?_
          rcases mx_if_el hf with ⟨c9, hf⟩ | ⟨c9, hf⟩
          · refine sb_ic_ge hm dX4_fits_115 (tgt := 122) rfl (fun _ => ?_) (fun z => absurd c9 z)
            exact j_X4_fits_122_ok X hF hL nn l0 l1 l2 h hf
          · refine sb_ic_ge hm dX4_fits_115 (tgt := 122) rfl (fun z => absurd z c9) (fun _ => ?_)
            refine sx_ic (v := 1) hm dX4_fits_118 (by decide) ?_
            refine mx_S.pu (pc2 := 123) (lv2 := [(0, .ref l0), (1, .int l1), (2, .int l2)]) (st2 := [.int 1]) hm dX4_fits_119 rfl ?_
            exact j_X4_fits_123_ok X hF hL nn l0 l1 l2 1 h hf
  · refine sb_if_ne hm dX4_fits_72 (tgt := 94) rfl (fun z => absurd z c15) (fun _ => ?_)
    refine mx_S.pu (pc2 := 76) (lv2 := [(0, .ref l0), (1, .int l1), (2, .int l2)]) (st2 := [.int l1]) hm dX4_fits_75 rfl ?_
    refine sx_bi (v := 100) hm dX4_fits_76 (by decide) ?_
    rcases mx_if_el hf with ⟨c14, hf⟩ | ⟨c14, hf⟩
    · refine sb_ic_lt hm dX4_fits_78 (tgt := 92) rfl (fun _ => ?_) (fun z => absurd c14 z)
      refine sx_ic (v := 0) hm dX4_fits_92 (by decide) ?_
      cases hf
      exact sx_ire hm dX4_fits_93 rfl (by decide)
    · refine sb_ic_lt hm dX4_fits_78 (tgt := 92) rfl (fun z => absurd z c14) (fun _ => ?_)
      refine mx_S.pu (pc2 := 82) (lv2 := [(0, .ref l0), (1, .int l1), (2, .int l2)]) (st2 := [.int l1]) hm dX4_fits_81 rfl ?_
      refine sx_si (v := 200) hm dX4_fits_82 (by decide) ?_
      rcases mx_if_el hf with ⟨c13, hf⟩ | ⟨c13, hf⟩
      · refine sb_ic_gt hm dX4_fits_85 (tgt := 92) rfl (fun _ => ?_) (fun z => absurd c13 z)
        refine sx_ic (v := 0) hm dX4_fits_92 (by decide) ?_
        cases hf
        exact sx_ire hm dX4_fits_93 rfl (by decide)
      · refine sb_ic_gt hm dX4_fits_85 (tgt := 92) rfl (fun z => absurd z c13) (fun _ => ?_)
        refine sx_ic (v := 1) hm dX4_fits_88 (by decide) ?_
        refine mx_S.pu (pc2 := 93) (lv2 := [(0, .ref l0), (1, .int l1), (2, .int l2)]) (st2 := [.int 1]) hm dX4_fits_89 rfl ?_
        cases hf
        exact sx_ire hm dX4_fits_93 rfl (by decide)
/-- ClassMill$Kin.fits(II)Z -/
def f_X4_fits (nn : Nat) (a0 : Nat) (a1 : Int32) (a2 : Int32) (h : mx_H) : Option (Int32 × mx_H) := if ¬ a1 = a2 then (if ¬ a1 = 300 then (if a1 < 0 then (j_X4_fits_71 nn a0 a1 a2 h) else (if 16 ≤ a1 then (j_X4_fits_71 nn a0 a1 a2 h) else (if a2 < 0 then (some (0, h)) else (if 16 ≤ a2 then (some (0, h)) else (mx_sv (xgr h a0 4 1) fun v16 => xl (a1 * 16 : Int32) fun v17 => xl (v17 + a2 : Int32) fun v18 => mx_sv (xab h v16 v18) fun v19 => if v19 = 0 then (some (0, h)) else (some (1, h))))))) else (if a2 < 0 then (some (0, h)) else (if 200 < a2 then (some (0, h)) else (some (1, h))))) else (some (1, h))
set_option maxHeartbeats 4000000 in
theorem f_X4_fits_ok (X : Nat × (Nat → Int32)) {F L : Nat} (hF : 0 ≤ F) (hL : 0 ≤ L) (nn : Nat) (a0 : Nat) (a1 : Int32) (a2 : Int32) (h : mx_H) {r : (Int32 × mx_H)} (hf : f_X4_fits nn a0 a1 a2 h = some r) : mx_R X F L 139 [.ref a0, .int a1, .int a2] h (some (.int r.1), r.2, 0, 0) := by
  have hm : mx_mt 139 = some (yX4_fits, cX4_fits, 4, (some .boolean)) := mt_X4_fits
  show mx_S X F L 139 0 [(0, .ref a0), (1, .int a1), (2, .int a2)] [] h 0 0 (some (.int r.1), r.2, 0, 0)
  unfold f_X4_fits at hf
  refine mx_S.pu (pc2 := 1) (lv2 := [(0, .ref a0), (1, .int a1), (2, .int a2)]) (st2 := [.int a1]) hm dX4_fits_0 rfl ?_
  refine mx_S.pu (pc2 := 2) (lv2 := [(0, .ref a0), (1, .int a1), (2, .int a2)]) (st2 := [.int a2, .int a1]) hm dX4_fits_1 rfl ?_
  rcases mx_if_el hf with ⟨c28, hf⟩ | ⟨c28, hf⟩
  · refine sb_ic_ne hm dX4_fits_2 (tgt := 7) rfl (fun _ => ?_) (fun z => absurd c28 z)
    refine mx_S.pu (pc2 := 8) (lv2 := [(0, .ref a0), (1, .int a1), (2, .int a2)]) (st2 := [.int a1]) hm dX4_fits_7 rfl ?_
    refine sx_si (v := 300) hm dX4_fits_8 (by decide) ?_
    rcases mx_if_el hf with ⟨c27, hf⟩ | ⟨c27, hf⟩
    · refine sb_ic_ne hm dX4_fits_11 (tgt := 31) rfl (fun _ => ?_) (fun z => absurd c27 z)
      refine mx_S.pu (pc2 := 32) (lv2 := [(0, .ref a0), (1, .int a1), (2, .int a2)]) (st2 := [.int a1]) hm dX4_fits_31 rfl ?_
      rcases mx_if_el hf with ⟨c24, hf⟩ | ⟨c24, hf⟩
      · refine sb_if_lt hm dX4_fits_32 (tgt := 71) rfl (fun _ => ?_) (fun z => absurd c24 z)
        exact j_X4_fits_71_ok X hF hL nn a0 a1 a2 h hf
      · refine sb_if_lt hm dX4_fits_32 (tgt := 71) rfl (fun z => absurd z c24) (fun _ => ?_)
        refine mx_S.pu (pc2 := 36) (lv2 := [(0, .ref a0), (1, .int a1), (2, .int a2)]) (st2 := [.int a1]) hm dX4_fits_35 rfl ?_
        refine sx_bi (v := 16) hm dX4_fits_36 (by decide) ?_
        rcases mx_if_el hf with ⟨c23, hf⟩ | ⟨c23, hf⟩
        · refine sb_ic_ge hm dX4_fits_38 (tgt := 71) rfl (fun _ => ?_) (fun z => absurd c23 z)
          exact j_X4_fits_71_ok X hF hL nn a0 a1 a2 h hf
        · refine sb_ic_ge hm dX4_fits_38 (tgt := 71) rfl (fun z => absurd z c23) (fun _ => ?_)
          refine mx_S.pu (pc2 := 42) (lv2 := [(0, .ref a0), (1, .int a1), (2, .int a2)]) (st2 := [.int a2]) hm dX4_fits_41 rfl ?_
          rcases mx_if_el hf with ⟨c22, hf⟩ | ⟨c22, hf⟩
          · refine sb_if_lt hm dX4_fits_42 (tgt := 69) rfl (fun _ => ?_) (fun z => absurd c22 z)
            refine sx_ic (v := 0) hm dX4_fits_69 (by decide) ?_
            cases hf
            exact sx_ire hm dX4_fits_70 rfl (by decide)
          · refine sb_if_lt hm dX4_fits_42 (tgt := 69) rfl (fun z => absurd z c22) (fun _ => ?_)
            refine mx_S.pu (pc2 := 46) (lv2 := [(0, .ref a0), (1, .int a1), (2, .int a2)]) (st2 := [.int a2]) hm dX4_fits_45 rfl ?_
            refine sx_bi (v := 16) hm dX4_fits_46 (by decide) ?_
            rcases mx_if_el hf with ⟨c21, hf⟩ | ⟨c21, hf⟩
            · refine sb_ic_ge hm dX4_fits_48 (tgt := 69) rfl (fun _ => ?_) (fun z => absurd c21 z)
              refine sx_ic (v := 0) hm dX4_fits_69 (by decide) ?_
              cases hf
              exact sx_ire hm dX4_fits_70 rfl (by decide)
            · refine sb_ic_ge hm dX4_fits_48 (tgt := 69) rfl (fun z => absurd z c21) (fun _ => ?_)
              refine mx_S.pu (pc2 := 52) (lv2 := [(0, .ref a0), (1, .int a1), (2, .int a2)]) (st2 := [.ref a0]) hm dX4_fits_51 rfl ?_
              replace hf := mx_sv_el hf; obtain ⟨v16, e_v16, hf⟩ := hf
              refine sx_get hm dX4_fits_52 rs_RX4_15 (xgr_el e_v16) ?_
              clear e_v16
              refine mx_S.pu (pc2 := 56) (lv2 := [(0, .ref a0), (1, .int a1), (2, .int a2)]) (st2 := [.int a1, .ref v16]) hm dX4_fits_55 rfl ?_
              refine sx_bi (v := 16) hm dX4_fits_56 (by decide) ?_
              replace hf := xl_el hf; obtain ⟨v17, e_v17, hf⟩ := hf
              refine mx_S.pu (pc2 := 59) (lv2 := [(0, .ref a0), (1, .int a1), (2, .int a2)]) (st2 := [.int v17, .ref v16]) hm dX4_fits_58 (by rw [← e_v17]; rfl) ?_
              clear e_v17
              refine mx_S.pu (pc2 := 60) (lv2 := [(0, .ref a0), (1, .int a1), (2, .int a2)]) (st2 := [.int a2, .int v17, .ref v16]) hm dX4_fits_59 rfl ?_
              replace hf := xl_el hf; obtain ⟨v18, e_v18, hf⟩ := hf
              refine mx_S.pu (pc2 := 61) (lv2 := [(0, .ref a0), (1, .int a1), (2, .int a2)]) (st2 := [.int v18, .ref v16]) hm dX4_fits_60 (by rw [← e_v18]; rfl) ?_
              clear e_v18
              replace hf := mx_sv_el hf; obtain ⟨v19, e_v19, hf⟩ := hf
              refine sx_bld hm dX4_fits_61 e_v19 ?_
              clear e_v19
              rcases mx_if_el hf with ⟨c20, hf⟩ | ⟨c20, hf⟩
              · refine sb_if_eq hm dX4_fits_62 (tgt := 69) rfl (fun _ => ?_) (fun z => absurd c20 z)
                refine sx_ic (v := 0) hm dX4_fits_69 (by decide) ?_
                cases hf
                exact sx_ire hm dX4_fits_70 rfl (by decide)
              · refine sb_if_eq hm dX4_fits_62 (tgt := 69) rfl (fun z => absurd z c20) (fun _ => ?_)
                refine sx_ic (v := 1) hm dX4_fits_65 (by decide) ?_
                refine mx_S.pu (pc2 := 70) (lv2 := [(0, .ref a0), (1, .int a1), (2, .int a2)]) (st2 := [.int 1]) hm dX4_fits_66 rfl ?_
                cases hf
                exact sx_ire hm dX4_fits_70 rfl (by decide)
    · refine sb_ic_ne hm dX4_fits_11 (tgt := 31) rfl (fun z => absurd z c27) (fun _ => ?_)
      refine mx_S.pu (pc2 := 15) (lv2 := [(0, .ref a0), (1, .int a1), (2, .int a2)]) (st2 := [.int a2]) hm dX4_fits_14 rfl ?_
      rcases mx_if_el hf with ⟨c26, hf⟩ | ⟨c26, hf⟩
      · refine sb_if_lt hm dX4_fits_15 (tgt := 29) rfl (fun _ => ?_) (fun z => absurd c26 z)
        refine sx_ic (v := 0) hm dX4_fits_29 (by decide) ?_
        cases hf
        exact sx_ire hm dX4_fits_30 rfl (by decide)
      · refine sb_if_lt hm dX4_fits_15 (tgt := 29) rfl (fun z => absurd z c26) (fun _ => ?_)
        refine mx_S.pu (pc2 := 19) (lv2 := [(0, .ref a0), (1, .int a1), (2, .int a2)]) (st2 := [.int a2]) hm dX4_fits_18 rfl ?_
        refine sx_si (v := 200) hm dX4_fits_19 (by decide) ?_
        rcases mx_if_el hf with ⟨c25, hf⟩ | ⟨c25, hf⟩
        · refine sb_ic_gt hm dX4_fits_22 (tgt := 29) rfl (fun _ => ?_) (fun z => absurd c25 z)
          refine sx_ic (v := 0) hm dX4_fits_29 (by decide) ?_
          cases hf
          exact sx_ire hm dX4_fits_30 rfl (by decide)
        · refine sb_ic_gt hm dX4_fits_22 (tgt := 29) rfl (fun z => absurd z c25) (fun _ => ?_)
          refine sx_ic (v := 1) hm dX4_fits_25 (by decide) ?_
          refine mx_S.pu (pc2 := 30) (lv2 := [(0, .ref a0), (1, .int a1), (2, .int a2)]) (st2 := [.int 1]) hm dX4_fits_26 rfl ?_
          cases hf
          exact sx_ire hm dX4_fits_30 rfl (by decide)
  · refine sb_ic_ne hm dX4_fits_2 (tgt := 7) rfl (fun z => absurd z c28) (fun _ => ?_)
    refine sx_ic (v := 1) hm dX4_fits_5 (by decide) ?_
    cases hf
    exact sx_ire hm dX4_fits_6 rfl (by decide)
/-- ClassMill$Kin.oneFits(II)Z -/
def f_X4_oneFits (nn : Nat) (a0 : Nat) (a1 : Int32) (a2 : Int32) (h : mx_H) : Option (Int32 × mx_H) := mx_gd (xis h a0 4) <| mx_sv (f_X4_fits nn a0 a1 a2 h) fun u2 => if ¬ u2.1 = 0 then (some (1, u2.2)) else (mx_gd (xis u2.2 a0 4) <| mx_sv (f_X4_fits nn a0 a2 a1 u2.2) fun u4 => if u4.1 = 0 then (some (0, u4.2)) else (some (1, u4.2)))
set_option maxHeartbeats 4000000 in
theorem f_X4_oneFits_ok (X : Nat × (Nat → Int32)) {F L : Nat} (hF : 1 ≤ F) (hL : 23 ≤ L) (nn : Nat) (a0 : Nat) (a1 : Int32) (a2 : Int32) (h : mx_H) {r : (Int32 × mx_H)} (hf : f_X4_oneFits nn a0 a1 a2 h = some r) : mx_R X F L 140 [.ref a0, .int a1, .int a2] h (some (.int r.1), r.2, 0, 0) := by
  have hm : mx_mt 140 = some (yX4_oneFits, cX4_oneFits, 3, (some .boolean)) := mt_X4_oneFits
  show mx_S X F L 140 0 [(0, .ref a0), (1, .int a1), (2, .int a2)] [] h 0 0 (some (.int r.1), r.2, 0, 0)
  unfold f_X4_oneFits at hf
  refine mx_S.pu (pc2 := 1) (lv2 := [(0, .ref a0), (1, .int a1), (2, .int a2)]) (st2 := [.ref a0]) hm dX4_oneFits_0 rfl ?_
  refine mx_S.pu (pc2 := 2) (lv2 := [(0, .ref a0), (1, .int a1), (2, .int a2)]) (st2 := [.int a1, .ref a0]) hm dX4_oneFits_1 rfl ?_
  refine mx_S.pu (pc2 := 3) (lv2 := [(0, .ref a0), (1, .int a1), (2, .int a2)]) (st2 := [.int a2, .int a1, .ref a0]) hm dX4_oneFits_2 rfl ?_
  replace hf := mx_gd_el hf; obtain ⟨c1, hf⟩ := hf
  replace hf := mx_sv_el hf; obtain ⟨u2, e_u2, hf⟩ := hf
  refine sx_cv hm dX4_oneFits_3 rs_RX4_35 mt_X4_fits [.int a1, .int a2] [] (b := a0) (ci := 4) rfl rfl rfl c1 (Nat.le_of_ble_eq_true rfl) (Nat.le_of_ble_eq_true rfl) (by omega) (by omega) (f_X4_fits_ok X (by omega) (by omega) nn a0 a1 a2 h e_u2) ?_
  clear e_u2
  show mx_S X F L 140 6 [(0, .ref a0), (1, .int a1), (2, .int a2)] [.int u2.1] u2.2 0 0 (some (.int r.1), r.2, 0, 0)
  rcases mx_if_el hf with ⟨c6, hf⟩ | ⟨c6, hf⟩
  · refine sb_if_ne hm dX4_oneFits_6 (tgt := 18) rfl (fun _ => ?_) (fun z => absurd c6 z)
    refine sx_ic (v := 1) hm dX4_oneFits_18 (by decide) ?_
    refine mx_S.pu (pc2 := 23) (lv2 := [(0, .ref a0), (1, .int a1), (2, .int a2)]) (st2 := [.int 1]) hm dX4_oneFits_19 rfl ?_
    cases hf
    exact sx_ire hm dX4_oneFits_23 rfl (by decide)
  · refine sb_if_ne hm dX4_oneFits_6 (tgt := 18) rfl (fun z => absurd z c6) (fun _ => ?_)
    refine mx_S.pu (pc2 := 10) (lv2 := [(0, .ref a0), (1, .int a1), (2, .int a2)]) (st2 := [.ref a0]) hm dX4_oneFits_9 rfl ?_
    refine mx_S.pu (pc2 := 11) (lv2 := [(0, .ref a0), (1, .int a1), (2, .int a2)]) (st2 := [.int a2, .ref a0]) hm dX4_oneFits_10 rfl ?_
    refine mx_S.pu (pc2 := 12) (lv2 := [(0, .ref a0), (1, .int a1), (2, .int a2)]) (st2 := [.int a1, .int a2, .ref a0]) hm dX4_oneFits_11 rfl ?_
    replace hf := mx_gd_el hf; obtain ⟨c3, hf⟩ := hf
    replace hf := mx_sv_el hf; obtain ⟨u4, e_u4, hf⟩ := hf
    refine sx_cv hm dX4_oneFits_12 rs_RX4_35 mt_X4_fits [.int a2, .int a1] [] (b := a0) (ci := 4) rfl rfl rfl c3 (Nat.le_of_ble_eq_true rfl) (Nat.le_of_ble_eq_true rfl) (by omega) (by omega) (f_X4_fits_ok X (by omega) (by omega) nn a0 a2 a1 u2.2 e_u4) ?_
    clear e_u4
    show mx_S X F L 140 15 [(0, .ref a0), (1, .int a1), (2, .int a2)] [.int u4.1] u4.2 0 0 (some (.int r.1), r.2, 0, 0)
    rcases mx_if_el hf with ⟨c5, hf⟩ | ⟨c5, hf⟩
    · refine sb_if_eq hm dX4_oneFits_15 (tgt := 22) rfl (fun _ => ?_) (fun z => absurd c5 z)
      refine sx_ic (v := 0) hm dX4_oneFits_22 (by decide) ?_
      cases hf
      exact sx_ire hm dX4_oneFits_23 rfl (by decide)
    · refine sb_if_eq hm dX4_oneFits_15 (tgt := 22) rfl (fun z => absurd z c5) (fun _ => ?_)
      refine sx_ic (v := 1) hm dX4_oneFits_18 (by decide) ?_
      refine mx_S.pu (pc2 := 23) (lv2 := [(0, .ref a0), (1, .int a1), (2, .int a2)]) (st2 := [.int 1]) hm dX4_oneFits_19 rfl ?_
      cases hf
      exact sx_ire hm dX4_oneFits_23 rfl (by decide)
/-- ClassMill$Kin.isArray(I)Z -/
def f_X4_isArray (nn : Nat) (a0 : Int32) (h : mx_H) : Option (Int32 × mx_H) := if a0 < 100 then (some (0, h)) else (if 200 < a0 then (some (0, h)) else (some (1, h)))
set_option maxHeartbeats 4000000 in
theorem f_X4_isArray_ok (X : Nat × (Nat → Int32)) {F L : Nat} (hF : 0 ≤ F) (hL : 0 ≤ L) (nn : Nat) (a0 : Int32) (h : mx_H) {r : (Int32 × mx_H)} (hf : f_X4_isArray nn a0 h = some r) : mx_R X F L 135 [.int a0] h (some (.int r.1), r.2, 0, 0) := by
  have hm : mx_mt 135 = some (yX4_isArray, cX4_isArray, 1, (some .boolean)) := mt_X4_isArray
  show mx_S X F L 135 0 [(0, .int a0)] [] h 0 0 (some (.int r.1), r.2, 0, 0)
  unfold f_X4_isArray at hf
  refine mx_S.pu (pc2 := 1) (lv2 := [(0, .int a0)]) (st2 := [.int a0]) hm dX4_isArray_0 rfl ?_
  refine sx_bi (v := 100) hm dX4_isArray_1 (by decide) ?_
  rcases mx_if_el hf with ⟨c2, hf⟩ | ⟨c2, hf⟩
  · refine sb_ic_lt hm dX4_isArray_3 (tgt := 17) rfl (fun _ => ?_) (fun z => absurd c2 z)
    refine sx_ic (v := 0) hm dX4_isArray_17 (by decide) ?_
    cases hf
    exact sx_ire hm dX4_isArray_18 rfl (by decide)
  · refine sb_ic_lt hm dX4_isArray_3 (tgt := 17) rfl (fun z => absurd z c2) (fun _ => ?_)
    refine mx_S.pu (pc2 := 7) (lv2 := [(0, .int a0)]) (st2 := [.int a0]) hm dX4_isArray_6 rfl ?_
    refine sx_si (v := 200) hm dX4_isArray_7 (by decide) ?_
    rcases mx_if_el hf with ⟨c1, hf⟩ | ⟨c1, hf⟩
    · refine sb_ic_gt hm dX4_isArray_10 (tgt := 17) rfl (fun _ => ?_) (fun z => absurd c1 z)
      refine sx_ic (v := 0) hm dX4_isArray_17 (by decide) ?_
      cases hf
      exact sx_ire hm dX4_isArray_18 rfl (by decide)
    · refine sb_ic_gt hm dX4_isArray_10 (tgt := 17) rfl (fun z => absurd z c1) (fun _ => ?_)
      refine sx_ic (v := 1) hm dX4_isArray_13 (by decide) ?_
      refine mx_S.pu (pc2 := 18) (lv2 := [(0, .int a0)]) (st2 := [.int 1]) hm dX4_isArray_14 rfl ?_
      cases hf
      exact sx_ire hm dX4_isArray_18 rfl (by decide)
/-- ClassMill$Kin.elementOf(I)I -/
def f_X4_elementOf (nn : Nat) (a0 : Int32) (h : mx_H) : Option (Int32 × mx_H) := if ¬ a0 = 200 then (if a0 < 100 then (some (305, h)) else (if 200 ≤ a0 then (some (305, h)) else (xl (a0 - 100 : Int32) fun v1 => some (v1, h)))) else (some (301, h))
set_option maxHeartbeats 4000000 in
theorem f_X4_elementOf_ok (X : Nat × (Nat → Int32)) {F L : Nat} (hF : 0 ≤ F) (hL : 0 ≤ L) (nn : Nat) (a0 : Int32) (h : mx_H) {r : (Int32 × mx_H)} (hf : f_X4_elementOf nn a0 h = some r) : mx_R X F L 138 [.int a0] h (some (.int r.1), r.2, 0, 0) := by
  have hm : mx_mt 138 = some (yX4_elementOf, cX4_elementOf, 1, (some .int)) := mt_X4_elementOf
  show mx_S X F L 138 0 [(0, .int a0)] [] h 0 0 (some (.int r.1), r.2, 0, 0)
  unfold f_X4_elementOf at hf
  refine mx_S.pu (pc2 := 1) (lv2 := [(0, .int a0)]) (st2 := [.int a0]) hm dX4_elementOf_0 rfl ?_
  refine sx_si (v := 200) hm dX4_elementOf_1 (by decide) ?_
  rcases mx_if_el hf with ⟨c4, hf⟩ | ⟨c4, hf⟩
  · refine sb_ic_ne hm dX4_elementOf_4 (tgt := 11) rfl (fun _ => ?_) (fun z => absurd c4 z)
    refine mx_S.pu (pc2 := 12) (lv2 := [(0, .int a0)]) (st2 := [.int a0]) hm dX4_elementOf_11 rfl ?_
    refine sx_bi (v := 100) hm dX4_elementOf_12 (by decide) ?_
    rcases mx_if_el hf with ⟨c3, hf⟩ | ⟨c3, hf⟩
    · refine sb_ic_lt hm dX4_elementOf_14 (tgt := 31) rfl (fun _ => ?_) (fun z => absurd c3 z)
      refine sx_si (v := 305) hm dX4_elementOf_31 (by decide) ?_
      cases hf
      exact sx_ire hm dX4_elementOf_34 rfl rfl
    · refine sb_ic_lt hm dX4_elementOf_14 (tgt := 31) rfl (fun z => absurd z c3) (fun _ => ?_)
      refine mx_S.pu (pc2 := 18) (lv2 := [(0, .int a0)]) (st2 := [.int a0]) hm dX4_elementOf_17 rfl ?_
      refine sx_si (v := 200) hm dX4_elementOf_18 (by decide) ?_
      rcases mx_if_el hf with ⟨c2, hf⟩ | ⟨c2, hf⟩
      · refine sb_ic_ge hm dX4_elementOf_21 (tgt := 31) rfl (fun _ => ?_) (fun z => absurd c2 z)
        refine sx_si (v := 305) hm dX4_elementOf_31 (by decide) ?_
        cases hf
        exact sx_ire hm dX4_elementOf_34 rfl rfl
      · refine sb_ic_ge hm dX4_elementOf_21 (tgt := 31) rfl (fun z => absurd z c2) (fun _ => ?_)
        refine mx_S.pu (pc2 := 25) (lv2 := [(0, .int a0)]) (st2 := [.int a0]) hm dX4_elementOf_24 rfl ?_
        refine sx_bi (v := 100) hm dX4_elementOf_25 (by decide) ?_
        replace hf := xl_el hf; obtain ⟨v1, e_v1, hf⟩ := hf
        refine mx_S.pu (pc2 := 28) (lv2 := [(0, .int a0)]) (st2 := [.int v1]) hm dX4_elementOf_27 (by rw [← e_v1]; rfl) ?_
        clear e_v1
        refine mx_S.pu (pc2 := 34) (lv2 := [(0, .int a0)]) (st2 := [.int v1]) hm dX4_elementOf_28 rfl ?_
        cases hf
        exact sx_ire hm dX4_elementOf_34 rfl rfl
  · refine sb_ic_ne hm dX4_elementOf_4 (tgt := 11) rfl (fun z => absurd z c4) (fun _ => ?_)
    refine sx_si (v := 301) hm dX4_elementOf_7 (by decide) ?_
    cases hf
    exact sx_ire hm dX4_elementOf_10 rfl rfl
def w_J7_fill_53178_5 (nn : Nat) : Nat → Nat → Int32 → Int32 → Int32 → mx_H → Option mx_H
  | 0, _, _, _, _, _ => none
  | k + 1, l0, l1, l2, l3, h => if l3 ≤ l2 then (some h) else (mx_sv (xsi h l0 l2 l1) fun h1 => xl (l2 + 1 : Int32) fun v2 => w_J7_fill_53178_5 nn k l0 l1 v2 l3 h1)
set_option maxHeartbeats 4000000 in
theorem w_J7_fill_53178_5_ok (X : Nat × (Nat → Int32)) {F L : Nat} (hF : 0 ≤ F) (hL : 0 ≤ L) (nn : Nat) : ∀ (k : Nat) (l0 : Nat) (l1 : Int32) (l2 : Int32) (l3 : Int32) (h : mx_H) (r : mx_H), w_J7_fill_53178_5 nn k l0 l1 l2 l3 h = some r → mx_S X F L 600 5 [(0, .ref l0), (1, .int l1), (2, .int l2), (3, .int l3)] [] h 0 0 (none, r, 0, 0) := by
  have hm : mx_mt 600 = some (yJ7_fill_53178, cJ7_fill_53178, 4, none) := mt_J7_fill_53178
  intro k
  induction k with
  | zero => intro l0 l1 l2 l3 h r hf; cases hf
  | succ k ih =>
    intro l0 l1 l2 l3 h r hf
    unfold w_J7_fill_53178_5 at hf
    refine mx_S.pu (pc2 := 6) (lv2 := [(0, .ref l0), (1, .int l1), (2, .int l2), (3, .int l3)]) (st2 := [.int l2]) hm dJ7_fill_53178_5 rfl ?_
    refine mx_S.pu (pc2 := 7) (lv2 := [(0, .ref l0), (1, .int l1), (2, .int l2), (3, .int l3)]) (st2 := [.int l3, .int l2]) hm dJ7_fill_53178_6 rfl ?_
    rcases mx_if_el hf with ⟨c3, hf⟩ | ⟨c3, hf⟩
    · refine sb_ic_ge hm dJ7_fill_53178_7 (tgt := 20) rfl (fun _ => ?_) (fun z => absurd c3 z)
      cases hf
      exact sx_ret hm dJ7_fill_53178_20 rfl
    · refine sb_ic_ge hm dJ7_fill_53178_7 (tgt := 20) rfl (fun z => absurd z c3) (fun _ => ?_)
      refine mx_S.pu (pc2 := 11) (lv2 := [(0, .ref l0), (1, .int l1), (2, .int l2), (3, .int l3)]) (st2 := [.ref l0]) hm dJ7_fill_53178_10 rfl ?_
      refine mx_S.pu (pc2 := 12) (lv2 := [(0, .ref l0), (1, .int l1), (2, .int l2), (3, .int l3)]) (st2 := [.int l2, .ref l0]) hm dJ7_fill_53178_11 rfl ?_
      refine mx_S.pu (pc2 := 13) (lv2 := [(0, .ref l0), (1, .int l1), (2, .int l2), (3, .int l3)]) (st2 := [.int l1, .int l2, .ref l0]) hm dJ7_fill_53178_12 rfl ?_
      replace hf := mx_sv_el hf; obtain ⟨h1, e_h1, hf⟩ := hf
      refine sx_ast hm dJ7_fill_53178_13 e_h1 ?_
      clear e_h1
      replace hf := xl_el hf; obtain ⟨v2, e_v2, hf⟩ := hf
      refine mx_S.pu (pc2 := 17) (lv2 := [(2, .int v2), (0, .ref l0), (1, .int l1), (3, .int l3)]) (st2 := []) hm dJ7_fill_53178_14 (by rw [← e_v2]; rfl) ?_
      clear e_v2
      refine mx_S.pu (pc2 := 5) (lv2 := [(2, .int v2), (0, .ref l0), (1, .int l1), (3, .int l3)]) (st2 := []) hm dJ7_fill_53178_17 rfl ?_
      refine mx_S.ext [(0, .ref l0), (1, .int l1), (2, .int v2), (3, .int l3)] (mx_sub_pos [1, 2, 0, 3] rfl (show ([2, 0, 1, 3] : List Nat).Nodup by decide)) ?_
      exact ih l0 l1 v2 l3 h1 _ hf
/-- java/util/Arrays.fill([II)V -/
def f_J7_fill_53178 (nn : Nat) (a0 : Nat) (a1 : Int32) (h : mx_H) : Option mx_H := mx_sv (xln h a0) fun v4 => w_J7_fill_53178_5 nn nn a0 a1 0 v4 h
set_option maxHeartbeats 4000000 in
theorem f_J7_fill_53178_ok (X : Nat × (Nat → Int32)) {F L : Nat} (hF : 0 ≤ F) (hL : 0 ≤ L) (nn : Nat) (a0 : Nat) (a1 : Int32) (h : mx_H) {r : mx_H} (hf : f_J7_fill_53178 nn a0 a1 h = some r) : mx_R X F L 600 [.ref a0, .int a1] h (none, r, 0, 0) := by
  have hm : mx_mt 600 = some (yJ7_fill_53178, cJ7_fill_53178, 4, none) := mt_J7_fill_53178
  show mx_S X F L 600 0 [(0, .ref a0), (1, .int a1)] [] h 0 0 (none, r, 0, 0)
  unfold f_J7_fill_53178 at hf
  refine sx_ic (v := 0) hm dJ7_fill_53178_0 (by decide) ?_
  refine mx_S.pu (pc2 := 2) (lv2 := [(2, .int 0), (0, .ref a0), (1, .int a1)]) (st2 := []) hm dJ7_fill_53178_1 rfl ?_
  refine mx_S.pu (pc2 := 3) (lv2 := [(2, .int 0), (0, .ref a0), (1, .int a1)]) (st2 := [.ref a0]) hm dJ7_fill_53178_2 rfl ?_
  replace hf := mx_sv_el hf; obtain ⟨v4, e_v4, hf⟩ := hf
  refine sx_len hm dJ7_fill_53178_3 e_v4 ?_
  clear e_v4
  refine mx_S.pu (pc2 := 5) (lv2 := [(3, .int v4), (2, .int 0), (0, .ref a0), (1, .int a1)]) (st2 := []) hm dJ7_fill_53178_4 rfl ?_
  refine mx_S.ext [(0, .ref a0), (1, .int a1), (2, .int 0), (3, .int v4)] (mx_sub_pos [2, 3, 1, 0] rfl (show ([3, 2, 0, 1] : List Nat).Nodup by decide)) ?_
  exact w_J7_fill_53178_5_ok X hF hL nn nn a0 a1 0 v4 h _ hf
def w_X4_settle_38 (nn : Nat) (kk_2 : Nat → Int32 → mx_H → Option mx_H) : Nat → Nat → Int32 → Int32 → Int32 → mx_H → Option mx_H
  | 0, _, _, _, _, _ => none
  | k + 1, l0, l1, l2, l3, h => if 16 ≤ l3 then (xl (l1 + 1 : Int32) fun v1 => kk_2 l0 v1 h) else (if l2 < 0 then (xl (l1 + 1 : Int32) fun v2 => kk_2 l0 v2 h) else (if 16 ≤ l2 then (xl (l1 + 1 : Int32) fun v3 => kk_2 l0 v3 h) else (mx_sv (xgr h l0 4 1) fun v4 => xl (l1 * 16 : Int32) fun v5 => xl (v5 + l2 : Int32) fun v6 => mx_sv (xsb h v4 v6 1) fun h7 => mx_sv (xgr h7 l0 4 0) fun v8 => mx_sv (xai h7 v8 l2) fun v9 => xl (l3 + 1 : Int32) fun v10 => w_X4_settle_38 nn kk_2 k l0 l1 v9 v10 h7)))
set_option maxHeartbeats 4000000 in
theorem w_X4_settle_38_ok (X : Nat × (Nat → Int32)) {F L : Nat} (hF : 0 ≤ F) (hL : 0 ≤ L) (nn : Nat) {kk_2 : Nat → Int32 → mx_H → Option mx_H} (hk_2 : ∀ (l0 : Nat) (l1 : Int32) (h : mx_H) (r : mx_H), kk_2 l0 l1 h = some r → mx_S X F L 133 2 [(0, .ref l0), (1, .int l1)] [] h 0 0 (none, r, 0, 0)) : ∀ (k : Nat) (l0 : Nat) (l1 : Int32) (l2 : Int32) (l3 : Int32) (h : mx_H) (r : mx_H), w_X4_settle_38 nn kk_2 k l0 l1 l2 l3 h = some r → mx_S X F L 133 38 [(0, .ref l0), (1, .int l1), (2, .int l2), (3, .int l3)] [] h 0 0 (none, r, 0, 0) := by
  have hm : mx_mt 133 = some (yX4_settle, cX4_settle, 4, none) := mt_X4_settle
  intro k
  induction k with
  | zero => intro l0 l1 l2 l3 h r hf; cases hf
  | succ k ih =>
    intro l0 l1 l2 l3 h r hf
    unfold w_X4_settle_38 at hf
    refine mx_S.pu (pc2 := 39) (lv2 := [(0, .ref l0), (1, .int l1), (2, .int l2), (3, .int l3)]) (st2 := [.int l3]) hm dX4_settle_38 rfl ?_
    refine sx_bi (v := 16) hm dX4_settle_39 (by decide) ?_
    rcases mx_if_el hf with ⟨c13, hf⟩ | ⟨c13, hf⟩
    · refine sb_ic_ge hm dX4_settle_41 (tgt := 79) rfl (fun _ => ?_) (fun z => absurd c13 z)
      replace hf := xl_el hf; obtain ⟨v1, e_v1, hf⟩ := hf
      refine mx_S.pu (pc2 := 82) (lv2 := [(1, .int v1), (0, .ref l0), (2, .int l2), (3, .int l3)]) (st2 := []) hm dX4_settle_79 (by rw [← e_v1]; rfl) ?_
      clear e_v1
      refine mx_S.pu (pc2 := 2) (lv2 := [(1, .int v1), (0, .ref l0), (2, .int l2), (3, .int l3)]) (st2 := []) hm dX4_settle_82 rfl ?_
      refine mx_S.ext [(0, .ref l0), (1, .int v1)] (mx_sub_pos [1, 0] rfl (show ([1, 0, 2, 3] : List Nat).Nodup by decide)) ?_
      exact hk_2 l0 v1 h _ hf
    · refine sb_ic_ge hm dX4_settle_41 (tgt := 79) rfl (fun z => absurd z c13) (fun _ => ?_)
      refine mx_S.pu (pc2 := 45) (lv2 := [(0, .ref l0), (1, .int l1), (2, .int l2), (3, .int l3)]) (st2 := [.int l2]) hm dX4_settle_44 rfl ?_
      rcases mx_if_el hf with ⟨c12, hf⟩ | ⟨c12, hf⟩
      · refine sb_if_lt hm dX4_settle_45 (tgt := 79) rfl (fun _ => ?_) (fun z => absurd c12 z)
        replace hf := xl_el hf; obtain ⟨v2, e_v2, hf⟩ := hf
        refine mx_S.pu (pc2 := 82) (lv2 := [(1, .int v2), (0, .ref l0), (2, .int l2), (3, .int l3)]) (st2 := []) hm dX4_settle_79 (by rw [← e_v2]; rfl) ?_
        clear e_v2
        refine mx_S.pu (pc2 := 2) (lv2 := [(1, .int v2), (0, .ref l0), (2, .int l2), (3, .int l3)]) (st2 := []) hm dX4_settle_82 rfl ?_
        refine mx_S.ext [(0, .ref l0), (1, .int v2)] (mx_sub_pos [1, 0] rfl (show ([1, 0, 2, 3] : List Nat).Nodup by decide)) ?_
        exact hk_2 l0 v2 h _ hf
      · refine sb_if_lt hm dX4_settle_45 (tgt := 79) rfl (fun z => absurd z c12) (fun _ => ?_)
        refine mx_S.pu (pc2 := 49) (lv2 := [(0, .ref l0), (1, .int l1), (2, .int l2), (3, .int l3)]) (st2 := [.int l2]) hm dX4_settle_48 rfl ?_
        refine sx_bi (v := 16) hm dX4_settle_49 (by decide) ?_
        rcases mx_if_el hf with ⟨c11, hf⟩ | ⟨c11, hf⟩
        · refine sb_ic_ge hm dX4_settle_51 (tgt := 79) rfl (fun _ => ?_) (fun z => absurd c11 z)
          replace hf := xl_el hf; obtain ⟨v3, e_v3, hf⟩ := hf
          refine mx_S.pu (pc2 := 82) (lv2 := [(1, .int v3), (0, .ref l0), (2, .int l2), (3, .int l3)]) (st2 := []) hm dX4_settle_79 (by rw [← e_v3]; rfl) ?_
          clear e_v3
          refine mx_S.pu (pc2 := 2) (lv2 := [(1, .int v3), (0, .ref l0), (2, .int l2), (3, .int l3)]) (st2 := []) hm dX4_settle_82 rfl ?_
          refine mx_S.ext [(0, .ref l0), (1, .int v3)] (mx_sub_pos [1, 0] rfl (show ([1, 0, 2, 3] : List Nat).Nodup by decide)) ?_
          exact hk_2 l0 v3 h _ hf
        · refine sb_ic_ge hm dX4_settle_51 (tgt := 79) rfl (fun z => absurd z c11) (fun _ => ?_)
          refine mx_S.pu (pc2 := 55) (lv2 := [(0, .ref l0), (1, .int l1), (2, .int l2), (3, .int l3)]) (st2 := [.ref l0]) hm dX4_settle_54 rfl ?_
          replace hf := mx_sv_el hf; obtain ⟨v4, e_v4, hf⟩ := hf
          refine sx_get hm dX4_settle_55 rs_RX4_15 (xgr_el e_v4) ?_
          clear e_v4
          refine mx_S.pu (pc2 := 59) (lv2 := [(0, .ref l0), (1, .int l1), (2, .int l2), (3, .int l3)]) (st2 := [.int l1, .ref v4]) hm dX4_settle_58 rfl ?_
          refine sx_bi (v := 16) hm dX4_settle_59 (by decide) ?_
          replace hf := xl_el hf; obtain ⟨v5, e_v5, hf⟩ := hf
          refine mx_S.pu (pc2 := 62) (lv2 := [(0, .ref l0), (1, .int l1), (2, .int l2), (3, .int l3)]) (st2 := [.int v5, .ref v4]) hm dX4_settle_61 (by rw [← e_v5]; rfl) ?_
          clear e_v5
          refine mx_S.pu (pc2 := 63) (lv2 := [(0, .ref l0), (1, .int l1), (2, .int l2), (3, .int l3)]) (st2 := [.int l2, .int v5, .ref v4]) hm dX4_settle_62 rfl ?_
          replace hf := xl_el hf; obtain ⟨v6, e_v6, hf⟩ := hf
          refine mx_S.pu (pc2 := 64) (lv2 := [(0, .ref l0), (1, .int l1), (2, .int l2), (3, .int l3)]) (st2 := [.int v6, .ref v4]) hm dX4_settle_63 (by rw [← e_v6]; rfl) ?_
          clear e_v6
          refine sx_ic (v := 1) hm dX4_settle_64 (by decide) ?_
          replace hf := mx_sv_el hf; obtain ⟨h7, e_h7, hf⟩ := hf
          refine sx_bst hm dX4_settle_65 e_h7 ?_
          clear e_h7
          refine mx_S.pu (pc2 := 67) (lv2 := [(0, .ref l0), (1, .int l1), (2, .int l2), (3, .int l3)]) (st2 := [.ref l0]) hm dX4_settle_66 rfl ?_
          replace hf := mx_sv_el hf; obtain ⟨v8, e_v8, hf⟩ := hf
          refine sx_get hm dX4_settle_67 rs_RX4_11 (xgr_el e_v8) ?_
          clear e_v8
          refine mx_S.pu (pc2 := 71) (lv2 := [(0, .ref l0), (1, .int l1), (2, .int l2), (3, .int l3)]) (st2 := [.int l2, .ref v8]) hm dX4_settle_70 rfl ?_
          replace hf := mx_sv_el hf; obtain ⟨v9, e_v9, hf⟩ := hf
          refine sx_ald hm dX4_settle_71 e_v9 ?_
          clear e_v9
          refine mx_S.pu (pc2 := 73) (lv2 := [(2, .int v9), (0, .ref l0), (1, .int l1), (3, .int l3)]) (st2 := []) hm dX4_settle_72 rfl ?_
          replace hf := xl_el hf; obtain ⟨v10, e_v10, hf⟩ := hf
          refine mx_S.pu (pc2 := 76) (lv2 := [(3, .int v10), (2, .int v9), (0, .ref l0), (1, .int l1)]) (st2 := []) hm dX4_settle_73 (by rw [← e_v10]; rfl) ?_
          clear e_v10
          refine mx_S.pu (pc2 := 38) (lv2 := [(3, .int v10), (2, .int v9), (0, .ref l0), (1, .int l1)]) (st2 := []) hm dX4_settle_76 rfl ?_
          refine mx_S.ext [(0, .ref l0), (1, .int l1), (2, .int v9), (3, .int v10)] (mx_sub_pos [2, 3, 1, 0] rfl (show ([3, 2, 0, 1] : List Nat).Nodup by decide)) ?_
          exact ih l0 l1 v9 v10 h7 _ hf
def w_X4_settle_10 (nn : Nat) (kk_2 : Nat → Int32 → mx_H → Option mx_H) : Nat → Nat → Int32 → Int32 → mx_H → Option mx_H
  | 0, _, _, _, _ => none
  | k + 1, l0, l1, l2, h => if 16 ≤ l2 then (w_X4_settle_38 nn kk_2 nn l0 l1 l1 0 h) else (mx_sv (xgr h l0 4 1) fun v14 => xl (l1 * 16 : Int32) fun v15 => xl (v15 + l2 : Int32) fun v16 => mx_sv (xsb h v14 v16 0) fun h17 => xl (l2 + 1 : Int32) fun v18 => w_X4_settle_10 nn kk_2 k l0 l1 v18 h17)
set_option maxHeartbeats 4000000 in
theorem w_X4_settle_10_ok (X : Nat × (Nat → Int32)) {F L : Nat} (hF : 0 ≤ F) (hL : 0 ≤ L) (nn : Nat) {kk_2 : Nat → Int32 → mx_H → Option mx_H} (hk_2 : ∀ (l0 : Nat) (l1 : Int32) (h : mx_H) (r : mx_H), kk_2 l0 l1 h = some r → mx_S X F L 133 2 [(0, .ref l0), (1, .int l1)] [] h 0 0 (none, r, 0, 0)) : ∀ (k : Nat) (l0 : Nat) (l1 : Int32) (l2 : Int32) (h : mx_H) (r : mx_H), w_X4_settle_10 nn kk_2 k l0 l1 l2 h = some r → mx_S X F L 133 10 [(0, .ref l0), (1, .int l1), (2, .int l2)] [] h 0 0 (none, r, 0, 0) := by
  have hm : mx_mt 133 = some (yX4_settle, cX4_settle, 4, none) := mt_X4_settle
  intro k
  induction k with
  | zero => intro l0 l1 l2 h r hf; cases hf
  | succ k ih =>
    intro l0 l1 l2 h r hf
    unfold w_X4_settle_10 at hf
    refine mx_S.pu (pc2 := 11) (lv2 := [(0, .ref l0), (1, .int l1), (2, .int l2)]) (st2 := [.int l2]) hm dX4_settle_10 rfl ?_
    refine sx_bi (v := 16) hm dX4_settle_11 (by decide) ?_
    rcases mx_if_el hf with ⟨c19, hf⟩ | ⟨c19, hf⟩
    · refine sb_ic_ge hm dX4_settle_13 (tgt := 34) rfl (fun _ => ?_) (fun z => absurd c19 z)
      refine mx_S.pu (pc2 := 35) (lv2 := [(0, .ref l0), (1, .int l1), (2, .int l2)]) (st2 := [.int l1]) hm dX4_settle_34 rfl ?_
      refine mx_S.pu (pc2 := 36) (lv2 := [(2, .int l1), (0, .ref l0), (1, .int l1)]) (st2 := []) hm dX4_settle_35 rfl ?_
      refine sx_ic (v := 0) hm dX4_settle_36 (by decide) ?_
      refine mx_S.pu (pc2 := 38) (lv2 := [(3, .int 0), (2, .int l1), (0, .ref l0), (1, .int l1)]) (st2 := []) hm dX4_settle_37 rfl ?_
      refine mx_S.ext [(0, .ref l0), (1, .int l1), (2, .int l1), (3, .int 0)] (mx_sub_pos [2, 3, 1, 0] rfl (show ([3, 2, 0, 1] : List Nat).Nodup by decide)) ?_
      exact w_X4_settle_38_ok X hF hL nn hk_2 nn l0 l1 l1 0 h _ hf
    · refine sb_ic_ge hm dX4_settle_13 (tgt := 34) rfl (fun z => absurd z c19) (fun _ => ?_)
      refine mx_S.pu (pc2 := 17) (lv2 := [(0, .ref l0), (1, .int l1), (2, .int l2)]) (st2 := [.ref l0]) hm dX4_settle_16 rfl ?_
      replace hf := mx_sv_el hf; obtain ⟨v14, e_v14, hf⟩ := hf
      refine sx_get hm dX4_settle_17 rs_RX4_15 (xgr_el e_v14) ?_
      clear e_v14
      refine mx_S.pu (pc2 := 21) (lv2 := [(0, .ref l0), (1, .int l1), (2, .int l2)]) (st2 := [.int l1, .ref v14]) hm dX4_settle_20 rfl ?_
      refine sx_bi (v := 16) hm dX4_settle_21 (by decide) ?_
      replace hf := xl_el hf; obtain ⟨v15, e_v15, hf⟩ := hf
      refine mx_S.pu (pc2 := 24) (lv2 := [(0, .ref l0), (1, .int l1), (2, .int l2)]) (st2 := [.int v15, .ref v14]) hm dX4_settle_23 (by rw [← e_v15]; rfl) ?_
      clear e_v15
      refine mx_S.pu (pc2 := 25) (lv2 := [(0, .ref l0), (1, .int l1), (2, .int l2)]) (st2 := [.int l2, .int v15, .ref v14]) hm dX4_settle_24 rfl ?_
      replace hf := xl_el hf; obtain ⟨v16, e_v16, hf⟩ := hf
      refine mx_S.pu (pc2 := 26) (lv2 := [(0, .ref l0), (1, .int l1), (2, .int l2)]) (st2 := [.int v16, .ref v14]) hm dX4_settle_25 (by rw [← e_v16]; rfl) ?_
      clear e_v16
      refine sx_ic (v := 0) hm dX4_settle_26 (by decide) ?_
      replace hf := mx_sv_el hf; obtain ⟨h17, e_h17, hf⟩ := hf
      refine sx_bst hm dX4_settle_27 e_h17 ?_
      clear e_h17
      replace hf := xl_el hf; obtain ⟨v18, e_v18, hf⟩ := hf
      refine mx_S.pu (pc2 := 31) (lv2 := [(2, .int v18), (0, .ref l0), (1, .int l1)]) (st2 := []) hm dX4_settle_28 (by rw [← e_v18]; rfl) ?_
      clear e_v18
      refine mx_S.pu (pc2 := 10) (lv2 := [(2, .int v18), (0, .ref l0), (1, .int l1)]) (st2 := []) hm dX4_settle_31 rfl ?_
      refine mx_S.ext [(0, .ref l0), (1, .int l1), (2, .int v18)] (mx_sub_pos [1, 2, 0] rfl (show ([2, 0, 1] : List Nat).Nodup by decide)) ?_
      exact ih l0 l1 v18 h17 _ hf
def w_X4_settle_2 (nn : Nat) : Nat → Nat → Int32 → mx_H → Option mx_H
  | 0, _, _, _ => none
  | k + 1, l0, l1, h => if 16 ≤ l1 then (some h) else (w_X4_settle_10 nn (w_X4_settle_2 nn k) nn l0 l1 0 h)
set_option maxHeartbeats 4000000 in
theorem w_X4_settle_2_ok (X : Nat × (Nat → Int32)) {F L : Nat} (hF : 0 ≤ F) (hL : 0 ≤ L) (nn : Nat) : ∀ (k : Nat) (l0 : Nat) (l1 : Int32) (h : mx_H) (r : mx_H), w_X4_settle_2 nn k l0 l1 h = some r → mx_S X F L 133 2 [(0, .ref l0), (1, .int l1)] [] h 0 0 (none, r, 0, 0) := by
  have hm : mx_mt 133 = some (yX4_settle, cX4_settle, 4, none) := mt_X4_settle
  intro k
  induction k with
  | zero => intro l0 l1 h r hf; cases hf
  | succ k ih =>
    intro l0 l1 h r hf
    unfold w_X4_settle_2 at hf
    refine mx_S.pu (pc2 := 3) (lv2 := [(0, .ref l0), (1, .int l1)]) (st2 := [.int l1]) hm dX4_settle_2 rfl ?_
    refine sx_bi (v := 16) hm dX4_settle_3 (by decide) ?_
    rcases mx_if_el hf with ⟨c20, hf⟩ | ⟨c20, hf⟩
    · refine sb_ic_ge hm dX4_settle_5 (tgt := 85) rfl (fun _ => ?_) (fun z => absurd c20 z)
      cases hf
      exact sx_ret hm dX4_settle_85 rfl
    · refine sb_ic_ge hm dX4_settle_5 (tgt := 85) rfl (fun z => absurd z c20) (fun _ => ?_)
      refine sx_ic (v := 0) hm dX4_settle_8 (by decide) ?_
      refine mx_S.pu (pc2 := 10) (lv2 := [(2, .int 0), (0, .ref l0), (1, .int l1)]) (st2 := []) hm dX4_settle_9 rfl ?_
      refine mx_S.ext [(0, .ref l0), (1, .int l1), (2, .int 0)] (mx_sub_pos [1, 2, 0] rfl (show ([2, 0, 1] : List Nat).Nodup by decide)) ?_
      exact w_X4_settle_10_ok X hF hL nn ih nn l0 l1 0 h _ hf
/-- ClassMill$Kin.settle()V -/
def f_X4_settle (nn : Nat) (a0 : Nat) (h : mx_H) : Option mx_H := w_X4_settle_2 nn nn a0 0 h
set_option maxHeartbeats 4000000 in
theorem f_X4_settle_ok (X : Nat × (Nat → Int32)) {F L : Nat} (hF : 0 ≤ F) (hL : 0 ≤ L) (nn : Nat) (a0 : Nat) (h : mx_H) {r : mx_H} (hf : f_X4_settle nn a0 h = some r) : mx_R X F L 133 [.ref a0] h (none, r, 0, 0) := by
  have hm : mx_mt 133 = some (yX4_settle, cX4_settle, 4, none) := mt_X4_settle
  show mx_S X F L 133 0 [(0, .ref a0)] [] h 0 0 (none, r, 0, 0)
  unfold f_X4_settle at hf
  refine sx_ic (v := 0) hm dX4_settle_0 (by decide) ?_
  refine mx_S.pu (pc2 := 2) (lv2 := [(1, .int 0), (0, .ref a0)]) (st2 := []) hm dX4_settle_1 rfl ?_
  refine mx_S.ext [(0, .ref a0), (1, .int 0)] (mx_sub_pos [1, 0] rfl (show ([1, 0] : List Nat).Nodup by decide)) ?_
  exact w_X4_settle_2_ok X hF hL nn nn a0 0 h _ hf
def w_X4_forget_10 (nn : Nat) : Nat → Nat → Int32 → mx_H → Option mx_H
  | 0, _, _, _ => none
  | k + 1, l0, l1, h => if 8 ≤ l1 then (mx_gd (xis h l0 4) <| mx_sv (f_X4_settle nn l0 h) fun u2 => some u2) else (mx_sv (xgr h l0 4 0) fun v3 => if ¬ l1 = 1 then (mx_sv (xsi h v3 l1 1) fun h4 => xl (l1 + 1 : Int32) fun v5 => w_X4_forget_10 nn k l0 v5 h4) else (mx_sv (xsi h v3 l1 0) fun h6 => xl (l1 + 1 : Int32) fun v7 => w_X4_forget_10 nn k l0 v7 h6))
set_option maxHeartbeats 4000000 in
theorem w_X4_forget_10_ok (X : Nat × (Nat → Int32)) {F L : Nat} (hF : 1 ≤ F) (hL : 23 ≤ L) (nn : Nat) : ∀ (k : Nat) (l0 : Nat) (l1 : Int32) (h : mx_H) (r : mx_H), w_X4_forget_10 nn k l0 l1 h = some r → mx_S X F L 130 10 [(0, .ref l0), (1, .int l1)] [] h 0 0 (none, r, 0, 0) := by
  have hm : mx_mt 130 = some (yX4_forget, cX4_forget, 2, none) := mt_X4_forget
  intro k
  induction k with
  | zero => intro l0 l1 h r hf; cases hf
  | succ k ih =>
    intro l0 l1 h r hf
    unfold w_X4_forget_10 at hf
    refine mx_S.pu (pc2 := 11) (lv2 := [(0, .ref l0), (1, .int l1)]) (st2 := [.int l1]) hm dX4_forget_10 rfl ?_
    refine sx_bi (v := 8) hm dX4_forget_11 (by decide) ?_
    rcases mx_if_el hf with ⟨c9, hf⟩ | ⟨c9, hf⟩
    · refine sb_ic_ge hm dX4_forget_13 (tgt := 38) rfl (fun _ => ?_) (fun z => absurd c9 z)
      refine mx_S.pu (pc2 := 39) (lv2 := [(0, .ref l0), (1, .int l1)]) (st2 := [.ref l0]) hm dX4_forget_38 rfl ?_
      replace hf := mx_gd_el hf; obtain ⟨c1, hf⟩ := hf
      replace hf := mx_sv_el hf; obtain ⟨u2, e_u2, hf⟩ := hf
      refine sx_cv hm dX4_forget_39 rs_RX4_28 mt_X4_settle [] [] (b := l0) (ci := 4) rfl rfl rfl c1 (Nat.le_of_ble_eq_true rfl) (Nat.le_of_ble_eq_true rfl) (by omega) (by omega) (f_X4_settle_ok X (by omega) (by omega) nn l0 h e_u2) ?_
      clear e_u2
      show mx_S X F L 130 42 [(0, .ref l0), (1, .int l1)] [] u2 0 0 (none, r, 0, 0)
      cases hf
      exact sx_ret hm dX4_forget_42 rfl
    · refine sb_ic_ge hm dX4_forget_13 (tgt := 38) rfl (fun z => absurd z c9) (fun _ => ?_)
      refine mx_S.pu (pc2 := 17) (lv2 := [(0, .ref l0), (1, .int l1)]) (st2 := [.ref l0]) hm dX4_forget_16 rfl ?_
      replace hf := mx_sv_el hf; obtain ⟨v3, e_v3, hf⟩ := hf
      refine sx_get hm dX4_forget_17 rs_RX4_11 (xgr_el e_v3) ?_
      clear e_v3
      refine mx_S.pu (pc2 := 21) (lv2 := [(0, .ref l0), (1, .int l1)]) (st2 := [.int l1, .ref v3]) hm dX4_forget_20 rfl ?_
      refine mx_S.pu (pc2 := 22) (lv2 := [(0, .ref l0), (1, .int l1)]) (st2 := [.int l1, .int l1, .ref v3]) hm dX4_forget_21 rfl ?_
      refine sx_ic (v := 1) hm dX4_forget_22 (by decide) ?_
      rcases mx_if_el hf with ⟨c8, hf⟩ | ⟨c8, hf⟩
      · refine sb_ic_ne hm dX4_forget_23 (tgt := 30) rfl (fun _ => ?_) (fun z => absurd c8 z)
        refine sx_ic (v := 1) hm dX4_forget_30 (by decide) ?_
        replace hf := mx_sv_el hf; obtain ⟨h4, e_h4, hf⟩ := hf
        refine sx_ast hm dX4_forget_31 e_h4 ?_
        clear e_h4
        replace hf := xl_el hf; obtain ⟨v5, e_v5, hf⟩ := hf
        refine mx_S.pu (pc2 := 35) (lv2 := [(1, .int v5), (0, .ref l0)]) (st2 := []) hm dX4_forget_32 (by rw [← e_v5]; rfl) ?_
        clear e_v5
        refine mx_S.pu (pc2 := 10) (lv2 := [(1, .int v5), (0, .ref l0)]) (st2 := []) hm dX4_forget_35 rfl ?_
        refine mx_S.ext [(0, .ref l0), (1, .int v5)] (mx_sub_pos [1, 0] rfl (show ([1, 0] : List Nat).Nodup by decide)) ?_
        exact ih l0 v5 h4 _ hf
      · refine sb_ic_ne hm dX4_forget_23 (tgt := 30) rfl (fun z => absurd z c8) (fun _ => ?_)
        refine sx_ic (v := 0) hm dX4_forget_26 (by decide) ?_
        refine mx_S.pu (pc2 := 31) (lv2 := [(0, .ref l0), (1, .int l1)]) (st2 := [.int 0, .int l1, .ref v3]) hm dX4_forget_27 rfl ?_
        replace hf := mx_sv_el hf; obtain ⟨h6, e_h6, hf⟩ := hf
        refine sx_ast hm dX4_forget_31 e_h6 ?_
        clear e_h6
        replace hf := xl_el hf; obtain ⟨v7, e_v7, hf⟩ := hf
        refine mx_S.pu (pc2 := 35) (lv2 := [(1, .int v7), (0, .ref l0)]) (st2 := []) hm dX4_forget_32 (by rw [← e_v7]; rfl) ?_
        clear e_v7
        refine mx_S.pu (pc2 := 10) (lv2 := [(1, .int v7), (0, .ref l0)]) (st2 := []) hm dX4_forget_35 rfl ?_
        refine mx_S.ext [(0, .ref l0), (1, .int v7)] (mx_sub_pos [1, 0] rfl (show ([1, 0] : List Nat).Nodup by decide)) ?_
        exact ih l0 v7 h6 _ hf
/-- ClassMill$Kin.forget()V -/
def f_X4_forget (nn : Nat) (a0 : Nat) (h : mx_H) : Option mx_H := mx_sv (xgr h a0 4 0) fun v10 => mx_sv (f_J7_fill_53178 nn v10 (-1) h) fun u11 => w_X4_forget_10 nn nn a0 1 u11
set_option maxHeartbeats 4000000 in
theorem f_X4_forget_ok (X : Nat × (Nat → Int32)) {F L : Nat} (hF : 1 ≤ F) (hL : 23 ≤ L) (nn : Nat) (a0 : Nat) (h : mx_H) {r : mx_H} (hf : f_X4_forget nn a0 h = some r) : mx_R X F L 130 [.ref a0] h (none, r, 0, 0) := by
  have hm : mx_mt 130 = some (yX4_forget, cX4_forget, 2, none) := mt_X4_forget
  show mx_S X F L 130 0 [(0, .ref a0)] [] h 0 0 (none, r, 0, 0)
  unfold f_X4_forget at hf
  refine mx_S.pu (pc2 := 1) (lv2 := [(0, .ref a0)]) (st2 := [.ref a0]) hm dX4_forget_0 rfl ?_
  replace hf := mx_sv_el hf; obtain ⟨v10, e_v10, hf⟩ := hf
  refine sx_get hm dX4_forget_1 rs_RX4_11 (xgr_el e_v10) ?_
  clear e_v10
  refine sx_ic (v := (-1)) hm dX4_forget_4 (by decide) ?_
  replace hf := mx_sv_el hf; obtain ⟨u11, e_u11, hf⟩ := hf
  refine sx_cs hm dX4_forget_5 rs_RX4_22 mt_J7_fill_53178 [.ref v10, .int (-1)] [] rfl rfl (Nat.le_of_ble_eq_true rfl) (Nat.le_of_ble_eq_true rfl) (by omega) (by omega) (f_J7_fill_53178_ok X (by omega) (by omega) nn v10 (-1) h e_u11) ?_
  clear e_u11
  show mx_S X F L 130 8 [(0, .ref a0)] [] u11 0 0 (none, r, 0, 0)
  refine sx_ic (v := 1) hm dX4_forget_8 (by decide) ?_
  refine mx_S.pu (pc2 := 10) (lv2 := [(1, .int 1), (0, .ref a0)]) (st2 := []) hm dX4_forget_9 rfl ?_
  refine mx_S.ext [(0, .ref a0), (1, .int 1)] (mx_sub_pos [1, 0] rfl (show ([1, 0] : List Nat).Nodup by decide)) ?_
  exact w_X4_forget_10_ok X hF hL nn nn a0 1 u11 _ hf
/-- ClassMill$Kin.setAbove(II)V -/
def f_X4_setAbove (nn : Nat) (a0 : Nat) (a1 : Int32) (a2 : Int32) (h : mx_H) : Option mx_H := mx_sv (f_X4_isClass nn a1 h) fun u1 => if u1.1 = 0 then (some u1.2) else (mx_sv (xgr u1.2 a0 4 0) fun v2 => mx_sv (xsi u1.2 v2 a1 a2) fun h3 => some h3)
set_option maxHeartbeats 4000000 in
theorem f_X4_setAbove_ok (X : Nat × (Nat → Int32)) {F L : Nat} (hF : 1 ≤ F) (hL : 20 ≤ L) (nn : Nat) (a0 : Nat) (a1 : Int32) (a2 : Int32) (h : mx_H) {r : mx_H} (hf : f_X4_setAbove nn a0 a1 a2 h = some r) : mx_R X F L 132 [.ref a0, .int a1, .int a2] h (none, r, 0, 0) := by
  have hm : mx_mt 132 = some (yX4_setAbove, cX4_setAbove, 3, none) := mt_X4_setAbove
  show mx_S X F L 132 0 [(0, .ref a0), (1, .int a1), (2, .int a2)] [] h 0 0 (none, r, 0, 0)
  unfold f_X4_setAbove at hf
  refine mx_S.pu (pc2 := 1) (lv2 := [(0, .ref a0), (1, .int a1), (2, .int a2)]) (st2 := [.int a1]) hm dX4_setAbove_0 rfl ?_
  replace hf := mx_sv_el hf; obtain ⟨u1, e_u1, hf⟩ := hf
  refine sx_cs hm dX4_setAbove_1 rs_RX4_31 mt_X4_isClass [.int a1] [] rfl rfl (Nat.le_of_ble_eq_true rfl) (Nat.le_of_ble_eq_true rfl) (by omega) (by omega) (f_X4_isClass_ok X (by omega) (by omega) nn a1 h e_u1) ?_
  clear e_u1
  show mx_S X F L 132 4 [(0, .ref a0), (1, .int a1), (2, .int a2)] [.int u1.1] u1.2 0 0 (none, r, 0, 0)
  rcases mx_if_el hf with ⟨c4, hf⟩ | ⟨c4, hf⟩
  · refine sb_if_eq hm dX4_setAbove_4 (tgt := 14) rfl (fun _ => ?_) (fun z => absurd c4 z)
    cases hf
    exact sx_ret hm dX4_setAbove_14 rfl
  · refine sb_if_eq hm dX4_setAbove_4 (tgt := 14) rfl (fun z => absurd z c4) (fun _ => ?_)
    refine mx_S.pu (pc2 := 8) (lv2 := [(0, .ref a0), (1, .int a1), (2, .int a2)]) (st2 := [.ref a0]) hm dX4_setAbove_7 rfl ?_
    replace hf := mx_sv_el hf; obtain ⟨v2, e_v2, hf⟩ := hf
    refine sx_get hm dX4_setAbove_8 rs_RX4_11 (xgr_el e_v2) ?_
    clear e_v2
    refine mx_S.pu (pc2 := 12) (lv2 := [(0, .ref a0), (1, .int a1), (2, .int a2)]) (st2 := [.int a1, .ref v2]) hm dX4_setAbove_11 rfl ?_
    refine mx_S.pu (pc2 := 13) (lv2 := [(0, .ref a0), (1, .int a1), (2, .int a2)]) (st2 := [.int a2, .int a1, .ref v2]) hm dX4_setAbove_12 rfl ?_
    replace hf := mx_sv_el hf; obtain ⟨h3, e_h3, hf⟩ := hf
    refine sx_ast hm dX4_setAbove_13 e_h3 ?_
    clear e_h3
    cases hf
    exact sx_ret hm dX4_setAbove_14 rfl
def j_X4_endsAbove_33 (nn : Nat) (l2 : Int32) (h : mx_H) : Option (Int32 × mx_H) := if ¬ l2 = (-1) then (some (0, h)) else (some (1, h))
set_option maxHeartbeats 4000000 in
theorem j_X4_endsAbove_33_ok (X : Nat × (Nat → Int32)) {F L : Nat} (hF : 0 ≤ F) (hL : 0 ≤ L) (nn : Nat) (l2 : Int32) (h : mx_H) {r : (Int32 × mx_H)} (hf : j_X4_endsAbove_33 nn l2 h = some r) : mx_S X F L 141 33 [(2, .int l2)] [] h 0 0 (some (.int r.1), r.2, 0, 0) := by
  have hm : mx_mt 141 = some (yX4_endsAbove, cX4_endsAbove, 4, (some .boolean)) := mt_X4_endsAbove
  unfold j_X4_endsAbove_33 at hf
  refine mx_S.pu (pc2 := 34) (lv2 := [(2, .int l2)]) (st2 := [.int l2]) hm dX4_endsAbove_33 rfl ?_
  refine sx_ic (v := (-1)) hm dX4_endsAbove_34 (by decide) ?_
  rcases mx_if_el hf with ⟨c1, hf⟩ | ⟨c1, hf⟩
  · refine sb_ic_ne hm dX4_endsAbove_35 (tgt := 42) rfl (fun _ => ?_) (fun z => absurd c1 z)
    refine sx_ic (v := 0) hm dX4_endsAbove_42 (by decide) ?_
    cases hf
    exact sx_ire hm dX4_endsAbove_43 rfl (by decide)
  · refine sb_ic_ne hm dX4_endsAbove_35 (tgt := 42) rfl (fun z => absurd z c1) (fun _ => ?_)
    refine sx_ic (v := 1) hm dX4_endsAbove_38 (by decide) ?_
    refine mx_S.pu (pc2 := 43) (lv2 := [(2, .int l2)]) (st2 := [.int 1]) hm dX4_endsAbove_39 rfl ?_
    cases hf
    exact sx_ire hm dX4_endsAbove_43 rfl (by decide)
def w_X4_endsAbove_4 (nn : Nat) : Nat → Nat → Int32 → Int32 → mx_H → Option (Int32 × mx_H)
  | 0, _, _, _, _ => none
  | k + 1, l0, l2, l3, h => if 16 < l3 then (j_X4_endsAbove_33 nn l2 h) else (if l2 < 0 then (j_X4_endsAbove_33 nn l2 h) else (if 16 ≤ l2 then (j_X4_endsAbove_33 nn l2 h) else (mx_sv (xgr h l0 4 0) fun v2 => mx_sv (xai h v2 l2) fun v3 => xl (l3 + 1 : Int32) fun v4 => w_X4_endsAbove_4 nn k l0 v3 v4 h)))
set_option maxHeartbeats 4000000 in
theorem w_X4_endsAbove_4_ok (X : Nat × (Nat → Int32)) {F L : Nat} (hF : 0 ≤ F) (hL : 0 ≤ L) (nn : Nat) : ∀ (k : Nat) (l0 : Nat) (l2 : Int32) (l3 : Int32) (h : mx_H) (r : (Int32 × mx_H)), w_X4_endsAbove_4 nn k l0 l2 l3 h = some r → mx_S X F L 141 4 [(0, .ref l0), (2, .int l2), (3, .int l3)] [] h 0 0 (some (.int r.1), r.2, 0, 0) := by
  have hm : mx_mt 141 = some (yX4_endsAbove, cX4_endsAbove, 4, (some .boolean)) := mt_X4_endsAbove
  intro k
  induction k with
  | zero => intro l0 l2 l3 h r hf; cases hf
  | succ k ih =>
    intro l0 l2 l3 h r hf
    unfold w_X4_endsAbove_4 at hf
    refine mx_S.pu (pc2 := 5) (lv2 := [(0, .ref l0), (2, .int l2), (3, .int l3)]) (st2 := [.int l3]) hm dX4_endsAbove_4 rfl ?_
    refine sx_bi (v := 16) hm dX4_endsAbove_5 (by decide) ?_
    rcases mx_if_el hf with ⟨c7, hf⟩ | ⟨c7, hf⟩
    · refine sb_ic_gt hm dX4_endsAbove_7 (tgt := 33) rfl (fun _ => ?_) (fun z => absurd c7 z)
      refine mx_S.ext [(2, .int l2)] (mx_sub_pos [1] rfl (show ([0, 2, 3] : List Nat).Nodup by decide)) ?_
      exact j_X4_endsAbove_33_ok X hF hL nn l2 h hf
    · refine sb_ic_gt hm dX4_endsAbove_7 (tgt := 33) rfl (fun z => absurd z c7) (fun _ => ?_)
      refine mx_S.pu (pc2 := 11) (lv2 := [(0, .ref l0), (2, .int l2), (3, .int l3)]) (st2 := [.int l2]) hm dX4_endsAbove_10 rfl ?_
      rcases mx_if_el hf with ⟨c6, hf⟩ | ⟨c6, hf⟩
      · refine sb_if_lt hm dX4_endsAbove_11 (tgt := 33) rfl (fun _ => ?_) (fun z => absurd c6 z)
        refine mx_S.ext [(2, .int l2)] (mx_sub_pos [1] rfl (show ([0, 2, 3] : List Nat).Nodup by decide)) ?_
        exact j_X4_endsAbove_33_ok X hF hL nn l2 h hf
      · refine sb_if_lt hm dX4_endsAbove_11 (tgt := 33) rfl (fun z => absurd z c6) (fun _ => ?_)
        refine mx_S.pu (pc2 := 15) (lv2 := [(0, .ref l0), (2, .int l2), (3, .int l3)]) (st2 := [.int l2]) hm dX4_endsAbove_14 rfl ?_
        refine sx_bi (v := 16) hm dX4_endsAbove_15 (by decide) ?_
        rcases mx_if_el hf with ⟨c5, hf⟩ | ⟨c5, hf⟩
        · refine sb_ic_ge hm dX4_endsAbove_17 (tgt := 33) rfl (fun _ => ?_) (fun z => absurd c5 z)
          refine mx_S.ext [(2, .int l2)] (mx_sub_pos [1] rfl (show ([0, 2, 3] : List Nat).Nodup by decide)) ?_
          exact j_X4_endsAbove_33_ok X hF hL nn l2 h hf
        · refine sb_ic_ge hm dX4_endsAbove_17 (tgt := 33) rfl (fun z => absurd z c5) (fun _ => ?_)
          refine mx_S.pu (pc2 := 21) (lv2 := [(0, .ref l0), (2, .int l2), (3, .int l3)]) (st2 := [.ref l0]) hm dX4_endsAbove_20 rfl ?_
          replace hf := mx_sv_el hf; obtain ⟨v2, e_v2, hf⟩ := hf
          refine sx_get hm dX4_endsAbove_21 rs_RX4_11 (xgr_el e_v2) ?_
          clear e_v2
          refine mx_S.pu (pc2 := 25) (lv2 := [(0, .ref l0), (2, .int l2), (3, .int l3)]) (st2 := [.int l2, .ref v2]) hm dX4_endsAbove_24 rfl ?_
          replace hf := mx_sv_el hf; obtain ⟨v3, e_v3, hf⟩ := hf
          refine sx_ald hm dX4_endsAbove_25 e_v3 ?_
          clear e_v3
          refine mx_S.pu (pc2 := 27) (lv2 := [(2, .int v3), (0, .ref l0), (3, .int l3)]) (st2 := []) hm dX4_endsAbove_26 rfl ?_
          replace hf := xl_el hf; obtain ⟨v4, e_v4, hf⟩ := hf
          refine mx_S.pu (pc2 := 30) (lv2 := [(3, .int v4), (2, .int v3), (0, .ref l0)]) (st2 := []) hm dX4_endsAbove_27 (by rw [← e_v4]; rfl) ?_
          clear e_v4
          refine mx_S.pu (pc2 := 4) (lv2 := [(3, .int v4), (2, .int v3), (0, .ref l0)]) (st2 := []) hm dX4_endsAbove_30 rfl ?_
          refine mx_S.ext [(0, .ref l0), (2, .int v3), (3, .int v4)] (mx_sub_pos [2, 1, 0] rfl (show ([3, 2, 0] : List Nat).Nodup by decide)) ?_
          exact ih l0 v3 v4 h _ hf
/-- ClassMill$Kin.endsAbove(I)Z -/
def f_X4_endsAbove (nn : Nat) (a0 : Nat) (a1 : Int32) (h : mx_H) : Option (Int32 × mx_H) := w_X4_endsAbove_4 nn nn a0 a1 0 h
set_option maxHeartbeats 4000000 in
theorem f_X4_endsAbove_ok (X : Nat × (Nat → Int32)) {F L : Nat} (hF : 0 ≤ F) (hL : 0 ≤ L) (nn : Nat) (a0 : Nat) (a1 : Int32) (h : mx_H) {r : (Int32 × mx_H)} (hf : f_X4_endsAbove nn a0 a1 h = some r) : mx_R X F L 141 [.ref a0, .int a1] h (some (.int r.1), r.2, 0, 0) := by
  have hm : mx_mt 141 = some (yX4_endsAbove, cX4_endsAbove, 4, (some .boolean)) := mt_X4_endsAbove
  show mx_S X F L 141 0 [(0, .ref a0), (1, .int a1)] [] h 0 0 (some (.int r.1), r.2, 0, 0)
  unfold f_X4_endsAbove at hf
  refine mx_S.pu (pc2 := 1) (lv2 := [(0, .ref a0), (1, .int a1)]) (st2 := [.int a1]) hm dX4_endsAbove_0 rfl ?_
  refine mx_S.pu (pc2 := 2) (lv2 := [(2, .int a1), (0, .ref a0), (1, .int a1)]) (st2 := []) hm dX4_endsAbove_1 rfl ?_
  refine sx_ic (v := 0) hm dX4_endsAbove_2 (by decide) ?_
  refine mx_S.pu (pc2 := 4) (lv2 := [(3, .int 0), (2, .int a1), (0, .ref a0), (1, .int a1)]) (st2 := []) hm dX4_endsAbove_3 rfl ?_
  refine mx_S.ext [(0, .ref a0), (2, .int a1), (3, .int 0)] (mx_sub_pos [2, 1, 0] rfl (show ([3, 2, 0, 1] : List Nat).Nodup by decide)) ?_
  exact w_X4_endsAbove_4_ok X hF hL nn nn a0 a1 0 h _ hf

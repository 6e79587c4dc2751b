/-- the reference's program: classes and members are counted by the bytes that they take -/
def PC_ (w : Int) (h : ms_M) : Prop := h 160 23 + 1 ≤ h 160 8 ∧ 2 * h 160 39 ≤ h 160 23 ∧ (h 160 9 = 0 → h 160 22 ≤ 2 * h 160 23 + 28 ∧ 4 * h 160 28 ≤ h 164 (h 160 23).toNat ∧ 9 * h 160 24 + w ≤ h 164 (h 160 23).toNat)
theorem qt_ts {h r : ms_M} (Q : QT_ h) (V : VS_ r) (T : TS_ h r) : QT_ r := ⟨V, ek_ts Q.2.1 T, po_ts Q.2.2 T⟩
section
variable {nn : Nat} {qk : ms_M → Option ms_M} {c0 : Int}
theorem pg_143 (hn : 1000000 ≤ nn) (hk : ∀ {g : ms_M}, QT_ g → PC_ 0 g → g 160 9 = 0 → c0 < g 160 23 → Ok_ (qk g) QT_) {h : ms_M} (Q : QT_ h) (K : PC_ (-1) h) (h0 : c0 ≤ h 160 23) : Ok_ (qj_X13_program_143 nn qk h) QT_ := by
  have g := gF_160_23 Q.1
  unfold qj_X13_program_143
  refine ok_cVR (vf_X13_sign_ hn (by omega) (by omega) Q.1 K.1 Q.2.1) ?_; intro u2 E2 V2 R2
  have T : TS_ h u2 := ts_fr (fun c k w => (ff_X13_sign_ nn) _ E2 c k w) rfl
  have Q2 := qt_ts Q V2 T
  have n22 : u2 160 22 = h 160 22 := (ff_X13_sign_ nn) _ E2 160 22 rfl
  have n39 : u2 160 39 = h 160 39 := (ff_X13_sign_ nn) _ E2 160 39 rfl
  have n28 : u2 160 28 = h 160 28 := (ff_X13_sign_ nn) _ E2 160 28 rfl
  have n24 : u2 160 24 = h 160 24 := (ff_X13_sign_ nn) _ E2 160 24 rfl
  have t8 := T.1
  refine ok_if (fun C => ok_ret Q2) (fun C => ?_)
  have C : u2 160 9 = 0 := Decidable.not_not.1 C
  refine ok_rd (by omega) (gA_163 V2) ?_; intro v6 e6 a6 b6
  refine ok_if (fun C2 => ?_) (fun _ => ok_ret Q2)
  obtain ⟨k1, k2, k3⟩ := K
  have k3 := k3 (by omega)
  have p := po_le Q.2.2 (a := h 160 23) (b := h 160 23 + 1) (by omega) (by omega) (by omega)
  have f : u2 164 (u2 160 23).toNat = h 164 (h 160 23 + 1).toNat := by rw [(T.2 _).2.1, show u2 160 23 = h 160 23 + 1 by omega]
  exact hk Q2 ⟨by omega, by omega, fun _ => by omega⟩ C (by omega)
theorem pg_116 (hn : 1000000 ≤ nn) (hk : ∀ {g : ms_M}, QT_ g → PC_ 0 g → g 160 9 = 0 → c0 < g 160 23 → Ok_ (qk g) QT_) : ∀ (f : Nat) {h : ms_M}, QT_ h → PC_ (-1) h → 1 ≤ h 160 24 → c0 ≤ h 160 23 → 12 * (3001 - h 160 23) - h 160 9 < (f : Int) → Ok_ (qw_X13_program_116 nn qk f h) QT_ := by
  intro f
  induction f with
  | zero => intro h Q K h1 h0 hm; have := gF_160_23 Q.1; have := gF_160_9 Q.1; exfalso; omega
  | succ f ih =>
    intro h Q K h1 h0 hm
    have g := gF_160_23 Q.1
    have g9 := gF_160_9 Q.1
    have g8 := gF_160_8 Q.1
    unfold qw_X13_program_116
    refine ok_if (fun C => pg_143 hn hk Q K h0) (fun C => ?_)
    have C : h 160 9 = 0 := Decidable.not_not.1 C
    refine ok_cP (vf_X13_isSign hn (by omega) (by omega) (by omega) (by omega) Q.1) ?_; intro u12 e12 a12 b12
    refine ok_if (fun _ => pg_143 hn hk Q K h0) (fun _ => ?_)
    obtain ⟨k1, k2, k3⟩ := K
    have k3 := k3 C
    have gf := gA_164 Q.1 (h 160 23).toNat (by omega)
    refine ok_cVR (vf_X13_member hn Q.1 k1 C (by omega) k2 (by omega) h1 Q.2.1) ?_; intro u14 E14 V14 R14
    have T : TS_ h u14 := ts_fr (fun c k w => (ff_X13_member nn) _ E14 c k w) rfl
    have n24 : u14 160 24 = h 160 24 := (ff_X13_member nn) _ E14 160 24 rfl
    have t8 := T.1
    have g99 := gF_160_9 V14
    refine ih (qt_ts Q V14 T) ⟨by omega, by omega, fun z => ?_⟩ (by omega) (by omega) (by omega)
    have B := mb_4 hn Q.1 Q.2.1 Q.2.2 k1 (by omega) k2 (by omega) h1 C E14 z
    have f : u14 164 (u14 160 23).toNat = h 164 (u14 160 23).toNat := (T.2 _).2.1
    rw [f]
    omega
theorem pg_72 (hn : 1000000 ≤ nn) (hk : ∀ {g : ms_M}, QT_ g → PC_ 0 g → g 160 9 = 0 → c0 < g 160 23 → Ok_ (qk g) QT_) {l1 l2 : Int} (r1 : 0 ≤ l1 ∧ l1 ≤ 3000) (r2 : -1 ≤ l2 ∧ l2 ≤ 3000) {h : ms_M} (Q : QT_ h) (K : PC_ 7 h) (h0 : c0 ≤ h 160 23) : Ok_ (qj_X13_program_72 nn qk l1 l2 h) QT_ := by
  have g := gF_160_23 Q.1
  have g8 := gF_160_8 Q.1
  have g24 := gF_160_24 Q.1
  unfold qj_X13_program_72
  refine ok_if (fun C => ?_) (fun _ => ok_ret Q)
  obtain ⟨k1, k2, k3⟩ := K
  have k3 := k3 C
  have gf := gA_164 Q.1 (h 160 23).toNat (by omega)
  refine ok_wA (by omega) ?_; intro h20 E20
  have V20 : VS_ h20 := by rw [E20]; exact wA_178 Q.1 (by omega)
  have x20 : ∀ k, h20 160 k = h 160 k := fun k => by rw [E20]; exact up_n (by omega)
  have T20 : TS_ h h20 := by rw [E20]; exact ts_up (by omega)
  refine ok_wA (by rw [x20]; omega) ?_; intro h23 E23
  have V23 : VS_ h23 := by rw [E23]; exact wA_179 V20 (by omega)
  have x23 : ∀ k, h23 160 k = h 160 k := fun k => by rw [E23, up_n (by omega)]; exact x20 k
  have T23 : TS_ h h23 := ts_t T20 (by rw [E23]; exact ts_up (by omega))
  rw [x23 24]
  refine ok_add (by omega) ?_; intro v25 e25
  refine ok_xl ?_; intro h26 E26
  have V26 : VS_ h26 := by rw [E26]; exact wF_160_24 V23 (by omega)
  have x26 : ∀ k, k ≠ 24 → h26 160 k = h 160 k := fun k z => by rw [E26, up_n (by omega)]; exact x23 k
  have c26 : h26 160 24 = h 160 24 + 1 := by rw [E26, up_s]; omega
  have T26 : TS_ h h26 := ts_t T23 (by rw [E26]; exact ts_up (by omega))
  have Q26 := qt_ts Q V26 T26
  have y8 := x26 8 (by decide)
  have y9 := x26 9 (by decide)
  have y22 := x26 22 (by decide)
  have y23 := x26 23 (by decide)
  have y28 := x26 28 (by decide)
  have y39 := x26 39 (by decide)
  refine ok_cVR (vf_X13_sign_ hn (by omega) (by omega) V26 (by omega) Q26.2.1) ?_; intro u28 E28 V28 R28
  have T28 : TS_ h26 u28 := ts_fr (fun c k w => (ff_X13_sign_ nn) _ E28 c k w) rfl
  have n22 : u28 160 22 = h26 160 22 := (ff_X13_sign_ nn) _ E28 160 22 rfl
  have n39 : u28 160 39 = h26 160 39 := (ff_X13_sign_ nn) _ E28 160 39 rfl
  have n28 : u28 160 28 = h26 160 28 := (ff_X13_sign_ nn) _ E28 160 28 rfl
  have n24 : u28 160 24 = h26 160 24 := (ff_X13_sign_ nn) _ E28 160 24 rfl
  have t8 := T28.1
  have T := ts_t T26 T28
  have Q28 := qt_ts Q26 V28 T28
  have g28 := gF_160_23 V28
  have g29 := gF_160_9 V28
  refine pg_116 hn hk nn Q28 ⟨by omega, by omega, fun z => ?_⟩ (by omega) (by omega) (by omega)
  have p := po_le Q.2.2 (a := h 160 23) (b := h 160 23 + 1) (by omega) (by omega) (by omega)
  have f : u28 164 (u28 160 23).toNat = h 164 (h 160 23 + 1).toNat := by rw [(T.2 _).2.1, show u28 160 23 = h 160 23 + 1 by omega]
  rw [f]
  omega
end
theorem wd_k {nn : Nat} {a : Int} {h r : ms_M} (hn : 1000000 ≤ nn) (V : VS_ h) (N : EK_ h) (hc : h 160 23 + 1 ≤ h 160 8) (e : qf_X13_word nn a h = some r) (z : r 160 9 = 0) : h 163 (h 160 23).toNat = 3 ∧ h 166 (h 160 23).toNat = a := by
  unfold qf_X13_word at e
  by_cases q : h 160 9 = 0
  · rw [if_pos q] at e
    obtain ⟨u, e1, e⟩ := sv_i e
    have L := iw_k e1
    by_cases q2 : u = 0
    · rw [if_pos q2] at e
      obtain ⟨w, e2, e⟩ := sv_i e
      cases e
      exact absurd z (okof (vf_X13_misplaced hn V hc N) e2).2
    · exact L.resolve_left q2
  · rw [if_neg q] at e
    cases e
    exact absurd z q
theorem pg_25 {nn : Nat} (hn : 1000000 ≤ nn) : ∀ (f : Nat) {h : ms_M}, QT_ h → PC_ 0 h → h 160 9 = 0 → 3001 - h 160 23 < (f : Int) → Ok_ (qw_X13_program_25 nn f h) QT_ := by
  intro f
  induction f with
  | zero => intro h Q K h0 hm; have := gF_160_23 Q.1; exfalso; omega
  | succ f ih =>
    intro h Q K h0 hm
    have g := gF_160_23 Q.1
    have g8 := gF_160_8 Q.1
    have hk : ∀ {g : ms_M}, QT_ g → PC_ 0 g → g 160 9 = 0 → h 160 23 < g 160 23 → Ok_ (qw_X13_program_25 nn f g) QT_ := fun Qg Kg zg hg => ih Qg Kg zg (by omega)
    obtain ⟨k1, k2, k3⟩ := K
    have k3 := k3 h0
    unfold qw_X13_program_25
    refine ok_cVR (vf_X13_word hn (by omega) (by omega) Q.1 k1 Q.2.1) ?_; intro u31 E31 V31 R31
    have T31 : TS_ h u31 := ts_fr (fun c k w => (ff_X13_word nn) _ E31 c k w) rfl
    have a22 : u31 160 22 = h 160 22 := (ff_X13_word nn) _ E31 160 22 rfl
    have a39 : u31 160 39 = h 160 39 := (ff_X13_word nn) _ E31 160 39 rfl
    have a28 : u31 160 28 = h 160 28 := (ff_X13_word nn) _ E31 160 28 rfl
    have a24 : u31 160 24 = h 160 24 := (ff_X13_word nn) _ E31 160 24 rfl
    have t31 := T31.1
    have Q31 := qt_ts Q V31 T31
    refine ok_cIR (vf_X13_name hn V31 (by omega) Q31.2.1) ?_; intro u33 E33 V33 a33 b33 R33
    have T33 : TS_ u31 u33.2 := ts_fr (fun c k w => (ff_X13_name nn) _ E33 c k w) rfl
    have b22 : u33.2 160 22 = u31 160 22 := (ff_X13_name nn) _ E33 160 22 rfl
    have b39 : u33.2 160 39 = u31 160 39 := (ff_X13_name nn) _ E33 160 39 rfl
    have b28 : u33.2 160 28 = u31 160 28 := (ff_X13_name nn) _ E33 160 28 rfl
    have b24 : u33.2 160 24 = u31 160 24 := (ff_X13_name nn) _ E33 160 24 rfl
    have t33 := T33.1
    have T := ts_t T31 T33
    have Q33 := qt_ts Q31 V33 T33
    have dead : ∀ {l2 : Int}, (-1 ≤ l2 ∧ l2 ≤ 3000) → ¬ u33.2 160 9 = 0 → Ok_ (qj_X13_program_72 nn (qw_X13_program_25 nn f) u33.1 l2 u33.2) QT_ := fun rl z => pg_72 hn hk ⟨a33, b33⟩ rl Q33 ⟨by omega, by omega, fun w => absurd w z⟩ (by omega)
    refine ok_if (fun C => dead (by omega) C) (fun C => ?_)
    have C : u33.2 160 9 = 0 := Decidable.not_not.1 C
    have f31 : u31 160 9 = 0 := by omega
    have w31 := wd_k hn Q.1 Q.2.1 k1 E31 f31
    have n33 := nm_k hn V31 Q31.2.1 (by omega) E33 C
    rw [(T31.2 _).1, show u31 160 23 = h 160 23 + 1 by omega] at n33
    have w5 := Q.2.2.2.1 (h 160 23).toNat (by omega) w31.1 w31.2
    have p1 := po_two Q.2.2 (a := h 160 23) (by omega) (by omega) (by omega) (by omega)
    have p2 := po_le Q.2.2 (a := h 160 23 + 1) (b := h 160 23 + 2) (by omega) (by omega) (by omega)
    have c33 : u33.2 160 23 = h 160 23 + 2 := by omega
    have K33 : PC_ 7 u33.2 := by
      refine ⟨by omega, by omega, fun _ => ?_⟩
      have f : u33.2 164 (u33.2 160 23).toNat = h 164 (h 160 23 + 2).toNat := by rw [(T.2 _).2.1, c33]
      rw [f]; omega
    refine ok_cP (vf_X13_isWord hn (by omega) (by omega) (by omega) (by omega) V33) ?_; intro u37 e37 a37 b37
    have L37 := lm_ek_isWord Q33.2.1 (by omega) e37
    refine ok_if (fun _ => pg_72 hn hk ⟨a33, b33⟩ (by omega) Q33 K33 (by omega)) (fun C2 => ?_)
    refine ok_add (by omega) ?_; intro v39 e39
    refine ok_xl ?_; intro h40 E40
    have V40 : VS_ h40 := by rw [E40]; exact wF_160_23 V33 (by omega)
    have T40 : TS_ u33.2 h40 := by rw [E40]; exact ts_up (by omega)
    have x40 : ∀ k, k ≠ 23 → h40 160 k = u33.2 160 k := fun k z => by rw [E40]; exact up_n (by omega)
    have c40 : h40 160 23 = h 160 23 + 3 := by rw [E40, up_s]; omega
    have Q40 := qt_ts Q33 V40 T40
    have t40 := T40.1
    have d22 := x40 22 (by decide)
    have d39 := x40 39 (by decide)
    have d28 := x40 28 (by decide)
    have d24 := x40 24 (by decide)
    refine ok_cIR (vf_X13_name hn V40 (by omega) Q40.2.1) ?_; intro u42 E42 V42 a42 b42 R42
    have T42 : TS_ h40 u42.2 := ts_fr (fun c k w => (ff_X13_name nn) _ E42 c k w) rfl
    have e22 : u42.2 160 22 = h40 160 22 := (ff_X13_name nn) _ E42 160 22 rfl
    have e39 : u42.2 160 39 = h40 160 39 := (ff_X13_name nn) _ E42 160 39 rfl
    have e28 : u42.2 160 28 = h40 160 28 := (ff_X13_name nn) _ E42 160 28 rfl
    have e24 : u42.2 160 24 = h40 160 24 := (ff_X13_name nn) _ E42 160 24 rfl
    have t42 := T42.1
    have Q42 := qt_ts Q40 V42 T42
    have TT := ts_t (ts_t T T40) T42
    refine pg_72 hn hk ⟨a33, b33⟩ (by omega) Q42 ⟨by omega, by omega, fun _ => ?_⟩ (by omega)
    have p3 := po_le Q.2.2 (a := h 160 23 + 2) (b := u42.2 160 23) (by omega) (by omega) (by omega)
    have f : u42.2 164 (u42.2 160 23).toNat = h 164 (u42.2 160 23).toNat := (TT.2 _).2.1
    rw [f]; omega
theorem vf_X13_program {nn : Nat} (hn : 1000000 ≤ nn) {h : ms_M} (Q : QT_ h) (h0 : h 160 9 = 0) : Ok_ (qf_X13_program nn h) QT_ := by
  unfold qf_X13_program
  refine ok_xl ?_; intro h45 E45
  have V45 : VS_ h45 := by rw [E45]; exact wF_160_24 Q.1 (by omega)
  refine ok_xl ?_; intro h46 E46
  have V46 : VS_ h46 := by rw [E46]; exact wF_160_28 V45 (by omega)
  refine ok_xl ?_; intro h47 E47
  have V47 : VS_ h47 := by rw [E47]; exact wF_160_39 V46 (by omega)
  refine ok_xl ?_; intro h48 E48
  have V48 : VS_ h48 := by rw [E48]; exact wF_160_22 V47 (by omega)
  refine ok_xl ?_; intro h49 E49
  have V49 : VS_ h49 := by rw [E49]; exact wF_160_23 V48 (by omega)
  have T : TS_ h h49 := by
    rw [E49, E48, E47, E46, E45]
    exact ts_t (ts_t (ts_t (ts_t (ts_up (by omega)) (ts_up (by omega))) (ts_up (by omega))) (ts_up (by omega))) (ts_up (by omega))
  have s24 : h49 160 24 = 0 := by rw [E49, up_n (by omega), E48, up_n (by omega), E47, up_n (by omega), E46, up_n (by omega), E45, up_s]
  have s28 : h49 160 28 = 0 := by rw [E49, up_n (by omega), E48, up_n (by omega), E47, up_n (by omega), E46, up_s]
  have s39 : h49 160 39 = 0 := by rw [E49, up_n (by omega), E48, up_n (by omega), E47, up_s]
  have s22 : h49 160 22 = 0 := by rw [E49, up_n (by omega), E48, up_s]
  have s23 : h49 160 23 = 0 := by rw [E49, up_s]
  have s9 : h49 160 9 = 0 := by rw [E49, up_n (by omega), E48, up_n (by omega), E47, up_n (by omega), E46, up_n (by omega), E45, up_n (by omega)]; exact h0
  have t8 := T.1
  have n1 := Q.2.1.1
  have gf := gA_164 V49 0 (by decide)
  refine pg_25 hn nn (qt_ts Q V49 T) ⟨by omega, by omega, fun _ => ?_⟩ s9 (by omega)
  rw [s23]
  exact ⟨by omega, by rw [s28]; exact gf.1, by rw [s24]; exact gf.1⟩

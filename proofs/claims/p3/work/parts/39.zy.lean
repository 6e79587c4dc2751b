/-- the reference's program, with what heads wants of the rows of members -/
def FX_ (M : ms_M) : Prop := (∀ m : Nat, (m : Int) < 800 → M 188 m + M 189 m ≤ 1500) ∧ MC_ M
def QX_ (r : ms_M) : Prop := VS_ r ∧ EK_ r ∧ PO_ r ∧ FX_ r
def FS_ (h r : ms_M) : Prop := (∀ k, r 181 k = h 181 k ∧ r 188 k = h 188 k ∧ r 189 k = h 189 k) ∧ r 160 28 = h 160 28 ∧ h 160 24 ≤ r 160 24
theorem qx_ts {h r : ms_M} (Q : QX_ h) (V : VS_ r) (T : TS_ h r) (F : FS_ h r) : QX_ r := by
  refine ⟨V, ek_ts Q.2.1 T, po_ts Q.2.2.1 T, fun m hm => ?_, fun m hm => ?_⟩
  · rw [(F.1 m).2.1, (F.1 m).2.2]; exact Q.2.2.2.1 m hm
  · rw [F.2.1] at hm
    have := Q.2.2.2.2 m hm
    have := F.2.2
    rw [(F.1 m).1]; omega
theorem fx_fr {h r : ms_M} {L : List Nat} {LF : List (Nat × Nat)} (F : ∀ c k, nw_F L LF false false c k = true → r c k = h c k) (hc : ((nw_F L LF false false 160 28 && nw_F L LF false false 160 24) && ((!(L.contains 181) && LF.all (fun q => !(Nat.beq q.1 181))) && ((!(L.contains 188) && LF.all (fun q => !(Nat.beq q.1 188))) && (!(L.contains 189) && LF.all (fun q => !(Nat.beq q.1 189)))))) = true) : FS_ h r := by
  simp only [Bool.and_eq_true] at hc
  obtain ⟨⟨a, b⟩, ⟨c1, c2⟩, ⟨d1, d2⟩, e1, e2⟩ := hc
  refine ⟨fun k => ⟨F _ _ (nw_ar ?_ k), F _ _ (nw_ar ?_ k), F _ _ (nw_ar ?_ k)⟩, F _ _ a, by rw [F _ _ b]; exact Int.le_refl _⟩ <;> simp only [Bool.and_eq_true]
  · exact ⟨c1, c2, rfl, rfl⟩
  · exact ⟨d1, d2, rfl, rfl⟩
  · exact ⟨e1, e2, rfl, rfl⟩
theorem wn_fs {h g r : ms_M} (F : FS_ h g) (e24 : g 160 24 = h 160 24) (W : WN_ g r) : WN_ h r := by
  unfold WN_ at W ⊢
  rw [F.2.1, e24] at W
  refine ⟨fun k hk => ?_, W.2⟩
  have := W.1 k hk
  exact ⟨this.1.trans (F.1 k).1, this.2.1.trans (F.1 k).2.1, this.2.2.trans (F.1 k).2.2⟩
theorem wn_25 {nn : Nat} {l1 : Int} {h r : ms_M} (hn : 1000000 ≤ nn) (V : VS_ h) (N : EK_ h) (hl : 0 ≤ l1 ∧ l1 ≤ 1) (x1 : h 160 23 + 1 ≤ h 160 8) (x2 : h 160 22 ≤ 2 * h 160 23 + 30) (x3 : 2 * h 160 39 ≤ h 160 23) (x4 : h 160 28 ≤ 799) (x5 : 1 ≤ h 160 24) (e : qj_X13_member_25 nn l1 h = some r) : WN_ h r := by
  have g := gF_160_23 V
  have g8 := gF_160_8 V
  unfold qj_X13_member_25 at e
  obtain ⟨u98, e98, e⟩ := sv_i e
  have r98 := okof (vf_X13_isWord hn (by omega) (by omega) (by omega) (by omega) V) e98
  have r98 : 0 ≤ u98 ∧ u98 ≤ 1 := r98
  by_cases q : u98 = 0
  · rw [if_pos q] at e
    obtain ⟨u100, e100, e⟩ := sv_i e
    obtain ⟨V1, R1⟩ := okof (vf_X13_type hn V x1 N) e100
    have T : TS_ h u100 := ts_fr (fun c k w => (ff_X13_type nn) _ e100 c k w) rfl
    have F : FS_ h u100 := fx_fr (fun c k w => (ff_X13_type nn) _ e100 c k w) rfl
    have n22 : u100 160 22 = h 160 22 := (ff_X13_type nn) _ e100 160 22 rfl
    have n39 : u100 160 39 = h 160 39 := (ff_X13_type nn) _ e100 160 39 rfl
    have n24 : u100 160 24 = h 160 24 := (ff_X13_type nn) _ e100 160 24 rfl
    have n28 := F.2.1
    have t8 := T.1
    exact wn_fs F n24 (wn_75 hn ⟨hl, r98⟩ V1 (ek_ts N T) (by omega) (by omega) (by omega) (by omega) (by omega) e)
  · rw [if_neg q, xl_eq, xl_eq, xl_eq, xl_eq, xl_eq] at e
    have L2 := lm_ek_isWord N (by omega) e98
    have V1 : VS_ (up_M h 160 45 2) := wF_160_45 V (by omega)
    have V2 : VS_ (up_M (up_M h 160 45 2) 160 47 0) := wF_160_47 V1 (by omega)
    have c2 : up_M (up_M h 160 45 2) 160 47 0 160 23 = h 160 23 := by rw [up_n (by omega), up_n (by omega)]
    have V3 : VS_ (up_M (up_M (up_M h 160 45 2) 160 47 0) 160 46 (up_M (up_M h 160 45 2) 160 47 0 160 23)) := wF_160_46 V2 (by rw [c2]; omega)
    have f3 : ∀ c k, ¬ (c = 160 ∧ (k = 45 ∨ k = 46 ∨ k = 47)) → up_M (up_M (up_M h 160 45 2) 160 47 0) 160 46 (up_M (up_M h 160 45 2) 160 47 0 160 23) c k = h c k := fun c k z => by rw [up_n (by omega), up_n (by omega), up_n (by omega)]
    generalize up_M (up_M (up_M h 160 45 2) 160 47 0) 160 46 (up_M (up_M h 160 45 2) 160 47 0 160 23) = g3 at *
    rw [f3 160 23 (by omega), oq_add_eq (by omega) (by omega) (by omega)] at e
    have V4 : VS_ (up_M g3 160 23 (h 160 23 + 1)) := wF_160_23 V3 (by omega)
    have f4 : ∀ c k, ¬ (c = 160 ∧ (k = 45 ∨ k = 46 ∨ k = 47 ∨ k = 23)) → up_M g3 160 23 (h 160 23 + 1) c k = h c k := fun c k z => by rw [up_n (by omega)]; exact f3 c k (by omega)
    have c4 : up_M g3 160 23 (h 160 23 + 1) 160 23 = h 160 23 + 1 := up_s
    generalize up_M g3 160 23 (h 160 23 + 1) = g4 at *
    have T : TS_ h g4 := ⟨f4 _ _ (by omega), fun k => ⟨f4 _ _ (by omega), f4 _ _ (by omega), f4 _ _ (by omega), f4 _ _ (by omega)⟩⟩
    have n24 := f4 160 24 (by omega)
    have F : FS_ h g4 := ⟨fun k => ⟨f4 _ _ (by omega), f4 _ _ (by omega), f4 _ _ (by omega)⟩, f4 _ _ (by omega), by omega⟩
    have n22 := f4 160 22 (by omega)
    have n39 := f4 160 39 (by omega)
    have n28 := F.2.1
    have t8 := T.1
    exact wn_fs F n24 (wn_75 hn ⟨hl, r98⟩ V4 (ek_ts N T) (by omega) (by omega) (by omega) (by omega) (by omega) e)
theorem wn_mb {nn : Nat} {h r : ms_M} (hn : 1000000 ≤ nn) (V : VS_ h) (N : EK_ h) (x1 : h 160 23 + 1 ≤ h 160 8) (x2 : h 160 22 ≤ 2 * h 160 23 + 30) (x3 : 2 * h 160 39 ≤ h 160 23) (x4 : h 160 28 ≤ 799) (x5 : 1 ≤ h 160 24) (e : qf_X13_member nn h = some r) : WN_ h r := by
  have g := gF_160_23 V
  have g8 := gF_160_8 V
  unfold qf_X13_member at e
  obtain ⟨u, e1, e⟩ := sv_i e
  have L := lm_ek_isWord N (by omega) e1
  have ru := okof (vf_X13_isWord hn (by omega) (by omega) (by omega) (by omega) V) e1
  have ru : 0 ≤ u ∧ u ≤ 1 := ru
  by_cases q : u = 0
  · rw [if_pos q] at e
    exact wn_25 hn V N ru x1 x2 x3 x4 x5 e
  · rw [if_neg q, xl_eq, xl_eq, oq_add_eq (by omega) (by omega) (by omega)] at e
    have V4 : VS_ (up_M h 160 23 (h 160 23 + 1)) := wF_160_23 V (by omega)
    have f4 : ∀ c k, ¬ (c = 160 ∧ k = 23) → up_M h 160 23 (h 160 23 + 1) c k = h c k := fun c k z => up_n z
    have c4 : up_M h 160 23 (h 160 23 + 1) 160 23 = h 160 23 + 1 := up_s
    generalize up_M h 160 23 (h 160 23 + 1) = g4 at *
    have T : TS_ h g4 := ⟨f4 _ _ (by omega), fun k => ⟨f4 _ _ (by omega), f4 _ _ (by omega), f4 _ _ (by omega), f4 _ _ (by omega)⟩⟩
    have n24 := f4 160 24 (by omega)
    have F : FS_ h g4 := ⟨fun k => ⟨f4 _ _ (by omega), f4 _ _ (by omega), f4 _ _ (by omega)⟩, f4 _ _ (by omega), by omega⟩
    have n22 := f4 160 22 (by omega)
    have n39 := f4 160 39 (by omega)
    have n28 := F.2.1
    have t8 := T.1
    exact wn_fs F n24 (wn_25 hn V4 (ek_ts N T) ru (by omega) (by omega) (by omega) (by omega) (by omega) e)
theorem qx_mb {h r : ms_M} (Q : QX_ h) (V : VS_ r) (T : TS_ h r) (W : WN_ h r) (m1 : h 160 28 ≤ r 160 28 ∧ r 160 28 ≤ h 160 28 + 1) (e24 : r 160 24 = h 160 24) : QX_ r := by
  have g := gF_160_28 Q.1
  refine ⟨V, ek_ts Q.2.1 T, po_ts Q.2.2.1 T, fun m hm => ?_, fun m hm => ?_⟩
  · by_cases q : m = (h 160 28).toNat
    · rw [q]; exact W.2.2
    · have := W.1 m q
      rw [this.2.1, this.2.2]; exact Q.2.2.2.1 m hm
  · rw [e24]
    by_cases q : m = (h 160 28).toNat
    · rw [q, W.2.1]; omega
    · rw [(W.1 m q).1]; exact Q.2.2.2.2 m (by omega)
section
variable {nn : Nat} {qk : ms_M → Option ms_M} {c0 : Int}
theorem px_143 (hn : 1000000 ≤ nn) (hk : ∀ {g : ms_M}, QX_ g → PC_ 0 g → g 160 9 = 0 → c0 < g 160 23 → Ok_ (qk g) QX_) {h : ms_M} (Q : QX_ h) (K : PC_ (-1) h) (h0 : c0 ≤ h 160 23) : Ok_ (qj_X13_program_143 nn qk h) QX_ := by
  have g := gF_160_23 Q.1
  unfold qj_X13_program_143
  refine ok_cVR (vf_X13_sign_ hn (by omega) (by omega) Q.1 K.1 Q.2.1) ?_; intro u2 E2 V2 R2
  have T : TS_ h u2 := ts_fr (fun c k w => (ff_X13_sign_ nn) _ E2 c k w) rfl
  have Q2 := qx_ts Q V2 T (fx_fr (fun c k w => (ff_X13_sign_ nn) _ E2 c k w) rfl)
  have n22 : u2 160 22 = h 160 22 := (ff_X13_sign_ nn) _ E2 160 22 rfl
  have n39 : u2 160 39 = h 160 39 := (ff_X13_sign_ nn) _ E2 160 39 rfl
  have n28 : u2 160 28 = h 160 28 := (ff_X13_sign_ nn) _ E2 160 28 rfl
  have n24 : u2 160 24 = h 160 24 := (ff_X13_sign_ nn) _ E2 160 24 rfl
  have t8 := T.1
  refine ok_if (fun C => ok_ret Q2) (fun C => ?_)
  have C : u2 160 9 = 0 := Decidable.not_not.1 C
  refine ok_rd (by omega) (gA_163 V2) ?_; intro v6 e6 a6 b6
  refine ok_if (fun C2 => ?_) (fun _ => ok_ret Q2)
  obtain ⟨k1, k2, k3⟩ := K
  have k3 := k3 (by omega)
  have p := po_le Q.2.2.1 (a := h 160 23) (b := h 160 23 + 1) (by omega) (by omega) (by omega)
  have f : u2 164 (u2 160 23).toNat = h 164 (h 160 23 + 1).toNat := by rw [(T.2 _).2.1, show u2 160 23 = h 160 23 + 1 by omega]
  exact hk Q2 ⟨by omega, by omega, fun _ => by omega⟩ C (by omega)
theorem px_116 (hn : 1000000 ≤ nn) (hk : ∀ {g : ms_M}, QX_ g → PC_ 0 g → g 160 9 = 0 → c0 < g 160 23 → Ok_ (qk g) QX_) : ∀ (f : Nat) {h : ms_M}, QX_ h → PC_ (-1) h → 1 ≤ h 160 24 → c0 ≤ h 160 23 → 12 * (3001 - h 160 23) - h 160 9 < (f : Int) → Ok_ (qw_X13_program_116 nn qk f h) QX_ := by
  intro f
  induction f with
  | zero => intro h Q K h1 h0 hm; have := gF_160_23 Q.1; have := gF_160_9 Q.1; exfalso; omega
  | succ f ih =>
    intro h Q K h1 h0 hm
    have g := gF_160_23 Q.1
    have g9 := gF_160_9 Q.1
    have g8 := gF_160_8 Q.1
    unfold qw_X13_program_116
    refine ok_if (fun C => px_143 hn hk Q K h0) (fun C => ?_)
    have C : h 160 9 = 0 := Decidable.not_not.1 C
    refine ok_cP (vf_X13_isSign hn (by omega) (by omega) (by omega) (by omega) Q.1) ?_; intro u12 e12 a12 b12
    refine ok_if (fun _ => px_143 hn hk Q K h0) (fun _ => ?_)
    obtain ⟨k1, k2, k3⟩ := K
    have k3 := k3 C
    have gf := gA_164 Q.1 (h 160 23).toNat (by omega)
    refine ok_cVR (vf_X13_member hn Q.1 k1 C (by omega) k2 (by omega) h1 Q.2.1) ?_; intro u14 E14 V14 R14
    have T : TS_ h u14 := ts_fr (fun c k w => (ff_X13_member nn) _ E14 c k w) rfl
    have n24 : u14 160 24 = h 160 24 := (ff_X13_member nn) _ E14 160 24 rfl
    have t8 := T.1
    have g99 := gF_160_9 V14
    refine ih (qx_mb Q V14 T (wn_mb hn Q.1 Q.2.1 k1 (by omega) k2 (by omega) h1 E14) (by omega) n24) ⟨by omega, by omega, fun z => ?_⟩ (by omega) (by omega) (by omega)
    have B := mb_4 hn Q.1 Q.2.1 Q.2.2.1 k1 (by omega) k2 (by omega) h1 C E14 z
    have f : u14 164 (u14 160 23).toNat = h 164 (u14 160 23).toNat := (T.2 _).2.1
    rw [f]
    omega
theorem px_72 (hn : 1000000 ≤ nn) (hk : ∀ {g : ms_M}, QX_ g → PC_ 0 g → g 160 9 = 0 → c0 < g 160 23 → Ok_ (qk g) QX_) {l1 l2 : Int} (r1 : 0 ≤ l1 ∧ l1 ≤ 3000) (r2 : -1 ≤ l2 ∧ l2 ≤ 3000) {h : ms_M} (Q : QX_ h) (K : PC_ 7 h) (h0 : c0 ≤ h 160 23) : Ok_ (qj_X13_program_72 nn qk l1 l2 h) QX_ := by
  have g := gF_160_23 Q.1
  have g8 := gF_160_8 Q.1
  have g24 := gF_160_24 Q.1
  unfold qj_X13_program_72
  refine ok_if (fun C => ?_) (fun _ => ok_ret Q)
  obtain ⟨k1, k2, k3⟩ := K
  have k3 := k3 C
  have gf := gA_164 Q.1 (h 160 23).toNat (by omega)
  refine ok_wA (by omega) ?_; intro h20 E20
  have V20 : VS_ h20 := by rw [E20]; exact wA_178 Q.1 (by omega)
  have x20 : ∀ k, h20 160 k = h 160 k := fun k => by rw [E20]; exact up_n (by omega)
  have T20 : TS_ h h20 := by rw [E20]; exact ts_up (by omega)
  refine ok_wA (by rw [x20]; omega) ?_; intro h23 E23
  have V23 : VS_ h23 := by rw [E23]; exact wA_179 V20 (by omega)
  have x23 : ∀ k, h23 160 k = h 160 k := fun k => by rw [E23, up_n (by omega)]; exact x20 k
  have T23 : TS_ h h23 := ts_t T20 (by rw [E23]; exact ts_up (by omega))
  rw [x23 24]
  refine ok_add (by omega) ?_; intro v25 e25
  refine ok_xl ?_; intro h26 E26
  have V26 : VS_ h26 := by rw [E26]; exact wF_160_24 V23 (by omega)
  have x26 : ∀ k, k ≠ 24 → h26 160 k = h 160 k := fun k z => by rw [E26, up_n (by omega)]; exact x23 k
  have c26 : h26 160 24 = h 160 24 + 1 := by rw [E26, up_s]; omega
  have T26 : TS_ h h26 := ts_t T23 (by rw [E26]; exact ts_up (by omega))
  have Q26 := qx_ts Q V26 T26 ⟨fun k => ⟨by rw [E26, up_n (by omega), E23, up_n (by omega), E20, up_n (by omega)], by rw [E26, up_n (by omega), E23, up_n (by omega), E20, up_n (by omega)], by rw [E26, up_n (by omega), E23, up_n (by omega), E20, up_n (by omega)]⟩, x26 28 (by decide), by omega⟩
  have y8 := x26 8 (by decide)
  have y9 := x26 9 (by decide)
  have y22 := x26 22 (by decide)
  have y23 := x26 23 (by decide)
  have y28 := x26 28 (by decide)
  have y39 := x26 39 (by decide)
  refine ok_cVR (vf_X13_sign_ hn (by omega) (by omega) V26 (by omega) Q26.2.1) ?_; intro u28 E28 V28 R28
  have T28 : TS_ h26 u28 := ts_fr (fun c k w => (ff_X13_sign_ nn) _ E28 c k w) rfl
  have n22 : u28 160 22 = h26 160 22 := (ff_X13_sign_ nn) _ E28 160 22 rfl
  have n39 : u28 160 39 = h26 160 39 := (ff_X13_sign_ nn) _ E28 160 39 rfl
  have n28 : u28 160 28 = h26 160 28 := (ff_X13_sign_ nn) _ E28 160 28 rfl
  have n24 : u28 160 24 = h26 160 24 := (ff_X13_sign_ nn) _ E28 160 24 rfl
  have t8 := T28.1
  have T := ts_t T26 T28
  have Q28 := qx_ts Q26 V28 T28 (fx_fr (fun c k w => (ff_X13_sign_ nn) _ E28 c k w) rfl)
  have g28 := gF_160_23 V28
  have g29 := gF_160_9 V28
  refine px_116 hn hk nn Q28 ⟨by omega, by omega, fun z => ?_⟩ (by omega) (by omega) (by omega)
  have p := po_le Q.2.2.1 (a := h 160 23) (b := h 160 23 + 1) (by omega) (by omega) (by omega)
  have f : u28 164 (u28 160 23).toNat = h 164 (h 160 23 + 1).toNat := by rw [(T.2 _).2.1, show u28 160 23 = h 160 23 + 1 by omega]
  rw [f]
  omega
end
theorem px_25 {nn : Nat} (hn : 1000000 ≤ nn) : ∀ (f : Nat) {h : ms_M}, QX_ h → PC_ 0 h → h 160 9 = 0 → 3001 - h 160 23 < (f : Int) → Ok_ (qw_X13_program_25 nn f h) QX_ := by
  intro f
  induction f with
  | zero => intro h Q K h0 hm; have := gF_160_23 Q.1; exfalso; omega
  | succ f ih =>
    intro h Q K h0 hm
    have g := gF_160_23 Q.1
    have g8 := gF_160_8 Q.1
    have hk : ∀ {g : ms_M}, QX_ g → PC_ 0 g → g 160 9 = 0 → h 160 23 < g 160 23 → Ok_ (qw_X13_program_25 nn f g) QX_ := fun Qg Kg zg hg => ih Qg Kg zg (by omega)
    obtain ⟨k1, k2, k3⟩ := K
    have k3 := k3 h0
    unfold qw_X13_program_25
    refine ok_cVR (vf_X13_word hn (by omega) (by omega) Q.1 k1 Q.2.1) ?_; intro u31 E31 V31 R31
    have T31 : TS_ h u31 := ts_fr (fun c k w => (ff_X13_word nn) _ E31 c k w) rfl
    have a22 : u31 160 22 = h 160 22 := (ff_X13_word nn) _ E31 160 22 rfl
    have a39 : u31 160 39 = h 160 39 := (ff_X13_word nn) _ E31 160 39 rfl
    have a28 : u31 160 28 = h 160 28 := (ff_X13_word nn) _ E31 160 28 rfl
    have a24 : u31 160 24 = h 160 24 := (ff_X13_word nn) _ E31 160 24 rfl
    have t31 := T31.1
    have Q31 := qx_ts Q V31 T31 (fx_fr (fun c k w => (ff_X13_word nn) _ E31 c k w) rfl)
    refine ok_cIR (vf_X13_name hn V31 (by omega) Q31.2.1) ?_; intro u33 E33 V33 a33 b33 R33
    have T33 : TS_ u31 u33.2 := ts_fr (fun c k w => (ff_X13_name nn) _ E33 c k w) rfl
    have b22 : u33.2 160 22 = u31 160 22 := (ff_X13_name nn) _ E33 160 22 rfl
    have b39 : u33.2 160 39 = u31 160 39 := (ff_X13_name nn) _ E33 160 39 rfl
    have b28 : u33.2 160 28 = u31 160 28 := (ff_X13_name nn) _ E33 160 28 rfl
    have b24 : u33.2 160 24 = u31 160 24 := (ff_X13_name nn) _ E33 160 24 rfl
    have t33 := T33.1
    have T := ts_t T31 T33
    have Q33 := qx_ts Q31 V33 T33 (fx_fr (fun c k w => (ff_X13_name nn) _ E33 c k w) rfl)
    have dead : ∀ {l2 : Int}, (-1 ≤ l2 ∧ l2 ≤ 3000) → ¬ u33.2 160 9 = 0 → Ok_ (qj_X13_program_72 nn (qw_X13_program_25 nn f) u33.1 l2 u33.2) QX_ := fun rl z => px_72 hn hk ⟨a33, b33⟩ rl Q33 ⟨by omega, by omega, fun w => absurd w z⟩ (by omega)
    refine ok_if (fun C => dead (by omega) C) (fun C => ?_)
    have C : u33.2 160 9 = 0 := Decidable.not_not.1 C
    have f31 : u31 160 9 = 0 := by omega
    have w31 := wd_k hn Q.1 Q.2.1 k1 E31 f31
    have n33 := nm_k hn V31 Q31.2.1 (by omega) E33 C
    rw [(T31.2 _).1, show u31 160 23 = h 160 23 + 1 by omega] at n33
    have w5 := Q.2.2.1.2.1 (h 160 23).toNat (by omega) w31.1 w31.2
    have p1 := po_two Q.2.2.1 (a := h 160 23) (by omega) (by omega) (by omega) (by omega)
    have p2 := po_le Q.2.2.1 (a := h 160 23 + 1) (b := h 160 23 + 2) (by omega) (by omega) (by omega)
    have c33 : u33.2 160 23 = h 160 23 + 2 := by omega
    have K33 : PC_ 7 u33.2 := by
      refine ⟨by omega, by omega, fun _ => ?_⟩
      have f : u33.2 164 (u33.2 160 23).toNat = h 164 (h 160 23 + 2).toNat := by rw [(T.2 _).2.1, c33]
      rw [f]; omega
    refine ok_cP (vf_X13_isWord hn (by omega) (by omega) (by omega) (by omega) V33) ?_; intro u37 e37 a37 b37
    have L37 := lm_ek_isWord Q33.2.1 (by omega) e37
    refine ok_if (fun _ => px_72 hn hk ⟨a33, b33⟩ (by omega) Q33 K33 (by omega)) (fun C2 => ?_)
    refine ok_add (by omega) ?_; intro v39 e39
    refine ok_xl ?_; intro h40 E40
    have V40 : VS_ h40 := by rw [E40]; exact wF_160_23 V33 (by omega)
    have T40 : TS_ u33.2 h40 := by rw [E40]; exact ts_up (by omega)
    have x40 : ∀ k, k ≠ 23 → h40 160 k = u33.2 160 k := fun k z => by rw [E40]; exact up_n (by omega)
    have c40 : h40 160 23 = h 160 23 + 3 := by rw [E40, up_s]; omega
    have Q40 := qx_ts Q33 V40 T40 ⟨fun k => ⟨by rw [E40, up_n (by omega)], by rw [E40, up_n (by omega)], by rw [E40, up_n (by omega)]⟩, x40 28 (by decide), by rw [x40 24 (by decide)]; exact Int.le_refl _⟩
    have t40 := T40.1
    have d22 := x40 22 (by decide)
    have d39 := x40 39 (by decide)
    have d28 := x40 28 (by decide)
    have d24 := x40 24 (by decide)
    refine ok_cIR (vf_X13_name hn V40 (by omega) Q40.2.1) ?_; intro u42 E42 V42 a42 b42 R42
    have T42 : TS_ h40 u42.2 := ts_fr (fun c k w => (ff_X13_name nn) _ E42 c k w) rfl
    have e22 : u42.2 160 22 = h40 160 22 := (ff_X13_name nn) _ E42 160 22 rfl
    have e39 : u42.2 160 39 = h40 160 39 := (ff_X13_name nn) _ E42 160 39 rfl
    have e28 : u42.2 160 28 = h40 160 28 := (ff_X13_name nn) _ E42 160 28 rfl
    have e24 : u42.2 160 24 = h40 160 24 := (ff_X13_name nn) _ E42 160 24 rfl
    have t42 := T42.1
    have Q42 := qx_ts Q40 V42 T42 (fx_fr (fun c k w => (ff_X13_name nn) _ E42 c k w) rfl)
    have TT := ts_t (ts_t T T40) T42
    refine px_72 hn hk ⟨a33, b33⟩ (by omega) Q42 ⟨by omega, by omega, fun _ => ?_⟩ (by omega)
    have p3 := po_le Q.2.2.1 (a := h 160 23 + 2) (b := u42.2 160 23) (by omega) (by omega) (by omega)
    have f : u42.2 164 (u42.2 160 23).toNat = h 164 (u42.2 160 23).toNat := (TT.2 _).2.1
    rw [f]; omega
theorem vx_X13_program {nn : Nat} (hn : 1000000 ≤ nn) {h : ms_M} (Q : QT_ h) (W : ∀ m : Nat, (m : Int) < 800 → h 188 m + h 189 m ≤ 1500) (h0 : h 160 9 = 0) : Ok_ (qf_X13_program nn h) QX_ := by
  unfold qf_X13_program
  refine ok_xl ?_; intro h45 E45
  have V45 : VS_ h45 := by rw [E45]; exact wF_160_24 Q.1 (by omega)
  refine ok_xl ?_; intro h46 E46
  have V46 : VS_ h46 := by rw [E46]; exact wF_160_28 V45 (by omega)
  refine ok_xl ?_; intro h47 E47
  have V47 : VS_ h47 := by rw [E47]; exact wF_160_39 V46 (by omega)
  refine ok_xl ?_; intro h48 E48
  have V48 : VS_ h48 := by rw [E48]; exact wF_160_22 V47 (by omega)
  refine ok_xl ?_; intro h49 E49
  have V49 : VS_ h49 := by rw [E49]; exact wF_160_23 V48 (by omega)
  have T : TS_ h h49 := by
    rw [E49, E48, E47, E46, E45]
    exact ts_t (ts_t (ts_t (ts_t (ts_up (by omega)) (ts_up (by omega))) (ts_up (by omega))) (ts_up (by omega))) (ts_up (by omega))
  have s24 : h49 160 24 = 0 := by rw [E49, up_n (by omega), E48, up_n (by omega), E47, up_n (by omega), E46, up_n (by omega), E45, up_s]
  have s28 : h49 160 28 = 0 := by rw [E49, up_n (by omega), E48, up_n (by omega), E47, up_n (by omega), E46, up_s]
  have s39 : h49 160 39 = 0 := by rw [E49, up_n (by omega), E48, up_n (by omega), E47, up_s]
  have s22 : h49 160 22 = 0 := by rw [E49, up_n (by omega), E48, up_s]
  have s23 : h49 160 23 = 0 := by rw [E49, up_s]
  have s9 : h49 160 9 = 0 := by rw [E49, up_n (by omega), E48, up_n (by omega), E47, up_n (by omega), E46, up_n (by omega), E45, up_n (by omega)]; exact h0
  have t8 := T.1
  have n1 := Q.2.1.1
  have gf := gA_164 V49 0 (by decide)
  refine px_25 hn nn ⟨V49, ek_ts Q.2.1 T, po_ts Q.2.2 T, fun m hm => by rw [E49, up_n (by omega), up_n (by omega), E48, up_n (by omega), up_n (by omega), E47, up_n (by omega), up_n (by omega), E46, up_n (by omega), up_n (by omega), E45, up_n (by omega), up_n (by omega)]; exact W m hm, fun m hm => by rw [s28] at hm; omega⟩ ⟨by omega, by omega, fun _ => ?_⟩ s9 (by omega)
  rw [s23]
  exact ⟨by omega, by rw [s28]; exact gf.1, by rw [s24]; exact gf.1⟩

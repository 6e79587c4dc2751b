/- the image of a class: the reference's bytes -/
/-- the bytes of an image, the reference's -/
def RIM (m : ms_M) (cn : Nat) (l7 : Int) (src b : Nat → Int) : Prop := (b 0 = 74 ∧ b 1 = 77 ∧ b 2 = (cn : Int)) ∧ (∀ i : Nat, i < cn → ∀ x : Nat, x < cl_T m (i + 1) → b (3 + sm_T m i + x) = cb_T m (i + 1) x) ∧ ∀ x : Nat, (x : Int) < l7 → b (3 + sm_T m cn + x) = src x
section
variable {nn : Nat} {cn i pos k : Nat} {h g u m w : ms_M}
theorem r_wc63 (P : PCi h m i) (k1 : m 200 i = 1) (i2 : i ≤ 200) (pb : pos ≤ 100000) : ∀ (f l : Nat) (g : ms_M), (l : Int) ≤ m 202 i → (∀ cc y : Nat, ¬ (cc = 223 ∧ pos ≤ y ∧ y < pos + cl_T m i) → g cc y = m cc y) → (∀ x : Nat, x < 2 + l → g 223 (pos + x) = cb_T m i x) → Pc (qw_X13_writeConstant_63 nn f (i : Int) ((pos + 1 : Nat) : Int) (l : Int) g) (fun v => v.1 = ((pos + cl_T m i : Nat) : Int) ∧ (∀ cc y : Nat, ¬ (cc = 223 ∧ pos ≤ y ∧ y < pos + cl_T m i) → v.2 cc y = m cc y) ∧ ∀ x : Nat, x < cl_T m i → v.2 223 (pos + x) = cb_T m i x) := by
  have cl : cl_T m i = 2 + (m 202 i).toNat := by unfold cl_T; rw [if_pos k1]
  have b2 : 0 ≤ m 202 i ∧ m 202 i ≤ 255 ∧ 0 ≤ m 201 i ∧ m 201 i ≤ 100000 := by
    rcases P.2 with ⟨-, -, -, c4, c5, -⟩ | ⟨c1, -⟩ | ⟨c1, -⟩ | ⟨c1, -⟩
    · omega
    · omega
    · omega
    · omega
  intro f
  induction f with
  | zero => intro l g _ _ _; exact fun _ z => nomatch z
  | succ f ih =>
    intro l g hl E B
    unfold qw_X13_writeConstant_63
    refine pc_rA ?_; intro _ _ v14 e14
    rw [Int.toNat_natCast, E 202 _ (by omega)] at e14
    refine pc_if (fun z => ?_) (fun z => ?_)
    · refine pc_add (by omega) ?_; intro v15 e15
      refine pc_rA ?_; intro _ _ v17 e17
      rw [Int.toNat_natCast, E 202 _ (by omega)] at e17
      refine pc_add (by omega) ?_; intro v18 e18
      exact pc_ret ⟨by show v18 = _; omega, E, fun x hx => B x (by omega)⟩
    · refine pc_add (by omega) ?_; intro v20 e20
      refine pc_add (by omega) ?_; intro v21 e21
      refine pc_rA ?_; intro _ _ v24 e24
      rw [Int.toNat_natCast, E 201 _ (by omega)] at e24
      refine pc_add (by omega) ?_; intro v25 e25
      refine pc_rA ?_; intro n1 n2 v26 e26
      refine pc_wA ?_; intro _ _ h27 e27
      rw [show v21.toNat = pos + (2 + l) by omega] at e27
      refine pc_add (by omega) ?_; intro v28 e28
      rw [show v28 = ((l + 1 : Nat) : Int) by omega]
      refine ih (l + 1) h27 (by omega) (fun cc y z => by rw [e27, up_n (by omega)]; exact E cc y z) (fun x hx => ?_)
      by_cases q : x = 2 + l
      · rw [q, e27, up_s, e26]
        unfold cb_T
        rw [if_neg (by omega), if_pos k1, if_neg (by omega)]
        rw [E 204 _ (by omega), show v25.toNat = (m 201 i).toNat + (2 + l - 2) by omega]
      · rw [e27, up_n (by omega)]; exact B x (by omega)
theorem r_wc119 (k2 : m 200 i = 2) (i2 : i ≤ 200) (pb : pos ≤ 100000) : ∀ (f l : Nat) (g : ms_M), l ≤ 4 → (∀ cc y : Nat, ¬ (cc = 223 ∧ pos ≤ y ∧ y < pos + cl_T m i) → g cc y = m cc y) → (∀ x : Nat, x < 1 + l → g 223 (pos + x) = cb_T m i x) → Pc (qw_X13_writeConstant_119 nn f (i : Int) ((pos + 1 : Nat) : Int) (l : Int) g) (fun v => v.1 = ((pos + cl_T m i : Nat) : Int) ∧ (∀ cc y : Nat, ¬ (cc = 223 ∧ pos ≤ y ∧ y < pos + cl_T m i) → v.2 cc y = m cc y) ∧ ∀ x : Nat, x < cl_T m i → v.2 223 (pos + x) = cb_T m i x) := by
  have cl : cl_T m i = 5 := by unfold cl_T; rw [if_neg (by omega), if_pos k2]
  intro f
  induction f with
  | zero => intro l g _ _ _; exact fun _ z => nomatch z
  | succ f ih =>
    intro l g hl E B
    unfold qw_X13_writeConstant_119
    refine pc_if (fun z => ?_) (fun z => ?_)
    · refine pc_add (by omega) ?_; intro v1 e1
      exact pc_ret ⟨by show v1 = _; omega, E, fun x hx => B x (by omega)⟩
    · refine pc_add (by omega) ?_; intro v3 e3
      refine pc_rA ?_; intro _ _ v5 e5
      rw [Int.toNat_natCast, E 201 _ (by omega)] at e5
      refine pc_xl ?_; intro v6 e6
      rw [oq_mul_eq (by omega) (by omega) (by omega)] at e6
      refine pc_xl ?_; intro v7 e7
      rw [oq_sub_eq (by omega) (by omega) (by omega)] at e7
      refine pc_xl ?_; intro v8 e8
      refine pc_xl ?_; intro v9 e9
      refine pc_wA ?_; intro _ _ h10 e10
      rw [show v3.toNat = pos + (1 + l) by omega] at e10
      refine pc_add (by omega) ?_; intro v11 e11
      rw [show v11 = ((l + 1 : Nat) : Int) by omega]
      refine ih (l + 1) h10 (by omega) (fun cc y z => by rw [e10, up_n (by omega)]; exact E cc y z) (fun x hx => ?_)
      by_cases q : x = 1 + l
      · rw [q, e10, up_s, e9, oq_and_al, e8, e7, e6, e5]
        unfold cb_T
        rw [if_neg (by omega), if_neg (by omega), if_pos k2, show (24 : Int) - 8 * (l : Int) = 8 * (4 - ((1 + l : Nat) : Int)) by omega]
      · rw [e10, up_n (by omega)]; exact B x (by omega)
theorem r_wcn (P : PCi h m i) (i2 : i ≤ 200) (pb : pos ≤ 100000) : Pc (qf_X13_writeConstant nn (i : Int) (pos : Int) m) (fun v => v.1 = ((pos + cl_T m i : Nat) : Int) ∧ (∀ cc y : Nat, ¬ (cc = 223 ∧ pos ≤ y ∧ y < pos + cl_T m i) → v.2 cc y = m cc y) ∧ ∀ x : Nat, x < cl_T m i → v.2 223 (pos + x) = cb_T m i x) := by
  have cb := cl_b P
  unfold qf_X13_writeConstant
  refine pc_rA ?_; intro _ _ v32 e32
  rw [Int.toNat_natCast] at e32
  refine pc_wA ?_; intro _ _ h33 e33
  rw [Int.toNat_natCast] at e33
  refine pc_add (by omega) ?_; intro v34 e34
  rw [show v34 = ((pos + 1 : Nat) : Int) by omega]
  refine pc_rA ?_; intro _ _ v36 e36
  rw [Int.toNat_natCast, e33, up_n (by omega)] at e36
  have E33 : ∀ cc y : Nat, ¬ (cc = 223 ∧ y = pos) → h33 cc y = m cc y := fun cc y z => by rw [e33, up_n z]
  have b0 : h33 223 pos = cb_T m i 0 := by
    rw [e33, up_s, e32]
    unfold cb_T; rw [if_pos rfl]
  refine pc_if (fun z => ?_) (fun z => ?_)
  · have k1 : m 200 i = 1 := by omega
    have cl : cl_T m i = 2 + (m 202 i).toNat := by unfold cl_T; rw [if_pos k1]
    refine pc_rA ?_; intro _ _ v54 e54
    rw [Int.toNat_natCast, E33 202 _ (by omega)] at e54
    refine pc_wA ?_; intro _ _ h55 e55
    rw [Int.toNat_natCast] at e55
    rw [show (0 : Int) = ((0 : Nat) : Int) from rfl]
    refine r_wc63 P k1 i2 pb nn 0 h55 ?_ (fun cc y z => by rw [e55, up_n (by omega)]; exact E33 cc y (by omega)) (fun x hx => ?_)
    · rcases P.2 with ⟨-, -, -, c4, -⟩ | ⟨c1, -⟩ | ⟨c1, -⟩ | ⟨c1, -⟩
      · omega
      · omega
      · omega
      · omega
    · by_cases x0 : x = 0
      · rw [x0, e55, up_n (by omega)]; exact b0
      · rw [show x = 1 by omega, e55, up_s, e54]
        unfold cb_T; rw [if_neg (by omega), if_pos k1, if_pos rfl]
  refine pc_if (fun z2 => ?_) (fun z2 => ?_)
  · have k2 : m 200 i = 2 := by omega
    have cl : cl_T m i = 5 := by unfold cl_T; rw [if_neg (by omega), if_pos k2]
    rw [show (0 : Int) = ((0 : Nat) : Int) from rfl]
    exact r_wc119 k2 i2 pb nn 0 h33 (by omega) (fun cc y z => E33 cc y (by omega)) (fun x hx => by rw [show x = 0 by omega]; exact b0)
  refine pc_if (fun z3 => ?_) (fun z3 => ?_)
  · have k3 : m 200 i = 3 := by omega
    have cl : cl_T m i = 2 := by unfold cl_T; rw [if_neg (by omega), if_neg (by omega), if_pos k3]
    refine pc_rA ?_; intro _ _ v58 e58
    rw [Int.toNat_natCast, E33 201 _ (by omega)] at e58
    refine pc_wA ?_; intro _ _ h59 e59
    rw [Int.toNat_natCast] at e59
    refine pc_add (by omega) ?_; intro v60 e60
    refine pc_ret ⟨by show v60 = _; omega, fun cc y z => ?_, fun x hx => ?_⟩
    · show h59 cc y = _
      rw [e59, up_n (by omega)]; exact E33 cc y (by omega)
    · show h59 223 _ = _
      by_cases x0 : x = 0
      · rw [x0, e59, up_n (by omega)]; exact b0
      · rw [show x = 1 by omega, e59, up_s, e58]
        unfold cb_T; rw [if_neg (by omega), if_neg (by omega), if_neg (by omega), if_pos rfl]
  · have k4 : m 200 i = 4 := by
      rcases P.2 with ⟨c1, -⟩ | ⟨c1, -⟩ | ⟨c1, -⟩ | ⟨c1, -⟩
      · omega
      · omega
      · omega
      · omega
    have cl : cl_T m i = 4 := by unfold cl_T; rw [if_neg (by omega), if_neg (by omega), if_neg (by omega)]
    refine pc_rA ?_; intro _ _ v39 e39
    rw [Int.toNat_natCast, E33 201 _ (by omega)] at e39
    refine pc_wA ?_; intro _ _ h40 e40
    rw [Int.toNat_natCast] at e40
    refine pc_add (by omega) ?_; intro v42 e42
    refine pc_rA ?_; intro _ _ v44 e44
    rw [Int.toNat_natCast, e40, up_n (by omega), E33 202 _ (by omega)] at e44
    refine pc_wA ?_; intro _ _ h45 e45
    rw [show v42.toNat = pos + 2 by omega] at e45
    refine pc_add (by omega) ?_; intro v47 e47
    refine pc_rA ?_; intro _ _ v49 e49
    rw [Int.toNat_natCast, e45, up_n (by omega), e40, up_n (by omega), E33 203 _ (by omega)] at e49
    refine pc_wA ?_; intro _ _ h50 e50
    rw [show v47.toNat = pos + 3 by omega] at e50
    refine pc_add (by omega) ?_; intro v51 e51
    refine pc_ret ⟨by show v51 = _; omega, fun cc y z => ?_, fun x hx => ?_⟩
    · show h50 cc y = _
      rw [e50, up_n (by omega), e45, up_n (by omega), e40, up_n (by omega)]; exact E33 cc y (by omega)
    · show h50 223 _ = _
      have cbx : ∀ x : Nat, ¬ x = 0 → cb_T m i x = if x = 1 then m 201 i else if x = 2 then m 202 i else m 203 i := fun x x0 => by
        unfold cb_T; rw [if_neg x0, if_neg (by omega), if_neg (by omega)]
      by_cases x0 : x = 0
      · rw [x0, e50, up_n (by omega), e45, up_n (by omega), e40, up_n (by omega)]; exact b0
      rw [cbx x x0]
      by_cases x1 : x = 1
      · rw [x1, e50, up_n (by omega), e45, up_n (by omega), e40, up_s, if_pos rfl]; exact e39
      by_cases x2 : x = 2
      · rw [x2, e50, up_n (by omega), e45, up_s, if_neg (by omega), if_pos rfl]; exact e44
      · rw [show x = 3 by omega, e50, up_s, if_neg (by omega), if_neg (by omega)]; exact e49
end

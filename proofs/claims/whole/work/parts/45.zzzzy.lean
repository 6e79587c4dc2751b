/- the image of a class: constants, the class's side -/
section
variable {nn : Nat} {cn i id pos : Nat} {h g u m w : ms_M}
theorem c_w83 {cl : Nat} (i2 : i ≤ 200) (p6 : pos ≤ 100000) (c2 : cl ≤ 300) (I : 256 ≤ id ∧ id < 900000) : ∀ (f x : Nat) (h : ms_M), 1 ≤ x → x ≤ cl → Pc (qw_X6_writeConstant_83 nn f (i : Int) id (pos : Int) (cl : Int) (x : Int) h) (fun u => (∀ cc y : Nat, ¬ (cc = id ∧ pos + x ≤ y ∧ y < pos + cl) → u cc y = h cc y) ∧ ∀ y : Nat, x ≤ y → y < cl → u id (pos + y) % 256 = oq_shr (h 47 i) (8 * ((cl : Int) - 1 - y)) % 256) := by
  intro f
  induction f with
  | zero => intro x h _ _; exact fun _ z => nomatch z
  | succ f ih =>
    intro x h x1 x2
    unfold qw_X6_writeConstant_83
    refine pc_if (fun z => pc_ret ⟨fun _ _ _ => rfl, fun y y1 y2 => absurd y2 (by omega)⟩) (fun z => ?_)
    refine pc_add (by omega) ?_; intro v1 e1
    refine pc_rA ?_; intro _ _ v3 e3
    rw [Int.toNat_natCast] at e3
    refine pc_xl ?_; intro v4 e4
    rw [oq_sub_eq (by omega) (by omega) (by omega)] at e4
    refine pc_xl ?_; intro v5 e5
    rw [oq_sub_eq (by omega) (by omega) (by omega)] at e5
    refine pc_xl ?_; intro v6 e6
    rw [oq_mul_eq (by omega) (by omega) (by omega)] at e6
    refine pc_xl ?_; intro v7 e7
    refine pc_xl ?_; intro v8 e8
    refine pc_wT ?_; intro h9 e9
    rw [show v1.toNat = pos + x by omega] at e9
    refine pc_add (by omega) ?_; intro v10 e10
    rw [show v10 = ((x + 1 : Nat) : Int) by omega]
    refine pc_imp (ih (x + 1) h9 (by omega) (by omega)) (fun u ⟨a1, a2⟩ => ⟨fun cc y z => ?_, fun y y1 y2 => ?_⟩)
    · rw [a1 cc y (by omega), e9, up_n (by omega)]
    · by_cases q : y = x
      · rw [q, a1 id (pos + x) (by omega), e9, up_s, e8, bb_256, e7, e6, e5, e4, e3]
      · rw [a2 y (by omega) y2, e9, up_n (by omega)]
/-- a constant is written -/
theorem c_wcn (T : NTB h) (P : PCi h m i) (i2 : i ≤ 200) (I : 256 ≤ id ∧ id < 900000) (hl : ((pos + cl_T m i : Nat) : Int) ≤ ln_I h id) (l6 : ln_I h id ≤ 6000) : Pc (qf_X6_writeConstant nn (i : Int) id (pos : Int) h) (fun u => (∀ cc y : Nat, ¬ (cc = id ∧ pos ≤ y ∧ y < pos + cl_T m i) → u cc y = h cc y) ∧ ∀ y : Nat, y < cl_T m i → u id (pos + y) % 256 = cb_T m i y % 256) := by
  have cb := cl_b P
  unfold qf_X6_writeConstant
  refine pc_rA ?_; intro _ _ v13 e13
  rw [Int.toNat_natCast] at e13
  refine pc_rA ?_; intro _ _ v15 e15
  rw [Int.toNat_natCast] at e15
  refine pc_sv (c_byt T P e13 e15) ?_; intro u17 q17
  refine pc_if (fun z => absurd z (by omega)) (fun _ => ?_)
  refine pc_add (by omega) ?_; intro v18 e18
  refine pc_lS ?_; intro v19 e19
  refine pc_if (fun _ => ?_) (fun z => absurd (show v18 ≤ v19 by omega) z)
  refine pc_rA ?_; intro _ _ v21 e21
  rw [Int.toNat_natCast] at e21
  refine pc_xl ?_; intro v22 e22
  refine pc_wT ?_; intro h23 e23
  rw [Int.toNat_natCast] at e23
  have E23 : ∀ cc y : Nat, ¬ (cc = id ∧ y = pos) → h23 cc y = h cc y := fun cc y z => by rw [e23, up_n z]
  have b0 : h23 id pos % 256 = cb_T m i 0 % 256 := by
    rw [e23, up_s, e22, bb_256, e21, P.1]
    unfold cb_T; rw [if_pos rfl]
  refine pc_rA ?_; intro _ _ v25 e25
  rw [Int.toNat_natCast, E23 46 _ (by omega)] at e25
  have p1 := P.1
  refine pc_if (fun z => ?_) (fun z => ?_)
  · rw [q17, show (1 : Int) = ((1 : Nat) : Int) from rfl]
    refine pc_imp (c_w83 (i := i) (id := id) (pos := pos) (cl := cl_T m i) i2 (by omega) (by omega) I nn 1 h23 (by omega) (by omega)) (fun u ⟨a1, a2⟩ => ⟨fun cc y z => ?_, fun y hy => ?_⟩)
    · rw [a1 cc y (by omega)]; exact E23 cc y (by omega)
    · by_cases y0 : y = 0
      · rw [y0, Nat.add_zero, a1 id pos (by omega)]; exact b0
      · rw [a2 y (by omega) hy, E23 47 _ (by omega)]
        unfold cl_T at hy
        unfold cb_T cl_T
        rcases P.2 with ⟨c1, -⟩ | ⟨c1, c2⟩ | ⟨c1, c2, c3⟩ | ⟨c1, c2, c3⟩
        · omega
        · rw [if_neg (by omega), if_pos c1] at hy
          rw [if_neg (by omega : ¬ m 200 i = 1), if_pos c1, if_neg y0, if_neg (by omega : ¬ m 200 i = 1), if_pos c1, c2]
          rw [show (8 : Int) * (((5 : Nat) : Int) - 1 - (y : Int)) = 8 * (4 - (y : Int)) by omega]
          omega
        · rw [if_neg (by omega), if_neg (by omega), if_pos c1] at hy
          rw [if_neg (by omega : ¬ m 200 i = 1), if_neg (by omega : ¬ m 200 i = 2), if_pos c1, if_neg y0, if_neg (by omega : ¬ m 200 i = 1), if_neg (by omega : ¬ m 200 i = 2), if_pos (by omega), c3]
          rw [show (8 : Int) * (((2 : Nat) : Int) - 1 - (y : Int)) = 0 by omega, shr_0 (by omega)]
        · rw [if_neg (by omega), if_neg (by omega), if_neg (by omega)] at hy
          rw [if_neg (by omega : ¬ m 200 i = 1), if_neg (by omega : ¬ m 200 i = 2), if_neg (by omega : ¬ m 200 i = 3), if_neg y0, if_neg (by omega : ¬ m 200 i = 1), if_neg (by omega : ¬ m 200 i = 2), c3]
          have hy3 : y = 1 ∨ y = 2 ∨ y = 3 := by omega
          rcases hy3 with q | q | q
          · rw [q, if_pos rfl, show (8 : Int) * (((4 : Nat) : Int) - 1 - ((1 : Nat) : Int)) = 16 by decide, shr_16 (by omega)]; omega
          · rw [q, if_neg (by omega), if_pos rfl, show (8 : Int) * (((4 : Nat) : Int) - 1 - ((2 : Nat) : Int)) = 8 by decide, shr_8 (by omega)]; omega
          · rw [q, if_neg (by omega), if_neg (by omega), show (8 : Int) * (((4 : Nat) : Int) - 1 - ((3 : Nat) : Int)) = 0 by decide, shr_0 (by omega)]; omega
  · have k1 : m 200 i = 1 := by rw [← p1, ← e25]; exact Classical.byContradiction z
    have cl : cl_T m i = 2 + (m 202 i).toNat := by unfold cl_T; rw [if_pos k1]
    rcases P.2 with ⟨c1, c2, c3, c4, c5, c6⟩ | ⟨c1, -⟩ | ⟨c1, -⟩ | ⟨c1, -⟩
    · refine pc_add (by omega) ?_; intro v26 e26
      refine pc_xl ?_; intro v27 e27
      rw [oq_sub_eq (by omega) (by omega) (by omega)] at e27
      refine pc_xl ?_; intro v28 e28
      refine pc_wT ?_; intro h29 e29
      rw [show v26.toNat = pos + 1 by omega] at e29
      have E29 : ∀ cc y : Nat, ¬ (cc = id ∧ (y = pos ∨ y = pos + 1)) → h29 cc y = h cc y := fun cc y z => by rw [e29, up_n (by omega)]; exact E23 cc y (by omega)
      have T29 : NTB h29 := ntb_f T (fun cc y z => E29 cc y (by omega))
      have b0' : h29 id pos % 256 = cb_T m i 0 % 256 := by rw [e29, up_n (by omega)]; exact b0
      have b1 : h29 id (pos + 1) % 256 = cb_T m i 1 % 256 := by
        rw [e29, up_s, e28, bb_256]
        unfold cb_T; rw [if_neg (by omega), if_pos k1, if_pos rfl]
        omega
      refine pc_rA ?_; intro _ _ v32 e32
      rw [Int.toNat_natCast, E29 47 _ (by omega)] at e32
      refine pc_add (by omega) ?_; intro v33 e33
      refine pc_sv (P := fun u => (∀ cc y : Nat, ¬ (cc = id ∧ pos ≤ y ∧ y < pos + cl_T m i) → u cc y = h cc y) ∧ ∀ y : Nat, y < cl_T m i → u id (pos + y) % 256 = cb_T m i y % 256) ?_ (fun u hu => pc_ret hu)
      unfold qf_X9_copyName
      rw [e32]
      refine pc_sv (c_nameLen T29 (x := h 47 i) (by rw [E29 2 9 (by omega)]; exact c2) (l := m 202 i) (t := fun k => h29 6 ((h29 7 (h 47 i).toNat).toNat + k)) ⟨by rw [← c3]; unfold ln_T; rw [E29 7 _ (by omega), E29 7 _ (by omega)], fun _ _ => rfl⟩) ?_; intro u2 q2
      refine pc_if (fun z => absurd z (by omega)) (fun _ => ?_)
      refine pc_add (by omega) ?_; intro v3 e3
      refine pc_lS ?_; intro v4 e4
      have L29 : ln_I h29 id = ln_I h id := by unfold ln_I; rw [if_neg (by omega), if_neg (by omega)]; exact E29 900001 id (by omega)
      refine pc_if (fun z => absurd z (by omega)) (fun _ => ?_)
      have B01 : ∀ y : Nat, y < 2 → h29 id (pos + y) % 256 = cb_T m i y % 256 := fun y hy => by
        by_cases y0 : y = 0
        · rw [y0, Nat.add_zero]; exact b0'
        · rw [show y = 1 by omega]; exact b1
      refine pc_if (fun z => pc_ret ⟨fun cc y z => E29 cc y (by omega), fun y hy => B01 y (by omega)⟩) (fun z => ?_)
      refine pc_rA ?_; intro _ _ v7 e7
      rw [E29 7 _ (by omega)] at e7
      refine pc_cpS ?_; intro h8 e8
      have E8 : ∀ cc y : Nat, h8 cc y = if cc = id ∧ v33.toNat ≤ y ∧ y < v33.toNat + u2.toNat then h29 6 (v7.toNat + (y - v33.toNat)) else h29 cc y := fun cc y => by rw [e8]; rfl
      refine pc_ret ⟨fun cc y z => ?_, fun y hy => ?_⟩
      · rw [E8, if_neg (by omega)]; exact E29 cc y (by omega)
      · by_cases y2 : y < 2
        · rw [E8, if_neg (by omega)]; exact B01 y y2
        · rw [E8, if_pos ⟨rfl, by omega, by omega⟩, E29 6 _ (by omega)]
          have o := (c6 (y - 2) (by omega)).1
          unfold cb_T
          rw [if_neg (by omega), if_pos k1, if_neg (by omega), o, e7]
          rw [show pos + y - v33.toNat = y - 2 by omega]
    · omega
    · omega
    · omega
end

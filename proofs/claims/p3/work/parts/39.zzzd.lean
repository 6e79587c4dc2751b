section
variable {nn : Nat} {g h : ms_M} {w : Int}
/-- how many bytes a row of the pool takes -/
def sz (h : ms_M) (c : Nat) : Int := if h 200 c = 1 then 2 + h 202 c else if h 200 c = 2 then 5 else if h 200 c = 3 then 2 else 4
def SZ (h : ms_M) : Nat → Int
  | 0 => 0
  | n + 1 => SZ h n + sz h (n + 1)
theorem sz_0 (V : VS_ h) (c : Nat) (hc : (c : Int) < 2000) : 2 ≤ sz h c ∧ sz h c ≤ 2002 := by
  have := gA_202 V c hc
  unfold sz
  split
  · omega
  split
  · omega
  split <;> omega
theorem SZ_0 (V : VS_ h) : ∀ n : Nat, (n : Int) < 2000 → 0 ≤ SZ h n ∧ SZ h n ≤ 2002 * n := by
  intro n
  induction n with
  | zero => intro _; exact ⟨Int.le_refl _, by show (0 : Int) ≤ _; omega⟩
  | succ n ih =>
    intro hn
    have a := ih (by omega)
    have b := sz_0 V (n + 1) (by omega)
    show 0 ≤ SZ h n + sz h (n + 1) ∧ SZ h n + sz h (n + 1) ≤ _
    omega
theorem SZ_s {n : Int} (h0 : 0 ≤ n) : SZ h (n + 1).toNat = SZ h n.toNat + sz h (n + 1).toNat := by
  rw [show (n + 1).toNat = n.toNat + 1 by omega]; rfl
theorem SZ_m (V : VS_ h) : ∀ (n k : Nat), (k : Int) + n < 2000 → SZ h k ≤ SZ h (k + n) := by
  intro n
  induction n with
  | zero => intro k _; exact Int.le_refl _
  | succ n ih =>
    intro k hk
    have a := ih k (by omega)
    have b := sz_0 V (k + n + 1) (by omega)
    show SZ h k ≤ SZ h (k + n) + sz h (k + n + 1)
    omega
/-- the image is written -/
def N3 (h r : ms_M) : Prop := ∀ c k : Nat, c ≠ 223 → r c k = h c k
theorem n3_rf : N3 h h := fun _ _ _ => rfl
theorem n3_w {z r : ms_M} {j v : Int} (N : N3 h z) (E : r = up_M z 223 j.toNat v) : N3 h r := fun c k a => by rw [E, up_n (by omega)]; exact N c k a
def QW3 (h : ms_M) (p : Int) (u : Int × ms_M) : Prop := VS_ u.2 ∧ N3 h u.2 ∧ u.1 = p
theorem wc_63 {l1 l3 m : Int} (V0 : VS_ h) (r1 : 0 ≤ l1 ∧ l1 < 2000) (e2 : h 201 l1.toNat + h 202 l1.toNat ≤ 40000) (e1 : h 202 l1.toNat ≤ 200) (r3 : 0 ≤ l3 ∧ l3 + 1 + h 202 l1.toNat ≤ 48000) : ∀ (k : Nat) (l4 : Int) (z : ms_M), VS_ z → N3 h z → (0 ≤ l4 ∧ l4 ≤ h 202 l1.toNat) → h 202 l1.toNat - l4 < (k : Int) → Ok_ (qw_X13_writeConstant_63 nn k l1 l3 l4 z) (QW3 h (l3 + 1 + h 202 l1.toNat)) := by
  have g1 := gA_201 V0 l1.toNat (by omega)
  have g2 := gA_202 V0 l1.toNat (by omega)
  intro k
  induction k with
  | zero => intro l4 z V N a hm; exfalso; omega
  | succ k ih =>
    intro l4 z V N a hm
    unfold qw_X13_writeConstant_63
    refine ok_rd (by omega) (gA_202 V) ?_; intro v14 e14 _ _
    rw [N 202 _ (by decide)] at e14
    refine ok_if (fun C => ?_) (fun C => ?_)
    · refine ok_add (by omega) ?_; intro v15 e15
      refine ok_rd (by omega) (gA_202 V) ?_; intro v17 e17 _ _
      rw [N 202 _ (by decide)] at e17
      refine ok_add (by omega) ?_; intro v18 e18
      exact ok_ret ⟨V, N, by show v18 = _; omega⟩
    · refine ok_add (by omega) ?_; intro v20 e20
      refine ok_add (by omega) ?_; intro v21 e21
      refine ok_rd (by omega) (gA_201 V) ?_; intro v24 e24 _ _
      rw [N 201 _ (by decide)] at e24
      refine ok_add (by omega) ?_; intro v25 e25
      refine ok_rd (by omega) (gA_204 V) ?_; intro v26 e26 a26 b26
      refine ok_wA (by omega) ?_; intro h27 E27
      refine ok_add (by omega) ?_; intro v28 e28
      exact ih v28 h27 (by rw [E27]; exact wA_223 V (by omega)) (n3_w N E27) (by omega) (by omega)
theorem wc_119 {l1 l3 : Int} (r1 : 0 ≤ l1 ∧ l1 < 2000) (r3 : 0 ≤ l3 ∧ l3 + 4 ≤ 48000) : ∀ (k : Nat) (l4 : Int) (z : ms_M), VS_ z → N3 h z → (0 ≤ l4 ∧ l4 ≤ 4) → 4 - l4 < (k : Int) → Ok_ (qw_X13_writeConstant_119 nn k l1 l3 l4 z) (QW3 h (l3 + 4)) := by
  intro k
  induction k with
  | zero => intro l4 z V N a hm; exfalso; omega
  | succ k ih =>
    intro l4 z V N a hm
    unfold qw_X13_writeConstant_119
    refine ok_if (fun C => ?_) (fun C => ?_)
    · refine ok_add (by omega) ?_; intro v1 e1
      exact ok_ret ⟨V, N, e1⟩
    · refine ok_add (by omega) ?_; intro v3 e3
      refine ok_rd (by omega) (gA_201 V) ?_; intro v5 e5 _ _
      refine ok_xl ?_; intro v6 _
      refine ok_xl ?_; intro v7 _
      refine ok_xl ?_; intro v8 _
      refine ok_and (by decide) ?_; intro v9 a9 b9
      refine ok_wA (by omega) ?_; intro h10 E10
      refine ok_add (by omega) ?_; intro v11 e11
      exact ih v11 h10 (by rw [E10]; exact wA_223 V (by omega)) (n3_w N E10) (by omega) (by omega)
theorem wc_write (hn : 1000000 ≤ nn) {z : ms_M} {l1 l2 : Int} (V0 : VS_ h) (K : KW1 h) (h62 : h 160 62 ≤ 200) (V : VS_ z) (N : N3 h z) (r1 : 1 ≤ l1 ∧ l1 ≤ h 160 62) (r2 : 0 ≤ l2 ∧ l2 + sz h l1.toNat ≤ 48000) : Ok_ (qf_X13_writeConstant nn l1 l2 z) (QW3 h (l2 + sz h l1.toNat)) := by
  obtain ⟨⟨k1, k2, k3, k4⟩, k5⟩ := K.1 l1.toNat (by omega) (by omega)
  have g64 := gF_160_64 V0
  have s0 := sz_0 V0 l1.toNat (by omega)
  have g2 := gA_202 V0 l1.toNat (by omega)
  unfold qf_X13_writeConstant
  refine ok_rd (by omega) (gA_200 V) ?_; intro v32 e32 a32 b32
  rw [N 200 _ (by decide)] at e32
  refine ok_wA (by omega) ?_; intro h33 E33
  have V33 : VS_ h33 := by rw [E33]; exact wA_223 V (by omega)
  have N33 := n3_w N E33
  refine ok_add (by omega) ?_; intro v34 e34
  refine ok_rd (by omega) (gA_200 V33) ?_; intro v36 e36 _ _
  rw [N33 200 _ (by decide)] at e36
  refine ok_if (fun C => ?_) (fun C => ?_)
  · have c1 : h 200 l1.toNat = 1 := by omega
    have q : sz h l1.toNat = 2 + h 202 l1.toNat := by unfold sz; rw [if_pos c1]
    have k2 := k2 c1
    have k5 := k5 c1
    refine ok_rd (by omega) (gA_202 V33) ?_; intro v54 e54 a54 b54
    rw [N33 202 _ (by decide)] at e54
    refine ok_wA (by omega) ?_; intro h55 E55
    refine ok_im (wc_63 (m := 0) V0 (by omega) (by omega) (by omega) (by omega) nn 0 h55 (by rw [E55]; exact wA_223 V33 (by omega)) (n3_w N33 E55) (by omega) (by omega)) (fun u Q => ⟨Q.1, Q.2.1, by have := Q.2.2; omega⟩)
  · refine ok_if (fun C2 => ?_) (fun C2 => ?_)
    · have c1 : h 200 l1.toNat = 2 := by omega
      have q : sz h l1.toNat = 5 := by unfold sz; rw [if_neg (show ¬ h 200 l1.toNat = 1 by omega), if_pos c1]
      exact ok_im (wc_119 (by omega) (by omega) nn 0 h33 V33 N33 (by omega) (by omega)) (fun u Q => ⟨Q.1, Q.2.1, by have := Q.2.2; omega⟩)
    · refine ok_if (fun C3 => ?_) (fun C3 => ?_)
      · have c1 : h 200 l1.toNat = 3 := by omega
        have q : sz h l1.toNat = 2 := by unfold sz; rw [if_neg (show ¬ h 200 l1.toNat = 1 by omega), if_neg (show ¬ h 200 l1.toNat = 2 by omega), if_pos c1]
        have k3 := k3 c1
        refine ok_rd (by omega) (gA_201 V33) ?_; intro v58 e58 a58 b58
        rw [N33 201 _ (by decide)] at e58
        refine ok_wA (by omega) ?_; intro h59 E59
        refine ok_add (by omega) ?_; intro v60 e60
        exact ok_ret ⟨by show VS_ h59; rw [E59]; exact wA_223 V33 (by omega), n3_w N33 E59, by show v60 = _; omega⟩
      · have g0 := gA_200 V0 l1.toNat (by omega)
        have c1 : h 200 l1.toNat = 4 := by omega
        have q : sz h l1.toNat = 4 := by unfold sz; rw [if_neg (show ¬ h 200 l1.toNat = 1 by omega), if_neg (show ¬ h 200 l1.toNat = 2 by omega), if_neg (show ¬ h 200 l1.toNat = 3 by omega)]
        have k4 := k4 c1
        refine ok_rd (by omega) (gA_201 V33) ?_; intro v39 e39 a39 b39
        rw [N33 201 _ (by decide)] at e39
        refine ok_wA (by omega) ?_; intro h40 E40
        have V40 : VS_ h40 := by rw [E40]; exact wA_223 V33 (by omega)
        have N40 := n3_w N33 E40
        refine ok_add (by omega) ?_; intro v42 e42
        refine ok_rd (by omega) (gA_202 V40) ?_; intro v44 e44 a44 b44
        rw [N40 202 _ (by decide)] at e44
        refine ok_wA (by omega) ?_; intro h45 E45
        have V45 : VS_ h45 := by rw [E45]; exact wA_223 V40 (by omega)
        have N45 := n3_w N40 E45
        refine ok_add (by omega) ?_; intro v47 e47
        refine ok_rd (by omega) (gA_203 V45) ?_; intro v49 e49 a49 b49
        rw [N45 203 _ (by decide)] at e49
        refine ok_wA (by omega) ?_; intro h50 E50
        refine ok_add (by omega) ?_; intro v51 e51
        exact ok_ret ⟨by show VS_ h50; rw [E50]; exact wA_223 V45 (by omega), n3_w N45 E50, by show v51 = _; omega⟩
/-- what stays of h when a class was made -/
def QC4 (h r : ms_M) : Prop := VS_ r ∧ ∀ c k : Nat, c ≠ 223 → c ≠ 224 → ¬ (c = 160 ∧ (k = 9 ∨ k = 10)) → r c k = h c k
theorem mc_440 {l1 l2 l3 : Int} (r1 : 0 ≤ l1 ∧ l1 ≤ 7) (r2 : 0 ≤ l2 ∧ l2 ≤ 6000) (r3 : 0 ≤ l3 ∧ l3 + h 160 97 ≤ 48000) (h97 : h 160 97 ≤ 6000) : ∀ (k : Nat) (l4 : Int) (z : ms_M), VS_ z → N3 h z → 0 ≤ l4 → l4 ≤ h 160 97 → h 160 97 - l4 < (k : Int) → Ok_ (qw_X13_makeClass_440 nn k l1 l2 l3 l4 z) (QC4 h) := by
  intro k
  induction k with
  | zero => intro l4 z V N a b hm; exfalso; omega
  | succ k ih =>
    intro l4 z V N a b hm
    have e97 := N 160 97 (by decide)
    unfold qw_X13_makeClass_440
    refine ok_if (fun C => ?_) (fun C => ?_)
    · refine ok_wA (by omega) ?_; intro h3 E3
      exact ok_ret ⟨by rw [E3]; exact wA_224 V (by omega), fun c k a b d => by rw [E3, up_n (by omega)]; exact N c k a⟩
    · refine ok_add (by omega) ?_; intro v5 e5
      refine ok_rd (by omega) (gA_225 V) ?_; intro v7 e7 a7 b7
      refine ok_wA (by omega) ?_; intro h8 E8
      refine ok_add (by omega) ?_; intro v9 e9
      exact ih v9 h8 (by rw [E8]; exact wA_223 V (by omega)) (n3_w N E8) (by omega) (by omega) (by omega)
theorem mc_414 (hn : 1000000 ≤ nn) {l1 l2 : Int} (V0 : VS_ h) (K : KW1 h) (h62 : h 160 62 ≤ 200) (r1 : 0 ≤ l1 ∧ l1 ≤ 7) (r2 : l2 ≤ 6000) (e2 : l2 = 3 + h 160 97 + SZ h (h 160 62).toNat) : ∀ (k : Nat) (l3 l4 : Int) (z : ms_M), VS_ z → N3 h z → (1 ≤ l4 ∧ l4 ≤ h 160 62 + 1) → l3 = 6000 * l1 + 3 + SZ h (l4 - 1).toNat → h 160 62 + 1 - l4 < (k : Int) → Ok_ (qw_X13_makeClass_414 nn k l1 l2 l3 l4 z) (QC4 h) := by
  have g62 := gF_160_62 V0
  have g97 := gF_160_97 V0
  have s0 := SZ_0 V0 (h 160 62).toNat (by omega)
  intro k
  induction k with
  | zero => intro l3 l4 z V N a e hm; exfalso; omega
  | succ k ih =>
    intro l3 l4 z V N a e hm
    have e62 := N 160 62 (by decide)
    unfold qw_X13_makeClass_414
    refine ok_if (fun C => ?_) (fun C => ?_)
    · rw [show (l4 - 1).toNat = (h 160 62).toNat by omega] at e
      exact mc_440 r1 (by omega) (by omega) (by omega) nn 0 z V N (by omega) (by omega) (by omega)
    · have s1 := SZ_0 V0 (l4 - 1).toNat (by omega)
      have s2 := SZ_s (h := h) (n := l4 - 1) (by omega)
      have s3 := SZ_m V0 (h 160 62 - l4).toNat l4.toNat (by omega)
      rw [show l4 - 1 + 1 = l4 by omega] at s2
      rw [show l4.toNat + (h 160 62 - l4).toNat = (h 160 62).toNat by omega] at s3
      refine ok_sv (wc_write hn V0 K h62 V N (by omega) (by omega)) ?_; intro u13 P13
      obtain ⟨V13, N13, e13⟩ := P13
      refine ok_add (by omega) ?_; intro v14 e14
      rw [e14]
      exact ih u13.1 (l4 + 1) u13.2 V13 N13 (by omega) (by rw [e13, show l4 + 1 - 1 = l4 by omega]; omega) (by omega)
theorem mc_364 (hn : 1000000 ≤ nn) {l1 l2 : Int} (V0 : VS_ h) (K : KW1 h) (r1 : 0 ≤ l1 ∧ l1 ≤ 7) (hh : h 160 9 = 0 → h 160 62 ≤ 200 ∧ l2 ≤ 6000 ∧ l2 = 3 + h 160 97 + SZ h (h 160 62).toNat) : Ok_ (qj_X13_makeClass_364 nn l1 l2 h) (QC4 h) := by
  have g62 := gF_160_62 V0
  unfold qj_X13_makeClass_364
  refine ok_if (fun C => ?_) (fun C => ok_ret ⟨V0, fun _ _ _ _ _ => rfl⟩)
  obtain ⟨h62, hl, e2⟩ := hh C
  refine ok_mul (by omega) ?_; intro v17 e17
  refine ok_wA (by omega) ?_; intro h19 E19
  have V19 : VS_ h19 := by rw [E19]; exact wA_223 V0 (by omega)
  have N19 := n3_w n3_rf E19
  refine ok_add (by omega) ?_; intro v21 e21
  refine ok_wA (by omega) ?_; intro h22 E22
  have V22 : VS_ h22 := by rw [E22]; exact wA_223 V19 (by omega)
  have N22 := n3_w N19 E22
  have q62 := N22 160 62 (by decide)
  refine ok_add (by omega) ?_; intro v24 e24
  refine ok_wA (by omega) ?_; intro h26 E26
  have V26 : VS_ h26 := by rw [E26]; exact wA_223 V22 (by omega)
  have N26 := n3_w N22 E26
  refine ok_add (by omega) ?_; intro v27 e27
  exact mc_414 hn V0 K h62 r1 hl e2 nn v27 1 h26 V26 N26 (by omega) (by show v27 = _ + SZ h 0; show v27 = _ + 0; omega) (by omega)
theorem mc_352 (hn : 1000000 ≤ nn) {l1 l2 : Int} (V0 : VS_ h) (r1 : 0 ≤ l1 ∧ l1 ≤ 7) : Ok_ (qj_X13_makeClass_352 nn l1 l2 h) (QC4 h) := by
  unfold qj_X13_makeClass_352
  refine ok_rd (by omega) (gA_178 V0) ?_; intro v30 _ a30 b30
  obtain ⟨u, eu, Vu, n9⟩ := vf_X13_wrong hn (a1 := 11) (by decide) (by decide) (show 0 ≤ v30 by omega) (show v30 ≤ 3001 by omega) V0
  rw [eu, mx_svs]
  unfold qj_X13_makeClass_364
  rw [if_neg n9]
  exact ok_ret ⟨Vu, fun c k a b d => wrong_n eu d⟩
theorem mc_261 (hn : 1000000 ≤ nn) {l1 : Int} (V0 : VS_ h) (K : KW1 h) (r1 : 0 ≤ l1 ∧ l1 ≤ 7) (h97 : h 160 97 ≤ 900000000) : ∀ (k : Nat) (l2 l3 : Int), (1 ≤ l3 ∧ l3 ≤ h 160 62 + 1) → l2 = 3 + h 160 97 + SZ h (l3 - 1).toNat → h 160 62 + 1 - l3 < (k : Int) → Ok_ (qw_X13_makeClass_261 nn k l1 l2 l3 h) (QC4 h) := by
  have g62 := gF_160_62 V0
  have g97 := gF_160_97 V0
  intro k
  induction k with
  | zero => intro l2 l3 a e hm; exfalso; omega
  | succ k ih =>
    intro l2 l3 a e hm
    have s1 := SZ_0 V0 (l3 - 1).toNat (by omega)
    unfold qw_X13_makeClass_261
    refine ok_if (fun C => ?_) (fun C => ?_)
    · rw [show (l3 - 1).toNat = (h 160 62).toNat by omega] at e
      refine ok_if (fun C2 => mc_364 hn V0 K r1 (fun y => absurd y C2)) (fun C2 => ?_)
      refine ok_if (fun _ => mc_352 hn V0 r1) (fun C3 => ?_)
      exact ok_if (fun C4 => mc_364 hn V0 K r1 (fun _ => ⟨by omega, C4, e⟩)) (fun _ => mc_352 hn V0 r1)
    · have s2 := SZ_s (h := h) (n := l3 - 1) (by omega)
      rw [show l3 - 1 + 1 = l3 by omega] at s2
      have J : ∀ x : Int, x = sz h l3.toNat → Ok_ (qj_X13_makeClass_320 nn (qw_X13_makeClass_261 nn k) l1 l3 x l2 h) (QC4 h) := fun x ex => by
        have s3 := sz_0 V0 l3.toNat (by omega)
        unfold qj_X13_makeClass_320
        refine ok_add (by omega) ?_; intro v33 e33
        refine ok_add (by omega) ?_; intro v34 e34
        rw [e34]
        exact ih v33 (l3 + 1) (by omega) (by rw [show l3 + 1 - 1 = l3 by omega]; omega) (by omega)
      refine ok_rd (by omega) (gA_200 V0) ?_; intro v42 e42 _ _
      refine ok_if (fun C1 => ?_) (fun C1 => ?_)
      · refine ok_rd (by omega) (gA_200 V0) ?_; intro v44 e44 _ _
        refine ok_if (fun C2 => ?_) (fun C2 => ?_)
        · refine ok_rd (by omega) (gA_200 V0) ?_; intro v46 e46 _ _
          refine ok_if (fun C3 => J 4 ?_) (fun C3 => J 2 ?_)
          · unfold sz; rw [if_neg (show ¬ h 200 l3.toNat = 1 by omega), if_neg (show ¬ h 200 l3.toNat = 2 by omega), if_neg (show ¬ h 200 l3.toNat = 3 by omega)]
          · unfold sz; rw [if_neg (show ¬ h 200 l3.toNat = 1 by omega), if_neg (show ¬ h 200 l3.toNat = 2 by omega), if_pos (show h 200 l3.toNat = 3 by omega)]
        · refine J 5 ?_
          unfold sz; rw [if_neg (show ¬ h 200 l3.toNat = 1 by omega), if_pos (show h 200 l3.toNat = 2 by omega)]
      · refine ok_rd (by omega) (gA_202 V0) ?_; intro v50 e50 _ _
        refine ok_add (by omega) ?_; intro v51 e51
        refine J v51 ?_
        unfold sz; rw [if_pos (show h 200 l3.toNat = 1 by omega)]; omega
end

section
variable {nn : Nat} {h g r z t : ms_M} {c : Int}
def TB1 (g t : ms_M) (c n : Int) : Prop := ∀ i : Nat, (i : Int) < n → g 239 i = t 228 (256 * c.toNat + i)
def TB2 (g t : ms_M) (c : Int) : Prop := g 239 256 = t 229 c.toNat ∧ g 239 257 = t 230 c.toNat ∧ g 239 258 = t 231 c.toNat ∧ g 239 259 = t 232 c.toNat ∧ g 239 260 = t 234 c.toNat
def TB3 (g t : ms_M) (c n : Int) : Prop := ∀ j : Nat, (j : Int) < n → g 239 (261 + j) = t 233 (12 * c.toNat + j) ∧ g 239 (273 + j) = t 235 (12 * c.toNat + j) ∧ g 239 (285 + j) = t 236 (12 * c.toNat + j) ∧ g 239 (297 + j) = t 237 (12 * c.toNat + j)
/-- what was put aside -/
def TBk (g t : ms_M) (c : Int) : Prop := TB1 g t c 256 ∧ TB2 g t c ∧ TB3 g t c 12
def N9 (t g : ms_M) : Prop := ∀ x k : Nat, x ≠ 239 → g x k = t x k
theorem as_107 (hc : 0 ≤ c ∧ c ≤ 7) : ∀ (k : Nat) (l3 : Int) (g : ms_M), VS_ g → N9 t g → TB1 g t c 256 → TB2 g t c → TB3 g t c l3 → (0 ≤ l3 ∧ l3 ≤ 12) → 12 - l3 < (k : Int) → Ok_ (qw_X13_aside_107 nn k c 256 l3 g) (fun r => VS_ r ∧ N9 t r ∧ TBk r t c) := by
  intro k
  induction k with
  | zero => intro l3 g V N t1 t2 t3 a hm; exfalso; omega
  | succ k ih =>
    intro l3 g V N t1 t2 t3 a hm
    unfold qw_X13_aside_107
    refine ok_if (fun C => ok_ret ⟨V, N, t1, t2, fun j hj => t3 j (by omega)⟩) (fun C => ?_)
    refine ok_add (by omega) ?_; intro v2 e2
    refine ok_add (by omega) ?_; intro v3 e3
    refine ok_mul (by omega) ?_; intro v5 e5
    refine ok_add (by omega) ?_; intro v6 e6
    refine ok_rd (by omega) (gA_233 V) ?_; intro v7 e7 a7 b7
    rw [N 233 _ (by decide)] at e7
    refine ok_wA (by omega) ?_; intro h8 E8
    have V8 : VS_ h8 := by rw [E8]; exact wA_239 V (by omega)
    have N8 : N9 t h8 := fun x k w => by rw [E8, up_n (by omega)]; exact N x k w
    refine ok_add (by omega) ?_; intro v10 e10
    refine ok_add (by omega) ?_; intro v11 e11
    refine ok_mul (by omega) ?_; intro v13 e13
    refine ok_add (by omega) ?_; intro v14 e14
    refine ok_rd (by omega) (gA_235 V8) ?_; intro v15 e15 a15 b15
    rw [N8 235 _ (by decide)] at e15
    refine ok_wA (by omega) ?_; intro h16 E16
    have V16 : VS_ h16 := by rw [E16]; exact wA_239 V8 (by omega)
    have N16 : N9 t h16 := fun x k w => by rw [E16, up_n (by omega)]; exact N8 x k w
    refine ok_add (by omega) ?_; intro v18 e18
    refine ok_add (by omega) ?_; intro v19 e19
    refine ok_mul (by omega) ?_; intro v21 e21
    refine ok_add (by omega) ?_; intro v22 e22
    refine ok_rd (by omega) (gA_236 V16) ?_; intro v23 e23 a23 b23
    rw [N16 236 _ (by decide)] at e23
    refine ok_wA (by omega) ?_; intro h24 E24
    have V24 : VS_ h24 := by rw [E24]; exact wA_239 V16 (by omega)
    have N24 : N9 t h24 := fun x k w => by rw [E24, up_n (by omega)]; exact N16 x k w
    refine ok_add (by omega) ?_; intro v26 e26
    refine ok_add (by omega) ?_; intro v27 e27
    refine ok_mul (by omega) ?_; intro v29 e29
    refine ok_add (by omega) ?_; intro v30 e30
    refine ok_rd (by omega) (gA_237 V24) ?_; intro v31 e31 a31 b31
    rw [N24 237 _ (by decide)] at e31
    refine ok_wA (by omega) ?_; intro h32 E32
    have V32 : VS_ h32 := by rw [E32]; exact wA_239 V24 (by omega)
    have N32 : N9 t h32 := fun x k w => by rw [E32, up_n (by omega)]; exact N24 x k w
    refine ok_add (by omega) ?_; intro v33 e33
    have hm12 : l3.toNat < 12 := by omega
    have hv : v33 = (l3.toNat : Int) + 1 := by omega
    have hv2 : 12 - v33 < (k : Int) := by omega
    have t3 : TB3 g t c (l3.toNat : Int) := fun j hj => t3 j (by omega)
    obtain ⟨p1, p2, p3, p4, w1, w2, w3, w4⟩ : v3.toNat = 261 + l3.toNat ∧ v11.toNat = 273 + l3.toNat ∧ v19.toNat = 285 + l3.toNat ∧ v27.toNat = 297 + l3.toNat ∧ v6.toNat = 12 * c.toNat + l3.toNat ∧ v14.toNat = 12 * c.toNat + l3.toNat ∧ v22.toNat = 12 * c.toNat + l3.toNat ∧ v30.toNat = 12 * c.toNat + l3.toNat := ⟨by omega, by omega, by omega, by omega, by omega, by omega, by omega, by omega⟩
    rw [p1] at E8; rw [p2] at E16; rw [p3] at E24; rw [p4] at E32
    rw [w1] at e7; rw [w2] at e15; rw [w3] at e23; rw [w4] at e31
    clear p1 p2 p3 p4 w1 w2 w3 w4 e2 e3 e5 e6 e10 e11 e13 e14 e18 e19 e21 e22 e26 e27 e29 e30 e33 a7 b7 a15 b15 a23 b23 a31 b31 a C hm
    generalize l3.toNat = m at *
    have f : ∀ i : Nat, ¬ (i = 261 + m ∨ i = 273 + m ∨ i = 285 + m ∨ i = 297 + m) → h32 239 i = g 239 i := fun i w => by
      rw [E32, up_n (by omega), E24, up_n (by omega), E16, up_n (by omega), E8, up_n (by omega)]
    refine ih v33 h32 V32 N32 (fun i hi => by rw [f i (by omega)]; exact t1 i hi) ?_ (fun j hj => ?_) (by omega) hv2
    · unfold TB2
      rw [f 256 (by omega), f 257 (by omega), f 258 (by omega), f 259 (by omega), f 260 (by omega)]; exact t2
    · by_cases q : j = m
      · subst q
        refine ⟨?_, ?_, ?_, ?_⟩
        · rw [E32, up_n (by omega), E24, up_n (by omega), E16, up_n (by omega), E8, up_s]; exact e7
        · rw [E32, up_n (by omega), E24, up_n (by omega), E16, up_s]; exact e15
        · rw [E32, up_n (by omega), E24, up_s]; exact e23
        · rw [E32, up_s]; exact e31
      · rw [f (261 + j) (by omega), f (273 + j) (by omega), f (285 + j) (by omega), f (297 + j) (by omega)]
        exact t3 j (by omega)
theorem as_2 (hn : 1000000 ≤ nn) (hc : 0 ≤ c ∧ c ≤ 7) : ∀ (k : Nat) (l2 : Int) (g : ms_M), VS_ g → N9 t g → TB1 g t c l2 → (0 ≤ l2 ∧ l2 ≤ 256) → 256 - l2 < (k : Int) → Ok_ (qw_X13_aside_2 nn k c l2 g) (fun r => VS_ r ∧ N9 t r ∧ TBk r t c) := by
  intro k
  induction k with
  | zero => intro l2 g V N t1 a hm; exfalso; omega
  | succ k ih =>
    intro l2 g V N t1 a hm
    unfold qw_X13_aside_2
    refine ok_if (fun C => ?_) (fun C => ?_)
    · refine ok_rd (by omega) (gA_229 V) ?_; intro v37 e37 _ _
      rw [N 229 _ (by decide)] at e37
      refine ok_wA (by omega) ?_; intro h38 E38
      have V38 : VS_ h38 := by rw [E38]; exact wA_239 V (by omega)
      have N38 : N9 t h38 := fun x k w => by rw [E38, up_n (by omega)]; exact N x k w
      refine ok_add (by omega) ?_; intro v40 e40
      refine ok_rd (by omega) (gA_230 V38) ?_; intro v42 e42 _ _
      rw [N38 230 _ (by decide)] at e42
      refine ok_wA (by omega) ?_; intro h43 E43
      have V43 : VS_ h43 := by rw [E43]; exact wA_239 V38 (by omega)
      have N43 : N9 t h43 := fun x k w => by rw [E43, up_n (by omega)]; exact N38 x k w
      refine ok_add (by omega) ?_; intro v45 e45
      refine ok_rd (by omega) (gA_231 V43) ?_; intro v47 e47 _ _
      rw [N43 231 _ (by decide)] at e47
      refine ok_wA (by omega) ?_; intro h48 E48
      have V48 : VS_ h48 := by rw [E48]; exact wA_239 V43 (by omega)
      have N48 : N9 t h48 := fun x k w => by rw [E48, up_n (by omega)]; exact N43 x k w
      refine ok_add (by omega) ?_; intro v50 e50
      refine ok_rd (by omega) (gA_232 V48) ?_; intro v52 e52 _ _
      rw [N48 232 _ (by decide)] at e52
      refine ok_wA (by omega) ?_; intro h53 E53
      have V53 : VS_ h53 := by rw [E53]; exact wA_239 V48 (by omega)
      have N53 : N9 t h53 := fun x k w => by rw [E53, up_n (by omega)]; exact N48 x k w
      refine ok_add (by omega) ?_; intro v55 e55
      refine ok_rd (by omega) (gA_234 V53) ?_; intro v57 e57 _ _
      rw [N53 234 _ (by decide)] at e57
      refine ok_wA (by omega) ?_; intro h58 E58
      have V58 : VS_ h58 := by rw [E58]; exact wA_239 V53 (by omega)
      have N58 : N9 t h58 := fun x k w => by rw [E58, up_n (by omega)]; exact N53 x k w
      have p0 : (256 : Int).toNat = 256 := rfl
      have p1 : v40.toNat = 257 := by omega
      have p2 : v45.toNat = 258 := by omega
      have p3 : v50.toNat = 259 := by omega
      have p4 : v55.toNat = 260 := by omega
      rw [p0] at E38; rw [p1] at E43; rw [p2] at E48; rw [p3] at E53; rw [p4] at E58
      refine as_107 hc nn 0 h58 V58 N58 (fun i hi => ?_) ⟨?_, ?_, ?_, ?_, ?_⟩ (fun j hj => by exfalso; omega) (by omega) (by omega)
      · rw [E58, up_n (by omega), E53, up_n (by omega), E48, up_n (by omega), E43, up_n (by omega), E38, up_n (by omega)]; exact t1 i (by omega)
      · rw [E58, up_n (by decide), E53, up_n (by decide), E48, up_n (by decide), E43, up_n (by decide), E38, up_s]; exact e37
      · rw [E58, up_n (by decide), E53, up_n (by decide), E48, up_n (by decide), E43, up_s]; exact e42
      · rw [E58, up_n (by decide), E53, up_n (by decide), E48, up_s]; exact e47
      · rw [E58, up_n (by decide), E53, up_s]; exact e52
      · rw [E58, up_s]; exact e57
    · refine ok_mul (by omega) ?_; intro v61 e61
      refine ok_add (by omega) ?_; intro v62 e62
      refine ok_rd (by omega) (gA_228 V) ?_; intro v63 e63 _ _
      rw [N 228 _ (by decide)] at e63
      refine ok_wA (by omega) ?_; intro h64 E64
      refine ok_add (by omega) ?_; intro v65 e65
      refine ih v65 h64 (by rw [E64]; exact wA_239 V (by omega)) (fun x k w => by rw [E64, up_n (by omega)]; exact N x k w) (fun i hi => ?_) (by omega) (by omega)
      by_cases q : (i : Int) = l2
      · rw [E64, show i = l2.toNat by omega, up_s, e63, show v62.toNat = 256 * c.toNat + l2.toNat by omega]
      · rw [E64, up_n (by omega)]; exact t1 i (by omega)
theorem as_aside (hn : 1000000 ≤ nn) (hc : 0 ≤ c ∧ c ≤ 7) (V : VS_ h) : Ok_ (qf_X13_aside nn c h) (fun r => VS_ r ∧ N9 h r ∧ TBk r h c) := by
  unfold qf_X13_aside
  exact as_2 hn hc nn 0 h V (fun _ _ _ => rfl) (fun i hi => by exfalso; omega) (by omega) (by omega)
/-- the rows of image c -/
def TAB (c : Int) (x k : Nat) : Prop := (x = 228 ∧ 256 * c ≤ (k : Int) ∧ (k : Int) < 256 * c + 256) ∨ ((x = 229 ∨ x = 230 ∨ x = 231 ∨ x = 232 ∨ x = 234) ∧ (k : Int) = c) ∨ ((x = 233 ∨ x = 235 ∨ x = 236 ∨ x = 237) ∧ 12 * c ≤ (k : Int) ∧ (k : Int) < 12 * c + 12)
theorem ag_107 (hc : 0 ≤ c ∧ c ≤ 7) (Vt : VS_ t) {f : ms_M} (T : TBk f t c) : ∀ (k : Nat) (l3 : Int) (g : ms_M), VS_ g → (∀ x k : Nat, ¬ TAB c x k → g x k = f x k) → (∀ x k : Nat, TAB c x k → (x = 228 ∨ (x = 229 ∨ x = 230 ∨ x = 231 ∨ x = 232 ∨ x = 234) ∨ (k : Int) < 12 * c + l3) → g x k = t x k) → (0 ≤ l3 ∧ l3 ≤ 12) → 12 - l3 < (k : Int) → Ok_ (qw_X13_again_107 nn k c 256 l3 g) (fun r => VS_ r ∧ (∀ x k : Nat, ¬ TAB c x k → r x k = f x k) ∧ (∀ x k : Nat, TAB c x k → r x k = t x k)) := by
  intro k
  induction k with
  | zero => intro l3 g V N A a hm; exfalso; omega
  | succ k ih =>
    intro l3 g V N A a hm
    have n239 : ∀ j : Nat, g 239 j = f 239 j := fun j => N 239 j (by unfold TAB; omega)
    unfold qw_X13_again_107
    refine ok_if (fun C => ok_ret ⟨V, N, fun x k w => A x k w (by unfold TAB at w; omega)⟩) (fun C => ?_)
    obtain ⟨q1, q2, q3, q4⟩ := T.2.2 l3.toNat (by omega)
    have r1 := gA_233 Vt (12 * c.toNat + l3.toNat) (by omega)
    have r2 := gA_235 Vt (12 * c.toNat + l3.toNat) (by omega)
    have r3 := gA_236 Vt (12 * c.toNat + l3.toNat) (by omega)
    have r4 := gA_237 Vt (12 * c.toNat + l3.toNat) (by omega)
    refine ok_mul (by omega) ?_; intro v2 e2
    refine ok_add (by omega) ?_; intro v3 e3
    refine ok_add (by omega) ?_; intro v5 e5
    refine ok_add (by omega) ?_; intro v6 e6
    refine ok_rd (by omega) (gA_239 V) ?_; intro v7 e7 _ _
    rw [n239, show v6.toNat = 261 + l3.toNat by omega, q1] at e7
    refine ok_wA (by omega) ?_; intro h8 E8
    have V8 : VS_ h8 := by rw [E8]; exact wA_233 V (by omega)
    refine ok_mul (by omega) ?_; intro v10 e10
    refine ok_add (by omega) ?_; intro v11 e11
    refine ok_add (by omega) ?_; intro v13 e13
    refine ok_add (by omega) ?_; intro v14 e14
    refine ok_rd (by omega) (gA_239 V8) ?_; intro v15 e15 _ _
    rw [E8, up_n (by omega), n239, show v14.toNat = 273 + l3.toNat by omega, q2] at e15
    refine ok_wA (by omega) ?_; intro h16 E16
    have V16 : VS_ h16 := by rw [E16]; exact wA_235 V8 (by omega)
    refine ok_mul (by omega) ?_; intro v18 e18
    refine ok_add (by omega) ?_; intro v19 e19
    refine ok_add (by omega) ?_; intro v21 e21
    refine ok_add (by omega) ?_; intro v22 e22
    refine ok_rd (by omega) (gA_239 V16) ?_; intro v23 e23 _ _
    rw [E16, up_n (by omega), E8, up_n (by omega), n239, show v22.toNat = 285 + l3.toNat by omega, q3] at e23
    refine ok_wA (by omega) ?_; intro h24 E24
    have V24 : VS_ h24 := by rw [E24]; exact wA_236 V16 (by omega)
    refine ok_mul (by omega) ?_; intro v26 e26
    refine ok_add (by omega) ?_; intro v27 e27
    refine ok_add (by omega) ?_; intro v29 e29
    refine ok_add (by omega) ?_; intro v30 e30
    refine ok_rd (by omega) (gA_239 V24) ?_; intro v31 e31 _ _
    rw [E24, up_n (by omega), E16, up_n (by omega), E8, up_n (by omega), n239, show v30.toNat = 297 + l3.toNat by omega, q4] at e31
    refine ok_wA (by omega) ?_; intro h32 E32
    have V32 : VS_ h32 := by rw [E32]; exact wA_237 V24 (by omega)
    refine ok_add (by omega) ?_; intro v33 e33
    obtain ⟨p1, p2, p3, p4⟩ : v3.toNat = 12 * c.toNat + l3.toNat ∧ v11.toNat = 12 * c.toNat + l3.toNat ∧ v19.toNat = 12 * c.toNat + l3.toNat ∧ v27.toNat = 12 * c.toNat + l3.toNat := by
      clear r1 r2 r3 r4 q1 q2 q3 q4 e7 e15 e23 e31 E8 E16 E24 E32 e5 e6 e13 e14 e21 e22 e29 e30 hm
      refine ⟨?_, ?_, ?_, ?_⟩
      · clear e10 e11 e18 e19 e26 e27; omega
      · clear e2 e3 e18 e19 e26 e27; omega
      · clear e2 e3 e10 e11 e26 e27; omega
      · clear e2 e3 e10 e11 e18 e19; omega
    rw [p1] at E8; rw [p2] at E16; rw [p3] at E24; rw [p4] at E32
    clear p1 p2 p3 p4 e2 e3 e5 e6 e10 e11 e13 e14 e18 e19 e21 e22 e26 e27 e29 e30 r1 r2 r3 r4 q1 q2 q3 q4
    have o : ∀ x k : Nat, ¬ ((x = 233 ∨ x = 235 ∨ x = 236 ∨ x = 237) ∧ k = 12 * c.toNat + l3.toNat) → h32 x k = g x k := fun x k w => by rw [E32, up_n (by omega), E24, up_n (by omega), E16, up_n (by omega), E8, up_n (by omega)]
    refine ih v33 h32 V32 (fun x k w => ?_) (fun x k w w2 => ?_) (by omega) (by omega)
    · rw [o x k (by unfold TAB at w; omega)]; exact N x k w
    · by_cases y : (x = 233 ∨ x = 235 ∨ x = 236 ∨ x = 237) ∧ k = 12 * c.toNat + l3.toNat
      · obtain ⟨y1, y2⟩ := y
        subst y2
        rcases y1 with y | y | y | y <;> subst y
        · rw [E32, up_n (by omega), E24, up_n (by omega), E16, up_n (by omega), E8, up_s]; exact e7
        · rw [E32, up_n (by omega), E24, up_n (by omega), E16, up_s]; exact e15
        · rw [E32, up_n (by omega), E24, up_s]; exact e23
        · rw [E32, up_s]; exact e31
      · rw [o x k y]
        exact A x k w (by unfold TAB at w; omega)
theorem ag_2 (hn : 1000000 ≤ nn) (hc : 0 ≤ c ∧ c ≤ 7) (Vt : VS_ t) {f : ms_M} (T : TBk f t c) : ∀ (k : Nat) (l2 : Int) (g : ms_M), VS_ g → (∀ x k : Nat, ¬ (x = 228 ∧ 256 * c ≤ (k : Int) ∧ (k : Int) < 256 * c + 256) → g x k = f x k) → (∀ k : Nat, 256 * c ≤ (k : Int) → (k : Int) < 256 * c + l2 → g 228 k = t 228 k) → (0 ≤ l2 ∧ l2 ≤ 256) → 256 - l2 < (k : Int) → Ok_ (qw_X13_again_2 nn k c l2 g) (fun r => VS_ r ∧ (∀ x k : Nat, ¬ TAB c x k → r x k = f x k) ∧ (∀ x k : Nat, TAB c x k → r x k = t x k)) := by
  intro k
  induction k with
  | zero => intro l2 g V N A a hm; exfalso; omega
  | succ k ih =>
    intro l2 g V N A a hm
    have n239 : ∀ j : Nat, g 239 j = f 239 j := fun j => N 239 j (by omega)
    unfold qw_X13_again_2
    refine ok_if (fun C => ?_) (fun C => ?_)
    · obtain ⟨q1, q2, q3, q4, q5⟩ := T.2.1
      have r1 := gA_229 Vt c.toNat (by omega)
      have r2 := gA_230 Vt c.toNat (by omega)
      have r3 := gA_231 Vt c.toNat (by omega)
      have r4 := gA_232 Vt c.toNat (by omega)
      have r5 := gA_234 Vt c.toNat (by omega)
      refine ok_rd (by omega) (gA_239 V) ?_; intro v37 e37 _ _
      rw [n239, show (256 : Int).toNat = 256 from rfl, q1] at e37
      refine ok_wA (by omega) ?_; intro h38 E38
      have V38 : VS_ h38 := by rw [E38]; exact wA_229 V (by omega)
      refine ok_add (by omega) ?_; intro v41 e41
      refine ok_rd (by omega) (gA_239 V38) ?_; intro v42 e42 _ _
      rw [E38, up_n (by omega), n239, show v41.toNat = 257 by omega, q2] at e42
      refine ok_wA (by omega) ?_; intro h43 E43
      have V43 : VS_ h43 := by rw [E43]; exact wA_230 V38 (by omega)
      refine ok_add (by omega) ?_; intro v46 e46
      refine ok_rd (by omega) (gA_239 V43) ?_; intro v47 e47 _ _
      rw [E43, up_n (by omega), E38, up_n (by omega), n239, show v46.toNat = 258 by omega, q3] at e47
      refine ok_wA (by omega) ?_; intro h48 E48
      have V48 : VS_ h48 := by rw [E48]; exact wA_231 V43 (by omega)
      refine ok_add (by omega) ?_; intro v51 e51
      refine ok_rd (by omega) (gA_239 V48) ?_; intro v52 e52 _ _
      rw [E48, up_n (by omega), E43, up_n (by omega), E38, up_n (by omega), n239, show v51.toNat = 259 by omega, q4] at e52
      refine ok_wA (by omega) ?_; intro h53 E53
      have V53 : VS_ h53 := by rw [E53]; exact wA_232 V48 (by omega)
      refine ok_add (by omega) ?_; intro v56 e56
      refine ok_rd (by omega) (gA_239 V53) ?_; intro v57 e57 _ _
      rw [E53, up_n (by omega), E48, up_n (by omega), E43, up_n (by omega), E38, up_n (by omega), n239, show v56.toNat = 260 by omega, q5] at e57
      refine ok_wA (by omega) ?_; intro h58 E58
      have V58 : VS_ h58 := by rw [E58]; exact wA_234 V53 (by omega)
      have o : ∀ x k : Nat, ¬ ((x = 229 ∨ x = 230 ∨ x = 231 ∨ x = 232 ∨ x = 234) ∧ k = c.toNat) → h58 x k = g x k := fun x k w => by rw [E58, up_n (by omega), E53, up_n (by omega), E48, up_n (by omega), E43, up_n (by omega), E38, up_n (by omega)]
      refine ag_107 hc Vt T nn 0 h58 V58 (fun x k w => ?_) (fun x k w w2 => ?_) (by omega) (by omega)
      · rw [o x k (by unfold TAB at w; omega)]
        exact N x k (by unfold TAB at w; omega)
      · by_cases y : (x = 229 ∨ x = 230 ∨ x = 231 ∨ x = 232 ∨ x = 234) ∧ k = c.toNat
        · obtain ⟨y1, y2⟩ := y
          subst y2
          rcases y1 with y | y | y | y | y <;> subst y
          · rw [E58, up_n (by omega), E53, up_n (by omega), E48, up_n (by omega), E43, up_n (by omega), E38, up_s]; exact e37
          · rw [E58, up_n (by omega), E53, up_n (by omega), E48, up_n (by omega), E43, up_s]; exact e42
          · rw [E58, up_n (by omega), E53, up_n (by omega), E48, up_s]; exact e47
          · rw [E58, up_n (by omega), E53, up_s]; exact e52
          · rw [E58, up_s]; exact e57
        · rw [o x k y]
          have hx : x = 228 := by unfold TAB at w; omega
          subst hx
          exact A k (by unfold TAB at w; omega) (by unfold TAB at w; omega)
    · have q := T.1 l2.toNat (by omega)
      have rg := gA_228 Vt (256 * c.toNat + l2.toNat) (by omega)
      refine ok_mul (by omega) ?_; intro v60 e60
      refine ok_add (by omega) ?_; intro v61 e61
      refine ok_rd (by omega) (gA_239 V) ?_; intro v63 e63 _ _
      rw [n239, q] at e63
      refine ok_wA (by omega) ?_; intro h64 E64
      refine ok_add (by omega) ?_; intro v65 e65
      refine ih v65 h64 (by rw [E64]; exact wA_228 V (by omega)) (fun x k w => by rw [E64, up_n (by omega)]; exact N x k w) (fun k h1 h2 => ?_) (by omega) (by omega)
      by_cases y : k = v61.toNat
      · rw [E64, y, up_s, e63, show v61.toNat = 256 * c.toNat + l2.toNat by omega]
      · rw [E64, up_n (by omega)]; exact A k h1 (by omega)
/-- what was put aside is put back -/
theorem ag_again (hn : 1000000 ≤ nn) (hc : 0 ≤ c ∧ c ≤ 7) (V : VS_ h) (Vt : VS_ t) (T : TBk h t c) : Ok_ (qf_X13_again nn c h) (fun r => VS_ r ∧ (∀ x k : Nat, ¬ TAB c x k → r x k = h x k) ∧ (∀ x k : Nat, TAB c x k → r x k = t x k)) := by
  unfold qf_X13_again
  exact ag_2 hn hc Vt T nn 0 h V (fun _ _ _ => rfl) (fun k h1 h2 => by exfalso; omega) (by omega) (by omega)
end

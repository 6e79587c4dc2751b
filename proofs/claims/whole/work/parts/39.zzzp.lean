section
section
variable {nn : Nat} {h g r z t : ms_M} {c : Int}
def TB1 (g t : ms_M) (c n : Int) : Prop := ∀ i : Nat, (i : Int) < n → g 239 i = t 228 (256 * c.toNat + i)
def TB2 (g t : ms_M) (c : Int) : Prop := g 239 256 = t 229 c.toNat ∧ g 239 257 = t 230 c.toNat ∧ g 239 258 = t 231 c.toNat ∧ g 239 259 = t 232 c.toNat ∧ g 239 260 = t 234 c.toNat
def TB3 (g t : ms_M) (c n : Int) : Prop := ∀ j : Nat, (j : Int) < n → g 239 (261 + j) = t 233 (12 * c.toNat + j) ∧ g 239 (273 + j) = t 235 (12 * c.toNat + j) ∧ g 239 (285 + j) = t 236 (12 * c.toNat + j) ∧ g 239 (297 + j) = t 237 (12 * c.toNat + j)
/-- what was put aside -/
def TBk (g t : ms_M) (c : Int) : Prop := TB1 g t c 256 ∧ TB2 g t c ∧ TB3 g t c 12
def N9 (t g : ms_M) : Prop := ∀ x k : Nat, x ≠ 239 → g x k = t x k
theorem as_107 (hc : 0 ≤ c ∧ c ≤ 7) : ∀ (k : Nat) (l3 : Int) (g : ms_M), VS_ g → N9 t g → TB1 g t c 256 → TB2 g t c → TB3 g t c l3 → (0 ≤ l3 ∧ l3 ≤ 12) → 12 - l3 < (k : Int) → Ok_ (qw_X13_aside_107 nn k c 256 l3 g) (fun r => VS_ r ∧ N9 t r ∧ TBk r t c) := by
  intro k
  induction k with
  | zero => intro l3 g V N t1 t2 t3 a hm; exfalso; omega
  | succ k ih =>
    intro l3 g V N t1 t2 t3 a hm
    unfold qw_X13_aside_107
    refine ok_if (fun C => ok_ret ⟨V, N, t1, t2, fun j hj => t3 j (by omega)⟩) (fun C => ?_)
    refine ok_add (by omega) ?_; intro v2 e2
    refine ok_add (by omega) ?_; intro v3 e3
    refine ok_mul (by omega) ?_; intro v5 e5
    refine ok_add (by omega) ?_; intro v6 e6
    refine ok_rd (by omega) (gA_233 V) ?_; intro v7 e7 a7 b7
    rw [N 233 _ (by decide)] at e7
    refine ok_wA (by omega) ?_; intro h8 E8
    have V8 : VS_ h8 := by rw [E8]; exact wA_239 V (by omega)
    have N8 : N9 t h8 := fun x k w => by rw [E8, up_n (by omega)]; exact N x k w
    refine ok_add (by omega) ?_; intro v10 e10
    refine ok_add (by omega) ?_; intro v11 e11
    refine ok_mul (by omega) ?_; intro v13 e13
    refine ok_add (by omega) ?_; intro v14 e14
    refine ok_rd (by omega) (gA_235 V8) ?_; intro v15 e15 a15 b15
    rw [N8 235 _ (by decide)] at e15
    refine ok_wA (by omega) ?_; intro h16 E16
    have V16 : VS_ h16 := by rw [E16]; exact wA_239 V8 (by omega)
    have N16 : N9 t h16 := fun x k w => by rw [E16, up_n (by omega)]; exact N8 x k w
    refine ok_add (by omega) ?_; intro v18 e18
    refine ok_add (by omega) ?_; intro v19 e19
    refine ok_mul (by omega) ?_; intro v21 e21
    refine ok_add (by omega) ?_; intro v22 e22
    refine ok_rd (by omega) (gA_236 V16) ?_; intro v23 e23 a23 b23
    rw [N16 236 _ (by decide)] at e23
    refine ok_wA (by omega) ?_; intro h24 E24
    have V24 : VS_ h24 := by rw [E24]; exact wA_239 V16 (by omega)
    have N24 : N9 t h24 := fun x k w => by rw [E24, up_n (by omega)]; exact N16 x k w
    refine ok_add (by omega) ?_; intro v26 e26
    refine ok_add (by omega) ?_; intro v27 e27
    refine ok_mul (by omega) ?_; intro v29 e29
    refine ok_add (by omega) ?_; intro v30 e30
    refine ok_rd (by omega) (gA_237 V24) ?_; intro v31 e31 a31 b31
    rw [N24 237 _ (by decide)] at e31
    refine ok_wA (by omega) ?_; intro h32 E32
    have V32 : VS_ h32 := by rw [E32]; exact wA_239 V24 (by omega)
    have N32 : N9 t h32 := fun x k w => by rw [E32, up_n (by omega)]; exact N24 x k w
    refine ok_add (by omega) ?_; intro v33 e33
    have hm12 : l3.toNat < 12 := by omega
    have hv : v33 = (l3.toNat : Int) + 1 := by omega
    have hv2 : 12 - v33 < (k : Int) := by omega
    have t3 : TB3 g t c (l3.toNat : Int) := fun j hj => t3 j (by omega)
    obtain ⟨p1, p2, p3, p4, w1, w2, w3, w4⟩ : v3.toNat = 261 + l3.toNat ∧ v11.toNat = 273 + l3.toNat ∧ v19.toNat = 285 + l3.toNat ∧ v27.toNat = 297 + l3.toNat ∧ v6.toNat = 12 * c.toNat + l3.toNat ∧ v14.toNat = 12 * c.toNat + l3.toNat ∧ v22.toNat = 12 * c.toNat + l3.toNat ∧ v30.toNat = 12 * c.toNat + l3.toNat := ⟨by omega, by omega, by omega, by omega, by omega, by omega, by omega, by omega⟩
    rw [p1] at E8; rw [p2] at E16; rw [p3] at E24; rw [p4] at E32
    rw [w1] at e7; rw [w2] at e15; rw [w3] at e23; rw [w4] at e31
    clear p1 p2 p3 p4 w1 w2 w3 w4 e2 e3 e5 e6 e10 e11 e13 e14 e18 e19 e21 e22 e26 e27 e29 e30 e33 a7 b7 a15 b15 a23 b23 a31 b31 a C hm
    generalize l3.toNat = m at *
    have f : ∀ i : Nat, ¬ (i = 261 + m ∨ i = 273 + m ∨ i = 285 + m ∨ i = 297 + m) → h32 239 i = g 239 i := fun i w => by
      rw [E32, up_n (by omega), E24, up_n (by omega), E16, up_n (by omega), E8, up_n (by omega)]
    refine ih v33 h32 V32 N32 (fun i hi => by rw [f i (by omega)]; exact t1 i hi) ?_ (fun j hj => ?_) (by omega) hv2
    · unfold TB2
      rw [f 256 (by omega), f 257 (by omega), f 258 (by omega), f 259 (by omega), f 260 (by omega)]; exact t2
    · by_cases q : j = m
      · subst q
        refine ⟨?_, ?_, ?_, ?_⟩
        · rw [E32, up_n (by omega), E24, up_n (by omega), E16, up_n (by omega), E8, up_s]; exact e7
        · rw [E32, up_n (by omega), E24, up_n (by omega), E16, up_s]; exact e15
        · rw [E32, up_n (by omega), E24, up_s]; exact e23
        · rw [E32, up_s]; exact e31
      · rw [f (261 + j) (by omega), f (273 + j) (by omega), f (285 + j) (by omega), f (297 + j) (by omega)]
        exact t3 j (by omega)
theorem as_2 (hn : 1000000 ≤ nn) (hc : 0 ≤ c ∧ c ≤ 7) : ∀ (k : Nat) (l2 : Int) (g : ms_M), VS_ g → N9 t g → TB1 g t c l2 → (0 ≤ l2 ∧ l2 ≤ 256) → 256 - l2 < (k : Int) → Ok_ (qw_X13_aside_2 nn k c l2 g) (fun r => VS_ r ∧ N9 t r ∧ TBk r t c) := by
  intro k
  induction k with
  | zero => intro l2 g V N t1 a hm; exfalso; omega
  | succ k ih =>
    intro l2 g V N t1 a hm
    unfold qw_X13_aside_2
    refine ok_if (fun C => ?_) (fun C => ?_)
    · refine ok_rd (by omega) (gA_229 V) ?_; intro v37 e37 _ _
      rw [N 229 _ (by decide)] at e37
      refine ok_wA (by omega) ?_; intro h38 E38
      have V38 : VS_ h38 := by rw [E38]; exact wA_239 V (by omega)
      have N38 : N9 t h38 := fun x k w => by rw [E38, up_n (by omega)]; exact N x k w
      refine ok_add (by omega) ?_; intro v40 e40
      refine ok_rd (by omega) (gA_230 V38) ?_; intro v42 e42 _ _
      rw [N38 230 _ (by decide)] at e42
      refine ok_wA (by omega) ?_; intro h43 E43
      have V43 : VS_ h43 := by rw [E43]; exact wA_239 V38 (by omega)
      have N43 : N9 t h43 := fun x k w => by rw [E43, up_n (by omega)]; exact N38 x k w
      refine ok_add (by omega) ?_; intro v45 e45
      refine ok_rd (by omega) (gA_231 V43) ?_; intro v47 e47 _ _
      rw [N43 231 _ (by decide)] at e47
      refine ok_wA (by omega) ?_; intro h48 E48
      have V48 : VS_ h48 := by rw [E48]; exact wA_239 V43 (by omega)
      have N48 : N9 t h48 := fun x k w => by rw [E48, up_n (by omega)]; exact N43 x k w
      refine ok_add (by omega) ?_; intro v50 e50
      refine ok_rd (by omega) (gA_232 V48) ?_; intro v52 e52 _ _
      rw [N48 232 _ (by decide)] at e52
      refine ok_wA (by omega) ?_; intro h53 E53
      have V53 : VS_ h53 := by rw [E53]; exact wA_239 V48 (by omega)
      have N53 : N9 t h53 := fun x k w => by rw [E53, up_n (by omega)]; exact N48 x k w
      refine ok_add (by omega) ?_; intro v55 e55
      refine ok_rd (by omega) (gA_234 V53) ?_; intro v57 e57 _ _
      rw [N53 234 _ (by decide)] at e57
      refine ok_wA (by omega) ?_; intro h58 E58
      have V58 : VS_ h58 := by rw [E58]; exact wA_239 V53 (by omega)
      have N58 : N9 t h58 := fun x k w => by rw [E58, up_n (by omega)]; exact N53 x k w
      have p0 : (256 : Int).toNat = 256 := rfl
      have p1 : v40.toNat = 257 := by omega
      have p2 : v45.toNat = 258 := by omega
      have p3 : v50.toNat = 259 := by omega
      have p4 : v55.toNat = 260 := by omega
      rw [p0] at E38; rw [p1] at E43; rw [p2] at E48; rw [p3] at E53; rw [p4] at E58
      refine as_107 hc nn 0 h58 V58 N58 (fun i hi => ?_) ⟨?_, ?_, ?_, ?_, ?_⟩ (fun j hj => by exfalso; omega) (by omega) (by omega)
      · rw [E58, up_n (by omega), E53, up_n (by omega), E48, up_n (by omega), E43, up_n (by omega), E38, up_n (by omega)]; exact t1 i (by omega)
      · rw [E58, up_n (by decide), E53, up_n (by decide), E48, up_n (by decide), E43, up_n (by decide), E38, up_s]; exact e37
      · rw [E58, up_n (by decide), E53, up_n (by decide), E48, up_n (by decide), E43, up_s]; exact e42
      · rw [E58, up_n (by decide), E53, up_n (by decide), E48, up_s]; exact e47
      · rw [E58, up_n (by decide), E53, up_s]; exact e52
      · rw [E58, up_s]; exact e57
    · refine ok_mul (by omega) ?_; intro v61 e61
      refine ok_add (by omega) ?_; intro v62 e62
      refine ok_rd (by omega) (gA_228 V) ?_; intro v63 e63 _ _
      rw [N 228 _ (by decide)] at e63
      refine ok_wA (by omega) ?_; intro h64 E64
      refine ok_add (by omega) ?_; intro v65 e65
      refine ih v65 h64 (by rw [E64]; exact wA_239 V (by omega)) (fun x k w => by rw [E64, up_n (by omega)]; exact N x k w) (fun i hi => ?_) (by omega) (by omega)
      by_cases q : (i : Int) = l2
      · rw [E64, show i = l2.toNat by omega, up_s, e63, show v62.toNat = 256 * c.toNat + l2.toNat by omega]
      · rw [E64, up_n (by omega)]; exact t1 i (by omega)
theorem as_aside (hn : 1000000 ≤ nn) (hc : 0 ≤ c ∧ c ≤ 7) (V : VS_ h) : Ok_ (qf_X13_aside nn c h) (fun r => VS_ r ∧ N9 h r ∧ TBk r h c) := by
  unfold qf_X13_aside
  exact as_2 hn hc nn 0 h V (fun _ _ _ => rfl) (fun i hi => by exfalso; omega) (by omega) (by omega)
/-- the rows of image c -/
def TAB (c : Int) (x k : Nat) : Prop := (x = 228 ∧ 256 * c ≤ (k : Int) ∧ (k : Int) < 256 * c + 256) ∨ ((x = 229 ∨ x = 230 ∨ x = 231 ∨ x = 232 ∨ x = 234) ∧ (k : Int) = c) ∨ ((x = 233 ∨ x = 235 ∨ x = 236 ∨ x = 237) ∧ 12 * c ≤ (k : Int) ∧ (k : Int) < 12 * c + 12)
theorem ag_107 (hc : 0 ≤ c ∧ c ≤ 7) (Vt : VS_ t) {f : ms_M} (T : TBk f t c) : ∀ (k : Nat) (l3 : Int) (g : ms_M), VS_ g → (∀ x k : Nat, ¬ TAB c x k → g x k = f x k) → (∀ x k : Nat, TAB c x k → (x = 228 ∨ (x = 229 ∨ x = 230 ∨ x = 231 ∨ x = 232 ∨ x = 234) ∨ (k : Int) < 12 * c + l3) → g x k = t x k) → (0 ≤ l3 ∧ l3 ≤ 12) → 12 - l3 < (k : Int) → Ok_ (qw_X13_again_107 nn k c 256 l3 g) (fun r => VS_ r ∧ (∀ x k : Nat, ¬ TAB c x k → r x k = f x k) ∧ (∀ x k : Nat, TAB c x k → r x k = t x k)) := by
  intro k
  induction k with
  | zero => intro l3 g V N A a hm; exfalso; omega
  | succ k ih =>
    intro l3 g V N A a hm
    have n239 : ∀ j : Nat, g 239 j = f 239 j := fun j => N 239 j (by unfold TAB; omega)
    unfold qw_X13_again_107
    refine ok_if (fun C => ok_ret ⟨V, N, fun x k w => A x k w (by unfold TAB at w; omega)⟩) (fun C => ?_)
    obtain ⟨q1, q2, q3, q4⟩ := T.2.2 l3.toNat (by omega)
    have r1 := gA_233 Vt (12 * c.toNat + l3.toNat) (by omega)
    have r2 := gA_235 Vt (12 * c.toNat + l3.toNat) (by omega)
    have r3 := gA_236 Vt (12 * c.toNat + l3.toNat) (by omega)
    have r4 := gA_237 Vt (12 * c.toNat + l3.toNat) (by omega)
    refine ok_mul (by omega) ?_; intro v2 e2
    refine ok_add (by omega) ?_; intro v3 e3
    refine ok_add (by omega) ?_; intro v5 e5
    refine ok_add (by omega) ?_; intro v6 e6
    refine ok_rd (by omega) (gA_239 V) ?_; intro v7 e7 _ _
    rw [n239, show v6.toNat = 261 + l3.toNat by omega, q1] at e7
    refine ok_wA (by omega) ?_; intro h8 E8
    have V8 : VS_ h8 := by rw [E8]; exact wA_233 V (by omega)
    refine ok_mul (by omega) ?_; intro v10 e10
    refine ok_add (by omega) ?_; intro v11 e11
    refine ok_add (by omega) ?_; intro v13 e13
    refine ok_add (by omega) ?_; intro v14 e14
    refine ok_rd (by omega) (gA_239 V8) ?_; intro v15 e15 _ _
    rw [E8, up_n (by omega), n239, show v14.toNat = 273 + l3.toNat by omega, q2] at e15
    refine ok_wA (by omega) ?_; intro h16 E16
    have V16 : VS_ h16 := by rw [E16]; exact wA_235 V8 (by omega)
    refine ok_mul (by omega) ?_; intro v18 e18
    refine ok_add (by omega) ?_; intro v19 e19
    refine ok_add (by omega) ?_; intro v21 e21
    refine ok_add (by omega) ?_; intro v22 e22
    refine ok_rd (by omega) (gA_239 V16) ?_; intro v23 e23 _ _
    rw [E16, up_n (by omega), E8, up_n (by omega), n239, show v22.toNat = 285 + l3.toNat by omega, q3] at e23
    refine ok_wA (by omega) ?_; intro h24 E24
    have V24 : VS_ h24 := by rw [E24]; exact wA_236 V16 (by omega)
    refine ok_mul (by omega) ?_; intro v26 e26
    refine ok_add (by omega) ?_; intro v27 e27
    refine ok_add (by omega) ?_; intro v29 e29
    refine ok_add (by omega) ?_; intro v30 e30
    refine ok_rd (by omega) (gA_239 V24) ?_; intro v31 e31 _ _
    rw [E24, up_n (by omega), E16, up_n (by omega), E8, up_n (by omega), n239, show v30.toNat = 297 + l3.toNat by omega, q4] at e31
    refine ok_wA (by omega) ?_; intro h32 E32
    have V32 : VS_ h32 := by rw [E32]; exact wA_237 V24 (by omega)
    refine ok_add (by omega) ?_; intro v33 e33
    obtain ⟨p1, p2, p3, p4⟩ : v3.toNat = 12 * c.toNat + l3.toNat ∧ v11.toNat = 12 * c.toNat + l3.toNat ∧ v19.toNat = 12 * c.toNat + l3.toNat ∧ v27.toNat = 12 * c.toNat + l3.toNat := by
      clear r1 r2 r3 r4 q1 q2 q3 q4 e7 e15 e23 e31 E8 E16 E24 E32 e5 e6 e13 e14 e21 e22 e29 e30 hm
      refine ⟨?_, ?_, ?_, ?_⟩
      · clear e10 e11 e18 e19 e26 e27; omega
      · clear e2 e3 e18 e19 e26 e27; omega
      · clear e2 e3 e10 e11 e26 e27; omega
      · clear e2 e3 e10 e11 e18 e19; omega
    rw [p1] at E8; rw [p2] at E16; rw [p3] at E24; rw [p4] at E32
    clear p1 p2 p3 p4 e2 e3 e5 e6 e10 e11 e13 e14 e18 e19 e21 e22 e26 e27 e29 e30 r1 r2 r3 r4 q1 q2 q3 q4
    have o : ∀ x k : Nat, ¬ ((x = 233 ∨ x = 235 ∨ x = 236 ∨ x = 237) ∧ k = 12 * c.toNat + l3.toNat) → h32 x k = g x k := fun x k w => by rw [E32, up_n (by omega), E24, up_n (by omega), E16, up_n (by omega), E8, up_n (by omega)]
    refine ih v33 h32 V32 (fun x k w => ?_) (fun x k w w2 => ?_) (by omega) (by omega)
    · rw [o x k (by unfold TAB at w; omega)]; exact N x k w
    · by_cases y : (x = 233 ∨ x = 235 ∨ x = 236 ∨ x = 237) ∧ k = 12 * c.toNat + l3.toNat
      · obtain ⟨y1, y2⟩ := y
        subst y2
        rcases y1 with y | y | y | y <;> subst y
        · rw [E32, up_n (by omega), E24, up_n (by omega), E16, up_n (by omega), E8, up_s]; exact e7
        · rw [E32, up_n (by omega), E24, up_n (by omega), E16, up_s]; exact e15
        · rw [E32, up_n (by omega), E24, up_s]; exact e23
        · rw [E32, up_s]; exact e31
      · rw [o x k y]
        exact A x k w (by unfold TAB at w; omega)
theorem ag_2 (hn : 1000000 ≤ nn) (hc : 0 ≤ c ∧ c ≤ 7) (Vt : VS_ t) {f : ms_M} (T : TBk f t c) : ∀ (k : Nat) (l2 : Int) (g : ms_M), VS_ g → (∀ x k : Nat, ¬ (x = 228 ∧ 256 * c ≤ (k : Int) ∧ (k : Int) < 256 * c + 256) → g x k = f x k) → (∀ k : Nat, 256 * c ≤ (k : Int) → (k : Int) < 256 * c + l2 → g 228 k = t 228 k) → (0 ≤ l2 ∧ l2 ≤ 256) → 256 - l2 < (k : Int) → Ok_ (qw_X13_again_2 nn k c l2 g) (fun r => VS_ r ∧ (∀ x k : Nat, ¬ TAB c x k → r x k = f x k) ∧ (∀ x k : Nat, TAB c x k → r x k = t x k)) := by
  intro k
  induction k with
  | zero => intro l2 g V N A a hm; exfalso; omega
  | succ k ih =>
    intro l2 g V N A a hm
    have n239 : ∀ j : Nat, g 239 j = f 239 j := fun j => N 239 j (by omega)
    unfold qw_X13_again_2
    refine ok_if (fun C => ?_) (fun C => ?_)
    · obtain ⟨q1, q2, q3, q4, q5⟩ := T.2.1
      have r1 := gA_229 Vt c.toNat (by omega)
      have r2 := gA_230 Vt c.toNat (by omega)
      have r3 := gA_231 Vt c.toNat (by omega)
      have r4 := gA_232 Vt c.toNat (by omega)
      have r5 := gA_234 Vt c.toNat (by omega)
      refine ok_rd (by omega) (gA_239 V) ?_; intro v37 e37 _ _
      rw [n239, show (256 : Int).toNat = 256 from rfl, q1] at e37
      refine ok_wA (by omega) ?_; intro h38 E38
      have V38 : VS_ h38 := by rw [E38]; exact wA_229 V (by omega)
      refine ok_add (by omega) ?_; intro v41 e41
      refine ok_rd (by omega) (gA_239 V38) ?_; intro v42 e42 _ _
      rw [E38, up_n (by omega), n239, show v41.toNat = 257 by omega, q2] at e42
      refine ok_wA (by omega) ?_; intro h43 E43
      have V43 : VS_ h43 := by rw [E43]; exact wA_230 V38 (by omega)
      refine ok_add (by omega) ?_; intro v46 e46
      refine ok_rd (by omega) (gA_239 V43) ?_; intro v47 e47 _ _
      rw [E43, up_n (by omega), E38, up_n (by omega), n239, show v46.toNat = 258 by omega, q3] at e47
      refine ok_wA (by omega) ?_; intro h48 E48
      have V48 : VS_ h48 := by rw [E48]; exact wA_231 V43 (by omega)
      refine ok_add (by omega) ?_; intro v51 e51
      refine ok_rd (by omega) (gA_239 V48) ?_; intro v52 e52 _ _
      rw [E48, up_n (by omega), E43, up_n (by omega), E38, up_n (by omega), n239, show v51.toNat = 259 by omega, q4] at e52
      refine ok_wA (by omega) ?_; intro h53 E53
      have V53 : VS_ h53 := by rw [E53]; exact wA_232 V48 (by omega)
      refine ok_add (by omega) ?_; intro v56 e56
      refine ok_rd (by omega) (gA_239 V53) ?_; intro v57 e57 _ _
      rw [E53, up_n (by omega), E48, up_n (by omega), E43, up_n (by omega), E38, up_n (by omega), n239, show v56.toNat = 260 by omega, q5] at e57
      refine ok_wA (by omega) ?_; intro h58 E58
      have V58 : VS_ h58 := by rw [E58]; exact wA_234 V53 (by omega)
      have o : ∀ x k : Nat, ¬ ((x = 229 ∨ x = 230 ∨ x = 231 ∨ x = 232 ∨ x = 234) ∧ k = c.toNat) → h58 x k = g x k := fun x k w => by rw [E58, up_n (by omega), E53, up_n (by omega), E48, up_n (by omega), E43, up_n (by omega), E38, up_n (by omega)]
      refine ag_107 hc Vt T nn 0 h58 V58 (fun x k w => ?_) (fun x k w w2 => ?_) (by omega) (by omega)
      · rw [o x k (by unfold TAB at w; omega)]
        exact N x k (by unfold TAB at w; omega)
      · by_cases y : (x = 229 ∨ x = 230 ∨ x = 231 ∨ x = 232 ∨ x = 234) ∧ k = c.toNat
        · obtain ⟨y1, y2⟩ := y
          subst y2
          rcases y1 with y | y | y | y | y <;> subst y
          · rw [E58, up_n (by omega), E53, up_n (by omega), E48, up_n (by omega), E43, up_n (by omega), E38, up_s]; exact e37
          · rw [E58, up_n (by omega), E53, up_n (by omega), E48, up_n (by omega), E43, up_s]; exact e42
          · rw [E58, up_n (by omega), E53, up_n (by omega), E48, up_s]; exact e47
          · rw [E58, up_n (by omega), E53, up_s]; exact e52
          · rw [E58, up_s]; exact e57
        · rw [o x k y]
          have hx : x = 228 := by unfold TAB at w; omega
          subst hx
          exact A k (by unfold TAB at w; omega) (by unfold TAB at w; omega)
    · have q := T.1 l2.toNat (by omega)
      have rg := gA_228 Vt (256 * c.toNat + l2.toNat) (by omega)
      refine ok_mul (by omega) ?_; intro v60 e60
      refine ok_add (by omega) ?_; intro v61 e61
      refine ok_rd (by omega) (gA_239 V) ?_; intro v63 e63 _ _
      rw [n239, q] at e63
      refine ok_wA (by omega) ?_; intro h64 E64
      refine ok_add (by omega) ?_; intro v65 e65
      refine ih v65 h64 (by rw [E64]; exact wA_228 V (by omega)) (fun x k w => by rw [E64, up_n (by omega)]; exact N x k w) (fun k h1 h2 => ?_) (by omega) (by omega)
      by_cases y : k = v61.toNat
      · rw [E64, y, up_s, e63, show v61.toNat = 256 * c.toNat + l2.toNat by omega]
      · rw [E64, up_n (by omega)]; exact A k h1 (by omega)
/-- what was put aside is put back -/
theorem ag_again (hn : 1000000 ≤ nn) (hc : 0 ≤ c ∧ c ≤ 7) (V : VS_ h) (Vt : VS_ t) (T : TBk h t c) : Ok_ (qf_X13_again nn c h) (fun r => VS_ r ∧ (∀ x k : Nat, ¬ TAB c x k → r x k = h x k) ∧ (∀ x k : Nat, TAB c x k → r x k = t x k)) := by
  unfold qf_X13_again
  exact ag_2 hn hc Vt T nn 0 h V (fun _ _ _ => rfl) (fun k h1 h2 => by exfalso; omega) (by omega) (by omega)
end
end
section
section
variable {nn : Nat} {h g r z t : ms_M} {c : Int}
/-- what loading may move of the fields -/
def LF (k : Nat) : Prop := k = 1 ∨ k = 98 ∨ k = 99 ∨ k = 113 ∨ k = 114 ∨ k = 115 ∨ k = 138
/-- what loading leaves -/
def NL (h r : ms_M) : Prop := ∀ x k : Nat, (x < 226 ∨ 240 ≤ x) → ¬ (x = 160 ∧ LF k) → r x k = h x k
theorem nl_rf : NL h h := fun _ _ _ _ => rfl
theorem nl_tr (a : NL h z) (b : NL z r) : NL h r := fun x k w1 w2 => (b x k w1 w2).trans (a x k w1 w2)
theorem nl_nta (a : NTa c h r) : NL h r := fun x k w1 w2 => a x k (fun w => w2 ⟨w.1, by unfold LF; omega⟩) (by omega) (by omega) (by omega)
theorem nl_n9 (a : N9 h r) : NL h r := fun x k w1 _ => a x k (by omega)
theorem nl_qi (a : QI8 c h r) : NL h r := fun x k w1 _ => a.2.1 x k (by omega) (by omega)
theorem nl_ag (a : ∀ x k : Nat, ¬ TAB c x k → r x k = h x k) : NL h r := fun x k w1 _ => a x k (by unfold TAB; omega)
theorem nl_f {v : Int} {j : Nat} (w : LF j) : NL h (up_M h 160 j v) := fun x k _ w2 => by rw [up_n (fun y => w2 ⟨y.1, by rw [y.2]; exact w⟩)]
/-- all but image c -/
def AW (c : Int) (h r : ms_M) : Prop := ∀ x k : Nat, x ≠ 160 → x ≠ 238 → x ≠ 239 → ¬ TAB c x k → ¬ (x = 226 ∧ 6000 * c ≤ (k : Int) ∧ (k : Int) < 6000 * c + 6000) → ¬ (x = 227 ∧ (k : Int) = c) → r x k = h x k
theorem aw_rf : AW c h h := fun _ _ _ _ _ _ _ _ => rfl
theorem aw_tr (a : AW c h z) (b : AW c z r) : AW c h r := fun x k w1 w2 w3 w4 w5 w6 => (b x k w1 w2 w3 w4 w5 w6).trans (a x k w1 w2 w3 w4 w5 w6)
theorem aw_nta (a : NTa c h r) : AW c h r := fun x k w1 w2 w3 w4 _ _ => by unfold TAB at w4; exact a x k (by omega) (by omega) (by omega) (by omega)
theorem aw_n9 (a : N9 h r) : AW c h r := fun x k _ _ w3 _ _ _ => a x k w3
theorem aw_qi (a : QI8 c h r) : AW c h r := fun x k _ _ _ _ w5 w6 => a.2.1 x k w5 w6
theorem aw_ag (a : ∀ x k : Nat, ¬ TAB c x k → r x k = h x k) : AW c h r := fun x k _ _ _ w4 _ _ => a x k w4
theorem aw_f {v : Int} {j : Nat} : AW c h (up_M h 160 j v) := fun x k w1 _ _ _ _ _ => by rw [up_n (fun y => w1 y.1)]
theorem aw_b {v : Int} {j : Nat} : AW c h (up_M h 238 j v) := fun x k _ w2 _ _ _ _ => by rw [up_n (fun y => w2 y.1)]
theorem img_o {d : Int} (hc : 0 ≤ c ∧ c ≤ 7) (hd : 0 ≤ d ∧ d ≤ 7) (n : d ≠ c) (V : VS_ h) (A : AW c h r) (I : IMG h d) : IMG r d := by
  have A' : ∀ x k : Nat, x ≠ 160 → x ≠ 238 → x ≠ 239 → ¬ TAB c x k → ¬ (x = 226 ∧ 6000 * c ≤ (k : Int) ∧ (k : Int) < 6000 * c + 6000) → ¬ (x = 227 ∧ (k : Int) = c) → r x k = h x k := A
  unfold TAB at A'
  exact img_eq hd I (fun i hi => A' _ _ (by decide) (by decide) (by decide) (by omega) (by omega) (by omega)) V (A' _ _ (by decide) (by decide) (by decide) (by omega) (by omega) (by omega)) (fun i _ _ => A' _ _ (by decide) (by decide) (by decide) (by omega) (by omega) (by omega)) (A' _ _ (by decide) (by decide) (by decide) (by omega) (by omega) (by omega)) (A' _ _ (by decide) (by decide) (by decide) (by omega) (by omega) (by omega)) (A' _ _ (by decide) (by decide) (by decide) (by omega) (by omega) (by omega))
/-- the space stays where its rows stay -/
def SW (h r : ms_M) : Prop := ∀ x k : Nat, x ≠ 160 → x ≠ 238 → x ≠ 239 → r x k = h x k
theorem img_s {d : Int} (hd : 0 ≤ d ∧ d ≤ 7) (V : VS_ h) (A : SW h r) (I : IMG h d) : IMG r d :=
  img_eq hd I (fun i hi => A _ _ (by decide) (by decide) (by decide)) V (A _ _ (by decide) (by decide) (by decide)) (fun i _ _ => A _ _ (by decide) (by decide) (by decide)) (A _ _ (by decide) (by decide) (by decide)) (A _ _ (by decide) (by decide) (by decide)) (A _ _ (by decide) (by decide) (by decide))
theorem spc_s (V : VS_ h) (A : SW h r) (e : r 160 98 = h 160 98) (I : SPC h) : SPC r := fun d a b => by
  have := gF_160_98 V
  exact img_s (by omega) V A (I d a (by omega))
/-- the name of what was read -/
theorem im8_name (hc : 0 ≤ c ∧ c ≤ 7) (V : VS_ r) (I : IM8 r c) : (1 ≤ r 230 c.toNat ∧ r 230 c.toNat ≤ 255) ∧ (3 ≤ pl r c (r 230 c.toNat) ∧ pl r c (r 230 c.toNat) + 2 ≤ r 160 113) ∧ (1 ≤ r 238 (pl r c (r 230 c.toNat) + 1).toNat ∧ r 238 (pl r c (r 230 c.toNat) + 1).toNat ≤ 255) ∧ (3 ≤ pl r c (r 238 (pl r c (r 230 c.toNat) + 1).toNat)) ∧ (1 ≤ r 238 (pl r c (r 238 (pl r c (r 230 c.toNat) + 1).toNat) + 1).toNat ∧ r 238 (pl r c (r 238 (pl r c (r 230 c.toNat) + 1).toNat) + 1).toNat ≤ 120) ∧ pl r c (r 238 (pl r c (r 230 c.toNat) + 1).toNat) + 2 + r 238 (pl r c (r 238 (pl r c (r 230 c.toNat) + 1).toNat) + 1).toNat ≤ r 160 113 := by
  obtain ⟨⟨_, s2, s3⟩, ⟨i1, i2⟩, _⟩ := I
  have g9 := gA_229 V c.toNat (by omega)
  obtain ⟨p0, p1⟩ := s2 _ i1.1 i1.2
  obtain ⟨j1, j2⟩ := (s3 _ i1.1 i1.2).1 i2
  obtain ⟨q0, q1⟩ := s2 _ j1.1 j1.2
  refine ⟨by omega, ⟨p0, by rcases p1 with x | x | x | x <;> omega⟩, by omega, q0, ?_⟩
  rcases q1 with x | x | x | x
  · exact ⟨x.2.1, x.2.2⟩
  · exfalso; omega
  · exfalso; omega
  · exfalso; omega
/-- what loading leaves behind -/
def QL (h : ms_M) (u : Int × ms_M) : Prop := VS_ u.2 ∧ SPC u.2 ∧ NL h u.2
theorem ld_loaded (hn : 1000000 ≤ nn) (V : VS_ h) (S : SPC h) : Ok_ (qf_X13_loaded nn h) (QL h) := by
  have g98 := gF_160_98 V
  unfold qf_X13_loaded
  refine ok_if (fun C => ?_) (fun C => ?_)
  · refine ok_sv (sq_scan hn (by omega) V) ?_; intro u4 Q
    obtain ⟨V4, N4, I4⟩ := Q
    have e98 : u4 160 98 = h 160 98 := N4 160 98 (by omega) (by omega) (by omega) (by omega)
    have S4 : SPC u4 := fun d a b => img_o (c := h 160 98) (by omega) (by omega) (by omega) V (aw_nta N4) (S d a (by omega))
    have L4 : NL h u4 := nl_nta N4
    have g114 := gF_160_114 V4
    refine ok_if (fun D => ?_) (fun _ => ?_)
    · have I := I4 D
      have g113 := gF_160_113 V4
      rw [← e98] at I
      have hc : 0 ≤ u4 160 98 ∧ u4 160 98 ≤ 7 := by omega
      generalize hcc : u4 160 98 = c at *
      obtain ⟨a1, a2, a3, a4, a5, a6⟩ := im8_name hc V4 I
      refine ok_mul (by omega) ?_; intro v8 e8
      refine ok_mul (by omega) ?_; intro v12 e12
      refine ok_rd (by omega) (gA_230 V4) ?_; intro v15 e15 _ _
      rw [← e15] at a1 a2 a3 a4 a5 a6
      refine ok_add (by omega) ?_; intro v16 e16
      refine ok_rd (by omega) (gA_228 V4) ?_; intro v17 e17 _ _
      have w17 : pl u4 c v15 = v17 := by rw [e17, e16, e12]; rfl
      rw [w17] at a2 a3 a4 a5 a6
      refine ok_add (by omega) ?_; intro v18 e18
      refine ok_rd (by omega) (gA_238 V4) ?_; intro v19 e19 _ _
      rw [← e18, ← e19] at a3 a4 a5 a6
      refine ok_add (by omega) ?_; intro v20 e20
      refine ok_rd (by omega) (gA_228 V4) ?_; intro v21 e21 _ _
      have w21 : pl u4 c v19 = v21 := by rw [e21, e20, e8]; rfl
      rw [w21] at a4 a5 a6
      refine ok_add (by omega) ?_; intro v23 e23
      refine ok_add (by omega) ?_; intro v25 e25
      refine ok_rd (by omega) (gA_238 V4) ?_; intro v26 e26 _ _
      rw [← e25, ← e26] at a5 a6
      refine ok_sv (nm_class hn (.inl ⟨rfl, rfl⟩) V4 (by omega) (by omega) S4) ?_; intro u28 _
      refine ok_if (fun _ => ?_) (fun _ => ?_)
      · refine ok_sv (nm_install hn hc V4) ?_; intro u31 Q
        obtain ⟨QI, _⟩ := Q
        have V31 := QI.1
        have n98 : u31.2 160 98 = c := by rw [QI.2.1 160 98 (by omega) (by omega)]; exact hcc
        refine ok_add (by omega) ?_; intro v33 e33
        refine ok_xl ?_; intro h34 E34
        refine ok_xl ?_; intro h35 E35
        refine ok_xl ?_; intro h36 E36
        have V34 : VS_ h34 := by rw [E34]; exact wF_160_98 V31 (by omega)
        have V35 : VS_ h35 := by rw [E35]; exact wF_160_99 V34 (by omega)
        have V36 : VS_ h36 := by rw [E36]; exact wF_160_138 V35 (by omega)
        have W : SW u31.2 h36 := fun x k a _ _ => by rw [E36, up_n (fun y => a y.1), E35, up_n (fun y => a y.1), E34, up_n (fun y => a y.1)]
        have f98 : h36 160 98 = c + 1 := by rw [E36, up_n (by omega), E35, up_n (by omega), E34, up_s]; omega
        refine ok_ret ⟨V36, fun d a b => ?_, ?_⟩
        · have b : d < c + 1 := by rw [← f98]; exact b
          refine img_s (by omega) V31 W ?_
          by_cases y : d = c
          · rw [y]; exact img_new hc V4 I QI
          · exact img_o hc (by omega) y V4 (aw_qi QI) (S4 d a (by omega))
        · show NL h h36
          refine nl_tr L4 (nl_tr (nl_qi QI) ?_)
          rw [E36, E35, E34]
          exact nl_tr (nl_f (by unfold LF; omega)) (nl_tr (nl_f (by unfold LF; omega)) (nl_f (by unfold LF; omega)))
      · unfold qj_X13_loaded_138
        exact ok_ret ⟨V4, S4, L4⟩
    · refine ok_sub (by omega) ?_; intro v39 _
      exact ok_ret ⟨V4, S4, L4⟩
  · refine ok_sv (as_aside hn (by omega) V) ?_; intro u42 Q
    obtain ⟨V42, N42, T42⟩ := Q
    refine ok_sv (sq_scan hn (by omega) V42) ?_; intro u44 Q
    obtain ⟨V44, N44, _⟩ := Q
    have T44 : TBk u44 h 7 := by
      have e : ∀ k : Nat, u44 239 k = u42 239 k := fun k => N44 239 k (by omega) (by omega) (by omega) (by omega)
      refine ⟨fun i hi => by rw [e]; exact T42.1 i hi, ?_, fun j hj => by rw [e, e, e, e]; exact T42.2.2 j hj⟩
      unfold TB2
      rw [e, e, e, e, e]; exact T42.2.1
    refine ok_sv (ag_again hn (by omega) V44 V T44) ?_; intro u47 Q
    obtain ⟨V47, A, B⟩ := Q
    have W : SW h u47 := fun x k w1 w2 w3 => by
      by_cases y : TAB 7 x k
      · exact B x k y
      · rw [A x k y, N44 x k (by omega) (fun z => y (.inl z)) (fun z => y (.inr (.inl z))) (fun z => y (.inr (.inr z)))]
        exact N42 x k w3
    have e98 : u47 160 98 = h 160 98 := by
      rw [A 160 98 (by unfold TAB; omega), N44 160 98 (by omega) (by omega) (by omega) (by omega)]
      exact N42 160 98 (by decide)
    have P : ∀ v : Int, QL h (v, u47) := fun v => ⟨V47, spc_s V W e98 S, nl_tr (nl_n9 N42) (nl_tr (nl_nta N44) (nl_ag A))⟩
    have g114 := gF_160_114 V44
    refine ok_if (fun _ => ok_ret (P _)) (fun _ => ?_)
    refine ok_sub (by omega) ?_; intro v48 _
    exact ok_ret (P _)
/-- what copying to what is read leaves -/
def NC (h r : ms_M) : Prop := ∀ x k : Nat, x ≠ 238 → ¬ (x = 160 ∧ k = 113) → r x k = h x k
theorem nc_spc (V : VS_ h) (N : NC h r) (S : SPC h) : SPC r := spc_s V (fun x k a b _ => N x k b (fun y => a y.1)) (N 160 98 (by decide) (by decide)) S
theorem nc_nl (N : NC h r) : NL h r := fun x k w1 w2 => N x k (by omega) (fun y => w2 ⟨y.1, by unfold LF; omega⟩)
theorem ld_load (hn : 1000000 ≤ nn) (V : VS_ h) (S : SPC h) : Ok_ (qf_X13_load nn h) (QL h) := by
  have g1 := gF_160_1 V
  have L : ∀ (k : Nat) (l : Int) (g : ms_M), VS_ g → NC h g → (0 ≤ l ∧ l ≤ h 160 1) → h 160 1 - l < (k : Int) → Ok_ (qw_X13_load_10 nn k l g) (QL h) := by
    intro k
    induction k with
    | zero => intro l g V N a hm; exfalso; omega
    | succ k ih =>
      intro l g V' N a hm
      have e1 : g 160 1 = h 160 1 := N 160 1 (by decide) (by decide)
      unfold qw_X13_load_10
      refine ok_if (fun C => ?_) (fun C => ?_)
      · refine ok_xl ?_; intro h2 E2
        have V2 : VS_ h2 := by rw [E2]; exact wF_160_1 V' (by omega)
        have S2 : SPC h2 := spc_s V' (fun x k a _ _ => by rw [E2, up_n (fun y => a y.1)]) (by rw [E2, up_n (by omega)]) (nc_spc V N S)
        refine ok_sv (ld_loaded hn V2 S2) ?_; intro u4 Q
        refine ok_ret ⟨Q.1, Q.2.1, nl_tr (nc_nl N) (nl_tr ?_ Q.2.2)⟩
        rw [E2]; exact nl_f (by unfold LF; omega)
      · refine ok_rd (by omega) (gA_161 V') ?_; intro v7 e7 _ _
        refine ok_wA (by omega) ?_; intro h8 E8
        refine ok_add (by omega) ?_; intro v9 e9
        exact ih v9 h8 (by rw [E8]; exact wA_238 V' (by omega)) (fun x k a b => by rw [E8, up_n (fun y => a y.1)]; exact N x k a b) (by omega) (by omega)
  unfold qf_X13_load
  refine ok_xl ?_; intro h12 E12
  exact L nn 0 h12 (by rw [E12]; exact wF_160_113 V (by omega)) (fun x k a b => by rw [E12, up_n b]) (by omega) (by omega)
theorem ld_keep (hn : 1000000 ≤ nn) (V : VS_ h) (S : SPC h) {a : Int} : Ok_ (qf_X13_keep nn a h) (QL h) := by
  have g93 := gF_160_93 V
  unfold qf_X13_keep
  refine ok_if (fun _ => ok_ret ⟨V, S, nl_rf⟩) (fun C => ?_)
  refine ok_if (fun D => ?_) (fun _ => ok_ret ⟨V, S, nl_rf⟩)
  refine ok_rd (by omega) (gA_222 V) ?_; intro v14 e14 a14 b14
  refine ok_xl ?_; intro h15 E15
  have L : ∀ (k : Nat) (l : Int) (g : ms_M), VS_ g → NC h g → g 160 113 = v14 → (0 ≤ l ∧ l ≤ v14) → v14 - l < (k : Int) → Ok_ (qw_X13_keep_26 nn k a l g) (QL h) := by
    intro k
    induction k with
    | zero => intro l g V N e a hm; exfalso; omega
    | succ k ih =>
      intro l g V' N e b hm
      unfold qw_X13_keep_26
      refine ok_if (fun C => ?_) (fun C => ?_)
      · refine ok_sv (ld_loaded hn V' (nc_spc V N S)) ?_; intro u4 Q
        exact ok_ret ⟨Q.1, Q.2.1, nl_tr (nc_nl N) Q.2.2⟩
      · refine ok_mul (by omega) ?_; intro v6 e6
        refine ok_add (by omega) ?_; intro v7 e7
        refine ok_rd (by omega) (gA_221 V') ?_; intro v8 e8 _ _
        refine ok_wA (by omega) ?_; intro h9 E9
        refine ok_add (by omega) ?_; intro v10 e10
        exact ih v10 h9 (by rw [E9]; exact wA_238 V' (by omega)) (fun x k a b => by rw [E9, up_n (fun y => a y.1)]; exact N x k a b) (by rw [E9, up_n (by omega)]; exact e) (by omega) (by omega)
  exact L nn 0 h15 (by rw [E15]; exact wF_160_113 V (by omega)) (fun x k a b => by rw [E15, up_n b]) (by rw [E15, up_s]) (by omega) (by omega)
end
end
section
section
variable {nn : Nat} {h g r z t : ms_M} {c : Int}
/-- image c was read again, its rows lie aside -/
def PA8 (h g : ms_M) (c : Int) : Prop := VS_ h ∧ SPC h ∧ VS_ g ∧ (∀ x k : Nat, x ≠ 160 → x ≠ 238 → x ≠ 239 → ¬ TAB c x k → g x k = h x k) ∧ TBk g h c ∧ NL h g ∧ g 160 98 = h 160 98 ∧ (0 ≤ c ∧ c < h 160 98)
theorem PA8.v (P : PA8 h g c) : VS_ h := P.1
theorem PA8.s (P : PA8 h g c) : SPC h := P.2.1
theorem PA8.w (P : PA8 h g c) : VS_ g := P.2.2.1
theorem PA8.e (P : PA8 h g c) : ∀ x k : Nat, x ≠ 160 → x ≠ 238 → x ≠ 239 → ¬ TAB c x k → g x k = h x k := P.2.2.2.1
theorem PA8.tb (P : PA8 h g c) : TBk g h c := P.2.2.2.2.1
theorem PA8.n (P : PA8 h g c) : NL h g := P.2.2.2.2.2.1
theorem PA8.f (P : PA8 h g c) : g 160 98 = h 160 98 := P.2.2.2.2.2.2.1
theorem PA8.c0 (P : PA8 h g c) : 0 ≤ c ∧ c < h 160 98 := P.2.2.2.2.2.2.2
theorem pa_aw (P : PA8 h g c) : AW c h g := fun x k w1 w2 w3 w4 _ _ => P.e x k w1 w2 w3 w4
theorem pa_235 (hn : 1000000 ≤ nn) (P : PA8 h g c) {l : Int} (I : l ≠ 0 → IM8 g c) : Ok_ (qj_X13_patch_235 nn c l g) (QL h) := by
  have g98 := gF_160_98 P.v
  have c0 := P.c0
  unfold qj_X13_patch_235
  refine ok_if (fun C => ?_) (fun C => ?_)
  · refine ok_sv (nm_install hn (by omega) P.w) ?_; intro u2 Q
    obtain ⟨QI, _⟩ := Q
    have V2 := QI.1
    refine ok_xl ?_; intro h3 E3
    refine ok_xl ?_; intro h4 E4
    have V3 : VS_ h3 := by rw [E3]; exact wF_160_99 V2 (by omega)
    have V4 : VS_ h4 := by rw [E4]; exact wF_160_138 V3 (by omega)
    have W : SW u2.2 h4 := fun x k a _ _ => by rw [E4, up_n (fun y => a y.1), E3, up_n (fun y => a y.1)]
    have f98 : h4 160 98 = h 160 98 := by rw [E4, up_n (by omega), E3, up_n (by omega), QI.2.1 160 98 (by omega) (by omega)]; exact P.f
    refine ok_ret ⟨V4, fun d a b => ?_, ?_⟩
    · have b : d < h 160 98 := by rw [← f98]; exact b
      refine img_s (by omega) V2 W ?_
      by_cases y : d = c
      · rw [y]; exact img_new (by omega) P.w (I C) QI
      · exact img_o (by omega) (by omega) y P.v (aw_tr (pa_aw P) (aw_qi QI)) (P.s d a b)
    · show NL h h4
      refine nl_tr P.n (nl_tr (nl_qi QI) ?_)
      rw [E4, E3]
      exact nl_tr (nl_f (by unfold LF; omega)) (nl_f (by unfold LF; omega))
  · refine ok_sv (ag_again hn (by omega) P.w P.v P.tb) ?_; intro u6 Q
    obtain ⟨V6, A, B⟩ := Q
    have W : SW h u6 := fun x k w1 w2 w3 => by
      by_cases y : TAB c x k
      · exact B x k y
      · rw [A x k y]; exact P.e x k w1 w2 w3 y
    have f98 : u6 160 98 = h 160 98 := by
      rw [A 160 98 (by unfold TAB; omega)]; exact P.f
    exact ok_ret ⟨V6, spc_s P.v W f98 P.s, nl_tr P.n (nl_ag A)⟩
theorem pa_173 (hn : 1000000 ≤ nn) (P : PA8 h g c) (I : IM8 g c) {l6 : Int} (r6 : 3 ≤ l6 ∧ l6 + 2 ≤ 6000 ∧ l6 + 2 + g 238 (l6 + 1).toNat ≤ 6000) : ∀ (k : Nat) (l5 l7 : Int), (0 ≤ l7 ∧ l7 ≤ 16) → 17 - l7 < (k : Int) → Ok_ (qw_X13_patch_173 nn k (8 + c) c l5 l6 l7 g) (QL h) := by
  have g98 := gF_160_98 P.v
  have c0 := P.c0
  have f := P.f
  intro k
  induction k with
  | zero => intro l5 l7 a hm; exfalso; omega
  | succ k ih =>
    intro l5 l7 a hm
    have J : (0 ≤ l7 ∧ l7 < 16) → Ok_ (qj_X13_patch_222 nn (qw_X13_patch_173 nn k) (8 + c) c l6 l7 g) (QL h) := fun a => by
      unfold qj_X13_patch_222
      refine ok_add (by omega) ?_; intro v8 e8
      exact ih 1 v8 (by omega) (by omega)
    unfold qw_X13_patch_173
    refine ok_add (by omega) ?_; intro v10 e10
    refine ok_if (fun _ => pa_235 hn P (fun _ => I)) (fun C => ?_)
    refine ok_if (fun _ => pa_235 hn P (fun _ => I)) (fun D => ?_)
    refine ok_if (fun _ => J (by omega)) (fun E => ?_)
    have w := P.w
    refine ok_add (by omega) ?_; intro v12 e12
    refine ok_add (by omega) ?_; intro v14 e14
    have gl := gA_238 w (l6 + 1).toNat
    refine ok_rd (by omega) (gA_238 w) ?_; intro v15 e15 _ _
    rw [e14] at e15
    refine ok_sv (nm_is hn (.inl ⟨rfl, rfl⟩) w (by omega) (by omega) (by omega) (fun y => img_o (c := c) (by omega) (by omega) (by omega) P.v (pa_aw P) (P.s (l7 - 8) (by omega) (by omega)))) ?_; intro u17 _
    refine ok_if (fun _ => ?_) (fun _ => J (by omega))
    refine ok_add (by omega) ?_; intro v18 e18
    exact ih 0 v18 (by omega) (by omega)
theorem pa_123 (hn : 1000000 ≤ nn) (P : PA8 h g c) {s : Int} (I : s ≠ 0 → IM8 g c) : Ok_ (qj_X13_patch_123 nn (8 + c) c s g) (QL h) := by
  have g98 := gF_160_98 P.v
  have c0 := P.c0
  unfold qj_X13_patch_123
  refine ok_if (fun C => pa_235 hn P I) (fun C => ?_)
  have I := I C
  have hc : 0 ≤ c ∧ c ≤ 7 := by omega
  have V4 := P.w
  have g113 := gF_160_113 V4
  obtain ⟨a1, a2, a3, a4, a5, a6⟩ := im8_name hc V4 I
  refine ok_mul (by omega) ?_; intro v24 e24
  refine ok_mul (by omega) ?_; intro v27 e27
  refine ok_rd (by omega) (gA_230 V4) ?_; intro v29 e29 _ _
  rw [← e29] at a1 a2 a3 a4 a5 a6
  refine ok_add (by omega) ?_; intro v30 e30
  refine ok_rd (by omega) (gA_228 V4) ?_; intro v31 e31 _ _
  have w31 : pl g c v29 = v31 := by rw [e31, e30, e27]; rfl
  rw [w31] at a2 a3 a4 a5 a6
  refine ok_add (by omega) ?_; intro v32 e32
  refine ok_rd (by omega) (gA_238 V4) ?_; intro v33 e33 _ _
  rw [← e32, ← e33] at a3 a4 a5 a6
  refine ok_add (by omega) ?_; intro v34 e34
  refine ok_rd (by omega) (gA_228 V4) ?_; intro v35 e35 _ _
  have w35 : pl g c v33 = v35 := by rw [e35, e34, e24]; rfl
  rw [w35] at a4 a5 a6
  exact pa_173 hn P I (by omega) nn s 0 (by omega) (by omega)
theorem ld_patch (hn : 1000000 ≤ nn) (V : VS_ h) (S : SPC h) {a b d : Int} (ra : -2147483648 ≤ a - 8 ∧ a ≤ 2147483647) : Ok_ (qf_X13_patch nn a b d h) (QL h) := by
  have g98 := gF_160_98 V
  unfold qf_X13_patch
  refine ok_sub (by omega) ?_; intro v55 e55
  refine ok_if (fun _ => ok_ret ⟨V, S, nl_rf⟩) (fun C => ?_)
  refine ok_if (fun _ => ok_ret ⟨V, S, nl_rf⟩) (fun D => ?_)
  refine ok_if (fun _ => ok_ret ⟨V, S, nl_rf⟩) (fun E => ?_)
  refine ok_rd (by omega) (gA_227 V) ?_; intro v58 e58 a58 b58
  refine ok_if (fun F => ?_) (fun _ => ok_ret ⟨V, S, nl_rf⟩)
  refine ok_rd (by omega) (gA_227 V) ?_; intro v60 e60 a60 b60
  refine ok_xl ?_; intro h61 E61
  obtain rfl : a = 8 + v55 := by omega
  have L : ∀ (k : Nat) (l : Int) (g : ms_M), VS_ g → NC h g → g 160 113 = v60 → (0 ≤ l ∧ l ≤ v60) → v60 - l < (k : Int) → Ok_ (qw_X13_patch_51 nn k (8 + v55) b d v55 l g) (QL h) := by
    intro k
    induction k with
    | zero => intro l g V N e a hm; exfalso; omega
    | succ k ih =>
      intro l g V' N e a hm
      unfold qw_X13_patch_51
      refine ok_if (fun G => ?_) (fun G => ?_)
      · refine ok_and (by omega) ?_; intro v39 a39 b39
        refine ok_wA (by omega) ?_; intro h40 E40
        have V40 : VS_ h40 := by rw [E40]; exact wA_238 V' (by omega)
        have N40 : NC h h40 := fun x k a b => by rw [E40, up_n (fun y => a y.1)]; exact N x k a b
        refine ok_sv (as_aside hn (by omega) V40) ?_; intro u42 Q
        obtain ⟨V42, N42, T42⟩ := Q
        refine ok_sv (sq_scan hn (by omega) V42) ?_; intro u44 Q
        obtain ⟨V44, N44, I44⟩ := Q
        have e9 : ∀ k : Nat, u44 239 k = u42 239 k := fun k => N44 239 k (by omega) (by omega) (by omega) (by omega)
        have P : PA8 h u44 v55 := by
          refine ⟨V, S, V44, fun x k w1 w2 w3 w4 => ?_, ?_, nl_tr (nc_nl N40) (nl_tr (nl_n9 N42) (nl_nta N44)), ?_, by omega⟩
          · rw [N44 x k (by omega) (fun z => w4 (.inl z)) (fun z => w4 (.inr (.inl z))) (fun z => w4 (.inr (.inr z))), N42 x k w3]
            exact N40 x k w2 (by omega)
          · have o : ∀ x k : Nat, x ≠ 160 → x ≠ 238 → h40 x k = h x k := fun x k a b => N40 x k b (fun y => a y.1)
            refine ⟨fun i hi => ?_, ?_, fun j hj => ?_⟩
            · rw [e9, T42.1 i hi]; exact o _ _ (by decide) (by decide)
            · have T2 := T42.2.1
              unfold TB2 at T2 ⊢
              rw [e9, e9, e9, e9, e9, ← o 229 _ (by decide) (by decide), ← o 230 _ (by decide) (by decide), ← o 231 _ (by decide) (by decide), ← o 232 _ (by decide) (by decide), ← o 234 _ (by decide) (by decide)]
              exact T2
            · rw [e9, e9, e9, e9, ← o 233 _ (by decide) (by decide), ← o 235 _ (by decide) (by decide), ← o 236 _ (by decide) (by decide), ← o 237 _ (by decide) (by decide)]
              exact T42.2.2 j hj
          · rw [N44 160 98 (by omega) (by omega) (by omega) (by omega), N42 160 98 (by decide)]
            exact N40 160 98 (by decide) (by decide)
        refine ok_if (fun _ => pa_123 hn P (fun y => absurd rfl y)) (fun y => pa_123 hn P (fun _ => I44 (show u44 160 114 = -1 from Decidable.not_not.1 y)))
      · refine ok_mul (by omega) ?_; intro v49 e49
        refine ok_add (by omega) ?_; intro v50 e50
        refine ok_rd (by omega) (gA_226 V') ?_; intro v51 e51 _ _
        refine ok_wA (by omega) ?_; intro h52 E52
        refine ok_add (by omega) ?_; intro v53 e53
        exact ih v53 h52 (by rw [E52]; exact wA_238 V' (by omega)) (fun x k a b => by rw [E52, up_n (fun y => a y.1)]; exact N x k a b) (by rw [E52, up_n (by omega)]; exact e) (by omega) (by omega)
  exact L nn 0 h61 (by rw [E61]; exact wF_160_113 V (by omega)) (fun x k a b => by rw [E61, up_n b]) (by rw [E61, up_s]) (by omega) (by omega)
end
end
section
section
/-- n letters of a name from a on -/
def NMl (f : Nat → Int) (a n : Int) : Prop := ∀ i : Int, 0 ≤ i → i < n → qf_X13_isNamePart 0 (f (a + i).toNat) (if i = 0 then 1 else 0) (fun _ _ => 0) = some 1
/-- the name of a kind: from its L to behind its semicolon -/
def KN (f : Nat → Int) (p e : Int) : Prop := f p.toNat = 76 ∧ ((p + 3 ≤ e ∧ e ≤ p + 14) ∧ NMl f (p + 1) (e - p - 2)) ∧ f (e - 1).toNat = 59 ∧ ∀ i : Int, p < i → i < e - 1 → ¬ f i.toNat = 59
def KK (f : Nat → Int) (p e : Int) : Prop := (f p.toNat = 73 ∧ e = p + 1) ∨ KN f p e
/-- a kind from a to e -/
def KD (f : Nat → Int) (a e : Int) : Prop := (f a.toNat = 90 ∧ e = a + 1) ∨ (¬ f a.toNat = 91 ∧ KK f a e) ∨ (f a.toNat = 91 ∧ KK f (a + 1) e)
/-- k kinds one behind the other -/
def PRn (f : Nat → Int) : Nat → Int → Int → Prop
  | 0, p, q => p = q
  | k + 1, p, q => ∃ e : Int, KD f p e ∧ PRn f k e q
/-- what a method gives: V, or a kind -/
def RTk (f : Nat → Int) (p e : Int) : Prop := (f p.toNat = 86 ∧ e = p + 1) ∨ KD f p e
/-- a method's kind with m parameters -/
def MKn (f : Nat → Int) (m : Nat) (a e : Int) : Prop := f a.toNat = 40 ∧ ∃ q : Int, PRn f m (a + 1) q ∧ f q.toNat = 41 ∧ RTk f (q + 1) e
theorem kk_lt {f : Nat → Int} {p e : Int} (k : KK f p e) : p < e ∧ e ≤ p + 14 := by
  rcases k with k | k
  · omega
  · have := k.2.1; omega
theorem kd_lt {f : Nat → Int} {a e : Int} (k : KD f a e) : a < e ∧ e ≤ a + 15 := by
  rcases k with k | k | k
  · omega
  · have := kk_lt k.2; omega
  · have := kk_lt k.2; omega
theorem kd_no {f : Nat → Int} {a e : Int} (k : KD f a e) : ¬ f a.toNat = 41 := by
  rcases k with k | ⟨_, k⟩ | ⟨k, _⟩
  · omega
  · rcases k with k | k
    · omega
    · have := k.1; omega
  · omega
theorem pr_le {f : Nat → Int} : ∀ (k : Nat) (p q : Int), PRn f k p q → p + k ≤ q ∧ q ≤ p + 15 * k := by
  intro k
  induction k with
  | zero => intro p q y; have y : p = q := y; omega
  | succ k ih =>
    intro p q y
    obtain ⟨e, y1, y2⟩ := y
    have a := kd_lt y1
    have b := ih e q y2
    omega
variable {nn : Nat} {M : ms_M} {c : Nat} {n : Int}
theorem nm_part {a b : Int} : qf_X13_isNamePart nn a b M = qf_X13_isNamePart 0 a b (fun _ _ => 0) := rfl
theorem sk_name (hn : 1000000 ≤ nn) (R : RW_ c n) (V : VS_ M) {l1 l2 : Int} (r1 : 0 ≤ l1 ∧ l1 + l2 ≤ n) : Ok_ (qf_X13_isName nn c l1 l2 M) (fun u => (u = 0 ∨ u = 1) ∧ (¬ u = 0 → (1 ≤ l2 ∧ l2 ≤ 12) ∧ NMl (M c) l1 l2)) := by
  have hn' : n ≤ 48000 := by rcases R with ⟨_, e⟩ | ⟨_, e⟩ <;> omega
  have Z : ∀ k : Nat, 0 < k → Ok_ (qw_X13_isName_20 nn k c l1 l2 0 0 M) (fun u => (u = 0 ∨ u = 1) ∧ (¬ u = 0 → (1 ≤ l2 ∧ l2 ≤ 12) ∧ NMl (M c) l1 l2)) := fun k hk => by
    cases k with
    | zero => exact absurd hk (by decide)
    | succ k =>
      unfold qw_X13_isName_20
      exact ok_if (fun _ => ok_ck (.inl rfl) (ok_ret ⟨.inl rfl, fun y => absurd rfl y⟩)) (fun _ => ok_if (fun _ => ok_ck (.inl rfl) (ok_ret ⟨.inl rfl, fun y => absurd rfl y⟩)) (fun y => absurd rfl y))
  have J : Ok_ (qj_X13_isName_15 nn c l1 l2 M) (fun u => (u = 0 ∨ u = 1) ∧ (¬ u = 0 → (1 ≤ l2 ∧ l2 ≤ 12) ∧ NMl (M c) l1 l2)) := by
    unfold qj_X13_isName_15
    exact Z nn (by omega)
  unfold qf_X13_isName
  refine ok_if (fun _ => J) (fun C => ?_)
  refine ok_if (fun _ => J) (fun D => ?_)
  have L : ∀ (k : Nat) (l3 l4 : Int), (l3 = 0 ∨ l3 = 1) → (0 ≤ l4 ∧ l4 ≤ l2) → l2 - l4 < (k : Int) → Ok_ (qw_X13_isName_20 nn k c l1 l2 l3 l4 M) (fun u => (u = 0 ∨ u = 1) ∧ (¬ u = 0 → ¬ l3 = 0 ∧ ∀ i : Int, l4 ≤ i → i < l2 → qf_X13_isNamePart 0 (M c (l1 + i).toNat) (if i = 0 then 1 else 0) (fun _ _ => 0) = some 1)) := by
    intro k
    induction k with
    | zero => intro l3 l4 a b hm; exfalso; omega
    | succ k ih =>
      intro l3 l4 a b hm
      unfold qw_X13_isName_20
      refine ok_if (fun C => ok_ck a (ok_ret ⟨a, fun y => ⟨y, fun i i1 i2 => by exfalso; omega⟩⟩)) (fun C => ?_)
      refine ok_if (fun C2 => ok_ck a (ok_ret ⟨a, fun y => absurd C2 y⟩)) (fun C2 => ?_)
      refine ok_add (by omega) ?_; intro v5 e5
      refine ok_rS R V (by omega) ?_; intro v6 e6 a6 b6
      have J : ∀ s0 : Int, s0 = (if l4 = 0 then 1 else 0) → Ok_ (qj_X13_isName_46 nn (qw_X13_isName_20 nn k) c l1 l2 l4 s0 v6 M) (fun u => (u = 0 ∨ u = 1) ∧ (¬ u = 0 → ¬ l3 = 0 ∧ ∀ i : Int, l4 ≤ i → i < l2 → qf_X13_isNamePart 0 (M c (l1 + i).toNat) (if i = 0 then 1 else 0) (fun _ _ => 0) = some 1)) := fun s0 es => by
        unfold qj_X13_isName_46
        obtain ⟨u1, E1, P1⟩ := sc_part hn V (a := v6) (b := s0) ⟨a6, b6⟩
        rw [E1, mx_svs]
        refine ok_add (by omega) ?_; intro v2 e2
        refine ok_im (ih u1 v2 P1 (by omega) (by omega)) (fun u P => ⟨P.1, fun y => ⟨C2, fun i i1 i2 => ?_⟩⟩)
        by_cases i0 : i = l4
        · have u11 : u1 = 1 := by have := (P.2 y).1; omega
          rw [i0, ← es, show l1 + l4 = v5 by omega, ← e6, ← nm_part (nn := nn) (M := M), E1, u11]
        · exact (P.2 y).2 i (by omega) i2
      refine ok_if (fun y => J 0 (by rw [if_neg y])) (fun y => J 1 (by rw [if_pos (Decidable.not_not.1 y)]))
  exact ok_im (L nn 1 0 (.inr rfl) (by omega) (by omega)) (fun u P => ⟨P.1, fun y => ⟨⟨by omega, by omega⟩, fun i i1 i2 => (P.2 y).2 i i1 i2⟩⟩)
def KQ (f : Nat → Int) (a e p u : Int) : Prop := u = 0 ∨ (a + u ≤ e ∧ KK f p (a + u))
theorem sk_93 (hn : 1000000 ≤ nn) (R : RW_ c n) (V : VS_ M) {l1 l2 l3 l4 : Int} (r1 : 0 ≤ l1 ∧ l1 ≤ l3 ∧ l3 < l4 ∧ l2 ≤ n) (x : M c l3.toNat = 76) (y : ∀ i : Int, l3 < i → i < l4 → ¬ M c i.toNat = 59) (w : l4 < l2 → M c l4.toNat = 59) : Ok_ (qj_X13_kindBytes_93 nn c l1 l2 l3 l4 M) (KQ (M c) l1 l2 l3) := by
  have hn' : n ≤ 48000 := by rcases R with ⟨_, e⟩ | ⟨_, e⟩ <;> omega
  unfold qj_X13_kindBytes_93
  refine ok_if (fun _ => ok_ret (.inl rfl)) (fun C => ?_)
  refine ok_add (by omega) ?_; intro v1 e1
  refine ok_sub (by omega) ?_; intro v2 e2
  refine ok_sub (by omega) ?_; intro v3 e3
  refine ok_sv (sk_name hn R V (by omega)) ?_; intro u4 P4
  refine ok_if (fun _ => ok_ret (.inl rfl)) (fun D => ?_)
  have b := (P4.2 D).1
  have nm := (P4.2 D).2
  rw [e1] at nm
  refine ok_add (by omega) ?_; intro v5 e5
  refine ok_sub (by omega) ?_; intro v6 e6
  have E : l1 + v6 = l4 + 1 := by omega
  refine ok_ret (.inr ⟨by omega, .inr ⟨x, ⟨by omega, by rw [show l1 + v6 - l3 - 2 = v3 by omega]; exact nm⟩, ?_, fun i a b => y i a (by omega)⟩⟩)
  rw [show l1 + v6 - 1 = l4 by omega]; exact w (by omega)
theorem sk_72 (hn : 1000000 ≤ nn) (R : RW_ c n) (V : VS_ M) {l1 l2 l3 : Int} (r1 : 0 ≤ l1 ∧ l1 ≤ l3 ∧ l2 ≤ n) (x : M c l3.toNat = 76) : ∀ (k : Nat) (l4 : Int), l3 < l4 → l4 ≤ 48001 → (∀ i : Int, l3 < i → i < l4 → ¬ M c i.toNat = 59) → 48002 - l4 < (k : Int) → Ok_ (qw_X13_kindBytes_72 nn k c l1 l2 l3 l4 M) (KQ (M c) l1 l2 l3) := by
  have hn' : n ≤ 48000 := by rcases R with ⟨_, e⟩ | ⟨_, e⟩ <;> omega
  intro k
  induction k with
  | zero => intro l4 a b y hm; exfalso; omega
  | succ k ih =>
    intro l4 a b y hm
    unfold qw_X13_kindBytes_72
    refine ok_if (fun C => sk_93 hn R V (by omega) x y (fun w => by exfalso; omega)) (fun C => ?_)
    refine ok_rS R V (by omega) ?_; intro v9 e9 _ _
    refine ok_if (fun D => sk_93 hn R V (by omega) x y (fun _ => by rw [← e9]; exact D)) (fun D => ?_)
    refine ok_add (by omega) ?_; intro v10 e10
    refine ih v10 (by omega) (by omega) (fun i p q => ?_) (by omega)
    by_cases z : i = l4
    · rw [z, ← e9]; exact D
    · exact y i p (by omega)
theorem sk_52 (hn : 1000000 ≤ nn) (R : RW_ c n) (V : VS_ M) {l1 l2 l3 : Int} (r1 : 0 ≤ l1 ∧ l1 ≤ l3 ∧ l2 ≤ n) (r3 : l3 ≤ 48000) : Ok_ (qj_X13_kindBytes_52 nn c l1 l2 l3 M) (KQ (M c) l1 l2 l3) := by
  unfold qj_X13_kindBytes_52
  refine ok_if (fun _ => ok_ret (.inl rfl)) (fun C => ?_)
  refine ok_rS R V (by omega) ?_; intro v13 e13 _ _
  refine ok_if (fun D => ?_) (fun _ => ok_ret (.inl rfl))
  refine ok_add (by omega) ?_; intro v14 e14
  exact sk_72 hn R V r1 (by rw [← e13]; exact D) nn v14 (by omega) (by omega) (fun i p q => by exfalso; omega) (by omega)
theorem sk_33 (hn : 1000000 ≤ nn) (R : RW_ c n) (V : VS_ M) {l1 l2 l3 : Int} (r1 : 0 ≤ l1 ∧ l1 ≤ l3 ∧ l2 ≤ n) (r3 : l3 ≤ 48000) : Ok_ (qj_X13_kindBytes_33 nn c l1 l2 l3 M) (KQ (M c) l1 l2 l3) := by
  have hn' : n ≤ 48000 := by rcases R with ⟨_, e⟩ | ⟨_, e⟩ <;> omega
  unfold qj_X13_kindBytes_33
  refine ok_if (fun _ => sk_52 hn R V r1 r3) (fun C => ?_)
  refine ok_rS R V (by omega) ?_; intro v17 e17 _ _
  refine ok_if (fun _ => sk_52 hn R V r1 r3) (fun D => ?_)
  refine ok_add (by omega) ?_; intro v18 e18
  refine ok_sub (by omega) ?_; intro v19 e19
  exact ok_ret (.inr ⟨by omega, .inl ⟨by rw [← e17]; exact Decidable.not_not.1 D, by omega⟩⟩)
/-- how long a kind is, or 0: told -/
def KB2 (f : Nat → Int) (a e u : Int) : Prop := u = 0 ∨ (1 ≤ u ∧ a + u ≤ e ∧ KD f a (a + u))
theorem sk_17 (hn : 1000000 ≤ nn) (R : RW_ c n) (V : VS_ M) {a e : Int} (r1 : 0 ≤ a ∧ e ≤ n) (r3 : a ≤ 48000) : Ok_ (qj_X13_kindBytes_17 nn c a e a M) (KB2 (M c) a e) := by
  have hn' : n ≤ 48000 := by rcases R with ⟨_, e⟩ | ⟨_, e⟩ <;> omega
  unfold qj_X13_kindBytes_17
  refine ok_if (fun C => ?_) (fun C => ?_)
  · obtain ⟨u, e1, P⟩ := sk_33 hn R V (l1 := a) (l2 := e) (l3 := a) (by omega) (by omega)
    rcases P with P | ⟨P, Q⟩
    · exact ⟨u, e1, .inl P⟩
    · have := kk_lt Q
      exfalso; omega
  refine ok_rS R V (by omega) ?_; intro v22 e22 _ _
  refine ok_if (fun D => ?_) (fun D => ?_)
  · obtain ⟨u, e1, P⟩ := sk_33 hn R V (l1 := a) (l2 := e) (l3 := a) (by omega) (by omega)
    rcases P with P | ⟨P, Q⟩
    · exact ⟨u, e1, .inl P⟩
    · have := kk_lt Q
      exact ⟨u, e1, .inr ⟨by omega, P, .inr (.inl ⟨by rw [← e22]; exact D, Q⟩)⟩⟩
  · refine ok_add (by omega) ?_; intro v23 e23
    obtain ⟨u, e1, P⟩ := sk_33 hn R V (l1 := a) (l2 := e) (l3 := v23) (by omega) (by omega)
    rcases P with P | ⟨P, Q⟩
    · exact ⟨u, e1, .inl P⟩
    · have := kk_lt Q
      refine ⟨u, e1, .inr ⟨by omega, P, .inr (.inr ⟨by rw [← e22]; exact Decidable.not_not.1 D, ?_⟩)⟩⟩
      rw [← e23]; exact Q
theorem sk_kind (hn : 1000000 ≤ nn) (R : RW_ c n) (V : VS_ M) {a e : Int} (r1 : 0 ≤ a ∧ a ≤ 48000 ∧ e ≤ n) : Ok_ (qf_X13_kindBytes nn c a e M) (KB2 (M c) a e) := by
  unfold qf_X13_kindBytes
  refine ok_if (fun _ => sk_17 hn R V (by omega) (by omega)) (fun C => ?_)
  refine ok_rS R V (by omega) ?_; intro v26 e26 _ _
  exact ok_if (fun _ => sk_17 hn R V (by omega) (by omega)) (fun D => ok_ret (.inr ⟨by omega, by omega, .inl ⟨by rw [← e26]; exact Decidable.not_not.1 D, rfl⟩⟩))
theorem sk_field (hn : 1000000 ≤ nn) (R : RW_ c n) (V : VS_ M) {a l : Int} (r1 : 0 ≤ a ∧ a ≤ 48000 ∧ a + l ≤ n) (r2 : -60000 ≤ l) : Ok_ (qf_X13_isFieldKind nn c a l M) (fun u => (u = 0 ∨ u = 1) ∧ (¬ u = 0 → KD (M c) a (a + l))) := by
  have hn' : n ≤ 48000 := by rcases R with ⟨_, e⟩ | ⟨_, e⟩ <;> omega
  unfold qf_X13_isFieldKind
  refine ok_if (fun _ => ok_ret ⟨.inl rfl, fun y => absurd rfl y⟩) (fun C => ?_)
  refine ok_add (by omega) ?_; intro v1 e1
  refine ok_sv (sk_kind hn R V (by omega)) ?_; intro u2 P
  refine ok_if (fun _ => ok_ret ⟨.inl rfl, fun y => absurd rfl y⟩) (fun D => ok_ret ⟨.inr rfl, fun _ => ?_⟩)
  have D : u2 = l := Decidable.not_not.1 D
  rcases P with P | ⟨_, _, P⟩
  · exfalso; omega
  · rw [← D]; exact P
/-- what parametersIn tells from place p on, with m counted before -/
def PM (f : Nat → Int) (p e m u : Int) : Prop := u = -1 ∨ ((m ≤ u ∧ u ≤ 48000) ∧ ∃ q : Int, PRn f (u - m).toNat p q ∧ f q.toNat = 41 ∧ RTk f (q + 1) e)
theorem sk_71 (hn : 1000000 ≤ nn) (R : RW_ c n) (V : VS_ M) {l3 l4 l5 : Int} (r1 : 0 ≤ l4 ∧ l4 ≤ l3 ∧ l3 ≤ n) (r5 : 0 ≤ l5 ∧ l5 ≤ 48000) (x : l4 < l3 → M c l4.toNat = 41) : Ok_ (qj_X13_parametersIn_71 nn c l3 l4 l5 M) (PM (M c) l4 l3 l5) := by
  have hn' : n ≤ 48000 := by rcases R with ⟨_, e⟩ | ⟨_, e⟩ <;> omega
  unfold qj_X13_parametersIn_71
  refine ok_if (fun C => ?_) (fun _ => ok_ret (.inl rfl))
  refine ok_add (by omega) ?_; intro v5 e5
  refine ok_add (by omega) ?_; intro v6 e6
  have J2 : RTk (M c) (l4 + 1) l3 → Ok_ (qj_X13_parametersIn_112 nn l5 M) (PM (M c) l4 l3 l5) := fun y => by
    unfold qj_X13_parametersIn_112 qj_X13_parametersIn_117
    refine ok_if (fun z => absurd z (by decide)) (fun _ => ok_ret (.inr ⟨by omega, l4, ?_, x C, y⟩))
    rw [show (l5 - l5).toNat = 0 by omega]; rfl
  have K : Ok_ (qj_X13_parametersIn_99 nn c l3 v5 l5 M) (PM (M c) l4 l3 l5) := by
    unfold qj_X13_parametersIn_99
    refine ok_sub (by omega) ?_; intro v2 e2
    refine ok_sv (sk_field hn R V (by omega) (by omega)) ?_; intro u3 P3
    refine ok_if (fun _ => ?_) (fun D => J2 (.inr ?_))
    · unfold qj_X13_parametersIn_117
      exact ok_if (fun _ => ok_ret (.inl rfl)) (fun z => absurd rfl z)
    · have k := P3.2 D
      rw [show v5 + v2 = l3 by omega, e5] at k
      exact k
  refine ok_if (fun _ => K) (fun D => ?_)
  refine ok_rS R V (by omega) ?_; intro v7 e7 _ _
  exact ok_if (fun E => J2 (.inl ⟨by rw [← e5, ← e7]; exact E, by omega⟩)) (fun _ => K)
theorem sk_27 (hn : 1000000 ≤ nn) (R : RW_ c n) (V : VS_ M) {l3 : Int} (r3 : l3 ≤ n) : ∀ (k : Nat) (l4 l5 : Int), (0 ≤ l4 ∧ l4 ≤ l3) → (0 ≤ l5 ∧ l5 ≤ l4) → l3 - l4 < (k : Int) → Ok_ (qw_X13_parametersIn_27 nn k c l3 l4 l5 M) (PM (M c) l4 l3 l5) := by
  have hn' : n ≤ 48000 := by rcases R with ⟨_, e⟩ | ⟨_, e⟩ <;> omega
  intro k
  induction k with
  | zero => intro l4 l5 a b hm; exfalso; omega
  | succ k ih =>
    intro l4 l5 a b hm
    unfold qw_X13_parametersIn_27
    refine ok_if (fun _ => sk_71 hn R V (by omega) (by omega) (fun y => by exfalso; omega)) (fun C => ?_)
    refine ok_rS R V (by omega) ?_; intro v11 e11 _ _
    refine ok_if (fun D => sk_71 hn R V (by omega) (by omega) (fun _ => by rw [← e11]; exact D)) (fun _ => ?_)
    refine ok_sv (sk_kind hn R V (by omega)) ?_; intro u12 P12
    refine ok_if (fun D => ?_) (fun _ => ok_ret (.inl rfl))
    rcases P12 with P12 | ⟨p1, p2, p3⟩
    · exact absurd P12 D
    · refine ok_add (by omega) ?_; intro v13 e13
      refine ok_add (by omega) ?_; intro v14 e14
      obtain ⟨u, e1, P⟩ := ih v13 v14 (by omega) (by omega) (by omega)
      refine ⟨u, e1, ?_⟩
      rcases P with P | ⟨P, q, Q1, Q2⟩
      · exact .inl P
      · refine .inr ⟨by omega, q, ?_, Q2⟩
        rw [show (u - l5).toNat = (u - v14).toNat + 1 by omega]
        exact ⟨l4 + u12, p3, by rw [← e13]; exact Q1⟩
theorem sk_pars (hn : 1000000 ≤ nn) (R : RW_ c n) (V : VS_ M) {a l : Int} (r1 : 0 ≤ a ∧ a + l ≤ n) (r2 : -60000 ≤ l) (r3 : a ≤ 48000) : Ok_ (qf_X13_parametersIn nn c a l M) (fun u => u = -1 ∨ ((0 ≤ u ∧ u ≤ 48000) ∧ MKn (M c) u.toNat a (a + l))) := by
  have hn' : n ≤ 48000 := by rcases R with ⟨_, e⟩ | ⟨_, e⟩ <;> omega
  unfold qf_X13_parametersIn
  refine ok_add (by omega) ?_; intro v18 e18
  refine ok_if (fun _ => ok_ret (.inl rfl)) (fun C => ?_)
  refine ok_rS R V (by omega) ?_; intro v19 e19 _ _
  refine ok_if (fun D => ?_) (fun _ => ok_ret (.inl rfl))
  refine ok_add (by omega) ?_; intro v20 e20
  obtain ⟨u, e1, P⟩ := sk_27 hn R V (l3 := v18) (by omega) nn v20 0 (by omega) (by omega) (by omega)
  refine ⟨u, e1, ?_⟩
  rcases P with P | ⟨P, q, Q1, Q2, Q3⟩
  · exact .inl P
  · refine .inr ⟨P, by rw [← e19]; exact D, q, ?_, Q2, by rw [← e18]; exact Q3⟩
    rw [← e20]
    rw [show (u - 0).toNat = u.toNat by omega] at Q1
    exact Q1
theorem sk_method (hn : 1000000 ≤ nn) (V : VS_ M) {a l : Int} (r1 : 0 ≤ a ∧ a + l ≤ 6000) (r2 : -6000 ≤ l) : Ok_ (qf_X13_isMethodKind nn a l M) (fun u => (u = 0 ∨ u = 1) ∧ (¬ u = 0 → ∃ m : Nat, m ≤ 6 ∧ MKn (M 238) m a (a + l))) := by
  unfold qf_X13_isMethodKind
  refine ok_sv (sk_pars hn (.inl ⟨rfl, rfl⟩) V r1 (by omega) (by omega)) ?_; intro u1 P
  refine ok_if (fun _ => ok_ret ⟨.inl rfl, fun y => absurd rfl y⟩) (fun C => ?_)
  refine ok_if (fun _ => ok_ret ⟨.inl rfl, fun y => absurd rfl y⟩) (fun D => ?_)
  rcases P with P | ⟨P, Q⟩
  · exfalso; omega
  · exact ok_ret ⟨.inr rfl, fun _ => ⟨u1.toNat, by omega, Q⟩⟩
/-- a class's text: a name, or the kind of a row -/
def CTx (f : Nat → Int) (a l : Int) : Prop := (f a.toNat = 91 ∧ KD f a (a + l)) ∨ (¬ f a.toNat = 91 ∧ 1 ≤ l ∧ l ≤ 12)
theorem sk_ctext (hn : 1000000 ≤ nn) (V : VS_ M) {a l : Int} (r1 : 0 ≤ a ∧ a + l ≤ 6000) (r2 : 1 ≤ l) : Ok_ (qf_X13_isClassText nn a l M) (fun u => (u = 0 ∨ u = 1) ∧ (¬ u = 0 → CTx (M 238) a l)) := by
  unfold qf_X13_isClassText
  refine ok_if (fun y => by exfalso; omega) (fun C => ?_)
  refine ok_rd (by omega) (gA_238 V) ?_; intro v3 e3 _ _
  refine ok_if (fun D => ?_) (fun D => ?_)
  · unfold qj_X13_isClassText_19
    refine ok_sv (sk_name hn (.inl ⟨rfl, rfl⟩) V r1) ?_; intro u1 P1
    exact ok_ck P1.1 (ok_ret ⟨P1.1, fun y => .inr ⟨by rw [← e3]; exact D, (P1.2 y).1⟩⟩)
  · refine ok_sv (sk_field hn (.inl ⟨rfl, rfl⟩) V (by omega) (by omega)) ?_; intro u4 P4
    exact ok_ck P4.1 (ok_ret ⟨P4.1, fun y => .inl ⟨by rw [← e3]; exact Decidable.not_not.1 D, P4.2 y⟩⟩)
end
section
variable {nn : Nat} {h r z : ms_M} {c : Int}
/-- the text from a, l long, is of sort k -/
def TSk (f : Nat → Int) (k a l : Int) : Prop := (k = 0 → l ≤ 12) ∧ (k = 1 → KD f a (a + l)) ∧ (k = 2 → ∃ m : Nat, m ≤ 6 ∧ MKn f m a (a + l)) ∧ (k = 3 → KD f a (a + l) ∨ ∃ m : Nat, m ≤ 6 ∧ MKn f m a (a + l)) ∧ (k = 4 → CTx f a l)
/-- constant i is a text of sort k -/
def TS (k : Int) (h : ms_M) (c i : Int) : Prop := TX h c i ∧ TSk (h 238) k (pl h c i + 2) (h 238 (pl h c i + 1).toNat)
theorem sk_text (hn : 1000000 ≤ nn) (V : VS_ h) (hc : h 160 115 = c) (S : CSn h c (h 229 c.toNat)) {i k : Int} : Ok_ (qf_X13_isText nn i k h) (fun u => (u = 0 ∨ u = 1) ∧ (¬ u = 0 → TS k h c i)) := by
  have g := gF_160_115 V
  have g3 := gF_160_113 V
  unfold qf_X13_isText
  refine ok_sv (sq_const V (c := h 160 115) (by omega)) ?_; intro u3 P3
  refine ok_if (fun _ => ok_ret ⟨.inl rfl, fun y => absurd rfl y⟩) (fun C => ?_)
  rcases P3 with P3 | ⟨P3, P4, P5, P6⟩
  · exfalso; omega
  rw [hc] at P3 P4
  have K := S i P3.1 P3.2
  rw [← P4] at K
  obtain ⟨K0, K⟩ := K
  refine ok_rd (by omega) (gA_238 V) ?_; intro v5 e5 _ _
  refine ok_if (fun D => ?_) (fun _ => ok_ret ⟨.inl rfl, fun y => absurd rfl y⟩)
  have K : (1 ≤ h 238 (u3 + 1).toNat ∧ h 238 (u3 + 1).toNat ≤ 120) ∧ u3 + 2 + h 238 (u3 + 1).toNat ≤ h 160 113 := by
    rcases K with K | K | K | K
    · exact K.2
    · exfalso; omega
    · exfalso; omega
    · exfalso; omega
  refine ok_add (by omega) ?_; intro v7 e7
  refine ok_rd (by omega) (gA_238 V) ?_; intro v8 e8 _ _
  rw [e7] at e8
  have F : ∀ u : Int, (u = 0 ∨ u = 1) → (¬ u = 0 → TSk (h 238) k (u3 + 2) v8) → (u = 0 ∨ u = 1) ∧ (¬ u = 0 → TS k h c i) := fun u hu y => ⟨hu, fun z => ⟨⟨P3, by rw [← P4, ← e5]; exact D⟩, by rw [← P4, ← e8]; exact y z⟩⟩
  refine ok_if (fun E => ?_) (fun E0 => ?_)
  · refine ok_add (by omega) ?_; intro v14 e14
    refine ok_sv (sk_name hn (.inl ⟨rfl, rfl⟩) V (by omega)) ?_; intro u P
    exact ok_ck P.1 (ok_ret (F u P.1 (fun y => ⟨fun _ => (P.2 y).1.2, fun _ => by exfalso; omega, fun _ => by exfalso; omega, fun _ => by exfalso; omega, fun _ => by exfalso; omega⟩)))
  refine ok_if (fun E => ?_) (fun E1 => ?_)
  · refine ok_add (by omega) ?_; intro v14 e14
    refine ok_sv (sk_field hn (.inl ⟨rfl, rfl⟩) V (by omega) (by omega)) ?_; intro u P
    rw [e14] at P
    exact ok_ck P.1 (ok_ret (F u P.1 (fun y => ⟨fun _ => by exfalso; omega, fun _ => P.2 y, fun _ => by exfalso; omega, fun _ => by exfalso; omega, fun _ => by exfalso; omega⟩)))
  refine ok_if (fun E => ?_) (fun E2 => ?_)
  · refine ok_add (by omega) ?_; intro v14 e14
    refine ok_sv (sk_method hn V (by omega) (by omega)) ?_; intro u P
    rw [e14] at P
    exact ok_ck P.1 (ok_ret (F u P.1 (fun y => ⟨fun _ => by exfalso; omega, fun _ => by exfalso; omega, fun _ => P.2 y, fun _ => by exfalso; omega, fun _ => by exfalso; omega⟩)))
  refine ok_if (fun E => ?_) (fun E3 => ?_)
  · refine ok_add (by omega) ?_; intro v26 e26
    refine ok_sv (sk_field hn (.inl ⟨rfl, rfl⟩) V (by omega) (by omega)) ?_; intro u27 P
    rw [e26] at P
    refine ok_if (fun y => ok_ret (F 1 (.inr rfl) (fun _ => ⟨fun _ => by exfalso; omega, fun _ => by exfalso; omega, fun _ => by exfalso; omega, fun _ => .inl (P.2 y), fun _ => by exfalso; omega⟩))) (fun _ => ?_)
    refine ok_add (by omega) ?_; intro v29 e29
    refine ok_sv (sk_method hn V (by omega) (by omega)) ?_; intro u30 P
    rw [e29] at P
    exact ok_if (fun _ => ok_ret (F 0 (.inl rfl) (fun y => absurd rfl y))) (fun y => ok_ret (F 1 (.inr rfl) (fun _ => ⟨fun _ => by exfalso; omega, fun _ => by exfalso; omega, fun _ => by exfalso; omega, fun _ => .inr (P.2 y), fun _ => by exfalso; omega⟩)))
  · refine ok_add (by omega) ?_; intro v14 e14
    refine ok_sv (sk_ctext hn V (by omega) (by omega)) ?_; intro u P
    rw [e14] at P
    exact ok_ck P.1 (ok_ret (F u P.1 (fun y => ⟨fun _ => by exfalso; omega, fun _ => by exfalso; omega, fun _ => by exfalso; omega, fun _ => by exfalso; omega, fun _ => P.2 y⟩)))
end
end
section
section
variable {nn : Nat} {h g r z : ms_M} {c : Int}
theorem f238 (K : KE8 h g c) : g 238 = h 238 := funext fun k => (K.1 k).1
theorem ke8_sy (K : KE8 h g c) : KE8 g h c := ⟨fun k => ⟨((K.1 k).1).symm, ((K.1 k).2).symm⟩, K.2.1.symm, K.2.2.1.symm, K.2.2.2.symm⟩
theorem ts_ke {k i : Int} (K : KE8 h g c) (t : TS k g c i) : TS k h c i := by
  unfold TS TX at t ⊢
  rw [K.2.2.2, pl_ke K, f238 K] at t
  exact t
/-- what a constant names is there, and of its sort -/
def CK9 (h : ms_M) (c p : Int) : Prop := (h 238 p.toNat = 3 → TS 4 h c (h 238 (p + 1).toNat)) ∧ (h 238 p.toNat = 4 → CL h c (h 238 (p + 1).toNat) ∧ TS 0 h c (h 238 (p + 2).toNat) ∧ TS 3 h c (h 238 (p + 3).toNat))
def SI9 (h : ms_M) (c : Int) : Prop := h 160 115 = c ∧ CSn h c (h 229 c.toNat) ∧ ∀ i : Int, 1 ≤ i → i ≤ h 229 c.toNat → CK9 h c (pl h c i)
theorem ck9_8 {p : Int} (x : CK9 h c p) : CK8 h c p := ⟨fun y => (x.1 y).1, fun y => ⟨(x.2 y).1, (x.2 y).2.1.1, (x.2 y).2.2.1⟩⟩
theorem si9_8 (x : SI9 h c) : SI8 h c := ⟨x.1, x.2.1, fun i a b => ck9_8 (x.2.2 i a b)⟩
theorem ck9_ke {p : Int} (K : KE8 h r c) (x : CK9 h c p) : CK9 r c p := by
  have k2 := ke8_sy K
  unfold CK9 at x ⊢
  rw [(K.1 _).1, (K.1 _).1, (K.1 _).1, (K.1 _).1]
  exact ⟨fun y => ts_ke k2 (x.1 y), fun y => ⟨cl_ke K (x.2 y).1, ts_ke k2 (x.2 y).2.1, ts_ke k2 (x.2 y).2.2⟩⟩
theorem si9_ke (K : KE8 h r c) (x : SI9 h c) : SI9 r c := ⟨K.2.2.1.trans x.1, by rw [K.2.2.2]; exact cs_ke K x.2.1, fun i a b => by rw [pl_ke K]; rw [K.2.2.2] at b; exact ck9_ke K (x.2.2 i a b)⟩
theorem st9_byte (S : ST8 h g c) {p : Int} : Ok_ (qf_X13_isByte nn p g) (fun u => ST8 h u.2 c ∧ NB g u.2 ∧ ((u.1 = 1 ∧ u.2 = g ∧ Live g ∧ p < h 160 113) ∨ (u.1 = 0 ∧ ¬ Live u.2))) := by
  obtain ⟨s1, s2, s3, s4⟩ := S
  refine ok_im (sq_byte s1) (fun u P => ?_)
  obtain ⟨V, N, P⟩ := P
  refine ⟨⟨V, ke8_tr s2 (ke_nb N), nt8_tr s3 (nt8_nb N), fun y => ?_⟩, N, ?_⟩
  · rcases P with ⟨_, _, q, _⟩ | ⟨_, q⟩
    · exact s4 q
    · exact absurd y q
  · rcases P with ⟨q1, q2, q3, q4⟩ | q
    · exact .inl ⟨q1, q2, q3, by rw [← s2.2.1]; exact q4⟩
    · exact .inr q
theorem st9_unfit (S : ST8 h g c) {p : Int} (hp : 0 ≤ p ∧ p ≤ 6010) : Ok_ (qf_X13_unfit nn p g) (fun r => ST8 h r c ∧ NB g r ∧ ¬ Live r) := by
  obtain ⟨s1, s2, s3, s4⟩ := S
  refine ok_im (sq_unfit s1 hp) (fun u P => ?_)
  exact ⟨⟨P.1, ke8_tr s2 (ke_nb P.2.1), nt8_tr s3 (nt8_nb P.2.1), fun y => absurd y P.2.2⟩, P.2.1, P.2.2⟩
theorem st9_text (hn : 1000000 ≤ nn) (S : ST8 h g c) (B : SI8 h c) {i k : Int} : Ok_ (qf_X13_isText nn i k g) (fun u => (u = 0 ∨ u = 1) ∧ (¬ u = 0 → TS k h c i)) := by
  have K := S.2.1
  have Bg := si8_ke K B
  exact ok_im (sk_text hn S.1 Bg.1 Bg.2.1) (fun u P => ⟨P.1, fun y => ts_ke K (P.2 y)⟩)
/-- k types from p to q -/
def TYn (h : ms_M) (c : Int) : Nat → Int → Int → Prop
  | 0, p, q => p = q
  | k + 1, p, q => (h 238 p.toNat ≤ 2 ∧ TYn h c k (p + 1) q) ∨ (h 238 p.toNat = 3 ∧ CL h c (h 238 (p + 1).toNat) ∧ TYn h c k (p + 2) q)
def TYr (h : ms_M) (c p q : Int) : Prop := TYn h c (h 238 p.toNat).toNat (p + 1) q
theorem ty_le : ∀ (k : Nat) (p q : Int), TYn h c k p q → p + k ≤ q := by
  intro k
  induction k with
  | zero => intro p q y; have y : p = q := y; omega
  | succ k ih =>
    intro p q y
    rcases y with ⟨_, y⟩ | ⟨_, _, y⟩
    · have := ih _ _ y; omega
    · have := ih _ _ y; omega
/-- k frames from p to q -/
def FRn (h : ms_M) (c : Int) : Nat → Int → Int → Prop
  | 0, p, q => p = q
  | k + 1, p, q => ∃ a b : Int, TYr h c (p + 2) a ∧ TYr h c a b ∧ FRn h c k b q
def FRM (h : ms_M) (c p q : Int) : Prop := h 238 p.toNat ≤ 100 ∧ FRn h c (h 238 p.toNat).toNat (p + 1) q
/-- reading goes on behind; only the mark moves; what was read is X -/
def QT9 (X : Int → Prop) (h : ms_M) (c : Int) (g : ms_M) (u : Int × ms_M) : Prop := QP8 h c g u ∧ NB g u.2 ∧ (Live u.2 → X u.1)
theorem qt_dead {X Y : Int → Prop} {f : ms_M} {u : Int × ms_M} (d : ¬ Live f) (N : NB g f) (P : QT9 Y h c f u) : QT9 X h c g u := ⟨qp_dead d P.1, nb_tr N P.2.1, fun y => absurd (P.1.2.2 y).1 d⟩
theorem qt_live {X Y : Int → Prop} {f : ms_M} {u : Int × ms_M} (d : Live f → Live g) (N : NB g f) (w : ∀ q, Live f → Y q → X q) (P : QT9 Y h c f u) : QT9 X h c g u := ⟨qp_live d P.1, nb_tr N P.2.1, fun y => w _ (P.1.2.2 y).1 (P.2.2 y)⟩
theorem sr_24 (hn : 1000000 ≤ nn) (V0 : VS_ h) (B : Live h → SI8 h c) {l2 : Int} (h2 : 0 ≤ l2 ∧ l2 ≤ 255) : ∀ (k : Nat) (l3 l4 : Int) (g : ms_M), ST8 h g c → (0 ≤ l3 ∧ l3 ≤ 80000) → (Live g → l3 ≤ h 160 113) → (0 ≤ l4 ∧ l4 ≤ l2) → l2 - l4 < (k : Int) → Ok_ (qw_X13_scanTypes_24 nn k l2 l3 l4 g) (QT9 (TYn h c (l2 - l4).toNat l3) h c g) := by
  have g113 := gF_160_113 V0
  intro k
  induction k with
  | zero => intro l3 l4 g S a l b hm; exfalso; omega
  | succ k ih =>
    intro l3 l4 g S a l b hm
    unfold qw_X13_scanTypes_24
    refine ok_if (fun _ => ok_ret ⟨⟨S, a, fun y => ⟨y, l y⟩⟩, nb_rf, fun _ => ?_⟩) (fun C => ?_)
    · rw [show (l2 - l4).toNat = 0 by omega]; rfl
    refine ok_sv (st9_byte S) ?_; intro u24 P
    obtain ⟨S24, N24, P⟩ := P
    rcases P with ⟨p1, p2, p3, p4⟩ | ⟨p1, p2⟩
    · rw [if_pos (show ¬ u24.1 = 0 by omega), p2]
      have V := S.1
      have Bh := B (S.2.2.2 p3)
      refine ok_rd (by omega) (gA_238 V) ?_; intro v26 e26 _ _
      rw [(S.2.1.1 _).1] at e26
      have J : ∀ f : ms_M, ST8 h f c → NB g f → (Live f → Live g ∧ h 238 l3.toNat ≤ 3) → Ok_ (qj_X13_scanTypes_55 nn (qw_X13_scanTypes_24 nn k) l2 l3 l4 f) (QT9 (TYn h c (l2 - l4).toNat l3) h c g) := fun f Sf Nf lf => by
        unfold qj_X13_scanTypes_55
        refine ok_rd (by omega) (gA_238 Sf.1) ?_; intro v2 e2 _ _
        rw [(Sf.2.1.1 _).1] at e2
        refine ok_if (fun F => ?_) (fun F => ?_)
        · refine ok_add (by omega) ?_; intro v3 e3
          refine ok_add (by omega) ?_; intro v4 e4
          refine ok_im (ih v3 v4 f Sf (by omega) (fun _ => by omega) (by omega) (by omega)) (fun u q => qt_live (fun y => (lf y).1) Nf (fun q y w => ?_) q)
          rw [show (l2 - l4).toNat = (l2 - v4).toNat + 1 by omega]
          have := (lf y).2
          exact .inl ⟨by omega, by rw [← e3]; exact w⟩
        · refine ok_add (by omega) ?_; intro v5 e5
          refine ok_sv (st9_byte Sf) ?_; intro u7 P7
          obtain ⟨S7, N7, P7⟩ := P7
          rcases P7 with ⟨q1, q2, q3, q4⟩ | ⟨q1, q2⟩
          · rw [if_neg (show ¬ u7.1 = 0 by omega), q2]
            refine ok_rd (by omega) (gA_238 Sf.1) ?_; intro v11 e11 _ _
            rw [(Sf.2.1.1 _).1] at e11
            refine ok_sv (st8_class Sf Bh) ?_; intro u13 P13
            refine ok_if (fun G => ?_) (fun _ => ?_)
            · refine ok_add (by omega) ?_; intro v14 e14
              refine ok_add (by omega) ?_; intro v15 e15
              refine ok_im (ih v14 v15 f Sf (by omega) (fun _ => by omega) (by omega) (by omega)) (fun u q => qt_live (fun y => (lf y).1) Nf (fun q y w => ?_) q)
              rw [show (l2 - l4).toNat = (l2 - v15).toNat + 1 by omega]
              exact .inr ⟨by omega, by rw [← e5, ← e11]; exact P13.2 G, by rw [show l3 + 2 = v14 by omega]; exact w⟩
            · refine ok_sv (st9_unfit Sf (by omega)) ?_; intro u17 P17
              refine ok_add (by omega) ?_; intro v18 e18
              refine ok_add (by omega) ?_; intro v19 e19
              exact ok_im (ih v18 v19 u17 P17.1 (by omega) (fun y => absurd y P17.2.2) (by omega) (by omega)) (fun u q => qt_dead P17.2.2 (nb_tr Nf P17.2.1) q)
          · rw [if_pos q1]
            refine ok_add (by omega) ?_; intro v8 e8
            refine ok_add (by omega) ?_; intro v9 e9
            exact ok_im (ih v8 v9 u7.2 S7 (by omega) (fun y => absurd y q2) (by omega) (by omega)) (fun u q => qt_dead q2 (nb_tr Nf N7) q)
      refine ok_if (fun F => J g S nb_rf (fun y => ⟨y, by omega⟩)) (fun _ => ?_)
      refine ok_sv (st9_unfit S (by omega)) ?_; intro u28 P28
      exact J u28 P28.1 P28.2.1 (fun y => absurd y P28.2.2)
    · rw [if_neg (show ¬ ¬ u24.1 = 0 by omega)]
      exact ok_ret ⟨⟨S24, a, fun y => absurd y p2⟩, N24, fun y => absurd y p2⟩
theorem sr_types (hn : 1000000 ≤ nn) (V0 : VS_ h) (B : Live h → SI8 h c) {p : Int} (S : ST8 h g c) (a : 0 ≤ p ∧ p ≤ 80000) : Ok_ (qf_X13_scanTypes nn p g) (QT9 (TYr h c p) h c g) := by
  have g113 := gF_160_113 V0
  unfold qf_X13_scanTypes
  refine ok_sv (st9_byte S) ?_; intro u33 P
  obtain ⟨S33, N33, P⟩ := P
  rcases P with ⟨p1, p2, p3, p4⟩ | ⟨p1, p2⟩
  · rw [if_pos (show ¬ u33.1 = 0 by omega), p2]
    refine ok_rd (by omega) (gA_238 S.1) ?_; intro v35 e35 a35 b35
    rw [(S.2.1.1 _).1] at e35
    refine ok_add (by omega) ?_; intro v36 e36
    refine ok_im (sr_24 hn V0 B ⟨a35, b35⟩ nn v36 0 g S (by omega) (fun _ => by omega) (by omega) (by omega)) (fun u q => qt_live id nb_rf (fun q _ w => ?_) q)
    unfold TYr
    rw [← e35, ← e36, show v35.toNat = (v35 - 0).toNat by omega]; exact w
  · rw [if_neg (show ¬ ¬ u33.1 = 0 by omega)]
    exact ok_ret ⟨⟨S33, a, fun y => absurd y p2⟩, N33, fun y => absurd y p2⟩
/-- the frames -/
theorem sr_497 (hn : 1000000 ≤ nn) (V0 : VS_ h) (B : Live h → SI8 h c) {l9 : Int} (h9 : 0 ≤ l9 ∧ l9 ≤ 255) : ∀ (k : Nat) (l4 l10 : Int) (g : ms_M), ST8 h g c → (0 ≤ l4 ∧ l4 ≤ 80000) → (Live g → l4 ≤ h 160 113) → (0 ≤ l10 ∧ l10 ≤ l9) → l9 - l10 < (k : Int) → Ok_ (qw_X13_scanMethod_497 nn k l4 l9 l10 g) (QT9 (FRn h c (l9 - l10).toNat l4) h c g) := by
  have g113 := gF_160_113 V0
  intro k
  induction k with
  | zero => intro l4 l10 g S a l b hm; exfalso; omega
  | succ k ih =>
    intro l4 l10 g S a l b hm
    unfold qw_X13_scanMethod_497
    refine ok_if (fun _ => ok_ret ⟨⟨S, a, fun y => ⟨y, l y⟩⟩, nb_rf, fun _ => ?_⟩) (fun C => ?_)
    · rw [show (l9 - l10).toNat = 0 by omega]; rfl
    refine ok_if (fun D => ok_ret ⟨⟨S, a, fun y => absurd y D⟩, nb_rf, fun y => absurd y D⟩) (fun D => ?_)
    refine ok_add (by omega) ?_; intro v2 e2
    refine ok_sv (st9_byte S) ?_; intro u4 P
    obtain ⟨S4, N4, P⟩ := P
    rcases P with ⟨p1, p2, p3, p4⟩ | ⟨p1, p2⟩
    · rw [if_pos (show ¬ u4.1 = 0 by omega), p2]
      refine ok_add (by omega) ?_; intro v5 e5
      refine ok_sv (sr_types hn V0 B S (by omega)) ?_; intro u7 P7
      refine ok_sv (sr_types hn V0 B P7.1.1 P7.1.2.1) ?_; intro u9 P9
      refine ok_add (by omega) ?_; intro v10 e10
      refine ok_im (ih u9.1 v10 u9.2 P9.1.1 P9.1.2.1 (fun y => (P9.1.2.2 y).2) (by omega) (by omega)) (fun u q => qt_live (fun y => (P7.1.2.2 (P9.1.2.2 y).1).1) (nb_tr P7.2.1 P9.2.1) (fun q y w => ?_) q)
      rw [show (l9 - l10).toNat = (l9 - v10).toNat + 1 by omega]
      exact ⟨u7.1, u9.1, by rw [← e5]; exact P7.2.2 (P9.1.2.2 y).1, P9.2.2 y, w⟩
    · rw [if_neg (show ¬ ¬ u4.1 = 0 by omega)]
      exact ok_ret ⟨⟨S4, a, fun y => absurd y p2⟩, N4, fun y => absurd y p2⟩
/-- a method's rows: which places of the tables it writes (from table a on) -/
def NB6 (a : Nat) (c k : Int) (g r : ms_M) : Prop := ∀ x j : Nat, ¬ (x = 160 ∧ j = 114) → ¬ ((a ≤ x ∧ x ≤ 237) ∧ (j : Int) = 12 * c + k) → r x j = g x j
theorem n6_nb {a : Nat} {k : Int} (N : NB g r) : NB6 a c k g r := fun x j w _ => N x j w
theorem n6_tr {a : Nat} {k : Int} (p : NB6 a c k g z) (b : NB6 a c k z r) : NB6 a c k g r := fun x j w1 w2 => (b x j w1 w2).trans (p x j w1 w2)
theorem n6_mo {a b : Nat} {k : Int} (ab : b ≤ a) (p : NB6 a c k g r) : NB6 b c k g r := fun x j w1 w2 => p x j w1 (by omega)
/-- reading goes on behind; what was read is X (place, memory) -/
def QM9 (a : Nat) (X : Int → ms_M → Prop) (h : ms_M) (c k : Int) (g : ms_M) (u : Int × ms_M) : Prop := QP8 h c g u ∧ NB6 a c k g u.2 ∧ (Live u.2 → X u.1 u.2)
theorem qm_dead {a b : Nat} {X Y : Int → ms_M → Prop} {k : Int} {f : ms_M} {u : Int × ms_M} (ab : a ≤ b) (d : ¬ Live f) (N : NB6 a c k g f) (P : QM9 b Y h c k f u) : QM9 a X h c k g u := ⟨qp_dead d P.1, n6_tr N (n6_mo ab P.2.1), fun y => absurd (P.1.2.2 y).1 d⟩
theorem qm_live {a b : Nat} {X Y : Int → ms_M → Prop} {k : Int} {f : ms_M} {u : Int × ms_M} (ab : a ≤ b) (d : Live f → Live g) (N : NB6 a c k g f) (w : ∀ q r, Live f → Y q r → X q r) (P : QM9 b Y h c k f u) : QM9 a X h c k g u := ⟨qp_live d P.1, n6_tr N (n6_mo ab P.2.1), fun y => w _ _ (P.1.2.2 y).1 (P.2.2 y)⟩
/-- frames from p on, and their place is kept -/
def XF (h : ms_M) (c k p q : Int) (r : ms_M) : Prop := r 237 (12 * c + k).toNat = p ∧ p < h 160 113 ∧ FRM h c p q
theorem sr_444 (hn : 1000000 ≤ nn) (V0 : VS_ h) (hc : 0 ≤ c ∧ c ≤ 7) (B : Live h → SI8 h c) {l2 l4 : Int} (h2 : 0 ≤ l2 ∧ l2 < 12) (S : ST8 h g c) (a : 0 ≤ l4 ∧ l4 ≤ 80000) : Ok_ (qj_X13_scanMethod_444 nn c l2 l4 g) (QM9 237 (XF h c l2 l4) h c l2 g) := by
  have g113 := gF_160_113 V0
  unfold qj_X13_scanMethod_444
  refine ok_sv (st9_byte S) ?_; intro u15 P
  obtain ⟨S15, N15, P⟩ := P
  rcases P with ⟨p1, p2, p3, p4⟩ | ⟨p1, p2⟩
  · rw [if_pos (show ¬ u15.1 = 0 by omega), p2]
    refine ok_mul (by omega) ?_; intro v17 e17
    refine ok_add (by omega) ?_; intro v18 e18
    refine ok_wA (by omega) ?_; intro h19 E19
    have V19 : VS_ h19 := by rw [E19]; exact wA_237 S.1 (by omega)
    obtain ⟨S19, L19⟩ := st8_up S E19 V19 (by decide) (.inr ⟨by decide, by omega, by omega⟩)
    have N19 : NB6 237 c l2 g h19 := fun x j w1 w2 => by rw [E19, up_n (by omega)]
    have f19 : h19 237 (12 * c + l2).toNat = l4 := by rw [E19, show 12 * c + l2 = v18 by omega, up_s]
    refine ok_rd (by omega) (gA_238 V19) ?_; intro v21 e21 a21 b21
    rw [(S19.2.1.1 _).1] at e21
    refine ok_if (fun F => ?_) (fun _ => ?_)
    · refine ok_add (by omega) ?_; intro v22 e22
      refine ok_im (sr_497 hn V0 B ⟨a21, b21⟩ nn v22 0 h19 S19 (by omega) (fun _ => by omega) (by omega) (by omega)) (fun u q => ⟨qp_live L19 q.1, n6_tr N19 (n6_nb q.2.1), fun y => ⟨?_, by omega, by omega, ?_⟩⟩)
      · rw [q.2.1 237 _ (by omega)]; exact f19
      · rw [← e21, ← e22, show v21.toNat = (v21 - 0).toNat by omega]; exact q.2.2 y
    · refine ok_sv (st9_unfit S19 (by omega)) ?_; intro u24 P24
      refine ok_add (by omega) ?_; intro v25 e25
      exact ok_im (sr_497 hn V0 B ⟨a21, b21⟩ nn v25 0 u24 P24.1 (by omega) (fun y => absurd y P24.2.2) (by omega) (by omega)) (fun u q => ⟨qp_dead P24.2.2 q.1, n6_tr N19 (n6_tr (n6_nb P24.2.1) (n6_nb q.2.1)), fun y => absurd (q.1.2.2 y).1 P24.2.2⟩)
  · rw [if_neg (show ¬ ¬ u15.1 = 0 by omega)]
    exact ok_ret ⟨⟨S15, a, fun y => absurd y p2⟩, n6_nb N15, fun y => absurd y p2⟩
/-- n handlers from p on, then the frames -/
def XH (h : ms_M) (c k n p q : Int) (r : ms_M) : Prop := (∀ i : Int, 0 ≤ i → i < n → CL h c (h 238 (p + 7 * i + 6).toNat)) ∧ XF h c k (p + 7 * n) q r
theorem sr_381 (hn : 1000000 ≤ nn) (V0 : VS_ h) (hc : 0 ≤ c ∧ c ≤ 7) (B : Live h → SI8 h c) {l2 l8 : Int} (h2 : 0 ≤ l2 ∧ l2 < 12) (h8 : 0 ≤ l8 ∧ l8 ≤ 255) : ∀ (k : Nat) (l4 l9 : Int) (g : ms_M), ST8 h g c → (0 ≤ l4 ∧ l4 ≤ 80000) → (Live g → l4 ≤ h 160 113) → (0 ≤ l9 ∧ l9 ≤ l8) → l8 - l9 < (k : Int) → Ok_ (qw_X13_scanMethod_381 nn k c l2 l4 l8 l9 g) (QM9 237 (XH h c l2 (l8 - l9) l4) h c l2 g) := by
  have g113 := gF_160_113 V0
  intro k
  induction k with
  | zero => intro l4 l9 g S a l b hm; exfalso; omega
  | succ k ih =>
    intro l4 l9 g S a l b hm
    unfold qw_X13_scanMethod_381
    refine ok_if (fun C => ?_) (fun C => ?_)
    · refine ok_im (sr_444 hn V0 hc B h2 S a) (fun u q => qm_live (Nat.le_refl _) id (n6_nb nb_rf) (fun q r _ w => ⟨fun i i1 i2 => by exfalso; omega, ?_⟩) q)
      rw [show l4 + 7 * (l8 - l9) = l4 by omega]; exact w
    refine ok_if (fun D => ?_) (fun D => ?_)
    · exact ok_im (sr_444 hn V0 hc B h2 S a) (fun u q => qm_dead (Nat.le_refl _) D (n6_nb nb_rf) q)
    have l := l (Classical.not_not.1 D)
    refine ok_add (by omega) ?_; intro v29 e29
    refine ok_sv (st9_byte S) ?_; intro u31 P
    obtain ⟨S31, N31, P⟩ := P
    rcases P with ⟨p1, p2, p3, p4⟩ | ⟨p1, p2⟩
    · rw [if_neg (show ¬ u31.1 = 0 by omega), p2]
      have Bh := B (S.2.2.2 p3)
      refine ok_add (by omega) ?_; intro v35 e35
      refine ok_rd (by omega) (gA_238 S.1) ?_; intro v36 e36 _ _
      rw [(S.2.1.1 _).1, e35] at e36
      refine ok_sv (st8_class S Bh) ?_; intro u38 P38
      refine ok_if (fun F => ?_) (fun _ => ?_)
      · refine ok_add (by omega) ?_; intro v39 e39
        refine ok_add (by omega) ?_; intro v40 e40
        refine ok_im (ih v39 v40 g S (by omega) (fun _ => by omega) (by omega) (by omega)) (fun u q => qm_live (Nat.le_refl _) id (n6_nb nb_rf) (fun q r _ w => ⟨fun i i1 i2 => ?_, ?_⟩) q)
        · by_cases z : i = 0
          · rw [z, show l4 + 7 * 0 + 6 = l4 + 6 by omega, ← e36]; exact P38.2 F
          · have := w.1 (i - 1) (by omega) (by omega)
            rw [show v39 + 7 * (i - 1) + 6 = l4 + 7 * i + 6 by omega] at this
            exact this
        · rw [show l4 + 7 * (l8 - l9) = v39 + 7 * (l8 - v40) by omega]; exact w.2
      · refine ok_add (by omega) ?_; intro v41 e41
        refine ok_sv (st9_unfit S (by omega)) ?_; intro u43 P43
        refine ok_add (by omega) ?_; intro v44 e44
        refine ok_add (by omega) ?_; intro v45 e45
        exact ok_im (ih v44 v45 u43 P43.1 (by omega) (fun y => absurd y P43.2.2) (by omega) (by omega)) (fun u q => qm_dead (Nat.le_refl _) P43.2.2 (n6_nb P43.2.1) q)
    · rw [if_pos p1]
      refine ok_add (by omega) ?_; intro v32 e32
      refine ok_add (by omega) ?_; intro v33 e33
      exact ok_im (ih v32 v33 u31.2 S31 (by omega) (fun y => absurd y p2) (by omega) (by omega)) (fun u q => qm_dead (Nat.le_refl _) p2 (n6_nb N31) q)
/-- the handlers' row at p, and its place is kept -/
def XR (h : ms_M) (c k p q : Int) (r : ms_M) : Prop := r 236 (12 * c + k).toNat = p ∧ p < h 160 113 ∧ h 238 p.toNat ≤ 20 ∧ XH h c k (h 238 p.toNat) (p + 1) q r
theorem sr_328 (hn : 1000000 ≤ nn) (V0 : VS_ h) (hc : 0 ≤ c ∧ c ≤ 7) (B : Live h → SI8 h c) {l2 l4 : Int} (h2 : 0 ≤ l2 ∧ l2 < 12) (S : ST8 h g c) (a : 0 ≤ l4 ∧ l4 ≤ 80000) : Ok_ (qj_X13_scanMethod_328 nn c l2 l4 g) (QM9 236 (XR h c l2 l4) h c l2 g) := by
  have g113 := gF_160_113 V0
  unfold qj_X13_scanMethod_328
  refine ok_sv (st9_byte S) ?_; intro u15 P
  obtain ⟨S15, N15, P⟩ := P
  rcases P with ⟨p1, p2, p3, p4⟩ | ⟨p1, p2⟩
  · rw [if_pos (show ¬ u15.1 = 0 by omega), p2]
    refine ok_mul (by omega) ?_; intro v17 e17
    refine ok_add (by omega) ?_; intro v18 e18
    refine ok_wA (by omega) ?_; intro h19 E19
    have V19 : VS_ h19 := by rw [E19]; exact wA_236 S.1 (by omega)
    obtain ⟨S19, L19⟩ := st8_up S E19 V19 (by decide) (.inr ⟨by decide, by omega, by omega⟩)
    have N19 : NB6 236 c l2 g h19 := fun x j w1 w2 => by rw [E19, up_n (by omega)]
    have f19 : h19 236 (12 * c + l2).toNat = l4 := by rw [E19, show 12 * c + l2 = v18 by omega, up_s]
    refine ok_rd (by omega) (gA_238 V19) ?_; intro v21 e21 a21 b21
    rw [(S19.2.1.1 _).1] at e21
    refine ok_if (fun F => ?_) (fun _ => ?_)
    · refine ok_add (by omega) ?_; intro v22 e22
      obtain ⟨u, e1, q⟩ := sr_381 hn V0 hc B h2 ⟨a21, b21⟩ nn v22 0 h19 S19 (by omega) (fun _ => by omega) (by omega) (by omega)
      refine ⟨u, e1, qp_live L19 q.1, n6_tr N19 (n6_mo (by decide) q.2.1), fun y => ⟨?_, by omega, by omega, ?_⟩⟩
      · rw [q.2.1 236 _ (by omega) (by omega)]; exact f19
      · have w := q.2.2 y
        rw [← e21, ← e22, show v21 = v21 - 0 by omega]; exact w
    · refine ok_sv (st9_unfit S19 (by omega)) ?_; intro u24 P24
      refine ok_add (by omega) ?_; intro v25 e25
      exact ok_im (sr_381 hn V0 hc B h2 ⟨a21, b21⟩ nn v25 0 u24 P24.1 (by omega) (fun y => absurd y P24.2.2) (by omega) (by omega)) (fun u q => ⟨qp_dead P24.2.2 q.1, n6_tr N19 (n6_tr (n6_nb P24.2.1) (n6_mo (by decide) q.2.1)), fun y => absurd (q.1.2.2 y).1 P24.2.2⟩)
  · rw [if_neg (show ¬ ¬ u15.1 = 0 by omega)]
    exact ok_ret ⟨⟨S15, a, fun y => absurd y p2⟩, n6_nb N15, fun y => absurd y p2⟩
end
end
section
section
variable {nn : Nat} {h g r z : ms_M} {c : Int}
theorem ok_both {α : Type} {x : Option α} {P Q : α → Prop} (a : Ok_ x P) (b : Ok_ x Q) : Ok_ x (fun u => P u ∧ Q u) := by
  obtain ⟨u, e, p⟩ := a
  obtain ⟨v, e2, q⟩ := b
  rw [e] at e2
  cases e2
  exact ⟨u, e, p, q⟩
/-- two bytes as a number -/
def pw (a b : Int) : Int := oq_or (256 * a) b
theorem sr_pair (V : VS_ g) {p : Int} (hp : 0 ≤ p ∧ p + 1 < 6000) : Ok_ (qf_X13_pairAt nn p g) (fun u => (0 ≤ u ∧ u ≤ 65535) ∧ u = pw (g 238 p.toNat) (g 238 (p + 1).toNat)) := by
  unfold qf_X13_pairAt
  refine ok_rd (by omega) (gA_238 V) ?_; intro v2 e2 a2 b2
  refine ok_shl8 ⟨a2, b2⟩ ?_; intro v3 e3
  refine ok_add (by omega) ?_; intro v5 e5
  refine ok_rd (by omega) (gA_238 V) ?_; intro v6 e6 a6 b6
  refine ok_xl ?_; intro v7 e7
  have w := oq_or_rg (x := v3) (y := v6) (by omega) (by omega)
  refine ok_ret ⟨by rw [e7]; exact w, ?_⟩
  unfold pw
  rw [e7, ← e2, ← e5, ← e6, show (256 : Int) * v2 = v3 by omega]
/-- a method's kind has its parameters counted -/
theorem sk_par2 (hn : 1000000 ≤ nn) (V : VS_ h) (hc : h 160 115 = c) (S : CSn h c (h 229 c.toNat)) {i : Int} : Ok_ (qf_X13_isText nn i 2 h) (fun u => ¬ u = 0 → ∃ m : Int, (0 ≤ m ∧ m ≤ 6) ∧ qf_X13_parametersIn nn 238 (pl h c i + 2) (h 238 (pl h c i + 1).toNat) h = some m) := by
  have g := gF_160_115 V
  have g3 := gF_160_113 V
  unfold qf_X13_isText
  refine ok_sv (sq_const V (c := h 160 115) (by omega)) ?_; intro u3 P3
  refine ok_if (fun _ => ok_ret (fun y => absurd rfl y)) (fun C => ?_)
  rcases P3 with P3 | ⟨P3, P4, P5, P6⟩
  · exfalso; omega
  rw [hc] at P3 P4
  have K := S i P3.1 P3.2
  rw [← P4] at K
  obtain ⟨K0, K⟩ := K
  refine ok_rd (by omega) (gA_238 V) ?_; intro v5 e5 _ _
  refine ok_if (fun D => ?_) (fun _ => ok_ret (fun y => absurd rfl y))
  have K : (1 ≤ h 238 (u3 + 1).toNat ∧ h 238 (u3 + 1).toNat ≤ 120) ∧ u3 + 2 + h 238 (u3 + 1).toNat ≤ h 160 113 := by
    rcases K with K | K | K | K
    · exact K.2
    · exfalso; omega
    · exfalso; omega
    · exfalso; omega
  refine ok_add (by omega) ?_; intro v7 e7
  refine ok_rd (by omega) (gA_238 V) ?_; intro v8 e8 _ _
  rw [e7] at e8
  refine ok_if (fun E => absurd E (by decide)) (fun _ => ?_)
  refine ok_if (fun E => absurd E (by decide)) (fun _ => ?_)
  refine ok_if (fun _ => ?_) (fun E => absurd rfl E)
  refine ok_add (by omega) ?_; intro v22 e22
  unfold qf_X13_isMethodKind
  obtain ⟨u1, e1, P1⟩ := sc_pars hn (c := 238) (n := 6000) (.inl ⟨rfl, rfl⟩) V (a := v22) (l := v8) (by omega) (by omega) (by omega)
  rw [← P4, ← e8, ← e22, e1, mx_svs]
  refine ok_sv (P := fun u => (u = 0 ∨ u = 1) ∧ (¬ u = 0 → 0 ≤ u1 ∧ u1 ≤ 6)) ?_ ?_
  · refine ok_if (fun _ => ok_ret ⟨.inl rfl, fun y => absurd rfl y⟩) (fun C2 => ?_)
    exact ok_if (fun _ => ok_ret ⟨.inl rfl, fun y => absurd rfl y⟩) (fun C3 => ok_ret ⟨.inr rfl, fun _ => by omega⟩)
  · intro u P
    exact ok_ck P.1 (ok_ret (fun y => ⟨u1, P.2 y, rfl⟩))
theorem st9_text2 (hn : 1000000 ≤ nn) (S : ST8 h g c) (B : SI8 h c) {i : Int} : Ok_ (qf_X13_isText nn i 2 g) (fun u => (u = 0 ∨ u = 1) ∧ (¬ u = 0 → TS 2 h c i ∧ ∃ m : Int, (0 ≤ m ∧ m ≤ 6) ∧ qf_X13_parametersIn nn 238 (pl h c i + 2) (h 238 (pl h c i + 1).toNat) g = some m)) := by
  have K := S.2.1
  have Bg := si8_ke K B
  refine ok_im (ok_both (st9_text hn S B) (sk_par2 hn S.1 Bg.1 Bg.2.1)) (fun u P => ⟨P.1.1, fun y => ⟨P.1.2 y, ?_⟩⟩)
  have t := P.2 y
  rw [pl_ke K, (K.1 _).1] at t
  exact t
/-- behind the code: the handlers and the frames -/
theorem sr_293 (hn : 1000000 ≤ nn) (V0 : VS_ h) (hc : 0 ≤ c ∧ c ≤ 7) (B : Live h → SI8 h c) {l2 l4 l7 : Int} (h2 : 0 ≤ l2 ∧ l2 < 12) (h7 : 0 ≤ l7 ∧ l7 ≤ 65535) (S : ST8 h g c) (a : 0 ≤ l4 ∧ l4 ≤ 6000) : Ok_ (qj_X13_scanMethod_293 nn c l2 l4 l7 g) (QM9 236 (XR h c l2 (l4 + 7 + l7)) h c l2 g) := by
  have g113 := gF_160_113 S.1
  unfold qj_X13_scanMethod_293
  refine ok_add (by omega) ?_; intro v64 e64
  refine ok_add (by omega) ?_; intro v65 e65
  rw [show l4 + 7 + l7 = v65 by omega]
  refine ok_if (fun _ => sr_328 hn V0 hc B h2 S (by omega)) (fun D => ?_)
  refine ok_if (fun _ => sr_328 hn V0 hc B h2 S (by omega)) (fun _ => ?_)
  refine ok_xl ?_; intro h69 E69
  have q : h69 160 114 = g 160 113 := by rw [E69, up_s]
  have d : ¬ Live h69 := by unfold Live; omega
  have N : NB g h69 := fun x k w => by rw [E69, up_n w]
  have S69 : ST8 h h69 c := ⟨by rw [E69]; exact wF_160_114 S.1 (by omega), ke8_tr S.2.1 (ke_nb N), nt8_tr S.2.2.1 (nt8_nb N), fun y => absurd y d⟩
  exact ok_im (sr_328 hn V0 hc B h2 S69 (by omega)) (fun u w => qm_dead (Nat.le_refl _) d (n6_nb N) w)
theorem sr_285 {X : Int → ms_M → Prop} (hn : 1000000 ≤ nn) (V0 : VS_ h) (hc : 0 ≤ c ∧ c ≤ 7) (B : Live h → SI8 h c) {l2 l4 l7 : Int} (h2 : 0 ≤ l2 ∧ l2 < 12) (h7 : 0 ≤ l7 ∧ l7 ≤ 65535) (S : ST8 h g c) (a : 0 ≤ l4 ∧ l4 ≤ 6000) : Ok_ (qj_X13_scanMethod_285 nn c l2 l4 l7 g) (QM9 236 X h c l2 g) := by
  unfold qj_X13_scanMethod_285
  refine ok_add (by omega) ?_; intro v72 e72
  refine ok_sv (st9_unfit S (by omega)) ?_; intro u74 P
  exact ok_im (sr_293 hn V0 hc B h2 h7 P.1 a) (fun u w => qm_dead (Nat.le_refl _) P.2.2 (n6_nb P.2.1) w)
/-- the code of the method at p and what is behind it -/
def XC (h : ms_M) (c k p q : Int) (r : ms_M) : Prop := (1 ≤ pw (h 238 (p + 5).toNat) (h 238 (p + 6).toNat) ∧ pw (h 238 (p + 5).toNat) (h 238 (p + 6).toNat) ≤ 1500) ∧ XR h c k (p + 7 + pw (h 238 (p + 5).toNat) (h 238 (p + 6).toNat)) q r
theorem sr_232 (hn : 1000000 ≤ nn) (V0 : VS_ h) (hc : 0 ≤ c ∧ c ≤ 7) (B : Live h → SI8 h c) {l2 l4 : Int} (h2 : 0 ≤ l2 ∧ l2 < 12) (S : ST8 h g c) (a : 0 ≤ l4 ∧ l4 ≤ 6000) : Ok_ (qj_X13_scanMethod_232 nn c l2 l4 g) (QM9 236 (XC h c l2 l4) h c l2 g) := by
  have g113 := gF_160_113 V0
  unfold qj_X13_scanMethod_232
  refine ok_add (by omega) ?_; intro v75 e75
  refine ok_sv (st9_byte S) ?_; intro u77 P
  obtain ⟨S77, N77, P⟩ := P
  rcases P with ⟨p1, p2, p3, p4⟩ | ⟨p1, p2⟩
  · rw [if_pos (show ¬ u77.1 = 0 by omega), p2]
    refine ok_add (by omega) ?_; intro v78 e78
    refine ok_sv (st9_byte S) ?_; intro u80 P
    obtain ⟨S80, N80, P⟩ := P
    rcases P with ⟨q1, q2, q3, q4⟩ | ⟨q1, q2⟩
    · rw [if_pos (show ¬ u80.1 = 0 by omega), q2]
      refine ok_add (by omega) ?_; intro v81 e81
      refine ok_sv (sr_pair S.1 (by omega)) ?_; intro u83 P83
      obtain ⟨P83, W⟩ := P83
      rw [f238 S.2.1, e81, show l4 + 5 + 1 = l4 + 6 by omega] at W
      refine ok_if (fun _ => sr_285 hn V0 hc B h2 P83 S a) (fun E => ?_)
      refine ok_if (fun F => ?_) (fun _ => sr_285 hn V0 hc B h2 P83 S a)
      refine ok_im (sr_293 hn V0 hc B h2 P83 S a) (fun u q => qm_live (Nat.le_refl _) id (n6_nb nb_rf) (fun q r _ w => ?_) q)
      unfold XC
      rw [← W]
      exact ⟨by omega, w⟩
    · rw [if_neg (show ¬ ¬ u80.1 = 0 by omega)]
      exact ok_ret ⟨⟨S80, by show 0 ≤ l4 ∧ l4 ≤ 80000; omega, fun y => absurd y q2⟩, n6_nb N80, fun y => absurd y q2⟩
  · rw [if_neg (show ¬ ¬ u77.1 = 0 by omega)]
    exact ok_ret ⟨⟨S77, by show 0 ≤ l4 ∧ l4 ≤ 80000; omega, fun y => absurd y p2⟩, n6_nb N77, fun y => absurd y p2⟩
/-- its locals hold its parameters -/
def XD (h : ms_M) (c k p q : Int) (r : ms_M) : Prop := h 238 (p + 4).toNat ≤ 30 ∧ (∃ m : Nat, m ≤ 6 ∧ MKn (h 238) m (pl h c (h 238 (p + 2).toNat) + 2) (pl h c (h 238 (p + 2).toNat) + 2 + h 238 (pl h c (h 238 (p + 2).toNat) + 1).toNat) ∧ (m : Int) + 1 ≤ h 238 (p + 4).toNat + h 238 p.toNat) ∧ XC h c k p q r
theorem sr_134 (hn : 1000000 ≤ nn) (V0 : VS_ h) (hc : 0 ≤ c ∧ c ≤ 7) (B : Live h → SI8 h c) {l2 l4 : Int} (h2 : 0 ≤ l2 ∧ l2 < 12) (S : ST8 h g c) (a : 0 ≤ l4 ∧ l4 ≤ 6000) (t : Live g → TS 2 h c (h 238 (l4 + 2).toNat) ∧ ∃ m : Int, (0 ≤ m ∧ m ≤ 6) ∧ qf_X13_parametersIn nn 238 (pl h c (h 238 (l4 + 2).toNat) + 2) (h 238 (pl h c (h 238 (l4 + 2).toNat) + 1).toNat) g = some m) : Ok_ (qj_X13_scanMethod_134 nn c l2 l4 g) (QM9 236 (XD h c l2 l4) h c l2 g) := by
  have g113 := gF_160_113 V0
  have K := S.2.1
  unfold qj_X13_scanMethod_134
  refine ok_add (by omega) ?_; intro v91 e91
  refine ok_sv (st9_byte S) ?_; intro u93 P
  obtain ⟨S93, N93, P⟩ := P
  rcases P with ⟨p1, p2, p3, p4⟩ | ⟨p1, p2⟩
  · rw [if_pos (show ¬ u93.1 = 0 by omega), p2]
    have Bh := B (S.2.2.2 p3)
    obtain ⟨t, m, m0, em⟩ := t p3
    have t := t.1
    refine ok_add (by omega) ?_; intro v95 e95
    refine ok_rd (by omega) (gA_238 S.1) ?_; intro v96 e96 _ _
    rw [e95, (K.1 _).1] at e96
    unfold XD
    rw [← e96] at t em ⊢
    refine ok_sv (sq_const S.1 hc) ?_; intro u98 P98
    have P98 : u98 = pl h c v96 ∧ 0 ≤ u98 ∧ u98 ≤ 6000 := by
      rcases P98 with P98 | P98
      · exfalso; have := t.1; rw [K.2.2.2] at P98; exact P98.2 this
      · exact ⟨by rw [P98.2.1, pl_ke K], P98.2.2⟩
    have cp := Bh.2.1 v96 t.1.1 t.1.2
    rw [← P98.1] at cp em ⊢
    have tg : h 238 u98.toNat = 1 := by rw [P98.1]; exact t.2
    have cp2 : (1 ≤ h 238 (u98 + 1).toNat ∧ h 238 (u98 + 1).toNat ≤ 120) ∧ u98 + 2 + h 238 (u98 + 1).toNat ≤ h 160 113 := by
      obtain ⟨_, x⟩ := cp
      rcases x with x | x | x | x
      · exact x.2
      · exfalso; omega
      · exfalso; omega
      · exfalso; omega
    refine ok_add (by omega) ?_; intro v100 e100
    refine ok_add (by omega) ?_; intro v102 e102
    refine ok_rd (by omega) (gA_238 S.1) ?_; intro v103 e103 _ _
    rw [e102, (K.1 _).1] at e103
    rw [← e100, ← e103] at em ⊢
    have MK : MKn (h 238) m.toNat v100 (v100 + v103) := by
      obtain ⟨u, eu, Pu⟩ := sk_pars hn (c := 238) (n := 6000) (.inl ⟨rfl, rfl⟩) S.1 (a := v100) (l := v103) (by omega) (by omega) (by omega)
      rw [em] at eu
      cases eu
      rcases Pu with Pu | Pu
      · exfalso; omega
      · rw [f238 K] at Pu; exact Pu.2
    rw [em, mx_svs]
    refine ok_add (by omega) ?_; intro v105 e105
    refine ok_rd (by omega) (gA_238 S.1) ?_; intro v107 e107 _ _
    rw [(K.1 _).1] at e107
    refine ok_sub (by omega) ?_; intro v108 e108
    refine ok_add (by omega) ?_; intro v110 e110
    refine ok_rd (by omega) (gA_238 S.1) ?_; intro v111 e111 _ _
    rw [(K.1 _).1, e110] at e111
    have bad : ∀ X : Int → ms_M → Prop, Ok_ (qj_X13_scanMethod_224 nn c l2 l4 g) (QM9 236 X h c l2 g) := fun X => by
      unfold qj_X13_scanMethod_224
      refine ok_add (by omega) ?_; intro v88 e88
      refine ok_sv (st9_unfit S (by omega)) ?_; intro u90 P90
      exact ok_im (sr_232 hn V0 hc B h2 P90.1 a) (fun u w => qm_dead (Nat.le_refl _) P90.2.2 (n6_nb P90.2.1) w)
    refine ok_if (fun _ => bad _) (fun F => ?_)
    refine ok_add (by omega) ?_; intro v113 e113
    refine ok_rd (by omega) (gA_238 S.1) ?_; intro v114 e114 _ _
    rw [(K.1 _).1, e113] at e114
    refine ok_if (fun G => ?_) (fun _ => bad _)
    refine ok_im (sr_232 hn V0 hc B h2 S a) (fun u q => qm_live (Nat.le_refl _) id (n6_nb nb_rf) (fun q r _ w => ⟨by omega, ⟨m.toNat, by omega, MK, by omega⟩, w⟩) q)
  · rw [if_neg (show ¬ ¬ u93.1 = 0 by omega)]
    exact ok_ret ⟨⟨S93, by show 0 ≤ l4 ∧ l4 ≤ 80000; omega, fun y => absurd y p2⟩, n6_nb N93, fun y => absurd y p2⟩
def XE (h : ms_M) (c k p q : Int) (r : ms_M) : Prop := h 238 (p + 3).toNat ≤ 30 ∧ XD h c k p q r
theorem sr_101 (hn : 1000000 ≤ nn) (V0 : VS_ h) (hc : 0 ≤ c ∧ c ≤ 7) (B : Live h → SI8 h c) {l2 l4 : Int} (h2 : 0 ≤ l2 ∧ l2 < 12) (S : ST8 h g c) (a : 0 ≤ l4 ∧ l4 ≤ 6000) (t : Live g → TS 2 h c (h 238 (l4 + 2).toNat) ∧ ∃ m : Int, (0 ≤ m ∧ m ≤ 6) ∧ qf_X13_parametersIn nn 238 (pl h c (h 238 (l4 + 2).toNat) + 2) (h 238 (pl h c (h 238 (l4 + 2).toNat) + 1).toNat) g = some m) : Ok_ (qj_X13_scanMethod_101 nn c l2 l4 g) (QM9 236 (XE h c l2 l4) h c l2 g) := by
  have g113 := gF_160_113 V0
  unfold qj_X13_scanMethod_101
  refine ok_add (by omega) ?_; intro v118 e118
  refine ok_sv (st9_byte S) ?_; intro u120 P
  obtain ⟨S120, N120, P⟩ := P
  rcases P with ⟨p1, p2, p3, p4⟩ | ⟨p1, p2⟩
  · rw [if_neg (show ¬ u120.1 = 0 by omega), p2]
    refine ok_add (by omega) ?_; intro v122 e122
    refine ok_rd (by omega) (gA_238 S.1) ?_; intro v123 e123 _ _
    rw [(S.2.1.1 _).1, e122] at e123
    refine ok_if (fun F => ?_) (fun _ => ?_)
    · exact ok_im (sr_134 hn V0 hc B h2 S a t) (fun u q => qm_live (Nat.le_refl _) id (n6_nb nb_rf) (fun q r _ w => ⟨by omega, w⟩) q)
    refine ok_add (by omega) ?_; intro v124 e124
    refine ok_sv (st9_unfit S (by omega)) ?_; intro u126 P126
    exact ok_im (sr_134 hn V0 hc B h2 P126.1 a (fun y => absurd y P126.2.2)) (fun u w => qm_dead (Nat.le_refl _) P126.2.2 (n6_nb P126.2.1) w)
  · rw [if_pos p1]
    exact ok_im (sr_134 hn V0 hc B h2 S120 a (fun y => absurd y p2)) (fun u w => qm_dead (Nat.le_refl _) p2 (n6_nb N120) w)
def XG (h : ms_M) (c k p q : Int) (r : ms_M) : Prop := TS 2 h c (h 238 (p + 2).toNat) ∧ XE h c k p q r
theorem sr_65 (hn : 1000000 ≤ nn) (V0 : VS_ h) (hc : 0 ≤ c ∧ c ≤ 7) (B : Live h → SI8 h c) {l2 l4 : Int} (h2 : 0 ≤ l2 ∧ l2 < 12) (S : ST8 h g c) (a : 0 ≤ l4 ∧ l4 ≤ 6000) : Ok_ (qj_X13_scanMethod_65 nn c l2 l4 g) (QM9 236 (XG h c l2 l4) h c l2 g) := by
  have g113 := gF_160_113 V0
  have K := S.2.1
  unfold qj_X13_scanMethod_65
  refine ok_add (by omega) ?_; intro v118 e118
  refine ok_sv (st9_byte S) ?_; intro u120 P
  obtain ⟨S120, N120, P⟩ := P
  rcases P with ⟨p1, p2, p3, p4⟩ | ⟨p1, p2⟩
  · rw [if_neg (show ¬ u120.1 = 0 by omega), p2]
    have Bh := B (S.2.2.2 p3)
    refine ok_add (by omega) ?_; intro v122 e122
    refine ok_rd (by omega) (gA_238 S.1) ?_; intro v123 e123 _ _
    rw [e122, (K.1 _).1] at e123
    refine ok_sv (st9_text2 hn S Bh) ?_; intro u136 P136
    refine ok_if (fun F => ?_) (fun _ => ?_)
    · have w := P136.2 F
      rw [e123] at w
      exact ok_im (sr_101 hn V0 hc B h2 S a (fun _ => w)) (fun u q => qm_live (Nat.le_refl _) id (n6_nb nb_rf) (fun q r _ y => ⟨w.1, y⟩) q)
    refine ok_add (by omega) ?_; intro v124 e124
    refine ok_sv (st9_unfit S (by omega)) ?_; intro u126 P126
    exact ok_im (sr_101 hn V0 hc B h2 P126.1 a (fun y => absurd y P126.2.2)) (fun u w => qm_dead (Nat.le_refl _) P126.2.2 (n6_nb P126.2.1) w)
  · rw [if_pos p1]
    exact ok_im (sr_101 hn V0 hc B h2 S120 a (fun y => absurd y p2)) (fun u w => qm_dead (Nat.le_refl _) p2 (n6_nb N120) w)
def XI (h : ms_M) (c k p q : Int) (r : ms_M) : Prop := TS 0 h c (h 238 (p + 1).toNat) ∧ XG h c k p q r
theorem sr_29 (hn : 1000000 ≤ nn) (V0 : VS_ h) (hc : 0 ≤ c ∧ c ≤ 7) (B : Live h → SI8 h c) {l2 l4 : Int} (h2 : 0 ≤ l2 ∧ l2 < 12) (S : ST8 h g c) (a : 0 ≤ l4 ∧ l4 ≤ 6000) : Ok_ (qj_X13_scanMethod_29 nn c l2 l4 g) (QM9 236 (XI h c l2 l4) h c l2 g) := by
  have g113 := gF_160_113 V0
  have K := S.2.1
  unfold qj_X13_scanMethod_29
  refine ok_add (by omega) ?_; intro v118 e118
  refine ok_sv (st9_byte S) ?_; intro u120 P
  obtain ⟨S120, N120, P⟩ := P
  rcases P with ⟨p1, p2, p3, p4⟩ | ⟨p1, p2⟩
  · rw [if_neg (show ¬ u120.1 = 0 by omega), p2]
    have Bh := B (S.2.2.2 p3)
    refine ok_add (by omega) ?_; intro v122 e122
    refine ok_rd (by omega) (gA_238 S.1) ?_; intro v123 e123 _ _
    rw [e122, (K.1 _).1] at e123
    refine ok_sv (st9_text hn S Bh) ?_; intro u136 P136
    refine ok_if (fun F => ?_) (fun _ => ?_)
    · have w := P136.2 F
      rw [e123] at w
      exact ok_im (sr_65 hn V0 hc B h2 S a) (fun u q => qm_live (Nat.le_refl _) id (n6_nb nb_rf) (fun q r _ y => ⟨w, y⟩) q)
    refine ok_add (by omega) ?_; intro v124 e124
    refine ok_sv (st9_unfit S (by omega)) ?_; intro u126 P126
    exact ok_im (sr_65 hn V0 hc B h2 P126.1 a) (fun u w => qm_dead (Nat.le_refl _) P126.2.2 (n6_nb P126.2.1) w)
  · rw [if_pos p1]
    exact ok_im (sr_65 hn V0 hc B h2 S120 a) (fun u w => qm_dead (Nat.le_refl _) p2 (n6_nb N120) w)
/-- the method k of image c, from p to q -/
def XM (h : ms_M) (c k p q : Int) (r : ms_M) : Prop := h 238 p.toNat ≤ 1 ∧ XI h c k p q r
theorem sr_method (hn : 1000000 ≤ nn) (V0 : VS_ h) (hc : 0 ≤ c ∧ c ≤ 7) (B : Live h → SI8 h c) {l2 l4 : Int} (h2 : 0 ≤ l2 ∧ l2 < 12) (S : ST8 h g c) (a : 0 ≤ l4 ∧ l4 ≤ 6000) : Ok_ (qf_X13_scanMethod nn c l2 l4 g) (QM9 236 (XM h c l2 l4) h c l2 g) := by
  have g113 := gF_160_113 V0
  unfold qf_X13_scanMethod
  refine ok_sv (st9_byte S) ?_; intro u120 P
  obtain ⟨S120, N120, P⟩ := P
  rcases P with ⟨p1, p2, p3, p4⟩ | ⟨p1, p2⟩
  · rw [if_neg (show ¬ u120.1 = 0 by omega), p2]
    refine ok_rd (by omega) (gA_238 S.1) ?_; intro v158 e158 _ _
    rw [(S.2.1.1 _).1] at e158
    refine ok_if (fun F => ?_) (fun _ => ?_)
    · exact ok_im (sr_29 hn V0 hc B h2 S a) (fun u q => qm_live (Nat.le_refl _) id (n6_nb nb_rf) (fun q r _ y => ⟨by omega, y⟩) q)
    refine ok_sv (st9_unfit S (by omega)) ?_; intro u126 P126
    exact ok_im (sr_29 hn V0 hc B h2 P126.1 a) (fun u w => qm_dead (Nat.le_refl _) P126.2.2 (n6_nb P126.2.1) w)
  · rw [if_pos p1]
    exact ok_im (sr_29 hn V0 hc B h2 S120 a) (fun u w => qm_dead (Nat.le_refl _) p2 (n6_nb N120) w)
end
end
section
section
variable {nn : Nat} {h g r z w : ms_M} {c : Int}
/-- what reading fields from number a on writes -/
def NF (a c : Int) (g r : ms_M) : Prop := ∀ x j : Nat, ¬ (x = 160 ∧ j = 114) → ¬ (x = 233 ∧ 12 * c + a ≤ (j : Int) ∧ (j : Int) < 12 * c + 12) → r x j = g x j
theorem nf_nb {a : Int} (N : NB g r) : NF a c g r := fun x j w _ => N x j w
theorem nf_tr {a : Int} (p : NF a c g z) (b : NF a c z r) : NF a c g r := fun x j w1 w2 => (b x j w1 w2).trans (p x j w1 w2)
theorem nf_mo {a b : Int} (ab : b ≤ a) (p : NF a c g r) : NF b c g r := fun x j w1 w2 => p x j w1 (by omega)
/-- field j of image c at p -/
def FLD (h : ms_M) (c : Int) (r : ms_M) (j p : Int) : Prop := r 233 (12 * c + j).toNat = p ∧ (0 ≤ p ∧ p + 2 ≤ h 160 113) ∧ TS 0 h c (h 238 p.toNat) ∧ TS 1 h c (h 238 (p + 1).toNat)
def QF9 (a n : Int) (l : Int) (h : ms_M) (c : Int) (g : ms_M) (u : Int × ms_M) : Prop := QP8 h c g u ∧ NF a c g u.2 ∧ (Live u.2 → ∀ j : Int, a ≤ j → j < n → FLD h c u.2 j (l + 2 * (j - a)))
theorem sr_35 (hn : 1000000 ≤ nn) (V0 : VS_ h) (hc : 0 ≤ c ∧ c ≤ 7) (B : Live h → SI8 h c) {l2 : Int} (h2 : 0 ≤ l2 ∧ l2 < 6000) : ∀ (k : Nat) (l3 l4 : Int) (g : ms_M), ST8 h g c → (0 ≤ l3 ∧ l3 ≤ 80000) → (Live g → l3 ≤ h 160 113 ∧ h 238 l2.toNat ≤ 12) → (0 ≤ l4 ∧ l4 ≤ 255) → 256 - l4 < (k : Int) → Ok_ (qw_X13_scanFields_35 nn k c l2 l3 l4 g) (QF9 l4 (h 238 l2.toNat) l3 h c g) := by
  have g113 := gF_160_113 V0
  intro k
  induction k with
  | zero => intro l3 l4 g S a l b hm; exfalso; omega
  | succ k ih =>
    intro l3 l4 g S a l b hm
    have K := S.2.1
    unfold qw_X13_scanFields_35
    refine ok_rd (by omega) (gA_238 S.1) ?_; intro v21 e21 a21 b21
    rw [(K.1 _).1] at e21
    refine ok_if (fun _ => ok_ret ⟨⟨S, a, fun y => ⟨y, (l y).1⟩⟩, nf_nb nb_rf, fun _ j j1 j2 => by exfalso; omega⟩) (fun C => ?_)
    refine ok_if (fun D => ok_ret ⟨⟨S, a, fun y => absurd y D⟩, nf_nb nb_rf, fun y => absurd y D⟩) (fun D => ?_)
    have D : Live g := Classical.not_not.1 D
    have l := l D
    have Bh := B (S.2.2.2 D)
    refine ok_mul (by omega) ?_; intro v24 e24
    refine ok_add (by omega) ?_; intro v25 e25
    refine ok_wA (by omega) ?_; intro h26 E26
    have V26 : VS_ h26 := by rw [E26]; exact wA_233 S.1 (by omega)
    obtain ⟨S26, L26⟩ := st8_up S E26 V26 (by decide) (.inr ⟨by decide, by omega, by omega⟩)
    have N26 : NF l4 c g h26 := fun x j w1 w2 => by rw [E26, up_n (by omega)]
    have f26 : h26 233 (12 * c + l4).toNat = l3 := by rw [E26, show 12 * c + l4 = v25 by omega, up_s]
    have J : ∀ f : ms_M, ST8 h f c → NB h26 f → (Live f → Live g ∧ TS 0 h c (h 238 l3.toNat)) → Ok_ (qj_X13_scanFields_94 nn (qw_X13_scanFields_35 nn k) c l2 l3 l4 f) (QF9 l4 (h 238 l2.toNat) l3 h c g) := fun f Sf Nf lf => by
      have dead : ∀ (f2 : ms_M) (v w2 : Int) (u : Int × ms_M), ¬ Live f2 → NB h26 f2 → w2 = l4 + 1 → QF9 w2 (h 238 l2.toNat) v h c f2 u → QF9 l4 (h 238 l2.toNat) l3 h c g u := fun f2 v w2 u d N e q => ⟨qp_dead d q.1, nf_tr N26 (nf_tr (nf_nb N) (nf_mo (by omega) q.2.1)), fun y => absurd (q.1.2.2 y).1 d⟩
      unfold qj_X13_scanFields_94
      refine ok_add (by omega) ?_; intro v1 e1
      refine ok_sv (st9_byte Sf) ?_; intro u3 P3
      obtain ⟨S3, N3, P3⟩ := P3
      rcases P3 with ⟨q1, q2, q3, q4⟩ | ⟨q1, q2⟩
      · rw [if_neg (show ¬ u3.1 = 0 by omega), q2]
        refine ok_add (by omega) ?_; intro v7 e7
        refine ok_rd (by omega) (gA_238 Sf.1) ?_; intro v8 e8 _ _
        rw [(Sf.2.1.1 _).1, e7] at e8
        refine ok_sv (st9_text hn Sf Bh) ?_; intro u10 P10
        refine ok_if (fun F => ?_) (fun _ => ?_)
        · refine ok_add (by omega) ?_; intro v11 e11
          refine ok_add (by omega) ?_; intro v12 e12
          refine ok_im (ih v11 v12 f Sf (by omega) (fun _ => by omega) (by omega) (by omega)) (fun u q => ⟨qp_live (fun y => (lf y).1) q.1, nf_tr N26 (nf_tr (nf_nb Nf) (nf_mo (by omega) q.2.1)), fun y j j1 j2 => ?_⟩)
          by_cases z : j = l4
          · rw [z, show l3 + 2 * (l4 - l4) = l3 by omega]
            refine ⟨?_, by omega, (lf (q.1.2.2 y).1).2, by rw [← e8]; exact P10.2 F⟩
            rw [q.2.1 233 _ (by omega) (by omega), Nf 233 _ (by omega)]; exact f26
          · have w := q.2.2 y j (by omega) j2
            rw [show v11 + 2 * (j - v12) = l3 + 2 * (j - l4) by omega] at w
            exact w
        · refine ok_add (by omega) ?_; intro v13 e13
          refine ok_sv (st9_unfit Sf (by omega)) ?_; intro u15 P15
          refine ok_add (by omega) ?_; intro v16 e16
          refine ok_add (by omega) ?_; intro v17 e17
          exact ok_im (ih v16 v17 u15 P15.1 (by omega) (fun y => absurd y P15.2.2) (by omega) (by omega)) (fun u q => dead u15 v16 v17 u P15.2.2 (nb_tr Nf P15.2.1) e17 q)
      · rw [if_pos q1]
        refine ok_add (by omega) ?_; intro v4 e4
        refine ok_add (by omega) ?_; intro v5 e5
        exact ok_im (ih v4 v5 u3.2 S3 (by omega) (fun y => absurd y q2) (by omega) (by omega)) (fun u q => dead u3.2 v4 v5 u q2 (nb_tr Nf N3) e5 q)
    refine ok_sv (st9_byte S26) ?_; intro u28 P
    obtain ⟨S28, N28, P⟩ := P
    rcases P with ⟨p1, p2, p3, p4⟩ | ⟨p1, p2⟩
    · rw [if_neg (show ¬ u28.1 = 0 by omega), p2]
      refine ok_rd (by omega) (gA_238 V26) ?_; intro v30 e30 _ _
      rw [(S26.2.1.1 _).1] at e30
      refine ok_sv (st9_text hn S26 Bh) ?_; intro u32 P32
      refine ok_if (fun F => J h26 S26 nb_rf (fun y => ⟨L26 y, by rw [← e30]; exact P32.2 F⟩)) (fun _ => ?_)
      refine ok_sv (st9_unfit S26 (by omega)) ?_; intro u34 P34
      exact J u34 P34.1 P34.2.1 (fun y => absurd y P34.2.2)
    · rw [if_pos p1]
      exact J u28.2 S28 N28 (fun y => absurd y p2)
/-- what reading the fields writes -/
def NFa (c : Int) (g r : ms_M) : Prop := ∀ x j : Nat, ¬ (x = 160 ∧ j = 114) → ¬ (x = 232 ∧ (j : Int) = c) → ¬ (x = 233 ∧ 12 * c ≤ (j : Int) ∧ (j : Int) < 12 * c + 12) → r x j = g x j
def FLDS (h : ms_M) (c : Int) (r : ms_M) : Prop := r 232 c.toNat ≤ 12 ∧ ∀ j : Int, 0 ≤ j → j < r 232 c.toNat → ∃ p : Int, FLD h c r j p
theorem sr_fields (hn : 1000000 ≤ nn) (V0 : VS_ h) (hc : 0 ≤ c ∧ c ≤ 7) (B : Live h → SI8 h c) {l2 : Int} (h2 : 0 ≤ l2 ∧ l2 < h 160 113) (S : ST8 h g c) : Ok_ (qf_X13_scanFields nn c l2 g) (fun u => QP8 h c g u ∧ NFa c g u.2 ∧ (Live u.2 → FLDS h c u.2)) := by
  have g113 := gF_160_113 V0
  have K := S.2.1
  have J : ∀ f : ms_M, ST8 h f c → NB g f → (Live f → Live g ∧ h 238 l2.toNat ≤ 12) → Ok_ (qj_X13_scanFields_16 nn c l2 f) (fun u => QP8 h c g u ∧ NFa c g u.2 ∧ (Live u.2 → FLDS h c u.2)) := fun f Sf Nf lf => by
    unfold qj_X13_scanFields_16
    refine ok_rd (by omega) (gA_238 Sf.1) ?_; intro v41 e41 a41 b41
    rw [(Sf.2.1.1 _).1] at e41
    refine ok_wA (by omega) ?_; intro h42 E42
    have V42 : VS_ h42 := by rw [E42]; exact wA_232 Sf.1 (by omega)
    obtain ⟨S42, L42⟩ := st8_up Sf E42 V42 (by decide) (.inl ⟨by decide, by omega⟩)
    refine ok_add (by omega) ?_; intro v43 e43
    refine ok_im (sr_35 hn V0 hc B (by omega) nn v43 0 h42 S42 (by omega) (fun y => ⟨by omega, (lf (L42 y)).2⟩) (by omega) (by omega)) (fun u q => ⟨qp_live (fun y => (lf (L42 y)).1) q.1, fun x j w1 w2 w3 => ?_, fun y => ?_⟩)
    · rw [q.2.1 x j w1 (by omega), E42, up_n (by omega)]; exact Nf x j w1
    · have e : u.2 232 c.toNat = h 238 l2.toNat := by rw [q.2.1 232 _ (by omega) (by omega), E42, up_s]; exact e41
      unfold FLDS
      rw [e]
      exact ⟨(lf (L42 (q.1.2.2 y).1)).2, fun j j1 j2 => ⟨_, q.2.2 y j j1 j2⟩⟩
  unfold qf_X13_scanFields
  refine ok_rd (by omega) (gA_238 S.1) ?_; intro v45 e45 _ _
  rw [(K.1 _).1] at e45
  refine ok_if (fun F => J g S nb_rf (fun y => ⟨y, by omega⟩)) (fun _ => ?_)
  refine ok_sv (st9_unfit S (by omega)) ?_; intro u47 P47
  exact J u47 P47.1 P47.2.1 (fun y => absurd y P47.2.2)
theorem xm_eq {k p q : Int} (x : XM h c k p q r) (a : z 236 (12 * c + k).toNat = r 236 (12 * c + k).toNat) (b : z 237 (12 * c + k).toNat = r 237 (12 * c + k).toNat) : XM h c k p q z := by
  unfold XM XI XG XE XD XC XR XH XF at x ⊢
  rw [a, b]; exact x
/-- method j of image c -/
def MTH (h : ms_M) (c : Int) (r : ms_M) (j : Int) : Prop := ∃ q : Int, q ≤ h 160 113 ∧ XM h c j (r 235 (12 * c + j).toNat) q r
/-- what reading methods from number a on writes -/
def NMa (a c : Int) (g r : ms_M) : Prop := ∀ x j : Nat, ¬ (x = 160 ∧ j = 114) → ¬ ((x = 235 ∨ x = 236 ∨ x = 237) ∧ 12 * c + a ≤ (j : Int) ∧ (j : Int) < 12 * c + 12) → r x j = g x j
theorem sr_379 {l3 : Int} (V0 : VS_ h) (S : ST8 h g c) (a : 0 ≤ l3) : Ok_ (qj_X13_scan_379 nn l3 g) (fun r => QE8 h c g r ∧ NB g r) := by
  have g113 := gF_160_113 S.1
  unfold qj_X13_scan_379
  refine ok_if (fun D => ok_ret ⟨⟨S, id⟩, nb_rf⟩) (fun _ => ?_)
  refine ok_if (fun _ => ok_ret ⟨⟨S, id⟩, nb_rf⟩) (fun _ => ?_)
  refine ok_sv (st9_unfit S (by omega)) ?_; intro u4 P4
  exact ok_ret ⟨⟨P4.1, fun y => absurd y P4.2.2⟩, P4.2.1⟩
theorem sr_332 (hn : 1000000 ≤ nn) (V0 : VS_ h) (hc : 0 ≤ c ∧ c ≤ 7) (B : Live h → SI8 h c) : ∀ (k : Nat) (l3 l4 : Int) (g : ms_M), ST8 h g c → (0 ≤ l3 ∧ l3 ≤ 80000) → (Live g → l3 ≤ h 160 113 ∧ g 234 c.toNat ≤ 12) → (0 ≤ l4 ∧ l4 ≤ 255) → 256 - l4 < (k : Int) → Ok_ (qw_X13_scan_332 nn k c l3 l4 g) (fun r => QE8 h c g r ∧ NMa l4 c g r ∧ (Live r → ∀ j : Int, l4 ≤ j → j < g 234 c.toNat → MTH h c r j)) := by
  have g113 := gF_160_113 V0
  intro k
  induction k with
  | zero => intro l3 l4 g S a l b hm; exfalso; omega
  | succ k ih =>
    intro l3 l4 g S a l b hm
    have g234 := gA_234 S.1 c.toNat (by omega)
    unfold qw_X13_scan_332
    refine ok_if (fun D => ok_im (sr_379 V0 S a.1) (fun r q => ⟨q.1, fun x j w1 _ => q.2 x j w1, fun y => absurd (q.1.2 y) D⟩)) (fun D => ?_)
    have D : Live g := Classical.not_not.1 D
    have l := l D
    refine ok_rd (by omega) (gA_234 S.1) ?_; intro v9 e9 _ _
    refine ok_if (fun _ => ok_im (sr_379 V0 S a.1) (fun r q => ⟨q.1, fun x j w1 _ => q.2 x j w1, fun y j j1 j2 => by exfalso; omega⟩)) (fun C => ?_)
    refine ok_mul (by omega) ?_; intro v11 e11
    refine ok_add (by omega) ?_; intro v12 e12
    refine ok_wA (by omega) ?_; intro h13 E13
    have V13 : VS_ h13 := by rw [E13]; exact wA_235 S.1 (by omega)
    obtain ⟨S13, L13⟩ := st8_up S E13 V13 (by decide) (.inr ⟨by decide, by omega, by omega⟩)
    have f13 : h13 235 (12 * c + l4).toNat = l3 := by rw [E13, show 12 * c + l4 = v12 by omega, up_s]
    refine ok_sv (sr_method hn V0 hc B (l2 := l4) (l4 := l3) (by omega) S13 (by omega)) ?_; intro u15 P15
    have f : u15.2 234 c.toNat = h13 234 c.toNat := P15.2.1 234 _ (by omega) (by omega)
    have f2 : h13 234 c.toNat = g 234 c.toNat := by rw [E13, up_n (by omega)]
    have f3 : u15.2 235 (12 * c + l4).toNat = l3 := by rw [P15.2.1 235 _ (by omega) (by omega)]; exact f13
    refine ok_add (by omega) ?_; intro v16 e16
    refine ok_im (ih u15.1 v16 u15.2 P15.1.1 P15.1.2.1 (fun y => ⟨(P15.1.2.2 y).2, by omega⟩) (by omega) (by omega)) (fun r w => ⟨⟨w.1.1, fun y => L13 (P15.1.2.2 (w.1.2 y)).1⟩, fun x j w1 w2 => ?_, fun y j j1 j2 => ?_⟩)
    · rw [w.2.1 x j w1 (by omega), P15.2.1 x j w1 (by omega), E13, up_n (by omega)]
    · by_cases q : j = l4
      · rw [q]
        have y2 := w.1.2 y
        refine ⟨u15.1, (P15.1.2.2 y2).2, ?_⟩
        rw [w.2.1 235 _ (by omega) (by omega), f3]
        exact xm_eq (P15.2.2 y2) (w.2.1 236 _ (by omega) (by omega)) (w.2.1 237 _ (by omega) (by omega))
      · exact w.2.2 y j (by omega) (by rw [f, f2]; exact j2)
def MTHS (h : ms_M) (c : Int) (r : ms_M) : Prop := r 234 c.toNat ≤ 12 ∧ ∀ j : Int, 0 ≤ j → j < r 234 c.toNat → MTH h c r j
def NMb (c : Int) (g r : ms_M) : Prop := ∀ x j : Nat, ¬ (x = 160 ∧ j = 114) → ¬ (x = 234 ∧ (j : Int) = c) → ¬ ((x = 235 ∨ x = 236 ∨ x = 237) ∧ 12 * c ≤ (j : Int) ∧ (j : Int) < 12 * c + 12) → r x j = g x j
theorem sr_314 (hn : 1000000 ≤ nn) (V0 : VS_ h) (hc : 0 ≤ c ∧ c ≤ 7) (B : Live h → SI8 h c) {l3 : Int} (S : ST8 h g c) (a : 0 ≤ l3 ∧ l3 < h 160 113) (l : Live g → h 238 l3.toNat ≤ 12) : Ok_ (qj_X13_scan_314 nn c l3 g) (fun r => QE8 h c g r ∧ NMb c g r ∧ (Live r → MTHS h c r)) := by
  have g113 := gF_160_113 V0
  have K := S.2.1
  unfold qj_X13_scan_314
  refine ok_rd (by omega) (gA_238 S.1) ?_; intro v21 e21 a21 b21
  rw [(K.1 _).1] at e21
  refine ok_wA (by omega) ?_; intro h22 E22
  have V22 : VS_ h22 := by rw [E22]; exact wA_234 S.1 (by omega)
  obtain ⟨S22, L22⟩ := st8_up S E22 V22 (by decide) (.inl ⟨by decide, by omega⟩)
  have f : h22 234 c.toNat = v21 := by rw [E22, up_s]
  refine ok_add (by omega) ?_; intro v23 e23
  refine ok_im (sr_332 hn V0 hc B nn v23 0 h22 S22 (by omega) (fun y => ⟨by omega, by have := l (L22 y); omega⟩) (by omega) (by omega)) (fun r w => ⟨⟨w.1.1, fun y => L22 (w.1.2 y)⟩, fun x j w1 w2 w3 => ?_, fun y => ?_⟩)
  · rw [w.2.1 x j w1 (by omega), E22, up_n (by omega)]
  · have e : r 234 c.toNat = h22 234 c.toNat := w.2.1 234 _ (by omega) (by omega)
    have := l (L22 (w.1.2 y))
    refine ⟨by omega, fun j j1 j2 => w.2.2 y j j1 (by omega)⟩
/-- an image that was read without FORM: all of it (w: the memory behind its heads) -/
def IM9 (r : ms_M) (c : Int) : Prop := ∃ w : ms_M, VS_ w ∧ KE8 w r c ∧ SI9 w c ∧ (CL w c (r 230 c.toNat) ∧ CL w c (r 231 c.toNat)) ∧ FLDS w c r ∧ MTHS w c r
def QR9 (c : Int) (h r : ms_M) : Prop := QR8 c h r ∧ (Live r → IM9 r c)
theorem sr_243 (hn : 1000000 ≤ nn) (V0 : VS_ h) (hc : 0 ≤ c ∧ c ≤ 7) (B : Live h → SI9 h c) {l3 : Int} (S : ST8 h g c) (a : 3 ≤ l3 ∧ l3 ≤ 6300) (l : Live g → CL h c (h 238 l3.toNat) ∧ CL h c (h 238 (l3 + 1).toNat)) : Ok_ (qj_X13_scan_243 nn c l3 g) (QR9 c h) := by
  have g113 := gF_160_113 V0
  have K := S.2.1
  unfold qj_X13_scan_243
  refine ok_add (by omega) ?_; intro v24 e24
  refine ok_sv (st9_byte S) ?_; intro u26 P
  obtain ⟨S26, N26, P⟩ := P
  rcases P with ⟨p1, p2, p3, p4⟩ | ⟨p1, p2⟩
  · rw [if_pos (show ¬ u26.1 = 0 by omega), p2]
    have Bh := B (S.2.2.2 p3)
    obtain ⟨c1, c2⟩ := l p3
    refine ok_rd (by omega) (gA_238 S.1) ?_; intro v29 e29 a29 b29
    rw [(K.1 _).1] at e29
    refine ok_wA (by omega) ?_; intro h30 E30
    have V30 : VS_ h30 := by rw [E30]; exact wA_230 S.1 (by omega)
    refine ok_add (by omega) ?_; intro v33 e33
    refine ok_rd (by omega) (gA_238 V30) ?_; intro v34 e34 a34 b34
    rw [e33, E30, up_n (by omega), (K.1 _).1] at e34
    refine ok_wA (by omega) ?_; intro h35 E35
    have V35 : VS_ h35 := by rw [E35]; exact wA_231 V30 (by omega)
    have K35 : KE8 h h35 c := ke8_tr K (ke8_tr (ke8_up E30 (by decide)) (ke8_up E35 (by decide)))
    have q0 : h35 230 c.toNat = v29 := by rw [E35, up_n (by omega), E30, up_s]
    have q1 : h35 231 c.toNat = v34 := by rw [E35, up_s]
    have B35 : SI9 h35 c := si9_ke K35 Bh
    have d0 : CL h35 c (h35 230 c.toNat) := by rw [q0, e29]; exact cl_ke K35 c1
    have d1 : CL h35 c (h35 231 c.toNat) := by rw [q1, e34]; exact cl_ke K35 c2
    have I8 := si9_8 B35
    have N35 : NTa c h h35 := nta_tr (nta_8 S.2.2.1) (fun x k w1 w2 w3 w4 => by rw [E35, up_n (by omega), E30, up_n (by omega)])
    have e113 : h35 160 113 = h 160 113 := K35.2.1
    have S35 : ST8 h35 h35 c := st8_0 V35
    have fin : ∀ r : ms_M, ST8 h35 r c → (Live r → FLDS h35 c r ∧ MTHS h35 c r) → QR9 c h r := fun r Sr FM => by
      have K8 := Sr.2.1
      have w0 : r 230 c.toNat = h35 230 c.toNat := Sr.2.2.1 230 _ (by omega) (by omega) (by omega) (by omega)
      have w1 : r 231 c.toNat = h35 231 c.toNat := Sr.2.2.1 231 _ (by omega) (by omega) (by omega) (by omega)
      exact ⟨⟨Sr.1, nta_tr N35 (nta_8 Sr.2.2.1), fun _ => ⟨si8_ke K8 I8, by rw [w0]; exact cl_ke K8 d0, by rw [w1]; exact cl_ke K8 d1⟩⟩, fun y => ⟨h35, V35, K8, B35, ⟨by rw [w0]; exact d0, by rw [w1]; exact d1⟩, FM y⟩⟩
    refine ok_add (by omega) ?_; intro v36 e36
    refine ok_sv (sr_fields hn V35 hc (fun _ => I8) (by omega) S35) ?_; intro u38 P38
    refine ok_sv (st9_byte P38.1.1) ?_; intro u40 P40
    obtain ⟨S40, N40, P40⟩ := P40
    rcases P40 with ⟨r1, r2, r3, r4⟩ | ⟨r1, r2⟩
    · rw [if_pos (show ¬ u40.1 = 0 by omega), r2]
      have b38 := P38.1.2.1
      have K38 := P38.1.1.2.1
      have FL := P38.2.2 r3
      refine ok_rd (by omega) (gA_238 P38.1.1.1) ?_; intro v42 e42 _ _
      rw [(K38.1 _).1] at e42
      have carry : ∀ r : ms_M, NMb c u38.2 r → FLDS h35 c r := fun r N => by
        have e2 : r 232 c.toNat = u38.2 232 c.toNat := N 232 _ (by omega) (by omega) (by omega)
        have e3 : ∀ j : Nat, r 233 j = u38.2 233 j := fun j => N 233 j (by omega) (by omega) (by omega)
        unfold FLDS FLD at FL ⊢
        rw [e2]
        refine ⟨FL.1, fun j j1 j2 => ?_⟩
        rw [e3]; exact FL.2 j j1 j2
      refine ok_if (fun F => ?_) (fun _ => ?_)
      · exact ok_im (sr_314 hn V35 hc (fun _ => I8) P38.1.1 (by omega) (fun _ => by omega)) (fun r w => fin r w.1.1 (fun y => ⟨carry r w.2.1, w.2.2 y⟩))
      · refine ok_sv (st9_unfit P38.1.1 (by omega)) ?_; intro u44 P44
        exact ok_im (sr_314 hn V35 hc (fun _ => I8) P44.1 (by omega) (fun y => absurd y P44.2.2)) (fun r w => fin r w.1.1 (fun y => absurd (w.1.2 y) P44.2.2))
    · rw [if_neg (show ¬ ¬ u40.1 = 0 by omega)]
      exact ok_ret (fin u40.2 S40 (fun y => absurd y r2))
  · rw [if_neg (show ¬ ¬ u26.1 = 0 by omega)]
    exact ok_ret ⟨⟨S26.1, nta_8 S26.2.2.1, fun y => absurd y p2⟩, fun y => absurd y p2⟩
end
end

/- TOKENS: known names, word lists, signs -/
def kl_L : List (List Int) := [[79, 98, 106, 101, 99, 116], [70, 97, 117, 108, 116], [78, 117, 108, 108, 70, 97, 117, 108, 116], [73, 110, 100, 101, 120, 70, 97, 117, 108, 116], [65, 114, 105, 116, 104, 70, 97, 117, 108, 116], [67, 97, 115, 116, 70, 97, 117, 108, 116], [83, 105, 122, 101, 70, 97, 117, 108, 116], [83, 116, 111, 114, 101, 70, 97, 117, 108, 116], [108, 101, 110, 103, 116, 104], [98, 111, 111, 108, 101, 97, 110], [98, 114, 101, 97, 107], [99, 97, 116, 99, 104], [99, 108, 97, 115, 115], [99, 111, 110, 116, 105, 110, 117, 101], [101, 108, 115, 101], [101, 120, 116, 101, 110, 100, 115], [102, 97, 108, 115, 101], [105, 102], [105, 110, 115, 116, 97, 110, 99, 101, 111, 102], [105, 110, 116], [110, 101, 119], [110, 117, 108, 108], [112, 114, 105, 110, 116], [114, 101, 116, 117, 114, 110], [115, 116, 97, 116, 105, 99], [116, 104, 105, 115], [116, 104, 114, 111, 119], [116, 114, 117, 101], [116, 114, 121], [118, 111, 105, 100], [119, 104, 105, 108, 101], [91, 73]]
def kl_T (i : Nat) : List Int := kl_L.getD i []
def ka_L : List Int := [0, 6, 11, 20, 30, 40, 49, 58, 68, 74, 81, 86, 91, 96, 104, 108, 115, 120, 122, 132, 135, 138, 142, 147, 153, 159, 163, 168, 172, 175, 179, 184, 186]
def kb_L : List Int := [79, 98, 106, 101, 99, 116, 70, 97, 117, 108, 116, 78, 117, 108, 108, 70, 97, 117, 108, 116, 73, 110, 100, 101, 120, 70, 97, 117, 108, 116, 65, 114, 105, 116, 104, 70, 97, 117, 108, 116, 67, 97, 115, 116, 70, 97, 117, 108, 116, 83, 105, 122, 101, 70, 97, 117, 108, 116, 83, 116, 111, 114, 101, 70, 97, 117, 108, 116, 108, 101, 110, 103, 116, 104, 98, 111, 111, 108, 101, 97, 110, 98, 114, 101, 97, 107, 99, 97, 116, 99, 104, 99, 108, 97, 115, 115, 99, 111, 110, 116, 105, 110, 117, 101, 101, 108, 115, 101, 101, 120, 116, 101, 110, 100, 115, 102, 97, 108, 115, 101, 105, 102, 105, 110, 115, 116, 97, 110, 99, 101, 111, 102, 105, 110, 116, 110, 101, 119, 110, 117, 108, 108, 112, 114, 105, 110, 116, 114, 101, 116, 117, 114, 110, 115, 116, 97, 116, 105, 99, 116, 104, 105, 115, 116, 104, 114, 111, 119, 116, 114, 117, 101, 116, 114, 121, 118, 111, 105, 100, 119, 104, 105, 108, 101, 91, 73]
def ks_L : List Int := [-1, -1, -1, -1, 2, -1, -1, -1, -1, -1, -1, -1, -1, -1, 11, -1, -1, -1, -1, 14, -1, -1, -1, -1, 21, -1, 24, -1, 16, -1, -1, -1]
def kk_L : List Int := [-1, 17, -1, -1, 6, 7, -1, 30, -1, 18, 23, -1, -1, 12, 20, -1, -1, 22, -1, 3, -1, -1, -1, -1, -1, 15, 8, -1, -1, -1, -1, -1, -1, 25, -1, -1, 31, -1, 13, -1, -1, -1, -1, 4, 19, 0, 26, -1, 10, -1, 28, -1, 5, -1, -1, 27, -1, -1, -1, 9, -1, -1, 29, 1]
def ka_T (i : Nat) : Int := ka_L.getD i 0
def kb_T (i : Nat) : Int := kb_L.getD i 0
def ks_T (i : Nat) : Int := ks_L.getD i 0
def kk_T (i : Nat) : Int := kk_L.getD i 0
/-- the known names stand in the class's table -/
def KT_ (h : ms_M) : Prop := (∀ i : Nat, i ≤ 32 → h 7 i = ka_T i) ∧ ∀ k : Nat, k < 186 → h 6 k = kb_T k
def KNB (h : ms_M) : Prop := KT_ h ∧ (∀ i : Nat, i < 32 → h 8 i = ks_T i) ∧ ∀ b : Nat, b < 64 → h 10 b = kk_T b
theorem kn_1 : (List.range 32).all (fun i => decide (ka_T (i + 1) - ka_T i = ((kl_T i).length : Int)) && decide (0 ≤ ka_T i) && decide (ka_T (i + 1) ≤ 186) && (List.range (kl_T i).length).all (fun k => decide (kb_T ((ka_T i).toNat + k) = (kl_T i).getD k 0))) = true := by decide +kernel
theorem kt_n {h : ms_M} (K : KT_ h) {i : Nat} (hi : i < 32) : NMt h i ((kl_T i).length : Int) (fun k => (kl_T i).getD k 0) := by
  have q := List.all_eq_true.1 kn_1 i (List.mem_range.2 hi)
  simp only [Bool.and_eq_true, decide_eq_true_eq, List.all_eq_true, List.mem_range] at q
  obtain ⟨⟨⟨q1, q2⟩, q3⟩, q4⟩ := q
  refine ⟨by unfold ln_T; rw [K.1 i (by omega), K.1 (i + 1) (by omega)]; exact q1, fun k hk => ?_⟩
  rw [K.1 i (by omega), K.2 _ (by omega)]
  exact q4 k (by omega)
/-- the class's sign of a byte, of a byte and the next one, of three -/
def ps_T (a : Int) : Int := if a = 37 then 65 else (if a = 40 then 40 else (if a = 41 then 41 else (if a = 42 then 63 else (if a = 43 then 61 else (if a = 44 then 47 else (if a = 45 then 62 else (if a = 46 then 48 else (if a = 47 then 64 else (if a = 58 then 50 else (if a = 59 then 46 else (if a = 63 then 49 else (if a = 91 then 44 else (if a = 93 then 45 else (if a = 94 then 70 else (if a = 123 then 42 else (if a = 125 then 43 else (if a = 126 then 72 else (0))))))))))))))))))
def so_T (a d : Int) : Int := if a = 33 then (if d = 61 then 53 else 71) else (if a = 38 then (if d = 38 then 67 else 66) else (if a = 60 then (if d = 61 then 55 else (if d = 60 then 58 else 54)) else (if a = 61 then (if d = 61 then 52 else 51) else (if a = 62 then (if d = 61 then 57 else (if d = 62 then 59 else 56)) else (if a = 124 then (if d = 124 then 69 else 68) else (ps_T a))))))
def sg_T (a d e : Int) : Int := if a = 62 ∧ d = 62 ∧ e = 62 then 60 else so_T a d
/-- how long it is; its value in the reference -/
def sl_T (k : Int) : Int := if k = 0 then 0 else (if k = 52 then 2 else (if k = 53 then 2 else (if k = 55 then 2 else (if k = 57 then 2 else (if k = 58 then 2 else (if k = 59 then 2 else (if k = 60 then 3 else (if k = 67 then 2 else (if k = 69 then 2 else (1))))))))))
def sv_L : List Int := [40, 41, 123, 125, 91, 93, 59, 44, 46, 63, 58, 61, 7869, 4285, 60, 7741, 62, 7997, 7740, 7998, 1023806, 43, 45, 42, 47, 37, 38, 4902, 124, 15996, 94, 33, 126]
def sv_T (k : Int) : Int := sv_L.getD (k - 40).toNat 0
section
variable {nn : Nat} {h g r : ms_M} {α : Type}
theorem ps_c {v a : Int} (hv : (0 ≤ v ∧ v = a) ∨ (v < 0 ∧ 128 ≤ a)) : Pc (qf_X9_plainSignOf nn v h) (fun u => u = ps_T a) := by
  unfold qf_X9_plainSignOf
  refine pc_if (fun c => pc_ret ?_) (fun c0 => ?_)
  · show (65 : Int) = ps_T a
    unfold ps_T; rw [if_pos (by omega)]
  refine pc_if (fun c => pc_ret ?_) (fun c1 => ?_)
  · show (40 : Int) = ps_T a
    unfold ps_T; rw [if_neg (by omega), if_pos (by omega)]
  refine pc_if (fun c => pc_ret ?_) (fun c2 => ?_)
  · show (41 : Int) = ps_T a
    unfold ps_T; rw [if_neg (by omega), if_neg (by omega), if_pos (by omega)]
  refine pc_if (fun c => pc_ret ?_) (fun c3 => ?_)
  · show (63 : Int) = ps_T a
    unfold ps_T; rw [if_neg (by omega), if_neg (by omega), if_neg (by omega), if_pos (by omega)]
  refine pc_if (fun c => pc_ret ?_) (fun c4 => ?_)
  · show (61 : Int) = ps_T a
    unfold ps_T; rw [if_neg (by omega), if_neg (by omega), if_neg (by omega), if_neg (by omega), if_pos (by omega)]
  refine pc_if (fun c => pc_ret ?_) (fun c5 => ?_)
  · show (47 : Int) = ps_T a
    unfold ps_T; rw [if_neg (by omega), if_neg (by omega), if_neg (by omega), if_neg (by omega), if_neg (by omega), if_pos (by omega)]
  refine pc_if (fun c => pc_ret ?_) (fun c6 => ?_)
  · show (62 : Int) = ps_T a
    unfold ps_T; rw [if_neg (by omega), if_neg (by omega), if_neg (by omega), if_neg (by omega), if_neg (by omega), if_neg (by omega), if_pos (by omega)]
  refine pc_if (fun c => pc_ret ?_) (fun c7 => ?_)
  · show (48 : Int) = ps_T a
    unfold ps_T; rw [if_neg (by omega), if_neg (by omega), if_neg (by omega), if_neg (by omega), if_neg (by omega), if_neg (by omega), if_neg (by omega), if_pos (by omega)]
  refine pc_if (fun c => pc_ret ?_) (fun c8 => ?_)
  · show (64 : Int) = ps_T a
    unfold ps_T; rw [if_neg (by omega), if_neg (by omega), if_neg (by omega), if_neg (by omega), if_neg (by omega), if_neg (by omega), if_neg (by omega), if_neg (by omega), if_pos (by omega)]
  refine pc_if (fun c => pc_ret ?_) (fun c9 => ?_)
  · show (50 : Int) = ps_T a
    unfold ps_T; rw [if_neg (by omega), if_neg (by omega), if_neg (by omega), if_neg (by omega), if_neg (by omega), if_neg (by omega), if_neg (by omega), if_neg (by omega), if_neg (by omega), if_pos (by omega)]
  refine pc_if (fun c => pc_ret ?_) (fun c10 => ?_)
  · show (46 : Int) = ps_T a
    unfold ps_T; rw [if_neg (by omega), if_neg (by omega), if_neg (by omega), if_neg (by omega), if_neg (by omega), if_neg (by omega), if_neg (by omega), if_neg (by omega), if_neg (by omega), if_neg (by omega), if_pos (by omega)]
  refine pc_if (fun c => pc_ret ?_) (fun c11 => ?_)
  · show (49 : Int) = ps_T a
    unfold ps_T; rw [if_neg (by omega), if_neg (by omega), if_neg (by omega), if_neg (by omega), if_neg (by omega), if_neg (by omega), if_neg (by omega), if_neg (by omega), if_neg (by omega), if_neg (by omega), if_neg (by omega), if_pos (by omega)]
  refine pc_if (fun c => pc_ret ?_) (fun c12 => ?_)
  · show (44 : Int) = ps_T a
    unfold ps_T; rw [if_neg (by omega), if_neg (by omega), if_neg (by omega), if_neg (by omega), if_neg (by omega), if_neg (by omega), if_neg (by omega), if_neg (by omega), if_neg (by omega), if_neg (by omega), if_neg (by omega), if_neg (by omega), if_pos (by omega)]
  refine pc_if (fun c => pc_ret ?_) (fun c13 => ?_)
  · show (45 : Int) = ps_T a
    unfold ps_T; rw [if_neg (by omega), if_neg (by omega), if_neg (by omega), if_neg (by omega), if_neg (by omega), if_neg (by omega), if_neg (by omega), if_neg (by omega), if_neg (by omega), if_neg (by omega), if_neg (by omega), if_neg (by omega), if_neg (by omega), if_pos (by omega)]
  refine pc_if (fun c => pc_ret ?_) (fun c14 => ?_)
  · show (70 : Int) = ps_T a
    unfold ps_T; rw [if_neg (by omega), if_neg (by omega), if_neg (by omega), if_neg (by omega), if_neg (by omega), if_neg (by omega), if_neg (by omega), if_neg (by omega), if_neg (by omega), if_neg (by omega), if_neg (by omega), if_neg (by omega), if_neg (by omega), if_neg (by omega), if_pos (by omega)]
  refine pc_if (fun c => pc_ret ?_) (fun c15 => ?_)
  · show (42 : Int) = ps_T a
    unfold ps_T; rw [if_neg (by omega), if_neg (by omega), if_neg (by omega), if_neg (by omega), if_neg (by omega), if_neg (by omega), if_neg (by omega), if_neg (by omega), if_neg (by omega), if_neg (by omega), if_neg (by omega), if_neg (by omega), if_neg (by omega), if_neg (by omega), if_neg (by omega), if_pos (by omega)]
  refine pc_if (fun c => pc_ret ?_) (fun c16 => ?_)
  · show (43 : Int) = ps_T a
    unfold ps_T; rw [if_neg (by omega), if_neg (by omega), if_neg (by omega), if_neg (by omega), if_neg (by omega), if_neg (by omega), if_neg (by omega), if_neg (by omega), if_neg (by omega), if_neg (by omega), if_neg (by omega), if_neg (by omega), if_neg (by omega), if_neg (by omega), if_neg (by omega), if_neg (by omega), if_pos (by omega)]
  refine pc_if (fun c => pc_ret ?_) (fun c17 => ?_)
  · show (72 : Int) = ps_T a
    unfold ps_T; rw [if_neg (by omega), if_neg (by omega), if_neg (by omega), if_neg (by omega), if_neg (by omega), if_neg (by omega), if_neg (by omega), if_neg (by omega), if_neg (by omega), if_neg (by omega), if_neg (by omega), if_neg (by omega), if_neg (by omega), if_neg (by omega), if_neg (by omega), if_neg (by omega), if_neg (by omega), if_pos (by omega)]
  refine pc_ret ?_
  show (0 : Int) = ps_T a
  unfold ps_T; rw [if_neg (by omega), if_neg (by omega), if_neg (by omega), if_neg (by omega), if_neg (by omega), if_neg (by omega), if_neg (by omega), if_neg (by omega), if_neg (by omega), if_neg (by omega), if_neg (by omega), if_neg (by omega), if_neg (by omega), if_neg (by omega), if_neg (by omega), if_neg (by omega), if_neg (by omega), if_neg (by omega)]
theorem so_c {v a w d : Int} (hv : (0 ≤ v ∧ v = a) ∨ (v < 0 ∧ 128 ≤ a)) (hw : (0 ≤ w ∧ w = d) ∨ (w < 0 ∧ 128 ≤ d)) : Pc (qf_X9_signOf nn v w h) (fun u => u = so_T a d) := by
  unfold qf_X9_signOf so_T
  refine pc_if (fun c => ?_) (fun c0 => ?_)
  · rw [if_pos (show a = 33 by omega)]
    refine pc_if (fun b => pc_ret ?_) (fun b => pc_ret ?_)
    · rw [if_neg (show ¬ d = 61 by omega)]
    · rw [if_pos (show d = 61 by omega)]
  rw [if_neg (show ¬ a = 33 by omega)]
  refine pc_if (fun c => ?_) (fun c1 => ?_)
  · rw [if_pos (show a = 38 by omega)]
    refine pc_if (fun b => pc_ret ?_) (fun b => pc_ret ?_)
    · rw [if_neg (show ¬ d = 38 by omega)]
    · rw [if_pos (show d = 38 by omega)]
  rw [if_neg (show ¬ a = 38 by omega)]
  refine pc_if (fun c => ?_) (fun c2 => ?_)
  · rw [if_pos (show a = 60 by omega)]
    refine pc_if (fun b => pc_if (fun b2 => pc_ret ?_) (fun b2 => pc_ret ?_)) (fun b => pc_ret ?_)
    · rw [if_neg (show ¬ d = 61 by omega), if_neg (show ¬ d = 60 by omega)]
    · rw [if_neg (show ¬ d = 61 by omega), if_pos (show d = 60 by omega)]
    · rw [if_pos (show d = 61 by omega)]
  rw [if_neg (show ¬ a = 60 by omega)]
  refine pc_if (fun c => ?_) (fun c3 => ?_)
  · rw [if_pos (show a = 61 by omega)]
    refine pc_if (fun b => pc_ret ?_) (fun b => pc_ret ?_)
    · rw [if_neg (show ¬ d = 61 by omega)]
    · rw [if_pos (show d = 61 by omega)]
  rw [if_neg (show ¬ a = 61 by omega)]
  refine pc_if (fun c => ?_) (fun c4 => ?_)
  · rw [if_pos (show a = 62 by omega)]
    refine pc_if (fun b => pc_if (fun b2 => pc_ret ?_) (fun b2 => pc_ret ?_)) (fun b => pc_ret ?_)
    · rw [if_neg (show ¬ d = 61 by omega), if_neg (show ¬ d = 62 by omega)]
    · rw [if_neg (show ¬ d = 61 by omega), if_pos (show d = 62 by omega)]
    · rw [if_pos (show d = 61 by omega)]
  rw [if_neg (show ¬ a = 62 by omega)]
  refine pc_if (fun c => ?_) (fun c5 => ?_)
  · rw [if_pos (show a = 124 by omega)]
    refine pc_if (fun b => pc_ret ?_) (fun b => pc_ret ?_)
    · rw [if_neg (show ¬ d = 124 by omega)]
    · rw [if_pos (show d = 124 by omega)]
  rw [if_neg (show ¬ a = 124 by omega)]
  refine pc_sv (ps_c hv) ?_; intro u1 q1
  exact pc_ret q1
theorem sl_c {k : Int} : Pc (qf_X9_signLength nn k h) (fun u => u = sl_T k) := by
  unfold qf_X9_signLength qj_X9_signLength_96 sl_T
  refine pc_if (fun c => pc_ret (by rw [if_pos c])) (fun c => ?_)
  rw [if_neg c]
  refine pc_if (fun c => pc_ret (by rw [if_pos c])) (fun c => ?_)
  rw [if_neg c]
  refine pc_if (fun c => pc_ret (by rw [if_pos c])) (fun c => ?_)
  rw [if_neg c]
  refine pc_if (fun c => pc_ret (by rw [if_pos c])) (fun c => ?_)
  rw [if_neg c]
  refine pc_if (fun c => pc_ret (by rw [if_pos c])) (fun c => ?_)
  rw [if_neg c]
  refine pc_if (fun c => pc_ret (by rw [if_pos c])) (fun c => ?_)
  rw [if_neg c]
  refine pc_if (fun c => pc_ret (by rw [if_pos c])) (fun c => ?_)
  rw [if_neg c]
  refine pc_if (fun c => pc_ret (by rw [if_pos c])) (fun c => ?_)
  rw [if_neg c]
  refine pc_if (fun c => pc_ret (by rw [if_pos c])) (fun c => ?_)
  rw [if_neg c]
  refine pc_if (fun c => pc_ret (by rw [if_pos c])) (fun c => ?_)
  rw [if_neg c]
  exact pc_ret rfl
theorem sg_37 {a d e : Int} (c : a = 37) : sg_T a d e = 65 := by
  unfold sg_T so_T ps_T
  rw [if_neg (fun z => absurd z.1 (by omega)), if_neg (show ¬ a = 33 by omega), if_neg (show ¬ a = 38 by omega), if_neg (show ¬ a = 60 by omega), if_neg (show ¬ a = 61 by omega), if_neg (show ¬ a = 62 by omega), if_neg (show ¬ a = 124 by omega), if_pos (show a = 37 by omega)]
theorem sg_40 {a d e : Int} (c : a = 40) : sg_T a d e = 40 := by
  unfold sg_T so_T ps_T
  rw [if_neg (fun z => absurd z.1 (by omega)), if_neg (show ¬ a = 33 by omega), if_neg (show ¬ a = 38 by omega), if_neg (show ¬ a = 60 by omega), if_neg (show ¬ a = 61 by omega), if_neg (show ¬ a = 62 by omega), if_neg (show ¬ a = 124 by omega), if_neg (show ¬ a = 37 by omega), if_pos (show a = 40 by omega)]
theorem sg_41 {a d e : Int} (c : a = 41) : sg_T a d e = 41 := by
  unfold sg_T so_T ps_T
  rw [if_neg (fun z => absurd z.1 (by omega)), if_neg (show ¬ a = 33 by omega), if_neg (show ¬ a = 38 by omega), if_neg (show ¬ a = 60 by omega), if_neg (show ¬ a = 61 by omega), if_neg (show ¬ a = 62 by omega), if_neg (show ¬ a = 124 by omega), if_neg (show ¬ a = 37 by omega), if_neg (show ¬ a = 40 by omega), if_pos (show a = 41 by omega)]
theorem sg_42 {a d e : Int} (c : a = 42) : sg_T a d e = 63 := by
  unfold sg_T so_T ps_T
  rw [if_neg (fun z => absurd z.1 (by omega)), if_neg (show ¬ a = 33 by omega), if_neg (show ¬ a = 38 by omega), if_neg (show ¬ a = 60 by omega), if_neg (show ¬ a = 61 by omega), if_neg (show ¬ a = 62 by omega), if_neg (show ¬ a = 124 by omega), if_neg (show ¬ a = 37 by omega), if_neg (show ¬ a = 40 by omega), if_neg (show ¬ a = 41 by omega), if_pos (show a = 42 by omega)]
theorem sg_43 {a d e : Int} (c : a = 43) : sg_T a d e = 61 := by
  unfold sg_T so_T ps_T
  rw [if_neg (fun z => absurd z.1 (by omega)), if_neg (show ¬ a = 33 by omega), if_neg (show ¬ a = 38 by omega), if_neg (show ¬ a = 60 by omega), if_neg (show ¬ a = 61 by omega), if_neg (show ¬ a = 62 by omega), if_neg (show ¬ a = 124 by omega), if_neg (show ¬ a = 37 by omega), if_neg (show ¬ a = 40 by omega), if_neg (show ¬ a = 41 by omega), if_neg (show ¬ a = 42 by omega), if_pos (show a = 43 by omega)]
theorem sg_44 {a d e : Int} (c : a = 44) : sg_T a d e = 47 := by
  unfold sg_T so_T ps_T
  rw [if_neg (fun z => absurd z.1 (by omega)), if_neg (show ¬ a = 33 by omega), if_neg (show ¬ a = 38 by omega), if_neg (show ¬ a = 60 by omega), if_neg (show ¬ a = 61 by omega), if_neg (show ¬ a = 62 by omega), if_neg (show ¬ a = 124 by omega), if_neg (show ¬ a = 37 by omega), if_neg (show ¬ a = 40 by omega), if_neg (show ¬ a = 41 by omega), if_neg (show ¬ a = 42 by omega), if_neg (show ¬ a = 43 by omega), if_pos (show a = 44 by omega)]
theorem sg_45 {a d e : Int} (c : a = 45) : sg_T a d e = 62 := by
  unfold sg_T so_T ps_T
  rw [if_neg (fun z => absurd z.1 (by omega)), if_neg (show ¬ a = 33 by omega), if_neg (show ¬ a = 38 by omega), if_neg (show ¬ a = 60 by omega), if_neg (show ¬ a = 61 by omega), if_neg (show ¬ a = 62 by omega), if_neg (show ¬ a = 124 by omega), if_neg (show ¬ a = 37 by omega), if_neg (show ¬ a = 40 by omega), if_neg (show ¬ a = 41 by omega), if_neg (show ¬ a = 42 by omega), if_neg (show ¬ a = 43 by omega), if_neg (show ¬ a = 44 by omega), if_pos (show a = 45 by omega)]
theorem sg_46 {a d e : Int} (c : a = 46) : sg_T a d e = 48 := by
  unfold sg_T so_T ps_T
  rw [if_neg (fun z => absurd z.1 (by omega)), if_neg (show ¬ a = 33 by omega), if_neg (show ¬ a = 38 by omega), if_neg (show ¬ a = 60 by omega), if_neg (show ¬ a = 61 by omega), if_neg (show ¬ a = 62 by omega), if_neg (show ¬ a = 124 by omega), if_neg (show ¬ a = 37 by omega), if_neg (show ¬ a = 40 by omega), if_neg (show ¬ a = 41 by omega), if_neg (show ¬ a = 42 by omega), if_neg (show ¬ a = 43 by omega), if_neg (show ¬ a = 44 by omega), if_neg (show ¬ a = 45 by omega), if_pos (show a = 46 by omega)]
theorem sg_47 {a d e : Int} (c : a = 47) : sg_T a d e = 64 := by
  unfold sg_T so_T ps_T
  rw [if_neg (fun z => absurd z.1 (by omega)), if_neg (show ¬ a = 33 by omega), if_neg (show ¬ a = 38 by omega), if_neg (show ¬ a = 60 by omega), if_neg (show ¬ a = 61 by omega), if_neg (show ¬ a = 62 by omega), if_neg (show ¬ a = 124 by omega), if_neg (show ¬ a = 37 by omega), if_neg (show ¬ a = 40 by omega), if_neg (show ¬ a = 41 by omega), if_neg (show ¬ a = 42 by omega), if_neg (show ¬ a = 43 by omega), if_neg (show ¬ a = 44 by omega), if_neg (show ¬ a = 45 by omega), if_neg (show ¬ a = 46 by omega), if_pos (show a = 47 by omega)]
theorem sg_58 {a d e : Int} (c : a = 58) : sg_T a d e = 50 := by
  unfold sg_T so_T ps_T
  rw [if_neg (fun z => absurd z.1 (by omega)), if_neg (show ¬ a = 33 by omega), if_neg (show ¬ a = 38 by omega), if_neg (show ¬ a = 60 by omega), if_neg (show ¬ a = 61 by omega), if_neg (show ¬ a = 62 by omega), if_neg (show ¬ a = 124 by omega), if_neg (show ¬ a = 37 by omega), if_neg (show ¬ a = 40 by omega), if_neg (show ¬ a = 41 by omega), if_neg (show ¬ a = 42 by omega), if_neg (show ¬ a = 43 by omega), if_neg (show ¬ a = 44 by omega), if_neg (show ¬ a = 45 by omega), if_neg (show ¬ a = 46 by omega), if_neg (show ¬ a = 47 by omega), if_pos (show a = 58 by omega)]
theorem sg_59 {a d e : Int} (c : a = 59) : sg_T a d e = 46 := by
  unfold sg_T so_T ps_T
  rw [if_neg (fun z => absurd z.1 (by omega)), if_neg (show ¬ a = 33 by omega), if_neg (show ¬ a = 38 by omega), if_neg (show ¬ a = 60 by omega), if_neg (show ¬ a = 61 by omega), if_neg (show ¬ a = 62 by omega), if_neg (show ¬ a = 124 by omega), if_neg (show ¬ a = 37 by omega), if_neg (show ¬ a = 40 by omega), if_neg (show ¬ a = 41 by omega), if_neg (show ¬ a = 42 by omega), if_neg (show ¬ a = 43 by omega), if_neg (show ¬ a = 44 by omega), if_neg (show ¬ a = 45 by omega), if_neg (show ¬ a = 46 by omega), if_neg (show ¬ a = 47 by omega), if_neg (show ¬ a = 58 by omega), if_pos (show a = 59 by omega)]
theorem sg_63 {a d e : Int} (c : a = 63) : sg_T a d e = 49 := by
  unfold sg_T so_T ps_T
  rw [if_neg (fun z => absurd z.1 (by omega)), if_neg (show ¬ a = 33 by omega), if_neg (show ¬ a = 38 by omega), if_neg (show ¬ a = 60 by omega), if_neg (show ¬ a = 61 by omega), if_neg (show ¬ a = 62 by omega), if_neg (show ¬ a = 124 by omega), if_neg (show ¬ a = 37 by omega), if_neg (show ¬ a = 40 by omega), if_neg (show ¬ a = 41 by omega), if_neg (show ¬ a = 42 by omega), if_neg (show ¬ a = 43 by omega), if_neg (show ¬ a = 44 by omega), if_neg (show ¬ a = 45 by omega), if_neg (show ¬ a = 46 by omega), if_neg (show ¬ a = 47 by omega), if_neg (show ¬ a = 58 by omega), if_neg (show ¬ a = 59 by omega), if_pos (show a = 63 by omega)]
theorem sg_91 {a d e : Int} (c : a = 91) : sg_T a d e = 44 := by
  unfold sg_T so_T ps_T
  rw [if_neg (fun z => absurd z.1 (by omega)), if_neg (show ¬ a = 33 by omega), if_neg (show ¬ a = 38 by omega), if_neg (show ¬ a = 60 by omega), if_neg (show ¬ a = 61 by omega), if_neg (show ¬ a = 62 by omega), if_neg (show ¬ a = 124 by omega), if_neg (show ¬ a = 37 by omega), if_neg (show ¬ a = 40 by omega), if_neg (show ¬ a = 41 by omega), if_neg (show ¬ a = 42 by omega), if_neg (show ¬ a = 43 by omega), if_neg (show ¬ a = 44 by omega), if_neg (show ¬ a = 45 by omega), if_neg (show ¬ a = 46 by omega), if_neg (show ¬ a = 47 by omega), if_neg (show ¬ a = 58 by omega), if_neg (show ¬ a = 59 by omega), if_neg (show ¬ a = 63 by omega), if_pos (show a = 91 by omega)]
theorem sg_93 {a d e : Int} (c : a = 93) : sg_T a d e = 45 := by
  unfold sg_T so_T ps_T
  rw [if_neg (fun z => absurd z.1 (by omega)), if_neg (show ¬ a = 33 by omega), if_neg (show ¬ a = 38 by omega), if_neg (show ¬ a = 60 by omega), if_neg (show ¬ a = 61 by omega), if_neg (show ¬ a = 62 by omega), if_neg (show ¬ a = 124 by omega), if_neg (show ¬ a = 37 by omega), if_neg (show ¬ a = 40 by omega), if_neg (show ¬ a = 41 by omega), if_neg (show ¬ a = 42 by omega), if_neg (show ¬ a = 43 by omega), if_neg (show ¬ a = 44 by omega), if_neg (show ¬ a = 45 by omega), if_neg (show ¬ a = 46 by omega), if_neg (show ¬ a = 47 by omega), if_neg (show ¬ a = 58 by omega), if_neg (show ¬ a = 59 by omega), if_neg (show ¬ a = 63 by omega), if_neg (show ¬ a = 91 by omega), if_pos (show a = 93 by omega)]
theorem sg_94 {a d e : Int} (c : a = 94) : sg_T a d e = 70 := by
  unfold sg_T so_T ps_T
  rw [if_neg (fun z => absurd z.1 (by omega)), if_neg (show ¬ a = 33 by omega), if_neg (show ¬ a = 38 by omega), if_neg (show ¬ a = 60 by omega), if_neg (show ¬ a = 61 by omega), if_neg (show ¬ a = 62 by omega), if_neg (show ¬ a = 124 by omega), if_neg (show ¬ a = 37 by omega), if_neg (show ¬ a = 40 by omega), if_neg (show ¬ a = 41 by omega), if_neg (show ¬ a = 42 by omega), if_neg (show ¬ a = 43 by omega), if_neg (show ¬ a = 44 by omega), if_neg (show ¬ a = 45 by omega), if_neg (show ¬ a = 46 by omega), if_neg (show ¬ a = 47 by omega), if_neg (show ¬ a = 58 by omega), if_neg (show ¬ a = 59 by omega), if_neg (show ¬ a = 63 by omega), if_neg (show ¬ a = 91 by omega), if_neg (show ¬ a = 93 by omega), if_pos (show a = 94 by omega)]
theorem sg_123 {a d e : Int} (c : a = 123) : sg_T a d e = 42 := by
  unfold sg_T so_T ps_T
  rw [if_neg (fun z => absurd z.1 (by omega)), if_neg (show ¬ a = 33 by omega), if_neg (show ¬ a = 38 by omega), if_neg (show ¬ a = 60 by omega), if_neg (show ¬ a = 61 by omega), if_neg (show ¬ a = 62 by omega), if_neg (show ¬ a = 124 by omega), if_neg (show ¬ a = 37 by omega), if_neg (show ¬ a = 40 by omega), if_neg (show ¬ a = 41 by omega), if_neg (show ¬ a = 42 by omega), if_neg (show ¬ a = 43 by omega), if_neg (show ¬ a = 44 by omega), if_neg (show ¬ a = 45 by omega), if_neg (show ¬ a = 46 by omega), if_neg (show ¬ a = 47 by omega), if_neg (show ¬ a = 58 by omega), if_neg (show ¬ a = 59 by omega), if_neg (show ¬ a = 63 by omega), if_neg (show ¬ a = 91 by omega), if_neg (show ¬ a = 93 by omega), if_neg (show ¬ a = 94 by omega), if_pos (show a = 123 by omega)]
theorem sg_125 {a d e : Int} (c : a = 125) : sg_T a d e = 43 := by
  unfold sg_T so_T ps_T
  rw [if_neg (fun z => absurd z.1 (by omega)), if_neg (show ¬ a = 33 by omega), if_neg (show ¬ a = 38 by omega), if_neg (show ¬ a = 60 by omega), if_neg (show ¬ a = 61 by omega), if_neg (show ¬ a = 62 by omega), if_neg (show ¬ a = 124 by omega), if_neg (show ¬ a = 37 by omega), if_neg (show ¬ a = 40 by omega), if_neg (show ¬ a = 41 by omega), if_neg (show ¬ a = 42 by omega), if_neg (show ¬ a = 43 by omega), if_neg (show ¬ a = 44 by omega), if_neg (show ¬ a = 45 by omega), if_neg (show ¬ a = 46 by omega), if_neg (show ¬ a = 47 by omega), if_neg (show ¬ a = 58 by omega), if_neg (show ¬ a = 59 by omega), if_neg (show ¬ a = 63 by omega), if_neg (show ¬ a = 91 by omega), if_neg (show ¬ a = 93 by omega), if_neg (show ¬ a = 94 by omega), if_neg (show ¬ a = 123 by omega), if_pos (show a = 125 by omega)]
theorem sg_126 {a d e : Int} (c : a = 126) : sg_T a d e = 72 := by
  unfold sg_T so_T ps_T
  rw [if_neg (fun z => absurd z.1 (by omega)), if_neg (show ¬ a = 33 by omega), if_neg (show ¬ a = 38 by omega), if_neg (show ¬ a = 60 by omega), if_neg (show ¬ a = 61 by omega), if_neg (show ¬ a = 62 by omega), if_neg (show ¬ a = 124 by omega), if_neg (show ¬ a = 37 by omega), if_neg (show ¬ a = 40 by omega), if_neg (show ¬ a = 41 by omega), if_neg (show ¬ a = 42 by omega), if_neg (show ¬ a = 43 by omega), if_neg (show ¬ a = 44 by omega), if_neg (show ¬ a = 45 by omega), if_neg (show ¬ a = 46 by omega), if_neg (show ¬ a = 47 by omega), if_neg (show ¬ a = 58 by omega), if_neg (show ¬ a = 59 by omega), if_neg (show ¬ a = 63 by omega), if_neg (show ¬ a = 91 by omega), if_neg (show ¬ a = 93 by omega), if_neg (show ¬ a = 94 by omega), if_neg (show ¬ a = 123 by omega), if_neg (show ¬ a = 125 by omega), if_pos (show a = 126 by omega)]
theorem sg_33_0 {a d e : Int} (c : a = 33) (b : d = 61) : sg_T a d e = 53 := by
  unfold sg_T so_T
  rw [if_neg (fun z => absurd z.1 (by omega)), if_pos (show a = 33 by omega), if_pos b]
theorem sg_33_1 {a d e : Int} (c : a = 33) (b : ¬ d = 61) : sg_T a d e = 71 := by
  unfold sg_T so_T
  rw [if_neg (fun z => absurd z.1 (by omega)), if_pos (show a = 33 by omega), if_neg b]
theorem sg_38_0 {a d e : Int} (c : a = 38) (b : d = 38) : sg_T a d e = 67 := by
  unfold sg_T so_T
  rw [if_neg (fun z => absurd z.1 (by omega)), if_neg (show ¬ a = 33 by omega), if_pos (show a = 38 by omega), if_pos b]
theorem sg_38_1 {a d e : Int} (c : a = 38) (b : ¬ d = 38) : sg_T a d e = 66 := by
  unfold sg_T so_T
  rw [if_neg (fun z => absurd z.1 (by omega)), if_neg (show ¬ a = 33 by omega), if_pos (show a = 38 by omega), if_neg b]
theorem sg_60_0 {a d e : Int} (c : a = 60) (b : d = 61) : sg_T a d e = 55 := by
  unfold sg_T so_T
  rw [if_neg (fun z => absurd z.1 (by omega)), if_neg (show ¬ a = 33 by omega), if_neg (show ¬ a = 38 by omega), if_pos (show a = 60 by omega), if_pos b]
theorem sg_60_1 {a d e : Int} (c : a = 60) (b : d = 60) : sg_T a d e = 58 := by
  unfold sg_T so_T
  rw [if_neg (fun z => absurd z.1 (by omega)), if_neg (show ¬ a = 33 by omega), if_neg (show ¬ a = 38 by omega), if_pos (show a = 60 by omega), if_neg (show ¬ d = 61 by omega), if_pos b]
theorem sg_60_2 {a d e : Int} (c : a = 60) (b : ¬ d = 61 ∧ ¬ d = 60) : sg_T a d e = 54 := by
  unfold sg_T so_T
  rw [if_neg (fun z => absurd z.1 (by omega)), if_neg (show ¬ a = 33 by omega), if_neg (show ¬ a = 38 by omega), if_pos (show a = 60 by omega), if_neg b.1, if_neg b.2]
theorem sg_61_0 {a d e : Int} (c : a = 61) (b : d = 61) : sg_T a d e = 52 := by
  unfold sg_T so_T
  rw [if_neg (fun z => absurd z.1 (by omega)), if_neg (show ¬ a = 33 by omega), if_neg (show ¬ a = 38 by omega), if_neg (show ¬ a = 60 by omega), if_pos (show a = 61 by omega), if_pos b]
theorem sg_61_1 {a d e : Int} (c : a = 61) (b : ¬ d = 61) : sg_T a d e = 51 := by
  unfold sg_T so_T
  rw [if_neg (fun z => absurd z.1 (by omega)), if_neg (show ¬ a = 33 by omega), if_neg (show ¬ a = 38 by omega), if_neg (show ¬ a = 60 by omega), if_pos (show a = 61 by omega), if_neg b]
theorem sg_124_0 {a d e : Int} (c : a = 124) (b : d = 124) : sg_T a d e = 69 := by
  unfold sg_T so_T
  rw [if_neg (fun z => absurd z.1 (by omega)), if_neg (show ¬ a = 33 by omega), if_neg (show ¬ a = 38 by omega), if_neg (show ¬ a = 60 by omega), if_neg (show ¬ a = 61 by omega), if_neg (show ¬ a = 62 by omega), if_pos (show a = 124 by omega), if_pos b]
theorem sg_124_1 {a d e : Int} (c : a = 124) (b : ¬ d = 124) : sg_T a d e = 68 := by
  unfold sg_T so_T
  rw [if_neg (fun z => absurd z.1 (by omega)), if_neg (show ¬ a = 33 by omega), if_neg (show ¬ a = 38 by omega), if_neg (show ¬ a = 60 by omega), if_neg (show ¬ a = 61 by omega), if_neg (show ¬ a = 62 by omega), if_pos (show a = 124 by omega), if_neg b]
theorem sg_62_0 {a d e : Int} (c : a = 62) (b : d = 61) : sg_T a d e = 57 := by
  unfold sg_T so_T
  rw [if_neg (show ¬ (a = 62 ∧ d = 62 ∧ e = 62) by omega), if_neg (show ¬ a = 33 by omega), if_neg (show ¬ a = 38 by omega), if_neg (show ¬ a = 60 by omega), if_neg (show ¬ a = 61 by omega), if_pos (show a = 62 by omega), if_pos b]
theorem sg_62_1 {a d e : Int} (c : a = 62) (b : d = 62 ∧ e = 62) : sg_T a d e = 60 := by
  unfold sg_T so_T
  rw [if_pos ⟨c, b.1, b.2⟩]
theorem sg_62_2 {a d e : Int} (c : a = 62) (b : d = 62 ∧ ¬ e = 62) : sg_T a d e = 59 := by
  unfold sg_T so_T
  rw [if_neg (show ¬ (a = 62 ∧ d = 62 ∧ e = 62) by omega), if_neg (show ¬ a = 33 by omega), if_neg (show ¬ a = 38 by omega), if_neg (show ¬ a = 60 by omega), if_neg (show ¬ a = 61 by omega), if_pos (show a = 62 by omega), if_neg (show ¬ d = 61 by omega), if_pos b.1]
theorem sg_62_3 {a d e : Int} (c : a = 62) (b : ¬ d = 61 ∧ ¬ d = 62) : sg_T a d e = 56 := by
  unfold sg_T so_T
  rw [if_neg (show ¬ (a = 62 ∧ d = 62 ∧ e = 62) by omega), if_neg (show ¬ a = 33 by omega), if_neg (show ¬ a = 38 by omega), if_neg (show ¬ a = 60 by omega), if_neg (show ¬ a = 61 by omega), if_pos (show a = 62 by omega), if_neg b.1, if_neg b.2]
theorem sg_no {a d e : Int} (c : ¬ a = 33 ∧ ¬ a = 37 ∧ ¬ a = 38 ∧ ¬ a = 40 ∧ ¬ a = 41 ∧ ¬ a = 42 ∧ ¬ a = 43 ∧ ¬ a = 44 ∧ ¬ a = 45 ∧ ¬ a = 46 ∧ ¬ a = 47 ∧ ¬ a = 58 ∧ ¬ a = 59 ∧ ¬ a = 60 ∧ ¬ a = 61 ∧ ¬ a = 62 ∧ ¬ a = 63 ∧ ¬ a = 91 ∧ ¬ a = 93 ∧ ¬ a = 94 ∧ ¬ a = 123 ∧ ¬ a = 124 ∧ ¬ a = 125 ∧ ¬ a = 126) : sg_T a d e = 0 := by
  unfold sg_T so_T ps_T
  rw [if_neg (fun z => absurd z.1 (by omega)), if_neg (show ¬ a = 33 by omega), if_neg (show ¬ a = 38 by omega), if_neg (show ¬ a = 60 by omega), if_neg (show ¬ a = 61 by omega), if_neg (show ¬ a = 62 by omega), if_neg (show ¬ a = 124 by omega), if_neg (show ¬ a = 37 by omega), if_neg (show ¬ a = 40 by omega), if_neg (show ¬ a = 41 by omega), if_neg (show ¬ a = 42 by omega), if_neg (show ¬ a = 43 by omega), if_neg (show ¬ a = 44 by omega), if_neg (show ¬ a = 45 by omega), if_neg (show ¬ a = 46 by omega), if_neg (show ¬ a = 47 by omega), if_neg (show ¬ a = 58 by omega), if_neg (show ¬ a = 59 by omega), if_neg (show ¬ a = 63 by omega), if_neg (show ¬ a = 91 by omega), if_neg (show ¬ a = 93 by omega), if_neg (show ¬ a = 94 by omega), if_neg (show ¬ a = 123 by omega), if_neg (show ¬ a = 125 by omega), if_neg (show ¬ a = 126 by omega)]
/-- a sign's width and value -/
def SWg (a d e k w v : Int) : Prop := k = sg_T a d e ∧ w = sl_T k ∧ (w = 0 ∨ (w = 1 ∧ v = a) ∨ (w = 2 ∧ v = 128 * a + d) ∨ (w = 3 ∧ v = 128 * (128 * a + d) + e)) ∧ (k = 0 ↔ w = 0) ∧ (¬ k = 0 → v = sv_T k ∧ 40 ≤ k ∧ k ≤ 72)
theorem sw_all (a d e : Int) : ∃ v, SWg a d e (sg_T a d e) (sl_T (sg_T a d e)) v := by
  by_cases c0 : a = 37
  · refine ⟨a, rfl, rfl, ?_⟩
    have q := sg_37 (d := d) (e := e) c0
    rw [q]
    refine ⟨.inr (.inl ⟨by decide, rfl⟩), ⟨fun z => absurd z (by decide), fun z => absurd z (by decide)⟩, fun _ => ⟨?_, by decide, by decide⟩⟩
    show _ = sv_T 65
    rw [show sv_T 65 = 37 by decide]; omega
  by_cases c1 : a = 40
  · refine ⟨a, rfl, rfl, ?_⟩
    have q := sg_40 (d := d) (e := e) c1
    rw [q]
    refine ⟨.inr (.inl ⟨by decide, rfl⟩), ⟨fun z => absurd z (by decide), fun z => absurd z (by decide)⟩, fun _ => ⟨?_, by decide, by decide⟩⟩
    show _ = sv_T 40
    rw [show sv_T 40 = 40 by decide]; omega
  by_cases c2 : a = 41
  · refine ⟨a, rfl, rfl, ?_⟩
    have q := sg_41 (d := d) (e := e) c2
    rw [q]
    refine ⟨.inr (.inl ⟨by decide, rfl⟩), ⟨fun z => absurd z (by decide), fun z => absurd z (by decide)⟩, fun _ => ⟨?_, by decide, by decide⟩⟩
    show _ = sv_T 41
    rw [show sv_T 41 = 41 by decide]; omega
  by_cases c3 : a = 42
  · refine ⟨a, rfl, rfl, ?_⟩
    have q := sg_42 (d := d) (e := e) c3
    rw [q]
    refine ⟨.inr (.inl ⟨by decide, rfl⟩), ⟨fun z => absurd z (by decide), fun z => absurd z (by decide)⟩, fun _ => ⟨?_, by decide, by decide⟩⟩
    show _ = sv_T 63
    rw [show sv_T 63 = 42 by decide]; omega
  by_cases c4 : a = 43
  · refine ⟨a, rfl, rfl, ?_⟩
    have q := sg_43 (d := d) (e := e) c4
    rw [q]
    refine ⟨.inr (.inl ⟨by decide, rfl⟩), ⟨fun z => absurd z (by decide), fun z => absurd z (by decide)⟩, fun _ => ⟨?_, by decide, by decide⟩⟩
    show _ = sv_T 61
    rw [show sv_T 61 = 43 by decide]; omega
  by_cases c5 : a = 44
  · refine ⟨a, rfl, rfl, ?_⟩
    have q := sg_44 (d := d) (e := e) c5
    rw [q]
    refine ⟨.inr (.inl ⟨by decide, rfl⟩), ⟨fun z => absurd z (by decide), fun z => absurd z (by decide)⟩, fun _ => ⟨?_, by decide, by decide⟩⟩
    show _ = sv_T 47
    rw [show sv_T 47 = 44 by decide]; omega
  by_cases c6 : a = 45
  · refine ⟨a, rfl, rfl, ?_⟩
    have q := sg_45 (d := d) (e := e) c6
    rw [q]
    refine ⟨.inr (.inl ⟨by decide, rfl⟩), ⟨fun z => absurd z (by decide), fun z => absurd z (by decide)⟩, fun _ => ⟨?_, by decide, by decide⟩⟩
    show _ = sv_T 62
    rw [show sv_T 62 = 45 by decide]; omega
  by_cases c7 : a = 46
  · refine ⟨a, rfl, rfl, ?_⟩
    have q := sg_46 (d := d) (e := e) c7
    rw [q]
    refine ⟨.inr (.inl ⟨by decide, rfl⟩), ⟨fun z => absurd z (by decide), fun z => absurd z (by decide)⟩, fun _ => ⟨?_, by decide, by decide⟩⟩
    show _ = sv_T 48
    rw [show sv_T 48 = 46 by decide]; omega
  by_cases c8 : a = 47
  · refine ⟨a, rfl, rfl, ?_⟩
    have q := sg_47 (d := d) (e := e) c8
    rw [q]
    refine ⟨.inr (.inl ⟨by decide, rfl⟩), ⟨fun z => absurd z (by decide), fun z => absurd z (by decide)⟩, fun _ => ⟨?_, by decide, by decide⟩⟩
    show _ = sv_T 64
    rw [show sv_T 64 = 47 by decide]; omega
  by_cases c9 : a = 58
  · refine ⟨a, rfl, rfl, ?_⟩
    have q := sg_58 (d := d) (e := e) c9
    rw [q]
    refine ⟨.inr (.inl ⟨by decide, rfl⟩), ⟨fun z => absurd z (by decide), fun z => absurd z (by decide)⟩, fun _ => ⟨?_, by decide, by decide⟩⟩
    show _ = sv_T 50
    rw [show sv_T 50 = 58 by decide]; omega
  by_cases c10 : a = 59
  · refine ⟨a, rfl, rfl, ?_⟩
    have q := sg_59 (d := d) (e := e) c10
    rw [q]
    refine ⟨.inr (.inl ⟨by decide, rfl⟩), ⟨fun z => absurd z (by decide), fun z => absurd z (by decide)⟩, fun _ => ⟨?_, by decide, by decide⟩⟩
    show _ = sv_T 46
    rw [show sv_T 46 = 59 by decide]; omega
  by_cases c11 : a = 63
  · refine ⟨a, rfl, rfl, ?_⟩
    have q := sg_63 (d := d) (e := e) c11
    rw [q]
    refine ⟨.inr (.inl ⟨by decide, rfl⟩), ⟨fun z => absurd z (by decide), fun z => absurd z (by decide)⟩, fun _ => ⟨?_, by decide, by decide⟩⟩
    show _ = sv_T 49
    rw [show sv_T 49 = 63 by decide]; omega
  by_cases c12 : a = 91
  · refine ⟨a, rfl, rfl, ?_⟩
    have q := sg_91 (d := d) (e := e) c12
    rw [q]
    refine ⟨.inr (.inl ⟨by decide, rfl⟩), ⟨fun z => absurd z (by decide), fun z => absurd z (by decide)⟩, fun _ => ⟨?_, by decide, by decide⟩⟩
    show _ = sv_T 44
    rw [show sv_T 44 = 91 by decide]; omega
  by_cases c13 : a = 93
  · refine ⟨a, rfl, rfl, ?_⟩
    have q := sg_93 (d := d) (e := e) c13
    rw [q]
    refine ⟨.inr (.inl ⟨by decide, rfl⟩), ⟨fun z => absurd z (by decide), fun z => absurd z (by decide)⟩, fun _ => ⟨?_, by decide, by decide⟩⟩
    show _ = sv_T 45
    rw [show sv_T 45 = 93 by decide]; omega
  by_cases c14 : a = 94
  · refine ⟨a, rfl, rfl, ?_⟩
    have q := sg_94 (d := d) (e := e) c14
    rw [q]
    refine ⟨.inr (.inl ⟨by decide, rfl⟩), ⟨fun z => absurd z (by decide), fun z => absurd z (by decide)⟩, fun _ => ⟨?_, by decide, by decide⟩⟩
    show _ = sv_T 70
    rw [show sv_T 70 = 94 by decide]; omega
  by_cases c15 : a = 123
  · refine ⟨a, rfl, rfl, ?_⟩
    have q := sg_123 (d := d) (e := e) c15
    rw [q]
    refine ⟨.inr (.inl ⟨by decide, rfl⟩), ⟨fun z => absurd z (by decide), fun z => absurd z (by decide)⟩, fun _ => ⟨?_, by decide, by decide⟩⟩
    show _ = sv_T 42
    rw [show sv_T 42 = 123 by decide]; omega
  by_cases c16 : a = 125
  · refine ⟨a, rfl, rfl, ?_⟩
    have q := sg_125 (d := d) (e := e) c16
    rw [q]
    refine ⟨.inr (.inl ⟨by decide, rfl⟩), ⟨fun z => absurd z (by decide), fun z => absurd z (by decide)⟩, fun _ => ⟨?_, by decide, by decide⟩⟩
    show _ = sv_T 43
    rw [show sv_T 43 = 125 by decide]; omega
  by_cases c17 : a = 126
  · refine ⟨a, rfl, rfl, ?_⟩
    have q := sg_126 (d := d) (e := e) c17
    rw [q]
    refine ⟨.inr (.inl ⟨by decide, rfl⟩), ⟨fun z => absurd z (by decide), fun z => absurd z (by decide)⟩, fun _ => ⟨?_, by decide, by decide⟩⟩
    show _ = sv_T 72
    rw [show sv_T 72 = 126 by decide]; omega
  by_cases c18 : a = 33
  · by_cases b : d = 61
    · refine ⟨128 * a + d, rfl, rfl, ?_⟩
      have q := sg_33_0 (e := e) c18 b
      rw [q]
      refine ⟨.inr (.inr (.inl ⟨by decide, rfl⟩)), ⟨fun z => absurd z (by decide), fun z => absurd z (by decide)⟩, fun _ => ⟨?_, by decide, by decide⟩⟩
      show _ = sv_T 53
      rw [show sv_T 53 = 4285 by decide]; omega
    · refine ⟨a, rfl, rfl, ?_⟩
      have q := sg_33_1 (e := e) c18 b
      rw [q]
      refine ⟨.inr (.inl ⟨by decide, rfl⟩), ⟨fun z => absurd z (by decide), fun z => absurd z (by decide)⟩, fun _ => ⟨?_, by decide, by decide⟩⟩
      show _ = sv_T 71
      rw [show sv_T 71 = 33 by decide]; omega
  by_cases c19 : a = 38
  · by_cases b : d = 38
    · refine ⟨128 * a + d, rfl, rfl, ?_⟩
      have q := sg_38_0 (e := e) c19 b
      rw [q]
      refine ⟨.inr (.inr (.inl ⟨by decide, rfl⟩)), ⟨fun z => absurd z (by decide), fun z => absurd z (by decide)⟩, fun _ => ⟨?_, by decide, by decide⟩⟩
      show _ = sv_T 67
      rw [show sv_T 67 = 4902 by decide]; omega
    · refine ⟨a, rfl, rfl, ?_⟩
      have q := sg_38_1 (e := e) c19 b
      rw [q]
      refine ⟨.inr (.inl ⟨by decide, rfl⟩), ⟨fun z => absurd z (by decide), fun z => absurd z (by decide)⟩, fun _ => ⟨?_, by decide, by decide⟩⟩
      show _ = sv_T 66
      rw [show sv_T 66 = 38 by decide]; omega
  by_cases c20 : a = 61
  · by_cases b : d = 61
    · refine ⟨128 * a + d, rfl, rfl, ?_⟩
      have q := sg_61_0 (e := e) c20 b
      rw [q]
      refine ⟨.inr (.inr (.inl ⟨by decide, rfl⟩)), ⟨fun z => absurd z (by decide), fun z => absurd z (by decide)⟩, fun _ => ⟨?_, by decide, by decide⟩⟩
      show _ = sv_T 52
      rw [show sv_T 52 = 7869 by decide]; omega
    · refine ⟨a, rfl, rfl, ?_⟩
      have q := sg_61_1 (e := e) c20 b
      rw [q]
      refine ⟨.inr (.inl ⟨by decide, rfl⟩), ⟨fun z => absurd z (by decide), fun z => absurd z (by decide)⟩, fun _ => ⟨?_, by decide, by decide⟩⟩
      show _ = sv_T 51
      rw [show sv_T 51 = 61 by decide]; omega
  by_cases c21 : a = 124
  · by_cases b : d = 124
    · refine ⟨128 * a + d, rfl, rfl, ?_⟩
      have q := sg_124_0 (e := e) c21 b
      rw [q]
      refine ⟨.inr (.inr (.inl ⟨by decide, rfl⟩)), ⟨fun z => absurd z (by decide), fun z => absurd z (by decide)⟩, fun _ => ⟨?_, by decide, by decide⟩⟩
      show _ = sv_T 69
      rw [show sv_T 69 = 15996 by decide]; omega
    · refine ⟨a, rfl, rfl, ?_⟩
      have q := sg_124_1 (e := e) c21 b
      rw [q]
      refine ⟨.inr (.inl ⟨by decide, rfl⟩), ⟨fun z => absurd z (by decide), fun z => absurd z (by decide)⟩, fun _ => ⟨?_, by decide, by decide⟩⟩
      show _ = sv_T 68
      rw [show sv_T 68 = 124 by decide]; omega
  by_cases c22 : a = 60
  · by_cases b : d = 61
    · refine ⟨128 * a + d, rfl, rfl, ?_⟩
      have q := sg_60_0 (e := e) c22 b
      rw [q]
      refine ⟨.inr (.inr (.inl ⟨by decide, rfl⟩)), ⟨fun z => absurd z (by decide), fun z => absurd z (by decide)⟩, fun _ => ⟨?_, by decide, by decide⟩⟩
      show _ = sv_T 55
      rw [show sv_T 55 = 7741 by decide]; omega
    · by_cases b2 : d = 60
      · refine ⟨128 * a + d, rfl, rfl, ?_⟩
        have q := sg_60_1 (e := e) c22 b2
        rw [q]
        refine ⟨.inr (.inr (.inl ⟨by decide, rfl⟩)), ⟨fun z => absurd z (by decide), fun z => absurd z (by decide)⟩, fun _ => ⟨?_, by decide, by decide⟩⟩
        show _ = sv_T 58
        rw [show sv_T 58 = 7740 by decide]; omega
      · refine ⟨a, rfl, rfl, ?_⟩
        have q := sg_60_2 (e := e) c22 ⟨b, b2⟩
        rw [q]
        refine ⟨.inr (.inl ⟨by decide, rfl⟩), ⟨fun z => absurd z (by decide), fun z => absurd z (by decide)⟩, fun _ => ⟨?_, by decide, by decide⟩⟩
        show _ = sv_T 54
        rw [show sv_T 54 = 60 by decide]; omega
  by_cases c23 : a = 62
  · by_cases b : d = 61
    · refine ⟨128 * a + d, rfl, rfl, ?_⟩
      have q := sg_62_0 (e := e) c23 b
      rw [q]
      refine ⟨.inr (.inr (.inl ⟨by decide, rfl⟩)), ⟨fun z => absurd z (by decide), fun z => absurd z (by decide)⟩, fun _ => ⟨?_, by decide, by decide⟩⟩
      show _ = sv_T 57
      rw [show sv_T 57 = 7997 by decide]; omega
    · by_cases b2 : d = 62
      · by_cases b3 : e = 62
        · refine ⟨128 * (128 * a + d) + e, rfl, rfl, ?_⟩
          have q := sg_62_1 c23 ⟨b2, b3⟩
          rw [q]
          refine ⟨.inr (.inr (.inr ⟨by decide, rfl⟩)), ⟨fun z => absurd z (by decide), fun z => absurd z (by decide)⟩, fun _ => ⟨?_, by decide, by decide⟩⟩
          show _ = sv_T 60
          rw [show sv_T 60 = 1023806 by decide]; omega
        · refine ⟨128 * a + d, rfl, rfl, ?_⟩
          have q := sg_62_2 c23 ⟨b2, b3⟩
          rw [q]
          refine ⟨.inr (.inr (.inl ⟨by decide, rfl⟩)), ⟨fun z => absurd z (by decide), fun z => absurd z (by decide)⟩, fun _ => ⟨?_, by decide, by decide⟩⟩
          show _ = sv_T 59
          rw [show sv_T 59 = 7998 by decide]; omega
      · refine ⟨a, rfl, rfl, ?_⟩
        have q := sg_62_3 (e := e) c23 ⟨b, b2⟩
        rw [q]
        refine ⟨.inr (.inl ⟨by decide, rfl⟩), ⟨fun z => absurd z (by decide), fun z => absurd z (by decide)⟩, fun _ => ⟨?_, by decide, by decide⟩⟩
        show _ = sv_T 56
        rw [show sv_T 56 = 62 by decide]; omega
  · refine ⟨0, rfl, rfl, ?_⟩
    have q := sg_no (a := a) (d := d) (e := e) ⟨by omega, by omega, by omega, by omega, by omega, by omega, by omega, by omega, by omega, by omega, by omega, by omega, by omega, by omega, by omega, by omega, by omega, by omega, by omega, by omega, by omega, by omega, by omega, by omega⟩
    rw [q]
    exact ⟨.inl (by decide), ⟨fun _ => by decide, fun _ => rfl⟩, fun z => absurd rfl z⟩
theorem sg_w2 {a d e : Int} (h0 : d = 0) (hw : sl_T (sg_T a d e) = 2 ∨ sl_T (sg_T a d e) = 3) : False := by
  by_cases c0 : a = 37
  · rw [sg_37 (d := d) (e := e) c0] at hw
    exact absurd hw (by decide)
  by_cases c1 : a = 40
  · rw [sg_40 (d := d) (e := e) c1] at hw
    exact absurd hw (by decide)
  by_cases c2 : a = 41
  · rw [sg_41 (d := d) (e := e) c2] at hw
    exact absurd hw (by decide)
  by_cases c3 : a = 42
  · rw [sg_42 (d := d) (e := e) c3] at hw
    exact absurd hw (by decide)
  by_cases c4 : a = 43
  · rw [sg_43 (d := d) (e := e) c4] at hw
    exact absurd hw (by decide)
  by_cases c5 : a = 44
  · rw [sg_44 (d := d) (e := e) c5] at hw
    exact absurd hw (by decide)
  by_cases c6 : a = 45
  · rw [sg_45 (d := d) (e := e) c6] at hw
    exact absurd hw (by decide)
  by_cases c7 : a = 46
  · rw [sg_46 (d := d) (e := e) c7] at hw
    exact absurd hw (by decide)
  by_cases c8 : a = 47
  · rw [sg_47 (d := d) (e := e) c8] at hw
    exact absurd hw (by decide)
  by_cases c9 : a = 58
  · rw [sg_58 (d := d) (e := e) c9] at hw
    exact absurd hw (by decide)
  by_cases c10 : a = 59
  · rw [sg_59 (d := d) (e := e) c10] at hw
    exact absurd hw (by decide)
  by_cases c11 : a = 63
  · rw [sg_63 (d := d) (e := e) c11] at hw
    exact absurd hw (by decide)
  by_cases c12 : a = 91
  · rw [sg_91 (d := d) (e := e) c12] at hw
    exact absurd hw (by decide)
  by_cases c13 : a = 93
  · rw [sg_93 (d := d) (e := e) c13] at hw
    exact absurd hw (by decide)
  by_cases c14 : a = 94
  · rw [sg_94 (d := d) (e := e) c14] at hw
    exact absurd hw (by decide)
  by_cases c15 : a = 123
  · rw [sg_123 (d := d) (e := e) c15] at hw
    exact absurd hw (by decide)
  by_cases c16 : a = 125
  · rw [sg_125 (d := d) (e := e) c16] at hw
    exact absurd hw (by decide)
  by_cases c17 : a = 126
  · rw [sg_126 (d := d) (e := e) c17] at hw
    exact absurd hw (by decide)
  by_cases c18 : a = 33
  · rw [sg_33_1 (e := e) c18 (show ¬ d = 61 by omega)] at hw
    exact absurd hw (by decide)
  by_cases c19 : a = 38
  · rw [sg_38_1 (e := e) c19 (show ¬ d = 38 by omega)] at hw
    exact absurd hw (by decide)
  by_cases c20 : a = 61
  · rw [sg_61_1 (e := e) c20 (show ¬ d = 61 by omega)] at hw
    exact absurd hw (by decide)
  by_cases c21 : a = 124
  · rw [sg_124_1 (e := e) c21 (show ¬ d = 124 by omega)] at hw
    exact absurd hw (by decide)
  by_cases c22 : a = 60
  · rw [sg_60_2 (e := e) c22 ⟨show ¬ d = 61 by omega, show ¬ d = 60 by omega⟩] at hw
    exact absurd hw (by decide)
  by_cases c23 : a = 62
  · rw [sg_62_3 (e := e) c23 ⟨show ¬ d = 61 by omega, show ¬ d = 62 by omega⟩] at hw
    exact absurd hw (by decide)
  rw [sg_no (a := a) (d := d) (e := e) ⟨by omega, by omega, by omega, by omega, by omega, by omega, by omega, by omega, by omega, by omega, by omega, by omega, by omega, by omega, by omega, by omega, by omega, by omega, by omega, by omega, by omega, by omega, by omega, by omega⟩] at hw
  exact absurd hw (by decide)
theorem sg_w3 {a d e : Int} (h0 : e = 0) (hw : sl_T (sg_T a d e) = 3) : False := by
  by_cases c0 : a = 37
  · rw [sg_37 (d := d) (e := e) c0] at hw
    exact absurd hw (by decide)
  by_cases c1 : a = 40
  · rw [sg_40 (d := d) (e := e) c1] at hw
    exact absurd hw (by decide)
  by_cases c2 : a = 41
  · rw [sg_41 (d := d) (e := e) c2] at hw
    exact absurd hw (by decide)
  by_cases c3 : a = 42
  · rw [sg_42 (d := d) (e := e) c3] at hw
    exact absurd hw (by decide)
  by_cases c4 : a = 43
  · rw [sg_43 (d := d) (e := e) c4] at hw
    exact absurd hw (by decide)
  by_cases c5 : a = 44
  · rw [sg_44 (d := d) (e := e) c5] at hw
    exact absurd hw (by decide)
  by_cases c6 : a = 45
  · rw [sg_45 (d := d) (e := e) c6] at hw
    exact absurd hw (by decide)
  by_cases c7 : a = 46
  · rw [sg_46 (d := d) (e := e) c7] at hw
    exact absurd hw (by decide)
  by_cases c8 : a = 47
  · rw [sg_47 (d := d) (e := e) c8] at hw
    exact absurd hw (by decide)
  by_cases c9 : a = 58
  · rw [sg_58 (d := d) (e := e) c9] at hw
    exact absurd hw (by decide)
  by_cases c10 : a = 59
  · rw [sg_59 (d := d) (e := e) c10] at hw
    exact absurd hw (by decide)
  by_cases c11 : a = 63
  · rw [sg_63 (d := d) (e := e) c11] at hw
    exact absurd hw (by decide)
  by_cases c12 : a = 91
  · rw [sg_91 (d := d) (e := e) c12] at hw
    exact absurd hw (by decide)
  by_cases c13 : a = 93
  · rw [sg_93 (d := d) (e := e) c13] at hw
    exact absurd hw (by decide)
  by_cases c14 : a = 94
  · rw [sg_94 (d := d) (e := e) c14] at hw
    exact absurd hw (by decide)
  by_cases c15 : a = 123
  · rw [sg_123 (d := d) (e := e) c15] at hw
    exact absurd hw (by decide)
  by_cases c16 : a = 125
  · rw [sg_125 (d := d) (e := e) c16] at hw
    exact absurd hw (by decide)
  by_cases c17 : a = 126
  · rw [sg_126 (d := d) (e := e) c17] at hw
    exact absurd hw (by decide)
  by_cases c18 : a = 33
  · by_cases b : d = 61
    · rw [sg_33_0 (e := e) c18 b] at hw
      exact absurd hw (by decide)
    · rw [sg_33_1 (e := e) c18 b] at hw
      exact absurd hw (by decide)
  by_cases c19 : a = 38
  · by_cases b : d = 38
    · rw [sg_38_0 (e := e) c19 b] at hw
      exact absurd hw (by decide)
    · rw [sg_38_1 (e := e) c19 b] at hw
      exact absurd hw (by decide)
  by_cases c20 : a = 61
  · by_cases b : d = 61
    · rw [sg_61_0 (e := e) c20 b] at hw
      exact absurd hw (by decide)
    · rw [sg_61_1 (e := e) c20 b] at hw
      exact absurd hw (by decide)
  by_cases c21 : a = 124
  · by_cases b : d = 124
    · rw [sg_124_0 (e := e) c21 b] at hw
      exact absurd hw (by decide)
    · rw [sg_124_1 (e := e) c21 b] at hw
      exact absurd hw (by decide)
  by_cases c22 : a = 60
  · by_cases b : d = 61
    · rw [sg_60_0 (e := e) c22 b] at hw
      exact absurd hw (by decide)
    · by_cases b2 : d = 60
      · rw [sg_60_1 (e := e) c22 b2] at hw
        exact absurd hw (by decide)
      · rw [sg_60_2 (e := e) c22 ⟨b, b2⟩] at hw
        exact absurd hw (by decide)
  by_cases c23 : a = 62
  · by_cases b : d = 61
    · rw [sg_62_0 (e := e) c23 b] at hw
      exact absurd hw (by decide)
    · by_cases b2 : d = 62
      · rw [sg_62_2 c23 ⟨b2, show ¬ e = 62 by omega⟩] at hw
        exact absurd hw (by decide)
      · rw [sg_62_3 (e := e) c23 ⟨b, b2⟩] at hw
        exact absurd hw (by decide)
  rw [sg_no (a := a) (d := d) (e := e) ⟨by omega, by omega, by omega, by omega, by omega, by omega, by omega, by omega, by omega, by omega, by omega, by omega, by omega, by omega, by omega, by omega, by omega, by omega, by omega, by omega, by omega, by omega, by omega, by omega⟩] at hw
  exact absurd hw (by decide)
theorem sa_r {A : Nat → Int} {n p : Nat} {x d e : Int} (T : TXr r A n) (hp : p < n) (hx : x = (p : Int)) (hd : (p + 1 < n ∧ d = A (p + 1)) ∨ (¬ p + 1 < n ∧ d = 0)) (he : (p + 2 < n ∧ e = A (p + 2)) ∨ (¬ p + 2 < n ∧ e = 0)) : Pc (qf_X13_signAt nn x r) (fun u => u = sl_T (sg_T (A p) d e)) := by
  have t0 := T.1
  unfold qf_X13_signAt
  refine pc_sv (r_at T (x := p) hx) ?_; intro u4 q4
  refine pc_add (by omega) ?_; intro v5 e5
  refine pc_sv (r_at T (x := p + 1) (by omega)) ?_; intro u7 q7
  have a4 : u4 = A p := by omega
  have a7 : u7 = d := by omega
  rw [← a4]
  unfold qj_X13_signAt_406 qj_X13_signAt_404 qj_X13_signAt_474 qj_X13_signAt_485
  refine pc_if (fun c => ?_) (fun c0 => ?_)
  · refine pc_if (fun b => pc_ret ?_) (fun b => pc_ret ?_)
    · show (1 : Int) = _
      rw [sg_33_1 (e := e) c (show ¬ d = 61 by omega)]; decide
    · show (2 : Int) = _
      rw [sg_33_0 (e := e) c (show d = 61 by omega)]; decide
  refine pc_if (fun c => ?_) (fun c1 => ?_)
  · refine pc_ret ?_
    show (1 : Int) = _
    rw [sg_37 (d := d) (e := e) c]; decide
  refine pc_if (fun c => ?_) (fun c2 => ?_)
  · refine pc_if (fun b => pc_ret ?_) (fun b => pc_ret ?_)
    · show (1 : Int) = _
      rw [sg_38_1 (e := e) c (show ¬ d = 38 by omega)]; decide
    · show (2 : Int) = _
      rw [sg_38_0 (e := e) c (show d = 38 by omega)]; decide
  refine pc_if (fun c => ?_) (fun c3 => ?_)
  · refine pc_ret ?_
    show (1 : Int) = _
    rw [sg_40 (d := d) (e := e) c]; decide
  refine pc_if (fun c => ?_) (fun c4 => ?_)
  · refine pc_ret ?_
    show (1 : Int) = _
    rw [sg_41 (d := d) (e := e) c]; decide
  refine pc_if (fun c => ?_) (fun c5 => ?_)
  · refine pc_ret ?_
    show (1 : Int) = _
    rw [sg_42 (d := d) (e := e) c]; decide
  refine pc_if (fun c => ?_) (fun c6 => ?_)
  · refine pc_ret ?_
    show (1 : Int) = _
    rw [sg_43 (d := d) (e := e) c]; decide
  refine pc_if (fun c => ?_) (fun c7 => ?_)
  · refine pc_ret ?_
    show (1 : Int) = _
    rw [sg_44 (d := d) (e := e) c]; decide
  refine pc_if (fun c => ?_) (fun c8 => ?_)
  · refine pc_ret ?_
    show (1 : Int) = _
    rw [sg_45 (d := d) (e := e) c]; decide
  refine pc_if (fun c => ?_) (fun c9 => ?_)
  · refine pc_ret ?_
    show (1 : Int) = _
    rw [sg_46 (d := d) (e := e) c]; decide
  refine pc_if (fun c => ?_) (fun c10 => ?_)
  · refine pc_ret ?_
    show (1 : Int) = _
    rw [sg_47 (d := d) (e := e) c]; decide
  refine pc_if (fun c => ?_) (fun c11 => ?_)
  · refine pc_ret ?_
    show (1 : Int) = _
    rw [sg_58 (d := d) (e := e) c]; decide
  refine pc_if (fun c => ?_) (fun c12 => ?_)
  · refine pc_ret ?_
    show (1 : Int) = _
    rw [sg_59 (d := d) (e := e) c]; decide
  refine pc_if (fun c => ?_) (fun c13 => ?_)
  · refine pc_if (fun b => pc_ret ?_) (fun b => pc_if (fun b2 => pc_ret ?_) (fun b2 => pc_ret ?_))
    · show (2 : Int) = _
      rw [sg_60_0 (e := e) c (show d = 61 by omega)]; decide
    · show (1 : Int) = _
      rw [sg_60_2 (e := e) c ⟨show ¬ d = 61 by omega, show ¬ d = 60 by omega⟩]; decide
    · show (2 : Int) = _
      rw [sg_60_1 (e := e) c (show d = 60 by omega)]; decide
  refine pc_if (fun c => ?_) (fun c14 => ?_)
  · refine pc_if (fun b => pc_ret ?_) (fun b => pc_ret ?_)
    · show (1 : Int) = _
      rw [sg_61_1 (e := e) c (show ¬ d = 61 by omega)]; decide
    · show (2 : Int) = _
      rw [sg_61_0 (e := e) c (show d = 61 by omega)]; decide
  refine pc_if (fun c => ?_) (fun c15 => ?_)
  · refine pc_if (fun b => pc_if (fun b2 => pc_ret ?_) (fun b2 => pc_ret ?_)) (fun b => ?_)
    · show (1 : Int) = _
      rw [sg_62_3 (e := e) c ⟨show ¬ d = 61 by omega, show ¬ d = 62 by omega⟩]; decide
    · show (2 : Int) = _
      rw [sg_62_0 (e := e) c (show d = 61 by omega)]; decide
    · refine pc_add (by omega) ?_; intro v11 e11
      refine pc_sv (r_at T (x := p + 2) (by omega)) ?_; intro u13 q13
      refine pc_if (fun b2 => pc_ret ?_) (fun b2 => pc_ret ?_)
      · show (2 : Int) = _
        rw [sg_62_2 c ⟨show d = 62 by omega, show ¬ e = 62 by omega⟩]; decide
      · show (3 : Int) = _
        rw [sg_62_1 c ⟨show d = 62 by omega, show e = 62 by omega⟩]; decide
  refine pc_if (fun c => ?_) (fun c16 => ?_)
  · refine pc_ret ?_
    show (1 : Int) = _
    rw [sg_63 (d := d) (e := e) c]; decide
  refine pc_if (fun c => ?_) (fun c17 => ?_)
  · refine pc_ret ?_
    show (1 : Int) = _
    rw [sg_91 (d := d) (e := e) c]; decide
  refine pc_if (fun c => ?_) (fun c18 => ?_)
  · refine pc_ret ?_
    show (1 : Int) = _
    rw [sg_93 (d := d) (e := e) c]; decide
  refine pc_if (fun c => ?_) (fun c19 => ?_)
  · refine pc_ret ?_
    show (1 : Int) = _
    rw [sg_94 (d := d) (e := e) c]; decide
  refine pc_if (fun c => ?_) (fun c20 => ?_)
  · refine pc_ret ?_
    show (1 : Int) = _
    rw [sg_123 (d := d) (e := e) c]; decide
  refine pc_if (fun c => ?_) (fun c21 => ?_)
  · refine pc_if (fun b => pc_ret ?_) (fun b => pc_ret ?_)
    · show (1 : Int) = _
      rw [sg_124_1 (e := e) c (show ¬ d = 124 by omega)]; decide
    · show (2 : Int) = _
      rw [sg_124_0 (e := e) c (show d = 124 by omega)]; decide
  refine pc_if (fun c => ?_) (fun c22 => ?_)
  · refine pc_ret ?_
    show (1 : Int) = _
    rw [sg_125 (d := d) (e := e) c]; decide
  refine pc_if (fun c => ?_) (fun c23 => ?_)
  · refine pc_ret ?_
    show (1 : Int) = _
    rw [sg_126 (d := d) (e := e) c]; decide
  refine pc_ret ?_
  show (0 : Int) = _
  rw [sg_no (a := u4) (d := d) (e := e) ⟨c0, c1, c2, c3, c4, c5, c6, c7, c8, c9, c10, c11, c12, c13, c14, c15, c16, c17, c18, c19, c20, c21, c22, c23⟩]; decide
end

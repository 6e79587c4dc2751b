/-- KINDS of methods: how many parameters, and where the bracket closes -/
def pl_N (f : Nat → Int) : Nat → Nat → Nat → Option (Nat × Nat)
  | 0, _, _ => none
  | k + 1, p, s => if p < s ∧ f p ≠ 41 then (match kd_N f p s with
    | some e => (pl_N f k e s).map (fun q => (q.1 + 1, q.2))
    | none => none) else some (0, p)
def pe_N (f : Nat → Int) (p s : Nat) : Bool := decide (p < s) && ((decide (p + 2 = s) && decide (f (p + 1) = 86)) || decide (kd_N f (p + 1) s = some s))
def pi_N (f : Nat → Int) (a s : Nat) : Option Nat := if a < s ∧ f a = 40 then (match pl_N f (s + 1) (a + 1) s with
    | some q => if pe_N f q.2 s = true then some q.1 else none
    | none => none) else none
theorem kp_rg {f : Nat → Int} {p s e : Nat} (h : kp_N f p s = some e) : p < e ∧ e ≤ s := by
  unfold kp_N kn_N at h
  have r := fi_rg (f := f) (x := 59) (s - (p + 1)) (p + 1)
  split at h
  · cases h; omega
  · split at h
    · split at h
      · cases h; omega
      · cases h
    · cases h
theorem kd_rg {f : Nat → Int} {a s e : Nat} (h : kd_N f a s = some e) : a < e ∧ e ≤ s := by
  unfold kd_N at h
  split at h
  · cases h; omega
  · split at h
    · have := kp_rg h; omega
    · exact kp_rg h
theorem isField_M {nn : Nat} (hn : 100020 ≤ nn) {M : ms_M} {c : Nat} (hc : c < cn_M M) (ht : ly_T c = 0) {a m : Nat} (hs : ((a + m : Nat) : Int) ≤ ln_I M c) (hs2 : a + m ≤ 100000) : qf_X13_isFieldKind nn c (a : Int) (m : Int) M = some (bi_N (decide (kd_N (M c) a (a + m) = some (a + m)))) := by
  unfold qf_X13_isFieldKind
  by_cases w : m = 0
  · subst w
    rw [if_pos (by omega), decide_eq_false (fun z => by have := kd_rg z; omega)]; rfl
  · rw [if_neg (by omega), xl_eq, oq_add_eq (by omega) (by omega) (by omega)]
    have e : (a : Int) + (m : Int) = ((a + m : Nat) : Int) := by omega
    rw [e, kindBytes_ok hn hc ht hs hs2 (by omega), mx_svs]
    cases hk : kd_N (M c) a (a + m) with
    | none =>
      rw [decide_eq_false (by simp)]
      show (if ¬ (0 : Int) = (m : Int) then some 0 else some 1) = some 0
      rw [if_pos (by omega)]
    | some z =>
      show (if ¬ ((z : Int) - (a : Int)) = (m : Int) then some (0 : Int) else some 1) = _
      by_cases w2 : z = a + m
      · rw [if_neg (by omega), w2, decide_eq_true rfl]; rfl
      · rw [if_pos (by omega), decide_eq_false (by intro q; cases q; exact w2 rfl)]; rfl
theorem pm_71 {nn : Nat} (hn : 100020 ≤ nn) {M : ms_M} {c : Nat} (hc : c < cn_M M) (ht : ly_T c = 0) {p s : Nat} {cnt : Int} (hs : (s : Int) ≤ ln_I M c) (hs2 : s ≤ 100000) (hp : p ≤ s) : qj_X13_parametersIn_71 nn c (s : Int) (p : Int) cnt M = some (if pe_N (M c) p s = true then cnt else -1) := by
  unfold qj_X13_parametersIn_71 qj_X13_parametersIn_99 qj_X13_parametersIn_112 qj_X13_parametersIn_117 pe_N
  by_cases w : p < s
  · have e1 : oq_add (p : Int) 1 = ((p + 1 : Nat) : Int) := by rw [oq_add_eq (by omega) (by omega) (by omega)]; omega
    have e2 : oq_add ((p + 1 : Nat) : Int) 1 = ((p + 2 : Nat) : Int) := by rw [oq_add_eq (by omega) (by omega) (by omega)]; omega
    have e3 : oq_sub (s : Int) ((p + 1 : Nat) : Int) = ((s - (p + 1) : Nat) : Int) := by rw [oq_sub_eq (by omega) (by omega) (by omega)]; omega
    have hf := isField_M hn hc ht (a := p + 1) (m := s - (p + 1)) (by omega) (by omega)
    have e4 : p + 1 + (s - (p + 1)) = s := by omega
    rw [e4] at hf
    rw [if_pos (show (p : Int) < (s : Int) by omega)]
    simp only [xl_eq]
    rw [e1, e2, e3, hf, mx_svs, decide_eq_true w]
    by_cases w2 : p + 2 = s
    · rw [if_neg (show ¬ ¬ ((p + 2 : Nat) : Int) = (s : Int) by omega), decide_eq_true w2]
      unfold rd_S
      rw [if_pos ⟨⟨hc, ht⟩, by omega, by omega⟩]
      have e5 : ((p + 1 : Nat) : Int).toNat = p + 1 := by omega
      rw [e5]
      try dsimp only
      by_cases w3 : M c (p + 1) = 86
      · rw [if_pos w3, decide_eq_true w3]; simp
      · rw [if_neg w3, decide_eq_false w3]
        cases decide (kd_N (M c) (p + 1) s = some s) <;> simp [bi_N]
    · rw [if_pos (show ¬ ((p + 2 : Nat) : Int) = (s : Int) by omega), decide_eq_false w2]
      cases decide (kd_N (M c) (p + 1) s = some s) <;> simp [bi_N]
  · rw [if_neg (show ¬ (p : Int) < (s : Int) by omega), decide_eq_false w]; simp
theorem pm_27 {nn : Nat} (hn : 100020 ≤ nn) {M : ms_M} {c : Nat} (hc : c < cn_M M) (ht : ly_T c = 0) {s : Nat} (hs : (s : Int) ≤ ln_I M c) (hs2 : s ≤ 100000) : ∀ (kf k p cnt : Nat), p ≤ s → s - p < kf → kf < k → cnt + (s - p) ≤ 200000 → qw_X13_parametersIn_27 nn k c (s : Int) (p : Int) (cnt : Int) M = some (match pl_N (M c) kf p s with
    | some q => if pe_N (M c) q.2 s = true then (cnt : Int) + (q.1 : Int) else -1
    | none => -1) := by
  intro kf
  induction kf with
  | zero => intro k p cnt _ h2; omega
  | succ kf ih =>
    intro k p cnt h1 h2 h3 h4
    obtain ⟨k, rfl⟩ : ∃ k2, k = k2 + 1 := ⟨k - 1, by omega⟩
    have last : qj_X13_parametersIn_71 nn c (s : Int) (p : Int) (cnt : Int) M = some (if pe_N (M c) p s = true then (cnt : Int) + ((0 : Nat) : Int) else -1) := by
      rw [pm_71 hn hc ht hs hs2 h1]; simp
    unfold qw_X13_parametersIn_27 pl_N
    by_cases w : p < s
    · rw [if_neg (show ¬ (s : Int) ≤ (p : Int) by omega)]
      unfold rd_S
      rw [if_pos ⟨⟨hc, ht⟩, by omega, by omega⟩]
      have e : ((p : Nat) : Int).toNat = p := by omega
      rw [e]
      dsimp only
      by_cases w2 : M c p = 41
      · rw [if_pos w2, if_neg (show ¬ (p < s ∧ M c p ≠ 41) from fun z => z.2 w2)]; exact last
      · rw [if_neg w2, if_pos (show p < s ∧ M c p ≠ 41 from ⟨w, w2⟩), kindBytes_ok hn hc ht hs hs2 h1, mx_svs]
        cases hk : kd_N (M c) p s with
        | none => rfl
        | some z =>
          have r := kd_rg hk
          show (if ¬ ((z : Int) - (p : Int)) = 0 then _ else _) = _
          rw [if_pos (by omega)]
          simp only [xl_eq]
          have e1 : oq_add (p : Int) ((z : Int) - (p : Int)) = (z : Int) := by rw [oq_add_eq (by omega) (by omega) (by omega)]; omega
          have e2 : oq_add (cnt : Int) 1 = ((cnt + 1 : Nat) : Int) := by rw [oq_add_eq (by omega) (by omega) (by omega)]; omega
          show qw_X13_parametersIn_27 nn k c (s : Int) (oq_add (p : Int) ((z : Int) - (p : Int))) (oq_add (cnt : Int) 1) M = _
          rw [e1, e2, ih k z (cnt + 1) (by omega) (by omega) (by omega) (by omega)]
          cases pl_N (M c) kf z s with
          | none => rfl
          | some q =>
            show some (if pe_N (M c) q.2 s = true then ((cnt + 1 : Nat) : Int) + (q.1 : Int) else -1) = some (if pe_N (M c) q.2 s = true then (cnt : Int) + ((q.1 + 1 : Nat) : Int) else -1)
            have e3 : ((cnt + 1 : Nat) : Int) + (q.1 : Int) = (cnt : Int) + ((q.1 + 1 : Nat) : Int) := by omega
            rw [e3]
    · rw [if_pos (show (s : Int) ≤ (p : Int) by omega), if_neg (show ¬ (p < s ∧ M c p ≠ 41) from fun z => w z.1)]; exact last
/-- the reference's parametersIn -/
theorem params_M {nn : Nat} (hn : 200020 ≤ nn) {M : ms_M} {c : Nat} (hc : c < cn_M M) (ht : ly_T c = 0) {a m : Nat} (hs : ((a + m : Nat) : Int) ≤ ln_I M c) (hs2 : a + m ≤ 100000) : qf_X13_parametersIn nn c (a : Int) (m : Int) M = some (op_E (pi_N (M c) a (a + m))) := by
  unfold qf_X13_parametersIn
  have e : oq_add (a : Int) (m : Int) = ((a + m : Nat) : Int) := by rw [oq_add_eq (by omega) (by omega) (by omega)]; omega
  rw [xl_eq, e]
  have hloop : a < a + m → M c a = 40 → qw_X13_parametersIn_27 nn nn c ((a + m : Nat) : Int) ((a + 1 : Nat) : Int) 0 M = some (op_E (pi_N (M c) a (a + m))) := by
    intro h1 h2
    have z := pm_27 (nn := nn) (by omega) hc ht hs hs2 (a + m + 1) nn (a + 1) 0 (by omega) (by omega) (by omega) (by omega)
    rw [show (0 : Int) = ((0 : Nat) : Int) from rfl, z]
    unfold pi_N
    rw [if_pos ⟨h1, h2⟩]
    cases pl_N (M c) (a + m + 1) (a + 1) (a + m) with
    | none => rfl
    | some q =>
      show some (if pe_N (M c) q.2 (a + m) = true then ((0 : Nat) : Int) + (q.1 : Int) else -1) = some (op_E (if pe_N (M c) q.2 (a + m) = true then some q.1 else none))
      by_cases w : pe_N (M c) q.2 (a + m) = true
      · rw [if_pos w, if_pos w]
        show some (((0 : Nat) : Int) + (q.1 : Int)) = some (q.1 : Int)
        congr 1; omega
      · rw [if_neg w, if_neg w]; rfl
  unfold rd_S
  have e1 : ((a : Nat) : Int).toNat = a := by omega
  have e2 : oq_add (a : Int) 1 = ((a + 1 : Nat) : Int) := by rw [oq_add_eq (by omega) (by omega) (by omega)]; omega
  by_cases w : m < 3
  · rw [if_pos (show (m : Int) < 3 by omega)]
    -- too short: no such kind
    by_cases w0 : a < a + m ∧ M c a = 40
    · unfold pi_N
      rw [if_pos w0]
      cases hq : pl_N (M c) (a + m + 1) (a + 1) (a + m) with
      | none => rfl
      | some q =>
        have hr : a + 1 ≤ q.2 := by
          have key : ∀ (k p : Nat) (z : Nat × Nat), pl_N (M c) k p (a + m) = some z → p ≤ z.2 := by
            intro k
            induction k with
            | zero => intro p z hz; cases hz
            | succ k ih =>
              intro p z hz
              unfold pl_N at hz
              split at hz
              · split at hz
                · rename_i e9 he9
                  cases hp9 : pl_N (M c) k e9 (a + m) with
                  | none => rw [hp9] at hz; cases hz
                  | some y =>
                    rw [hp9] at hz; cases hz
                    have h8 := ih e9 y hp9
                    have h7 := kd_rg he9
                    show p ≤ y.2
                    omega
                · cases hz
              · cases hz; exact Nat.le_refl _
          exact key _ _ _ hq
        have : pe_N (M c) q.2 (a + m) = false := by
          unfold pe_N
          by_cases w1 : q.2 < a + m
          · rw [decide_eq_true w1, decide_eq_false (show ¬ q.2 + 2 = a + m by omega), decide_eq_false (show ¬ kd_N (M c) (q.2 + 1) (a + m) = some (a + m) from fun z => by have := kd_rg z; omega)]; rfl
          · rw [decide_eq_false w1]; rfl
        show _ = some (op_E (if pe_N (M c) q.2 (a + m) = true then some q.1 else none))
        rw [this]; rfl
    · unfold pi_N; rw [if_neg w0]; rfl
  · rw [if_neg (show ¬ (m : Int) < 3 by omega), if_pos ⟨⟨hc, ht⟩, by omega, by omega⟩]
    try dsimp only
    rw [e1, xl_eq, e2]
    by_cases w2 : M c a = 40
    · rw [if_pos w2]; exact hloop (by omega) w2
    · rw [if_neg w2]; unfold pi_N; rw [if_neg (fun z => w2 z.2)]; rfl

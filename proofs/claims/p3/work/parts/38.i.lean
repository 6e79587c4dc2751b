/-- the class's parametersIn -/
theorem pc_85 {nn : Nat} (hn : 6020 ≤ nn) {M : ms_M} {b : Nat} {B : Nat → Int} {n : Nat} (h : sr_I M b B n) {p s cnt : Nat} (hs : s ≤ n) (hp : p ≤ s) (hc : cnt ≤ 7) : qj_X3_parametersIn_85 nn b (s : Int) (p : Int) (cnt : Int) M = some (if pe_N B p s = true ∧ cnt ≤ 6 then (cnt : Int) else -1) := by
  have hn6 := h.2.1
  unfold qj_X3_parametersIn_85 qj_X3_parametersIn_127 qj_X3_parametersIn_128 pe_N
  rw [if_neg (show ¬ (p : Int) = -1 by omega)]
  by_cases w : p < s
  · rw [if_neg (show ¬ (s : Int) ≤ (p : Int) by omega), decide_eq_true w]
    by_cases w7 : cnt ≤ 6
    · rw [if_pos (show (cnt : Int) ≤ 6 by omega)]
      simp only [xl_eq]
      have e1 : oq_add (p : Int) 1 = ((p + 1 : Nat) : Int) := by rw [oq_add_eq (by omega) (by omega) (by omega)]; omega
      have e2 : oq_add (p : Int) 2 = ((p + 2 : Nat) : Int) := by rw [oq_add_eq (by omega) (by omega) (by omega)]; omega
      rw [e1, e2, behindKind_ok hn h (by omega) hs, mx_svs]
      have hk : (¬ op_E (kd_N B (p + 1) s) = (s : Int)) ↔ ¬ kd_N B (p + 1) s = some s := by
        cases kd_N B (p + 1) s with
        | none =>
          show (¬ (-1 : Int) = (s : Int)) ↔ _
          constructor
          · intro _; simp
          · intro _; omega
        | some z =>
          show (¬ (z : Int) = (s : Int)) ↔ _
          constructor
          · intro q r; cases r; exact q rfl
          · intro q r; exact q (by have : z = s := by omega
                                   rw [this])
      have tail : (if ¬ op_E (kd_N B (p + 1) s) = (s : Int) then some (-1 : Int) else some (cnt : Int)) = some (if decide (kd_N B (p + 1) s = some s) = true then (cnt : Int) else -1) := by
        by_cases q : kd_N B (p + 1) s = some s
        · rw [if_neg (fun r => hk.mp r q), decide_eq_true q, if_pos rfl]
        · rw [if_pos (hk.mpr q), decide_eq_false q, if_neg (by decide)]
      by_cases w2 : p + 2 = s
      · rw [if_neg (show ¬ ¬ ((p + 2 : Nat) : Int) = (s : Int) by omega), byteAt_in h (by omega), mx_svs, decide_eq_true w2]
        by_cases w3 : B (p + 1) = 86
        · rw [if_neg (fun z => z w3), decide_eq_true w3]; simp [w7]
        · rw [if_pos w3, decide_eq_false w3, if_neg (show ¬ ¬ True from fun z => z trivial), tail]
          cases decide (kd_N B (p + 1) s = some s) <;> simp [w7]
      · rw [if_pos (show ¬ ((p + 2 : Nat) : Int) = (s : Int) by omega), decide_eq_false w2, if_neg (show ¬ ¬ True from fun z => z trivial), tail]
        cases decide (kd_N B (p + 1) s = some s) <;> simp [w7]
    · rw [if_neg (show ¬ (cnt : Int) ≤ 6 by omega), if_neg (fun z => w7 z.2)]
  · rw [if_pos (show (s : Int) ≤ (p : Int) by omega), decide_eq_false w]; simp
theorem pc_out {nn k : Nat} {M : ms_M} {b : Nat} {s cnt : Int} : qw_X3_parametersIn_45 nn (k + 1) b s (-1) cnt M = some (-1) := by
  unfold qw_X3_parametersIn_45 qj_X3_parametersIn_85
  by_cases w : 6 < cnt
  · rw [if_pos w, if_pos rfl]
  · rw [if_neg w, if_pos rfl, if_pos rfl]
theorem pc_45 {nn : Nat} (hn : 6020 ≤ nn) {M : ms_M} {b : Nat} {B : Nat → Int} {n : Nat} (h : sr_I M b B n) {s : Nat} (hs : s ≤ n) : ∀ (kf k p cnt : Nat), p ≤ s → s - p < kf → kf + 1 < k → cnt ≤ 7 → qw_X3_parametersIn_45 nn k b (s : Int) (p : Int) (cnt : Int) M = some (match pl_N B kf p s with
    | some q => if pe_N B q.2 s = true ∧ cnt + q.1 ≤ 6 then ((cnt + q.1 : Nat) : Int) else -1
    | none => -1) := by
  intro kf
  induction kf with
  | zero => intro k p cnt _ h2; omega
  | succ kf ih =>
    intro k p cnt h1 h2 h3 h4
    obtain ⟨k, rfl⟩ : ∃ k2, k = k2 + 1 := ⟨k - 1, by omega⟩
    have last := pc_85 hn h hs h1 h4
    unfold qw_X3_parametersIn_45
    by_cases w7 : 6 < cnt
    · rw [if_pos (show (6 : Int) < (cnt : Int) by omega), last, if_neg (fun z => by omega)]
      cases pl_N B (kf + 1) p s with
      | none => rfl
      | some q =>
        show some (-1 : Int) = some (if pe_N B q.2 s = true ∧ cnt + q.1 ≤ 6 then ((cnt + q.1 : Nat) : Int) else -1)
        rw [if_neg (fun z => by omega)]
    · rw [if_neg (show ¬ (6 : Int) < (cnt : Int) by omega), if_neg (show ¬ (p : Int) = -1 by omega)]
      unfold pl_N
      by_cases w : p < s
      · rw [if_neg (show ¬ (s : Int) ≤ (p : Int) by omega), byteAt_in h (by omega), mx_svs]
        by_cases w2 : B p = 41
        · rw [if_pos w2, if_neg (show ¬ (p < s ∧ B p ≠ 41) from fun z => z.2 w2)]; exact last
        · rw [if_neg w2, if_pos (show p < s ∧ B p ≠ 41 from ⟨w, w2⟩), behindKind_ok hn h h1 hs, mx_svs, xl_eq]
          have e2 : oq_add (cnt : Int) 1 = ((cnt + 1 : Nat) : Int) := by rw [oq_add_eq (by omega) (by omega) (by omega)]; omega
          rw [e2]
          cases hk : kd_N B p s with
          | none =>
            obtain ⟨k, rfl⟩ : ∃ k2, k = k2 + 1 := ⟨k - 1, by omega⟩
            exact pc_out
          | some z =>
            have r := kd_rg hk
            show qw_X3_parametersIn_45 nn k b (s : Int) (z : Int) ((cnt + 1 : Nat) : Int) M = _
            rw [ih k z (cnt + 1) (by omega) (by omega) (by omega) (by omega)]
            dsimp only
            cases pl_N B kf z s with
            | none => rfl
            | some q =>
              show some (if pe_N B q.2 s = true ∧ cnt + 1 + q.1 ≤ 6 then ((cnt + 1 + q.1 : Nat) : Int) else -1) = some (if pe_N B q.2 s = true ∧ cnt + (q.1 + 1) ≤ 6 then ((cnt + (q.1 + 1) : Nat) : Int) else -1)
              have e3 : cnt + 1 + q.1 = cnt + (q.1 + 1) := by omega
              rw [e3]
      · rw [if_pos (show (s : Int) ≤ (p : Int) by omega), if_neg (show ¬ (p < s ∧ B p ≠ 41) from fun z => w z.1)]; exact last
/-- six parameters at most -/
def up_6 (o : Option Nat) : Option Nat := match o with
  | some c => if c ≤ 6 then some c else none
  | none => none
theorem params_X {nn : Nat} (hn : 6020 ≤ nn) {M : ms_M} {b : Nat} {B : Nat → Int} {n : Nat} (h : sr_I M b B n) {k : Int} (hc : M b 7 ≤ 255) {a s : Nat} (hk : 1 ≤ k ∧ k ≤ M b 7) (htag : M (b + 2) k.toNat = 1) (hat : M (b + 3) k.toNat = (a : Int)) (hst : M (b + 4) k.toNat = (s : Int)) (ha : a < s) (hs : s ≤ n) : qf_X3_parametersIn nn b k M = some (op_E (up_6 (pi_N B a s))) := by
  have hn6 := h.2.1
  unfold qf_X3_parametersIn
  rw [tagOf_ok hc, mx_svs, if_pos hk, if_neg (fun z => z htag), rd_ok (by omega), hat, byteAt_in h (by omega), mx_svs]
  unfold pi_N
  by_cases w : B a = 40
  · rw [if_pos w, if_pos ⟨ha, w⟩, rd_ok (by omega), hst, rd_ok (by omega), hat, xl_eq]
    have e2 : oq_add (a : Int) 1 = ((a + 1 : Nat) : Int) := by rw [oq_add_eq (by omega) (by omega) (by omega)]; omega
    have z := pc_45 hn h hs (s + 1) nn (a + 1) 0 (by omega) (by omega) (by omega) (by omega)
    rw [e2, show (0 : Int) = ((0 : Nat) : Int) from rfl, z]
    cases pl_N B (s + 1) (a + 1) s with
    | none => rfl
    | some q =>
      show some (if pe_N B q.2 s = true ∧ 0 + q.1 ≤ 6 then ((0 + q.1 : Nat) : Int) else -1) = some (op_E (up_6 (if pe_N B q.2 s = true then some q.1 else none)))
      have e3 : 0 + q.1 = q.1 := by omega
      rw [e3]
      by_cases w2 : pe_N B q.2 s = true
      · rw [if_pos w2]
        by_cases w3 : q.1 ≤ 6
        · rw [if_pos ⟨w2, w3⟩]
          show _ = some (op_E (if q.1 ≤ 6 then some q.1 else none))
          rw [if_pos w3]; rfl
        · rw [if_neg (fun z => w3 z.2)]
          show _ = some (op_E (if q.1 ≤ 6 then some q.1 else none))
          rw [if_neg w3]; rfl
      · rw [if_neg w2, if_neg (fun z => w2 z.1)]; rfl
  · rw [if_neg w, if_neg (fun z => w z.2)]; rfl

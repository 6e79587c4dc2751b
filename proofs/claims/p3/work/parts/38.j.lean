/-- constant k of the Image at b is a TEXT from a to s -/
def tx_I (M : ms_M) (b : Nat) (k : Int) (a s : Nat) : Prop := (1 ≤ k ∧ k ≤ M b 7 ∧ M b 7 ≤ 255) ∧ M (b + 2) k.toNat = 1 ∧ M (b + 3) k.toNat = (a : Int) ∧ M (b + 4) k.toNat = (s : Int)
theorem tagOf_in {nn : Nat} {M : ms_M} {b : Nat} {k : Int} (h : 1 ≤ k ∧ k ≤ M b 7 ∧ M b 7 ≤ 255) : qf_X3_tagOf nn b k M = some (M (b + 2) k.toNat) := by
  rw [tagOf_ok h.2.2, if_pos ⟨h.1, h.2.1⟩]
theorem nameText_ok {nn : Nat} (hn : 20 ≤ nn) {M : ms_M} {b : Nat} {B : Nat → Int} {n : Nat} (h : sr_I M b B n) {k : Int} {a s : Nat} (t : tx_I M b k a s) (ha : a < s) (hs : s ≤ n) : qf_X3_isNameText nn b k M = some (bi_N (nm_N (fun i => B (a + i)) (s - a))) := by
  obtain ⟨t1, t2, t3, t4⟩ := t
  have hn6 := h.2.1
  obtain ⟨h1, h2, h3, h4, h5, h6, h7, h8⟩ := h
  unfold qf_X3_isNameText ck_B
  rw [tagOf_in t1, mx_svs, if_neg (fun z => z t2), if_pos h4, rd_ok (by omega), rd_ok (by omega), t3, t4, cname_ok hn h5 h6 (by omega) (by omega), mx_svs]
  have e2 : ((s : Int) - (a : Int)).toNat = s - a := by omega
  have e3 : ((a : Nat) : Int).toNat = a := by omega
  rw [e2, e3, decide_eq_true (show 0 ≤ (a : Int) ∧ (a : Int) < (s : Int) ∧ (s : Int) ≤ ln_I M (M b 0).toNat by omega)]
  have e1 : nm_N (fun i => M (M b 0).toNat (a + i)) (s - a) = nm_N (fun i => B (a + i)) (s - a) := nm_mask (fun i hi => h8 (a + i) (by omega))
  rw [e1]
  cases nm_N (fun i => B (a + i)) (s - a) <;> simp [bi_N]
theorem fieldKind_ok {nn : Nat} (hn : 6020 ≤ nn) {M : ms_M} {b : Nat} {B : Nat → Int} {n : Nat} (h : sr_I M b B n) {k : Int} {a s : Nat} (t : tx_I M b k a s) (ha : a < s) (hs : s ≤ n) : qf_X3_isFieldKind nn b k M = some (bi_N (decide (kd_N B a s = some s))) := by
  obtain ⟨t1, t2, t3, t4⟩ := t
  unfold qf_X3_isFieldKind
  rw [tagOf_in t1, mx_svs, if_neg (fun z => z t2), rd_ok (by omega), rd_ok (by omega), t3, t4, behindKind_ok hn h (by omega) hs, mx_svs, rd_ok (by omega), t4]
  cases hk : kd_N B a s with
  | none =>
    rw [decide_eq_false (by simp)]
    show (if ¬ (-1 : Int) = (s : Int) then some (0 : Int) else some 1) = some 0
    rw [if_pos (by omega)]
  | some z =>
    show (if ¬ (z : Int) = (s : Int) then some (0 : Int) else some 1) = _
    by_cases w : z = s
    · rw [if_neg (by omega), w, decide_eq_true rfl]; rfl
    · rw [if_pos (by omega), decide_eq_false (by intro q; cases q; exact w rfl)]; rfl
theorem arrayText_ok {nn : Nat} {M : ms_M} {b : Nat} {B : Nat → Int} {n : Nat} (h : sr_I M b B n) {k : Int} {a s : Nat} (t : tx_I M b k a s) (ha : a < s) (hs : s ≤ n) : qf_X3_isArrayText nn b k M = some (bi_N (decide (B a = 91))) := by
  obtain ⟨t1, t2, t3, t4⟩ := t
  unfold qf_X3_isArrayText
  rw [tagOf_in t1, mx_svs, if_neg (fun z => z t2), rd_ok (by omega), t3, byteAt_in h (by omega), mx_svs]
  by_cases w : B a = 91
  · rw [if_neg (fun z => z w), decide_eq_true w]; rfl
  · rw [if_pos w, decide_eq_false w]; rfl
/-- what is no TEXT has none of these -/
theorem noText {nn : Nat} {M : ms_M} {b : Nat} {k : Int} (hc : M b 7 ≤ 255) (hno : ¬ (1 ≤ k ∧ k ≤ M b 7 ∧ M (b + 2) k.toNat = 1)) : qf_X3_isNameText nn b k M = some 0 ∧ qf_X3_isFieldKind nn b k M = some 0 ∧ qf_X3_isArrayText nn b k M = some 0 ∧ qf_X3_parametersIn nn b k M = some (-1) := by
  have hz : ¬ (if 1 ≤ k ∧ k ≤ M b 7 then M (b + 2) k.toNat else 0) = 1 := by
    by_cases w : 1 ≤ k ∧ k ≤ M b 7
    · rw [if_pos w]; exact fun z => hno ⟨w.1, w.2, z⟩
    · rw [if_neg w]; decide
  refine ⟨?_, ?_, ?_, ?_⟩
  · unfold qf_X3_isNameText; rw [tagOf_ok hc, mx_svs, if_pos hz]
  · unfold qf_X3_isFieldKind; rw [tagOf_ok hc, mx_svs, if_pos hz]
  · unfold qf_X3_isArrayText; rw [tagOf_ok hc, mx_svs, if_pos hz]
  · unfold qf_X3_parametersIn; rw [tagOf_ok hc, mx_svs, if_pos hz]

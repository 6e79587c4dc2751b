/-- the reference: constant k of what is looked at begins at byte p -/
def at_M (M : ms_M) (k : Int) (p : Nat) : Prop := (0 ≤ M 160 115 ∧ M 160 115 ≤ 7) ∧ (1 ≤ k ∧ k ≤ M 229 (M 160 115).toNat ∧ M 229 (M 160 115).toNat ≤ 255) ∧ M 228 (256 * M 160 115 + k).toNat = (p : Int)
theorem constantOf_in {nn : Nat} {M : ms_M} {k : Int} {p : Nat} (h : at_M M k p) : qf_X13_constantOf nn (M 160 115) k M = some (p : Int) := by
  obtain ⟨h1, h2, h3⟩ := h
  unfold qf_X13_constantOf
  simp (disch := omega) only [if_neg, rd_ok, xl_eq, oq_mul_eq, oq_add_eq, h3]
theorem constantOf_out {nn : Nat} {M : ms_M} {k : Int} (h1 : 0 ≤ M 160 115 ∧ M 160 115 ≤ 7) (h2 : ¬ (1 ≤ k ∧ k ≤ M 229 (M 160 115).toNat)) : qf_X13_constantOf nn (M 160 115) k M = some (-1) := by
  unfold qf_X13_constantOf
  by_cases w : k < 1
  · rw [if_pos w]
  · simp (disch := omega) only [if_pos, if_neg, rd_ok]
/-- .. and is a TEXT from a to s -/
def tx_M (M : ms_M) (k : Int) (a s : Nat) : Prop := ∃ p, at_M M k p ∧ a = p + 2 ∧ s ≤ 6000 ∧ a < s ∧ M 238 p = 1 ∧ M 238 (p + 1) = (s : Int) - (a : Int)
theorem T_238 : ly_T 238 = 0 := rfl
theorem l_238 {M : ms_M} : ln_I M 238 = 6000 := rfl
theorem b2_ck {x : Bool} : ck_B (bi_N x = 0 ∨ bi_N x = 1) (some (bi_N x)) = some (bi_N x) := by cases x <;> rfl
theorem methodKind_M {nn : Nat} (hn : 200020 ≤ nn) {M : ms_M} (hc : 238 < cn_M M) {a m : Nat} (hs : a + m ≤ 6000) : qf_X13_isMethodKind nn (a : Int) (m : Int) M = some (bi_N (up_6 (pi_N (M 238) a (a + m))).isSome) := by
  unfold qf_X13_isMethodKind
  rw [params_M hn hc T_238 (by rw [l_238]; omega) (by omega), mx_svs]
  cases pi_N (M 238) a (a + m) with
  | none => rfl
  | some z =>
    show (if (z : Int) < 0 then some (0 : Int) else if (6 : Int) < (z : Int) then some 0 else some 1) = some (bi_N (if z ≤ 6 then some z else none).isSome)
    rw [if_neg (show ¬ (z : Int) < 0 by omega)]
    by_cases w : z ≤ 6
    · rw [if_neg (show ¬ (6 : Int) < (z : Int) by omega), if_pos w]; rfl
    · rw [if_pos (show (6 : Int) < (z : Int) by omega), if_neg w]; rfl
/-- isText: 0 a name, 1 a field's kind, 2 a method's kind, 3 one of these two, else a class's text -/
theorem isText_in {nn : Nat} (hn : 200020 ≤ nn) {M : ms_M} (hc : 238 < cn_M M) {k sort : Int} {a s : Nat} (t : tx_M M k a s) (hso : 0 ≤ sort ∧ sort ≤ 4) : qf_X13_isText nn k sort M = some (bi_N (if sort = 0 then nm_N (fun i => M 238 (a + i)) (s - a) else if sort = 1 then decide (kd_N (M 238) a s = some s) else if sort = 2 then (up_6 (pi_N (M 238) a s)).isSome else if sort = 3 then decide (kd_N (M 238) a s = some s) || (up_6 (pi_N (M 238) a s)).isSome else if M 238 a = 91 then decide (kd_N (M 238) a s = some s) else nm_N (fun i => M 238 (a + i)) (s - a))) := by
  obtain ⟨p, t1, t2, t3, t4, t5, t6⟩ := t
  have e1 : oq_add (p : Int) 1 = ((p + 1 : Nat) : Int) := by rw [oq_add_eq (by omega) (by omega) (by omega)]; omega
  have e2 : oq_add (p : Int) 2 = (a : Int) := by rw [oq_add_eq (by omega) (by omega) (by omega)]; omega
  have e3 : (s : Int) - (a : Int) = ((s - a : Nat) : Int) := by omega
  have e4 : a + (s - a) = s := by omega
  have e5 : ((p : Nat) : Int).toNat = p := by omega
  have e6 : ((p + 1 : Nat) : Int).toNat = p + 1 := by omega
  have e7 : ((a : Nat) : Int).toNat = a := by omega
  have e8 : ((s - a : Nat) : Int).toNat = s - a := by omega
  have hN := mname_ok (nn := nn) (by omega) hc T_238 (a := (a : Int)) (b := ((s - a : Nat) : Int)) (by omega) (by intro _ _; rw [l_238]; omega)
  rw [e7, e8] at hN
  have hF := isField_M (nn := nn) (by omega) hc T_238 (a := a) (m := s - a) (by rw [l_238]; omega) (by omega)
  have hK := methodKind_M hn hc (a := a) (m := s - a) (by omega)
  rw [e4] at hF hK
  unfold qf_X13_isText qf_X13_isClassText qj_X13_isClassText_19
  rw [constantOf_in t1, mx_svs, if_neg (show ¬ (p : Int) < 0 by omega), rd_ok (by omega), e5, if_pos t5]
  simp only [xl_eq]
  rw [e1, e2, rd_ok (by omega), e6, t6, e3, hN, mx_svs, hF, mx_svs, hK, mx_svs]
  have hq : sort = 0 ∨ sort = 1 ∨ sort = 2 ∨ sort = 3 ∨ sort = 4 := by omega
  rcases hq with rfl | rfl | rfl | rfl | rfl
  · exact b2_ck
  · exact b2_ck
  · exact b2_ck
  · show (if ¬ bi_N (decide (kd_N (M 238) a s = some s)) = 0 then some (1 : Int) else if bi_N (up_6 (pi_N (M 238) a s)).isSome = 0 then some 0 else some 1) = some (bi_N (decide (kd_N (M 238) a s = some s) || (up_6 (pi_N (M 238) a s)).isSome))
    cases decide (kd_N (M 238) a s = some s) <;> cases (up_6 (pi_N (M 238) a s)).isSome <;> rfl
  · show mx_sv (if ((s - a : Nat) : Int) ≤ 0 then ck_B (bi_N (nm_N (fun i => M 238 (a + i)) (s - a)) = 0 ∨ bi_N (nm_N (fun i => M 238 (a + i)) (s - a)) = 1) (some (bi_N (nm_N (fun i => M 238 (a + i)) (s - a)))) else _) _ = some (bi_N (if M 238 a = 91 then decide (kd_N (M 238) a s = some s) else nm_N (fun i => M 238 (a + i)) (s - a)))
    rw [if_neg (show ¬ ((s - a : Nat) : Int) ≤ 0 by omega), rd_ok (by omega), e7]
    by_cases w : M 238 a = 91
    · rw [if_neg (fun z => z w), if_pos w, b2_ck, mx_svs]; exact b2_ck
    · rw [if_pos w, if_neg w, b2_ck, mx_svs]; exact b2_ck

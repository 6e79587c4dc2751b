/- THE LAW'S LEVEL: fault and images behind compile -/
section
variable {nn n : Nat} {h g z r : ms_M}
/-- the reference's images that were told -/
def JKi (h g : ms_M) : Prop := g 160 93 = h 160 93 ∧ (∀ k : Nat, g 221 k = h 221 k) ∧ ∀ k : Nat, g 222 k = h 222 k
theorem jk_tr (A : JKi h g) (B : JKi g z) : JKi h z := ⟨B.1.trans A.1, fun k => (B.2.1 k).trans (A.2.1 k), fun k => (B.2.2 k).trans (A.2.2 k)⟩
theorem jk_rf : JKi h h := ⟨rfl, fun _ => rfl, fun _ => rfl⟩
theorem jk_up {k : Nat} {v : Int} {c : Nat} (hc : ¬ (c = 160 ∧ k = 93) ∧ c ≠ 221 ∧ c ≠ 222) : JKi h (up_M h c k v) := ⟨up_n (by omega), fun _ => up_n (by omega), fun _ => up_n (by omega)⟩
/-- no fault, or the images that were told stand -/
def JKQ (h g : ms_M) : Prop := g 160 9 = 0 ∨ JKi h g
theorem jkq_i (A : JKi h g) (B : JKQ g z) : JKQ h z := B.imp (fun q => q) (fun q => jk_tr A q)
theorem jk_169 {qk : Int → ms_M → Option (Int × ms_M)} (hk : ∀ (v : Int) (g : ms_M), g 160 9 = 0 → Pc (qk v g) (fun r => r.2 160 9 = 0)) : ∀ (k : Nat) (l2 l3 : Int) (h : ms_M), h 160 9 = 0 → Pc (qw_X13_compile_169 nn qk k l2 l3 h) (fun r => r.2 160 9 = 0) := by
  intro k
  induction k with
  | zero => intros; exact pc_none
  | succ k ih =>
    intro l2 l3 h T
    unfold qw_X13_compile_169
    refine pc_rA (fun _ _ v2 _ => pc_if (fun _ => pc_xl (fun v3 _ => hk v3 h T)) (fun _ => ?_))
    refine pc_xl (fun v5 _ => pc_xl (fun v6 _ => pc_xl (fun v8 _ => pc_xl (fun v9 _ => pc_rA (fun _ _ v10 _ => pc_wA (fun _ _ h11 e11 => pc_xl (fun v12 _ => ?_)))))))
    exact ih _ _ _ (by rw [e11, up_n (by omega)]; exact T)
theorem jk_147 : ∀ (k : Nat) (l2 : Int) (h : ms_M), h 160 9 = 0 → Pc (qw_X13_compile_147 nn k l2 h) (fun r => r.2 160 9 = 0) := by
  intro k
  induction k with
  | zero => intros; exact pc_none
  | succ k ih =>
    intro l2 h T
    unfold qw_X13_compile_147
    refine pc_if (fun _ => pc_xl (fun h16 e16 => pc_ret ?_)) (fun _ => pc_rA (fun _ _ v20 _ => pc_wA (fun _ _ h21 e21 => ?_)))
    · show h16 160 9 = 0
      rw [e16, up_n (by omega)]; exact T
    · exact jk_169 (fun v g q => ih v g q) _ _ _ _ (by rw [e21, up_n (by omega)]; exact T)
theorem jk_136 : Pc (qj_X13_compile_136 nn h) (fun r => JKQ h r.2) := by
  unfold qj_X13_compile_136
  exact pc_if (fun q => pc_imp (jk_147 _ _ _ q) (fun r w => .inl w)) (fun _ => pc_ret (.inr jk_rf))
theorem jk_110 : ∀ (k : Nat) (l2 : Int) (h : ms_M), Pc (qw_X13_compile_110 nn k l2 h) (fun r => JKQ h r.2) := by
  intro k
  induction k with
  | zero => intros; exact pc_none
  | succ k ih =>
    intro l2 h
    unfold qw_X13_compile_110
    refine pc_if (fun _ => jk_136) (fun _ => pc_if (fun _ => jk_136) (fun _ => pc_se (fun u28 e28 => pc_xl (fun v29 _ => ?_))))
    have F := fun c k q => (ff_X13_makeClass nn) _ e28 c k q
    have J : JKi h u28 := ⟨F 160 93 rfl, fun k => F 221 k (nw_ar rfl k), fun k => F 222 k (nw_ar rfl k)⟩
    exact pc_imp (ih _ _) (fun r Q => jkq_i J Q)
theorem jk_97 : Pc (qj_X13_compile_97 nn h) (fun r => JKQ h r.2) := by
  unfold qj_X13_compile_97
  refine pc_if (fun _ => jk_110 _ _ _) (fun _ => pc_se (fun u e => ?_))
  have F := fun c k q => (ff_X13_bodies nn) _ e c k q
  have J : JKi h u := ⟨F 160 93 rfl, fun k => F 221 k (nw_ar rfl k), fun k => F 222 k (nw_ar rfl k)⟩
  exact pc_imp (jk_110 _ _ _) (fun r Q => jkq_i J Q)
theorem jk_86 : Pc (qj_X13_compile_86 nn h) (fun r => JKQ h r.2) := by
  unfold qj_X13_compile_86
  refine pc_if (fun _ => jk_97) (fun _ => pc_se (fun u e => ?_))
  have F := fun c k q => (ff_X13_heads nn) _ e c k q
  have J : JKi h u := ⟨F 160 93 rfl, fun k => F 221 k (nw_ar rfl k), fun k => F 222 k (nw_ar rfl k)⟩
  exact pc_imp jk_97 (fun r Q => jkq_i J Q)
theorem jk_43 : ∀ (k : Nat) (l1 l2 : Int) (h : ms_M), Pc (qw_X13_compile_43 nn k l1 l2 h) (fun r => JKQ h r.2) := by
  intro k
  induction k with
  | zero => intros; exact pc_none
  | succ k ih =>
    intro l1 l2 h
    unfold qw_X13_compile_43
    refine pc_if (fun _ => pc_xl (fun h40 e40 => pc_se (fun u42 e42 => ?_))) (fun _ => pc_rA (fun _ _ v49 _ => pc_wA (fun _ _ h50 e50 => pc_xl (fun v51 _ => ?_))))
    · have J40 : JKi h h40 := by rw [e40]; exact jk_up (by omega)
      have F := fun c k q => (ff_X13_tokenize nn) _ e42 c k q
      have J42 : JKi h u42 := jk_tr J40 ⟨F 160 93 rfl, fun k => F 221 k (nw_ar rfl k), fun k => F 222 k (nw_ar rfl k)⟩
      refine pc_if (fun _ => pc_imp jk_86 (fun r Q => jkq_i J42 Q)) (fun _ => pc_se (fun u45 e45 => ?_))
      have F := fun c k q => (ff_X13_program nn) _ e45 c k q
      exact pc_imp jk_86 (fun r Q => jkq_i (jk_tr J42 ⟨F 160 93 rfl, fun k => F 221 k (nw_ar rfl k), fun k => F 222 k (nw_ar rfl k)⟩) Q)
    · have J50 : JKi h h50 := by rw [e50]; exact jk_up (by omega)
      exact pc_imp (ih _ _ _) (fun r Q => jkq_i J50 Q)
/-- on a fault the reference keeps the images that were told -/
theorem jk_compile : Pc (qf_X13_compile nn h) (fun r => JKQ h r.2) := by
  unfold qf_X13_compile
  refine pc_xl (fun h54 e54 => pc_xl (fun h55 e55 => pc_xl (fun h56 e56 => ?_)))
  have J : JKi h h56 := by
    rw [e56, e55, e54]
    exact jk_tr (jk_tr (jk_up (by omega)) (jk_up (by omega))) (jk_up (by omega))
  refine pc_if (fun _ => pc_imp (jk_43 _ _ _ _) (fun r Q => jkq_i J Q)) (fun _ => pc_xl (fun h57 e57 => pc_xl (fun h58 e58 => pc_ret (.inr ?_))))
  show JKi h h58
  rw [e58, e57]
  exact jk_tr (jk_tr J (jk_up (by omega))) (jk_up (by omega))
/-- fault and place of the latest text -/
def FTm (M : ms_M) : Prop := M 160 9 = M 2 11 ∧ (M 2 11 = 0 ∨ M 160 10 = M 2 12)
theorem fault_m {nn : Nat} {a : Int} {M : ms_M} (V : VS_ M) (h : FTm M) : ∃ r, qf_X12_fault nn a M = some r ∧ qf_X13_fault nn a M = some r := by
  obtain ⟨h1, h2⟩ := h
  have h3 := (gF_2_11 V).1
  unfold qf_X12_fault qf_X13_fault
  rw [h1]
  by_cases q0 : a = 0
  · refine ⟨M 2 11, ?_, ?_⟩ <;> simp (disch := omega) only [if_pos, if_neg]
  by_cases q1 : a = 1
  · by_cases q2 : M 2 11 = 0
    · refine ⟨-1, ?_, ?_⟩ <;> simp (disch := omega) only [if_pos, if_neg]
    · rw [h2.resolve_left q2]
      refine ⟨M 2 12, ?_, ?_⟩ <;> simp (disch := omega) only [if_pos, if_neg]
  · refine ⟨-1, ?_, ?_⟩ <;> simp (disch := omega) only [if_pos, if_neg]
/-- images and fault behind compile -/
theorem im_cmp {M : ms_M} {u : Int × ms_M × Nat × Nat} {v : Int × ms_M} (VM : VS_ M) (V2 : VS_ v.2) (R : im_R M) (e1 : qf_X12_compile nn M = some u) (e2 : qf_X13_compile nn u.2.1 = some v) (C : CQE (cn_M M) M u.2.1) (O : OLn (cn_M M) M u.2.1) (F : FNL n u v) : u.1 = v.1 ∧ im_R v.2 ∧ FTm v.2 := by
  have F1 := fun c k q => (ff_X12_compile nn) _ e1 c k q
  have F2 := fun c k q => (ff_X13_compile nn) _ e2 c k q
  have lo : ∀ c k : Nat, c < 160 ∨ 256 ≤ c → v.2 c k = u.2.1 c k := fun c k q => F2 c k (by
    unfold nw_F
    simp only [Bool.and_eq_true]
    refine ⟨?_, ?_, rfl, rfl⟩
    · cases hq : wl_X13_compile.contains c with
      | false => rfl
      | true =>
        exfalso
        have m := List.contains_iff_mem.mp hq
        have := List.all_eq_true.mp (show wl_X13_compile.all (fun x => Nat.ble 160 x && Nat.blt x 256) = true by decide) c m
        simp only [Bool.and_eq_true, Nat.ble_eq, Nat.blt_eq] at this
        omega
    · cases hq : wf_X13_compile.contains (c, k) with
      | false => rfl
      | true =>
        exfalso
        have m := List.contains_iff_mem.mp hq
        have := List.all_eq_true.mp (show wf_X13_compile.all (fun x => Nat.beq x.1 160) = true by decide) _ m
        have := Nat.eq_of_beq_eq_true this
        dsimp only at this
        omega)
  have cv : cn_M v.2 = cn_M u.2.1 := by unfold cn_M; rw [lo 900000 0 (by omega)]
  rcases F with ⟨a1, b1, s1, s2, s3⟩ | ⟨⟨a1, b1⟩, ⟨a2, b2⟩, ⟨o1, o2, o3⟩, o4⟩
  · refine ⟨a1.trans b1.symm, ?_, ?_, .inr ?_⟩
    · have J : JKi u.2.1 v.2 := (jk_compile _ e2).resolve_left (fun q => s1 (by rw [← s2]; exact q))
      obtain ⟨k1, k2⟩ := C.2.2.1 s1
      obtain ⟨r1, r2, r3⟩ := R
      have e7 : v.2 0 7 = M 0 7 := (lo 0 7 (by omega)).trans k1
      refine ⟨?_, by rw [e7]; exact r2, fun k hk => ?_⟩
      · rw [J.1, e7, ← r1]; exact F1 160 93 rfl
      · rw [e7] at hk
        obtain ⟨⟨x1, x2⟩, x3, x4, x5⟩ := r3 k hk
        have e55 : v.2 55 k = M 55 k := (lo 55 k (by omega)).trans (k2 k)
        have e222 : v.2 222 k = M 222 k := (J.2.2 k).trans (C.2.1 222 k (by omega) (by omega))
        rw [e55, e222]
        have hid : 256 ≤ (M 55 k).toNat := by omega
        refine ⟨⟨x1, by rw [cv]; exact Nat.lt_of_lt_of_le x2 O.2⟩, x3, ?_, fun i hi => ?_⟩
        · rw [lo 900001 _ (by omega), C.2.2.2.1 _ x2]; exact x4
        · obtain ⟨y1, y2⟩ := x5 i hi
          have eb : v.2 (M 55 k).toNat i = M (M 55 k).toNat i := (lo _ i (by omega)).trans (O.1 _ i hid x2)
          rw [eb, show v.2 221 (6000 * k + i) = M 221 (6000 * k + i) from (J.2.1 _).trans (C.2.1 221 _ (by omega) (by omega))]
          exact ⟨y1, y2⟩
    · rw [s2, lo 2 11 (by omega)]
    · rw [s3, lo 2 12 (by omega)]
  · refine ⟨a1.trans b1.symm, ?_, by rw [b2, lo 2 11 (by omega), a2], .inl (by rw [lo 2 11 (by omega)]; exact a2)⟩
    have e7 : v.2 0 7 = (n : Int) := (lo 0 7 (by omega)).trans o1
    refine ⟨by rw [e7]; exact o2, by rw [e7]; omega, fun k hk => ?_⟩
    rw [e7] at hk
    obtain ⟨id, z1, z2, z3, z4, z5⟩ := o4 k (by omega)
    have e55 : v.2 55 k = (id : Int) := (lo 55 k (by omega)).trans z1
    have et : (v.2 55 k).toNat = id := by rw [e55]; exact Int.toNat_natCast id
    refine ⟨⟨by rw [e55]; omega, by rw [et, cv]; exact z2.2.1⟩, z4, ?_, fun i hi => ?_⟩
    · rw [et, lo 900001 id (by omega), ← z3]
      unfold ln_I; rw [if_neg (by omega)]
    · rw [et, z5 i hi, lo id i (by omega)]
      refine ⟨rfl, ?_⟩
      have el : ln_I v.2 id = v.2 222 k := by
        rw [← z3]; unfold ln_I; rw [if_neg (by omega), if_neg (by omega), lo 900001 id (by omega)]
      have w := V2.2.2.2.1 id i z2.1 z2.2.2 (by rw [el]; exact hi)
      rw [lo id i (by omega)] at w
      unfold in_R; omega
end

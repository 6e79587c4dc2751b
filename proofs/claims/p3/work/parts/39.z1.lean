/-- the reference: every token lies within the text, every member's parameters within theirs -/
def HW_ (M : ms_M) : Prop := (∀ t : Nat, (t : Int) < 3002 → M 164 t + M 165 t ≤ 3000) ∧ (∀ m : Nat, (m : Int) < 800 → M 188 m + M 189 m ≤ 1500)
theorem hw_eq {M N : ms_M} (h : HW_ M) (h1 : ∀ k, N 164 k = M 164 k) (h2 : ∀ k, N 165 k = M 165 k) (h3 : ∀ k, N 188 k = M 188 k) (h4 : ∀ k, N 189 k = M 189 k) : HW_ N := by
  refine ⟨fun t ht => ?_, fun m hm => ?_⟩
  · rw [h1, h2]; exact h.1 t ht
  · rw [h3, h4]; exact h.2 m hm
theorem hw_up {M : ms_M} {c k : Nat} {v : Int} (_ : VS_ M) (h : HW_ M) (hc : (!(Nat.beq c 164) && (!(Nat.beq c 165) && (!(Nat.beq c 188) && !(Nat.beq c 189)))) = true) : HW_ (up_M M c k v) := by
  simp only [Bool.and_eq_true] at hc
  obtain ⟨a, b, c', d⟩ := hc
  refine hw_eq h (fun j => up_n ?_) (fun j => up_n ?_) (fun j => up_n ?_) (fun j => up_n ?_)
  · rintro ⟨rfl, -⟩; cases a
  · rintro ⟨rfl, -⟩; cases b
  · rintro ⟨rfl, -⟩; cases c'
  · rintro ⟨rfl, -⟩; cases d
theorem hw_ua {M : ms_M} {c k : Nat} {v : Int} (V : VS_ M) (h : HW_ M) (hc : (!(Nat.beq c 164) && (!(Nat.beq c 165) && (!(Nat.beq c 188) && !(Nat.beq c 189)))) = true) : HW_ (up_M M c k v) := hw_up V h hc
theorem hw_fr {M N : ms_M} {L : List Nat} {LF : List (Nat × Nat)} (_ : VS_ M) (h : HW_ M) (F : ∀ c k, nw_F L LF false false c k = true → N c k = M c k) (hc : ((!(L.contains 164) && LF.all (fun q => !(Nat.beq q.1 164))) && ((!(L.contains 165) && LF.all (fun q => !(Nat.beq q.1 165))) && ((!(L.contains 188) && LF.all (fun q => !(Nat.beq q.1 188))) && (!(L.contains 189) && LF.all (fun q => !(Nat.beq q.1 189)))))) = true) : HW_ N := by
  simp only [Bool.and_eq_true] at hc
  obtain ⟨⟨a1, a2⟩, ⟨b1, b2⟩, ⟨c1, c2⟩, d1, d2⟩ := hc
  refine hw_eq h (fun j => F _ _ (nw_ar ?_ j)) (fun j => F _ _ (nw_ar ?_ j)) (fun j => F _ _ (nw_ar ?_ j)) (fun j => F _ _ (nw_ar ?_ j)) <;> simp only [Bool.and_eq_true]
  · exact ⟨a1, a2, rfl, rfl⟩
  · exact ⟨b1, b2, rfl, rfl⟩
  · exact ⟨c1, c2, rfl, rfl⟩
  · exact ⟨d1, d2, rfl, rfl⟩
theorem vw_X13_isLike_24 {nn : Nat} (_hn : 1000000 ≤ nn) {l1 l2 : Int} {h : ms_M} (r1 : 0 ≤ l1 ∧ l1 ≤ 3001) (r2 : 0 ≤ l2 ∧ l2 ≤ 3001) (V : VS_ h) (N : HW_ h) : ∀ (k : Nat) (l3 l4 : Int), (l3 = 0 ∨ (l3 = 1 ∧ h 165 l1.toNat = h 165 l2.toNat)) → 0 ≤ l4 ∧ l4 ≤ 3000 → 3001 - l4 < (k : Int) → Ok_ (qw_X13_isLike_24 nn k l1 l2 l3 l4 h) (QP_ 0 1) := by
  have w1 := gA_165 V l1.toNat (by omega)
  intro k
  induction k with
  | zero => intro l3 l4 a b hm; exfalso; omega
  | succ k ih =>
    intro l3 l4 a b hm
    have z1 := N.1 l1.toNat (by omega)
    have z2 := N.1 l2.toNat (by omega)
    unfold qw_X13_isLike_24
    refine ok_rd (by omega) (gA_165 V) ?_; intro v2 e2 a2 b2
    refine ok_if (fun C => ?_) (fun C => ?_)
    · refine ok_ck (by omega) ?_
      exact ok_rP (by omega) (by omega)
    · refine ok_if (fun C2 => ?_) (fun C2 => ?_)
      · refine ok_ck (by omega) ?_
        exact ok_rP (by omega) (by omega)
      · refine ok_rd (by omega) (gA_164 V) ?_; intro v7 e7 a7 b7
        refine ok_add (by omega) ?_; intro v8 e8
        refine ok_rd (by omega) (gA_162 V) ?_; intro v9 e9 a9 b9
        refine ok_rd (by omega) (gA_164 V) ?_; intro v12 e12 a12 b12
        refine ok_add (by omega) ?_; intro v13 e13
        refine ok_rd (by omega) (gA_162 V) ?_; intro v14 e14 a14 b14
        refine ok_if (fun C3 => ?_) (fun C3 => ?_)
        · refine ok_add (by omega) ?_; intro v15 e15
          exact ih 0 v15 (.inl rfl) (by omega) (by omega)
        · refine ok_add (by omega) ?_; intro v16 e16
          exact ih 1 v16 (by omega) (by omega) (by omega)
theorem vf_X13_isLike {nn : Nat} (hn : 1000000 ≤ nn) {a1 : Int} {a2 : Int} {h : ms_M} (a_a1 : 0 ≤ a1) (b_a1 : a1 ≤ 3001) (a_a2 : 0 ≤ a2) (b_a2 : a2 ≤ 3001) (V_h : VS_ h) (N_h : HW_ h) : Ok_ (qf_X13_isLike nn a1 a2 h) (QP_ 0 1) := by
  unfold qf_X13_isLike
  refine ok_rd (by omega) (gA_165 V_h) ?_; intro v21 e21 a21 b21
  refine ok_rd (by omega) (gA_165 V_h) ?_; intro v23 e23 a23 b23
  refine ok_if (fun C => ?_) (fun C => ?_)
  · exact vw_X13_isLike_24 hn (by omega) (by omega) V_h N_h nn 0 0 (.inl rfl) (by omega) (by omega)
  · exact vw_X13_isLike_24 hn (by omega) (by omega) V_h N_h nn 1 0 (by omega) (by omega) (by omega)
theorem sp_k3 : (List.range 76).all (fun k => !(decide (cx_ (1000000000 + 3) ((k : Nat) : Int) = 32)) || decide (sp_ (1000000000 + 3) k ≤ 7)) = true := by decide +kernel
theorem qa_3 {n u : Int} (h0 : 0 ≤ n) (q : QA_ (1000000000 + 3) 77 n u) : -1 ≤ u ∧ u ≤ 7 := by
  rcases q with q | ⟨k, k1, k2, k3, k4⟩
  · omega
  · have h1 := List.all_eq_true.1 sp_k3 k (List.mem_range.2 (by omega))
    rw [decide_eq_true k2] at h1
    have h2 : sp_ (1000000000 + 3) k ≤ 7 := of_decide_eq_true h1
    have := sp_b (a := 1000000000 + 3) k
    omega
theorem vw_X13_classOf_28 {nn : Nat} (hn : 1000000 ≤ nn) {l1 : Int} {h : ms_M} (r1 : 0 ≤ l1 ∧ l1 ≤ 3001) (V : VS_ h) (N : HW_ h) : ∀ (k : Nat) (l3 : Int), 0 ≤ l3 ∧ l3 ≤ 400 → 401 - l3 < (k : Int) → Ok_ (qw_X13_classOf_28 nn k l1 l3 h) (QP_ (-1) 407) := by
  have g := gF_160_24 V
  intro k
  induction k with
  | zero => intro l3 a hm; exfalso; omega
  | succ k ih =>
    intro l3 a hm
    unfold qw_X13_classOf_28
    refine ok_if (fun C => ok_rP (by omega) (by omega)) (fun C => ?_)
    refine ok_rd (by omega) (gA_178 V) ?_; intro v3 e3 a3 b3
    refine ok_cP (vf_X13_isLike hn (by omega) (by omega) (by omega) (by omega) V N) ?_; intro u5 e5 a5 b5
    refine ok_if (fun C2 => ?_) (fun C2 => ?_)
    · refine ok_add (by omega) ?_; intro v6 e6
      exact ih v6 (by omega) (by omega)
    · refine ok_add (by omega) ?_; intro v7 e7
      exact ok_rP (by omega) (by omega)
theorem vf_X13_classOf {nn : Nat} (hn : 1000000 ≤ nn) {a1 : Int} {h : ms_M} (a_a1 : 0 ≤ a1) (b_a1 : a1 ≤ 3001) (V_h : VS_ h) (N_h : HW_ h) : Ok_ (qf_X13_classOf nn a1 h) (QP_ (-1) 407) := by
  have z := N_h.1 a1.toNat (by omega)
  unfold qf_X13_classOf
  refine ok_rd (by omega) (gA_164 V_h) ?_; intro v11 e11 a11 b11
  refine ok_rd (by omega) (gA_165 V_h) ?_; intro v13 e13 a13 b13
  obtain ⟨u, eu, qu⟩ := am_ok (nn := nn) (p := v11) (n := v13) hn XT_3 V_h (by omega) (by omega) (by omega)
  have q := qa_3 (by omega) qu
  rw [eu, mx_svs]
  refine ok_if (fun C => ?_) (fun C => ok_rP (by omega) (by omega))
  exact vw_X13_classOf_28 hn (by omega) V_h N_h nn 0 (by omega) (by omega)

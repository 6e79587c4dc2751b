/- THE POOL of both sides: constants -/
/-- letters are bytes -/
def LRg (L : List Int) : Prop := ∀ x ∈ L, 0 ≤ x ∧ x ≤ 255
def PCe (h m : ms_M) (k : Nat) : Prop := h 46 k = m 200 k ∧ ((m 200 k = 1 ∧ ∃ L : List Int, NMz h (h 47 k) L ∧ (m 202 k = (L.length : Int) ∧ L.length ≤ 200 ∧ LRg L) ∧ (0 ≤ m 201 k ∧ m 201 k + (L.length : Int) ≤ m 160 64) ∧ ∀ i : Nat, i < L.length → m 204 ((m 201 k).toNat + i) = L.getD i 0) ∨ ((m 200 k = 2 ∨ (m 200 k = 3 ∧ 1 ≤ m 201 k ∧ m 201 k ≤ 200)) ∧ h 47 k = m 201 k ∧ m 202 k = 0 ∧ m 203 k = 0) ∨ (m 200 k = 4 ∧ ((1 ≤ m 201 k ∧ m 201 k ≤ 200) ∧ (1 ≤ m 202 k ∧ m 202 k ≤ 200) ∧ (1 ≤ m 203 k ∧ m 203 k ≤ 200)) ∧ h 47 k = m 201 k * 65536 + m 202 k * 256 + m 203 k))
/-- the pools: alike, or both too full -/
def PLR (h m : ms_M) : Prop := (h 45 5 = 0 ∧ (0 ≤ m 160 64 ∧ m 160 64 ≤ 100000) ∧ ∃ cn : Nat, h 45 4 = (cn : Int) ∧ m 160 62 = (cn : Int) ∧ cn ≤ 200 ∧ ∀ k : Nat, 1 ≤ k → k ≤ cn → PCe h m k) ∨ (h 45 5 = 1 ∧ 200 < m 160 62)
/-- what a constant of another sort than TEXT is, both sides -/
def VAL (t v a b c : Int) : Prop := ((t = 2 ∨ (t = 3 ∧ 1 ≤ a ∧ a ≤ 200)) ∧ v = a ∧ b = 0 ∧ c = 0) ∨ (t = 4 ∧ ((1 ≤ a ∧ a ≤ 200) ∧ (1 ≤ b ∧ b ≤ 200) ∧ (1 ≤ c ∧ c ≤ 200)) ∧ v = a * 65536 + b * 256 + c)
/-- bounds of the reference's pool -/
def MBd (m : ms_M) : Prop := (0 ≤ m 160 62 ∧ m 160 62 ≤ 2000) ∧ (0 ≤ m 160 64 ∧ m 160 64 ≤ 40000)
/-- a constant given by both sides -/
def PCo (h m : ms_M) (u : Int × ms_M) (w : Int × ms_M) : Prop := PLR u.2 w.2 ∧ (u.2 45 5 = 0 → u.1 = w.1 ∧ 1 ≤ u.1 ∧ u.1 ≤ 200) ∧ (h 45 5 = 1 → u.2 45 5 = 1) ∧ (∀ cc y : Nat, ¬ (cc = 45 ∧ (y = 4 ∨ y = 5)) → ¬ cc = 46 → ¬ cc = 47 → u.2 cc y = h cc y) ∧ (∀ cc y : Nat, ¬ (cc = 160 ∧ (y = 62 ∨ y = 64 ∨ y = 66)) → ¬ (200 ≤ cc ∧ cc ≤ 205) → w.2 cc y = m cc y) ∧ MBd w.2
section
variable {nn : Nat} {h g m w u v : ms_M}
/- the class when it is full -/
theorem c_pfull {t x : Int} (hf : h 45 5 = 1) : ∀ (f : Nat) (k : Int), Pc (qw_X6_constant_2 nn f t x k h) (fun u => u.2 45 5 = 1 ∧ ∀ cc y : Nat, ¬ (cc = 45 ∧ (y = 4 ∨ y = 5)) → ¬ cc = 46 → ¬ cc = 47 → u.2 cc y = h cc y) := by
  intro f
  induction f with
  | zero => intros; exact pc_none
  | succ f ih =>
    intro k
    unfold qw_X6_constant_2
    refine pc_if (fun _ => ?_) (fun _ => ?_)
    · refine pc_if (fun _ => ?_) (fun _ => ?_)
      · refine pc_xl ?_; intro v4 _
        refine pc_xl ?_; intro h5 e5
        refine pc_wA ?_; intro _ _ h8 e8
        refine pc_wA ?_; intro _ _ h11 e11
        refine pc_ret ⟨?_, fun cc y z1 z2 z3 => ?_⟩
        · show h11 45 5 = 1
          rw [e11, up_n (by omega), e8, up_n (by omega), e5, up_n (by omega)]; exact hf
        · show h11 cc y = _
          rw [e11, up_n (by omega), e8, up_n (by omega), e5, up_n (by omega)]
      · refine pc_xl ?_; intro h13 e13
        refine pc_ret ⟨?_, fun cc y z1 z2 z3 => ?_⟩
        · show h13 45 5 = 1
          rw [e13, up_s]
        · show h13 cc y = _
          rw [e13, up_n (by omega)]
    · refine pc_rA ?_; intro _ _ v16 _
      refine pc_if (fun _ => ?_) (fun _ => ?_)
      · exact pc_xl (fun v17 _ => ih v17)
      · refine pc_rA ?_; intro _ _ v19 _
        refine pc_if (fun _ => ?_) (fun _ => ?_)
        · exact pc_xl (fun v20 _ => ih v20)
        · exact pc_ret ⟨hf, fun _ _ _ _ _ => rfl⟩
/- the reference appends -/
theorem r_71 {t a b c : Int} (h0 : 0 ≤ m 160 62 ∧ m 160 62 ≤ 100000) : Pc (qj_X13_constant_71 nn t a b c m) (fun w => w.1 = m 160 62 + 1 ∧ (w.2 160 62 = m 160 62 + 1 ∧ m 160 62 + 1 < 2000) ∧ (w.2 200 (m 160 62 + 1).toNat = t ∧ w.2 201 (m 160 62 + 1).toNat = a ∧ w.2 202 (m 160 62 + 1).toNat = b ∧ w.2 203 (m 160 62 + 1).toNat = c) ∧ ∀ cc y : Nat, ¬ (cc = 160 ∧ y = 62) → ¬ (200 ≤ cc ∧ cc ≤ 203 ∧ y = (m 160 62 + 1).toNat) → w.2 cc y = m cc y) := by
  unfold qj_X13_constant_71
  refine pc_add (by omega) ?_; intro v2 e2
  refine pc_xl ?_; intro h3 e3
  have q3 : h3 160 62 = m 160 62 + 1 := by rw [e3, up_s]; exact e2
  refine pc_wA ?_; intro _ i6 h6 e6
  rw [q3] at e6 i6
  have q6 : h6 160 62 = m 160 62 + 1 := by rw [e6, up_n (by omega)]; exact q3
  refine pc_wA ?_; intro _ _ h9 e9
  rw [q6] at e9
  have q9 : h9 160 62 = m 160 62 + 1 := by rw [e9, up_n (by omega)]; exact q6
  refine pc_wA ?_; intro _ _ h12 e12
  rw [q9] at e12
  have q12 : h12 160 62 = m 160 62 + 1 := by rw [e12, up_n (by omega)]; exact q9
  refine pc_wA ?_; intro _ _ h15 e15
  rw [q12] at e15
  have q15 : h15 160 62 = m 160 62 + 1 := by rw [e15, up_n (by omega)]; exact q12
  refine pc_ret ⟨q15, ⟨q15, i6⟩, ⟨?_, ?_, ?_, ?_⟩, fun cc y z1 z2 => ?_⟩
  · show h15 200 _ = t; rw [e15, up_n (by omega), e12, up_n (by omega), e9, up_n (by omega), e6, up_s]
  · show h15 201 _ = a; rw [e15, up_n (by omega), e12, up_n (by omega), e9, up_s]
  · show h15 202 _ = b; rw [e15, up_n (by omega), e12, up_s]
  · show h15 203 _ = c; rw [e15, up_s]
  · show h15 cc y = _; rw [e15, up_n (by omega), e12, up_n (by omega), e9, up_n (by omega), e6, up_n (by omega), e3, up_n (by omega)]
/-- it never has fewer -/
theorem r_8m {t a b c : Int} (h0 : 0 ≤ m 160 62 ∧ m 160 62 ≤ 2000) : ∀ (f : Nat) (k : Int), Pc (qw_X13_constant_8 nn f t a b c k m) (fun w => (m 160 62 ≤ w.2 160 62 ∧ w.2 160 62 ≤ 2000) ∧ ∀ cc y : Nat, ¬ (cc = 160 ∧ y = 62) → ¬ (200 ≤ cc ∧ cc ≤ 203) → w.2 cc y = m cc y) := by
  intro f
  induction f with
  | zero => intros; exact pc_none
  | succ f ih =>
    intro k
    unfold qw_X13_constant_8
    refine pc_if (fun _ => ?_) (fun _ => ?_)
    · exact pc_imp (r_71 (by omega)) (fun w q => ⟨by have := q.2.1; omega, fun cc y z1 z2 => q.2.2.2 cc y z1 (by omega)⟩)
    · refine pc_rA ?_; intro _ _ v19 _
      refine pc_if (fun _ => pc_xl (fun v20 _ => ih v20)) (fun _ => ?_)
      refine pc_rA ?_; intro _ _ v22 _
      refine pc_if (fun _ => pc_xl (fun v23 _ => ih v23)) (fun _ => ?_)
      refine pc_rA ?_; intro _ _ v25 _
      refine pc_if (fun _ => pc_xl (fun v26 _ => ih v26)) (fun _ => ?_)
      refine pc_rA ?_; intro _ _ v28 _
      refine pc_if (fun _ => pc_xl (fun v29 _ => ih v29)) (fun _ => ?_)
      exact pc_ret ⟨⟨Int.le_refl _, h0.2⟩, fun _ _ _ _ => rfl⟩
/-- older entries stay -/
theorem pce_k {k : Nat} (E : PCe h m k) (eh : ∀ cc y : Nat, ((cc = 46 ∨ cc = 47) ∧ y = k) → g cc y = h cc y) (en : ∀ x L, NMz h x L → NMz g x L) (em : ∀ cc y : Nat, (200 ≤ cc ∧ cc ≤ 203 ∧ y = k) → w cc y = m cc y) (e4 : ∀ y : Nat, (y : Int) < m 160 64 → w 204 y = m 204 y) (el : m 160 64 ≤ w 160 64) : PCe g w k := by
  obtain ⟨a1, a2⟩ := E
  unfold PCe
  rw [eh 46 k (by omega), eh 47 k (by omega), em 200 k (by omega), em 201 k (by omega), em 202 k (by omega), em 203 k (by omega)]
  refine ⟨a1, ?_⟩
  rcases a2 with ⟨b1, L, b2, b3, b4, b5⟩ | b | b
  · refine .inl ⟨b1, L, en _ _ b2, b3, ⟨b4.1, by omega⟩, fun i hi => ?_⟩
    rw [e4 _ (by omega)]; exact b5 i hi
  · exact .inr (.inl b)
  · exact .inr (.inr b)
theorem nmz_k {x : Int} {L : List Int} (M : NMz h x L) (e : ∀ cc y : Nat, cc = 6 ∨ cc = 7 ∨ (cc = 2 ∧ y = 9) → g cc y = h cc y) : NMz g x L := by
  refine ⟨by rw [e 2 9 (by omega)]; exact M.1, ?_, fun k hk => ?_⟩
  · have := M.2.1; unfold ln_T at this ⊢; rw [e 7 _ (by omega), e 7 _ (by omega)]; exact this
  · rw [e 6 _ (by omega), e 7 _ (by omega)]; exact M.2.2 k hk
/-- the class appends, or is full -/
theorem c_papp {t x : Int} {cn : Nat} (e4 : h 45 4 = (cn : Int)) (c2 : cn ≤ 200) : Pc (if (h 45 4) < 200 then (xl (oq_add (h 45 4) 1) fun v4 => xl (up_M h 45 4 v4) fun h5 => wr_A 201 46 (h5 45 4) t h5 fun h8 => wr_A 201 47 (h8 45 4) x h8 fun h11 => some ((h11 45 4), h11)) else (xl (up_M h 45 5 1) fun h13 => some ((0 : Int), h13))) (fun u => ((cn < 200 ∧ u.1 = (cn : Int) + 1 ∧ u.2 45 4 = (cn : Int) + 1 ∧ u.2 45 5 = h 45 5 ∧ u.2 46 (cn + 1) = t ∧ u.2 47 (cn + 1) = x ∧ ∀ y : Nat, ¬ y = cn + 1 → u.2 46 y = h 46 y ∧ u.2 47 y = h 47 y) ∨ (cn = 200 ∧ u.2 45 5 = 1)) ∧ ∀ cc y : Nat, ¬ (cc = 45 ∧ (y = 4 ∨ y = 5)) → ¬ cc = 46 → ¬ cc = 47 → u.2 cc y = h cc y) := by
  refine pc_if (fun z => ?_) (fun z => ?_)
  · rw [e4]
    refine pc_add (by omega) ?_; intro v4 e4'
    refine pc_xl ?_; intro h5 e5
    have q5 : h5 45 4 = (cn : Int) + 1 := by rw [e5, up_s]; exact e4'
    refine pc_wA ?_; intro _ _ h8 e8
    rw [q5, show ((cn : Int) + 1).toNat = cn + 1 by omega] at e8
    have q8 : h8 45 4 = (cn : Int) + 1 := by rw [e8, up_n (by omega)]; exact q5
    refine pc_wA ?_; intro _ _ h11 e11
    rw [q8, show ((cn : Int) + 1).toNat = cn + 1 by omega] at e11
    have q11 : h11 45 4 = (cn : Int) + 1 := by rw [e11, up_n (by omega)]; exact q8
    refine pc_ret ⟨.inl ⟨by omega, q11, q11, ?_, ?_, ?_, fun y z1 => ⟨?_, ?_⟩⟩, fun cc y z1 z2 z3 => ?_⟩
    · show h11 45 5 = _; rw [e11, up_n (by omega), e8, up_n (by omega), e5, up_n (by omega)]
    · show h11 46 _ = _; rw [e11, up_n (by omega), e8, up_s]
    · show h11 47 _ = _; rw [e11, up_s]
    · show h11 46 y = _; rw [e11, up_n (by omega), e8, up_n (by omega), e5, up_n (by omega)]
    · show h11 47 y = _; rw [e11, up_n (by omega), e8, up_n (by omega), e5, up_n (by omega)]
    · show h11 cc y = _; rw [e11, up_n (by omega), e8, up_n (by omega), e5, up_n (by omega)]
  · refine pc_xl ?_; intro h13 e13
    refine pc_ret ⟨.inr ⟨by omega, ?_⟩, fun cc y z1 z2 z3 => ?_⟩
    · show h13 45 5 = 1; rw [e13, up_s]
    · show h13 cc y = _; rw [e13, up_n (by omega)]
/-- where both are too full -/
theorem j_cF {t x a b c : Int} (t1 : ¬ t ≤ 1) (r5 : h 45 5 = 1) (r62 : 200 < m 160 62) (MB : MBd m) : Pc (qw_X6_constant_2 nn nn t x 1 h) (fun u => Pc (if t ≤ 1 then (qj_X13_constant_71 nn t a b c m) else (qw_X13_constant_8 nn nn t a b c 1 m)) (fun w => PCo h m u w)) := by
  refine pc_imp (c_pfull r5 nn 1) (fun u q => ?_)
  refine pc_if (fun y => absurd y t1) (fun _ => ?_)
  refine pc_imp (r_8m MB.1 nn 1) (fun w y => ⟨.inr ⟨q.1, by omega⟩, fun z => by omega, fun _ => q.1, q.2, fun cc y2 z1 z2 => y.2 cc y2 (by omega) (by omega), ⟨by have := MB.1; omega, by rw [y.2 160 64 (by omega) (by omega)]; exact MB.2⟩⟩)
/-- an INT, a CLASS, a MEMBER of both sides -/
theorem j_const {t x a b c : Int} (VL : VAL t x a b c) (R : PLR h m) (MB : MBd m) : Pc (qf_X6_constant nn t x h) (fun u => Pc (qf_X13_constant nn t a b c m) (fun w => PCo h m u w)) := by
  have t1 : ¬ t ≤ 1 := by unfold VAL at VL; omega
  have mb := MB.1
  unfold qf_X6_constant qf_X13_constant
  rcases R with ⟨r5, r64, cn, e4, e62, c2, E⟩ | ⟨r5, r62⟩
  · have L : ∀ (f f2 k : Nat), 1 ≤ k → k ≤ cn + 1 → Pc (qw_X6_constant_2 nn f t x (k : Int) h) (fun u => Pc (qw_X13_constant_8 nn f2 t a b c (k : Int) m) (fun w => PCo h m u w)) := by
      intro f
      induction f with
      | zero => intros; exact pc_none
      | succ f ih =>
        intro f2 k k1 k2
        cases f2 with
        | zero => exact fun _ _ => pc_none
        | succ f2 =>
          unfold qw_X6_constant_2
          refine pc_if (fun z => ?_) (fun z => ?_)
          · refine pc_imp (c_papp e4 c2) (fun u q => ?_)
            unfold qw_X13_constant_8
            refine pc_if (fun _ => ?_) (fun y => absurd (by omega) y)
            refine pc_imp (r_71 (by omega)) (fun w y => ?_)
            obtain ⟨y1, ⟨y2, y2b⟩, ⟨y3, y4, y5, y6⟩, y7⟩ := y
            rw [e62, show ((cn : Int) + 1).toNat = cn + 1 by omega] at y3 y4 y5 y6
            have MBw : MBd w.2 := ⟨by omega, by rw [y7 160 64 (by omega) (by omega)]; exact MB.2⟩
            have Fw : ∀ cc y : Nat, ¬ (cc = 160 ∧ (y = 62 ∨ y = 64 ∨ y = 66)) → ¬ (200 ≤ cc ∧ cc ≤ 205) → w.2 cc y = m cc y := fun cc y z1 z2 => y7 cc y (by omega) (by omega)
            rcases q.1 with ⟨q1, q2, q3, q4, q5, q6, q7⟩ | ⟨q1, q2⟩
            · refine ⟨.inl ⟨by rw [q4]; exact r5, by rw [y7 160 64 (by omega) (by omega)]; exact r64, cn + 1, by rw [q3]; omega, by rw [y2]; omega, by omega, fun k h1 h2 => ?_⟩, fun _ => ⟨by omega, by omega, by omega⟩, fun y => by omega, q.2, Fw, MBw⟩
              by_cases kc : k = cn + 1
              · rw [kc]
                unfold PCe
                rw [q5, q6, y3, y4, y5, y6]
                refine ⟨rfl, ?_⟩
                rcases VL with ⟨v1, v2⟩ | ⟨v1, v2⟩
                · exact .inr (.inl ⟨v1, v2⟩)
                · exact .inr (.inr ⟨v1, v2⟩)
              · refine pce_k (E k h1 (by omega)) (fun cc y y0 => ?_) (fun x L M => nmz_k M (fun cc y y0 => q.2 cc y (by omega) (by omega) (by omega))) (fun cc y y0 => y7 cc y (by omega) (by omega)) (fun y _ => y7 204 y (by omega) (by omega)) (by rw [y7 160 64 (by omega) (by omega)]; exact Int.le_refl _)
                have o := q7 k (by omega)
                rcases y0 with ⟨z1 | z1, z2⟩
                · rw [z1, z2]; exact o.1
                · rw [z1, z2]; exact o.2
            · refine ⟨.inr ⟨q2, by omega⟩, fun y => by omega, fun _ => q2, q.2, Fw, MBw⟩
          · -- entry k
            have kc : k ≤ cn := by omega
            have Ek := E k k1 kc
            have NX : (¬ (h 46 k = t ∧ h 47 k = x)) → Pc (qw_X6_constant_2 nn f t x ((k + 1 : Nat) : Int) h) (fun u => Pc (qw_X13_constant_8 nn (f2 + 1) t a b c (k : Int) m) (fun w => PCo h m u w)) := fun ne => by
              refine pc_fl ?_
              unfold qw_X13_constant_8
              refine pc_if (fun y => absurd y (by omega)) (fun _ => ?_)
              have GO : ∀ v20 : Int, v20 = (k : Int) + 1 → Pc (qw_X13_constant_8 nn f2 t a b c v20 m) (fun w => Pc (qw_X6_constant_2 nn f t x ((k + 1 : Nat) : Int) h) (fun u => PCo h m u w)) := fun v20 e20 => by
                rw [show v20 = ((k + 1 : Nat) : Int) by omega]
                exact pc_fl (ih f2 (k + 1) (by omega) (by omega))
              refine pc_rA ?_; intro _ _ v19 e19
              rw [Int.toNat_natCast] at e19
              refine pc_if (fun _ => pc_add (by omega) GO) (fun y1 => ?_)
              refine pc_rA ?_; intro _ _ v22 e22
              rw [Int.toNat_natCast] at e22
              refine pc_if (fun _ => pc_add (by omega) GO) (fun y2 => ?_)
              refine pc_rA ?_; intro _ _ v25 e25
              rw [Int.toNat_natCast] at e25
              refine pc_if (fun _ => pc_add (by omega) GO) (fun y3 => ?_)
              refine pc_rA ?_; intro _ _ v28 e28
              rw [Int.toNat_natCast] at e28
              refine pc_if (fun _ => pc_add (by omega) GO) (fun y4 => ?_)
              exfalso
              refine ne ⟨?_, ?_⟩
              · have := Ek.1; omega
              · unfold VAL at VL
                rcases Ek.2 with ⟨w1, _⟩ | ⟨w1, w2, w3, w4⟩ | ⟨w1, w2, w3⟩
                · omega
                · omega
                · omega
            refine pc_rA ?_; intro _ _ v16 e16
            rw [Int.toNat_natCast] at e16
            refine pc_if (fun y => ?_) (fun y => ?_)
            · refine pc_add (by omega) ?_; intro v17 e17
              rw [show v17 = ((k + 1 : Nat) : Int) by omega]
              exact NX (fun y2 => y (by rw [e16]; exact y2.1))
            · refine pc_rA ?_; intro _ _ v19 e19
              rw [Int.toNat_natCast] at e19
              refine pc_if (fun y2 => ?_) (fun y2 => ?_)
              · refine pc_add (by omega) ?_; intro v20 e20
                rw [show v20 = ((k + 1 : Nat) : Int) by omega]
                exact NX (fun y3 => y2 (by rw [e19]; exact y3.2))
              · -- found
                refine pc_ret ?_
                unfold qw_X13_constant_8
                refine pc_if (fun y => absurd y (by omega)) (fun _ => ?_)
                have eq : m 200 k = t ∧ m 201 k = a ∧ m 202 k = b ∧ m 203 k = c := by
                  unfold VAL at VL
                  have e1 := Ek.1
                  rcases Ek.2 with ⟨w1, _⟩ | ⟨w1, w2, w3, w4⟩ | ⟨w1, w2, w3⟩
                  · omega
                  · omega
                  · omega
                refine pc_rA ?_; intro _ _ w19 f19
                rw [Int.toNat_natCast] at f19
                refine pc_if (fun y => absurd (f19.trans eq.1) y) (fun _ => ?_)
                refine pc_rA ?_; intro _ _ w22 f22
                rw [Int.toNat_natCast] at f22
                refine pc_if (fun y => absurd (f22.trans eq.2.1) y) (fun _ => ?_)
                refine pc_rA ?_; intro _ _ w25 f25
                rw [Int.toNat_natCast] at f25
                refine pc_if (fun y => absurd (f25.trans eq.2.2.1) y) (fun _ => ?_)
                refine pc_rA ?_; intro _ _ w28 f28
                rw [Int.toNat_natCast] at f28
                refine pc_if (fun y => absurd (f28.trans eq.2.2.2) y) (fun _ => ?_)
                exact pc_ret ⟨.inl ⟨r5, r64, cn, e4, e62, c2, E⟩, fun _ => ⟨rfl, by show (1 : Int) ≤ (k : Int); omega, by show (k : Int) ≤ 200; omega⟩, fun y => by omega, fun _ _ _ _ _ => rfl, fun _ _ _ _ => rfl, MB⟩
    refine pc_fl ?_
    refine pc_if (fun y => absurd y t1) (fun _ => ?_)
    exact pc_fl (L nn nn 1 (by omega) (by omega))
  · exact j_cF t1 r5 r62 MB
end

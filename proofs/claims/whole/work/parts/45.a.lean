section
/- THE POOL of both sides: constants -/
/-- letters are bytes -/
def LRg (L : List Int) : Prop := ∀ x ∈ L, 0 ≤ x ∧ x ≤ 255
def PCe (h m : ms_M) (k : Nat) : Prop := h 46 k = m 200 k ∧ ((m 200 k = 1 ∧ ∃ L : List Int, NMz h (h 47 k) L ∧ (m 202 k = (L.length : Int) ∧ L.length ≤ 200 ∧ LRg L) ∧ (0 ≤ m 201 k ∧ m 201 k + (L.length : Int) ≤ m 160 64) ∧ ∀ i : Nat, i < L.length → m 204 ((m 201 k).toNat + i) = L.getD i 0) ∨ ((m 200 k = 2 ∨ (m 200 k = 3 ∧ 1 ≤ m 201 k ∧ m 201 k ≤ 200)) ∧ h 47 k = m 201 k ∧ m 202 k = 0 ∧ m 203 k = 0) ∨ (m 200 k = 4 ∧ ((1 ≤ m 201 k ∧ m 201 k ≤ 200) ∧ (1 ≤ m 202 k ∧ m 202 k ≤ 200) ∧ (1 ≤ m 203 k ∧ m 203 k ≤ 200)) ∧ h 47 k = m 201 k * 65536 + m 202 k * 256 + m 203 k))
/-- the pools: alike, or both too full -/
def PLR (h m : ms_M) : Prop := (h 45 5 = 0 ∧ (0 ≤ m 160 64 ∧ m 160 64 ≤ 100000) ∧ ∃ cn : Nat, h 45 4 = (cn : Int) ∧ m 160 62 = (cn : Int) ∧ cn ≤ 200 ∧ ∀ k : Nat, 1 ≤ k → k ≤ cn → PCe h m k) ∨ (h 45 5 = 1 ∧ 200 < m 160 62)
/-- what a constant of another sort than TEXT is, both sides -/
def VAL (t v a b c : Int) : Prop := ((t = 2 ∨ (t = 3 ∧ 1 ≤ a ∧ a ≤ 200)) ∧ v = a ∧ b = 0 ∧ c = 0) ∨ (t = 4 ∧ ((1 ≤ a ∧ a ≤ 200) ∧ (1 ≤ b ∧ b ≤ 200) ∧ (1 ≤ c ∧ c ≤ 200)) ∧ v = a * 65536 + b * 256 + c)
/-- bounds of the reference's pool -/
def MBd (m : ms_M) : Prop := (0 ≤ m 160 62 ∧ m 160 62 ≤ 2000) ∧ (0 ≤ m 160 64 ∧ m 160 64 ≤ 40000)
/-- a constant given by both sides -/
def PCo (h m : ms_M) (u : Int × ms_M) (w : Int × ms_M) : Prop := PLR u.2 w.2 ∧ (u.2 45 5 = 0 → u.1 = w.1 ∧ 1 ≤ u.1 ∧ u.1 ≤ 200) ∧ (h 45 5 = 1 → u.2 45 5 = 1) ∧ (∀ cc y : Nat, ¬ (cc = 45 ∧ (y = 4 ∨ y = 5)) → ¬ cc = 46 → ¬ cc = 47 → u.2 cc y = h cc y) ∧ (∀ cc y : Nat, ¬ (cc = 160 ∧ (y = 62 ∨ y = 64 ∨ y = 66)) → ¬ (200 ≤ cc ∧ cc ≤ 205) → w.2 cc y = m cc y) ∧ MBd w.2
section
variable {nn : Nat} {h g m w u v : ms_M}
/- the class when it is full -/
theorem c_pfull {t x : Int} (hf : h 45 5 = 1) : ∀ (f : Nat) (k : Int), Pc (qw_X6_constant_2 nn f t x k h) (fun u => u.2 45 5 = 1 ∧ ∀ cc y : Nat, ¬ (cc = 45 ∧ (y = 4 ∨ y = 5)) → ¬ cc = 46 → ¬ cc = 47 → u.2 cc y = h cc y) := by
  intro f
  induction f with
  | zero => intros; exact pc_none
  | succ f ih =>
    intro k
    unfold qw_X6_constant_2
    refine pc_if (fun _ => ?_) (fun _ => ?_)
    · refine pc_if (fun _ => ?_) (fun _ => ?_)
      · refine pc_xl ?_; intro v4 _
        refine pc_xl ?_; intro h5 e5
        refine pc_wA ?_; intro _ _ h8 e8
        refine pc_wA ?_; intro _ _ h11 e11
        refine pc_ret ⟨?_, fun cc y z1 z2 z3 => ?_⟩
        · show h11 45 5 = 1
          rw [e11, up_n (by omega), e8, up_n (by omega), e5, up_n (by omega)]; exact hf
        · show h11 cc y = _
          rw [e11, up_n (by omega), e8, up_n (by omega), e5, up_n (by omega)]
      · refine pc_xl ?_; intro h13 e13
        refine pc_ret ⟨?_, fun cc y z1 z2 z3 => ?_⟩
        · show h13 45 5 = 1
          rw [e13, up_s]
        · show h13 cc y = _
          rw [e13, up_n (by omega)]
    · refine pc_rA ?_; intro _ _ v16 _
      refine pc_if (fun _ => ?_) (fun _ => ?_)
      · exact pc_xl (fun v17 _ => ih v17)
      · refine pc_rA ?_; intro _ _ v19 _
        refine pc_if (fun _ => ?_) (fun _ => ?_)
        · exact pc_xl (fun v20 _ => ih v20)
        · exact pc_ret ⟨hf, fun _ _ _ _ _ => rfl⟩
/- the reference appends -/
theorem r_71 {t a b c : Int} (h0 : 0 ≤ m 160 62 ∧ m 160 62 ≤ 100000) : Pc (qj_X13_constant_71 nn t a b c m) (fun w => w.1 = m 160 62 + 1 ∧ (w.2 160 62 = m 160 62 + 1 ∧ m 160 62 + 1 < 2000) ∧ (w.2 200 (m 160 62 + 1).toNat = t ∧ w.2 201 (m 160 62 + 1).toNat = a ∧ w.2 202 (m 160 62 + 1).toNat = b ∧ w.2 203 (m 160 62 + 1).toNat = c) ∧ ∀ cc y : Nat, ¬ (cc = 160 ∧ y = 62) → ¬ (200 ≤ cc ∧ cc ≤ 203 ∧ y = (m 160 62 + 1).toNat) → w.2 cc y = m cc y) := by
  unfold qj_X13_constant_71
  refine pc_add (by omega) ?_; intro v2 e2
  refine pc_xl ?_; intro h3 e3
  have q3 : h3 160 62 = m 160 62 + 1 := by rw [e3, up_s]; exact e2
  refine pc_wA ?_; intro _ i6 h6 e6
  rw [q3] at e6 i6
  have q6 : h6 160 62 = m 160 62 + 1 := by rw [e6, up_n (by omega)]; exact q3
  refine pc_wA ?_; intro _ _ h9 e9
  rw [q6] at e9
  have q9 : h9 160 62 = m 160 62 + 1 := by rw [e9, up_n (by omega)]; exact q6
  refine pc_wA ?_; intro _ _ h12 e12
  rw [q9] at e12
  have q12 : h12 160 62 = m 160 62 + 1 := by rw [e12, up_n (by omega)]; exact q9
  refine pc_wA ?_; intro _ _ h15 e15
  rw [q12] at e15
  have q15 : h15 160 62 = m 160 62 + 1 := by rw [e15, up_n (by omega)]; exact q12
  refine pc_ret ⟨q15, ⟨q15, i6⟩, ⟨?_, ?_, ?_, ?_⟩, fun cc y z1 z2 => ?_⟩
  · show h15 200 _ = t; rw [e15, up_n (by omega), e12, up_n (by omega), e9, up_n (by omega), e6, up_s]
  · show h15 201 _ = a; rw [e15, up_n (by omega), e12, up_n (by omega), e9, up_s]
  · show h15 202 _ = b; rw [e15, up_n (by omega), e12, up_s]
  · show h15 203 _ = c; rw [e15, up_s]
  · show h15 cc y = _; rw [e15, up_n (by omega), e12, up_n (by omega), e9, up_n (by omega), e6, up_n (by omega), e3, up_n (by omega)]
/-- it never has fewer -/
theorem r_8m {t a b c : Int} (h0 : 0 ≤ m 160 62 ∧ m 160 62 ≤ 2000) : ∀ (f : Nat) (k : Int), Pc (qw_X13_constant_8 nn f t a b c k m) (fun w => (m 160 62 ≤ w.2 160 62 ∧ w.2 160 62 ≤ 2000) ∧ ∀ cc y : Nat, ¬ (cc = 160 ∧ y = 62) → ¬ (200 ≤ cc ∧ cc ≤ 203) → w.2 cc y = m cc y) := by
  intro f
  induction f with
  | zero => intros; exact pc_none
  | succ f ih =>
    intro k
    unfold qw_X13_constant_8
    refine pc_if (fun _ => ?_) (fun _ => ?_)
    · exact pc_imp (r_71 (by omega)) (fun w q => ⟨by have := q.2.1; omega, fun cc y z1 z2 => q.2.2.2 cc y z1 (by omega)⟩)
    · refine pc_rA ?_; intro _ _ v19 _
      refine pc_if (fun _ => pc_xl (fun v20 _ => ih v20)) (fun _ => ?_)
      refine pc_rA ?_; intro _ _ v22 _
      refine pc_if (fun _ => pc_xl (fun v23 _ => ih v23)) (fun _ => ?_)
      refine pc_rA ?_; intro _ _ v25 _
      refine pc_if (fun _ => pc_xl (fun v26 _ => ih v26)) (fun _ => ?_)
      refine pc_rA ?_; intro _ _ v28 _
      refine pc_if (fun _ => pc_xl (fun v29 _ => ih v29)) (fun _ => ?_)
      exact pc_ret ⟨⟨Int.le_refl _, h0.2⟩, fun _ _ _ _ => rfl⟩
/-- older entries stay -/
theorem pce_k {k : Nat} (E : PCe h m k) (eh : ∀ cc y : Nat, ((cc = 46 ∨ cc = 47) ∧ y = k) → g cc y = h cc y) (en : ∀ x L, NMz h x L → NMz g x L) (em : ∀ cc y : Nat, (200 ≤ cc ∧ cc ≤ 203 ∧ y = k) → w cc y = m cc y) (e4 : ∀ y : Nat, (y : Int) < m 160 64 → w 204 y = m 204 y) (el : m 160 64 ≤ w 160 64) : PCe g w k := by
  obtain ⟨a1, a2⟩ := E
  unfold PCe
  rw [eh 46 k (by omega), eh 47 k (by omega), em 200 k (by omega), em 201 k (by omega), em 202 k (by omega), em 203 k (by omega)]
  refine ⟨a1, ?_⟩
  rcases a2 with ⟨b1, L, b2, b3, b4, b5⟩ | b | b
  · refine .inl ⟨b1, L, en _ _ b2, b3, ⟨b4.1, by omega⟩, fun i hi => ?_⟩
    rw [e4 _ (by omega)]; exact b5 i hi
  · exact .inr (.inl b)
  · exact .inr (.inr b)
theorem nmz_k {x : Int} {L : List Int} (M : NMz h x L) (e : ∀ cc y : Nat, cc = 6 ∨ cc = 7 ∨ (cc = 2 ∧ y = 9) → g cc y = h cc y) : NMz g x L := by
  refine ⟨by rw [e 2 9 (by omega)]; exact M.1, ?_, fun k hk => ?_⟩
  · have := M.2.1; unfold ln_T at this ⊢; rw [e 7 _ (by omega), e 7 _ (by omega)]; exact this
  · rw [e 6 _ (by omega), e 7 _ (by omega)]; exact M.2.2 k hk
/-- the class appends, or is full -/
theorem c_papp {t x : Int} {cn : Nat} (e4 : h 45 4 = (cn : Int)) (c2 : cn ≤ 200) : Pc (if (h 45 4) < 200 then (xl (oq_add (h 45 4) 1) fun v4 => xl (up_M h 45 4 v4) fun h5 => wr_A 201 46 (h5 45 4) t h5 fun h8 => wr_A 201 47 (h8 45 4) x h8 fun h11 => some ((h11 45 4), h11)) else (xl (up_M h 45 5 1) fun h13 => some ((0 : Int), h13))) (fun u => ((cn < 200 ∧ u.1 = (cn : Int) + 1 ∧ u.2 45 4 = (cn : Int) + 1 ∧ u.2 45 5 = h 45 5 ∧ u.2 46 (cn + 1) = t ∧ u.2 47 (cn + 1) = x ∧ ∀ y : Nat, ¬ y = cn + 1 → u.2 46 y = h 46 y ∧ u.2 47 y = h 47 y) ∨ (cn = 200 ∧ u.2 45 5 = 1)) ∧ ∀ cc y : Nat, ¬ (cc = 45 ∧ (y = 4 ∨ y = 5)) → ¬ cc = 46 → ¬ cc = 47 → u.2 cc y = h cc y) := by
  refine pc_if (fun z => ?_) (fun z => ?_)
  · rw [e4]
    refine pc_add (by omega) ?_; intro v4 e4'
    refine pc_xl ?_; intro h5 e5
    have q5 : h5 45 4 = (cn : Int) + 1 := by rw [e5, up_s]; exact e4'
    refine pc_wA ?_; intro _ _ h8 e8
    rw [q5, show ((cn : Int) + 1).toNat = cn + 1 by omega] at e8
    have q8 : h8 45 4 = (cn : Int) + 1 := by rw [e8, up_n (by omega)]; exact q5
    refine pc_wA ?_; intro _ _ h11 e11
    rw [q8, show ((cn : Int) + 1).toNat = cn + 1 by omega] at e11
    have q11 : h11 45 4 = (cn : Int) + 1 := by rw [e11, up_n (by omega)]; exact q8
    refine pc_ret ⟨.inl ⟨by omega, q11, q11, ?_, ?_, ?_, fun y z1 => ⟨?_, ?_⟩⟩, fun cc y z1 z2 z3 => ?_⟩
    · show h11 45 5 = _; rw [e11, up_n (by omega), e8, up_n (by omega), e5, up_n (by omega)]
    · show h11 46 _ = _; rw [e11, up_n (by omega), e8, up_s]
    · show h11 47 _ = _; rw [e11, up_s]
    · show h11 46 y = _; rw [e11, up_n (by omega), e8, up_n (by omega), e5, up_n (by omega)]
    · show h11 47 y = _; rw [e11, up_n (by omega), e8, up_n (by omega), e5, up_n (by omega)]
    · show h11 cc y = _; rw [e11, up_n (by omega), e8, up_n (by omega), e5, up_n (by omega)]
  · refine pc_xl ?_; intro h13 e13
    refine pc_ret ⟨.inr ⟨by omega, ?_⟩, fun cc y z1 z2 z3 => ?_⟩
    · show h13 45 5 = 1; rw [e13, up_s]
    · show h13 cc y = _; rw [e13, up_n (by omega)]
/-- where both are too full -/
theorem j_cF {t x a b c : Int} (t1 : ¬ t ≤ 1) (r5 : h 45 5 = 1) (r62 : 200 < m 160 62) (MB : MBd m) : Pc (qw_X6_constant_2 nn nn t x 1 h) (fun u => Pc (if t ≤ 1 then (qj_X13_constant_71 nn t a b c m) else (qw_X13_constant_8 nn nn t a b c 1 m)) (fun w => PCo h m u w)) := by
  refine pc_imp (c_pfull r5 nn 1) (fun u q => ?_)
  refine pc_if (fun y => absurd y t1) (fun _ => ?_)
  refine pc_imp (r_8m MB.1 nn 1) (fun w y => ⟨.inr ⟨q.1, by omega⟩, fun z => by omega, fun _ => q.1, q.2, fun cc y2 z1 z2 => y.2 cc y2 (by omega) (by omega), ⟨by have := MB.1; omega, by rw [y.2 160 64 (by omega) (by omega)]; exact MB.2⟩⟩)
/-- an INT, a CLASS, a MEMBER of both sides -/
theorem j_const {t x a b c : Int} (VL : VAL t x a b c) (R : PLR h m) (MB : MBd m) : Pc (qf_X6_constant nn t x h) (fun u => Pc (qf_X13_constant nn t a b c m) (fun w => PCo h m u w)) := by
  have t1 : ¬ t ≤ 1 := by unfold VAL at VL; omega
  have mb := MB.1
  unfold qf_X6_constant qf_X13_constant
  rcases R with ⟨r5, r64, cn, e4, e62, c2, E⟩ | ⟨r5, r62⟩
  · have L : ∀ (f f2 k : Nat), 1 ≤ k → k ≤ cn + 1 → Pc (qw_X6_constant_2 nn f t x (k : Int) h) (fun u => Pc (qw_X13_constant_8 nn f2 t a b c (k : Int) m) (fun w => PCo h m u w)) := by
      intro f
      induction f with
      | zero => intros; exact pc_none
      | succ f ih =>
        intro f2 k k1 k2
        cases f2 with
        | zero => exact fun _ _ => pc_none
        | succ f2 =>
          unfold qw_X6_constant_2
          refine pc_if (fun z => ?_) (fun z => ?_)
          · refine pc_imp (c_papp e4 c2) (fun u q => ?_)
            unfold qw_X13_constant_8
            refine pc_if (fun _ => ?_) (fun y => absurd (by omega) y)
            refine pc_imp (r_71 (by omega)) (fun w y => ?_)
            obtain ⟨y1, ⟨y2, y2b⟩, ⟨y3, y4, y5, y6⟩, y7⟩ := y
            rw [e62, show ((cn : Int) + 1).toNat = cn + 1 by omega] at y3 y4 y5 y6
            have MBw : MBd w.2 := ⟨by omega, by rw [y7 160 64 (by omega) (by omega)]; exact MB.2⟩
            have Fw : ∀ cc y : Nat, ¬ (cc = 160 ∧ (y = 62 ∨ y = 64 ∨ y = 66)) → ¬ (200 ≤ cc ∧ cc ≤ 205) → w.2 cc y = m cc y := fun cc y z1 z2 => y7 cc y (by omega) (by omega)
            rcases q.1 with ⟨q1, q2, q3, q4, q5, q6, q7⟩ | ⟨q1, q2⟩
            · refine ⟨.inl ⟨by rw [q4]; exact r5, by rw [y7 160 64 (by omega) (by omega)]; exact r64, cn + 1, by rw [q3]; omega, by rw [y2]; omega, by omega, fun k h1 h2 => ?_⟩, fun _ => ⟨by omega, by omega, by omega⟩, fun y => by omega, q.2, Fw, MBw⟩
              by_cases kc : k = cn + 1
              · rw [kc]
                unfold PCe
                rw [q5, q6, y3, y4, y5, y6]
                refine ⟨rfl, ?_⟩
                rcases VL with ⟨v1, v2⟩ | ⟨v1, v2⟩
                · exact .inr (.inl ⟨v1, v2⟩)
                · exact .inr (.inr ⟨v1, v2⟩)
              · refine pce_k (E k h1 (by omega)) (fun cc y y0 => ?_) (fun x L M => nmz_k M (fun cc y y0 => q.2 cc y (by omega) (by omega) (by omega))) (fun cc y y0 => y7 cc y (by omega) (by omega)) (fun y _ => y7 204 y (by omega) (by omega)) (by rw [y7 160 64 (by omega) (by omega)]; exact Int.le_refl _)
                have o := q7 k (by omega)
                rcases y0 with ⟨z1 | z1, z2⟩
                · rw [z1, z2]; exact o.1
                · rw [z1, z2]; exact o.2
            · refine ⟨.inr ⟨q2, by omega⟩, fun y => by omega, fun _ => q2, q.2, Fw, MBw⟩
          · -- entry k
            have kc : k ≤ cn := by omega
            have Ek := E k k1 kc
            have NX : (¬ (h 46 k = t ∧ h 47 k = x)) → Pc (qw_X6_constant_2 nn f t x ((k + 1 : Nat) : Int) h) (fun u => Pc (qw_X13_constant_8 nn (f2 + 1) t a b c (k : Int) m) (fun w => PCo h m u w)) := fun ne => by
              refine pc_fl ?_
              unfold qw_X13_constant_8
              refine pc_if (fun y => absurd y (by omega)) (fun _ => ?_)
              have GO : ∀ v20 : Int, v20 = (k : Int) + 1 → Pc (qw_X13_constant_8 nn f2 t a b c v20 m) (fun w => Pc (qw_X6_constant_2 nn f t x ((k + 1 : Nat) : Int) h) (fun u => PCo h m u w)) := fun v20 e20 => by
                rw [show v20 = ((k + 1 : Nat) : Int) by omega]
                exact pc_fl (ih f2 (k + 1) (by omega) (by omega))
              refine pc_rA ?_; intro _ _ v19 e19
              rw [Int.toNat_natCast] at e19
              refine pc_if (fun _ => pc_add (by omega) GO) (fun y1 => ?_)
              refine pc_rA ?_; intro _ _ v22 e22
              rw [Int.toNat_natCast] at e22
              refine pc_if (fun _ => pc_add (by omega) GO) (fun y2 => ?_)
              refine pc_rA ?_; intro _ _ v25 e25
              rw [Int.toNat_natCast] at e25
              refine pc_if (fun _ => pc_add (by omega) GO) (fun y3 => ?_)
              refine pc_rA ?_; intro _ _ v28 e28
              rw [Int.toNat_natCast] at e28
              refine pc_if (fun _ => pc_add (by omega) GO) (fun y4 => ?_)
              exfalso
              refine ne ⟨?_, ?_⟩
              · have := Ek.1; omega
              · unfold VAL at VL
                rcases Ek.2 with ⟨w1, _⟩ | ⟨w1, w2, w3, w4⟩ | ⟨w1, w2, w3⟩
                · omega
                · omega
                · omega
            refine pc_rA ?_; intro _ _ v16 e16
            rw [Int.toNat_natCast] at e16
            refine pc_if (fun y => ?_) (fun y => ?_)
            · refine pc_add (by omega) ?_; intro v17 e17
              rw [show v17 = ((k + 1 : Nat) : Int) by omega]
              exact NX (fun y2 => y (by rw [e16]; exact y2.1))
            · refine pc_rA ?_; intro _ _ v19 e19
              rw [Int.toNat_natCast] at e19
              refine pc_if (fun y2 => ?_) (fun y2 => ?_)
              · refine pc_add (by omega) ?_; intro v20 e20
                rw [show v20 = ((k + 1 : Nat) : Int) by omega]
                exact NX (fun y3 => y2 (by rw [e19]; exact y3.2))
              · -- found
                refine pc_ret ?_
                unfold qw_X13_constant_8
                refine pc_if (fun y => absurd y (by omega)) (fun _ => ?_)
                have eq : m 200 k = t ∧ m 201 k = a ∧ m 202 k = b ∧ m 203 k = c := by
                  unfold VAL at VL
                  have e1 := Ek.1
                  rcases Ek.2 with ⟨w1, _⟩ | ⟨w1, w2, w3, w4⟩ | ⟨w1, w2, w3⟩
                  · omega
                  · omega
                  · omega
                refine pc_rA ?_; intro _ _ w19 f19
                rw [Int.toNat_natCast] at f19
                refine pc_if (fun y => absurd (f19.trans eq.1) y) (fun _ => ?_)
                refine pc_rA ?_; intro _ _ w22 f22
                rw [Int.toNat_natCast] at f22
                refine pc_if (fun y => absurd (f22.trans eq.2.1) y) (fun _ => ?_)
                refine pc_rA ?_; intro _ _ w25 f25
                rw [Int.toNat_natCast] at f25
                refine pc_if (fun y => absurd (f25.trans eq.2.2.1) y) (fun _ => ?_)
                refine pc_rA ?_; intro _ _ w28 f28
                rw [Int.toNat_natCast] at f28
                refine pc_if (fun y => absurd (f28.trans eq.2.2.2) y) (fun _ => ?_)
                exact pc_ret ⟨.inl ⟨r5, r64, cn, e4, e62, c2, E⟩, fun _ => ⟨rfl, by show (1 : Int) ≤ (k : Int); omega, by show (k : Int) ≤ 200; omega⟩, fun y => by omega, fun _ _ _ _ _ => rfl, fun _ _ _ _ => rfl, MB⟩
    refine pc_fl ?_
    refine pc_if (fun y => absurd y t1) (fun _ => ?_)
    exact pc_fl (L nn nn 1 (by omega) (by omega))
  · exact j_cF t1 r5 r62 MB
end
end
section
/- THE POOL of both sides: texts -/
def SPL (m : ms_M) (L : List Int) : Prop := (m 160 66 = (L.length : Int) ∧ L.length ≤ 200 ∧ LRg L) ∧ ∀ k : Nat, k < L.length → m 205 k = L.getD k 0
def ASp (m w : ms_M) : Prop := ∀ cc y : Nat, ¬ cc = 205 → ¬ (cc = 160 ∧ y = 66) → w cc y = m cc y
/-- token t of the reference is spelled A -/
def TLt (m : ms_M) (t : Nat) (A : List Int) : Prop := (m 165 t = (A.length : Int) ∧ A.length ≤ 12 ∧ LRg A) ∧ (0 ≤ m 164 t ∧ m 164 t ≤ 3000) ∧ ∀ k : Nat, k < A.length → m 162 ((m 164 t).toNat + k) = A.getD k 0
/-- the letters of the known class c, from place i on -/
def sc_L (c : Int) : Nat → Int → Nat → List Int
  | 0, _, _ => []
  | f + 1, k, i => if cx_ (1000000000 + 3) (i : Int) = 32 then sc_L c f (k + 1) (i + 1) else if k = c then cx_ (1000000000 + 3) (i : Int) :: sc_L c f k (i + 1) else sc_L c f k (i + 1)
set_option maxRecDepth 100000 in
theorem xt_l3 {α : Type} {G : Int → Option α} : ln_X (1000000000 + 3) G = G 77 := rfl
theorem xt_c3 : (List.range 77).all (xt_ck (1000000000 + 3)) = true := by decide +kernel
theorem xt_r3 {α : Type} {G : Int → Option α} {j : Int} (h0 : 0 ≤ j) (hj : j < 77) : rd_X (1000000000 + 3) j G = G (cx_ (1000000000 + 3) j) := by
  have h1 := List.all_eq_true.1 xt_c3 j.toNat (List.mem_range.2 (by omega))
  unfold xt_ck at h1
  have e : ((j.toNat : Nat) : Int) = j := by omega
  rw [e] at h1
  unfold rd_X cx_
  revert h1
  cases xsc (1000000000 + 3) (Int32.ofInt j) with
  | none => intro h1; cases h1
  | some c => intro _; rfl
section
variable {nn : Nat} {K P V U D : Nat → Int} {C : Nat → Nat} {c n N mt : Nat} {q : Int} {h g r w u v a b m : ms_M} {L A : List Int} {W : Nat → List Int}
theorem asp_r : ASp m m := fun _ _ _ _ => rfl
theorem asp_t (A : ASp m w) (B : ASp w v) : ASp m v := fun cc y z1 z2 => by rw [B cc y z1 z2]; exact A cc y z1 z2
theorem lr_0 : LRg [] := fun x hx => absurd hx List.not_mem_nil
theorem lr_a (H : LRg L) (G : LRg A) : LRg (L ++ A) := fun x hx => by
  rcases List.mem_append.1 hx with z | z
  · exact H x z
  · exact G x z
theorem lr_1 {x : Int} (hx : 0 ≤ x ∧ x ≤ 255) : LRg [x] := fun y hy => by rw [List.mem_singleton.1 hy]; exact hx
theorem lr_g (H : LRg L) {k : Nat} (hk : k < L.length) : 0 ≤ L.getD k 0 ∧ L.getD k 0 ≤ 255 := by
  rw [List.getD_eq_getElem?_getD, List.getElem?_eq_getElem hk]
  exact H _ (List.getElem_mem hk)
theorem cx_lr3 {i : Nat} (hi : i < 77) : 0 ≤ cx_ (1000000000 + 3) (i : Int) ∧ cx_ (1000000000 + 3) (i : Int) ≤ 255 := by
  have h : (List.range 77).all (fun i => decide (0 ≤ cx_ (1000000000 + 3) ((i : Nat) : Int)) && decide (cx_ (1000000000 + 3) ((i : Nat) : Int) ≤ 255)) = true := by decide +kernel
  have x := List.all_eq_true.1 h i (List.mem_range.2 hi)
  rw [Bool.and_eq_true] at x
  exact ⟨of_decide_eq_true x.1, of_decide_eq_true x.2⟩
theorem r_spell {x : Int} (S : SPL m L) (hx : 0 ≤ x ∧ x ≤ 255 := by omega) : Pc (qf_X13_spell nn x m) (fun w => SPL w (L ++ [x]) ∧ ASp m w) := by
  obtain ⟨⟨s1, s2⟩, s3⟩ := S
  unfold qf_X13_spell
  refine pc_wA ?_; intro i1 i2 h3 e3
  rw [s1, Int.toNat_natCast] at e3
  have q3 : h3 160 66 = (L.length : Int) := by rw [e3, up_n (by omega)]; exact s1
  rw [q3]
  refine pc_add (by omega) ?_; intro v5 e5
  refine pc_xl ?_; intro h6 e6
  refine pc_ret ⟨⟨⟨?_, ?_⟩, fun k hk => ?_⟩, fun cc y z1 z2 => ?_⟩
  · rw [e6, up_s, List.length_append]; show v5 = ((L.length + 1 : Nat) : Int); omega
  · rw [List.length_append]; exact ⟨by show L.length + 1 ≤ 200; omega, lr_a s2.2 (lr_1 hx)⟩
  · rw [List.length_append] at hk
    have hk2 : k < L.length + 1 := hk
    rw [e6, up_n (by omega), gd_a]
    by_cases z : k < L.length
    · rw [if_pos z, e3, up_n (by omega)]; exact s3 k z
    · have ek : k = L.length := by omega
      rw [if_neg z, ek, e3, up_s, Nat.sub_self]; rfl
  · rw [e6, up_n z2, e3, up_n (by omega)]
/-- the first k letters of a text -/
theorem tk_s (A : List Int) {k : Nat} (hk : k < A.length) : A.take (k + 1) = A.take k ++ [A.getD k 0] := by
  revert k
  induction A with
  | nil => intro k hk; exact absurd hk (Nat.not_lt_zero _)
  | cons x A ih =>
    intro k hk
    cases k with
    | zero => rfl
    | succ k =>
      show x :: A.take (k + 1) = x :: (A.take k ++ [A.getD k 0])
      rw [ih (Nat.lt_of_succ_lt_succ hk)]
theorem r_spTok {t : Nat} (T : TLt m t A) (S : SPL m L) : Pc (qf_X13_spellToken nn (t : Int) m) (fun w => SPL w (L ++ A) ∧ ASp m w) := by
  obtain ⟨⟨t1, t12⟩, t2, t3⟩ := T
  have G : ∀ (f i : Nat) (w : ms_M), i ≤ A.length → ASp m w → SPL w (L ++ A.take i) → Pc (qw_X13_spellToken_2 nn f (t : Int) (i : Int) w) (fun w => SPL w (L ++ A) ∧ ASp m w) := by
    intro f
    induction f with
    | zero => intros; exact pc_none
    | succ f ih =>
      intro i w hi Aw Sw
      unfold qw_X13_spellToken_2
      refine pc_rA ?_; intro _ _ v2 e2
      rw [Int.toNat_natCast, Aw 165 t (by omega) (by omega), t1] at e2
      refine pc_if (fun z => ?_) (fun z => ?_)
      · have ei : i = A.length := by omega
        rw [ei, List.take_length] at Sw
        exact pc_ret ⟨Sw, Aw⟩
      · refine pc_rA ?_; intro _ _ v5 e5
        rw [Int.toNat_natCast, Aw 164 t (by omega) (by omega)] at e5
        refine pc_add (by omega) ?_; intro v6 e6
        refine pc_rA ?_; intro _ _ v7 e7
        rw [show v6.toNat = (m 164 t).toNat + i by omega, Aw 162 _ (by omega) (by omega), t3 i (by omega)] at e7
        have lg := lr_g t12.2 (k := i) (by omega)
        refine pc_sv (r_spell Sw (by omega)) ?_; intro u9 q9
        refine pc_add (by omega) ?_; intro v10 e10
        rw [show v10 = ((i + 1 : Nat) : Int) by omega]
        refine ih (i + 1) u9 (by omega) (asp_t Aw q9.2) ?_
        rw [tk_s A (by omega), ← List.append_assoc, ← e7]
        exact q9.1
  unfold qf_X13_spellToken
  exact G nn 0 m (by omega) asp_r (by rw [List.take_zero, List.append_nil]; exact S)
theorem r_spC24 {c : Int} : ∀ (f i : Nat) (k : Int) (L : List Int) (m0 w : ms_M), i ≤ 77 → (-1 ≤ k ∧ k ≤ 100 + (i : Int)) → ASp m0 w → SPL w L → Pc (qw_X13_spellClass_24 nn f c k (i : Int) w) (fun w2 => SPL w2 (L ++ sc_L c (77 - i) k i) ∧ ASp m0 w2) := by
  intro f
  induction f with
  | zero => intros; exact pc_none
  | succ f ih =>
    intro i k L m0 w hi hk Aw Sw
    unfold qw_X13_spellClass_24
    rw [xt_l3]
    refine pc_if (fun z => ?_) (fun z => ?_)
    · have ei : 77 - i = 0 := by omega
      rw [ei]
      exact pc_ret ⟨by show SPL w (L ++ []); rw [List.append_nil]; exact Sw, Aw⟩
    · have e77 : 77 - i = (77 - (i + 1)) + 1 := by omega
      rw [e77, xt_r3 (by omega) (by omega)]
      show Pc _ (fun w2 => SPL w2 (L ++ (if cx_ (1000000000 + 3) (i : Int) = 32 then sc_L c (77 - (i + 1)) (k + 1) (i + 1) else if k = c then cx_ (1000000000 + 3) (i : Int) :: sc_L c (77 - (i + 1)) k (i + 1) else sc_L c (77 - (i + 1)) k (i + 1))) ∧ ASp m0 w2)
      refine pc_if (fun y => ?_) (fun y => ?_)
      · rw [if_neg y]
        refine pc_if (fun y2 => ?_) (fun y2 => ?_)
        · rw [if_neg y2]
          refine pc_add (by omega) ?_; intro v3 e3
          rw [show v3 = ((i + 1 : Nat) : Int) by omega]
          exact ih (i + 1) k L m0 w (by omega) (by omega) Aw Sw
        · rw [if_pos (Classical.byContradiction y2), xt_r3 (by omega) (by omega)]
          refine pc_sv (r_spell Sw (cx_lr3 (by omega))) ?_; intro u6 q6
          refine pc_add (by omega) ?_; intro v7 e7
          rw [show v7 = ((i + 1 : Nat) : Int) by omega]
          refine pc_imp (ih (i + 1) k (L ++ [cx_ (1000000000 + 3) (i : Int)]) m0 u6 (by omega) (by omega) (asp_t Aw q6.2) q6.1) (fun w2 q => ⟨?_, q.2⟩)
          have e := q.1
          rw [List.append_assoc] at e
          exact e
      · rw [if_pos (Classical.byContradiction y)]
        refine pc_add (by omega) ?_; intro v9 e9
        refine pc_add (by omega) ?_; intro v10 e10
        rw [show v10 = ((i + 1 : Nat) : Int) by omega, e9]
        exact ih (i + 1) (k + 1) L m0 w (by omega) (by omega) Aw Sw
/-- the known classes' letters -/
theorem sc_kl : (List.range 8).all (fun i => decide (sc_L (i : Int) 77 (-1) 0 = kl_T i)) = true := by decide +kernel
/-- how the classes are spelled in the reference -/
def WSr (W : Nat → List Int) (C : Nat → Nat) (n : Nat) (m : ms_M) : Prop := (∀ k : Nat, k < 8 → W k = kl_T k) ∧ ∀ k : Nat, k < n → m 178 k = (C k : Int) ∧ TLt m (C k) (W (8 + k))
theorem wsr_a (H : WSr W C n m) (A : ASp m w) : WSr W C n w := ⟨H.1, fun k hk => by
  obtain ⟨x, ⟨⟨t1, t12⟩, t2, t3⟩⟩ := H.2 k hk
  refine ⟨by rw [A 178 k (by omega) (by omega)]; exact x, ⟨by rw [A 165 _ (by omega) (by omega)]; exact t1, t12⟩, by rw [A 164 _ (by omega) (by omega)]; exact t2, fun i hi => ?_⟩
  rw [A 162 _ (by omega) (by omega), A 164 _ (by omega) (by omega)]; exact t3 i hi⟩
theorem r_spCls (H : WSr W C n m) (n8 : n ≤ 8) {k : Nat} (hk : k < 8 + n) (S : SPL m L) : Pc (qf_X13_spellClass nn (k : Int) m) (fun w => SPL w (L ++ W k) ∧ ASp m w) := by
  unfold qf_X13_spellClass
  refine pc_if (fun z => ?_) (fun z => ?_)
  · have x := List.all_eq_true.mp sc_kl k (List.mem_range.mpr (by omega))
    have y : sc_L (k : Int) 77 (-1) 0 = kl_T k := of_decide_eq_true x
    rw [H.1 k (by omega), ← y]
    exact r_spC24 nn 0 (-1) L m m (by omega) (by omega) asp_r S
  · obtain ⟨j, jk⟩ : ∃ j : Nat, k = 8 + j := ⟨k - 8, by omega⟩
    have x := H.2 j (by omega)
    refine pc_sub (by omega) ?_; intro v14 e14
    refine pc_rA ?_; intro _ _ v15 e15
    rw [show v14.toNat = j by omega, x.1] at e15
    rw [e15]
    refine pc_sv (r_spTok x.2 S) ?_; intro u17 q17
    rw [jk]
    exact pc_ret q17
theorem r_spKind (H : WSr W C n m) (n8 : n ≤ 8) {t : Int} (vt : VTn n t ∧ ¬ t = 300) (S : SPL m L) : Pc (qf_X13_spellKind nn (ty_T t) m) (fun w => SPL w (L ++ kd_L W t) ∧ ASp m w) := by
  have tc := ty_c (vtn_v n8 vt.1)
  have v1 := vt.1
  unfold VTn at v1
  -- L name ;
  have G : ∀ (k : Nat) (x : Int) (L2 : List Int) (m2 : ms_M), k < 8 + n → (x = 8 + 2 * (k : Int) ∨ x = 9 + 2 * (k : Int)) → WSr W C n m2 → SPL m2 L2 → Pc (qj_X13_spellKind_54 nn x m2) (fun w => SPL w (L2 ++ ((76 :: W k) ++ [59])) ∧ ASp m2 w) := by
    intro k x L2 m2 hk hx H2 S2
    unfold qj_X13_spellKind_54
    refine pc_if (fun _ => ?_) (fun y => absurd (fun y2 => by omega) y)
    refine pc_sv (r_spell S2) ?_; intro u2 q2
    refine pc_sub (by omega) ?_; intro v3 e3
    refine pc_div (by omega) ?_; intro v4 e4
    rw [show v4 = (k : Int) by omega]
    refine pc_sv (r_spCls (wsr_a H2 q2.2) n8 hk q2.1) ?_; intro u6 q6
    refine pc_sv (r_spell q6.1) ?_; intro u8 q8
    refine pc_ret ⟨?_, asp_t (asp_t q2.2 q6.2) q8.2⟩
    have e : L2 ++ ((76 :: W k) ++ [59]) = L2 ++ [76] ++ W k ++ [59] := by rw [List.append_assoc, List.append_assoc]; rfl
    rw [e]; exact q8.1
  unfold qf_X13_spellKind
  by_cases a1 : t = 301
  · have e : ty_T t = 0 := by omega
    refine pc_if (fun y => absurd e y) (fun _ => ?_)
    have kl : kd_L W t = [73] := by unfold kd_L; rw [if_pos a1]
    rw [kl]
    exact pc_sv (r_spell S) (fun u q => pc_ret q)
  · refine pc_if (fun _ => ?_) (fun y => absurd (fun y2 => by omega) y)
    by_cases a2 : t = 302
    · have e : ty_T t = 1 := by omega
      refine pc_if (fun y => absurd e y) (fun _ => ?_)
      have kl : kd_L W t = [90] := by unfold kd_L; rw [if_neg a1, if_pos a2]
      rw [kl]
      exact pc_sv (r_spell S) (fun u q => pc_ret q)
    · refine pc_if (fun _ => ?_) (fun y => absurd (fun y2 => by omega) y)
      by_cases a3 : t = 303
      · have e : ty_T t = 3 := by omega
        refine pc_if (fun y => absurd e y) (fun _ => ?_)
        have kl : kd_L W t = [86] := by unfold kd_L; rw [if_neg a1, if_neg a2, if_pos a3]
        rw [kl]
        exact pc_sv (r_spell S) (fun u q => pc_ret q)
      · refine pc_if (fun _ => ?_) (fun y => absurd (fun y2 => by omega) y)
        unfold qf_X13_isArray
        by_cases a4 : t = 200
        · have e : ty_T t = 4 := by omega
          have kl : kd_L W t = [91, 73] := by unfold kd_L; rw [if_neg a1, if_neg a2, if_neg a3, if_pos a4]
          refine pc_sv (P := fun y => y = 1) ?_ ?_
          · exact pc_if (fun _ => pc_ret rfl) (fun y => absurd e y)
          · intro u12 e12
            refine pc_if (fun y => absurd y (by omega)) (fun _ => ?_)
            refine pc_sv (r_spell S) ?_; intro u14 q14
            unfold qj_X13_spellKind_54
            refine pc_if (fun y => absurd e y) (fun _ => ?_)
            refine pc_sv (r_spell q14.1) ?_; intro u10 q10
            refine pc_ret ⟨?_, asp_t q14.2 q10.2⟩
            have e2 : L ++ kd_L W t = L ++ [91] ++ [73] := by rw [kl, List.append_assoc]; rfl
            rw [e2]; exact q10.1
        · by_cases a5 : t < 100
          · obtain ⟨k, tk⟩ : ∃ k : Nat, t = (k : Int) := ⟨t.toNat, by omega⟩
            have e : ty_T t = 8 + 2 * (k : Int) := by omega
            have kl : kd_L W t = (76 :: W k) ++ [59] := by
              unfold kd_L
              rw [if_neg a1, if_neg a2, if_neg a3, if_neg a4, if_pos a5, show t.toNat = k by omega]
            refine pc_sv (P := fun y => y = 0) ?_ ?_
            · refine pc_if (fun y => absurd y (by omega)) (fun _ => ?_)
              refine pc_if (fun y => absurd y (by omega)) (fun _ => ?_)
              refine pc_mod (by omega) ?_; intro v1 e1
              exact pc_if (fun _ => pc_ret rfl) (fun y => absurd (fun y2 => by omega) y)
            · intro u12 e12
              refine pc_if (fun _ => ?_) (fun y => absurd e12 y)
              rw [kl]
              exact G k _ L m (by omega) (.inl e) H S
          · obtain ⟨k, tk⟩ : ∃ k : Nat, t = 100 + (k : Int) := ⟨(t - 100).toNat, by omega⟩
            have e : ty_T t = 9 + 2 * (k : Int) := by omega
            have kl : kd_L W t = 91 :: ((76 :: W k) ++ [59]) := by
              unfold kd_L
              rw [if_neg a1, if_neg a2, if_neg a3, if_neg a4, if_neg a5, show (t - 100).toNat = k by omega]
              all_goals rfl
            refine pc_sv (P := fun y => y = 1) ?_ ?_
            · refine pc_if (fun y => absurd y (by omega)) (fun _ => ?_)
              refine pc_if (fun y => absurd y (by omega)) (fun _ => ?_)
              refine pc_mod (by omega) ?_; intro v1 e1
              exact pc_if (fun y => absurd (by omega) y) (fun _ => pc_ret rfl)
            · intro u12 e12
              refine pc_if (fun y => absurd y (by omega)) (fun _ => ?_)
              refine pc_sv (r_spell S) ?_; intro u14 q14
              refine pc_imp (G k _ (L ++ [91]) u14 (by omega) (.inr e) (wsr_a H q14.2) q14.1) (fun w q => ⟨?_, asp_t q14.2 q.2⟩)
              have e2 : L ++ kd_L W t = L ++ [91] ++ ((76 :: W k) ++ [59]) := by rw [kl, List.append_assoc]; rfl
              rw [e2]; exact q.1
end
end
section
/- THE POOL of both sides: a TEXT -/
section
variable {nn : Nat} {K P V U D : Nat → Int} {C : Nat → Nat} {c n N mt : Nat} {q : Int} {h g r w u v a b m : ms_M} {L A : List Int} {W : Nat → List Int}
/-- the reference compares the letters of constant k -/
theorem r_49 {k l : Nat} {qk : Int → Int → ms_M → Option (Int × ms_M)} {Q : Int × ms_M → Prop} (k2 : k ≤ 2000) (l2 : l ≤ 200) (b0 : 0 ≤ m 201 k ∧ m 201 k ≤ 1000000) (ZE : (∀ j : Nat, j < l → m 204 ((m 201 k).toNat + j) = m 205 j) → Q ((k : Int), m)) (ZN : (¬ ∀ j : Nat, j < l → m 204 ((m 201 k).toNat + j) = m 205 j) → Pc (qk (l : Int) ((k + 1 : Nat) : Int) m) Q) : ∀ (f i : Nat) (l3 : Int), ((l3 = 1 ∧ ∀ j : Nat, j < i → j < l → m 204 ((m 201 k).toNat + j) = m 205 j) ∨ (l3 = 0 ∧ ¬ ∀ j : Nat, j < l → m 204 ((m 201 k).toNat + j) = m 205 j)) → Pc (qw_X13_spelling_49 nn qk f (l : Int) (k : Int) l3 (i : Int) m) Q := by
  have E95 : ∀ l3 : Int, ((l3 = 1 ∧ ∀ j : Nat, j < l → m 204 ((m 201 k).toNat + j) = m 205 j) ∨ (l3 = 0 ∧ ¬ ∀ j : Nat, j < l → m 204 ((m 201 k).toNat + j) = m 205 j)) → Pc (qj_X13_spelling_95 nn qk (l : Int) (k : Int) l3 m) Q := fun l3 H => by
    unfold qj_X13_spelling_95
    refine pc_if (fun z => ?_) (fun z => ?_)
    · refine pc_add (by omega) ?_; intro v15 e15
      rw [show v15 = ((k + 1 : Nat) : Int) by omega]
      rcases H with ⟨x, _⟩ | ⟨_, x⟩
      · omega
      · exact ZN x
    · rcases H with ⟨_, x⟩ | ⟨x, _⟩
      · exact pc_ret (ZE x)
      · exact absurd x z
  intro f
  induction f with
  | zero => intros; exact pc_none
  | succ f ih =>
    intro i l3 H
    unfold qw_X13_spelling_49
    refine pc_if (fun z => E95 l3 ?_) (fun z => ?_)
    · rcases H with ⟨x, y⟩ | x
      · exact .inl ⟨x, fun j hj => y j (by omega) hj⟩
      · exact .inr x
    · refine pc_if (fun z0 => E95 l3 ?_) (fun z0 => ?_)
      · rcases H with ⟨x, y⟩ | x
        · omega
        · exact .inr x
      · rcases H with ⟨x, y⟩ | ⟨x, _⟩
        · refine pc_rA ?_; intro _ _ v19 e19
          rw [Int.toNat_natCast] at e19
          refine pc_add (by omega) ?_; intro v20 e20
          refine pc_rA ?_; intro _ _ v21 e21
          rw [show v20.toNat = (m 201 k).toNat + i by omega] at e21
          refine pc_rA ?_; intro _ _ v23 e23
          rw [Int.toNat_natCast] at e23
          refine pc_if (fun y1 => ?_) (fun y1 => ?_)
          · refine pc_add (by omega) ?_; intro v24 e24
            rw [show v24 = ((i + 1 : Nat) : Int) by omega]
            refine ih (i + 1) 0 (.inr ⟨rfl, fun s => y1 ?_⟩)
            rw [e21, e23]; exact s i (by omega)
          · refine pc_add (by omega) ?_; intro v25 e25
            rw [show v25 = ((i + 1 : Nat) : Int) by omega]
            refine ih (i + 1) 1 (.inl ⟨rfl, fun j hj hj2 => ?_⟩)
            by_cases ji : j = i
            · rw [ji, ← e21, ← e23]; exact Classical.byContradiction y1
            · exact y j (by omega) hj2
        · exact absurd x z0
/-- it writes the letters, and the constant -/
theorem r_109 {l : Nat} {m0 : ms_M} (l2 : l ≤ 200) (b0 : 0 ≤ m0 160 64 ∧ m0 160 64 ≤ 40000) (c0 : 0 ≤ m0 160 62 ∧ m0 160 62 ≤ 2000) : ∀ (f i : Nat) (m : ms_M), i ≤ l → m0 160 64 + (i : Int) ≤ 40000 → (∀ cc y : Nat, ¬ cc = 204 → m cc y = m0 cc y) → (∀ y : Nat, (y : Int) < m0 160 64 → m 204 y = m0 204 y) → (∀ j : Nat, j < i → m 204 ((m0 160 64).toNat + j) = m0 205 j) → Pc (qw_X13_spelling_109 nn f (l : Int) (i : Int) m) (fun w => w.1 = m0 160 62 + 1 ∧ (w.2 160 62 = m0 160 62 + 1 ∧ w.2 160 64 = m0 160 64 + l ∧ MBd w.2) ∧ (w.2 200 (m0 160 62 + 1).toNat = 1 ∧ w.2 201 (m0 160 62 + 1).toNat = m0 160 64 ∧ w.2 202 (m0 160 62 + 1).toNat = (l : Int)) ∧ (∀ y : Nat, (y : Int) < m0 160 64 → w.2 204 y = m0 204 y) ∧ (∀ j : Nat, j < l → w.2 204 ((m0 160 64).toNat + j) = m0 205 j) ∧ ∀ cc y : Nat, ¬ (cc = 160 ∧ (y = 62 ∨ y = 64)) → ¬ (200 ≤ cc ∧ cc ≤ 203 ∧ y = (m0 160 62 + 1).toNat) → ¬ cc = 204 → w.2 cc y = m0 cc y) := by
  intro f
  induction f with
  | zero => intros; exact pc_none
  | succ f ih =>
    intro i m hi i4 A B T
    have e62 : m 160 62 = m0 160 62 := A 160 62 (by omega)
    have e64 : m 160 64 = m0 160 64 := A 160 64 (by omega)
    unfold qw_X13_spelling_109
    refine pc_if (fun z => ?_) (fun z => ?_)
    · unfold qf_X13_constant
      refine pc_sv (P := fun u3 => u3.1 = m 160 62 + 1 ∧ (u3.2 160 62 = m 160 62 + 1 ∧ m 160 62 + 1 < 2000) ∧ (u3.2 200 (m 160 62 + 1).toNat = 1 ∧ u3.2 201 (m 160 62 + 1).toNat = m 160 64 ∧ u3.2 202 (m 160 62 + 1).toNat = (l : Int) ∧ u3.2 203 (m 160 62 + 1).toNat = 0) ∧ ∀ cc y : Nat, ¬ (cc = 160 ∧ y = 62) → ¬ (200 ≤ cc ∧ cc ≤ 203 ∧ y = (m 160 62 + 1).toNat) → u3.2 cc y = m cc y) ?_ ?_
      · refine pc_if (fun _ => r_71 (by omega)) (fun y => absurd (by decide) y)
      · intro u3 q3
        obtain ⟨q1, ⟨q2, q2b⟩, ⟨q4, q5, q6, _⟩, q7⟩ := q3
        have x64 : u3.2 160 64 = m0 160 64 := by rw [q7 160 64 (by omega) (by omega)]; exact e64
        rw [x64]
        refine pc_add (by omega) ?_; intro v5 e5
        refine pc_xl ?_; intro h6 e6
        rw [e62] at q1 q2 q2b q4 q5 q6 q7
        rw [e64] at q5
        have z62 : h6 160 62 = m0 160 62 + 1 := by rw [e6, up_n (by omega)]; exact q2
        have z64 : h6 160 64 = m0 160 64 + l := by rw [e6, up_s]; exact e5
        refine pc_ret ⟨q1, ⟨z62, z64, ⟨by show 0 ≤ h6 160 62 ∧ h6 160 62 ≤ 2000; omega, by show 0 ≤ h6 160 64 ∧ h6 160 64 ≤ 40000; omega⟩⟩, ⟨?_, ?_, ?_⟩, fun y hy => ?_, fun j hj => ?_, fun cc y z1 z2 z3 => ?_⟩
        · show h6 200 _ = _; rw [e6, up_n (by omega)]; exact q4
        · show h6 201 _ = _; rw [e6, up_n (by omega)]; exact q5
        · show h6 202 _ = _; rw [e6, up_n (by omega)]; exact q6
        · show h6 204 y = _; rw [e6, up_n (by omega), q7 204 y (by omega) (by omega)]; exact B y hy
        · show h6 204 _ = _; rw [e6, up_n (by omega), q7 204 _ (by omega) (by omega)]; exact T j (by omega)
        · show h6 cc y = _; rw [e6, up_n (by omega), q7 cc y (by omega) z2]; exact A cc y z3
    · rw [e64]
      refine pc_add (by omega) ?_; intro v9 e9
      refine pc_rA ?_; intro _ _ v11 e11
      rw [Int.toNat_natCast, A 205 i (by omega)] at e11
      refine pc_wA ?_; intro _ i12 h12 e12
      rw [show v9.toNat = (m0 160 64).toNat + i by omega] at e12
      refine pc_add (by omega) ?_; intro v13 e13
      rw [show v13 = ((i + 1 : Nat) : Int) by omega]
      refine ih (i + 1) h12 (by omega) (by omega) (fun cc y z1 => by rw [e12, up_n (by omega)]; exact A cc y z1) (fun y hy => by rw [e12, up_n (by omega)]; exact B y hy) (fun j hj => ?_)
      by_cases ji : j = i
      · rw [ji, e12, up_s]; exact e11
      · rw [e12, up_n (by omega)]; exact T j (by omega)
/-- the reference's count of constants does not fall -/
theorem r_12m {l : Nat} (l2 : l ≤ 200) (MB : MBd m) : ∀ (f k : Nat), 1 ≤ k → Pc (qw_X13_spelling_12 nn f (l : Int) (k : Int) m) (fun w => (m 160 62 ≤ w.2 160 62 ∧ MBd w.2) ∧ ∀ cc y : Nat, ¬ (cc = 160 ∧ (y = 62 ∨ y = 64)) → ¬ (200 ≤ cc ∧ cc ≤ 205) → w.2 cc y = m cc y) := by
  intro f
  induction f with
  | zero => intros; exact pc_none
  | succ f ih =>
    intro k k1
    have N49 : ∀ (f2 : Nat) (l3 l4 : Int), k ≤ 2000 → Pc (qw_X13_spelling_49 nn (qw_X13_spelling_12 nn f) f2 (l : Int) (k : Int) l3 l4 m) (fun w => (m 160 62 ≤ w.2 160 62 ∧ MBd w.2) ∧ ∀ cc y : Nat, ¬ (cc = 160 ∧ (y = 62 ∨ y = 64)) → ¬ (200 ≤ cc ∧ cc ≤ 205) → w.2 cc y = m cc y) := by
      intro f2
      induction f2 with
      | zero => intros; exact pc_none
      | succ f2 ih2 =>
        intro l3 l4 kb
        have G95 : Pc (qj_X13_spelling_95 nn (qw_X13_spelling_12 nn f) (l : Int) (k : Int) l3 m) (fun w => (m 160 62 ≤ w.2 160 62 ∧ MBd w.2) ∧ ∀ cc y : Nat, ¬ (cc = 160 ∧ (y = 62 ∨ y = 64)) → ¬ (200 ≤ cc ∧ cc ≤ 205) → w.2 cc y = m cc y) := by
          unfold qj_X13_spelling_95
          refine pc_if (fun _ => ?_) (fun _ => pc_ret ⟨⟨Int.le_refl _, MB⟩, fun _ _ _ _ => rfl⟩)
          refine pc_add (by omega) ?_; intro v15 e15
          rw [show v15 = ((k + 1 : Nat) : Int) by omega]
          exact ih (k + 1) (by omega)
        unfold qw_X13_spelling_49
        refine pc_if (fun _ => G95) (fun _ => ?_)
        refine pc_if (fun _ => G95) (fun _ => ?_)
        refine pc_rA ?_; intro _ _ v19 _
        refine pc_xl ?_; intro v20 _
        refine pc_rA ?_; intro _ _ v21 _
        refine pc_rA ?_; intro _ _ v23 _
        exact pc_if (fun _ => pc_xl (fun v24 _ => ih2 0 v24 kb)) (fun _ => pc_xl (fun v25 _ => ih2 1 v25 kb))
    unfold qw_X13_spelling_12
    refine pc_if (fun _ => ?_) (fun _ => ?_)
    · refine pc_imp (r_109 (nn := nn) (l := l) (m0 := m) l2 MB.2 MB.1 nn 0 m (by omega) (by have := MB.2; omega) (fun _ _ _ => rfl) (fun _ _ => rfl) (fun j hj => absurd hj (by omega))) (fun w q => ⟨⟨by have := q.2.1.1; omega, q.2.1.2.2⟩, fun cc y z1 z2 => q.2.2.2.2.2 cc y z1 (by omega) (by omega)⟩)
    · refine pc_rA ?_; intro _ kb v31 _
      unfold qj_X13_spelling_44
      refine pc_if (fun _ => N49 nn 0 0 (by omega)) (fun _ => ?_)
      refine pc_rA ?_; intro _ _ v33 _
      exact pc_if (fun _ => N49 nn 0 0 (by omega)) (fun _ => N49 nn 1 0 (by omega))
/-- a TEXT of both sides -/
theorem j_text (T : NTB h) {x : Int} (M : NMz h x L) (S : SPL m L) (R : PLR h m) (MB : MBd m) : Pc (qf_X6_constant nn 1 x h) (fun u => Pc (qf_X13_spelling nn m) (fun w => PCo h m u w ∧ SPL w.2 [])) := by
  obtain ⟨⟨s1, s2⟩, s3⟩ := S
  unfold qf_X13_spelling qf_X6_constant
  refine pc_fl ?_
  refine pc_xl ?_; intro m1 f1
  rw [s1]
  have F1 : ∀ cc y : Nat, ¬ (cc = 160 ∧ y = 66) → m1 cc y = m cc y := fun cc y z => by rw [f1, up_n z]
  have z66 : m1 160 66 = 0 := by rw [f1, up_s]
  have MB1 : MBd m1 := ⟨by rw [F1 160 62 (by omega)]; exact MB.1, by rw [F1 160 64 (by omega)]; exact MB.2⟩
  have mb1 := MB1.2
  have sp0 : ∀ w : ms_M, w 160 66 = m1 160 66 → SPL w [] := fun w e => ⟨⟨by rw [e, z66]; rfl, by decide, lr_0⟩, fun k hk => absurd hk (Nat.not_lt_zero _)⟩
  rcases R with ⟨r5, r64, cn, e4, e62, c2, E⟩ | ⟨r5, r62⟩
  · have E1 : ∀ k : Nat, 1 ≤ k → k ≤ cn → PCe h m1 k := fun k h1 h2 => pce_k (E k h1 h2) (fun _ _ _ => rfl) (fun _ _ z => z) (fun cc y z => F1 cc y (by omega)) (fun y _ => F1 204 y (by omega)) (by rw [F1 160 64 (by omega)]; exact Int.le_refl _)
    have n62 : m1 160 62 = (cn : Int) := by rw [F1 160 62 (by omega)]; exact e62
    have n64 : m1 160 64 = m 160 64 := F1 160 64 (by omega)
    have LP : ∀ (f f2 k : Nat), 1 ≤ k → k ≤ cn + 1 → Pc (qw_X6_constant_2 nn f 1 x (k : Int) h) (fun u => Pc (qw_X13_spelling_12 nn f2 (L.length : Int) (k : Int) m1) (fun w => PCo h m u w ∧ SPL w.2 [])) := by
      intro f
      induction f with
      | zero => intros; exact pc_none
      | succ f ih =>
        intro f2 k k1 k2
        cases f2 with
        | zero => exact fun _ _ => pc_none
        | succ f2 =>
          unfold qw_X6_constant_2
          refine pc_if (fun z => ?_) (fun z => ?_)
          · refine pc_imp (c_papp e4 c2) (fun u q => ?_)
            unfold qw_X13_spelling_12
            refine pc_if (fun _ => ?_) (fun y => absurd (by omega) y)
            refine pc_imp (r_109 (nn := nn) (l := L.length) (m0 := m1) s2.1 MB1.2 MB1.1 nn 0 m1 (by omega) (by omega) (fun _ _ _ => rfl) (fun _ _ => rfl) (fun j hj => absurd hj (by omega))) (fun w y => ?_)
            obtain ⟨y1, ⟨y2, y3, MBw⟩, ⟨y4, y5, y6⟩, y7, y8, y9⟩ := y
            rw [n62, show ((cn : Int) + 1).toNat = cn + 1 by omega] at y4 y5 y6 y9
            have Fw : ∀ cc y : Nat, ¬ (cc = 160 ∧ (y = 62 ∨ y = 64 ∨ y = 66)) → ¬ (200 ≤ cc ∧ cc ≤ 205) → w.2 cc y = m cc y := fun cc y z1 z2 => by rw [y9 cc y (by omega) (by omega) (by omega)]; exact F1 cc y (by omega)
            refine ⟨?_, sp0 _ (y9 160 66 (by omega) (by omega) (by omega))⟩
            rcases q.1 with ⟨q1, q2, q3, q4, q5, q6, q7⟩ | ⟨q1, q2⟩
            · have nz : ∀ x L, NMz h x L → NMz u.2 x L := fun x L M => nmz_k M (fun cc y y0 => q.2 cc y (by omega) (by omega) (by omega))
              refine ⟨.inl ⟨by rw [q4]; exact r5, by omega, cn + 1, by rw [q3]; omega, by rw [y2]; omega, by omega, fun k h1 h2 => ?_⟩, fun _ => ⟨by omega, by omega, by omega⟩, fun y => by omega, q.2, Fw, MBw⟩
              by_cases kc : k = cn + 1
              · rw [kc]
                unfold PCe
                rw [q5, q6, y4, y5, y6]
                refine ⟨rfl, .inl ⟨rfl, L, nz _ _ M, ⟨rfl, s2⟩, ⟨by omega, by omega⟩, fun i hi => ?_⟩⟩
                rw [y8 i hi, F1 205 i (by omega)]; exact s3 i hi
              · refine pce_k (E1 k h1 (by omega)) (fun cc y y0 => ?_) nz (fun cc y y0 => y9 cc y (by omega) (by omega) (by omega)) (fun y hy => y7 y hy) (by omega)
                have o := q7 k (by omega)
                rcases y0 with ⟨z1 | z1, z2⟩
                · rw [z1, z2]; exact o.1
                · rw [z1, z2]; exact o.2
            · refine ⟨.inr ⟨q2, by omega⟩, fun y => by omega, fun _ => q2, q.2, Fw, MBw⟩
          · -- entry k
            have kc : k ≤ cn := by omega
            have Ek := E1 k k1 kc
            have e1 := Ek.1
            -- when both sides see the same text
            have SAME : h 46 k = 1 → (h 47 k = x ↔ (m1 202 k = (L.length : Int) ∧ ∀ j : Nat, j < L.length → m1 204 ((m1 201 k).toNat + j) = m1 205 j)) ∧ (0 ≤ m1 201 k ∧ m1 201 k ≤ 1000000) := fun t1 => by
              rcases Ek.2 with ⟨w1, Lk, w2, w3, w4, w5⟩ | ⟨w1, _⟩ | ⟨w1, _⟩
              · refine ⟨⟨fun e => ?_, fun e => ?_⟩, by omega⟩
                · rw [e] at w2
                  have le : (Lk.length : Int) = (L.length : Int) := w2.2.1.symm.trans M.2.1
                  refine ⟨by omega, fun j hj => ?_⟩
                  rw [w5 j (by omega), F1 205 j (by omega), s3 j hj]
                  exact (w2.2.2 j (by omega)).symm.trans (M.2.2 j (by omega))
                · have le : Lk.length = L.length := by omega
                  have N2 : NMt h (h 47 k).toNat (L.length : Int) (fun i => L.getD i 0) := ⟨by rw [← le]; exact w2.2.1, fun i hi => by
                    have p1 := w2.2.2 i (by omega)
                    have p2 := w5 i (by omega)
                    have p3 := e.2 i (by omega)
                    rw [F1 205 i (by omega), s3 i (by omega)] at p3
                    exact p1.trans (p2.symm.trans p3)⟩
                  have := nt_eq T (by have := w2.1; omega) (by have := M.1; omega) N2 M.2
                  have := w2.1
                  have := M.1
                  omega
              · omega
              · omega
            have NX : ¬ (h 46 k = 1 ∧ h 47 k = x) → Pc (qw_X6_constant_2 nn f 1 x ((k + 1 : Nat) : Int) h) (fun u => Pc (qw_X13_spelling_12 nn (f2 + 1) (L.length : Int) (k : Int) m1) (fun w => PCo h m u w ∧ SPL w.2 [])) := fun ne => by
              refine pc_fl ?_
              unfold qw_X13_spelling_12
              refine pc_if (fun y => absurd y (by omega)) (fun _ => ?_)
              have GO : Pc (qw_X13_spelling_12 nn f2 (L.length : Int) ((k + 1 : Nat) : Int) m1) (fun w => Pc (qw_X6_constant_2 nn f 1 x ((k + 1 : Nat) : Int) h) (fun u => PCo h m u w ∧ SPL w.2 [])) := pc_fl (ih f2 (k + 1) (by omega) (by omega))
              -- not alike: on
              have N44 : Pc (qj_X13_spelling_44 nn (qw_X13_spelling_12 nn f2) (L.length : Int) (k : Int) m1) (fun w => Pc (qw_X6_constant_2 nn f 1 x ((k + 1 : Nat) : Int) h) (fun u => PCo h m u w ∧ SPL w.2 [])) := by
                unfold qj_X13_spelling_44
                cases hn : nn with
                | zero => exact pc_none
                | succ n0 =>
                  rw [← hn]
                  have G95 : Pc (qj_X13_spelling_95 nn (qw_X13_spelling_12 nn f2) (L.length : Int) (k : Int) 0 m1) (fun w => Pc (qw_X6_constant_2 nn f 1 x ((k + 1 : Nat) : Int) h) (fun u => PCo h m u w ∧ SPL w.2 [])) := by
                    unfold qj_X13_spelling_95
                    refine pc_if (fun _ => ?_) (fun y => absurd rfl y)
                    refine pc_add (by omega) ?_; intro v15 e15
                    rw [show v15 = ((k + 1 : Nat) : Int) by omega]
                    exact GO
                  have EE : qw_X13_spelling_49 nn (qw_X13_spelling_12 nn f2) nn (L.length : Int) (k : Int) 0 0 m1 = qw_X13_spelling_49 nn (qw_X13_spelling_12 nn f2) (n0 + 1) (L.length : Int) (k : Int) 0 0 m1 := by rw [← hn]
                  rw [EE]
                  unfold qw_X13_spelling_49
                  refine pc_if (fun _ => G95) (fun _ => ?_)
                  exact pc_if (fun _ => G95) (fun y => absurd rfl y)
              refine pc_rA ?_; intro _ kb v31 e31
              rw [Int.toNat_natCast] at e31
              refine pc_if (fun _ => N44) (fun y1 => ?_)
              have t1 : h 46 k = 1 := by omega
              have sm := SAME t1
              refine pc_rA ?_; intro _ _ v33 e33
              rw [Int.toNat_natCast] at e33
              refine pc_if (fun _ => N44) (fun y2 => ?_)
              refine r_49 (by omega) s2.1 sm.2 (fun y => ?_) (fun _ => GO) nn 0 1 (.inl ⟨rfl, fun j hj => absurd hj (by omega)⟩)
              exact absurd ⟨t1, sm.1.mpr ⟨by omega, y⟩⟩ ne
            refine pc_rA ?_; intro _ _ v16 e16
            rw [Int.toNat_natCast] at e16
            refine pc_if (fun y => ?_) (fun y => ?_)
            · refine pc_add (by omega) ?_; intro v17 e17
              rw [show v17 = ((k + 1 : Nat) : Int) by omega]
              exact NX (fun y2 => y (by rw [e16]; exact y2.1))
            · refine pc_rA ?_; intro _ _ v19 e19
              rw [Int.toNat_natCast] at e19
              refine pc_if (fun y2 => ?_) (fun y2 => ?_)
              · refine pc_add (by omega) ?_; intro v20 e20
                rw [show v20 = ((k + 1 : Nat) : Int) by omega]
                exact NX (fun y3 => y2 (by rw [e19]; exact y3.2))
              · -- found
                have t1 : h 46 k = 1 := by omega
                have sm := SAME t1
                have eq := sm.1.mp (by rw [← e19]; exact Classical.byContradiction y2)
                refine pc_ret ?_
                unfold qw_X13_spelling_12
                refine pc_if (fun y => absurd y (by omega)) (fun _ => ?_)
                refine pc_rA ?_; intro _ kb v31 e31
                rw [Int.toNat_natCast] at e31
                refine pc_if (fun y => absurd (by omega) y) (fun _ => ?_)
                refine pc_rA ?_; intro _ _ v33 e33
                rw [Int.toNat_natCast] at e33
                refine pc_if (fun y => absurd (e33.trans eq.1) y) (fun _ => ?_)
                refine r_49 (by omega) s2.1 sm.2 (fun _ => ?_) (fun y => absurd eq.2 y) nn 0 1 (.inl ⟨rfl, fun j hj => absurd hj (by omega)⟩)
                refine ⟨⟨.inl ⟨r5, by dsimp only; rw [n64]; exact r64, cn, e4, n62, c2, E1⟩, fun _ => ⟨rfl, by show (1 : Int) ≤ (k : Int); omega, by show (k : Int) ≤ 200; omega⟩, fun y => by omega, fun _ _ _ _ _ => rfl, fun cc y z1 z2 => F1 cc y (by omega), MB1⟩, sp0 _ rfl⟩
    exact pc_fl (LP nn nn 1 (by omega) (by omega))
  · refine pc_fl ?_
    refine pc_imp (c_pfull r5 nn 1) (fun u q => ?_)
    refine pc_imp (r_12m s2.1 MB1 nn 1 (by omega)) (fun w y => ?_)
    rw [F1 160 62 (by omega)] at y
    exact ⟨⟨.inr ⟨q.1, by omega⟩, fun z => by omega, fun _ => q.1, q.2, fun cc y2 z1 z2 => by rw [y.2 cc y2 (by omega) (by omega)]; exact F1 cc y2 (by omega), y.1.2⟩, sp0 _ (y.2 160 66 (by omega) (by omega))⟩
end
end
section
/- THE POOL of both sides: CLASS and MEMBER -/
set_option maxRecDepth 20000 in
theorem sh_16 : ∀ i : Fin 256, oq_shl ((i.1 : Nat) : Int) 16 = 65536 * ((i.1 : Nat) : Int) := by decide
theorem oq_shl_16 {x : Int} (hx : 0 ≤ x ∧ x ≤ 255) : oq_shl x 16 = 65536 * x := by
  have h := sh_16 ⟨x.toNat, by omega⟩
  have e : ((x.toNat : Nat) : Int) = x := by omega
  simp only [e] at h
  exact h
theorem oq_or_n {x y : Int} (hx : 0 ≤ x ∧ x < 1073741824) (hy : 0 ≤ y ∧ y < 1073741824) : oq_or x y = ((x.toNat ||| y.toNat : Nat) : Int) := by
  unfold oq_or
  have h1 : (Int32.ofInt x ||| Int32.ofInt y).toInt = (Int32.ofInt x ||| Int32.ofInt y).toBitVec.toInt := rfl
  rw [h1, Int32.toBitVec_or]
  have h2 : ((Int32.ofInt x).toBitVec ||| (Int32.ofInt y).toBitVec).toNat = x.toNat ||| y.toNat := by
    rw [BitVec.toNat_or, bv_of (by omega), bv_of (by omega)]
  have h3 : x.toNat ||| y.toNat < 2 ^ 30 := Nat.or_lt_two_pow (by omega) (by omega)
  rw [BitVec.toInt_eq_toNat_of_lt (by omega), h2]
/-- three indices as one number -/
theorem oq_mem {a b c : Int} (ha : 1 ≤ a ∧ a ≤ 200) (hb : 1 ≤ b ∧ b ≤ 200) (hc : 1 ≤ c ∧ c ≤ 200) : oq_or (oq_or (oq_shl a 16) (oq_shl b 8)) c = a * 65536 + b * 256 + c := by
  rw [oq_shl_16 (by omega), oq_shl_8 (by omega)]
  have e1 : oq_or (65536 * a) (256 * b) = 65536 * a + 256 * b := by
    rw [oq_or_n (by omega) (by omega), show (65536 * a).toNat = 2 ^ 16 * a.toNat by omega, ← Nat.two_pow_add_eq_or_of_lt (by omega)]
    omega
  rw [e1, oq_or_n (by omega) (by omega), show (65536 * a + 256 * b).toNat = 2 ^ 8 * (256 * a.toNat + b.toNat) by omega, ← Nat.two_pow_add_eq_or_of_lt (by omega)]
  omega
/-- the text of a CLASS -/
def cA_L (W : Nat → List Int) (t : Int) : List Int := if t < 100 then W t.toNat else kd_L W t
section
variable {nn : Nat} {K P V U D : Nat → Int} {C : Nat → Nat} {c n N mt : Nat} {q : Int} {h g r w u v a b m m0 : ms_M} {L A : List Int} {W : Nat → List Int}
theorem pco_t {u u2 : Int × ms_M} {w w2 : Int × ms_M} (X : PCo h m u w) (Y : PCo u.2 w.2 u2 w2) : PCo h m u2 w2 := by
  obtain ⟨x1, x2, x3, x4, x5, x6⟩ := X
  obtain ⟨y1, y2, y3, y4, y5, y6⟩ := Y
  exact ⟨y1, y2, fun z => y3 (x3 z), fun cc y z1 z2 z3 => by rw [y4 cc y z1 z2 z3]; exact x4 cc y z1 z2 z3, fun cc y z1 z2 => by rw [y5 cc y z1 z2]; exact x5 cc y z1 z2, y6⟩
theorem pco_a {u : Int × ms_M} {w : Int × ms_M} (A : ASp m0 m) (X : PCo h m u w) : PCo h m0 u w := by
  obtain ⟨x1, x2, x3, x4, x5, x6⟩ := X
  exact ⟨x1, x2, x3, x4, fun cc y z1 z2 => by rw [x5 cc y z1 z2]; exact A cc y (by omega) (by omega), x6⟩
theorem plr_a (A : ASp m0 m) (R : PLR h m0) : PLR h m := by
  rcases R with ⟨r5, r64, cn, e4, e62, c2, E⟩ | ⟨r5, r62⟩
  · exact .inl ⟨r5, by rw [A 160 64 (by omega) (by omega)]; exact r64, cn, e4, by rw [A 160 62 (by omega) (by omega)]; exact e62, c2, fun k h1 h2 => pce_k (E k h1 h2) (fun _ _ _ => rfl) (fun _ _ z => z) (fun cc y z => A cc y (by omega) (by omega)) (fun y _ => A 204 y (by omega) (by omega)) (by rw [A 160 64 (by omega) (by omega)]; exact Int.le_refl _)⟩
  · exact .inr ⟨r5, by rw [A 160 62 (by omega) (by omega)]; exact r62⟩
theorem mbd_a (A : ASp m0 m) (M : MBd m0) : MBd m := ⟨by rw [A 160 62 (by omega) (by omega)]; exact M.1, by rw [A 160 64 (by omega) (by omega)]; exact M.2⟩
theorem j_const3 {t x a b c : Int} (t1 : ¬ t ≤ 1) (VL : h 45 5 = 0 → VAL t x a b c) (R : PLR h m) (MB : MBd m) : Pc (qf_X6_constant nn t x h) (fun u => Pc (qf_X13_constant nn t a b c m) (fun w => PCo h m u w)) := by
  by_cases z : h 45 5 = 0
  · exact j_const (VL z) R MB
  · unfold qf_X6_constant qf_X13_constant
    rcases R with ⟨r5, _⟩ | ⟨r5, r62⟩
    · exact absurd r5 z
    · exact j_cF t1 r5 r62 MB
theorem c_nOT (n8 : n ≤ 8) (NK : NKc W (8 + n) h) (N31 : NMz h 31 [91, 73]) {t : Int} (vt : (0 ≤ t ∧ t < 8 + (n : Int)) ∨ (100 ≤ t ∧ t < 108 + (n : Int)) ∨ t = 200) : Pc (qf_X2_nameOfType nn t h) (fun x => NMz h x (cA_L W t)) := by
  unfold qf_X2_nameOfType
  refine pc_if (fun z => absurd z (by omega)) (fun _ => ?_)
  refine pc_if (fun z => ?_) (fun z => ?_)
  · unfold qj_X2_nameOfType_17
    refine pc_if (fun y => absurd y (by omega)) (fun _ => ?_)
    refine pc_if (fun y => ?_) (fun y => ?_)
    · have t2 : t = 200 := by omega
      unfold qj_X2_nameOfType_33 qj_X2_nameOfType_34
      refine pc_if (fun _ => pc_ret ?_) (fun y2 => absurd rfl y2)
      have e : cA_L W t = [91, 73] := by unfold cA_L kd_L; rw [if_neg (by omega), if_neg (by omega), if_neg (by omega), if_neg (by omega), if_pos t2]
      rw [e]; exact N31
    · unfold qj_X2_nameOfType_34
      refine pc_if (fun y2 => absurd y2 (by decide)) (fun _ => ?_)
      refine pc_add (by omega) ?_; intro v2 e2
      refine pc_sub (by omega) ?_; intro v3 e3
      refine pc_rA ?_; intro _ _ v4 e4
      obtain ⟨k, tk⟩ : ∃ k : Nat, t = 100 + (k : Int) := ⟨(t - 100).toNat, by omega⟩
      rw [show v3.toNat = 16 + k by omega] at e4
      have x := (NK k (by omega)).2
      have e : cA_L W t = kd_L W (100 + (k : Int)) := by unfold cA_L; rw [if_neg (by omega), tk]
      exact pc_ret (by rw [e, e4]; exact x)
  · refine pc_rA ?_; intro _ _ v9 e9
    have x := (NK t.toNat (by omega)).1
    have e : cA_L W t = W t.toNat := by unfold cA_L; rw [if_pos (by omega)]
    exact pc_ret (by rw [e, e9]; exact x)
/-- a CLASS of both sides -/
theorem j_class3 (n8 : n ≤ 8) (T : NTB h) (NK : NKc W (8 + n) h) (N31 : NMz h 31 [91, 73]) (WS : WSr W C n m) (S : SPL m []) (R : PLR h m) (MB : MBd m) {t : Int} (vt : (0 ≤ t ∧ t < 8 + (n : Int)) ∨ (100 ≤ t ∧ t < 108 + (n : Int)) ∨ t = 200) : Pc (qf_X6_classOf nn t h) (fun u => Pc (qf_X13_classConstant nn (ty_T t) m) (fun w => PCo h m u w ∧ SPL w.2 [])) := by
  have vn : VTn n t := by
    rcases vt with z | z | z
    · exact .inr (.inr (.inr (.inr (.inr (.inl z)))))
    · exact .inr (.inr (.inr (.inr (.inr (.inr z)))))
    · exact .inr (.inr (.inr (.inr (.inl z))))
  have tc := ty_c (vtn_v n8 vn)
  unfold qf_X6_classOf
  refine pc_sv (c_nOT n8 NK N31 vt) ?_; intro u3 q3
  -- behind the spelling
  have BACK : ∀ m1 : ms_M, ASp m m1 → SPL m1 (cA_L W t) → Pc (qj_X13_classConstant_38 nn m1) (fun w => Pc (mx_sv (qf_X6_constant nn 1 u3 h) fun u5 => mx_sv (qf_X6_constant nn 3 u5.1 u5.2) fun u7 => some (u7.1, u7.2)) (fun u => PCo h m u w ∧ SPL w.2 [])) := by
    intro m1 A1 S1
    refine pc_fl ?_
    unfold qj_X13_classConstant_38
    refine p2_sv (j_text T q3 S1 (plr_a A1 R) (mbd_a A1 MB)) ?_; intro u5 w2 J
    refine p2_se (j_const3 (t := 3) (x := u5.1) (a := w2.1) (b := 0) (c := 0) (by decide) (fun z => .inl ⟨.inr ⟨rfl, by have := J.1.2.1 z; omega, by have := J.1.2.1 z; omega⟩, (J.1.2.1 z).1, rfl, rfl⟩) J.1.1 J.1.2.2.2.2.2) ?_; intro u7 w4 _ ew4 J2
    refine pc_ret (pc_ret ⟨pco_a A1 (pco_t J.1 J2), ?_⟩)
    obtain ⟨⟨s1, s2⟩, s3⟩ := J.2
    exact ⟨⟨by rw [show w4.2 160 66 = w2.2 160 66 from ff_X13_constant nn w4 ew4 160 66 rfl]; exact s1, s2⟩, fun k hk => absurd hk (Nat.not_lt_zero _)⟩
  refine pc_fl ?_
  unfold qf_X13_classConstant
  by_cases t2 : t = 200
  · have e : cA_L W t = kd_L W t := by unfold cA_L; rw [if_neg (by omega)]
    refine pc_if (fun y => absurd (by omega) y) (fun _ => ?_)
    refine pc_sv (r_spKind WS n8 ⟨vn, by omega⟩ S) ?_; intro u14 q14
    exact BACK u14 q14.2 (by rw [e]; exact q14.1)
  · refine pc_if (fun _ => ?_) (fun y => absurd (fun y2 => by omega) y)
    unfold qf_X13_isArray
    by_cases t1 : t < 100
    · obtain ⟨k, tk⟩ : ∃ k : Nat, t = (k : Int) := ⟨t.toNat, by omega⟩
      have e : cA_L W t = W k := by unfold cA_L; rw [if_pos t1, show t.toNat = k by omega]
      refine pc_sv (P := fun y => y = 0) ?_ ?_
      · refine pc_if (fun y => absurd y (by omega)) (fun _ => ?_)
        refine pc_if (fun y => absurd y (by omega)) (fun _ => ?_)
        refine pc_mod (by omega) ?_; intro v1 e1
        exact pc_if (fun _ => pc_ret rfl) (fun y => absurd (fun y2 => by omega) y)
      · intro u5 e5
        refine pc_if (fun _ => ?_) (fun y => absurd e5 y)
        refine pc_sub (by omega) ?_; intro v6 e6
        refine pc_div (by omega) ?_; intro v7 e7
        rw [show v7 = (k : Int) by omega]
        refine pc_sv (r_spCls WS n8 (k := k) (by omega) S) ?_; intro u9 q9
        exact BACK u9 q9.2 (by rw [e]; exact q9.1)
    · have e : cA_L W t = kd_L W t := by unfold cA_L; rw [if_neg t1]
      refine pc_sv (P := fun y => y = 1) ?_ ?_
      · refine pc_if (fun y => absurd y (by omega)) (fun _ => ?_)
        refine pc_if (fun y => absurd y (by omega)) (fun _ => ?_)
        refine pc_mod (by omega) ?_; intro v1 e1
        exact pc_if (fun y => absurd (by omega) y) (fun _ => pc_ret rfl)
      · intro u5 e5
        refine pc_if (fun y => absurd y (by omega)) (fun _ => ?_)
        refine pc_sv (r_spKind WS n8 ⟨vn, by omega⟩ S) ?_; intro u11 q11
        exact BACK u11 q11.2 (by rw [e]; exact q11.1)
end
end
section
/- THE POOL of both sides: MEMBER -/
/-- texts of both sides, while bodies are made -/
def TXE (K V : Nat → Int) (C : Nat → Nat) (W : Nat → List Int) (n : Nat) (a b h m : ms_M) : Prop := (NTB h ∧ NKc W (8 + n) h ∧ NMz h 31 [91, 73]) ∧ (∀ cc y : Nat, (17 ≤ cc ∧ cc ≤ 29) → h cc y = a cc y) ∧ (NKf W a 96 h ∧ NKm W a 96 h) ∧ (∀ t : Nat, K t = 2 → ∃ A : List Int, TLt m t A ∧ NMz h (V t) A) ∧ WSr W C n m ∧ ∀ cc y : Nat, (178 ≤ cc ∧ cc ≤ 195) → m cc y = b cc y
section
variable {nn : Nat} {K P V U D : Nat → Int} {C : Nat → Nat} {c n N mt : Nat} {q : Int} {h g r w u v a b m m0 : ms_M} {L A : List Int} {W : Nat → List Int}
theorem ntb_f (T : NTB g) (e : ∀ cc y : Nat, (6 ≤ cc ∧ cc ≤ 9) ∨ (cc = 2 ∧ y = 9) → u cc y = g cc y) : NTB u := by
  have e7 : ∀ i, u 7 i = g 7 i := fun i => e 7 i (by omega)
  have e6 : ∀ i, u 6 i = g 6 i := fun i => e 6 i (by omega)
  have e9 : u 2 9 = g 2 9 := e 2 9 (by omega)
  have nm : ∀ i l t, NMt u i l t → NMt g i l t := fun i l t M => ⟨by have := M.1; unfold ln_T at this ⊢; rw [← e7, ← e7]; exact this, fun k hk => by have := M.2 k hk; rw [e7, e6] at this; exact this⟩
  have bn : ∀ i, bn_T u i = bn_T g i := fun i => by unfold bn_T ln_T; rw [e7, e7, e6, e6]
  obtain ⟨t1, ⟨t2, t3⟩, t4, t5, t6⟩ := T
  refine ⟨by rw [e9, e7]; exact t1, ⟨by rw [e7]; exact t2, fun i hi => by rw [e7, e7]; exact t3 i (by omega)⟩, fun b hb => ?_, fun i hi => ?_, fun i j l t ij hj M1 M2 => t6 i j l t ij (by omega) (nm i l t M1) (nm j l t M2)⟩
  · rw [e 9 b (by omega), e9, pv_e (γ := bn_T g) _ (fun i _ => bn i)]; exact t4 b hb
  · rw [e 8 i (by omega), bn i, pv_e (γ := bn_T g) _ (fun j _ => bn j)]; exact t5 i (by omega)
theorem tlt_k {t : Nat} (T : TLt m t A) (e : ∀ cc y : Nat, cc = 162 ∨ cc = 164 ∨ cc = 165 → w cc y = m cc y) : TLt w t A := by
  obtain ⟨⟨t1, t12⟩, t2, t3⟩ := T
  refine ⟨⟨by rw [e 165 _ (by omega)]; exact t1, t12⟩, by rw [e 164 _ (by omega)]; exact t2, fun i hi => ?_⟩
  rw [e 162 _ (by omega), e 164 _ (by omega)]; exact t3 i hi
/-- the texts stay -/
theorem txe_k (H : TXE K V C W n a b h m) (eh : ∀ cc y : Nat, (6 ≤ cc ∧ cc ≤ 9) ∨ (17 ≤ cc ∧ cc ≤ 30) ∨ (cc = 2 ∧ y = 9) → g cc y = h cc y) (em : ∀ cc y : Nat, cc = 162 ∨ cc = 164 ∨ cc = 165 ∨ (178 ≤ cc ∧ cc ≤ 195) → w cc y = m cc y) : TXE K V C W n a b g w := by
  obtain ⟨⟨x1, x2, x3⟩, x4, ⟨x5, x6⟩, x7, x8, x9⟩ := H
  have nz : ∀ x L, NMz h x L → NMz g x L := fun x L M => nmz_k M (fun cc y z => eh cc y (by omega))
  refine ⟨⟨ntb_f x1 (fun cc y z => eh cc y (by omega)), fun i hi => by rw [eh 30 _ (by omega), eh 30 _ (by omega)]; exact ⟨nz _ _ (x2 i hi).1, nz _ _ (x2 i hi).2⟩, nz _ _ x3⟩, fun cc y z => by rw [eh cc y (by omega)]; exact x4 cc y z, ⟨fun i hi z => by rw [eh 20 _ (by omega)]; exact nz _ _ (x5 i hi z), fun i hi z => by rw [eh 26 _ (by omega)]; exact nz _ _ (x6 i hi z)⟩, fun t kt => ?_, ⟨x8.1, fun k hk => ⟨by rw [em 178 k (by omega)]; exact (x8.2 k hk).1, tlt_k (x8.2 k hk).2 (fun cc y z => em cc y (by omega))⟩⟩, fun cc y z => by rw [em cc y (by omega)]; exact x9 cc y z⟩
  obtain ⟨A, a1, a2⟩ := x7 t kt
  exact ⟨A, tlt_k a1 (fun cc y z => em cc y (by omega)), nz _ _ a2⟩
theorem txe_p {u : Int × ms_M} {w : Int × ms_M} (H : TXE K V C W n a b h m) (X : PCo h m u w) : TXE K V C W n a b u.2 w.2 := txe_k H (fun cc y z => X.2.2.2.1 cc y (by omega) (by omega) (by omega)) (fun cc y z => X.2.2.2.2.1 cc y (by omega) (by omega))
theorem txe_a (H : TXE K V C W n a b h m) (A : ASp m w) : TXE K V C W n a b h w := txe_k H (fun _ _ _ => rfl) (fun cc y z => A cc y (by omega) (by omega))
/-- a token's TEXT -/
theorem j_tok (H : TXE K V C W n a b h m) (S : SPL m []) (R : PLR h m) (MB : MBd m) {t : Nat} (kt : K t = 2) : Pc (qf_X6_constant nn 1 (V t) h) (fun u => Pc (qf_X13_textOf nn (t : Int) m) (fun w => PCo h m u w ∧ SPL w.2 [])) := by
  obtain ⟨A, a1, a2⟩ := H.2.2.2.1 t kt
  refine pc_fl ?_
  unfold qf_X13_textOf
  refine pc_sv (r_spTok a1 S) ?_; intro u2 q2
  refine pc_fl ?_
  refine pc_imp (j_text H.1.1 a2 q2.1 (plr_a q2.2 R) (mbd_a q2.2 MB)) (fun u z => ?_)
  exact pc_sv z (fun w y => pc_ret ⟨pco_a q2.2 y.1, y.2⟩)
/-- the spelling of kinds, and the TEXT -/
theorem j_k56 (n8 : n ≤ 8) (H : TXE K V C W n a b h m0) (A0 : ASp m0 m) {j : Nat} {t x : Int} (vt : VTn n t ∧ ¬ t = 300) (e187 : b 187 j = ty_T t) (S : SPL m L) (R : PLR h m0) (MB : MBd m0) (M : NMz h x (L ++ kd_L W t)) : Pc (qf_X6_constant nn 1 x h) (fun u => Pc (qj_X13_kindOf_56 nn (j : Int) m) (fun w => PCo h m0 u w ∧ SPL w.2 [])) := by
  have Hm := txe_a H A0
  refine pc_fl ?_
  unfold qj_X13_kindOf_56
  refine pc_rA ?_; intro _ _ v2 e2
  rw [Int.toNat_natCast, Hm.2.2.2.2.2 187 j (by omega), e187] at e2
  rw [e2]
  refine pc_sv (r_spKind Hm.2.2.2.2.1 n8 vt S) ?_; intro u4 q4
  have A4 := asp_t A0 q4.2
  refine pc_fl ?_
  refine pc_imp (j_text H.1.1 M q4.1 (plr_a A4 R) (mbd_a A4 MB)) (fun u z => ?_)
  exact pc_sv z (fun w y => pc_ret ⟨pco_a A4 y.1, y.2⟩)
/-- a field's kind -/
theorem j_kindF (n8 : n ≤ 8) (H : TXE K V C W n a b h m) (S : SPL m []) (R : PLR h m) (MB : MBd m) {j x : Nat} (x96 : x < 96) (hx : ((x % 12 : Nat) : Int) < a 17 (x / 12)) (b182 : b 182 j = 0) (vt : VTn n (a 19 x) ∧ ¬ a 19 x = 300) (e187 : b 187 j = ty_T (a 19 x)) : Pc (qf_X6_constant nn 1 (h 20 x) h) (fun u => Pc (qf_X13_kindOf nn (j : Int) m) (fun w => PCo h m u w ∧ SPL w.2 [])) := by
  refine pc_fl ?_
  unfold qf_X13_kindOf
  refine pc_rA ?_; intro _ _ v21 e21
  rw [Int.toNat_natCast, H.2.2.2.2.2 182 j (by omega), b182] at e21
  refine pc_if (fun _ => ?_) (fun y => absurd (by omega) y)
  exact pc_fl (j_k56 n8 H asp_r vt e187 S R MB (H.2.2.1.1 x x96 hx))
/-- a method's kind -/
theorem j_kindM (n8 : n ≤ 8) (H : TXE K V C W n a b h m) (S : SPL m []) (R : PLR h m) (MB : MBd m) {j x pn bp : Nat} (x96 : x < 96) (hx : ((x % 12 : Nat) : Int) < a 21 (x / 12)) (b182 : 0 < b 182 j) (vt : VTn n (a 24 x) ∧ ¬ a 24 x = 300) (e187 : b 187 j = ty_T (a 24 x)) (e27 : a 27 x = (pn : Int)) (e189 : b 189 j = (pn : Int)) (e188 : b 188 j = (bp : Int)) (p6 : pn ≤ 6 ∧ bp ≤ 1500) (hp : ∀ i : Nat, i < pn → (VTn n (a 29 (6 * x + i)) ∧ ¬ a 29 (6 * x + i) = 300) ∧ b 195 (bp + i) = ty_T (a 29 (6 * x + i))) : Pc (qf_X6_constant nn 1 (h 26 x) h) (fun u => Pc (qf_X13_kindOf nn (j : Int) m) (fun w => PCo h m u w ∧ SPL w.2 [])) := by
  have MM := H.2.2.1.2 x x96 hx
  unfold mk_L at MM
  rw [show (a 27 x).toNat = pn by omega] at MM
  have LP : ∀ (f i : Nat) (m1 : ms_M), i ≤ pn → ASp m m1 → SPL m1 (40 :: kz_L W (fun i => a 29 (6 * x + i)) i) → Pc (qw_X13_kindOf_17 nn f (j : Int) (i : Int) m1) (fun w => Pc (qf_X6_constant nn 1 (h 26 x) h) (fun u => PCo h m u w ∧ SPL w.2 [])) := by
    intro f
    induction f with
    | zero => intros; exact pc_none
    | succ f ih =>
      intro i m1 hi A1 S1
      have H1 := txe_a H A1
      unfold qw_X13_kindOf_17
      refine pc_rA ?_; intro _ _ v8 e8
      rw [Int.toNat_natCast, H1.2.2.2.2.2 189 j (by omega), e189] at e8
      refine pc_if (fun z => ?_) (fun z => ?_)
      · have ei : i = pn := by omega
        refine pc_sv (r_spell S1) ?_; intro u10 q10
        refine pc_fl (j_k56 n8 H (asp_t A1 q10.2) vt e187 q10.1 R MB ?_)
        rw [ei]; exact MM
      · have ip : i < pn := by omega
        refine pc_rA ?_; intro _ _ v13 e13
        rw [Int.toNat_natCast, H1.2.2.2.2.2 188 j (by omega), e188] at e13
        refine pc_add (by omega) ?_; intro v14 e14
        refine pc_rA ?_; intro _ _ v15 e15
        rw [show v14.toNat = bp + i by omega, H1.2.2.2.2.2 195 _ (by omega), (hp i ip).2] at e15
        rw [e15]
        refine pc_sv (r_spKind H1.2.2.2.2.1 n8 (hp i ip).1 S1) ?_; intro u17 q17
        refine pc_add (by omega) ?_; intro v18 e18
        rw [show v18 = ((i + 1 : Nat) : Int) by omega]
        exact ih (i + 1) u17 (by omega) (asp_t A1 q17.2) q17.1
  refine pc_fl ?_
  unfold qf_X13_kindOf
  refine pc_rA ?_; intro _ _ v21 e21
  rw [Int.toNat_natCast, H.2.2.2.2.2 182 j (by omega)] at e21
  refine pc_if (fun y => absurd y (by omega)) (fun _ => ?_)
  refine pc_sv (r_spell S) ?_; intro u23 q23
  exact LP nn 0 u23 (by omega) q23.2 q23.1
/-- a MEMBER of both sides, its kind's TEXT as given -/
theorem j_mb3 (n8 : n ≤ 8) (H : TXE K V C W n a b h m) (S : SPL m []) (R : PLR h m) (MB : MBd m) {j t k : Nat} (hk : k < 8 + n) (kt : K t = 2) (e186 : b 186 j = (t : Int)) {F1 F2 : ms_M → Option Int} (G1 : ∀ g w : ms_M, TXE K V C W n a b g w → (∀ cc y : Nat, ¬ (cc = 45 ∧ (y = 4 ∨ y = 5)) → ¬ cc = 46 → ¬ cc = 47 → g cc y = h cc y) → Pc (F1 g) (fun y => y = V t)) (G2 : ∀ g w : ms_M, TXE K V C W n a b g w → SPL w [] → PLR g w → MBd w → ∀ y, F2 g = some y → Pc (qf_X6_constant nn 1 y g) (fun u => Pc (qf_X13_kindOf nn (j : Int) w) (fun w2 => PCo g w u w2 ∧ SPL w2.2 []))) : Pc (mx_sv (qf_X6_classOf nn (k : Int) h) fun u2 => mx_sv (F1 u2.2) fun u5 => mx_sv (qf_X6_constant nn 1 u5 u2.2) fun u7 => xl (oq_shl u2.1 16) fun v8 => xl (oq_shl u7.1 8) fun v9 => xl (oq_or v8 v9) fun v10 => mx_sv (F2 u7.2) fun u13 => mx_sv (qf_X6_constant nn 1 u13 u7.2) fun u15 => xl (oq_or v10 u15.1) fun v16 => mx_sv (qf_X6_constant nn 4 v16 u15.2) fun u18 => some (u18.1, u18.2)) (fun u => Pc (qf_X13_memberConstant nn (k : Int) (j : Int) m) (fun w => PCo h m u w ∧ SPL w.2 [])) := by
  have tk : ty_T (k : Int) = 8 + 2 * (k : Int) := by
    have := ty_c (t := (k : Int)) (.inr (.inr (.inr (.inr (.inr (.inl (by omega)))))))
    omega
  unfold qf_X13_memberConstant
  refine pc_fl ?_
  refine pc_xl ?_; intro v1 e1
  rw [oq_mul_eq (by omega) (by omega) (by omega)] at e1
  refine pc_add (by omega) ?_; intro v2 e2
  rw [show v2 = ty_T (k : Int) by omega]
  refine pc_fl ?_
  refine p2_sv (j_class3 n8 H.1.1 H.1.2.1 H.1.2.2 H.2.2.2.2.1 S R MB (t := (k : Int)) (.inl (by omega))) ?_; intro u2 w4 J1
  have H2 := txe_p H J1.1
  refine pc_sv (G1 u2.2 w4.2 H2 J1.1.2.2.2.1) ?_; intro u5 q5
  rw [q5]
  refine pc_fl ?_
  refine pc_rA ?_; intro _ _ v6 e6
  rw [Int.toNat_natCast, H2.2.2.2.2.2 186 j (by omega), e186] at e6
  rw [e6]
  refine pc_fl ?_
  refine p2_sv (j_tok H2 J1.2 J1.1.1 J1.1.2.2.2.2.2 kt) ?_; intro u7 w8 J2
  have H3 := txe_p H2 J2.1
  refine pc_xl ?_; intro v8 e8
  refine pc_xl ?_; intro v9 e9
  refine pc_xl ?_; intro v10 e10
  refine pc_se ?_; intro u13 e13
  refine p2_sv (G2 u7.2 w8.2 H3 J2.2 J2.1.1 J2.1.2.2.2.2.2 u13 e13) ?_; intro u15 w10 J3
  refine pc_xl ?_; intro v16 e16
  refine p2_se (j_const3 (t := 4) (x := v16) (a := w4.1) (b := w8.1) (c := w10.1) (by decide) (fun z => ?_) J3.1.1 J3.1.2.2.2.2.2) ?_
  · -- not full at the end, so never
    have z7 : u7.2 45 5 = 0 := Classical.byContradiction fun y => by
      rcases J2.1.1 with x | x
      · exact y x.1
      · have := J3.1.2.2.1 x.1; omega
    have z2 : u2.2 45 5 = 0 := Classical.byContradiction fun y => by
      rcases J1.1.1 with x | x
      · exact y x.1
      · have := J2.1.2.2.1 x.1; omega
    have a1 := J1.1.2.1 z2
    have a2 := J2.1.2.1 z7
    have a3 := J3.1.2.1 z
    refine .inr ⟨rfl, ⟨by omega, by omega, by omega⟩, ?_⟩
    rw [e16, e10, e8, e9, oq_mem (by omega) (by omega) (by omega), a1.1, a2.1, a3.1]
  · intro u18 w12 _ ew12 J4
    refine pc_ret (pc_ret ⟨pco_t (pco_t (pco_t J1.1 J2.1) J3.1) J4, ?_⟩)
    obtain ⟨⟨s1, s2⟩, s3⟩ := J3.2
    exact ⟨⟨by rw [show w12.2 160 66 = w10.2 160 66 from ff_X13_constant nn w12 ew12 160 66 rfl]; exact s1, s2⟩, fun k hk => absurd hk (Nat.not_lt_zero _)⟩
end
end
section
/- CODE of both sides: the single steps -/
/-- a byte more in the class -/
def COp (v : Int) (h u : ms_M) : Prop := u 34 1 = h 34 1 + 1 ∧ (h 34 1 < 1500 → u 35 (h 34 1).toNat = oq_b v) ∧ ∀ cc x : Nat, ¬ (cc = 34 ∧ x = 1) → ¬ (cc = 35 ∧ x = (h 34 1).toNat) → u cc x = h cc x
def CPu (t : Int) (h u : ms_M) : Prop := u 34 3 = h 34 3 + 1 ∧ (u 34 4 = if h 34 4 < h 34 3 + 1 then h 34 3 + 1 else h 34 4) ∧ (h 34 3 < 20 → u 36 (h 34 3).toNat = t) ∧ ∀ cc x : Nat, ¬ (cc = 34 ∧ (x = 3 ∨ x = 4)) → ¬ (cc = 36 ∧ x = (h 34 3).toNat) → u cc x = h cc x
def CPo (n : Int) (h u : ms_M) : Prop := (u 34 3 = if 0 < h 34 3 - n then h 34 3 - n else 0) ∧ ∀ cc x : Nat, ¬ (cc = 34 ∧ x = 3) → u cc x = h cc x
/-- a jump whose aim is open -/
def CJu (o n : Int) (h u : ms_M) : Prop := u 34 1 = h 34 1 + 3 ∧ (u 34 3 = if 0 < h 34 3 - n then h 34 3 - n else 0) ∧ ((h 34 1 < 1500 → u 35 (h 34 1).toNat = oq_b o) ∧ (h 34 1 + 1 < 1500 → u 35 ((h 34 1).toNat + 1) = oq_b 0) ∧ (h 34 1 + 2 < 1500 → u 35 ((h 34 1).toNat + 2) = oq_b 0)) ∧ ∀ cc x : Nat, ¬ (cc = 34 ∧ (x = 1 ∨ x = 3)) → ¬ (cc = 35 ∧ (h 34 1).toNat ≤ x ∧ x < (h 34 1).toNat + 3) → u cc x = h cc x
/-- .. and its aim -/
def CAm (j a : Int) (h u : ms_M) : Prop := (0 ≤ j → j + 2 < 1500 → u 35 (j.toNat + 1) = oq_b (oq_shr (a - j) 8) ∧ u 35 (j.toNat + 2) = oq_b (a - j)) ∧ ∀ cc x : Nat, (cc = 35 → ¬ (0 ≤ j ∧ j + 2 < 1500 ∧ (x = j.toNat + 1 ∨ x = j.toNat + 2))) → u cc x = h cc x
def RPt (v : Int) (m w : ms_M) : Prop := w 160 68 = m 160 68 + 1 ∧ (m 160 68 < 12000 → w 206 (m 160 68).toNat = oq_and v 255) ∧ ∀ cc x : Nat, ¬ (cc = 160 ∧ x = 68) → ¬ (cc = 206 ∧ x = (m 160 68).toNat) → w cc x = m cc x
def RPs (t : Int) (m w : ms_M) : Prop := (0 ≤ m 160 70 ∧ m 160 70 < 3000) ∧ w 160 70 = m 160 70 + 1 ∧ (w 160 71 = if m 160 71 < m 160 70 + 1 then m 160 70 + 1 else m 160 71) ∧ w 207 (m 160 70).toNat = t ∧ ∀ cc x : Nat, ¬ (cc = 160 ∧ (x = 70 ∨ x = 71)) → ¬ (cc = 207 ∧ x = (m 160 70).toNat) → w cc x = m cc x
def RJu (o l : Int) (m w : ms_M) : Prop := (0 ≤ m 160 87 ∧ m 160 87 < 3000) ∧ w 160 68 = m 160 68 + 3 ∧ w 160 87 = m 160 87 + 1 ∧ w 217 (m 160 87).toNat = m 160 68 ∧ w 218 (m 160 87).toNat = l ∧ ((m 160 68 < 12000 → w 206 (m 160 68).toNat = oq_and o 255) ∧ (m 160 68 + 1 < 12000 → w 206 ((m 160 68).toNat + 1) = oq_and 0 255) ∧ (m 160 68 + 2 < 12000 → w 206 ((m 160 68).toNat + 2) = oq_and 0 255)) ∧ ∀ cc x : Nat, ¬ (cc = 160 ∧ (x = 68 ∨ x = 87)) → ¬ (cc = 206 ∧ (m 160 68).toNat ≤ x ∧ x < (m 160 68).toNat + 3) → ¬ ((cc = 217 ∨ cc = 218) ∧ x = (m 160 87).toNat) → w cc x = m cc x
section
variable {nn : Nat} {h g u r m w : ms_M}
theorem c_op {v : Int} (hl : 0 ≤ h 34 1 ∧ h 34 1 ≤ 2000000) : Pc (qf_X1_op nn v h) (fun u => COp v h u) := by
  have F : ∀ g : ms_M, g 34 1 = h 34 1 → (h 34 1 < 1500 → g 35 (h 34 1).toNat = oq_b v) → (∀ cc x : Nat, ¬ (cc = 35 ∧ x = (h 34 1).toNat) → g cc x = h cc x) → Pc (qj_X1_op_23 nn g) (fun u => COp v h u) := fun g g1 g2 g3 => by
    unfold qj_X1_op_23
    refine pc_add (by omega) ?_; intro v2 e2
    refine pc_xl ?_; intro h3 e3
    exact pc_ret ⟨by rw [e3, up_s]; omega, fun q => by rw [e3, up_n (by omega)]; exact g2 q, fun cc x z1 z2 => by rw [e3, up_n z1]; exact g3 cc x z2⟩
  unfold qf_X1_op
  refine pc_if (fun z => F h rfl (fun q => absurd q (by omega)) (fun _ _ _ => rfl)) (fun z => ?_)
  refine pc_xl ?_; intro v9 e9
  refine pc_wB ?_; intro _ _ h10 e10
  exact F h10 (by rw [e10, up_n (by omega)]) (fun _ => by rw [e10, up_s, e9, oq_b_b]) (fun cc x z => by rw [e10, up_n z])
theorem c_push {t : Int} (hl : 0 ≤ h 34 3 ∧ h 34 3 ≤ 2000000) : Pc (qf_X1_push nn t h) (fun u => CPu t h u) := by
  have F : ∀ g : ms_M, g 34 3 = h 34 3 → g 34 4 = h 34 4 → (h 34 3 < 20 → g 36 (h 34 3).toNat = t) → (∀ cc x : Nat, ¬ (cc = 36 ∧ x = (h 34 3).toNat) → g cc x = h cc x) → Pc (qj_X1_push_22 nn g) (fun u => CPu t h u) := fun g g3 g4 g2 g5 => by
    unfold qj_X1_push_22
    refine pc_add (by omega) ?_; intro v2 e2
    refine pc_xl ?_; intro h3 e3
    have a3 : h3 34 3 = h 34 3 + 1 := by rw [e3, up_s]; omega
    have a4 : h3 34 4 = h 34 4 := by rw [e3, up_n (by omega)]; exact g4
    refine pc_xl ?_; intro v6 e6
    rw [a3, a4] at e6
    refine pc_xl ?_; intro h7 e7
    exact pc_ret ⟨by rw [e7, up_n (by omega)]; exact a3, by rw [e7, up_s]; exact e6, fun q => by rw [e7, up_n (by omega), e3, up_n (by omega)]; exact g2 q, fun cc x z1 z2 => by rw [e7, up_n (by omega), e3, up_n (by omega)]; exact g5 cc x z2⟩
  unfold qf_X1_push
  refine pc_if (fun z => F h rfl rfl (fun q => absurd q (by omega)) (fun _ _ _ => rfl)) (fun z => ?_)
  refine pc_wA ?_; intro _ _ h13 e13
  exact F h13 (by rw [e13, up_n (by omega)]) (by rw [e13, up_n (by omega)]) (fun _ => by rw [e13, up_s]) (fun cc x z => by rw [e13, up_n z])
theorem c_pop {n : Int} (hn : 0 ≤ n ∧ n ≤ 1000) (hl : 0 ≤ h 34 3 ∧ h 34 3 ≤ 2000000) : Pc (qf_X1_pop nn n h) (fun u => CPo n h u) := by
  unfold qf_X1_pop
  refine pc_sub (by omega) ?_; intro v2 e2
  refine pc_xl ?_; intro v3 e3
  refine pc_xl ?_; intro h4 e4
  exact pc_ret ⟨by rw [e4, up_s, e3, e2], fun cc x z => by rw [e4, up_n z]⟩
theorem c_op2 {v z : Int} (hl : 0 ≤ h 34 1 ∧ h 34 1 ≤ 1000000) : Pc (qf_X1_op_ nn v z h) (fun u => ∃ g, COp v h g ∧ COp z g u) := by
  unfold qf_X1_op_
  refine pc_sv (c_op (by omega)) ?_; intro u2 q2
  have a := q2.1
  refine pc_sv (c_op (by omega)) ?_; intro u4 q4
  exact pc_ret ⟨u2, q2, q4⟩
theorem c_jump {o n : Int} (hn : 0 ≤ n ∧ n ≤ 1000) (hl : 0 ≤ h 34 1 ∧ h 34 1 ≤ 1000000) (h3 : 0 ≤ h 34 3 ∧ h 34 3 ≤ 2000000) : Pc (qf_X1_jump nn o n h) (fun u => u.1 = h 34 1 ∧ CJu o n h u.2) := by
  unfold qf_X1_jump
  refine pc_sv (c_pop hn h3) ?_; intro u3 ⟨p1, p2⟩
  have l3 : u3 34 1 = h 34 1 := p2 34 1 (by omega)
  refine pc_sv (c_op (by omega)) ?_; intro u5 ⟨o1, o2, o3⟩
  refine pc_sv (c_op (by omega)) ?_; intro u7 ⟨r1, r2, r3⟩
  refine pc_sv (c_op (by omega)) ?_; intro u9 ⟨s1, s2, s3⟩
  rw [l3] at o1 o2 o3
  rw [o1] at r1 r2 r3
  rw [r1] at s1 s2 s3
  rw [show (h 34 1 + 1).toNat = (h 34 1).toNat + 1 by omega] at r2 r3
  rw [show (h 34 1 + 1 + 1).toNat = (h 34 1).toNat + 2 by omega] at s2 s3
  refine pc_ret ⟨rfl, by dsimp only; omega, ?_, ⟨fun q => ?_, fun q => ?_, fun q => ?_⟩, fun cc x z1 z2 => ?_⟩
  · dsimp only
    rw [s3 34 3 (by omega) (by omega), r3 34 3 (by omega) (by omega), o3 34 3 (by omega) (by omega)]
    exact p1
  · dsimp only
    rw [s3 35 _ (by omega) (by omega), r3 35 _ (by omega) (by omega)]
    exact o2 q
  · dsimp only
    rw [s3 35 _ (by omega) (by omega)]
    exact r2 q
  · exact s2 (by omega)
  · dsimp only
    rw [s3 cc x (by omega) (by omega), r3 cc x (by omega) (by omega), o3 cc x (by omega) (by omega), p2 cc x (by omega)]
theorem c_aim {j a : Int} (hj : -1 ≤ j ∧ j ≤ 1000000) (ha : 0 ≤ a ∧ a ≤ 1000000) : Pc (qf_X1_aimAt nn j a h) (fun u => CAm j a h u) := by
  unfold qf_X1_aimAt
  refine pc_sub (by omega) ?_; intro v1 e1
  refine pc_if (fun z => pc_ret ⟨fun q => absurd z (by omega), fun _ _ _ => rfl⟩) (fun z => ?_)
  refine pc_add (by omega) ?_; intro v2 e2
  refine pc_if (fun z2 => pc_ret ⟨fun q q2 => absurd z2 (by omega), fun _ _ _ => rfl⟩) (fun z2 => ?_)
  refine pc_add (by omega) ?_; intro v6 e6
  refine pc_xl ?_; intro v7 e7
  refine pc_xl ?_; intro v8 e8
  refine pc_wB ?_; intro _ _ h9 e9
  refine pc_add (by omega) ?_; intro v11 e11
  refine pc_xl ?_; intro v12 e12
  refine pc_wB ?_; intro _ _ h13 e13
  rw [show v6.toNat = j.toNat + 1 by omega] at e9
  rw [show v11.toNat = j.toNat + 2 by omega] at e13
  refine pc_ret ⟨fun _ _ => ⟨?_, ?_⟩, fun cc x q => ?_⟩
  · rw [e13, up_n (by omega), e9, up_s, e8, oq_b_b, e7, e1]
  · rw [e13, up_s, e12, oq_b_b, e1]
  · by_cases c35 : cc = 35
    · have q2 := q c35
      rw [e13, up_n (by omega), e9, up_n (by omega)]
    · rw [e13, up_n (by omega), e9, up_n (by omega)]
theorem r_put {v : Int} (hl : 0 ≤ m 160 68 ∧ m 160 68 ≤ 2000000) : Pc (qf_X13_put nn v m) (fun w => RPt v m w) := by
  have F : ∀ g : ms_M, g 160 68 = m 160 68 → (m 160 68 < 12000 → g 206 (m 160 68).toNat = oq_and v 255) → (∀ cc x : Nat, ¬ (cc = 206 ∧ x = (m 160 68).toNat) → g cc x = m cc x) → Pc (qj_X13_put_24 nn g) (fun w => RPt v m w) := fun g g1 g2 g3 => by
    unfold qj_X13_put_24
    refine pc_add (by omega) ?_; intro v2 e2
    refine pc_xl ?_; intro h3 e3
    exact pc_ret ⟨by rw [e3, up_s]; omega, fun q => by rw [e3, up_n (by omega)]; exact g2 q, fun cc x z1 z2 => by rw [e3, up_n z1]; exact g3 cc x z2⟩
  unfold qf_X13_put
  refine pc_if (fun z => F m rfl (fun q => absurd q (by omega)) (fun _ _ _ => rfl)) (fun z => ?_)
  refine pc_xl ?_; intro v7 e7
  refine pc_wA ?_; intro _ _ h8 e8
  exact F h8 (by rw [e8, up_n (by omega)]) (fun _ => by rw [e8, up_s, e7]) (fun cc x z => by rw [e8, up_n z])
theorem r_push {t : Int} : Pc (qf_X13_push nn t m) (fun w => RPs t m w) := by
  unfold qf_X13_push
  refine pc_wA ?_; intro b1 b2 h3 e3
  have a3 : h3 160 70 = m 160 70 := by rw [e3, up_n (by omega)]
  refine pc_add (by omega) ?_; intro v5 e5
  refine pc_xl ?_; intro h6 e6
  have a6 : h6 160 70 = m 160 70 + 1 := by rw [e6, up_s]; omega
  have a7 : h6 160 71 = m 160 71 := by rw [e6, up_n (by omega), e3, up_n (by omega)]
  refine pc_xl ?_; intro v9 e9
  rw [a6, a7] at e9
  refine pc_xl ?_; intro h10 e10
  exact pc_ret ⟨⟨b1, b2⟩, by rw [e10, up_n (by omega)]; exact a6, by rw [e10, up_s]; exact e9, by rw [e10, up_n (by omega), e6, up_n (by omega), e3, up_s], fun cc x z1 z2 => by rw [e10, up_n (by omega), e6, up_n (by omega), e3, up_n z2]⟩
theorem r_jump {o l : Int} (hl : 0 ≤ m 160 68 ∧ m 160 68 ≤ 1000000) : Pc (qf_X13_jump nn o l m) (fun w => RJu o l m w) := by
  unfold qf_X13_jump
  refine pc_wA ?_; intro b1 b2 h4 e4
  have a4 : h4 160 87 = m 160 87 := by rw [e4, up_n (by omega)]
  refine pc_wA ?_; intro _ _ h7 e7
  rw [a4] at e7
  have a7 : h7 160 87 = m 160 87 := by rw [e7, up_n (by omega)]; exact a4
  refine pc_add (by omega) ?_; intro v9 e9
  refine pc_xl ?_; intro h10 e10
  have K : ∀ cc x : Nat, ¬ (cc = 160 ∧ x = 87) → ¬ ((cc = 217 ∨ cc = 218) ∧ x = (m 160 87).toNat) → h10 cc x = m cc x := fun cc x z1 z2 => by rw [e10, up_n z1, e7, up_n (by omega), e4, up_n (by omega)]
  have k87 : h10 160 87 = m 160 87 + 1 := by rw [e10, up_s]; omega
  have k217 : h10 217 (m 160 87).toNat = m 160 68 := by rw [e10, up_n (by omega), e7, up_n (by omega), e4, up_s]
  have k218 : h10 218 (m 160 87).toNat = l := by rw [e10, up_n (by omega), e7, up_s]
  have l3 : h10 160 68 = m 160 68 := K 160 68 (by omega) (by omega)
  refine pc_sv (r_put (by omega)) ?_; intro u5 ⟨o1, o2, o3⟩
  refine pc_sv (r_put (by omega)) ?_; intro u7 ⟨r1, r2, r3⟩
  refine pc_sv (r_put (by omega)) ?_; intro u9 ⟨s1, s2, s3⟩
  rw [l3] at o1 o2 o3
  rw [o1] at r1 r2 r3
  rw [r1] at s1 s2 s3
  rw [show (m 160 68 + 1).toNat = (m 160 68).toNat + 1 by omega] at r2 r3
  rw [show (m 160 68 + 1 + 1).toNat = (m 160 68).toNat + 2 by omega] at s2 s3
  refine pc_ret ⟨⟨b1, b2⟩, by omega, ?_, ?_, ?_, ⟨fun q => ?_, fun q => ?_, fun q => ?_⟩, fun cc x z1 z2 z3 => ?_⟩
  · rw [s3 160 87 (by omega) (by omega), r3 160 87 (by omega) (by omega), o3 160 87 (by omega) (by omega)]; exact k87
  · rw [s3 217 _ (by omega) (by omega), r3 217 _ (by omega) (by omega), o3 217 _ (by omega) (by omega)]; exact k217
  · rw [s3 218 _ (by omega) (by omega), r3 218 _ (by omega) (by omega), o3 218 _ (by omega) (by omega)]; exact k218
  · rw [s3 206 _ (by omega) (by omega), r3 206 _ (by omega) (by omega)]; exact o2 q
  · rw [s3 206 _ (by omega) (by omega)]; exact r2 q
  · exact s2 (by omega)
  · rw [s3 cc x (by omega) (by omega), r3 cc x (by omega) (by omega), o3 cc x (by omega) (by omega), K cc x (by omega) z3]
end
end
section
/- FRAMES of the class -/
def FRc (h : ms_M) : Prop := (0 ≤ h 34 14 ∧ h 34 14 ≤ 100 ∧ ∀ s : Nat, (s : Int) < h 34 14 → 0 ≤ h 40 s) ∧ (∀ i : Nat, (i : Int) < h 34 14 → 0 ≤ h 42 i ∧ h 42 i < h 34 14) ∧ (∀ i j : Nat, i < j → (j : Int) < h 34 14 → h 40 (h 42 i).toNat < h 40 (h 42 j).toNat) ∧ ∀ s : Nat, (s : Int) < h 34 14 → ∃ i : Nat, (i : Int) < h 34 14 ∧ h 42 i = (s : Int)
/-- the row of the FRAME at p -/
def SLc (p : Int) (h : ms_M) (s : Int) (u : ms_M) : Prop := FRc u ∧ ((∃ k : Nat, s = (k : Int) ∧ (k : Int) < h 34 14 ∧ h 40 k = p ∧ u = h) ∨ ((∀ k : Nat, (k : Int) < h 34 14 → ¬ h 40 k = p) ∧ ((h 34 14 < 100 ∧ s = h 34 14 ∧ u 34 14 = h 34 14 + 1 ∧ u 40 (h 34 14).toNat = p ∧ ∀ cc x : Nat, ¬ cc = 42 → ¬ (cc = 34 ∧ x = 14) → ¬ (cc = 40 ∧ x = (h 34 14).toNat) → u cc x = h cc x) ∨ (h 34 14 = 100 ∧ s = -1 ∧ u = h))))
/-- what stands in it -/
def FLc (s l n : Int) (h u : ms_M) : Prop := ((s = -1 ∨ 30 < l ∨ 20 < n) ∧ u 34 15 = 1 ∧ ∀ cc x : Nat, ¬ (cc = 34 ∧ x = 15) → u cc x = h cc x) ∨ ((¬ s = -1 ∧ l ≤ 30 ∧ n ≤ 20) ∧ (u 41 (52 * s.toNat) = l ∧ u 41 (52 * s.toNat + 1) = n ∧ (∀ i : Nat, (i : Int) < l → u 41 (52 * s.toNat + 2 + i) = h 38 i) ∧ ∀ i : Nat, (i : Int) < n → u 41 (52 * s.toNat + 2 + l.toNat + i) = h 36 i) ∧ ∀ cc x : Nat, ¬ (cc = 41 ∧ 52 * s.toNat ≤ x ∧ x < 52 * s.toNat + 52) → u cc x = h cc x)
section
variable {nn : Nat} {h g u : ms_M}
theorem cp_in {M : ms_M} {a sp b dp n k : Nat} (q : dp ≤ k ∧ k < dp + n) : cp_M M a sp b dp n b k = M a (sp + (k - dp)) := by
  unfold cp_M; rw [if_pos ⟨rfl, q.1, q.2⟩]
theorem cp_out {M : ms_M} {a sp b dp n c k : Nat} (q : ¬ (c = b ∧ dp ≤ k ∧ k < dp + n)) : cp_M M a sp b dp n c k = M c k := by
  unfold cp_M; rw [if_neg q]
theorem sl_62 {p : Int} (p0 : 0 ≤ p) (F : FRc h) {i : Nat} (hi : (i : Int) ≤ h 34 14) (A : ∀ j : Nat, j < i → h 40 (h 42 j).toNat < p) (B : ∀ j : Nat, i ≤ j → (j : Int) < h 34 14 → p < h 40 (h 42 j).toNat) : Pc (qj_X1_slotOfFrame_62 nn p (i : Int) h) (fun u => SLc p h u.1 u.2) := by
  obtain ⟨⟨f1, f2⟩, f3, f4, f5⟩ := F
  have NO : ∀ k : Nat, (k : Int) < h 34 14 → ¬ h 40 k = p := fun k hk e => by
    obtain ⟨j, jn, ej⟩ := f5 k hk
    by_cases q : j < i
    · have a := A j q
      rw [ej, Int.toNat_natCast] at a; omega
    · have a := B j (by omega) jn
      rw [ej, Int.toNat_natCast] at a; omega
  unfold qj_X1_slotOfFrame_62
  refine pc_if (fun z => ?_) (fun z => pc_ret ⟨⟨⟨f1, f2⟩, f3, f4, f5⟩, .inr ⟨NO, .inr ⟨by omega, rfl, rfl⟩⟩⟩)
  refine pc_add (by omega) ?_; intro v4 e4
  refine pc_sub (by omega) ?_; intro v6 e6
  refine pc_cpS ?_; intro h7 e7
  rw [Int.toNat_natCast, show v4.toNat = i + 1 by omega, show v6.toNat = (h 34 14).toNat - i by omega] at e7
  have k7 : ∀ cc x : Nat, ¬ cc = 42 → h7 cc x = h cc x := fun cc x q => by rw [e7]; exact cp_ne q
  refine pc_wA ?_; intro _ _ h10 e10
  rw [k7 34 14 (by omega), Int.toNat_natCast] at e10
  have k10 : ∀ cc x : Nat, ¬ cc = 42 → h10 cc x = h cc x := fun cc x q => by rw [e10, up_n (by omega)]; exact k7 cc x q
  refine pc_wA ?_; intro _ _ h13 e13
  rw [k10 34 14 (by omega)] at e13
  have a13 : h13 34 14 = h 34 14 := by rw [e13, up_n (by omega)]; exact k10 34 14 (by omega)
  refine pc_add (by omega) ?_; intro v15 e15
  refine pc_xl ?_; intro h16 e16
  refine pc_rA ?_; intro _ _ v18 e18
  rw [Int.toNat_natCast] at e18
  have n16 : h16 34 14 = h 34 14 + 1 := by rw [e16, up_s]; omega
  have o16 : ∀ x : Nat, h16 42 x = h10 42 x := fun x => by rw [e16, up_n (by omega), e13, up_n (by omega)]
  have oi : h16 42 i = h 34 14 := by rw [o16, e10, up_s]
  have ol : ∀ j : Nat, j < i → h16 42 j = h 42 j := fun j hj => by rw [o16, e10, up_n (by omega), e7, cp_out (by omega)]
  have og : ∀ j : Nat, i < j → (j : Int) < h 34 14 + 1 → h16 42 j = h 42 (j - 1) := fun j hj hj2 => by
    rw [o16, e10, up_n (by omega), e7, cp_in (by omega), show i + (j - (i + 1)) = j - 1 by omega]
  have pn : h16 40 (h 34 14).toNat = p := by rw [e16, up_n (by omega), e13, up_s]
  have pl : ∀ x : Nat, ¬ x = (h 34 14).toNat → h16 40 x = h 40 x := fun x hx => by rw [e16, up_n (by omega), e13, up_n (by omega)]; exact k10 40 x (by omega)
  have W : ∀ j : Nat, (j : Int) < h 34 14 → h16 40 (h 42 j).toNat = h 40 (h 42 j).toNat := fun j hj => pl _ (by have := f3 j hj; omega)
  refine pc_ret ?_
  show SLc p h v18 h16
  refine ⟨⟨⟨by omega, by omega, fun s hs => by
    rw [n16] at hs
    by_cases q : s = (h 34 14).toNat
    · rw [q, pn]; exact p0
    · rw [pl s q]; exact f2.2 s (by omega)⟩, fun j hj => ?_, fun a b ab hb => ?_, fun s hs => ?_⟩, .inr ⟨NO, .inl ⟨z, ?_, n16, pn, fun cc x q1 q2 q3 => ?_⟩⟩⟩
  · rw [n16] at hj ⊢
    by_cases q : j < i
    · rw [ol j q]; have := f3 j (by omega); omega
    · by_cases q2 : j = i
      · rw [q2, oi]; omega
      · rw [og j (by omega) hj]; have := f3 (j - 1) (by omega); omega
  · rw [n16] at hb
    by_cases qb : b < i
    · rw [ol a (by omega), ol b qb, W a (by omega), W b (by omega)]
      exact f4 a b ab (by omega)
    · by_cases qb2 : b = i
      · rw [qb2, oi, pn, ol a (by omega), W a (by omega)]
        exact A a (by omega)
      · rw [og b (by omega) hb, W (b - 1) (by omega)]
        by_cases qa : a < i
        · rw [ol a qa, W a (by omega)]
          exact f4 a (b - 1) (by omega) (by omega)
        · by_cases qa2 : a = i
          · rw [qa2, oi, pn]
            exact B (b - 1) (by omega) (by omega)
          · rw [og a (by omega) (by omega), W (a - 1) (by omega)]
            exact f4 (a - 1) (b - 1) (by omega) (by omega)
  · rw [n16] at hs ⊢
    by_cases q : (s : Int) = h 34 14
    · exact ⟨i, by omega, by rw [oi]; omega⟩
    · obtain ⟨j, jn, ej⟩ := f5 s (by omega)
      by_cases q2 : j < i
      · exact ⟨j, by omega, by rw [ol j q2]; exact ej⟩
      · exact ⟨j + 1, by omega, by rw [og (j + 1) (by omega) (by omega)]; exact ej⟩
  · show v18 = h 34 14
    rw [e18]; exact oi
  · show h16 cc x = h cc x
    rw [e16, up_n q2, e13, up_n q3]; exact k10 cc x q1
theorem sl_32 {p : Int} (p0 : 0 ≤ p) (F : FRc h) {i : Nat} (hi : (i : Int) ≤ h 34 14) (A : 0 < i → h 40 (h 42 (i - 1)).toNat ≤ p) (B : ∀ j : Nat, i ≤ j → (j : Int) < h 34 14 → p < h 40 (h 42 j).toNat) : Pc (qj_X1_slotOfFrame_32 nn p (i : Int) h) (fun u => SLc p h u.1 u.2) := by
  have F2 := F
  obtain ⟨⟨f1, f2⟩, f3, f4, f5⟩ := F2
  have G : (0 < i → ¬ h 40 (h 42 (i - 1)).toNat = p) → Pc (qj_X1_slotOfFrame_62 nn p (i : Int) h) (fun u => SLc p h u.1 u.2) := fun N => by
    refine sl_62 p0 F hi (fun j hj => ?_) B
    have a := A (by omega)
    have b := N (by omega)
    by_cases q : j = i - 1
    · rw [q]; omega
    · have d := f4 j (i - 1) (by omega) (by omega)
      omega
  unfold qj_X1_slotOfFrame_32
  refine pc_if (fun z => G (fun q => absurd q (by omega))) (fun z => ?_)
  refine pc_sub (by omega) ?_; intro v22 e22
  refine pc_rA ?_; intro _ _ v23 e23
  refine pc_rA ?_; intro _ _ v24 e24
  rw [show v22.toNat = i - 1 by omega] at e23
  rw [e23] at e24
  refine pc_if (fun q => G (fun _ e => q (by rw [e24]; exact e))) (fun q => ?_)
  refine pc_sub (by omega) ?_; intro v26 e26
  refine pc_rA ?_; intro _ _ v27 e27
  rw [show v26.toNat = i - 1 by omega] at e27
  have b := f3 (i - 1) (by omega)
  refine pc_ret ?_
  show SLc p h v27 h
  refine ⟨F, .inl ⟨(h 42 (i - 1)).toNat, ?_, by omega, ?_, rfl⟩⟩
  · show v27 = _
    rw [e27]; omega
  · rw [← e24]; exact Classical.byContradiction q
theorem sl_5 {p : Int} (p0 : 0 ≤ p) (F : FRc h) : ∀ (f i : Nat), (i : Int) ≤ h 34 14 → (∀ j : Nat, i ≤ j → (j : Int) < h 34 14 → p < h 40 (h 42 j).toNat) → Pc (qw_X1_slotOfFrame_5 nn f p (i : Int) h) (fun u => SLc p h u.1 u.2) := by
  intro f
  have f1 := F.1
  induction f with
  | zero => intros; exact pc_none
  | succ f ih =>
    intro i hi B
    unfold qw_X1_slotOfFrame_5
    refine pc_if (fun z => sl_32 p0 F hi (fun q => absurd q (by omega)) B) (fun z => ?_)
    refine pc_sub (by omega) ?_; intro v32 e32
    refine pc_rA ?_; intro _ _ v33 e33
    refine pc_rA ?_; intro _ _ v34 e34
    rw [show v32.toNat = i - 1 by omega] at e33
    rw [e33] at e34
    refine pc_if (fun q => sl_32 p0 F hi (fun _ => by omega) B) (fun q => ?_)
    refine pc_add (by omega) ?_; intro v35 e35
    rw [show v35 = ((i - 1 : Nat) : Int) by omega]
    refine ih (i - 1) (by omega) (fun j j1 j2 => ?_)
    by_cases e : j = i - 1
    · rw [e]; omega
    · exact B j (by omega) j2
theorem c_slot {p : Int} (p0 : 0 ≤ p) (F : FRc h) : Pc (qf_X1_slotOfFrame nn p h) (fun u => SLc p h u.1 u.2) := by
  unfold qf_X1_slotOfFrame
  have f1 := F.1
  rw [show h 34 14 = (((h 34 14).toNat : Nat) : Int) by omega]
  exact sl_5 p0 F nn _ (by omega) (fun j j1 j2 => absurd j2 (by omega))
theorem c_fill {s l n : Int} (hs : -1 ≤ s ∧ s < 100) (hl : 0 ≤ l) (hn : 0 ≤ n) : Pc (qf_X1_fillFrame nn s l n h) (fun u => FLc s l n h u) := by
  have E : (s = -1 ∨ 30 < l ∨ 20 < n) → Pc (qj_X1_fillFrame_23 nn h) (fun u => FLc s l n h u) := fun q => by
    unfold qj_X1_fillFrame_23
    refine pc_xl ?_; intro h1 e1
    exact pc_ret (.inl ⟨q, by rw [e1, up_s], fun cc x z => by rw [e1, up_n z]⟩)
  unfold qf_X1_fillFrame
  refine pc_xl ?_; intro v2 e2
  rw [oq_mul_eq (by omega) (by omega) (by omega)] at e2
  refine pc_if (fun z => E (by omega)) (fun z => ?_)
  refine pc_if (fun z2 => E (by omega)) (fun z2 => ?_)
  refine pc_if (fun z3 => ?_) (fun z3 => E (by omega))
  refine pc_wA ?_; intro _ _ h4 e4
  refine pc_add (by omega) ?_; intro v6 e6
  refine pc_wA ?_; intro _ _ h7 e7
  refine pc_add (by omega) ?_; intro v10 e10
  refine pc_cpS ?_; intro h11 e11
  refine pc_add (by omega) ?_; intro v14 e14
  refine pc_add (by omega) ?_; intro v15 e15
  refine pc_cpS ?_; intro h16 e16
  rw [show v2.toNat = 52 * s.toNat by omega] at e4
  rw [show v6.toNat = 52 * s.toNat + 1 by omega] at e7
  rw [show (0 : Int).toNat = 0 from rfl, show v10.toNat = 52 * s.toNat + 2 by omega] at e11
  rw [show (0 : Int).toNat = 0 from rfl, show v15.toNat = 52 * s.toNat + 2 + l.toNat by omega] at e16
  refine pc_ret (.inr ⟨⟨z, by omega, z3⟩, ⟨?_, ?_, fun i hi => ?_, fun i hi => ?_⟩, fun cc x q => ?_⟩)
  · rw [e16, cp_out (by omega), e11, cp_out (by omega), e7, up_n (by omega), e4, up_s]
  · rw [e16, cp_out (by omega), e11, cp_out (by omega), e7, up_s]
  · rw [e16, cp_out (by omega), e11, cp_in (by omega), e7, up_n (by omega), e4, up_n (by omega), show 0 + (52 * s.toNat + 2 + i - (52 * s.toNat + 2)) = i by omega]
  · rw [e16, cp_in (by omega), e11, cp_out (by omega), e7, up_n (by omega), e4, up_n (by omega), show 0 + (52 * s.toNat + 2 + l.toNat + i - (52 * s.toNat + 2 + l.toNat)) = i by omega]
  · rw [e16, cp_out (by omega), e11, cp_out (by omega), e7, up_n (by omega), e4, up_n (by omega)]
end
end
section
/- FRAMES of the reference -/
def FRr (m : ms_M) : Prop := 0 ≤ m 160 78 ∧ ∀ i j : Nat, (i : Int) < m 160 78 → (j : Int) < m 160 78 → m 208 i = m 208 j → i = j
/-- a FRAME at p: f its row, F: whether this is there -/
def RFw (F : Nat) (p : Int) (f : Nat) (m w : ms_M) : Prop := (((f : Int) < m 160 78 ∧ m 208 f = p ∧ w 160 78 = m 160 78) ∨ ((∀ k : Nat, (k : Int) < m 160 78 → ¬ m 208 k = p) ∧ (f : Int) = m 160 78 ∧ w 160 78 = m 160 78 + 1)) ∧ (w 208 f = p ∧ w 209 f = m 160 79 ∧ w 210 f = m 160 50 + (F : Int) ∧ w 211 f = m 160 70) ∧ ((m 160 79 + m 160 50 + 1 + m 160 70 ≤ 60000 ∧ w 160 79 = m 160 79 + (F : Int) + m 160 50 + m 160 70 ∧ (F = 1 → w 212 (m 160 79).toNat = 8 + 2 * m 160 52) ∧ (∀ s : Nat, (s : Int) < m 160 50 → w 212 ((m 160 79).toNat + F + s) = m 197 s) ∧ ∀ k : Nat, (k : Int) < m 160 70 → w 212 ((m 160 79).toNat + F + (m 160 50).toNat + k) = m 207 k) ∨ (60000 < m 160 79 + m 160 50 + 1 + m 160 70 ∧ w 160 79 = m 160 79)) ∧ (∀ x : Nat, (x : Int) < m 160 79 → w 212 x = m 212 x) ∧ ∀ cc x : Nat, ¬ (cc = 160 ∧ (x = 78 ∨ x = 79)) → ¬ ((cc = 208 ∨ cc = 209 ∨ cc = 210 ∨ cc = 211) ∧ x = f) → ¬ cc = 212 → w cc x = m cc x
section
variable {nn : Nat} {h g u r m w Z : ms_M}
theorem fr_192 {l3 fw sg pl : Nat} (b1 : Z 160 70 = (pl : Int)) (b2 : Z 160 50 = (sg : Int)) (b3 : Z 160 79 = (fw : Int)) (bz : fw + l3 + sg + pl ≤ 60001) : ∀ (f k : Nat) (g : ms_M), k ≤ pl → (∀ cc x : Nat, ¬ cc = 212 → g cc x = Z cc x) → (∀ j : Nat, j < k → g 212 (fw + l3 + sg + j) = Z 207 j) → (∀ x : Nat, x < fw + l3 + sg → g 212 x = Z 212 x) → Pc (qw_X13_frame_192 nn f (l3 : Int) (k : Int) g) (fun u => u 160 79 = (fw : Int) + l3 + sg + pl ∧ (∀ cc x : Nat, ¬ cc = 212 → ¬ (cc = 160 ∧ x = 79) → u cc x = Z cc x) ∧ (∀ j : Nat, j < pl → u 212 (fw + l3 + sg + j) = Z 207 j) ∧ ∀ x : Nat, x < fw + l3 + sg → u 212 x = Z 212 x) := by
  intro f
  induction f with
  | zero => intros; exact pc_none
  | succ f ih =>
    intro k g hk G A B
    unfold qw_X13_frame_192
    have g1 : g 160 70 = (pl : Int) := (G 160 70 (by omega)).trans b1
    have g2 : g 160 50 = (sg : Int) := (G 160 50 (by omega)).trans b2
    have g3 : g 160 79 = (fw : Int) := (G 160 79 (by omega)).trans b3
    refine pc_if (fun z => ?_) (fun z => ?_)
    · refine pc_add (by omega) ?_; intro v4 e4
      refine pc_add (by omega) ?_; intro v6 e6
      refine pc_add (by omega) ?_; intro v7 e7
      refine pc_xl ?_; intro h8 e8
      refine pc_ret ⟨by rw [e8, up_s]; omega, fun cc x z1 z2 => by rw [e8, up_n z2]; exact G cc x z1, fun j hj => by rw [e8, up_n (by omega)]; exact A j (by omega), fun x hx => by rw [e8, up_n (by omega)]; exact B x hx⟩
    · refine pc_add (by omega) ?_; intro v11 e11
      refine pc_add (by omega) ?_; intro v13 e13
      refine pc_add (by omega) ?_; intro v14 e14
      refine pc_rA ?_; intro _ _ v16 e16
      rw [Int.toNat_natCast] at e16
      refine pc_wA ?_; intro _ _ h17 e17
      rw [show v14.toNat = fw + l3 + sg + k by omega] at e17
      refine pc_add (by omega) ?_; intro v18 e18
      rw [show v18 = ((k + 1 : Nat) : Int) by omega]
      refine ih (k + 1) h17 (by omega) (fun cc x z1 => by rw [e17, up_n (by omega)]; exact G cc x z1) (fun j hj => ?_) (fun x hx => by rw [e17, up_n (by omega)]; exact B x hx)
      by_cases jk : j = k
      · rw [jk, e17, up_s, e16]; exact G 207 k (by omega)
      · rw [e17, up_n (by omega)]; exact A j (by omega)
theorem fr_153 {l3 fw sg pl : Nat} (b1 : Z 160 70 = (pl : Int)) (b2 : Z 160 50 = (sg : Int)) (b3 : Z 160 79 = (fw : Int)) (bz : fw + l3 + sg + pl ≤ 60001) : ∀ (f k : Nat) (g : ms_M), k ≤ sg → (∀ cc x : Nat, ¬ cc = 212 → g cc x = Z cc x) → (∀ j : Nat, j < k → g 212 (fw + l3 + j) = Z 197 j) → (∀ x : Nat, x < fw + l3 → g 212 x = Z 212 x) → Pc (qw_X13_frame_153 nn f (l3 : Int) (k : Int) g) (fun u => u 160 79 = (fw : Int) + l3 + sg + pl ∧ (∀ cc x : Nat, ¬ cc = 212 → ¬ (cc = 160 ∧ x = 79) → u cc x = Z cc x) ∧ (∀ j : Nat, j < pl → u 212 (fw + l3 + sg + j) = Z 207 j) ∧ (∀ j : Nat, j < sg → u 212 (fw + l3 + j) = Z 197 j) ∧ ∀ x : Nat, x < fw + l3 → u 212 x = Z 212 x) := by
  intro f
  induction f with
  | zero => intros; exact pc_none
  | succ f ih =>
    intro k g hk G A B
    unfold qw_X13_frame_153
    have g2 : g 160 50 = (sg : Int) := (G 160 50 (by omega)).trans b2
    have g3 : g 160 79 = (fw : Int) := (G 160 79 (by omega)).trans b3
    refine pc_if (fun z => ?_) (fun z => ?_)
    · have R := fr_192 (nn := nn) (Z := g) (l3 := l3) (fw := fw) (sg := sg) (pl := pl) ((G 160 70 (by omega)).trans b1) g2 g3 bz nn 0 g (by omega) (fun _ _ _ => rfl) (fun j hj => absurd hj (by omega)) (fun _ _ => rfl)
      refine pc_imp R (fun u q => ⟨q.1, fun cc x z1 z2 => (q.2.1 cc x z1 z2).trans (G cc x z1), fun j hj => (q.2.2.1 j hj).trans (G 207 j (by omega)), fun j hj => (q.2.2.2 _ (by omega)).trans (A j (by omega)), fun x hx => (q.2.2.2 x (by omega)).trans (B x hx)⟩)
    · refine pc_add (by omega) ?_; intro v23 e23
      refine pc_add (by omega) ?_; intro v24 e24
      refine pc_rA ?_; intro _ _ v26 e26
      rw [Int.toNat_natCast] at e26
      refine pc_wA ?_; intro _ _ h27 e27
      rw [show v24.toNat = fw + l3 + k by omega] at e27
      refine pc_add (by omega) ?_; intro v28 e28
      rw [show v28 = ((k + 1 : Nat) : Int) by omega]
      refine ih (k + 1) h27 (by omega) (fun cc x z1 => by rw [e27, up_n (by omega)]; exact G cc x z1) (fun j hj => ?_) (fun x hx => by rw [e27, up_n (by omega)]; exact B x hx)
      by_cases jk : j = k
      · rw [jk, e27, up_s, e26]; exact G 197 k (by omega)
      · rw [e27, up_n (by omega)]; exact A j (by omega)
theorem fr_80 {F fi : Nat} {p : Int} (hF : (m 160 53 = 0 ∧ F = 1) ∨ (¬ m 160 53 = 0 ∧ F = 0)) (b70 : 0 ≤ m 160 70 ∧ m 160 70 ≤ 3000) (b50 : 0 ≤ m 160 50 ∧ m 160 50 ≤ 3000) (b79 : 0 ≤ m 160 79 ∧ m 160 79 ≤ 60000) (b52 : 0 ≤ m 160 52 ∧ m 160 52 ≤ 1000) (AL : ((fi : Int) < m 160 78 ∧ m 208 fi = p ∧ g 160 78 = m 160 78) ∨ ((∀ k : Nat, (k : Int) < m 160 78 → ¬ m 208 k = p) ∧ (fi : Int) = m 160 78 ∧ g 160 78 = m 160 78 + 1)) (G : ∀ cc x : Nat, ¬ (cc = 160 ∧ x = 78) → ¬ ((cc = 208 ∨ cc = 209) ∧ x = fi) → g cc x = m cc x) (g8 : g 208 fi = p) (g9 : g 209 fi = m 160 79) : Pc (qj_X13_frame_80 nn (fi : Int) (F : Int) g) (fun w => RFw F p fi m w) := by
  unfold qj_X13_frame_80
  have g50 := G 160 50 (by omega) (by omega)
  refine pc_add (by omega) ?_; intro v32 e32
  refine pc_wA ?_; intro _ _ h33 e33
  rw [Int.toNat_natCast] at e33
  have g70 : h33 160 70 = m 160 70 := by rw [e33, up_n (by omega)]; exact G 160 70 (by omega) (by omega)
  refine pc_wA ?_; intro _ _ h36 e36
  rw [Int.toNat_natCast, g70] at e36
  have K : ∀ cc x : Nat, ¬ (cc = 160 ∧ x = 78) → ¬ ((cc = 208 ∨ cc = 209 ∨ cc = 210 ∨ cc = 211) ∧ x = fi) → h36 cc x = m cc x := fun cc x z1 z2 => by rw [e36, up_n (by omega), e33, up_n (by omega)]; exact G cc x z1 (by omega)
  have k78 : h36 160 78 = g 160 78 := by rw [e36, up_n (by omega), e33, up_n (by omega)]
  have k8 : h36 208 fi = p := by rw [e36, up_n (by omega), e33, up_n (by omega)]; exact g8
  have k9 : h36 209 fi = m 160 79 := by rw [e36, up_n (by omega), e33, up_n (by omega)]; exact g9
  have k10 : h36 210 fi = m 160 50 + (F : Int) := by rw [e36, up_n (by omega), e33, up_s, e32, g50]
  have k11 : h36 211 fi = m 160 70 := by rw [e36, up_s]
  have k79 := K 160 79 (by omega) (by omega)
  have k50 := K 160 50 (by omega) (by omega)
  have k70 := K 160 70 (by omega) (by omega)
  have k53 := K 160 53 (by omega) (by omega)
  have k52 := K 160 52 (by omega) (by omega)
  refine pc_add (by omega) ?_; intro v39 e39
  refine pc_add (by omega) ?_; intro v40 e40
  refine pc_add (by omega) ?_; intro v42 e42
  refine pc_if (fun z => ?_) (fun z => ?_)
  · have END : ∀ g2 : ms_M, (∀ cc x : Nat, ¬ cc = 212 → g2 cc x = h36 cc x) → (F = 1 → g2 212 (m 160 79).toNat = 8 + 2 * m 160 52) → (∀ x : Nat, (x : Int) < m 160 79 → g2 212 x = m 212 x) → Pc (qw_X13_frame_153 nn nn (F : Int) 0 g2) (fun w => RFw F p fi m w) := fun g2 H2 H1 H3 => by
      have R := fr_153 (nn := nn) (Z := g2) (l3 := F) (fw := (m 160 79).toNat) (sg := (m 160 50).toNat) (pl := (m 160 70).toNat) (by rw [H2 160 70 (by omega)]; omega) (by rw [H2 160 50 (by omega)]; omega) (by rw [H2 160 79 (by omega)]; omega) (by omega) nn 0 g2 (by omega) (fun _ _ _ => rfl) (fun j hj => absurd hj (by omega)) (fun _ _ => rfl)
      refine pc_imp R (fun w q => ?_)
      obtain ⟨q1, q2, q3, q4, q5⟩ := q
      have Q : ∀ cc x : Nat, ¬ cc = 212 → ¬ (cc = 160 ∧ x = 79) → w cc x = h36 cc x := fun cc x z1 z2 => (q2 cc x z1 z2).trans (H2 cc x z1)
      refine ⟨?_, ⟨(Q 208 fi (by omega) (by omega)).trans k8, (Q 209 fi (by omega) (by omega)).trans k9, (Q 210 fi (by omega) (by omega)).trans k10, (Q 211 fi (by omega) (by omega)).trans k11⟩, .inl ⟨by omega, by omega, fun f1 => (q5 _ (by omega)).trans (H1 f1), fun s hs => ?_, fun k hk => ?_⟩, fun x hx => (q5 x (by omega)).trans (H3 x hx), fun cc x z1 z2 z3 => ?_⟩
      · rw [Q 160 78 (by omega) (by omega), k78]; exact AL
      · rw [q4 s (by omega), H2 197 s (by omega)]; exact K 197 s (by omega) (by omega)
      · rw [q3 k (by omega), H2 207 k (by omega)]; exact K 207 k (by omega) (by omega)
      · rw [Q cc x z3 (by omega)]; exact K cc x (by omega) z2
    refine pc_if (fun y => ?_) (fun y => ?_)
    · exact END h36 (fun _ _ _ => rfl) (fun f1 => absurd f1 (by omega)) (fun x _ => K 212 x (by omega) (by omega))
    · refine pc_xl ?_; intro v47 e47
      rw [oq_mul_eq (by omega) (by omega) (by omega)] at e47
      refine pc_add (by omega) ?_; intro v48 e48
      refine pc_wA ?_; intro _ _ h49 e49
      rw [k79] at e49
      refine END h49 (fun cc x z => by rw [e49, up_n (by omega)]) (fun _ => by rw [e49, up_s]; omega) (fun x hx => by rw [e49, up_n (by omega)]; exact K 212 x (by omega) (by omega))
  · refine pc_ret ⟨by rw [k78]; exact AL, ⟨k8, k9, k10, k11⟩, .inr ⟨by omega, k79⟩, fun x _ => K 212 x (by omega) (by omega), fun cc x z1 z2 _ => K cc x (by omega) z2⟩
theorem fr_7 {F : Nat} {p : Int} (R : FRr m) (hF : (m 160 53 = 0 ∧ F = 1) ∨ (¬ m 160 53 = 0 ∧ F = 0)) (b70 : 0 ≤ m 160 70 ∧ m 160 70 ≤ 3000) (b50 : 0 ≤ m 160 50 ∧ m 160 50 ≤ 3000) (b79 : 0 ≤ m 160 79 ∧ m 160 79 ≤ 60000) (b52 : 0 ≤ m 160 52 ∧ m 160 52 ≤ 1000) (b78 : m 160 78 ≤ 1000000) : ∀ (f k fi : Nat), (k : Int) ≤ m 160 78 → (((fi : Int) < m 160 78 ∧ m 208 fi = p) ∨ ((fi : Int) = m 160 78 ∧ ∀ j : Nat, j < k → ¬ m 208 j = p)) → Pc (qw_X13_frame_7 nn f p (fi : Int) (k : Int) m) (fun w => ∃ fi : Nat, RFw F p fi m w) := by
  intro f
  have r1 := R.1
  induction f with
  | zero => intros; exact pc_none
  | succ f ih =>
    intro k fi hk A
    unfold qw_X13_frame_7
    have G51 : ∀ g : ms_M, (((fi : Int) < m 160 78 ∧ m 208 fi = p ∧ g 160 78 = m 160 78) ∨ ((∀ k : Nat, (k : Int) < m 160 78 → ¬ m 208 k = p) ∧ (fi : Int) = m 160 78 ∧ g 160 78 = m 160 78 + 1)) → (∀ cc x : Nat, ¬ (cc = 160 ∧ x = 78) → g cc x = m cc x) → Pc (qj_X13_frame_51 nn p (fi : Int) g) (fun w => ∃ fi : Nat, RFw F p fi m w) := fun g AL G => by
      unfold qj_X13_frame_51
      refine pc_wA ?_; intro _ _ h53 e53
      rw [Int.toNat_natCast] at e53
      have k79 : h53 160 79 = m 160 79 := by rw [e53, up_n (by omega)]; exact G 160 79 (by omega)
      refine pc_wA ?_; intro _ _ h56 e56
      rw [Int.toNat_natCast, k79] at e56
      have K : ∀ cc x : Nat, ¬ (cc = 160 ∧ x = 78) → ¬ ((cc = 208 ∨ cc = 209) ∧ x = fi) → h56 cc x = m cc x := fun cc x z1 z2 => by rw [e56, up_n (by omega), e53, up_n (by omega)]; exact G cc x z1
      have k78 : h56 160 78 = g 160 78 := by rw [e56, up_n (by omega), e53, up_n (by omega)]
      have k53 := K 160 53 (by omega) (by omega)
      have E : Pc (qj_X13_frame_80 nn (fi : Int) (F : Int) h56) (fun w => RFw F p fi m w) := fr_80 hF b70 b50 b79 b52 (by rw [k78]; exact AL) K (by rw [e56, up_n (by omega), e53, up_s]) (by rw [e56, up_s])
      refine pc_if (fun z => ?_) (fun z => ?_)
      · have f1 : F = 1 := by omega
        rw [f1] at E ⊢
        exact pc_imp E (fun w q => ⟨fi, q⟩)
      · have f1 : F = 0 := by omega
        rw [f1] at E ⊢
        exact pc_imp E (fun w q => ⟨fi, q⟩)
    refine pc_if (fun z => ?_) (fun z => ?_)
    · refine pc_if (fun y => ?_) (fun y => ?_)
      · rcases A with ⟨a1, a2⟩ | ⟨a1, a2⟩
        · exact G51 m (.inl ⟨a1, a2, rfl⟩) (fun _ _ _ => rfl)
        · exact absurd a1 y
      · rcases A with ⟨a1, a2⟩ | ⟨a1, a2⟩
        · exact absurd a1 (by omega)
        · refine pc_add (by omega) ?_; intro v62 e62
          refine pc_xl ?_; intro h63 e63
          exact G51 h63 (.inr ⟨fun j hj => a2 j (by omega), a1, by rw [e63, up_s]; exact e62⟩) (fun cc x q => by rw [e63, up_n q])
    · refine pc_rA ?_; intro _ _ v66 e66
      rw [Int.toNat_natCast] at e66
      refine pc_if (fun y => ?_) (fun y => ?_)
      · refine pc_add (by omega) ?_; intro v67 e67
        rw [show v67 = ((k + 1 : Nat) : Int) by omega]
        refine ih (k + 1) fi (by omega) ?_
        rcases A with a | ⟨a1, a2⟩
        · exact .inl a
        · refine .inr ⟨a1, fun j hj => ?_⟩
          by_cases jk : j = k
          · rw [jk, ← e66]; exact y
          · exact a2 j (by omega)
      · refine pc_add (by omega) ?_; intro v68 e68
        rw [show v68 = ((k + 1 : Nat) : Int) by omega]
        refine ih (k + 1) k (by omega) (.inl ⟨by omega, ?_⟩)
        rw [← e66]; exact Classical.byContradiction y
theorem r_frame {F : Nat} {p : Int} (R : FRr m) (hF : (m 160 53 = 0 ∧ F = 1) ∨ (¬ m 160 53 = 0 ∧ F = 0)) (b70 : 0 ≤ m 160 70 ∧ m 160 70 ≤ 3000) (b50 : 0 ≤ m 160 50 ∧ m 160 50 ≤ 3000) (b79 : 0 ≤ m 160 79 ∧ m 160 79 ≤ 60000) (b52 : 0 ≤ m 160 52 ∧ m 160 52 ≤ 1000) (b78 : m 160 78 ≤ 1000000) : Pc (qf_X13_frame nn p m) (fun w => FRr w ∧ ∃ fi : Nat, RFw F p fi m w) := by
  unfold qf_X13_frame
  have r1 := R.1
  have X := fr_7 (nn := nn) (p := p) R hF b70 b50 b79 b52 b78 nn 0 (m 160 78).toNat (by omega) (.inr ⟨by omega, fun j hj => absurd hj (by omega)⟩)
  rw [show (((m 160 78).toNat : Nat) : Int) = m 160 78 by omega] at X
  refine pc_imp X (fun w q => ⟨?_, q⟩)
  obtain ⟨fi, AL, ⟨w8, -⟩, -, -, W⟩ := q
  refine ⟨by omega, fun i j hi hj e => ?_⟩
  by_cases qi : i = fi
  · by_cases qj : j = fi
    · omega
    · exfalso
      rw [qi, w8, W 208 j (by omega) (by omega) (by omega)] at e
      rcases AL with ⟨a1, a2, a3⟩ | ⟨a1, a2, a3⟩
      · exact qj (R.2 j fi (by omega) a1 (e.symm.trans a2.symm))
      · exact a1 j (by omega) e.symm
  · by_cases qj : j = fi
    · exfalso
      rw [qj, w8, W 208 i (by omega) (by omega) (by omega)] at e
      rcases AL with ⟨a1, a2, a3⟩ | ⟨a1, a2, a3⟩
      · exact qi (R.2 i fi (by omega) a1 (e.trans a2.symm))
      · exact a1 i (by omega) e
    · rw [W 208 i (by omega) (by omega) (by omega), W 208 j (by omega) (by omega) (by omega)] at e
      exact R.2 i j (by omega) (by omega) e
end
end

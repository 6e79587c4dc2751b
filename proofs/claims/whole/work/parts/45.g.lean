/- FRAMES of the class -/
def FRc (h : ms_M) : Prop := (0 ≤ h 34 14 ∧ h 34 14 ≤ 100 ∧ ∀ s : Nat, (s : Int) < h 34 14 → 0 ≤ h 40 s) ∧ (∀ i : Nat, (i : Int) < h 34 14 → 0 ≤ h 42 i ∧ h 42 i < h 34 14) ∧ (∀ i j : Nat, i < j → (j : Int) < h 34 14 → h 40 (h 42 i).toNat < h 40 (h 42 j).toNat) ∧ ∀ s : Nat, (s : Int) < h 34 14 → ∃ i : Nat, (i : Int) < h 34 14 ∧ h 42 i = (s : Int)
/-- the row of the FRAME at p -/
def SLc (p : Int) (h : ms_M) (s : Int) (u : ms_M) : Prop := FRc u ∧ ((∃ k : Nat, s = (k : Int) ∧ (k : Int) < h 34 14 ∧ h 40 k = p ∧ u = h) ∨ ((∀ k : Nat, (k : Int) < h 34 14 → ¬ h 40 k = p) ∧ ((h 34 14 < 100 ∧ s = h 34 14 ∧ u 34 14 = h 34 14 + 1 ∧ u 40 (h 34 14).toNat = p ∧ ∀ cc x : Nat, ¬ cc = 42 → ¬ (cc = 34 ∧ x = 14) → ¬ (cc = 40 ∧ x = (h 34 14).toNat) → u cc x = h cc x) ∨ (h 34 14 = 100 ∧ s = -1 ∧ u = h))))
/-- what stands in it -/
def FLc (s l n : Int) (h u : ms_M) : Prop := ((s = -1 ∨ 30 < l ∨ 20 < n) ∧ u 34 15 = 1 ∧ ∀ cc x : Nat, ¬ (cc = 34 ∧ x = 15) → u cc x = h cc x) ∨ ((¬ s = -1 ∧ l ≤ 30 ∧ n ≤ 20) ∧ (u 41 (52 * s.toNat) = l ∧ u 41 (52 * s.toNat + 1) = n ∧ (∀ i : Nat, (i : Int) < l → u 41 (52 * s.toNat + 2 + i) = h 38 i) ∧ ∀ i : Nat, (i : Int) < n → u 41 (52 * s.toNat + 2 + l.toNat + i) = h 36 i) ∧ ∀ cc x : Nat, ¬ (cc = 41 ∧ 52 * s.toNat ≤ x ∧ x < 52 * s.toNat + 52) → u cc x = h cc x)
section
variable {nn : Nat} {h g u : ms_M}
theorem cp_in {M : ms_M} {a sp b dp n k : Nat} (q : dp ≤ k ∧ k < dp + n) : cp_M M a sp b dp n b k = M a (sp + (k - dp)) := by
  unfold cp_M; rw [if_pos ⟨rfl, q.1, q.2⟩]
theorem cp_out {M : ms_M} {a sp b dp n c k : Nat} (q : ¬ (c = b ∧ dp ≤ k ∧ k < dp + n)) : cp_M M a sp b dp n c k = M c k := by
  unfold cp_M; rw [if_neg q]
theorem sl_62 {p : Int} (p0 : 0 ≤ p) (F : FRc h) {i : Nat} (hi : (i : Int) ≤ h 34 14) (A : ∀ j : Nat, j < i → h 40 (h 42 j).toNat < p) (B : ∀ j : Nat, i ≤ j → (j : Int) < h 34 14 → p < h 40 (h 42 j).toNat) : Pc (qj_X1_slotOfFrame_62 nn p (i : Int) h) (fun u => SLc p h u.1 u.2) := by
  obtain ⟨⟨f1, f2⟩, f3, f4, f5⟩ := F
  have NO : ∀ k : Nat, (k : Int) < h 34 14 → ¬ h 40 k = p := fun k hk e => by
    obtain ⟨j, jn, ej⟩ := f5 k hk
    by_cases q : j < i
    · have a := A j q
      rw [ej, Int.toNat_natCast] at a; omega
    · have a := B j (by omega) jn
      rw [ej, Int.toNat_natCast] at a; omega
  unfold qj_X1_slotOfFrame_62
  refine pc_if (fun z => ?_) (fun z => pc_ret ⟨⟨⟨f1, f2⟩, f3, f4, f5⟩, .inr ⟨NO, .inr ⟨by omega, rfl, rfl⟩⟩⟩)
  refine pc_add (by omega) ?_; intro v4 e4
  refine pc_sub (by omega) ?_; intro v6 e6
  refine pc_cpS ?_; intro h7 e7
  rw [Int.toNat_natCast, show v4.toNat = i + 1 by omega, show v6.toNat = (h 34 14).toNat - i by omega] at e7
  have k7 : ∀ cc x : Nat, ¬ cc = 42 → h7 cc x = h cc x := fun cc x q => by rw [e7]; exact cp_ne q
  refine pc_wA ?_; intro _ _ h10 e10
  rw [k7 34 14 (by omega), Int.toNat_natCast] at e10
  have k10 : ∀ cc x : Nat, ¬ cc = 42 → h10 cc x = h cc x := fun cc x q => by rw [e10, up_n (by omega)]; exact k7 cc x q
  refine pc_wA ?_; intro _ _ h13 e13
  rw [k10 34 14 (by omega)] at e13
  have a13 : h13 34 14 = h 34 14 := by rw [e13, up_n (by omega)]; exact k10 34 14 (by omega)
  refine pc_add (by omega) ?_; intro v15 e15
  refine pc_xl ?_; intro h16 e16
  refine pc_rA ?_; intro _ _ v18 e18
  rw [Int.toNat_natCast] at e18
  have n16 : h16 34 14 = h 34 14 + 1 := by rw [e16, up_s]; omega
  have o16 : ∀ x : Nat, h16 42 x = h10 42 x := fun x => by rw [e16, up_n (by omega), e13, up_n (by omega)]
  have oi : h16 42 i = h 34 14 := by rw [o16, e10, up_s]
  have ol : ∀ j : Nat, j < i → h16 42 j = h 42 j := fun j hj => by rw [o16, e10, up_n (by omega), e7, cp_out (by omega)]
  have og : ∀ j : Nat, i < j → (j : Int) < h 34 14 + 1 → h16 42 j = h 42 (j - 1) := fun j hj hj2 => by
    rw [o16, e10, up_n (by omega), e7, cp_in (by omega), show i + (j - (i + 1)) = j - 1 by omega]
  have pn : h16 40 (h 34 14).toNat = p := by rw [e16, up_n (by omega), e13, up_s]
  have pl : ∀ x : Nat, ¬ x = (h 34 14).toNat → h16 40 x = h 40 x := fun x hx => by rw [e16, up_n (by omega), e13, up_n (by omega)]; exact k10 40 x (by omega)
  have W : ∀ j : Nat, (j : Int) < h 34 14 → h16 40 (h 42 j).toNat = h 40 (h 42 j).toNat := fun j hj => pl _ (by have := f3 j hj; omega)
  refine pc_ret ?_
  show SLc p h v18 h16
  refine ⟨⟨⟨by omega, by omega, fun s hs => by
    rw [n16] at hs
    by_cases q : s = (h 34 14).toNat
    · rw [q, pn]; exact p0
    · rw [pl s q]; exact f2.2 s (by omega)⟩, fun j hj => ?_, fun a b ab hb => ?_, fun s hs => ?_⟩, .inr ⟨NO, .inl ⟨z, ?_, n16, pn, fun cc x q1 q2 q3 => ?_⟩⟩⟩
  · rw [n16] at hj ⊢
    by_cases q : j < i
    · rw [ol j q]; have := f3 j (by omega); omega
    · by_cases q2 : j = i
      · rw [q2, oi]; omega
      · rw [og j (by omega) hj]; have := f3 (j - 1) (by omega); omega
  · rw [n16] at hb
    by_cases qb : b < i
    · rw [ol a (by omega), ol b qb, W a (by omega), W b (by omega)]
      exact f4 a b ab (by omega)
    · by_cases qb2 : b = i
      · rw [qb2, oi, pn, ol a (by omega), W a (by omega)]
        exact A a (by omega)
      · rw [og b (by omega) hb, W (b - 1) (by omega)]
        by_cases qa : a < i
        · rw [ol a qa, W a (by omega)]
          exact f4 a (b - 1) (by omega) (by omega)
        · by_cases qa2 : a = i
          · rw [qa2, oi, pn]
            exact B (b - 1) (by omega) (by omega)
          · rw [og a (by omega) (by omega), W (a - 1) (by omega)]
            exact f4 (a - 1) (b - 1) (by omega) (by omega)
  · rw [n16] at hs ⊢
    by_cases q : (s : Int) = h 34 14
    · exact ⟨i, by omega, by rw [oi]; omega⟩
    · obtain ⟨j, jn, ej⟩ := f5 s (by omega)
      by_cases q2 : j < i
      · exact ⟨j, by omega, by rw [ol j q2]; exact ej⟩
      · exact ⟨j + 1, by omega, by rw [og (j + 1) (by omega) (by omega)]; exact ej⟩
  · show v18 = h 34 14
    rw [e18]; exact oi
  · show h16 cc x = h cc x
    rw [e16, up_n q2, e13, up_n q3]; exact k10 cc x q1
theorem sl_32 {p : Int} (p0 : 0 ≤ p) (F : FRc h) {i : Nat} (hi : (i : Int) ≤ h 34 14) (A : 0 < i → h 40 (h 42 (i - 1)).toNat ≤ p) (B : ∀ j : Nat, i ≤ j → (j : Int) < h 34 14 → p < h 40 (h 42 j).toNat) : Pc (qj_X1_slotOfFrame_32 nn p (i : Int) h) (fun u => SLc p h u.1 u.2) := by
  have F2 := F
  obtain ⟨⟨f1, f2⟩, f3, f4, f5⟩ := F2
  have G : (0 < i → ¬ h 40 (h 42 (i - 1)).toNat = p) → Pc (qj_X1_slotOfFrame_62 nn p (i : Int) h) (fun u => SLc p h u.1 u.2) := fun N => by
    refine sl_62 p0 F hi (fun j hj => ?_) B
    have a := A (by omega)
    have b := N (by omega)
    by_cases q : j = i - 1
    · rw [q]; omega
    · have d := f4 j (i - 1) (by omega) (by omega)
      omega
  unfold qj_X1_slotOfFrame_32
  refine pc_if (fun z => G (fun q => absurd q (by omega))) (fun z => ?_)
  refine pc_sub (by omega) ?_; intro v22 e22
  refine pc_rA ?_; intro _ _ v23 e23
  refine pc_rA ?_; intro _ _ v24 e24
  rw [show v22.toNat = i - 1 by omega] at e23
  rw [e23] at e24
  refine pc_if (fun q => G (fun _ e => q (by rw [e24]; exact e))) (fun q => ?_)
  refine pc_sub (by omega) ?_; intro v26 e26
  refine pc_rA ?_; intro _ _ v27 e27
  rw [show v26.toNat = i - 1 by omega] at e27
  have b := f3 (i - 1) (by omega)
  refine pc_ret ?_
  show SLc p h v27 h
  refine ⟨F, .inl ⟨(h 42 (i - 1)).toNat, ?_, by omega, ?_, rfl⟩⟩
  · show v27 = _
    rw [e27]; omega
  · rw [← e24]; exact Classical.byContradiction q
theorem sl_5 {p : Int} (p0 : 0 ≤ p) (F : FRc h) : ∀ (f i : Nat), (i : Int) ≤ h 34 14 → (∀ j : Nat, i ≤ j → (j : Int) < h 34 14 → p < h 40 (h 42 j).toNat) → Pc (qw_X1_slotOfFrame_5 nn f p (i : Int) h) (fun u => SLc p h u.1 u.2) := by
  intro f
  have f1 := F.1
  induction f with
  | zero => intros; exact pc_none
  | succ f ih =>
    intro i hi B
    unfold qw_X1_slotOfFrame_5
    refine pc_if (fun z => sl_32 p0 F hi (fun q => absurd q (by omega)) B) (fun z => ?_)
    refine pc_sub (by omega) ?_; intro v32 e32
    refine pc_rA ?_; intro _ _ v33 e33
    refine pc_rA ?_; intro _ _ v34 e34
    rw [show v32.toNat = i - 1 by omega] at e33
    rw [e33] at e34
    refine pc_if (fun q => sl_32 p0 F hi (fun _ => by omega) B) (fun q => ?_)
    refine pc_add (by omega) ?_; intro v35 e35
    rw [show v35 = ((i - 1 : Nat) : Int) by omega]
    refine ih (i - 1) (by omega) (fun j j1 j2 => ?_)
    by_cases e : j = i - 1
    · rw [e]; omega
    · exact B j (by omega) j2
theorem c_slot {p : Int} (p0 : 0 ≤ p) (F : FRc h) : Pc (qf_X1_slotOfFrame nn p h) (fun u => SLc p h u.1 u.2) := by
  unfold qf_X1_slotOfFrame
  have f1 := F.1
  rw [show h 34 14 = (((h 34 14).toNat : Nat) : Int) by omega]
  exact sl_5 p0 F nn _ (by omega) (fun j j1 j2 => absurd j2 (by omega))
theorem c_fill {s l n : Int} (hs : -1 ≤ s ∧ s < 100) (hl : 0 ≤ l) (hn : 0 ≤ n) : Pc (qf_X1_fillFrame nn s l n h) (fun u => FLc s l n h u) := by
  have E : (s = -1 ∨ 30 < l ∨ 20 < n) → Pc (qj_X1_fillFrame_23 nn h) (fun u => FLc s l n h u) := fun q => by
    unfold qj_X1_fillFrame_23
    refine pc_xl ?_; intro h1 e1
    exact pc_ret (.inl ⟨q, by rw [e1, up_s], fun cc x z => by rw [e1, up_n z]⟩)
  unfold qf_X1_fillFrame
  refine pc_xl ?_; intro v2 e2
  rw [oq_mul_eq (by omega) (by omega) (by omega)] at e2
  refine pc_if (fun z => E (by omega)) (fun z => ?_)
  refine pc_if (fun z2 => E (by omega)) (fun z2 => ?_)
  refine pc_if (fun z3 => ?_) (fun z3 => E (by omega))
  refine pc_wA ?_; intro _ _ h4 e4
  refine pc_add (by omega) ?_; intro v6 e6
  refine pc_wA ?_; intro _ _ h7 e7
  refine pc_add (by omega) ?_; intro v10 e10
  refine pc_cpS ?_; intro h11 e11
  refine pc_add (by omega) ?_; intro v14 e14
  refine pc_add (by omega) ?_; intro v15 e15
  refine pc_cpS ?_; intro h16 e16
  rw [show v2.toNat = 52 * s.toNat by omega] at e4
  rw [show v6.toNat = 52 * s.toNat + 1 by omega] at e7
  rw [show (0 : Int).toNat = 0 from rfl, show v10.toNat = 52 * s.toNat + 2 by omega] at e11
  rw [show (0 : Int).toNat = 0 from rfl, show v15.toNat = 52 * s.toNat + 2 + l.toNat by omega] at e16
  refine pc_ret (.inr ⟨⟨z, by omega, z3⟩, ⟨?_, ?_, fun i hi => ?_, fun i hi => ?_⟩, fun cc x q => ?_⟩)
  · rw [e16, cp_out (by omega), e11, cp_out (by omega), e7, up_n (by omega), e4, up_s]
  · rw [e16, cp_out (by omega), e11, cp_out (by omega), e7, up_s]
  · rw [e16, cp_out (by omega), e11, cp_in (by omega), e7, up_n (by omega), e4, up_n (by omega), show 0 + (52 * s.toNat + 2 + i - (52 * s.toNat + 2)) = i by omega]
  · rw [e16, cp_in (by omega), e11, cp_out (by omega), e7, up_n (by omega), e4, up_n (by omega), show 0 + (52 * s.toNat + 2 + l.toNat + i - (52 * s.toNat + 2 + l.toNat)) = i by omega]
  · rw [e16, cp_out (by omega), e11, cp_out (by omega), e7, up_n (by omega), e4, up_n (by omega)]
end

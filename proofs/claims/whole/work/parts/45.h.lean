/- FRAMES of the reference -/
def FRr (m : ms_M) : Prop := 0 ≤ m 160 78 ∧ ∀ i j : Nat, (i : Int) < m 160 78 → (j : Int) < m 160 78 → m 208 i = m 208 j → i = j
/-- a FRAME at p: f its row, F: whether this is there -/
def RFw (F : Nat) (p : Int) (f : Nat) (m w : ms_M) : Prop := (((f : Int) < m 160 78 ∧ m 208 f = p ∧ w 160 78 = m 160 78) ∨ ((∀ k : Nat, (k : Int) < m 160 78 → ¬ m 208 k = p) ∧ (f : Int) = m 160 78 ∧ w 160 78 = m 160 78 + 1)) ∧ (w 208 f = p ∧ w 209 f = m 160 79 ∧ w 210 f = m 160 50 + (F : Int) ∧ w 211 f = m 160 70) ∧ ((m 160 79 + m 160 50 + 1 + m 160 70 ≤ 60000 ∧ w 160 79 = m 160 79 + (F : Int) + m 160 50 + m 160 70 ∧ (F = 1 → w 212 (m 160 79).toNat = 8 + 2 * m 160 52) ∧ (∀ s : Nat, (s : Int) < m 160 50 → w 212 ((m 160 79).toNat + F + s) = m 197 s) ∧ ∀ k : Nat, (k : Int) < m 160 70 → w 212 ((m 160 79).toNat + F + (m 160 50).toNat + k) = m 207 k) ∨ (60000 < m 160 79 + m 160 50 + 1 + m 160 70 ∧ w 160 79 = m 160 79)) ∧ (∀ x : Nat, (x : Int) < m 160 79 → w 212 x = m 212 x) ∧ ∀ cc x : Nat, ¬ (cc = 160 ∧ (x = 78 ∨ x = 79)) → ¬ ((cc = 208 ∨ cc = 209 ∨ cc = 210 ∨ cc = 211) ∧ x = f) → ¬ cc = 212 → w cc x = m cc x
section
variable {nn : Nat} {h g u r m w Z : ms_M}
theorem fr_192 {l3 fw sg pl : Nat} (b1 : Z 160 70 = (pl : Int)) (b2 : Z 160 50 = (sg : Int)) (b3 : Z 160 79 = (fw : Int)) (bz : fw + l3 + sg + pl ≤ 60001) : ∀ (f k : Nat) (g : ms_M), k ≤ pl → (∀ cc x : Nat, ¬ cc = 212 → g cc x = Z cc x) → (∀ j : Nat, j < k → g 212 (fw + l3 + sg + j) = Z 207 j) → (∀ x : Nat, x < fw + l3 + sg → g 212 x = Z 212 x) → Pc (qw_X13_frame_192 nn f (l3 : Int) (k : Int) g) (fun u => u 160 79 = (fw : Int) + l3 + sg + pl ∧ (∀ cc x : Nat, ¬ cc = 212 → ¬ (cc = 160 ∧ x = 79) → u cc x = Z cc x) ∧ (∀ j : Nat, j < pl → u 212 (fw + l3 + sg + j) = Z 207 j) ∧ ∀ x : Nat, x < fw + l3 + sg → u 212 x = Z 212 x) := by
  intro f
  induction f with
  | zero => intros; exact pc_none
  | succ f ih =>
    intro k g hk G A B
    unfold qw_X13_frame_192
    have g1 : g 160 70 = (pl : Int) := (G 160 70 (by omega)).trans b1
    have g2 : g 160 50 = (sg : Int) := (G 160 50 (by omega)).trans b2
    have g3 : g 160 79 = (fw : Int) := (G 160 79 (by omega)).trans b3
    refine pc_if (fun z => ?_) (fun z => ?_)
    · refine pc_add (by omega) ?_; intro v4 e4
      refine pc_add (by omega) ?_; intro v6 e6
      refine pc_add (by omega) ?_; intro v7 e7
      refine pc_xl ?_; intro h8 e8
      refine pc_ret ⟨by rw [e8, up_s]; omega, fun cc x z1 z2 => by rw [e8, up_n z2]; exact G cc x z1, fun j hj => by rw [e8, up_n (by omega)]; exact A j (by omega), fun x hx => by rw [e8, up_n (by omega)]; exact B x hx⟩
    · refine pc_add (by omega) ?_; intro v11 e11
      refine pc_add (by omega) ?_; intro v13 e13
      refine pc_add (by omega) ?_; intro v14 e14
      refine pc_rA ?_; intro _ _ v16 e16
      rw [Int.toNat_natCast] at e16
      refine pc_wA ?_; intro _ _ h17 e17
      rw [show v14.toNat = fw + l3 + sg + k by omega] at e17
      refine pc_add (by omega) ?_; intro v18 e18
      rw [show v18 = ((k + 1 : Nat) : Int) by omega]
      refine ih (k + 1) h17 (by omega) (fun cc x z1 => by rw [e17, up_n (by omega)]; exact G cc x z1) (fun j hj => ?_) (fun x hx => by rw [e17, up_n (by omega)]; exact B x hx)
      by_cases jk : j = k
      · rw [jk, e17, up_s, e16]; exact G 207 k (by omega)
      · rw [e17, up_n (by omega)]; exact A j (by omega)
theorem fr_153 {l3 fw sg pl : Nat} (b1 : Z 160 70 = (pl : Int)) (b2 : Z 160 50 = (sg : Int)) (b3 : Z 160 79 = (fw : Int)) (bz : fw + l3 + sg + pl ≤ 60001) : ∀ (f k : Nat) (g : ms_M), k ≤ sg → (∀ cc x : Nat, ¬ cc = 212 → g cc x = Z cc x) → (∀ j : Nat, j < k → g 212 (fw + l3 + j) = Z 197 j) → (∀ x : Nat, x < fw + l3 → g 212 x = Z 212 x) → Pc (qw_X13_frame_153 nn f (l3 : Int) (k : Int) g) (fun u => u 160 79 = (fw : Int) + l3 + sg + pl ∧ (∀ cc x : Nat, ¬ cc = 212 → ¬ (cc = 160 ∧ x = 79) → u cc x = Z cc x) ∧ (∀ j : Nat, j < pl → u 212 (fw + l3 + sg + j) = Z 207 j) ∧ (∀ j : Nat, j < sg → u 212 (fw + l3 + j) = Z 197 j) ∧ ∀ x : Nat, x < fw + l3 → u 212 x = Z 212 x) := by
  intro f
  induction f with
  | zero => intros; exact pc_none
  | succ f ih =>
    intro k g hk G A B
    unfold qw_X13_frame_153
    have g2 : g 160 50 = (sg : Int) := (G 160 50 (by omega)).trans b2
    have g3 : g 160 79 = (fw : Int) := (G 160 79 (by omega)).trans b3
    refine pc_if (fun z => ?_) (fun z => ?_)
    · have R := fr_192 (nn := nn) (Z := g) (l3 := l3) (fw := fw) (sg := sg) (pl := pl) ((G 160 70 (by omega)).trans b1) g2 g3 bz nn 0 g (by omega) (fun _ _ _ => rfl) (fun j hj => absurd hj (by omega)) (fun _ _ => rfl)
      refine pc_imp R (fun u q => ⟨q.1, fun cc x z1 z2 => (q.2.1 cc x z1 z2).trans (G cc x z1), fun j hj => (q.2.2.1 j hj).trans (G 207 j (by omega)), fun j hj => (q.2.2.2 _ (by omega)).trans (A j (by omega)), fun x hx => (q.2.2.2 x (by omega)).trans (B x hx)⟩)
    · refine pc_add (by omega) ?_; intro v23 e23
      refine pc_add (by omega) ?_; intro v24 e24
      refine pc_rA ?_; intro _ _ v26 e26
      rw [Int.toNat_natCast] at e26
      refine pc_wA ?_; intro _ _ h27 e27
      rw [show v24.toNat = fw + l3 + k by omega] at e27
      refine pc_add (by omega) ?_; intro v28 e28
      rw [show v28 = ((k + 1 : Nat) : Int) by omega]
      refine ih (k + 1) h27 (by omega) (fun cc x z1 => by rw [e27, up_n (by omega)]; exact G cc x z1) (fun j hj => ?_) (fun x hx => by rw [e27, up_n (by omega)]; exact B x hx)
      by_cases jk : j = k
      · rw [jk, e27, up_s, e26]; exact G 197 k (by omega)
      · rw [e27, up_n (by omega)]; exact A j (by omega)
theorem fr_80 {F fi : Nat} {p : Int} (hF : (m 160 53 = 0 ∧ F = 1) ∨ (¬ m 160 53 = 0 ∧ F = 0)) (b70 : 0 ≤ m 160 70 ∧ m 160 70 ≤ 3000) (b50 : 0 ≤ m 160 50 ∧ m 160 50 ≤ 3000) (b79 : 0 ≤ m 160 79 ∧ m 160 79 ≤ 60000) (b52 : 0 ≤ m 160 52 ∧ m 160 52 ≤ 1000) (AL : ((fi : Int) < m 160 78 ∧ m 208 fi = p ∧ g 160 78 = m 160 78) ∨ ((∀ k : Nat, (k : Int) < m 160 78 → ¬ m 208 k = p) ∧ (fi : Int) = m 160 78 ∧ g 160 78 = m 160 78 + 1)) (G : ∀ cc x : Nat, ¬ (cc = 160 ∧ x = 78) → ¬ ((cc = 208 ∨ cc = 209) ∧ x = fi) → g cc x = m cc x) (g8 : g 208 fi = p) (g9 : g 209 fi = m 160 79) : Pc (qj_X13_frame_80 nn (fi : Int) (F : Int) g) (fun w => RFw F p fi m w) := by
  unfold qj_X13_frame_80
  have g50 := G 160 50 (by omega) (by omega)
  refine pc_add (by omega) ?_; intro v32 e32
  refine pc_wA ?_; intro _ _ h33 e33
  rw [Int.toNat_natCast] at e33
  have g70 : h33 160 70 = m 160 70 := by rw [e33, up_n (by omega)]; exact G 160 70 (by omega) (by omega)
  refine pc_wA ?_; intro _ _ h36 e36
  rw [Int.toNat_natCast, g70] at e36
  have K : ∀ cc x : Nat, ¬ (cc = 160 ∧ x = 78) → ¬ ((cc = 208 ∨ cc = 209 ∨ cc = 210 ∨ cc = 211) ∧ x = fi) → h36 cc x = m cc x := fun cc x z1 z2 => by rw [e36, up_n (by omega), e33, up_n (by omega)]; exact G cc x z1 (by omega)
  have k78 : h36 160 78 = g 160 78 := by rw [e36, up_n (by omega), e33, up_n (by omega)]
  have k8 : h36 208 fi = p := by rw [e36, up_n (by omega), e33, up_n (by omega)]; exact g8
  have k9 : h36 209 fi = m 160 79 := by rw [e36, up_n (by omega), e33, up_n (by omega)]; exact g9
  have k10 : h36 210 fi = m 160 50 + (F : Int) := by rw [e36, up_n (by omega), e33, up_s, e32, g50]
  have k11 : h36 211 fi = m 160 70 := by rw [e36, up_s]
  have k79 := K 160 79 (by omega) (by omega)
  have k50 := K 160 50 (by omega) (by omega)
  have k70 := K 160 70 (by omega) (by omega)
  have k53 := K 160 53 (by omega) (by omega)
  have k52 := K 160 52 (by omega) (by omega)
  refine pc_add (by omega) ?_; intro v39 e39
  refine pc_add (by omega) ?_; intro v40 e40
  refine pc_add (by omega) ?_; intro v42 e42
  refine pc_if (fun z => ?_) (fun z => ?_)
  · have END : ∀ g2 : ms_M, (∀ cc x : Nat, ¬ cc = 212 → g2 cc x = h36 cc x) → (F = 1 → g2 212 (m 160 79).toNat = 8 + 2 * m 160 52) → (∀ x : Nat, (x : Int) < m 160 79 → g2 212 x = m 212 x) → Pc (qw_X13_frame_153 nn nn (F : Int) 0 g2) (fun w => RFw F p fi m w) := fun g2 H2 H1 H3 => by
      have R := fr_153 (nn := nn) (Z := g2) (l3 := F) (fw := (m 160 79).toNat) (sg := (m 160 50).toNat) (pl := (m 160 70).toNat) (by rw [H2 160 70 (by omega)]; omega) (by rw [H2 160 50 (by omega)]; omega) (by rw [H2 160 79 (by omega)]; omega) (by omega) nn 0 g2 (by omega) (fun _ _ _ => rfl) (fun j hj => absurd hj (by omega)) (fun _ _ => rfl)
      refine pc_imp R (fun w q => ?_)
      obtain ⟨q1, q2, q3, q4, q5⟩ := q
      have Q : ∀ cc x : Nat, ¬ cc = 212 → ¬ (cc = 160 ∧ x = 79) → w cc x = h36 cc x := fun cc x z1 z2 => (q2 cc x z1 z2).trans (H2 cc x z1)
      refine ⟨?_, ⟨(Q 208 fi (by omega) (by omega)).trans k8, (Q 209 fi (by omega) (by omega)).trans k9, (Q 210 fi (by omega) (by omega)).trans k10, (Q 211 fi (by omega) (by omega)).trans k11⟩, .inl ⟨by omega, by omega, fun f1 => (q5 _ (by omega)).trans (H1 f1), fun s hs => ?_, fun k hk => ?_⟩, fun x hx => (q5 x (by omega)).trans (H3 x hx), fun cc x z1 z2 z3 => ?_⟩
      · rw [Q 160 78 (by omega) (by omega), k78]; exact AL
      · rw [q4 s (by omega), H2 197 s (by omega)]; exact K 197 s (by omega) (by omega)
      · rw [q3 k (by omega), H2 207 k (by omega)]; exact K 207 k (by omega) (by omega)
      · rw [Q cc x z3 (by omega)]; exact K cc x (by omega) z2
    refine pc_if (fun y => ?_) (fun y => ?_)
    · exact END h36 (fun _ _ _ => rfl) (fun f1 => absurd f1 (by omega)) (fun x _ => K 212 x (by omega) (by omega))
    · refine pc_xl ?_; intro v47 e47
      rw [oq_mul_eq (by omega) (by omega) (by omega)] at e47
      refine pc_add (by omega) ?_; intro v48 e48
      refine pc_wA ?_; intro _ _ h49 e49
      rw [k79] at e49
      refine END h49 (fun cc x z => by rw [e49, up_n (by omega)]) (fun _ => by rw [e49, up_s]; omega) (fun x hx => by rw [e49, up_n (by omega)]; exact K 212 x (by omega) (by omega))
  · refine pc_ret ⟨by rw [k78]; exact AL, ⟨k8, k9, k10, k11⟩, .inr ⟨by omega, k79⟩, fun x _ => K 212 x (by omega) (by omega), fun cc x z1 z2 _ => K cc x (by omega) z2⟩
theorem fr_7 {F : Nat} {p : Int} (R : FRr m) (hF : (m 160 53 = 0 ∧ F = 1) ∨ (¬ m 160 53 = 0 ∧ F = 0)) (b70 : 0 ≤ m 160 70 ∧ m 160 70 ≤ 3000) (b50 : 0 ≤ m 160 50 ∧ m 160 50 ≤ 3000) (b79 : 0 ≤ m 160 79 ∧ m 160 79 ≤ 60000) (b52 : 0 ≤ m 160 52 ∧ m 160 52 ≤ 1000) (b78 : m 160 78 ≤ 1000000) : ∀ (f k fi : Nat), (k : Int) ≤ m 160 78 → (((fi : Int) < m 160 78 ∧ m 208 fi = p) ∨ ((fi : Int) = m 160 78 ∧ ∀ j : Nat, j < k → ¬ m 208 j = p)) → Pc (qw_X13_frame_7 nn f p (fi : Int) (k : Int) m) (fun w => ∃ fi : Nat, RFw F p fi m w) := by
  intro f
  have r1 := R.1
  induction f with
  | zero => intros; exact pc_none
  | succ f ih =>
    intro k fi hk A
    unfold qw_X13_frame_7
    have G51 : ∀ g : ms_M, (((fi : Int) < m 160 78 ∧ m 208 fi = p ∧ g 160 78 = m 160 78) ∨ ((∀ k : Nat, (k : Int) < m 160 78 → ¬ m 208 k = p) ∧ (fi : Int) = m 160 78 ∧ g 160 78 = m 160 78 + 1)) → (∀ cc x : Nat, ¬ (cc = 160 ∧ x = 78) → g cc x = m cc x) → Pc (qj_X13_frame_51 nn p (fi : Int) g) (fun w => ∃ fi : Nat, RFw F p fi m w) := fun g AL G => by
      unfold qj_X13_frame_51
      refine pc_wA ?_; intro _ _ h53 e53
      rw [Int.toNat_natCast] at e53
      have k79 : h53 160 79 = m 160 79 := by rw [e53, up_n (by omega)]; exact G 160 79 (by omega)
      refine pc_wA ?_; intro _ _ h56 e56
      rw [Int.toNat_natCast, k79] at e56
      have K : ∀ cc x : Nat, ¬ (cc = 160 ∧ x = 78) → ¬ ((cc = 208 ∨ cc = 209) ∧ x = fi) → h56 cc x = m cc x := fun cc x z1 z2 => by rw [e56, up_n (by omega), e53, up_n (by omega)]; exact G cc x z1
      have k78 : h56 160 78 = g 160 78 := by rw [e56, up_n (by omega), e53, up_n (by omega)]
      have k53 := K 160 53 (by omega) (by omega)
      have E : Pc (qj_X13_frame_80 nn (fi : Int) (F : Int) h56) (fun w => RFw F p fi m w) := fr_80 hF b70 b50 b79 b52 (by rw [k78]; exact AL) K (by rw [e56, up_n (by omega), e53, up_s]) (by rw [e56, up_s])
      refine pc_if (fun z => ?_) (fun z => ?_)
      · have f1 : F = 1 := by omega
        rw [f1] at E ⊢
        exact pc_imp E (fun w q => ⟨fi, q⟩)
      · have f1 : F = 0 := by omega
        rw [f1] at E ⊢
        exact pc_imp E (fun w q => ⟨fi, q⟩)
    refine pc_if (fun z => ?_) (fun z => ?_)
    · refine pc_if (fun y => ?_) (fun y => ?_)
      · rcases A with ⟨a1, a2⟩ | ⟨a1, a2⟩
        · exact G51 m (.inl ⟨a1, a2, rfl⟩) (fun _ _ _ => rfl)
        · exact absurd a1 y
      · rcases A with ⟨a1, a2⟩ | ⟨a1, a2⟩
        · exact absurd a1 (by omega)
        · refine pc_add (by omega) ?_; intro v62 e62
          refine pc_xl ?_; intro h63 e63
          exact G51 h63 (.inr ⟨fun j hj => a2 j (by omega), a1, by rw [e63, up_s]; exact e62⟩) (fun cc x q => by rw [e63, up_n q])
    · refine pc_rA ?_; intro _ _ v66 e66
      rw [Int.toNat_natCast] at e66
      refine pc_if (fun y => ?_) (fun y => ?_)
      · refine pc_add (by omega) ?_; intro v67 e67
        rw [show v67 = ((k + 1 : Nat) : Int) by omega]
        refine ih (k + 1) fi (by omega) ?_
        rcases A with a | ⟨a1, a2⟩
        · exact .inl a
        · refine .inr ⟨a1, fun j hj => ?_⟩
          by_cases jk : j = k
          · rw [jk, ← e66]; exact y
          · exact a2 j (by omega)
      · refine pc_add (by omega) ?_; intro v68 e68
        rw [show v68 = ((k + 1 : Nat) : Int) by omega]
        refine ih (k + 1) k (by omega) (.inl ⟨by omega, ?_⟩)
        rw [← e66]; exact Classical.byContradiction y
theorem r_frame {F : Nat} {p : Int} (R : FRr m) (hF : (m 160 53 = 0 ∧ F = 1) ∨ (¬ m 160 53 = 0 ∧ F = 0)) (b70 : 0 ≤ m 160 70 ∧ m 160 70 ≤ 3000) (b50 : 0 ≤ m 160 50 ∧ m 160 50 ≤ 3000) (b79 : 0 ≤ m 160 79 ∧ m 160 79 ≤ 60000) (b52 : 0 ≤ m 160 52 ∧ m 160 52 ≤ 1000) (b78 : m 160 78 ≤ 1000000) : Pc (qf_X13_frame nn p m) (fun w => FRr w ∧ ∃ fi : Nat, RFw F p fi m w) := by
  unfold qf_X13_frame
  have r1 := R.1
  have X := fr_7 (nn := nn) (p := p) R hF b70 b50 b79 b52 b78 nn 0 (m 160 78).toNat (by omega) (.inr ⟨by omega, fun j hj => absurd hj (by omega)⟩)
  rw [show (((m 160 78).toNat : Nat) : Int) = m 160 78 by omega] at X
  refine pc_imp X (fun w q => ⟨?_, q⟩)
  obtain ⟨fi, AL, ⟨w8, -⟩, -, -, W⟩ := q
  refine ⟨by omega, fun i j hi hj e => ?_⟩
  by_cases qi : i = fi
  · by_cases qj : j = fi
    · omega
    · exfalso
      rw [qi, w8, W 208 j (by omega) (by omega) (by omega)] at e
      rcases AL with ⟨a1, a2, a3⟩ | ⟨a1, a2, a3⟩
      · exact qj (R.2 j fi (by omega) a1 (e.symm.trans a2.symm))
      · exact a1 j (by omega) e.symm
  · by_cases qj : j = fi
    · exfalso
      rw [qj, w8, W 208 i (by omega) (by omega) (by omega)] at e
      rcases AL with ⟨a1, a2, a3⟩ | ⟨a1, a2, a3⟩
      · exact qi (R.2 i fi (by omega) a1 (e.trans a2.symm))
      · exact a1 i (by omega) e
    · rw [W 208 i (by omega) (by omega) (by omega), W 208 j (by omega) (by omega) (by omega)] at e
      exact R.2 i j (by omega) (by omega) e
end

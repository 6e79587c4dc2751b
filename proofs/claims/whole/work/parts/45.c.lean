/- THE POOL of both sides: a TEXT -/
section
variable {nn : Nat} {K P V U D : Nat → Int} {C : Nat → Nat} {c n N mt : Nat} {q : Int} {h g r w u v a b m : ms_M} {L A : List Int} {W : Nat → List Int}
/-- the reference compares the letters of constant k -/
theorem r_49 {k l : Nat} {qk : Int → Int → ms_M → Option (Int × ms_M)} {Q : Int × ms_M → Prop} (k2 : k ≤ 2000) (l2 : l ≤ 200) (b0 : 0 ≤ m 201 k ∧ m 201 k ≤ 1000000) (ZE : (∀ j : Nat, j < l → m 204 ((m 201 k).toNat + j) = m 205 j) → Q ((k : Int), m)) (ZN : (¬ ∀ j : Nat, j < l → m 204 ((m 201 k).toNat + j) = m 205 j) → Pc (qk (l : Int) ((k + 1 : Nat) : Int) m) Q) : ∀ (f i : Nat) (l3 : Int), ((l3 = 1 ∧ ∀ j : Nat, j < i → j < l → m 204 ((m 201 k).toNat + j) = m 205 j) ∨ (l3 = 0 ∧ ¬ ∀ j : Nat, j < l → m 204 ((m 201 k).toNat + j) = m 205 j)) → Pc (qw_X13_spelling_49 nn qk f (l : Int) (k : Int) l3 (i : Int) m) Q := by
  have E95 : ∀ l3 : Int, ((l3 = 1 ∧ ∀ j : Nat, j < l → m 204 ((m 201 k).toNat + j) = m 205 j) ∨ (l3 = 0 ∧ ¬ ∀ j : Nat, j < l → m 204 ((m 201 k).toNat + j) = m 205 j)) → Pc (qj_X13_spelling_95 nn qk (l : Int) (k : Int) l3 m) Q := fun l3 H => by
    unfold qj_X13_spelling_95
    refine pc_if (fun z => ?_) (fun z => ?_)
    · refine pc_add (by omega) ?_; intro v15 e15
      rw [show v15 = ((k + 1 : Nat) : Int) by omega]
      rcases H with ⟨x, _⟩ | ⟨_, x⟩
      · omega
      · exact ZN x
    · rcases H with ⟨_, x⟩ | ⟨x, _⟩
      · exact pc_ret (ZE x)
      · exact absurd x z
  intro f
  induction f with
  | zero => intros; exact pc_none
  | succ f ih =>
    intro i l3 H
    unfold qw_X13_spelling_49
    refine pc_if (fun z => E95 l3 ?_) (fun z => ?_)
    · rcases H with ⟨x, y⟩ | x
      · exact .inl ⟨x, fun j hj => y j (by omega) hj⟩
      · exact .inr x
    · refine pc_if (fun z0 => E95 l3 ?_) (fun z0 => ?_)
      · rcases H with ⟨x, y⟩ | x
        · omega
        · exact .inr x
      · rcases H with ⟨x, y⟩ | ⟨x, _⟩
        · refine pc_rA ?_; intro _ _ v19 e19
          rw [Int.toNat_natCast] at e19
          refine pc_add (by omega) ?_; intro v20 e20
          refine pc_rA ?_; intro _ _ v21 e21
          rw [show v20.toNat = (m 201 k).toNat + i by omega] at e21
          refine pc_rA ?_; intro _ _ v23 e23
          rw [Int.toNat_natCast] at e23
          refine pc_if (fun y1 => ?_) (fun y1 => ?_)
          · refine pc_add (by omega) ?_; intro v24 e24
            rw [show v24 = ((i + 1 : Nat) : Int) by omega]
            refine ih (i + 1) 0 (.inr ⟨rfl, fun s => y1 ?_⟩)
            rw [e21, e23]; exact s i (by omega)
          · refine pc_add (by omega) ?_; intro v25 e25
            rw [show v25 = ((i + 1 : Nat) : Int) by omega]
            refine ih (i + 1) 1 (.inl ⟨rfl, fun j hj hj2 => ?_⟩)
            by_cases ji : j = i
            · rw [ji, ← e21, ← e23]; exact Classical.byContradiction y1
            · exact y j (by omega) hj2
        · exact absurd x z0
/-- it writes the letters, and the constant -/
theorem r_109 {l : Nat} {m0 : ms_M} (l2 : l ≤ 200) (b0 : 0 ≤ m0 160 64 ∧ m0 160 64 ≤ 40000) (c0 : 0 ≤ m0 160 62 ∧ m0 160 62 ≤ 2000) : ∀ (f i : Nat) (m : ms_M), i ≤ l → m0 160 64 + (i : Int) ≤ 40000 → (∀ cc y : Nat, ¬ cc = 204 → m cc y = m0 cc y) → (∀ y : Nat, (y : Int) < m0 160 64 → m 204 y = m0 204 y) → (∀ j : Nat, j < i → m 204 ((m0 160 64).toNat + j) = m0 205 j) → Pc (qw_X13_spelling_109 nn f (l : Int) (i : Int) m) (fun w => w.1 = m0 160 62 + 1 ∧ (w.2 160 62 = m0 160 62 + 1 ∧ w.2 160 64 = m0 160 64 + l ∧ MBd w.2) ∧ (w.2 200 (m0 160 62 + 1).toNat = 1 ∧ w.2 201 (m0 160 62 + 1).toNat = m0 160 64 ∧ w.2 202 (m0 160 62 + 1).toNat = (l : Int)) ∧ (∀ y : Nat, (y : Int) < m0 160 64 → w.2 204 y = m0 204 y) ∧ (∀ j : Nat, j < l → w.2 204 ((m0 160 64).toNat + j) = m0 205 j) ∧ ∀ cc y : Nat, ¬ (cc = 160 ∧ (y = 62 ∨ y = 64)) → ¬ (200 ≤ cc ∧ cc ≤ 203 ∧ y = (m0 160 62 + 1).toNat) → ¬ cc = 204 → w.2 cc y = m0 cc y) := by
  intro f
  induction f with
  | zero => intros; exact pc_none
  | succ f ih =>
    intro i m hi i4 A B T
    have e62 : m 160 62 = m0 160 62 := A 160 62 (by omega)
    have e64 : m 160 64 = m0 160 64 := A 160 64 (by omega)
    unfold qw_X13_spelling_109
    refine pc_if (fun z => ?_) (fun z => ?_)
    · unfold qf_X13_constant
      refine pc_sv (P := fun u3 => u3.1 = m 160 62 + 1 ∧ (u3.2 160 62 = m 160 62 + 1 ∧ m 160 62 + 1 < 2000) ∧ (u3.2 200 (m 160 62 + 1).toNat = 1 ∧ u3.2 201 (m 160 62 + 1).toNat = m 160 64 ∧ u3.2 202 (m 160 62 + 1).toNat = (l : Int) ∧ u3.2 203 (m 160 62 + 1).toNat = 0) ∧ ∀ cc y : Nat, ¬ (cc = 160 ∧ y = 62) → ¬ (200 ≤ cc ∧ cc ≤ 203 ∧ y = (m 160 62 + 1).toNat) → u3.2 cc y = m cc y) ?_ ?_
      · refine pc_if (fun _ => r_71 (by omega)) (fun y => absurd (by decide) y)
      · intro u3 q3
        obtain ⟨q1, ⟨q2, q2b⟩, ⟨q4, q5, q6, _⟩, q7⟩ := q3
        have x64 : u3.2 160 64 = m0 160 64 := by rw [q7 160 64 (by omega) (by omega)]; exact e64
        rw [x64]
        refine pc_add (by omega) ?_; intro v5 e5
        refine pc_xl ?_; intro h6 e6
        rw [e62] at q1 q2 q2b q4 q5 q6 q7
        rw [e64] at q5
        have z62 : h6 160 62 = m0 160 62 + 1 := by rw [e6, up_n (by omega)]; exact q2
        have z64 : h6 160 64 = m0 160 64 + l := by rw [e6, up_s]; exact e5
        refine pc_ret ⟨q1, ⟨z62, z64, ⟨by show 0 ≤ h6 160 62 ∧ h6 160 62 ≤ 2000; omega, by show 0 ≤ h6 160 64 ∧ h6 160 64 ≤ 40000; omega⟩⟩, ⟨?_, ?_, ?_⟩, fun y hy => ?_, fun j hj => ?_, fun cc y z1 z2 z3 => ?_⟩
        · show h6 200 _ = _; rw [e6, up_n (by omega)]; exact q4
        · show h6 201 _ = _; rw [e6, up_n (by omega)]; exact q5
        · show h6 202 _ = _; rw [e6, up_n (by omega)]; exact q6
        · show h6 204 y = _; rw [e6, up_n (by omega), q7 204 y (by omega) (by omega)]; exact B y hy
        · show h6 204 _ = _; rw [e6, up_n (by omega), q7 204 _ (by omega) (by omega)]; exact T j (by omega)
        · show h6 cc y = _; rw [e6, up_n (by omega), q7 cc y (by omega) z2]; exact A cc y z3
    · rw [e64]
      refine pc_add (by omega) ?_; intro v9 e9
      refine pc_rA ?_; intro _ _ v11 e11
      rw [Int.toNat_natCast, A 205 i (by omega)] at e11
      refine pc_wA ?_; intro _ i12 h12 e12
      rw [show v9.toNat = (m0 160 64).toNat + i by omega] at e12
      refine pc_add (by omega) ?_; intro v13 e13
      rw [show v13 = ((i + 1 : Nat) : Int) by omega]
      refine ih (i + 1) h12 (by omega) (by omega) (fun cc y z1 => by rw [e12, up_n (by omega)]; exact A cc y z1) (fun y hy => by rw [e12, up_n (by omega)]; exact B y hy) (fun j hj => ?_)
      by_cases ji : j = i
      · rw [ji, e12, up_s]; exact e11
      · rw [e12, up_n (by omega)]; exact T j (by omega)
/-- the reference's count of constants does not fall -/
theorem r_12m {l : Nat} (l2 : l ≤ 200) (MB : MBd m) : ∀ (f k : Nat), 1 ≤ k → Pc (qw_X13_spelling_12 nn f (l : Int) (k : Int) m) (fun w => (m 160 62 ≤ w.2 160 62 ∧ MBd w.2) ∧ ∀ cc y : Nat, ¬ (cc = 160 ∧ (y = 62 ∨ y = 64)) → ¬ (200 ≤ cc ∧ cc ≤ 205) → w.2 cc y = m cc y) := by
  intro f
  induction f with
  | zero => intros; exact pc_none
  | succ f ih =>
    intro k k1
    have N49 : ∀ (f2 : Nat) (l3 l4 : Int), k ≤ 2000 → Pc (qw_X13_spelling_49 nn (qw_X13_spelling_12 nn f) f2 (l : Int) (k : Int) l3 l4 m) (fun w => (m 160 62 ≤ w.2 160 62 ∧ MBd w.2) ∧ ∀ cc y : Nat, ¬ (cc = 160 ∧ (y = 62 ∨ y = 64)) → ¬ (200 ≤ cc ∧ cc ≤ 205) → w.2 cc y = m cc y) := by
      intro f2
      induction f2 with
      | zero => intros; exact pc_none
      | succ f2 ih2 =>
        intro l3 l4 kb
        have G95 : Pc (qj_X13_spelling_95 nn (qw_X13_spelling_12 nn f) (l : Int) (k : Int) l3 m) (fun w => (m 160 62 ≤ w.2 160 62 ∧ MBd w.2) ∧ ∀ cc y : Nat, ¬ (cc = 160 ∧ (y = 62 ∨ y = 64)) → ¬ (200 ≤ cc ∧ cc ≤ 205) → w.2 cc y = m cc y) := by
          unfold qj_X13_spelling_95
          refine pc_if (fun _ => ?_) (fun _ => pc_ret ⟨⟨Int.le_refl _, MB⟩, fun _ _ _ _ => rfl⟩)
          refine pc_add (by omega) ?_; intro v15 e15
          rw [show v15 = ((k + 1 : Nat) : Int) by omega]
          exact ih (k + 1) (by omega)
        unfold qw_X13_spelling_49
        refine pc_if (fun _ => G95) (fun _ => ?_)
        refine pc_if (fun _ => G95) (fun _ => ?_)
        refine pc_rA ?_; intro _ _ v19 _
        refine pc_xl ?_; intro v20 _
        refine pc_rA ?_; intro _ _ v21 _
        refine pc_rA ?_; intro _ _ v23 _
        exact pc_if (fun _ => pc_xl (fun v24 _ => ih2 0 v24 kb)) (fun _ => pc_xl (fun v25 _ => ih2 1 v25 kb))
    unfold qw_X13_spelling_12
    refine pc_if (fun _ => ?_) (fun _ => ?_)
    · refine pc_imp (r_109 (nn := nn) (l := l) (m0 := m) l2 MB.2 MB.1 nn 0 m (by omega) (by have := MB.2; omega) (fun _ _ _ => rfl) (fun _ _ => rfl) (fun j hj => absurd hj (by omega))) (fun w q => ⟨⟨by have := q.2.1.1; omega, q.2.1.2.2⟩, fun cc y z1 z2 => q.2.2.2.2.2 cc y z1 (by omega) (by omega)⟩)
    · refine pc_rA ?_; intro _ kb v31 _
      unfold qj_X13_spelling_44
      refine pc_if (fun _ => N49 nn 0 0 (by omega)) (fun _ => ?_)
      refine pc_rA ?_; intro _ _ v33 _
      exact pc_if (fun _ => N49 nn 0 0 (by omega)) (fun _ => N49 nn 1 0 (by omega))
/-- a TEXT of both sides -/
theorem j_text (T : NTB h) {x : Int} (M : NMz h x L) (S : SPL m L) (R : PLR h m) (MB : MBd m) : Pc (qf_X6_constant nn 1 x h) (fun u => Pc (qf_X13_spelling nn m) (fun w => PCo h m u w ∧ SPL w.2 [])) := by
  obtain ⟨⟨s1, s2⟩, s3⟩ := S
  unfold qf_X13_spelling qf_X6_constant
  refine pc_fl ?_
  refine pc_xl ?_; intro m1 f1
  rw [s1]
  have F1 : ∀ cc y : Nat, ¬ (cc = 160 ∧ y = 66) → m1 cc y = m cc y := fun cc y z => by rw [f1, up_n z]
  have z66 : m1 160 66 = 0 := by rw [f1, up_s]
  have MB1 : MBd m1 := ⟨by rw [F1 160 62 (by omega)]; exact MB.1, by rw [F1 160 64 (by omega)]; exact MB.2⟩
  have mb1 := MB1.2
  have sp0 : ∀ w : ms_M, w 160 66 = m1 160 66 → SPL w [] := fun w e => ⟨⟨by rw [e, z66]; rfl, by decide, lr_0⟩, fun k hk => absurd hk (Nat.not_lt_zero _)⟩
  rcases R with ⟨r5, r64, cn, e4, e62, c2, E⟩ | ⟨r5, r62⟩
  · have E1 : ∀ k : Nat, 1 ≤ k → k ≤ cn → PCe h m1 k := fun k h1 h2 => pce_k (E k h1 h2) (fun _ _ _ => rfl) (fun _ _ z => z) (fun cc y z => F1 cc y (by omega)) (fun y _ => F1 204 y (by omega)) (by rw [F1 160 64 (by omega)]; exact Int.le_refl _)
    have n62 : m1 160 62 = (cn : Int) := by rw [F1 160 62 (by omega)]; exact e62
    have n64 : m1 160 64 = m 160 64 := F1 160 64 (by omega)
    have LP : ∀ (f f2 k : Nat), 1 ≤ k → k ≤ cn + 1 → Pc (qw_X6_constant_2 nn f 1 x (k : Int) h) (fun u => Pc (qw_X13_spelling_12 nn f2 (L.length : Int) (k : Int) m1) (fun w => PCo h m u w ∧ SPL w.2 [])) := by
      intro f
      induction f with
      | zero => intros; exact pc_none
      | succ f ih =>
        intro f2 k k1 k2
        cases f2 with
        | zero => exact fun _ _ => pc_none
        | succ f2 =>
          unfold qw_X6_constant_2
          refine pc_if (fun z => ?_) (fun z => ?_)
          · refine pc_imp (c_papp e4 c2) (fun u q => ?_)
            unfold qw_X13_spelling_12
            refine pc_if (fun _ => ?_) (fun y => absurd (by omega) y)
            refine pc_imp (r_109 (nn := nn) (l := L.length) (m0 := m1) s2.1 MB1.2 MB1.1 nn 0 m1 (by omega) (by omega) (fun _ _ _ => rfl) (fun _ _ => rfl) (fun j hj => absurd hj (by omega))) (fun w y => ?_)
            obtain ⟨y1, ⟨y2, y3, MBw⟩, ⟨y4, y5, y6⟩, y7, y8, y9⟩ := y
            rw [n62, show ((cn : Int) + 1).toNat = cn + 1 by omega] at y4 y5 y6 y9
            have Fw : ∀ cc y : Nat, ¬ (cc = 160 ∧ (y = 62 ∨ y = 64 ∨ y = 66)) → ¬ (200 ≤ cc ∧ cc ≤ 205) → w.2 cc y = m cc y := fun cc y z1 z2 => by rw [y9 cc y (by omega) (by omega) (by omega)]; exact F1 cc y (by omega)
            refine ⟨?_, sp0 _ (y9 160 66 (by omega) (by omega) (by omega))⟩
            rcases q.1 with ⟨q1, q2, q3, q4, q5, q6, q7⟩ | ⟨q1, q2⟩
            · have nz : ∀ x L, NMz h x L → NMz u.2 x L := fun x L M => nmz_k M (fun cc y y0 => q.2 cc y (by omega) (by omega) (by omega))
              refine ⟨.inl ⟨by rw [q4]; exact r5, by omega, cn + 1, by rw [q3]; omega, by rw [y2]; omega, by omega, fun k h1 h2 => ?_⟩, fun _ => ⟨by omega, by omega, by omega⟩, fun y => by omega, q.2, Fw, MBw⟩
              by_cases kc : k = cn + 1
              · rw [kc]
                unfold PCe
                rw [q5, q6, y4, y5, y6]
                refine ⟨rfl, .inl ⟨rfl, L, nz _ _ M, ⟨rfl, s2⟩, ⟨by omega, by omega⟩, fun i hi => ?_⟩⟩
                rw [y8 i hi, F1 205 i (by omega)]; exact s3 i hi
              · refine pce_k (E1 k h1 (by omega)) (fun cc y y0 => ?_) nz (fun cc y y0 => y9 cc y (by omega) (by omega) (by omega)) (fun y hy => y7 y hy) (by omega)
                have o := q7 k (by omega)
                rcases y0 with ⟨z1 | z1, z2⟩
                · rw [z1, z2]; exact o.1
                · rw [z1, z2]; exact o.2
            · refine ⟨.inr ⟨q2, by omega⟩, fun y => by omega, fun _ => q2, q.2, Fw, MBw⟩
          · -- entry k
            have kc : k ≤ cn := by omega
            have Ek := E1 k k1 kc
            have e1 := Ek.1
            -- when both sides see the same text
            have SAME : h 46 k = 1 → (h 47 k = x ↔ (m1 202 k = (L.length : Int) ∧ ∀ j : Nat, j < L.length → m1 204 ((m1 201 k).toNat + j) = m1 205 j)) ∧ (0 ≤ m1 201 k ∧ m1 201 k ≤ 1000000) := fun t1 => by
              rcases Ek.2 with ⟨w1, Lk, w2, w3, w4, w5⟩ | ⟨w1, _⟩ | ⟨w1, _⟩
              · refine ⟨⟨fun e => ?_, fun e => ?_⟩, by omega⟩
                · rw [e] at w2
                  have le : (Lk.length : Int) = (L.length : Int) := w2.2.1.symm.trans M.2.1
                  refine ⟨by omega, fun j hj => ?_⟩
                  rw [w5 j (by omega), F1 205 j (by omega), s3 j hj]
                  exact (w2.2.2 j (by omega)).symm.trans (M.2.2 j (by omega))
                · have le : Lk.length = L.length := by omega
                  have N2 : NMt h (h 47 k).toNat (L.length : Int) (fun i => L.getD i 0) := ⟨by rw [← le]; exact w2.2.1, fun i hi => by
                    have p1 := w2.2.2 i (by omega)
                    have p2 := w5 i (by omega)
                    have p3 := e.2 i (by omega)
                    rw [F1 205 i (by omega), s3 i (by omega)] at p3
                    exact p1.trans (p2.symm.trans p3)⟩
                  have := nt_eq T (by have := w2.1; omega) (by have := M.1; omega) N2 M.2
                  have := w2.1
                  have := M.1
                  omega
              · omega
              · omega
            have NX : ¬ (h 46 k = 1 ∧ h 47 k = x) → Pc (qw_X6_constant_2 nn f 1 x ((k + 1 : Nat) : Int) h) (fun u => Pc (qw_X13_spelling_12 nn (f2 + 1) (L.length : Int) (k : Int) m1) (fun w => PCo h m u w ∧ SPL w.2 [])) := fun ne => by
              refine pc_fl ?_
              unfold qw_X13_spelling_12
              refine pc_if (fun y => absurd y (by omega)) (fun _ => ?_)
              have GO : Pc (qw_X13_spelling_12 nn f2 (L.length : Int) ((k + 1 : Nat) : Int) m1) (fun w => Pc (qw_X6_constant_2 nn f 1 x ((k + 1 : Nat) : Int) h) (fun u => PCo h m u w ∧ SPL w.2 [])) := pc_fl (ih f2 (k + 1) (by omega) (by omega))
              -- not alike: on
              have N44 : Pc (qj_X13_spelling_44 nn (qw_X13_spelling_12 nn f2) (L.length : Int) (k : Int) m1) (fun w => Pc (qw_X6_constant_2 nn f 1 x ((k + 1 : Nat) : Int) h) (fun u => PCo h m u w ∧ SPL w.2 [])) := by
                unfold qj_X13_spelling_44
                cases hn : nn with
                | zero => exact pc_none
                | succ n0 =>
                  rw [← hn]
                  have G95 : Pc (qj_X13_spelling_95 nn (qw_X13_spelling_12 nn f2) (L.length : Int) (k : Int) 0 m1) (fun w => Pc (qw_X6_constant_2 nn f 1 x ((k + 1 : Nat) : Int) h) (fun u => PCo h m u w ∧ SPL w.2 [])) := by
                    unfold qj_X13_spelling_95
                    refine pc_if (fun _ => ?_) (fun y => absurd rfl y)
                    refine pc_add (by omega) ?_; intro v15 e15
                    rw [show v15 = ((k + 1 : Nat) : Int) by omega]
                    exact GO
                  have EE : qw_X13_spelling_49 nn (qw_X13_spelling_12 nn f2) nn (L.length : Int) (k : Int) 0 0 m1 = qw_X13_spelling_49 nn (qw_X13_spelling_12 nn f2) (n0 + 1) (L.length : Int) (k : Int) 0 0 m1 := by rw [← hn]
                  rw [EE]
                  unfold qw_X13_spelling_49
                  refine pc_if (fun _ => G95) (fun _ => ?_)
                  exact pc_if (fun _ => G95) (fun y => absurd rfl y)
              refine pc_rA ?_; intro _ kb v31 e31
              rw [Int.toNat_natCast] at e31
              refine pc_if (fun _ => N44) (fun y1 => ?_)
              have t1 : h 46 k = 1 := by omega
              have sm := SAME t1
              refine pc_rA ?_; intro _ _ v33 e33
              rw [Int.toNat_natCast] at e33
              refine pc_if (fun _ => N44) (fun y2 => ?_)
              refine r_49 (by omega) s2.1 sm.2 (fun y => ?_) (fun _ => GO) nn 0 1 (.inl ⟨rfl, fun j hj => absurd hj (by omega)⟩)
              exact absurd ⟨t1, sm.1.mpr ⟨by omega, y⟩⟩ ne
            refine pc_rA ?_; intro _ _ v16 e16
            rw [Int.toNat_natCast] at e16
            refine pc_if (fun y => ?_) (fun y => ?_)
            · refine pc_add (by omega) ?_; intro v17 e17
              rw [show v17 = ((k + 1 : Nat) : Int) by omega]
              exact NX (fun y2 => y (by rw [e16]; exact y2.1))
            · refine pc_rA ?_; intro _ _ v19 e19
              rw [Int.toNat_natCast] at e19
              refine pc_if (fun y2 => ?_) (fun y2 => ?_)
              · refine pc_add (by omega) ?_; intro v20 e20
                rw [show v20 = ((k + 1 : Nat) : Int) by omega]
                exact NX (fun y3 => y2 (by rw [e19]; exact y3.2))
              · -- found
                have t1 : h 46 k = 1 := by omega
                have sm := SAME t1
                have eq := sm.1.mp (by rw [← e19]; exact Classical.byContradiction y2)
                refine pc_ret ?_
                unfold qw_X13_spelling_12
                refine pc_if (fun y => absurd y (by omega)) (fun _ => ?_)
                refine pc_rA ?_; intro _ kb v31 e31
                rw [Int.toNat_natCast] at e31
                refine pc_if (fun y => absurd (by omega) y) (fun _ => ?_)
                refine pc_rA ?_; intro _ _ v33 e33
                rw [Int.toNat_natCast] at e33
                refine pc_if (fun y => absurd (e33.trans eq.1) y) (fun _ => ?_)
                refine r_49 (by omega) s2.1 sm.2 (fun _ => ?_) (fun y => absurd eq.2 y) nn 0 1 (.inl ⟨rfl, fun j hj => absurd hj (by omega)⟩)
                refine ⟨⟨.inl ⟨r5, by dsimp only; rw [n64]; exact r64, cn, e4, n62, c2, E1⟩, fun _ => ⟨rfl, by show (1 : Int) ≤ (k : Int); omega, by show (k : Int) ≤ 200; omega⟩, fun y => by omega, fun _ _ _ _ _ => rfl, fun cc y z1 z2 => F1 cc y (by omega), MB1⟩, sp0 _ rfl⟩
    exact pc_fl (LP nn nn 1 (by omega) (by omega))
  · refine pc_fl ?_
    refine pc_imp (c_pfull r5 nn 1) (fun u q => ?_)
    refine pc_imp (r_12m s2.1 MB1 nn 1 (by omega)) (fun w y => ?_)
    rw [F1 160 62 (by omega)] at y
    exact ⟨⟨.inr ⟨q.1, by omega⟩, fun z => by omega, fun _ => q.1, q.2, fun cc y2 z1 z2 => by rw [y.2 cc y2 (by omega) (by omega)]; exact F1 cc y2 (by omega), y.1.2⟩, sp0 _ (y.2 160 66 (by omega) (by omega))⟩
end

/- S of both sides: what is given a value -/
section
variable {nn : Nat} {X : BCx} {dp i a b a1 b1 a2 b2 e e1 e2 s bb lb lh d o en k ix iy y0 : Int} {p q t uu : Nat} {h g u r w m z h13 h35 u16 u38 g1 g2 : ms_M} {v v1 v2 : Int × ms_M} {PB : Nat → Prop} {WL : Int → Int → Prop} {L : List (Int × Int)}
/-- the rules: can it take a value -/
theorem r_take (T : ∀ cc y : Nat, ((163 ≤ cc ∧ cc ≤ 173) ∨ cc = 177) → r cc y = bT X cc y) (f : r 160 9 = 0) : Pc (qf_X13_canTake nn e r) (fun u => (u = 1 ∧ (bT X 177 e.toNat = 0 ∧ (bT X 167 e.toNat = 25 ∨ bT X 167 e.toNat = 32 ∨ (bT X 167 e.toNat = 30 ∧ ¬ r 175 e.toNat = -1)))) ∨ (u = 0 ∧ ¬ (bT X 177 e.toNat = 0 ∧ (bT X 167 e.toNat = 25 ∨ bT X 167 e.toNat = 32 ∨ (bT X 167 e.toNat = 30 ∧ ¬ r 175 e.toNat = -1))))) := by
  unfold qf_X13_canTake
  refine pc_if (fun _ => ?_) (fun z => absurd f z)
  refine pc_rA ?_; intro _ _ v3 e3
  rw [T 177 _ (by omega)] at e3
  refine pc_if (fun z => ?_) (fun z => pc_ret (.inr ⟨rfl, by omega⟩))
  refine pc_rA ?_; intro _ _ v5 e5
  rw [T 167 _ (by omega)] at e5
  refine pc_if (fun z => pc_ret (.inl ⟨rfl, by omega⟩)) (fun z => ?_)
  refine pc_rA ?_; intro _ _ v7 e7
  rw [T 167 _ (by omega)] at e7
  refine pc_if (fun z => ?_) (fun z => pc_ret (.inl ⟨rfl, by omega⟩))
  refine pc_rA ?_; intro _ _ v9 e9
  rw [T 167 _ (by omega)] at e9
  refine pc_if (fun z => pc_ret (.inr ⟨rfl, by omega⟩)) (fun z => ?_)
  refine pc_rA ?_; intro _ _ v11 e11
  exact pc_if (fun z => pc_ret (.inr ⟨rfl, by omega⟩)) (fun z => pc_ret (.inl ⟨rfl, by omega⟩))
/-- all but how the class closes it -/
theorem sl_as (Y : CXs X) (Wb : BRw X) (Q : SPq X d p bb h r) (ne : 0 ≤ a ∧ a ≤ s ∧ s < b) (yb : s < y0 ∧ y0 ≤ b) (nb : b ≤ 8999) (nd : bT X 167 s.toNat = 12) (ee1 : bT X 170 s.toNat = e1) (ee2 : bT X 171 s.toNat = e2) (e13 : h13 = up_M h 49 18 (p : Int)) (K1 : EOz nn X ix (s + 1) y0 p t e1 h13 r u16 v1) (SE1 : SEq h13 r u16 v1.2) (e35 : h35 = up_M u16 2 10 ((t + 1 : Nat) : Int)) (K2 : EOz nn X iy y0 b (t + 1) uu e2 h35 v1.2 u38 v2) (SE2 : SEq h35 v1.2 u38 v2.2) (uc : uu + 1 < bc X) (ez2 : z 2 10 = ((uu + 1 : Nat) : Int)) (Zf : ∀ cc x : Nat, ¬ ((cc = 2 ∧ x = 10) ∨ (cc = 34 ∧ (x = 1 ∨ x = 3)) ∨ (cc = 35 ∧ u38 34 1 ≤ (x : Int)) ∨ (cc = 45 ∧ (x = 4 ∨ x = 5)) ∨ cc = 46 ∨ cc = 47) → z cc x = u38 cc x) (z1 : u38 34 1 ≤ z 34 1 ∧ z 34 1 ≤ u38 34 1 + 3) (z3 : z 34 3 = 0) (MP : ∀ (PB : Nat → Prop) (WL : Int → Int → Prop) (L : List (Int × Int)) (m : ms_M), MKx X PB WL L h13 m → AN (s + 1) y0 v1.2 m → AN y0 b v2.2 m → m 160 57 = 0 → m 160 88 + 4 * (uu : Int) ≤ 2000000000 + 4 * (p : Int) → Pc (qf_X13_assign nn e1 e2 m) (fun w => MKx X PB WL L z w ∧ (m 160 88 ≤ w 160 88 ∧ w 160 88 + 4 * (p : Int) ≤ m 160 88 + 4 * (uu : Int)) ∧ MWf m w)) : SOk nn X s a b p (uu + 1) bb h r (1, z) (1, v2.2) := by
  have Q0 := Q
  obtain ⟨⟨B, ⟨q1, q2, q3, q4⟩, ⟨f1, f2, f3⟩, o1⟩, ⟨h3, h10, r57, h7⟩, ⟨LP, l54, br⟩, -⟩ := Q0
  obtain ⟨⟨x1, x2, x3, x4, x5⟩, ⟨x6, x7, x8⟩, ⟨x9, x10, x11⟩, ⟨x12, x13, x14⟩, -⟩ := K1.1
  obtain ⟨⟨k1, k2, k3, k4, k5⟩, ⟨k6, k7, k8⟩, ⟨k9, k10, k11⟩, ⟨k12, k13, k14⟩, -⟩ := K2.1
  have E13 : ∀ cc x : Nat, ¬ (cc = 49 ∧ x = 18) → h13 cc x = h cc x := fun cc x q => by rw [e13, up_n q]
  have E35 : ∀ cc x : Nat, ¬ (cc = 2 ∧ x = 10) → h35 cc x = u16 cc x := fun cc x q => by rw [e35, up_n q]
  have e1' := E13 34 1 (by omega)
  have e7 := E13 34 7 (by omega)
  have f1' := E35 34 1 (by omega)
  have c3 := Y.1.2.1
  have CF1 : ∀ cc x : Nat, (cc = 33 ∧ x = 12) ∨ (cc = 34 ∧ x = 7) ∨ (cc = 49 ∧ (x = 10 ∨ x = 18)) → u38 cc x = h13 cc x := fun cc x q => by
    by_cases q10 : cc = 49 ∧ x = 10
    · rw [q10.1, q10.2, k11.1, E35 49 10 (by omega), x11.1]
    · rw [k9 cc x (by omega) (by omega) (by omega) (by omega) (by omega) (by omega) (by omega) (by omega), E35 cc x (by omega)]
      exact x9 cc x (by omega) (by omega) (by omega) (by omega) (by omega) (by omega) (by omega) (by omega)
  have B13 : BX X h13 r := bx_k B (fun cc x z => E13 cc x (by omega)) (fun _ _ _ => rfl)
  have B16 : BX X u16 v1.2 := bx_e B13 x9 x10
  have B35 : BX X h35 v1.2 := bx_k B16 (fun cc x z => E35 cc x (by omega)) (fun _ _ _ => rfl)
  have B38 : BX X u38 v2.2 := bx_e B35 k9 k10
  have Bz : BX X z v2.2 := bx_k B38 (fun cc x q => Zf cc x (by omega)) (fun _ _ _ => rfl)
  have C13 : CFs h h13 := cfs_o (fun cc x q => E13 cc x (by omega)) (by omega)
  have C35 : CFs u16 h35 := cfs_o (fun cc x q => E35 cc x (by omega)) (by omega)
  have Cz : CFs h z := cfs_t (cfs_t (cfs_t (cfs_t C13 (cfs_e x9 SE1.1.1 SE1.1.2)) C35) (cfs_e k9 SE2.1.1 SE2.1.2)) (cfs_o (fun cc x q => Zf cc x (by omega)) z1.1)
  have Rf : RFz a b r v2.2 := rfs_t (rfs_e x10 SE1.2 ⟨Int.le_refl _, Int.le_refl _⟩) (rfs_e k10 SE2.2 ⟨Int.le_refl _, Int.le_refl _⟩) ⟨by omega, by omega⟩ ⟨by omega, Int.le_refl _⟩
  have z12 : z 33 12 = h 33 12 := by rw [Zf 33 12 (by omega), CF1 33 12 (by omega)]; exact E13 33 12 (by omega)
  refine ⟨⟨rfl, .inr rfl⟩, sk_leaf Q Wb ⟨ez2, by omega, by omega, by show z 2 11 = 0; rw [Zf 2 11 (by omega)]; exact k4, k5⟩ Bz Cz Rf z12 (by show z 34 7 = _; rw [Zf 34 7 (by omega), CF1 34 7 (by omega)]; exact e7) ?_ (frc_k k12 (fun cc x q => Zf cc x (by omega))) (by show z 34 1 + _ ≤ _; omega) z3 (by show z 49 10 = 0; rw [Zf 49 10 (by omega), CF1 49 10 (by omega), E13 49 10 (by omega)]; exact h10) (by show z 49 18 ≤ _; rw [Zf 49 18 (by omega), CF1 49 18 (by omega), e13, up_s]; omega), ?_⟩
  · show v2.2 198 _ = _
    rw [k10.1 198 _ (by omega) (by omega) (by omega)]; exact x10.1 198 _ (by omega) (by omega) (by omega)
  · intro d2 PB WL L lb lh m I
    obtain ⟨⟨M, AM⟩, ⟨m57, m88, m54, m51⟩, -, WN, CO⟩ := I
    obtain ⟨MT, MTB, -⟩ := mk_t M
    cases d2 with
    | zero => exact fun _ z => nomatch z
    | succ d2 =>
      have mt := MT 167 s.toNat (by omega)
      refine sjm_d (by omega) ?_
      refine pc_rA ?_; intro _ _ v43 e43
      rw [MT 170 _ (by omega), ee1] at e43
      refine pc_rA ?_; intro _ _ v45 e45
      rw [MT 171 _ (by omega), ee2] at e45
      rw [e43, e45]
      refine pc_sv (MP PB WL L m (mkx_c M (fun cc x q1 q2 q3 => E13 cc x (by omega))) (an_s AM ⟨by omega, by omega⟩ (fun cc x q1 q2 q3 q4 => k10.2 cc x q1 q2 (by omega))) (an_s AM ⟨by omega, Int.le_refl _⟩ (fun _ _ _ _ _ _ => rfl)) m57 (by omega)) ?_; intro w ⟨Mw, lw, Fw⟩
      exact pc_ret ⟨rfl, mg_nil Mw Fw lw.1 (by show w 160 88 + _ ≤ _; omega) z12⟩
end

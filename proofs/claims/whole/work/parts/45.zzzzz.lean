/- the image of a class: the class's side, whole -/
/-- the bytes of an image -/
def CIM (m : ms_M) (cn : Nat) (l7 : Int) (src b : Nat → Int) : Prop := (b 0 % 256 = 74 ∧ b 1 % 256 = 77 ∧ b 2 % 256 = (cn : Int) % 256) ∧ (∀ i : Nat, i < cn → ∀ x : Nat, x < cl_T m (i + 1) → b (3 + sm_T m i + x) % 256 = cb_T m (i + 1) x % 256) ∧ ∀ x : Nat, (x : Int) < l7 → b (3 + sm_T m cn + x) % 256 = src x % 256
section
variable {nn : Nat} {cn i id pos k : Nat} {h g u m w : ms_M}
theorem fr_w83 {l1 l3 l4 : Int} : ∀ (f : Nat) (l5 : Int) (h : ms_M), Pc (qw_X6_writeConstant_83 nn f l1 id l3 l4 l5 h) (fun u => ∀ cc y : Nat, ¬ cc = id → u cc y = h cc y) := by
  intro f
  induction f with
  | zero => intro l5 h; exact fun _ z => nomatch z
  | succ f ih =>
    intro l5 h
    unfold qw_X6_writeConstant_83
    refine pc_if (fun z => pc_ret (fun _ _ _ => rfl)) (fun z => ?_)
    refine pc_xl ?_; intro v1 _
    refine pc_rA ?_; intro _ _ v3 _
    refine pc_xl ?_; intro v4 _
    refine pc_xl ?_; intro v5 _
    refine pc_xl ?_; intro v6 _
    refine pc_xl ?_; intro v7 _
    refine pc_xl ?_; intro v8 _
    refine pc_wT ?_; intro h9 e9
    refine pc_xl ?_; intro v10 _
    exact pc_imp (ih v10 h9) (fun u a cc y z => by rw [a cc y z, e9, up_n (by omega)])
theorem fr_wcn {l1 l3 : Int} : Pc (qf_X6_writeConstant nn l1 id l3 h) (fun u => ∀ cc y : Nat, ¬ cc = id → u cc y = h cc y) := by
  unfold qf_X6_writeConstant
  refine pc_rA ?_; intro _ _ v13 _
  refine pc_rA ?_; intro _ _ v15 _
  refine pc_se ?_; intro u17 _
  refine pc_if (fun z => pc_ret (fun _ _ _ => rfl)) (fun _ => ?_)
  refine pc_xl ?_; intro v18 _
  refine pc_lS ?_; intro v19 _
  refine pc_if (fun _ => ?_) (fun z => pc_ret (fun _ _ _ => rfl))
  refine pc_rA ?_; intro _ _ v21 _
  refine pc_xl ?_; intro v22 _
  refine pc_wT ?_; intro h23 e23
  refine pc_rA ?_; intro _ _ v25 _
  refine pc_if (fun _ => pc_imp (fr_w83 nn 1 h23) (fun u a cc y z => by rw [a cc y z, e23, up_n (by omega)])) (fun _ => ?_)
  refine pc_xl ?_; intro v26 _
  refine pc_xl ?_; intro v27 _
  refine pc_xl ?_; intro v28 _
  refine pc_wT ?_; intro h29 e29
  refine pc_rA ?_; intro _ _ v32 _
  refine pc_xl ?_; intro v33 _
  refine pc_se ?_; intro u35 e35
  exact pc_ret (fun cc y z => by rw [cpn_fr e35 cc y z, e29, up_n (by omega), e23, up_n (by omega)])
theorem fr_40 : ∀ (f : Nat) (l2 l3 : Int) (h : ms_M) (c s : Nat), Pc (qw_X6_closeImage_40 nn f id l2 l3 h c s) (fun A => A.1 = (id : Int) ∧ ∀ cc y : Nat, ¬ cc = id → A.2.1 cc y = h cc y) := by
  intro f
  induction f with
  | zero => intro l2 l3 h c s; exact fun _ z => nomatch z
  | succ f ih =>
    intro l2 l3 h c s
    unfold qw_X6_closeImage_40
    refine pc_if (fun z => ?_) (fun z => ?_)
    · refine pc_cpS ?_; intro h4 e4
      refine pc_ret ⟨rfl, fun cc y z => ?_⟩
      show h4 cc y = h cc y
      rw [e4]; unfold cp_M; rw [if_neg (by omega)]
    · refine pc_sv fr_wcn ?_; intro u6 E6
      refine pc_rA ?_; intro _ _ v8 _
      refine pc_rA ?_; intro _ _ v10 _
      refine pc_se ?_; intro u12 _
      refine pc_xl ?_; intro v13 _
      refine pc_xl ?_; intro v14 _
      exact pc_imp (ih v13 v14 u6 c s) (fun A a => ⟨a.1, fun cc y z => by rw [a.2 cc y z]; exact E6 cc y z⟩)
/-- what closing an image changes -/
def FCI (h u : ms_M) : Prop := (256 ≤ cn_M h ∧ cn_M h < 700000) ∧ cn_M u = cn_M h + 1 ∧ ∀ cc y : Nat, ¬ cc = cn_M h → ¬ (cc = 900000 ∧ y = 0) → ¬ (cc = 900001 ∧ y = cn_M h) → u cc y = h cc y
theorem nw_cn {y : Int} {z : ms_M} (hM : 256 ≤ h 900000 0 ∧ h 900000 0 < 700000) (e : z = nw_M h y (fun _ => 0)) : FCI h z ∧ ln_I z (cn_M h) = y := by
  have c1 : (256 ≤ cn_M h ∧ cn_M h < 700000) := by unfold cn_M; omega
  have z0 : z 900000 0 = h 900000 0 + 1 := by rw [e]; unfold nw_M; rw [if_neg (by omega), if_pos ⟨rfl, rfl⟩]
  refine ⟨⟨c1, ?_, fun cc y z1 z2 z3 => ?_⟩, ?_⟩
  · unfold cn_M; omega
  · rw [e]; unfold nw_M; rw [if_neg z1, if_neg z2, if_neg z3]
  · unfold ln_I
    rw [if_neg (by omega), e]
    unfold nw_M; rw [if_neg (by omega), if_neg (by omega), if_pos ⟨rfl, rfl⟩]
theorem fci_k (F : FCI h g) (e : ∀ cc y : Nat, ¬ cc = cn_M h → u cc y = g cc y) : FCI h u := by
  obtain ⟨f1, f2, f3⟩ := F
  refine ⟨f1, ?_, fun cc y z1 z2 z3 => by rw [e cc y z1]; exact f3 cc y z1 z2 z3⟩
  unfold cn_M at *
  rw [e 900000 0 (by omega)]; exact f2
theorem fr_ci : Pc (qf_X6_closeImage nn h) (fun A => A.1 = (cn_M h : Int) ∧ FCI h A.2.1) := by
  unfold qf_X6_closeImage
  refine pc_se ?_; intro u17 _
  refine pc_if (fun z => ?_) (fun z => ?_)
  · refine pc_se ?_; intro u19 _
    refine pc_ck ?_; intro _
    refine pc_nB ?_; intro z hM ez
    obtain ⟨F, -⟩ := nw_cn hM ez
    refine pc_wT ?_; intro h22 e22
    refine pc_wT ?_; intro h23 e23
    refine pc_xl ?_; intro v25 _
    refine pc_wT ?_; intro h26 e26
    exact pc_imp (fr_40 nn 3 1 h26 _ _) (fun A a => ⟨a.1, fci_k F (fun cc y z => by rw [a.2 cc y z, e26, up_n (by omega), e23, up_n (by omega), e22, up_n (by omega)])⟩)
  · refine pc_ck ?_; intro _
    refine pc_nB ?_; intro z hM ez
    exact pc_ret ⟨rfl, (nw_cn hM ez).1⟩
/-- what closing a class changes -/
theorem fr_cc : Pc (qf_X0_closeClass nn (k : Int) h) (fun A => (A.1 33 7 = h 33 7 ∨ (h 33 7 = -1 ∧ qf_X2_tokenOfClass nn (k : Int) h = some (A.1 33 7))) ∧ ∀ cc y : Nat, cc < 256 → ¬ cc = 43 → ¬ (cc = 33 ∧ y = 7) → A.1 cc y = h cc y) := by
  unfold qf_X0_closeClass
  refine pc_se ?_; intro u3 _
  refine pc_se ?_; intro u6 e6
  refine pc_sv (P := fun u8 => (u8 33 7 = h 33 7 ∨ (h 33 7 = -1 ∧ qf_X2_tokenOfClass nn (k : Int) h = some (u8 33 7))) ∧ ∀ cc y : Nat, ¬ (cc = 33 ∧ y = 7) → u8 cc y = h cc y) ?_ ?_
  · unfold qf_X0_noteMuch
    refine pc_if (fun _ => pc_ret ⟨.inl rfl, fun _ _ _ => rfl⟩) (fun _ => ?_)
    refine pc_if (fun _ => pc_ret ⟨.inl rfl, fun _ _ _ => rfl⟩) (fun z => ?_)
    refine pc_xl ?_; intro h2 e2
    refine pc_ret ⟨.inr ⟨Classical.byContradiction z, ?_⟩, fun cc y z => by rw [e2, up_n z]⟩
    rw [e2, up_s]; exact e6
  intro u8 ⟨a1, a2⟩
  have R : Pc (some (u8, 0, 0) : Option (ms_M × Nat × Nat)) (fun A => (A.1 33 7 = h 33 7 ∨ (h 33 7 = -1 ∧ qf_X2_tokenOfClass nn (k : Int) h = some (A.1 33 7))) ∧ ∀ cc y : Nat, cc < 256 → ¬ cc = 43 → ¬ (cc = 33 ∧ y = 7) → A.1 cc y = h cc y) := pc_ret ⟨a1, fun cc y _ _ z => a2 cc y z⟩
  refine pc_if (fun _ => R) (fun _ => pc_if (fun _ => R) (fun _ => pc_if (fun _ => R) (fun _ => pc_if (fun _ => R) (fun _ => ?_))))
  refine pc_sv fr_ci ?_; intro u17 ⟨_, F⟩
  have c1 := F.1
  unfold wr_QB
  refine pc_if (fun _ => ?_) (fun _ => fun _ z => nomatch z)
  refine pc_ret ⟨?_, fun cc y z1 z2 z3 => ?_⟩
  · have e : up_M u17.2.1 43 (k : Int).toNat u17.1 33 7 = u8 33 7 := by rw [up_n (by omega)]; exact F.2.2 33 7 (by omega) (by omega) (by omega)
    show (up_M u17.2.1 43 (k : Int).toNat u17.1 33 7 = h 33 7 ∨ (h 33 7 = -1 ∧ qf_X2_tokenOfClass nn (k : Int) h = some (up_M u17.2.1 43 (k : Int).toNat u17.1 33 7)))
    rw [e]; exact a1
  · show up_M u17.2.1 43 _ _ cc y = _
    rw [up_n (by omega), F.2.2 cc y (by omega) (by omega) (by omega)]; exact a2 cc y z3
end

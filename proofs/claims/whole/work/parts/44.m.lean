/- HEADS: overriding, both sides -/
/-- member j may stand in place of member o -/
def SMo (r : ms_M) (j o : Nat) : Prop := r 182 j = 1 ∧ r 182 o = 1 ∧ r 187 j = r 187 o ∧ r 189 j = r 189 o ∧ ∀ i : Nat, (i : Int) < r 189 j → r 195 ((r 188 j).toNat + i) = r 195 ((r 188 o).toNat + i)
section
variable {nn : Nat} {K P V U : Nat → Int} {C : Nat → Nat} {c n N mt : Nat} {q : Int} {h g r w u v h0 r0 : ms_M}
theorem pc_div {α : Type} {Q : α → Prop} {x y : Int} {F : Int → Option α} (hx : 0 ≤ x) (k : ∀ v, v = x / y → Pc (F v) Q) : Pc (xl (Int.tdiv x y) F) Q := k _ (Int.tdiv_eq_ediv_of_nonneg hx)
theorem pc_mod {α : Type} {Q : α → Prop} {x y : Int} {F : Int → Option α} (hx : 0 ≤ x) (k : ∀ v, v = x % y → Pc (F v) Q) : Pc (xl (Int.tmod x y) F) Q := k _ (Int.tmod_eq_emod_of_nonneg hx)
theorem c_isM {x : Nat} (hx : x < 96) : Pc (qf_X2_isMethod nn (x : Int) h) (fun u => (u = 1 ∧ ((x % 12 : Nat) : Int) < h 21 (x / 12)) ∨ (u = 0 ∧ ¬ ((x % 12 : Nat) : Int) < h 21 (x / 12))) := by
  unfold qf_X2_isMethod
  refine pc_if (fun z => absurd z (by omega)) (fun _ => ?_)
  refine pc_if (fun z => absurd z (by omega)) (fun _ => ?_)
  refine pc_mod (by omega) ?_; intro v3 e3
  refine pc_div (by omega) ?_; intro v5 e5
  refine pc_rA ?_; intro _ _ v6 e6
  rw [show v5.toNat = x / 12 by omega] at e6
  refine pc_if (fun z => pc_ret (.inr ⟨rfl, by omega⟩)) (fun z => pc_ret (.inl ⟨rfl, by omega⟩))
/-- the method in its row is one -/
theorem c_isMm (M : MTB V C n mt q h r) {j k : Nat} (hk : k < 8) (hj : j < mt) (A : MSm r k 1 j) : Pc (qf_X2_isMethod nn ((12 * k + mcn_T r k 1 j : Nat) : Int) h) (fun u => u = 1) := by
  have m0 := M.1 k hk
  have lt := mcn_lt hj A
  refine pc_imp (c_isM (by omega)) (fun u z => ?_)
  rw [show (12 * k + mcn_T r k 1 j) % 12 = mcn_T r k 1 j by omega, show (12 * k + mcn_T r k 1 j) / 12 = k by omega] at z
  rcases z with ⟨a, b⟩ | ⟨a, b⟩
  · exact a
  · omega
theorem c_parT (M : MTB V C n mt q h r) {j k i : Nat} (hk : k < 8) (hj : j < mt) (A : MSm r k 1 j) (hi : (i : Int) < r 189 j) : Pc (qf_X2_parameterType nn ((12 * k + mcn_T r k 1 j : Nat) : Int) (i : Int) h) (fun u => u = h 29 (6 * (12 * k + mcn_T r k 1 j) + i)) := by
  have m0 := M.1 k hk
  have lt := mcn_lt hj A
  have mb := M.2.2.1 j k hj hk A
  have b1 := mb.2.2.1
  unfold qf_X2_parameterType qf_X2_parametersOf
  refine pc_if (fun z => absurd z (by omega)) (fun _ => ?_)
  refine pc_sv (P := fun y => y = r 189 j) ?_ ?_
  · refine pc_sv (c_isMm M hk hj A) ?_; intro u2 e2
    refine pc_if (fun z => absurd z (by omega)) (fun _ => ?_)
    refine pc_rA ?_; intro _ _ v4 e4
    rw [Int.toNat_natCast, b1.1] at e4
    exact pc_ret e4
  · intro u2 e2
    refine pc_if (fun z => absurd z (by omega)) (fun _ => ?_)
    refine pc_xl ?_; intro v4 e4
    rw [oq_mul_eq (by omega) (by omega) (by omega)] at e4
    refine pc_add (by omega) ?_; intro v5 e5
    refine pc_rA ?_; intro _ _ v6 e6
    rw [show v5.toNat = 6 * (12 * k + mcn_T r k 1 j) + i by omega] at e6
    exact pc_ret e6
theorem c_131 (B : TBc K P c h) (hf : h 2 11 = 0) {x t : Nat} {l3 : Int} (ht : t < c) (e22 : h 22 x = (t : Int)) : Pc (qj_X2_checkOverride_131 nn (x : Int) l3 h) (fun u => (¬ l3 = 0 ∧ u = h) ∨ (l3 = 0 ∧ u 2 11 = 10 ∧ u 2 12 = P t)) := by
  unfold qj_X2_checkOverride_131
  refine pc_if (fun z => pc_ret (.inl ⟨z, rfl⟩)) (fun z => ?_)
  refine pc_rA ?_; intro _ _ v3 e3
  rw [Int.toNat_natCast, e22] at e3
  refine pc_sv (c_tell B hf ht e3) ?_; intro u5 q5
  exact pc_ret (.inr ⟨Classical.byContradiction z, q5.1⟩)
theorem c_ov (B : TBc K P c h) (hf : h 2 11 = 0) (M : MTB V C n mt q h r) {j k o k2 t : Nat} (hk : k < 8) (hj : j < mt) (A : MSm r k 1 j) (hk2 : k2 < 8) (ho : o < mt) (A2 : MSm r k2 1 o) (ht : t < c) (e186 : r 186 j = (t : Int)) : ∀ (f l : Nat) (l3 : Int), ((l3 = 1 ∧ (r 182 j = 1 ∧ r 182 o = 1 ∧ r 187 j = r 187 o ∧ r 189 j = r 189 o) ∧ ∀ i : Nat, i < l → (i : Int) < r 189 j → r 195 ((r 188 j).toNat + i) = r 195 ((r 188 o).toNat + i)) ∨ (l3 = 0 ∧ ¬ SMo r j o)) → Pc (qw_X2_checkOverride_87 nn f ((12 * k + mcn_T r k 1 j : Nat) : Int) ((12 * k2 + mcn_T r k2 1 o : Nat) : Int) l3 (l : Int) h) (fun u => (SMo r j o ∧ u = h) ∨ (¬ SMo r j o ∧ u 2 11 = 10 ∧ u 2 12 = P t)) := by
  have m0 := M.1 k hk
  have lt := mcn_lt hj A
  have mj := M.2.2.1 j k hj hk A
  have mo := M.2.2.1 o k2 ho hk2 A2
  have b1 := mj.2.2.1
  have e22 : h 22 (12 * k + mcn_T r k 1 j) = (t : Int) := by rw [mj.1.1]; exact e186
  intro f
  induction f with
  | zero => intros; exact pc_none
  | succ f ih =>
    intro l l3 H
    have END : (l3 = 1 → SMo r j o) → Pc (qj_X2_checkOverride_131 nn ((12 * k + mcn_T r k 1 j : Nat) : Int) l3 h) (fun u => (SMo r j o ∧ u = h) ∨ (¬ SMo r j o ∧ u 2 11 = 10 ∧ u 2 12 = P t)) := fun y => by
      refine pc_imp (c_131 B hf ht e22) (fun u z => ?_)
      rcases H with ⟨a, b, d⟩ | ⟨a, b⟩
      · rcases z with ⟨z1, z2⟩ | ⟨z1, z2⟩
        · exact .inl ⟨y a, z2⟩
        · omega
      · rcases z with ⟨z1, z2⟩ | ⟨z1, z2⟩
        · exact absurd a z1
        · exact .inr ⟨b, z2⟩
    unfold qw_X2_checkOverride_87
    refine pc_rA ?_; intro _ _ v8 e8
    rw [Int.toNat_natCast, b1.1] at e8
    refine pc_if (fun z => ?_) (fun z => ?_)
    · refine END (fun y => ?_)
      rcases H with ⟨a, b, d⟩ | ⟨a, b⟩
      · exact ⟨b.1, b.2.1, b.2.2.1, b.2.2.2, fun i hi => d i (by omega) hi⟩
      · omega
    · refine pc_if (fun y => END (fun y2 => absurd y (by omega))) (fun y => ?_)
      rcases H with ⟨a, b, d⟩ | ⟨a, b⟩
      · have p1 := mj.2.2.2.1 l (by omega)
        have p2 := mo.2.2.2.1 l (by omega)
        refine pc_sv (c_parT M hk hj A (i := l) (by omega)) ?_; intro u10 q10
        refine pc_sv (c_parT M hk2 ho A2 (i := l) (by omega)) ?_; intro u12 q12
        refine pc_if (fun y1 => ?_) (fun y1 => ?_)
        · refine pc_add (by omega) ?_; intro v13 e13
          rw [show v13 = ((l + 1 : Nat) : Int) by omega]
          refine ih (l + 1) 0 (.inr ⟨rfl, fun s => y1 ?_⟩)
          rw [q10, q12]
          have e := s.2.2.2.2 l (by omega)
          rw [p1.2.1.2.2, p2.2.1.2.2] at e
          exact (ty_i p1.2.1.1 p2.2.1.1).mp e
        · refine pc_add (by omega) ?_; intro v14 e14
          rw [show v14 = ((l + 1 : Nat) : Int) by omega]
          refine ih (l + 1) 1 (.inl ⟨rfl, b, fun i hi hi2 => ?_⟩)
          by_cases il : i = l
          · rw [il, p1.2.1.2.2, p2.2.1.2.2]
            have e : u10 = u12 := Classical.byContradiction y1
            rw [← q10, ← q12, e]
          · exact d i (by omega) hi2
      · exact absurd a y
theorem r_148 (BK : TBn K c) (D : HDr K P V C c n r) (rf : r 160 9 = 0) {j t : Nat} {l3 : Int} (ht : t < c) (e186 : r 186 j = (t : Int)) : Pc (qj_X13_overrides_148 nn (j : Int) l3 r) (fun v => (¬ l3 = 0 ∧ v = r) ∨ (l3 = 0 ∧ v 160 9 = 10 ∧ v 160 10 = P t)) := by
  unfold qj_X13_overrides_148
  refine pc_if (fun z => pc_ret (.inl ⟨z, rfl⟩)) (fun z => ?_)
  refine pc_rA ?_; intro _ _ v2 e2
  rw [Int.toNat_natCast, e186] at e2
  refine pc_sv (r_wrg D.1 rf ht e2) ?_; intro u4 q4
  exact pc_ret (.inr ⟨Classical.byContradiction z, q4.1⟩)
theorem r_ov (BK : TBn K c) (D : HDr K P V C c n r) (rf : r 160 9 = 0) {j o t : Nat} (b1 : 0 ≤ r 189 j ∧ r 189 j ≤ 6) (ht : t < c) (e186 : r 186 j = (t : Int)) : ∀ (f l : Nat) (l3 : Int), ((l3 = 1 ∧ (r 182 j = 1 ∧ r 182 o = 1 ∧ r 187 j = r 187 o ∧ r 189 j = r 189 o) ∧ ∀ i : Nat, i < l → (i : Int) < r 189 j → r 195 ((r 188 j).toNat + i) = r 195 ((r 188 o).toNat + i)) ∨ (l3 = 0 ∧ ¬ SMo r j o)) → (0 ≤ r 188 j ∧ r 188 j ≤ 1000000) → (0 ≤ r 188 o ∧ r 188 o ≤ 1000000) → Pc (qw_X13_overrides_90 nn f (j : Int) (o : Int) l3 (l : Int) r) (fun v => (SMo r j o ∧ v = r) ∨ (¬ SMo r j o ∧ v 160 9 = 10 ∧ v 160 10 = P t)) := by
  intro f
  induction f with
  | zero => intros; exact pc_none
  | succ f ih =>
    intro l l3 H hj ho
    have END : (l3 = 1 → SMo r j o) → Pc (qj_X13_overrides_148 nn (j : Int) l3 r) (fun v => (SMo r j o ∧ v = r) ∨ (¬ SMo r j o ∧ v 160 9 = 10 ∧ v 160 10 = P t)) := fun y => by
      refine pc_imp (r_148 BK D rf ht e186) (fun u z => ?_)
      rcases H with ⟨a, b, d⟩ | ⟨a, b⟩
      · rcases z with ⟨z1, z2⟩ | ⟨z1, z2⟩
        · exact .inl ⟨y a, z2⟩
        · omega
      · rcases z with ⟨z1, z2⟩ | ⟨z1, z2⟩
        · exact absurd a z1
        · exact .inr ⟨b, z2⟩
    unfold qw_X13_overrides_90
    refine pc_rA ?_; intro _ _ v7 e7
    rw [Int.toNat_natCast] at e7
    refine pc_if (fun z => ?_) (fun z => ?_)
    · refine END (fun y => ?_)
      rcases H with ⟨a, b, d⟩ | ⟨a, b⟩
      · exact ⟨b.1, b.2.1, b.2.2.1, b.2.2.2, fun i hi => d i (by omega) hi⟩
      · omega
    · refine pc_if (fun y => END (fun y2 => absurd y (by omega))) (fun y => ?_)
      rcases H with ⟨a, b, d⟩ | ⟨a, b⟩
      · refine pc_rA ?_; intro _ _ v10 e10
        rw [Int.toNat_natCast] at e10
        refine pc_add (by omega) ?_; intro v11 e11
        refine pc_rA ?_; intro _ _ v12 e12
        refine pc_rA ?_; intro _ _ v15 e15
        rw [Int.toNat_natCast] at e15
        refine pc_add (by omega) ?_; intro v16 e16
        refine pc_rA ?_; intro _ _ v17 e17
        rw [show v11.toNat = (r 188 j).toNat + l by omega] at e12
        rw [show v16.toNat = (r 188 o).toNat + l by omega] at e17
        refine pc_if (fun y1 => ?_) (fun y1 => ?_)
        · refine pc_add (by omega) ?_; intro v18 e18
          rw [show v18 = ((l + 1 : Nat) : Int) by omega]
          refine ih (l + 1) 0 (.inr ⟨rfl, fun s => y1 ?_⟩) hj ho
          rw [e12, e17]; exact s.2.2.2.2 l (by omega)
        · refine pc_add (by omega) ?_; intro v19 e19
          rw [show v19 = ((l + 1 : Nat) : Int) by omega]
          refine ih (l + 1) 1 (.inl ⟨rfl, b, fun i hi hi2 => ?_⟩) hj ho
          by_cases il : i = l
          · rw [il, ← e12, ← e17]; exact Classical.byContradiction y1
          · exact d i (by omega) hi2
      · exact absurd a y
/-- one method against what it overrides, both sides -/
theorem j_ov (BK : TBn K c) (S : CKd K V C n N) (H : HDS K P V C c n N mt q h r) (hp : ∀ j : Nat, j < mt → 0 ≤ r 188 j ∧ r 188 j ≤ 1000000) (hf : h 2 11 = 0) (rf : r 160 9 = 0) {j k : Nat} (hk : k < n) (hj : j < mt) (A : MSm r k 1 j) : Pc (qf_X2_checkOverride nn ((12 * k + mcn_T r k 1 j : Nat) : Int) h) (fun u => Pc (qf_X13_overrides nn (j : Int) r) (fun v => (u = h ∧ v = r) ∨ SFj u v)) := by
  have H' := H
  obtain ⟨⟨H1, H2, H3⟩, ⟨n8, UP, OK, KN⟩, M, e28, HN, HC, HM⟩ := H'
  have k8 : k < 8 := by omega
  have m0 := M.1 k k8
  have lt := mcn_lt hj A
  have mj := M.2.2.1 j k hj k8 A
  have nj := HN j hj
  obtain ⟨t, et⟩ : ∃ t : Nat, r 186 j = (t : Int) := ⟨(r 186 j).toNat, by omega⟩
  have kt : K t = 2 := by have := nj.2; rw [et, Int.toNat_natCast] at this; exact this
  have tc := tb_lt BK (i := t) (by omega)
  have ub := upk_b S hk (UP k hk)
  have hpj := hp j hj
  have j1 : r 181 j = (k : Int) := A.1
  unfold qf_X2_checkOverride
  refine pc_div (by omega) ?_; intro v19 e19
  have x19 : v19 = (k : Int) := by omega
  refine pc_add (by omega) ?_; intro v20 e20
  refine pc_sv (P := fun y => y = r 180 k) ?_ ?_
  · unfold qf_X4_above qf_X4_isClass
    refine pc_sv (P := fun y => y = 1) ?_ ?_
    · refine pc_if (fun y => absurd y (by omega)) (fun _ => ?_)
      exact pc_if (fun y => absurd y (by omega)) (fun _ => pc_ret rfl)
    · intro u6 e6
      refine pc_if (fun y => absurd y (by omega)) (fun _ => ?_)
      refine pc_rA ?_; intro _ _ v3 e3
      refine pc_ret ?_
      have e13 : v3 = h 13 v20.toNat := e3
      rw [e13, KN.1 v20.toNat (by omega), if_neg (by omega), if_pos (by omega), show v20.toNat - 8 = k by omega]
  · intro u22 e22
    rw [e22]
    refine pc_sv (P := fun y => y = V t) ?_ ?_
    · unfold qf_X2_nameOfMethod
      refine pc_sv (c_isMm M k8 hj A) ?_; intro u2 e2
      refine pc_if (fun y => absurd y (by omega)) (fun _ => ?_)
      refine pc_rA ?_; intro _ _ v5 e5
      rw [Int.toNat_natCast, mj.1.1, et] at e5
      refine pc_sv (c_valueAt BK H1.1 H1.2.1 kt e5) ?_; intro u7 q7
      exact pc_ret q7
    · intro u24 e24
      rw [e24]
      refine pc_fl ?_
      unfold qf_X13_overrides
      refine pc_rA ?_; intro _ _ w24 f24
      rw [Int.toNat_natCast, j1] at f24
      refine pc_add (by omega) ?_; intro w25 f25
      refine pc_sv (r_up (by omega)) ?_; intro w27 f27
      rw [uq_8 (by omega), show (w25 - 8).toNat = k by omega] at f27
      rw [f27]
      refine pc_rA ?_; intro _ _ w29 f29
      rw [Int.toNat_natCast, et] at f29
      rw [f29]
      refine pc_fl ?_
      refine p2_sv (j_methodOf BK S H kt ub) ?_; intro u26 w31 L
      rcases L with ⟨a1, a2⟩ | ⟨o, k2, ho, hk2, A2, _, ew, eu⟩
      · refine pc_if (fun y => absurd a1 y) (fun _ => ?_)
        refine pc_ret ?_
        refine pc_if (fun y => absurd a2 y) (fun _ => ?_)
        exact pc_ret (.inl ⟨rfl, rfl⟩)
      · have m2 := M.1 k2 hk2
        have lo := mcn_lt ho A2
        have mo := M.2.2.1 o k2 ho hk2 A2
        have hpo := hp o ho
        rw [ew, eu]
        -- both come to the same
        have FIN : ∀ (u v : ms_M), ((SMo r j o ∧ u = h) ∨ (¬ SMo r j o ∧ u 2 11 = 10 ∧ u 2 12 = P t)) → ((SMo r j o ∧ v = r) ∨ (¬ SMo r j o ∧ v 160 9 = 10 ∧ v 160 10 = P t)) → (u = h ∧ v = r) ∨ SFj u v := fun u v x y => by
          rcases x with ⟨x1, x2⟩ | ⟨x1, x2, x3⟩
          · rcases y with ⟨y1, y2⟩ | ⟨y1, _⟩
            · exact .inl ⟨x2, y2⟩
            · exact absurd x1 y1
          · rcases y with ⟨y1, _⟩ | ⟨y1, y2, y3⟩
            · exact absurd y1 x1
            · exact .inr ⟨by omega, by omega, by omega⟩
        have c0 : ∀ l : Nat, l = 0 → ¬ SMo r j o → Pc (qj_X2_checkOverride_82 nn ((12 * k + mcn_T r k 1 j : Nat) : Int) ((12 * k2 + mcn_T r k2 1 o : Nat) : Int) h) (fun u => (SMo r j o ∧ u = h) ∨ (¬ SMo r j o ∧ u 2 11 = 10 ∧ u 2 12 = P t)) := fun _ _ z => by
          unfold qj_X2_checkOverride_82
          exact c_ov H1.1 hf M k8 hj A hk2 ho A2 tc et nn 0 0 (.inr ⟨rfl, z⟩)
        have r0' : ¬ SMo r j o → Pc (qj_X13_overrides_85 nn (j : Int) (o : Int) r) (fun v => (SMo r j o ∧ v = r) ∨ (¬ SMo r j o ∧ v 160 9 = 10 ∧ v 160 10 = P t)) := fun z => by
          unfold qj_X13_overrides_85
          exact r_ov BK H3 rf (by have := mj.2.2.1; omega) tc et nn 0 0 (.inr ⟨rfl, z⟩) hpj hpo
        refine pc_if (fun _ => ?_) (fun y => absurd (fun y2 => by omega) y)
        have CC1 : Pc (rd_A 96 25 ((12 * k + mcn_T r k 1 j : Nat) : Int) h fun v28 => if ¬ v28 = 0 then (qj_X2_checkOverride_82 nn ((12 * k + mcn_T r k 1 j : Nat) : Int) ((12 * k2 + mcn_T r k2 1 o : Nat) : Int) h) else (rd_A 96 25 ((12 * k2 + mcn_T r k2 1 o : Nat) : Int) h fun v30 => if ¬ v30 = 0 then (qj_X2_checkOverride_82 nn ((12 * k + mcn_T r k 1 j : Nat) : Int) ((12 * k2 + mcn_T r k2 1 o : Nat) : Int) h) else (rd_A 96 24 ((12 * k + mcn_T r k 1 j : Nat) : Int) h fun v32 => rd_A 96 24 ((12 * k2 + mcn_T r k2 1 o : Nat) : Int) h fun v34 => if ¬ v32 = v34 then (qj_X2_checkOverride_82 nn ((12 * k + mcn_T r k 1 j : Nat) : Int) ((12 * k2 + mcn_T r k2 1 o : Nat) : Int) h) else (rd_A 96 27 ((12 * k + mcn_T r k 1 j : Nat) : Int) h fun v36 => rd_A 96 27 ((12 * k2 + mcn_T r k2 1 o : Nat) : Int) h fun v38 => if ¬ v36 = v38 then (qj_X2_checkOverride_82 nn ((12 * k + mcn_T r k 1 j : Nat) : Int) ((12 * k2 + mcn_T r k2 1 o : Nat) : Int) h) else (qw_X2_checkOverride_87 nn nn ((12 * k + mcn_T r k 1 j : Nat) : Int) ((12 * k2 + mcn_T r k2 1 o : Nat) : Int) 1 0 h))))) (fun u => (SMo r j o ∧ u = h) ∨ (¬ SMo r j o ∧ u 2 11 = 10 ∧ u 2 12 = P t)) := by
          have s1 := mj.2.1
          have s2 := mo.2.1
          refine pc_rA ?_; intro _ _ v28 e28'
          rw [Int.toNat_natCast] at e28'
          refine pc_if (fun z => c0 0 rfl (fun s => by have := s.1; omega)) (fun z => ?_)
          refine pc_rA ?_; intro _ _ v30 e30
          rw [Int.toNat_natCast] at e30
          refine pc_if (fun z => c0 0 rfl (fun s => by have := s.2.1; omega)) (fun z2 => ?_)
          refine pc_rA ?_; intro _ _ v32 e32
          refine pc_rA ?_; intro _ _ v34 e34
          rw [Int.toNat_natCast] at e32 e34
          have ti := ty_i mj.1.2.1 mo.1.2.1
          refine pc_if (fun z => c0 0 rfl (fun s => z ?_)) (fun z3 => ?_)
          · rw [e32, e34]
            have := s.2.2.1
            rw [mj.1.2.2.2, mo.1.2.2.2] at this
            exact ti.mp this
          · refine pc_rA ?_; intro _ _ v36 e36
            refine pc_rA ?_; intro _ _ v38 e38
            rw [Int.toNat_natCast] at e36 e38
            rw [mj.2.2.1.1] at e36
            rw [mo.2.2.1.1] at e38
            refine pc_if (fun z => c0 0 rfl (fun s => z (by rw [e36, e38]; exact s.2.2.2.1))) (fun z4 => ?_)
            refine c_ov H1.1 hf M k8 hj A hk2 ho A2 tc et nn 0 1 (.inl ⟨rfl, ⟨by omega, by omega, ?_, by omega⟩, fun i hi => absurd hi (by omega)⟩)
            rw [mj.1.2.2.2, mo.1.2.2.2]
            exact ti.mpr (by rw [← e32, ← e34]; exact Classical.byContradiction z3)
        refine pc_imp CC1 (fun u x => ?_)
        refine pc_if (fun _ => ?_) (fun y => absurd (fun y2 => by omega) y)
        refine pc_rA ?_; intro _ _ w33 f33
        rw [Int.toNat_natCast] at f33
        refine pc_if (fun z => pc_imp (r0' (fun s => by have := s.1; omega)) (fun v y => FIN u v x y)) (fun z => ?_)
        refine pc_rA ?_; intro _ _ w35 f35
        rw [Int.toNat_natCast] at f35
        refine pc_if (fun z => pc_imp (r0' (fun s => by have := s.2.1; omega)) (fun v y => FIN u v x y)) (fun z2 => ?_)
        refine pc_rA ?_; intro _ _ w37 f37
        refine pc_rA ?_; intro _ _ w39 f39
        rw [Int.toNat_natCast] at f37 f39
        refine pc_if (fun z => pc_imp (r0' (fun s => by have := s.2.2.1; omega)) (fun v y => FIN u v x y)) (fun z3 => ?_)
        refine pc_rA ?_; intro _ _ w41 f41
        refine pc_rA ?_; intro _ _ w43 f43
        rw [Int.toNat_natCast] at f41 f43
        refine pc_if (fun z => pc_imp (r0' (fun s => by have := s.2.2.2.1; omega)) (fun v y => FIN u v x y)) (fun z4 => ?_)
        refine pc_imp (r_ov BK H3 rf (by have := mj.2.2.1; omega) tc et nn 0 1 (.inl ⟨rfl, ⟨by omega, by omega, by omega, by omega⟩, fun i hi => absurd hi (by omega)⟩) hpj hpo) (fun v y => FIN u v x y)
/-- all methods, both sides -/
theorem j_ovs (BK : TBn K c) (S : CKd K V C n N) (H : HDS K P V C c n N mt q h r) (hp : ∀ j : Nat, j < mt → 0 ≤ r 188 j ∧ r 188 j ≤ 1000000) (hf : h 2 11 = 0) (rf : r 160 9 = 0) : ∀ (d f f2 x m : Nat), 96 + mt ≤ x + m + d → x ≤ 96 → m ≤ mt → (∀ j k : Nat, j < m → MSm r k 1 j → k < 8 → 12 * k + mcn_T r k 1 j < x) → (∀ j k : Nat, m ≤ j → j < mt → MSm r k 1 j → k < 8 → x ≤ 12 * k + mcn_T r k 1 j) → Pc (qw_X2_checkOverrides_2 nn f (x : Int) h) (fun u => Pc (qw_X13_heads_220 nn f2 (m : Int) r) (fun v => (u = h ∧ v = r) ∨ SFj u v)) := by
  have H' := H
  obtain ⟨⟨H1, H2, H3⟩, ⟨n8, UP, OK, KN⟩, M, e28, HN, HC, HM⟩ := H'
  intro d
  induction d with
  | zero =>
    intro f f2 x m hd hx hm A1 A2
    cases f with
    | zero => exact pc_none
    | succ f =>
      unfold qw_X2_checkOverrides_2
      refine pc_if (fun _ => ?_) (fun z => absurd (by omega) z)
      refine pc_ret ?_
      cases f2 with
      | zero => exact pc_none
      | succ f2 =>
        unfold qw_X13_heads_220
        refine pc_if (fun _ => pc_ret (.inl ⟨rfl, rfl⟩)) (fun z => absurd (by omega) z)
  | succ d ih =>
    intro f f2 x m hd hx hm A1 A2
    -- the class passes a place that is no method
    have CN : x < 96 → (∀ j k : Nat, j < mt → MSm r k 1 j → k < 8 → ¬ 12 * k + mcn_T r k 1 j = x) → Pc (qw_X2_checkOverrides_2 nn f (x : Int) h) (fun u => Pc (qw_X13_heads_220 nn f2 (m : Int) r) (fun v => (u = h ∧ v = r) ∨ SFj u v)) := fun x9 no => by
      cases f with
      | zero => exact pc_none
      | succ f =>
        unfold qw_X2_checkOverrides_2
        refine pc_if (fun z => absurd z (by omega)) (fun _ => ?_)
        refine pc_if (fun z => absurd hf z) (fun _ => ?_)
        refine pc_sv (c_isM x9) ?_; intro u6 q6
        refine pc_if (fun _ => ?_) (fun z => ?_)
        · refine pc_add (by omega) ?_; intro v7 e7
          rw [show v7 = ((x + 1 : Nat) : Int) by omega]
          refine ih f f2 (x + 1) m (by omega) (by omega) hm (fun j k h1 h2 h3 => by have := A1 j k h1 h2 h3; omega) (fun j k h1 h2 h3 h4 => ?_)
          have a := A2 j k h1 h2 h3 h4
          have b := no j k h2 h3 h4
          omega
        · exfalso
          rcases q6 with ⟨a, b⟩ | ⟨a, b⟩
          · have m0 := M.1 (x / 12) (by omega)
            rw [m0.1.2] at b
            obtain ⟨j, j1, j2, j3⟩ := mcn_sur (r := r) (k := ((x / 12 : Nat) : Int)) (s := 1) mt (x % 12) (by omega)
            exact no j (x / 12) j1 j2 (by omega) (by omega)
          · exact z a
    by_cases mm : m < mt
    · have cm := HC m mm
      obtain ⟨k, ek⟩ : ∃ k : Nat, r 181 m = (k : Int) := ⟨(r 181 m).toNat, by omega⟩
      have kn : k < n := by omega
      rcases msm_c ek with F0 | F1
      · -- a field: the reference goes on
        refine pc_fl ?_
        cases f2 with
        | zero => exact pc_none
        | succ f2 =>
          unfold qw_X13_heads_220
          refine pc_if (fun z => absurd z (by omega)) (fun _ => ?_)
          refine pc_if (fun z => absurd rf z) (fun _ => ?_)
          refine pc_rA ?_; intro _ m8 v4 e4
          rw [Int.toNat_natCast] at e4
          have s0 := F0.2
          refine pc_if (fun _ => ?_) (fun z => absurd (by omega) z)
          refine pc_add (by omega) ?_; intro v5 e5
          rw [show v5 = ((m + 1 : Nat) : Int) by omega]
          refine pc_fl (ih f f2 x (m + 1) (by omega) hx (by omega) (fun j k' h1 h2 h3 => ?_) (fun j k' h1 h2 h3 h4 => A2 j k' (by omega) h2 h3 h4))
          by_cases jm : j = m
          · rw [jm] at h2
            have := (msm_u F0 h2).2
            omega
          · exact A1 j k' (by omega) h2 h3
      · have k8 : k < 8 := by omega
        have m0 := M.1 k k8
        have lt := mcn_lt mm F1
        have ge := A2 m k (by omega) mm F1 k8
        by_cases eq : 12 * k + mcn_T r k 1 m = x
        · -- both look at it
          cases f with
          | zero => exact pc_none
          | succ f =>
            cases f2 with
            | zero => exact fun _ _ => pc_none
            | succ f2 =>
              unfold qw_X2_checkOverrides_2
              refine pc_if (fun z => absurd z (by omega)) (fun _ => ?_)
              refine pc_if (fun z => absurd hf z) (fun _ => ?_)
              rw [← eq]
              refine pc_sv (c_isMm M k8 mm F1) ?_; intro u6 q6
              refine pc_if (fun z => absurd z (by omega)) (fun _ => ?_)
              refine pc_fl ?_
              unfold qw_X13_heads_220
              refine pc_if (fun z => absurd z (by omega)) (fun _ => ?_)
              refine pc_if (fun z => absurd rf z) (fun _ => ?_)
              refine pc_rA ?_; intro _ m8 v4 e4
              rw [Int.toNat_natCast] at e4
              have s1 := F1.2
              refine pc_if (fun z => absurd z (by omega)) (fun _ => ?_)
              refine pc_fl ?_
              refine p2_sv (j_ov BK S H hp hf rf kn mm F1) ?_; intro u9 w7 J
              refine pc_add (by omega) ?_; intro v10 e10
              refine pc_fl ?_
              refine pc_add (by omega) ?_; intro v8 e8
              rw [show v8 = ((m + 1 : Nat) : Int) by omega, show v10 = ((x + 1 : Nat) : Int) by omega]
              rcases J with ⟨j1, j2⟩ | s
              · rw [j1, j2]
                refine pc_fl (ih f f2 (x + 1) (m + 1) (by omega) (by omega) (by omega) (fun j k' h1 h2 h3 => ?_) (fun j k' h1 h2 h3 h4 => ?_))
                · by_cases jm : j = m
                  · rw [jm] at h2 ⊢
                    have e := (msm_u F1 h2).1
                    have ek2 : k' = k := by omega
                    rw [ek2]; omega
                  · have := A1 j k' (by omega) h2 h3; omega
                · -- the next ones stand behind
                  have h5 := HM m j (by omega) h2
                  rw [ek, h3.1] at h5
                  by_cases kk : k' = k
                  · rw [kk] at h3 ⊢
                    have := mcn_lt (r := r) (i := m) (j := j) (by omega) F1
                    omega
                  · omega
              · refine pc_fl (pj_sf (o := fun a => a) (q := fun b => b) s (fs_qw_X2_checkOverrides_2 f _ _ s.1) (ft_qw_X13_heads_220 f2 _ _ (sf_r s)) (fun a b s => .inr s))
        · refine CN (by omega) (fun j k' h1 h2 h3 e => ?_)
          by_cases jm : j < m
          · have := A1 j k' jm h2 h3; omega
          · by_cases je : j = m
            · rw [je] at h2 e
              have e2 := (msm_u F1 h2).1
              have ek2 : k' = k := by omega
              rw [ek2] at e; exact eq e
            · -- behind m: further on
              have h5 := HM m j (by omega) h1
              rw [ek, h2.1] at h5
              by_cases kk : k' = k
              · rw [kk] at h2 e
                have := mcn_lt (r := r) (i := m) (j := j) (by omega) F1
                omega
              · omega
    · -- no more members
      by_cases x9 : x < 96
      · refine CN x9 (fun j k' h1 h2 h3 e => ?_)
        have := A1 j k' (by omega) h2 h3
        omega
      · cases f with
        | zero => exact pc_none
        | succ f =>
          unfold qw_X2_checkOverrides_2
          refine pc_if (fun _ => ?_) (fun z => absurd (by omega) z)
          refine pc_ret ?_
          cases f2 with
          | zero => exact pc_none
          | succ f2 =>
            unfold qw_X13_heads_220
            refine pc_if (fun _ => pc_ret (.inl ⟨rfl, rfl⟩)) (fun z => absurd (by omega) z)
end

/- HEADS: members, how they are numbered -/
/-- member j is of class k, a field (s = 0) or a method (s = 1) -/
abbrev MSm (r : ms_M) (k s : Int) (j : Nat) : Prop := r 181 j = k ∧ ((0 < r 182 j ∧ s = 1) ∨ (r 182 j ≤ 0 ∧ s = 0))
def mcn_T (r : ms_M) (k s : Int) : Nat → Nat
  | 0 => 0
  | j + 1 => mcn_T r k s j + (if MSm r k s j then 1 else 0)
/-- a type of both sides -/
def TYR (a b : Int) : Prop := VTy a ∧ ¬ a = 300 ∧ b = ty_T a
/-- a field, a method j of the reference in the class's rows at x -/
def MBf (V : Nat → Int) (C : Nat → Nat) (n : Nat) (h r : ms_M) (j x : Nat) : Prop := h 18 x = V (r 186 j).toNat ∧ TYR (h 19 x) (r 187 j) ∧ ¬ h 19 x = 303 ∧ TYS V C n (r 184 j) (r 183 j) (r 185 j) (h 19 x)
def MBm (V : Nat → Int) (C : Nat → Nat) (n : Nat) (h r : ms_M) (j x : Nat) : Prop := (h 22 x = r 186 j ∧ TYR (h 24 x) (r 187 j)) ∧ ((r 182 j = 2 ∧ h 25 x = 1) ∨ (r 182 j = 1 ∧ h 25 x = 0)) ∧ (h 27 x = r 189 j ∧ 0 ≤ r 189 j ∧ r 189 j ≤ 6 ∧ 0 ≤ r 188 j) ∧ (∀ i : Nat, (i : Int) < r 189 j → h 28 (6 * x + i) = V (r 194 ((r 188 j).toNat + i)).toNat ∧ TYR (h 29 (6 * x + i)) (r 195 ((r 188 j).toNat + i)) ∧ ¬ h 29 (6 * x + i) = 303 ∧ TYS V C n (r 192 ((r 188 j).toNat + i)) (r 191 ((r 188 j).toNat + i)) (r 193 ((r 188 j).toNat + i)) (h 29 (6 * x + i))) ∧ h 23 x = r 169 (r 190 j).toNat ∧ TYS V C n (r 184 j) (r 183 j) (r 185 j) (h 24 x)
/-- the first m members; their parameters' names stand ahead of token q -/
def MTB (V : Nat → Int) (C : Nat → Nat) (n : Nat) (m : Nat) (q : Int) (h r : ms_M) : Prop := (∀ k : Nat, k < 8 → (h 17 k = (mcn_T r k 0 m : Int) ∧ h 21 k = (mcn_T r k 1 m : Int)) ∧ mcn_T r k 0 m ≤ 12 ∧ mcn_T r k 1 m ≤ 12) ∧ (∀ j k : Nat, j < m → k < 8 → MSm r k 0 j → MBf V C n h r j (12 * k + mcn_T r k 0 j)) ∧ (∀ j k : Nat, j < m → k < 8 → MSm r k 1 j → MBm V C n h r j (12 * k + mcn_T r k 1 j)) ∧ (∀ (i j : Nat) (k s : Int), i < j → j < m → MSm r k s i → MSm r k s j → ¬ V (r 186 i).toNat = V (r 186 j).toNat) ∧ ∀ (j i : Nat), j < m → (i : Int) < r 189 j → r 194 ((r 188 j).toNat + i) < q
/-- a member of that name is among the first m -/
def TWm (V : Nat → Int) (r : ms_M) (m : Nat) (k s x : Int) : Prop := ∃ j : Nat, j < m ∧ MSm r k s j ∧ V (r 186 j).toNat = x
section
variable {nn : Nat} {K P V U : Nat → Int} {C : Nat → Nat} {c n N : Nat} {h g r w u v : ms_M}
theorem mcn_s {k s : Int} {m : Nat} (q : MSm r k s m) : mcn_T r k s (m + 1) = mcn_T r k s m + 1 := by
  show mcn_T r k s m + (if MSm r k s m then 1 else 0) = _
  rw [if_pos q]
theorem mcn_n {k s : Int} {m : Nat} (q : ¬ MSm r k s m) : mcn_T r k s (m + 1) = mcn_T r k s m := by
  show mcn_T r k s m + (if MSm r k s m then 1 else 0) = _
  rw [if_neg q]; rfl
theorem mcn_1 {k s : Int} {m : Nat} : mcn_T r k s m ≤ mcn_T r k s (m + 1) ∧ mcn_T r k s (m + 1) ≤ mcn_T r k s m + 1 := by
  by_cases q : MSm r k s m
  · rw [mcn_s q]; omega
  · rw [mcn_n q]; omega
theorem mcn_m {k s : Int} {i : Nat} : ∀ d : Nat, mcn_T r k s i ≤ mcn_T r k s (i + d) := by
  intro d
  induction d with
  | zero => exact Nat.le_refl _
  | succ d ih =>
    have a := mcn_1 (r := r) (k := k) (s := s) (m := i + d)
    show _ ≤ mcn_T r k s (i + d + 1)
    omega
theorem mcn_lt {k s : Int} {i j : Nat} (ij : i < j) (q : MSm r k s i) : mcn_T r k s i < mcn_T r k s j := by
  have a := mcn_m (r := r) (k := k) (s := s) (i := i + 1) (j - (i + 1))
  rw [show i + 1 + (j - (i + 1)) = j by omega, mcn_s q] at a
  omega
theorem mcn_sur {k s : Int} : ∀ (m i : Nat), i < mcn_T r k s m → ∃ j : Nat, j < m ∧ MSm r k s j ∧ mcn_T r k s j = i := by
  intro m
  induction m with
  | zero => intro i hi; exact absurd hi (Nat.not_lt_zero _)
  | succ m ih =>
    intro i hi
    by_cases q : MSm r k s m
    · rw [mcn_s q] at hi
      by_cases z : i < mcn_T r k s m
      · obtain ⟨j, a, b, d⟩ := ih i z
        exact ⟨j, by omega, b, d⟩
      · exact ⟨m, by omega, q, by omega⟩
    · rw [mcn_n q] at hi
      obtain ⟨j, a, b, d⟩ := ih i hi
      exact ⟨j, by omega, b, d⟩
theorem msm_k {k s : Int} {j : Nat} (e1 : v 181 j = r 181 j) (e2 : v 182 j = r 182 j) : MSm v k s j ↔ MSm r k s j := by
  show (v 181 j = k ∧ _) ↔ (r 181 j = k ∧ _)
  rw [e1, e2]
theorem mcn_k (e : ∀ cc x : Nat, cc = 181 ∨ cc = 182 → v cc x = r cc x) {k s : Int} : ∀ m : Nat, mcn_T v k s m = mcn_T r k s m := by
  intro m
  induction m with
  | zero => rfl
  | succ m ih =>
    have q := msm_k (k := k) (s := s) (j := m) (e 181 m (by omega)) (e 182 m (by omega))
    by_cases z : MSm r k s m
    · rw [mcn_s z, mcn_s (q.mpr z), ih]
    · rw [mcn_n z, mcn_n (fun y => z (q.mp y)), ih]
theorem msm_c {j : Nat} {k : Int} (e : r 181 j = k) : MSm r k 0 j ∨ MSm r k 1 j := by
  by_cases z : 0 < r 182 j
  · exact .inr ⟨e, .inl ⟨z, rfl⟩⟩
  · exact .inl ⟨e, .inr ⟨by omega, rfl⟩⟩
theorem msm_u {j : Nat} {k k2 s s2 : Int} (A : MSm r k s j) (B : MSm r k2 s2 j) : k = k2 ∧ s = s2 := by
  obtain ⟨a1, a2⟩ := A
  obtain ⟨b1, b2⟩ := B
  omega
theorem msm_s {j : Nat} {k s : Int} (A : MSm r k s j) : s = 0 ∨ s = 1 := by
  obtain ⟨a1, a2⟩ := A
  omega
/-- where a member stands in the class's rows, and who stands there -/
theorem mix_i {i j : Nat} {k k2 : Nat} {s : Int} (A : MSm r k s i) (B : MSm r k2 s j) (a : mcn_T r k s i < 12) (b : mcn_T r k2 s j < 12) (e : 12 * k + mcn_T r k s i = 12 * k2 + mcn_T r k2 s j) : i = j := by
  have kk : k = k2 := by omega
  subst kk
  by_cases q : i < j
  · have := mcn_lt q A; omega
  · by_cases q2 : j < i
    · have := mcn_lt q2 B; omega
    · omega
/- the class looks for a field, a method of class k -/
theorem c_fieldIn {k : Nat} {x : Int} {cn : Nat} (hk : k < 8) (e : h 17 k = (cn : Int)) (hc : cn ≤ 12) : Pc (qf_X2_fieldIn nn (k : Int) x h) (fun u => (u = -1 ∧ ∀ i : Nat, i < cn → ¬ h 18 (12 * k + i) = x) ∨ ∃ i : Nat, i < cn ∧ h 18 (12 * k + i) = x ∧ u = ((12 * k + i : Nat) : Int)) := by
  have L : ∀ (f l : Nat), l ≤ cn → (∀ i : Nat, i < l → ¬ h 18 (12 * k + i) = x) → Pc (qw_X2_fieldIn_2 nn f (k : Int) x (l : Int) h) (fun u => (u = -1 ∧ ∀ i : Nat, i < cn → ¬ h 18 (12 * k + i) = x) ∨ ∃ i : Nat, i < cn ∧ h 18 (12 * k + i) = x ∧ u = ((12 * k + i : Nat) : Int)) := by
    intro f
    induction f with
    | zero => intros; exact pc_none
    | succ f ih =>
      intro l hl A
      unfold qw_X2_fieldIn_2
      refine pc_rA ?_; intro _ _ v2 e2
      rw [Int.toNat_natCast, e] at e2
      refine pc_if (fun z => pc_ret (.inl ⟨rfl, fun i hi => A i (by omega)⟩)) (fun z => ?_)
      refine pc_xl ?_; intro v4 e4
      rw [oq_mul_eq (by omega) (by omega) (by omega)] at e4
      refine pc_add (by omega) ?_; intro v5 e5
      refine pc_rA ?_; intro _ _ v6 e6
      rw [show v5.toNat = 12 * k + l by omega] at e6
      refine pc_if (fun y => ?_) (fun y => ?_)
      · refine pc_add (by omega) ?_; intro v7 e7
        rw [show v7 = ((l + 1 : Nat) : Int) by omega]
        refine ih (l + 1) (by omega) (fun i hi => ?_)
        by_cases il : i = l
        · rw [il, ← e6]; exact y
        · exact A i (by omega)
      · refine pc_xl ?_; intro v8 e8
        rw [oq_mul_eq (by omega) (by omega) (by omega)] at e8
        refine pc_add (by omega) ?_; intro v9 e9
        exact pc_ret (.inr ⟨l, by omega, by rw [← e6]; exact Classical.byContradiction y, by omega⟩)
  exact L nn 0 (by omega) (fun i hi => absurd hi (by omega))
theorem c_methodIn (BK : TBn K c) (B : TBc K P c h) (LV : VLc K V c h) {k : Nat} {x : Int} {cn : Nat} (hk : k < 8) (e : h 21 k = (cn : Int)) (hc : cn ≤ 12) (HT : ∀ i : Nat, i < cn → 0 ≤ h 22 (12 * k + i) ∧ K (h 22 (12 * k + i)).toNat = 2) : Pc (qf_X2_methodIn nn (k : Int) x h) (fun u => (u = -1 ∧ ∀ i : Nat, i < cn → ¬ V (h 22 (12 * k + i)).toNat = x) ∨ ∃ i : Nat, i < cn ∧ V (h 22 (12 * k + i)).toNat = x ∧ u = ((12 * k + i : Nat) : Int)) := by
  have L : ∀ (f l : Nat), l ≤ cn → (∀ i : Nat, i < l → ¬ V (h 22 (12 * k + i)).toNat = x) → Pc (qw_X2_methodIn_2 nn f (k : Int) x (l : Int) h) (fun u => (u = -1 ∧ ∀ i : Nat, i < cn → ¬ V (h 22 (12 * k + i)).toNat = x) ∨ ∃ i : Nat, i < cn ∧ V (h 22 (12 * k + i)).toNat = x ∧ u = ((12 * k + i : Nat) : Int)) := by
    intro f
    induction f with
    | zero => intros; exact pc_none
    | succ f ih =>
      intro l hl A
      unfold qw_X2_methodIn_2
      refine pc_rA ?_; intro _ _ v2 e2
      rw [Int.toNat_natCast, e] at e2
      refine pc_if (fun z => pc_ret (.inl ⟨rfl, fun i hi => A i (by omega)⟩)) (fun z => ?_)
      refine pc_xl ?_; intro v5 e5
      rw [oq_mul_eq (by omega) (by omega) (by omega)] at e5
      refine pc_add (by omega) ?_; intro v6 e6
      refine pc_rA ?_; intro _ _ v7 e7
      rw [show v6.toNat = 12 * k + l by omega] at e7
      have t := HT l (by omega)
      refine pc_sv (c_valueAt BK B LV (t := (h 22 (12 * k + l)).toNat) t.2 (by omega)) ?_; intro u9 q9
      refine pc_if (fun y => ?_) (fun y => ?_)
      · refine pc_add (by omega) ?_; intro v10 e10
        rw [show v10 = ((l + 1 : Nat) : Int) by omega]
        refine ih (l + 1) (by omega) (fun i hi => ?_)
        by_cases il : i = l
        · rw [il, ← q9]; exact y
        · exact A i (by omega)
      · refine pc_xl ?_; intro v11 e11
        rw [oq_mul_eq (by omega) (by omega) (by omega)] at e11
        refine pc_add (by omega) ?_; intro v12 e12
        exact pc_ret (.inr ⟨l, by omega, by rw [← q9]; exact Classical.byContradiction y, by omega⟩)
  exact L nn 0 (by omega) (fun i hi => absurd hi (by omega))
/-- .. with the members of both sides -/
theorem c_fIn {m k : Nat} {q x : Int} (M : MTB V C n m q h r) (hk : k < 8) : Pc (qf_X2_fieldIn nn (k : Int) x h) (fun u => (u = -1 ∧ ¬ TWm V r m k 0 x) ∨ ∃ j : Nat, j < m ∧ MSm r k 0 j ∧ V (r 186 j).toNat = x ∧ u = ((12 * k + mcn_T r k 0 j : Nat) : Int)) := by
  obtain ⟨⟨m1, m2⟩, m3, m4⟩ := M.1 k hk
  refine pc_imp (c_fieldIn hk m1 m3) (fun u z => ?_)
  rcases z with ⟨a, b⟩ | ⟨i, a, b, d⟩
  · refine .inl ⟨a, fun z => ?_⟩
    obtain ⟨j, j1, j2, j3⟩ := z
    have y := b (mcn_T r k 0 j) (mcn_lt j1 j2)
    rw [(M.2.1 j k j1 hk j2).1] at y
    exact y j3
  · obtain ⟨j, j1, j2, j3⟩ := mcn_sur m i a
    rw [← j3] at b d
    refine .inr ⟨j, j1, j2, ?_, d⟩
    rw [← b, (M.2.1 j k j1 hk j2).1]
theorem c_mIn (BK : TBn K c) (B : TBc K P c h) (LV : VLc K V c h) {m k : Nat} {q x : Int} (M : MTB V C n m q h r) (HN : ∀ j : Nat, j < m → 0 ≤ r 186 j ∧ K (r 186 j).toNat = 2) (hk : k < 8) : Pc (qf_X2_methodIn nn (k : Int) x h) (fun u => (u = -1 ∧ ¬ TWm V r m k 1 x) ∨ ∃ j : Nat, j < m ∧ MSm r k 1 j ∧ V (r 186 j).toNat = x ∧ u = ((12 * k + mcn_T r k 1 j : Nat) : Int)) := by
  obtain ⟨⟨m1, m2⟩, m3, m4⟩ := M.1 k hk
  refine pc_imp (c_methodIn BK B LV hk m2 m4 (fun i hi => ?_)) (fun u z => ?_)
  · obtain ⟨j, j1, j2, j3⟩ := mcn_sur m i hi
    rw [← j3, (M.2.2.1 j k j1 hk j2).1.1]
    exact HN j j1
  · rcases z with ⟨a, b⟩ | ⟨i, a, b, d⟩
    · refine .inl ⟨a, fun z => ?_⟩
      obtain ⟨j, j1, j2, j3⟩ := z
      have y := b (mcn_T r k 1 j) (mcn_lt j1 j2)
      rw [(M.2.2.1 j k j1 hk j2).1.1] at y
      exact y j3
    · obtain ⟨j, j1, j2, j3⟩ := mcn_sur m i a
      rw [← j3] at b d
      refine .inr ⟨j, j1, j2, ?_, d⟩
      rw [← b, (M.2.2.1 j k j1 hk j2).1.1]
end

section
variable {nn : Nat} {h g r z t : ms_M} {c : Int}
theorem ok_lX3 {α : Type} {Q : α → Prop} {G : Int → Option α} (h : Ok_ (G 77) Q) : Ok_ (ln_X (1000000000 + 3) G) Q := h
theorem ok_rX3 {α : Type} {Q : α → Prop} {j : Int} {G : Int → Option α} (hj : 0 ≤ j ∧ j < 77) (k : ∀ v, Ok_ (G v) Q) : Ok_ (rd_X (1000000000 + 3) j G) Q := by
  have h : (List.range 77).all (xt_ck (1000000000 + 3)) = true := by decide +kernel
  have h1 := List.all_eq_true.1 h j.toNat (List.mem_range.2 (by omega))
  unfold xt_ck at h1
  have e : ((j.toNat : Nat) : Int) = j := by omega
  rw [e] at h1
  unfold rd_X
  revert h1
  cases xsc (1000000000 + 3) (Int32.ofInt j) with
  | none => intro h1; cases h1
  | some v => intro _; exact k _
theorem nm_97 {x : Nat} {n : Int} (R : RW_ x n) (V : VS_ h) {l3 l4 l6 : Int} (r3 : 0 ≤ l3 ∧ l3 + l4 ≤ n) (r4 : 0 ≤ l4 ∧ l4 ≤ 255) (r6 : 0 ≤ l6 ∧ l6 < 77) : ∀ (k : Nat) (l7 l8 : Int), (l7 = 0 ∨ (l7 = 1 ∧ l6 + 1 + l4 ≤ 77)) → (0 ≤ l8 ∧ l8 ≤ l4) → l4 - l8 < (k : Int) → Ok_ (qw_X13_isNamed_97 nn k x l3 l4 l6 l7 l8 h) (fun u => u = 0 ∨ u = 1) := by
  have hn' : n ≤ 48000 := by rcases R with ⟨_, e⟩ | ⟨_, e⟩ <;> omega
  intro k
  induction k with
  | zero => intro l7 l8 a b hm; exfalso; omega
  | succ k ih =>
    intro l7 l8 a b hm
    have a' : l7 = 0 ∨ l7 = 1 := by omega
    unfold qw_X13_isNamed_97
    refine ok_if (fun _ => ok_ck a' (ok_ret a')) (fun C => ?_)
    refine ok_if (fun _ => ok_ck a' (ok_ret a')) (fun D => ?_)
    refine ok_add (by omega) ?_; intro v16 e16
    refine ok_add (by omega) ?_; intro v17 e17
    refine ok_rX3 (by omega) ?_; intro v18
    refine ok_add (by omega) ?_; intro v19 e19
    refine ok_rS R V (by omega) ?_; intro v20 _ _ _
    refine ok_if (fun _ => ?_) (fun _ => ?_)
    · refine ok_add (by omega) ?_; intro v21 e21
      exact ih 0 v21 (.inl rfl) (by omega) (by omega)
    · refine ok_add (by omega) ?_; intro v22 e22
      exact ih 1 v22 (.inr ⟨rfl, by omega⟩) (by omega) (by omega)
theorem nm_12 (hn : 1000000 ≤ nn) {x : Nat} {n : Int} (R : RW_ x n) (V : VS_ h) {l1 l3 l4 : Int} (r3 : 0 ≤ l3 ∧ l3 + l4 ≤ n) (r4 : 0 ≤ l4 ∧ l4 ≤ 255) : ∀ (k : Nat) (l5 l6 : Int), (-1 ≤ l5 ∧ l5 ≤ l6) → (0 ≤ l6 ∧ l6 ≤ 77) → 78 - l6 < (k : Int) → Ok_ (qw_X13_isNamed_12 nn k l1 x l3 l4 l5 l6 h) (fun u => u = 0 ∨ u = 1) := by
  intro k
  induction k with
  | zero => intro l5 l6 a b hm; exfalso; omega
  | succ k ih =>
    intro l5 l6 a b hm
    unfold qw_X13_isNamed_12
    refine ok_add (by omega) ?_; intro v26 e26
    refine ok_lX3 ?_
    refine ok_if (fun _ => ok_ret (.inl rfl)) (fun C => ?_)
    refine ok_rX3 (by omega) ?_; intro v28
    refine ok_if (fun _ => ?_) (fun _ => ?_)
    · refine ok_add (by omega) ?_; intro v29 e29
      refine ok_if (fun _ => ?_) (fun _ => ?_)
      · have J : Ok_ (qj_X13_isNamed_91 nn x l3 l4 l6 h) (fun u => u = 0 ∨ u = 1) := by
          unfold qj_X13_isNamed_91
          exact nm_97 R V r3 r4 (by omega) nn 0 0 (.inl rfl) (by omega) (by omega)
        refine ok_add (by omega) ?_; intro v30 e30
        refine ok_add (by omega) ?_; intro v31 e31
        refine ok_lX3 ?_
        refine ok_if (fun _ => J) (fun D => ?_)
        refine ok_add (by omega) ?_; intro v33 e33
        refine ok_add (by omega) ?_; intro v34 e34
        refine ok_rX3 (by omega) ?_; intro v35
        exact ok_if (fun _ => J) (fun _ => nm_97 R V r3 r4 (by omega) nn 1 0 (.inr ⟨rfl, by omega⟩) (by omega) (by omega))
      · refine ok_add (by omega) ?_; intro v38 e38
        exact ih v29 v38 (by omega) (by omega) (by omega)
    · refine ok_add (by omega) ?_; intro v40 e40
      exact ih l5 v40 (by omega) (by omega) (by omega)
theorem nm_is (hn : 1000000 ≤ nn) {x : Nat} {n : Int} (R : RW_ x n) (V : VS_ h) {a l3 l4 : Int} (r1 : 0 ≤ a ∧ a ≤ 15) (r3 : 0 ≤ l3 ∧ l3 + l4 ≤ n) (r4 : 0 ≤ l4 ∧ l4 ≤ 255) (I : 8 ≤ a → IMG h (a - 8)) : Ok_ (qf_X13_isNamed nn a x l3 l4 h) (fun u => u = 0 ∨ u = 1) := by
  unfold qf_X13_isNamed
  refine ok_if (fun C => ?_) (fun _ => nm_12 hn R V r3 r4 nn (-1) 0 (by omega) (by omega) (by omega))
  have N := nm_at (nn := nn) (c := a - 8) V (by omega) (I C)
  rw [show 8 + (a - 8) = a by omega] at N
  refine ok_sv N ?_; intro u44 P
  refine ok_rd (by omega) (gA_226 V) ?_; intro v46 e46 _ _
  refine ok_if (fun _ => nm_184 R V r3 r4 (by omega) nn 0 0 (.inl rfl) (by omega) (by omega)) (fun D => ?_)
  have D : v46 = l4 := Decidable.not_not.1 D
  exact nm_184 R V r3 r4 (by omega) nn 1 0 (.inr ⟨rfl, by omega⟩) (by omega) (by omega)
theorem nm_class (hn : 1000000 ≤ nn) {x : Nat} {n : Int} (R : RW_ x n) (V : VS_ h) {l3 l4 : Int} (r3 : 0 ≤ l3 ∧ l3 + l4 ≤ n) (r4 : 0 ≤ l4 ∧ l4 ≤ 255) (I : SPC h) : Ok_ (qf_X13_classNamed nn x l3 l4 h) (fun u => -1 ≤ u ∧ u < 8 + h 160 98) := by
  have g98 := gF_160_98 V
  have L : ∀ (k : Nat) (l : Int), (0 ≤ l ∧ l ≤ 16) → 17 - l < (k : Int) → Ok_ (qw_X13_classNamed_3 nn k x l3 l4 l h) (fun u => -1 ≤ u ∧ u < 8 + h 160 98) := by
    intro k
    induction k with
    | zero => intro l a hm; exfalso; omega
    | succ k ih =>
      intro l a hm
      unfold qw_X13_classNamed_3
      refine ok_add (by omega) ?_; intro v2 e2
      refine ok_if (fun _ => ok_ret (by omega)) (fun C => ?_)
      refine ok_sv (nm_is hn R V (by omega) r3 r4 (fun y => I (l - 8) (by omega) (by omega))) ?_; intro u4 _
      refine ok_if (fun _ => ?_) (fun _ => ok_ret (by omega))
      refine ok_add (by omega) ?_; intro v5 e5
      exact ih v5 (by omega) (by omega)
  unfold qf_X13_classNamed
  exact L nn 0 (by omega) (by omega)
/-- what is read is put into the space -/
def QI8 (c : Int) (h r : ms_M) : Prop := VS_ r ∧ (∀ x k : Nat, ¬ (x = 226 ∧ 6000 * c ≤ (k : Int) ∧ (k : Int) < 6000 * c + 6000) → ¬ (x = 227 ∧ (k : Int) = c) → r x k = h x k) ∧ (∀ i : Nat, (i : Int) < h 160 113 → r 226 (6000 * c.toNat + i) = h 238 i) ∧ r 227 c.toNat = h 160 113
theorem nm_install (hn : 1000000 ≤ nn) (hc : 0 ≤ c ∧ c ≤ 7) (V0 : VS_ h) : Ok_ (qf_X13_install nn c h) (fun u => QI8 c h u.2 ∧ u.1 = 8 + c) := by
  have g113 := gF_160_113 V0
  have L : ∀ (k : Nat) (l : Int) (g : ms_M), VS_ g → (∀ x k : Nat, ¬ (x = 226 ∧ 6000 * c ≤ (k : Int) ∧ (k : Int) < 6000 * c + 6000) → g x k = h x k) → (∀ i : Nat, (i : Int) < l → g 226 (6000 * c.toNat + i) = h 238 i) → (0 ≤ l ∧ l ≤ h 160 113) → h 160 113 - l < (k : Int) → Ok_ (qw_X13_install_2 nn k c l g) (fun u => QI8 c h u.2 ∧ u.1 = 8 + c) := by
    intro k
    induction k with
    | zero => intro l g V N A a hm; exfalso; omega
    | succ k ih =>
      intro l g V N A a hm
      have e113 := N 160 113 (by omega)
      unfold qw_X13_install_2
      refine ok_if (fun C => ?_) (fun C => ?_)
      · refine ok_wA (by omega) ?_; intro h4 E4
        refine ok_add (by omega) ?_; intro v5 e5
        refine ok_ret ⟨⟨by show VS_ h4; rw [E4]; exact wA_227 V (by omega), fun x k w1 w2 => ?_, fun i hi => ?_, ?_⟩, by show v5 = _; omega⟩
        · show h4 x k = h x k
          rw [E4, up_n (by omega)]; exact N x k w1
        · show h4 226 _ = h 238 i
          rw [E4, up_n (by omega)]; exact A i (by omega)
        · show h4 227 _ = _
          rw [E4, up_s]; exact e113
      · refine ok_mul (by omega) ?_; intro v7 e7
        refine ok_add (by omega) ?_; intro v8 e8
        refine ok_rd (by omega) (gA_238 V) ?_; intro v10 e10 a10 b10
        rw [N 238 _ (by omega)] at e10
        refine ok_wA (by omega) ?_; intro h11 E11
        refine ok_add (by omega) ?_; intro v12 e12
        refine ih v12 h11 (by rw [E11]; exact wA_226 V (by omega)) (fun x k w1 => by rw [E11, up_n (by omega)]; exact N x k w1) (fun i hi => ?_) (by omega) (by omega)
        by_cases q : (i : Int) = l
        · rw [E11, show 6000 * c.toNat + i = v8.toNat by omega, up_s, e10, show l.toNat = i by omega]
        · rw [E11, up_n (by omega)]; exact A i (by omega)
  unfold qf_X13_install
  exact L nn 0 h V0 (fun _ _ _ => rfl) (fun i hi => by exfalso; omega) (by omega) (by omega)
/-- an image that was read without FORM is one of the space then -/
theorem img_new (hc : 0 ≤ c ∧ c ≤ 7) (V : VS_ h) (I : IM8 h c) (Q : QI8 c h r) : IMG r c := by
  obtain ⟨_, N, A, e7⟩ := Q
  have o : ∀ x k : Nat, x ≠ 226 → x ≠ 227 → x ≠ 238 → x ≠ 160 → vw r c x k = h x k := fun x k a b d e => by rw [vw_o d e]; exact N x k (by omega) (by omega)
  exact im8_eq hc.1 I V hc.2 (by rw [vw_113]; exact e7) vw_115 (fun i _ _ => o 228 _ (by decide) (by decide) (by decide) (by decide)) (o 229 _ (by decide) (by decide) (by decide) (by decide)) (o 230 _ (by decide) (by decide) (by decide) (by decide)) (o 231 _ (by decide) (by decide) (by decide) (by decide)) (fun i hi => by rw [vw_238]; exact A i hi)
/-- an image of the space stays where its bytes and rows stay -/
theorem img_eq {d : Int} (hd : 0 ≤ d ∧ d ≤ 7) (I : IMG h d) (A6 : ∀ i : Nat, (i : Int) < 6000 → r 226 (6000 * d.toNat + i) = h 226 (6000 * d.toNat + i)) (V : VS_ h) (A7 : r 227 d.toNat = h 227 d.toNat) (A8 : ∀ i : Int, 0 ≤ i → i ≤ 255 → pl r d i = pl h d i) (A9 : r 229 d.toNat = h 229 d.toNat) (A0 : r 230 d.toNat = h 230 d.toNat) (A1 : r 231 d.toNat = h 231 d.toNat) : IMG r d := by
  have g7 := gA_227 V d.toNat (by omega)
  have g9 := gA_229 V d.toNat (by omega)
  obtain ⟨⟨_, s2, s3⟩, i2, i3⟩ := I
  have o : ∀ (m : ms_M) (x k : Nat), x ≠ 238 → x ≠ 160 → vw m d x k = m x k := fun m x k a b => vw_o a b
  have e9 : vw r d 229 d.toNat = vw h d 229 d.toNat := by rw [o r _ _ (by decide) (by decide), o h _ _ (by decide) (by decide)]; exact A9
  have T : ∀ i : Int, 0 ≤ i → i ≤ 255 → pl (vw r d) d i = pl (vw h d) d i := fun i a b => by
    show vw r d 228 _ = vw h d 228 _
    rw [o r _ _ (by decide) (by decide), o h _ _ (by decide) (by decide)]; exact A8 i a b
  have K : ∀ k : Nat, (k : Int) < h 227 d.toNat → vw r d 238 k = vw h d 238 k := fun k hk => by rw [vw_238, vw_238]; exact A6 k (by omega)
  have e113 : vw r d 160 113 = vw h d 160 113 := by rw [vw_113, vw_113]; exact A7
  have b9 : vw h d 229 d.toNat ≤ 255 := by rw [o h _ _ (by decide) (by decide)]; exact g9.2
  have lt : ∀ i : Int, 1 ≤ i → i ≤ vw h d 229 d.toNat → 3 ≤ pl (vw h d) d i ∧ pl (vw h d) d i + 2 ≤ h 227 d.toNat := fun i a b => by
    obtain ⟨c0, c1⟩ := s2 i a b
    rw [vw_113] at c1
    refine ⟨c0, ?_⟩
    rcases c1 with x | x | x | x <;> omega
  have tag : ∀ i : Int, 1 ≤ i → i ≤ vw h d 229 d.toNat → vw r d 238 (pl (vw r d) d i).toNat = vw h d 238 (pl (vw h d) d i).toNat := fun i a b => by
    have := lt i a b
    rw [T i (by omega) (by omega)]; exact K _ (by omega)
  have tx : ∀ i, TX (vw h d) d i → TX (vw r d) d i := fun i x => ⟨by rw [e9]; exact x.1, by rw [tag i x.1.1 x.1.2]; exact x.2⟩
  have cl : ∀ i, CL (vw h d) d i → CL (vw r d) d i := fun i x => ⟨by rw [e9]; exact x.1, by rw [tag i x.1.1 x.1.2]; exact x.2⟩
  refine ⟨⟨vw_115, fun i a b => ?_, fun i a b => ?_⟩, ?_, ?_⟩
  · rw [e9] at b
    rw [T i (by omega) (by omega)]
    exact cp_eq (s2 i a b) e113 (fun k hk => K k (by rw [vw_113] at hk; exact hk))
  · rw [e9] at b
    have l := lt i a b
    have ck := s3 i a b
    obtain ⟨_, cp⟩ := s2 i a b
    rw [vw_113] at cp
    rw [T i (by omega) (by omega)]
    unfold CK8
    rw [K _ (by omega), K _ (by omega)]
    refine ⟨fun y => tx _ (ck.1 y), fun y => ?_⟩
    have l4 : pl (vw h d) d i + 4 ≤ h 227 d.toNat := by
      rcases cp with x | x | x | x
      · exfalso; omega
      · exfalso; omega
      · exfalso; omega
      · exact x.2
    rw [K (pl (vw h d) d i + 2).toNat (by omega), K (pl (vw h d) d i + 3).toNat (by omega)]
    exact ⟨cl _ (ck.2 y).1, tx _ (ck.2 y).2.1, tx _ (ck.2 y).2.2⟩
  · rw [show vw r d 230 d.toNat = vw h d 230 d.toNat by rw [o r _ _ (by decide) (by decide), o h _ _ (by decide) (by decide)]; exact A0]; exact cl _ i2
  · rw [show vw r d 231 d.toNat = vw h d 231 d.toNat by rw [o r _ _ (by decide) (by decide), o h _ _ (by decide) (by decide)]; exact A1]; exact cl _ i3
end

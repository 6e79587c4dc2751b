section
variable {nn : Nat} {h g r z w v : ms_M} {c d : Int}
theorem spd_k (V : VS_ h) (A : ∀ x k : Nat, 226 ≤ x → x ≤ 237 → r x k = h x k) (e98 : r 160 98 = h 160 98) (S : SPD h) : SPD r := by
  have g98 := gF_160_98 V
  intro d a b
  have I := S d a (by omega)
  refine ⟨img_eq (by omega) I.1 (fun i hi => A _ _ (by decide) (by decide)) V (A _ _ (by decide) (by decide)) (fun i _ _ => A _ _ (by decide) (by decide)) (A _ _ (by decide) (by decide)) (A _ _ (by decide) (by decide)) (A _ _ (by decide) (by decide)), ?_⟩
  obtain ⟨w, Vw, I9, a1, a2, a3⟩ := I.2
  refine ⟨w, Vw, I9, fun i hi => ?_, ?_, fun x k y => ?_⟩
  · rw [A 226 _ (by decide) (by decide)]; exact a1 i hi
  · rw [A 227 _ (by decide) (by decide)]; exact a2
  · have y2 := y
    unfold TAB at y2
    rw [A x k (by omega) (by omega)]; exact a3 x k y
theorem wi_k (A : ∀ x k : Nat, 226 ≤ x → x ≤ 237 → r x k = h x k) (W : WI h c w) : WI r c w := by
  obtain ⟨b0, b1, b2, b3, b4, b5, b6, b7⟩ := W
  refine ⟨b0, b1, fun i i1 i2 => ?_, fun i i1 i2 => ?_, ?_, ?_, ?_, ?_⟩
  · rw [A 226 _ (by decide) (by decide)]; exact b2 i i1 i2
  · rw [A 228 _ (by decide) (by decide)]; exact b3 i i1 i2
  · rw [A 229 _ (by decide) (by decide)]; exact b4
  · rw [A 230 _ (by decide) (by decide), A 231 _ (by decide) (by decide)]; exact b5
  · unfold FLDS FLD at b6 ⊢
    rw [A 232 _ (by decide) (by decide)]
    refine ⟨b6.1, fun j j1 j2 => ?_⟩
    rw [A 233 _ (by decide) (by decide)]; exact b6.2 j j1 j2
  · refine ⟨by rw [A 234 _ (by decide) (by decide)]; exact b7.1, fun j j1 j2 => ?_⟩
    rw [A 234 _ (by decide) (by decide)] at j2
    obtain ⟨q, q1, q2⟩ := b7.2 j j1 j2
    refine ⟨q, q1, ?_⟩
    rw [A 235 _ (by decide) (by decide)]
    exact xm_eq q2 (A 236 _ (by decide) (by decide)) (A 237 _ (by decide) (by decide))
/-- names that no class has: where they lie -/
def OI (h : ms_M) : Prop := ∀ k : Nat, (k : Int) < h 160 117 → 0 ≤ h 240 k ∧ h 240 k + h 241 k ≤ 48000
/-- what naming a type leaves -/
def NY (h r : ms_M) : Prop := ∀ x k : Nat, ¬ (x = 160 ∧ (k = 117 ∨ k = 120)) → x ≠ 240 → x ≠ 241 → r x k = h x k
theorem ny_rf : NY h h := fun _ _ _ _ _ => rfl
theorem ny_tr (a : NY h z) (b : NY z r) : NY h r := fun x k w1 w2 w3 => (b x k w1 w2 w3).trans (a x k w1 w2 w3)
theorem ny_k (N : NY h r) : ∀ x k : Nat, 226 ≤ x → x ≤ 237 → r x k = h x k := fun x k _ _ => N x k (by omega) (by omega) (by omega)
theorem ny_spd (V : VS_ h) (N : NY h r) (S : SPD h) : SPD r := spd_k V (ny_k N) (N 160 98 (by decide) (by decide) (by decide)) S
def NNm (h : ms_M) (u : Int × ms_M) : Prop := VS_ u.2 ∧ NY h u.2 ∧ OI u.2 ∧ u.2 160 120 = h 160 120 ∧ ((0 ≤ u.1 ∧ u.1 < 8 + h 160 98 ∧ u.2 160 117 = h 160 117) ∨ (16 ≤ u.1 ∧ u.1 ≤ 2115 ∧ u.2 160 117 ≤ h 160 117 + 1))
def NN2 (h : ms_M) (u : Int × ms_M) : Prop := NNm h u ∧ 16 ≤ u.1
theorem rv_num21 (V : VS_ h) (O : OI h) (room : h 160 117 ≤ 2099) (hn : 1000000 ≤ nn) {a n : Int} (ra : 0 ≤ a ∧ a + n ≤ 48000) (rn : 0 ≤ n ∧ n ≤ 255) : Ok_ (qw_X13_nameNumber_21 nn nn a n 0 h) (NN2 h) := by
  have g117 := gF_160_117 V
  have L : ∀ (k : Nat) (l4 : Int), (0 ≤ l4 ∧ l4 ≤ h 160 117) → h 160 117 - l4 < (k : Int) → Ok_ (qw_X13_nameNumber_21 nn k a n l4 h) (NN2 h) := by
    intro k
    induction k with
    | zero => intro l4 b hm; exfalso; omega
    | succ k ih =>
      intro l4 b hm
      unfold qw_X13_nameNumber_21
      refine ok_if (fun C => ?_) (fun C => ?_)
      · refine ok_wA (by omega) ?_; intro h20 E20
        have V20 : VS_ h20 := by rw [E20]; exact wA_240 V (by omega)
        have e20 : h20 160 117 = h 160 117 := by rw [E20, up_n (by omega)]
        refine ok_wA (by omega) ?_; intro h23 E23
        have V23 : VS_ h23 := by rw [E23]; exact wA_241 V20 (by omega)
        have e23 : h23 160 117 = h 160 117 := by rw [E23, up_n (by omega)]; exact e20
        refine ok_add (by omega) ?_; intro v25 e25
        refine ok_xl ?_; intro h26 E26
        have V26 : VS_ h26 := by rw [E26]; exact wF_160_117 V23 (by omega)
        have e26 : h26 160 117 = h 160 117 + 1 := by rw [E26, up_s]; omega
        refine ok_add (by omega) ?_; intro v28 e28
        refine ok_sub (by omega) ?_; intro v29 e29
        rw [e20] at E23
        refine ok_ret ⟨⟨V26, fun x k w1 w2 w3 => ?_, fun j hj => ?_, ?_, .inr ⟨by show 16 ≤ v29; omega, by show v29 ≤ 2115; omega, by show h26 160 117 ≤ _; omega⟩⟩, by show 16 ≤ v29; omega⟩
        · show h26 x k = h x k
          rw [E26, up_n (by omega), E23, up_n (by omega), E20, up_n (by omega)]
        · have hj : (j : Int) < h 160 117 + 1 := by rw [← e26]; exact hj
          show 0 ≤ h26 240 j ∧ h26 240 j + h26 241 j ≤ 48000
          by_cases q : j = (h 160 117).toNat
          · have q0 : h26 240 j = a := by rw [E26, up_n (by omega), E23, up_n (by omega), E20, q, up_s]
            have q1 : h26 241 j = n := by rw [E26, up_n (by omega), E23, q, up_s]
            omega
          · have q0 : h26 240 j = h 240 j := by rw [E26, up_n (by omega), E23, up_n (by omega), E20, up_n (by omega)]
            have q1 : h26 241 j = h 241 j := by rw [E26, up_n (by omega), E23, up_n (by omega), E20, up_n (by omega)]
            rw [q0, q1]; exact O j (by omega)
        · show h26 160 120 = h 160 120
          rw [E26, up_n (by omega), E23, up_n (by omega), E20, up_n (by omega)]
      · have o := O l4.toNat (by omega)
        have I : ∀ (m : Nat) (l5 l6 : Int), (l5 = 0 ∨ (l5 = 1 ∧ h 241 l4.toNat = n)) → (0 ≤ l6 ∧ l6 ≤ n) → n - l6 < (m : Int) → Ok_ (qw_X13_nameNumber_51 nn (qw_X13_nameNumber_21 nn k) m a n l4 l5 l6 h) (NN2 h) := by
          intro m
          induction m with
          | zero => intro l5 l6 p q hm2; exfalso; omega
          | succ m ih2 =>
            intro l5 l6 p q hm2
            have E : Ok_ (qj_X13_nameNumber_102 nn (qw_X13_nameNumber_21 nn k) a n l4 l5 h) (NN2 h) := by
              unfold qj_X13_nameNumber_102
              refine ok_if (fun _ => ?_) (fun _ => ?_)
              · refine ok_add (by omega) ?_; intro v1 e1
                exact ih v1 (by omega) (by omega)
              · refine ok_add (by omega) ?_; intro v2 e2
                exact ok_ret ⟨⟨V, ny_rf, O, rfl, .inr ⟨by show 16 ≤ v2; omega, by show v2 ≤ 2115; omega, by show h 160 117 ≤ _; omega⟩⟩, by show 16 ≤ v2; omega⟩
            unfold qw_X13_nameNumber_51
            refine ok_if (fun _ => E) (fun D => ?_)
            refine ok_if (fun _ => E) (fun F => ?_)
            refine ok_rd (by omega) (gA_240 V) ?_; intro v6 e6 _ _
            refine ok_add (by omega) ?_; intro v7 e7
            refine ok_rd (by omega) (gA_226 V) ?_; intro v8 _ _ _
            refine ok_add (by omega) ?_; intro v10 e10
            refine ok_rd (by omega) (gA_226 V) ?_; intro v11 _ _ _
            refine ok_if (fun _ => ?_) (fun _ => ?_)
            · refine ok_add (by omega) ?_; intro v12 e12
              exact ih2 0 v12 (.inl rfl) (by omega) (by omega)
            · refine ok_add (by omega) ?_; intro v13 e13
              exact ih2 1 v13 (.inr ⟨rfl, by omega⟩) (by omega) (by omega)
        refine ok_rd (by omega) (gA_241 V) ?_; intro v31 e31 _ _
        refine ok_if (fun _ => I nn 0 0 (.inl rfl) (by omega) (by omega)) (fun D => ?_)
        exact I nn 1 0 (.inr ⟨rfl, by rw [← e31]; exact Decidable.not_not.1 D⟩) (by omega) (by omega)
  exact L nn 0 (by omega) (by omega)
theorem rv_number (hn : 1000000 ≤ nn) (V : VS_ h) (S : SPD h) (O : OI h) (room : h 160 117 ≤ 2099) {a n : Int} (ra : 0 ≤ a ∧ a + n ≤ 48000) (rn : 0 ≤ n ∧ n ≤ 255) : Ok_ (qf_X13_nameNumber nn a n h) (NNm h) := by
  have g98 := gF_160_98 V
  have g117 := gF_160_117 V
  unfold qf_X13_nameNumber
  refine ok_sv (nm_class hn (.inr ⟨rfl, rfl⟩) V (by omega) rn (spd_c S)) ?_; intro u36 P
  refine ok_if (fun _ => ok_im (rv_num21 V O room hn ra rn) (fun _ q => q.1)) (fun D => ?_)
  exact ok_ret ⟨V, ny_rf, O, rfl, .inl ⟨by show 0 ≤ u36; omega, by show u36 < _; omega, rfl⟩⟩
/-- what reading a type leaves: e the place behind it -/
def TQ (h : ms_M) (e : Int) (u : Int × ms_M) : Prop := VS_ u.2 ∧ NY h u.2 ∧ OI u.2 ∧ u.2 160 120 = e ∧ ((0 ≤ u.1 ∧ u.1 < 20 + 2 * h 160 98 ∧ u.2 160 117 = h 160 117) ∨ (36 ≤ u.1 ∧ u.1 ≤ 4235 ∧ u.2 160 117 ≤ h 160 117 + 1))
theorem rv_type75 (hn : 1000000 ≤ nn) (V : VS_ h) (S : SPD h) (O : OI h) (room : h 160 117 ≤ 2099) (hc : 0 ≤ c ∧ c ≤ 7) (W : WI h c w) {l2 p e : Int} (hp : 0 ≤ p) (he : e ≤ w 160 113) (K : KN (w 238) p e) : ∀ (k : Nat) (i : Int), p < i → i < e → e - i < (k : Int) → Ok_ (qw_X13_typeAt_75 nn k l2 (6000 * c + p) (6000 * c + i) h) (TQ h (6000 * c + e)) := by
  have g3 := gF_160_113 W.1
  have g98 := gF_160_98 V
  obtain ⟨k1, k2, k3, k4⟩ := K
  intro k
  induction k with
  | zero => intro i a b hm; exfalso; omega
  | succ k ih =>
    intro i a b hm
    unfold qw_X13_typeAt_75
    refine ok_rd (by omega) (gA_226 V) ?_; intro v2 e2 _ _
    rw [W.2.2.1 i (by omega) (by omega)] at e2
    refine ok_if (fun C => ?_) (fun C => ?_)
    · have ei : i = e - 1 := by
        by_cases y : i < e - 1
        · exact absurd (e2.symm.trans C) (k4 i a y)
        · omega
      refine ok_add (by omega) ?_; intro v3 e3
      refine ok_xl ?_; intro h4 E4
      have V4 : VS_ h4 := by rw [E4]; exact wF_160_120 V (by omega)
      have N4 : NY h h4 := fun x k w1 w2 w3 => by rw [E4, up_n (by omega)]
      have f117 : h4 160 117 = h 160 117 := by rw [E4, up_n (by omega)]
      have f98 : h4 160 98 = h 160 98 := by rw [E4, up_n (by omega)]
      have f120 : h4 160 120 = v3 := by rw [E4, up_s]
      have O4 : OI h4 := fun j hj => by
        rw [f117] at hj
        rw [E4, up_n (by omega), up_n (by omega)]; exact O j hj
      refine ok_add (by omega) ?_; intro v5 e5
      refine ok_sub (by omega) ?_; intro v6 e6
      refine ok_sub (by omega) ?_; intro v7 e7
      refine ok_sv (rv_number hn V4 (ny_spd V N4 S) O4 (by omega) (by omega) (by omega)) ?_; intro u9 P9
      obtain ⟨q1, q2, q3, q4, q5⟩ := P9
      refine ok_mul (by omega) ?_; intro v10 e10
      refine ok_add (by omega) ?_; intro v11 e11
      refine ok_if (fun _ => ?_) (fun _ => ?_)
      · refine ok_add (by omega) ?_; intro v12 e12
        exact ok_ret ⟨q1, ny_tr N4 q2, q3, by show u9.2 160 120 = _; omega, by show (0 ≤ v12 ∧ v12 < 20 + 2 * h 160 98 ∧ u9.2 160 117 = h 160 117) ∨ (36 ≤ v12 ∧ v12 ≤ 4235 ∧ u9.2 160 117 ≤ h 160 117 + 1); omega⟩
      · refine ok_add (by omega) ?_; intro v12 e12
        exact ok_ret ⟨q1, ny_tr N4 q2, q3, by show u9.2 160 120 = _; omega, by show (0 ≤ v12 ∧ v12 < 20 + 2 * h 160 98 ∧ u9.2 160 117 = h 160 117) ∨ (36 ≤ v12 ∧ v12 ≤ 4235 ∧ u9.2 160 117 ≤ h 160 117 + 1); omega⟩
    · have ei : i < e - 1 := by
        by_cases y : i < e - 1
        · exact y
        · exfalso
          have : i = e - 1 := by omega
          rw [this] at e2
          exact C (e2.trans k3)
      refine ok_add (by omega) ?_; intro v15 e15
      rw [show v15 = 6000 * c + (i + 1) by omega]
      exact ih (i + 1) (by omega) (by omega) (by omega)
theorem rv_type49 (hn : 1000000 ≤ nn) (V : VS_ h) (S : SPD h) (O : OI h) (room : h 160 117 ≤ 2099) (hc : 0 ≤ c ∧ c ≤ 7) (W : WI h c w) {l2 p e : Int} (hp : 0 ≤ p) (he : e ≤ w 160 113) (K : KK (w 238) p e) : Ok_ (qj_X13_typeAt_49 nn l2 (6000 * c + p) h) (TQ h (6000 * c + e)) := by
  have g3 := gF_160_113 W.1
  have g98 := gF_160_98 V
  have lt := kk_lt K
  unfold qj_X13_typeAt_49
  refine ok_rd (by omega) (gA_226 V) ?_; intro v18 e18 _ _
  rw [W.2.2.1 p (by omega) (by omega)] at e18
  refine ok_if (fun C => ?_) (fun C => ?_)
  · rcases K with K | K
    · exact absurd (e18.trans K.1) C
    · refine ok_add (by omega) ?_; intro v19 e19
      rw [show v19 = 6000 * c + (p + 1) by omega]
      exact rv_type75 hn V S O room hc W hp he K nn (p + 1) (by omega) (by have := K.2.1; omega) (by omega)
  · have C : v18 = 73 := Decidable.not_not.1 C
    rcases K with K | K
    · refine ok_add (by omega) ?_; intro v20 e20
      refine ok_xl ?_; intro h21 E21
      have f117 : h21 160 117 = h 160 117 := by rw [E21, up_n (by omega)]
      refine ok_ret ⟨by rw [E21]; exact wF_160_120 V (by omega), fun x k w1 w2 w3 => by show h21 x k = h x k; rw [E21, up_n (by omega)], fun j hj => ?_, by show h21 160 120 = _; rw [E21, up_s]; omega, .inl ⟨show (0 : Int) ≤ 3 by decide, show (3 : Int) < _ by omega, f117⟩⟩
      have hj : (j : Int) < h 160 117 := by rw [← f117]; exact hj
      show 0 ≤ h21 240 j ∧ h21 240 j + h21 241 j ≤ 48000
      rw [E21, up_n (by omega), up_n (by omega)]; exact O j hj
    · have := K.1; exfalso; omega
/-- a kind's type -/
theorem rv_typeAt (hn : 1000000 ≤ nn) (V : VS_ h) (S : SPD h) (O : OI h) (room : h 160 117 ≤ 2099) (hc : 0 ≤ c ∧ c ≤ 7) (W : WI h c w) {p e : Int} (hp : 0 ≤ p) (he : e ≤ w 160 113) (K : RTk (w 238) p e) : Ok_ (qf_X13_typeAt nn (6000 * c + p) h) (TQ h (6000 * c + e)) := by
  have g3 := gF_160_113 W.1
  have g98 := gF_160_98 V
  have lt : p < e := by
    rcases K with K | K
    · omega
    · have := kd_lt K; omega
  unfold qf_X13_typeAt
  refine ok_rd (by omega) (gA_226 V) ?_; intro v24 e24 _ _
  rw [W.2.2.1 p (by omega) (by omega)] at e24
  refine ok_add (by omega) ?_; intro v25 e25
  refine ok_xl ?_; intro h26 E26
  have V26 : VS_ h26 := by rw [E26]; exact wF_160_120 V (by omega)
  have N26 : NY h h26 := fun x k w1 w2 w3 => by rw [E26, up_n (by omega)]
  have f117 : h26 160 117 = h 160 117 := by rw [E26, up_n (by omega)]
  have f120 : h26 160 120 = v25 := by rw [E26, up_s]
  have O26 : OI h26 := fun j hj => by
    rw [f117] at hj
    rw [E26, up_n (by omega), up_n (by omega)]; exact O j hj
  have W26 : WI h26 c w := wi_k (ny_k N26) W
  have S26 := ny_spd V N26 S
  have f98 : h26 160 98 = h 160 98 := by rw [E26, up_n (by omega)]
  have one : ∀ t : Int, (0 ≤ t ∧ t < 20 + 2 * h 160 98) → e = p + 1 → Ok_ (some (t, h26)) (TQ h (6000 * c + e)) := fun t ht y => ok_ret ⟨V26, N26, O26, by show h26 160 120 = _; omega, .inl ⟨ht.1, ht.2, f117⟩⟩
  have con : ∀ u, TQ h26 (6000 * c + e) u → TQ h (6000 * c + e) u := fun u q => ⟨q.1, ny_tr N26 q.2.1, q.2.2.1, q.2.2.2.1, by have := q.2.2.2.2; rw [f117, f98] at this; exact this⟩
  have sort : (v24 = 86 ∧ e = p + 1) ∨ (v24 = 90 ∧ e = p + 1) ∨ (v24 = 73 ∧ e = p + 1) ∨ (v24 = 76 ∧ KK (w 238) p e) ∨ (v24 = 91 ∧ KK (w 238) (p + 1) e) := by
    rw [e24]
    rcases K with K | K | ⟨_, K⟩ | K
    · exact .inl K
    · exact .inr (.inl K)
    · rcases K with K | K
      · exact .inr (.inr (.inl K))
      · exact .inr (.inr (.inr (.inl ⟨K.1, .inr K⟩)))
    · exact .inr (.inr (.inr (.inr K)))
  rcases sort with ⟨s, y⟩ | ⟨s, y⟩ | ⟨s, y⟩ | ⟨s, y⟩ | ⟨s, y⟩
  · rw [if_neg (show ¬ v24 = 73 by omega), if_pos (show ¬ v24 = 90 by omega), if_neg (show ¬ ¬ v24 = 86 by omega)]
    exact one 0 (by omega) y
  · rw [if_neg (show ¬ v24 = 73 by omega), if_neg (show ¬ ¬ v24 = 90 by omega)]
    exact one 1 (by omega) y
  · rw [if_pos s]
    exact one 1 (by omega) y
  · rw [if_neg (show ¬ v24 = 73 by omega), if_pos (show ¬ v24 = 90 by omega), if_pos (show ¬ v24 = 86 by omega), if_pos (show ¬ v24 = 91 by omega)]
    exact ok_im (rv_type49 hn V26 S26 O26 (by omega) hc W26 hp he y) con
  · rw [if_neg (show ¬ v24 = 73 by omega), if_pos (show ¬ v24 = 90 by omega), if_pos (show ¬ v24 = 86 by omega), if_neg (show ¬ ¬ v24 = 91 by omega)]
    refine ok_add (by omega) ?_; intro v27 e27
    rw [show v27 = 6000 * c + (p + 1) by omega]
    exact ok_im (rv_type49 hn V26 S26 O26 (by omega) hc W26 (by omega) he y) con
end

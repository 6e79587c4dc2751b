section
variable {nn : Nat} {h g r z w v : ms_M} {c d : Int}
/-- image c of the space, as w read it -/
def WI (h : ms_M) (c : Int) (w : ms_M) : Prop := VS_ w ∧ SI9 w c ∧ (∀ i : Int, 0 ≤ i → i < w 160 113 → h 226 (6000 * c + i).toNat = w 238 i.toNat) ∧ (∀ i : Int, 0 ≤ i → i ≤ 255 → h 228 (256 * c + i).toNat = pl w c i) ∧ h 229 c.toNat = w 229 c.toNat ∧ (CL w c (h 230 c.toNat) ∧ CL w c (h 231 c.toNat)) ∧ FLDS w c h ∧ MTHS w c h
theorem wi_of (hc : 0 ≤ c ∧ c ≤ 7) (I : IMW h c) : ∃ w : ms_M, WI h c w := by
  obtain ⟨r, Vr, ⟨w, Vw, K, S9, C, F, M⟩, a1, a2, a3⟩ := I
  have T : ∀ x k : Nat, TAB c x k → h x k = r x k := a3
  unfold TAB at T
  have e113 := K.2.1
  refine ⟨w, Vw, S9, fun i i1 i2 => ?_, fun i i1 i2 => ?_, ?_, ?_, ?_, ?_⟩
  · rw [show (6000 * c + i).toNat = 6000 * c.toNat + i.toNat by omega, a1 i.toNat (by omega)]
    exact (K.1 _).1
  · rw [T 228 _ (by omega)]; exact pl_ke K
  · rw [T 229 _ (by omega)]; exact K.2.2.2
  · rw [T 230 _ (by omega), T 231 _ (by omega)]; exact C
  · unfold FLDS FLD at F ⊢
    have e2 := T 232 c.toNat (by omega)
    rw [e2]
    refine ⟨F.1, fun j j1 j2 => ?_⟩
    rw [T 233 _ (by omega)]; exact F.2 j j1 j2
  · have e4 := T 234 c.toNat (by omega)
    refine ⟨by rw [e4]; exact M.1, fun j j1 j2 => ?_⟩
    rw [e4] at j2
    have m12 := M.1
    obtain ⟨q, q1, q2⟩ := M.2 j j1 j2
    refine ⟨q, q1, ?_⟩
    rw [T 235 _ (by omega)]
    exact xm_eq q2 (T 236 _ (by omega)) (T 237 _ (by omega))
/-- a text of the image: where it lies -/
theorem wi_tx (W : WI h c w) (hc : 0 ≤ c ∧ c ≤ 7) {i : Int} (t : TX w c i) : (1 ≤ i ∧ i ≤ 255) ∧ h 228 (256 * c + i).toNat = pl w c i ∧ (3 ≤ pl w c i ∧ pl w c i + 2 + w 238 (pl w c i + 1).toNat ≤ w 160 113 ∧ w 160 113 ≤ 6000) ∧ (1 ≤ w 238 (pl w c i + 1).toNat ∧ w 238 (pl w c i + 1).toNat ≤ 120) ∧ h 226 (6000 * c + pl w c i + 1).toNat = w 238 (pl w c i + 1).toNat := by
  obtain ⟨Vw, S9, b1, b2, b3, b4, b5, b6⟩ := W
  have g9 := gA_229 Vw c.toNat (by omega)
  have g3 := gF_160_113 Vw
  obtain ⟨t1, t2⟩ := t
  obtain ⟨c0, c1⟩ := S9.2.1 i t1.1 t1.2
  have c2 : (1 ≤ w 238 (pl w c i + 1).toNat ∧ w 238 (pl w c i + 1).toNat ≤ 120) ∧ pl w c i + 2 + w 238 (pl w c i + 1).toNat ≤ w 160 113 := by
    rcases c1 with x | x | x | x
    · exact x.2
    · exfalso; omega
    · exfalso; omega
    · exfalso; omega
  refine ⟨by omega, b2 i (by omega) (by omega), by omega, c2.1, ?_⟩
  have := b1 (pl w c i + 1) (by omega) (by omega)
  rw [← this, show 6000 * c + (pl w c i + 1) = 6000 * c + pl w c i + 1 by omega]
theorem wi_cl (W : WI h c w) (hc : 0 ≤ c ∧ c ≤ 7) {i : Int} (t : CL w c i) : (1 ≤ i ∧ i ≤ 255) ∧ h 228 (256 * c + i).toNat = pl w c i ∧ (3 ≤ pl w c i ∧ pl w c i + 2 ≤ 6000) ∧ h 226 (6000 * c + (pl w c i + 1)).toNat = w 238 (pl w c i + 1).toNat ∧ TS 4 w c (w 238 (pl w c i + 1).toNat) := by
  obtain ⟨Vw, S9, b1, b2, b3, b4, b5, b6⟩ := W
  have g9 := gA_229 Vw c.toNat (by omega)
  have g3 := gF_160_113 Vw
  obtain ⟨t1, t2⟩ := t
  obtain ⟨c0, c1⟩ := S9.2.1 i t1.1 t1.2
  have c2 : pl w c i + 2 ≤ w 160 113 := by
    rcases c1 with x | x | x | x <;> omega
  exact ⟨by omega, b2 i (by omega) (by omega), by omega, b1 (pl w c i + 1) (by omega) (by omega), (S9.2.2 i t1.1 t1.2).1 t2⟩
theorem rv_byte (V : VS_ h) (hc : 0 ≤ c ∧ c ≤ 7) {p : Int} (hp : 0 ≤ p ∧ p < 6000) : Ok_ (qf_X13_byteAt nn c p h) (fun u => u = h 226 (6000 * c + p).toNat ∧ (0 ≤ u ∧ u ≤ 255)) := by
  unfold qf_X13_byteAt
  refine ok_mul (by omega) ?_; intro v2 e2
  refine ok_add (by omega) ?_; intro v3 e3
  refine ok_rd (by omega) (gA_226 V) ?_; intro v4 e4 a4 b4
  exact ok_ret ⟨by rw [e4, e3, e2], a4, b4⟩
theorem rv_textOf (V : VS_ h) (hc : 0 ≤ c ∧ c ≤ 7) (W : WI h c w) {i : Int} (t : CL w c i) : Ok_ (qf_X13_textOfClass nn c i h) (fun u => u = w 238 (pl w c i + 1).toNat ∧ TS 4 w c u) := by
  obtain ⟨a1, a2, a3, a4, a5⟩ := wi_cl W hc t
  unfold qf_X13_textOfClass
  refine ok_mul (by omega) ?_; intro v2 e2
  refine ok_add (by omega) ?_; intro v3 e3
  refine ok_rd (by omega) (gA_228 V) ?_; intro v4 e4 _ _
  rw [e3, e2, a2] at e4
  refine ok_add (by omega) ?_; intro v5 e5
  refine ok_sv (rv_byte V hc (by omega)) ?_; intro u7 P7
  have e : u7 = w 238 (pl w c i + 1).toNat := by rw [P7.1, e5, e4]; exact a4
  exact ok_ret ⟨e, by rw [e]; exact a5⟩
theorem rv_classAt (hn : 1000000 ≤ nn) (V : VS_ h) (S : SPD h) (hc : 0 ≤ c ∧ c ≤ 7) (W : WI h c w) {i : Int} (t : TX w c i) : Ok_ (qf_X13_classAtText nn c i h) (fun u => -1 ≤ u ∧ u < 8 + h 160 98) := by
  obtain ⟨a1, a2, a3, a4, a5⟩ := wi_tx W hc t
  unfold qf_X13_classAtText
  refine ok_mul (by omega) ?_; intro v1 e1
  refine ok_mul (by omega) ?_; intro v3 e3
  refine ok_add (by omega) ?_; intro v4 e4
  refine ok_rd (by omega) (gA_228 V) ?_; intro v5 e5 _ _
  rw [e4, e3, a2] at e5
  refine ok_add (by omega) ?_; intro v6 e6
  refine ok_add (by omega) ?_; intro v8 e8
  refine ok_add (by omega) ?_; intro v10 e10
  refine ok_rd (by omega) (gA_226 V) ?_; intro v11 e11 _ _
  rw [show v10 = 6000 * c + pl w c i + 1 by omega, a5] at e11
  refine ok_sv (nm_class hn (.inr ⟨rfl, rfl⟩) V (by omega) (by omega) (spd_c S)) ?_; intro u13 P13
  exact ok_ret P13
theorem rv_super (hn : 1000000 ≤ nn) (V : VS_ h) (S : SPD h) {k : Int} (hk : 0 ≤ k ∧ k < 8 + h 160 98) : Ok_ (qf_X13_superOf nn k h) (fun u => -1 ≤ u ∧ u < 8 + h 160 98) := by
  have g98 := gF_160_98 V
  unfold qf_X13_superOf
  refine ok_if (fun C => ?_) (fun C => ?_)
  · refine ok_sub (by omega) ?_; intro v1 e1
    refine ok_sub (by omega) ?_; intro v2 e2
    refine ok_sub (by omega) ?_; intro v4 e4
    rw [show v4 = v1 by omega, show v2 = v1 by omega]
    have hc : 0 ≤ v1 ∧ v1 ≤ 7 := by omega
    obtain ⟨w, W⟩ := wi_of hc (S v1 (by omega) (by omega)).2
    refine ok_rd (by omega) (gA_231 V) ?_; intro v5 e5 _ _
    have t := W.2.2.2.2.2.1.2
    rw [← e5] at t
    refine ok_sv (rv_textOf V hc W t) ?_; intro u7 P7
    refine ok_sv (rv_classAt hn V S hc W P7.2.1) ?_; intro u9 P9
    exact ok_ret P9
  · refine ok_if (fun _ => ?_) (fun _ => ok_ret (by omega))
    exact ok_if (fun _ => ok_ret (by omega)) (fun _ => ok_ret (by omega))
theorem rv_under (hn : 1000000 ≤ nn) (V : VS_ h) (S : SPD h) {k t : Int} (hk : -1 ≤ k ∧ k < 8 + h 160 98) : Ok_ (qf_X13_isUnder nn k t h) (fun u => u = 0 ∨ u = 1) := by
  have L : ∀ (m : Nat) (l3 l4 : Int), (-1 ≤ l3 ∧ l3 < 8 + h 160 98) → (0 ≤ l4 ∧ l4 ≤ 17) → 18 - l4 < (m : Int) → Ok_ (qw_X13_isUnder_5 nn m t l3 l4 h) (fun u => u = 0 ∨ u = 1) := by
    intro m
    induction m with
    | zero => intro l3 l4 a b hm; exfalso; omega
    | succ m ih =>
      intro l3 l4 a b hm
      unfold qw_X13_isUnder_5
      refine ok_if (fun _ => ok_ret (.inl rfl)) (fun C => ?_)
      refine ok_if (fun _ => ok_ret (.inl rfl)) (fun D => ?_)
      refine ok_if (fun _ => ?_) (fun _ => ok_ret (.inr rfl))
      refine ok_sv (rv_super hn V S (by omega)) ?_; intro u2 P2
      refine ok_add (by omega) ?_; intro v3 e3
      exact ih u2 v3 P2 (by omega) (by omega)
  unfold qf_X13_isUnder
  exact L nn k 0 hk (by omega) (by omega)
theorem rv_same (hn : 1000000 ≤ nn) (V : VS_ h) (hc : 0 ≤ c ∧ c ≤ 7) (hd : 0 ≤ d ∧ d ≤ 7) (W : WI h c w) (X : WI h d v) {i j : Int} (t : TX w c i) (s : TX v d j) : Ok_ (qf_X13_sameText nn c i d j h) (fun u => u = 0 ∨ u = 1) := by
  obtain ⟨a1, a2, a3, a4, a5⟩ := wi_tx W hc t
  obtain ⟨b1, b2, b3, b4, b5⟩ := wi_tx X hd s
  have L : ∀ (l5 l6 n : Int), (0 ≤ l5 ∧ l5 + 2 + n ≤ 48000) → (1 ≤ n ∧ n ≤ 120) → h 226 (l5 + 1).toNat = n → (0 ≤ l6) → ∀ (m : Nat) (l7 l8 : Int), (l7 = 0 ∨ (l7 = 1 ∧ l6 + 2 + n ≤ 48000)) → (0 ≤ l8 ∧ l8 ≤ n) → n - l8 < (m : Int) → Ok_ (qw_X13_sameText_72 nn m l5 l6 l7 l8 h) (fun u => u = 0 ∨ u = 1) := by
    intro l5 l6 n p1 p2 p3 p4 m
    induction m with
    | zero => intro l7 l8 a b hm; exfalso; omega
    | succ m ih =>
      intro l7 l8 a b hm
      have a' : l7 = 0 ∨ l7 = 1 := by omega
      unfold qw_X13_sameText_72
      refine ok_add (by omega) ?_; intro v2 e2
      refine ok_rd (by omega) (gA_226 V) ?_; intro v3 e3 _ _
      rw [e2, p3] at e3
      refine ok_if (fun _ => ok_ck a' (ok_ret a')) (fun C => ?_)
      refine ok_if (fun _ => ok_ck a' (ok_ret a')) (fun D => ?_)
      refine ok_add (by omega) ?_; intro v7 e7
      refine ok_add (by omega) ?_; intro v8 e8
      refine ok_rd (by omega) (gA_226 V) ?_; intro v9 _ _ _
      refine ok_add (by omega) ?_; intro v11 e11
      refine ok_add (by omega) ?_; intro v12 e12
      refine ok_rd (by omega) (gA_226 V) ?_; intro v13 _ _ _
      refine ok_if (fun _ => ?_) (fun _ => ?_)
      · refine ok_add (by omega) ?_; intro v14 e14
        exact ih 0 v14 (.inl rfl) (by omega) (by omega)
      · refine ok_add (by omega) ?_; intro v15 e15
        exact ih 1 v15 (.inr ⟨rfl, by omega⟩) (by omega) (by omega)
  unfold qf_X13_sameText
  refine ok_mul (by omega) ?_; intro v19 e19
  refine ok_mul (by omega) ?_; intro v21 e21
  refine ok_add (by omega) ?_; intro v22 e22
  refine ok_rd (by omega) (gA_228 V) ?_; intro v23 e23 _ _
  rw [e22, e21, a2] at e23
  refine ok_add (by omega) ?_; intro v24 e24
  refine ok_mul (by omega) ?_; intro v25 e25
  refine ok_mul (by omega) ?_; intro v27 e27
  refine ok_add (by omega) ?_; intro v28 e28
  refine ok_rd (by omega) (gA_228 V) ?_; intro v29 e29 _ _
  rw [e28, e27, b2] at e29
  refine ok_add (by omega) ?_; intro v30 e30
  refine ok_add (by omega) ?_; intro v32 e32
  refine ok_rd (by omega) (gA_226 V) ?_; intro v33 e33 _ _
  rw [show v32 = 6000 * c + pl w c i + 1 by omega, a5] at e33
  refine ok_add (by omega) ?_; intro v35 e35
  refine ok_rd (by omega) (gA_226 V) ?_; intro v36 e36 _ _
  rw [show v35 = 6000 * d + pl v d j + 1 by omega, b5] at e36
  have p3 : h 226 (v24 + 1).toNat = v33 := by rw [show v24 + 1 = 6000 * c + pl w c i + 1 by omega, a5, e33]
  refine ok_if (fun _ => L v24 v30 v33 (by omega) (by omega) p3 (by omega) nn 0 0 (.inl rfl) (by omega) (by omega)) (fun D => ?_)
  have D : v33 = v36 := Decidable.not_not.1 D
  exact L v24 v30 v33 (by omega) (by omega) p3 (by omega) nn 1 0 (.inr ⟨rfl, by omega⟩) (by omega) (by omega)
/-- a method's head: its bytes are there -/
theorem wi_mt (W : WI h c w) (hc : 0 ≤ c ∧ c ≤ 7) {k : Int} (hk : 0 ≤ k ∧ k < h 234 c.toNat) : k < 12 ∧ (h 235 (12 * c + k).toNat + 7 ≤ w 160 113 ∧ w 160 113 ≤ 6000) ∧ MTH w c h k := by
  have M := W.2.2.2.2.2.2.2
  have g3 := gF_160_113 W.1
  have m := M.2 k hk.1 hk.2
  have m12 := M.1
  refine ⟨by omega, ?_, m⟩
  obtain ⟨q, q1, q2⟩ := m
  unfold XM XI XG XE XD XC XR XH XF FRM at q2
  obtain ⟨_, _, _, _, _, _, n1, _, hp, _⟩ := q2
  omega
end

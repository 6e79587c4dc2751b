/-- the reference's heads -/
def MC_ (M : ms_M) : Prop := ∀ m : Nat, (m : Int) < M 160 28 → M 181 m < M 160 24
def CE_ (M : ms_M) : Prop := ∀ c : Nat, (c : Int) < M 160 24 → M 179 c = -1 → M 180 c = 0
def QH_ (r : ms_M) : Prop := VS_ r ∧ HW_ r ∧ MC_ r ∧ (r 160 9 = 0 → AC_ r ∧ r 160 24 ≤ 8)
theorem vw_X13_overrides_90 {nn : Nat} (hn : 1000000 ≤ nn) {l1 l2 : Int} {h : ms_M} (r1 : 0 ≤ l1 ∧ l1 ≤ 799) (r2 : 0 ≤ l2 ∧ l2 ≤ 799) (V : VS_ h) (N : HW_ h) : ∀ (k : Nat) (l3 l4 : Int), (l3 = 0 ∨ (l3 = 1 ∧ h 189 l1.toNat = h 189 l2.toNat)) → (0 ≤ l4 ∧ l4 ≤ 1500) → 1501 - l4 < (k : Int) → Ok_ (qw_X13_overrides_90 nn k l1 l2 l3 l4 h) QV_ := by
  have z1 := N.2 l1.toNat (by omega)
  have z2 := N.2 l2.toNat (by omega)
  have j : ∀ l3 : Int, Ok_ (qj_X13_overrides_148 nn l1 l3 h) QV_ := fun l3 => by
    unfold qj_X13_overrides_148
    refine ok_if (fun _ => ok_rV V) (fun _ => ?_)
    refine ok_rd (by omega) (gA_186 V) ?_; intro v2 e2 a2 b2
    refine ok_cVR (vf_X13_wrong hn (by omega) (by omega) (by omega) (by omega) V) ?_; intro u4 E4 V4 _
    exact ok_rV V4
  intro k
  induction k with
  | zero => intro l3 l4 a b hm; exfalso; omega
  | succ k ih =>
    intro l3 l4 a b hm
    unfold qw_X13_overrides_90
    refine ok_rd (by omega) (gA_189 V) ?_; intro v7 e7 a7 b7
    refine ok_if (fun _ => j l3) (fun C => ?_)
    refine ok_if (fun _ => j l3) (fun C2 => ?_)
    refine ok_rd (by omega) (gA_188 V) ?_; intro v10 e10 a10 b10
    refine ok_add (by omega) ?_; intro v11 e11
    refine ok_rd (by omega) (gA_195 V) ?_; intro v12 e12 a12 b12
    refine ok_rd (by omega) (gA_188 V) ?_; intro v15 e15 a15 b15
    refine ok_add (by omega) ?_; intro v16 e16
    refine ok_rd (by omega) (gA_195 V) ?_; intro v17 e17 a17 b17
    refine ok_if (fun _ => ?_) (fun _ => ?_)
    · refine ok_add (by omega) ?_; intro v18 e18
      exact ih 0 v18 (.inl rfl) (by omega) (by omega)
    · refine ok_add (by omega) ?_; intro v18 e18
      exact ih 1 v18 (by omega) (by omega) (by omega)
theorem vf_X13_overrides {nn : Nat} (hn : 1000000 ≤ nn) {a1 : Int} {h : ms_M} (V : VS_ h) (N : HW_ h) (A : AC_ h) (M : MC_ h) (r : 0 ≤ a1 ∧ a1 < h 160 28) : Ok_ (qf_X13_overrides nn a1 h) QV_ := by
  have g28 := gF_160_28 V
  have g24 := gF_160_24 V
  have mc := M a1.toNat (by omega)
  unfold qf_X13_overrides
  refine ok_rd (by omega) (gA_181 V) ?_; intro v24 e24 a24 b24
  refine ok_add (by omega) ?_; intro v25 e25
  rw [uo_eq (by omega), mx_svs]
  refine ok_rd (by omega) (gA_186 V) ?_; intro v29 e29 a29 b29
  have u1 := A v25 (by omega) (by omega)
  have u2 : upn_ h 419 (uo_ h v25) = -1 := by
    have u1 : (if v25 = -1 then -1 else upn_ h 419 (uo_ h v25)) = -1 := u1
    rw [if_neg (by omega)] at u1; exact u1
  have u3 := uo_b V (c := v25) (by omega)
  have mo : Ok_ (qf_X13_memberOf nn (uo_ h v25) v29 1 h) (QP_ (-1) 799) := by
    unfold qf_X13_memberOf
    exact mo_3 hn V N (by omega) 419 nn _ u2 u3 (by omega)
  refine ok_cP mo ?_; intro u31 e31 a31 b31
  refine ok_if (fun C => ?_) (fun _ => ok_rV V)
  have no : Ok_ (qj_X13_overrides_85 nn a1 u31 h) QV_ := by
    unfold qj_X13_overrides_85
    exact vw_X13_overrides_90 hn (by omega) (by omega) V N nn 0 0 (.inl rfl) (by omega) (by omega)
  refine ok_rd (by omega) (gA_182 V) ?_; intro v33 e33 a33 b33
  refine ok_if (fun _ => no) (fun _ => ?_)
  refine ok_rd (by omega) (gA_182 V) ?_; intro v35 e35 a35 b35
  refine ok_if (fun _ => no) (fun _ => ?_)
  refine ok_rd (by omega) (gA_187 V) ?_; intro v37 e37 a37 b37
  refine ok_rd (by omega) (gA_187 V) ?_; intro v39 e39 a39 b39
  refine ok_if (fun _ => no) (fun _ => ?_)
  refine ok_rd (by omega) (gA_189 V) ?_; intro v41 e41 a41 b41
  refine ok_rd (by omega) (gA_189 V) ?_; intro v43 e43 a43 b43
  refine ok_if (fun _ => no) (fun C5 => ?_)
  exact vw_X13_overrides_90 hn (by omega) (by omega) V N nn 1 0 (by omega) (by omega) (by omega)
theorem mc_fr {M N : ms_M} {L : List Nat} {LF : List (Nat × Nat)} (h : MC_ M) (F : ∀ c k, nw_F L LF false false c k = true → N c k = M c k) (hc : ((nw_F L LF false false 160 28 && nw_F L LF false false 160 24) && (!(L.contains 181) && LF.all (fun q => !(Nat.beq q.1 181)))) = true) : MC_ N := by
  simp only [Bool.and_eq_true] at hc
  obtain ⟨⟨a, b⟩, c, d⟩ := hc
  intro m hm
  rw [F _ _ a] at hm
  rw [F 181 m (nw_ar (by simp only [Bool.and_eq_true]; exact ⟨c, d, rfl, rfl⟩) m), F _ _ b]
  exact h m hm
theorem qh_fr {M N : ms_M} {L : List Nat} {LF : List (Nat × Nat)} (Q : QH_ M) (V : VS_ N) (h0 : N 160 9 = 0 → M 160 9 = 0) (F : ∀ c k, nw_F L LF false false c k = true → N c k = M c k) (h1 : ((!(L.contains 164) && LF.all (fun q => !(Nat.beq q.1 164))) && ((!(L.contains 165) && LF.all (fun q => !(Nat.beq q.1 165))) && ((!(L.contains 188) && LF.all (fun q => !(Nat.beq q.1 188))) && (!(L.contains 189) && LF.all (fun q => !(Nat.beq q.1 189)))))) = true) (h2 : ((nw_F L LF false false 160 28 && nw_F L LF false false 160 24) && (!(L.contains 181) && LF.all (fun q => !(Nat.beq q.1 181)))) = true) (h3 : (!(L.contains 180) && LF.all (fun q => !(Nat.beq q.1 180))) = true) : QH_ N := by
  refine ⟨V, hw_fr Q.1 Q.2.1 F h1, mc_fr Q.2.2.1 F h2, fun z => ?_⟩
  have q := Q.2.2.2 (h0 z)
  simp only [Bool.and_eq_true] at h2 h3
  have e24 : N 160 24 = M 160 24 := F _ _ h2.1.2
  exact ⟨ac_eq q.1 (fun k => F 180 k (nw_ar (by simp only [Bool.and_eq_true]; exact ⟨h3.1, h3.2, rfl, rfl⟩) k)) e24, by rw [e24]; exact q.2⟩
theorem hd_220 {nn : Nat} (hn : 1000000 ≤ nn) : ∀ (k : Nat) (l1 : Int) {h : ms_M}, QH_ h → (0 ≤ l1 ∧ l1 ≤ 800) → 801 - l1 < (k : Int) → Ok_ (qw_X13_heads_220 nn k l1 h) QH_ := by
  intro k
  induction k with
  | zero => intro l1 h Q r hm; exfalso; omega
  | succ k ih =>
    intro l1 h Q r hm
    have V := Q.1
    have g := gF_160_28 V
    unfold qw_X13_heads_220
    refine ok_if (fun _ => ok_ret Q) (fun C => ?_)
    refine ok_if (fun _ => ok_ret Q) (fun C2 => ?_)
    have C2 : h 160 9 = 0 := Decidable.not_not.1 C2
    refine ok_rd (by omega) (gA_182 V) ?_; intro v4 e4 a4 b4
    refine ok_if (fun _ => ?_) (fun _ => ?_)
    · refine ok_add (by omega) ?_; intro v e
      exact ih v Q (by omega) (by omega)
    · refine ok_cV (vf_X13_overrides hn V Q.2.1 (Q.2.2.2 C2).1 Q.2.2.1 (by omega)) ?_; intro u7 E7 V7
      refine ok_add (by omega) ?_; intro v e
      exact ih v (qh_fr Q V7 (fun _ => C2) (fun c k w => (ff_X13_overrides nn) _ E7 c k w) rfl rfl rfl) (by omega) (by omega)
theorem hd_192 {nn : Nat} (hn : 1000000 ≤ nn) : ∀ (k : Nat) (l1 : Int) {h : ms_M}, QH_ h → (0 ≤ l1 ∧ l1 ≤ 800) → 801 - l1 < (k : Int) → Ok_ (qw_X13_heads_192 nn k l1 h) QH_ := by
  intro k
  induction k with
  | zero => intro l1 h Q r hm; exfalso; omega
  | succ k ih =>
    intro l1 h Q r hm
    have V := Q.1
    have g := gF_160_28 V
    unfold qw_X13_heads_192
    refine ok_if (fun _ => hd_220 hn nn 0 Q (by omega) (by omega)) (fun C => ?_)
    refine ok_if (fun _ => hd_220 hn nn 0 Q (by omega) (by omega)) (fun C2 => ?_)
    have C2 : h 160 9 = 0 := Decidable.not_not.1 C2
    refine ok_cV (vf_X13_memberHead hn (by omega) (by omega) V Q.2.1) ?_; intro u15 E15 V15
    refine ok_add (by omega) ?_; intro v e
    exact ih v (qh_fr Q V15 (fun _ => C2) (fun c k w => (ff_X13_memberHead nn) _ E15 c k w) rfl rfl rfl) (by omega) (by omega)
/-- what holds when the classes below l are looked at -/
def HI_ (l : Int) (h : ms_M) : Prop := (VS_ h ∧ HW_ h ∧ MC_ h ∧ CE_ h) ∧ (h 160 9 = 0 → l ≤ 8 ∧ ∀ c : Int, 0 ≤ c → c < l → upn_ h 420 (8 + c) = -1)
theorem upn_b {M : ms_M} {c : Int} (h : 0 ≤ c ∧ c ≤ 7) : upn_ M 420 c = -1 := by
  have u0 : uo_ M 0 = -1 := rfl
  have u1 : uo_ M 1 = 0 := rfl
  have s0 : upn_ M 1 0 = -1 := rfl
  have s1 : upn_ M 2 1 = -1 := rfl
  have s2 : upn_ M 3 c = -1 := by
    by_cases q0 : c = 0
    · rw [q0]; exact upn_e 2 1 s0
    · by_cases q1 : c = 1
      · rw [q1]; exact upn_e 1 2 s1
      · have e : uo_ M c = 1 := by unfold uo_; rw [if_neg q0, if_neg q1, if_neg (by omega)]
        show (if c = -1 then -1 else upn_ M 2 (uo_ M c)) = -1
        rw [if_neg (by omega), e]; exact s1
  exact upn_e 417 3 s2
theorem hi_end {l : Int} {h : ms_M} (I : HI_ l h) (hl : h 160 24 ≤ l) : QH_ h := by
  refine ⟨I.1.1, I.1.2.1, I.1.2.2.1, fun z => ?_⟩
  obtain ⟨a, b⟩ := I.2 z
  refine ⟨fun c h1 h2 => ?_, by omega⟩
  by_cases q : c = -1
  · rw [q]; exact upn_m 420
  · by_cases q2 : c ≤ 7
    · exact upn_b (by omega)
    · have := b (c - 8) (by omega) (by omega)
      rw [show 8 + (c - 8) = c by omega] at this; exact this
theorem hi_w {nn : Nat} {l l2 a b : Int} {h u : ms_M} (hn : 1000000 ≤ nn) (I : HI_ l h) (ra : 1 ≤ a ∧ a ≤ 11) (rb : 0 ≤ b ∧ b ≤ 3001) (e : qf_X13_wrong nn a b h = some u) : HI_ l2 u := by
  have Q := okof (vf_X13_wrong hn (by omega) (by omega) (by omega) (by omega) I.1.1) e
  have F : ∀ c k, _ → u c k = h c k := fun c k w => (ff_X13_wrong nn) _ e c k w
  refine ⟨⟨Q.1, hw_fr I.1.1 I.1.2.1 F rfl, mc_fr I.1.2.2.1 F rfl, fun c hc z => ?_⟩, fun z => absurd z Q.2⟩
  have e24 : u 160 24 = h 160 24 := (ff_X13_wrong nn) _ e 160 24 rfl
  have e179 : u 179 c = h 179 c := (ff_X13_wrong nn) _ e 179 c (nw_ar rfl c)
  have e180 : u 180 c = h 180 c := (ff_X13_wrong nn) _ e 180 c (nw_ar rfl c)
  rw [e180]; rw [e24] at hc; rw [e179] at z
  exact I.1.2.2.2 c hc z
section
variable {nn : Nat} {qk : Int → ms_M → Option ms_M} {l1 : Int}
theorem hd_167 (hn : 1000000 ≤ nn) (hk : ∀ {g : ms_M}, HI_ (l1 + 1) g → Ok_ (qk (l1 + 1) g) QH_) {l2 : Int} {h : ms_M} (I : HI_ l1 h) (h7 : h 160 9 = 0 → l1 ≤ 7) (r : 0 ≤ l1 ∧ l1 < h 160 24) (a : l2 = -1 → upn_ h 420 (8 + l1) = -1) (b : ¬ l2 = -1 → ¬ h 179 l1.toNat = -1) : Ok_ (qj_X13_heads_167 nn qk l1 l2 h) QH_ := by
  have g := gF_160_24 I.1.1
  unfold qj_X13_heads_167
  refine ok_if (fun C => ?_) (fun C => ?_)
  · refine ok_add (by omega) ?_; intro v e
    rw [e]
    refine hk ⟨I.1, fun z => ⟨by have := h7 z; omega, fun c c0 c1 => ?_⟩⟩
    by_cases q : c = l1
    · rw [q]; exact a C
    · exact (I.2 z).2 c c0 (by omega)
  · refine ok_rd (by omega) (gA_179 I.1.1) ?_; intro v21 e21 a21 b21
    have b := b C
    refine ok_cVR (vf_X13_wrong hn (by omega) (by omega) (by omega) (by omega) I.1.1) ?_; intro u23 E23 V23 R23
    refine ok_add (by omega) ?_; intro v e
    rw [e]
    exact hk (hi_w hn I (by omega) (by omega) E23)
theorem hd_139 (hn : 1000000 ≤ nn) (hk : ∀ {g : ms_M}, HI_ (l1 + 1) g → Ok_ (qk (l1 + 1) g) QH_) {h : ms_M} (I : HI_ l1 h) (h7 : h 160 9 = 0 → l1 ≤ 7) (r : 0 ≤ l1 ∧ l1 < h 160 24) : ∀ (f n : Nat), (n : Int) ≤ 410 → (-1 ≤ upn_ h n (8 + l1) ∧ upn_ h n (8 + l1) ≤ 407) → 411 - (n : Int) < (f : Int) → Ok_ (qw_X13_heads_139 nn qk f l1 (upn_ h n (8 + l1)) (n : Int) h) QH_ := by
  have g := gF_160_24 I.1.1
  have two : h 179 l1.toNat = -1 → upn_ h 2 (8 + l1) = -1 := fun z => by
    have u := I.1.2.2.2 l1.toNat (by omega) z
    have e : uo_ h (8 + l1) = 0 := by
      unfold uo_; rw [if_neg (by omega), if_neg (by omega), if_pos (by omega), show 8 + l1 - 8 = l1 by omega]; exact u
    show (if 8 + l1 = -1 then -1 else upn_ h 1 (uo_ h (8 + l1))) = -1
    rw [if_neg (by omega), e]; rfl
  intro f
  induction f with
  | zero => intro n a b hm; exfalso; omega
  | succ f ih =>
    intro n a b hm
    unfold qw_X13_heads_139
    have ea : upn_ h n (8 + l1) = -1 → upn_ h 420 (8 + l1) = -1 := fun z => by
      have := upn_e (420 - n) n z
      rw [show n + (420 - n) = 420 by omega] at this; exact this
    refine ok_add (by omega) ?_; intro v27 e27
    refine ok_if (fun C => ?_) (fun C => ?_)
    · refine hd_167 hn hk I h7 r ea (fun z y => z ?_)
      have := upn_e (n - 2) 2 (two y)
      rw [show 2 + (n - 2) = n by omega] at this; exact this
    · refine ok_if (fun C2 => hd_167 hn hk I h7 r ea (fun z => absurd C2 z)) (fun C2 => ?_)
      rw [uo_eq (by omega), mx_svs]
      refine ok_add (by omega) ?_; intro v30 e30
      have s := upn_s (M := h) n (8 + l1)
      rw [if_neg C2] at s
      rw [e30, ← s]
      exact ih (n + 1) (by omega) (by rw [s]; exact uo_b I.1.1 (by omega)) (by omega)
theorem hd_132 (hn : 1000000 ≤ nn) (hk : ∀ {g : ms_M}, HI_ (l1 + 1) g → Ok_ (qk (l1 + 1) g) QH_) {h : ms_M} (I : HI_ l1 h) (h7 : h 160 9 = 0 → l1 ≤ 7) (r : 0 ≤ l1 ∧ l1 < h 160 24) : Ok_ (qj_X13_heads_132 nn qk l1 h) QH_ := by
  have g := gF_160_24 I.1.1
  unfold qj_X13_heads_132
  refine ok_add (by omega) ?_; intro v33 e33
  rw [e33]
  exact hd_139 hn hk I h7 r nn 0 (by omega) (by show -1 ≤ 8 + l1 ∧ 8 + l1 ≤ 407; omega) (by omega)
theorem hd_111 (hn : 1000000 ≤ nn) (hk : ∀ {g : ms_M}, HI_ (l1 + 1) g → Ok_ (qk (l1 + 1) g) QH_) {h : ms_M} (I : HI_ l1 h) (h7 : h 160 9 = 0 → l1 ≤ 7) (r : 0 ≤ l1 ∧ l1 < h 160 24) : Ok_ (qj_X13_heads_111 nn qk l1 h) QH_ := by
  have g := gF_160_24 I.1.1
  unfold qj_X13_heads_111
  refine ok_rd (by omega) (gA_180 I.1.1) ?_; intro v35 e35 a35 b35
  refine ok_if (fun _ => hd_132 hn hk I h7 r) (fun C => ?_)
  refine ok_rd (by omega) (gA_179 I.1.1) ?_; intro v37 e37 a37 b37
  have n1 : ¬ v37 = -1 := fun z => by
    have := I.1.2.2.2 l1.toNat (by omega) (by rw [← e37]; exact z)
    omega
  refine ok_cVR (vf_X13_wrong hn (by omega) (by omega) (by omega) (by omega) I.1.1) ?_; intro u39 E39 V39 R39
  have e24 : u39 160 24 = h 160 24 := (ff_X13_wrong nn) _ E39 160 24 rfl
  exact hd_132 hn hk (hi_w hn I (by omega) (by omega) E39) (fun z => absurd z R39) (by omega)
theorem hd_83 (hn : 1000000 ≤ nn) (hk : ∀ {g : ms_M}, HI_ (l1 + 1) g → Ok_ (qk (l1 + 1) g) QH_) {h : ms_M} (I : HI_ l1 h) (h7 : h 160 9 = 0 → l1 ≤ 7) (r : 0 ≤ l1 ∧ l1 < h 160 24) : Ok_ (qj_X13_heads_83 nn qk l1 h) QH_ := by
  have g := gF_160_24 I.1.1
  unfold qj_X13_heads_83
  refine ok_rd (by omega) (gA_178 I.1.1) ?_; intro v42 e42 a42 b42
  refine ok_cP (vf_X13_classOf hn (by omega) (by omega) I.1.1 I.1.2.1) ?_; intro u44 e44 a44 b44
  refine ok_add (by omega) ?_; intro v45 e45
  refine ok_if (fun _ => hd_111 hn hk I h7 r) (fun C => ?_)
  refine ok_rd (by omega) (gA_178 I.1.1) ?_; intro v47 e47 a47 b47
  refine ok_cVR (vf_X13_wrong hn (by omega) (by omega) (by omega) (by omega) I.1.1) ?_; intro u49 E49 V49 R49
  have e24 : u49 160 24 = h 160 24 := (ff_X13_wrong nn) _ E49 160 24 rfl
  exact hd_111 hn hk (hi_w hn I (by omega) (by omega) E49) (fun z => absurd z R49) (by omega)
end
theorem hd_50 {nn : Nat} (hn : 1000000 ≤ nn) : ∀ (k : Nat) (l1 : Int) {h : ms_M}, HI_ l1 h → (0 ≤ l1 ∧ l1 ≤ 400) → 401 - l1 < (k : Int) → Ok_ (qw_X13_heads_50 nn k l1 h) QH_ := by
  intro k
  induction k with
  | zero => intro l1 h I r hm; exfalso; omega
  | succ k ih =>
    intro l1 h I r hm
    have g := gF_160_24 I.1.1
    unfold qw_X13_heads_50
    refine ok_if (fun C => hd_192 hn nn 0 (hi_end I C) (by omega) (by omega)) (fun C => ?_)
    refine ok_if (fun C2 => ?_) (fun C2 => ?_)
    · refine hd_192 hn nn 0 ⟨I.1.1, I.1.2.1, I.1.2.2.1, fun z => absurd z C2⟩ (by omega) (by omega)
    · have C2 : h 160 9 = 0 := Decidable.not_not.1 C2
      have i8 := (I.2 C2).1
      have hk : ∀ {g : ms_M}, HI_ (l1 + 1) g → Ok_ (qw_X13_heads_50 nn k (l1 + 1) g) QH_ := fun Ig => ih (l1 + 1) Ig (by omega) (by omega)
      refine ok_if (fun C3 => hd_83 hn hk I (fun _ => by omega) (by omega)) (fun C3 => ?_)
      refine ok_rd (by omega) (gA_178 I.1.1) ?_; intro v54 e54 a54 b54
      refine ok_cVR (vf_X13_wrong hn (by omega) (by omega) (by omega) (by omega) I.1.1) ?_; intro u56 E56 V56 R56
      have e24 : u56 160 24 = h 160 24 := (ff_X13_wrong nn) _ E56 160 24 rfl
      exact hd_83 hn hk (hi_w hn I (by omega) (by omega) E56) (fun z => absurd z R56) (by omega)
theorem hd_2 {nn : Nat} (hn : 1000000 ≤ nn) : ∀ (k : Nat) (l1 : Int) {h : ms_M}, VS_ h → HW_ h → MC_ h → (∀ c : Nat, (c : Int) < l1 → h 179 c = -1 → h 180 c = 0) → (0 ≤ l1 ∧ l1 ≤ 400) → 401 - l1 < (k : Int) → Ok_ (qw_X13_heads_2 nn k l1 h) QH_ := by
  intro k
  induction k with
  | zero => intro l1 h V N M E r hm; exfalso; omega
  | succ k ih =>
    intro l1 h V N M E r hm
    have g := gF_160_24 V
    unfold qw_X13_heads_2
    refine ok_if (fun C => ?_) (fun C => ?_)
    · exact hd_50 hn nn 0 ⟨⟨V, N, M, fun c hc => E c (by omega)⟩, fun _ => ⟨by omega, fun c a b => by omega⟩⟩ (by omega) (by omega)
    · have j : ∀ s0 : Int, (-1 ≤ s0 ∧ s0 ≤ 407) → (h 179 l1.toNat = -1 → s0 = 0) → Ok_ (qj_X13_heads_34 nn (qw_X13_heads_2 nn k) l1 s0 h) QH_ := fun s0 rs hs => by
        unfold qj_X13_heads_34
        refine ok_wA (by omega) ?_; intro h61 E61
        have V61 : VS_ h61 := by rw [E61]; exact wA_180 V (by omega)
        have N61 : HW_ h61 := by rw [E61]; exact hw_up V N rfl
        have f61 : ∀ c k, ¬ (c = 180 ∧ k = l1.toNat) → h61 c k = h c k := fun c k z => by rw [E61]; exact up_n z
        have M61 : MC_ h61 := fun m hm => by
          rw [f61 160 28 (by omega)] at hm
          rw [f61 181 m (by omega), f61 160 24 (by omega)]; exact M m hm
        refine ok_add (by omega) ?_; intro v e
        refine ih v V61 N61 M61 (fun c hc z => ?_) (by omega) (by omega)
        rw [f61 179 c (by omega)] at z
        by_cases q : c = l1.toNat
        · rw [q, E61, up_s]; rw [q] at z; exact hs z
        · rw [f61 180 c (by omega)]; exact E c (by omega) z
      refine ok_rd (by omega) (gA_179 V) ?_; intro v65 e65 a65 b65
      refine ok_if (fun C2 => ?_) (fun C2 => ?_)
      · refine ok_rd (by omega) (gA_179 V) ?_; intro v67 e67 a67 b67
        refine ok_cP (vf_X13_classOf hn (by omega) (by omega) V N) ?_; intro u69 e69 a69 b69
        exact j u69 ⟨a69, b69⟩ (fun z => by omega)
      · exact j 0 (by omega) (fun _ => rfl)
theorem vf_X13_heads {nn : Nat} (hn : 1000000 ≤ nn) {h : ms_M} (V : VS_ h) (N : HW_ h) (M : MC_ h) : Ok_ (qf_X13_heads nn h) QH_ := by
  unfold qf_X13_heads
  exact hd_2 hn nn 0 V N M (fun c hc => by omega) (by omega) (by omega)

/- HEADS: the heads of classes, both sides -/
/-- the class's Kin behind readClasses -/
def KNc (U : Nat → Int) (n : Nat) (h : ms_M) : Prop := (∀ j : Nat, j < 16 → h 13 j = if j < 8 then bi_A j else if j < 8 + n then U (j - 8) else -1) ∧ un_R 12 h
/-- all is right with the classes below k -/
def OKc (V : Nat → Int) (C : Nat → Nat) (U : Nat → Int) (n k : Nat) : Prop := ∀ j : Nat, j < k → CLz (fun k => V (C k)) n (V (C j)) (8 + (j : Int)) ∧ ¬ U j = -1 ∧ ENDS U n j
section
variable {nn : Nat} {K P V U : Nat → Int} {C : Nat → Nat} {c n N : Nat} {h g r w u v h0 r0 : ms_M}
theorem r_wrg (B : TBq K P c r) (hf : r 160 9 = 0) {t : Nat} (ht : t < c) {k x : Int} (hx : x = (t : Int)) : Pc (qf_X13_wrong nn k x r) (fun v => (v 160 9 = k ∧ v 160 10 = P t) ∧ ∀ cc y : Nat, ¬ (cc = 160 ∧ (y = 9 ∨ y = 10)) → v cc y = r cc y) := by
  subst hx
  unfold qf_X13_wrong
  refine pc_if (fun _ => ?_) (fun z => absurd hf z)
  refine pc_xl ?_; intro h2 e2
  refine pc_rA ?_; intro _ _ v4 e4
  rw [Int.toNat_natCast, e2, up_n (by omega), B.2.1 t ht] at e4
  refine pc_xl ?_; intro h5 e5
  exact pc_ret ⟨⟨by rw [e5, up_n (by omega), e2, up_s], by rw [e5, up_s]; exact e4⟩, fun cc y z => by rw [e5, up_n (by omega), e2, up_n (by omega)]⟩
theorem r_wrg2 (hf : ¬ r 160 9 = 0) {k x : Int} : Pc (qf_X13_wrong nn k x r) (fun v => v = r) := by
  unfold qf_X13_wrong
  exact pc_if (fun z => absurd z hf) (fun _ => pc_ret rfl)
theorem r_up {x : Int} (hx : -1 ≤ x ∧ x ≤ 1000) : Pc (qf_X13_upperOf nn x r) (fun u => u = uq_T (r 180) x) := by
  unfold qf_X13_upperOf uq_T
  refine pc_if (fun z => ?_) (fun z => ?_)
  · rw [if_neg z]
    refine pc_if (fun z1 => ?_) (fun z1 => ?_)
    · rw [if_neg z1]
      refine pc_if (fun z2 => ?_) (fun z2 => ?_)
      · rw [if_pos z2]
        refine pc_sub (by omega) ?_; intro v2 e2
        refine pc_rA ?_; intro _ _ v3 e3
        exact pc_ret (by rw [e3, e2])
      · rw [if_neg z2]; exact pc_ret rfl
    · rw [if_pos (Classical.byContradiction z1)]; exact pc_ret rfl
  · rw [if_pos (Classical.byContradiction z)]; exact pc_ret rfl
/- behind a FAULT -/
theorem r_167f {k : Nat} {l2 : Int} {qk : Int → ms_M → Option ms_M} {Q : ms_M → Prop} (hf : ¬ r 160 9 = 0) (hk : k ≤ 1000) (Z : Pc (qk ((k + 1 : Nat) : Int) r) Q) : Pc (qj_X13_heads_167 nn qk (k : Int) l2 r) Q := by
  unfold qj_X13_heads_167
  refine pc_if (fun _ => ?_) (fun _ => ?_)
  · refine pc_add (by omega) ?_; intro v19 e19
    rw [show v19 = ((k + 1 : Nat) : Int) by omega]; exact Z
  · refine pc_rA ?_; intro _ _ v21 _
    refine pc_sv (r_wrg2 hf) ?_; intro u23 q23
    rw [q23]
    refine pc_add (by omega) ?_; intro v24 e24
    rw [show v24 = ((k + 1 : Nat) : Int) by omega]; exact Z
theorem r_139f {k : Nat} {qk : Int → ms_M → Option ms_M} {Q : ms_M → Prop} (hf : ¬ r 160 9 = 0) (hk : k ≤ 1000) (Z : Pc (qk ((k + 1 : Nat) : Int) r) Q) : ∀ (f : Nat) (l2 l3 : Int), Pc (qw_X13_heads_139 nn qk f (k : Int) l2 l3 r) Q := by
  intro f
  induction f with
  | zero => intros; exact pc_none
  | succ f ih =>
    intro l2 l3
    unfold qw_X13_heads_139
    refine pc_xl ?_; intro v27 _
    refine pc_if (fun _ => r_167f hf hk Z) (fun _ => ?_)
    refine pc_if (fun _ => r_167f hf hk Z) (fun _ => ?_)
    refine pc_se ?_; intro u29 _
    refine pc_xl ?_; intro v30 _
    exact ih u29 v30
theorem r_132f {k : Nat} {qk : Int → ms_M → Option ms_M} {Q : ms_M → Prop} (hf : ¬ r 160 9 = 0) (hk : k ≤ 1000) (Z : Pc (qk ((k + 1 : Nat) : Int) r) Q) : Pc (qj_X13_heads_132 nn qk (k : Int) r) Q := by
  unfold qj_X13_heads_132
  refine pc_xl ?_; intro v33 _
  exact r_139f hf hk Z nn v33 0
theorem r_111f {k : Nat} {qk : Int → ms_M → Option ms_M} {Q : ms_M → Prop} (hf : ¬ r 160 9 = 0) (hk : k ≤ 1000) (Z : Pc (qk ((k + 1 : Nat) : Int) r) Q) : Pc (qj_X13_heads_111 nn qk (k : Int) r) Q := by
  unfold qj_X13_heads_111
  refine pc_rA ?_; intro _ _ v35 _
  refine pc_if (fun _ => r_132f hf hk Z) (fun _ => ?_)
  refine pc_rA ?_; intro _ _ v37 _
  refine pc_sv (r_wrg2 hf) ?_; intro u39 q39
  rw [q39]; exact r_132f hf hk Z
theorem r_83f {k : Nat} {qk : Int → ms_M → Option ms_M} {Q : ms_M → Prop} (hf : ¬ r 160 9 = 0) (hk : k ≤ 1000) (Z : Pc (qk ((k + 1 : Nat) : Int) r) Q) : Pc (qj_X13_heads_83 nn qk (k : Int) r) Q := by
  unfold qj_X13_heads_83
  refine pc_rA ?_; intro _ _ v42 _
  refine pc_se ?_; intro u44 _
  refine pc_xl ?_; intro v45 _
  refine pc_if (fun _ => r_111f hf hk Z) (fun _ => ?_)
  refine pc_rA ?_; intro _ _ v47 _
  refine pc_sv (r_wrg2 hf) ?_; intro u49 q49
  rw [q49]; exact r_111f hf hk Z
theorem ui_b2 (B : ∀ k : Nat, k < n → -1 ≤ U k ∧ U k < 8 + (n : Int)) {x : Int} (hx : 8 ≤ x ∧ x < 8 + (n : Int)) : ∀ i : Nat, (∀ j : Nat, j < i → ¬ ui_T U x j = -1) → -1 ≤ ui_T U x i ∧ ui_T U x i < 8 + (n : Int) := by
  intro i
  induction i with
  | zero => intro _; show -1 ≤ x ∧ x < 8 + (n : Int); omega
  | succ i ih =>
    intro A
    have a := A i (by omega)
    have b := ih (fun j hj => A j (by omega))
    show -1 ≤ uq_T U (ui_T U x i) ∧ uq_T U (ui_T U x i) < 8 + (n : Int)
    unfold uq_T
    by_cases q0 : ui_T U x i = 0
    · rw [if_pos q0]; omega
    · rw [if_neg q0]
      by_cases q1 : ui_T U x i = 1
      · rw [if_pos q1]; omega
      · rw [if_neg q1]
        by_cases q8 : 8 ≤ ui_T U x i
        · rw [if_pos q8]; exact B _ (by omega)
        · rw [if_neg q8]; omega
theorem r_139 (e24 : r 160 24 = (n : Int)) (hn : n ≤ 334) (B : ∀ k : Nat, k < n → -1 ≤ r 180 k ∧ r 180 k < 8 + (n : Int)) {k : Nat} (hk : k < n) {qk : Int → ms_M → Option ms_M} {Q : ms_M → Prop} (HE : (∃ i : Nat, i ≤ n + 10 ∧ ui_T (r 180) (8 + (k : Int)) i = -1) → Pc (qj_X13_heads_167 nn qk (k : Int) (-1) r) Q) (HN : (¬ ∃ i : Nat, i ≤ n + 10 ∧ ui_T (r 180) (8 + (k : Int)) i = -1) → ∀ l2 : Int, ¬ l2 = -1 → Pc (qj_X13_heads_167 nn qk (k : Int) l2 r) Q) : ∀ (f i : Nat), i ≤ n + 10 → (∀ j : Nat, j < i → ¬ ui_T (r 180) (8 + (k : Int)) j = -1) → Pc (qw_X13_heads_139 nn qk f (k : Int) (ui_T (r 180) (8 + (k : Int)) i) (i : Int) r) Q := by
  intro f
  induction f with
  | zero => intros; exact pc_none
  | succ f ih =>
    intro i hi A
    have b := ui_b2 B (x := 8 + (k : Int)) (by omega) i A
    have L : ui_T (r 180) (8 + (k : Int)) i = -1 → Pc (qj_X13_heads_167 nn qk (k : Int) (ui_T (r 180) (8 + (k : Int)) i) r) Q := fun a => by
      rw [a]; exact HE ⟨i, hi, a⟩
    unfold qw_X13_heads_139
    refine pc_add (by omega) ?_; intro v27 e27
    refine pc_if (fun z => ?_) (fun z => ?_)
    · by_cases a : ui_T (r 180) (8 + (k : Int)) i = -1
      · exact L a
      · refine HN (fun E => ?_) _ a
        obtain ⟨j, j1, j2⟩ := E
        by_cases q : j = i
        · rw [q] at j2; exact a j2
        · exact A j (by omega) j2
    · refine pc_if (fun a => L a) (fun a => ?_)
      refine pc_sv (r_up (by omega)) ?_; intro u29 q29
      refine pc_add (by omega) ?_; intro v30 e30
      rw [show v30 = ((i + 1 : Nat) : Int) by omega, show u29 = ui_T (r 180) (8 + (k : Int)) (i + 1) from q29]
      refine ih (i + 1) (by omega) (fun j hj => ?_)
      by_cases ji : j = i
      · rw [ji]; exact a
      · exact A j (by omega)
theorem r_head (BK : TBn K c) (S : CKd K V C n N) (H : HDr K P V C c n r) (UP : ∀ k : Nat, k < n → UPk K V C n k (r 180 k)) (hf : r 160 9 = 0) {k : Nat} (hk : k < n) (k8 : k ≤ 8) {qk : Int → ms_M → Option ms_M} {Q : ms_M → Prop} (Z : ∀ v : ms_M, FCH P V C (r 180) n k (v 160 9) (v 160 10) → (∀ cc y : Nat, ¬ (cc = 160 ∧ (y = 9 ∨ y = 10)) → v cc y = r cc y) → Pc (qk ((k + 1 : Nat) : Int) v) Q) : Pc (if ¬ (k : Int) = 8 then (qj_X13_heads_83 nn qk (k : Int) r) else (rd_A 400 178 (k : Int) r fun v54 => mx_sv (qf_X13_wrong nn 11 v54 r) fun u56 => qj_X13_heads_83 nn qk (k : Int) u56)) Q := by
  have s1 := S.1
  have n3 := BK.2.1
  have s2 := S.2.1 k hk
  have B : ∀ k : Nat, k < n → -1 ≤ r 180 k ∧ r 180 k < 8 + (n : Int) := fun k hk => upk_b S hk (UP k hk)
  have lt := tb_lt BK (i := C k) (by omega)
  have e1 := (H.2.2.2 k hk).1
  have ex : ¬ r 180 k = 0 → C k + 2 < c ∧ r 179 k = ((C k + 2 : Nat) : Int) := fun z => by
    rcases UP k hk with ⟨a1, a2⟩ | ⟨a1, a2⟩
    · refine ⟨tb_lt BK (by have := s2.2 a1; omega), ?_⟩
      rcases (H.2.2.2 k hk).2 with ⟨b1, b2⟩ | ⟨b1, b2⟩
      · exact b2
      · exact absurd a1 b1
    · exact absurd a2 z
  refine pc_if (fun z8 => ?_) (fun z8 => ?_)
  · unfold qj_X13_heads_83
    refine pc_rA ?_; intro _ _ v42 e42
    rw [Int.toNat_natCast, e1] at e42
    refine pc_sv (r_classOf BK S H s2.1 e42) ?_; intro u44 q44
    refine pc_add (by omega) ?_; intro v45 e45
    refine pc_if (fun z => ?_) (fun z => ?_)
    · have G : CLz (fun k => V (C k)) n (V (C k)) (8 + (k : Int)) := by rw [← e45, ← z]; exact q44
      unfold qj_X13_heads_111
      refine pc_rA ?_; intro _ _ v35 e35
      rw [Int.toNat_natCast] at e35
      refine pc_if (fun z35 => ?_) (fun z35 => ?_)
      · unfold qj_X13_heads_132
        refine pc_add (by omega) ?_; intro v33 e33
        rw [show v33 = ui_T (r 180) (8 + (k : Int)) 0 by show v33 = 8 + (k : Int); omega]
        refine r_139 H.2.2.1 (by omega) B hk (fun E => ?_) (fun E l2 hl => ?_) nn 0 (by omega) (fun j hj => absurd hj (by omega))
        · unfold qj_X13_heads_167
          refine pc_if (fun _ => ?_) (fun y => absurd rfl y)
          refine pc_add (by omega) ?_; intro v19 e19
          rw [show v19 = ((k + 1 : Nat) : Int) by omega]
          exact Z r (.inr ⟨by omega, .inr ⟨G, .inr ⟨by rw [← e35]; exact z35, .inr ⟨(ends_iff B hk).mpr E, hf⟩⟩⟩⟩) (fun _ _ _ => rfl)
        · unfold qj_X13_heads_167
          refine pc_if (fun y => absurd y hl) (fun _ => ?_)
          have ne : ¬ ENDS (r 180) n k := fun y => E ((ends_iff B hk).mp y)
          have x := ex (fun z0 => ne ⟨1, by omega, by
            show uq_T (r 180) (8 + (k : Int)) < 8
            rw [uq_8 (by omega), show (8 + (k : Int) - 8).toNat = k by omega]; omega⟩)
          refine pc_rA ?_; intro _ _ v21 e21
          rw [Int.toNat_natCast, x.2] at e21
          refine pc_sv (r_wrg H.1 hf x.1 e21) ?_; intro u23 q23
          refine pc_add (by omega) ?_; intro v24 e24
          rw [show v24 = ((k + 1 : Nat) : Int) by omega]
          exact Z u23 (.inr ⟨by omega, .inr ⟨G, .inr ⟨by rw [← e35]; exact z35, .inl ⟨ne, q23.1⟩⟩⟩⟩) q23.2
      · have m1 : r 180 k = -1 := by omega
        have x := ex (by omega)
        refine pc_rA ?_; intro _ _ v37 e37
        rw [Int.toNat_natCast, x.2] at e37
        refine pc_sv (r_wrg H.1 hf x.1 e37) ?_; intro u39 q39
        exact r_132f (by rw [q39.1.1]; decide) (by omega) (Z u39 (.inr ⟨by omega, .inr ⟨G, .inl ⟨m1, q39.1⟩⟩⟩) q39.2)
    · refine pc_rA ?_; intro _ _ v47 e47
      rw [Int.toNat_natCast, e1] at e47
      refine pc_sv (r_wrg H.1 hf lt e47) ?_; intro u49 q49
      refine r_111f (by rw [q49.1.1]; decide) (by omega) (Z u49 (.inr ⟨by omega, .inl ⟨fun G => z ?_, q49.1⟩⟩) q49.2)
      rw [e45]; exact cls_d q44 G
  · refine pc_rA ?_; intro _ _ v54 e54
    rw [Int.toNat_natCast, e1] at e54
    refine pc_sv (r_wrg H.1 hf lt e54) ?_; intro u56 q56
    exact r_83f (by rw [q56.1.1]; decide) (by omega) (Z u56 (.inl ⟨by omega, q56.1⟩) q56.2)
/- the reference's row of uppers -/
theorem r_heads2 (BK : TBn K c) (S : CKd K V C n N) {Q : ms_M → Prop} (H0 : HDr K P V C c n r0) (Z : ∀ r : ms_M, (∀ cc y : Nat, ¬ cc = 180 → r cc y = r0 cc y) → (∀ k : Nat, k < n → UPk K V C n k (r 180 k)) → Pc (qw_X13_heads_50 nn nn 0 r) Q) : ∀ (f k : Nat) (r : ms_M), k ≤ n → (∀ cc y : Nat, ¬ cc = 180 → r cc y = r0 cc y) → (∀ j : Nat, j < k → UPk K V C n j (r 180 j)) → Pc (qw_X13_heads_2 nn f (k : Int) r) Q := by
  intro f
  induction f with
  | zero => intros; exact pc_none
  | succ f ih =>
    intro k r hk A U
    have s1 := S.1
    have H := hdr_k H0 (fun cc y q => A cc y (by omega))
    have e24 := H.2.2.1
    unfold qw_X13_heads_2
    refine pc_if (fun z => Z r A (fun j hj => U j (by omega))) (fun z => ?_)
    have s2 := S.2.1 k (by omega)
    have F : ∀ x : Int, UPk K V C n k x → Pc (qj_X13_heads_34 nn (qw_X13_heads_2 nn f) (k : Int) x r) Q := fun x q => by
      unfold qj_X13_heads_34
      refine pc_wA ?_; intro _ _ h61 e61
      rw [Int.toNat_natCast] at e61
      refine pc_add (by omega) ?_; intro v62 e62
      rw [show v62 = ((k + 1 : Nat) : Int) by omega]
      refine ih (k + 1) h61 (by omega) (fun cc y q => by rw [e61, up_n (by omega)]; exact A cc y q) (fun j hj => ?_)
      by_cases jk : j = k
      · rw [jk, e61, up_s]; exact q
      · rw [e61, up_n (by omega)]; exact U j (by omega)
    refine pc_rA ?_; intro _ _ v65 e65
    rw [Int.toNat_natCast] at e65
    rcases (H.2.2.2 k (by omega)).2 with ⟨b1, b2⟩ | ⟨b1, b2⟩
    · refine pc_if (fun _ => ?_) (fun y => absurd (fun y2 => by omega) y)
      refine pc_rA ?_; intro _ _ v67 e67
      rw [Int.toNat_natCast, b2] at e67
      refine pc_sv (r_classOf BK S H (s2.2 b1) e67) ?_; intro u69 q69
      exact F u69 (.inl ⟨b1, q69⟩)
    · refine pc_if (fun y => absurd (by omega) y) (fun _ => ?_)
      exact F 0 (.inr ⟨b1, rfl⟩)
/- the class's Kin -/
theorem c_48 (h17 : 17 ≤ nn) (BK : TBn K c) (S : CKd K V C n N) (n8 : n ≤ 8) (UP : ∀ k : Nat, k < n → UPk K V C n k (U k)) (H0 : HDc K P V C c n h0) (NC : NCl V C n N h0) (f0 : h0 2 11 = 0) : ∀ (f k : Nat) (h : ms_M), k ≤ n → (∀ cc y : Nat, ¬ cc = 13 → h cc y = h0 cc y) → (∀ j : Nat, j < 16 → h 13 j = if j < 8 then bi_A j else if j < 8 + k then U (j - 8) else -1) → Pc (qw_X2_readClasses_48 nn f (k : Int) h) (fun u => KNc U n u ∧ ∀ cc y : Nat, ¬ cc = 13 → ¬ cc = 14 → u cc y = h0 cc y) := by
  intro f
  induction f with
  | zero => intros; exact pc_none
  | succ f ih =>
    intro k h hk A R
    have s1 := S.1
    have H := hdc_k H0 (fun cc y q => A cc y (by omega))
    have NC1 : NCl V C n N h := fun x hx => by rw [A 16 x (by omega)]; exact NC x hx
    have e2 := H.2.2.1
    unfold qw_X2_readClasses_48
    refine pc_if (fun z => ?_) (fun z => ?_)
    · have kn : k = n := by omega
      unfold qj_X2_readClasses_88
      obtain ⟨h2, e, fr, un⟩ := settle_ok h17 (l0 := 12) (h := h)
      refine pc_sv (P := fun a => a = h2) (fun a ea => by rw [e] at ea; exact (Option.some.inj ea).symm) ?_; intro a ea
      refine pc_ret ?_
      rw [ea]
      refine ⟨⟨fun j hj => ?_, un⟩, fun cc y z1 z2 => ?_⟩
      · rw [fr 13 j (by omega), R j hj, kn]
      · rw [fr cc y (by omega)]; exact A cc y z1
    · refine pc_if (fun y => absurd (by rw [A 2 11 (by omega)]; exact f0) y) (fun _ => ?_)
      refine pc_add (by omega) ?_; intro v8 e8
      refine pc_sv (c_above BK S H NC1 UP (k := k) (by omega) rfl) ?_; intro u10 q10
      refine pc_sv (P := fun a => a = up_M h 13 (8 + k) (U k)) ?_ ?_
      · unfold qf_X4_setAbove qf_X4_isClass
        refine pc_sv (P := fun a => a = 1) ?_ ?_
        · refine pc_if (fun y => absurd y (by omega)) (fun _ => ?_)
          exact pc_if (fun y => absurd y (by omega)) (fun _ => pc_ret rfl)
        · intro a ea
          refine pc_if (fun y => absurd y (by omega)) (fun _ => ?_)
          refine pc_wA ?_; intro _ _ h3 e3
          refine pc_ret ?_
          rw [e3, q10, show v8.toNat = 8 + k by omega]
      · intro u12 e12
        refine pc_add (by omega) ?_; intro v13 e13
        rw [show v13 = ((k + 1 : Nat) : Int) by omega]
        refine ih (k + 1) u12 (by omega) (fun cc y q => by rw [e12, up_n (by omega)]; exact A cc y q) (fun j hj => ?_)
        rw [e12]
        by_cases jk : j = 8 + k
        · rw [jk, up_s, if_neg (by omega), if_pos (by omega), show 8 + k - 8 = k by omega]
        · rw [up_n (by omega), R j hj]
          by_cases q8 : j < 8
          · rw [if_pos q8, if_pos q8]
          · rw [if_neg q8, if_neg q8]
            by_cases qk : j < 8 + k
            · rw [if_pos qk, if_pos (by omega)]
            · rw [if_neg qk, if_neg (by omega)]
theorem j_cl17 (h17 : 17 ≤ nn) (BK : TBn K c) (S : CKd K V C n N) (UP : ∀ k : Nat, k < n → UPk K V C n k (r0 180 k)) (H0 : HDc K P V C c n h0) (NC : NCl V C n N h0) (D0 : HDr K P V C c n r0) (I0 : ∀ j : Nat, j < 16 → h0 13 j = bi_A j) {Z : ms_M → ms_M → Prop} (HS : ∀ u v, SFj u v → Z u v) (HO : ∀ u r : ms_M, (∀ cc y : Nat, ¬ (cc = 2 ∧ (y = 11 ∨ y = 12)) → ¬ cc = 13 → ¬ cc = 14 → u cc y = h0 cc y) → (∀ cc y : Nat, ¬ (cc = 160 ∧ (y = 9 ∨ y = 10)) → r cc y = r0 cc y) → u 2 11 = 0 → r 160 9 = 0 → n ≤ 8 → OKc V C (r0 180) n n → KNc (r0 180) n u → Pc (qw_X13_heads_192 nn nn 0 r) (fun v => Z u v)) : ∀ (f f2 k : Nat) (h r : ms_M), (∀ cc y : Nat, ¬ (cc = 2 ∧ (y = 11 ∨ y = 12)) → h cc y = h0 cc y) → (∀ cc y : Nat, ¬ (cc = 160 ∧ (y = 9 ∨ y = 10)) → r cc y = r0 cc y) → h 2 11 = 0 → r 160 9 = 0 → k ≤ n → k ≤ 8 → OKc V C (r0 180) n k → Pc (qw_X2_readClasses_17 nn f (k : Int) h) (fun u => Pc (qw_X13_heads_50 nn f2 (k : Int) r) (fun v => Z u v)) := by
  intro f
  induction f with
  | zero => intros; exact pc_none
  | succ f ih =>
    intro f2 k h r Ah Ar hf rf hk k8 OK
    cases f2 with
    | zero => exact fun _ _ => pc_none
    | succ f2 =>
      have s1 := S.1
      have H := hdc_k H0 (fun cc y q => Ah cc y (by omega))
      have NC1 : NCl V C n N h := fun x hx => by rw [Ah 16 x (by omega)]; exact NC x hx
      have D := hdr_k D0 (fun cc y q => Ar cc y (by omega))
      have r180 : r 180 = r0 180 := funext (fun x => Ar 180 x (by omega))
      have e2 := H.2.2.1
      have e24 := D.2.2.1
      unfold qw_X2_readClasses_17
      refine pc_if (fun z => ?_) (fun z => ?_)
      · have kn : k = n := by omega
        refine pc_imp (c_48 (U := r0 180) h17 BK S (by omega) UP H NC1 hf nn 0 h (by omega) (fun _ _ _ => rfl) (fun j hj => ?_)) (fun u q => ?_)
        · rw [Ah 13 j (by omega), I0 j hj]
          by_cases q8 : j < 8
          · rw [if_pos q8]
          · rw [if_neg q8, if_neg (by omega)]
            unfold bi_A
            rw [if_neg (by omega), if_neg (by omega)]
        · unfold qw_X13_heads_50
          refine pc_if (fun _ => ?_) (fun y => absurd (by omega) y)
          refine HO u r (fun cc y z1 z2 z3 => ?_) Ar ?_ rf (by omega) (by rw [kn] at OK; exact OK) q.1
          · rw [q.2 cc y z2 z3]; exact Ah cc y z1
          · rw [q.2 2 11 (by omega) (by omega)]; exact hf
      · refine pc_if (fun y => absurd hf y) (fun _ => ?_)
        refine pc_sv (c_head BK S H NC1 UP hf (k := k) (by omega)) ?_; intro u20 q20
        refine pc_add (by omega) ?_; intro v21 e21
        refine pc_fl ?_
        unfold qw_X13_heads_50
        refine pc_if (fun y => absurd y (by omega)) (fun _ => ?_)
        refine pc_if (fun y => absurd rf y) (fun _ => ?_)
        refine r_head BK S D (by rw [r180]; exact UP) rf (by omega) k8 (fun v F fr => ?_)
        rw [r180] at F
        have E := fch_d q20.1 F
        rw [show v21 = ((k + 1 : Nat) : Int) by omega]
        by_cases q : u20 2 11 = 0
        · have OKk : k < 8 ∧ CLz (fun k => V (C k)) n (V (C k)) (8 + (k : Int)) ∧ ¬ r0 180 k = -1 ∧ ENDS (r0 180) n k := by
            rcases q20.1 with ⟨a0, a1, a2⟩ | ⟨a0, ⟨a1, a2, a3⟩ | ⟨a1, ⟨a2, a3, a4⟩ | ⟨a2, ⟨a3, a4, a5⟩ | ⟨a3, a4⟩⟩⟩⟩
            · omega
            · omega
            · omega
            · omega
            · exact ⟨a0, a1, a2, a3⟩
          refine pc_fl (ih f2 (k + 1) u20 v (fun cc y z => by rw [q20.2 cc y z]; exact Ah cc y z) (fun cc y z => by rw [fr cc y z]; exact Ar cc y z) q (by rw [← E.1]; exact q) (by omega) (by omega) (fun j hj => ?_))
          by_cases jk : j = k
          · rw [jk]; exact OKk.2
          · exact OK j (by omega)
        · have SF : SFj u20 v := ⟨q, E.1.symm, (E.2 q).symm⟩
          refine pc_fl (pj_sf (o := fun a => a) (q := fun b => b) SF (fs_qw_X2_readClasses_17 f _ _ q) (ft_qw_X13_heads_50 f2 _ _ (sf_r SF)) (fun a b s => HS a b s))
/-- both sides: readClasses, and heads up to the members -/
theorem j_classes (h17 : 17 ≤ nn) (BK : TBn K c) (S : CKd K V C n N) (H0 : HDc K P V C c n h) (h9 : h 2 9 = (N : Int)) (D0 : HDr K P V C c n r) (I0 : ∀ j : Nat, j < 16 → h 13 j = bi_A j) (hf : h 2 11 = 0) (rf : r 160 9 = 0) {Z : ms_M → ms_M → Prop} (HS : ∀ u v, SFj u v → Z u v) (HO : ∀ u v : ms_M, (∀ cc y : Nat, ¬ (cc = 2 ∧ (y = 11 ∨ y = 12)) → ¬ cc = 13 → ¬ cc = 14 → ¬ cc = 16 → u cc y = h cc y) → (∀ cc y : Nat, ¬ (cc = 160 ∧ (y = 9 ∨ y = 10)) → ¬ cc = 180 → v cc y = r cc y) → u 2 11 = 0 → v 160 9 = 0 → n ≤ 8 → NCl V C n N u → (∀ k : Nat, k < n → UPk K V C n k (v 180 k)) → OKc V C (v 180) n n → KNc (v 180) n u → Pc (qw_X13_heads_192 nn nn 0 v) (fun v2 => Z u v2)) : Pc (qf_X2_readClasses nn h) (fun u => Pc (qf_X13_heads nn r) (fun v => Z u v)) := by
  unfold qf_X2_readClasses
  refine pc_if (fun _ => ?_) (fun y => absurd hf y)
  refine pc_sv (c_nameClasses BK S H0 h9) ?_; intro u27 q27
  refine pc_fl ?_
  unfold qf_X13_heads
  refine r_heads2 BK S D0 (fun r1 A U => ?_) nn 0 r (by omega) (fun _ _ _ => rfl) (fun j hj => absurd hj (by omega))
  refine pc_fl ?_
  refine j_cl17 h17 BK S U (hdc_k H0 (fun cc y q => q27.2 cc y (by omega))) q27.1 (hdr_k D0 (fun cc y q => A cc y (by omega))) (fun j hj => by rw [q27.2 13 j (by omega)]; exact I0 j hj) HS (fun u v Au Av uf vf n8 OK KN => ?_) nn nn 0 u27 r1 (fun _ _ _ => rfl) (fun _ _ _ => rfl) (by rw [q27.2 2 11 (by omega)]; exact hf) (by rw [A 160 9 (by omega)]; exact rf) (by omega) (by omega) (fun j hj => absurd hj (by omega))
  have v180 : v 180 = r1 180 := funext (fun x => Av 180 x (by omega))
  refine HO u v (fun cc y z1 z2 z3 z4 => ?_) (fun cc y z1 z2 => ?_) uf vf n8 (fun x hx => ?_) (by rw [v180]; exact U) (by rw [v180]; exact OK) (by rw [v180]; exact KN)
  · rw [Au cc y z1 z2 z3]; exact q27.2 cc y z4
  · rw [Av cc y z1]; exact A cc y z2
  · rw [Au 16 x (by omega) (by omega) (by omega)]; exact q27.1 x hx
end

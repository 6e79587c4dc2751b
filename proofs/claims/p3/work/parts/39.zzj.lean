section
variable {nn : Nat} {h : ms_M}
theorem cl_ok (hn : 1000000 ≤ nn) (V : VS_ h) (N : HW_ h) {a : Int} (ha : 0 ≤ a ∧ a ≤ 3001) : Ok_ (qf_X13_classOf nn a h) (fun u => -1 ≤ u ∧ u ≤ 407 ∧ u < 8 + h 160 24) := by
  have z := N.1 a.toNat (by omega)
  have g := gF_160_24 V
  unfold qf_X13_classOf
  refine ok_rd (by omega) (gA_164 V) ?_; intro v11 e11 a11 b11
  refine ok_rd (by omega) (gA_165 V) ?_; intro v13 e13 a13 b13
  obtain ⟨u, eu, qu⟩ := am_ok (nn := nn) (p := v11) (n := v13) hn XT_3 V (by omega) (by omega) (by omega)
  have q := qa_3 (by omega) qu
  rw [eu, mx_svs]
  refine ok_if (fun C => ?_) (fun C => ok_ret ⟨by omega, by omega, by omega⟩)
  refine ok_im (ok_pc (vw_X13_classOf_28 hn (l1 := a) (by omega) V N nn 0 (by omega) (by omega)) (pc_class28 nn 0)) (fun w p => ?_)
  have p1 : -1 ≤ w ∧ w ≤ 407 := p.1
  have p2 := p.2
  exact ⟨by omega, by omega, by omega⟩
/-- a FAULT is all that may be new -/
def Wr (h r : ms_M) : Prop := VS_ r ∧ (∀ c k : Nat, c ≠ 160 → r c k = h c k) ∧ (∀ k : Nat, k ≠ 9 → k ≠ 10 → r 160 k = h 160 k) ∧ (r 160 9 = 0 → h 160 9 = 0)
theorem wr_rf (V : VS_ h) : Wr h h := ⟨V, fun _ _ _ => rfl, fun _ _ _ => rfl, id⟩
theorem wr_tr {g r : ms_M} (a : Wr h g) (b : Wr g r) : Wr h r := ⟨b.1, fun c k z => by rw [b.2.1 c k z, a.2.1 c k z], fun k z1 z2 => by rw [b.2.2.1 k z1 z2, a.2.2.1 k z1 z2], fun z => a.2.2.2 (b.2.2.2 z)⟩
theorem wr_hw {r : ms_M} (a : Wr h r) (W : HW_ h) : HW_ r := hw_eq W (fun k => a.2.1 164 k (by decide)) (fun k => a.2.1 165 k (by decide)) (fun k => a.2.1 188 k (by decide)) (fun k => a.2.1 189 k (by decide))
theorem pw_wrong (hn : 1000000 ≤ nn) (V : VS_ h) {k v : Int} (hk : 1 ≤ k ∧ k ≤ 11) (hv : 0 ≤ v ∧ v ≤ 3001) : Pc (qf_X13_wrong nn k v h) (fun r => Wr h r ∧ ¬ r 160 9 = 0) := fun r e => by
  obtain ⟨V2, d⟩ := pc_ok (vf_X13_wrong hn hk.1 hk.2 hv.1 hv.2 V) r e
  have S := (pc_wrong (nn := nn) (h := h) (k := k) (t := v) (by omega) r e).1
  refine ⟨⟨V2, fun c j z => ?_, fun j z1 z2 => ?_, S.2.1⟩, d⟩
  · refine (ff_X13_wrong nn) _ e c j ?_
    simp only [nw_F, wl_X13_wrong, wf_X13_wrong, Bool.and_eq_true, Bool.not_eq_true', Bool.not_false, Bool.true_or, and_true]
    refine ⟨?_, ?_⟩
    · first | rfl | decide
    · rw [List.contains_eq_mem, decide_eq_false_iff_not]
      intro w
      simp only [List.mem_cons, Prod.mk.injEq, List.not_mem_nil, or_false] at w
      omega
  · refine (ff_X13_wrong nn) _ e 160 j ?_
    simp only [nw_F, wl_X13_wrong, wf_X13_wrong, Bool.and_eq_true, Bool.not_eq_true', Bool.not_false, Bool.true_or, and_true]
    refine ⟨?_, ?_⟩
    · first | rfl | decide
    · rw [List.contains_eq_mem, decide_eq_false_iff_not]
      intro w
      simp only [List.mem_cons, Prod.mk.injEq, List.not_mem_nil, or_false] at w
      omega
theorem pt_56 {l3 l4 L : Int} {g : ms_M} (hl : -1 ≤ l4 ∧ l4 ≤ 407 ∧ 2 * l4 + 10 ≤ L) : Pc (qj_X13_typeOf_56 nn l3 l4 g) (fun u => u.1 < L ∧ u.2 = g) := by
  unfold qj_X13_typeOf_56
  refine pc_xl ?_; intro v1 e1
  rw [oq_mul_eq (by omega) (by omega) (by omega)] at e1
  refine pc_add (by omega) ?_; intro v2 e2
  refine pc_if (fun _ => ?_) (fun _ => ?_)
  · refine pc_add (by omega) ?_; intro v3 e3
    exact pc_ret ⟨by show v3 < L; omega, rfl⟩
  · refine pc_add (by omega) ?_; intro v3 e3
    exact pc_ret ⟨by show v3 < L; omega, rfl⟩
theorem pt_typeOf (hn : 1000000 ≤ nn) (V : VS_ h) (W : HW_ h) {a1 a2 a3 : Int} (r1 : 0 ≤ a1 ∧ a1 ≤ 3) (r2 : 0 ≤ a2 ∧ a2 ≤ 3000) (r3 : 0 ≤ a3 ∧ a3 ≤ 1) : Pc (qf_X13_typeOf nn a1 a2 a3 h) (fun u => (0 ≤ u.1 ∧ u.1 ≤ 900) ∧ u.1 < 24 + 2 * h 160 24 ∧ Wr h u.2) := by
  have g := gF_160_24 V
  have A := pc_ok (vf_X13_typeOf hn r1.1 r1.2 r2.1 (by omega : a2 ≤ 3001) r3.1 r3.2 V W)
  have B : Pc (qf_X13_typeOf nn a1 a2 a3 h) (fun u => u.1 < 24 + 2 * h 160 24 ∧ Wr h u.2) := by
    unfold qf_X13_typeOf
    refine pc_if (fun _ => ?_) (fun _ => pc_ret ⟨by show (0 : Int) < _; omega, wr_rf V⟩)
    refine pc_if (fun _ => ?_) (fun _ => pc_if (fun _ => pc_ret ⟨by show (0 : Int) < _; omega, wr_rf V⟩) (fun _ => pc_ret ⟨by show (4 : Int) < _; omega, wr_rf V⟩))
    refine pc_if (fun _ => ?_) (fun _ => pc_ret ⟨by show (1 : Int) < _; omega, wr_rf V⟩)
    refine pc_if (fun _ => ?_) (fun _ => pc_ret ⟨by show (3 : Int) < _; omega, wr_rf V⟩)
    refine pc_sv (pc_ok (cl_ok hn V W (by omega))) ?_; intro u8 P8
    refine pc_if (fun _ => ?_) (fun _ => ?_)
    · exact pc_imp (pt_56 (L := 24 + 2 * h 160 24) (by omega)) (fun u p => ⟨p.1, by rw [p.2]; exact wr_rf V⟩)
    · refine pc_sv (pw_wrong hn V (by omega) (by omega)) ?_; intro u10 P10
      exact pc_imp (pt_56 (L := 24 + 2 * h 160 24) (by omega)) (fun u p => ⟨p.1, by rw [p.2]; exact P10.1⟩)
  exact fun r e => ⟨⟨(A r e).2.1, (A r e).2.2.1⟩, B r e⟩
/-- the members below l have types, and at most six parameters -/
def TYl (l : Int) (h : ms_M) : Prop := ∀ m : Nat, (m : Int) < l → (h 187 m < 24 + 2 * h 160 24 ∧ ∀ k : Nat, (k : Int) < h 189 m → h 195 ((h 188 m).toNat + k) < 24 + 2 * h 160 24) ∧ h 189 m ≤ 6
theorem ty_wr {l : Int} {r : ms_M} (T : TYl l h) (a : Wr h r) : TYl l r := fun m hm => by
  rw [a.2.1 187 m (by decide), a.2.1 189 m (by decide), a.2.1 188 m (by decide), a.2.2.1 24 (by decide) (by decide)]
  obtain ⟨⟨t1, t2⟩, t3⟩ := T m hm
  refine ⟨⟨t1, fun k hk => ?_⟩, t3⟩
  rw [a.2.1 195 _ (by decide)]; exact t2 k hk
/-- behind the parameters' loop -/
def PH (l1 : Int) (h r : ms_M) : Prop := (∀ c k : Nat, c ≠ 160 → c ≠ 195 → r c k = h c k) ∧ (∀ k : Nat, k ≠ 9 → k ≠ 10 → r 160 k = h 160 k) ∧ (∀ x, h 195 x < 24 + 2 * h 160 24 → r 195 x < 24 + 2 * h 160 24) ∧ (r 160 9 = 0 → (∀ j : Nat, (j : Int) < h 189 l1.toNat → r 195 ((h 188 l1.toNat).toNat + j) < 24 + 2 * h 160 24) ∧ h 189 l1.toNat ≤ 6)
theorem pm_239 (hn : 1000000 ≤ nn) {l1 l4 l5 : Int} {qk : Int → Int → ms_M → Option ms_M} {Q : ms_M → Prop} (r4 : 0 ≤ l4 ∧ l4 ≤ 3000) (hk : ∀ r, Wr h r → Pc (qk l1 (l4 + 1) r) Q) : ∀ (k : Nat) (l6 : Int) (g : ms_M), Wr h g → Pc (qw_X13_memberHead_239 nn qk k l1 l4 l5 l6 g) Q := by
  intro k
  induction k with
  | zero => intros; exact pc_none
  | succ k ih =>
    intro l6 g W
    unfold qw_X13_memberHead_239
    refine pc_if (fun _ => ?_) (fun _ => ?_)
    · refine pc_add (by omega) ?_; intro v1 e1
      rw [e1]; exact hk g W
    · refine pc_rA ?_; intro _ _ v3 _
      refine pc_rA ?_; intro b0 b1 v5 e5
      refine pc_se ?_; intro u7 _
      refine pc_if (fun _ => ?_) (fun _ => ?_)
      · refine pc_xl ?_; intro v8 _
        exact ih v8 g W
      · refine pc_rA ?_; intro c0 c1 v10 e10
        have g4 := gA_194 W.1 l5.toNat (by omega)
        refine pc_sv (pw_wrong hn W.1 (by omega) (by omega)) ?_; intro u12 P
        refine pc_xl ?_; intro v13 _
        exact ih v13 u12 (wr_tr W P.1)
theorem pm_157 (hn : 1000000 ≤ nn) {l1 : Int} (r1 : 0 ≤ l1 ∧ l1 ≤ 799) : ∀ (k : Nat) (l4 : Int) (h : ms_M), VS_ h → HW_ h → (0 ≤ l4 ∧ l4 ≤ 2000) → (h 160 9 = 0 → l4 ≤ 6) → (∀ j : Nat, (j : Int) < l4 → h 195 ((h 188 l1.toNat).toNat + j) < 24 + 2 * h 160 24) → Pc (qw_X13_memberHead_157 nn k l1 l4 h) (PH l1 h) := by
  intro k
  induction k with
  | zero => intros; exact pc_none
  | succ k ih =>
    intro l4 h V W r4 h6 hp
    have w := W.2 l1.toNat (by omega)
    have g8 := gA_188 V l1.toNat (by omega)
    have g9 := gA_189 V l1.toNat (by omega)
    unfold qw_X13_memberHead_157
    refine pc_rA ?_; intro _ _ v19 e19
    refine pc_if (fun C => ?_) (fun C => ?_)
    · refine pc_ret ⟨fun _ _ _ _ => rfl, fun _ _ _ => rfl, fun _ z => z, fun z => ⟨fun j hj => hp j (by omega), by have := h6 z; omega⟩⟩
    · refine pc_rA ?_; intro _ _ v21 e21
      refine pc_add (by omega) ?_; intro v22 e22
      refine pc_rA ?_; intro p0 p1 v25 e25
      refine pc_rA ?_; intro _ _ v27 e27
      refine pc_rA ?_; intro _ _ v29 e29
      have k1 := gA_191 V v22.toNat (by omega)
      have k2 := gA_192 V v22.toNat (by omega)
      have k3 := gA_193 V v22.toNat (by omega)
      refine pc_sv (pt_typeOf hn V W (by omega) (by omega) (by omega)) ?_; intro u31 P31
      obtain ⟨q1, q2, q3⟩ := P31
      refine pc_wA ?_; intro _ _ h32 E32
      have V32 : VS_ h32 := by rw [E32]; exact wA_195 q3.1 (by omega)
      have f32 : ∀ c k : Nat, ¬ (c = 195 ∧ k = v22.toNat) → h32 c k = u31.2 c k := fun c k z => by rw [E32]; exact up_n z
      have s32 : h32 195 v22.toNat = u31.1 := by rw [E32]; exact up_s
      have W32 : HW_ h32 := by rw [E32]; exact hw_up q3.1 (wr_hw q3 W) rfl
      have e22' : v22.toNat = (h 188 l1.toNat).toNat + l4.toNat := by omega
      have J : ∀ r, Wr h32 r → (r 160 9 = 0 → l4 + 1 ≤ 6) → Pc (qw_X13_memberHead_157 nn k l1 (l4 + 1) r) (PH l1 h) := by
        intro r R h7
        have a8 : r 188 l1.toNat = h 188 l1.toNat := by rw [R.2.1 188 _ (by decide), f32 188 _ (by omega), q3.2.1 188 _ (by decide)]
        have a9 : r 189 l1.toNat = h 189 l1.toNat := by rw [R.2.1 189 _ (by decide), f32 189 _ (by omega), q3.2.1 189 _ (by decide)]
        have a24 : r 160 24 = h 160 24 := by rw [R.2.2.1 24 (by decide) (by decide), f32 160 24 (by omega), q3.2.2.1 24 (by decide) (by decide)]
        have a5 : ∀ x, h 195 x < 24 + 2 * h 160 24 → r 195 x < 24 + 2 * h 160 24 := fun x z => by
          rw [R.2.1 195 _ (by decide)]
          by_cases y : x = v22.toNat
          · rw [y, s32]; exact q2
          · rw [f32 195 _ (by omega), q3.2.1 195 _ (by decide)]; exact z
        refine pc_imp (ih (l4 + 1) r R.1 (wr_hw R W32) (by omega) h7 (fun j hj => ?_)) (fun z p => ?_)
        · rw [a8, a24]
          by_cases y : (j : Int) = l4
          · rw [R.2.1 195 _ (by decide), show (h 188 l1.toNat).toNat + j = v22.toNat by omega, s32]; exact q2
          · exact a5 _ (hp j (by omega))
        · obtain ⟨p1, p2, p3, p4⟩ := p
          rw [a8, a9, a24] at p4
          rw [a24] at p3
          refine ⟨fun c k z1 z2 => by rw [p1 c k z1 z2, R.2.1 c k z1, f32 c k (by omega), q3.2.1 c k z1], fun k z1 z2 => by rw [p2 k z1 z2, R.2.2.1 k z1 z2, f32 160 k (by omega), q3.2.2.1 k z1 z2], fun x z => p3 x (a5 x z), p4⟩
      refine pc_if (fun C6 => ?_) (fun C6 => ?_)
      · unfold qj_X13_memberHead_231
        refine pc_rA ?_; intro _ _ v17 _
        refine pm_239 (h := h32) hn (by omega) (fun r R => J r R (fun z => ?_)) nn v17 h32 (wr_rf V32)
        have z1 := R.2.2.2 z
        rw [f32 160 9 (by omega)] at z1
        have := h6 (q3.2.2.2 z1)
        omega
      · refine pc_rA ?_; intro _ _ v34 e34
        have k4 := gA_194 V32 v22.toNat (by omega)
        refine pc_sv (pw_wrong hn V32 (by omega) (by omega)) ?_; intro u36 P36
        unfold qj_X13_memberHead_231
        refine pc_rA ?_; intro _ _ v17 _
        refine pm_239 (h := u36) hn (by omega) (fun r R => J r (wr_tr P36.1 R) (fun z => ?_)) nn v17 u36 (wr_rf P36.1.1)
        exact absurd (R.2.2.2 z) P36.2
theorem pm_139 (hn : 1000000 ≤ nn) {l1 l3 : Int} (r1 : 0 ≤ l1 ∧ l1 ≤ 799) {h0 : ms_M} (X : Wr h0 h) (W : HW_ h0) : Pc (qj_X13_memberHead_139 nn l1 l3 h) (PH l1 h0) := by
  have J : ∀ r, Wr h0 r → Pc (qw_X13_memberHead_157 nn nn l1 0 r) (PH l1 h0) := fun r R => by
    refine pc_imp (pm_157 hn r1 nn 0 r R.1 (wr_hw R W) (by omega) (fun _ => by omega) (fun j hj => by omega)) (fun z p => ?_)
    obtain ⟨p1, p2, p3, p4⟩ := p
    have a24 := R.2.2.1 24 (by decide) (by decide)
    rw [R.2.1 188 _ (by decide), R.2.1 189 _ (by decide), a24] at p4
    rw [a24] at p3
    exact ⟨fun c k z1 z2 => by rw [p1 c k z1 z2, R.2.1 c k z1], fun k z1 z2 => by rw [p2 k z1 z2, R.2.2.1 k z1 z2], fun x z => p3 x (by rw [R.2.1 195 _ (by decide)]; exact z), p4⟩
  unfold qj_X13_memberHead_139
  refine pc_if (fun _ => J h X) (fun _ => ?_)
  refine pc_rA ?_; intro _ _ v40 e40
  have g := gA_186 X.1 l1.toNat (by omega)
  refine pc_sv (pw_wrong hn X.1 (by omega) (by omega)) ?_; intro u42 P
  exact J u42 (wr_tr X P.1)
theorem pm_35 (hn : 1000000 ≤ nn) {l1 : Int} (r1 : 0 ≤ l1 ∧ l1 ≤ 799) (V : VS_ h) (W : HW_ h) : ∀ (k : Nat) (l2 l3 l4 : Int), Pc (qw_X13_memberHead_35 nn k l1 l2 l3 l4 h) (PH l1 h) := by
  intro k
  induction k with
  | zero => intros; exact pc_none
  | succ k ih =>
    intro l2 l3 l4
    have J : ∀ s0 s1, Pc (qj_X13_memberHead_86 nn (qw_X13_memberHead_35 nn k) l1 l2 l3 l4 s0 s1 h) (PH l1 h) := fun s0 s1 => by
      unfold qj_X13_memberHead_86
      refine pc_if (fun _ => ?_) (fun _ => ?_)
      · refine pc_xl ?_; intro v44 _
        refine pc_rA ?_; intro _ _ v46 _
        refine pc_rA ?_; intro _ _ v48 _
        refine pc_se ?_; intro u50 _
        refine pc_xl ?_; intro v51 _
        refine pc_xl ?_; intro v52 _
        exact ih _ _ _
      · refine pc_xl ?_; intro v53 _
        exact ih _ _ _
    have K : ∀ s0, Pc (qj_X13_memberHead_72 nn (qw_X13_memberHead_35 nn k) l1 l2 l3 l4 s0 h) (PH l1 h) := fun s0 => by
      unfold qj_X13_memberHead_72
      refine pc_rA ?_; intro _ _ v56 _
      exact pc_if (fun _ => J _ _) (fun _ => J _ _)
    unfold qw_X13_memberHead_35
    refine pc_if (fun _ => ?_) (fun _ => ?_)
    · refine pc_if (fun _ => pm_139 hn r1 (wr_rf V) W) (fun _ => ?_)
      refine pc_rA ?_; intro _ _ v59 e59
      have g := gA_186 V l1.toNat (by omega)
      refine pc_sv (pw_wrong hn V (by omega) (by omega)) ?_; intro u61 P
      exact pm_139 hn r1 P.1 W
    · refine pc_rA ?_; intro _ _ v64 _
      refine pc_rA ?_; intro _ _ v66 _
      refine pc_if (fun _ => ?_) (fun _ => ?_)
      · refine pc_xl ?_; intro v67 _
        exact ih _ _ _
      · refine pc_rA ?_; intro _ _ v69 _
        exact pc_if (fun _ => K _) (fun _ => K _)
theorem pm_head (hn : 1000000 ≤ nn) (V : VS_ h) (W : HW_ h) {l1 : Int} (r1 : 0 ≤ l1 ∧ l1 ≤ 799) (T : TYl l1 h) : Pc (qf_X13_memberHead nn l1 h) (fun r => r 160 9 = 0 → TYl (l1 + 1) r) := by
  have k1 := gA_183 V l1.toNat (by omega)
  have k2 := gA_184 V l1.toNat (by omega)
  have k3 := gA_185 V l1.toNat (by omega)
  unfold qf_X13_memberHead
  refine pc_rA ?_; intro _ _ v75 e75
  refine pc_rA ?_; intro _ _ v77 e77
  refine pc_rA ?_; intro _ _ v79 e79
  refine pc_sv (pt_typeOf hn V W (by omega) (by omega) (by omega)) ?_; intro u81 P
  obtain ⟨q1, q2, q3⟩ := P
  refine pc_wA ?_; intro _ _ h82 E82
  have V82 : VS_ h82 := by rw [E82]; exact wA_187 q3.1 (by omega)
  have W82 : HW_ h82 := by rw [E82]; exact hw_up q3.1 (wr_hw q3 W) rfl
  have f82 : ∀ c k : Nat, ¬ (c = 187 ∧ k = l1.toNat) → h82 c k = u81.2 c k := fun c k z => by rw [E82]; exact up_n z
  have s82 : h82 187 l1.toNat = u81.1 := by rw [E82]; exact up_s
  have T1 := ty_wr T q3
  refine pc_imp (pm_35 hn r1 V82 W82 nn 0 0 0) (fun r p z => ?_)
  obtain ⟨p1, p2, p3, p4⟩ := p
  obtain ⟨p5, p6⟩ := p4 z
  have a24 : r 160 24 = h 160 24 := by rw [p2 24 (by decide) (by decide), f82 160 24 (by omega), q3.2.2.1 24 (by decide) (by decide)]
  have b24 : h82 160 24 = h 160 24 := by rw [f82 160 24 (by omega), q3.2.2.1 24 (by decide) (by decide)]
  have c24 : u81.2 160 24 = h 160 24 := q3.2.2.1 24 (by decide) (by decide)
  intro m hm
  rw [a24, p1 187 m (by decide) (by decide), p1 189 m (by decide) (by decide), p1 188 m (by decide) (by decide)]
  by_cases y : (m : Int) = l1
  · have y2 : m = l1.toNat := by omega
    rw [y2, s82]
    rw [b24] at p5
    exact ⟨⟨q2, p5⟩, p6⟩
  · obtain ⟨⟨t1, t2⟩, t3⟩ := T1 m (by omega)
    rw [c24] at t1 t2
    rw [f82 187 m (by omega), f82 189 m (by omega), f82 188 m (by omega)]
    refine ⟨⟨t1, fun k hk => ?_⟩, t3⟩
    have := p3 ((u81.2 188 m).toNat + k) (by rw [b24, f82 195 _ (by omega)]; exact t2 k hk)
    rw [b24] at this; exact this
def QT2 (r : ms_M) : Prop := QH_ r ∧ (r 160 9 = 0 → TYl (r 160 28) r)
theorem ht_220 (hn : 1000000 ≤ nn) : ∀ (k : Nat) (l1 : Int) {h : ms_M}, QT2 h → (0 ≤ l1 ∧ l1 ≤ 800) → 801 - l1 < (k : Int) → Ok_ (qw_X13_heads_220 nn k l1 h) QT2 := by
  intro k
  induction k with
  | zero => intro l1 h Q r hm; exfalso; omega
  | succ k ih =>
    intro l1 h Q2 r hm
    have Q := Q2.1
    have V := Q.1
    have g := gF_160_28 V
    unfold qw_X13_heads_220
    refine ok_if (fun _ => ok_ret Q2) (fun C => ?_)
    refine ok_if (fun _ => ok_ret Q2) (fun C2 => ?_)
    have C2 : h 160 9 = 0 := Decidable.not_not.1 C2
    refine ok_rd (by omega) (gA_182 V) ?_; intro v4 e4 a4 b4
    refine ok_if (fun _ => ?_) (fun _ => ?_)
    · refine ok_add (by omega) ?_; intro v e
      exact ih v Q2 (by omega) (by omega)
    · refine ok_cV (vf_X13_overrides hn V Q.2.1 (Q.2.2.2 C2).1 Q.2.2.1 (by omega)) ?_; intro u7 E7 V7
      have F : ∀ c k, nw_F wl_X13_overrides wf_X13_overrides false false c k = true → u7 c k = h c k := fun c k w => (ff_X13_overrides nn) _ E7 c k w
      refine ok_add (by omega) ?_; intro v e
      refine ih v ⟨qh_fr Q V7 (fun _ => C2) F rfl rfl rfl, fun _ m hm => ?_⟩ (by omega) (by omega)
      rw [F 160 28 rfl] at hm
      obtain ⟨⟨t1, t2⟩, t3⟩ := Q2.2 C2 m hm
      rw [F 187 m (nw_ar rfl m), F 189 m (nw_ar rfl m), F 188 m (nw_ar rfl m), F 160 24 rfl]
      refine ⟨⟨t1, fun k hk => ?_⟩, t3⟩
      rw [F 195 _ (nw_ar rfl _)]; exact t2 k hk
theorem ht_192 (hn : 1000000 ≤ nn) : ∀ (k : Nat) (l1 : Int) {h : ms_M}, QH_ h → (h 160 9 = 0 → TYl l1 h) → (0 ≤ l1 ∧ l1 ≤ 800) → 801 - l1 < (k : Int) → Ok_ (qw_X13_heads_192 nn k l1 h) QT2 := by
  intro k
  induction k with
  | zero => intro l1 h Q T r hm; exfalso; omega
  | succ k ih =>
    intro l1 h Q T r hm
    have V := Q.1
    have g := gF_160_28 V
    unfold qw_X13_heads_192
    refine ok_if (fun C => ht_220 hn nn 0 ⟨Q, fun z m hm => T z m (by omega)⟩ (by omega) (by omega)) (fun C => ?_)
    refine ok_if (fun C2 => ht_220 hn nn 0 ⟨Q, fun z => absurd z C2⟩ (by omega) (by omega)) (fun C2 => ?_)
    have C2 : h 160 9 = 0 := Decidable.not_not.1 C2
    refine ok_cV (vf_X13_memberHead hn (by omega) (by omega) V Q.2.1) ?_; intro u15 E15 V15
    refine ok_add (by omega) ?_; intro v e
    refine ih v (qh_fr Q V15 (fun _ => C2) (fun c k w => (ff_X13_memberHead nn) _ E15 c k w) rfl rfl rfl) (fun z => ?_) (by omega) (by omega)
    rw [e]; exact pm_head hn V Q.2.1 (by omega) (T C2) u15 E15 z
end
section
variable {nn : Nat} {qk : Int → ms_M → Option ms_M} {l1 : Int} {Q : ms_M → Prop}
theorem hq_167 (hn : 1000000 ≤ nn) (hk : ∀ {g : ms_M}, HI_ (l1 + 1) g → Ok_ (qk (l1 + 1) g) Q) {l2 : Int} {h : ms_M} (I : HI_ l1 h) (h7 : h 160 9 = 0 → l1 ≤ 7) (r : 0 ≤ l1 ∧ l1 < h 160 24) (a : l2 = -1 → upn_ h 420 (8 + l1) = -1) (b : ¬ l2 = -1 → ¬ h 179 l1.toNat = -1) : Ok_ (qj_X13_heads_167 nn qk l1 l2 h) Q := by
  have g := gF_160_24 I.1.1
  unfold qj_X13_heads_167
  refine ok_if (fun C => ?_) (fun C => ?_)
  · refine ok_add (by omega) ?_; intro v e
    rw [e]
    refine hk ⟨I.1, fun z => ⟨by have := h7 z; omega, fun c c0 c1 => ?_⟩⟩
    by_cases q : c = l1
    · rw [q]; exact a C
    · exact (I.2 z).2 c c0 (by omega)
  · refine ok_rd (by omega) (gA_179 I.1.1) ?_; intro v21 e21 a21 b21
    have b := b C
    refine ok_cVR (vf_X13_wrong hn (by omega) (by omega) (by omega) (by omega) I.1.1) ?_; intro u23 E23 V23 R23
    refine ok_add (by omega) ?_; intro v e
    rw [e]
    exact hk (hi_w hn I (by omega) (by omega) E23)
theorem hq_139 (hn : 1000000 ≤ nn) (hk : ∀ {g : ms_M}, HI_ (l1 + 1) g → Ok_ (qk (l1 + 1) g) Q) {h : ms_M} (I : HI_ l1 h) (h7 : h 160 9 = 0 → l1 ≤ 7) (r : 0 ≤ l1 ∧ l1 < h 160 24) : ∀ (f n : Nat), (n : Int) ≤ 410 → (-1 ≤ upn_ h n (8 + l1) ∧ upn_ h n (8 + l1) ≤ 407) → 411 - (n : Int) < (f : Int) → Ok_ (qw_X13_heads_139 nn qk f l1 (upn_ h n (8 + l1)) (n : Int) h) Q := by
  have g := gF_160_24 I.1.1
  have two : h 179 l1.toNat = -1 → upn_ h 2 (8 + l1) = -1 := fun z => by
    have u := I.1.2.2.2 l1.toNat (by omega) z
    have e : uo_ h (8 + l1) = 0 := by
      unfold uo_; rw [if_neg (by omega), if_neg (by omega), if_pos (by omega), show 8 + l1 - 8 = l1 by omega]; exact u
    show (if 8 + l1 = -1 then -1 else upn_ h 1 (uo_ h (8 + l1))) = -1
    rw [if_neg (by omega), e]; rfl
  intro f
  induction f with
  | zero => intro n a b hm; exfalso; omega
  | succ f ih =>
    intro n a b hm
    unfold qw_X13_heads_139
    have ea : upn_ h n (8 + l1) = -1 → upn_ h 420 (8 + l1) = -1 := fun z => by
      have := upn_e (420 - n) n z
      rw [show n + (420 - n) = 420 by omega] at this; exact this
    refine ok_add (by omega) ?_; intro v27 e27
    refine ok_if (fun C => ?_) (fun C => ?_)
    · refine hq_167 hn hk I h7 r ea (fun z y => z ?_)
      have := upn_e (n - 2) 2 (two y)
      rw [show 2 + (n - 2) = n by omega] at this; exact this
    · refine ok_if (fun C2 => hq_167 hn hk I h7 r ea (fun z => absurd C2 z)) (fun C2 => ?_)
      rw [uo_eq (by omega), mx_svs]
      refine ok_add (by omega) ?_; intro v30 e30
      have s := upn_s (M := h) n (8 + l1)
      rw [if_neg C2] at s
      rw [e30, ← s]
      exact ih (n + 1) (by omega) (by rw [s]; exact uo_b I.1.1 (by omega)) (by omega)
theorem hq_132 (hn : 1000000 ≤ nn) (hk : ∀ {g : ms_M}, HI_ (l1 + 1) g → Ok_ (qk (l1 + 1) g) Q) {h : ms_M} (I : HI_ l1 h) (h7 : h 160 9 = 0 → l1 ≤ 7) (r : 0 ≤ l1 ∧ l1 < h 160 24) : Ok_ (qj_X13_heads_132 nn qk l1 h) Q := by
  have g := gF_160_24 I.1.1
  unfold qj_X13_heads_132
  refine ok_add (by omega) ?_; intro v33 e33
  rw [e33]
  exact hq_139 hn hk I h7 r nn 0 (by omega) (by show -1 ≤ 8 + l1 ∧ 8 + l1 ≤ 407; omega) (by omega)
theorem hq_111 (hn : 1000000 ≤ nn) (hk : ∀ {g : ms_M}, HI_ (l1 + 1) g → Ok_ (qk (l1 + 1) g) Q) {h : ms_M} (I : HI_ l1 h) (h7 : h 160 9 = 0 → l1 ≤ 7) (r : 0 ≤ l1 ∧ l1 < h 160 24) : Ok_ (qj_X13_heads_111 nn qk l1 h) Q := by
  have g := gF_160_24 I.1.1
  unfold qj_X13_heads_111
  refine ok_rd (by omega) (gA_180 I.1.1) ?_; intro v35 e35 a35 b35
  refine ok_if (fun _ => hq_132 hn hk I h7 r) (fun C => ?_)
  refine ok_rd (by omega) (gA_179 I.1.1) ?_; intro v37 e37 a37 b37
  have n1 : ¬ v37 = -1 := fun z => by
    have := I.1.2.2.2 l1.toNat (by omega) (by rw [← e37]; exact z)
    omega
  refine ok_cVR (vf_X13_wrong hn (by omega) (by omega) (by omega) (by omega) I.1.1) ?_; intro u39 E39 V39 R39
  have e24 : u39 160 24 = h 160 24 := (ff_X13_wrong nn) _ E39 160 24 rfl
  exact hq_132 hn hk (hi_w hn I (by omega) (by omega) E39) (fun z => absurd z R39) (by omega)
theorem hq_83 (hn : 1000000 ≤ nn) (hk : ∀ {g : ms_M}, HI_ (l1 + 1) g → Ok_ (qk (l1 + 1) g) Q) {h : ms_M} (I : HI_ l1 h) (h7 : h 160 9 = 0 → l1 ≤ 7) (r : 0 ≤ l1 ∧ l1 < h 160 24) : Ok_ (qj_X13_heads_83 nn qk l1 h) Q := by
  have g := gF_160_24 I.1.1
  unfold qj_X13_heads_83
  refine ok_rd (by omega) (gA_178 I.1.1) ?_; intro v42 e42 a42 b42
  refine ok_cP (vf_X13_classOf hn (by omega) (by omega) I.1.1 I.1.2.1) ?_; intro u44 e44 a44 b44
  refine ok_add (by omega) ?_; intro v45 e45
  refine ok_if (fun _ => hq_111 hn hk I h7 r) (fun C => ?_)
  refine ok_rd (by omega) (gA_178 I.1.1) ?_; intro v47 e47 a47 b47
  refine ok_cVR (vf_X13_wrong hn (by omega) (by omega) (by omega) (by omega) I.1.1) ?_; intro u49 E49 V49 R49
  have e24 : u49 160 24 = h 160 24 := (ff_X13_wrong nn) _ E49 160 24 rfl
  exact hq_111 hn hk (hi_w hn I (by omega) (by omega) E49) (fun z => absurd z R49) (by omega)
end
theorem hq_50 {nn : Nat} {Q : ms_M → Prop} (hn : 1000000 ≤ nn) (h192 : ∀ {g : ms_M}, QH_ g → Ok_ (qw_X13_heads_192 nn nn 0 g) Q) : ∀ (k : Nat) (l1 : Int) {h : ms_M}, HI_ l1 h → (0 ≤ l1 ∧ l1 ≤ 400) → 401 - l1 < (k : Int) → Ok_ (qw_X13_heads_50 nn k l1 h) Q := by
  intro k
  induction k with
  | zero => intro l1 h I r hm; exfalso; omega
  | succ k ih =>
    intro l1 h I r hm
    have g := gF_160_24 I.1.1
    unfold qw_X13_heads_50
    refine ok_if (fun C => h192 (hi_end I C)) (fun C => ?_)
    refine ok_if (fun C2 => ?_) (fun C2 => ?_)
    · exact h192 ⟨I.1.1, I.1.2.1, I.1.2.2.1, fun z => absurd z C2⟩
    · have C2 : h 160 9 = 0 := Decidable.not_not.1 C2
      have i8 := (I.2 C2).1
      have hk : ∀ {g : ms_M}, HI_ (l1 + 1) g → Ok_ (qw_X13_heads_50 nn k (l1 + 1) g) Q := fun Ig => ih (l1 + 1) Ig (by omega) (by omega)
      refine ok_if (fun C3 => hq_83 hn hk I (fun _ => by omega) (by omega)) (fun C3 => ?_)
      refine ok_rd (by omega) (gA_178 I.1.1) ?_; intro v54 e54 a54 b54
      refine ok_cVR (vf_X13_wrong hn (by omega) (by omega) (by omega) (by omega) I.1.1) ?_; intro u56 E56 V56 R56
      have e24 : u56 160 24 = h 160 24 := (ff_X13_wrong nn) _ E56 160 24 rfl
      exact hq_83 hn hk (hi_w hn I (by omega) (by omega) E56) (fun z => absurd z R56) (by omega)
theorem hq_2 {nn : Nat} {Q : ms_M → Prop} (hn : 1000000 ≤ nn) (h192 : ∀ {g : ms_M}, QH_ g → Ok_ (qw_X13_heads_192 nn nn 0 g) Q) : ∀ (k : Nat) (l1 : Int) {h : ms_M}, VS_ h → HW_ h → MC_ h → (∀ c : Nat, (c : Int) < l1 → h 179 c = -1 → h 180 c = 0) → (0 ≤ l1 ∧ l1 ≤ 400) → 401 - l1 < (k : Int) → Ok_ (qw_X13_heads_2 nn k l1 h) Q := by
  intro k
  induction k with
  | zero => intro l1 h V N M E r hm; exfalso; omega
  | succ k ih =>
    intro l1 h V N M E r hm
    have g := gF_160_24 V
    unfold qw_X13_heads_2
    refine ok_if (fun C => ?_) (fun C => ?_)
    · exact hq_50 hn h192 nn 0 ⟨⟨V, N, M, fun c hc => E c (by omega)⟩, fun _ => ⟨by omega, fun c a b => by omega⟩⟩ (by omega) (by omega)
    · have j : ∀ s0 : Int, (-1 ≤ s0 ∧ s0 ≤ 407) → (h 179 l1.toNat = -1 → s0 = 0) → Ok_ (qj_X13_heads_34 nn (qw_X13_heads_2 nn k) l1 s0 h) Q := fun s0 rs hs => by
        unfold qj_X13_heads_34
        refine ok_wA (by omega) ?_; intro h61 E61
        have V61 : VS_ h61 := by rw [E61]; exact wA_180 V (by omega)
        have N61 : HW_ h61 := by rw [E61]; exact hw_up V N rfl
        have f61 : ∀ c k, ¬ (c = 180 ∧ k = l1.toNat) → h61 c k = h c k := fun c k z => by rw [E61]; exact up_n z
        have M61 : MC_ h61 := fun m hm => by
          rw [f61 160 28 (by omega)] at hm
          rw [f61 181 m (by omega), f61 160 24 (by omega)]; exact M m hm
        refine ok_add (by omega) ?_; intro v e
        refine ih v V61 N61 M61 (fun c hc z => ?_) (by omega) (by omega)
        rw [f61 179 c (by omega)] at z
        by_cases q : c = l1.toNat
        · rw [q, E61, up_s]; rw [q] at z; exact hs z
        · rw [f61 180 c (by omega)]; exact E c (by omega) z
      refine ok_rd (by omega) (gA_179 V) ?_; intro v65 e65 a65 b65
      refine ok_if (fun C2 => ?_) (fun C2 => ?_)
      · refine ok_rd (by omega) (gA_179 V) ?_; intro v67 e67 a67 b67
        refine ok_cP (vf_X13_classOf hn (by omega) (by omega) V N) ?_; intro u69 e69 a69 b69
        exact j u69 ⟨a69, b69⟩ (fun z => by omega)
      · exact j 0 (by omega) (fun _ => rfl)
theorem hq_heads {nn : Nat} {Q : ms_M → Prop} (hn : 1000000 ≤ nn) (h192 : ∀ {g : ms_M}, QH_ g → Ok_ (qw_X13_heads_192 nn nn 0 g) Q) {h : ms_M} (V : VS_ h) (N : HW_ h) (M : MC_ h) : Ok_ (qf_X13_heads nn h) Q := by
  unfold qf_X13_heads
  exact hq_2 hn h192 nn 0 V N M (fun c hc => by omega) (by omega) (by omega)
theorem vt_heads {nn : Nat} (hn : 1000000 ≤ nn) {h : ms_M} (V : VS_ h) (N : HW_ h) (M : MC_ h) : Ok_ (qf_X13_heads nn h) QT2 := hq_heads hn (fun Q => ht_192 hn nn 0 Q (fun _ m hm => by omega) (by omega) (by omega)) V N M
theorem sf_of {h : ms_M} (Q : QT2 h) (z : h 160 9 = 0) : SF h := ⟨Q.1.2.1, (Q.1.2.2.2 z).1, fun m hm => (Q.2 z m hm).1, (Q.1.2.2.2 z).2, fun m hm => (Q.2 z m hm).2, Q.1.2.2.1⟩

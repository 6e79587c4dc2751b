section
section
variable {nn : Nat} {t h : ms_M}
/-- what bodies keeps from one member to the next -/
def YB (t h : ms_M) : Prop := VS_ h ∧ BF t h ∧ (∀ x : Nat, (x : Int) < t 160 22 → h 174 x < 24 + 2 * t 160 24) ∧ ((∀ x : Nat, (t 167 x = 2 ∨ t 167 x = 9) → h 176 x = t 176 x) ∧ YX t h)
/-- every method's body is a tree -/
def MB (m : Int) (t : ms_M) : Prop := ∀ x : Nat, (x : Int) < t 160 28 → ¬ t 182 x = 0 → ∃ b, (b ≤ t 160 22 ∧ ∀ y : Nat, x < y → (y : Int) < t 160 28 → ¬ t 182 y = 0 → b ≤ t 190 y) ∧ TE m t 2 82 (t 190 x) b (t 190 x)
/-- the bodies below l have been seen -/
def MT (t : ms_M) (l : Int) (h : ms_M) : Prop := h 160 9 = 0 → ∀ x : Nat, (x : Int) < l → ¬ t 182 x = 0 → ∃ b, (b ≤ t 160 22 ∧ ∀ y : Nat, x < y → (y : Int) < t 160 28 → ¬ t 182 y = 0 → b ≤ t 190 y) ∧ TE 1 t 2 82 (t 190 x) b (t 190 x) ∧ YT h 2 (t 190 x) b (t 190 x)
def QB (t r : ms_M) : Prop := YB t r ∧ MI t r ∧ MT t (t 160 28) r
/-- what is written elsewhere leaves the bodies -/
theorem mt_fg {l a b : Int} {r : ms_M} (M : MT t l h) (B1 : TC t h) (B2 : TC t r) (F : FG a b h r) (d : r 160 9 = 0 → h 160 9 = 0) (w : b ≤ a ∨ ∀ x : Nat, (x : Int) < l → ¬ t 182 x = 0 → ∀ c : Int, (∀ y : Nat, x < y → (y : Int) < t 160 28 → ¬ t 182 y = 0 → c ≤ t 190 y) → c ≤ a) : MT t l r := fun y x hx hs => by
  obtain ⟨c, c1, c2, c3⟩ := M (d y) x hx hs
  refine ⟨c, c1, c2, yt_fg B1 B2 F ?_ c3⟩
  rcases w with w | w
  · exact .inr (.inr w)
  · exact .inr (.inl (w x hx hs c c1.2))
theorem yb_yi (Y : YI t h) : YB t h := ⟨Y.1, Y.2.1, Y.2.2.1, Y.2.2.2.2.1⟩
theorem yb_fd {z : ms_M} {k : Nat} {v : Int} (Y : YB t h) (E : z = up_M h 160 k v) (V : VS_ z) (hk : bf_.contains (160, k) = true) : YB t z := by
  subst E
  refine ⟨V, bf_f Y.2.1 hk, fun x hx => ?_, fun x w => ?_, fun x hx => ?_⟩
  · rw [up_n (by omega)]; exact Y.2.2.1 x hx
  · rw [up_n (by omega)]; exact Y.2.2.2.1 x w
  · rw [up_n (by omega), up_n (by omega)]; exact Y.2.2.2.2 x hx
theorem vb_83 (hn : 1000000 ≤ nn) (S : SF t) (B : MB 1 t) {Q : ms_M → Prop} {l1 : Int} {qk : Int → ms_M → Option ms_M} (hk : ∀ r, YB t r → MI t r → MT t (l1 + 1) r → Ok_ (qk (l1 + 1) r) Q) (r1 : 0 ≤ l1 ∧ l1 < t 160 28 ∧ l1 ≤ 799) (hs : ¬ t 182 l1.toNat = 0) : ∀ (k : Nat) (l2 : Int) (h : ms_M), YI t h → MI t h → MT t l1 h → h 160 57 = 0 → h 160 54 = 0 → h 160 50 = l2 → (0 ≤ l2 ∧ l2 ≤ t 189 l1.toNat) → 7 - l2 < (k : Int) → Ok_ (qw_X13_bodies_83 nn qk k l1 l2 h) Q := by
  intro k
  induction k with
  | zero => intro l2 h Y N M h57 h54 h50 r2 hm; have := S.2.2.2.2.1 l1.toNat (by omega); exfalso; omega
  | succ k ih =>
    intro l2 h Y N M h57 h54 h50 r2 hm
    have m6 := S.2.2.2.2.1 l1.toNat (by omega)
    unfold qw_X13_bodies_83
    refine ok_rd (by omega) (gA_189 Y.1) ?_; intro v2 e2 a2 b2
    have t2 : v2 = t 189 l1.toNat := by rw [e2]; exact Y.2.1 189 _ (nw_ar rfl _)
    refine ok_if (fun C => ?_) (fun C => ?_)
    · refine ok_rd (by omega) (gA_190 Y.1) ?_; intro v4 e4 a4 b4
      have t4 : v4 = t 190 l1.toNat := by rw [e4]; exact Y.2.1 190 _ (nw_ar rfl _)
      obtain ⟨b, ⟨hb, hc⟩, T⟩ := B l1.toNat (by omega) hs
      rw [← t4] at T
      have sk := te_sk T
      have g9 : 0 ≤ t 169 v4.toNat := by
        have g22 := gF_160_22 Y.1
        have q22 : h 160 22 = t 160 22 := Y.2.1 160 22 rfl
        have := (gA_169 Y.1 v4.toNat (by omega)).1
        rwa [Y.2.1 169 _ (nw_ar rfl _)] at this
      refine ok_sv (ge_ruled hn S Y N T hb (by omega) h57 (by omega) (by omega)) ?_; intro u6 P
      obtain ⟨⟨Yu, Nu, ⟨p1, p2, p3⟩, p4⟩, fu, yu⟩ := P
      have Mu : MT t (l1 + 1) u6.2 := fun y x hx hs2 => by
        by_cases q : (x : Int) = l1
        · have q2 : x = l1.toNat := by omega
          refine ⟨b, ⟨hb, fun z z1 z2 z3 => hc z (by omega) z2 z3⟩, ?_, ?_⟩
          · rw [q2, ← t4]; exact T
          · rw [q2, ← t4]; exact yu y
        · refine mt_fg M (bf_tc Y.2.1) (bf_tc Yu.2.1) fu p3 (.inr (fun x2 hx2 hs3 c hc2 => ?_)) y x (by omega) hs2
          rw [t4]; exact hc2 l1.toNat (by omega) (by omega) hs
      refine ok_if (fun C6 => ?_) (fun C6 => ?_)
      · refine ok_add (by omega) ?_; intro v7 e7
        rw [e7]; exact hk _ (yb_yi Yu) Nu Mu
      · refine ok_rd (by omega) (gA_187 Yu.1) ?_; intro v9 e9 a9 b9
        refine ok_if (fun C9 => ?_) (fun C9 => ?_)
        · refine ok_add (by omega) ?_; intro v7 e7
          rw [e7]; exact hk _ (yb_yi Yu) Nu Mu
        · refine ok_rd (by omega) (gA_186 Yu.1) ?_; intro v12 e12 a12 b12
          refine ok_sv (vy_wrong hn Yu (by omega) (by omega)) ?_; intro u14 P14
          refine ok_add (by omega) ?_; intro v7 e7
          rw [e7]; exact hk _ (yb_yi P14.1) (mi_dead P14.2.2.1) (fun y => absurd y P14.2.2.1)
    · have w := S.1.2 l1.toNat (by omega)
      refine ok_rd (by omega) (gA_188 Y.1) ?_; intro v20 e20 a20 b20
      have t20 : v20 = t 188 l1.toNat := by rw [e20]; exact Y.2.1 188 _ (nw_ar rfl _)
      refine ok_add (by omega) ?_; intro v21 e21
      refine ok_rd (by omega) (gA_194 Y.1) ?_; intro v22 e22 a22 b22
      refine ok_rd (by omega) (gA_188 Y.1) ?_; intro v25 e25 a25 b25
      have t25 : v25 = t 188 l1.toNat := by rw [e25]; exact Y.2.1 188 _ (nw_ar rfl _)
      refine ok_add (by omega) ?_; intro v26 e26
      refine ok_rd (by omega) (gA_195 Y.1) ?_; intro v27 e27 a27 b27
      have t27 : v27 = t 195 v26.toNat := by rw [e27]; exact Y.2.1 195 _ (nw_ar rfl _)
      have l27 : v27 < 24 + 2 * t 160 24 := by
        rw [t27, show v26.toNat = (t 188 l1.toNat).toNat + l2.toNat by omega]
        exact (S.2.2.1 l1.toNat (by omega)).2 l2.toNat (by omega)
      refine ok_sv (vy_come hn S Y (by omega) (by omega) (by omega)) ?_; intro u29 P
      obtain ⟨Yu, ⟨k1, k2, k3, k4, k5, k6, k7⟩, _, nu, fu⟩ := P
      have Mu := mt_fg M (bf_tc Y.2.1) (bf_tc Yu.2.1) fu (by omega) (.inl (by omega))
      refine ok_add (by omega) ?_; intro v30 e30
      exact ih v30 u29 Yu (nu N) Mu (by omega) (by omega) (by omega) (by omega) (by omega)
theorem vb_63 (hn : 1000000 ≤ nn) (S : SF t) (B : MB 1 t) {Q : ms_M → Prop} {l1 s0 : Int} {qk : Int → ms_M → Option ms_M} (hk : ∀ r, YB t r → MI t r → MT t (l1 + 1) r → Ok_ (qk (l1 + 1) r) Q) (r1 : 0 ≤ l1 ∧ l1 < t 160 28 ∧ l1 ≤ 799) (hs : ¬ t 182 l1.toNat = 0) (r0 : s0 = 0 ∨ s0 = 1) (Y : YB t h) (N : MI t h) (M : MT t l1 h) (h51 : h 160 51 = l1) (h52 : 8 ≤ h 160 52 ∧ h 160 52 < 8 + t 160 24) : Ok_ (qj_X13_bodies_63 nn qk l1 s0 h) Q := by
  unfold qj_X13_bodies_63
  refine ok_ck r0 ?_
  refine ok_xl ?_; intro h33 E33
  have Y33 := yb_fd Y E33 (by rw [E33]; exact wF_160_53 Y.1 (by omega)) rfl
  have N33 := mi_fd N E33 (by decide)
  have M33 := mt_fg M (bf_tc Y.2.1) (bf_tc Y33.2.1) (fg_fd E33) (by rw [E33, up_n (by decide)]; exact id) (.inl (by omega))
  refine ok_xl ?_; intro h34 E34
  have Y34 := yb_fd Y33 E34 (by rw [E34]; exact wF_160_50 Y33.1 (by omega)) rfl
  have N34 := mi_fd N33 E34 (by decide)
  have M34 := mt_fg M33 (bf_tc Y33.2.1) (bf_tc Y34.2.1) (fg_fd E34) (by rw [E34, up_n (by decide)]; exact id) (.inl (by omega))
  refine ok_xl ?_; intro h35 E35
  have Y35 := yb_fd Y34 E35 (by rw [E35]; exact wF_160_54 Y34.1 (by omega)) rfl
  have N35 := mi_fd N34 E35 (by decide)
  have M35 := mt_fg M34 (bf_tc Y34.2.1) (bf_tc Y35.2.1) (fg_fd E35) (by rw [E35, up_n (by decide)]; exact id) (.inl (by omega))
  refine ok_xl ?_; intro h36 E36
  have Y36 := yb_fd Y35 E36 (by rw [E36]; exact wF_160_57 Y35.1 (by omega)) rfl
  have N36 := mi_fd N35 E36 (by decide)
  have M36 := mt_fg M35 (bf_tc Y35.2.1) (bf_tc Y36.2.1) (fg_fd E36) (by rw [E36, up_n (by decide)]; exact id) (.inl (by omega))
  have q50 : h36 160 50 = 0 := by rw [E36, up_n (by decide), E35, up_n (by decide), E34, up_s]
  have q54 : h36 160 54 = 0 := by rw [E36, up_n (by decide), E35, up_s]
  have q57 : h36 160 57 = 0 := by rw [E36, up_s]
  have q51 : h36 160 51 = l1 := by rw [E36, up_n (by decide), E35, up_n (by decide), E34, up_n (by decide), E33, up_n (by decide)]; exact h51
  have q52 : h36 160 52 = h 160 52 := by rw [E36, up_n (by decide), E35, up_n (by decide), E34, up_n (by decide), E33, up_n (by decide)]
  have Y : YI t h36 := ⟨Y36.1, Y36.2.1, Y36.2.2.1, fun s z => by exfalso; omega, Y36.2.2.2, by omega, by omega⟩
  have g9 := gA_189 Y36.1 l1.toNat (by omega)
  rw [Y36.2.1 189 _ (nw_ar rfl _)] at g9
  exact vb_83 hn S B hk r1 hs nn 0 h36 Y N36 M36 q57 q54 q50 (by omega) (by omega)
theorem vb_2 (hn : 1000000 ≤ nn) (S : SF t) (B : MB 1 t) : ∀ (k : Nat) (l1 : Int) (h : ms_M), YB t h → MI t h → MT t l1 h → (0 ≤ l1 ∧ l1 ≤ 800) → 801 - l1 < (k : Int) → Ok_ (qw_X13_bodies_2 nn k l1 h) (QB t) := by
  intro k
  induction k with
  | zero => intro l1 h Y N M r hm; exfalso; omega
  | succ k ih =>
    intro l1 h Y N M r hm
    have g28 := gF_160_28 Y.1
    have q28 : h 160 28 = t 160 28 := Y.2.1 160 28 rfl
    unfold qw_X13_bodies_2
    refine ok_if (fun C => ok_ret ⟨Y, N, fun y x hx => M y x (by omega)⟩) (fun C => ?_)
    refine ok_if (fun C2 => ok_ret ⟨Y, N, fun y => absurd y C2⟩) (fun C2 => ?_)
    refine ok_rd (by omega) (gA_182 Y.1) ?_; intro v40 e40 a40 b40
    have t40 : v40 = t 182 l1.toNat := by rw [e40]; exact Y.2.1 182 _ (nw_ar rfl _)
    refine ok_if (fun C3 => ?_) (fun C3 => ?_)
    · refine ok_xl ?_; intro h41 E41
      have Y41 := yb_fd Y E41 (by rw [E41]; exact wF_160_51 Y.1 (by omega)) rfl
      have N41 := mi_fd N E41 (by decide)
      have M41 := mt_fg M (bf_tc Y.2.1) (bf_tc Y41.2.1) (fg_fd E41) (by rw [E41, up_n (by decide)]; exact id) (.inl (by omega))
      refine ok_rd (by omega) (gA_181 Y41.1) ?_; intro v43 e43 a43 b43
      have t43 : v43 = t 181 l1.toNat := by rw [e43]; exact Y41.2.1 181 _ (nw_ar rfl _)
      have mc := S.2.2.2.2.2 l1.toNat (by omega)
      refine ok_add (by omega) ?_; intro v44 e44
      refine ok_xl ?_; intro h45 E45
      have Y45 := yb_fd Y41 E45 (by rw [E45]; exact wF_160_52 Y41.1 (by omega)) rfl
      have N45 := mi_fd N41 E45 (by decide)
      have M45 := mt_fg M41 (bf_tc Y41.2.1) (bf_tc Y45.2.1) (fg_fd E45) (by rw [E45, up_n (by decide)]; exact id) (.inl (by omega))
      have q51 : h45 160 51 = l1 := by rw [E45, up_n (by decide), E41, up_s]
      have q52 : h45 160 52 = v44 := by rw [E45, up_s]
      refine ok_rd (by omega) (gA_182 Y45.1) ?_; intro v47 e47 a47 b47
      have K : ∀ r, YB t r → MI t r → MT t (l1 + 1) r → Ok_ (qw_X13_bodies_2 nn k (l1 + 1) r) (QB t) := fun r Yr Nr Mr => ih (l1 + 1) r Yr Nr Mr (by omega) (by omega)
      exact ok_if (fun _ => vb_63 hn S B K (by omega) (by omega) (.inl rfl) Y45 N45 M45 q51 (by omega)) (fun _ => vb_63 hn S B K (by omega) (by omega) (.inr rfl) Y45 N45 M45 q51 (by omega))
    · refine ok_add (by omega) ?_; intro v49 e49
      refine ih v49 h Y N (fun y x hx hs => ?_) (by omega) (by omega)
      by_cases q : (x : Int) = l1
      · exfalso; rw [show x = l1.toNat by omega] at hs; omega
      · exact M y x (by omega) hs
theorem vb_bodies (hn : 1000000 ≤ nn) (S : SF t) (B : MB 1 t) (Y : YB t h) (N : MI t h) : Ok_ (qf_X13_bodies nn h) (QB t) := vb_2 hn S B nn 0 h Y N (fun _ x hx => by exfalso; omega) (by omega) (by omega)
end
end
section
section
variable {nn : Nat} {h : ms_M}
theorem cl_ok (hn : 1000000 ≤ nn) (V : VS_ h) (N : HW_ h) {a : Int} (ha : 0 ≤ a ∧ a ≤ 3001) : Ok_ (qf_X13_classOf nn a h) (fun u => -1 ≤ u ∧ u ≤ 407 ∧ u < 8 + h 160 24) := by
  have z := N.1 a.toNat (by omega)
  have g := gF_160_24 V
  unfold qf_X13_classOf
  refine ok_rd (by omega) (gA_164 V) ?_; intro v11 e11 a11 b11
  refine ok_rd (by omega) (gA_165 V) ?_; intro v13 e13 a13 b13
  obtain ⟨u, eu, qu⟩ := am_ok (nn := nn) (p := v11) (n := v13) hn XT_3 V (by omega) (by omega) (by omega)
  have q := qa_3 (by omega) qu
  rw [eu, mx_svs]
  refine ok_if (fun C => ?_) (fun C => ok_ret ⟨by omega, by omega, by omega⟩)
  refine ok_im (ok_pc (vw_X13_classOf_28 hn (l1 := a) (by omega) V N nn 0 (by omega) (by omega)) (pc_class28 nn 0)) (fun w p => ?_)
  have p1 : -1 ≤ w ∧ w ≤ 407 := p.1
  have p2 := p.2
  exact ⟨by omega, by omega, by omega⟩
/-- a FAULT is all that may be new -/
def Wr (h r : ms_M) : Prop := VS_ r ∧ (∀ c k : Nat, c ≠ 160 → r c k = h c k) ∧ (∀ k : Nat, k ≠ 9 → k ≠ 10 → r 160 k = h 160 k) ∧ (r 160 9 = 0 → h 160 9 = 0)
theorem wr_rf (V : VS_ h) : Wr h h := ⟨V, fun _ _ _ => rfl, fun _ _ _ => rfl, id⟩
theorem wr_tr {g r : ms_M} (a : Wr h g) (b : Wr g r) : Wr h r := ⟨b.1, fun c k z => by rw [b.2.1 c k z, a.2.1 c k z], fun k z1 z2 => by rw [b.2.2.1 k z1 z2, a.2.2.1 k z1 z2], fun z => a.2.2.2 (b.2.2.2 z)⟩
theorem wr_hw {r : ms_M} (a : Wr h r) (W : HW_ h) : HW_ r := hw_eq W (fun k => a.2.1 164 k (by decide)) (fun k => a.2.1 165 k (by decide)) (fun k => a.2.1 188 k (by decide)) (fun k => a.2.1 189 k (by decide))
theorem pw_wrong (hn : 1000000 ≤ nn) (V : VS_ h) {k v : Int} (hk : 1 ≤ k ∧ k ≤ 11) (hv : 0 ≤ v ∧ v ≤ 3001) : Pc (qf_X13_wrong nn k v h) (fun r => Wr h r ∧ ¬ r 160 9 = 0) := fun r e => by
  obtain ⟨V2, d⟩ := pc_ok (vf_X13_wrong hn hk.1 hk.2 hv.1 hv.2 V) r e
  have S := (pc_wrong (nn := nn) (h := h) (k := k) (t := v) (by omega) r e).1
  refine ⟨⟨V2, fun c j z => ?_, fun j z1 z2 => ?_, S.2.1⟩, d⟩
  · refine (ff_X13_wrong nn) _ e c j ?_
    simp only [nw_F, wl_X13_wrong, wf_X13_wrong, Bool.and_eq_true, Bool.not_eq_true', Bool.not_false, Bool.true_or, and_true]
    refine ⟨?_, ?_⟩
    · first | rfl | decide
    · rw [List.contains_eq_mem, decide_eq_false_iff_not]
      intro w
      simp only [List.mem_cons, Prod.mk.injEq, List.not_mem_nil, or_false] at w
      omega
  · refine (ff_X13_wrong nn) _ e 160 j ?_
    simp only [nw_F, wl_X13_wrong, wf_X13_wrong, Bool.and_eq_true, Bool.not_eq_true', Bool.not_false, Bool.true_or, and_true]
    refine ⟨?_, ?_⟩
    · first | rfl | decide
    · rw [List.contains_eq_mem, decide_eq_false_iff_not]
      intro w
      simp only [List.mem_cons, Prod.mk.injEq, List.not_mem_nil, or_false] at w
      omega
theorem pt_56 {l3 l4 L : Int} {g : ms_M} (hl : -1 ≤ l4 ∧ l4 ≤ 407 ∧ 2 * l4 + 10 ≤ L) : Pc (qj_X13_typeOf_56 nn l3 l4 g) (fun u => u.1 < L ∧ u.2 = g) := by
  unfold qj_X13_typeOf_56
  refine pc_xl ?_; intro v1 e1
  rw [oq_mul_eq (by omega) (by omega) (by omega)] at e1
  refine pc_add (by omega) ?_; intro v2 e2
  refine pc_if (fun _ => ?_) (fun _ => ?_)
  · refine pc_add (by omega) ?_; intro v3 e3
    exact pc_ret ⟨by show v3 < L; omega, rfl⟩
  · refine pc_add (by omega) ?_; intro v3 e3
    exact pc_ret ⟨by show v3 < L; omega, rfl⟩
theorem pt_typeOf (hn : 1000000 ≤ nn) (V : VS_ h) (W : HW_ h) {a1 a2 a3 : Int} (r1 : 0 ≤ a1 ∧ a1 ≤ 3) (r2 : 0 ≤ a2 ∧ a2 ≤ 3000) (r3 : 0 ≤ a3 ∧ a3 ≤ 1) : Pc (qf_X13_typeOf nn a1 a2 a3 h) (fun u => (0 ≤ u.1 ∧ u.1 ≤ 900) ∧ u.1 < 24 + 2 * h 160 24 ∧ Wr h u.2) := by
  have g := gF_160_24 V
  have A := pc_ok (vf_X13_typeOf hn r1.1 r1.2 r2.1 (by omega : a2 ≤ 3001) r3.1 r3.2 V W)
  have B : Pc (qf_X13_typeOf nn a1 a2 a3 h) (fun u => u.1 < 24 + 2 * h 160 24 ∧ Wr h u.2) := by
    unfold qf_X13_typeOf
    refine pc_if (fun _ => ?_) (fun _ => pc_ret ⟨by show (0 : Int) < _; omega, wr_rf V⟩)
    refine pc_if (fun _ => ?_) (fun _ => pc_if (fun _ => pc_ret ⟨by show (0 : Int) < _; omega, wr_rf V⟩) (fun _ => pc_ret ⟨by show (4 : Int) < _; omega, wr_rf V⟩))
    refine pc_if (fun _ => ?_) (fun _ => pc_ret ⟨by show (1 : Int) < _; omega, wr_rf V⟩)
    refine pc_if (fun _ => ?_) (fun _ => pc_ret ⟨by show (3 : Int) < _; omega, wr_rf V⟩)
    refine pc_sv (pc_ok (cl_ok hn V W (by omega))) ?_; intro u8 P8
    refine pc_if (fun _ => ?_) (fun _ => ?_)
    · exact pc_imp (pt_56 (L := 24 + 2 * h 160 24) (by omega)) (fun u p => ⟨p.1, by rw [p.2]; exact wr_rf V⟩)
    · refine pc_sv (pw_wrong hn V (by omega) (by omega)) ?_; intro u10 P10
      exact pc_imp (pt_56 (L := 24 + 2 * h 160 24) (by omega)) (fun u p => ⟨p.1, by rw [p.2]; exact P10.1⟩)
  exact fun r e => ⟨⟨(A r e).2.1, (A r e).2.2.1⟩, B r e⟩
/-- the members below l have types, and at most six parameters -/
def TYl (l : Int) (h : ms_M) : Prop := ∀ m : Nat, (m : Int) < l → (h 187 m < 24 + 2 * h 160 24 ∧ ∀ k : Nat, (k : Int) < h 189 m → h 195 ((h 188 m).toNat + k) < 24 + 2 * h 160 24) ∧ h 189 m ≤ 6
theorem ty_wr {l : Int} {r : ms_M} (T : TYl l h) (a : Wr h r) : TYl l r := fun m hm => by
  rw [a.2.1 187 m (by decide), a.2.1 189 m (by decide), a.2.1 188 m (by decide), a.2.2.1 24 (by decide) (by decide)]
  obtain ⟨⟨t1, t2⟩, t3⟩ := T m hm
  refine ⟨⟨t1, fun k hk => ?_⟩, t3⟩
  rw [a.2.1 195 _ (by decide)]; exact t2 k hk
/-- behind the parameters' loop -/
def PH (l1 : Int) (h r : ms_M) : Prop := (∀ c k : Nat, c ≠ 160 → c ≠ 195 → r c k = h c k) ∧ (∀ k : Nat, k ≠ 9 → k ≠ 10 → r 160 k = h 160 k) ∧ (∀ x, h 195 x < 24 + 2 * h 160 24 → r 195 x < 24 + 2 * h 160 24) ∧ (r 160 9 = 0 → (∀ j : Nat, (j : Int) < h 189 l1.toNat → r 195 ((h 188 l1.toNat).toNat + j) < 24 + 2 * h 160 24) ∧ h 189 l1.toNat ≤ 6)
theorem pm_239 (hn : 1000000 ≤ nn) {l1 l4 l5 : Int} {qk : Int → Int → ms_M → Option ms_M} {Q : ms_M → Prop} (r4 : 0 ≤ l4 ∧ l4 ≤ 3000) (hk : ∀ r, Wr h r → Pc (qk l1 (l4 + 1) r) Q) : ∀ (k : Nat) (l6 : Int) (g : ms_M), Wr h g → Pc (qw_X13_memberHead_239 nn qk k l1 l4 l5 l6 g) Q := by
  intro k
  induction k with
  | zero => intros; exact pc_none
  | succ k ih =>
    intro l6 g W
    unfold qw_X13_memberHead_239
    refine pc_if (fun _ => ?_) (fun _ => ?_)
    · refine pc_add (by omega) ?_; intro v1 e1
      rw [e1]; exact hk g W
    · refine pc_rA ?_; intro _ _ v3 _
      refine pc_rA ?_; intro b0 b1 v5 e5
      refine pc_se ?_; intro u7 _
      refine pc_if (fun _ => ?_) (fun _ => ?_)
      · refine pc_xl ?_; intro v8 _
        exact ih v8 g W
      · refine pc_rA ?_; intro c0 c1 v10 e10
        have g4 := gA_194 W.1 l5.toNat (by omega)
        refine pc_sv (pw_wrong hn W.1 (by omega) (by omega)) ?_; intro u12 P
        refine pc_xl ?_; intro v13 _
        exact ih v13 u12 (wr_tr W P.1)
theorem pm_157 (hn : 1000000 ≤ nn) {l1 : Int} (r1 : 0 ≤ l1 ∧ l1 ≤ 799) : ∀ (k : Nat) (l4 : Int) (h : ms_M), VS_ h → HW_ h → (0 ≤ l4 ∧ l4 ≤ 2000) → (h 160 9 = 0 → l4 ≤ 6) → (∀ j : Nat, (j : Int) < l4 → h 195 ((h 188 l1.toNat).toNat + j) < 24 + 2 * h 160 24) → Pc (qw_X13_memberHead_157 nn k l1 l4 h) (PH l1 h) := by
  intro k
  induction k with
  | zero => intros; exact pc_none
  | succ k ih =>
    intro l4 h V W r4 h6 hp
    have w := W.2 l1.toNat (by omega)
    have g8 := gA_188 V l1.toNat (by omega)
    have g9 := gA_189 V l1.toNat (by omega)
    unfold qw_X13_memberHead_157
    refine pc_rA ?_; intro _ _ v19 e19
    refine pc_if (fun C => ?_) (fun C => ?_)
    · refine pc_ret ⟨fun _ _ _ _ => rfl, fun _ _ _ => rfl, fun _ z => z, fun z => ⟨fun j hj => hp j (by omega), by have := h6 z; omega⟩⟩
    · refine pc_rA ?_; intro _ _ v21 e21
      refine pc_add (by omega) ?_; intro v22 e22
      refine pc_rA ?_; intro p0 p1 v25 e25
      refine pc_rA ?_; intro _ _ v27 e27
      refine pc_rA ?_; intro _ _ v29 e29
      have k1 := gA_191 V v22.toNat (by omega)
      have k2 := gA_192 V v22.toNat (by omega)
      have k3 := gA_193 V v22.toNat (by omega)
      refine pc_sv (pt_typeOf hn V W (by omega) (by omega) (by omega)) ?_; intro u31 P31
      obtain ⟨q1, q2, q3⟩ := P31
      refine pc_wA ?_; intro _ _ h32 E32
      have V32 : VS_ h32 := by rw [E32]; exact wA_195 q3.1 (by omega)
      have f32 : ∀ c k : Nat, ¬ (c = 195 ∧ k = v22.toNat) → h32 c k = u31.2 c k := fun c k z => by rw [E32]; exact up_n z
      have s32 : h32 195 v22.toNat = u31.1 := by rw [E32]; exact up_s
      have W32 : HW_ h32 := by rw [E32]; exact hw_up q3.1 (wr_hw q3 W) rfl
      have e22' : v22.toNat = (h 188 l1.toNat).toNat + l4.toNat := by omega
      have J : ∀ r, Wr h32 r → (r 160 9 = 0 → l4 + 1 ≤ 6) → Pc (qw_X13_memberHead_157 nn k l1 (l4 + 1) r) (PH l1 h) := by
        intro r R h7
        have a8 : r 188 l1.toNat = h 188 l1.toNat := by rw [R.2.1 188 _ (by decide), f32 188 _ (by omega), q3.2.1 188 _ (by decide)]
        have a9 : r 189 l1.toNat = h 189 l1.toNat := by rw [R.2.1 189 _ (by decide), f32 189 _ (by omega), q3.2.1 189 _ (by decide)]
        have a24 : r 160 24 = h 160 24 := by rw [R.2.2.1 24 (by decide) (by decide), f32 160 24 (by omega), q3.2.2.1 24 (by decide) (by decide)]
        have a5 : ∀ x, h 195 x < 24 + 2 * h 160 24 → r 195 x < 24 + 2 * h 160 24 := fun x z => by
          rw [R.2.1 195 _ (by decide)]
          by_cases y : x = v22.toNat
          · rw [y, s32]; exact q2
          · rw [f32 195 _ (by omega), q3.2.1 195 _ (by decide)]; exact z
        refine pc_imp (ih (l4 + 1) r R.1 (wr_hw R W32) (by omega) h7 (fun j hj => ?_)) (fun z p => ?_)
        · rw [a8, a24]
          by_cases y : (j : Int) = l4
          · rw [R.2.1 195 _ (by decide), show (h 188 l1.toNat).toNat + j = v22.toNat by omega, s32]; exact q2
          · exact a5 _ (hp j (by omega))
        · obtain ⟨p1, p2, p3, p4⟩ := p
          rw [a8, a9, a24] at p4
          rw [a24] at p3
          refine ⟨fun c k z1 z2 => by rw [p1 c k z1 z2, R.2.1 c k z1, f32 c k (by omega), q3.2.1 c k z1], fun k z1 z2 => by rw [p2 k z1 z2, R.2.2.1 k z1 z2, f32 160 k (by omega), q3.2.2.1 k z1 z2], fun x z => p3 x (a5 x z), p4⟩
      refine pc_if (fun C6 => ?_) (fun C6 => ?_)
      · unfold qj_X13_memberHead_231
        refine pc_rA ?_; intro _ _ v17 _
        refine pm_239 (h := h32) hn (by omega) (fun r R => J r R (fun z => ?_)) nn v17 h32 (wr_rf V32)
        have z1 := R.2.2.2 z
        rw [f32 160 9 (by omega)] at z1
        have := h6 (q3.2.2.2 z1)
        omega
      · refine pc_rA ?_; intro _ _ v34 e34
        have k4 := gA_194 V32 v22.toNat (by omega)
        refine pc_sv (pw_wrong hn V32 (by omega) (by omega)) ?_; intro u36 P36
        unfold qj_X13_memberHead_231
        refine pc_rA ?_; intro _ _ v17 _
        refine pm_239 (h := u36) hn (by omega) (fun r R => J r (wr_tr P36.1 R) (fun z => ?_)) nn v17 u36 (wr_rf P36.1.1)
        exact absurd (R.2.2.2 z) P36.2
theorem pm_139 (hn : 1000000 ≤ nn) {l1 l3 : Int} (r1 : 0 ≤ l1 ∧ l1 ≤ 799) {h0 : ms_M} (X : Wr h0 h) (W : HW_ h0) : Pc (qj_X13_memberHead_139 nn l1 l3 h) (PH l1 h0) := by
  have J : ∀ r, Wr h0 r → Pc (qw_X13_memberHead_157 nn nn l1 0 r) (PH l1 h0) := fun r R => by
    refine pc_imp (pm_157 hn r1 nn 0 r R.1 (wr_hw R W) (by omega) (fun _ => by omega) (fun j hj => by omega)) (fun z p => ?_)
    obtain ⟨p1, p2, p3, p4⟩ := p
    have a24 := R.2.2.1 24 (by decide) (by decide)
    rw [R.2.1 188 _ (by decide), R.2.1 189 _ (by decide), a24] at p4
    rw [a24] at p3
    exact ⟨fun c k z1 z2 => by rw [p1 c k z1 z2, R.2.1 c k z1], fun k z1 z2 => by rw [p2 k z1 z2, R.2.2.1 k z1 z2], fun x z => p3 x (by rw [R.2.1 195 _ (by decide)]; exact z), p4⟩
  unfold qj_X13_memberHead_139
  refine pc_if (fun _ => J h X) (fun _ => ?_)
  refine pc_rA ?_; intro _ _ v40 e40
  have g := gA_186 X.1 l1.toNat (by omega)
  refine pc_sv (pw_wrong hn X.1 (by omega) (by omega)) ?_; intro u42 P
  exact J u42 (wr_tr X P.1)
theorem pm_35 (hn : 1000000 ≤ nn) {l1 : Int} (r1 : 0 ≤ l1 ∧ l1 ≤ 799) (V : VS_ h) (W : HW_ h) : ∀ (k : Nat) (l2 l3 l4 : Int), Pc (qw_X13_memberHead_35 nn k l1 l2 l3 l4 h) (PH l1 h) := by
  intro k
  induction k with
  | zero => intros; exact pc_none
  | succ k ih =>
    intro l2 l3 l4
    have J : ∀ s0 s1, Pc (qj_X13_memberHead_86 nn (qw_X13_memberHead_35 nn k) l1 l2 l3 l4 s0 s1 h) (PH l1 h) := fun s0 s1 => by
      unfold qj_X13_memberHead_86
      refine pc_if (fun _ => ?_) (fun _ => ?_)
      · refine pc_xl ?_; intro v44 _
        refine pc_rA ?_; intro _ _ v46 _
        refine pc_rA ?_; intro _ _ v48 _
        refine pc_se ?_; intro u50 _
        refine pc_xl ?_; intro v51 _
        refine pc_xl ?_; intro v52 _
        exact ih _ _ _
      · refine pc_xl ?_; intro v53 _
        exact ih _ _ _
    have K : ∀ s0, Pc (qj_X13_memberHead_72 nn (qw_X13_memberHead_35 nn k) l1 l2 l3 l4 s0 h) (PH l1 h) := fun s0 => by
      unfold qj_X13_memberHead_72
      refine pc_rA ?_; intro _ _ v56 _
      exact pc_if (fun _ => J _ _) (fun _ => J _ _)
    unfold qw_X13_memberHead_35
    refine pc_if (fun _ => ?_) (fun _ => ?_)
    · refine pc_if (fun _ => pm_139 hn r1 (wr_rf V) W) (fun _ => ?_)
      refine pc_rA ?_; intro _ _ v59 e59
      have g := gA_186 V l1.toNat (by omega)
      refine pc_sv (pw_wrong hn V (by omega) (by omega)) ?_; intro u61 P
      exact pm_139 hn r1 P.1 W
    · refine pc_rA ?_; intro _ _ v64 _
      refine pc_rA ?_; intro _ _ v66 _
      refine pc_if (fun _ => ?_) (fun _ => ?_)
      · refine pc_xl ?_; intro v67 _
        exact ih _ _ _
      · refine pc_rA ?_; intro _ _ v69 _
        exact pc_if (fun _ => K _) (fun _ => K _)
theorem pm_head (hn : 1000000 ≤ nn) (V : VS_ h) (W : HW_ h) {l1 : Int} (r1 : 0 ≤ l1 ∧ l1 ≤ 799) (T : TYl l1 h) : Pc (qf_X13_memberHead nn l1 h) (fun r => r 160 9 = 0 → TYl (l1 + 1) r) := by
  have k1 := gA_183 V l1.toNat (by omega)
  have k2 := gA_184 V l1.toNat (by omega)
  have k3 := gA_185 V l1.toNat (by omega)
  unfold qf_X13_memberHead
  refine pc_rA ?_; intro _ _ v75 e75
  refine pc_rA ?_; intro _ _ v77 e77
  refine pc_rA ?_; intro _ _ v79 e79
  refine pc_sv (pt_typeOf hn V W (by omega) (by omega) (by omega)) ?_; intro u81 P
  obtain ⟨q1, q2, q3⟩ := P
  refine pc_wA ?_; intro _ _ h82 E82
  have V82 : VS_ h82 := by rw [E82]; exact wA_187 q3.1 (by omega)
  have W82 : HW_ h82 := by rw [E82]; exact hw_up q3.1 (wr_hw q3 W) rfl
  have f82 : ∀ c k : Nat, ¬ (c = 187 ∧ k = l1.toNat) → h82 c k = u81.2 c k := fun c k z => by rw [E82]; exact up_n z
  have s82 : h82 187 l1.toNat = u81.1 := by rw [E82]; exact up_s
  have T1 := ty_wr T q3
  refine pc_imp (pm_35 hn r1 V82 W82 nn 0 0 0) (fun r p z => ?_)
  obtain ⟨p1, p2, p3, p4⟩ := p
  obtain ⟨p5, p6⟩ := p4 z
  have a24 : r 160 24 = h 160 24 := by rw [p2 24 (by decide) (by decide), f82 160 24 (by omega), q3.2.2.1 24 (by decide) (by decide)]
  have b24 : h82 160 24 = h 160 24 := by rw [f82 160 24 (by omega), q3.2.2.1 24 (by decide) (by decide)]
  have c24 : u81.2 160 24 = h 160 24 := q3.2.2.1 24 (by decide) (by decide)
  intro m hm
  rw [a24, p1 187 m (by decide) (by decide), p1 189 m (by decide) (by decide), p1 188 m (by decide) (by decide)]
  by_cases y : (m : Int) = l1
  · have y2 : m = l1.toNat := by omega
    rw [y2, s82]
    rw [b24] at p5
    exact ⟨⟨q2, p5⟩, p6⟩
  · obtain ⟨⟨t1, t2⟩, t3⟩ := T1 m (by omega)
    rw [c24] at t1 t2
    rw [f82 187 m (by omega), f82 189 m (by omega), f82 188 m (by omega)]
    refine ⟨⟨t1, fun k hk => ?_⟩, t3⟩
    have := p3 ((u81.2 188 m).toNat + k) (by rw [b24, f82 195 _ (by omega)]; exact t2 k hk)
    rw [b24] at this; exact this
def QT2 (r : ms_M) : Prop := QH_ r ∧ (r 160 9 = 0 → TYl (r 160 28) r)
theorem ht_220 (hn : 1000000 ≤ nn) : ∀ (k : Nat) (l1 : Int) {h : ms_M}, QT2 h → (0 ≤ l1 ∧ l1 ≤ 800) → 801 - l1 < (k : Int) → Ok_ (qw_X13_heads_220 nn k l1 h) QT2 := by
  intro k
  induction k with
  | zero => intro l1 h Q r hm; exfalso; omega
  | succ k ih =>
    intro l1 h Q2 r hm
    have Q := Q2.1
    have V := Q.1
    have g := gF_160_28 V
    unfold qw_X13_heads_220
    refine ok_if (fun _ => ok_ret Q2) (fun C => ?_)
    refine ok_if (fun _ => ok_ret Q2) (fun C2 => ?_)
    have C2 : h 160 9 = 0 := Decidable.not_not.1 C2
    refine ok_rd (by omega) (gA_182 V) ?_; intro v4 e4 a4 b4
    refine ok_if (fun _ => ?_) (fun _ => ?_)
    · refine ok_add (by omega) ?_; intro v e
      exact ih v Q2 (by omega) (by omega)
    · refine ok_cV (vf_X13_overrides hn V Q.2.1 (Q.2.2.2 C2).1 Q.2.2.1 (by omega)) ?_; intro u7 E7 V7
      have F : ∀ c k, nw_F wl_X13_overrides wf_X13_overrides false false c k = true → u7 c k = h c k := fun c k w => (ff_X13_overrides nn) _ E7 c k w
      refine ok_add (by omega) ?_; intro v e
      refine ih v ⟨qh_fr Q V7 (fun _ => C2) F rfl rfl rfl, fun _ m hm => ?_⟩ (by omega) (by omega)
      rw [F 160 28 rfl] at hm
      obtain ⟨⟨t1, t2⟩, t3⟩ := Q2.2 C2 m hm
      rw [F 187 m (nw_ar rfl m), F 189 m (nw_ar rfl m), F 188 m (nw_ar rfl m), F 160 24 rfl]
      refine ⟨⟨t1, fun k hk => ?_⟩, t3⟩
      rw [F 195 _ (nw_ar rfl _)]; exact t2 k hk
theorem ht_192 (hn : 1000000 ≤ nn) : ∀ (k : Nat) (l1 : Int) {h : ms_M}, QH_ h → (h 160 9 = 0 → TYl l1 h) → (0 ≤ l1 ∧ l1 ≤ 800) → 801 - l1 < (k : Int) → Ok_ (qw_X13_heads_192 nn k l1 h) QT2 := by
  intro k
  induction k with
  | zero => intro l1 h Q T r hm; exfalso; omega
  | succ k ih =>
    intro l1 h Q T r hm
    have V := Q.1
    have g := gF_160_28 V
    unfold qw_X13_heads_192
    refine ok_if (fun C => ht_220 hn nn 0 ⟨Q, fun z m hm => T z m (by omega)⟩ (by omega) (by omega)) (fun C => ?_)
    refine ok_if (fun C2 => ht_220 hn nn 0 ⟨Q, fun z => absurd z C2⟩ (by omega) (by omega)) (fun C2 => ?_)
    have C2 : h 160 9 = 0 := Decidable.not_not.1 C2
    refine ok_cV (vf_X13_memberHead hn (by omega) (by omega) V Q.2.1) ?_; intro u15 E15 V15
    refine ok_add (by omega) ?_; intro v e
    refine ih v (qh_fr Q V15 (fun _ => C2) (fun c k w => (ff_X13_memberHead nn) _ E15 c k w) rfl rfl rfl) (fun z => ?_) (by omega) (by omega)
    rw [e]; exact pm_head hn V Q.2.1 (by omega) (T C2) u15 E15 z
end
section
variable {nn : Nat} {qk : Int → ms_M → Option ms_M} {l1 : Int} {Q : ms_M → Prop}
theorem hq_167 (hn : 1000000 ≤ nn) (hk : ∀ {g : ms_M}, HI_ (l1 + 1) g → Ok_ (qk (l1 + 1) g) Q) {l2 : Int} {h : ms_M} (I : HI_ l1 h) (h7 : h 160 9 = 0 → l1 ≤ 7) (r : 0 ≤ l1 ∧ l1 < h 160 24) (a : l2 = -1 → upn_ h 420 (8 + l1) = -1) (b : ¬ l2 = -1 → ¬ h 179 l1.toNat = -1) : Ok_ (qj_X13_heads_167 nn qk l1 l2 h) Q := by
  have g := gF_160_24 I.1.1
  unfold qj_X13_heads_167
  refine ok_if (fun C => ?_) (fun C => ?_)
  · refine ok_add (by omega) ?_; intro v e
    rw [e]
    refine hk ⟨I.1, fun z => ⟨by have := h7 z; omega, fun c c0 c1 => ?_⟩⟩
    by_cases q : c = l1
    · rw [q]; exact a C
    · exact (I.2 z).2 c c0 (by omega)
  · refine ok_rd (by omega) (gA_179 I.1.1) ?_; intro v21 e21 a21 b21
    have b := b C
    refine ok_cVR (vf_X13_wrong hn (by omega) (by omega) (by omega) (by omega) I.1.1) ?_; intro u23 E23 V23 R23
    refine ok_add (by omega) ?_; intro v e
    rw [e]
    exact hk (hi_w hn I (by omega) (by omega) E23)
theorem hq_139 (hn : 1000000 ≤ nn) (hk : ∀ {g : ms_M}, HI_ (l1 + 1) g → Ok_ (qk (l1 + 1) g) Q) {h : ms_M} (I : HI_ l1 h) (h7 : h 160 9 = 0 → l1 ≤ 7) (r : 0 ≤ l1 ∧ l1 < h 160 24) : ∀ (f n : Nat), (n : Int) ≤ 410 → (-1 ≤ upn_ h n (8 + l1) ∧ upn_ h n (8 + l1) ≤ 407) → 411 - (n : Int) < (f : Int) → Ok_ (qw_X13_heads_139 nn qk f l1 (upn_ h n (8 + l1)) (n : Int) h) Q := by
  have g := gF_160_24 I.1.1
  have two : h 179 l1.toNat = -1 → upn_ h 2 (8 + l1) = -1 := fun z => by
    have u := I.1.2.2.2 l1.toNat (by omega) z
    have e : uo_ h (8 + l1) = 0 := by
      unfold uo_; rw [if_neg (by omega), if_neg (by omega), if_pos (by omega), show 8 + l1 - 8 = l1 by omega]; exact u
    show (if 8 + l1 = -1 then -1 else upn_ h 1 (uo_ h (8 + l1))) = -1
    rw [if_neg (by omega), e]; rfl
  intro f
  induction f with
  | zero => intro n a b hm; exfalso; omega
  | succ f ih =>
    intro n a b hm
    unfold qw_X13_heads_139
    have ea : upn_ h n (8 + l1) = -1 → upn_ h 420 (8 + l1) = -1 := fun z => by
      have := upn_e (420 - n) n z
      rw [show n + (420 - n) = 420 by omega] at this; exact this
    refine ok_add (by omega) ?_; intro v27 e27
    refine ok_if (fun C => ?_) (fun C => ?_)
    · refine hq_167 hn hk I h7 r ea (fun z y => z ?_)
      have := upn_e (n - 2) 2 (two y)
      rw [show 2 + (n - 2) = n by omega] at this; exact this
    · refine ok_if (fun C2 => hq_167 hn hk I h7 r ea (fun z => absurd C2 z)) (fun C2 => ?_)
      rw [uo_eq (by omega), mx_svs]
      refine ok_add (by omega) ?_; intro v30 e30
      have s := upn_s (M := h) n (8 + l1)
      rw [if_neg C2] at s
      rw [e30, ← s]
      exact ih (n + 1) (by omega) (by rw [s]; exact uo_b I.1.1 (by omega)) (by omega)
theorem hq_132 (hn : 1000000 ≤ nn) (hk : ∀ {g : ms_M}, HI_ (l1 + 1) g → Ok_ (qk (l1 + 1) g) Q) {h : ms_M} (I : HI_ l1 h) (h7 : h 160 9 = 0 → l1 ≤ 7) (r : 0 ≤ l1 ∧ l1 < h 160 24) : Ok_ (qj_X13_heads_132 nn qk l1 h) Q := by
  have g := gF_160_24 I.1.1
  unfold qj_X13_heads_132
  refine ok_add (by omega) ?_; intro v33 e33
  rw [e33]
  exact hq_139 hn hk I h7 r nn 0 (by omega) (by show -1 ≤ 8 + l1 ∧ 8 + l1 ≤ 407; omega) (by omega)
theorem hq_111 (hn : 1000000 ≤ nn) (hk : ∀ {g : ms_M}, HI_ (l1 + 1) g → Ok_ (qk (l1 + 1) g) Q) {h : ms_M} (I : HI_ l1 h) (h7 : h 160 9 = 0 → l1 ≤ 7) (r : 0 ≤ l1 ∧ l1 < h 160 24) : Ok_ (qj_X13_heads_111 nn qk l1 h) Q := by
  have g := gF_160_24 I.1.1
  unfold qj_X13_heads_111
  refine ok_rd (by omega) (gA_180 I.1.1) ?_; intro v35 e35 a35 b35
  refine ok_if (fun _ => hq_132 hn hk I h7 r) (fun C => ?_)
  refine ok_rd (by omega) (gA_179 I.1.1) ?_; intro v37 e37 a37 b37
  have n1 : ¬ v37 = -1 := fun z => by
    have := I.1.2.2.2 l1.toNat (by omega) (by rw [← e37]; exact z)
    omega
  refine ok_cVR (vf_X13_wrong hn (by omega) (by omega) (by omega) (by omega) I.1.1) ?_; intro u39 E39 V39 R39
  have e24 : u39 160 24 = h 160 24 := (ff_X13_wrong nn) _ E39 160 24 rfl
  exact hq_132 hn hk (hi_w hn I (by omega) (by omega) E39) (fun z => absurd z R39) (by omega)
theorem hq_83 (hn : 1000000 ≤ nn) (hk : ∀ {g : ms_M}, HI_ (l1 + 1) g → Ok_ (qk (l1 + 1) g) Q) {h : ms_M} (I : HI_ l1 h) (h7 : h 160 9 = 0 → l1 ≤ 7) (r : 0 ≤ l1 ∧ l1 < h 160 24) : Ok_ (qj_X13_heads_83 nn qk l1 h) Q := by
  have g := gF_160_24 I.1.1
  unfold qj_X13_heads_83
  refine ok_rd (by omega) (gA_178 I.1.1) ?_; intro v42 e42 a42 b42
  refine ok_cP (vf_X13_classOf hn (by omega) (by omega) I.1.1 I.1.2.1) ?_; intro u44 e44 a44 b44
  refine ok_add (by omega) ?_; intro v45 e45
  refine ok_if (fun _ => hq_111 hn hk I h7 r) (fun C => ?_)
  refine ok_rd (by omega) (gA_178 I.1.1) ?_; intro v47 e47 a47 b47
  refine ok_cVR (vf_X13_wrong hn (by omega) (by omega) (by omega) (by omega) I.1.1) ?_; intro u49 E49 V49 R49
  have e24 : u49 160 24 = h 160 24 := (ff_X13_wrong nn) _ E49 160 24 rfl
  exact hq_111 hn hk (hi_w hn I (by omega) (by omega) E49) (fun z => absurd z R49) (by omega)
end
theorem hq_50 {nn : Nat} {Q : ms_M → Prop} (hn : 1000000 ≤ nn) (h192 : ∀ {g : ms_M}, QH_ g → Ok_ (qw_X13_heads_192 nn nn 0 g) Q) : ∀ (k : Nat) (l1 : Int) {h : ms_M}, HI_ l1 h → (0 ≤ l1 ∧ l1 ≤ 400) → 401 - l1 < (k : Int) → Ok_ (qw_X13_heads_50 nn k l1 h) Q := by
  intro k
  induction k with
  | zero => intro l1 h I r hm; exfalso; omega
  | succ k ih =>
    intro l1 h I r hm
    have g := gF_160_24 I.1.1
    unfold qw_X13_heads_50
    refine ok_if (fun C => h192 (hi_end I C)) (fun C => ?_)
    refine ok_if (fun C2 => ?_) (fun C2 => ?_)
    · exact h192 ⟨I.1.1, I.1.2.1, I.1.2.2.1, fun z => absurd z C2⟩
    · have C2 : h 160 9 = 0 := Decidable.not_not.1 C2
      have i8 := (I.2 C2).1
      have hk : ∀ {g : ms_M}, HI_ (l1 + 1) g → Ok_ (qw_X13_heads_50 nn k (l1 + 1) g) Q := fun Ig => ih (l1 + 1) Ig (by omega) (by omega)
      refine ok_if (fun C3 => hq_83 hn hk I (fun _ => by omega) (by omega)) (fun C3 => ?_)
      refine ok_rd (by omega) (gA_178 I.1.1) ?_; intro v54 e54 a54 b54
      refine ok_cVR (vf_X13_wrong hn (by omega) (by omega) (by omega) (by omega) I.1.1) ?_; intro u56 E56 V56 R56
      have e24 : u56 160 24 = h 160 24 := (ff_X13_wrong nn) _ E56 160 24 rfl
      exact hq_83 hn hk (hi_w hn I (by omega) (by omega) E56) (fun z => absurd z R56) (by omega)
theorem hq_2 {nn : Nat} {Q : ms_M → Prop} (hn : 1000000 ≤ nn) (h192 : ∀ {g : ms_M}, QH_ g → Ok_ (qw_X13_heads_192 nn nn 0 g) Q) : ∀ (k : Nat) (l1 : Int) {h : ms_M}, VS_ h → HW_ h → MC_ h → (∀ c : Nat, (c : Int) < l1 → h 179 c = -1 → h 180 c = 0) → (0 ≤ l1 ∧ l1 ≤ 400) → 401 - l1 < (k : Int) → Ok_ (qw_X13_heads_2 nn k l1 h) Q := by
  intro k
  induction k with
  | zero => intro l1 h V N M E r hm; exfalso; omega
  | succ k ih =>
    intro l1 h V N M E r hm
    have g := gF_160_24 V
    unfold qw_X13_heads_2
    refine ok_if (fun C => ?_) (fun C => ?_)
    · exact hq_50 hn h192 nn 0 ⟨⟨V, N, M, fun c hc => E c (by omega)⟩, fun _ => ⟨by omega, fun c a b => by omega⟩⟩ (by omega) (by omega)
    · have j : ∀ s0 : Int, (-1 ≤ s0 ∧ s0 ≤ 407) → (h 179 l1.toNat = -1 → s0 = 0) → Ok_ (qj_X13_heads_34 nn (qw_X13_heads_2 nn k) l1 s0 h) Q := fun s0 rs hs => by
        unfold qj_X13_heads_34
        refine ok_wA (by omega) ?_; intro h61 E61
        have V61 : VS_ h61 := by rw [E61]; exact wA_180 V (by omega)
        have N61 : HW_ h61 := by rw [E61]; exact hw_up V N rfl
        have f61 : ∀ c k, ¬ (c = 180 ∧ k = l1.toNat) → h61 c k = h c k := fun c k z => by rw [E61]; exact up_n z
        have M61 : MC_ h61 := fun m hm => by
          rw [f61 160 28 (by omega)] at hm
          rw [f61 181 m (by omega), f61 160 24 (by omega)]; exact M m hm
        refine ok_add (by omega) ?_; intro v e
        refine ih v V61 N61 M61 (fun c hc z => ?_) (by omega) (by omega)
        rw [f61 179 c (by omega)] at z
        by_cases q : c = l1.toNat
        · rw [q, E61, up_s]; rw [q] at z; exact hs z
        · rw [f61 180 c (by omega)]; exact E c (by omega) z
      refine ok_rd (by omega) (gA_179 V) ?_; intro v65 e65 a65 b65
      refine ok_if (fun C2 => ?_) (fun C2 => ?_)
      · refine ok_rd (by omega) (gA_179 V) ?_; intro v67 e67 a67 b67
        refine ok_cP (vf_X13_classOf hn (by omega) (by omega) V N) ?_; intro u69 e69 a69 b69
        exact j u69 ⟨a69, b69⟩ (fun z => by omega)
      · exact j 0 (by omega) (fun _ => rfl)
theorem hq_heads {nn : Nat} {Q : ms_M → Prop} (hn : 1000000 ≤ nn) (h192 : ∀ {g : ms_M}, QH_ g → Ok_ (qw_X13_heads_192 nn nn 0 g) Q) {h : ms_M} (V : VS_ h) (N : HW_ h) (M : MC_ h) : Ok_ (qf_X13_heads nn h) Q := by
  unfold qf_X13_heads
  exact hq_2 hn h192 nn 0 V N M (fun c hc => by omega) (by omega) (by omega)
theorem vt_heads {nn : Nat} (hn : 1000000 ≤ nn) {h : ms_M} (V : VS_ h) (N : HW_ h) (M : MC_ h) : Ok_ (qf_X13_heads nn h) QT2 := hq_heads hn (fun Q => ht_192 hn nn 0 Q (fun _ m hm => by omega) (by omega) (by omega)) V N M
theorem sf_of {h : ms_M} (Q : QT2 h) (z : h 160 9 = 0) : SF h := ⟨Q.1.2.1, (Q.1.2.2.2 z).1, fun m hm => (Q.2 z m hm).1, (Q.1.2.2.2 z).2, fun m hm => (Q.2 z m hm).2, Q.1.2.2.1⟩
end
section
section
variable {nn : Nat} {h g r z : ms_M} {l : Int}
/-- a step that leaves the tree and the members' sorts and bodies -/
def SX (h r : ms_M) : Prop := Sm h r ∧ (∀ k : Nat, r 182 k = h 182 k ∧ r 190 k = h 190 k) ∧ r 160 28 = h 160 28
theorem sx_rf : SX h h := ⟨sm_rf, fun _ => ⟨rfl, rfl⟩, rfl⟩
theorem sx_tr (a : SX h g) (b : SX g r) : SX h r := ⟨sm_tr a.1 b.1, fun k => ⟨by rw [(b.2.1 k).1, (a.2.1 k).1], by rw [(b.2.1 k).2, (a.2.1 k).2]⟩, by rw [b.2.2, a.2.2]⟩
theorem sx_sign {v : Int} (e : qf_X13_sign_ nn v h = some r) : SX h r := ⟨(pc_sign_ r e).1, fun k => ⟨(ff_X13_sign_ nn) _ e 182 k (nw_ar rfl k), (ff_X13_sign_ nn) _ e 190 k (nw_ar rfl k)⟩, (ff_X13_sign_ nn) _ e 160 28 rfl⟩
theorem sx_name {u : Int × ms_M} (e : qf_X13_name nn h = some u) : SX h u.2 := ⟨(pc_name u e).1, fun k => ⟨(ff_X13_name nn) _ e 182 k (nw_ar rfl k), (ff_X13_name nn) _ e 190 k (nw_ar rfl k)⟩, (ff_X13_name nn) _ e 160 28 rfl⟩
theorem sx_type (e : qf_X13_type nn h = some r) : SX h r := ⟨(pc_type r e).1, fun k => ⟨(ff_X13_type nn) _ e 182 k (nw_ar rfl k), (ff_X13_type nn) _ e 190 k (nw_ar rfl k)⟩, (ff_X13_type nn) _ e 160 28 rfl⟩
theorem sx_ar {c : Nat} {j v : Int} (E : z = up_M h c j.toNat v) (hc : c ≠ 160 ∧ (c < 167 ∨ 177 < c) ∧ c ≠ 182 ∧ c ≠ 190) : SX h z := by
  subst E
  refine ⟨⟨up_n (by omega), fun y => ?_, ?_, fun c2 x h1 h2 => up_n (by omega)⟩, fun k => ⟨up_n (by omega), up_n (by omega)⟩, up_n (by omega)⟩
  · rwa [up_n (by omega)] at y
  · rw [up_n (by omega)]; exact Int.le_refl _
theorem sx_fd {k : Nat} {v : Int} (E : z = up_M h 160 k v) (hk : k ≠ 22 ∧ k ≠ 9 ∧ k ≠ 23 ∧ k ≠ 28) : SX h z := by
  refine ⟨sm_fld E ⟨hk.1, hk.2.1, hk.2.2.1⟩, fun j => ?_, ?_⟩
  · subst E; exact ⟨up_n (by omega), up_n (by omega)⟩
  · subst E; exact up_n (by omega)
theorem sx_cur {v : Int} (E : z = up_M h 160 23 v) (hv : h 160 23 ≤ v) : SX h z := by
  refine ⟨(sm_cur E hv).1, fun j => ?_, ?_⟩
  · subst E; exact ⟨up_n (by omega), up_n (by omega)⟩
  · subst E; exact up_n (by decide)
/-- behind a member: all else as it was -/
def FM (l : Int) (h r : ms_M) : Prop := Fr h r (h 160 22) ∧ ∀ k : Nat, (k : Int) ≠ l → r 182 k = h 182 k ∧ r 190 k = h 190 k
theorem fm_sx (a : SX h g) (b : FM l g r) : FM l h r := ⟨by have q := b.1; rw [a.1.1] at q; exact fr_tr (sm_fr (n := h 160 22) a.1) q (Int.le_refl _), fun k z => ⟨by rw [(b.2 k z).1, (a.2.1 k).1], by rw [(b.2 k z).2, (a.2.1 k).2]⟩⟩
theorem fm_of (a : SX h r) : FM l h r := ⟨sm_fr a.1, fun k _ => a.2.1 k⟩
def PL (l : Int) (h r : ms_M) : Prop := FM l h r ∧ r 160 28 = h 160 28 ∧ r 182 l.toNat = h 182 l.toNat ∧ (r 160 9 = 0 → ∀ m, (m = 0 ∨ m = 1) → TE m r 2 82 (r 190 l.toNat) (r 160 22) (r 190 l.toNat)) ∧ (r 160 9 = 0 → CC r + h 160 23 ≤ CC h + r 160 23 ∧ h 160 22 ≤ r 190 l.toNat)
theorem pl_sx (a : SX h g) (b : PL l g r) : PL l h r := ⟨fm_sx a b.1, by rw [b.2.1, a.2.2], by rw [b.2.2.1, (a.2.1 _).1], b.2.2.2.1, fun y => by have := b.2.2.2.2 y; have := cc_sm a.1; have := a.1.2.2.1; have := a.1.1; omega⟩
theorem pl_dead (a : SX h r) (d : ¬ r 160 9 = 0) : PL l h r := ⟨fm_of a, a.2.2, (a.2.1 _).1, fun y => absurd y d, fun y => absurd y d⟩
theorem pc_360 (h0 : 0 ≤ h 160 22) : Pc (qj_X13_member_360 nn l h) (PL l h) := by
  unfold qj_X13_member_360
  refine pc_se ?_; intro u2 e2
  have S2 := sx_sign e2
  have q22 := S2.1.1
  refine pc_se ?_; intro u5 e5
  have A := fun m (hm : m = 0 ∨ m = 1) => ge_block (nn := nn) hm 0 u2 (by decide) (by decide) (by omega) u5 e5
  have F5 := (A 0 (.inl rfl)).1
  have f5 : ∀ k : Nat, u5.2 182 k = u2 182 k ∧ u5.2 190 k = u2 190 k := fun k => ⟨(ff_X13_block nn) _ e5 182 k (nw_ar rfl k), (ff_X13_block nn) _ e5 190 k (nw_ar rfl k)⟩
  have f28 : u5.2 160 28 = u2 160 28 := (ff_X13_block nn) _ e5 160 28 rfl
  refine pc_wA ?_; intro p6 q6 h6 E6
  have n6 : ∀ c k : Nat, ¬ (c = 190 ∧ k = l.toNat) → h6 c k = u5.2 c k := fun c k w => by rw [E6]; exact up_n w
  have G6 : GI u5.2 → GI h6 := gi_o E6 (by decide)
  refine pc_ret (pl_sx S2 ⟨⟨⟨⟨?_, fun y => ?_, ?_⟩, fun c x h1 h2 h3 => ?_, fun w => G6 (F5.2.2 w)⟩, fun k w => ?_⟩, ?_, ?_, fun y m hm => ?_, fun y => ?_⟩)
  · rw [n6 160 22 (by omega)]; exact F5.1.1
  · rw [n6 160 9 (by omega)] at y; exact F5.1.2.1 y
  · rw [n6 160 23 (by omega)]; exact F5.1.2.2
  · rw [n6 c x (by omega)]; exact F5.2.1 c x h1 h2 h3
  · rw [n6 182 k (by omega), n6 190 k (by omega)]; exact f5 k
  · rw [n6 160 28 (by omega)]; exact f28
  · rw [n6 182 _ (by omega)]; exact (f5 _).1
  · rw [n6 160 9 (by omega)] at y
    obtain ⟨w1, _, _, _, w4, _⟩ := (A m hm).2 y
    rw [← w1] at w4
    have e0 : h6 190 l.toNat = u5.1 := by rw [E6]; exact up_s
    rw [e0, n6 160 22 (by omega)]
    exact te_fr (te_wd w4 (by omega) (by omega) (by omega) (by omega)) (by omega) (fun c x h1 h2 _ _ => n6 c x (by omega))
  · rw [n6 160 9 (by omega)] at y
    have c6 := cc_wo E6 (by decide)
    have w := ((A 0 (.inl rfl)).2 y).2.2.2.2.2
    have w1 := ((A 0 (.inl rfl)).2 y).1
    have e0 : h6 190 l.toNat = u5.1 := by rw [E6]; exact up_s
    rw [n6 160 23 (by omega), e0]
    omega
theorem pc_269 (h0 : 0 ≤ h 160 22) {qk : Int → ms_M → Option ms_M} (ih : ∀ g : ms_M, 0 ≤ g 160 22 → Pc (qk l g) (PL l g)) : Pc (qj_X13_member_269 nn qk l h) (PL l h) := by
  unfold qj_X13_member_269
  refine pc_se ?_; intro u8 e8
  have S8 := sx_type e8
  refine pc_se ?_; intro u10 e10
  have S10 := sx_tr S8 (sx_name e10)
  refine pc_if (fun C => ?_) (fun C => pc_ret (pl_dead S10 C))
  refine pc_wA ?_; intro _ _ h15 E15
  have S15 := sx_tr S10 (sx_ar E15 (by decide))
  refine pc_wA ?_; intro _ _ h19 E19
  have S19 := sx_tr S15 (sx_ar E19 (by decide))
  refine pc_wZ ?_; intro _ _ h23 E23
  have S23 := sx_tr S19 (sx_ar E23 (by decide))
  refine pc_wA ?_; intro _ _ h26 E26
  have S26 := sx_tr S23 (sx_ar E26 (by decide))
  refine pc_xl ?_; intro v28 _
  refine pc_xl ?_; intro h29 E29
  have S29 := sx_tr S26 (sx_fd E29 (by decide))
  refine pc_rA ?_; intro _ _ v31 _
  refine pc_xl ?_; intro v32 _
  refine pc_wA ?_; intro _ _ h33 E33
  have S33 := sx_tr S29 (sx_ar E33 (by decide))
  exact pc_imp (ih h33 (by have := S33.1.1; omega)) (fun r p => pl_sx S33 p)
theorem pc_234 : ∀ (k : Nat) (h : ms_M), 0 ≤ h 160 22 → Pc (qw_X13_member_234 nn k l h) (PL l h) := by
  intro k
  induction k with
  | zero => intros; exact pc_none
  | succ k ih =>
    intro h h0
    unfold qw_X13_member_234
    refine pc_if (fun _ => pc_360 h0) (fun _ => ?_)
    refine pc_se ?_; intro u38 _
    refine pc_if (fun _ => pc_360 h0) (fun _ => ?_)
    refine pc_rA ?_; intro _ _ v40 _
    refine pc_if (fun _ => pc_269 h0 ih) (fun _ => ?_)
    refine pc_se ?_; intro u42 e42
    have S := sx_sign e42
    exact pc_imp (pc_269 (by have := S.1.1; omega) ih) (fun r p => pl_sx S p)
/-- what a member tells -/
def PN (h r : ms_M) : Prop := FM (h 160 28) h r ∧ (r 160 9 = 0 → (0 ≤ h 160 28 ∧ r 160 28 = h 160 28 + 1) ∧ (r 182 (h 160 28).toNat = 0 ∨ ∀ m, (m = 0 ∨ m = 1) → TE m r 2 82 (r 190 (h 160 28).toNat) (r 160 22) (r 190 (h 160 28).toNat)) ∧ CC r + h 160 23 ≤ CC h + r 160 23 ∧ (r 182 (h 160 28).toNat = 0 ∨ h 160 22 ≤ r 190 (h 160 28).toNat))
theorem pn_sx (a : SX h g) (b : PN g r) : PN h r := by
  have q := b.1
  have q2 := b.2
  rw [a.2.2] at q q2
  exact ⟨fm_sx a q, fun y => ⟨(q2 y).1, (q2 y).2.1, by have := (q2 y).2.2.1; have := cc_sm a.1; have := a.1.2.2.1; omega, by rw [← a.1.1]; exact (q2 y).2.2.2⟩⟩
theorem pc_170 {l1 l2 s0 : Int} (h0 : 0 ≤ h 160 22) (h28 : 0 ≤ h 160 28 ∧ h 160 28 ≤ 799) : Pc (qj_X13_member_170 nn l1 l2 (h 160 28) s0 (h 160 28) h) (PN h) := by
  unfold qj_X13_member_170
  refine pc_wA ?_; intro p46 q46 h46 E46
  have n46 : ∀ c k : Nat, ¬ (c = 182 ∧ k = (h 160 28).toNat) → h46 c k = h c k := fun c k w => by rw [E46]; exact up_n w
  have S46 : Sm h h46 := ⟨n46 160 22 (by omega), fun y => by rwa [n46 160 9 (by omega)] at y, by rw [n46 160 23 (by omega)]; exact Int.le_refl _, fun c x h1 h2 => n46 c x (by omega)⟩
  have b28 : h46 160 28 = h 160 28 := n46 160 28 (by omega)
  refine pc_if (fun C => ?_) (fun C => pc_ret ⟨⟨sm_fr S46, fun k w => ⟨n46 182 k (by omega), n46 190 k (by omega)⟩⟩, fun y => absurd y C⟩)
  refine pc_add (by omega) ?_; intro v49 e49
  refine pc_xl ?_; intro h50 E50
  have n50 : ∀ c k : Nat, ¬ (c = 160 ∧ k = 28) → h50 c k = h46 c k := fun c k w => by rw [E50]; exact up_n w
  have b50 : h50 160 28 = v49 := by rw [E50]; exact up_s
  have S50 : Sm h h50 := sm_tr S46 ⟨n50 160 22 (by omega), fun y => by rwa [n50 160 9 (by omega)] at y, by rw [n50 160 23 (by omega)]; exact Int.le_refl _, fun c x h1 h2 => n50 c x (by omega)⟩
  have s22 := S50.1
  have J : ∀ r, PL (h 160 28) h50 r → PN h r := fun r p => by
    obtain ⟨⟨p1, p2⟩, p3, p4, p5, p6⟩ := p
    rw [s22] at p1
    have cc := cc_sm S50
    have cu := S50.2.2.1
    refine ⟨⟨fr_tr (sm_fr (n := h 160 22) S50) p1 (Int.le_refl _), fun k w => ?_⟩, fun y => ⟨⟨h28.1, by omega⟩, .inr (p5 y), by have := p6 y; omega, .inr (by have := p6 y; omega)⟩⟩
    rw [(p2 k w).1, (p2 k w).2, n50 182 k (by omega), n50 190 k (by omega), n46 182 k (by omega), n46 190 k (by omega)]
    exact ⟨rfl, rfl⟩
  have K : Pc (mx_sv (qf_X13_sign_ nn 40 h50) fun u52 => qw_X13_member_234 nn nn (h 160 28) u52) (PN h) := by
    refine pc_se ?_; intro u52 e52
    have S := sx_sign e52
    exact pc_imp (pc_234 nn u52 (by have := S.1.1; omega)) (fun r p => J r (pl_sx S p))
  refine pc_if (fun _ => K) (fun _ => ?_)
  refine pc_if (fun _ => K) (fun _ => ?_)
  refine pc_sv pc_isSign ?_; intro u57 b57
  refine pc_if (fun _ => K) (fun _ => ?_)
  refine pc_add (by omega) ?_; intro v61 e61
  refine pc_xl ?_; intro h62 E62
  have X62 := sx_cur E62 (by omega)
  refine pc_wA ?_; intro p64 q64 h64 E64
  have n64 : ∀ c k : Nat, ¬ (c = 182 ∧ k = (h 160 28).toNat) → h64 c k = h62 c k := fun c k w => by rw [E64]; exact up_n w
  have S64 : Sm h h64 := sm_tr S50 (sm_tr X62.1 ⟨n64 160 22 (by omega), fun y => by rwa [n64 160 9 (by omega)] at y, by rw [n64 160 23 (by omega)]; exact Int.le_refl _, fun c x h1 h2 => n64 c x (by omega)⟩)
  refine pc_ret ⟨⟨sm_fr S64, fun k w => ?_⟩, fun y => ⟨⟨h28.1, ?_⟩, .inl ?_, ?_, .inl ?_⟩⟩
  · rw [n64 182 k (by omega), n64 190 k (by omega), (X62.2.1 k).1, (X62.2.1 k).2, n50 182 k (by omega), n50 190 k (by omega), n46 182 k (by omega), n46 190 k (by omega)]
    exact ⟨rfl, rfl⟩
  · have a := n64 160 28 (by omega)
    have b := X62.2.2
    omega
  · rw [E64]; exact up_s
  · have := cc_sm S64; have := S64.2.2.1; omega
  · rw [E64]; exact up_s
theorem pc_75 {l1 l2 : Int} (h0 : 0 ≤ h 160 22) : Pc (qj_X13_member_75 nn l1 l2 h) (PN h) := by
  unfold qj_X13_member_75
  refine pc_wA ?_; intro p72 q72 h72 E72
  have S72 := sx_ar E72 (by decide)
  refine pc_wA ?_; intro _ _ h75 E75
  have S75 := sx_tr S72 (sx_ar E75 (by decide))
  refine pc_wZ ?_; intro _ _ h78 E78
  have S78 := sx_tr S75 (sx_ar E78 (by decide))
  refine pc_se ?_; intro u81 e81
  have S81 := sx_tr S78 (sx_name e81)
  refine pc_wA ?_; intro _ _ h82 E82
  have S82 := sx_tr S81 (sx_ar E82 (by decide))
  refine pc_xl ?_; intro v85 _
  refine pc_wA ?_; intro _ _ h86 E86
  have S86 := sx_tr S82 (sx_ar E86 (by decide))
  refine pc_wA ?_; intro _ _ h89 E89
  have S89 := sx_tr S86 (sx_ar E89 (by decide))
  refine pc_wA ?_; intro _ _ h91 E91
  have S91 := sx_tr S89 (sx_ar E91 (by decide))
  refine pc_wA ?_; intro _ _ h93 E93
  have n93 : ∀ c k : Nat, ¬ (c = 190 ∧ k = (h 160 28).toNat) → h93 c k = h91 c k := fun c k w => by rw [E93]; exact up_n w
  have S93 : Sm h h93 := sm_tr S91.1 ⟨n93 160 22 (by omega), fun y => by rwa [n93 160 9 (by omega)] at y, by rw [n93 160 23 (by omega)]; exact Int.le_refl _, fun c x h1 h2 => n93 c x (by omega)⟩
  have b28 : h93 160 28 = h 160 28 := by rw [n93 160 28 (by omega), S91.2.2]
  have s22 := S93.1
  have J : ∀ r, PN h93 r → PN h r := fun r p => by
    obtain ⟨⟨p1, p2⟩, p3⟩ := p
    rw [b28] at p2 p3
    rw [s22] at p1
    refine ⟨⟨fr_tr (sm_fr (n := h 160 22) S93) p1 (Int.le_refl _), fun k w => ?_⟩, fun y => ⟨(p3 y).1, (p3 y).2.1, by have := (p3 y).2.2.1; have := cc_sm S93; have := S93.2.2.1; omega, by rw [← s22]; exact (p3 y).2.2.2⟩⟩
    rw [(p2 k w).1, (p2 k w).2, n93 182 k (by omega), n93 190 k (by omega), (S91.2.1 k).1, (S91.2.1 k).2]
    exact ⟨rfl, rfl⟩
  have K : ∀ s, Pc (qj_X13_member_170 nn l1 l2 (h 160 28) s (h 160 28) h93) (PN h) := fun s => by
    have q := pc_170 (nn := nn) (l1 := l1) (l2 := l2) (s0 := s) (h := h93) (by omega) (by omega)
    rw [b28] at q
    exact pc_imp q J
  exact pc_if (fun _ => K 1) (fun _ => K 2)
theorem pc_25 {l1 : Int} (h0 : 0 ≤ h 160 22) : Pc (qj_X13_member_25 nn l1 h) (PN h) := by
  unfold qj_X13_member_25
  refine pc_sv pc_isWord ?_; intro u98 b98
  refine pc_if (fun _ => ?_) (fun _ => ?_)
  · refine pc_se ?_; intro u100 e100
    have S := sx_type e100
    exact pc_imp (pc_75 (by have := S.1.1; omega)) (fun r p => pn_sx S p)
  · refine pc_xl ?_; intro h101 E101
    have S1 := sx_fd E101 (by decide)
    refine pc_xl ?_; intro h102 E102
    have S2 := sx_tr S1 (sx_fd E102 (by decide))
    refine pc_xl ?_; intro h104 E104
    have S4 := sx_tr S2 (sx_fd E104 (by decide))
    have w : h104 160 23 = h 160 23 := by rw [E104, up_n (by decide), E102, up_n (by decide), E101, up_n (by decide)]
    refine pc_add (by omega) ?_; intro v106 e106
    refine pc_xl ?_; intro h107 E107
    have S := sx_tr S4 (sx_cur E107 (by omega))
    exact pc_imp (pc_75 (by have := S.1.1; omega)) (fun r p => pn_sx S p)
theorem pc_member (h0 : 0 ≤ h 160 22) : Pc (qf_X13_member nn h) (PN h) := by
  unfold qf_X13_member
  refine pc_sv pc_isWord ?_; intro u111 b111
  refine pc_if (fun _ => pc_25 h0) (fun _ => ?_)
  refine pc_add (by omega) ?_; intro v113 e113
  refine pc_xl ?_; intro h114 E114
  have S := sx_cur E114 (by omega)
  exact pc_imp (pc_25 (by have := S.1.1; omega)) (fun r p => pn_sx S p)
/-- the bodies of all members, while there is no FAULT -/
def MP (h : ms_M) : Prop := GI h ∧ 0 ≤ h 160 22 ∧ (h 160 9 = 0 → (∀ m, (m = 0 ∨ m = 1) → MB m h) ∧ (0 < h 160 22 → 0 < h 160 28) ∧ CC h ≤ h 160 23)
theorem mp_sx (a : SX h r) (P : MP h) : MP r := ⟨gi_sm a.1 P.1, by rw [a.1.1]; exact P.2.1, fun y => ⟨fun m hm x hx hs => by
  rw [a.2.2] at hx
  rw [(a.2.1 x).1] at hs
  obtain ⟨b, ⟨hb, hc⟩, T⟩ := (P.2.2 (a.1.2.1 y)).1 m hm x hx hs
  rw [(a.2.1 x).2, a.1.1]
  exact ⟨b, ⟨hb, fun y z1 z2 z3 => by rw [(a.2.1 y).2]; exact hc y z1 (by rw [a.2.2] at z2; exact z2) (by rw [(a.2.1 y).1] at z3; exact z3)⟩, te_sm a.1 (te_sk T).2.1 T⟩, by rw [a.1.1, a.2.2]; exact (P.2.2 (a.1.2.1 y)).2.1, by have := (P.2.2 (a.1.2.1 y)).2.2; have := cc_sm a.1; have := a.1.2.2.1; omega⟩⟩
theorem mp_pn (p : PN h r) (P : MP h) : MP r := by
  obtain ⟨⟨p1, p2⟩, p3⟩ := p
  have c1 := p1.1
  have P21 := P.2.1
  refine ⟨p1.2.2 P.1, by omega, fun y => ?_⟩
  obtain ⟨⟨h28, q1⟩, q2, q3, q4⟩ := p3 y
  refine ⟨fun m hm x hx hs => ?_, fun _ => by omega, by have := (P.2.2 (c1.2.1 y)).2.2; omega⟩
  by_cases w : (x : Int) = h 160 28
  · have w2 : x = (h 160 28).toNat := by omega
    rw [← w2] at q2
    rcases q2 with q2 | q2
    · exact absurd q2 hs
    · exact ⟨r 160 22, ⟨Int.le_refl _, fun y z1 z2 _ => by exfalso; omega⟩, q2 m hm⟩
  · rw [(p2 x w).1] at hs
    obtain ⟨b, ⟨hb, hc⟩, T⟩ := (P.2.2 (c1.2.1 y)).1 m hm x (by omega) hs
    rw [(p2 x w).2]
    refine ⟨b, ⟨by omega, fun y2 z1 z2 z3 => ?_⟩, te_F p1 (te_sk T).2.1 hb T⟩
    by_cases w2 : (y2 : Int) = h 160 28
    · have w3 : y2 = (h 160 28).toNat := by omega
      rw [w3] at z3 ⊢
      rcases q4 with q4 | q4
      · exact absurd q4 z3
      · omega
    · rw [(p2 y2 w2).1] at z3
      rw [(p2 y2 w2).2]; exact hc y2 z1 (by omega) z3
theorem mg_143 {qk : ms_M → Option ms_M} (ih : ∀ g : ms_M, MP g → Pc (qk g) MP) (P : MP h) : Pc (qj_X13_program_143 nn qk h) MP := by
  unfold qj_X13_program_143
  refine pc_se ?_; intro u2 e2
  have S := sx_sign e2
  refine pc_if (fun _ => pc_ret (mp_sx S P)) (fun _ => ?_)
  refine pc_rA ?_; intro _ _ v6 _
  exact pc_if (fun _ => ih u2 (mp_sx S P)) (fun _ => pc_ret (mp_sx S P))
theorem mg_116 {qk : ms_M → Option ms_M} (ih : ∀ g : ms_M, MP g → Pc (qk g) MP) : ∀ (k : Nat) (h : ms_M), MP h → Pc (qw_X13_program_116 nn qk k h) MP := by
  intro k
  induction k with
  | zero => intros; exact pc_none
  | succ k ih2 =>
    intro h P
    unfold qw_X13_program_116
    refine pc_if (fun _ => mg_143 ih P) (fun _ => ?_)
    refine pc_se ?_; intro u12 _
    refine pc_if (fun _ => mg_143 ih P) (fun _ => ?_)
    refine pc_se ?_; intro u14 e14
    exact ih2 u14 (mp_pn (pc_member P.2.1 u14 e14) P)
theorem mg_72 {qk : ms_M → Option ms_M} (ih : ∀ g : ms_M, MP g → Pc (qk g) MP) {l1 l2 : Int} (P : MP h) : Pc (qj_X13_program_72 nn qk l1 l2 h) MP := by
  unfold qj_X13_program_72
  refine pc_if (fun _ => ?_) (fun _ => pc_ret P)
  refine pc_wA ?_; intro _ _ h20 E20
  have S20 := sx_ar E20 (by decide)
  refine pc_wA ?_; intro _ _ h23 E23
  have S23 := sx_tr S20 (sx_ar E23 (by decide))
  refine pc_xl ?_; intro v25 _
  refine pc_xl ?_; intro h26 E26
  have S26 := sx_tr S23 (sx_fd E26 (by decide))
  refine pc_se ?_; intro u28 e28
  exact mg_116 ih nn u28 (mp_sx (sx_tr S26 (sx_sign e28)) P)
theorem sx_word {v : Int} (e : qf_X13_word nn v h = some r) : SX h r := ⟨(pc_word r e).1, fun k => ⟨(ff_X13_word nn) _ e 182 k (nw_ar rfl k), (ff_X13_word nn) _ e 190 k (nw_ar rfl k)⟩, (ff_X13_word nn) _ e 160 28 rfl⟩
theorem mg_25 : ∀ (k : Nat) (h : ms_M), MP h → Pc (qw_X13_program_25 nn k h) MP := by
  intro k
  induction k with
  | zero => intros; exact pc_none
  | succ k ih =>
    intro h P
    unfold qw_X13_program_25
    refine pc_se ?_; intro u31 e31
    refine pc_se ?_; intro u33 e33
    have S := sx_tr (sx_word e31) (sx_name e33)
    refine pc_if (fun _ => mg_72 ih (mp_sx S P)) (fun _ => ?_)
    refine pc_sv pc_isWord ?_; intro u37 b37
    refine pc_if (fun _ => mg_72 ih (mp_sx S P)) (fun _ => ?_)
    refine pc_add (by omega) ?_; intro v39 e39
    refine pc_xl ?_; intro h40 E40
    have S2 := sx_tr S (sx_cur E40 (by omega))
    refine pc_se ?_; intro u42 e42
    exact mg_72 ih (mp_sx (sx_tr S2 (sx_name e42)) P)
/-- what program tells of the tree -/
theorem mg_program : Pc (qf_X13_program nn h) MP := by
  unfold qf_X13_program
  refine pc_xl ?_; intro h45 E45
  refine pc_xl ?_; intro h46 E46
  refine pc_xl ?_; intro h47 E47
  refine pc_xl ?_; intro h48 E48
  refine pc_xl ?_; intro h49 E49
  have q22 : h49 160 22 = 0 := by rw [E49, up_n (by decide), E48, up_s]
  have q28 : h49 160 28 = 0 := by rw [E49, up_n (by decide), E48, up_n (by decide), E47, up_n (by decide), E46, up_s]
  refine mg_25 nn h49 ⟨fun x hx => by exfalso; omega, by omega, fun _ => ⟨fun _ _ x hx => by exfalso; omega, fun w => by exfalso; omega, ?_⟩⟩
  have q23 : h49 160 23 = 0 := by rw [E49, up_s]
  unfold CC
  rw [q22, q23]
  exact Int.le_refl 0
end
end
section
section
variable {nn : Nat} {Q : Int × ms_M → Prop}
/-- behind a FAULT nothing is made -/
theorem cg_dead (hn : 1000000 ≤ nn) {h : ms_M} (z : ¬ h 160 9 = 0) (q : Q (-1, h)) : Ok_ (qw_X13_compile_110 nn nn 0 h) Q := by
  have E : Ok_ (qj_X13_compile_136 nn h) Q := by
    unfold qj_X13_compile_136
    exact ok_if (fun C => absurd C z) (fun _ => ok_ret q)
  obtain ⟨k, hk⟩ : ∃ k, nn = k + 1 := ⟨nn - 1, by omega⟩
  rw [hk] at E ⊢
  unfold qw_X13_compile_110
  exact ok_if (fun _ => E) (fun _ => ok_if (fun _ => E) (fun C => absurd (Decidable.not_not.1 C) z))
theorem yb_0 {t : ms_M} (V : VS_ t) (G : GI t) (hm : 0 < t 160 22 → 0 < t 160 28) : YB t t ∧ MI t t := by
  have g := gF_160_24 V
  refine ⟨⟨V, fun _ _ _ => rfl, fun x hx => ?_, fun _ _ => rfl, fun x hx => ?_⟩, fun _ x hx => ?_⟩
  · rw [(G x hx).1]; omega
  · have w := (G x hx).2.1
    have m := hm (by omega)
    exact ⟨fun k => by rw [(w k).1]; exact m, fun k => by rw [(w (by omega)).2]; omega, fun k => by rw [(w (by omega)).2]; omega⟩
  · obtain ⟨a, b, _⟩ := G x hx
    rw [a]
    refine ⟨by omega, fun w => ?_⟩
    rw [(b (by omega)).1]; omega
theorem yb_hw {t h : ms_M} (Y : YB t h) (H : HW_ t) : HW_ h := hw_eq H (fun k => Y.2.1 164 k (nw_ar rfl k)) (fun k => Y.2.1 165 k (nw_ar rfl k)) (fun k => Y.2.1 188 k (nw_ar rfl k)) (fun k => Y.2.1 189 k (nw_ar rfl k))
/-- the reference's compile as far as bodies; hM: what is made then -/
theorem cg_97 (hn : 1000000 ≤ nn) (hM : ∀ {t g : ms_M}, QT2 t → MP t → EK_ t → PO_ t → t 160 9 = 0 → QB t g → g 160 9 = 0 → Ok_ (qw_X13_compile_110 nn nn 0 g) Q) (hF : ∀ {g : ms_M}, VS_ g → HW_ g → Q (-1, g)) {h : ms_M} (T : QT2 h) (P : MP h) (E : EK_ h) (O : PO_ h) : Ok_ (qj_X13_compile_97 nn h) Q := by
  unfold qj_X13_compile_97
  refine ok_if (fun C => cg_dead hn C (hF T.1.1 T.1.2.1)) (fun C => ?_)
  have C : h 160 9 = 0 := Decidable.not_not.1 C
  have Y := yb_0 T.1.1 P.1 (P.2.2 C).2.1
  refine ok_sv (vb_bodies hn (sf_of T C) ((P.2.2 C).1 1 (.inr rfl)) Y.1 Y.2) ?_; intro u B
  by_cases z : u 160 9 = 0
  · exact hM T P E O C B z
  · exact cg_dead hn z (hF B.1.1 (yb_hw B.1 T.1.2.1))
theorem sx_heads {h r : ms_M} (e : qf_X13_heads nn h = some r) (C : h 160 9 = 0) : SX h r := by
  have F : ∀ c k, nw_F wl_X13_heads wf_X13_heads false false c k = true → r c k = h c k := fun c k w => (ff_X13_heads nn) _ e c k w
  exact ⟨⟨F 160 22 rfl, fun _ => C, by rw [F 160 23 rfl]; exact Int.le_refl _, sm_ar F rfl⟩, fun k => ⟨F 182 k (nw_ar rfl k), F 190 k (nw_ar rfl k)⟩, F 160 28 rfl⟩
theorem cg_86 (hn : 1000000 ≤ nn) (hM : ∀ {t g : ms_M}, QT2 t → MP t → EK_ t → PO_ t → t 160 9 = 0 → QB t g → g 160 9 = 0 → Ok_ (qw_X13_compile_110 nn nn 0 g) Q) (hF : ∀ {g : ms_M}, VS_ g → HW_ g → Q (-1, g)) {h : ms_M} (X : QX_ h) (P : MP h) : Ok_ (qj_X13_compile_86 nn h) Q := by
  unfold qj_X13_compile_86
  refine ok_if (fun C => cg_97 hn hM hF ⟨qh_of X C, fun y => absurd y C⟩ P X.2.1 X.2.2.1) (fun C => ?_)
  have C : h 160 9 = 0 := Decidable.not_not.1 C
  obtain ⟨u, eu, H⟩ := vt_heads hn X.1 ⟨X.2.2.1.2.2, X.2.2.2.1⟩ X.2.2.2.2
  rw [eu, mx_svs]
  have T : TS_ h u := ts_fr (fun c k w => (ff_X13_heads nn) _ eu c k w) rfl
  exact cg_97 hn hM hF H (mp_sx (sx_heads eu C) P) (ek_ts X.2.1 T) (po_ts X.2.2.1 T)
theorem cg_43 (hn : 1000000 ≤ nn) (hM : ∀ {t g : ms_M}, QT2 t → MP t → EK_ t → PO_ t → t 160 9 = 0 → QB t g → g 160 9 = 0 → Ok_ (qw_X13_compile_110 nn nn 0 g) Q) (hF : ∀ {g : ms_M}, VS_ g → HW_ g → Q (-1, g)) {l1 : Int} (r1 : 0 ≤ l1 ∧ l1 ≤ 3000) : ∀ (k : Nat) (l2 : Int) {h : ms_M}, VS_ h → HW_ h → h 160 9 = 0 → (0 ≤ l2 ∧ l2 ≤ 3000) → 3001 - l2 < (k : Int) → Ok_ (qw_X13_compile_43 nn k l1 l2 h) Q := by
  intro k
  induction k with
  | zero => intro l2 h V W z r hm; exfalso; omega
  | succ k ih =>
    intro l2 h V W z r hm
    unfold qw_X13_compile_43
    refine ok_if (fun C => ?_) (fun C => ?_)
    · refine ok_xl ?_; intro h40 E40
      have V40 : VS_ h40 := by rw [E40]; exact wF_160_3 V (by omega)
      have W40 : HW_ h40 := by rw [E40]; exact hw_up V W rfl
      have z40 : h40 160 9 = 0 := by rw [E40, up_n (by omega)]; exact z
      obtain ⟨u, eu, T⟩ := tz_ok hn V40 W40.1
      rw [eu, mx_svs]
      have zu : u 160 9 = h40 160 9 := (ff_X13_tokenize nn) _ eu 160 9 rfl
      have w1 : ∀ m, u 188 m = h40 188 m := fun m => (ff_X13_tokenize nn) _ eu 188 m (nw_ar rfl m)
      have w2 : ∀ m, u 189 m = h40 189 m := fun m => (ff_X13_tokenize nn) _ eu 189 m (nw_ar rfl m)
      refine ok_if (fun C2 => absurd (by omega) C2) (fun C2 => ?_)
      obtain ⟨v, ev, X⟩ := vx_X13_program hn T (fun m hm => by rw [w1, w2]; exact W40.2 m hm) (by omega)
      rw [ev, mx_svs]
      exact cg_86 hn hM hF X (mg_program v ev)
    · refine ok_rd (by omega) (gA_161 V) ?_; intro v49 e49 a49 b49
      refine ok_wA (by omega) ?_; intro h50 E50
      have V50 : VS_ h50 := by rw [E50]; exact wA_162 V (by omega)
      have W50 : HW_ h50 := by rw [E50]; exact hw_up V W rfl
      have z50 : h50 160 9 = 0 := by rw [E50, up_n (by omega)]; exact z
      refine ok_add (by omega) ?_; intro v51 e51
      exact ih v51 V50 W50 z50 (by omega) (by omega)
theorem cg_compile (hn : 1000000 ≤ nn) (hM : ∀ {t g : ms_M}, QT2 t → MP t → EK_ t → PO_ t → t 160 9 = 0 → QB t g → g 160 9 = 0 → Ok_ (qw_X13_compile_110 nn nn 0 g) Q) (hF : ∀ {g : ms_M}, VS_ g → HW_ g → Q (-1, g)) {h : ms_M} (V : VS_ h) (W : HW_ h) : Ok_ (qf_X13_compile nn h) Q := by
  have g := gF_160_1 V
  unfold qf_X13_compile
  refine ok_xl ?_; intro h54 E54
  have V54 : VS_ h54 := by rw [E54]; exact wF_160_1 V (by omega)
  have W54 : HW_ h54 := by rw [E54]; exact hw_up V W rfl
  refine ok_xl ?_; intro h55 E55
  have V55 : VS_ h55 := by rw [E55]; exact wF_160_9 V54 (by omega)
  have W55 : HW_ h55 := by rw [E55]; exact hw_up V54 W54 rfl
  have z55 : h55 160 9 = 0 := by rw [E55, up_s]
  refine ok_xl ?_; intro h56 E56
  have V56 : VS_ h56 := by rw [E56]; exact wF_160_10 V55 (by omega)
  have W56 : HW_ h56 := by rw [E56]; exact hw_up V55 W55 rfl
  have z56 : h56 160 9 = 0 := by rw [E56, up_n (by omega)]; exact z55
  refine ok_if (fun C => cg_43 hn hM hF (by omega) nn 0 V56 W56 z56 (by omega) (by omega)) (fun C => ?_)
  refine ok_xl ?_; intro h57 E57
  have V57 : VS_ h57 := by rw [E57]; exact wF_160_9 V56 (by omega)
  have W57 : HW_ h57 := by rw [E57]; exact hw_up V56 W56 rfl
  refine ok_xl ?_; intro h58 E58
  have V58 : VS_ h58 := by rw [E58]; exact wF_160_10 V57 (by omega)
  have W58 : HW_ h58 := by rw [E58]; exact hw_up V57 W57 rfl
  exact ok_ret (hF V58 W58)
end
end
section
section
variable {KT : Int} {nn : Nat} {h : ms_M}
/-- the words of the frames are types -/
def W12 (KT n : Int) (h : ms_M) : Prop := ∀ x : Nat, (x : Int) < n → 0 ≤ h 212 x ∧ h 212 x < KT
/-- what is written of a frame's words -/
def S12 (h r : ms_M) : Prop := ∀ c k : Nat, c ≠ 212 → ¬ (c = 160 ∧ k = 79) → r c k = h c k
theorem s12_w {z : ms_M} {j : Nat} {v : Int} (E : z = up_M h 212 j v) : S12 h z := fun c k h1 _ => by rw [E]; exact up_n (by omega)
theorem s12_tr {g r : ms_M} (a : S12 h g) (b : S12 g r) : S12 h r := fun c k h1 h2 => by rw [b c k h1 h2, a c k h1 h2]
theorem w12_w {z : ms_M} {n j v : Int} (W : W12 KT n h) (E : z = up_M h 212 j.toNat v) (hj : j = n) (h0 : 0 ≤ n) (hv : 0 ≤ v ∧ v < KT) : W12 KT (n + 1) z := fun x hx => by
  by_cases q : x = j.toNat
  · rw [q, E, up_s]; exact hv
  · rw [E, up_n (by omega)]; exact W x (by omega)
theorem vm_192 {l3 : Int} (r3 : 0 ≤ l3 ∧ l3 ≤ 1) : ∀ (k : Nat) (l4 : Int) (h : ms_M), VS_ h → W12 KT (h 160 79 + l3 + h 160 50 + l4) h → (∀ x : Nat, (x : Int) < h 160 70 → 0 ≤ h 207 x ∧ h 207 x < KT) → h 160 79 + l3 + h 160 50 + h 160 70 ≤ 60000 → (0 ≤ l4 ∧ l4 ≤ h 160 70) → 3001 - l4 < (k : Int) → Ok_ (qw_X13_frame_192 nn k l3 l4 h) (fun r => VS_ r ∧ r 160 79 = h 160 79 + l3 + h 160 50 + h 160 70 ∧ W12 KT (r 160 79) r ∧ S12 h r) := by
  intro k
  induction k with
  | zero => intro l4 h V W T hb r4 hm; have := gF_160_70 V; exfalso; omega
  | succ k ih =>
    intro l4 h V W T hb r4 hm
    have g70 := gF_160_70 V
    have g50 := gF_160_50 V
    have g79 := gF_160_79 V
    unfold qw_X13_frame_192
    refine ok_if (fun C => ?_) (fun C => ?_)
    · refine ok_add (by omega) ?_; intro v4 e4
      refine ok_add (by omega) ?_; intro v6 e6
      refine ok_add (by omega) ?_; intro v7 e7
      refine ok_xl ?_; intro h8 E8
      have q : h8 160 79 = v7 := by rw [E8]; exact up_s
      refine ok_ret ⟨by rw [E8]; exact wF_160_79 V (by omega), by omega, fun x hx => ?_, fun c k h1 h2 => by rw [E8]; exact up_n h2⟩
      rw [E8, up_n (by omega)]; exact W x (by omega)
    · refine ok_add (by omega) ?_; intro v11 e11
      refine ok_add (by omega) ?_; intro v13 e13
      refine ok_add (by omega) ?_; intro v14 e14
      refine ok_rd (by omega) (gA_207 V) ?_; intro v16 e16 a16 b16
      have t16 := T l4.toNat (by omega)
      rw [← e16] at t16
      refine ok_wA (by omega) ?_; intro h17 E17
      have V17 : VS_ h17 := by rw [E17]; exact wA_212 V (by omega)
      have S17 := s12_w E17
      have q70 := S17 160 70 (by decide) (by decide)
      have q50 := S17 160 50 (by decide) (by decide)
      have q79 : h17 160 79 = h 160 79 := by rw [E17]; exact up_n (by omega)
      refine ok_add (by omega) ?_; intro v18 e18
      refine ok_im (ih v18 h17 V17 ?_ ?_ (by omega) (by omega) (by omega)) (fun r p => ⟨p.1, by have := p.2.1; omega, p.2.2.1, s12_tr S17 p.2.2.2⟩)
      · have := w12_w W E17 (by omega) (by omega) t16
        rw [q79, q50, e18]
        rw [show h 160 79 + l3 + h 160 50 + (l4 + 1) = h 160 79 + l3 + h 160 50 + l4 + 1 by omega]
        exact this
      · intro x hx
        rw [S17 207 x (by decide) (by omega)]; exact T x (by omega)
theorem vm_153 (hn : 1000000 ≤ nn) {l3 : Int} (r3 : 0 ≤ l3 ∧ l3 ≤ 1) : ∀ (k : Nat) (l4 : Int) (h : ms_M), VS_ h → W12 KT (h 160 79 + l3 + l4) h → (∀ x : Nat, (x : Int) < h 160 70 → 0 ≤ h 207 x ∧ h 207 x < KT) → (∀ x : Nat, (x : Int) < h 160 50 → 0 ≤ h 197 x ∧ h 197 x < KT) → h 160 79 + l3 + h 160 50 + h 160 70 ≤ 60000 → (0 ≤ l4 ∧ l4 ≤ h 160 50) → 3001 - l4 < (k : Int) → Ok_ (qw_X13_frame_153 nn k l3 l4 h) (fun r => VS_ r ∧ r 160 79 = h 160 79 + l3 + h 160 50 + h 160 70 ∧ W12 KT (r 160 79) r ∧ S12 h r) := by
  intro k
  induction k with
  | zero => intro l4 h V W T U hb r4 hm; have := gF_160_50 V; exfalso; omega
  | succ k ih =>
    intro l4 h V W T U hb r4 hm
    have g70 := gF_160_70 V
    have g50 := gF_160_50 V
    have g79 := gF_160_79 V
    unfold qw_X13_frame_153
    refine ok_if (fun C => ?_) (fun C => ?_)
    · refine vm_192 r3 nn 0 h V (fun x hx => W x (by omega)) T hb (by omega) (by omega)
    · refine ok_add (by omega) ?_; intro v23 e23
      refine ok_add (by omega) ?_; intro v24 e24
      refine ok_rd (by omega) (gA_197 V) ?_; intro v26 e26 a26 b26
      have t26 := U l4.toNat (by omega)
      rw [← e26] at t26
      refine ok_wA (by omega) ?_; intro h27 E27
      have V27 : VS_ h27 := by rw [E27]; exact wA_212 V (by omega)
      have S27 := s12_w E27
      have q70 := S27 160 70 (by decide) (by decide)
      have q50 := S27 160 50 (by decide) (by decide)
      have q79 : h27 160 79 = h 160 79 := by rw [E27]; exact up_n (by omega)
      refine ok_add (by omega) ?_; intro v28 e28
      refine ok_im (ih v28 h27 V27 ?_ ?_ ?_ (by omega) (by omega) (by omega)) (fun r p => ⟨p.1, by have := p.2.1; omega, p.2.2.1, s12_tr S27 p.2.2.2⟩)
      · have := w12_w W E27 (by omega) (by omega) t26
        rw [q79, e28, show h 160 79 + l3 + (l4 + 1) = h 160 79 + l3 + l4 + 1 by omega]
        exact this
      · intro x hx
        rw [S27 207 x (by decide) (by omega)]; exact T x (by omega)
      · intro x hx
        rw [S27 197 x (by decide) (by omega)]; exact U x (by omega)
/-- what the frames keep: places apart, words within those written (or none was written for want of room) -/
def FI (KT : Int) (h : ms_M) : Prop := W12 KT (h 160 79) h ∧ (∀ f : Nat, (f : Int) < h 160 78 → (h 209 f ≤ h 160 79 ∧ h 210 f ≤ h 160 72 + 1 ∧ h 211 f ≤ h 160 71) ∧ (h 209 f + h 210 f + h 211 f ≤ h 160 79 ∨ 60000 < h 160 79 + 1 + h 160 72 + h 160 71)) ∧ (∀ f g : Nat, (f : Int) < h 160 78 → (g : Int) < h 160 78 → h 208 f = h 208 g → f = g)
/-- behind a frame -/
def QF (KT : Int) (h r : ms_M) : Prop := VS_ r ∧ FI KT r ∧ (h 160 78 ≤ r 160 78 ∧ r 160 78 ≤ h 160 78 + 1) ∧ (h 160 79 ≤ r 160 79 ∧ r 160 79 ≤ h 160 79 + 1 + h 160 50 + h 160 70)
theorem vm_80 (hn : 1000000 ≤ nn) {l2 s0 : Int} (V : VS_ h) (r2 : 0 ≤ l2 ∧ l2 ≤ 6199) (rs : 0 ≤ s0 ∧ s0 ≤ 1) (T : ∀ x : Nat, (x : Int) < h 160 70 → 0 ≤ h 207 x ∧ h 207 x < KT) (U : ∀ x : Nat, (x : Int) < h 160 50 → 0 ≤ h 197 x ∧ h 197 x < KT) (hs : h 160 50 ≤ h 160 72 ∧ h 160 70 ≤ h 160 71) (h52 : 8 ≤ h 160 52 ∧ 8 + 2 * h 160 52 < KT ∧ KT ≤ 40) (W : W12 KT (h 160 79) h) (hf : (s0 = 1 ∧ h 160 53 = 0) ∨ (s0 = 0 ∧ ¬ h 160 53 = 0)) : Ok_ (qj_X13_frame_80 nn l2 s0 h) (fun r => VS_ r ∧ W12 KT (r 160 79) r ∧ (h 160 79 ≤ r 160 79 ∧ r 160 79 ≤ h 160 79 + 1 + h 160 50 + h 160 70) ∧ (r 210 l2.toNat = h 160 50 + s0 ∧ r 211 l2.toNat = h 160 70) ∧ (h 160 79 + r 210 l2.toNat + r 211 l2.toNat ≤ r 160 79 ∨ 60000 < h 160 79 + 1 + h 160 72 + h 160 71) ∧ (∀ c k : Nat, c ≠ 212 → ¬ (c = 160 ∧ k = 79) → ¬ ((c = 210 ∨ c = 211) ∧ k = l2.toNat) → r c k = h c k)) := by
  have g70 := gF_160_70 V
  have g50 := gF_160_50 V
  have g79 := gF_160_79 V
  have g71 := gF_160_71 V
  have g72 := gF_160_72 V
  unfold qj_X13_frame_80
  refine ok_add (by omega) ?_; intro v32 e32
  refine ok_wA (by omega) ?_; intro h33 E33
  have V33 : VS_ h33 := by rw [E33]; exact wA_210 V (by omega)
  have n33 : ∀ c k : Nat, ¬ (c = 210 ∧ k = l2.toNat) → h33 c k = h c k := fun c k w => by rw [E33]; exact up_n w
  have p70 := n33 160 70 (by omega)
  refine ok_wA (by omega) ?_; intro h36 E36
  have V36 : VS_ h36 := by rw [E36]; exact wA_211 V33 (by omega)
  have n36 : ∀ c k : Nat, ¬ ((c = 210 ∨ c = 211) ∧ k = l2.toNat) → h36 c k = h c k := fun c k w => by rw [E36, up_n (by omega), n33 c k (by omega)]
  have q70 := n36 160 70 (by omega)
  have q50 := n36 160 50 (by omega)
  have q79 := n36 160 79 (by omega)
  have q53 := n36 160 53 (by omega)
  have q52 := n36 160 52 (by omega)
  have z10 : h36 210 l2.toNat = v32 := by rw [E36, up_n (by omega), E33, up_s]
  have z11 : h36 211 l2.toNat = h 160 70 := by rw [E36, up_s, p70]
  have W36 : W12 KT (h36 160 79) h36 := fun x hx => by rw [n36 212 x (by omega)]; exact W x (by omega)
  have T36 : ∀ x : Nat, (x : Int) < h36 160 70 → 0 ≤ h36 207 x ∧ h36 207 x < KT := fun x hx => by rw [n36 207 x (by omega)]; exact T x (by omega)
  have U36 : ∀ x : Nat, (x : Int) < h36 160 50 → 0 ≤ h36 197 x ∧ h36 197 x < KT := fun x hx => by rw [n36 197 x (by omega)]; exact U x (by omega)
  refine ok_add (by omega) ?_; intro v39 e39
  refine ok_add (by omega) ?_; intro v40 e40
  refine ok_add (by omega) ?_; intro v42 e42
  have K : ∀ r g : ms_M, S12 h36 g → (VS_ r ∧ r 160 79 = g 160 79 + s0 + g 160 50 + g 160 70 ∧ W12 KT (r 160 79) r ∧ S12 g r) → g 160 79 = h36 160 79 → VS_ r ∧ W12 KT (r 160 79) r ∧ (h 160 79 ≤ r 160 79 ∧ r 160 79 ≤ h 160 79 + 1 + h 160 50 + h 160 70) ∧ (r 210 l2.toNat = h 160 50 + s0 ∧ r 211 l2.toNat = h 160 70) ∧ (h 160 79 + r 210 l2.toNat + r 211 l2.toNat ≤ r 160 79 ∨ 60000 < h 160 79 + 1 + h 160 72 + h 160 71) ∧ (∀ c k : Nat, c ≠ 212 → ¬ (c = 160 ∧ k = 79) → ¬ ((c = 210 ∨ c = 211) ∧ k = l2.toNat) → r c k = h c k) := fun r g S P q => by
    obtain ⟨p1, p2, p3, p4⟩ := P
    have S2 := s12_tr S p4
    have s50 := S 160 50 (by decide) (by decide)
    have s70 := S 160 70 (by decide) (by decide)
    have a10 : r 210 l2.toNat = v32 := by rw [S2 210 _ (by decide) (by omega)]; exact z10
    have a11 : r 211 l2.toNat = h 160 70 := by rw [S2 211 _ (by decide) (by omega)]; exact z11
    exact ⟨p1, p3, by omega, by omega, .inl (by omega), fun c k h1 h2 h3 => by rw [S2 c k h1 h2, n36 c k h3]⟩
  refine ok_if (fun C => ?_) (fun C => ?_)
  · refine ok_if (fun C2 => ?_) (fun C2 => ?_)
    · exact ok_im (vm_153 hn rs nn 0 h36 V36 (fun x hx => W36 x (by omega)) T36 U36 (by omega) (by omega) (by omega)) (fun r p => K r h36 (fun _ _ _ _ => rfl) p rfl)
    · refine ok_mul (by omega) ?_; intro v47 e47
      refine ok_add (by omega) ?_; intro v48 e48
      refine ok_wA (by omega) ?_; intro h49 E49
      have V49 : VS_ h49 := by rw [E49]; exact wA_212 V36 (by omega)
      have S49 := s12_w E49
      have s79 : h49 160 79 = h36 160 79 := by rw [E49]; exact up_n (by omega)
      have s50 := S49 160 50 (by decide) (by decide)
      have s70 := S49 160 70 (by decide) (by decide)
      have W49 := w12_w W36 E49 rfl (by omega) (by omega)
      exact ok_im (vm_153 hn rs nn 0 h49 V49 (fun x hx => W49 x (by omega)) (fun x hx => by rw [S49 207 x (by decide) (by omega)]; exact T36 x (by omega)) (fun x hx => by rw [S49 197 x (by decide) (by omega)]; exact U36 x (by omega)) (by omega) (by omega) (by omega)) (fun r p => K r h49 S49 p s79)
  · exact ok_ret ⟨V36, W36, by omega, by omega, .inr (by omega), fun c k h1 h2 h3 => n36 c k h3⟩
/-- what a frame wants of the code's state -/
def FP (KT : Int) (h : ms_M) : Prop := (∀ x : Nat, (x : Int) < h 160 70 → 0 ≤ h 207 x ∧ h 207 x < KT) ∧ (∀ x : Nat, (x : Int) < h 160 50 → 0 ≤ h 197 x ∧ h 197 x < KT) ∧ (h 160 50 ≤ h 160 72 ∧ h 160 70 ≤ h 160 71) ∧ (8 ≤ h 160 52 ∧ 8 + 2 * h 160 52 < KT ∧ KT ≤ 40)
theorem vm_51 (hn : 1000000 ≤ nn) {l1 l2 : Int} {h0 : ms_M} (V : VS_ h) (r1 : 0 ≤ l1 ∧ l1 ≤ 1000000000) (r2 : 0 ≤ l2 ∧ l2 < h 160 78) (P : FP KT h) (W : W12 KT (h 160 79) h) (F : ∀ f : Nat, (f : Int) < h 160 78 → f ≠ l2.toNat → (h 209 f ≤ h 160 79 ∧ h 210 f ≤ h 160 72 + 1 ∧ h 211 f ≤ h 160 71) ∧ (h 209 f + h 210 f + h 211 f ≤ h 160 79 ∨ 60000 < h 160 79 + 1 + h 160 72 + h 160 71)) (D : ∀ f g : Nat, (f : Int) < h 160 78 → (g : Int) < h 160 78 → f ≠ l2.toNat → g ≠ l2.toNat → h 208 f = h 208 g → f = g) (N : ∀ f : Nat, (f : Int) < h 160 78 → f ≠ l2.toNat → ¬ h 208 f = l1) (h78 : h0 160 78 ≤ h 160 78 ∧ h 160 78 ≤ h0 160 78 + 1) (h79 : h 160 79 = h0 160 79 ∧ h 160 50 = h0 160 50 ∧ h 160 70 = h0 160 70) : Ok_ (qj_X13_frame_51 nn l1 l2 h) (QF KT h0) := by
  have g78 := gF_160_78 V
  have g79 := gF_160_79 V
  have g53 := gF_160_53 V
  unfold qj_X13_frame_51
  refine ok_wA (by omega) ?_; intro h53 E53
  have V53 : VS_ h53 := by rw [E53]; exact wA_208 V (by omega)
  have n53 : ∀ c k : Nat, ¬ (c = 208 ∧ k = l2.toNat) → h53 c k = h c k := fun c k w => by rw [E53]; exact up_n w
  have p79 := n53 160 79 (by omega)
  refine ok_wA (by omega) ?_; intro h56 E56
  have V56 : VS_ h56 := by rw [E56]; exact wA_209 V53 (by omega)
  have n56 : ∀ c k : Nat, ¬ ((c = 208 ∨ c = 209) ∧ k = l2.toNat) → h56 c k = h c k := fun c k w => by rw [E56, up_n (by omega), n53 c k (by omega)]
  have z8 : h56 208 l2.toNat = l1 := by rw [E56, up_n (by omega), E53, up_s]
  have z9 : h56 209 l2.toNat = h 160 79 := by rw [E56, up_s, p79]
  have f79 := n56 160 79 (by omega)
  have f78 := n56 160 78 (by omega)
  have f72 := n56 160 72 (by omega)
  have f71 := n56 160 71 (by omega)
  have f70 := n56 160 70 (by omega)
  have f50 := n56 160 50 (by omega)
  have f52 := n56 160 52 (by omega)
  have f53 := n56 160 53 (by omega)
  have P3 := P.2.2.1
  have P4 := P.2.2.2
  have K : ∀ s0 : Int, (0 ≤ s0 ∧ s0 ≤ 1) → ((s0 = 1 ∧ h56 160 53 = 0) ∨ (s0 = 0 ∧ ¬ h56 160 53 = 0)) → Ok_ (qj_X13_frame_80 nn l2 s0 h56) (QF KT h0) := fun s0 rs hf => by
    refine ok_im (vm_80 hn V56 (by omega) rs (fun x hx => by rw [n56 207 x (by omega)]; exact P.1 x (by omega)) (fun x hx => by rw [n56 197 x (by omega)]; exact P.2.1 x (by omega)) (by omega) (by omega) (fun x hx => by rw [n56 212 x (by omega)]; exact W x (by omega)) hf) (fun r p => ?_)
    obtain ⟨p1, p2, p3, p4, p5, p6⟩ := p
    have k78 : r 160 78 = h 160 78 := by rw [p6 160 78 (by decide) (by decide) (by omega)]; exact f78
    have k72 : r 160 72 = h 160 72 := by rw [p6 160 72 (by decide) (by decide) (by omega)]; exact f72
    have k71 : r 160 71 = h 160 71 := by rw [p6 160 71 (by decide) (by decide) (by omega)]; exact f71
    have m8 : ∀ f : Nat, f ≠ l2.toNat → r 208 f = h 208 f := fun f w => by rw [p6 208 f (by decide) (by omega) (by omega), n56 208 f (by omega)]
    have m8l : r 208 l2.toNat = l1 := by rw [p6 208 _ (by decide) (by omega) (by omega)]; exact z8
    refine ⟨p1, ⟨p2, fun f hf => ?_, fun f g hf hg e => ?_⟩, by omega, by omega⟩
    · rw [k72, k71]
      by_cases w : f = l2.toNat
      · have a9 : r 209 l2.toNat = h 160 79 := by rw [p6 209 _ (by decide) (by omega) (by omega)]; exact z9
        rw [w, a9]
        omega
      · have b := F f (by omega) w
        rw [p6 209 f (by decide) (by omega) (by omega), p6 210 f (by decide) (by omega) (by omega), p6 211 f (by decide) (by omega) (by omega), n56 209 f (by omega), n56 210 f (by omega), n56 211 f (by omega)]
        omega
    · by_cases w : f = l2.toNat
      · by_cases w2 : g = l2.toNat
        · omega
        · rw [w, m8l, m8 g w2] at e
          exact absurd e.symm (N g (by omega) w2)
      · by_cases w2 : g = l2.toNat
        · rw [w2, m8l, m8 f w] at e
          exact absurd e (N f (by omega) w)
        · rw [m8 f w, m8 g w2] at e
          exact D f g (by omega) (by omega) w w2 e
  exact ok_if (fun C => K 1 (by omega) (.inl ⟨rfl, C⟩)) (fun C => K 0 (by omega) (.inr ⟨rfl, C⟩))
theorem vm_7 (hn : 1000000 ≤ nn) {l1 : Int} (V : VS_ h) (r1 : 0 ≤ l1 ∧ l1 ≤ 1000000000) (h78 : h 160 78 ≤ 6199) (P : FP KT h) (I : FI KT h) : ∀ (k : Nat) (l2 l3 : Int), (0 ≤ l3 ∧ l3 ≤ h 160 78) → ((l2 = h 160 78 ∧ ∀ f : Nat, (f : Int) < l3 → ¬ h 208 f = l1) ∨ (0 ≤ l2 ∧ l2 < h 160 78 ∧ h 208 l2.toNat = l1)) → 6201 - l3 < (k : Int) → Ok_ (qw_X13_frame_7 nn k l1 l2 l3 h) (QF KT h) := by
  intro k
  have g78 := gF_160_78 V
  induction k with
  | zero => intro l2 l3 r3 L hm; exfalso; omega
  | succ k ih =>
    intro l2 l3 r3 L hm
    unfold qw_X13_frame_7
    refine ok_if (fun C => ?_) (fun C => ?_)
    · refine ok_if (fun C2 => ?_) (fun C2 => ?_)
      · obtain ⟨x1, x2, x3⟩ : 0 ≤ l2 ∧ l2 < h 160 78 ∧ h 208 l2.toNat = l1 := by
          rcases L with ⟨x1, _⟩ | x
          · exact absurd x1 C2
          · exact x
        refine vm_51 hn V r1 ⟨x1, x2⟩ P I.1 (fun f hf _ => I.2.1 f hf) (fun f g hf hg _ _ e => I.2.2 f g hf hg e) (fun f hf w e => w (I.2.2 f l2.toNat hf (by omega) (by rw [e, x3]))) (by omega) ⟨rfl, rfl, rfl⟩
      · have C2 : l2 = h 160 78 := Decidable.not_not.1 C2
        have N : ∀ f : Nat, (f : Int) < h 160 78 → ¬ h 208 f = l1 := by
          rcases L with ⟨_, x⟩ | ⟨_, x, _⟩
          · exact fun f hf => x f (by omega)
          · exfalso; omega
        refine ok_add (by omega) ?_; intro v62 e62
        refine ok_xl ?_; intro h63 E63
        have V63 : VS_ h63 := by rw [E63]; exact wF_160_78 V (by omega)
        have n63 : ∀ c k : Nat, ¬ (c = 160 ∧ k = 78) → h63 c k = h c k := fun c k w => by rw [E63]; exact up_n w
        have q78 : h63 160 78 = v62 := by rw [E63]; exact up_s
        have q79 := n63 160 79 (by omega)
        have q70 := n63 160 70 (by omega)
        have q50 := n63 160 50 (by omega)
        have q72 := n63 160 72 (by omega)
        have q71 := n63 160 71 (by omega)
        have q52 := n63 160 52 (by omega)
        refine vm_51 hn V63 r1 (by omega) ⟨fun x hx => by rw [n63 207 x (by omega)]; exact P.1 x (by omega), fun x hx => by rw [n63 197 x (by omega)]; exact P.2.1 x (by omega), by have := P.2.2.1; omega, by have := P.2.2.2; omega⟩ (fun x hx => by rw [n63 212 x (by omega)]; exact I.1 x (by omega)) (fun f hf w => ?_) (fun f g hf hg w w2 e => ?_) (fun f hf w => ?_) (by omega) ⟨q79, q50, q70⟩
        · rw [n63 209 f (by omega), n63 210 f (by omega), n63 211 f (by omega), q79, q72, q71]
          exact I.2.1 f (by omega)
        · rw [n63 208 f (by omega), n63 208 g (by omega)] at e
          exact I.2.2 f g (by omega) (by omega) e
        · rw [n63 208 f (by omega)]; exact N f (by omega)
    · refine ok_rd (by omega) (gA_208 V) ?_; intro v66 e66 a66 b66
      refine ok_if (fun C2 => ?_) (fun C2 => ?_)
      · refine ok_add (by omega) ?_; intro v67 e67
        refine ih l2 v67 (by omega) ?_ (by omega)
        rcases L with ⟨x1, x2⟩ | x
        · refine .inl ⟨x1, fun f hf => ?_⟩
          by_cases w : (f : Int) = l3
          · rw [show f = l3.toNat by omega, ← e66]; exact C2
          · exact x2 f (by omega)
        · exact .inr x
      · have C2 : v66 = l1 := Decidable.not_not.1 C2
        refine ok_add (by omega) ?_; intro v68 e68
        exact ih l3 v68 (by omega) (.inr ⟨by omega, by omega, by rw [← e66]; exact C2⟩) (by omega)
/-- a frame is written down -/
theorem vm_frame (hn : 1000000 ≤ nn) {a1 : Int} (V : VS_ h) (r1 : 0 ≤ a1 ∧ a1 ≤ 1000000000) (h78 : h 160 78 ≤ 6199) (P : FP KT h) (I : FI KT h) : Ok_ (qf_X13_frame nn a1 h) (QF KT h) := by
  have g78 := gF_160_78 V
  unfold qf_X13_frame
  exact vm_7 hn V r1 h78 P I nn _ 0 (by omega) (.inl ⟨rfl, fun f hf => by exfalso; omega⟩) (by omega)
end
end
section
section
variable {KT : Int} {nn : Nat} {h h0 r : ms_M}
theorem fi_eq (I : FI KT h) (A : ∀ c k : Nat, 208 ≤ c → c ≤ 212 → r c k = h c k) (e71 : r 160 71 = h 160 71) (e72 : r 160 72 = h 160 72) (e78 : r 160 78 = h 160 78) (e79 : r 160 79 = h 160 79) : FI KT r := by
  refine ⟨fun x hx => ?_, fun f hf => ?_, fun f g hf hg e => ?_⟩
  · rw [A 212 x (by decide) (by decide)]; exact I.1 x (by omega)
  · rw [A 209 f (by decide) (by decide), A 210 f (by decide) (by decide), A 211 f (by decide) (by decide), e71, e72, e79]
    exact I.2.1 f (by omega)
  · rw [A 208 f (by decide) (by decide), A 208 g (by decide) (by decide)] at e
    exact I.2.2 f g (by omega) (by omega) e
theorem fp_eq (P : FP KT h) (A : ∀ k : Nat, r 207 k = h 207 k ∧ r 197 k = h 197 k) (e50 : r 160 50 = h 160 50) (e70 : r 160 70 = h 160 70) (e71 : r 160 71 = h 160 71) (e72 : r 160 72 = h 160 72) (e52 : r 160 52 = h 160 52) : FP KT r := ⟨fun x hx => by rw [(A x).1]; exact P.1 x (by omega), fun x hx => by rw [(A x).2]; exact P.2.1 x (by omega), by have := P.2.2.1; omega, by have := P.2.2.2; omega⟩
/-- the jumps with label l are taken out; the first n, which have others, stay -/
def QS (KT l n : Int) (h r : ms_M) : Prop := VS_ r ∧ FI KT r ∧ (n ≤ r 160 87 ∧ r 160 87 ≤ h 160 87) ∧ (∀ i : Nat, (i : Int) < n → r 217 i = h 217 i ∧ r 218 i = h 218 i) ∧ (∀ i : Nat, n ≤ (i : Int) → (i : Int) < r 160 87 → ¬ r 218 i = l ∧ ∃ j : Nat, (n ≤ (j : Int) ∧ (j : Int) < h 160 87) ∧ r 218 i = h 218 j ∧ r 217 i = h 217 j) ∧ ((r 160 78 = h 160 78 ∧ r 160 79 = h 160 79) ∨ (r 160 87 + 1 ≤ h 160 87 ∧ (h 160 78 ≤ r 160 78 ∧ r 160 78 ≤ h 160 78 + 1) ∧ (h 160 79 ≤ r 160 79 ∧ r 160 79 ≤ h 160 79 + 1 + h 160 50 + h 160 70)))
/-- the loop's state -/
def SL (l n l4 l5 : Int) (h0 h : ms_M) : Prop := VS_ h ∧ (∀ c k : Nat, c ≠ 206 → c ≠ 217 → c ≠ 218 → h c k = h0 c k) ∧ (∀ i : Nat, (i : Int) < l4 → (i : Int) < n → h 217 i = h0 217 i ∧ h 218 i = h0 218 i) ∧ (∀ i : Nat, n ≤ (i : Int) → (i : Int) < l4 → ¬ h 218 i = l ∧ ∃ j : Nat, (n ≤ (j : Int) ∧ (j : Int) < h0 160 87) ∧ h 218 i = h0 218 j ∧ h 217 i = h0 217 j) ∧ (∀ i : Nat, l5 ≤ (i : Int) → h 217 i = h0 217 i ∧ h 218 i = h0 218 i) ∧ (0 ≤ l4 ∧ l4 ≤ l5 ∧ l5 ≤ h0 160 87) ∧ ((l5 ≤ n ∧ l4 = l5) ∨ (n ≤ l5 ∧ n ≤ l4))
theorem sl_code {l n l4 l5 : Int} {z : ms_M} {j : Nat} {v : Int} (S : SL l n l4 l5 h0 h) (E : z = up_M h 206 j v) (hv : 0 ≤ v ∧ v ≤ 255) : SL l n l4 l5 h0 z := by
  obtain ⟨s1, s2, s3, s4, s5, s6, s7⟩ := S
  have n1 : ∀ c k : Nat, c ≠ 206 → z c k = h c k := fun c k w => by rw [E]; exact up_n (by omega)
  refine ⟨by rw [E]; exact wA_206 s1 hv, fun c k a b d => by rw [n1 c k a, s2 c k a b d], fun i a b => ?_, fun i a b => ?_, fun i a => ?_, s6, s7⟩
  · rw [n1 217 i (by decide), n1 218 i (by decide)]; exact s3 i a b
  · rw [n1 218 i (by decide), n1 217 i (by decide)]; exact s4 i a b
  · rw [n1 217 i (by decide), n1 218 i (by decide)]; exact s5 i a
/-- one jump more is passed over -/
theorem sl_next {l n l4 l5 : Int} (S : SL l n l4 l5 h0 h) (h5 : l5 < h0 160 87) (hl : h 218 l5.toNat = l) (hN : ∀ i : Nat, (i : Int) < n → ¬ h0 218 i = l) : SL l n l4 (l5 + 1) h0 h := by
  obtain ⟨s1, s2, s3, s4, s5, s6, s7⟩ := S
  refine ⟨s1, s2, s3, s4, fun i a => s5 i (by omega), by omega, ?_⟩
  have q : n ≤ l5 := by
    by_cases w : n ≤ l5
    · exact w
    · exfalso
      have := (s5 l5.toNat (by omega)).2
      exact hN l5.toNat (by omega) (by rw [← this]; exact hl)
  omega
theorem sl_keep {l n l4 l5 : Int} {g z : ms_M} (S : SL l n l4 l5 h0 h) (h5 : l5 < h0 160 87) (hl : ¬ h 218 l5.toNat = l) (E1 : g = up_M h 217 l4.toNat (h 217 l5.toNat)) (E2 : z = up_M g 218 l4.toNat (h 218 l5.toNat)) : SL l n (l4 + 1) (l5 + 1) h0 z := by
  obtain ⟨s1, s2, s3, s4, s5, s6, s7⟩ := S
  have g87 : h0 160 87 ≤ 3000 := by rw [← s2 160 87 (by decide) (by decide) (by decide)]; exact (gF_160_87 s1).2
  have a7 := gA_217 s1 l5.toNat (by omega)
  have a8 := gA_218 s1 l5.toNat (by omega)
  have n1 : ∀ c k : Nat, ¬ (c = 217 ∧ k = l4.toNat) → ¬ (c = 218 ∧ k = l4.toNat) → z c k = h c k := fun c k w w2 => by rw [E2, up_n w2, E1, up_n w]
  have z7 : z 217 l4.toNat = h 217 l5.toNat := by rw [E2, up_n (by omega), E1, up_s]
  have z8 : z 218 l4.toNat = h 218 l5.toNat := by rw [E2, up_s]
  have V1 : VS_ g := by rw [E1]; exact wA_217 s1 a7
  have V2 : VS_ z := by rw [E2]; exact wA_218 V1 a8
  have o5 := s5 l5.toNat (by omega)
  refine ⟨V2, fun c k a b d => by rw [n1 c k (by omega) (by omega), s2 c k a b d], fun i a b => ?_, fun i a b => ?_, fun i a => ?_, by omega, by omega⟩
  · by_cases w : i = l4.toNat
    · rw [w, z7, z8, o5.1, o5.2, show l5.toNat = l4.toNat by omega]; exact ⟨rfl, rfl⟩
    · rw [n1 217 i (by omega) (by omega), n1 218 i (by omega) (by omega)]; exact s3 i (by omega) b
  · by_cases w : i = l4.toNat
    · rw [w, z7, z8]
      exact ⟨hl, l5.toNat, ⟨by omega, by omega⟩, o5.2, o5.1⟩
    · rw [n1 217 i (by omega) (by omega), n1 218 i (by omega) (by omega)]; exact s4 i a (by omega)
  · rw [n1 217 i (by omega) (by omega), n1 218 i (by omega) (by omega)]; exact s5 i (by omega)
theorem vm_st8 (hn : 1000000 ≤ nn) {l1 l2 n : Int} (r2 : 0 ≤ l2 ∧ l2 ≤ 1000000000) (hN : ∀ i : Nat, (i : Int) < n → ¬ h0 218 i = l1) (hn2 : 0 ≤ n ∧ n ≤ h0 160 87) (h78 : h0 160 78 ≤ 6199) (P : FP KT h0) (I : FI KT h0) : ∀ (k : Nat) (l3 l4 l5 : Int) (h : ms_M), SL l1 n l4 l5 h0 h → ((l3 = 0 ∧ l4 ≤ l5) ∨ (l3 = 1 ∧ l4 + 1 ≤ l5)) → 3001 - l5 < (k : Int) → Ok_ (qw_X13_stands_8 nn k l1 l2 l3 l4 l5 h) (QS KT l1 n h0) := by
  intro k
  induction k with
  | zero => intro l3 l4 l5 h S r3 hm; have := S.2.2.2.2.2.1; have e := S.2.1 160 87 (by decide) (by decide) (by decide); have := gF_160_87 S.1; exfalso; omega
  | succ k ih =>
    intro l3 l4 l5 h S r3 hm
    have e87 := S.2.1 160 87 (by decide) (by decide) (by decide)
    have g87 := gF_160_87 S.1
    have s6 := S.2.2.2.2.2.1
    unfold qw_X13_stands_8
    refine ok_if (fun C => ?_) (fun C => ?_)
    · obtain ⟨s1, s2, s3, s4, s5, s6, s7⟩ := S
      refine ok_xl ?_; intro g E
      have n1 : ∀ c k : Nat, ¬ (c = 160 ∧ k = 87) → g c k = h c k := fun c k w => by rw [E]; exact up_n w
      have V2 : VS_ g := by rw [E]; exact wF_160_87 s1 (by omega)
      have q87 : g 160 87 = l4 := by rw [E]; exact up_s
      have m : ∀ c k : Nat, c ≠ 206 → c ≠ 217 → c ≠ 218 → ¬ (c = 160 ∧ k = 87) → g c k = h0 c k := fun c k a b d w => by rw [n1 c k w, s2 c k a b d]
      have q78 := m 160 78 (by decide) (by decide) (by decide) (by decide)
      have q79 := m 160 79 (by decide) (by decide) (by decide) (by decide)
      have q50 := m 160 50 (by decide) (by decide) (by decide) (by decide)
      have q70 := m 160 70 (by decide) (by decide) (by decide) (by decide)
      have q71 := m 160 71 (by decide) (by decide) (by decide) (by decide)
      have q72 := m 160 72 (by decide) (by decide) (by decide) (by decide)
      have q52 := m 160 52 (by decide) (by decide) (by decide) (by decide)
      have Ig : FI KT g := fi_eq I (fun c k a b => m c k (by omega) (by omega) (by omega) (by omega)) q71 q72 q78 q79
      have Pg : FP KT g := fp_eq P (fun k => ⟨m 207 k (by decide) (by decide) (by decide) (by omega), m 197 k (by decide) (by decide) (by decide) (by omega)⟩) q50 q70 q71 q72 q52
      have A1 : ∀ i : Nat, (i : Int) < n → g 217 i = h0 217 i ∧ g 218 i = h0 218 i := fun i a => by rw [n1 217 i (by omega), n1 218 i (by omega)]; exact s3 i (by omega) a
      have A2 : ∀ i : Nat, n ≤ (i : Int) → (i : Int) < l4 → ¬ g 218 i = l1 ∧ ∃ j : Nat, (n ≤ (j : Int) ∧ (j : Int) < h0 160 87) ∧ g 218 i = h0 218 j ∧ g 217 i = h0 217 j := fun i a b => by rw [n1 217 i (by omega), n1 218 i (by omega)]; exact s4 i a b
      refine ok_if (fun C2 => ?_) (fun C2 => ?_)
      · unfold qj_X13_stands_154
        exact ok_ret ⟨V2, Ig, by omega, A1, fun i a b => A2 i a (by omega), .inl ⟨q78, q79⟩⟩
      · obtain ⟨u, eu, F⟩ := vm_frame hn V2 r2 (by omega) Pg Ig
        rw [eu, mx_svs]
        unfold qj_X13_stands_154
        have f : ∀ c k, nw_F wl_X13_frame wf_X13_frame false false c k = true → u c k = g c k := fun c k w => (ff_X13_frame nn) _ eu c k w
        have w87 : u 160 87 = g 160 87 := f 160 87 rfl
        have w7 : ∀ i : Nat, u 217 i = g 217 i := fun i => f 217 i (nw_ar rfl i)
        have w8 : ∀ i : Nat, u 218 i = g 218 i := fun i => f 218 i (nw_ar rfl i)
        obtain ⟨F1, F2, F3, F4⟩ := F
        refine ok_ret ⟨F1, F2, by omega, fun i a => by rw [w7, w8]; exact A1 i a, fun i a b => by rw [w7, w8]; exact A2 i a (by omega), .inr ⟨by omega, by omega, by omega⟩⟩
    · refine ok_rd (by omega) (gA_218 S.1) ?_; intro v7 e7 a7 b7
      refine ok_if (fun C2 => ?_) (fun C2 => ?_)
      · refine ok_rd (by omega) (gA_217 S.1) ?_; intro v10 e10 a10 b10
        refine ok_wA (by omega) ?_; intro h11 E11
        have V11 : VS_ h11 := by rw [E11]; exact wA_217 S.1 (by omega)
        refine ok_rd (by omega) (gA_218 V11) ?_; intro v14 e14 a14 b14
        have e14b : v14 = h 218 l5.toNat := by rw [e14, E11, up_n (by omega)]
        refine ok_wA (by omega) ?_; intro h15 E15
        rw [e10] at E11
        rw [e14b] at E15
        have S15 := sl_keep S (by omega) (by rw [← e7]; exact C2) E11 E15
        refine ok_add (by omega) ?_; intro v16 e16
        refine ok_add (by omega) ?_; intro v17 e17
        rw [← e16, ← e17] at S15
        exact ih l3 v16 v17 h15 S15 (by omega) (by omega)
      · have C2 : v7 = l1 := Decidable.not_not.1 C2
        have Sn := sl_next S (by omega) (by rw [← e7]; exact C2) hN
        refine ok_rd (by omega) (gA_217 S.1) ?_; intro v19 e19 a19 b19
        refine ok_sub (by omega) ?_; intro v20 e20
        refine ok_rd (by omega) (gA_217 S.1) ?_; intro v22 e22 a22 b22
        refine ok_add (by omega) ?_; intro v23 e23
        refine ok_if (fun C3 => ?_) (fun C3 => ?_)
        · refine ok_add (by omega) ?_; intro v24 e24
          rw [← e24] at Sn
          exact ih 1 l4 v24 h Sn (.inr ⟨rfl, by omega⟩) (by omega)
        · refine ok_rd (by omega) (gA_217 S.1) ?_; intro v27 e27 a27 b27
          refine ok_add (by omega) ?_; intro v28 e28
          refine ok_xl ?_; intro v29 _
          refine ok_and (by decide) ?_; intro v30 a30 b30
          refine ok_wA (by omega) ?_; intro h31 E31
          have S31 := sl_code Sn E31 (by omega)
          refine ok_rd (by omega) (gA_217 S31.1) ?_; intro v34 e34 a34 b34
          have e34b : v34 = h 217 l5.toNat := by rw [e34, E31, up_n (by omega)]
          refine ok_add (by omega) ?_; intro v35 e35
          refine ok_and (by decide) ?_; intro v36 a36 b36
          refine ok_wA (by omega) ?_; intro h37 E37
          have S37 := sl_code S31 E37 (by omega)
          refine ok_add (by omega) ?_; intro v38 e38
          rw [← e38] at S37
          exact ih 1 l4 v38 h37 S37 (.inr ⟨rfl, by omega⟩) (by omega)
/-- a label stands here -/
theorem vm_stands (hn : 1000000 ≤ nn) {l a n : Int} (V : VS_ h) (ra : 0 ≤ a ∧ a ≤ 1000000000) (hN : ∀ i : Nat, (i : Int) < n → ¬ h 218 i = l) (hn2 : 0 ≤ n ∧ n ≤ h 160 87) (h78 : h 160 78 ≤ 6199) (P : FP KT h) (I : FI KT h) : Ok_ (qf_X13_stands nn l a h) (QS KT l n h) := by
  have g87 := gF_160_87 V
  unfold qf_X13_stands
  exact vm_st8 hn ra hN hn2 h78 P I nn 0 0 0 h ⟨V, fun _ _ _ _ _ => rfl, fun _ _ _ => ⟨rfl, rfl⟩, fun i a b => by exfalso; omega, fun _ _ => ⟨rfl, rfl⟩, by omega, by omega⟩ (.inl ⟨rfl, by omega⟩) (by omega)
end
end
section
def ml_ : List Nat := [196, 197, 199, 200, 201, 202, 203, 204, 205, 206, 207, 208, 209, 210, 211, 212, 213, 214, 215, 216, 217, 218, 219, 220]
def mf_ : List (Nat × Nat) := [(160, 50), (160, 54), (160, 57), (160, 62), (160, 64), (160, 66), (160, 68), (160, 70), (160, 71), (160, 72), (160, 78), (160, 79), (160, 84), (160, 87), (160, 88)]
section
variable {nn : Nat} {s h r z : ms_M}
/-- what making a method leaves -/
def MF (s h : ms_M) : Prop := ∀ c k, nw_F ml_ mf_ false false c k = true → h c k = s c k
theorem mf_fr {L : List Nat} {LF : List (Nat × Nat)} (B : MF s h) (F : ∀ c k, nw_F L LF false false c k = true → r c k = h c k) (hs : (L.all (fun x => ml_.contains x) && (LF.all (fun x => mf_.contains x) && ((!false || false) && (!false || false)))) = true) : MF s r := fun c k w => by rw [F c k (nw_sub hs c k w)]; exact B c k w
theorem mf_f {c k : Nat} {v : Int} (B : MF s h) (hc : mf_.contains (c, k) = true) : MF s (up_M h c k v) := fun c2 k2 w => by
  have n := nw_nf hc c2 k2 w
  rw [up_n n]; exact B c2 k2 w
theorem mf_a {c k : Nat} {v : Int} (B : MF s h) (hc : ml_.contains c = true) : MF s (up_M h c k v) := fun c2 k2 w => by
  have n := nw_ne hc c2 k2 w
  rw [up_n (by omega)]; exact B c2 k2 w
/-- the words of frames are paid for by the code: three bytes a jump -/
def DW (h : ms_M) : Prop := 3 * h 160 87 ≤ h 160 68 ∧ 3 * (h 160 79 + (1 + h 160 72 + h 160 71) * h 160 87) ≤ (1 + h 160 72 + h 160 71) * (h 160 68 + 3 * h 160 84)
/-- the code that is being made -/
def CK (s h : ms_M) : Prop := VS_ h ∧ MF s h ∧ FP (24 + 2 * s 160 24) h ∧ FI (24 + 2 * s 160 24) h ∧ (∀ i : Nat, (i : Int) < h 160 87 → h 218 i ≤ h 160 88) ∧ (∀ f : Nat, (f : Int) < h 160 84 → 0 ≤ h 216 f ∧ h 216 f < 24 + 2 * s 160 24) ∧ DW h
/-- all but this stays as it was -/
theorem dw_put {X j w l a b c : Int} (hX : 0 ≤ X) (h1 : 3 * j ≤ l) (h2 : 3 * (w + X * j) ≤ X * (l + 3 * c)) (hl : l ≤ a) : 3 * (w + X * j) ≤ X * (a + 3 * c) := by
  have : X * (l + 3 * c) ≤ X * (a + 3 * c) := Int.mul_le_mul_of_nonneg_left (by omega) hX
  omega
theorem dw_X {X Y j w l c : Int} (hX : 0 ≤ X) (hXY : X ≤ Y) (hc : 0 ≤ c) (h1 : 3 * j ≤ l) (h2 : 3 * (w + X * j) ≤ X * (l + 3 * c)) : 3 * (w + Y * j) ≤ Y * (l + 3 * c) := by
  have e : (Y - X) * (3 * j) ≤ (Y - X) * (l + 3 * c) := Int.mul_le_mul_of_nonneg_left (by omega) (by omega)
  have a1 : (Y - X) * (3 * j) = 3 * (Y * j) - 3 * (X * j) := by
    rw [Int.sub_mul, Int.mul_left_comm Y 3 j, Int.mul_left_comm X 3 j]
  have a2 : (Y - X) * (l + 3 * c) = Y * (l + 3 * c) - X * (l + 3 * c) := Int.sub_mul _ _ _
  omega
theorem dw_jump {X j w l c : Int} (h2 : 3 * (w + X * j) ≤ X * (l + 3 * c)) : 3 * (w + X * (j + 1)) ≤ X * (l + 3 + 3 * c) := by
  have a1 : X * (j + 1) = X * j + X := by rw [Int.mul_add, Int.mul_one]
  have a2 : X * (l + 3 + 3 * c) = X * (l + 3 * c) + X * 3 := by rw [← Int.mul_add]; congr 1; omega
  omega
theorem dw_stand {X j k w v l c : Int} (hX : 0 ≤ X) (h2 : 3 * (w + X * j) ≤ X * (l + 3 * c)) (hj : k + 1 ≤ j) (hv : v ≤ w + X) : 3 * (v + X * k) ≤ X * (l + 3 * c) := by
  have a1 : X * (k + 1) ≤ X * j := Int.mul_le_mul_of_nonneg_left hj hX
  have a2 : X * (k + 1) = X * k + X := by rw [Int.mul_add, Int.mul_one]
  omega
theorem dw_less {X j k w l c : Int} (hX : 0 ≤ X) (h2 : 3 * (w + X * j) ≤ X * (l + 3 * c)) (hj : k ≤ j) : 3 * (w + X * k) ≤ X * (l + 3 * c) := by
  have a1 : X * k ≤ X * j := Int.mul_le_mul_of_nonneg_left hj hX
  omega
theorem dw_guard {X j w v l c : Int} (h2 : 3 * (w + X * j) ≤ X * (l + 3 * c)) (hv : v ≤ w + X) : 3 * (v + X * j) ≤ X * (l + 3 * (c + 1)) := by
  have a2 : X * (l + 3 * (c + 1)) = X * (l + 3 * c) + X * 3 := by rw [← Int.mul_add]; congr 1; omega
  omega
/-- a byte of code -/
theorem cm_put (hn : 1000000 ≤ nn) {a : Int} (C : CK s h) (ra : -2147483645 ≤ a ∧ a ≤ 3001) (h68 : h 160 68 ≤ 900000000) : Ok_ (qf_X13_put nn a h) (fun r => CK s r ∧ r 160 68 = h 160 68 + 1 ∧ (∀ c k : Nat, c ≠ 206 → ¬ (c = 160 ∧ k = 68) → r c k = h c k)) := by
  obtain ⟨V, B, P, I, J, H, D1, D2⟩ := C
  obtain ⟨u, eu, Vu, q68⟩ := vf_X13_put hn ra.1 ra.2 V h68
  have F : ∀ c k, nw_F wl_X13_put wf_X13_put false false c k = true → u c k = h c k := fun c k w => (ff_X13_put nn) _ eu c k w
  have N : ∀ c k : Nat, c ≠ 206 → ¬ (c = 160 ∧ k = 68) → u c k = h c k := fun c k w1 w2 => by
    refine F c k ?_
    simp only [nw_F, wl_X13_put, wf_X13_put, Bool.and_eq_true, Bool.not_eq_true', Bool.not_false, Bool.true_or, and_true]
    refine ⟨?_, ?_⟩
    · rw [List.contains_eq_mem, decide_eq_false_iff_not]
      intro w
      simp only [List.mem_cons, List.not_mem_nil, or_false] at w
      omega
    · rw [List.contains_eq_mem, decide_eq_false_iff_not]
      intro w
      simp only [List.mem_cons, Prod.mk.injEq, List.not_mem_nil, or_false] at w
      omega
  have e70 := N 160 70 (by decide) (by decide)
  have e71 := N 160 71 (by decide) (by decide)
  have e72 := N 160 72 (by decide) (by decide)
  have e78 := N 160 78 (by decide) (by decide)
  have e79 := N 160 79 (by decide) (by decide)
  have e84 := N 160 84 (by decide) (by decide)
  have e87 := N 160 87 (by decide) (by decide)
  have e88 := N 160 88 (by decide) (by decide)
  have g71 := gF_160_71 V
  have g72 := gF_160_72 V
  refine ⟨u, eu, ⟨Vu, mf_fr B F rfl, fp_eq P (fun k => ⟨N 207 k (by decide) (by omega), N 197 k (by decide) (by omega)⟩) (N 160 50 (by decide) (by decide)) e70 e71 e72 (N 160 52 (by decide) (by decide)), fi_eq I (fun c k a b => N c k (by omega) (by omega)) e71 e72 e78 e79, fun i hi => ?_, fun f hf => ?_, by omega, ?_⟩, q68, N⟩
  · rw [N 218 i (by decide) (by omega), e88]; exact J i (by omega)
  · rw [N 216 f (by decide) (by omega)]; exact H f (by omega)
  · rw [e79, e72, e71, e87, e84]
    exact dw_put (b := 0) (by omega) D1 D2 (by omega)
/-- a value on the pile -/
theorem cm_push {a : Int} (C : CK s h) (ra : 0 ≤ a ∧ a < 24 + 2 * s 160 24) (h70 : 0 ≤ h 160 70 ∧ h 160 70 ≤ 2999) : Ok_ (qf_X13_push nn a h) (fun r => CK s r ∧ r 160 70 = h 160 70 + 1 ∧ (∀ c k : Nat, c ≠ 207 → ¬ (c = 160 ∧ (k = 70 ∨ k = 71)) → r c k = h c k)) := by
  obtain ⟨V, B, P, I, J, H, D1, D2⟩ := C
  have g71 := gF_160_71 V
  have g72 := gF_160_72 V
  have g84 := gF_160_84 V
  have pK := P.2.2.2
  unfold qf_X13_push
  refine ok_wA (by omega) ?_; intro h3 E3
  have V3 : VS_ h3 := by rw [E3]; exact wA_207 V (by omega)
  have q70 : h3 160 70 = h 160 70 := by rw [E3]; exact up_n (by omega)
  refine ok_add (by omega) ?_; intro v5 e5
  refine ok_xl ?_; intro h6 E6
  have V6 : VS_ h6 := by rw [E6]; exact wF_160_70 V3 (by omega)
  have q6 : h6 160 70 = v5 := by rw [E6]; exact up_s
  have q671 : h6 160 71 = h 160 71 := by rw [E6, up_n (by decide), E3, up_n (by omega)]
  refine ok_ite ?_; intro v9 e9
  refine ok_xl ?_; intro h10 E10
  have V10 : VS_ h10 := by rw [E10]; exact wF_160_71 V6 (by omega)
  have N : ∀ c k : Nat, c ≠ 207 → ¬ (c = 160 ∧ (k = 70 ∨ k = 71)) → h10 c k = h c k := fun c k w1 w2 => by rw [E10, up_n (by omega), E6, up_n (by omega), E3, up_n (by omega)]
  have p70 : h10 160 70 = v5 := by rw [E10, up_n (by decide)]; exact q6
  have p71 : h10 160 71 = v9 := by rw [E10]; exact up_s
  have p7 : ∀ k : Nat, k ≠ (h 160 70).toNat → h10 207 k = h 207 k := fun k w => by rw [E10, up_n (by omega), E6, up_n (by omega), E3, up_n (by omega)]
  have p7n : h10 207 (h 160 70).toNat = a := by rw [E10, up_n (by omega), E6, up_n (by omega), E3, up_s]
  have B10 : MF s h10 := by rw [E10]; exact mf_f (by rw [E6]; exact mf_f (by rw [E3]; exact mf_a B rfl) rfl) rfl
  have e72 := N 160 72 (by decide) (by decide)
  have e78 := N 160 78 (by decide) (by decide)
  have e79 := N 160 79 (by decide) (by decide)
  have e84 := N 160 84 (by decide) (by decide)
  have e87 := N 160 87 (by decide) (by decide)
  have e88 := N 160 88 (by decide) (by decide)
  have e68 := N 160 68 (by decide) (by decide)
  have e50 := N 160 50 (by decide) (by decide)
  have e52 := N 160 52 (by decide) (by decide)
  have P3 := P.2.2.1
  refine ok_ret ⟨⟨V10, B10, ⟨fun x hx => ?_, fun x hx => ?_, by omega, by have := P.2.2.2; omega⟩, ⟨fun x hx => ?_, fun f hf => ?_, fun f g hf hg e => ?_⟩, fun i hi => ?_, fun f hf => ?_, by omega, ?_⟩, by omega, N⟩
  · by_cases w : x = (h 160 70).toNat
    · rw [w, p7n]; exact ra
    · rw [p7 x w]; exact P.1 x (by omega)
  · rw [N 197 x (by decide) (by omega)]; exact P.2.1 x (by omega)
  · rw [N 212 x (by decide) (by omega)]; exact I.1 x (by omega)
  · rw [N 209 f (by decide) (by omega), N 210 f (by decide) (by omega), N 211 f (by decide) (by omega)]
    have := I.2.1 f (by omega)
    omega
  · rw [N 208 f (by decide) (by omega), N 208 g (by decide) (by omega)] at e
    exact I.2.2 f g (by omega) (by omega) e
  · rw [N 218 i (by decide) (by omega), e88]; exact J i (by omega)
  · rw [N 216 f (by decide) (by omega)]; exact H f (by omega)
  · rw [e79, e72, p71, e87, e84, e68]
    exact dw_X (by omega) (by omega) (by omega) D1 D2
/-- values off the pile -/
theorem cm_pop {v : Int} (C : CK s h) (E : z = up_M h 160 70 v) (hv : 0 ≤ v ∧ v ≤ h 160 70) : CK s z ∧ z 160 70 = v ∧ (∀ c k : Nat, ¬ (c = 160 ∧ k = 70) → z c k = h c k) := by
  obtain ⟨V, B, P, I, J, H, D⟩ := C
  have g := gF_160_70 V
  have N : ∀ c k : Nat, ¬ (c = 160 ∧ k = 70) → z c k = h c k := fun c k w => by rw [E]; exact up_n w
  have q : z 160 70 = v := by rw [E]; exact up_s
  have e71 := N 160 71 (by decide)
  have e72 := N 160 72 (by decide)
  have e78 := N 160 78 (by decide)
  have e79 := N 160 79 (by decide)
  have e84 := N 160 84 (by decide)
  have e87 := N 160 87 (by decide)
  have e88 := N 160 88 (by decide)
  have e68 := N 160 68 (by decide)
  have e50 := N 160 50 (by decide)
  have e52 := N 160 52 (by decide)
  have P3 := P.2.2.1
  refine ⟨⟨by rw [E]; exact wF_160_70 V (by omega), by rw [E]; exact mf_f B rfl, ⟨fun x hx => ?_, fun x hx => ?_, by omega, by have := P.2.2.2; omega⟩, fi_eq I (fun c k a b => N c k (by omega)) e71 e72 e78 e79, fun i hi => ?_, fun f hf => ?_, ?_⟩, q, N⟩
  · rw [N 207 x (by omega)]; exact P.1 x (by omega)
  · rw [N 197 x (by omega)]; exact P.2.1 x (by omega)
  · rw [N 218 i (by omega), e88]; exact J i (by omega)
  · rw [N 216 f (by omega)]; exact H f (by omega)
  · unfold DW
    rw [e87, e68, e79, e72, e71, e84]; exact D
/-- a new label -/
theorem cm_label (C : CK s h) (h88 : h 160 88 ≤ 2000000000) : Ok_ (qf_X13_label nn h) (fun u => CK s u.2 ∧ u.1 = h 160 88 + 1 ∧ u.2 160 88 = h 160 88 + 1 ∧ (∀ c k : Nat, ¬ (c = 160 ∧ k = 88) → u.2 c k = h c k)) := by
  obtain ⟨V, B, P, I, J, H, D⟩ := C
  have g := gF_160_88 V
  unfold qf_X13_label
  refine ok_add (by omega) ?_; intro v2 e2
  refine ok_xl ?_; intro h3 E
  have N : ∀ c k : Nat, ¬ (c = 160 ∧ k = 88) → h3 c k = h c k := fun c k w => by rw [E]; exact up_n w
  have q : h3 160 88 = v2 := by rw [E]; exact up_s
  have e71 := N 160 71 (by decide)
  have e72 := N 160 72 (by decide)
  have e78 := N 160 78 (by decide)
  have e79 := N 160 79 (by decide)
  have e84 := N 160 84 (by decide)
  have e87 := N 160 87 (by decide)
  have e68 := N 160 68 (by decide)
  refine ok_ret ⟨⟨by rw [E]; exact wF_160_88 V (by omega), by rw [E]; exact mf_f B rfl, fp_eq P (fun k => ⟨N 207 k (by omega), N 197 k (by omega)⟩) (N 160 50 (by decide)) (N 160 70 (by decide)) e71 e72 (N 160 52 (by decide)), fi_eq I (fun c k a b => N c k (by omega)) e71 e72 e78 e79, fun i hi => ?_, fun f hf => ?_, ?_⟩, by show h3 160 88 = _; omega, by show h3 160 88 = _; omega, N⟩
  · have hi : (i : Int) < h3 160 87 := hi
    show h3 218 i ≤ h3 160 88
    have := J i (by omega)
    rw [N 218 i (by omega)]; omega
  · have hf : (f : Int) < h3 160 84 := hf
    show 0 ≤ h3 216 f ∧ h3 216 f < 24 + 2 * s 160 24
    rw [N 216 f (by omega)]; exact H f (by omega)
  · show DW h3
    unfold DW
    rw [e87, e68, e79, e72, e71, e84]; exact D
theorem pc_jump {a1 a2 : Int} : Pc (qf_X13_jump nn a1 a2 h) (fun r => (r 218 (h 160 87).toNat = a2 ∧ r 217 (h 160 87).toNat = h 160 68) ∧ ∀ i : Nat, i ≠ (h 160 87).toNat → r 217 i = h 217 i ∧ r 218 i = h 218 i) := by
  unfold qf_X13_jump
  refine pc_wA ?_; intro _ _ h4 E4
  refine pc_wA ?_; intro _ _ h7 E7
  refine pc_xl ?_; intro v9 _
  refine pc_xl ?_; intro h10 E10
  refine pc_se ?_; intro u12 e12
  refine pc_se ?_; intro u14 e14
  refine pc_se ?_; intro u16 e16
  have q87 : h4 160 87 = h 160 87 := by rw [E4]; exact up_n (by omega)
  rw [q87] at E7
  have f7 : ∀ i : Nat, u16 217 i = h10 217 i := fun i => ((show u16 217 i = u14 217 i from (ff_X13_put nn) _ e16 217 i (nw_ar rfl i)).trans (show u14 217 i = u12 217 i from (ff_X13_put nn) _ e14 217 i (nw_ar rfl i))).trans (show u12 217 i = h10 217 i from (ff_X13_put nn) _ e12 217 i (nw_ar rfl i))
  have f8 : ∀ i : Nat, u16 218 i = h10 218 i := fun i => ((show u16 218 i = u14 218 i from (ff_X13_put nn) _ e16 218 i (nw_ar rfl i)).trans (show u14 218 i = u12 218 i from (ff_X13_put nn) _ e14 218 i (nw_ar rfl i))).trans (show u12 218 i = h10 218 i from (ff_X13_put nn) _ e12 218 i (nw_ar rfl i))
  refine pc_ret ⟨⟨?_, ?_⟩, fun i w => ⟨?_, ?_⟩⟩
  · rw [f8, E10, up_n (by omega), E7, up_s]
  · rw [f7, E10, up_n (by omega), E7, up_n (by omega), E4, up_s]
  · rw [f7, E10, up_n (by omega), E7, up_n (by omega), E4, up_n (by omega)]
  · rw [f8, E10, up_n (by omega), E7, up_n (by omega), E4, up_n (by omega)]
/-- a jump -/
theorem cm_jump (hn : 1000000 ≤ nn) {a1 a2 : Int} (C : CK s h) (r1 : 153 ≤ a1 ∧ a1 ≤ 167) (r2 : 0 ≤ a2 ∧ a2 ≤ h 160 88) (h68 : h 160 68 ≤ 800000000) (h87 : h 160 87 ≤ 2999) : Ok_ (qf_X13_jump nn a1 a2 h) (fun r => CK s r ∧ r 160 68 = h 160 68 + 3 ∧ r 160 87 = h 160 87 + 1 ∧ r 218 (h 160 87).toNat = a2 ∧ (∀ i : Nat, (i : Int) < h 160 87 → r 217 i = h 217 i ∧ r 218 i = h 218 i) ∧ (∀ c k, nw_F wl_X13_jump wf_X13_jump false false c k = true → r c k = h c k)) := by
  obtain ⟨V, B, P, I, J, H, D1, D2⟩ := C
  have g87 := gF_160_87 V
  have g88 := gF_160_88 V
  obtain ⟨u, eu, Vu, q68, q87⟩ := vf_X13_jump hn r1.1 r1.2 r2.1 (by omega) V h68 h87
  have F : ∀ c k, nw_F wl_X13_jump wf_X13_jump false false c k = true → u c k = h c k := fun c k w => (ff_X13_jump nn) _ eu c k w
  obtain ⟨⟨p1, p2⟩, p3⟩ := pc_jump u eu
  have e71 := F 160 71 rfl
  have e72 := F 160 72 rfl
  have e78 := F 160 78 rfl
  have e79 := F 160 79 rfl
  have e84 := F 160 84 rfl
  have e88 := F 160 88 rfl
  have A : ∀ c k : Nat, 208 ≤ c → c ≤ 212 → u c k = h c k := fun c k a b => by
    have q : c = 208 ∨ c = 209 ∨ c = 210 ∨ c = 211 ∨ c = 212 := by omega
    rcases q with q | q | q | q | q
    · subst q; exact F _ _ (nw_ar rfl _)
    · subst q; exact F _ _ (nw_ar rfl _)
    · subst q; exact F _ _ (nw_ar rfl _)
    · subst q; exact F _ _ (nw_ar rfl _)
    · subst q; exact F _ _ (nw_ar rfl _)
  refine ⟨u, eu, ⟨Vu, mf_fr B F rfl, fp_eq P (fun k => ⟨F 207 k (nw_ar rfl k), F 197 k (nw_ar rfl k)⟩) (F 160 50 rfl) (F 160 70 rfl) e71 e72 (F 160 52 rfl), fi_eq I A e71 e72 e78 e79, fun i hi => ?_, fun f hf => ?_, by omega, ?_⟩, q68, q87, p1, fun i hi => p3 i (by omega), F⟩
  · rw [e88]
    by_cases w : i = (h 160 87).toNat
    · rw [w, p1]; exact r2.2
    · rw [(p3 i w).2]; exact J i (by omega)
  · rw [F 216 f (nw_ar rfl f)]; exact H f (by omega)
  · rw [e79, e72, e71, q87, e84, q68]
    exact dw_jump D2
/-- a label stands here -/
theorem cm_stands (hn : 1000000 ≤ nn) {l a n : Int} (C : CK s h) (ra : 0 ≤ a ∧ a ≤ 1000000000) (hN : ∀ i : Nat, (i : Int) < n → ¬ h 218 i = l) (hn2 : 0 ≤ n ∧ n ≤ h 160 87) (h78 : h 160 78 ≤ 6199) : Ok_ (qf_X13_stands nn l a h) (fun r => CK s r ∧ (n ≤ r 160 87 ∧ r 160 87 ≤ h 160 87) ∧ (h 160 78 ≤ r 160 78 ∧ r 160 78 ≤ h 160 78 + 1) ∧ (∀ i : Nat, (i : Int) < n → r 217 i = h 217 i ∧ r 218 i = h 218 i) ∧ (∀ i : Nat, n ≤ (i : Int) → (i : Int) < r 160 87 → ¬ r 218 i = l ∧ ∃ j : Nat, (n ≤ (j : Int) ∧ (j : Int) < h 160 87) ∧ r 218 i = h 218 j ∧ r 217 i = h 217 j) ∧ (∀ c k, nw_F wl_X13_stands wf_X13_stands false false c k = true → r c k = h c k)) := by
  obtain ⟨V, B, P, I, J, H, D1, D2⟩ := C
  have g87 := gF_160_87 V
  have g71 := gF_160_71 V
  have g72 := gF_160_72 V
  obtain ⟨u, eu, Vu, Iu, q1, q2, q3, q4⟩ := vm_stands hn V ra hN hn2 h78 P I
  have F : ∀ c k, nw_F wl_X13_stands wf_X13_stands false false c k = true → u c k = h c k := fun c k w => (ff_X13_stands nn) _ eu c k w
  have e71 := F 160 71 rfl
  have e72 := F 160 72 rfl
  have e84 := F 160 84 rfl
  have e88 := F 160 88 rfl
  have e68 := F 160 68 rfl
  have P3 := P.2.2.1
  refine ⟨u, eu, ⟨Vu, mf_fr B F rfl, fp_eq P (fun k => ⟨F 207 k (nw_ar rfl k), F 197 k (nw_ar rfl k)⟩) (F 160 50 rfl) (F 160 70 rfl) e71 e72 (F 160 52 rfl), Iu, fun i hi => ?_, fun f hf => ?_, by omega, ?_⟩, q1, by omega, q2, q3, F⟩
  · rw [e88]
    by_cases w : (i : Int) < n
    · rw [(q2 i w).2]; exact J i (by omega)
    · obtain ⟨_, j, j1, j2, _⟩ := q3 i (by omega) hi
      rw [j2]; exact J j j1.2
  · rw [F 216 f (nw_ar rfl f)]; exact H f (by omega)
  · rw [e72, e71, e84, e68]
    rcases q4 with q4 | q4
    · rw [q4.2]; exact dw_less (by omega) D2 q1.2
    · exact dw_stand (by omega) D2 q4.1 (by omega)
end
end

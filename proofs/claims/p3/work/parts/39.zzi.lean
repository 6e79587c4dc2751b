section
variable {nn : Nat} {t h : ms_M}
/-- what bodies keeps from one member to the next -/
def YB (t h : ms_M) : Prop := VS_ h ∧ BF t h ∧ (∀ x : Nat, (x : Int) < t 160 22 → h 174 x < 24 + 2 * t 160 24) ∧ ((∀ x : Nat, (t 167 x = 2 ∨ t 167 x = 9) → h 176 x = t 176 x) ∧ YX t h)
/-- every method's body is a tree -/
def MB (m : Int) (t : ms_M) : Prop := ∀ x : Nat, (x : Int) < t 160 28 → ¬ t 182 x = 0 → ∃ b, (b ≤ t 160 22 ∧ ∀ y : Nat, x < y → (y : Int) < t 160 28 → ¬ t 182 y = 0 → b ≤ t 190 y) ∧ TE m t 2 82 (t 190 x) b (t 190 x)
/-- the bodies below l have been seen -/
def MT (t : ms_M) (l : Int) (h : ms_M) : Prop := h 160 9 = 0 → ∀ x : Nat, (x : Int) < l → ¬ t 182 x = 0 → ∃ b, (b ≤ t 160 22 ∧ ∀ y : Nat, x < y → (y : Int) < t 160 28 → ¬ t 182 y = 0 → b ≤ t 190 y) ∧ TE 1 t 2 82 (t 190 x) b (t 190 x) ∧ YT h 2 (t 190 x) b (t 190 x)
def QB (t r : ms_M) : Prop := YB t r ∧ MI t r ∧ MT t (t 160 28) r
/-- what is written elsewhere leaves the bodies -/
theorem mt_fg {l a b : Int} {r : ms_M} (M : MT t l h) (B1 : TC t h) (B2 : TC t r) (F : FG a b h r) (d : r 160 9 = 0 → h 160 9 = 0) (w : b ≤ a ∨ ∀ x : Nat, (x : Int) < l → ¬ t 182 x = 0 → ∀ c : Int, (∀ y : Nat, x < y → (y : Int) < t 160 28 → ¬ t 182 y = 0 → c ≤ t 190 y) → c ≤ a) : MT t l r := fun y x hx hs => by
  obtain ⟨c, c1, c2, c3⟩ := M (d y) x hx hs
  refine ⟨c, c1, c2, yt_fg B1 B2 F ?_ c3⟩
  rcases w with w | w
  · exact .inr (.inr w)
  · exact .inr (.inl (w x hx hs c c1.2))
theorem yb_yi (Y : YI t h) : YB t h := ⟨Y.1, Y.2.1, Y.2.2.1, Y.2.2.2.2.1⟩
theorem yb_fd {z : ms_M} {k : Nat} {v : Int} (Y : YB t h) (E : z = up_M h 160 k v) (V : VS_ z) (hk : bf_.contains (160, k) = true) : YB t z := by
  subst E
  refine ⟨V, bf_f Y.2.1 hk, fun x hx => ?_, fun x w => ?_, fun x hx => ?_⟩
  · rw [up_n (by omega)]; exact Y.2.2.1 x hx
  · rw [up_n (by omega)]; exact Y.2.2.2.1 x w
  · rw [up_n (by omega), up_n (by omega)]; exact Y.2.2.2.2 x hx
theorem vb_83 (hn : 1000000 ≤ nn) (S : SF t) (B : MB 1 t) {Q : ms_M → Prop} {l1 : Int} {qk : Int → ms_M → Option ms_M} (hk : ∀ r, YB t r → MI t r → MT t (l1 + 1) r → Ok_ (qk (l1 + 1) r) Q) (r1 : 0 ≤ l1 ∧ l1 < t 160 28 ∧ l1 ≤ 799) (hs : ¬ t 182 l1.toNat = 0) : ∀ (k : Nat) (l2 : Int) (h : ms_M), YI t h → MI t h → MT t l1 h → h 160 57 = 0 → h 160 54 = 0 → h 160 50 = l2 → (0 ≤ l2 ∧ l2 ≤ t 189 l1.toNat) → 7 - l2 < (k : Int) → Ok_ (qw_X13_bodies_83 nn qk k l1 l2 h) Q := by
  intro k
  induction k with
  | zero => intro l2 h Y N M h57 h54 h50 r2 hm; have := S.2.2.2.2.1 l1.toNat (by omega); exfalso; omega
  | succ k ih =>
    intro l2 h Y N M h57 h54 h50 r2 hm
    have m6 := S.2.2.2.2.1 l1.toNat (by omega)
    unfold qw_X13_bodies_83
    refine ok_rd (by omega) (gA_189 Y.1) ?_; intro v2 e2 a2 b2
    have t2 : v2 = t 189 l1.toNat := by rw [e2]; exact Y.2.1 189 _ (nw_ar rfl _)
    refine ok_if (fun C => ?_) (fun C => ?_)
    · refine ok_rd (by omega) (gA_190 Y.1) ?_; intro v4 e4 a4 b4
      have t4 : v4 = t 190 l1.toNat := by rw [e4]; exact Y.2.1 190 _ (nw_ar rfl _)
      obtain ⟨b, ⟨hb, hc⟩, T⟩ := B l1.toNat (by omega) hs
      rw [← t4] at T
      have sk := te_sk T
      have g9 : 0 ≤ t 169 v4.toNat := by
        have g22 := gF_160_22 Y.1
        have q22 : h 160 22 = t 160 22 := Y.2.1 160 22 rfl
        have := (gA_169 Y.1 v4.toNat (by omega)).1
        rwa [Y.2.1 169 _ (nw_ar rfl _)] at this
      refine ok_sv (ge_ruled hn S Y N T hb (by omega) h57 (by omega) (by omega)) ?_; intro u6 P
      obtain ⟨⟨Yu, Nu, ⟨p1, p2, p3⟩, p4⟩, fu, yu⟩ := P
      have Mu : MT t (l1 + 1) u6.2 := fun y x hx hs2 => by
        by_cases q : (x : Int) = l1
        · have q2 : x = l1.toNat := by omega
          refine ⟨b, ⟨hb, fun z z1 z2 z3 => hc z (by omega) z2 z3⟩, ?_, ?_⟩
          · rw [q2, ← t4]; exact T
          · rw [q2, ← t4]; exact yu y
        · refine mt_fg M (bf_tc Y.2.1) (bf_tc Yu.2.1) fu p3 (.inr (fun x2 hx2 hs3 c hc2 => ?_)) y x (by omega) hs2
          rw [t4]; exact hc2 l1.toNat (by omega) (by omega) hs
      refine ok_if (fun C6 => ?_) (fun C6 => ?_)
      · refine ok_add (by omega) ?_; intro v7 e7
        rw [e7]; exact hk _ (yb_yi Yu) Nu Mu
      · refine ok_rd (by omega) (gA_187 Yu.1) ?_; intro v9 e9 a9 b9
        refine ok_if (fun C9 => ?_) (fun C9 => ?_)
        · refine ok_add (by omega) ?_; intro v7 e7
          rw [e7]; exact hk _ (yb_yi Yu) Nu Mu
        · refine ok_rd (by omega) (gA_186 Yu.1) ?_; intro v12 e12 a12 b12
          refine ok_sv (vy_wrong hn Yu (by omega) (by omega)) ?_; intro u14 P14
          refine ok_add (by omega) ?_; intro v7 e7
          rw [e7]; exact hk _ (yb_yi P14.1) (mi_dead P14.2.2.1) (fun y => absurd y P14.2.2.1)
    · have w := S.1.2 l1.toNat (by omega)
      refine ok_rd (by omega) (gA_188 Y.1) ?_; intro v20 e20 a20 b20
      have t20 : v20 = t 188 l1.toNat := by rw [e20]; exact Y.2.1 188 _ (nw_ar rfl _)
      refine ok_add (by omega) ?_; intro v21 e21
      refine ok_rd (by omega) (gA_194 Y.1) ?_; intro v22 e22 a22 b22
      refine ok_rd (by omega) (gA_188 Y.1) ?_; intro v25 e25 a25 b25
      have t25 : v25 = t 188 l1.toNat := by rw [e25]; exact Y.2.1 188 _ (nw_ar rfl _)
      refine ok_add (by omega) ?_; intro v26 e26
      refine ok_rd (by omega) (gA_195 Y.1) ?_; intro v27 e27 a27 b27
      have t27 : v27 = t 195 v26.toNat := by rw [e27]; exact Y.2.1 195 _ (nw_ar rfl _)
      have l27 : v27 < 24 + 2 * t 160 24 := by
        rw [t27, show v26.toNat = (t 188 l1.toNat).toNat + l2.toNat by omega]
        exact (S.2.2.1 l1.toNat (by omega)).2 l2.toNat (by omega)
      refine ok_sv (vy_come hn S Y (by omega) (by omega) (by omega)) ?_; intro u29 P
      obtain ⟨Yu, ⟨k1, k2, k3, k4, k5, k6, k7⟩, _, nu, fu⟩ := P
      have Mu := mt_fg M (bf_tc Y.2.1) (bf_tc Yu.2.1) fu (by omega) (.inl (by omega))
      refine ok_add (by omega) ?_; intro v30 e30
      exact ih v30 u29 Yu (nu N) Mu (by omega) (by omega) (by omega) (by omega) (by omega)
theorem vb_63 (hn : 1000000 ≤ nn) (S : SF t) (B : MB 1 t) {Q : ms_M → Prop} {l1 s0 : Int} {qk : Int → ms_M → Option ms_M} (hk : ∀ r, YB t r → MI t r → MT t (l1 + 1) r → Ok_ (qk (l1 + 1) r) Q) (r1 : 0 ≤ l1 ∧ l1 < t 160 28 ∧ l1 ≤ 799) (hs : ¬ t 182 l1.toNat = 0) (r0 : s0 = 0 ∨ s0 = 1) (Y : YB t h) (N : MI t h) (M : MT t l1 h) (h51 : h 160 51 = l1) (h52 : 8 ≤ h 160 52 ∧ h 160 52 < 8 + t 160 24) : Ok_ (qj_X13_bodies_63 nn qk l1 s0 h) Q := by
  unfold qj_X13_bodies_63
  refine ok_ck r0 ?_
  refine ok_xl ?_; intro h33 E33
  have Y33 := yb_fd Y E33 (by rw [E33]; exact wF_160_53 Y.1 (by omega)) rfl
  have N33 := mi_fd N E33 (by decide)
  have M33 := mt_fg M (bf_tc Y.2.1) (bf_tc Y33.2.1) (fg_fd E33) (by rw [E33, up_n (by decide)]; exact id) (.inl (by omega))
  refine ok_xl ?_; intro h34 E34
  have Y34 := yb_fd Y33 E34 (by rw [E34]; exact wF_160_50 Y33.1 (by omega)) rfl
  have N34 := mi_fd N33 E34 (by decide)
  have M34 := mt_fg M33 (bf_tc Y33.2.1) (bf_tc Y34.2.1) (fg_fd E34) (by rw [E34, up_n (by decide)]; exact id) (.inl (by omega))
  refine ok_xl ?_; intro h35 E35
  have Y35 := yb_fd Y34 E35 (by rw [E35]; exact wF_160_54 Y34.1 (by omega)) rfl
  have N35 := mi_fd N34 E35 (by decide)
  have M35 := mt_fg M34 (bf_tc Y34.2.1) (bf_tc Y35.2.1) (fg_fd E35) (by rw [E35, up_n (by decide)]; exact id) (.inl (by omega))
  refine ok_xl ?_; intro h36 E36
  have Y36 := yb_fd Y35 E36 (by rw [E36]; exact wF_160_57 Y35.1 (by omega)) rfl
  have N36 := mi_fd N35 E36 (by decide)
  have M36 := mt_fg M35 (bf_tc Y35.2.1) (bf_tc Y36.2.1) (fg_fd E36) (by rw [E36, up_n (by decide)]; exact id) (.inl (by omega))
  have q50 : h36 160 50 = 0 := by rw [E36, up_n (by decide), E35, up_n (by decide), E34, up_s]
  have q54 : h36 160 54 = 0 := by rw [E36, up_n (by decide), E35, up_s]
  have q57 : h36 160 57 = 0 := by rw [E36, up_s]
  have q51 : h36 160 51 = l1 := by rw [E36, up_n (by decide), E35, up_n (by decide), E34, up_n (by decide), E33, up_n (by decide)]; exact h51
  have q52 : h36 160 52 = h 160 52 := by rw [E36, up_n (by decide), E35, up_n (by decide), E34, up_n (by decide), E33, up_n (by decide)]
  have Y : YI t h36 := ⟨Y36.1, Y36.2.1, Y36.2.2.1, fun s z => by exfalso; omega, Y36.2.2.2, by omega, by omega⟩
  have g9 := gA_189 Y36.1 l1.toNat (by omega)
  rw [Y36.2.1 189 _ (nw_ar rfl _)] at g9
  exact vb_83 hn S B hk r1 hs nn 0 h36 Y N36 M36 q57 q54 q50 (by omega) (by omega)
theorem vb_2 (hn : 1000000 ≤ nn) (S : SF t) (B : MB 1 t) : ∀ (k : Nat) (l1 : Int) (h : ms_M), YB t h → MI t h → MT t l1 h → (0 ≤ l1 ∧ l1 ≤ 800) → 801 - l1 < (k : Int) → Ok_ (qw_X13_bodies_2 nn k l1 h) (QB t) := by
  intro k
  induction k with
  | zero => intro l1 h Y N M r hm; exfalso; omega
  | succ k ih =>
    intro l1 h Y N M r hm
    have g28 := gF_160_28 Y.1
    have q28 : h 160 28 = t 160 28 := Y.2.1 160 28 rfl
    unfold qw_X13_bodies_2
    refine ok_if (fun C => ok_ret ⟨Y, N, fun y x hx => M y x (by omega)⟩) (fun C => ?_)
    refine ok_if (fun C2 => ok_ret ⟨Y, N, fun y => absurd y C2⟩) (fun C2 => ?_)
    refine ok_rd (by omega) (gA_182 Y.1) ?_; intro v40 e40 a40 b40
    have t40 : v40 = t 182 l1.toNat := by rw [e40]; exact Y.2.1 182 _ (nw_ar rfl _)
    refine ok_if (fun C3 => ?_) (fun C3 => ?_)
    · refine ok_xl ?_; intro h41 E41
      have Y41 := yb_fd Y E41 (by rw [E41]; exact wF_160_51 Y.1 (by omega)) rfl
      have N41 := mi_fd N E41 (by decide)
      have M41 := mt_fg M (bf_tc Y.2.1) (bf_tc Y41.2.1) (fg_fd E41) (by rw [E41, up_n (by decide)]; exact id) (.inl (by omega))
      refine ok_rd (by omega) (gA_181 Y41.1) ?_; intro v43 e43 a43 b43
      have t43 : v43 = t 181 l1.toNat := by rw [e43]; exact Y41.2.1 181 _ (nw_ar rfl _)
      have mc := S.2.2.2.2.2 l1.toNat (by omega)
      refine ok_add (by omega) ?_; intro v44 e44
      refine ok_xl ?_; intro h45 E45
      have Y45 := yb_fd Y41 E45 (by rw [E45]; exact wF_160_52 Y41.1 (by omega)) rfl
      have N45 := mi_fd N41 E45 (by decide)
      have M45 := mt_fg M41 (bf_tc Y41.2.1) (bf_tc Y45.2.1) (fg_fd E45) (by rw [E45, up_n (by decide)]; exact id) (.inl (by omega))
      have q51 : h45 160 51 = l1 := by rw [E45, up_n (by decide), E41, up_s]
      have q52 : h45 160 52 = v44 := by rw [E45, up_s]
      refine ok_rd (by omega) (gA_182 Y45.1) ?_; intro v47 e47 a47 b47
      have K : ∀ r, YB t r → MI t r → MT t (l1 + 1) r → Ok_ (qw_X13_bodies_2 nn k (l1 + 1) r) (QB t) := fun r Yr Nr Mr => ih (l1 + 1) r Yr Nr Mr (by omega) (by omega)
      exact ok_if (fun _ => vb_63 hn S B K (by omega) (by omega) (.inl rfl) Y45 N45 M45 q51 (by omega)) (fun _ => vb_63 hn S B K (by omega) (by omega) (.inr rfl) Y45 N45 M45 q51 (by omega))
    · refine ok_add (by omega) ?_; intro v49 e49
      refine ih v49 h Y N (fun y x hx hs => ?_) (by omega) (by omega)
      by_cases q : (x : Int) = l1
      · exfalso; rw [show x = l1.toNat by omega] at hs; omega
      · exact M y x (by omega) hs
theorem vb_bodies (hn : 1000000 ≤ nn) (S : SF t) (B : MB 1 t) (Y : YB t h) (N : MI t h) : Ok_ (qf_X13_bodies nn h) (QB t) := vb_2 hn S B nn 0 h Y N (fun _ x hx => by exfalso; omega) (by omega) (by omega)
end

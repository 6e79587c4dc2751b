section
/- VERIFY: all links of the class -/
/-- what method m of the t-th class above class 8 + k is linked to -/
def LMt (Bf : Nat → Nat → Int) (nf : Nat → Nat) (cnt : Int) (k t m : Nat) (g : ms_M) : Prop := NRv2 Bf nf cnt k (ch_F Bf nf cnt (8 + (k : Int)) t) m (g 70 (96 * (k : Int) + ((ch_F Bf nf cnt (8 + (k : Int)) t - 8) * 12 + (m : Int))).toNat)
/-- all methods of the classes before the t-th above class 8 + k are linked -/
def LMs (Bf : Nat → Nat → Int) (nf : Nat → Nat) (cnt : Int) (k t : Nat) (g : ms_M) : Prop := ∀ x : Nat, x < t → 8 ≤ ch_F Bf nf cnt (8 + (k : Int)) x → ∀ m : Nat, (m : Int) < mc_S (Bf (ch_F Bf nf cnt (8 + (k : Int)) x - 8).toNat) (nf (ch_F Bf nf cnt (8 + (k : Int)) x - 8).toNat) → LMt Bf nf cnt k x m g
/-- the constants of image k before a are linked -/
def LCs (Bf : Nat → Nat → Int) (nf : Nat → Nat) (cnt : Int) (k : Nat) (a : Int) (g : ms_M) : Prop := ∀ e : Int, 1 ≤ e → e < a → LKv Bf nf cnt k e (g 68 (256 * (k : Int) + e).toNat)
/-- ALL LINKS of the class -/
def LKt (Bf : Nat → Nat → Int) (nf : Nat → Nat) (cnt : Int) (g : ms_M) : Prop := (∀ c : Nat, (c : Int) < 8 + cnt → g 69 c = ca_F Bf nf cnt (c : Int)) ∧ ∀ k : Nat, (k : Int) < cnt → LCs Bf nf cnt k (Bf k 2 + 1) g ∧ LMs Bf nf cnt k 16 g
section
variable {nn : Nat} {Bf : Nat → Nat → Int} {nf : Nat → Nat} {cnt : Int} {b d k i t : Nat} {h g : ms_M} {c a : Int}
theorem vc_lm29 (H : HGo Bf nf cnt) (hk : (k : Int) < cnt) {K : Int → Int → Int → ms_M → Option ms_M} {Q : ms_M → Prop} {t : Nat} (ht : t < 16) (dr : 8 ≤ ch_F Bf nf cnt (8 + (k : Int)) t) (eb : (b : Int) = h 60 (ch_F Bf nf cnt (8 + (k : Int)) t - 8).toNat)
    (hK : ∀ g : ms_M, CSw Bf nf g → (∀ x j : Nat, ¬ (x = 70 ∧ 96 * k ≤ j ∧ j < 96 * k + 96) → g x j = h x j) → LMs Bf nf cnt k (t + 1) g → Pc (K (k : Int) (ch_F Bf nf cnt (8 + (k : Int)) (t + 1)) ((t + 1 : Nat) : Int) g) Q) (ec : h 56 3 = cnt) : ∀ (f m : Nat) (g : ms_M), CSw Bf nf g → (∀ x j : Nat, ¬ (x = 70 ∧ 96 * k ≤ j ∧ j < 96 * k + 96) → g x j = h x j) → LMs Bf nf cnt k t g → (∀ x : Nat, x < m → LMt Bf nf cnt k t x g) → (m : Int) ≤ mc_S (Bf (ch_F Bf nf cnt (8 + (k : Int)) t - 8).toNat) (nf (ch_F Bf nf cnt (8 + (k : Int)) t - 8).toNat) → Pc (qw_X7_linkMethods_29 nn K f (k : Int) (ch_F Bf nf cnt (8 + (k : Int)) t) (t : Int) (b : Int) (m : Int) g) Q := by
  have h8 := H.1
  have k0 : 8 + (k : Int) = -1 ∨ ISc cnt (8 + (k : Int)) := .inr (by unfold ISc; omega)
  have I := ch_is (Bf := Bf) (nf := nf) H.1.1 k0
  intro f
  induction f with
  | zero => intro m g _ _ _ _ _; exact pc_none
  | succ f ih =>
    intro m g S A L0 L1 hm
    have It : ISc cnt (ch_F Bf nf cnt (8 + (k : Int)) t) := by
      rcases I t with w | w
      · omega
      · exact w
    have It' := It
    unfold ISc at It'
    have ecg : g 56 3 = cnt := by rw [A 56 3 (by omega)]; exact ec
    have hd : (((ch_F Bf nf cnt (8 + (k : Int)) t - 8).toNat : Nat) : Int) < g 56 3 := by omega
    have X := S.1.2 (ch_F Bf nf cnt (8 + (k : Int)) t - 8).toNat hd
    have eg : (g 60 (ch_F Bf nf cnt (8 + (k : Int)) t - 8).toNat).toNat = b := by rw [A 60 _ (by omega)]; omega
    rw [eg] at X
    obtain ⟨G, -, e12, MD⟩ := cg_im X
    have m12 := G.2.2.1
    unfold qw_X7_linkMethods_29
    refine pc_ck (fun _ => ?_)
    refine pc_ck (fun _ => ?_)
    simp only [Int.toNat_natCast]
    rw [e12]
    refine pc_if (fun w => ?_) (fun w => ?_)
    · have qa := vc_above (nn := nn) S (c := ch_F Bf nf cnt (8 + (k : Int)) t) (by rw [ecg]; exact It)
      rw [ecg] at qa
      refine pc_sv qa ?_; intro u5 q5
      refine pc_add (by omega) ?_; intro v6 e6
      rw [q5, ← chv_s It.1, show v6 = ((t + 1 : Nat) : Int) by omega]
      refine hK g S A (fun x hx x8 y hy => ?_)
      by_cases e : x = t
      · rw [e]
        rw [e] at hy
        exact L1 y (by omega)
      · exact L0 x (by omega) x8 y hy
    · have hm' : (m : Int) < mc_S (Bf (ch_F Bf nf cnt (8 + (k : Int)) t - 8).toNat) (nf (ch_F Bf nf cnt (8 + (k : Int)) t - 8).toNat) := by omega
      refine pc_xl ?_; intro v8 e8
      rw [oq_mul_eq (by omega) (by omega) (by omega)] at e8
      refine pc_sv (P := fun u => u = (ch_F Bf nf cnt (8 + (k : Int)) t - 8) * 12 + (m : Int)) ?_ ?_
      · unfold qf_X7_numberOf
        refine pc_sub (by omega) ?_; intro v1 e1
        refine pc_xl ?_; intro v2 e2
        rw [oq_mul_eq (by omega) (by omega) (by omega)] at e2
        refine pc_add (by omega) ?_; intro v3 e3
        exact pc_ret (by rw [e3, e2, e1])
      intro u10 q10
      refine pc_add (by omega) ?_; intro v11 e11
      refine pc_add (by omega) ?_; intro v12 e12'
      refine pc_sv (vq_of X hm' (w := 1) (by omega) (MD m hm').1.2.1) ?_; intro u14 q14
      have t1 := nt_1 G (j := m) (s := 1) (by unfold mb_S; rw [if_neg (by decide)]; exact hm')
      have LK := (vc_lk (nn := nn) S hd (by rw [ecg]; exact fun c hc => hg_end H hc) t1 (c := 8 + (k : Int)) (.inr (.inl ⟨by rw [ecg]; unfold ISc; omega, by omega⟩))).1
      rw [eg, ecg] at LK
      have en : nt_S (Bf (ch_F Bf nf cnt (8 + (k : Int)) t - 8).toNat) (nf (ch_F Bf nf cnt (8 + (k : Int)) t - 8).toNat) m 1 = u14 := by rw [q14]; unfold nt_S; rw [if_neg (by decide)]
      rw [e12', ← en]
      refine pc_sv LK ?_; intro u16 q16
      refine pc_wA ?_; intro j1 j2 h17 e17
      refine pc_add (by omega) ?_; intro v18 e18
      rw [show v18 = ((m + 1 : Nat) : Int) by omega]
      have ev : v11.toNat = (96 * (k : Int) + ((ch_F Bf nf cnt (8 + (k : Int)) t - 8) * 12 + (m : Int))).toNat := by omega
      have NW : LMt Bf nf cnt k t m h17 := by
        unfold LMt NRv2
        rw [e17, ← ev, up_s]
        exact q16
      have OLD : ∀ x y : Nat, 8 ≤ ch_F Bf nf cnt (8 + (k : Int)) x → (y : Int) < 12 → LMt Bf nf cnt k x y g → LMt Bf nf cnt k x y h17 := fun x y x8 y12 O => by
        by_cases e : (96 * (k : Int) + ((ch_F Bf nf cnt (8 + (k : Int)) x - 8) * 12 + (y : Int))).toNat = v11.toNat
        · have e1 : ch_F Bf nf cnt (8 + (k : Int)) x = ch_F Bf nf cnt (8 + (k : Int)) t := by omega
          have e2 : y = m := by omega
          unfold LMt at NW ⊢
          rw [e1, e2]
          exact NW
        · unfold LMt at O ⊢
          rw [e17, up_n (fun w => e w.2)]
          exact O
      have A17 : ∀ x j : Nat, ¬ (x = 70 ∧ 96 * k ≤ j ∧ j < 96 * k + 96) → h17 x j = h x j := fun x j w => by
        rw [e17, up_n (by omega)]
        exact A x j w
      refine ih (m + 1) h17 ?_ A17 (fun x hx x8 y hy => ?_) (fun x hx => ?_) (by omega)
      · exact csw_l S (fun x j _ w => by rw [e17, up_n (by omega)])
      · have Ix : ISc cnt (ch_F Bf nf cnt (8 + (k : Int)) x) := by
          rcases I x with w | w
          · omega
          · exact w
        unfold ISc at Ix
        have Gx := (H.2 (ch_F Bf nf cnt (8 + (k : Int)) x - 8).toNat (by omega)).1.2.2.1
        exact OLD x y x8 (by omega) (L0 x hx x8 y hy)
      · by_cases e : x = m
        · rw [e]; exact NW
        · exact OLD t x dr (by omega) (L1 x (by omega))
theorem vc_lm7 (H : HGo Bf nf cnt) (hk : (k : Int) < cnt) (ec : h 56 3 = cnt) : ∀ (f t : Nat) (g : ms_M), t ≤ 16 → CSw Bf nf g → (∀ x j : Nat, ¬ (x = 70 ∧ 96 * k ≤ j ∧ j < 96 * k + 96) → g x j = h x j) → LMs Bf nf cnt k t g → Pc (qw_X7_linkMethods_7 nn f (k : Int) (ch_F Bf nf cnt (8 + (k : Int)) t) (t : Int) g) (fun u => CSw Bf nf u ∧ (∀ x j : Nat, ¬ (x = 70 ∧ 96 * k ≤ j ∧ j < 96 * k + 96) → u x j = h x j) ∧ LMs Bf nf cnt k 16 u) := by
  have h8 := H.1
  have k0 : 8 + (k : Int) = -1 ∨ ISc cnt (8 + (k : Int)) := .inr (by unfold ISc; omega)
  have I := ch_is (Bf := Bf) (nf := nf) H.1.1 k0
  intro f
  induction f with
  | zero => intro t g _ _ _ _; exact pc_none
  | succ f ih =>
    intro t g ht S A L
    unfold qw_X7_linkMethods_7
    refine pc_if (fun w => pc_ret ⟨S, A, ?_⟩) (fun w => ?_)
    · rw [show (16 : Nat) = t by omega]; exact L
    by_cases w8 : ch_F Bf nf cnt (8 + (k : Int)) t < 8
    · refine pc_sv (vc_im0 w8) ?_; intro u21 q21
      refine pc_if (fun _ => pc_ret ⟨S, A, fun x hx x8 y hy => ?_⟩) (fun v => absurd (show u21 < 0 by omega) v)
      by_cases e : x < t
      · exact L x e x8 y hy
      · have := ch_lo w8 k0 H.1.1 (x - t)
        rw [show t + (x - t) = x by omega] at this
        omega
    · have It : ISc cnt (ch_F Bf nf cnt (8 + (k : Int)) t) := by
        rcases I t with v | v
        · exact absurd (by omega) w8
        · exact v
      unfold ISc at It
      have ecg : g 56 3 = cnt := by rw [A 56 3 (by omega)]; exact ec
      have X := S.1.2 (ch_F Bf nf cnt (8 + (k : Int)) t - 8).toNat (by omega)
      have k3 : kc_O (g 60 (ch_F Bf nf cnt (8 + (k : Int)) t - 8).toNat).toNat = 3 := X.1.1.1
      have h60 : 0 ≤ g 60 (ch_F Bf nf cnt (8 + (k : Int)) t - 8).toNat := Classical.byContradiction fun w => by
        rw [show (g 60 (ch_F Bf nf cnt (8 + (k : Int)) t - 8).toNat).toNat = 0 by omega] at k3
        exact absurd k3 (by decide)
      refine pc_sv (vc_img S.1 (c := ch_F Bf nf cnt (8 + (k : Int)) t) (by omega) (by omega)) ?_; intro u21 q21
      refine pc_if (fun v => absurd v (by omega)) (fun _ => ?_)
      refine vc_lm29 H hk (by omega) (by omega) (h := h) ?_ (fun g2 S2 A2 L2 => ih (t + 1) g2 (by omega) S2 A2 L2) ec nn 0 g S A L (fun x hx => absurd hx (by omega)) ?_
      · rw [← A 60 _ (by omega), ← q21]; omega
      · have := (H.2 (ch_F Bf nf cnt (8 + (k : Int)) t - 8).toNat (by omega)).1.2.2.1
        omega
theorem vc_lmeth (H : HGo Bf nf cnt) (hk : (k : Int) < cnt) (S : CSw Bf nf h) (ec : h 56 3 = cnt) : Pc (qf_X7_linkMethods nn (k : Int) h) (fun u => CSw Bf nf u ∧ (∀ x j : Nat, ¬ (x = 70 ∧ 96 * k ≤ j ∧ j < 96 * k + 96) → u x j = h x j) ∧ LMs Bf nf cnt k 16 u) := by
  have h8 := H.1
  unfold qf_X7_linkMethods
  refine pc_add (by omega) ?_; intro v25 e25
  rw [e25]
  exact vc_lm7 H hk ec nn 0 h (by omega) S (fun _ _ _ => rfl) (fun x hx => absurd hx (by omega))
theorem lms_k (L : LMs Bf nf cnt k t h) (H : HGo Bf nf cnt) (hk : (k : Int) < cnt) (A : ∀ j : Nat, j < 96 * k + 96 → 96 * k ≤ j → g 70 j = h 70 j) : LMs Bf nf cnt k t g := fun x hx x8 m hm => by
  have h8 := H.1
  have k0 : 8 + (k : Int) = -1 ∨ ISc cnt (8 + (k : Int)) := .inr (by unfold ISc; omega)
  have Ix : ISc cnt (ch_F Bf nf cnt (8 + (k : Int)) x) := by
    rcases ch_is (Bf := Bf) (nf := nf) H.1.1 k0 x with w | w
    · omega
    · exact w
  unfold ISc at Ix
  have Gx := (H.2 (ch_F Bf nf cnt (8 + (k : Int)) x - 8).toNat (by omega)).1.2.2.1
  have O := L x hx x8 m hm
  unfold LMt at O ⊢
  rw [A _ (by omega) (by omega)]
  exact O
theorem lcs_k {e : Int} (L : LCs Bf nf cnt k e h) (he : e ≤ 256) (A : ∀ j : Nat, 256 * k ≤ j → j < 256 * k + 256 → g 68 j = h 68 j) : LCs Bf nf cnt k e g := fun x h1 h2 => by
  have := L x h1 h2
  rw [A _ (by omega) (by omega)]
  exact this
end
end
section
/- VERIFY: all links of the class, whole -/
/-- the classes before k are linked -/
def LBs (Bf : Nat → Nat → Int) (nf : Nat → Nat) (cnt : Int) (k : Nat) (g : ms_M) : Prop := (∀ c : Nat, (c : Int) < 8 + cnt → g 69 c = ca_F Bf nf cnt (c : Int)) ∧ ∀ x : Nat, x < k → LCs Bf nf cnt x (Bf x 2 + 1) g ∧ LMs Bf nf cnt x 16 g
section
variable {nn : Nat} {Bf : Nat → Nat → Int} {nf : Nat → Nat} {cnt : Int} {b d k i t : Nat} {h g : ms_M} {c a : Int}
theorem vc_la42 (H : HGo Bf nf cnt) (hk : (k : Int) < cnt) {K : Int → ms_M → Option ms_M} {Q : ms_M → Prop} (hK : ∀ g : ms_M, CSw Bf nf g → g 56 3 = cnt → LBs Bf nf cnt (k + 1) g → Pc (K ((k + 1 : Nat) : Int) g) Q) : ∀ (f : Nat) (a : Int) (g : ms_M), CSw Bf nf g → g 56 3 = cnt → LBs Bf nf cnt k g → 1 ≤ a → a ≤ Bf k 2 + 1 → LCs Bf nf cnt k a g → Pc (qw_X7_linkAll_42 nn K f (k : Int) a g) Q := by
  have h8 := H.1
  intro f
  induction f with
  | zero => intro a g _ _ _ _ _ _; exact pc_none
  | succ f ih =>
    intro a g S ec B0 a1 a2 L
    have X := S.1.2 k (by omega)
    have T := X.1
    have b2 := T.2.2.1
    have k3 : kc_O (g 60 k).toNat = 3 := T.1.1
    have h60 : 0 ≤ g 60 k := Classical.byContradiction fun w => by
      rw [show (g 60 k).toNat = 0 by omega] at k3
      exact absurd k3 (by decide)
    unfold qw_X7_linkAll_42
    refine pc_rA ?_; intro _ _ v2 e2
    rw [Int.toNat_natCast] at e2
    refine pc_ck (fun _ => ?_)
    refine pc_ck (fun _ => ?_)
    rw [e2, T.2.1]
    refine pc_if (fun w => ?_) (fun w => ?_)
    · refine pc_sv (vc_lmeth H hk S ec) ?_; intro u6 q6
      obtain ⟨S6, A6, L6⟩ := q6
      refine pc_add (by omega) ?_; intro v7 e7
      rw [show v7 = ((k + 1 : Nat) : Int) by omega]
      refine hK u6 S6 (by rw [A6 56 3 (by omega)]; exact ec) ⟨fun c hc => by rw [A6 69 c (by omega)]; exact B0.1 c hc, fun x hx => ?_⟩
      by_cases e : x = k
      · subst e
        refine ⟨lcs_k (h := g) ?_ (by omega) (fun j _ _ => A6 68 j (by omega)), L6⟩
        rw [show Bf x 2 + 1 = a by omega]
        exact L
      · obtain ⟨c1, c2⟩ := B0.2 x (by omega)
        have bx := ((S.1.2 x (by omega)).1).2.2.1
        exact ⟨lcs_k c1 (by omega) (fun j _ _ => A6 68 j (by omega)), lms_k c2 H (by omega) (fun j j1 j2 => A6 70 j (by omega))⟩
    · refine pc_xl ?_; intro v9 e9
      rw [oq_mul_eq (by omega) (by omega) (by omega)] at e9
      refine pc_add (by omega) ?_; intro v10 e10
      refine pc_rA ?_; intro _ _ v12 e12
      rw [Int.toNat_natCast] at e12
      refine pc_ck (fun _ => ?_)
      rw [e12]
      refine pc_sv (vc_linkOf H S ec hk) ?_; intro u15 q15
      refine pc_wA ?_; intro j1 j2 h16 e16
      refine pc_add (by omega) ?_; intro v17 e17
      rw [show v17 = a + 1 by omega]
      have ev : v10.toNat = (256 * (k : Int) + a).toNat := by omega
      have A : ∀ x j : Nat, ¬ (x = 68 ∧ j = v10.toNat) → h16 x j = g x j := fun x j w => by rw [e16, up_n w]
      refine ih (a + 1) h16 (csw_l S (fun x j _ w => A x j (by omega))) (by rw [A 56 3 (by omega)]; exact ec) ⟨fun c hc => by rw [A 69 c (by omega)]; exact B0.1 c hc, fun x hx => ?_⟩ (by omega) (by omega) (fun e e1 e2 => ?_)
      · obtain ⟨c1, c2⟩ := B0.2 x hx
        have bx := ((S.1.2 x (by omega)).1).2.2.1
        exact ⟨lcs_k c1 (by omega) (fun j _ _ => A 68 j (by omega)), lms_k c2 H (by omega) (fun j j1 j2 => A 70 j (by omega))⟩
      · by_cases z : e = a
        · rw [z, ← ev, e16, up_s]
          exact q15
        · rw [A 68 _ (by omega)]
          exact L e e1 (by omega)
theorem vc_la32 (H : HGo Bf nf cnt) : ∀ (f k : Nat) (g : ms_M), (k : Int) ≤ cnt → CSw Bf nf g → g 56 3 = cnt → LBs Bf nf cnt k g → Pc (qw_X7_linkAll_32 nn f (k : Int) g) (fun u => CSw Bf nf u ∧ u 56 3 = cnt ∧ LKt Bf nf cnt u) := by
  have h8 := H.1
  intro f
  induction f with
  | zero => intro k g _ _ _ _; exact pc_none
  | succ f ih =>
    intro k g hk S ec B0
    unfold qw_X7_linkAll_32
    rw [ec]
    refine pc_if (fun w => pc_ret ⟨S, ec, B0.1, fun x hx => B0.2 x (by omega)⟩) (fun w => ?_)
    have b2 := ((S.1.2 k (by omega)).1).2.2.1
    exact vc_la42 H (by omega) (fun g2 S2 c2 B2 => ih (k + 1) g2 (by omega) S2 c2 B2) nn 1 g S ec B0 (by omega) (by omega) (fun e e1 e2 => absurd e1 (by omega))
theorem vc_la2 (H : HGo Bf nf cnt) : ∀ (f c : Nat) (g : ms_M), CSw Bf nf g → g 56 3 = cnt → (c : Int) ≤ 8 + cnt → (∀ x : Nat, x < c → g 69 x = ca_F Bf nf cnt (x : Int)) → Pc (qw_X7_linkAll_2 nn f (c : Int) g) (fun u => CSw Bf nf u ∧ u 56 3 = cnt ∧ LKt Bf nf cnt u) := by
  have h8 := H.1
  intro f
  induction f with
  | zero => intro c g _ _ _ _; exact pc_none
  | succ f ih =>
    intro c g S ec hc L
    unfold qw_X7_linkAll_2
    rw [ec]
    refine pc_add (by omega) ?_; intro v22 e22
    refine pc_if (fun w => ?_) (fun w => ?_)
    · exact vc_la32 H nn 0 g (by omega) S ec ⟨fun x hx => L x (by omega), fun x hx => absurd hx (by omega)⟩
    · refine pc_sv (vc_cab H S ec (.inr (by unfold ISc; omega))) ?_; intro u25 q25
      refine pc_wA ?_; intro _ _ h26 e26
      rw [Int.toNat_natCast] at e26
      refine pc_add (by omega) ?_; intro v27 e27
      rw [show v27 = ((c + 1 : Nat) : Int) by omega]
      refine ih (c + 1) h26 (csw_l S (fun x j _ w => by rw [e26, up_n (by omega)])) (by rw [e26, up_n (by omega)]; exact ec) (by omega) (fun x hx => ?_)
      by_cases e : x = c
      · rw [e, e26, up_s, q25]
      · rw [e26, up_n (by omega)]; exact L x (by omega)
/-- LINK ALL, the class -/
theorem vc_linkAll (H : HGo Bf nf cnt) (S : CSw Bf nf h) (ec : h 56 3 = cnt) : Pc (qf_X7_linkAll nn h) (fun u => CSw Bf nf u ∧ u 56 3 = cnt ∧ LKt Bf nf cnt u) := by
  have h8 := H.1
  unfold qf_X7_linkAll
  exact vc_la2 H nn 0 h S ec (by omega) (fun x hx => absurd hx (by omega))
end
end
section
/- VERIFY: where all is right, all is linked -/
section
variable {nn : Nat} {Bf : Nat → Nat → Int} {nf : Nat → Nat} {M : ms_M}
theorem vf_lk (hn : 1000000 ≤ nn) (E : SPE Bf nf M) : Pc (qf_X12_verify nn M) (fun u => u.2 56 4 = 1 → LKt Bf nf (M 56 3) u.2) := by
  obtain ⟨⟨p1, p2, p3⟩, C, TB, N⟩ := E
  have S : CSw Bf nf M := ⟨⟨p2, C.1⟩, C.2.1⟩
  have E20 : ∀ (l : Int) (g : ms_M), VCk M g → (l = 0 → HGo Bf nf (M 56 3)) → Pc (qj_X12_verify_20 nn l g) (fun u => u.2 56 4 = 1 → LKt Bf nf (M 56 3) u.2) := fun l g Vg Hg => by
    unfold qj_X12_verify_20 qj_X12_verify_33
    refine pc_if (fun z => ?_) (fun z => ?_)
    · refine pc_ck (fun _ => ?_)
      refine pc_xl ?_; intro h2 e2
      refine pc_if (fun w => pc_ret (fun v => ?_)) (fun w => absurd (by rw [e2, up_s]) w)
      have v : h2 56 4 = 1 := v
      omega
    · refine pc_ck (fun _ => ?_)
      refine pc_xl ?_; intro h2 e2
      have F2 : ∀ x y : Nat, ¬ (x = 56 ∧ y = 4) → h2 x y = g x y := fun x y w => by rw [e2, up_n w]
      refine pc_if (fun w => absurd w (by rw [e2, up_s]; decide)) (fun _ => ?_)
      have C2 : CSp Bf nf h2 := csp_v C (fun c j w1 w2 w3 w4 => by rw [F2 c j w4]; exact Vg c j w2)
      have e3 : h2 56 3 = M 56 3 := (F2 56 3 (by omega)).trans (Vg 56 3 (by omega))
      have S2 : CSw Bf nf h2 := ⟨⟨by rw [e3]; exact p2, C2.1⟩, C2.2.1⟩
      refine pc_sv (vc_linkAll (Hg (by omega)) S2 e3) ?_; intro u7 q7
      exact pc_ret (fun _ => q7.2.2)
  unfold qf_X12_verify
  refine pc_sv (vc_heads (nn := nn) hn S) ?_; intro u13 ⟨V13, Z13⟩
  rcases Z13 with ⟨n0, A, T⟩ | ⟨j, _, j2, j3, j4, j5, j6, j7⟩
  · refine pc_if (fun z => absurd n0 z) (fun _ => ?_)
    have A' : ∀ j : Nat, (j : Int) < M 56 3 → HOk Bf nf (M 56 3) j := fun j hj => A j (by omega) hj
    have H := hgo_of S.1 rfl A'
    refine pc_sv (vc_methods hn H (csw_v S V13) (V13 56 3 (by omega))) ?_; intro u16 ⟨V16, _, _⟩
    exact E20 u16.1 u16.2 (vck_t V13 V16) (fun _ => H)
  · have nz := (num_ok j4).2
    refine pc_if (fun _ => ?_) (fun z => absurd (show ¬ u13.1 = 0 by omega) z)
    exact E20 u13.1 u13.2 V13 (fun z => absurd z (by omega))
end
end
section
/- RUN: a method begins -/
/-- .. the class: method i of class 8 + k, with a3 values that lie from a2 on -/
def BMc (Bf : Nat → Nat → Int) (nf : Nat → Nat) (k i : Nat) (a2 a3 : Int) (h g : ms_M) : Prop := (∀ c j : Nat, ¬ (c = 143 ∧ (j = 6 ∨ j = 17 ∨ j = 18 ∨ j = 19)) → ¬ ((148 ≤ c ∧ c ≤ 150) ∧ j = (h 143 6).toNat) → ¬ (c = 151 ∧ 30 * (h 143 6).toNat ≤ j ∧ j < 30 * (h 143 6).toNat + 30) → g c j = h c j) ∧ (g 143 6 = h 143 6 + 1 ∧ g 143 17 = h 143 6 ∧ g 143 18 = h 60 k ∧ g 143 19 = ((ma_S (Bf k) (nf k) i + 7 : Nat) : Int)) ∧ (g 148 (h 143 6).toNat = (k : Int) * 12 + (i : Int) ∧ g 149 (h 143 6).toNat = 0 ∧ g 150 (h 143 6).toNat = 0) ∧ ∀ n : Nat, n < 30 → g 151 (30 * (h 143 6).toNat + n) = if (n : Int) < a3 then h 152 (a2.toNat + n) else 0
/-- .. the reference -/
def ERb (c m : Int) (h g : ms_M) : Prop := (∀ x j : Nat, ¬ (x = 160 ∧ j = 149) → ¬ ((251 ≤ x ∧ x ≤ 254) ∧ j = (h 160 149).toNat) → ¬ (x = 255 ∧ 60 * (h 160 149).toNat ≤ j ∧ j < 60 * (h 160 149).toNat + 60) → g x j = h x j) ∧ g 160 149 = h 160 149 + 1 ∧ (g 251 (h 160 149).toNat = c ∧ g 252 (h 160 149).toNat = m ∧ g 253 (h 160 149).toNat = 0 ∧ g 254 (h 160 149).toNat = 0) ∧ ∀ n : Nat, n < 60 → g 255 (60 * (h 160 149).toNat + n) = 0
section
variable {nn : Nat} {Bf : Nat → Nat → Int} {nf : Nat → Nat} {cnt : Int} {k i : Nat} {h g : ms_M} {a a2 a3 : Int}
theorem ly_143 {c : Nat} (t : ly_T c = 1) : ¬ (143 ≤ c ∧ c ≤ 152) := fun z => by
  rcases (show c = 143 ∨ c = 144 ∨ c = 145 ∨ c = 146 ∨ c = 147 ∨ c = 148 ∨ c = 149 ∨ c = 150 ∨ c = 151 ∨ c = 152 by omega) with e | e | e | e | e | e | e | e | e | e
  all_goals (rw [e] at t; exact absurd t (by decide))
theorem csw_r (S : CSw Bf nf h) (A : ∀ c j : Nat, c < 160 ∨ 256 ≤ c → ¬ (143 ≤ c ∧ c ≤ 152) → g c j = h c j) : CSw Bf nf g := by
  obtain ⟨⟨s0, s1⟩, n1, n2, n3, n4⟩ := S
  have e3 : g 56 3 = h 56 3 := A _ _ (by omega) (by omega)
  refine ⟨⟨by rw [e3]; exact s0, fun k hk => ?_⟩, ⟨?_, fun j hj => by rw [A _ _ (by omega) (by omega)]; exact n2 j hj, fun j hj h2 => by rw [A _ _ (by omega) (by omega)]; exact n3 j hj (by omega), fun k hk => by rw [A 58 _ (by omega) (by omega), e3]; exact n4 k (by omega)⟩⟩
  · rw [A 60 k (by omega) (by omega)]
    have X := s1 k (by omega)
    have id := im_at X.1.1.1
    have t1 : ly_T (h (h 60 k).toNat 0).toNat = 1 := X.1.1.2.2.2.2.2.1
    have ec : cn_M g = cn_M h := by unfold cn_M; rw [A _ _ (by omega) (by omega)]
    refine imc_s ⟨fun c i c1 c2 => A _ _ (by omega) (by omega), fun i => A _ _ (ly_1r t1) (ly_143 t1), by omega, ?_⟩ X
    unfold ln_I
    split
    · rfl
    · exact A _ _ (by omega) (by omega)
  · have ef : g (57 + 1) = h (57 + 1) := funext (fun j => A _ _ (by omega) (by omega))
    unfold un_R
    rw [ef]
    intro x y hx hy
    rw [show g (57 + 2) (16 * x + y) = h (57 + 2) (16 * x + y) from A _ _ (by omega) (by omega)]
    exact n1 x y hx hy
theorem vc_f10 {c : Nat} {v b : Int} (hb : b ≤ 100000) : ∀ (f a : Nat) (g : ms_M), Pc (qw_J7_fill_fda19_10 nn f c b v (a : Int) g) (fun r => (∀ x j : Nat, ¬ (x = c ∧ a ≤ j ∧ (j : Int) < b) → r x j = g x j) ∧ ∀ j : Nat, a ≤ j → (j : Int) < b → r c j = v) := by
  intro f
  induction f with
  | zero => intro a g; exact pc_none
  | succ f ih =>
    intro a g
    unfold qw_J7_fill_fda19_10
    refine pc_if (fun w => pc_ret ⟨fun _ _ _ => rfl, fun j h1 h2 => by omega⟩) (fun w => ?_)
    intro r e
    have e := ws_i e
    rw [xl_eq, oq_add_eq (by omega) (by omega) (by omega)] at e
    have e : qw_J7_fill_fda19_10 nn f c b v ((a + 1 : Nat) : Int) (up_M g c (a : Int).toNat v) = some r := e
    obtain ⟨r1, r2⟩ := ih (a + 1) _ r e
    refine ⟨fun x j z => ?_, fun j h1 h2 => ?_⟩
    · rw [r1 x j (by omega), up_n (by omega)]
    · by_cases z : j = a
      · rw [r1 c j (by omega), z]; exact up_s
      · exact r2 j (by omega) h2
theorem vc_fillR {c : Nat} {v b : Int} {a : Nat} (hb : b ≤ 100000) : Pc (qf_J7_fill_fda19 nn c (a : Int) b v h) (fun r => (∀ x j : Nat, ¬ (x = c ∧ a ≤ j ∧ (j : Int) < b) → r x j = h x j) ∧ ∀ j : Nat, a ≤ j → (j : Int) < b → r c j = v) := by
  unfold qf_J7_fill_fda19
  refine pc_lS (fun v4 _ => pc_se (fun u5 _ => ?_))
  exact vc_f10 hb nn a h
theorem vr_e42 {d : Nat} : ∀ (f n : Nat) (g : ms_M), n ≤ 60 → d < 60 → g 160 149 = (d : Int) → (∀ x : Nat, x < n → g 255 (60 * d + x) = 0) → Pc (qw_X13_enter_42 nn f (n : Int) g) (fun r => (∀ x j : Nat, ¬ (x = 160 ∧ j = 149) → ¬ (x = 255 ∧ 60 * d ≤ j ∧ j < 60 * d + 60) → r x j = g x j) ∧ r 160 149 = (d : Int) + 1 ∧ ∀ x : Nat, x < 60 → r 255 (60 * d + x) = 0) := by
  intro f
  induction f with
  | zero => intro n g _ _ _ _; exact pc_none
  | succ f ih =>
    intro n g hn hd e L
    unfold qw_X13_enter_42
    refine pc_if (fun w => ?_) (fun w => ?_)
    · refine pc_add (by omega) ?_; intro v2 e2
      refine pc_xl ?_; intro h3 e3
      refine pc_ret ⟨fun x j z1 z2 => by rw [e3, up_n z1], by rw [e3, up_s, e2, e], fun x hx => ?_⟩
      rw [e3, up_n (by omega)]
      exact L x (by omega)
    · refine pc_xl ?_; intro v6 e6
      rw [oq_mul_eq (by omega) (by omega) (by omega)] at e6
      refine pc_add (by omega) ?_; intro v7 e7
      refine pc_wA ?_; intro _ _ h8 e8
      refine pc_add (by omega) ?_; intro v9 e9
      have ev : v7.toNat = 60 * d + n := by omega
      rw [ev] at e8
      rw [show v9 = ((n + 1 : Nat) : Int) by omega]
      refine pc_imp (ih (n + 1) h8 (by omega) hd (by rw [e8, up_n (by omega)]; exact e) (fun x hx => ?_)) (fun r ⟨r1, r2, r3⟩ => ⟨fun x j z1 z2 => ?_, r2, r3⟩)
      · by_cases z : x = n
        · rw [z, e8, up_s]
        · rw [e8, up_n (by omega)]; exact L x (by omega)
      · rw [r1 x j z1 z2, e8, up_n (by omega)]
/-- A METHOD BEGINS, the reference -/
theorem vr_enter {c m : Int} : Pc (qf_X13_enter nn c m h) (ERb c m h) := by
  unfold qf_X13_enter
  refine pc_wA ?_; intro d0 d1 h13 e13
  refine pc_wA ?_; intro _ _ h16 e16
  refine pc_wA ?_; intro _ _ h19 e19
  refine pc_wA ?_; intro _ _ h22 e22
  have d13 : h13 160 149 = h 160 149 := by rw [e13, up_n (by omega)]
  have d16 : h16 160 149 = h 160 149 := by rw [e16, up_n (by omega)]; exact d13
  have d19 : h19 160 149 = h 160 149 := by rw [e19, up_n (by omega)]; exact d16
  have d22 : h22 160 149 = h 160 149 := by rw [e22, up_n (by omega)]; exact d19
  rw [d13] at e16
  rw [d16] at e19
  rw [d19] at e22
  refine pc_imp (vr_e42 (d := (h 160 149).toNat) nn 0 h22 (by omega) (by omega) (by omega) (fun x hx => absurd hx (by omega))) (fun r ⟨r1, r2, r3⟩ => ⟨fun x j z1 z2 z3 => ?_, by omega, ⟨?_, ?_, ?_, ?_⟩, r3⟩)
  · rw [r1 x j z1 z3, e22, up_n (by omega), e19, up_n (by omega), e16, up_n (by omega), e13, up_n (by omega)]
  · rw [r1 251 _ (by omega) (by omega), e22, up_n (by omega), e19, up_n (by omega), e16, up_n (by omega), e13, up_s]
  · rw [r1 252 _ (by omega) (by omega), e22, up_n (by omega), e19, up_n (by omega), e16, up_s]
  · rw [r1 253 _ (by omega) (by omega), e22, up_n (by omega), e19, up_s]
  · rw [r1 254 _ (by omega) (by omega), e22, up_s]
/-- A METHOD BEGINS, the class -/
theorem vc_begM (S : CSw Bf nf h) (hk : (k : Int) < h 56 3) (hi : (i : Int) < mc_S (Bf k) (nf k)) (hd : 0 ≤ h 143 6 ∧ h 143 6 < 60) (h3 : 0 ≤ a3 ∧ a3 ≤ 30) : Pc (qf_X5_beginMethod nn ((k : Int) * 12 + (i : Int)) a2 a3 h) (BMc Bf nf k i a2 a3 h) := by
  have k8 := S.1.1
  have m12 := ((cg_im (S.1.2 k hk)).1).2.2.1
  obtain ⟨d, ed⟩ : ∃ d : Nat, h 143 6 = (d : Int) := ⟨(h 143 6).toNat, by omega⟩
  have ed' : (h 143 6).toNat = d := by omega
  unfold BMc
  rw [ed']
  unfold qf_X5_beginMethod
  refine pc_if (fun _ => ?_) (fun w => absurd hd.2 w)
  refine pc_xl ?_; intro v3 e3
  rw [oq_mul_eq (by omega) (by omega) (by omega)] at e3
  refine pc_add (by omega) ?_; intro v5 e5
  have e3' : v3 = ((30 * d : Nat) : Int) := by omega
  rw [e3', show v5 = ((30 * d + 30 : Nat) : Int) by omega]
  refine pc_sv (vc_fillR (a := 30 * d) (by omega)) ?_; intro u6 ⟨F6, Z6⟩
  refine pc_cpS ?_; intro h9 e9
  rw [Int.toNat_natCast] at e9
  have F9 : ∀ x j : Nat, ¬ (x = 151 ∧ 30 * d ≤ j ∧ j < 30 * d + 30) → h9 x j = h x j := fun x j z => by
    rw [e9]
    show (if x = 151 ∧ 30 * d ≤ j ∧ j < 30 * d + a3.toNat then u6 152 (a2.toNat + (j - 30 * d)) else u6 x j) = h x j
    rw [if_neg (by omega)]
    exact F6 x j (by omega)
  have L9 : ∀ n : Nat, n < 30 → h9 151 (30 * d + n) = if (n : Int) < a3 then h 152 (a2.toNat + n) else 0 := fun n hn => by
    rw [e9]
    show (if 151 = 151 ∧ 30 * d ≤ 30 * d + n ∧ 30 * d + n < 30 * d + a3.toNat then u6 152 (a2.toNat + (30 * d + n - 30 * d)) else u6 151 (30 * d + n)) = _
    by_cases z : (n : Int) < a3
    · rw [if_pos ⟨rfl, by omega, by omega⟩, if_pos z, show 30 * d + n - 30 * d = n by omega]
      exact F6 152 _ (by omega)
    · rw [if_neg (by omega), if_neg z]
      exact Z6 _ (by omega) (by omega)
  have d9 : h9 143 6 = (d : Int) := (F9 143 6 (by omega)).trans ed
  rw [d9]
  refine pc_wA ?_; intro _ _ h12 e12
  have d12 : h12 143 6 = (d : Int) := by rw [e12, up_n (by omega)]; exact d9
  rw [d12]
  refine pc_wA ?_; intro _ _ h15 e15
  have d15 : h15 143 6 = (d : Int) := by rw [e15, up_n (by omega)]; exact d12
  rw [d15]
  refine pc_wA ?_; intro _ _ h18 e18
  have d18 : h18 143 6 = (d : Int) := by rw [e18, up_n (by omega)]; exact d15
  rw [d18]
  rw [Int.toNat_natCast] at e12 e15 e18
  refine pc_add (by omega) ?_; intro v20 e20
  refine pc_xl ?_; intro h21 e21
  have F21 : ∀ x j : Nat, ¬ (x = 143 ∧ j = 6) → ¬ ((148 ≤ x ∧ x ≤ 150) ∧ j = d) → ¬ (x = 151 ∧ 30 * d ≤ j ∧ j < 30 * d + 30) → h21 x j = h x j := fun x j z1 z2 z3 => by
    rw [e21, up_n z1, e18, up_n (by omega), e15, up_n (by omega), e12, up_n (by omega)]
    exact F9 x j z3
  have g6 : h21 143 6 = (d : Int) + 1 := by rw [e21, up_s, e20]
  have g148 : h21 148 d = (k : Int) * 12 + (i : Int) := by rw [e21, up_n (by omega), e18, up_n (by omega), e15, up_n (by omega), e12, up_s]
  have g149 : h21 149 d = 0 := by rw [e21, up_n (by omega), e18, up_n (by omega), e15, up_s]
  have g150 : h21 150 d = 0 := by rw [e21, up_n (by omega), e18, up_s]
  have g151 : ∀ j : Nat, h21 151 j = h9 151 j := fun j => by rw [e21, up_n (by omega), e18, up_n (by omega), e15, up_n (by omega), e12, up_n (by omega)]
  unfold qf_X5_takeTop
  refine pc_sv (P := BMc Bf nf k i a2 a3 h) ?_ ?_
  · rw [g6]
    refine pc_sub (by omega) ?_; intro v2 e2
    refine pc_xl ?_; intro w3 e3
    have e3 : w3 = (d : Int) := by
      rw [e3]
      split <;> omega
    refine pc_xl ?_; intro h4 e4
    have s4 : h4 143 17 = (d : Int) := by rw [e4, up_s]; exact e3
    rw [s4]
    refine pc_rA ?_; intro _ _ v8 e8
    rw [Int.toNat_natCast, e4, up_n (by omega), g148] at e8
    have F4 : ∀ x j : Nat, ¬ (x = 143 ∧ (j = 6 ∨ j = 17)) → ¬ ((148 ≤ x ∧ x ≤ 150) ∧ j = d) → ¬ (x = 151 ∧ 30 * d ≤ j ∧ j < 30 * d + 30) → h4 x j = h x j := fun x j z1 z2 z3 => by
      rw [e4, up_n (by omega)]
      exact F21 x j (by omega) z2 z3
    have S4 : CSw Bf nf h4 := csw_r S (fun x j _ w => F4 x j (by omega) (by omega) (by omega))
    have c4 : h4 56 3 = h 56 3 := F4 56 3 (by omega) (by omega) (by omega)
    rw [e8]
    refine pc_sv (vc_iom S4.1 (d := 8 + (k : Int)) (j := i) (by omega) (by omega) (by omega)) ?_; intro u10 ⟨q10, p10⟩
    rw [show (8 + (k : Int) - 8).toNat = k by omega, F4 60 k (by omega) (by omega) (by omega)] at q10
    refine pc_if (fun w => absurd w (by omega)) (fun _ => ?_)
    refine pc_wR ?_; intro h14 e14
    have s14 : h14 143 18 = h 60 k := by rw [e14, up_s]; omega
    have F14 : ∀ x j : Nat, ¬ (x = 143 ∧ j = 18) → h14 x j = h4 x j := fun x j z => by rw [e14, up_n z]
    rw [s14]
    refine pc_ck (fun _ => ?_)
    rw [F14 143 17 (by omega), s4]
    refine pc_rA ?_; intro _ _ v18 e18'
    rw [Int.toNat_natCast, F14 148 d (by omega), e4, up_n (by omega), g148] at e18'
    refine pc_xl ?_; intro v19 e19
    rw [Int.tmod_eq_emod_of_nonneg (by omega)] at e19
    refine pc_ck (fun _ => ?_)
    have S14 : CSw Bf nf h14 := csw_r S4 (fun x j _ w => F14 x j (by omega))
    have c14 : h14 56 3 = h 56 3 := (F14 56 3 (by omega)).trans c4
    have X := S14.1.2 k (by omega)
    rw [F14 60 k (by omega), F4 60 k (by omega) (by omega) (by omega)] at X
    have MD := ((cg_im X).2.2.2 i hi).2.1.2
    rw [show v19 = (i : Int) by omega]
    refine pc_sv (vq_of X hi (w := 6) (by omega) MD) ?_; intro u21 q21
    refine pc_xl ?_; intro h22 e22
    refine pc_ret ?_
    unfold BMc
    rw [ed']
    have FF : ∀ x j : Nat, ¬ (x = 143 ∧ (j = 17 ∨ j = 18 ∨ j = 19)) → h22 x j = h21 x j := fun x j z => by
      rw [e22, up_n (by omega), F14 x j (by omega), e4, up_n (by omega)]
    refine ⟨fun x j z1 z2 z3 => ?_, ⟨?_, ?_, ?_, ?_⟩, ⟨?_, ?_, ?_⟩, fun n hn => ?_⟩
    · rw [FF x j (by omega)]; exact F21 x j (by omega) z2 z3
    · rw [FF 143 6 (by omega), g6]; omega
    · rw [e22, up_n (by omega), F14 143 17 (by omega), s4]; omega
    · rw [e22, up_n (by omega), s14]
    · rw [e22, up_s, q21]
    · rw [FF 148 d (by omega)]; exact g148
    · rw [FF 149 d (by omega)]; exact g149
    · rw [FF 150 d (by omega)]; exact g150
    · rw [FF 151 _ (by omega), g151]; exact L9 n hn
  · intro u23 q23
    unfold BMc at q23
    rw [ed'] at q23
    exact pc_ret q23
end
end
section
/- START of both sides -/
/-- a run can start: method i of class 8 + k -/
def STg (Bf : Nat → Nat → Int) (nf : Nat → Nat) (cnt v a1 a2 : Int) (k i : Nat) : Prop := ¬ v = 0 ∧ (a1 = 8 + (k : Int) ∧ a2 = (i : Int)) ∧ (k : Int) < cnt ∧ (i : Int) < mc_S (Bf k) (nf k) ∧ ¬ Bf k (ma_S (Bf k) (nf k) i) = 0 ∧ pi_S (Bf k) (nf k) (Bf k (ma_S (Bf k) (nf k) i + 2)) = some 0
def SCl (Bf : Nat → Nat → Int) (nf : Nat → Nat) (k i : Nat) (h g : ms_M) : Prop := (∀ c j : Nat, ¬ (c = 143 ∧ ((1 ≤ j ∧ j ≤ 7) ∨ (17 ≤ j ∧ j ≤ 19))) → ¬ ((148 ≤ c ∧ c ≤ 150) ∧ j = 0) → ¬ (c = 151 ∧ j < 30) → g c j = h c j) ∧ (g 143 1 = 1 ∧ g 143 2 = -1 ∧ g 143 3 = 0 ∧ g 143 4 = 0 ∧ g 143 5 = 0 ∧ g 143 6 = 1 ∧ g 143 7 = 0) ∧ (g 143 17 = 0 ∧ g 143 18 = h 60 k ∧ g 143 19 = ((ma_S (Bf k) (nf k) i + 7 : Nat) : Int)) ∧ (g 148 0 = (k : Int) * 12 + (i : Int) ∧ g 149 0 = 0 ∧ g 150 0 = 0) ∧ ∀ n : Nat, n < 30 → g 151 n = 0
def SRf (k i : Nat) (h g : ms_M) : Prop := (∀ c j : Nat, ¬ (c = 160 ∧ ((138 ≤ j ∧ j ≤ 143) ∨ j = 149)) → ¬ ((251 ≤ c ∧ c ≤ 254) ∧ j = 0) → ¬ (c = 255 ∧ j < 60) → g c j = h c j) ∧ (g 160 138 = 1 ∧ g 160 139 = -1 ∧ g 160 140 = 0 ∧ g 160 141 = 0 ∧ g 160 142 = 0 ∧ g 160 143 = 0 ∧ g 160 149 = 1) ∧ (g 251 0 = 8 + (k : Int) ∧ g 252 0 = (i : Int) ∧ g 253 0 = 0 ∧ g 254 0 = 0) ∧ ∀ n : Nat, n < 60 → g 255 n = 0
def QSc (Bf : Nat → Nat → Int) (nf : Nat → Nat) (a1 a2 : Int) (h : ms_M) (u : Int × ms_M) : Prop := (u = (0, h) ∧ ∀ k i : Nat, ¬ STg Bf nf (h 56 3) (h 56 4) a1 a2 k i) ∨ ∃ k i : Nat, STg Bf nf (h 56 3) (h 56 4) a1 a2 k i ∧ u.1 = 1 ∧ SCl Bf nf k i h u.2
def QSr (Bf : Nat → Nat → Int) (nf : Nat → Nat) (a1 a2 : Int) (h : ms_M) (u : Int × ms_M) : Prop := (u = (0, h) ∧ ∀ k i : Nat, ¬ STg Bf nf (h 160 98) (h 160 99) a1 a2 k i) ∨ ∃ k i : Nat, STg Bf nf (h 160 98) (h 160 99) a1 a2 k i ∧ u.1 = 1 ∧ SRf k i h u.2
section
variable {nn : Nat} {Bf : Nat → Nat → Int} {nf : Nat → Nat} {cnt : Int} {k i : Nat} {h g : ms_M} {a1 a2 : Int}
theorem vc_imh (c0 : 0 ≤ h 56 3 ∧ h 56 3 ≤ 8) {c : Int} (hc : 8 + h 56 3 ≤ c) : Pc (qf_X7_imageOf nn c h) (fun u => u = -1) := by
  unfold qf_X7_imageOf
  refine pc_if (fun _ => pc_ret rfl) (fun _ => ?_)
  refine pc_add (by omega) ?_; intro v2 e2
  exact pc_if (fun _ => pc_ret rfl) (fun w => absurd (show v2 ≤ c by omega) w)
theorem vc_brun (S : CSw Bf nf h) (hk : (k : Int) < h 56 3) (hi : (i : Int) < mc_S (Bf k) (nf k)) : Pc (qf_X5_beginRun nn (8 + (k : Int)) (i : Int) h) (SCl Bf nf k i h) := by
  have k8 := S.1.1
  have m12 := ((cg_im (S.1.2 k hk)).1).2.2.1
  unfold qf_X5_beginRun qf_X5_forget
  refine pc_sv (P := fun z => (∀ c j : Nat, ¬ (c = 143 ∧ (1 ≤ j ∧ j ≤ 7)) → z c j = h c j) ∧ z 143 2 = -1 ∧ z 143 3 = 0 ∧ z 143 4 = 0 ∧ z 143 5 = 0 ∧ z 143 6 = 0 ∧ z 143 7 = 0) ?_ ?_
  · refine pc_xl ?_; intro h1 e1
    refine pc_xl ?_; intro h2 e2
    refine pc_xl ?_; intro h3 e3
    refine pc_xl ?_; intro h4 e4
    refine pc_xl ?_; intro h5 e5
    refine pc_xl ?_; intro h6 e6
    refine pc_xl ?_; intro h7 e7
    refine pc_ret ⟨fun c j w => ?_, ?_, ?_, ?_, ?_, ?_, ?_⟩
    · rw [e7, up_n (by omega), e6, up_n (by omega), e5, up_n (by omega), e4, up_n (by omega), e3, up_n (by omega), e2, up_n (by omega), e1, up_n (by omega)]
    · rw [e7, up_n (by omega), e6, up_n (by omega), e5, up_n (by omega), e4, up_n (by omega), e3, up_n (by omega), e2, up_s]
    · rw [e7, up_n (by omega), e6, up_n (by omega), e5, up_n (by omega), e4, up_n (by omega), e3, up_s]
    · rw [e7, up_n (by omega), e6, up_n (by omega), e5, up_n (by omega), e4, up_s]
    · rw [e7, up_n (by omega), e6, up_n (by omega), e5, up_s]
    · rw [e7, up_n (by omega), e6, up_s]
    · rw [e7, up_s]
  intro u2 ⟨F, z2, z3, z4, z5, z6, z7⟩
  refine pc_xl ?_; intro h3 e3
  have F3 : ∀ c j : Nat, ¬ (c = 143 ∧ (1 ≤ j ∧ j ≤ 7)) → h3 c j = h c j := fun c j w => by rw [e3, up_n (by omega)]; exact F c j w
  have N3 : ∀ j : Nat, ¬ j = 1 → h3 143 j = u2 143 j := fun j w => by rw [e3, up_n (by omega)]
  refine pc_sub (by omega) ?_; intro v4 e4
  refine pc_xl ?_; intro v5 e5
  rw [oq_mul_eq (by omega) (by omega) (by omega)] at e5
  refine pc_add (by omega) ?_; intro v6 e6
  have S3 : CSw Bf nf h3 := csw_r S (fun c j _ w => F3 c j (by omega))
  have d3 : h3 143 6 = 0 := by rw [N3 6 (by omega)]; exact z6
  have B := vc_begM (nn := nn) S3 (k := k) (i := i) (by rw [F3 56 3 (by omega)]; exact hk) hi (by omega) (a2 := 0) (a3 := 0) (by omega)
  rw [show v6 = (k : Int) * 12 + (i : Int) by omega]
  refine pc_sv B ?_; intro u8 ⟨G, ⟨g6, g17, g18, g19⟩, ⟨g148, g149, g150⟩, g151⟩
  rw [d3] at G g6 g17 g148 g149 g150 g151
  refine pc_ret ⟨fun c j w1 w2 w3 => ?_, ⟨?_, ?_, ?_, ?_, ?_, ?_, ?_⟩, ⟨g17, ?_, g19⟩, ⟨g148, g149, g150⟩, fun n hn => ?_⟩
  · rw [G c j (by omega) (fun z => w2 ⟨z.1, z.2⟩) (fun z => w3 ⟨z.1, by have := z.2.2; omega⟩)]; exact F3 c j (by omega)
  · rw [G 143 1 (by omega) (by omega) (by omega), e3, up_s]
  · rw [G 143 2 (by omega) (by omega) (by omega), N3 2 (by omega)]; exact z2
  · rw [G 143 3 (by omega) (by omega) (by omega), N3 3 (by omega)]; exact z3
  · rw [G 143 4 (by omega) (by omega) (by omega), N3 4 (by omega)]; exact z4
  · rw [G 143 5 (by omega) (by omega) (by omega), N3 5 (by omega)]; exact z5
  · rw [g6]; omega
  · rw [G 143 7 (by omega) (by omega) (by omega), N3 7 (by omega)]; exact z7
  · rw [g18]; exact F3 60 k (by omega)
  · have := g151 n hn
    rw [if_neg (by omega)] at this
    rw [show 30 * (0 : Int).toNat + n = n by omega] at this
    exact this
/-- START, the class -/
theorem vc_start (S : CSw Bf nf h) : Pc (qf_X12_start nn a1 a2 h) (QSc Bf nf a1 a2 h) := by
  have k8 := S.1.1
  have NO : (∀ k i : Nat, ¬ STg Bf nf (h 56 3) (h 56 4) a1 a2 k i) → Pc (some ((0 : Int), h)) (QSc Bf nf a1 a2 h) := fun w => pc_ret (.inl ⟨rfl, w⟩)
  unfold qf_X12_start
  by_cases w : 8 ≤ a1 ∧ a1 < 8 + h 56 3
  · obtain ⟨k, ek⟩ : ∃ k : Nat, a1 = 8 + (k : Int) := ⟨(a1 - 8).toNat, by omega⟩
    have hk : (k : Int) < h 56 3 := by omega
    have X := S.1.2 k hk
    have k3 : kc_O (h 60 k).toNat = 3 := X.1.1.1
    have h60 : 0 ≤ h 60 k := Classical.byContradiction fun w => by
      rw [show (h 60 k).toNat = 0 by omega] at k3
      exact absurd k3 (by decide)
    obtain ⟨G, -, e12, MD⟩ := cg_im X
    refine pc_sv (vc_img S.1 (c := a1) w.1 w.2) ?_; intro u3 q3
    rw [show (a1 - 8).toNat = k by omega] at q3
    rw [q3]
    refine pc_if (fun z => NO (fun k i q => q.1 z)) (fun z4 => ?_)
    refine pc_if (fun z => absurd z (by omega)) (fun _ => ?_)
    refine pc_if (fun z => NO (fun k i q => by have := q.2.1.2; omega)) (fun z2 => ?_)
    refine pc_ck (fun _ => ?_)
    rw [e12]
    refine pc_if (fun z => ?_) (fun z => NO (fun k2 i q => by
      have e : k2 = k := by have := q.2.1.1; omega
      have q4 := q.2.2.2.1
      rw [e] at q4
      have := q.2.1.2
      omega))
    obtain ⟨i, ei⟩ : ∃ i : Nat, a2 = (i : Int) := ⟨a2.toNat, by omega⟩
    have hi : (i : Int) < mc_S (Bf k) (nf k) := by omega
    have M := MD i hi
    have GM := G.2.2.2 i hi
    have KI : ∀ k2 i2 : Nat, STg Bf nf (h 56 3) (h 56 4) a1 a2 k2 i2 → k2 = k ∧ i2 = i := fun k2 i2 q => ⟨by have := q.2.1.1; omega, by have := q.2.1.2; omega⟩
    rw [ei]
    refine pc_sv (vq_of X hi (w := 0) (by omega) M.1.1) ?_; intro u10 q10
    refine pc_if (fun z0 => ?_) (fun z0 => ?_)
    · rw [← ei]
      refine NO (fun k2 i2 q => ?_)
      obtain ⟨x1, x2⟩ := KI k2 i2 q
      have := q.2.2.2.2.1
      rw [x1, x2, ← q10] at this
      exact this z0
    · refine pc_sv (vq_of X hi (w := 11) (by omega) M.1.2.2.2.1) ?_; intro u12 q12
      obtain ⟨m, em, _⟩ := GM.2.1
      rw [em] at q12
      have q12 : u12 = (m : Int) := q12
      refine pc_if (fun zz => ?_) (fun zz => ?_)
      · rw [ek]
        refine pc_sv (vc_brun S hk hi) ?_; intro u15 q15
        refine pc_ret (.inr ⟨k, i, ⟨z4, ⟨rfl, rfl⟩, hk, hi, by rw [← q10]; exact z0, ?_⟩, rfl, q15⟩)
        rw [em, show m = 0 by omega]
      · rw [← ei]
        refine NO (fun k2 i2 q => ?_)
        obtain ⟨x1, x2⟩ := KI k2 i2 q
        have := q.2.2.2.2.2
        rw [x1, x2, em] at this
        have := Option.some.inj this
        omega
  · have I : Pc (qf_X7_imageOf nn a1 h) (fun u => u = -1) := by
      by_cases z : a1 < 8
      · exact vc_im0 z
      · exact vc_imh k8 (by omega)
    refine pc_sv I ?_; intro u3 q3
    have N : ∀ k i : Nat, ¬ STg Bf nf (h 56 3) (h 56 4) a1 a2 k i := fun k i q => w (by have := q.2.1.1; have := q.2.2.1; omega)
    exact pc_if (fun _ => NO N) (fun _ => pc_if (fun _ => NO N) (fun z => absurd (show u3 < 0 by omega) z))
/-- START, the reference -/
theorem vr_startR (ra : -2147483648 ≤ a1 ∧ a1 ≤ 2147483647) (S : RSv Bf nf h) : Pc (qf_X13_start nn a1 a2 h) (QSr Bf nf a1 a2 h) := by
  have k8 := S.1
  have NO : (∀ k i : Nat, ¬ STg Bf nf (h 160 98) (h 160 99) a1 a2 k i) → Pc (some ((0 : Int), h)) (QSr Bf nf a1 a2 h) := fun w => pc_ret (.inl ⟨rfl, w⟩)
  unfold qf_X13_start
  refine pc_xl ?_; intro v4 e4
  have ev : (0 ≤ v4 ∧ v4 < h 160 98) ∨ (8 ≤ a1 ∧ a1 < 8 + h 160 98) → v4 = a1 - 8 := fun w => by
    by_cases y : -2147483648 ≤ a1 - 8
    · rw [e4]; exact oq_sub_eq ra (by omega) (by omega)
    · have s := sub8 ra (by omega)
      exfalso; omega
  have IN : ∀ k i : Nat, STg Bf nf (h 160 98) (h 160 99) a1 a2 k i → v4 = (k : Int) := fun k i q => by
    have := q.2.1.1
    have := q.2.2.1
    have := ev (.inr (by omega))
    omega
  refine pc_if (fun z => NO (fun k i q => q.1 z)) (fun z9 => ?_)
  refine pc_if (fun z => NO (fun k i q => by have := IN k i q; omega)) (fun y1 => ?_)
  refine pc_if (fun z => NO (fun k i q => by have := IN k i q; have := q.2.2.1; omega)) (fun y2 => ?_)
  refine pc_if (fun z => NO (fun k i q => by have := q.2.1.2; omega)) (fun y3 => ?_)
  have ea := ev (.inl (by omega))
  obtain ⟨k, ek⟩ : ∃ k : Nat, v4 = (k : Int) := ⟨v4.toNat, by omega⟩
  subst ek
  have hk : (k : Int) < h 160 98 := by omega
  obtain ⟨n6, k8'⟩ := tb_n6 S hk
  obtain ⟨G, -, e234, MD⟩ := rg_im (S.2 k hk)
  refine pc_rA ?_; intro _ _ v8 e8
  rw [e234] at e8
  have m12 := G.2.2.1
  have KI : ∀ k2 i2 : Nat, STg Bf nf (h 160 98) (h 160 99) a1 a2 k2 i2 → k2 = k ∧ (i2 : Int) = a2 := fun k2 i2 q => ⟨by have := q.2.1.1; omega, by have := q.2.1.2; omega⟩
  refine pc_if (fun z => ?_) (fun z => NO (fun k2 i2 q => by
    obtain ⟨x1, x2⟩ := KI k2 i2 q
    have q4 := q.2.2.2.1
    rw [x1] at q4
    omega))
  obtain ⟨i, ei⟩ : ∃ i : Nat, a2 = (i : Int) := ⟨a2.toNat, by omega⟩
  have hi : (i : Int) < mc_S (Bf k) (nf k) := by omega
  subst ei
  have GM := G.2.2.2 i hi
  obtain ⟨m, em, _⟩ := GM.2.1
  obtain ⟨tg1, ps, MK⟩ := pi_ps em
  obtain ⟨w1, w2, w3⟩ := tg_in (B := Bf k) (n := nf k) (k := Bf k (ma_S (Bf k) (nf k) i + 2)) (by omega)
  obtain ⟨p1, p2, p3⟩ := tb_pl S hk w1 w2
  have p4 := (p2.2.1 (by omega)).1
  have rg := mkd_rg MK 0 (Nat.zero_le _)
  have na : na_S (Bf k) (nf k) (Bf k (ma_S (Bf k) (nf k) i + 2)) = pl_S (Bf k) (nf k) (Bf k (ma_S (Bf k) (nf k) i + 2)) + 2 := rfl
  have ps0 := MK.1.2.1
  have man : ma_S (Bf k) (nf k) i < nf k := by have := GM.2.2.2.1; omega
  have kt : kt_S (Bf k) (nf k) i 1 = Bf k (ma_S (Bf k) (nf k) i + 2) := by unfold kt_S; rw [if_neg (by decide)]
  refine pc_xl ?_; intro v9 e9
  rw [oq_mul_eq (by omega) (by omega) (by omega)] at e9
  refine pc_xl ?_; intro v11 e11
  rw [oq_mul_eq (by omega) (by omega) (by omega)] at e11
  have q := (vq_rtx (nn := nn) S hk (j := i) (s := 1) (by unfold mb_S; rw [if_neg (by decide)]; exact hi)).2
  rw [kt] at q
  refine pc_sv q ?_; intro u13 q13
  refine pc_add (by omega) ?_; intro v14 e14
  refine pc_rA ?_; intro _ _ v15 e15
  rw [show v14.toNat = (256 * (k : Int) + Bf k (ma_S (Bf k) (nf k) i + 2)).toNat by omega, p1] at e15
  refine pc_add (by omega) ?_; intro v16 e16
  refine pc_add (by omega) ?_; intro v17 e17
  refine pc_xl ?_; intro v19 e19
  rw [oq_mul_eq (by omega) (by omega) (by omega)] at e19
  refine pc_add (by omega) ?_; intro v20 e20
  refine pc_rA ?_; intro _ _ v21 e21
  rw [show v20.toNat = (12 * (k : Int) + (i : Int)).toNat by omega, (MD i hi).1] at e21
  rw [e21]
  refine pc_sv (vq_rbyte S hk man) ?_; intro u23 q23
  refine pc_if (fun z0 => ?_) (fun z0 => ?_)
  · refine NO (fun k2 i2 q => ?_)
    obtain ⟨x1, x2⟩ := KI k2 i2 q
    have := q.2.2.2.2.1
    rw [x1, show i2 = i by omega, ← q23] at this
    exact this z0
  · refine pc_add (by omega) ?_; intro v25 e25
    refine pc_rA ?_; intro _ _ v26 e26
    rw [show v25.toNat = 6000 * k + (pl_S (Bf k) (nf k) (Bf k (ma_S (Bf k) (nf k) i + 2)) + 3) by omega, tb_by S hk (by omega), show pl_S (Bf k) (nf k) (Bf k (ma_S (Bf k) (nf k) i + 2)) + 3 = ps 0 by omega] at e26
    refine pc_if (fun zz => ?_) (fun zz => ?_)
    · have m0 : m = 0 := Classical.byContradiction fun w => (MK.2.1 0 (by omega)).2 (by rw [← e26]; exact zz)
      refine pc_xl ?_; intro h27 e27
      refine pc_xl ?_; intro h28 e28
      refine pc_xl ?_; intro h29 e29
      refine pc_xl ?_; intro h30 e30
      refine pc_xl ?_; intro h31 e31
      refine pc_xl ?_; intro h32 e32
      unfold qj_X13_start_133
      refine pc_xl ?_; intro h1 e1
      have d1 : h1 160 149 = 0 := by rw [e1, up_s]
      have F1 : ∀ c j : Nat, ¬ (c = 160 ∧ ((138 ≤ j ∧ j ≤ 143) ∨ j = 149)) → h1 c j = h c j := fun c j w => by
        rw [e1, up_n (by omega), e32, up_n (by omega), e31, up_n (by omega), e30, up_n (by omega), e29, up_n (by omega), e28, up_n (by omega), e27, up_n (by omega)]
      refine pc_sv (vr_enter (c := a1) (m := (i : Int))) ?_; intro u3 ⟨r1, r2, ⟨r3, r4, r5, r6⟩, r7⟩
      rw [d1] at r1 r2 r3 r4 r5 r6 r7
      have r0 := r1
      have r1 : ∀ j : Nat, ¬ j = 149 → u3 160 j = h1 160 j := fun j w => r0 160 j (by omega) (by omega) (by omega)
      suffices R : SRf k i h u3 from pc_ret (.inr ⟨k, i, ⟨z9, ⟨by omega, rfl⟩, hk, hi, by rw [← q23]; exact z0, by rw [em, m0]⟩, rfl, R⟩)
      refine ⟨fun c j x1 x2 x3 => ?_, ⟨?_, ?_, ?_, ?_, ?_, ?_, ?_⟩, ⟨?_, r4, r5, r6⟩, fun n hn => ?_⟩
      · rw [r0 c j (by omega) (fun y => x2 ⟨y.1, y.2⟩) (fun y => x3 ⟨y.1, by have := y.2.2; omega⟩)]
        exact F1 c j x1
      · rw [r1 138 (by omega), e1, up_n (by omega), e32, up_n (by omega), e31, up_n (by omega), e30, up_n (by omega), e29, up_n (by omega), e28, up_n (by omega), e27, up_s]
      · rw [r1 139 (by omega), e1, up_n (by omega), e32, up_n (by omega), e31, up_n (by omega), e30, up_n (by omega), e29, up_n (by omega), e28, up_s]
      · rw [r1 140 (by omega), e1, up_n (by omega), e32, up_n (by omega), e31, up_n (by omega), e30, up_n (by omega), e29, up_s]
      · rw [r1 141 (by omega), e1, up_n (by omega), e32, up_n (by omega), e31, up_n (by omega), e30, up_s]
      · rw [r1 142 (by omega), e1, up_n (by omega), e32, up_n (by omega), e31, up_s]
      · rw [r1 143 (by omega), e1, up_n (by omega), e32, up_s]
      · exact r2
      · rw [show u3 251 0 = a1 from r3]; omega
      · have := r7 n hn
        rw [show 60 * (0 : Int).toNat + n = n by omega] at this
        exact this
    · refine NO (fun k2 i2 q => ?_)
      obtain ⟨x1, x2⟩ := KI k2 i2 q
      have y := q.2.2.2.2.2
      rw [x1, show i2 = i by omega, em] at y
      have m0 := Option.some.inj y
      rw [m0] at MK
      exact zz (by rw [e26]; exact MK.2.2.1.1)
end
end
section
/- START ANSWERS ALIKE -/
section
variable {nn : Nat} {Bf : Nat → Nat → Int} {nf : Nat → Nat} {cnt : Int} {M h g : ms_M} {a1 a2 : Int}
theorem csp_r (S : CSp Bf nf h) (c0 : 0 ≤ h 56 3 ∧ h 56 3 ≤ 8) (A : ∀ c j : Nat, c < 160 ∨ 256 ≤ c → ¬ (143 ≤ c ∧ c ≤ 152) → g c j = h c j) : CSp Bf nf g := by
  have W : CSw Bf nf g := csw_r ⟨⟨c0, S.1⟩, S.2.1⟩ A
  have e3 : g 56 3 = h 56 3 := A _ _ (by omega) (by omega)
  refine ⟨W.1.2, W.2, ?_⟩
  obtain ⟨s1, _, s3⟩ := S
  intro j k hj hk jk
  have ij := im_at (s1 j (by omega)).1.1.1
  have ik := im_at (s1 k (by omega)).1.1.1
  rw [A 60 j (by omega) (by omega), A 60 k (by omega) (by omega), A (h 60 j).toNat 0 (by omega) (by omega), A (h 60 k).toNat 0 (by omega) (by omega)]
  exact s3 j k (by omega) (by omega) jk
/-- .. and what they leave behind -/
theorem st_V (E : SPE Bf nf M) (R : rn_R M) (W : wh_R M) (ra : -2147483648 ≤ a1 ∧ a1 ≤ 2147483647) {u v : Int × ms_M} (e1 : qf_X12_start nn a1 a2 M = some u) (e2 : qf_X13_start nn a1 a2 u.2 = some v) : u.1 = v.1 ∧ SPE Bf nf v.2 ∧ rn_R v.2 ∧ wh_R v.2 ∧ ((u.1 = 0 ∧ v.2 = M) ∨ (u.1 = 1 ∧ ∃ k i : Nat, STg Bf nf (M 56 3) (M 56 4) a1 a2 k i ∧ SCl Bf nf k i M u.2 ∧ SRf k i u.2 v.2)) := by
  have E' := E
  obtain ⟨⟨p1, p2, p3⟩, C, TB, N⟩ := E
  have S : CSw Bf nf M := ⟨⟨p2, C.1⟩, C.2.1⟩
  have RM : RSv Bf nf M := ⟨by rw [p1]; exact p2, TB⟩
  have qc := vc_start (nn := nn) (a1 := a1) (a2 := a2) S u e1
  rcases qc with ⟨eu, n0⟩ | ⟨k, i, G, u1, CL⟩
  · rw [eu] at e2 ⊢
    have qr := vr_startR (nn := nn) (a2 := a2) ra RM v e2
    rcases qr with ⟨ev, _⟩ | ⟨k, i, G, _⟩
    · rw [ev]
      exact ⟨rfl, E', R, W, .inl ⟨rfl, rfl⟩⟩
    · rw [p1, p3] at G
      exact absurd G (n0 k i)
  · have C1 := CL.1
    have RS : RSv Bf nf u.2 := rsv_k RM (fun x j w => C1 x j (by omega) (by omega) (by omega)) (C1 160 98 (by omega) (by omega) (by omega))
    have qr := vr_startR (nn := nn) (a2 := a2) ra RS v e2
    unfold QSr at qr
    rw [C1 160 98 (by omega) (by omega) (by omega), C1 160 99 (by omega) (by omega) (by omega), p1, p3] at qr
    rcases qr with ⟨_, n0⟩ | ⟨k2, i2, G2, v1, SR⟩
    · exact absurd G (n0 k i)
    have ek : k2 = k := by have := G.2.1.1; have := G2.2.1.1; omega
    have ei : i2 = i := by have := G.2.1.2; have := G2.2.1.2; omega
    rw [ek, ei] at SR
    have hk := G.2.2.1
    have hi := G.2.2.2.1
    have m12 := ((cg_im (S.1.2 k hk)).1).2.2.1
    have SR' := SR
    have CL' := CL
    obtain ⟨R1, ⟨r138, r139, r140, r141, r142, r143, r149⟩, ⟨r251, r252, r253, r254⟩, _⟩ := SR
    obtain ⟨_, ⟨c1, c2, c3, c4, c5, c6, c7⟩, ⟨c17, _, _⟩, ⟨c148, c149, c150⟩, _⟩ := CL
    have v143 : ∀ j : Nat, v.2 143 j = u.2 143 j := fun j => R1 143 j (by omega) (by omega) (by omega)
    have VM : ∀ c j : Nat, ¬ (143 ≤ c ∧ c ≤ 152) → ¬ (c = 160 ∧ ((138 ≤ j ∧ j ≤ 143) ∨ j = 149)) → ¬ (251 ≤ c ∧ c ≤ 255) → v.2 c j = M c j := fun c j w1 w2 w3 => (R1 c j w2 (by omega) (by omega)).trans (C1 c j (by omega) (by omega) (by omega))
    have v563 : v.2 56 3 = M 56 3 := VM 56 3 (by omega) (by omega) (by omega)
    have v98 : v.2 160 98 = M 160 98 := VM 160 98 (by omega) (by omega) (by omega)
    refine ⟨by rw [u1, v1], ⟨⟨by rw [v98, v563, p1], by rw [v563]; exact p2, ?_⟩, csp_r C p2 (fun c j w1 w2 => VM c j w2 (by omega) (by omega)), ?_, by rw [v563]; exact N⟩, ?_, ?_, .inr ⟨u1, k, i, G, CL', SR'⟩⟩
    · rw [VM 160 99 (by omega) (by omega) (by omega), VM 56 4 (by omega) (by omega) (by omega)]; exact p3
    · exact (rsv_k RM (fun x j w => VM x j (by omega) (by omega) (by omega)) v98).2
    · unfold rn_R
      rw [v143 1, v143 2, v143 3, v143 4, v143 5, v143 6, v143 7, v143 17, c1, c2, c3, c4, c5, c6, c7, c17]
      refine ⟨r138, by omega, fun z => absurd z (by decide), fun _ => ⟨r140, r141, r142, r149, r143, fun i z _ => absurd z (by omega)⟩, fun z => by omega, fun _ _ => rfl, fun _ => ⟨by omega, by omega, fun j hj => ?_⟩⟩
      have j0 : j = 0 := by omega
      rw [j0, r251, r252, r253, r254, R1 148 0 (by omega) (by omega) (by omega), R1 149 0 (by omega) (by omega) (by omega), R1 150 0 (by omega) (by omega) (by omega), c148, c149, c150]
      exact ⟨by omega, by omega, by omega, rfl, rfl⟩
    · obtain ⟨w1, w2, w3⟩ := W
      unfold wh_R
      rw [VM 160 123 (by omega) (by omega) (by omega), VM 160 124 (by omega) (by omega) (by omega), VM 160 125 (by omega) (by omega) (by omega), VM 127 2 (by omega) (by omega) (by omega), VM 127 3 (by omega) (by omega) (by omega), VM 127 4 (by omega) (by omega) (by omega)]
      exact ⟨w1, w2, w3⟩
end
end
section
/- RUN: the small steps of both machines, told exactly. t: the uppermost frame, H: its height -/
section
variable {nn : Nat} {Bf : Nat → Nat → Int} {nf : Nat → Nat} {k i t H : Nat} {h g : ms_M} {v w : Int}
theorem rc_push (ht : h 143 17 = (t : Int)) (t60 : t < 60) (eH : h 150 t = (H : Int)) (h30 : H < 30) : Pc (qf_X5_push nn v h) (fun g => g = up_M (up_M h 152 (30 * t + H) v) 150 t ((H + 1 : Nat) : Int)) := by
  unfold qf_X5_push
  rw [ht]
  refine pc_rA ?_; intro _ _ v3 e3
  rw [Int.toNat_natCast, eH] at e3
  refine pc_if (fun _ => ?_) (fun z => absurd (show v3 < 30 by omega) z)
  refine pc_xl ?_; intro v6 e6
  rw [oq_mul_eq (by omega) (by omega) (by omega)] at e6
  refine pc_add (by omega) ?_; intro v7 e7
  refine pc_wA ?_; intro _ _ h8 e8
  rw [show v7.toNat = 30 * t + H by omega] at e8
  refine pc_add (by omega) ?_; intro v11 e11
  have h17 : h8 143 17 = (t : Int) := by rw [e8, up_n (by omega)]; exact ht
  rw [h17]
  refine pc_wA ?_; intro _ _ h12 e12
  rw [Int.toNat_natCast, e8, show v11 = ((H + 1 : Nat) : Int) by omega] at e12
  exact pc_ret e12
theorem rc_pop (ht : h 143 17 = (t : Int)) (t60 : t < 60) (eH : h 150 t = ((H + 1 : Nat) : Int)) (h30 : H < 30) : Pc (qf_X5_pop nn h) (fun u => u.1 = h 152 (30 * t + H) ∧ u.2 = up_M h 150 t (H : Int)) := by
  unfold qf_X5_pop
  rw [ht]
  refine pc_rA ?_; intro _ _ v3 e3
  rw [Int.toNat_natCast, eH] at e3
  refine pc_sub (by omega) ?_; intro v4 e4
  refine pc_if (fun _ => ?_) (fun z => absurd (show 0 ≤ v4 by omega) z)
  refine pc_wA ?_; intro _ _ h7 e7
  rw [Int.toNat_natCast, show v4 = (H : Int) by omega] at e7
  have h17 : h7 143 17 = (t : Int) := by rw [e7, up_n (by omega)]; exact ht
  rw [h17]
  refine pc_xl ?_; intro v10 e10
  rw [oq_mul_eq (by omega) (by omega) (by omega)] at e10
  refine pc_add (by omega) ?_; intro v11 e11
  refine pc_rA ?_; intro _ _ v12 e12
  rw [show v11.toNat = 30 * t + H by omega, e7, up_n (by omega)] at e12
  exact pc_ret ⟨e12, e7⟩
theorem rc_go (ht : h 143 17 = (t : Int)) (p : 0 ≤ h 149 t ∧ h 149 t ≤ 10000) (hw : -10000 ≤ w ∧ w ≤ 10000) : Pc (qf_X5_goOn nn w h) (fun g => g = up_M h 149 t (h 149 t + w)) := by
  unfold qf_X5_goOn
  rw [ht]
  refine pc_rA ?_; intro _ _ v3 e3
  rw [Int.toNat_natCast] at e3
  refine pc_add (by omega) ?_; intro v4 e4
  refine pc_wA ?_; intro _ _ h5 e5
  rw [Int.toNat_natCast, e4, e3] at e5
  exact pc_ret e5
theorem rr_give (ht : h 160 149 = (t : Int) + 1) (t60 : t < 60) (eH : h 254 t = (H : Int)) (h30 : H < 30) : Pc (qf_X13_give nn v h) (fun g => g = up_M (up_M h 255 (60 * t + 30 + H) v) 254 t ((H + 1 : Nat) : Int)) := by
  unfold qf_X13_give
  rw [ht]
  refine pc_sub (by omega) ?_; intro v2 e2
  rw [show v2 = (t : Int) by omega]
  refine pc_xl ?_; intro v4 e4
  rw [oq_mul_eq (by omega) (by omega) (by omega)] at e4
  refine pc_add (by omega) ?_; intro v5 e5
  refine pc_rA ?_; intro _ _ v7 e7
  rw [Int.toNat_natCast, eH] at e7
  refine pc_add (by omega) ?_; intro v8 e8
  refine pc_wA ?_; intro _ _ h9 e9
  rw [show v8.toNat = 60 * t + 30 + H by omega] at e9
  refine pc_rA ?_; intro _ _ v11 e11
  rw [Int.toNat_natCast, e9, up_n (by omega), eH] at e11
  refine pc_add (by omega) ?_; intro v12 e12
  refine pc_wA ?_; intro _ _ h13 e13
  rw [Int.toNat_natCast, e9, show v12 = ((H + 1 : Nat) : Int) by omega] at e13
  exact pc_ret e13
theorem rr_drop (ht : h 160 149 = (t : Int) + 1) (t60 : t < 60) (eH : h 254 t = ((H + 1 : Nat) : Int)) (h30 : H < 30) : Pc (qf_X13_drop nn h) (fun u => u.1 = h 255 (60 * t + 30 + H) ∧ u.2 = up_M h 254 t (H : Int)) := by
  unfold qf_X13_drop
  rw [ht]
  refine pc_sub (by omega) ?_; intro v2 e2
  rw [show v2 = (t : Int) by omega]
  refine pc_rA ?_; intro _ _ v4 e4
  rw [Int.toNat_natCast, eH] at e4
  refine pc_sub (by omega) ?_; intro v5 e5
  refine pc_wA ?_; intro _ _ h6 e6
  rw [Int.toNat_natCast, show v5 = (H : Int) by omega] at e6
  refine pc_xl ?_; intro v8 e8
  rw [oq_mul_eq (by omega) (by omega) (by omega)] at e8
  refine pc_add (by omega) ?_; intro v9 e9
  refine pc_rA ?_; intro _ _ v11 e11
  rw [Int.toNat_natCast, e6, up_s] at e11
  refine pc_add (by omega) ?_; intro v12 e12
  refine pc_rA ?_; intro _ _ v13 e13
  rw [show v12.toNat = 60 * t + 30 + H by omega, e6, up_n (by omega)] at e13
  exact pc_ret ⟨e13, e6⟩
/-- the byte p of the code that runs, the reference -/
theorem rr_op {p : Nat} (S : RSv Bf nf h) (hk : (k : Int) < h 160 98) (hi : (i : Int) < mc_S (Bf k) (nf k)) (ht : h 160 149 = (t : Int) + 1) (t60 : t < 60) (e1 : h 251 t = 8 + (k : Int)) (e2 : h 252 t = (i : Int)) (hp : ma_S (Bf k) (nf k) i + 7 + p < nf k) : Pc (qf_X13_opAt nn (p : Int) h) (fun u => u = Bf k (ma_S (Bf k) (nf k) i + 7 + p)) := by
  obtain ⟨n6, k8⟩ := tb_n6 S hk
  obtain ⟨G, -, _, MD⟩ := rg_im (S.2 k hk)
  have m12 := G.2.2.1
  unfold qf_X13_opAt
  rw [ht]
  refine pc_sub (by omega) ?_; intro v3 e3
  rw [show v3 = (t : Int) by omega]
  refine pc_rA ?_; intro _ _ v4 e4
  rw [Int.toNat_natCast, e1] at e4
  refine pc_sub (by omega) ?_; intro v5 e5
  refine pc_sub (by omega) ?_; intro v9 e9
  rw [show v9 = (t : Int) by omega]
  refine pc_rA ?_; intro _ _ v10 e10
  rw [Int.toNat_natCast, e1] at e10
  refine pc_sub (by omega) ?_; intro v11 e11
  refine pc_xl ?_; intro v12 e12
  rw [oq_mul_eq (by omega) (by omega) (by omega)] at e12
  refine pc_sub (by omega) ?_; intro v15 e15
  rw [show v15 = (t : Int) by omega]
  refine pc_rA ?_; intro _ _ v16 e16
  rw [Int.toNat_natCast, e2] at e16
  refine pc_add (by omega) ?_; intro v17 e17
  refine pc_rA ?_; intro _ _ v18 e18
  rw [show v17.toNat = (12 * (k : Int) + (i : Int)).toNat by omega, (MD i hi).1] at e18
  refine pc_add (by omega) ?_; intro v19 e19
  refine pc_add (by omega) ?_; intro v20 e20
  rw [show v5 = (k : Int) by omega, show v20 = ((ma_S (Bf k) (nf k) i + 7 + p : Nat) : Int) by omega]
  refine pc_sv (vq_rbyte S hk hp) ?_; intro u22 q22
  exact pc_ret q22
/-- the link of constant a of the class that runs -/
theorem rc_link {a : Int} (ht : h 143 17 = (t : Int)) (e1 : h 148 t = (k : Int) * 12 + (i : Int)) (k8 : k < 8) (i12 : i < 12) (ha : 0 ≤ a ∧ a ≤ 255) : Pc (qf_X5_link nn a h) (fun u => u = h 68 (256 * (k : Int) + a).toNat) := by
  unfold qf_X5_link
  rw [ht]
  refine pc_rA ?_; intro _ _ v4 e4
  rw [Int.toNat_natCast, e1] at e4
  refine pc_xl ?_; intro v5 e5
  rw [Int.tdiv_eq_ediv_of_nonneg (by omega)] at e5
  unfold qf_X7_link
  rw [show v5 = (k : Int) by omega]
  refine pc_sv (P := fun u => u = h 68 (256 * (k : Int) + a).toNat) ?_ (fun u q => pc_ret q)
  refine pc_if (fun z => absurd z (by omega)) (fun _ => ?_)
  refine pc_if (fun z => absurd z (by omega)) (fun _ => ?_)
  refine pc_if (fun z => absurd z (by omega)) (fun _ => ?_)
  refine pc_if (fun z => absurd z (by omega)) (fun _ => ?_)
  refine pc_xl ?_; intro v2 e2
  rw [oq_mul_eq (by omega) (by omega) (by omega)] at e2
  refine pc_add (by omega) ?_; intro v3 e3
  refine pc_rA ?_; intro _ _ w4 e4'
  rw [show v3.toNat = (256 * (k : Int) + a).toNat by omega] at e4'
  exact pc_ret e4'
end
end
section
/- RUN: places and locals of both machines, told exactly -/
section
variable {nn : Nat} {t H x : Nat} {h g : ms_M} {v w a : Int}
theorem rr_on (ht : h 160 149 = (t : Int) + 1) (t60 : t < 60) (p : 0 ≤ h 253 t ∧ h 253 t ≤ 10000) (hw : -10000 ≤ w ∧ w ≤ 10000) : Pc (qf_X13_on nn w h) (fun g => g = up_M h 253 t (h 253 t + w)) := by
  unfold qf_X13_on
  rw [ht]
  refine pc_sub (by omega) ?_; intro v3 e3
  rw [show v3 = (t : Int) by omega]
  refine pc_rA ?_; intro _ _ v4 e4
  rw [Int.toNat_natCast] at e4
  refine pc_add (by omega) ?_; intro v5 e5
  refine pc_wA ?_; intro _ _ h6 e6
  rw [Int.toNat_natCast, e5, e4] at e6
  exact pc_ret e6
theorem rr_cell (ht : h 160 149 = (t : Int) + 1) (t60 : t < 60) (hx : x < 60) : Pc (qf_X13_cell nn (x : Int) h) (fun u => u = h 255 (60 * t + x)) := by
  unfold qf_X13_cell
  rw [ht]
  refine pc_sub (by omega) ?_; intro v3 e3
  refine pc_xl ?_; intro v4 e4
  rw [oq_mul_eq (by omega) (by omega) (by omega)] at e4
  refine pc_add (by omega) ?_; intro v5 e5
  refine pc_rA ?_; intro _ _ v6 e6
  rw [show v5.toNat = 60 * t + x by omega] at e6
  exact pc_ret e6
/-- a value is given and the place goes on -/
theorem rc_gv (ht : h 143 17 = (t : Int)) (t60 : t < 60) (eH : h 150 t = (H : Int)) (h30 : H < 30) (p : 0 ≤ h 149 t ∧ h 149 t ≤ 10000) (hw : -10000 ≤ w ∧ w ≤ 10000) : Pc (qf_X5_give nn v w h) (fun g => g = up_M (up_M (up_M h 152 (30 * t + H) v) 150 t ((H + 1 : Nat) : Int)) 149 t (h 149 t + w)) := by
  unfold qf_X5_give
  refine pc_sv (rc_push (v := v) ht t60 eH h30) ?_; intro u2 q2
  have e9 : u2 149 t = h 149 t := by rw [q2, up_n (by omega), up_n (by omega)]
  refine pc_sv (rc_go (t := t) (w := w) (by rw [q2, up_n (by omega), up_n (by omega)]; exact ht) (by rw [e9]; exact p) hw) ?_; intro u4 q4
  rw [e9, q2] at q4
  exact pc_ret q4
theorem rr_gv (ht : h 160 149 = (t : Int) + 1) (t60 : t < 60) (eH : h 254 t = (H : Int)) (h30 : H < 30) (p : 0 ≤ h 253 t ∧ h 253 t ≤ 10000) (hw : -10000 ≤ w ∧ w ≤ 10000) : Pc (mx_sv (qf_X13_give nn v h) fun u => qj_X13_step_1150 nn w u) (fun g => g = up_M (up_M (up_M h 255 (60 * t + 30 + H) v) 254 t ((H + 1 : Nat) : Int)) 253 t (h 253 t + w)) := by
  refine pc_sv (rr_give (v := v) ht t60 eH h30) ?_; intro u2 q2
  have e9 : u2 253 t = h 253 t := by rw [q2, up_n (by omega), up_n (by omega)]
  unfold qj_X13_step_1150
  refine pc_sv (rr_on (t := t) (w := w) (by rw [q2, up_n (by omega), up_n (by omega)]; exact ht) t60 (by rw [e9]; exact p) hw) ?_; intro u4 q4
  rw [e9, q2] at q4
  exact pc_ret q4
/-- loads (21, 25) and stores (54, 58) of local x -/
theorem rc_load (hx : x < 30) (ha : a = 21 ∨ a = 25) (ht : h 143 17 = (t : Int)) (t60 : t < 60) (eH : h 150 t = (H : Int)) (h30 : H < 30) (p : 0 ≤ h 149 t ∧ h 149 t ≤ 10000) : Pc (qf_X5_stepLocal nn a (x : Int) h) (fun g => g = up_M (up_M (up_M h 152 (30 * t + H) (h 151 (30 * t + x))) 150 t ((H + 1 : Nat) : Int)) 149 t (h 149 t + 2)) := by
  have E : ∀ v7 : Int, v7.toNat = 30 * t + x → Pc (qj_X5_stepLocal_37 nn v7 h) (fun g => g = up_M (up_M (up_M h 152 (30 * t + H) (h 151 (30 * t + x))) 150 t ((H + 1 : Nat) : Int)) 149 t (h 149 t + 2)) := fun v7 e7 => by
    unfold qj_X5_stepLocal_37
    refine pc_rA ?_; intro _ _ v2 e2
    rw [e7] at e2
    rw [e2]
    refine pc_sv (rc_gv ht t60 eH h30 p (by omega)) ?_; intro u4 q4
    exact pc_ret q4
  unfold qf_X5_stepLocal
  rw [ht]
  refine pc_xl ?_; intro v6 e6
  rw [oq_mul_eq (by omega) (by omega) (by omega)] at e6
  refine pc_add (by omega) ?_; intro v7 e7
  refine pc_if (fun _ => ?_) (fun z => absurd (show (x : Int) < 30 by omega) z)
  refine pc_if (fun _ => E v7 (by omega)) (fun z1 => ?_)
  exact pc_if (fun z2 => absurd (show a = 25 by omega) z2) (fun _ => E v7 (by omega))
theorem rc_store (hx : x < 30) (ha : a = 54 ∨ a = 58) (ht : h 143 17 = (t : Int)) (t60 : t < 60) (eH : h 150 t = ((H + 1 : Nat) : Int)) (h30 : H < 30) (p : 0 ≤ h 149 t ∧ h 149 t ≤ 10000) : Pc (qf_X5_stepLocal nn a (x : Int) h) (fun g => g = up_M (up_M (up_M h 150 t (H : Int)) 151 (30 * t + x) (h 152 (30 * t + H))) 149 t (h 149 t + 2)) := by
  unfold qf_X5_stepLocal
  rw [ht]
  refine pc_xl ?_; intro v6 e6
  rw [oq_mul_eq (by omega) (by omega) (by omega)] at e6
  refine pc_add (by omega) ?_; intro v7 e7
  refine pc_if (fun _ => ?_) (fun z => absurd (show (x : Int) < 30 by omega) z)
  refine pc_if (fun z => absurd z (by omega)) (fun _ => ?_)
  refine pc_if (fun _ => ?_) (fun z => absurd (show ¬ a = 25 by omega) z)
  refine pc_sv (rc_pop ht t60 eH h30) ?_; intro u10 ⟨q1, q2⟩
  refine pc_wA ?_; intro _ _ h11 e11
  rw [show v7.toNat = 30 * t + x by omega, q1, q2] at e11
  have e9 : h11 149 t = h 149 t := by rw [e11, up_n (by omega), up_n (by omega)]
  refine pc_sv (rc_go (t := t) (w := 2) (by rw [e11, up_n (by omega), up_n (by omega)]; exact ht) (by rw [e9]; exact p) (by omega)) ?_; intro u13 q13
  rw [e9, e11] at q13
  exact pc_ret q13
theorem rr_load (hx : x < 30) (ht : h 160 149 = (t : Int) + 1) (t60 : t < 60) (eH : h 254 t = (H : Int)) (h30 : H < 30) (p : 0 ≤ h 253 t ∧ h 253 t ≤ 10000) : Pc (qj_X13_step_876 nn 2 (x : Int) h) (fun g => g = up_M (up_M (up_M h 255 (60 * t + 30 + H) (h 255 (60 * t + x))) 254 t ((H + 1 : Nat) : Int)) 253 t (h 253 t + 2)) := by
  unfold qj_X13_step_876
  refine pc_sv (rr_cell (x := x) ht t60 (by omega)) ?_; intro u52 q52
  rw [q52]
  exact rr_gv ht t60 eH h30 p (by omega)
theorem rr_store (hx : x < 30) (ht : h 160 149 = (t : Int) + 1) (t60 : t < 60) (eH : h 254 t = ((H + 1 : Nat) : Int)) (h30 : H < 30) (p : 0 ≤ h 253 t ∧ h 253 t ≤ 10000) : Pc (qj_X13_step_889 nn 2 (x : Int) h) (fun g => g = up_M (up_M (up_M h 254 t (H : Int)) 255 (60 * t + x) (h 255 (60 * t + 30 + H))) 253 t (h 253 t + 2)) := by
  unfold qj_X13_step_889
  refine pc_sv (rr_drop ht t60 eH h30) ?_; intro u44 ⟨q1, q2⟩
  have t1 : u44.2 160 149 = (t : Int) + 1 := by rw [q2, up_n (by omega)]; exact ht
  rw [t1]
  refine pc_sub (by omega) ?_; intro v47 e47
  refine pc_xl ?_; intro v48 e48
  rw [oq_mul_eq (by omega) (by omega) (by omega)] at e48
  refine pc_add (by omega) ?_; intro v49 e49
  refine pc_wA ?_; intro _ _ h50 e50
  rw [show v49.toNat = 60 * t + x by omega, q1, q2] at e50
  have e9 : h50 253 t = h 253 t := by rw [e50, up_n (by omega), up_n (by omega)]
  unfold qj_X13_step_1150
  refine pc_sv (rr_on (t := t) (w := 2) (by rw [e50, up_n (by omega), up_n (by omega)]; exact ht) t60 (by rw [e9]; exact p) (by omega)) ?_; intro u4 q4
  rw [e9, e50] at q4
  exact pc_ret q4
end
end
section
/- RUN: what two numbers make -/
/-- the number that instruction a makes of x and y -/
def cm_V (a x y : Int) : Int := if a = 96 then oq_add x y else if a = 100 then oq_sub x y else if a = 104 then oq_mul x y else if a = 108 then oq_div x y else if a = 112 then oq_rem x y else if a = 120 then oq_shl x y else if a = 122 then oq_shr x y else if a = 124 then oq_ushr x y else if a = 126 then oq_and x y else if a = 128 then oq_or x y else oq_xor x y
section
variable {nn : Nat} {t H : Nat} {h : ms_M} {a x y w : Int}
theorem rc_cmp (hy : a = 108 ∨ a = 112 → ¬ y = 0) : Pc (qf_X5_computed nn a x y h) (fun u => u = cm_V a x y) := by
  unfold qf_X5_computed cm_V
  by_cases e96 : a = 96
  · rw [if_pos e96, if_pos e96]; exact pc_xl (fun v q => pc_ret q)
  rw [if_neg e96, if_neg e96]
  by_cases e100 : a = 100
  · rw [if_pos e100, if_pos e100]; exact pc_xl (fun v q => pc_ret q)
  rw [if_neg e100, if_neg e100]
  by_cases e104 : a = 104
  · rw [if_pos e104, if_pos e104]; exact pc_xl (fun v q => pc_ret q)
  rw [if_neg e104, if_neg e104]
  by_cases e108 : a = 108
  · rw [if_pos e108, if_pos e108]
    refine pc_if (fun _ => ?_) (fun z => absurd (hy (by omega)) z)
    exact pc_if (fun _ => pc_none) (fun _ => pc_xl (fun v q => pc_ret q))
  rw [if_neg e108, if_neg e108]
  by_cases e112 : a = 112
  · rw [if_pos e112, if_pos e112]
    refine pc_if (fun _ => ?_) (fun z => absurd (hy (by omega)) z)
    exact pc_if (fun _ => pc_none) (fun _ => pc_xl (fun v q => pc_ret q))
  rw [if_neg e112, if_neg e112]
  by_cases e120 : a = 120
  · rw [if_pos e120, if_pos e120]; exact pc_xl (fun v q => pc_ret q)
  rw [if_neg e120, if_neg e120]
  by_cases e122 : a = 122
  · rw [if_pos e122, if_pos e122]; exact pc_xl (fun v q => pc_ret q)
  rw [if_neg e122, if_neg e122]
  by_cases e124 : a = 124
  · rw [if_pos e124, if_pos e124]; exact pc_xl (fun v q => pc_ret q)
  rw [if_neg e124, if_neg e124]
  by_cases e126 : a = 126
  · rw [if_pos e126, if_pos e126]; exact pc_xl (fun v q => pc_ret q)
  rw [if_neg e126, if_neg e126]
  by_cases e128 : a = 128
  · rw [if_pos e128, if_pos e128]; exact pc_xl (fun v q => pc_ret q)
  rw [if_neg e128, if_neg e128]
  unfold qj_X5_computed_204
  exact pc_xl (fun v q => pc_ret q)
theorem rr_rec : Pc (qf_X13_reckon nn a x y h) (fun u => u = cm_V a x y) := by
  unfold qf_X13_reckon cm_V
  by_cases e96 : a = 96
  · rw [if_pos e96, if_pos e96]; exact pc_xl (fun v q => pc_ret q)
  rw [if_neg e96, if_neg e96]
  by_cases e100 : a = 100
  · rw [if_pos e100, if_pos e100]; exact pc_xl (fun v q => pc_ret q)
  rw [if_neg e100, if_neg e100]
  by_cases e104 : a = 104
  · rw [if_pos e104, if_pos e104]; exact pc_xl (fun v q => pc_ret q)
  rw [if_neg e104, if_neg e104]
  by_cases e108 : a = 108
  · rw [if_pos e108, if_pos e108]; exact pc_if (fun _ => pc_none) (fun _ => pc_xl (fun v q => pc_ret q))
  rw [if_neg e108, if_neg e108]
  by_cases e112 : a = 112
  · rw [if_pos e112, if_pos e112]; exact pc_if (fun _ => pc_none) (fun _ => pc_xl (fun v q => pc_ret q))
  rw [if_neg e112, if_neg e112]
  by_cases e120 : a = 120
  · rw [if_pos e120, if_pos e120]; exact pc_xl (fun v q => pc_ret q)
  rw [if_neg e120, if_neg e120]
  by_cases e122 : a = 122
  · rw [if_pos e122, if_pos e122]; exact pc_xl (fun v q => pc_ret q)
  rw [if_neg e122, if_neg e122]
  by_cases e124 : a = 124
  · rw [if_pos e124, if_pos e124]; exact pc_xl (fun v q => pc_ret q)
  rw [if_neg e124, if_neg e124]
  by_cases e126 : a = 126
  · rw [if_pos e126, if_pos e126]; exact pc_xl (fun v q => pc_ret q)
  rw [if_neg e126, if_neg e126]
  by_cases e128 : a = 128
  · rw [if_pos e128, if_pos e128]; exact pc_xl (fun v q => pc_ret q)
  rw [if_neg e128, if_neg e128]
  unfold qj_X13_reckon_188
  exact pc_xl (fun v q => pc_ret q)
/-- two numbers are taken, one is given -/
theorem rc_arith (hy : a = 108 ∨ a = 112 → ¬ h 152 (30 * t + H + 1) = 0) (ht : h 143 17 = (t : Int)) (t60 : t < 60) (eH : h 150 t = ((H + 2 : Nat) : Int)) (h30 : H + 1 < 30) (p : 0 ≤ h 149 t ∧ h 149 t ≤ 10000) : Pc (qf_X5_stepArithmetic nn a h) (fun g => ∃ z : ms_M, (∀ c j : Nat, ¬ (c = 150 ∧ j = t) → z c j = h c j) ∧ z 150 t = (H : Int) ∧ g = up_M (up_M (up_M z 152 (30 * t + H) (cm_V a (h 152 (30 * t + H)) (h 152 (30 * t + H + 1)))) 150 t ((H + 1 : Nat) : Int)) 149 t (h 149 t + 1)) := by
  unfold qf_X5_stepArithmetic
  refine pc_sv (rc_pop (H := H + 1) ht t60 eH h30) ?_; intro u6 ⟨q6, p6⟩
  refine pc_sv (rc_pop (t := t) (H := H) (by rw [p6, up_n (by omega)]; exact ht) t60 (by rw [p6, up_s]) (by omega)) ?_; intro u8 ⟨q8, p8⟩
  have F8 : ∀ c j : Nat, ¬ (c = 150 ∧ j = t) → u8.2 c j = h c j := fun c j w => by rw [p8, up_n w, p6, up_n w]
  have q8 : u8.1 = h 152 (30 * t + H) := by rw [q8, p6, up_n (by omega)]
  have q6 : u6.1 = h 152 (30 * t + H + 1) := q6
  have E : Pc (qj_X5_stepArithmetic_35 nn a u6.1 u8.1 u8.2) (fun g => ∃ z : ms_M, (∀ c j : Nat, ¬ (c = 150 ∧ j = t) → z c j = h c j) ∧ z 150 t = (H : Int) ∧ g = up_M (up_M (up_M z 152 (30 * t + H) (cm_V a (h 152 (30 * t + H)) (h 152 (30 * t + H + 1)))) 150 t ((H + 1 : Nat) : Int)) 149 t (h 149 t + 1)) := by
    unfold qj_X5_stepArithmetic_35
    rw [q6, q8]
    refine pc_sv (rc_cmp hy) ?_; intro u1 q1
    rw [q1]
    have e9 : u8.2 149 t = h 149 t := F8 149 t (by omega)
    have e0 : u8.2 150 t = (H : Int) := by rw [p8, up_s]
    refine pc_sv (rc_gv (t := t) (H := H) (w := 1) (by rw [F8 143 17 (by omega)]; exact ht) t60 e0 (by omega) (by rw [e9]; exact p) (by omega)) ?_; intro u3 q3
    rw [e9] at q3
    exact pc_ret ⟨u8.2, F8, e0, q3⟩
  refine pc_if (fun _ => E) (fun z => ?_)
  have z : h 152 (30 * t + H + 1) = 0 := by rw [← q6]; exact Classical.byContradiction z
  refine pc_if (fun e => absurd z (hy (by omega))) (fun e1 => ?_)
  exact pc_if (fun _ => E) (fun e => absurd z (hy (by omega)))
end
end
section
/- RUN: an object is made, on both sides. n: objects so far, m: cells so far, s: its cells -/
def OMc (a : Int) (n m s : Nat) (h : ms_M) (u : Int × ms_M) : Prop := ((2000 ≤ n ∨ 20000 < m + s) ∧ u.1 = 0 ∧ u.2 = up_M h 143 1 4) ∨ ((n < 2000 ∧ m + s ≤ 20000) ∧ u.1 = ((n + 1 : Nat) : Int) ∧ (∀ c j : Nat, ¬ (c = 143 ∧ (j = 4 ∨ j = 5)) → ¬ (c = 145 ∧ j = n + 1) → ¬ (c = 146 ∧ (j = n + 1 ∨ j = n + 2)) → ¬ (c = 147 ∧ m ≤ j ∧ j < m + s) → u.2 c j = h c j) ∧ (u.2 143 4 = ((n + 1 : Nat) : Int) ∧ u.2 143 5 = ((m + s : Nat) : Int)) ∧ (u.2 145 (n + 1) = a ∧ u.2 146 (n + 1) = (m : Int) ∧ u.2 146 (n + 2) = ((m + s : Nat) : Int)) ∧ ∀ x : Nat, m ≤ x → x < m + s → u.2 147 x = 0)
def OMr (a : Int) (n m s : Nat) (h : ms_M) (u : Int × ms_M) : Prop := ((2000 ≤ n ∨ 20000 < m + s) ∧ u.1 = 0 ∧ u.2 = up_M h 160 138 4) ∨ ((n < 2000 ∧ m + s ≤ 20000) ∧ u.1 = ((n + 1 : Nat) : Int) ∧ (∀ c j : Nat, ¬ (c = 160 ∧ (j = 141 ∨ j = 142)) → ¬ ((246 ≤ c ∧ c ≤ 248) ∧ j = n + 1) → ¬ (c = 249 ∧ m ≤ j ∧ j < m + s) → u.2 c j = h c j) ∧ (u.2 160 141 = ((n + 1 : Nat) : Int) ∧ u.2 160 142 = ((m + s : Nat) : Int)) ∧ (u.2 246 (n + 1) = a ∧ u.2 247 (n + 1) = (m : Int) ∧ u.2 248 (n + 1) = (s : Int)) ∧ ∀ x : Nat, m ≤ x → x < m + s → u.2 249 x = 0)
section
variable {nn : Nat} {n m s : Nat} {h g : ms_M} {a : Int}
theorem rc_make (en : h 143 4 = (n : Int)) (em : h 143 5 = (m : Int)) (nr : n ≤ 2000) (mr : m ≤ 20000) (sr : s ≤ 2147483647) : Pc (qf_X5_make nn a (s : Int) h) (OMc a n m s h) := by
  have NO : (2000 ≤ n ∨ 20000 < m + s) → Pc (qj_X5_make_26 nn h) (OMc a n m s h) := fun w => by
    unfold qj_X5_make_26
    exact pc_xl (fun h1 e1 => pc_ret (.inl ⟨w, rfl, e1⟩))
  unfold qf_X5_make
  rw [en, em]
  refine pc_if (fun w => NO (by omega)) (fun w => ?_)
  refine pc_if (fun z => absurd z (by omega)) (fun _ => ?_)
  refine pc_sub (by omega) ?_; intro v4 e4
  refine pc_if (fun z => ?_) (fun z => NO (by omega))
  refine pc_add (by omega) ?_; intro v6 e6
  rw [show v6 = ((n + 1 : Nat) : Int) by omega]
  refine pc_xl ?_; intro h7 e7
  have a7 : h7 143 4 = ((n + 1 : Nat) : Int) := by rw [e7, up_s]
  rw [a7]
  refine pc_wA ?_; intro _ _ h10 e10
  rw [Int.toNat_natCast] at e10
  have a10 : h10 143 4 = ((n + 1 : Nat) : Int) := by rw [e10, up_n (by omega)]; exact a7
  have b10 : h10 143 5 = (m : Int) := by rw [e10, up_n (by omega), e7, up_n (by omega)]; exact em
  rw [a10, b10]
  refine pc_wA ?_; intro _ _ h14 e14
  rw [Int.toNat_natCast] at e14
  have a14 : h14 143 4 = ((n + 1 : Nat) : Int) := by rw [e14, up_n (by omega)]; exact a10
  have b14 : h14 143 5 = (m : Int) := by rw [e14, up_n (by omega)]; exact b10
  rw [b14]
  refine pc_add (by omega) ?_; intro v18 e18
  rw [show v18 = ((m + s : Nat) : Int) by omega]
  refine pc_sv (vc_fillR (a := m) (by omega)) ?_; intro u19 ⟨F19, Z19⟩
  have a19 : u19 143 4 = ((n + 1 : Nat) : Int) := (F19 143 4 (by omega)).trans a14
  have b19 : u19 143 5 = (m : Int) := (F19 143 5 (by omega)).trans b14
  rw [b19]
  refine pc_add (by omega) ?_; intro v21 e21
  rw [show v21 = ((m + s : Nat) : Int) by omega]
  refine pc_xl ?_; intro h22 e22
  have a22 : h22 143 4 = ((n + 1 : Nat) : Int) := by rw [e22, up_n (by omega)]; exact a19
  have b22 : h22 143 5 = ((m + s : Nat) : Int) := by rw [e22, up_s]
  rw [a22, b22]
  refine pc_add (by omega) ?_; intro v25 e25
  refine pc_wA ?_; intro _ _ h27 e27
  rw [show v25.toNat = n + 2 by omega] at e27
  suffices R : OMc a n m s h (((n + 1 : Nat) : Int), h27) by
    rw [show h27 143 4 = ((n + 1 : Nat) : Int) by rw [e27, up_n (by omega)]; exact a22]
    exact pc_ret R
  refine .inr ⟨by omega, rfl, ?_⟩
  show (∀ c j : Nat, ¬ (c = 143 ∧ (j = 4 ∨ j = 5)) → ¬ (c = 145 ∧ j = n + 1) → ¬ (c = 146 ∧ (j = n + 1 ∨ j = n + 2)) → ¬ (c = 147 ∧ m ≤ j ∧ j < m + s) → h27 c j = h c j) ∧ (h27 143 4 = ((n + 1 : Nat) : Int) ∧ h27 143 5 = ((m + s : Nat) : Int)) ∧ (h27 145 (n + 1) = a ∧ h27 146 (n + 1) = (m : Int) ∧ h27 146 (n + 2) = ((m + s : Nat) : Int)) ∧ ∀ x : Nat, m ≤ x → x < m + s → h27 147 x = 0
  refine ⟨fun c j w1 w2 w3 w4 => ?_, ⟨?_, ?_⟩, ⟨?_, ?_, ?_⟩, fun x x1 x2 => ?_⟩
  · rw [e27, up_n (by omega), e22, up_n (by omega), F19 c j (by omega), e14, up_n (by omega), e10, up_n (by omega), e7, up_n (by omega)]
  · rw [e27, up_n (by omega)]; exact a22
  · rw [e27, up_n (by omega)]; exact b22
  · rw [e27, up_n (by omega), e22, up_n (by omega), F19 145 _ (by omega), e14, up_n (by omega), e10, up_s]
  · rw [e27, up_n (by omega), e22, up_n (by omega), F19 146 _ (by omega), e14, up_s]
  · rw [e27, up_s]
  · rw [e27, up_n (by omega), e22, up_n (by omega)]
    exact Z19 x x1 (by omega)
theorem rr_m74 (mr : m + s ≤ 20000) : ∀ (f x : Nat) (g : ms_M), x ≤ s → g 160 142 = (m : Int) → (∀ y : Nat, y < x → g 249 (m + y) = 0) → Pc (qw_X13_make__74 nn f (s : Int) (x : Int) g) (fun u => u.1 = g 160 141 ∧ (∀ c j : Nat, ¬ (c = 160 ∧ j = 142) → ¬ (c = 249 ∧ m ≤ j ∧ j < m + s) → u.2 c j = g c j) ∧ u.2 160 142 = ((m + s : Nat) : Int) ∧ ∀ y : Nat, y < s → u.2 249 (m + y) = 0) := by
  intro f
  induction f with
  | zero => intro x g _ _ _; exact pc_none
  | succ f ih =>
    intro x g hx e L
    unfold qw_X13_make__74
    rw [e]
    refine pc_if (fun w => ?_) (fun w => ?_)
    · refine pc_add (by omega) ?_; intro v2 e2
      refine pc_xl ?_; intro h3 e3
      refine pc_ret ⟨?_, fun c j w1 w2 => ?_, ?_, fun y hy => ?_⟩
      · show h3 160 141 = _
        rw [e3, up_n (by omega)]
      · show h3 c j = _
        rw [e3, up_n w1]
      · show h3 160 142 = _
        rw [e3, up_s]; omega
      · show h3 249 (m + y) = 0
        rw [e3, up_n (by omega)]; exact L y (by omega)
    · refine pc_add (by omega) ?_; intro v7 e7
      refine pc_wA ?_; intro _ _ h8 e8
      rw [show v7.toNat = m + x by omega] at e8
      refine pc_add (by omega) ?_; intro v9 e9
      rw [show v9 = ((x + 1 : Nat) : Int) by omega]
      refine pc_imp (ih (x + 1) h8 (by omega) (by rw [e8, up_n (by omega)]; exact e) (fun y hy => ?_)) (fun u ⟨r1, r2, r3, r4⟩ => ⟨?_, fun c j w1 w2 => ?_, r3, r4⟩)
      · by_cases z : y = x
        · rw [z, e8, up_s]
        · rw [e8, up_n (by omega)]; exact L y (by omega)
      · rw [r1, e8, up_n (by omega)]
      · rw [r2 c j w1 w2, e8, up_n (by omega)]
theorem rr_make (en : h 160 141 = (n : Int)) (em : h 160 142 = (m : Int)) (nr : n ≤ 2000) (mr : m ≤ 20000) (sr : s ≤ 2147483647) : Pc (qf_X13_make_ nn a (s : Int) h) (OMr a n m s h) := by
  have NO : (2000 ≤ n ∨ 20000 < m + s) → Pc (qj_X13_make__22 nn h) (OMr a n m s h) := fun w => by
    unfold qj_X13_make__22
    exact pc_xl (fun h1 e1 => pc_ret (.inl ⟨w, rfl, e1⟩))
  unfold qf_X13_make_
  rw [en, em]
  refine pc_if (fun w => NO (by omega)) (fun w => ?_)
  refine pc_sub (by omega) ?_; intro v14 e14
  refine pc_if (fun z => ?_) (fun z => NO (by omega))
  refine pc_add (by omega) ?_; intro v16 e16
  rw [show v16 = ((n + 1 : Nat) : Int) by omega]
  refine pc_xl ?_; intro h17 e17
  have a17 : h17 160 141 = ((n + 1 : Nat) : Int) := by rw [e17, up_s]
  rw [a17]
  refine pc_wA ?_; intro _ _ h20 e20
  rw [Int.toNat_natCast] at e20
  have a20 : h20 160 141 = ((n + 1 : Nat) : Int) := by rw [e20, up_n (by omega)]; exact a17
  have b20 : h20 160 142 = (m : Int) := by rw [e20, up_n (by omega), e17, up_n (by omega)]; exact em
  rw [a20, b20]
  refine pc_wA ?_; intro _ _ h24 e24
  rw [Int.toNat_natCast] at e24
  have a24 : h24 160 141 = ((n + 1 : Nat) : Int) := by rw [e24, up_n (by omega)]; exact a20
  have b24 : h24 160 142 = (m : Int) := by rw [e24, up_n (by omega)]; exact b20
  rw [a24]
  refine pc_wA ?_; intro _ _ h27 e27
  rw [Int.toNat_natCast] at e27
  have a27 : h27 160 141 = ((n + 1 : Nat) : Int) := by rw [e27, up_n (by omega)]; exact a24
  have b27 : h27 160 142 = (m : Int) := by rw [e27, up_n (by omega)]; exact b24
  refine pc_imp (rr_m74 (m := m) (s := s) (by omega) nn 0 h27 (by omega) b27 (fun y hy => absurd hy (by omega))) (fun u ⟨r1, r2, r3, r4⟩ => .inr ⟨by omega, r1.trans a27, fun c j w1 w2 w3 => ?_, ⟨?_, r3⟩, ⟨?_, ?_, ?_⟩, fun x x1 x2 => ?_⟩)
  · rw [r2 c j (by omega) w3, e27, up_n (by omega), e24, up_n (by omega), e20, up_n (by omega), e17, up_n (by omega)]
  · rw [r2 160 141 (by omega) (by omega)]; exact a27
  · rw [r2 246 _ (by omega) (by omega), e27, up_n (by omega), e24, up_n (by omega), e20, up_s]
  · rw [r2 247 _ (by omega) (by omega), e27, up_n (by omega), e24, up_s]
  · rw [r2 248 _ (by omega) (by omega), e27, up_s]
  · have := r4 (x - m) (by omega)
    rw [show m + (x - m) = x by omega] at this
    exact this
end
end
section
/- RUN: THE RELATION OF BOTH MACHINES. A: the class's memory, B: the reference's -/
/-- an object's sort as the class has it -/
def sr_T (y : Int) : Int := if y = 99 then 200 else y
/-- what sorts there are -/
def STs (cnt y : Int) : Prop := (0 ≤ y ∧ y < 8 + cnt) ∨ y = 99 ∨ (100 ≤ y ∧ y < 108 + cnt)
/-- frame j -/
def FRA (Bf : Nat → Nat → Int) (nf : Nat → Nat) (cnt : Int) (A B : ms_M) (j : Nat) : Prop := (∃ k i : Nat, (B 251 j = 8 + (k : Int) ∧ B 252 j = (i : Int)) ∧ ((k : Int) < cnt ∧ (i : Int) < mc_S (Bf k) (nf k)) ∧ A 148 j = (k : Int) * 12 + (i : Int)) ∧ (A 149 j = B 253 j ∧ A 150 j = B 254 j) ∧ (∀ n : Nat, n < 30 → A 151 (30 * j + n) = B 255 (60 * j + n)) ∧ ∀ n : Nat, n < 30 → (n : Int) < B 254 j → A 152 (30 * j + n) = B 255 (60 * j + 30 + n)
/-- the heap -/
def HPA (cnt : Int) (A B : ms_M) : Prop := (A 143 4 = B 160 141 ∧ A 143 5 = B 160 142) ∧ (∀ o : Nat, 1 ≤ o → (o : Int) ≤ B 160 141 → STs cnt (B 246 o) ∧ A 145 o = sr_T (B 246 o) ∧ A 146 o = B 247 o ∧ A 146 (o + 1) = B 247 o + B 248 o) ∧ (1 ≤ B 160 141 → A 146 ((B 160 141).toNat + 1) = B 160 142) ∧ ∀ x : Nat, (x : Int) < B 160 142 → A 147 x = B 249 x
/-- the prints -/
def PRA (A B : ms_M) : Prop := A 143 7 = B 160 143 ∧ ∀ x : Nat, x < 1000 → (x : Int) < B 160 143 → A 144 x = B 250 x
/-- a run that goes on, with d frames -/
def RRd (Bf : Nat → Nat → Int) (nf : Nat → Nat) (cnt : Int) (A B : ms_M) (d : Nat) : Prop := ((A 143 1 = 1 ∧ B 160 138 = 1) ∧ (A 143 2 = -1 ∧ B 160 139 = -1) ∧ A 143 3 = B 160 140 ∧ A 143 6 = (d : Int) ∧ B 160 149 = (d : Int)) ∧ d ≤ 60 ∧ (∀ j : Nat, j < d → FRA Bf nf cnt A B j) ∧ HPA cnt A B ∧ PRA A B
/-- the class's uppermost method -/
def TPA (Bf : Nat → Nat → Int) (nf : Nat → Nat) (cnt : Int) (A B : ms_M) (t k i : Nat) : Prop := (A 143 17 = (t : Int) ∧ A 143 18 = A 60 k ∧ A 143 19 = ((ma_S (Bf k) (nf k) i + 7 : Nat) : Int)) ∧ (B 251 t = 8 + (k : Int) ∧ B 252 t = (i : Int)) ∧ (k : Int) < cnt ∧ (i : Int) < mc_S (Bf k) (nf k)
/-- what a step writes in the uppermost frame -/
def CTw (A g : ms_M) (t lo : Nat) : Prop := ∀ c j : Nat, ¬ (c = 143 ∧ j = 20) → ¬ ((c = 149 ∨ c = 150) ∧ j = t) → ¬ (c = 151 ∧ 30 * t ≤ j ∧ j < 30 * t + 30) → ¬ (c = 152 ∧ 30 * t + lo ≤ j ∧ j < 30 * t + 30) → g c j = A c j
def RTq (B r : ms_M) (t lo : Nat) : Prop := ∀ x j : Nat, ¬ (x = 160 ∧ j = 121) → ¬ ((x = 253 ∨ x = 254) ∧ j = t) → ¬ (x = 255 ∧ 60 * t ≤ j ∧ j < 60 * t + 30) → ¬ (x = 255 ∧ 60 * t + 30 + lo ≤ j ∧ j < 60 * t + 60) → r x j = B x j
/-- a value v has come at height H, the place is p -/
def CGV (A g : ms_M) (t H : Nat) (v p : Int) : Prop := CTw A g t H ∧ (g 149 t = p ∧ g 150 t = ((H + 1 : Nat) : Int)) ∧ g 152 (30 * t + H) = v ∧ g 143 20 = A 143 20 ∧ ∀ n : Nat, n < 30 → g 151 (30 * t + n) = A 151 (30 * t + n)
def RGV (B r : ms_M) (t H : Nat) (v p : Int) : Prop := RTq B r t H ∧ (r 253 t = p ∧ r 254 t = ((H + 1 : Nat) : Int)) ∧ r 255 (60 * t + 30 + H) = v ∧ ∀ n : Nat, n < 30 → r 255 (60 * t + n) = B 255 (60 * t + n)
/-- no value has come -/
def CGN (A g : ms_M) (t H : Nat) (p : Int) : Prop := CTw A g t H ∧ (g 149 t = p ∧ g 150 t = (H : Int)) ∧ g 143 20 = A 143 20 ∧ ∀ n : Nat, n < 30 → g 151 (30 * t + n) = A 151 (30 * t + n)
def RGN (B r : ms_M) (t H : Nat) (p : Int) : Prop := RTq B r t H ∧ (r 253 t = p ∧ r 254 t = (H : Int)) ∧ ∀ n : Nat, n < 30 → r 255 (60 * t + n) = B 255 (60 * t + n)
/-- values were taken -/
def CPp (A u : ms_M) (t H : Nat) : Prop := (∀ c j : Nat, ¬ (c = 150 ∧ j = t) → u c j = A c j) ∧ u 150 t = (H : Int)
def RPp (B z : ms_M) (t H : Nat) : Prop := (∀ x j : Nat, ¬ (x = 254 ∧ j = t) → z x j = B x j) ∧ z 254 t = (H : Int)
section
variable {nn : Nat} {Bf : Nat → Nat → Int} {nf : Nat → Nat} {cnt : Int} {k i t H d lo j : Nat} {A B g r u z : ms_M} {v w p : Int}
theorem fra_k (F : FRA Bf nf cnt A B j) (c8 : g 148 j = A 148 j) (c9 : g 149 j = A 149 j) (c0 : g 150 j = A 150 j) (c1 : ∀ n : Nat, n < 30 → g 151 (30 * j + n) = A 151 (30 * j + n)) (c2 : ∀ n : Nat, n < 30 → g 152 (30 * j + n) = A 152 (30 * j + n)) (r1 : r 251 j = B 251 j) (r2 : r 252 j = B 252 j) (r3 : r 253 j = B 253 j) (r4 : r 254 j = B 254 j) (r5 : ∀ n : Nat, n < 60 → r 255 (60 * j + n) = B 255 (60 * j + n)) : FRA Bf nf cnt g r j := by
  obtain ⟨⟨k, i, ⟨f1, f2⟩, f3, f4⟩, ⟨f5, f6⟩, f7, f8⟩ := F
  refine ⟨⟨k, i, ⟨r1.trans f1, r2.trans f2⟩, f3, c8.trans f4⟩, ⟨by rw [c9, r3]; exact f5, by rw [c0, r4]; exact f6⟩, fun n hn => ?_, fun n hn hl => ?_⟩
  · rw [c1 n hn, r5 n (by omega)]; exact f7 n hn
  · rw [r4] at hl
    rw [c2 n hn, show 60 * j + 30 + n = 60 * j + (30 + n) by omega, r5 (30 + n) (by omega), show 60 * j + (30 + n) = 60 * j + 30 + n by omega]; exact f8 n hn hl
theorem hpa_k (E : HPA cnt A B) (c1 : ∀ x : Nat, x = 4 ∨ x = 5 → g 143 x = A 143 x) (c2 : ∀ c x : Nat, 145 ≤ c → c ≤ 147 → g c x = A c x) (r1 : ∀ x : Nat, x = 141 ∨ x = 142 → r 160 x = B 160 x) (r2 : ∀ c x : Nat, 246 ≤ c → c ≤ 249 → r c x = B c x) : HPA cnt g r := by
  obtain ⟨⟨h1, h2⟩, h3, h4, h5⟩ := E
  refine ⟨⟨?_, ?_⟩, fun o o1 o2 => ?_, fun q => ?_, fun x hx => ?_⟩
  · rw [c1 4 (by omega), r1 141 (by omega)]; exact h1
  · rw [c1 5 (by omega), r1 142 (by omega)]; exact h2
  · rw [r1 141 (by omega)] at o2
    rw [c2 145 o (by omega) (by omega), c2 146 o (by omega) (by omega), c2 146 (o + 1) (by omega) (by omega), r2 246 o (by omega) (by omega), r2 247 o (by omega) (by omega), r2 248 o (by omega) (by omega)]
    exact h3 o o1 o2
  · rw [r1 141 (by omega)] at q ⊢
    rw [c2 146 _ (by omega) (by omega), r1 142 (by omega)]; exact h4 q
  · rw [r1 142 (by omega)] at hx
    rw [c2 147 x (by omega) (by omega), r2 249 x (by omega) (by omega)]; exact h5 x hx
theorem pra_k (E : PRA A B) (c1 : g 143 7 = A 143 7) (c2 : ∀ x : Nat, g 144 x = A 144 x) (r1 : r 160 143 = B 160 143) (r2 : ∀ x : Nat, r 250 x = B 250 x) : PRA g r := by
  refine ⟨by rw [c1, r1]; exact E.1, fun x x1 x2 => ?_⟩
  rw [r1] at x2
  rw [c2, r2]; exact E.2 x x1 x2
/-- the uppermost frame changes alike -/
theorem rr_top (R : RRd Bf nf cnt A B d) (ht : t < d) (C : CTw A g t lo) (D : RTq B r t lo) (l0 : lo = 0 ∨ (lo : Int) ≤ B 254 t) (e1 : g 149 t = r 253 t) (e2 : g 150 t = r 254 t) (L : ∀ n : Nat, n < 30 → g 151 (30 * t + n) = r 255 (60 * t + n)) (S : ∀ n : Nat, n < 30 → lo ≤ n → (n : Int) < r 254 t → g 152 (30 * t + n) = r 255 (60 * t + 30 + n)) : RRd Bf nf cnt g r d := by
  obtain ⟨⟨⟨a1, a2⟩, ⟨a3, a4⟩, a5, a6, a7⟩, d60, F, E, P⟩ := R
  have C' : ∀ c j : Nat, c < 149 → ¬ (c = 143 ∧ j = 20) → g c j = A c j := fun c j c1 c2 => C c j c2 (by omega) (by omega) (by omega)
  have D' : ∀ x j : Nat, x < 253 → ¬ (x = 160 ∧ j = 121) → r x j = B x j := fun x j c1 c2 => D x j c2 (by omega) (by omega) (by omega)
  refine ⟨⟨⟨?_, ?_⟩, ⟨?_, ?_⟩, ?_, ?_, ?_⟩, d60, fun j hj => ?_, hpa_k E (fun x q => C' 143 x (by omega) (by omega)) (fun c x q1 q2 => C' c x (by omega) (by omega)) (fun x q => D' 160 x (by omega) (by omega)) (fun c x q1 q2 => D' c x (by omega) (by omega)), pra_k P (C' 143 7 (by omega) (by omega)) (fun x => C' 144 x (by omega) (by omega)) (D' 160 143 (by omega) (by omega)) (fun x => D' 250 x (by omega) (by omega))⟩
  · rw [C' 143 1 (by omega) (by omega)]; exact a1
  · rw [D' 160 138 (by omega) (by omega)]; exact a2
  · rw [C' 143 2 (by omega) (by omega)]; exact a3
  · rw [D' 160 139 (by omega) (by omega)]; exact a4
  · rw [C' 143 3 (by omega) (by omega), D' 160 140 (by omega) (by omega)]; exact a5
  · rw [C' 143 6 (by omega) (by omega)]; exact a6
  · rw [D' 160 149 (by omega) (by omega)]; exact a7
  · by_cases jt : j = t
    · rw [jt]
      obtain ⟨⟨k, i, ⟨f1, f2⟩, f3, f4⟩, ⟨f5, f6⟩, f7, f8⟩ := F t ht
      refine ⟨⟨k, i, ⟨(D' 251 t (by omega) (by omega)).trans f1, (D' 252 t (by omega) (by omega)).trans f2⟩, f3, (C' 148 t (by omega) (by omega)).trans f4⟩, ⟨e1, e2⟩, L, fun n hn hl => ?_⟩
      by_cases nl : lo ≤ n
      · exact S n hn nl hl
      · rw [C 152 _ (by omega) (by omega) (by omega) (by omega), D 255 _ (by omega) (by omega) (by omega) (by omega)]
        exact f8 n hn (by omega)
    · exact fra_k (F j hj) (C 148 j (by omega) (by omega) (by omega) (by omega)) (C 149 j (by omega) (by omega) (by omega) (by omega)) (C 150 j (by omega) (by omega) (by omega) (by omega)) (fun n hn => C 151 _ (by omega) (by omega) (by omega) (by omega)) (fun n hn => C 152 _ (by omega) (by omega) (by omega) (by omega)) (D 251 j (by omega) (by omega) (by omega) (by omega)) (D 252 j (by omega) (by omega) (by omega) (by omega)) (D 253 j (by omega) (by omega) (by omega) (by omega)) (D 254 j (by omega) (by omega) (by omega) (by omega)) (fun n hn => D 255 _ (by omega) (by omega) (by omega) (by omega))
theorem rr_fra (R : RRd Bf nf cnt A B d) (ht : t < d) : FRA Bf nf cnt A B t := R.2.2.1 t ht
theorem jgv (R : RRd Bf nf cnt A B d) (ht : t < d) (C : CGV A g t H v p) (D : RGV B r t H v p) (l0 : (H : Int) ≤ B 254 t) : RRd Bf nf cnt g r d := by
  obtain ⟨C1, ⟨C2, C3⟩, C4, _, C5⟩ := C
  obtain ⟨D1, ⟨D2, D3⟩, D4, D5⟩ := D
  refine rr_top R ht C1 D1 (.inr l0) (C2.trans D2.symm) (C3.trans D3.symm) (fun n hn => ?_) (fun n hn n1 n2 => ?_)
  · rw [C5 n hn, D5 n hn]; exact (rr_fra R ht).2.2.1 n hn
  · rw [show n = H by omega, C4, D4]
theorem jgn (R : RRd Bf nf cnt A B d) (ht : t < d) (C : CGN A g t H p) (D : RGN B r t H p) (l0 : (H : Int) ≤ B 254 t) : RRd Bf nf cnt g r d := by
  obtain ⟨C1, ⟨C2, C3⟩, _, C5⟩ := C
  obtain ⟨D1, ⟨D2, D3⟩, D5⟩ := D
  refine rr_top R ht C1 D1 (.inr l0) (C2.trans D2.symm) (C3.trans D3.symm) (fun n hn => ?_) (fun n hn n1 n2 => ?_)
  · rw [C5 n hn, D5 n hn]; exact (rr_fra R ht).2.2.1 n hn
  · exfalso; omega
theorem jpp (R : RRd Bf nf cnt A B d) (ht : t < d) (C : CPp A u t H) (D : RPp B z t H) (l0 : (H : Int) ≤ B 254 t) : RRd Bf nf cnt u z d := by
  refine rr_top (lo := H) R ht (fun c j _ w2 _ _ => C.1 c j (by omega)) (fun x j _ w2 _ _ => D.1 x j (by omega)) (.inr l0) ?_ (C.2.trans D.2.symm) (fun n hn => ?_) (fun n hn n1 n2 => ?_)
  · rw [C.1 149 t (by omega), D.1 253 t (by omega)]; exact (rr_fra R ht).2.1.1
  · rw [C.1 151 _ (by omega), D.1 255 _ (by omega)]; exact (rr_fra R ht).2.2.1 n hn
  · have := D.2
    exfalso; omega
theorem jg0 (R : RRd Bf nf cnt A B d) (ht : t < d) (C : CGV A g t 0 v p) (D : RGV B r t 0 v p) : RRd Bf nf cnt g r d := by
  obtain ⟨C1, ⟨C2, C3⟩, C4, _, C5⟩ := C
  obtain ⟨D1, ⟨D2, D3⟩, D4, D5⟩ := D
  refine rr_top R ht C1 D1 (.inl rfl) (C2.trans D2.symm) (C3.trans D3.symm) (fun n hn => ?_) (fun n hn n1 n2 => ?_)
  · rw [C5 n hn, D5 n hn]; exact (rr_fra R ht).2.2.1 n hn
  · rw [show n = 0 by omega, C4, D4]
theorem cpp_rf (e : A 150 t = (H : Int)) : CPp A A t H := ⟨fun _ _ _ => rfl, e⟩
theorem rpp_rf (e : B 254 t = (H : Int)) : RPp B B t H := ⟨fun _ _ _ => rfl, e⟩
/-- one value is taken -/
theorem rc_pp (P : CPp A u t (H + 1)) (ht : A 143 17 = (t : Int)) (t60 : t < 60) (h30 : H < 30) : Pc (qf_X5_pop nn u) (fun y => y.1 = A 152 (30 * t + H) ∧ CPp A y.2 t H) := by
  refine pc_imp (rc_pop (t := t) (H := H) (by rw [P.1 143 17 (by omega)]; exact ht) t60 P.2 h30) (fun y ⟨q1, q2⟩ => ⟨?_, fun c j w => ?_, ?_⟩)
  · rw [q1, P.1 152 _ (by omega)]
  · rw [q2, up_n w, P.1 c j w]
  · rw [q2, up_s]
theorem rr_pp (P : RPp B z t (H + 1)) (ht : B 160 149 = (t : Int) + 1) (t60 : t < 60) (h30 : H < 30) : Pc (qf_X13_drop nn z) (fun y => y.1 = B 255 (60 * t + 30 + H) ∧ RPp B y.2 t H) := by
  refine pc_imp (rr_drop (t := t) (H := H) (by rw [P.1 160 149 (by omega)]; exact ht) t60 P.2 h30) (fun y ⟨q1, q2⟩ => ⟨?_, fun c j w => ?_, ?_⟩)
  · rw [q1, P.1 255 _ (by omega)]
  · rw [q2, up_n w, P.1 c j w]
  · rw [q2, up_s]
theorem rc_gvp (P : CPp A u t H) (ht : A 143 17 = (t : Int)) (t60 : t < 60) (h30 : H < 30) (p : 0 ≤ A 149 t ∧ A 149 t ≤ 10000) (hw : -10000 ≤ w ∧ w ≤ 10000) : Pc (qf_X5_give nn v w u) (fun g => CGV A g t H v (A 149 t + w)) := by
  have e9 : u 149 t = A 149 t := P.1 149 t (by omega)
  refine pc_imp (rc_gv (t := t) (H := H) (v := v) (w := w) (by rw [P.1 143 17 (by omega)]; exact ht) t60 P.2 h30 (by rw [e9]; exact p) hw) (fun g q => ⟨fun c j w1 w2 w3 w4 => ?_, ⟨?_, ?_⟩, ?_, ?_, fun n hn => ?_⟩)
  · rw [q, up_n (by omega), up_n (by omega), up_n (by omega), P.1 c j (by omega)]
  · rw [q, up_s, e9]
  · rw [q, up_n (by omega), up_s]
  · rw [q, up_n (by omega), up_n (by omega), up_s]
  · rw [q, up_n (by omega), up_n (by omega), up_n (by omega), P.1 143 20 (by omega)]
  · rw [q, up_n (by omega), up_n (by omega), up_n (by omega), P.1 151 _ (by omega)]
theorem rc_gop (P : CPp A u t H) (ht : A 143 17 = (t : Int)) (p : 0 ≤ A 149 t ∧ A 149 t ≤ 10000) (hw : -40000 ≤ w ∧ w ≤ 40000) : Pc (qf_X5_goOn nn w u) (fun g => CGN A g t H (A 149 t + w)) := by
  have e9 : u 149 t = A 149 t := P.1 149 t (by omega)
  unfold qf_X5_goOn
  rw [P.1 143 17 (by omega), ht]
  refine pc_rA ?_; intro _ _ v3 e3
  rw [Int.toNat_natCast, e9] at e3
  refine pc_add (by omega) ?_; intro v4 e4
  refine pc_wA ?_; intro _ _ h5 e5
  rw [Int.toNat_natCast] at e5
  refine pc_ret ⟨fun c j w1 w2 w3 w4 => ?_, ⟨?_, ?_⟩, ?_, fun n hn => ?_⟩
  · rw [e5, up_n (by omega), P.1 c j (by omega)]
  · rw [e5, up_s, e4, e3]
  · rw [e5, up_n (by omega), P.2]
  · rw [e5, up_n (by omega), P.1 143 20 (by omega)]
  · rw [e5, up_n (by omega), P.1 151 _ (by omega)]
theorem rr_gvp (P : RPp B z t H) (ht : B 160 149 = (t : Int) + 1) (t60 : t < 60) (h30 : H < 30) (p : 0 ≤ B 253 t ∧ B 253 t ≤ 10000) (hw : -10000 ≤ w ∧ w ≤ 10000) : Pc (mx_sv (qf_X13_give nn v z) fun u => qj_X13_step_1150 nn w u) (fun r => RGV B r t H v (B 253 t + w)) := by
  have e9 : z 253 t = B 253 t := P.1 253 t (by omega)
  refine pc_imp (rr_gv (t := t) (H := H) (v := v) (w := w) (by rw [P.1 160 149 (by omega)]; exact ht) t60 P.2 h30 (by rw [e9]; exact p) hw) (fun g q => ⟨fun c j w1 w2 w3 w4 => ?_, ⟨?_, ?_⟩, ?_, fun n hn => ?_⟩)
  · rw [q, up_n (by omega), up_n (by omega), up_n (by omega), P.1 c j (by omega)]
  · rw [q, up_s, e9]
  · rw [q, up_n (by omega), up_s]
  · rw [q, up_n (by omega), up_n (by omega), up_s]
  · rw [q, up_n (by omega), up_n (by omega), up_n (by omega), P.1 255 _ (by omega)]
theorem rr_gop (P : RPp B z t H) (ht : B 160 149 = (t : Int) + 1) (t60 : t < 60) (p : 0 ≤ B 253 t ∧ B 253 t ≤ 10000) (hw : -40000 ≤ w ∧ w ≤ 40000) : Pc (qf_X13_on nn w z) (fun r => RGN B r t H (B 253 t + w)) := by
  have e9 : z 253 t = B 253 t := P.1 253 t (by omega)
  unfold qf_X13_on
  rw [P.1 160 149 (by omega), ht]
  refine pc_sub (by omega) ?_; intro v3 e3
  rw [show v3 = (t : Int) by omega]
  refine pc_rA ?_; intro _ _ v4 e4
  rw [Int.toNat_natCast, e9] at e4
  refine pc_add (by omega) ?_; intro v5 e5
  refine pc_wA ?_; intro _ _ h6 e6
  rw [Int.toNat_natCast] at e6
  refine pc_ret ⟨fun c j w1 w2 w3 w4 => ?_, ⟨?_, ?_⟩, fun n hn => ?_⟩
  · rw [e6, up_n (by omega), P.1 c j (by omega)]
  · rw [e6, up_s, e5, e4]
  · rw [e6, up_n (by omega), P.2]
  · rw [e6, up_n (by omega), P.1 255 _ (by omega)]
theorem rr_on1 (P : RPp B z t H) (ht : B 160 149 = (t : Int) + 1) (t60 : t < 60) (p : 0 ≤ B 253 t ∧ B 253 t ≤ 10000) (hw : -40000 ≤ w ∧ w ≤ 40000) : Pc (qj_X13_step_1150 nn w z) (fun r => RGN B r t H (B 253 t + w)) := by
  unfold qj_X13_step_1150
  exact pc_sv (rr_gop P ht t60 p hw) (fun u q => pc_ret q)
/-- what is no number is 0 or an object -/
theorem rc_iso (e4 : u 143 4 = B 160 141) (o2 : B 160 141 ≤ 2000) (hv : v = 0 ∨ (1 ≤ v ∧ v ≤ B 160 141)) : Pc (qf_X5_isObject nn v u) (fun y => (y = 0 ∧ v = 0) ∨ (y = 1 ∧ ¬ v = 0)) := by
  unfold qf_X5_isObject
  rw [e4]
  refine pc_if (fun z => pc_ret (.inl ⟨rfl, by omega⟩)) (fun z => ?_)
  refine pc_if (fun w => absurd w (by omega)) (fun _ => ?_)
  refine pc_if (fun w => absurd w (by omega)) (fun _ => ?_)
  exact pc_ret (.inr ⟨rfl, by omega⟩)
end
end
section
/- RUN: what the reference's verify told, in the bytes of the images; constants of the method that runs -/
/-- both machines' surroundings -/
def ENa (Bf : Nat → Nat → Int) (nf : Nat → Nat) (cnt : Int) (A B : ms_M) : Prop := (CSw Bf nf A ∧ A 56 3 = cnt ∧ LKt Bf nf cnt A) ∧ (RSv Bf nf B ∧ B 160 98 = cnt) ∧ NKn Bf nf cnt ∧ HGo Bf nf cnt ∧ VOk Bf nf cnt
section
variable {nn : Nat} {Bf : Nat → Nat → Int} {nf : Nat → Nat} {cnt : Int} {k i t : Nat} {h g r p w R A B : ms_M} {ω : Int → ms_M} {o u c kk : Int}
theorem lkt_k (L : LKt Bf nf cnt A) (e : ∀ c : Nat, 68 ≤ c → c ≤ 70 → g c = A c) : LKt Bf nf cnt g := by
  unfold LKt LCs LMs LMt at L ⊢
  rw [e 68 (by omega) (by omega), e 69 (by omega) (by omega), e 70 (by omega) (by omega)]
  exact L
theorem en_k (E : ENa Bf nf cnt A B) (C : ∀ c j : Nat, c < 160 ∨ 256 ≤ c → ¬ (143 ≤ c ∧ c ≤ 152) → g c j = A c j) (D : ∀ x j : Nat, 226 ≤ x → x ≤ 237 → r x j = B x j) (e98 : r 160 98 = B 160 98) : ENa Bf nf cnt g r := by
  obtain ⟨⟨c1, c2, c3⟩, ⟨r1, r2⟩, rest⟩ := E
  exact ⟨⟨csw_r c1 C, (C 56 3 (by omega) (by omega)).trans c2, lkt_k c3 (fun c h1 h2 => funext fun j => C c j (by omega) (by omega))⟩, ⟨rsv_k r1 (fun x j w => D x j (by omega) (by omega)) e98, e98.trans r2⟩, rest⟩
/-- the text of class constant o -/
theorem rr_toc (S : RSv Bf nf h) (hk : (k : Int) < h 160 98) (t3 : tg_S (Bf k) (nf k) o = 3) : Pc (qf_X13_textOfClass nn (k : Int) o h) (fun u => u = pt_S (Bf k) (nf k) o 0) := by
  obtain ⟨n6, k8⟩ := tb_n6 S hk
  obtain ⟨i1, i2, i3⟩ := tg_in (B := Bf k) (n := nf k) (k := o) (by omega)
  obtain ⟨e228, kv, b255⟩ := tb_pl S hk i1 i2
  have kv3 := kv.2.2.1 (by omega)
  unfold qf_X13_textOfClass
  refine pc_xl ?_; intro w1 f1
  rw [oq_mul_eq (by omega) (by omega) (by omega)] at f1
  refine pc_add (by omega) ?_; intro w2 f2
  refine pc_rA ?_; intro _ _ w3 f3
  rw [show w2.toNat = (256 * (k : Int) + o).toNat by omega, e228] at f3
  refine pc_add (by omega) ?_; intro w4 f4
  rw [show w4 = ((pl_S (Bf k) (nf k) o + 1 : Nat) : Int) by omega]
  exact pc_sv (vq_rbyte S hk (p := pl_S (Bf k) (nf k) o + 1) (by omega)) (fun u q => pc_ret q)
/-- the class that name t says -/
theorem rr_cat (S : RSv Bf nf h) (hk : (k : Int) < h 160 98) {x : Int} (t1 : tg_S (Bf k) (nf k) x = 1) (nm : ∀ j : Nat, j < tl_S (Bf k) (nf k) x → ¬ Bf k (na_S (Bf k) (nf k) x + j) = 32) : Pc (qf_X13_classAtText nn (k : Int) x h) (CNo Bf nf (h 160 98) (fun j => Bf k (na_S (Bf k) (nf k) x + j)) (tl_S (Bf k) (nf k) x)) := by
  obtain ⟨n6, k8⟩ := tb_n6 S hk
  obtain ⟨p1, p2, p3, p4, p5, p6, p7⟩ := pi_le S hk t1
  have ena : na_S (Bf k) (nf k) x = pl_S (Bf k) (nf k) x + 2 := rfl
  unfold qf_X13_classAtText
  refine pc_xl ?_; intro w1 f1
  rw [oq_mul_eq (by omega) (by omega) (by omega)] at f1
  refine pc_xl ?_; intro w2 f2
  rw [oq_mul_eq (by omega) (by omega) (by omega)] at f2
  refine pc_add (by omega) ?_; intro w3 f3
  refine pc_rA ?_; intro _ _ w4 f4
  rw [show w3.toNat = (256 * (k : Int) + x).toNat by omega, p6] at f4
  refine pc_add (by omega) ?_; intro w5 f5
  refine pc_add (by omega) ?_; intro w6 f6
  refine pc_add (by omega) ?_; intro w7 f7
  refine pc_rA ?_; intro _ _ w8 f8
  rw [show w7.toNat = 6000 * k + (pl_S (Bf k) (nf k) x + 1) by omega, tb_by S hk (by omega), p4] at f8
  rw [f8, show w6 = ((6000 * k + na_S (Bf k) (nf k) x : Nat) : Int) by omega]
  have RW : RWt h 226 ((6000 * k + na_S (Bf k) (nf k) x : Nat) : Int) (tl_S (Bf k) (nf k) x) (fun j => Bf k (na_S (Bf k) (nf k) x + j)) := by
    refine ⟨by omega, by omega, by omega, fun j hj => ?_⟩
    rw [Int.toNat_natCast, Nat.add_assoc]; exact tb_by S hk (by omega)
  refine pc_sv (P := CNo Bf nf (h 160 98) (fun j => Bf k (na_S (Bf k) (nf k) x + j)) (tl_S (Bf k) (nf k) x)) ?_ (fun u q => pc_ret q)
  unfold qf_X13_classNamed
  exact r_classNamed (nn := nn) S.2 S.1 RW nm nn 0 (fun j _ hj => absurd hj (Nat.not_lt_zero j)) (fun j hj => absurd hj (Nat.not_lt_zero _)) (by have := S.1; show ((0 : Nat) : Int) ≤ _; omega)
theorem rs_zk (S : RSv Bf nf h) (hk : (k : Int) < h 160 98) : ∃ x : Nat, kk_S (Bf k) (nf k) = .inr x ∧ 0 ≤ Bf k 2 := by
  obtain ⟨x, a, b, _⟩ := kz_rk S hk
  exact ⟨x, a, b⟩
/-- the class that class constant o says -/
theorem rr_cls {α : Type} {G : Int → Option α} {Q : α → Prop} (N : NKn Bf nf (h 160 98)) (S : RSv Bf nf h) (hk : (k : Int) < h 160 98) (t3 : tg_S (Bf k) (nf k) o = 3) (n91 : ¬ Bf k (na_S (Bf k) (nf k) (pt_S (Bf k) (nf k) o 0)) = 91) (K : Pc (G (cq_F Bf nf (h 160 98) (Bf k) (nf k) o)) Q) : Pc (mx_sv (qf_X13_textOfClass nn (k : Int) o h) fun u7 => mx_sv (qf_X13_classAtText nn (k : Int) u7 h) fun u9 => G u9) Q := by
  obtain ⟨zx, zk, z2⟩ := rs_zk S hk
  obtain ⟨t1, tx⟩ := cl_tx zk z2 t3
  refine pc_sv (rr_toc S hk t3) ?_; intro u7 q7
  rw [q7]
  have nm : nm_N (fun j => Bf k (na_S (Bf k) (nf k) (pt_S (Bf k) (nf k) o 0) + j)) (tl_S (Bf k) (nf k) (pt_S (Bf k) (nf k) o 0)) = true := by
    rcases tx with ⟨w, _⟩ | ⟨w, _⟩
    · exact w
    · exact absurd w n91
  refine pc_sv (rr_cat S hk t1 (nm_32 nm)) ?_; intro u9 q9
  have e9 : u9 = cq_F Bf nf (h 160 98) (Bf k) (nf k) o := by
    unfold cq_F
    rw [if_neg n91]
    exact (cl_cn N lo_ok q9).symm
  rw [e9]; exact K
/-- .. of the method that runs -/
theorem rr_cin (N : NKn Bf nf (h 160 98)) (S : RSv Bf nf h) (hk : (k : Int) < h 160 98) (ht : h 160 149 = (t : Int) + 1) (t60 : t < 60) (e1 : h 251 t = 8 + (k : Int)) (t3 : tg_S (Bf k) (nf k) o = 3) (n91 : ¬ Bf k (na_S (Bf k) (nf k) (pt_S (Bf k) (nf k) o 0)) = 91) : Pc (qf_X13_classIn nn o h) (fun u => u = cq_F Bf nf (h 160 98) (Bf k) (nf k) o) := by
  obtain ⟨n6, k8⟩ := tb_n6 S hk
  unfold qf_X13_classIn
  rw [ht]
  refine pc_sub (by omega) ?_; intro v3 e3
  rw [show v3 = (t : Int) by omega]
  refine pc_rA ?_; intro _ _ v4 e4
  rw [Int.toNat_natCast, e1] at e4
  refine pc_sub (by omega) ?_; intro v5 e5
  rw [show v5 = (k : Int) by omega]
  exact rr_cls N S hk t3 n91 (pc_ret rfl)
theorem rr_prt (S : RSv Bf nf h) (hk : (k : Int) < h 160 98) (ht : h 160 149 = (t : Int) + 1) (t60 : t < 60) (e1 : h 251 t = 8 + (k : Int)) (t4 : tg_S (Bf k) (nf k) o = 4) {y : Nat} (hy : y ≤ 2) : Pc (qf_X13_memberPart nn o (y : Int) h) (fun u => u = pt_S (Bf k) (nf k) o y) := by
  obtain ⟨n6, k8⟩ := tb_n6 S hk
  obtain ⟨i1, i2, i3⟩ := tg_in (B := Bf k) (n := nf k) (k := o) (by omega)
  obtain ⟨e228, kv, b255⟩ := tb_pl S hk i1 i2
  have kv4 := (kv.2.2.2 (by omega)).1
  unfold qf_X13_memberPart
  rw [ht]
  refine pc_sub (by omega) ?_; intro v3 e3
  rw [show v3 = (t : Int) by omega]
  refine pc_rA ?_; intro _ _ v4 e4
  rw [Int.toNat_natCast, e1] at e4
  refine pc_sub (by omega) ?_; intro v5 e5
  rw [show v5 = (k : Int) by omega]
  refine pc_xl ?_; intro w1 f1
  rw [oq_mul_eq (by omega) (by omega) (by omega)] at f1
  refine pc_add (by omega) ?_; intro w2 f2
  refine pc_rA ?_; intro _ _ w3 f3
  rw [show w2.toNat = (256 * (k : Int) + o).toNat by omega, e228] at f3
  refine pc_add (by omega) ?_; intro w4 f4
  refine pc_add (by omega) ?_; intro w5 f5
  rw [show w5 = ((pl_S (Bf k) (nf k) o + 1 + y : Nat) : Int) by omega]
  exact pc_sv (vq_rbyte S hk (p := pl_S (Bf k) (nf k) o + 1 + y) (by omega)) (fun u q => pc_ret q)
/-- the scanned image and its bytes -/
theorem tr_w (X : RX nn ω g R) (hk : (k : Int) < R 160 98) : WI R (k : Int) (ω k) ∧ (k : Int) < g 160 98 := by
  have e := X.2.1.1
  have c : 0 ≤ (k : Int) ∧ (k : Int) < g 160 98 := by omega
  exact ⟨wi_e X.2.1 c (X.1.2.1 (k : Int) c.1 c.2), c.2⟩
theorem tr_b (S : RSv Bf nf R) (W : WI R (k : Int) w) (hk : (k : Int) < R 160 98) {x : Int} (x0 : 0 ≤ x) (x1 : x < w 160 113) (x2 : x < (nf k : Int)) : w 238 x.toNat = Bf k x.toNat := by
  have e := W.2.2.1 x x0 x1
  have b := tb_by S hk (i := x.toNat) (by omega)
  rw [← e, ← b, show (6000 * (k : Int) + x).toNat = 6000 * k + x.toNat by omega]
theorem tr_p (S : RSv Bf nf R) (W : WI R (k : Int) w) (hk : (k : Int) < R 160 98) {x : Int} (h1 : 1 ≤ x) (h2 : x ≤ w 229 (k : Int).toNat) : pl w (k : Int) x = (pl_S (Bf k) (nf k) x : Int) ∧ x ≤ Bf k 2 ∧ KVs (Bf k) (nf k) x := by
  have e229 := W.2.2.2.2.1
  have b229 := (S.2 k hk).2.1.1
  have x2 : x ≤ Bf k 2 := by rw [← b229, e229]; exact h2
  obtain ⟨e228, kv, b255⟩ := tb_pl S hk h1 x2
  have := W.2.2.2.1 x (by omega) (by omega)
  exact ⟨by rw [← this, e228], x2, kv⟩
theorem tr_t (S : RSv Bf nf R) (W : WI R (k : Int) w) (hk : (k : Int) < R 160 98) {x s : Int} (T : SRT w (k : Int) x s) : tg_S (Bf k) (nf k) x = s := by
  obtain ⟨n6, k8⟩ := tb_n6 S hk
  obtain ⟨e, x2, kv⟩ := tr_p S W hk T.1.1 T.1.2
  obtain ⟨b1, b2, b3, _⟩ := wi_cs W (by omega) T.1
  have kv1 := kv.1
  have q := tr_b S W hk (x := pl w (k : Int) x) b3.1 (by omega) (by omega)
  rw [T.2, e, Int.toNat_natCast] at q
  have t1 := T.1.1
  unfold tg_S
  rw [if_pos ⟨t1, x2⟩]; exact q.symm
theorem tr_4 (S : RSv Bf nf R) (W : WI R (k : Int) w) (hk : (k : Int) < R 160 98) {x : Int} (T : SRT w (k : Int) x 4) {y : Nat} (hy : y ≤ 2) : w 238 (pl w (k : Int) x + 1 + (y : Int)).toNat = pt_S (Bf k) (nf k) x y := by
  obtain ⟨n6, k8⟩ := tb_n6 S hk
  obtain ⟨e, x2, kv⟩ := tr_p S W hk T.1.1 T.1.2
  obtain ⟨b1, b2, b3, _, b4⟩ := wi_cs W (by omega) T.1
  have b4 := b4 T.2
  have t4 := tr_t S W hk T
  obtain ⟨i1, i2, i3⟩ := tg_in (B := Bf k) (n := nf k) (k := x) (by omega)
  have kv4 := (kv.2.2.2 (by omega)).1
  have q := tr_b S W hk (x := pl w (k : Int) x + 1 + (y : Int)) (by omega) (by omega) (by omega)
  rw [q, show (pl w (k : Int) x + 1 + (y : Int)).toNat = pl_S (Bf k) (nf k) x + 1 + y by omega]; rfl
theorem tr_3 (S : RSv Bf nf R) (W : WI R (k : Int) w) (hk : (k : Int) < R 160 98) {x : Int} (T : CL w (k : Int) x) : tg_S (Bf k) (nf k) x = 3 ∧ w 238 (pl w (k : Int) x + 1).toNat = pt_S (Bf k) (nf k) x 0 := by
  obtain ⟨n6, k8⟩ := tb_n6 S hk
  obtain ⟨e, x2, kv⟩ := tr_p S W hk T.1.1 T.1.2
  obtain ⟨b1, b2, b3, _⟩ := wi_cs W (by omega) T.1
  have t3 := tr_t S W hk (s := 3) T
  obtain ⟨i1, i2, i3⟩ := tg_in (B := Bf k) (n := nf k) (k := x) (by omega)
  have kv3 := kv.2.2.1 (by omega)
  have q := tr_b S W hk (x := pl w (k : Int) x + 1) (by omega) (by omega) (by omega)
  exact ⟨t3, by rw [q, show (pl w (k : Int) x + 1).toNat = pl_S (Bf k) (nf k) x + 1 + 0 by omega]; rfl⟩
theorem ctv_91 {j u : Int} (F : CTv nn h c w j (4 + 2 * u)) : ¬ w 238 (pl w c (w 238 (pl w c j + 1).toNat) + 2).toNat = 91 := by
  rcases F with ⟨a, y, b, d⟩ | ⟨a, b⟩
  · exact a
  · exfalso
    rcases b with b | b | b | b | b
    · omega
    · omega
    · omega
    · omega
    · obtain ⟨_, _, y, _, b⟩ := b
      omega
/-- a class constant that stands for class u -/
theorem tr_cq (X : RX nn ω g R) (S : RSv Bf nf R) (N : NKn Bf nf (R 160 98)) (hk : (k : Int) < R 160 98) (cl : CL (ω k) (k : Int) o) (F : CTv nn g (k : Int) (ω k) o (4 + 2 * u)) : tg_S (Bf k) (nf k) o = 3 ∧ ¬ Bf k (na_S (Bf k) (nf k) (pt_S (Bf k) (nf k) o 0)) = 91 ∧ cq_F Bf nf (R 160 98) (Bf k) (nf k) o = u := by
  obtain ⟨n6, k8⟩ := tb_n6 S hk
  obtain ⟨W, hg⟩ := tr_w X hk
  obtain ⟨t3, e0⟩ := tr_3 S W hk cl
  obtain ⟨zx, zk, z2⟩ := rs_zk S hk
  obtain ⟨t1, tx⟩ := cl_tx zk z2 t3
  have c91 := ctv_91 F
  have cx := (wi_cl W (by omega) cl).2.2.2.2.1
  rw [e0] at c91 cx
  obtain ⟨a1, a2, a3, a4, a5⟩ := wi_tx W (by omega) cx
  obtain ⟨e, x2, kv⟩ := tr_p S W hk cx.1.1 cx.1.2
  obtain ⟨p1, p2, p3, p4, p5, p6, p7⟩ := pi_le S hk t1
  have ena : na_S (Bf k) (nf k) (pt_S (Bf k) (nf k) o 0) = pl_S (Bf k) (nf k) (pt_S (Bf k) (nf k) o 0) + 2 := rfl
  have q := tr_b S W hk (x := pl (ω k) (k : Int) (pt_S (Bf k) (nf k) o 0) + 2) (by omega) (by omega) (by omega)
  have n91 : ¬ Bf k (na_S (Bf k) (nf k) (pt_S (Bf k) (nf k) o 0)) = 91 := fun z => c91 (by rw [q, show (pl (ω k) (k : Int) (pt_S (Bf k) (nf k) o 0) + 2).toNat = na_S (Bf k) (nf k) (pt_S (Bf k) (nf k) o 0) by omega]; exact z)
  refine ⟨t3, n91, ?_⟩
  obtain ⟨y, ey, qy⟩ := g_class X ⟨by omega, hg⟩ cl F (G := fun z => some z) (Q := fun z => z = u) ⟨u, rfl, rfl⟩
  have := rr_cls (nn := nn) (G := fun z => some z) (Q := fun z => z = cq_F Bf nf (R 160 98) (Bf k) (nf k) o) N S hk t3 n91 (pc_ret rfl) y ey
  rw [← this, qy]
/-- the code of the method that runs -/
theorem tr_op {f tt : Int} {N : Nat} {T U : Nat → ms_M} {a : Nat} (X : RX nn ω g R) (S : RSv Bf nf R) (AT : ATF nn g ω R f (k : Int) (i : Int) N T U tt a p) : (k : Int) < R 160 98 ∧ (i : Int) < mc_S (Bf k) (nf k) ∧ p 160 134 = ((ma_S (Bf k) (nf k) i + 7 : Nat) : Int) ∧ (p 160 135 ≤ 1500 ∧ ∀ x : Nat, (x : Int) ≤ p 160 135 → ω k 238 (p 160 134 + (x : Int)).toNat = Bf k (ma_S (Bf k) (nf k) i + 7 + x) ∧ ma_S (Bf k) (nf k) i + 7 + x < nf k) := by
  obtain ⟨⟨m, L, q0, bd⟩, ⟨c0, k0⟩, _⟩ := AT
  have e98 := X.2.1.1
  have AE := X.2.1
  have hk : (k : Int) < R 160 98 := by omega
  obtain ⟨n6, k8⟩ := tb_n6 S hk
  obtain ⟨W, hg⟩ := tr_w X hk
  have M := bd.1.2.2
  have cd := mc_code M
  obtain ⟨_, _, _, _, _, _, _, e135, e134⟩ := M
  obtain ⟨GI, _, m234, MD⟩ := rg_im (S.2 k hk)
  have hi : (i : Int) < mc_S (Bf k) (nf k) := by
    rw [← m234, (AE.2 (k : Int) c0.1 c0.2).2.2.1.2.2.2.2]; exact k0.2
  have m12 := GI.2.2.1
  have G := GI.2.2.2 i hi
  obtain ⟨_, _, _, ⟨l1, l2, l3⟩, _⟩ := G
  have e235 : p 235 (12 * (k : Int) + (i : Int)).toNat = (ma_S (Bf k) (nf k) i : Int) := by
    rw [bd.1.1.1 235 _ (by decide) (by decide), ← ((AE.2 (k : Int) c0.1 c0.2).2.2.2 (i : Int) (by omega) (by omega)).2.1]
    exact (MD i hi).1
  rw [e235] at e134 e135
  have b5 := tr_b S W hk (x := (ma_S (Bf k) (nf k) i : Int) + 5) (by omega) (by omega) (by omega)
  have b6 := tr_b S W hk (x := (ma_S (Bf k) (nf k) i : Int) + 6) (by omega) (by omega) (by omega)
  rw [show ((ma_S (Bf k) (nf k) i : Int) + 5).toNat = ma_S (Bf k) (nf k) i + 5 by omega] at b5
  rw [show ((ma_S (Bf k) (nf k) i : Int) + 6).toNat = ma_S (Bf k) (nf k) i + 5 + 1 by omega] at b6
  have r5 := (S.2 k hk).1.2.2.2 (ma_S (Bf k) (nf k) i + 5) (by omega)
  have eln : p 160 135 = ln_N (Bf k) (ma_S (Bf k) (nf k) i + 5) := by
    rw [e135, show ((ma_S (Bf k) (nf k) i : Int) + 5).toNat = ma_S (Bf k) (nf k) i + 5 by omega, show ((ma_S (Bf k) (nf k) i : Int) + 6).toNat = ma_S (Bf k) (nf k) i + 5 + 1 by omega, b5, b6]
    unfold pw ln_N
    rw [oq_shl_8 r5]
  refine ⟨hk, hi, by omega, by omega, fun x hx => ?_⟩
  have xn : ma_S (Bf k) (nf k) i + 7 + x < nf k := by omega
  refine ⟨?_, xn⟩
  rw [tr_b S W hk (x := p 160 134 + (x : Int)) (by omega) (by omega) (by omega), show (p 160 134 + (x : Int)).toNat = ma_S (Bf k) (nf k) i + 7 + x by omega]
end
end

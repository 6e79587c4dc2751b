/- VERIFY: all links of the class -/
/-- what method m of the t-th class above class 8 + k is linked to -/
def LMt (Bf : Nat → Nat → Int) (nf : Nat → Nat) (cnt : Int) (k t m : Nat) (g : ms_M) : Prop := NRv2 Bf nf cnt k (ch_F Bf nf cnt (8 + (k : Int)) t) m (g 70 (96 * (k : Int) + ((ch_F Bf nf cnt (8 + (k : Int)) t - 8) * 12 + (m : Int))).toNat)
/-- all methods of the classes before the t-th above class 8 + k are linked -/
def LMs (Bf : Nat → Nat → Int) (nf : Nat → Nat) (cnt : Int) (k t : Nat) (g : ms_M) : Prop := ∀ x : Nat, x < t → 8 ≤ ch_F Bf nf cnt (8 + (k : Int)) x → ∀ m : Nat, (m : Int) < mc_S (Bf (ch_F Bf nf cnt (8 + (k : Int)) x - 8).toNat) (nf (ch_F Bf nf cnt (8 + (k : Int)) x - 8).toNat) → LMt Bf nf cnt k x m g
/-- the constants of image k before a are linked -/
def LCs (Bf : Nat → Nat → Int) (nf : Nat → Nat) (cnt : Int) (k : Nat) (a : Int) (g : ms_M) : Prop := ∀ e : Int, 1 ≤ e → e < a → LKv Bf nf cnt k e (g 68 (256 * (k : Int) + e).toNat)
/-- ALL LINKS of the class -/
def LKt (Bf : Nat → Nat → Int) (nf : Nat → Nat) (cnt : Int) (g : ms_M) : Prop := (∀ c : Nat, (c : Int) < 8 + cnt → g 69 c = ca_F Bf nf cnt (c : Int)) ∧ ∀ k : Nat, (k : Int) < cnt → LCs Bf nf cnt k (Bf k 2 + 1) g ∧ LMs Bf nf cnt k 16 g
section
variable {nn : Nat} {Bf : Nat → Nat → Int} {nf : Nat → Nat} {cnt : Int} {b d k i t : Nat} {h g : ms_M} {c a : Int}
theorem vc_lm29 (H : HGo Bf nf cnt) (hk : (k : Int) < cnt) {K : Int → Int → Int → ms_M → Option ms_M} {Q : ms_M → Prop} {t : Nat} (ht : t < 16) (dr : 8 ≤ ch_F Bf nf cnt (8 + (k : Int)) t) (eb : (b : Int) = h 60 (ch_F Bf nf cnt (8 + (k : Int)) t - 8).toNat)
    (hK : ∀ g : ms_M, CSw Bf nf g → (∀ x j : Nat, ¬ (x = 70 ∧ 96 * k ≤ j ∧ j < 96 * k + 96) → g x j = h x j) → LMs Bf nf cnt k (t + 1) g → Pc (K (k : Int) (ch_F Bf nf cnt (8 + (k : Int)) (t + 1)) ((t + 1 : Nat) : Int) g) Q) (ec : h 56 3 = cnt) : ∀ (f m : Nat) (g : ms_M), CSw Bf nf g → (∀ x j : Nat, ¬ (x = 70 ∧ 96 * k ≤ j ∧ j < 96 * k + 96) → g x j = h x j) → LMs Bf nf cnt k t g → (∀ x : Nat, x < m → LMt Bf nf cnt k t x g) → (m : Int) ≤ mc_S (Bf (ch_F Bf nf cnt (8 + (k : Int)) t - 8).toNat) (nf (ch_F Bf nf cnt (8 + (k : Int)) t - 8).toNat) → Pc (qw_X7_linkMethods_29 nn K f (k : Int) (ch_F Bf nf cnt (8 + (k : Int)) t) (t : Int) (b : Int) (m : Int) g) Q := by
  have h8 := H.1
  have k0 : 8 + (k : Int) = -1 ∨ ISc cnt (8 + (k : Int)) := .inr (by unfold ISc; omega)
  have I := ch_is (Bf := Bf) (nf := nf) H.1.1 k0
  intro f
  induction f with
  | zero => intro m g _ _ _ _ _; exact pc_none
  | succ f ih =>
    intro m g S A L0 L1 hm
    have It : ISc cnt (ch_F Bf nf cnt (8 + (k : Int)) t) := by
      rcases I t with w | w
      · omega
      · exact w
    have It' := It
    unfold ISc at It'
    have ecg : g 56 3 = cnt := by rw [A 56 3 (by omega)]; exact ec
    have hd : (((ch_F Bf nf cnt (8 + (k : Int)) t - 8).toNat : Nat) : Int) < g 56 3 := by omega
    have X := S.1.2 (ch_F Bf nf cnt (8 + (k : Int)) t - 8).toNat hd
    have eg : (g 60 (ch_F Bf nf cnt (8 + (k : Int)) t - 8).toNat).toNat = b := by rw [A 60 _ (by omega)]; omega
    rw [eg] at X
    obtain ⟨G, -, e12, MD⟩ := cg_im X
    have m12 := G.2.2.1
    unfold qw_X7_linkMethods_29
    refine pc_ck (fun _ => ?_)
    refine pc_ck (fun _ => ?_)
    simp only [Int.toNat_natCast]
    rw [e12]
    refine pc_if (fun w => ?_) (fun w => ?_)
    · have qa := vc_above (nn := nn) S (c := ch_F Bf nf cnt (8 + (k : Int)) t) (by rw [ecg]; exact It)
      rw [ecg] at qa
      refine pc_sv qa ?_; intro u5 q5
      refine pc_add (by omega) ?_; intro v6 e6
      rw [q5, ← chv_s It.1, show v6 = ((t + 1 : Nat) : Int) by omega]
      refine hK g S A (fun x hx x8 y hy => ?_)
      by_cases e : x = t
      · rw [e]
        rw [e] at hy
        exact L1 y (by omega)
      · exact L0 x (by omega) x8 y hy
    · have hm' : (m : Int) < mc_S (Bf (ch_F Bf nf cnt (8 + (k : Int)) t - 8).toNat) (nf (ch_F Bf nf cnt (8 + (k : Int)) t - 8).toNat) := by omega
      refine pc_xl ?_; intro v8 e8
      rw [oq_mul_eq (by omega) (by omega) (by omega)] at e8
      refine pc_sv (P := fun u => u = (ch_F Bf nf cnt (8 + (k : Int)) t - 8) * 12 + (m : Int)) ?_ ?_
      · unfold qf_X7_numberOf
        refine pc_sub (by omega) ?_; intro v1 e1
        refine pc_xl ?_; intro v2 e2
        rw [oq_mul_eq (by omega) (by omega) (by omega)] at e2
        refine pc_add (by omega) ?_; intro v3 e3
        exact pc_ret (by rw [e3, e2, e1])
      intro u10 q10
      refine pc_add (by omega) ?_; intro v11 e11
      refine pc_add (by omega) ?_; intro v12 e12'
      refine pc_sv (vq_of X hm' (w := 1) (by omega) (MD m hm').1.2.1) ?_; intro u14 q14
      have t1 := nt_1 G (j := m) (s := 1) (by unfold mb_S; rw [if_neg (by decide)]; exact hm')
      have LK := (vc_lk (nn := nn) S hd (by rw [ecg]; exact fun c hc => hg_end H hc) t1 (c := 8 + (k : Int)) (.inr (.inl ⟨by rw [ecg]; unfold ISc; omega, by omega⟩))).1
      rw [eg, ecg] at LK
      have en : nt_S (Bf (ch_F Bf nf cnt (8 + (k : Int)) t - 8).toNat) (nf (ch_F Bf nf cnt (8 + (k : Int)) t - 8).toNat) m 1 = u14 := by rw [q14]; unfold nt_S; rw [if_neg (by decide)]
      rw [e12', ← en]
      refine pc_sv LK ?_; intro u16 q16
      refine pc_wA ?_; intro j1 j2 h17 e17
      refine pc_add (by omega) ?_; intro v18 e18
      rw [show v18 = ((m + 1 : Nat) : Int) by omega]
      have ev : v11.toNat = (96 * (k : Int) + ((ch_F Bf nf cnt (8 + (k : Int)) t - 8) * 12 + (m : Int))).toNat := by omega
      have NW : LMt Bf nf cnt k t m h17 := by
        unfold LMt NRv2
        rw [e17, ← ev, up_s]
        exact q16
      have OLD : ∀ x y : Nat, 8 ≤ ch_F Bf nf cnt (8 + (k : Int)) x → (y : Int) < 12 → LMt Bf nf cnt k x y g → LMt Bf nf cnt k x y h17 := fun x y x8 y12 O => by
        by_cases e : (96 * (k : Int) + ((ch_F Bf nf cnt (8 + (k : Int)) x - 8) * 12 + (y : Int))).toNat = v11.toNat
        · have e1 : ch_F Bf nf cnt (8 + (k : Int)) x = ch_F Bf nf cnt (8 + (k : Int)) t := by omega
          have e2 : y = m := by omega
          unfold LMt at NW ⊢
          rw [e1, e2]
          exact NW
        · unfold LMt at O ⊢
          rw [e17, up_n (fun w => e w.2)]
          exact O
      have A17 : ∀ x j : Nat, ¬ (x = 70 ∧ 96 * k ≤ j ∧ j < 96 * k + 96) → h17 x j = h x j := fun x j w => by
        rw [e17, up_n (by omega)]
        exact A x j w
      refine ih (m + 1) h17 ?_ A17 (fun x hx x8 y hy => ?_) (fun x hx => ?_) (by omega)
      · exact csw_l S (fun x j _ w => by rw [e17, up_n (by omega)])
      · have Ix : ISc cnt (ch_F Bf nf cnt (8 + (k : Int)) x) := by
          rcases I x with w | w
          · omega
          · exact w
        unfold ISc at Ix
        have Gx := (H.2 (ch_F Bf nf cnt (8 + (k : Int)) x - 8).toNat (by omega)).1.2.2.1
        exact OLD x y x8 (by omega) (L0 x hx x8 y hy)
      · by_cases e : x = m
        · rw [e]; exact NW
        · exact OLD t x dr (by omega) (L1 x (by omega))
theorem vc_lm7 (H : HGo Bf nf cnt) (hk : (k : Int) < cnt) (ec : h 56 3 = cnt) : ∀ (f t : Nat) (g : ms_M), t ≤ 16 → CSw Bf nf g → (∀ x j : Nat, ¬ (x = 70 ∧ 96 * k ≤ j ∧ j < 96 * k + 96) → g x j = h x j) → LMs Bf nf cnt k t g → Pc (qw_X7_linkMethods_7 nn f (k : Int) (ch_F Bf nf cnt (8 + (k : Int)) t) (t : Int) g) (fun u => CSw Bf nf u ∧ (∀ x j : Nat, ¬ (x = 70 ∧ 96 * k ≤ j ∧ j < 96 * k + 96) → u x j = h x j) ∧ LMs Bf nf cnt k 16 u) := by
  have h8 := H.1
  have k0 : 8 + (k : Int) = -1 ∨ ISc cnt (8 + (k : Int)) := .inr (by unfold ISc; omega)
  have I := ch_is (Bf := Bf) (nf := nf) H.1.1 k0
  intro f
  induction f with
  | zero => intro t g _ _ _ _; exact pc_none
  | succ f ih =>
    intro t g ht S A L
    unfold qw_X7_linkMethods_7
    refine pc_if (fun w => pc_ret ⟨S, A, ?_⟩) (fun w => ?_)
    · rw [show (16 : Nat) = t by omega]; exact L
    by_cases w8 : ch_F Bf nf cnt (8 + (k : Int)) t < 8
    · refine pc_sv (vc_im0 w8) ?_; intro u21 q21
      refine pc_if (fun _ => pc_ret ⟨S, A, fun x hx x8 y hy => ?_⟩) (fun v => absurd (show u21 < 0 by omega) v)
      by_cases e : x < t
      · exact L x e x8 y hy
      · have := ch_lo w8 k0 H.1.1 (x - t)
        rw [show t + (x - t) = x by omega] at this
        omega
    · have It : ISc cnt (ch_F Bf nf cnt (8 + (k : Int)) t) := by
        rcases I t with v | v
        · exact absurd (by omega) w8
        · exact v
      unfold ISc at It
      have ecg : g 56 3 = cnt := by rw [A 56 3 (by omega)]; exact ec
      have X := S.1.2 (ch_F Bf nf cnt (8 + (k : Int)) t - 8).toNat (by omega)
      have k3 : kc_O (g 60 (ch_F Bf nf cnt (8 + (k : Int)) t - 8).toNat).toNat = 3 := X.1.1.1
      have h60 : 0 ≤ g 60 (ch_F Bf nf cnt (8 + (k : Int)) t - 8).toNat := Classical.byContradiction fun w => by
        rw [show (g 60 (ch_F Bf nf cnt (8 + (k : Int)) t - 8).toNat).toNat = 0 by omega] at k3
        exact absurd k3 (by decide)
      refine pc_sv (vc_img S.1 (c := ch_F Bf nf cnt (8 + (k : Int)) t) (by omega) (by omega)) ?_; intro u21 q21
      refine pc_if (fun v => absurd v (by omega)) (fun _ => ?_)
      refine vc_lm29 H hk (by omega) (by omega) (h := h) ?_ (fun g2 S2 A2 L2 => ih (t + 1) g2 (by omega) S2 A2 L2) ec nn 0 g S A L (fun x hx => absurd hx (by omega)) ?_
      · rw [← A 60 _ (by omega), ← q21]; omega
      · have := (H.2 (ch_F Bf nf cnt (8 + (k : Int)) t - 8).toNat (by omega)).1.2.2.1
        omega
theorem vc_lmeth (H : HGo Bf nf cnt) (hk : (k : Int) < cnt) (S : CSw Bf nf h) (ec : h 56 3 = cnt) : Pc (qf_X7_linkMethods nn (k : Int) h) (fun u => CSw Bf nf u ∧ (∀ x j : Nat, ¬ (x = 70 ∧ 96 * k ≤ j ∧ j < 96 * k + 96) → u x j = h x j) ∧ LMs Bf nf cnt k 16 u) := by
  have h8 := H.1
  unfold qf_X7_linkMethods
  refine pc_add (by omega) ?_; intro v25 e25
  rw [e25]
  exact vc_lm7 H hk ec nn 0 h (by omega) S (fun _ _ _ => rfl) (fun x hx => absurd hx (by omega))
theorem lms_k (L : LMs Bf nf cnt k t h) (H : HGo Bf nf cnt) (hk : (k : Int) < cnt) (A : ∀ j : Nat, j < 96 * k + 96 → 96 * k ≤ j → g 70 j = h 70 j) : LMs Bf nf cnt k t g := fun x hx x8 m hm => by
  have h8 := H.1
  have k0 : 8 + (k : Int) = -1 ∨ ISc cnt (8 + (k : Int)) := .inr (by unfold ISc; omega)
  have Ix : ISc cnt (ch_F Bf nf cnt (8 + (k : Int)) x) := by
    rcases ch_is (Bf := Bf) (nf := nf) H.1.1 k0 x with w | w
    · omega
    · exact w
  unfold ISc at Ix
  have Gx := (H.2 (ch_F Bf nf cnt (8 + (k : Int)) x - 8).toNat (by omega)).1.2.2.1
  have O := L x hx x8 m hm
  unfold LMt at O ⊢
  rw [A _ (by omega) (by omega)]
  exact O
theorem lcs_k {e : Int} (L : LCs Bf nf cnt k e h) (he : e ≤ 256) (A : ∀ j : Nat, 256 * k ≤ j → j < 256 * k + 256 → g 68 j = h 68 j) : LCs Bf nf cnt k e g := fun x h1 h2 => by
  have := L x h1 h2
  rw [A _ (by omega) (by omega)]
  exact this
end

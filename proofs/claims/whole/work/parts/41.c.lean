/- THE CLASS BRINGS AN IMAGE -/
section
variable {nn : Nat} {M M2 h : ms_M} {b : Nat} {B : Nat → Int} {n : Nat}
/-- an Image is as it was -/
def SMi (b : Nat) (M M2 : ms_M) : Prop := (∀ c k, b ≤ c → c ≤ b + 6 → M2 c k = M c k) ∧ (∀ k, M2 (M b 0).toNat k = M (M b 0).toNat k) ∧ cn_M M ≤ cn_M M2 ∧ ln_I M2 (M b 0).toNat = ln_I M (M b 0).toNat
theorem ttc_s (S : SMi b M M2) (T : TTc b n B M) : TTc b n B M2 := by
  obtain ⟨s1, s2, s3, s4⟩ := S
  obtain ⟨⟨h1, h2, h3, h4, h5, h6, h7, h8⟩, t2, t3, t4⟩ := T
  have e0 : M2 b 0 = M b 0 := s1 b 0 (Nat.le_refl _) (by omega)
  refine ⟨⟨h1, h2, by rw [s1 b 1 (Nat.le_refl _) (by omega)]; exact h3, by rw [e0]; exact h4, by rw [e0]; omega, by rw [e0]; exact h6, by rw [e0, s4]; exact h7, fun i hi => by rw [e0, s2]; exact h8 i hi⟩, by rw [s1 b 7 (Nat.le_refl _) (by omega)]; exact t2, t3, ttj_k (fun k => s1 _ _ (by omega) (by omega)) (fun k => s1 _ _ (by omega) (by omega)) (fun k => s1 _ _ (by omega) (by omega)) t4⟩
theorem imc_s (S : SMi b M M2) (X : IMc b n B M) : IMc b n B M2 := by
  have s1 := S.1
  obtain ⟨T, p, q, zk, y, ⟨e8, e9⟩, ⟨e10, F⟩, e12, G⟩ := X
  refine ⟨ttc_s S T, p, q, zk, y, ⟨by rw [s1 b 8 (Nat.le_refl _) (by omega)]; exact e8, by rw [s1 b 9 (Nat.le_refl _) (by omega)]; exact e9⟩, ⟨by rw [s1 b 10 (Nat.le_refl _) (by omega)]; exact e10, fun j j1 j2 => ?_⟩, by rw [s1 b 12 (Nat.le_refl _) (by omega)]; exact e12, fun i hi => ?_⟩
  · rw [s1 _ _ (by omega) (by omega), s1 _ _ (by omega) (by omega)]; exact F j j1 j2
  · obtain ⟨x, y, hh, ff, y1, y2, y3⟩ := G i hi
    exact ⟨x, y, hh, ff, y1, y2, md_k (fun k _ _ => s1 _ _ (by omega) (by omega)) y3⟩
/-- cells of the space and its rows are as they were but for the spare Image -/
theorem smi_of (V : VS_ M) {k : Nat} (hk : k < 8) {s : Nat} (hs : kc_O s = 3) (ne : (M 60 k).toNat ≠ s) (J : 256 ≤ (M (M 60 k).toNat 0).toNat ∧ (M (M 60 k).toNat 0).toNat < cn_M M) (F : ∀ c k, (61 ≤ c ∧ (c < s ∨ s + 6 < c)) → c < 900000 → ¬ c = cn_M M → M2 c k = M c k) (hc : cn_M M ≤ cn_M M2 ∧ cn_M M ≤ 700000) (hl : ∀ c, c < cn_M M → M2 900001 c = M 900001 c) : SMi (M 60 k).toNat M M2 := by
  have hd := (V.2.2.2.2.1 k hk).2
  have d := im_dis hs hd ne
  have is := im_at hs
  have id := im_at hd
  have c256 := vi_c V
  refine ⟨fun c j c1 c2 => F c j (by omega) (by omega) (by omega), fun j => F _ j (by omega) (by omega) (by omega), hc.1, ?_⟩
  unfold ln_I
  split
  · rfl
  · exact hl _ J.2
/-- lookups depend on counts and Images alone -/
theorem relate_ok (hn : 1000000 ≤ nn) {Bf : Nat → Nat → Int} {nf : Nat → Nat} (V : VS_ M) (S : ∀ k : Nat, (k : Int) < M 56 3 → IMc (M 60 k).toNat (nf k) (Bf k) M) : Pc (qf_X7_relate nn M) (fun r => (∀ c k, c ≠ 58 → c ≠ 59 → ¬ (c = 56 ∧ k = 4) → r c k = M c k) ∧ r 56 4 = 0 ∧ un_R 57 r ∧ (∀ j : Nat, j < 8 → r 58 j = bi_A j) ∧ (∀ j : Nat, j < 16 → 8 + M 56 3 ≤ (j : Int) → r 58 j = -1) ∧ ∀ k : Nat, (k : Int) < M 56 3 → CLo Bf nf (M 56 3) (fun i => Bf k (na_S (Bf k) (nf k) (nu_S (Bf k) (nf k)) + i)) (tl_S (Bf k) (nf k) (nu_S (Bf k) (nf k))) (r 58 (8 + k))) := by
  have g3 := gF_56_3 V
  have c256 := vi_c V
  unfold qf_X7_relate
  refine pc_xl ?_; intro h30 e30
  have V30 : VS_ h30 := by rw [e30]; exact wF_56_4 V (by omega)
  obtain ⟨u33, e33, f33, k33, -⟩ := kforget_ok (nn := nn) (by omega) (.inr rfl : (57 : Nat) = 12 ∨ (57 : Nat) = 57) (h := h30) (vi_c V30)
  rw [e33, mx_svs]
  have F33 : ∀ c k, c ≠ 58 → c ≠ 59 → ¬ (c = 56 ∧ k = 4) → u33 c k = M c k := fun c k a1 a2 a3 => by rw [f33 c k (by omega) (by omega), e30, up_n a3]
  have z33 : u33 56 4 = 0 := by rw [f33 _ _ (by omega) (by omega), e30, up_s]
  have L : ∀ (f k : Nat) (g : ms_M), (k : Int) ≤ M 56 3 → (∀ c j, c ≠ 58 → c ≠ 59 → g c j = u33 c j) → (∀ j : Nat, j < 8 → g 58 j = bi_A j) → (∀ j : Nat, j < 16 → 8 + M 56 3 ≤ (j : Int) → g 58 j = -1) → (∀ i : Nat, i < k → CLo Bf nf (M 56 3) (fun x => Bf i (na_S (Bf i) (nf i) (nu_S (Bf i) (nf i)) + x)) (tl_S (Bf i) (nf i) (nu_S (Bf i) (nf i))) (g 58 (8 + i))) → Pc (qw_X7_relate_14 nn f (k : Int) g) (fun r => (∀ c j, c ≠ 58 → c ≠ 59 → r c j = u33 c j) ∧ un_R 57 r ∧ (∀ j : Nat, j < 8 → r 58 j = bi_A j) ∧ (∀ j : Nat, j < 16 → 8 + M 56 3 ≤ (j : Int) → r 58 j = -1) ∧ ∀ i : Nat, (i : Int) < M 56 3 → CLo Bf nf (M 56 3) (fun x => Bf i (na_S (Bf i) (nf i) (nu_S (Bf i) (nf i)) + x)) (tl_S (Bf i) (nf i) (nu_S (Bf i) (nf i))) (r 58 (8 + i))) := by
    intro f
    induction f with
    | zero => intros; exact pc_none
    | succ f ih =>
      intro k g hk Fg a8 a16 aK
      have e3 : g 56 3 = M 56 3 := by rw [Fg _ _ (by decide) (by decide), F33 _ _ (by decide) (by decide) (by omega)]
      have e60 : ∀ j, g 60 j = M 60 j := fun j => by rw [Fg _ _ (by decide) (by decide), F33 _ _ (by decide) (by decide) (by omega)]
      have Sg : ∀ j : Nat, (j : Int) < g 56 3 → IMc (g 60 j).toNat (nf j) (Bf j) g := fun j hj => by
        rw [e60]
        have X := S j (by omega)
        have hd := (V.2.2.2.2.1 j (by omega)).2
        have id := im_at hd
        have t1 : ly_T (M (M 60 j).toNat 0).toNat = 1 := X.1.1.2.2.2.2.2.1
        have n8 : ∀ c j, c ≠ 58 → c ≠ 59 → c ≠ 56 → g c j = M c j := fun c j q1 q2 q3 => by rw [Fg _ _ q1 q2, F33 _ _ q1 q2 (by omega)]
        have ec : cn_M g = cn_M M := by unfold cn_M; rw [n8 _ _ (by omega) (by omega) (by omega)]
        have nr : (M (M 60 j).toNat 0).toNat ≠ 58 ∧ (M (M 60 j).toNat 0).toNat ≠ 59 ∧ (M (M 60 j).toNat 0).toNat ≠ 56 := ⟨fun z => by rw [z] at t1; exact absurd t1 (by decide), fun z => by rw [z] at t1; exact absurd t1 (by decide), fun z => by rw [z] at t1; exact absurd t1 (by decide)⟩
        refine imc_s ⟨fun c i c1 c2 => n8 _ _ (by omega) (by omega) (by omega), fun i => n8 _ _ nr.1 nr.2.1 nr.2.2, by omega, ?_⟩ X
        unfold ln_I
        split
        · rfl
        · exact n8 _ _ (by omega) (by omega) (by omega)
      unfold qw_X7_relate_14
      refine pc_if (fun z => ?_) (fun z => ?_)
      · obtain ⟨u4, e4, f4, w4⟩ := settle_ok (nn := nn) (by omega) (l0 := 57) (h := g)
        rw [e4, mx_svs]
        refine pc_ret ⟨fun c j a1 a2 => by rw [f4 c j (by omega)]; exact Fg c j a1 a2, w4, fun j hj => by rw [f4 _ _ (by omega)]; exact a8 j hj, fun j hj h2 => by rw [f4 _ _ (by omega)]; exact a16 j hj h2, fun i hi => by rw [f4 _ _ (by omega)]; exact aK i (by omega)⟩
      · have X := Sg k (by omega)
        obtain ⟨-, -, t1, e9, -⟩ := im_no X
        obtain ⟨a1, a2, a3⟩ := c_text (nn := nn) X.1 t1
        refine pc_rA ?_; intro i1 i2 v6 e6
        rw [Int.toNat_natCast] at e6
        refine pc_ck (fun _ => pc_ck (fun _ => ?_))
        refine pc_add (by omega) ?_; intro v10 e10
        refine pc_rA ?_; intro j1 j2 v12 e12
        rw [Int.toNat_natCast] at e12
        refine pc_rA ?_; intro k1 k2 v14 e14
        rw [Int.toNat_natCast] at e14
        refine pc_ck (fun _ => pc_ck (fun _ => ?_))
        rw [e6, e14, e9, a1, mx_svs]
        refine pc_rA ?_; intro l1 l2 v19 e19
        rw [Int.toNat_natCast] at e19
        refine pc_ck (fun _ => pc_ck (fun _ => ?_))
        rw [e19, a2, mx_svs]
        refine pc_ck (fun _ => ?_)
        rw [e12]
        refine pc_sv (P := CLo Bf nf (M 56 3) (fun x => Bf k (na_S (Bf k) (nf k) (nu_S (Bf k) (nf k)) + x)) (tl_S (Bf k) (nf k) (nu_S (Bf k) (nf k)))) ?_ ?_
        · unfold qf_X7_classOf
          have q := c_classOf (nn := nn) Sg (by omega) X.1.1 (p := na_S (Bf k) (nf k) (nu_S (Bf k) (nf k))) (s := na_S (Bf k) (nf k) (nu_S (Bf k) (nf k)) + tl_S (Bf k) (nf k) (nu_S (Bf k) (nf k))) ⟨by omega, a3⟩ nn 0 (fun j hj => absurd hj (Nat.not_lt_zero j)) (by omega)
          rw [e3, show na_S (Bf k) (nf k) (nu_S (Bf k) (nf k)) + tl_S (Bf k) (nf k) (nu_S (Bf k) (nf k)) - na_S (Bf k) (nf k) (nu_S (Bf k) (nf k)) = tl_S (Bf k) (nf k) (nu_S (Bf k) (nf k)) by omega] at q
          exact q
        · intro u25 q25
          refine pc_se ?_; intro u27 e27
          have E27 : u27 = up_M g 58 (8 + k) u25 := by
            unfold qf_X4_setAbove qf_X4_isClass at e27
            rw [if_neg (by omega), if_neg (by omega), mx_svs, if_neg (by decide)] at e27
            replace e27 := wa_i e27
            have e27 := Option.some.inj e27
            rw [← e27, show v10.toNat = 8 + k by omega]
          refine pc_add (by omega) ?_; intro v28 e28
          rw [show v28 = ((k + 1 : Nat) : Int) by omega]
          refine ih (k + 1) u27 (by omega) (fun c j q1 q2 => by rw [E27, up_n (by omega)]; exact Fg c j q1 q2) (fun j hj => by rw [E27, up_n (by omega)]; exact a8 j hj) (fun j hj h2 => by rw [E27, up_n (by omega)]; exact a16 j hj h2) (fun i hi => ?_)
          by_cases qi : i = k
          · rw [qi, E27, up_s]; exact q25
          · rw [E27, up_n (by omega)]; exact aK i (by omega)
  refine pc_imp (L nn 0 u33 (by omega) (fun _ _ _ _ => rfl) (fun j hj => k33 j (by omega)) (fun j hj h2 => ?_) (fun i hi => absurd hi (Nat.not_lt_zero i))) (fun r q => ⟨fun c k a1 a2 a3 => by rw [q.1 c k a1 a2]; exact F33 c k a1 a2 a3, by rw [q.1 _ _ (by decide) (by decide)]; exact z33, q.2.1, q.2.2.1, q.2.2.2.1, q.2.2.2.2⟩)
  have := k33 j hj
  rw [this]
  unfold bi_A
  rw [if_neg (by omega), if_neg (by omega)]
end
section
variable {nn : Nat} {M M2 h : ms_M} {b : Nat} {B : Nat → Int} {n : Nat}
/-- the class's side of the space: Images, lookups upwards -/
def KNr (Bf : Nat → Nat → Int) (nf : Nat → Nat) (M : ms_M) : Prop := un_R 57 M ∧ (∀ j : Nat, j < 8 → M 58 j = bi_A j) ∧ (∀ j : Nat, j < 16 → 8 + M 56 3 ≤ (j : Int) → M 58 j = -1) ∧ ∀ k : Nat, (k : Int) < M 56 3 → CLo Bf nf (M 56 3) (fun i => Bf k (na_S (Bf k) (nf k) (nu_S (Bf k) (nf k)) + i)) (tl_S (Bf k) (nf k) (nu_S (Bf k) (nf k))) (M 58 (8 + k))
/-- every Image has bytes of its own -/
def RDs (M : ms_M) : Prop := ∀ j k : Nat, (j : Int) < M 56 3 → (k : Int) < M 56 3 → j ≠ k → (M (M 60 j).toNat 0).toNat ≠ (M (M 60 k).toNat 0).toNat
def CSp (Bf : Nat → Nat → Int) (nf : Nat → Nat) (M : ms_M) : Prop := (∀ k : Nat, (k : Int) < M 56 3 → IMc (M 60 k).toNat (nf k) (Bf k) M) ∧ KNr Bf nf M ∧ RDs M
/-- one class more -/
def ext_B (Bf : Nat → Nat → Int) (c : Nat) (B : Nat → Int) : Nat → Nat → Int := fun k => if k = c then B else Bf k
def ext_n (nf : Nat → Nat) (c n : Nat) : Nat → Nat := fun k => if k = c then n else nf k
theorem clo_k {Bf Bg : Nat → Nat → Int} {nf ng : Nat → Nat} {cnt u : Int} {f : Nat → Int} {m : Nat} (e : ∀ j : Nat, (j : Int) < cnt → Bg j = Bf j ∧ ng j = nf j) (C : CLo Bf nf cnt f m u) : CLo Bg ng cnt f m u := by
  rcases C with ⟨k, k1, k2, k3, k4⟩ | ⟨q, k1⟩
  · refine .inl ⟨k, k1, k2, ?_, fun j hj => ?_⟩
    · rw [(e k k1).1, (e k k1).2]; exact k3
    · rw [(e j (by omega)).1, (e j (by omega)).2]; exact k4 j hj
  · refine .inr ⟨q, fun j hj => ?_⟩
    rw [(e j hj).1, (e j hj).2]; exact k1 j hj
/-- THE CLASS'S BRING -/
theorem c_bring (hn : 1000000 ≤ nn) {Bf : Nat → Nat → Int} {nf : Nat → Nat} {a1 : Nat} {a2 : Int} (V : VS_ M) (SI : SI_ M) (J : OJ M) (S : CSp Bf nf M) (ta : a1 < cn_M M ∧ ly_T a1 = 1) (hs : a2 = (n : Int) ∧ n ≤ 6000 ∧ (n : Int) ≤ ln_I M a1) (hB : ∀ i : Nat, i < n → M a1 i % 256 = B i) (hc : M 900000 0 < 700000) : Pc (qf_X7_bring nn a1 a2 M) (fun u => (∀ e, rdi_S B n = .inl e → u.1 = -2 - (e : Int) ∧ CSp Bf nf u.2.1 ∧ u.2.1 56 3 = M 56 3 ∧ u.2.1 56 4 = M 56 4) ∧ ∀ q, rdi_S B n = .inr q → (M 56 3 = 8 → u.1 = -1 ∧ CSp Bf nf u.2.1 ∧ u.2.1 56 3 = M 56 3 ∧ u.2.1 56 4 = M 56 4) ∧ (M 56 3 < 8 → ∃ v, CLo Bf nf (M 56 3) (fun i => B (na_S B n (own_S B n) + i)) (tl_S B n (own_S B n)) v ∧ (¬ v = -1 → u.1 = -1 ∧ CSp Bf nf u.2.1 ∧ u.2.1 56 3 = M 56 3 ∧ u.2.1 56 4 = M 56 4) ∧ (v = -1 → u.1 = 8 + M 56 3 ∧ CSp (ext_B Bf (M 56 3).toNat B) (ext_n nf (M 56 3).toNat n) u.2.1 ∧ u.2.1 56 3 = M 56 3 + 1 ∧ u.2.1 56 4 = 0))) := by
  have hb := (vi_r V).1.2
  have h0 := (vi_r V).1.1
  have g3 := gF_56_3 V
  have ib := im_at hb
  have c256 := vi_c V
  have cm : cn_M M ≤ 700000 := by unfold cn_M; omega
  unfold qf_X7_bring
  refine pc_ck (fun _ => pc_ck (fun _ => pc_se (fun u3 e3 => ?_)))
  have F : ∀ c k, (c < (M 56 2).toNat ∨ (M 56 2).toNat + 6 < c) → u3.2 c k = M c k := fun c k q => (of_X3_read nn hb) _ e3 c k q
  obtain ⟨R0, R1, R2⟩ := c_read hn hb V ta hs hB _ e3
  have V3 := (okof (vf_X3_read hn hb (by omega) (by omega) V ta (by omega)) e3).1
  have s2 : u3.2 56 2 = M 56 2 := F 56 2 (by omega)
  have s3 : u3.2 56 3 = M 56 3 := F 56 3 (by omega)
  have s4 : u3.2 56 4 = M 56 4 := F 56 4 (by omega)
  have s60 : ∀ k, u3.2 60 k = M 60 k := fun k => F 60 k (by omega)
  have s9 : u3.2 900000 0 = M 900000 0 := F 900000 0 (by omega)
  have cn3 : cn_M u3.2 = cn_M M := by unfold cn_M; rw [s9]
  have row : ∀ k : Nat, (k : Int) < M 56 3 → 256 ≤ (M (M 60 k).toNat 0).toNat ∧ (M (M 60 k).toNat 0).toNat < cn_M M := fun k hk => ⟨(J k hk).1, (S.1 k hk).1.1.2.2.2.2.1⟩
  have ne : ∀ k : Nat, (k : Int) < M 56 3 → (M 60 k).toNat ≠ (M 56 2).toNat := fun k hk => by
    have := SI.2.2 k (by omega)
    have := (V.2.2.2.2.1 k (by omega)).1
    omega
  have K3 : ∀ k : Nat, (k : Int) < M 56 3 → IMc (u3.2 60 k).toNat (nf k) (Bf k) u3.2 := fun k hk => by
    rw [s60]
    exact imc_s (smi_of V (by omega) hb (ne k hk) (row k hk) (fun c j q _ _ => F c j q.2) (by omega) (fun c _ => F _ _ (by omega))) (S.1 k hk)
  have N3 : KNr Bf nf u3.2 := by
    obtain ⟨n1, n2, n3, n4⟩ := S.2.1
    have e58 : ∀ j, u3.2 58 j = M 58 j := fun j => F 58 j (by omega)
    have e59 : ∀ j, u3.2 59 j = M 59 j := fun j => F 59 j (by omega)
    refine ⟨?_, fun j hj => by rw [e58]; exact n2 j hj, fun j hj h2 => by rw [e58]; exact n3 j hj (by omega), fun k hk => by rw [e58, s3]; exact n4 k (by omega)⟩
    have ef : u3.2 (57 + 1) = M (57 + 1) := funext e58
    unfold un_R
    rw [ef]
    intro x y hx hy
    rw [show u3.2 (57 + 2) (16 * x + y) = M (57 + 2) (16 * x + y) from e59 _]
    exact n1 x y hx hy
  have w0 : ∀ k : Nat, (k : Int) < M 56 3 → u3.2 (M 60 k).toNat 0 = M (M 60 k).toNat 0 := fun k hk => by
    have d := im_dis hb (V.2.2.2.2.1 k (by omega)).2 (ne k hk)
    exact F _ _ (by omega)
  have D3 : RDs u3.2 := fun j k hj hk jk => by
    rw [s60, s60, w0 j (by omega), w0 k (by omega)]
    exact S.2.2 j k (by omega) (by omega) jk
  have same : CSp Bf nf u3.2 := ⟨fun k hk => K3 k (by omega), N3, D3⟩
  refine pc_if (fun c => ?_) (fun c => pc_xl (fun v32 e32 => pc_ret ⟨fun e he => ?_, fun q hq => absurd (R2 q hq).1 c⟩))
  · have good : ∃ q, rdi_S B n = .inr q := by
      cases z : rdi_S B n with
      | inl e => have := R1 e z; omega
      | inr q => exact ⟨q, rfl⟩
    obtain ⟨q0, z0⟩ := good
    have X := (R2 q0 z0).2
    have nol : ∀ {P : Prop} {e : Nat}, rdi_S B n = .inl e → P := fun he => by rw [z0] at he; cases he
    refine pc_ck (fun _ => pc_ck (fun _ => pc_if (fun c8 => pc_ret ⟨fun e he => nol he, fun q hq => ⟨fun _ => ⟨rfl, same, s3, s4⟩, fun lt => by omega⟩⟩) (fun c8 => ?_)))
    obtain ⟨t1, e8, -⟩ := im_no X
    obtain ⟨x1, x2, x3⟩ := c_text (nn := nn) X.1 t1
    refine pc_ck (fun _ => pc_ck (fun _ => ?_))
    rw [s2, e8, x1, mx_svs]
    refine pc_ck (fun _ => ?_)
    rw [x2, mx_svs]
    refine pc_sv (P := CLo Bf nf (M 56 3) (fun i => B (na_S B n (own_S B n) + i)) (tl_S B n (own_S B n))) ?_ ?_
    · unfold qf_X7_classOf
      have q := c_classOf (nn := nn) (M := u3.2) (fun k hk => K3 k (by omega)) (by omega) X.1.1 (p := na_S B n (own_S B n)) (s := na_S B n (own_S B n) + tl_S B n (own_S B n)) ⟨by omega, x3⟩ nn 0 (fun j hj => absurd hj (Nat.not_lt_zero j)) (by omega)
      rw [s3, show na_S B n (own_S B n) + tl_S B n (own_S B n) - na_S B n (own_S B n) = tl_S B n (own_S B n) by omega] at q
      exact q
    · intro u15 q15
      refine pc_if (fun y => ?_) (fun y => pc_ret ⟨fun e he => nol he, fun q hq => ⟨fun h8 => by omega, fun lt => ⟨u15, q15, fun _ => ⟨rfl, same, s3, s4⟩, fun z => absurd z y⟩⟩⟩)
      refine pc_ck (fun _ => pc_se (fun u18 e18 => pc_se (fun u21 e21 => ?_)))
      -- the copy
      have hc3 : u3.2 900000 0 < 700000 := by omega
      have B3 := X.1.1
      have K18 : (∀ c k, c ≠ cn_M M → c < 900000 → ¬ (c = (M 56 2).toNat ∧ k = 0) → u18.1 c k = u3.2 c k) ∧ u18.1 (M 56 2).toNat 0 = (cn_M M : Int) ∧ (∀ i : Nat, i < n → u18.1 (cn_M M) i = u3.2 (u3.2 (M 56 2).toNat 0).toNat i) ∧ cn_M u18.1 = cn_M M + 1 ∧ u18.1 900001 (cn_M M) = (n : Int) ∧ ∀ c, c < cn_M M → u18.1 900001 c = M 900001 c := by
        unfold qf_X3_keepOwn at e18
        obtain ⟨-, e18⟩ := ck_i e18
        obtain ⟨w, ew, e18⟩ := sv_i e18
        unfold qf_J7_copyOf_9075b at ew
        split at ew
        · have ew := Option.some.inj ew
          unfold wr_R at e18
          split at e18
          · have e18 := Option.some.inj e18
            have e1n : u3.2 (M 56 2).toNat 1 = (n : Int) := B3.2.2.1
            have ln : (n : Int) ≤ ln_I u3.2 (u3.2 (M 56 2).toNat 0).toNat := B3.2.2.2.2.2.2.1
            rw [← e18, ← ew]
            rw [cn3]
            refine ⟨fun c k q1 q2 q3 => ?_, up_s, fun i hi => ?_, ?_, ?_, fun c hcc => ?_⟩
            · dsimp only
              rw [up_n q3]
              unfold nw_M
              rw [cn3, if_neg q1, if_neg (by omega), if_neg (by omega)]
            · dsimp only
              rw [up_n (by omega)]
              unfold nw_M
              rw [cn3, if_pos rfl]
              dsimp only
              rw [if_pos (.inr (by omega))]
            · dsimp only
              unfold cn_M
              rw [up_n (by omega)]
              unfold nw_M
              rw [cn3, if_neg (by omega), if_pos ⟨rfl, rfl⟩, s9]
              have vc := vi_c V; unfold cn_M at vc; omega
            · dsimp only
              rw [up_n (by omega)]
              unfold nw_M
              rw [cn3, if_neg (by omega), if_neg (by omega), if_pos ⟨rfl, rfl⟩]; exact e1n
            · dsimp only
              rw [up_n (by omega)]
              unfold nw_M
              rw [cn3, if_neg (by omega), if_neg (by omega), if_neg (by omega)]
              exact F _ _ (by omega)
          · cases e18
        · cases ew
      obtain ⟨k1, k2, k3, k4, k5, k6⟩ := K18
      have t2 : u18.1 56 2 = M 56 2 := (k1 _ _ (by omega) (by omega) (by omega)).trans s2
      have t3 : u18.1 56 3 = M 56 3 := (k1 _ _ (by omega) (by omega) (by omega)).trans s3
      have i21 := (sw_i e21).2
      rw [t3, t2] at i21
      refine pc_xl ?_; intro v23 e23
      have y3 : u21 56 3 = M 56 3 := by rw [i21, up_n (by omega), up_n (by omega)]; exact t3
      rw [y3, oq_add_eq (by omega) (by omega) (by omega)] at e23
      refine pc_xl ?_; intro h24 e24
      have G24 : ∀ c k, c ≠ 56 → ¬ (c = 60 ∧ k = (M 56 3).toNat) → h24 c k = u18.1 c k := fun c k q1 q2 => by
        rw [e24, up_n (by omega), i21, up_n (by omega), up_n q2]
      have z60 : h24 60 (M 56 3).toNat = M 56 2 := by rw [e24, up_n (by omega), i21, up_n (by omega), up_s]
      have z3 : h24 56 3 = M 56 3 + 1 := by rw [e24, up_s]; exact e23
      have V24 : VS_ h24 := by
        have V18 := (okof (vf_X3_keepOwn hb V3 (by omega)) e18).1
        have V21 := okof (vf_X7_swapSpare (a1 := u18.1 56 3) (by omega) (by omega) V18) e21
        rw [e24]; exact wF_56_3 V21 (by omega)
      -- the Images behind
      have new : IMc (M 56 2).toNat n B h24 := by
        have SM : ∀ c k, ¬ (c = (M 56 2).toNat ∧ k = 0) → (M 56 2).toNat ≤ c → c ≤ (M 56 2).toNat + 6 → h24 c k = u3.2 c k := fun c k q1 q2 q3 => by
          rw [G24 c k (by omega) (by omega)]; exact k1 c k (by omega) (by omega) q1
        have n0 : h24 (M 56 2).toNat 0 = (cn_M M : Int) := by rw [G24 _ _ (by omega) (by omega)]; exact k2
        obtain ⟨⟨⟨w1, w2, w3, w4, w5, w6, w7, w8⟩, w9, w10, w11⟩, p, q, zk, yy, ⟨v8, v9⟩, ⟨v10, FL⟩, v12, MS⟩ := X
        have cn24 : cn_M h24 = cn_M M + 1 := by
          have : h24 900000 0 = u18.1 900000 0 := G24 _ _ (by omega) (by omega)
          rw [← k4]; unfold cn_M; rw [this]
        refine ⟨⟨⟨w1, w2, by rw [SM _ _ (by omega) (Nat.le_refl _) (by omega)]; exact w3, by rw [n0]; omega, by rw [n0, cn24]; omega, by rw [n0, Int.toNat_natCast]; exact ly_Tbig c256, ?_, fun i hi => ?_⟩, by rw [SM _ _ (by omega) (Nat.le_refl _) (by omega)]; exact w9, w10, ttj_k (fun k => SM _ _ (by omega) (by omega) (by omega)) (fun k => SM _ _ (by omega) (by omega) (by omega)) (fun k => SM _ _ (by omega) (by omega) (by omega)) w11⟩, p, q, zk, yy, ⟨by rw [SM _ _ (by omega) (Nat.le_refl _) (by omega)]; exact v8, by rw [SM _ _ (by omega) (Nat.le_refl _) (by omega)]; exact v9⟩, ⟨by rw [SM _ _ (by omega) (Nat.le_refl _) (by omega)]; exact v10, fun j j1 j2 => ?_⟩, by rw [SM _ _ (by omega) (Nat.le_refl _) (by omega)]; exact v12, fun i hi => ?_⟩
        · rw [n0, Int.toNat_natCast]
          unfold ln_I
          rw [if_neg (by omega), G24 _ _ (by omega) (by omega), k5]; omega
        · rw [n0, Int.toNat_natCast, G24 _ _ (by omega) (by omega), k3 i hi]; exact w8 i hi
        · rw [SM _ _ (by omega) (by omega) (by omega), SM _ _ (by omega) (by omega) (by omega)]; exact FL j j1 j2
        · obtain ⟨x, y, hh, ff, y1, y2, y3⟩ := MS i hi
          exact ⟨x, y, hh, ff, y1, y2, md_k (fun k _ _ => SM _ _ (by omega) (by omega) (by omega)) y3⟩
      have cn24 : cn_M h24 = cn_M M + 1 := by
        have : h24 900000 0 = u18.1 900000 0 := G24 _ _ (by omega) (by omega)
        rw [← k4]; unfold cn_M; rw [this]
      have old : ∀ k : Nat, (k : Int) < M 56 3 → IMc (M 60 k).toNat (nf k) (Bf k) h24 := fun k hk => by
        refine imc_s (smi_of V (by omega) hb (ne k hk) (row k hk) (fun c j q q2 q3 => ?_) (by omega) (fun c hcc => ?_)) (S.1 k hk)
        · rw [G24 c j (by omega) (by omega), k1 c j q3 q2 (by omega)]; exact F c j (by omega)
        · rw [G24 _ _ (by omega) (by omega)]; exact k6 c hcc
      have S24 : ∀ k : Nat, (k : Int) < h24 56 3 → IMc (h24 60 k).toNat (ext_n nf (M 56 3).toNat n k) (ext_B Bf (M 56 3).toNat B k) h24 := fun k hk => by
        unfold ext_n ext_B
        by_cases qk : k = (M 56 3).toNat
        · rw [if_pos qk, if_pos qk, qk, z60]; exact new
        · rw [if_neg qk, if_neg qk, G24 60 k (by decide) (by omega), k1 _ _ (by omega) (by omega) (by omega), s60]
          exact old k (by omega)
      refine pc_sv (relate_ok hn V24 S24) ?_; intro u26 q26
      obtain ⟨r1, r2, r3, r4, r5, r6⟩ := q26
      have r3c : u26 56 3 = M 56 3 + 1 := by rw [r1 _ _ (by decide) (by decide) (by omega)]; exact z3
      refine pc_xl ?_; intro v28 e28
      refine pc_xl ?_; intro v29 e29
      refine pc_ret ⟨fun e he => nol he, fun q hq => ⟨fun h8 => by omega, fun lt => ⟨u15, q15, fun z => absurd y z, fun _ => ⟨?_, ⟨fun k hk => ?_, ⟨r3, r4, fun j hj h2 => r5 j hj (by dsimp only at h2; omega), fun k hk => ?_⟩, fun j k hj hk jk => ?_⟩, r3c, r2⟩⟩⟩⟩
      · show v29 = _
        rw [r3c, oq_add_eq (by omega) (by omega) (by omega)] at e28
        rw [e28, oq_sub_eq (by omega) (by omega) (by omega)] at e29
        omega
      · have hk : (k : Int) < h24 56 3 := by rw [z3, ← r3c]; exact hk
        have X := S24 k hk
        dsimp only; rw [show u26 60 k = h24 60 k from r1 _ _ (by decide) (by decide) (by omega)]
        have hd := (V24.2.2.2.2.1 k (by omega)).2
        have id := im_at hd
        have t1 : ly_T (h24 (h24 60 k).toNat 0).toNat = 1 := X.1.1.2.2.2.2.2.1
        have nr : (h24 (h24 60 k).toNat 0).toNat ≠ 58 ∧ (h24 (h24 60 k).toNat 0).toNat ≠ 59 ∧ (h24 (h24 60 k).toNat 0).toNat ≠ 56 := ⟨fun z => by rw [z] at t1; exact absurd t1 (by decide), fun z => by rw [z] at t1; exact absurd t1 (by decide), fun z => by rw [z] at t1; exact absurd t1 (by decide)⟩
        refine imc_s ⟨fun c i c1 c2 => r1 _ _ (by omega) (by omega) (by omega), fun i => r1 _ _ nr.1 nr.2.1 (by omega), ?_, ?_⟩ X
        · unfold cn_M; rw [r1 _ _ (by omega) (by omega) (by omega)]; omega
        · unfold ln_I
          split
          · rfl
          · exact r1 _ _ (by omega) (by omega) (by omega)
      · have hk : (k : Int) < h24 56 3 := by rw [z3, ← r3c]; exact hk
        have w := r6 k hk
        rw [z3] at w
        dsimp only; rw [show u26 56 3 = M 56 3 + 1 from r3c]; exact w
      · have rowk : ∀ k : Nat, (k : Int) < M 56 3 + 1 → (u26 (u26 60 k).toNat 0).toNat = (if k = (M 56 3).toNat then cn_M M else (M (M 60 k).toNat 0).toNat) := fun k hk => by
          rw [show u26 60 k = h24 60 k from r1 _ _ (by decide) (by decide) (by omega)]
          by_cases qk : k = (M 56 3).toNat
          · rw [if_pos qk, qk, z60, r1 _ _ (by omega) (by omega) (by omega), G24 _ _ (by omega) (by omega), k2, Int.toNat_natCast]
          · have hd := (V.2.2.2.2.1 k (by omega)).2
            have id := im_at hd
            have d := im_dis hb hd (ne k (by omega))
            rw [if_neg qk, G24 60 k (by decide) (by omega), k1 60 k (by omega) (by omega) (by omega), s60, r1 _ _ (by omega) (by omega) (by omega), G24 _ _ (by omega) (by omega), k1 _ _ (by omega) (by omega) (by omega), w0 k (by omega)]
        have hj : (j : Int) < M 56 3 + 1 := by rw [← r3c]; exact hj
        have hk : (k : Int) < M 56 3 + 1 := by rw [← r3c]; exact hk
        show (u26 (u26 60 j).toNat 0).toNat ≠ (u26 (u26 60 k).toNat 0).toNat
        rw [rowk j hj, rowk k hk]
        by_cases qj : j = (M 56 3).toNat
        · rw [if_pos qj, if_neg (by omega)]
          have := (row k (by omega)).2
          omega
        · rw [if_neg qj]
          by_cases qk : k = (M 56 3).toNat
          · rw [if_pos qk]
            have := (row j (by omega)).2
            omega
          · rw [if_neg qk]; exact S.2.2 j k (by omega) (by omega) jk
  · have z := R1 e he
    refine ⟨?_, same, s3, s4⟩
    show v32 = _
    have n6 := hs.2.1
    have g3f := gI_3 V3 hb
    rw [R0] at g3f
    rw [z] at g3f
    rw [z, oq_sub_eq (by omega) (by omega) (by omega)] at e32
    omega
end

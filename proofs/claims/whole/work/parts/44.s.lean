/- KINDS as texts: nameKinds of the class -/
/-- all but names, kinds, and the row of kind bytes -/
def AKn (a g : ms_M) : Prop := ∀ cc y : Nat, ¬ (cc = 2 ∧ y = 9) → ¬ (6 ≤ cc ∧ cc ≤ 9) → ¬ (cc = 11 ∧ y = 20) → ¬ cc = 20 → ¬ cc = 26 → ¬ cc = 30 → ¬ cc = 31 → g cc y = a cc y
/-- the table of names behind some kinds: X letters, k names more -/
def NST (a g : ms_M) (X k : Int) : Prop := NTB g ∧ NXt a g ∧ g 2 9 ≤ 1532 + k ∧ g 7 (g 2 9).toNat ≤ 3186 + X
/-- names of classes and of their rows as far as class k -/
def NKc (W : Nat → List Int) (k : Nat) (g : ms_M) : Prop := ∀ i : Nat, i < k → NMz g (g 30 i) (W i) ∧ NMz g (g 30 (16 + i)) (kd_L W (100 + (i : Int)))
def NKf (W : Nat → List Int) (a : ms_M) (k : Nat) (g : ms_M) : Prop := ∀ i : Nat, i < k → ((i % 12 : Nat) : Int) < a 17 (i / 12) → NMz g (g 20 i) (kd_L W (a 19 i))
def NKm (W : Nat → List Int) (a : ms_M) (k : Nat) (g : ms_M) : Prop := ∀ i : Nat, i < k → ((i % 12 : Nat) : Int) < a 21 (i / 12) → NMz g (g 26 i) (mk_L W a i)
section
variable {nn : Nat} {K P V U D : Nat → Int} {C : Nat → Nat} {c n N mt : Nat} {q : Int} {h g r w u v a b : ms_M} {L : List Int} {W : Nat → List Int}
theorem nw_no {c k : Nat} (z : ¬ (6 ≤ c ∧ c ≤ 9)) (z2 : ¬ (c = 2 ∧ k = 9)) : nw_F wl_X9_nameOf wf_X9_nameOf false false c k = true := by
  simp [nw_F, wl_X9_nameOf, wf_X9_nameOf]
  omega
theorem nmz_x (T : NTB g) (X : NXt g u) {x : Int} {A : List Int} (M : NMz g x A) : NMz u x A := ⟨by have := X.1; have := M.1; omega, nmt_x T X (by have := M.1; omega) M.2⟩
/-- the bytes gathered are a name -/
theorem c_nameB (T : NTB g) (B : BUF g L) (l1 : 1 ≤ L.length) (hN : g 2 9 < 1740) (hs : g 7 (g 2 9).toNat + (L.length : Int) ≤ 6400) : Pc (qf_X9_nameOf nn 31 0 (g 11 20) g) (fun u => (NMz u.2 u.1 L ∧ NTB u.2 ∧ NXt g u.2) ∧ (u.2 2 9 ≤ g 2 9 + 1 ∧ u.2 7 (u.2 2 9).toNat ≤ g 7 (g 2 9).toNat + (L.length : Int)) ∧ ∀ cc y : Nat, ¬ (6 ≤ cc ∧ cc ≤ 9) → ¬ (cc = 2 ∧ y = 9) → u.2 cc y = g cc y) := by
  obtain ⟨⟨b1, b2⟩, b3⟩ := B
  rw [b1]
  intro u e
  obtain ⟨i, i1, i2, i3, i4, i5, i6, i7⟩ := no_c (nn := nn) T (a1 := 31) (a2 := 0) (l := (L.length : Int)) (t := fun k => L.getD k 0) hN (by decide) (by omega) hs (by show 0 + (L.length : Int) ≤ 128; omega) (fun k hk => by rw [show (0 : Int).toNat + k = k by show 0 + k = k; omega]; exact b3 k (by omega)) u e
  refine ⟨⟨⟨by omega, ?_⟩, i4, i5⟩, ⟨i6, i7⟩, fun cc y z1 z2 => ff_X9_nameOf nn u e cc y (nw_no z1 z2)⟩
  rw [i1, Int.toNat_natCast]; exact i3
/-- one step of NST -/
theorem nst_s {X k l : Int} (S : NST a g X k) (A : AKb g u) : NST a u X k := by
  obtain ⟨s1, s2, s3, s4⟩ := S
  refine ⟨ntb_o s1 A, ⟨by rw [A 2 9 (by omega) (by omega)]; exact s2.1, fun i hi => by rw [A 7 i (by omega) (by omega)]; exact s2.2.1 i hi, fun i hi => by rw [A 6 i (by omega) (by omega)]; exact s2.2.2.1 i hi, fun i hi => by rw [A 8 i (by omega) (by omega)]; exact s2.2.2.2 i hi⟩, by rw [A 2 9 (by omega) (by omega)]; exact s3, by rw [A 2 9 (by omega) (by omega), A 7 _ (by omega) (by omega)]; exact s4⟩
theorem akb_n (A : AKn a g) (B : AKb g u) : AKn a u := fun cc y z1 z2 z3 z4 z5 z6 z7 => by rw [B cc y z7 z3]; exact A cc y z1 z2 z3 z4 z5 z6 z7
/-- the name of a kind -/
theorem c_nameKind (Ta : NTB a) {X k : Int} (S : NST a g X k) (A : AKn a g) {t : Int} (ht : VTy t ∧ ¬ t = 300) (HW : ∀ k : Nat, k < 16 → (W k).length ≤ 12) (HN : ∀ k : Nat, (t = (k : Int) ∨ t = 100 + (k : Int)) → k < 16 → NMz g (g 30 k) (W k)) (kb : k < 208) (xb : X + ((kd_L W t).length : Int) ≤ 3214) : Pc (qf_X2_nameKind nn t g) (fun u => NMz u.2 u.1 (kd_L W t) ∧ NST a u.2 (X + ((kd_L W t).length : Int)) (k + 1) ∧ NXt g u.2 ∧ AKn a u.2 ∧ ∀ cc y : Nat, cc = 20 ∨ cc = 26 ∨ cc = 30 → u.2 cc y = g cc y) := by
  have kl := kd_len (W := W) ht HW
  have k1 : 1 ≤ (kd_L W t).length := by
    unfold kd_L
    by_cases a1 : t = 301
    · rw [if_pos a1]; decide
    · rw [if_neg a1]
      by_cases a2 : t = 302
      · rw [if_pos a2]; decide
      · rw [if_neg a2]
        by_cases a3 : t = 303
        · rw [if_pos a3]; decide
        · rw [if_neg a3]
          by_cases a4 : t = 200
          · rw [if_pos a4]; decide
          · rw [if_neg a4]
            by_cases a5 : t < 100
            · rw [if_pos a5]; exact Nat.succ_pos _
            · rw [if_neg a5]; exact Nat.succ_pos _
  unfold qf_X2_nameKind
  refine pc_xl ?_; intro h1 e1
  have A1 : AKb g h1 := fun cc y z1 z2 => by rw [e1, up_n z2]
  have B1 : BUF h1 [] := ⟨⟨by rw [e1, up_s]; rfl, by decide⟩, fun k hk => absurd hk (Nat.not_lt_zero _)⟩
  have S1 := nst_s (l := 0) S A1
  refine pc_sv (c_addKind S1.1 ht (fun k z1 z2 => by rw [A1 30 k (by omega) (by omega)]; exact nml_o (HN k z1 z2) A1) B1 (by show 0 + (kd_L W t).length ≤ 128; omega)) ?_; intro u3 q3
  have S3 := nst_s (l := 0) S1 q3.2
  have A3 : AKb g u3 := akb_t A1 q3.2
  refine pc_sv (c_nameB S3.1 q3.1 k1 (by have := S3.2.2.1; omega) (by have := S3.2.2.2; show _ + ((kd_L W t).length : Int) ≤ 6400; omega)) ?_; intro u8 q8
  obtain ⟨⟨q1, q2, q4⟩, ⟨q5, q6⟩, q7⟩ := q8
  have e3 : NXt g u3 := ⟨by rw [A3 2 9 (by omega) (by omega)]; exact Int.le_refl _, fun i hi => A3 7 i (by omega) (by omega), fun i hi => A3 6 i (by omega) (by omega), fun i hi => A3 8 i (by omega) (by omega)⟩
  refine pc_ret ⟨q1, ⟨q2, nx_t Ta S3.1 S3.2.1 q4, by have := S3.2.2.1; dsimp only; omega, ?_⟩, nx_t S.1 S3.1 e3 q4, fun cc y z1 z2 z3 z4 z5 z6 z7 => ?_, fun cc y z => ?_⟩
  · have x := S3.2.2.2
    have y : u8.2 7 (u8.2 2 9).toNat ≤ u3 7 (u3 2 9).toNat + ((kd_L W t).length : Int) := q6
    dsimp only
    omega
  · rw [q7 cc y z2 z1]; exact akb_n A A3 cc y z1 z2 z3 z4 z5 z6 z7
  · rw [q7 cc y (by omega) (by omega)]; exact A3 cc y (by omega) (by omega)
/-- the name of a method's kind -/
theorem c_nameMK (Ta : NTB a) {X k : Int} (S : NST a g X k) (A : AKn a g) {x : Nat} {pn : Nat} (hx : x < 96) (HM : ((x % 12 : Nat) : Int) < a 21 (x / 12)) (e27 : a 27 x = (pn : Int)) (p6 : pn ≤ 6) (hr : VTy (a 24 x) ∧ ¬ a 24 x = 300) (hp : ∀ i : Nat, i < pn → VTy (a 29 (6 * x + i)) ∧ ¬ a 29 (6 * x + i) = 300) (HW : ∀ k : Nat, k < 16 → (W k).length ≤ 12) (HN : ∀ (t : Int) (k : Nat), (t = a 24 x ∨ ∃ i : Nat, i < pn ∧ t = a 29 (6 * x + i)) → (t = (k : Int) ∨ t = 100 + (k : Int)) → k < 16 → NMz g (g 30 k) (W k)) (kb : k < 208) (xb : X + ((mk_L W a x).length : Int) ≤ 3214) : Pc (qf_X2_nameMethodKind nn (x : Int) g) (fun u => NMz u.2 u.1 (mk_L W a x) ∧ NST a u.2 (X + ((mk_L W a x).length : Int)) (k + 1) ∧ NXt g u.2 ∧ AKn a u.2 ∧ ∀ cc y : Nat, cc = 20 ∨ cc = 26 ∨ cc = 30 → u.2 cc y = g cc y) := by
  have kr := kd_len (W := W) hr HW
  have ag : ∀ cc y : Nat, cc = 21 ∨ cc = 24 ∨ cc = 27 ∨ cc = 29 → g cc y = a cc y := fun cc y z => A cc y (by omega) (by omega) (by omega) (by omega) (by omega) (by omega) (by omega)
  have kl : ∀ i : Nat, i ≤ pn → (kz_L W (fun i => a 29 (6 * x + i)) i).length ≤ 15 * i := by
    intro i
    induction i with
    | zero => intro _; exact Nat.le_refl _
    | succ i ih =>
      intro hi
      show (kz_L W (fun i => a 29 (6 * x + i)) i ++ kd_L W (a 29 (6 * x + i))).length ≤ _
      rw [List.length_append]
      have := ih (by omega)
      have := kd_len (W := W) (hp i (by omega)) HW
      omega
  have LOOP : ∀ (f i : Nat) (g2 : ms_M), i ≤ pn → NST a g2 X k → AKb g g2 → BUF g2 (40 :: kz_L W (fun i => a 29 (6 * x + i)) i) → Pc (qw_X2_nameMethodKind_13 nn f (x : Int) (i : Int) g2) (fun u => NMz u.2 u.1 (mk_L W a x) ∧ NST a u.2 (X + ((mk_L W a x).length : Int)) (k + 1) ∧ NXt g u.2 ∧ AKn a u.2 ∧ ∀ cc y : Nat, cc = 20 ∨ cc = 26 ∨ cc = 30 → u.2 cc y = g cc y) := by
    intro f
    induction f with
    | zero => intros; exact pc_none
    | succ f ih =>
      intro i g2 hi S2 A2 B2
      have a2 : ∀ cc y : Nat, cc = 21 ∨ cc = 24 ∨ cc = 27 ∨ cc = 29 → g2 cc y = a cc y := fun cc y z => by rw [A2 cc y (by omega) (by omega)]; exact ag cc y z
      unfold qw_X2_nameMethodKind_13
      refine pc_rA ?_; intro _ _ v2 e2
      rw [Int.toNat_natCast, a2 27 x (by omega), e27] at e2
      have ki := kl i hi
      refine pc_if (fun z => ?_) (fun z => ?_)
      · have ip : i = pn := by omega
        have lb : (40 :: kz_L W (fun i => a 29 (6 * x + i)) i).length = (kz_L W (fun i => a 29 (6 * x + i)) i).length + 1 := rfl
        refine pc_sv (c_akb (x := 41) (by decide) B2 (by omega)) ?_; intro u4 q4
        have l4 : ((40 :: kz_L W (fun i => a 29 (6 * x + i)) i) ++ [41]).length = (kz_L W (fun i => a 29 (6 * x + i)) i).length + 2 := by rw [List.length_append]; rfl
        refine pc_rA ?_; intro _ _ v6 e6
        rw [Int.toNat_natCast, q4.2 24 x (by omega) (by omega), a2 24 x (by omega)] at e6
        have S4 := nst_s (l := 0) S2 q4.2
        have A4 : AKb g u4 := akb_t A2 q4.2
        rw [e6]
        refine pc_sv (c_addKind S4.1 hr (fun k z1 z2 => by rw [A4 30 k (by omega) (by omega)]; exact nml_o (HN _ k (.inl rfl) z1 z2) A4) q4.1 (by omega)) ?_; intro u8 q8
        have S8 := nst_s (l := 0) S4 q8.2
        have A8 : AKb g u8 := akb_t A4 q8.2
        have em : (40 :: kz_L W (fun i => a 29 (6 * x + i)) i) ++ [41] ++ kd_L W (a 24 x) = mk_L W a x := by
          unfold mk_L
          rw [show (a 27 x).toNat = i by omega]
        rw [em] at q8
        have lm : (mk_L W a x).length = (kz_L W (fun i => a 29 (6 * x + i)) i).length + 2 + (kd_L W (a 24 x)).length := by rw [← em, List.length_append, l4]
        refine pc_sv (c_nameB S8.1 q8.1 (by omega) (by have := S8.2.2.1; omega) (by have := S8.2.2.2; omega)) ?_; intro u13 q13
        obtain ⟨⟨q1, q2, q5⟩, ⟨q6, q7⟩, q9⟩ := q13
        have e3 : NXt g u8 := ⟨by rw [A8 2 9 (by omega) (by omega)]; exact Int.le_refl _, fun i hi => A8 7 i (by omega) (by omega), fun i hi => A8 6 i (by omega) (by omega), fun i hi => A8 8 i (by omega) (by omega)⟩
        refine pc_ret ⟨q1, ⟨q2, nx_t Ta S8.1 S8.2.1 q5, by have := S8.2.2.1; dsimp only; omega, by have := S8.2.2.2; dsimp only; omega⟩, nx_t S.1 S8.1 e3 q5, fun cc y z1 z2 z3 z4 z5 z6 z7 => ?_, fun cc y z => ?_⟩
        · rw [q9 cc y z2 z1]; exact akb_n A A8 cc y z1 z2 z3 z4 z5 z6 z7
        · rw [q9 cc y (by omega) (by omega)]; exact A8 cc y (by omega) (by omega)
      · have ipn : i < pn := by omega
        -- the parameter's type
        refine pc_sv (P := fun y => y = a 29 (6 * x + i)) ?_ ?_
        · unfold qf_X2_parameterType qf_X2_parametersOf
          refine pc_if (fun y => absurd y (by omega)) (fun _ => ?_)
          refine pc_sv (P := fun y => y = (pn : Int)) ?_ ?_
          · refine pc_sv (c_isM hx) ?_; intro u2 q2
            rw [a2 21 _ (by omega)] at q2
            refine pc_if (fun y => ?_) (fun _ => ?_)
            · exfalso; rcases q2 with ⟨w1, w2⟩ | ⟨w1, w2⟩
              · omega
              · exact w2 HM
            · refine pc_rA ?_; intro _ _ v4 e4
              rw [Int.toNat_natCast, a2 27 x (by omega), e27] at e4
              exact pc_ret e4
          · intro u2 e2'
            refine pc_if (fun y => absurd y (by omega)) (fun _ => ?_)
            refine pc_xl ?_; intro v4 e4
            rw [oq_mul_eq (by omega) (by omega) (by omega)] at e4
            refine pc_add (by omega) ?_; intro v5 e5
            refine pc_rA ?_; intro _ _ v6 e6
            rw [show v5.toNat = 6 * x + i by omega, a2 29 _ (by omega)] at e6
            exact pc_ret e6
        · intro u15 e15
          rw [e15]
          have kp := kd_len (W := W) (hp i ipn) HW
          have lb : (40 :: kz_L W (fun i => a 29 (6 * x + i)) i).length = (kz_L W (fun i => a 29 (6 * x + i)) i).length + 1 := rfl
          refine pc_sv (c_addKind S2.1 (hp i ipn) (fun k z1 z2 => by rw [A2 30 k (by omega) (by omega)]; exact nml_o (HN _ k (.inr ⟨i, ipn, rfl⟩) z1 z2) A2) B2 (by omega)) ?_; intro u17 q17
          refine pc_add (by omega) ?_; intro v18 e18
          rw [show v18 = ((i + 1 : Nat) : Int) by omega]
          exact ih (i + 1) u17 (by omega) (nst_s (l := 0) S2 q17.2) (akb_t A2 q17.2) q17.1
  unfold qf_X2_nameMethodKind
  refine pc_xl ?_; intro h20 e20
  have A1 : AKb g h20 := fun cc y z1 z2 => by rw [e20, up_n z2]
  have B1 : BUF h20 [] := ⟨⟨by rw [e20, up_s]; rfl, by decide⟩, fun k hk => absurd hk (Nat.not_lt_zero _)⟩
  refine pc_sv (c_akb (x := 40) (by decide) B1 (by decide)) ?_; intro u22 q22
  exact LOOP nn 0 u22 (by omega) (nst_s (l := 0) (nst_s (l := 0) S A1) q22.2) (akb_t A1 q22.2) q22.1
end

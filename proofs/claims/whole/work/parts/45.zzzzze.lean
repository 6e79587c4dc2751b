/- compile, whole: the end of both sides -/
/-- the images of both sides, as they can be asked for -/
def OIM (n : Nat) (h w : ms_M) : Prop := (h 0 7 = (n : Int) ∧ w 160 93 = (n : Int) ∧ n ≤ 8) ∧ ∀ c : Nat, c < n → ∃ id : Nat, h 55 c = (id : Int) ∧ (256 ≤ id ∧ id < cn_M h ∧ id < 900000) ∧ ln_I h id = w 222 c ∧ (0 ≤ w 222 c ∧ w 222 c ≤ 6000) ∧ ∀ x : Nat, (x : Int) < w 222 c → w 221 (6000 * c + x) = h id x % 256
/-- what compile gives, both sides -/
def FNL (n : Nat) (A : Int × ms_M × Nat × Nat) (B : Int × ms_M) : Prop := (A.1 = -1 ∧ B.1 = -1 ∧ SFj A.2.1 B.2) ∨ ((A.1 = (n : Int) ∧ B.1 = (n : Int)) ∧ (A.2.1 2 11 = 0 ∧ B.2 160 9 = 0) ∧ OIM n A.2.1 B.2)
section
variable {nn : Nat} {X : BCx} {a b : Nat → Int} {p q : Nat → Nat} {L0 : Int} {k j i n : Nat} {h g u r v m m0 w y R0 : ms_M}
theorem c_take (e11 : h 11 2 = (n : Int)) (n8 : n ≤ 8) : Pc (qf_X12_takeImages nn h) (fun A => A.1 = (n : Int) ∧ A.2 0 7 = (n : Int) ∧ (∀ c : Nat, c < n → A.2 55 c = h 43 c) ∧ ∀ cc x : Nat, ¬ (cc = 0 ∧ x = 7) → ¬ cc = 55 → A.2 cc x = h cc x) := by
  unfold qf_X12_takeImages
  refine pc_xl ?_; intro h16 e16
  have L : ∀ (f c : Nat) (g : ms_M), c ≤ n → g 0 7 = (n : Int) → (∀ c2 : Nat, c2 < c → g 55 c2 = h 43 c2) → (∀ cc x : Nat, ¬ (cc = 0 ∧ x = 7) → ¬ cc = 55 → g cc x = h cc x) → Pc (qw_X12_takeImages_13 nn f (c : Int) g) (fun A => A.1 = (n : Int) ∧ A.2 0 7 = (n : Int) ∧ (∀ c : Nat, c < n → A.2 55 c = h 43 c) ∧ ∀ cc x : Nat, ¬ (cc = 0 ∧ x = 7) → ¬ cc = 55 → A.2 cc x = h cc x) := by
    intro f
    induction f with
    | zero => intro c g _ _ _ _; exact fun _ z => nomatch z
    | succ f ih =>
      intro c g hc g7 g55 G
      unfold qw_X12_takeImages_13
      refine pc_if (fun z => ?_) (fun z => ?_)
      · refine pc_ret ⟨g7, g7, fun c2 h2 => g55 c2 (by omega), G⟩
      · refine pc_if (fun z => absurd z (by omega)) (fun _ => ?_)
        refine pc_sv (P := fun v => v = h 43 c) ?_ ?_
        · unfold qf_X0_made
          refine pc_if (fun z => absurd z (by omega)) (fun _ => pc_if (fun z => absurd z (by omega)) (fun _ => ?_))
          refine pc_rA ?_; intro _ _ v4 e4
          rw [Int.toNat_natCast, G 43 _ (by omega) (by omega)] at e4
          exact pc_ret e4
        intro u9 q9
        unfold wr_QB
        refine pc_if (fun _ => ?_) (fun _ => fun _ z => nomatch z)
        refine pc_add (by omega) ?_; intro v11 e11
        rw [show v11 = ((c + 1 : Nat) : Int) by omega, Int.toNat_natCast]
        refine ih (c + 1) _ (by omega) (by rw [up_n (by omega)]; exact g7) (fun c2 h2 => ?_) (fun cc x z1 z2 => by rw [up_n (by omega)]; exact G cc x z1 z2)
        by_cases q : c2 = c
        · rw [q, up_s]; exact q9
        · rw [up_n (by omega)]; exact g55 c2 (by omega)
  exact L nn 0 h16 (Nat.zero_le _) (by rw [e16, up_s]; exact e11) (fun c2 h2 => absurd h2 (by omega)) (fun cc x z1 z2 => by rw [e16, up_n z1])
/-- the reference takes its images over -/
def T147 (n : Nat) (m : ms_M) (B : Int × ms_M) : Prop := B.1 = (n : Int) ∧ B.2 160 93 = (n : Int) ∧ (∀ c : Nat, c < n → B.2 222 c = m 224 c ∧ ∀ x : Nat, (x : Int) < m 224 c → B.2 221 (6000 * c + x) = m 223 (6000 * c + x)) ∧ ∀ cc x : Nat, ¬ (cc = 160 ∧ x = 93) → ¬ cc = 221 → ¬ cc = 222 → B.2 cc x = m cc x
def T147i (c : Nat) (m g : ms_M) : Prop := (∀ c2 : Nat, c2 < c → g 222 c2 = m 224 c2 ∧ ∀ x : Nat, (x : Int) < m 224 c2 → g 221 (6000 * c2 + x) = m 223 (6000 * c2 + x)) ∧ ∀ cc x : Nat, ¬ cc = 221 → ¬ cc = 222 → g cc x = m cc x
theorem r_147 (n8 : n ≤ 8) (m24 : m 160 24 = (n : Int)) (L : ∀ c : Nat, c < n → 0 ≤ m 224 c ∧ m 224 c ≤ 6000) : ∀ (f c : Nat) (g : ms_M), c ≤ n → T147i c m g → Pc (qw_X13_compile_147 nn f (c : Int) g) (fun B => T147 n m B) := by
  intro f
  induction f with
  | zero => intro c g _ _; exact fun _ z => nomatch z
  | succ f ih =>
    intro c g hc ⟨G1, G2⟩
    have g24 : g 160 24 = (n : Int) := by rw [G2 160 24 (by omega) (by omega)]; exact m24
    rw [show qw_X13_compile_147 nn (f + 1) (c : Int) g = (if (g 160 24) ≤ (c : Int) then (xl (up_M g 160 93 (g 160 24)) fun h16 => some ((h16 160 24), h16)) else (rd_A 8 224 (c : Int) g fun v20 => wr_A 8 222 (c : Int) v20 g fun h21 => qw_X13_compile_169 nn (qw_X13_compile_147 nn f) nn (c : Int) 0 h21)) from rfl]
    refine pc_if (fun z => ?_) (fun z => ?_)
    · refine pc_xl ?_; intro h16 e16
      refine pc_ret ⟨?_, ?_, fun c2 h2 => ?_, fun cc x z1 z2 z3 => ?_⟩
      · show h16 160 24 = _
        rw [e16, up_n (by omega)]; exact g24
      · show h16 160 93 = _
        rw [e16, up_s]; exact g24
      · show h16 222 c2 = _ ∧ ∀ x : Nat, _ → h16 221 _ = _
        rw [e16, up_n (by omega)]
        refine ⟨(G1 c2 (by omega)).1, fun x hx => ?_⟩
        rw [up_n (by omega)]; exact (G1 c2 (by omega)).2 x hx
      · show h16 cc x = _
        rw [e16, up_n z1]; exact G2 cc x z2 z3
    · have lc := L c (by omega)
      refine pc_rA ?_; intro _ _ v20 e20
      rw [Int.toNat_natCast, G2 224 _ (by omega) (by omega)] at e20
      refine pc_wA ?_; intro _ _ h21 e21
      rw [Int.toNat_natCast] at e21
      have I : ∀ (f2 l : Nat) (g2 : ms_M), (l : Int) ≤ m 224 c → (∀ c2 : Nat, c2 < c → g2 222 c2 = m 224 c2 ∧ ∀ x : Nat, (x : Int) < m 224 c2 → g2 221 (6000 * c2 + x) = m 223 (6000 * c2 + x)) → g2 222 c = m 224 c → (∀ x : Nat, x < l → g2 221 (6000 * c + x) = m 223 (6000 * c + x)) → (∀ cc x : Nat, ¬ cc = 221 → ¬ cc = 222 → g2 cc x = m cc x) → Pc (qw_X13_compile_169 nn (qw_X13_compile_147 nn f) f2 (c : Int) (l : Int) g2) (fun B => T147 n m B) := by
        intro f2
        induction f2 with
        | zero => intro l g2 _ _ _ _ _; exact fun _ z => nomatch z
        | succ f2 ih2 =>
          intro l g2 hl H1 H2 H3 H4
          unfold qw_X13_compile_169
          refine pc_rA ?_; intro _ _ v2 e2
          rw [Int.toNat_natCast, H4 224 _ (by omega) (by omega)] at e2
          refine pc_if (fun z => ?_) (fun z => ?_)
          · refine pc_add (by omega) ?_; intro v3 e3
            rw [show v3 = ((c + 1 : Nat) : Int) by omega]
            refine ih (c + 1) g2 (by omega) ⟨fun c2 h2 => ?_, H4⟩
            by_cases q : c2 = c
            · rw [q]; exact ⟨H2, fun x hx => H3 x (by omega)⟩
            · exact H1 c2 (by omega)
          · refine pc_xl ?_; intro v5 e5
            rw [oq_mul_eq (by omega) (by omega) (by omega)] at e5
            refine pc_add (by omega) ?_; intro v6 e6
            refine pc_xl ?_; intro v8 e8
            rw [oq_mul_eq (by omega) (by omega) (by omega)] at e8
            refine pc_add (by omega) ?_; intro v9 e9
            refine pc_rA ?_; intro _ _ v10 e10
            rw [show v9.toNat = 6000 * c + l by omega, H4 223 _ (by omega) (by omega)] at e10
            refine pc_wA ?_; intro _ _ h11 e11
            rw [show v6.toNat = 6000 * c + l by omega] at e11
            refine pc_add (by omega) ?_; intro v12 e12
            rw [show v12 = ((l + 1 : Nat) : Int) by omega]
            refine ih2 (l + 1) h11 (by omega) (fun c2 h2 => ?_) (by rw [e11, up_n (by omega)]; exact H2) (fun x hx => ?_) (fun cc x z1 z2 => by rw [e11, up_n (by omega)]; exact H4 cc x z1 z2)
            · rw [e11, up_n (by omega)]
              refine ⟨(H1 c2 h2).1, fun x hx => ?_⟩
              have l2 := L c2 (by omega)
              rw [up_n (by omega)]; exact (H1 c2 h2).2 x hx
            · by_cases q : x = l
              · rw [q, e11, up_s]; exact e10
              · rw [e11, up_n (by omega)]; exact H3 x (by omega)
      rw [show (0 : Int) = ((0 : Nat) : Int) from rfl]
      refine I nn 0 h21 (by omega) (fun c2 h2 => ?_) (by rw [e21, up_s]; exact e20) (fun x hx => absurd hx (by omega)) (fun cc x z1 z2 => by rw [e21, up_n (by omega)]; exact G2 cc x z1 z2)
      rw [e21, up_n (by omega)]
      refine ⟨(G1 c2 h2).1, fun x hx => ?_⟩
      rw [up_n (by omega)]; exact (G1 c2 h2).2 x hx
end

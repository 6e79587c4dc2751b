section
variable {nn : Nat} {h g r z : ms_M} {c : Int}
/-- what reading image c leaves -/
def NT8 (c : Int) (h r : ms_M) : Prop := ∀ x k : Nat, ¬ (x = 160 ∧ k = 114) → ¬ (x = 228 ∧ 256 * c ≤ (k : Int) ∧ (k : Int) < 256 * c + 256) → ¬ ((x = 229 ∨ x = 232 ∨ x = 234) ∧ (k : Int) = c) → ¬ ((x = 233 ∨ x = 235 ∨ x = 236 ∨ x = 237) ∧ 12 * c ≤ (k : Int) ∧ (k : Int) < 12 * c + 12) → r x k = h x k
theorem nt8_rf : NT8 c h h := fun _ _ _ _ _ _ => rfl
theorem nt8_tr (a : NT8 c h z) (b : NT8 c z r) : NT8 c h r := fun x k w1 w2 w3 w4 => (b x k w1 w2 w3 w4).trans (a x k w1 w2 w3 w4)
theorem nt8_nb (N : NB h r) : NT8 c h r := fun x k w _ _ _ => N x k w
/-- where reading stands, behind the constants -/
def ST8 (h g : ms_M) (c : Int) : Prop := VS_ g ∧ KE8 h g c ∧ NT8 c h g ∧ (Live g → Live h)
theorem st8_0 (V : VS_ h) : ST8 h h c := ⟨V, ke8_rf, nt8_rf, id⟩
theorem st8_byte (S : ST8 h g c) {p : Int} : Ok_ (qf_X13_isByte nn p g) (fun u => ST8 h u.2 c ∧ ((u.1 = 1 ∧ u.2 = g ∧ Live g ∧ p < h 160 113) ∨ (u.1 = 0 ∧ ¬ Live u.2))) := by
  obtain ⟨s1, s2, s3, s4⟩ := S
  refine ok_im (sq_byte s1) (fun u P => ?_)
  obtain ⟨V, N, P⟩ := P
  have K : KE8 g u.2 c := ke_nb N
  refine ⟨⟨V, ke8_tr s2 K, nt8_tr s3 (nt8_nb N), fun y => ?_⟩, ?_⟩
  · rcases P with ⟨_, _, q, _⟩ | ⟨_, q⟩
    · exact s4 q
    · exact absurd y q
  · rcases P with ⟨q1, q2, q3, q4⟩ | q
    · exact .inl ⟨q1, q2, q3, by rw [← s2.2.1]; exact q4⟩
    · exact .inr q
theorem st8_unfit (S : ST8 h g c) {p : Int} (hp : 0 ≤ p ∧ p ≤ 6010) : Ok_ (qf_X13_unfit nn p g) (fun r => ST8 h r c ∧ ¬ Live r) := by
  obtain ⟨s1, s2, s3, s4⟩ := S
  refine ok_im (sq_unfit s1 hp) (fun u P => ?_)
  exact ⟨⟨P.1, ke8_tr s2 (ke_nb P.2.1), nt8_tr s3 (nt8_nb P.2.1), fun y => absurd y P.2.2⟩, P.2.2⟩
theorem st8_up {x k : Nat} {v : Int} (S : ST8 h g c) (E : z = up_M g x k v) (V : VS_ z) (hx : 230 ≤ x ∧ x ≤ 237) (hk : ((x = 232 ∨ x = 234) ∧ (k : Int) = c) ∨ ((x = 233 ∨ x = 235 ∨ x = 236 ∨ x = 237) ∧ 12 * c ≤ (k : Int) ∧ (k : Int) < 12 * c + 12)) : ST8 h z c ∧ (Live z → Live g) := by
  obtain ⟨s1, s2, s3, s4⟩ := S
  have e : z 160 114 = g 160 114 := by rw [E, up_n (by omega)]
  have l : Live z → Live g := fun y => by unfold Live at y ⊢; omega
  refine ⟨⟨V, ke8_tr s2 (ke8_up E hx), nt8_tr s3 (fun x2 k2 w1 w2 w3 w4 => ?_), fun y => s4 (l y)⟩, l⟩
  rw [E, up_n (by omega)]
theorem st8_text (hn : 1000000 ≤ nn) (S : ST8 h g c) (B : SI8 h c) {i k : Int} : Ok_ (qf_X13_isText nn i k g) (fun u => (u = 0 ∨ u = 1) ∧ (¬ u = 0 → TX h c i)) := by
  have K := S.2.1
  have Bg := si8_ke K B
  refine ok_im (sq_text hn S.1 Bg.1 Bg.2.1) (fun u P => ⟨P.1, fun y => ?_⟩)
  have t := P.2 y
  rw [K.2.2.2, pl_ke K, (K.1 _).1] at t
  exact t
theorem st8_class (S : ST8 h g c) (B : SI8 h c) {i k : Int} : Ok_ (qf_X13_isClassConstant nn i k g) (fun u => (u = 0 ∨ u = 1) ∧ (¬ u = 0 → CL h c i)) := by
  have K := S.2.1
  have Bg := si8_ke K B
  refine ok_im (sq_class S.1 Bg.1 Bg.2.1) (fun u P => ⟨P.1, fun y => ?_⟩)
  have t := P.2 y
  rw [K.2.2.2, pl_ke K, (K.1 _).1] at t
  exact t
/-- a place behind which reading goes on -/
def QP8 (h : ms_M) (c : Int) (g : ms_M) (u : Int × ms_M) : Prop := ST8 h u.2 c ∧ (0 ≤ u.1 ∧ u.1 ≤ 80000) ∧ (Live u.2 → Live g ∧ u.1 ≤ h 160 113)
theorem qp_dead {f : ms_M} {u : Int × ms_M} (d : ¬ Live f) (P : QP8 h c f u) : QP8 h c g u := ⟨P.1, P.2.1, fun y => absurd (P.2.2 y).1 d⟩
theorem qp_live {f : ms_M} {u : Int × ms_M} (d : Live f → Live g) (P : QP8 h c f u) : QP8 h c g u := ⟨P.1, P.2.1, fun y => ⟨d (P.2.2 y).1, (P.2.2 y).2⟩⟩
/-- types, one behind the other -/
theorem sq_24 (hn : 1000000 ≤ nn) (V0 : VS_ h) (B : Live h → SI8 h c) {l2 : Int} (h2 : 0 ≤ l2 ∧ l2 ≤ 255) : ∀ (k : Nat) (l3 l4 : Int) (g : ms_M), ST8 h g c → (0 ≤ l3 ∧ l3 ≤ 80000) → (Live g → l3 ≤ h 160 113) → (0 ≤ l4 ∧ l4 ≤ l2) → l2 - l4 < (k : Int) → Ok_ (qw_X13_scanTypes_24 nn k l2 l3 l4 g) (QP8 h c g) := by
  have g113 := gF_160_113 V0
  intro k
  induction k with
  | zero => intro l3 l4 g S a l b hm; exfalso; omega
  | succ k ih =>
    intro l3 l4 g S a l b hm
    unfold qw_X13_scanTypes_24
    refine ok_if (fun _ => ok_ret ⟨S, a, fun y => ⟨y, l y⟩⟩) (fun C => ?_)
    refine ok_sv (st8_byte S) ?_; intro u24 P
    obtain ⟨S24, P⟩ := P
    rcases P with ⟨p1, p2, p3, p4⟩ | ⟨p1, p2⟩
    · rw [if_pos (show ¬ u24.1 = 0 by omega), p2]
      have V := S.1
      have Bh := B (S.2.2.2 p3)
      refine ok_rd (by omega) (gA_238 V) ?_; intro v26 e26 _ _
      have J : ∀ f : ms_M, ST8 h f c → (Live f → Live g) → Ok_ (qj_X13_scanTypes_55 nn (qw_X13_scanTypes_24 nn k) l2 l3 l4 f) (QP8 h c g) := fun f Sf lf => by
        unfold qj_X13_scanTypes_55
        refine ok_rd (by omega) (gA_238 Sf.1) ?_; intro v2 e2 _ _
        refine ok_if (fun _ => ?_) (fun _ => ?_)
        · refine ok_add (by omega) ?_; intro v3 e3
          refine ok_add (by omega) ?_; intro v4 e4
          exact ok_im (ih v3 v4 f Sf (by omega) (fun _ => by omega) (by omega) (by omega)) (fun u q => qp_live lf q)
        · refine ok_add (by omega) ?_; intro v5 e5
          refine ok_sv (st8_byte Sf) ?_; intro u7 P7
          obtain ⟨S7, P7⟩ := P7
          rcases P7 with ⟨q1, q2, q3, q4⟩ | ⟨q1, q2⟩
          · rw [if_neg (show ¬ u7.1 = 0 by omega), q2]
            refine ok_rd (by omega) (gA_238 Sf.1) ?_; intro v11 _ _ _
            refine ok_sv (st8_class Sf Bh) ?_; intro u13 _
            refine ok_if (fun _ => ?_) (fun _ => ?_)
            · refine ok_add (by omega) ?_; intro v14 e14
              refine ok_add (by omega) ?_; intro v15 e15
              exact ok_im (ih v14 v15 f Sf (by omega) (fun _ => by omega) (by omega) (by omega)) (fun u q => qp_live lf q)
            · refine ok_sv (st8_unfit Sf (by omega)) ?_; intro u17 P17
              refine ok_add (by omega) ?_; intro v18 e18
              refine ok_add (by omega) ?_; intro v19 e19
              exact ok_im (ih v18 v19 u17 P17.1 (by omega) (fun y => absurd y P17.2) (by omega) (by omega)) (fun u q => qp_dead P17.2 q)
          · rw [if_pos q1]
            refine ok_add (by omega) ?_; intro v8 e8
            refine ok_add (by omega) ?_; intro v9 e9
            exact ok_im (ih v8 v9 u7.2 S7 (by omega) (fun y => absurd y q2) (by omega) (by omega)) (fun u q => qp_dead q2 q)
      refine ok_if (fun _ => J g S id) (fun _ => ?_)
      refine ok_sv (st8_unfit S (by omega)) ?_; intro u28 P28
      exact J u28 P28.1 (fun y => absurd y P28.2)
    · rw [if_neg (show ¬ ¬ u24.1 = 0 by omega)]
      exact ok_ret ⟨S24, a, fun y => absurd y p2⟩
theorem sq_types (hn : 1000000 ≤ nn) (V0 : VS_ h) (B : Live h → SI8 h c) {p : Int} (S : ST8 h g c) (a : 0 ≤ p ∧ p ≤ 80000) : Ok_ (qf_X13_scanTypes nn p g) (QP8 h c g) := by
  have g113 := gF_160_113 V0
  unfold qf_X13_scanTypes
  refine ok_sv (st8_byte S) ?_; intro u33 P
  obtain ⟨S33, P⟩ := P
  rcases P with ⟨p1, p2, p3, p4⟩ | ⟨p1, p2⟩
  · rw [if_pos (show ¬ u33.1 = 0 by omega), p2]
    refine ok_rd (by omega) (gA_238 S.1) ?_; intro v35 e35 a35 b35
    refine ok_add (by omega) ?_; intro v36 e36
    exact sq_24 hn V0 B ⟨a35, b35⟩ nn v36 0 g S (by omega) (fun _ => by omega) (by omega) (by omega)
  · rw [if_neg (show ¬ ¬ u33.1 = 0 by omega)]
    exact ok_ret ⟨S33, a, fun y => absurd y p2⟩
/-- the frames -/
theorem sq_497 (hn : 1000000 ≤ nn) (V0 : VS_ h) (B : Live h → SI8 h c) {l9 : Int} (h9 : 0 ≤ l9 ∧ l9 ≤ 255) : ∀ (k : Nat) (l4 l10 : Int) (g : ms_M), ST8 h g c → (0 ≤ l4 ∧ l4 ≤ 80000) → (Live g → l4 ≤ h 160 113) → (0 ≤ l10 ∧ l10 ≤ l9) → l9 - l10 < (k : Int) → Ok_ (qw_X13_scanMethod_497 nn k l4 l9 l10 g) (QP8 h c g) := by
  have g113 := gF_160_113 V0
  intro k
  induction k with
  | zero => intro l4 l10 g S a l b hm; exfalso; omega
  | succ k ih =>
    intro l4 l10 g S a l b hm
    unfold qw_X13_scanMethod_497
    refine ok_if (fun _ => ok_ret ⟨S, a, fun y => ⟨y, l y⟩⟩) (fun C => ?_)
    refine ok_if (fun D => ok_ret ⟨S, a, fun y => absurd y D⟩) (fun D => ?_)
    refine ok_add (by omega) ?_; intro v2 e2
    refine ok_sv (st8_byte S) ?_; intro u4 P
    obtain ⟨S4, P⟩ := P
    rcases P with ⟨p1, p2, p3, p4⟩ | ⟨p1, p2⟩
    · rw [if_pos (show ¬ u4.1 = 0 by omega), p2]
      refine ok_add (by omega) ?_; intro v5 e5
      refine ok_sv (sq_types hn V0 B S (by omega)) ?_; intro u7 P7
      refine ok_sv (sq_types hn V0 B P7.1 P7.2.1) ?_; intro u9 P9
      refine ok_add (by omega) ?_; intro v10 e10
      refine ok_im (ih u9.1 v10 u9.2 P9.1 P9.2.1 (fun y => (P9.2.2 y).2) (by omega) (by omega)) (fun u q => qp_live (fun y => (P7.2.2 (P9.2.2 y).1).1) q)
    · rw [if_neg (show ¬ ¬ u4.1 = 0 by omega)]
      exact ok_ret ⟨S4, a, fun y => absurd y p2⟩
theorem sq_444 (hn : 1000000 ≤ nn) (V0 : VS_ h) (hc : 0 ≤ c ∧ c ≤ 7) (B : Live h → SI8 h c) {l2 l4 : Int} (h2 : 0 ≤ l2 ∧ l2 < 12) (S : ST8 h g c) (a : 0 ≤ l4 ∧ l4 ≤ 80000) : Ok_ (qj_X13_scanMethod_444 nn c l2 l4 g) (QP8 h c g) := by
  have g113 := gF_160_113 V0
  unfold qj_X13_scanMethod_444
  refine ok_sv (st8_byte S) ?_; intro u15 P
  obtain ⟨S15, P⟩ := P
  rcases P with ⟨p1, p2, p3, p4⟩ | ⟨p1, p2⟩
  · rw [if_pos (show ¬ u15.1 = 0 by omega), p2]
    refine ok_mul (by omega) ?_; intro v17 e17
    refine ok_add (by omega) ?_; intro v18 e18
    refine ok_wA (by omega) ?_; intro h19 E19
    have V19 : VS_ h19 := by rw [E19]; exact wA_237 S.1 (by omega)
    obtain ⟨S19, L19⟩ := st8_up S E19 V19 (by decide) (.inr ⟨by decide, by omega, by omega⟩)
    refine ok_rd (by omega) (gA_238 V19) ?_; intro v21 _ a21 b21
    refine ok_if (fun _ => ?_) (fun _ => ?_)
    · refine ok_add (by omega) ?_; intro v22 e22
      exact ok_im (sq_497 hn V0 B ⟨a21, b21⟩ nn v22 0 h19 S19 (by omega) (fun _ => by omega) (by omega) (by omega)) (fun u q => qp_live L19 q)
    · refine ok_sv (st8_unfit S19 (by omega)) ?_; intro u24 P24
      refine ok_add (by omega) ?_; intro v25 e25
      exact ok_im (sq_497 hn V0 B ⟨a21, b21⟩ nn v25 0 u24 P24.1 (by omega) (fun y => absurd y P24.2) (by omega) (by omega)) (fun u q => qp_dead P24.2 q)
  · rw [if_neg (show ¬ ¬ u15.1 = 0 by omega)]
    exact ok_ret ⟨S15, a, fun y => absurd y p2⟩
/-- the handlers -/
theorem sq_381 (hn : 1000000 ≤ nn) (V0 : VS_ h) (hc : 0 ≤ c ∧ c ≤ 7) (B : Live h → SI8 h c) {l2 l8 : Int} (h2 : 0 ≤ l2 ∧ l2 < 12) (h8 : 0 ≤ l8 ∧ l8 ≤ 255) : ∀ (k : Nat) (l4 l9 : Int) (g : ms_M), ST8 h g c → (0 ≤ l4 ∧ l4 ≤ 80000) → (Live g → l4 ≤ h 160 113) → (0 ≤ l9 ∧ l9 ≤ l8) → l8 - l9 < (k : Int) → Ok_ (qw_X13_scanMethod_381 nn k c l2 l4 l8 l9 g) (QP8 h c g) := by
  have g113 := gF_160_113 V0
  intro k
  induction k with
  | zero => intro l4 l9 g S a l b hm; exfalso; omega
  | succ k ih =>
    intro l4 l9 g S a l b hm
    unfold qw_X13_scanMethod_381
    refine ok_if (fun _ => sq_444 hn V0 hc B h2 S a) (fun C => ?_)
    refine ok_if (fun D => sq_444 hn V0 hc B h2 S a) (fun D => ?_)
    have l := l (Classical.not_not.1 D)
    refine ok_add (by omega) ?_; intro v29 e29
    refine ok_sv (st8_byte S) ?_; intro u31 P
    obtain ⟨S31, P⟩ := P
    rcases P with ⟨p1, p2, p3, p4⟩ | ⟨p1, p2⟩
    · rw [if_neg (show ¬ u31.1 = 0 by omega), p2]
      have Bh := B (S.2.2.2 p3)
      refine ok_add (by omega) ?_; intro v35 e35
      refine ok_rd (by omega) (gA_238 S.1) ?_; intro v36 _ _ _
      refine ok_sv (st8_class S Bh) ?_; intro u38 _
      refine ok_if (fun _ => ?_) (fun _ => ?_)
      · refine ok_add (by omega) ?_; intro v39 e39
        refine ok_add (by omega) ?_; intro v40 e40
        exact ih v39 v40 g S (by omega) (fun _ => by omega) (by omega) (by omega)
      · refine ok_add (by omega) ?_; intro v41 e41
        refine ok_sv (st8_unfit S (by omega)) ?_; intro u43 P43
        refine ok_add (by omega) ?_; intro v44 e44
        refine ok_add (by omega) ?_; intro v45 e45
        exact ok_im (ih v44 v45 u43 P43.1 (by omega) (fun y => absurd y P43.2) (by omega) (by omega)) (fun u q => qp_dead P43.2 q)
    · rw [if_pos p1]
      refine ok_add (by omega) ?_; intro v32 e32
      refine ok_add (by omega) ?_; intro v33 e33
      exact ok_im (ih v32 v33 u31.2 S31 (by omega) (fun y => absurd y p2) (by omega) (by omega)) (fun u q => qp_dead p2 q)
theorem sq_328 (hn : 1000000 ≤ nn) (V0 : VS_ h) (hc : 0 ≤ c ∧ c ≤ 7) (B : Live h → SI8 h c) {l2 l4 : Int} (h2 : 0 ≤ l2 ∧ l2 < 12) (S : ST8 h g c) (a : 0 ≤ l4 ∧ l4 ≤ 80000) : Ok_ (qj_X13_scanMethod_328 nn c l2 l4 g) (QP8 h c g) := by
  have g113 := gF_160_113 V0
  unfold qj_X13_scanMethod_328
  refine ok_sv (st8_byte S) ?_; intro u15 P
  obtain ⟨S15, P⟩ := P
  rcases P with ⟨p1, p2, p3, p4⟩ | ⟨p1, p2⟩
  · rw [if_pos (show ¬ u15.1 = 0 by omega), p2]
    refine ok_mul (by omega) ?_; intro v17 e17
    refine ok_add (by omega) ?_; intro v18 e18
    refine ok_wA (by omega) ?_; intro h19 E19
    have V19 : VS_ h19 := by rw [E19]; exact wA_236 S.1 (by omega)
    obtain ⟨S19, L19⟩ := st8_up S E19 V19 (by decide) (.inr ⟨by decide, by omega, by omega⟩)
    refine ok_rd (by omega) (gA_238 V19) ?_; intro v21 _ a21 b21
    refine ok_if (fun _ => ?_) (fun _ => ?_)
    · refine ok_add (by omega) ?_; intro v22 e22
      exact ok_im (sq_381 hn V0 hc B h2 ⟨a21, b21⟩ nn v22 0 h19 S19 (by omega) (fun _ => by omega) (by omega) (by omega)) (fun u q => qp_live L19 q)
    · refine ok_sv (st8_unfit S19 (by omega)) ?_; intro u24 P24
      refine ok_add (by omega) ?_; intro v25 e25
      exact ok_im (sq_381 hn V0 hc B h2 ⟨a21, b21⟩ nn v25 0 u24 P24.1 (by omega) (fun y => absurd y P24.2) (by omega) (by omega)) (fun u q => qp_dead P24.2 q)
  · rw [if_neg (show ¬ ¬ u15.1 = 0 by omega)]
    exact ok_ret ⟨S15, a, fun y => absurd y p2⟩
theorem sq_293 (hn : 1000000 ≤ nn) (V0 : VS_ h) (hc : 0 ≤ c ∧ c ≤ 7) (B : Live h → SI8 h c) {l2 l4 l7 : Int} (h2 : 0 ≤ l2 ∧ l2 < 12) (h7 : 0 ≤ l7 ∧ l7 ≤ 65535) (S : ST8 h g c) (a : 0 ≤ l4 ∧ l4 ≤ 6000) : Ok_ (qj_X13_scanMethod_293 nn c l2 l4 l7 g) (QP8 h c g) := by
  have g113 := gF_160_113 S.1
  unfold qj_X13_scanMethod_293
  refine ok_add (by omega) ?_; intro v64 e64
  refine ok_add (by omega) ?_; intro v65 e65
  refine ok_if (fun _ => sq_328 hn V0 hc B h2 S (by omega)) (fun D => ?_)
  refine ok_if (fun _ => sq_328 hn V0 hc B h2 S (by omega)) (fun _ => ?_)
  refine ok_xl ?_; intro h69 E69
  have q : h69 160 114 = g 160 113 := by rw [E69, up_s]
  have d : ¬ Live h69 := by unfold Live; omega
  have N : NB g h69 := fun x k w => by rw [E69, up_n w]
  have S69 : ST8 h h69 c := ⟨by rw [E69]; exact wF_160_114 S.1 (by omega), ke8_tr S.2.1 (ke_nb N), nt8_tr S.2.2.1 (nt8_nb N), fun y => absurd y d⟩
  exact ok_im (sq_328 hn V0 hc B h2 S69 (by omega)) (fun u w => qp_dead d w)
end

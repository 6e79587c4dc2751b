section
variable {nn : Nat} {h g r z : ms_M} {c : Int}
theorem sq_pair (V : VS_ g) {p : Int} (hp : 0 ≤ p ∧ p + 1 < 6000) : Ok_ (qf_X13_pairAt nn p g) (fun u => 0 ≤ u ∧ u ≤ 65535) := by
  unfold qf_X13_pairAt
  refine ok_rd (by omega) (gA_238 V) ?_; intro v2 _ a2 b2
  refine ok_shl8 ⟨a2, b2⟩ ?_; intro v3 e3
  refine ok_add (by omega) ?_; intro v5 e5
  refine ok_rd (by omega) (gA_238 V) ?_; intro v6 _ a6 b6
  refine ok_or (by omega) (by omega) ?_; intro v7 a7 b7
  exact ok_ret ⟨a7, b7⟩
theorem sq_285 (hn : 1000000 ≤ nn) (V0 : VS_ h) (hc : 0 ≤ c ∧ c ≤ 7) (B : Live h → SI8 h c) {l2 l4 l7 : Int} (h2 : 0 ≤ l2 ∧ l2 < 12) (h7 : 0 ≤ l7 ∧ l7 ≤ 65535) (S : ST8 h g c) (a : 0 ≤ l4 ∧ l4 ≤ 6000) : Ok_ (qj_X13_scanMethod_285 nn c l2 l4 l7 g) (QP8 h c g) := by
  unfold qj_X13_scanMethod_285
  refine ok_add (by omega) ?_; intro v72 e72
  refine ok_sv (st8_unfit S (by omega)) ?_; intro u74 P
  exact ok_im (sq_293 hn V0 hc B h2 h7 P.1 a) (fun u w => qp_dead P.2 w)
theorem sq_232 (hn : 1000000 ≤ nn) (V0 : VS_ h) (hc : 0 ≤ c ∧ c ≤ 7) (B : Live h → SI8 h c) {l2 l4 : Int} (h2 : 0 ≤ l2 ∧ l2 < 12) (S : ST8 h g c) (a : 0 ≤ l4 ∧ l4 ≤ 6000) : Ok_ (qj_X13_scanMethod_232 nn c l2 l4 g) (QP8 h c g) := by
  have g113 := gF_160_113 V0
  unfold qj_X13_scanMethod_232
  refine ok_add (by omega) ?_; intro v75 e75
  refine ok_sv (st8_byte S) ?_; intro u77 P
  obtain ⟨S77, P⟩ := P
  rcases P with ⟨p1, p2, p3, p4⟩ | ⟨p1, p2⟩
  · rw [if_pos (show ¬ u77.1 = 0 by omega), p2]
    refine ok_add (by omega) ?_; intro v78 e78
    refine ok_sv (st8_byte S) ?_; intro u80 P
    obtain ⟨S80, P⟩ := P
    rcases P with ⟨q1, q2, q3, q4⟩ | ⟨q1, q2⟩
    · rw [if_pos (show ¬ u80.1 = 0 by omega), q2]
      refine ok_add (by omega) ?_; intro v81 e81
      refine ok_sv (sq_pair S.1 (by omega)) ?_; intro u83 P83
      refine ok_if (fun _ => sq_285 hn V0 hc B h2 P83 S a) (fun _ => ?_)
      exact ok_if (fun _ => sq_293 hn V0 hc B h2 P83 S a) (fun _ => sq_285 hn V0 hc B h2 P83 S a)
    · rw [if_neg (show ¬ ¬ u80.1 = 0 by omega)]
      exact ok_ret ⟨S80, by show 0 ≤ l4 ∧ l4 ≤ 80000; omega, fun y => absurd y q2⟩
  · rw [if_neg (show ¬ ¬ u77.1 = 0 by omega)]
    exact ok_ret ⟨S77, by show 0 ≤ l4 ∧ l4 ≤ 80000; omega, fun y => absurd y p2⟩
theorem sq_134 (hn : 1000000 ≤ nn) (V0 : VS_ h) (hc : 0 ≤ c ∧ c ≤ 7) (B : Live h → SI8 h c) {l2 l4 : Int} (h2 : 0 ≤ l2 ∧ l2 < 12) (S : ST8 h g c) (a : 0 ≤ l4 ∧ l4 ≤ 6000) (t : Live g → TX h c (h 238 (l4 + 2).toNat)) : Ok_ (qj_X13_scanMethod_134 nn c l2 l4 g) (QP8 h c g) := by
  have g113 := gF_160_113 V0
  have K := S.2.1
  unfold qj_X13_scanMethod_134
  refine ok_add (by omega) ?_; intro v91 e91
  refine ok_sv (st8_byte S) ?_; intro u93 P
  obtain ⟨S93, P⟩ := P
  rcases P with ⟨p1, p2, p3, p4⟩ | ⟨p1, p2⟩
  · rw [if_pos (show ¬ u93.1 = 0 by omega), p2]
    have Bh := B (S.2.2.2 p3)
    have t := t p3
    refine ok_add (by omega) ?_; intro v95 e95
    refine ok_rd (by omega) (gA_238 S.1) ?_; intro v96 e96 _ _
    rw [e95, (K.1 _).1] at e96
    rw [← e96] at t
    refine ok_sv (sq_const S.1 hc) ?_; intro u98 P98
    have P98 : u98 = pl h c v96 ∧ 0 ≤ u98 ∧ u98 ≤ 6000 := by
      rcases P98 with P98 | P98
      · exfalso; have := t.1; rw [K.2.2.2] at P98; exact P98.2 this
      · exact ⟨by rw [P98.2.1, pl_ke K], P98.2.2⟩
    have cp := Bh.2.1 v96 t.1.1 t.1.2
    rw [← P98.1] at cp
    have tg : h 238 u98.toNat = 1 := by rw [P98.1]; exact t.2
    have cp2 : (1 ≤ h 238 (u98 + 1).toNat ∧ h 238 (u98 + 1).toNat ≤ 120) ∧ u98 + 2 + h 238 (u98 + 1).toNat ≤ h 160 113 := by
      obtain ⟨_, x⟩ := cp
      rcases x with x | x | x | x
      · exact x.2
      · exfalso; omega
      · exfalso; omega
      · exfalso; omega
    refine ok_add (by omega) ?_; intro v100 e100
    refine ok_add (by omega) ?_; intro v102 e102
    refine ok_rd (by omega) (gA_238 S.1) ?_; intro v103 e103 _ _
    rw [e102, (K.1 _).1] at e103
    refine ok_sv (sc_pars hn (.inl ⟨rfl, rfl⟩) S.1 (by omega) (by omega) (by omega)) ?_; intro u104 P104
    refine ok_add (by omega) ?_; intro v105 e105
    refine ok_rd (by omega) (gA_238 S.1) ?_; intro v107 _ _ _
    refine ok_sub (by omega) ?_; intro v108 e108
    refine ok_add (by omega) ?_; intro v110 e110
    refine ok_rd (by omega) (gA_238 S.1) ?_; intro v111 _ _ _
    have bad : Ok_ (qj_X13_scanMethod_224 nn c l2 l4 g) (QP8 h c g) := by
      unfold qj_X13_scanMethod_224
      refine ok_add (by omega) ?_; intro v88 e88
      refine ok_sv (st8_unfit S (by omega)) ?_; intro u90 P90
      exact ok_im (sq_232 hn V0 hc B h2 P90.1 a) (fun u w => qp_dead P90.2 w)
    refine ok_if (fun _ => bad) (fun _ => ?_)
    refine ok_add (by omega) ?_; intro v113 e113
    refine ok_rd (by omega) (gA_238 S.1) ?_; intro v114 _ _ _
    exact ok_if (fun _ => sq_232 hn V0 hc B h2 S a) (fun _ => bad)
  · rw [if_neg (show ¬ ¬ u93.1 = 0 by omega)]
    exact ok_ret ⟨S93, by show 0 ≤ l4 ∧ l4 ≤ 80000; omega, fun y => absurd y p2⟩
theorem sq_101 (hn : 1000000 ≤ nn) (V0 : VS_ h) (hc : 0 ≤ c ∧ c ≤ 7) (B : Live h → SI8 h c) {l2 l4 : Int} (h2 : 0 ≤ l2 ∧ l2 < 12) (S : ST8 h g c) (a : 0 ≤ l4 ∧ l4 ≤ 6000) (t : Live g → TX h c (h 238 (l4 + 2).toNat)) : Ok_ (qj_X13_scanMethod_101 nn c l2 l4 g) (QP8 h c g) := by
  have g113 := gF_160_113 V0
  unfold qj_X13_scanMethod_101
  refine ok_add (by omega) ?_; intro v118 e118
  refine ok_sv (st8_byte S) ?_; intro u120 P
  obtain ⟨S120, P⟩ := P
  rcases P with ⟨p1, p2, p3, p4⟩ | ⟨p1, p2⟩
  · rw [if_neg (show ¬ u120.1 = 0 by omega), p2]
    refine ok_add (by omega) ?_; intro v122 e122
    refine ok_rd (by omega) (gA_238 S.1) ?_; intro v123 _ _ _
    refine ok_if (fun _ => sq_134 hn V0 hc B h2 S a t) (fun _ => ?_)
    refine ok_add (by omega) ?_; intro v124 e124
    refine ok_sv (st8_unfit S (by omega)) ?_; intro u126 P126
    exact ok_im (sq_134 hn V0 hc B h2 P126.1 a (fun y => absurd y P126.2)) (fun u w => qp_dead P126.2 w)
  · rw [if_pos p1]
    exact ok_im (sq_134 hn V0 hc B h2 S120 a (fun y => absurd y p2)) (fun u w => qp_dead p2 w)
theorem sq_65 (hn : 1000000 ≤ nn) (V0 : VS_ h) (hc : 0 ≤ c ∧ c ≤ 7) (B : Live h → SI8 h c) {l2 l4 : Int} (h2 : 0 ≤ l2 ∧ l2 < 12) (S : ST8 h g c) (a : 0 ≤ l4 ∧ l4 ≤ 6000) : Ok_ (qj_X13_scanMethod_65 nn c l2 l4 g) (QP8 h c g) := by
  have g113 := gF_160_113 V0
  have K := S.2.1
  unfold qj_X13_scanMethod_65
  refine ok_add (by omega) ?_; intro v118 e118
  refine ok_sv (st8_byte S) ?_; intro u120 P
  obtain ⟨S120, P⟩ := P
  rcases P with ⟨p1, p2, p3, p4⟩ | ⟨p1, p2⟩
  · rw [if_neg (show ¬ u120.1 = 0 by omega), p2]
    have Bh := B (S.2.2.2 p3)
    refine ok_add (by omega) ?_; intro v122 e122
    refine ok_rd (by omega) (gA_238 S.1) ?_; intro v123 e123 _ _
    rw [e122, (K.1 _).1] at e123
    refine ok_sv (st8_text hn S Bh) ?_; intro u136 P136
    refine ok_if (fun F => sq_101 hn V0 hc B h2 S a (fun _ => by rw [← e123]; exact P136.2 F)) (fun _ => ?_)
    refine ok_add (by omega) ?_; intro v124 e124
    refine ok_sv (st8_unfit S (by omega)) ?_; intro u126 P126
    exact ok_im (sq_101 hn V0 hc B h2 P126.1 a (fun y => absurd y P126.2)) (fun u w => qp_dead P126.2 w)
  · rw [if_pos p1]
    exact ok_im (sq_101 hn V0 hc B h2 S120 a (fun y => absurd y p2)) (fun u w => qp_dead p2 w)
theorem sq_29 (hn : 1000000 ≤ nn) (V0 : VS_ h) (hc : 0 ≤ c ∧ c ≤ 7) (B : Live h → SI8 h c) {l2 l4 : Int} (h2 : 0 ≤ l2 ∧ l2 < 12) (S : ST8 h g c) (a : 0 ≤ l4 ∧ l4 ≤ 6000) : Ok_ (qj_X13_scanMethod_29 nn c l2 l4 g) (QP8 h c g) := by
  have g113 := gF_160_113 V0
  unfold qj_X13_scanMethod_29
  refine ok_add (by omega) ?_; intro v118 e118
  refine ok_sv (st8_byte S) ?_; intro u120 P
  obtain ⟨S120, P⟩ := P
  rcases P with ⟨p1, p2, p3, p4⟩ | ⟨p1, p2⟩
  · rw [if_neg (show ¬ u120.1 = 0 by omega), p2]
    have Bh := B (S.2.2.2 p3)
    refine ok_add (by omega) ?_; intro v122 e122
    refine ok_rd (by omega) (gA_238 S.1) ?_; intro v123 e123 _ _
    refine ok_sv (st8_text hn S Bh) ?_; intro u136 P136
    refine ok_if (fun F => sq_65 hn V0 hc B h2 S a) (fun _ => ?_)
    refine ok_add (by omega) ?_; intro v124 e124
    refine ok_sv (st8_unfit S (by omega)) ?_; intro u126 P126
    exact ok_im (sq_65 hn V0 hc B h2 P126.1 a) (fun u w => qp_dead P126.2 w)
  · rw [if_pos p1]
    exact ok_im (sq_65 hn V0 hc B h2 S120 a) (fun u w => qp_dead p2 w)
theorem sq_method (hn : 1000000 ≤ nn) (V0 : VS_ h) (hc : 0 ≤ c ∧ c ≤ 7) (B : Live h → SI8 h c) {l2 l4 : Int} (h2 : 0 ≤ l2 ∧ l2 < 12) (S : ST8 h g c) (a : 0 ≤ l4 ∧ l4 ≤ 6000) : Ok_ (qf_X13_scanMethod nn c l2 l4 g) (QP8 h c g) := by
  have g113 := gF_160_113 V0
  unfold qf_X13_scanMethod
  refine ok_sv (st8_byte S) ?_; intro u120 P
  obtain ⟨S120, P⟩ := P
  rcases P with ⟨p1, p2, p3, p4⟩ | ⟨p1, p2⟩
  · rw [if_neg (show ¬ u120.1 = 0 by omega), p2]
    refine ok_rd (by omega) (gA_238 S.1) ?_; intro v158 _ _ _
    refine ok_if (fun F => sq_29 hn V0 hc B h2 S a) (fun _ => ?_)
    refine ok_sv (st8_unfit S (by omega)) ?_; intro u126 P126
    exact ok_im (sq_29 hn V0 hc B h2 P126.1 a) (fun u w => qp_dead P126.2 w)
  · rw [if_pos p1]
    exact ok_im (sq_29 hn V0 hc B h2 S120 a) (fun u w => qp_dead p2 w)
/-- the fields -/
theorem sq_35 (hn : 1000000 ≤ nn) (V0 : VS_ h) (hc : 0 ≤ c ∧ c ≤ 7) (B : Live h → SI8 h c) {l2 : Int} (h2 : 0 ≤ l2 ∧ l2 < 6000) : ∀ (k : Nat) (l3 l4 : Int) (g : ms_M), ST8 h g c → (0 ≤ l3 ∧ l3 ≤ 80000) → (Live g → l3 ≤ h 160 113 ∧ h 238 l2.toNat ≤ 12) → (0 ≤ l4 ∧ l4 ≤ 255) → 256 - l4 < (k : Int) → Ok_ (qw_X13_scanFields_35 nn k c l2 l3 l4 g) (QP8 h c g) := by
  have g113 := gF_160_113 V0
  intro k
  induction k with
  | zero => intro l3 l4 g S a l b hm; exfalso; omega
  | succ k ih =>
    intro l3 l4 g S a l b hm
    have K := S.2.1
    unfold qw_X13_scanFields_35
    refine ok_rd (by omega) (gA_238 S.1) ?_; intro v21 e21 a21 b21
    rw [(K.1 _).1] at e21
    refine ok_if (fun _ => ok_ret ⟨S, a, fun y => ⟨y, (l y).1⟩⟩) (fun C => ?_)
    refine ok_if (fun D => ok_ret ⟨S, a, fun y => absurd y D⟩) (fun D => ?_)
    have D : Live g := Classical.not_not.1 D
    have l := l D
    have Bh := B (S.2.2.2 D)
    refine ok_mul (by omega) ?_; intro v24 e24
    refine ok_add (by omega) ?_; intro v25 e25
    refine ok_wA (by omega) ?_; intro h26 E26
    have V26 : VS_ h26 := by rw [E26]; exact wA_233 S.1 (by omega)
    obtain ⟨S26, L26⟩ := st8_up S E26 V26 (by decide) (.inr ⟨by decide, by omega, by omega⟩)
    have J : ∀ f : ms_M, ST8 h f c → (Live f → Live g) → Ok_ (qj_X13_scanFields_94 nn (qw_X13_scanFields_35 nn k) c l2 l3 l4 f) (QP8 h c g) := fun f Sf lf => by
      unfold qj_X13_scanFields_94
      refine ok_add (by omega) ?_; intro v1 e1
      refine ok_sv (st8_byte Sf) ?_; intro u3 P3
      obtain ⟨S3, P3⟩ := P3
      rcases P3 with ⟨q1, q2, q3, q4⟩ | ⟨q1, q2⟩
      · rw [if_neg (show ¬ u3.1 = 0 by omega), q2]
        refine ok_add (by omega) ?_; intro v7 e7
        refine ok_rd (by omega) (gA_238 Sf.1) ?_; intro v8 _ _ _
        refine ok_sv (st8_text hn Sf Bh) ?_; intro u10 _
        refine ok_if (fun _ => ?_) (fun _ => ?_)
        · refine ok_add (by omega) ?_; intro v11 e11
          refine ok_add (by omega) ?_; intro v12 e12
          exact ok_im (ih v11 v12 f Sf (by omega) (fun _ => by omega) (by omega) (by omega)) (fun u q => qp_live lf q)
        · refine ok_add (by omega) ?_; intro v13 e13
          refine ok_sv (st8_unfit Sf (by omega)) ?_; intro u15 P15
          refine ok_add (by omega) ?_; intro v16 e16
          refine ok_add (by omega) ?_; intro v17 e17
          exact ok_im (ih v16 v17 u15 P15.1 (by omega) (fun y => absurd y P15.2) (by omega) (by omega)) (fun u q => qp_dead P15.2 q)
      · rw [if_pos q1]
        refine ok_add (by omega) ?_; intro v4 e4
        refine ok_add (by omega) ?_; intro v5 e5
        exact ok_im (ih v4 v5 u3.2 S3 (by omega) (fun y => absurd y q2) (by omega) (by omega)) (fun u q => qp_dead q2 q)
    refine ok_sv (st8_byte S26) ?_; intro u28 P
    obtain ⟨S28, P⟩ := P
    rcases P with ⟨p1, p2, p3, p4⟩ | ⟨p1, p2⟩
    · rw [if_neg (show ¬ u28.1 = 0 by omega), p2]
      refine ok_rd (by omega) (gA_238 V26) ?_; intro v30 _ _ _
      refine ok_sv (st8_text hn S26 Bh) ?_; intro u32 _
      refine ok_if (fun _ => J h26 S26 L26) (fun _ => ?_)
      refine ok_sv (st8_unfit S26 (by omega)) ?_; intro u34 P34
      exact J u34 P34.1 (fun y => absurd y P34.2)
    · rw [if_pos p1]
      exact J u28.2 S28 (fun y => absurd y p2)
theorem sq_fields (hn : 1000000 ≤ nn) (V0 : VS_ h) (hc : 0 ≤ c ∧ c ≤ 7) (B : Live h → SI8 h c) {l2 : Int} (h2 : 0 ≤ l2 ∧ l2 < h 160 113) (S : ST8 h g c) : Ok_ (qf_X13_scanFields nn c l2 g) (QP8 h c g) := by
  have g113 := gF_160_113 V0
  have K := S.2.1
  have J : ∀ f : ms_M, ST8 h f c → (Live f → Live g ∧ h 238 l2.toNat ≤ 12) → Ok_ (qj_X13_scanFields_16 nn c l2 f) (QP8 h c g) := fun f Sf lf => by
    unfold qj_X13_scanFields_16
    refine ok_rd (by omega) (gA_238 Sf.1) ?_; intro v41 _ a41 b41
    refine ok_wA (by omega) ?_; intro h42 E42
    have V42 : VS_ h42 := by rw [E42]; exact wA_232 Sf.1 (by omega)
    obtain ⟨S42, L42⟩ := st8_up Sf E42 V42 (by decide) (.inl ⟨by decide, by omega⟩)
    refine ok_add (by omega) ?_; intro v43 e43
    exact ok_im (sq_35 hn V0 hc B (by omega) nn v43 0 h42 S42 (by omega) (fun y => ⟨by omega, (lf (L42 y)).2⟩) (by omega) (by omega)) (fun u q => qp_live (fun y => (lf (L42 y)).1) q)
  unfold qf_X13_scanFields
  refine ok_rd (by omega) (gA_238 S.1) ?_; intro v45 e45 _ _
  rw [(K.1 _).1] at e45
  refine ok_if (fun F => J g S (fun y => ⟨y, by omega⟩)) (fun _ => ?_)
  refine ok_sv (st8_unfit S (by omega)) ?_; intro u47 P47
  exact J u47 P47.1 (fun y => absurd y P47.2)
end

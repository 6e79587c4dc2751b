/- PARSE: MEMBER, CLASS, PROGRAM of both sides -/
section
variable {nn : Nat} {K P : Nat → Int} {c p : Nat} {h g r w u v : ms_M}
theorem jm_k {r1 : ms_M} (F : ∀ c x : Nat, ¬ (c = 160 ∧ (x = 9 ∨ x = 10 ∨ x = 23 ∨ x = 45 ∨ x = 46 ∨ x = 47)) → r1 c x = r c x) (H : JM K P c p r1 u v) : JM K P c p r u v := by
  have f28 := F 160 28 (by omega)
  have f22 := F 160 22 (by omega)
  have f24 := F 160 24 (by omega)
  have f39 := F 160 39 (by omega)
  rcases H with H | ⟨q, h1, h2, ⟨a1, a2, a3, a4⟩, ⟨⟨b1, b2⟩, ⟨b3, b4⟩, b5, b6, b7⟩⟩
  · exact .inl H
  · rw [f28] at h2 a1 a2 a3 a4 b5 b7
    rw [f22] at h2 b1 b2
    rw [f24] at a1 b6
    rw [f39] at a2 a4 b3 b4
    exact .inr ⟨q, h1, h2, ⟨a1, a2, a3, a4⟩, ⟨⟨b1, fun c x c1 c2 c3 => by rw [b2 c x c1 c2 c3]; exact F c x (by omega)⟩, ⟨b3, fun c x c1 c2 c3 => by rw [b4 c x c1 c2 c3]; exact F c x (by omega)⟩, fun c j c1 c2 c3 => by rw [b5 c j c1 c2 c3]; exact F c j (by omega), b6, b7⟩⟩
/-- behind static -/
theorem j_25m (BK : TBn K c) {l : Int} {p1 : Nat} (hl : (K p = 25 ∧ l = 1 ∧ p1 = p + 1) ∨ (¬ K p = 25 ∧ l = 0 ∧ p1 = p)) (J : JPp K P c p1 h r) (hr : 0 ≤ r 160 22) (hm : 0 ≤ r 160 28) (h39 : 0 ≤ r 160 39) (h24 : 1 ≤ r 160 24 ∧ r 160 24 ≤ 1000) : Pc (mx_sv (qf_X8_accept nn 30 h) fun u22 => if u22.1 = 0 then (mx_sv (qf_X8_readType nn u22.2) fun u24 => qj_X8_readMember_25 nn l u24) else (qj_X8_readMember_25 nn 1 u22.2)) (fun u => Pc (qj_X13_member_25 nn l r) (fun v => JM K P c p r u v)) := by
  have n3 := BK.2.1
  have J0 := J
  obtain ⟨b, d, ⟨g1, g2, g3⟩, g4, g5⟩ := J
  unfold qj_X13_member_25
  refine pc_sv (c_acc BK b g3 g1 g4) ?_; intro u22 q22
  refine pc_fl ?_
  rw [g2]
  refine pc_sv (r_wrd BK d rfl (by omega) (by decide)) ?_; intro u98 q98
  rcases q22 with ⟨k30, m22⟩ | ⟨k30, m22⟩
  · -- void
    refine pc_if (fun z => absurd z (by omega)) (fun _ => ?_)
    refine pc_xl ?_; intro h101 e101
    refine pc_xl ?_; intro h102 e102
    have c102 : h102 160 23 = (p1 : Int) := by rw [e102, up_n (by omega), e101, up_n (by omega)]; exact g2
    rw [c102]
    refine pc_xl ?_; intro h104 e104
    have c104 : h104 160 23 = (p1 : Int) := by rw [e104, up_n (by omega)]; exact c102
    rw [c104]
    refine pc_add (by omega) ?_; intro v106 e106
    refine pc_xl ?_; intro h107 e107
    rw [show v106 = ((p1 + 1 : Nat) : Int) by omega] at e107
    have F : ∀ c x : Nat, ¬ (c = 160 ∧ (x = 9 ∨ x = 10 ∨ x = 23 ∨ x = 45 ∨ x = 46 ∨ x = 47)) → h107 c x = r c x := fun c x z => by
      rw [e107, up_n (by omega), e104, up_n (by omega), e102, up_n (by omega), e101, up_n (by omega)]
    have J104 : JPp K P c p1 h h104 := by rw [e104, e102, e101]; exact jp_c (jp_c (jp_c J0 (by decide)) (by decide)) (by decide)
    have J107 : JPp K P c (p1 + 1) (up_M h 2 10 ((p1 + 1 : Nat) : Int)) h107 := by rw [e107]; exact jp_up BK J104 (jp_lt BK g3 (by omega))
    refine pc_fl ?_
    rw [m22]
    dsimp only
    refine pc_if (fun z => absurd z (by decide)) (fun _ => ?_)
    refine (fun U eU V eV => jm_k F ?_)
    have u1 : u98 = 1 := by omega
    rw [u1] at eV
    exact j_75 (p1 := (p1 : Int)) (l1 := l) (l2 := 1) (lc := 1) (bs := 2) (rw' := 0) BK J107 (by rw [F 160 22 (by omega)]; exact hr) (by rw [F 160 28 (by omega)]; exact hm) (by rw [F 160 39 (by omega)]; exact h39) (by rw [F 160 24 (by omega)]; exact h24) (by omega) ⟨by rw [e107, up_n (by omega), e104, up_n (by omega), e102, up_n (by omega), e101, up_s], by rw [e107, up_n (by omega), e104, up_s], by rw [e107, up_n (by omega), e104, up_n (by omega), e102, up_s]⟩ (by omega) (.inl ⟨by rw [Int.toNat_natCast]; exact k30, rfl⟩) ⟨fun z => absurd z (by decide), fun z => absurd z.2 (by decide)⟩ (by omega) (.inl ⟨by rw [Int.toNat_natCast]; exact k30, rfl, rfl, by omega⟩) U eU V eV
  · refine pc_if (fun _ => ?_) (fun z => absurd (by omega) z)
    refine pc_fl ?_
    rw [m22]
    dsimp only
    refine pc_if (fun _ => ?_) (fun z => absurd rfl z)
    refine p2_sv (j_type BK J0) ?_; intro u24 u100 q100
    have u0 : u98 = 0 := by omega
    rw [u0]
    rcases q100 with S | ⟨t, bs, rw', ⟨Jt, pt⟩, TK, hb, n100, F⟩
    · exact pj_sf (o := fun a => a) (q := fun b => b) S (fs_qj_X8_readMember_25 S.1) (ft_qj_X13_member_75 (sf_r S)) (fun a b s => .inl s)
    · refine (fun U eU V eV => jm_k F ?_)
      exact j_75 (p1 := (p1 : Int)) (l1 := l) (l2 := 0) (lc := l) (bs := bs) (rw' := rw') BK Jt (by rw [F 160 22 (by omega)]; exact hr) (by rw [F 160 28 (by omega)]; exact hm) (by rw [F 160 39 (by omega)]; exact h39) (by rw [F 160 24 (by omega)]; exact h24) (by omega) hb (by omega) (.inr ⟨by rw [Int.toNat_natCast]; exact k30, rfl⟩) ⟨fun z => ⟨z, rfl⟩, fun z => z.1⟩ (by omega) (.inr ⟨by rw [Int.toNat_natCast]; exact k30, TK⟩) U eU V eV
theorem j_member (BK : TBn K c) (J : JPp K P c p h r) (hr : 0 ≤ r 160 22) (hm : 0 ≤ r 160 28) (h39 : 0 ≤ r 160 39) (h24 : 1 ≤ r 160 24 ∧ r 160 24 ≤ 1000) : Pc (qf_X8_readMember nn h) (fun u => Pc (qf_X13_member nn r) (fun v => JM K P c p r u v)) := by
  have n3 := BK.2.1
  have J0 := J
  obtain ⟨b, d, ⟨g1, g2, g3⟩, g4, g5⟩ := J
  unfold qf_X8_readMember qf_X13_member
  refine pc_sv (c_acc BK b g3 g1 g4) ?_; intro u20 q20
  refine pc_fl ?_
  rw [g2]
  refine pc_sv (r_wrd BK d rfl (by omega) (by decide)) ?_; intro u111 q111
  rcases q20 with ⟨k25, m20⟩ | ⟨k25, m20⟩
  · refine pc_if (fun z => absurd z (by omega)) (fun _ => ?_)
    refine pc_add (by omega) ?_; intro v113 e113
    refine pc_xl ?_; intro h114 e114
    rw [show v113 = ((p + 1 : Nat) : Int) by omega] at e114
    refine pc_fl ?_
    rw [m20]
    dsimp only
    have F : ∀ c x : Nat, ¬ (c = 160 ∧ (x = 9 ∨ x = 10 ∨ x = 23 ∨ x = 45 ∨ x = 46 ∨ x = 47)) → h114 c x = r c x := fun c x z => by rw [e114, up_n (by omega)]
    have J1 : JPp K P c (p + 1) (up_M h 2 10 ((p + 1 : Nat) : Int)) h114 := by rw [e114]; exact jp_up BK J0 (jp_lt BK g3 (by omega))
    have u1 : u111 = 1 := by omega
    rw [u1]
    refine (fun U eU V eV => jm_k F ?_)
    exact j_25m BK (.inl ⟨k25, rfl, rfl⟩) J1 (by rw [F 160 22 (by omega)]; exact hr) (by rw [F 160 28 (by omega)]; exact hm) (by rw [F 160 39 (by omega)]; exact h39) (by rw [F 160 24 (by omega)]; exact h24) U eU V eV
  · refine pc_if (fun _ => ?_) (fun z => absurd (by omega) z)
    refine pc_fl ?_
    rw [m20]
    dsimp only
    have u0 : u111 = 0 := by omega
    rw [u0]
    exact j_25m BK (.inr ⟨k25, rfl, rfl⟩) J0 hr hm h39 h24
end

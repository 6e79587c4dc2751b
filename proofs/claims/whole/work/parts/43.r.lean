/- PARSE: MEMBER, CLASS, PROGRAM of both sides -/
/-- what a member leaves as it was -/
def MFm (r v : ms_M) : Prop := (r 160 22 ≤ v 160 22 ∧ ∀ c x : Nat, 167 ≤ c → c ≤ 177 → (x : Int) < r 160 22 → v c x = r c x) ∧ (r 160 39 ≤ v 160 39 ∧ ∀ c j : Nat, 191 ≤ c → c ≤ 194 → (j : Int) < r 160 39 → v c j = r c j) ∧ (∀ c j : Nat, 178 ≤ c → c ≤ 190 → ¬ (181 ≤ c ∧ j = (r 160 28).toNat) → v c j = r c j) ∧ v 160 24 = r 160 24 ∧ v 160 28 = r 160 28 + 1
def JM (K P : Nat → Int) (c p : Nat) (r u v : ms_M) : Prop := SFj u v ∨ ∃ q : Nat, (JPp K P c q u v ∧ p < q) ∧ RMB K v (r 160 28) (p : Int) (q : Int) (r 160 22) (v 160 22) ∧ (v 181 (r 160 28).toNat = r 160 24 - 1 ∧ v 188 (r 160 28).toNat = r 160 39 ∧ 0 ≤ v 189 (r 160 28).toNat ∧ v 160 39 = r 160 39 + v 189 (r 160 28).toNat) ∧ MFm r v
section
variable {nn : Nat} {K P : Nat → Int} {c p : Nat} {h g r w u v : ms_M}
/-- ( parameters ) BLOCK of both sides -/
theorem j_44 (BK : TBn K c) {q : Nat} {m : Int} (hm : 0 ≤ m) (J : JPp K P c q h r) (hr : 0 ≤ r 160 22) (h39 : 0 ≤ r 160 39) (h189 : r 189 m.toNat = 0) : Pc (qj_X8_readMember_44 nn h) (fun u => Pc (mx_sv (qf_X13_sign_ nn 40 r) fun u52 => qw_X13_member_234 nn nn m u52) (fun v => SFj u v ∨ (K q = 40 ∧ JPm K P c (q + 1) m (up_M r 160 23 ((q + 1 : Nat) : Int)) u v))) := by
  have n3 := BK.2.1
  unfold qj_X8_readMember_44
  refine p2_sv (j_need BK J (k := 40) (by decide) (by decide)) ?_; intro u6 u52 q52
  rcases q52 with ⟨k40, m52, J2⟩ | S
  · rw [← m52]
    have J2' := J2
    obtain ⟨b, d, ⟨g1, g2, g3⟩, g4, g5⟩ := J2'
    have a52 : ∀ c x : Nat, ¬ (c = 160 ∧ x = 23) → u52 c x = r c x := fun c x z => by rw [m52]; exact up_n z
    refine pc_sv (c_kind BK b g3 g1 g4) ?_; intro u9 q9
    refine pc_fl ?_
    cases nn with
    | zero => exact pc_none
    | succ n =>
      unfold qw_X13_member_234
      refine pc_if (fun z => absurd g5 z) (fun _ => ?_)
      rw [g2]
      refine pc_sv (r_sgn BK d rfl (by omega) (k := 41) (by decide) (by decide)) ?_; intro u38 q38
      by_cases k41 : K (q + 1) = 41
      · refine pc_if (fun _ => ?_) (fun z => absurd (by omega) z)
        refine pc_fl ?_
        refine pc_if (fun _ => ?_) (fun z => absurd (by omega) z)
        refine (fun U eU V eV => ?_)
        rcases j_66 BK hm J2 (by rw [a52 160 22 (by omega)]; exact hr) U eU V eV with R | ⟨t, ⟨y1, y2⟩, y4, y5, y6, y7, y8⟩
        · exact .inl R
        · exact .inr ⟨k40, .inr ⟨t, q + 1, 0, ⟨y1, by omega, y2⟩, rfl, k41, y5, by omega, by omega, y8⟩⟩
      · refine pc_if (fun z => absurd z (by omega)) (fun _ => ?_)
        refine pc_rA ?_; intro _ _ v40 e40
        rw [a52 189 _ (by omega), h189] at e40
        refine pc_if (fun _ => ?_) (fun z => absurd (by omega) z)
        refine pc_fl ?_
        refine pc_if (fun z => absurd z (by omega)) (fun _ => ?_)
        unfold qf_X8_readParameters
        refine (fun U eU V eV => ?_)
        have R := j_269 (nn := n + 1) BK hm (n + 1) n (q + 1) u6 u52 0 J2 (by rw [a52 160 22 (by omega)]; exact hr) (by rw [a52 160 39 (by omega)]; exact h39) (by rw [a52 189 _ (by omega)]; omega) (by omega) (by rw [a52 189 _ (by omega)]; omega) U eU V eV
        rcases R.1 with R1 | R1
        · exact .inl R1
        · exact .inr ⟨k40, .inr R1⟩
  · refine pj_sf (o := fun a => a) (q := fun b => b) S ?_ (ft_qw_X13_member_234 _ _ _ (sf_r S)) (fun a b s => .inl s)
    have S1 : ¬ u6 2 11 = 0 := S.1
    have F : FSc u6 u6 := fs_r
    refine pc_se ?_; intro u9 _
    refine pc_if (fun _ => ?_) (fun _ => ?_)
    · exact pc_imp (fs_qj_X8_readMember_66 (fs_n S1 F)) (fun _ q => fs_t F q)
    · refine pc_sv (fs_qf_X8_readParameters (fs_n S1 F)) ?_; intro u11 Qu11
      have Fu11 : FSc u6 u11 := fs_t F Qu11
      exact pc_imp (fs_qj_X8_readMember_66 (fs_n S1 Fu11)) (fun _ q => fs_t Fu11 q)
/-- from the name on -/
theorem j_75 (BK : TBn K c) {t : Nat} {p1 l1 l2 lc bs rw' : Int} (J : JPp K P c t h r) (hr : 0 ≤ r 160 22) (hm : 0 ≤ r 160 28) (h39 : 0 ≤ r 160 39) (h24 : 1 ≤ r 160 24 ∧ r 160 24 ≤ 1000) (hp : (p : Int) < t) (hb : r 160 45 = bs ∧ r 160 46 = p1 ∧ r 160 47 = rw') (hl : (K p = 25 ∧ l1 = 1) ∨ (¬ K p = 25 ∧ l1 = 0)) (hl2 : (K p1.toNat = 30 ∧ l2 = 1) ∨ (¬ K p1.toNat = 30 ∧ l2 = 0)) (hc : lc = 0 ↔ (l1 = 0 ∧ l2 = 0)) (hp1 : (K p = 25 ∧ p1 = (p : Int) + 1) ∨ (¬ K p = 25 ∧ p1 = (p : Int))) (hty : (K p1.toNat = 30 ∧ bs = 2 ∧ rw' = 0 ∧ (t : Int) = p1 + 1) ∨ (¬ K p1.toNat = 30 ∧ TYk K p1 (t : Int) bs rw')) : Pc (qj_X8_readMember_25 nn lc h) (fun u => Pc (qj_X13_member_75 nn l1 l2 r) (fun v => JM K P c p r u v)) := by
  have n3 := BK.2.1
  have tc := J.2.2.1.2.2
  obtain ⟨b1, b2, b3⟩ := hb
  unfold qj_X8_readMember_25 qj_X13_member_75
  rw [b1]
  refine pc_fl ?_
  refine pc_wA ?_; intro i1 i2 h72 e72
  have f46 : h72 160 46 = p1 := by rw [e72, up_n (by omega)]; exact b2
  rw [f46]
  refine pc_wA ?_; intro i3 i4 h75 e75
  have f47 : h75 160 47 = rw' := by rw [e75, up_n (by omega), e72, up_n (by omega)]; exact b3
  rw [f47]
  refine pc_wZ ?_; intro i5 i6 h78 e78
  have J78 : JPp K P c t h h78 := by rw [e78, e75, e72]; exact jp_w (jp_w (jp_w J (by decide)) (by decide)) (by decide)
  refine pc_fl ?_
  refine p2_sv (j_name BK J78) ?_; intro u14 u81 q81
  refine pc_fl ?_
  refine pc_wA ?_; intro i7 i8 h82 e82
  refine pc_xl ?_; intro v85 e85
  refine pc_wA ?_; intro i9 i10 h86 e86
  refine pc_wA ?_; intro i11 i12 h89 e89
  refine pc_wA ?_; intro i13 i14 h91 e91
  refine pc_wA ?_; intro i15 i16 h93 e93
  rcases q81 with ⟨k2, m81, J81⟩ | S
  · have w81 : u81.1 = (t : Int) := by rw [m81]
    have mm81 : u81.2 = up_M h78 160 23 ((t + 1 : Nat) : Int) := by rw [m81]
    have f24 : h82 160 24 = r 160 24 := by rw [e82, up_n (by omega), mm81, up_n (by omega), e78, up_n (by omega), e75, up_n (by omega), e72, up_n (by omega)]
    have g24 : v85 = r 160 24 - 1 := by
      rw [f24, oq_sub_eq (by omega) (by omega) (by omega)] at e85; exact e85
    have f39 : h86 160 39 = r 160 39 := by rw [e86, up_n (by omega), e82, up_n (by omega), mm81, up_n (by omega), e78, up_n (by omega), e75, up_n (by omega), e72, up_n (by omega)]
    rw [f39] at e89
    have A93 : ∀ c x : Nat, ¬ (c = 160 ∧ x = 23) → ¬ (181 ≤ c ∧ c ≤ 190 ∧ x = (r 160 28).toNat) → h93 c x = r c x := fun c x y1 y2 => by
      rw [e93, up_n (by omega), e91, up_n (by omega), e89, up_n (by omega), e86, up_n (by omega), e82, up_n (by omega), mm81, up_n y1, e78, up_n (by omega), e75, up_n (by omega), e72, up_n (by omega)]
    have c183 : h93 183 (r 160 28).toNat = bs := by rw [e93, up_n (by omega), e91, up_n (by omega), e89, up_n (by omega), e86, up_n (by omega), e82, up_n (by omega), mm81, up_n (by omega), e78, up_n (by omega), e75, up_n (by omega), e72, up_s]
    have c184 : h93 184 (r 160 28).toNat = p1 := by rw [e93, up_n (by omega), e91, up_n (by omega), e89, up_n (by omega), e86, up_n (by omega), e82, up_n (by omega), mm81, up_n (by omega), e78, up_n (by omega), e75, up_s]
    have c185 : h93 185 (r 160 28).toNat = rw' := by rw [e93, up_n (by omega), e91, up_n (by omega), e89, up_n (by omega), e86, up_n (by omega), e82, up_n (by omega), mm81, up_n (by omega), e78, up_s]
    have c186 : h93 186 (r 160 28).toNat = (t : Int) := by rw [e93, up_n (by omega), e91, up_n (by omega), e89, up_n (by omega), e86, up_n (by omega), e82, up_s]; exact w81
    have c181 : h93 181 (r 160 28).toNat = r 160 24 - 1 := by rw [e93, up_n (by omega), e91, up_n (by omega), e89, up_n (by omega), e86, up_s]; exact g24
    have c188 : h93 188 (r 160 28).toNat = r 160 39 := by rw [e93, up_n (by omega), e91, up_n (by omega), e89, up_s]
    have c189 : h93 189 (r 160 28).toNat = 0 := by rw [e93, up_n (by omega), e91, up_s]
    have J93 : JPp K P c (t + 1) u14 h93 := by
      rw [e93, e91, e89, e86, e82]
      exact jp_w (jp_w (jp_w (jp_w (jp_w J81 (by decide)) (by decide)) (by decide)) (by decide)) (by decide)
    have Et : ((t : Int) + 1).toNat = t + 1 := by omega
    have GO : ∀ s0 : Int, ((l1 = 0 ∧ s0 = 1) ∨ (l1 = 1 ∧ s0 = 2)) → Pc (qj_X13_member_170 nn l1 l2 (r 160 28) s0 (r 160 28) h93) (fun V => Pc (if ¬ lc = 0 then (qj_X8_readMember_44 nn u14) else (mx_sv (qf_X8_accept nn 46 u14) fun u16 => if u16.1 = 0 then (qj_X8_readMember_44 nn u16.2) else (some u16.2))) (fun U => JM K P c p r U V)) := fun s0 hs0 => by
      unfold qj_X13_member_170
      refine pc_wA ?_; intro j1 j2 h46 e46
      have J46 : JPp K P c (t + 1) u14 h46 := by rw [e46]; exact jp_w J93 (by decide)
      refine pc_if (fun _ => ?_) (fun z => absurd J46.2.2.2.2 z)
      have f28 : h46 160 28 = r 160 28 := by rw [e46, up_n (by omega)]; exact A93 160 28 (by omega) (by omega)
      rw [f28]
      refine pc_add (by omega) ?_; intro v49 e49
      refine pc_xl ?_; intro h50 e50
      have J50 : JPp K P c (t + 1) u14 h50 := by rw [e50]; exact jp_c J46 (by decide)
      have A50 : ∀ c x : Nat, ¬ (c = 160 ∧ (x = 23 ∨ x = 28)) → ¬ (181 ≤ c ∧ c ≤ 190 ∧ x = (r 160 28).toNat) → h50 c x = r c x := fun c x y1 y2 => by
        rw [e50, up_n (by omega), e46, up_n (by omega)]; exact A93 c x (by omega) y2
      have R50 : ∀ c : Nat, 181 ≤ c → c ≤ 190 → ¬ c = 182 → h50 c (r 160 28).toNat = h93 c (r 160 28).toNat := fun c y1 y2 y3 => by
        rw [e50, up_n (by omega), e46, up_n (by omega)]
      have c182 : h50 182 (r 160 28).toNat = s0 := by rw [e50, up_n (by omega), e46, up_s]
      have c28 : h50 160 28 = r 160 28 + 1 := by rw [e50, up_s]; exact e49
      -- a method
      have MET : ¬ ((¬ K p = 25 ∧ ¬ K p1.toNat = 30) ∧ K (t + 1) = 46) → Pc (mx_sv (qf_X13_sign_ nn 40 h50) fun u52 => qw_X13_member_234 nn nn (r 160 28) u52) (fun V => Pc (qj_X8_readMember_44 nn u14) (fun U => JM K P c p r U V)) := fun nf => by
        refine pc_fl ?_
        refine (fun U eU V eV => ?_)
        have R := j_44 BK hm J50 (by rw [A50 160 22 (by omega) (by omega)]; exact hr) (by rw [A50 160 39 (by omega) (by omega)]; exact h39) (by rw [R50 189 (by decide) (by decide) (by decide)]; exact c189) U eU V eV
        rcases R with R | ⟨k40, R | ⟨q, x, n, ⟨y1, y2, y3⟩, y4, y5, y6, y7, y8, y9⟩⟩
        · exact .inl R
        · exact .inl R
        · have up22 : up_M h50 160 23 ((t + 1 + 1 : Nat) : Int) 160 22 = r 160 22 := by rw [up_n (by omega)]; exact A50 160 22 (by omega) (by omega)
          have up39 : up_M h50 160 23 ((t + 1 + 1 : Nat) : Int) 160 39 = r 160 39 := by rw [up_n (by omega)]; exact A50 160 39 (by omega) (by omega)
          have up189 : up_M h50 160 23 ((t + 1 + 1 : Nat) : Int) 189 (r 160 28).toNat = 0 := by rw [up_n (by omega), R50 189 (by decide) (by decide) (by decide)]; exact c189
          obtain ⟨⟨z1, z2⟩, ⟨z3, z4⟩, z5, z6, z7⟩ := y9
          rw [up22] at z1 z2 y6
          rw [up39] at z3 z4 y4 y8
          rw [up189] at y7
          rw [up_n (by omega)] at z6 z7
          have V5 : ∀ c : Nat, 181 ≤ c → c ≤ 188 → ¬ c = 182 → V c (r 160 28).toNat = h93 c (r 160 28).toNat := fun c w1 w2 w3 => by
            rw [z5 c _ (by omega) (by omega) (by omega), up_n (by omega)]; exact R50 c w1 (by omega) w3
          have v182 : V 182 (r 160 28).toNat = s0 := by rw [z5 182 _ (by decide) (by decide) (by omega), up_n (by omega)]; exact c182
          refine .inr ⟨q, ⟨y1, by omega⟩, ⟨p1, (t : Int), bs, rw', ?_, hty, ⟨?_, ?_, ?_, ?_, ?_⟩, .inr ⟨n, (x : Int), ?_, ?_, ?_, ?_, ?_, ?_, ?_⟩⟩, ⟨?_, ?_, by omega, by omega⟩, ⟨⟨z1, fun c x c1 c2 c3 => ?_⟩, ⟨z3, fun c x c1 c2 c3 => ?_⟩, fun c j c1 c2 c3 => ?_, ?_, ?_⟩⟩
          · rw [Int.toNat_natCast]; exact hp1
          · rw [V5 183 (by decide) (by decide) (by decide)]; exact c183
          · rw [V5 184 (by decide) (by decide) (by decide)]; exact c184
          · rw [V5 185 (by decide) (by decide) (by decide)]; exact c185
          · rw [V5 186 (by decide) (by decide) (by decide)]; exact c186
          · rw [Int.toNat_natCast]; exact k2
          · rw [Int.toNat_natCast, Et]; exact nf
          · rw [Int.toNat_natCast, v182]; omega
          · rw [Et]; exact k40
          · omega
          · rw [V5 188 (by decide) (by decide) (by decide), c188, show (t : Int) + 2 = ((t + 1 + 1 : Nat) : Int) by omega]; exact y4
          · rw [Int.toNat_natCast]; exact y5
          · rw [show (x : Int) + 1 = ((x + 1 : Nat) : Int) by omega]; exact y6
          · rw [V5 181 (by decide) (by decide) (by decide)]; exact c181
          · rw [V5 188 (by decide) (by decide) (by decide)]; exact c188
          · rw [z2 c x c1 c2 c3, up_n (by omega)]; exact A50 c x (by omega) (by omega)
          · rw [z4 c x c1 c2 c3, up_n (by omega)]; exact A50 c x (by omega) (by omega)
          · rw [z5 c j c1 c2 (by omega), up_n (by omega)]; exact A50 c j (by omega) (by omega)
          · rw [z6]; exact A50 160 24 (by omega) (by omega)
          · rw [z7]; exact c28
      have J50' := J50
      obtain ⟨b5, d5, ⟨l5, l6, l7⟩, l8, l9⟩ := J50'
      refine pc_if (fun z1 => ?_) (fun z1 => ?_)
      · refine pc_fl ?_
        refine pc_if (fun _ => pc_fl (MET (by omega))) (fun z => absurd (hc.1 (Decidable.not_not.1 z)).1 z1)
      · have z1 : l1 = 0 := Decidable.not_not.1 z1
        refine pc_if (fun z2 => ?_) (fun z2 => ?_)
        · refine pc_fl ?_
          refine pc_if (fun _ => pc_fl (MET (by omega))) (fun z => absurd (hc.1 (Decidable.not_not.1 z)).2 z2)
        · have z2 : l2 = 0 := Decidable.not_not.1 z2
          have lc0 : lc = 0 := hc.2 ⟨z1, z2⟩
          rw [l6]
          refine pc_sv (r_sgn BK d5 rfl (by omega) (k := 46) (by decide) (by decide)) ?_; intro u57 q57
          refine pc_fl ?_
          refine pc_if (fun z => absurd lc0 z) (fun _ => ?_)
          refine pc_sv (c_acc BK b5 l7 l5 l8) ?_; intro u16 q16
          rcases q16 with ⟨k46, m16⟩ | ⟨k46, m16⟩
          · rw [m16]
            dsimp only
            refine pc_if (fun z => absurd z (by decide)) (fun _ => ?_)
            refine pc_ret ?_
            refine pc_if (fun z => absurd z (by omega)) (fun _ => ?_)
            refine pc_add (by omega) ?_; intro v61 e61
            refine pc_xl ?_; intro h62 e62
            rw [show v61 = ((t + 1 + 1 : Nat) : Int) by omega] at e62
            refine pc_wA ?_; intro j3 j4 h64 e64
            have A64 : ∀ c x : Nat, ¬ (c = 160 ∧ (x = 23 ∨ x = 28)) → ¬ (181 ≤ c ∧ c ≤ 190 ∧ x = (r 160 28).toNat) → h64 c x = r c x := fun c x y1 y2 => by
              rw [e64, up_n (by omega), e62, up_n (by omega)]; exact A50 c x y1 y2
            have R64 : ∀ c : Nat, 181 ≤ c → c ≤ 190 → ¬ c = 182 → h64 c (r 160 28).toNat = h93 c (r 160 28).toNat := fun c y1 y2 y3 => by
              rw [e64, up_n (by omega), e62, up_n (by omega)]; exact R50 c y1 y2 y3
            refine pc_ret (.inr ⟨t + 1 + 1, ⟨?_, by omega⟩, ⟨p1, (t : Int), bs, rw', ?_, hty, ⟨?_, ?_, ?_, ?_, ?_⟩, .inl ⟨?_, ?_, ?_, ?_, by omega⟩⟩, ⟨?_, ?_, ?_, ?_⟩, ⟨⟨?_, fun c x c1 c2 c3 => A64 c x (by omega) (by omega)⟩, ⟨?_, fun c x c1 c2 c3 => A64 c x (by omega) (by omega)⟩, fun c j c1 c2 c3 => A64 c j (by omega) (by omega), A64 160 24 (by omega) (by omega), ?_⟩⟩)
            · rw [e64, e62]; exact jp_w (jp_up BK J50 (jp_lt BK l7 (by omega))) (by decide)
            · rw [Int.toNat_natCast]; exact hp1
            · rw [R64 183 (by decide) (by decide) (by decide)]; exact c183
            · rw [R64 184 (by decide) (by decide) (by decide)]; exact c184
            · rw [R64 185 (by decide) (by decide) (by decide)]; exact c185
            · rw [R64 186 (by decide) (by decide) (by decide)]; exact c186
            · rw [Int.toNat_natCast]; exact k2
            · rw [Int.toNat_natCast]; omega
            · rw [Et]; exact k46
            · rw [e64, up_s]
            · rw [R64 189 (by decide) (by decide) (by decide)]; exact c189
            · rw [R64 181 (by decide) (by decide) (by decide)]; exact c181
            · rw [R64 188 (by decide) (by decide) (by decide)]; exact c188
            · rw [R64 189 (by decide) (by decide) (by decide), c189]; omega
            · rw [R64 189 (by decide) (by decide) (by decide), c189, A64 160 39 (by omega) (by omega)]; omega
            · rw [A64 160 22 (by omega) (by omega)]; omega
            · rw [A64 160 39 (by omega) (by omega)]; omega
            · rw [e64, up_n (by omega), e62, up_n (by omega)]; exact c28
          · rw [m16]
            dsimp only
            refine pc_if (fun _ => ?_) (fun z => absurd rfl z)
            refine pc_fl ?_
            refine pc_if (fun _ => ?_) (fun z => absurd (by omega) z)
            exact MET (fun z => k46 z.2)
    refine pc_if (fun z => GO 1 (by omega)) (fun z => GO 2 (by omega))
  · -- FAULT
    have S93 : SFj u14 h93 := by
      refine ⟨S.1, ?_, ?_⟩
      · rw [e93, up_n (by omega), e91, up_n (by omega), e89, up_n (by omega), e86, up_n (by omega), e82, up_n (by omega)]; exact S.2.1
      · rw [e93, up_n (by omega), e91, up_n (by omega), e89, up_n (by omega), e86, up_n (by omega), e82, up_n (by omega)]; exact S.2.2
    refine pc_fl ?_
    refine pj_sf (o := fun a => a) (q := fun b => b) S93 ?_ ?_ (fun a b s => .inl s)
    · have S1 : ¬ u14 2 11 = 0 := S.1
      have F : FSc u14 u14 := fs_r
      refine pc_if (fun _ => ?_) (fun _ => ?_)
      · exact pc_imp (fs_qj_X8_readMember_44 (fs_n S1 F)) (fun _ q => fs_t F q)
      · refine pc_sv (fs_qf_X8_accept (fs_n S1 F)) ?_; intro u16 Qu16
        have Fu16 : FSc u14 u16.2 := fs_t F Qu16
        refine pc_if (fun _ => ?_) (fun _ => ?_)
        · exact pc_imp (fs_qj_X8_readMember_44 (fs_n S1 Fu16)) (fun _ q => fs_t Fu16 q)
        · exact pc_ret Fu16
    · exact pc_if (fun _ => ft_qj_X13_member_170 (sf_r S93)) (fun _ => ft_qj_X13_member_170 (sf_r S93))
end

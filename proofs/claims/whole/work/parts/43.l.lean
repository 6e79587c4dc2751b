section
/- PARSE: TYPE, S of both sides -/
section
variable {α β γ : Type}
theorem p2_sa {x : Option α} {F : α → Option β} {y : Option γ} {Z : β → γ → Prop} (H : Pc x (fun a => Pc y (fun v => Pc (F a) (fun u => Z u v)))) : Pc (mx_sv x F) (fun u => Pc y (fun v => Z u v)) := by
  refine pc_se ?_; intro a ea
  exact pc_fl (H a ea)
end
/-- what a reader of a statement leaves on both sides -/
def JS (dp : Int) (K P : Nat → Int) (c p s : Nat) (r u : ms_M) (v : Int × ms_M) : Prop := SFj u v.2 ∨ ∃ q : Nat, (JPp K P c q u v.2 ∧ p < q) ∧ LKn dp K v.2 s 0 0 (r 160 22) (v.2 160 22) (p : Int) (q : Int) v.1 ∧ v.2 173 v.1.toNat = -1 ∧ NDf r v.2
def PT (K P : Nat → Int) (c s : Nat) (x : Int → ms_M → Option ms_M) (y : Int → ms_M → Option (Int × ms_M)) : Prop := ∀ (a : Int) (p : Nat) (h r : ms_M), (0 ≤ a ∧ a ≤ 40) → JPp K P c p h r → 0 ≤ r 160 22 → Pc (x a h) (fun u => Pc (y a r) (fun v => JS a K P c p s r u v))
section
variable {nn : Nat} {K P : Nat → Int} {c p : Nat} {h g r w u v : ms_M}
theorem c_typed (BK : TBn K c) (B : TBc K P c h) (hp : p < c) (hc : h 2 10 = (p : Int)) (hf : h 2 11 = 0) : Pc (qf_X9_beginsVariable nn h) (fun u => (u = 1 ∧ TYp K (p : Int)) ∨ (u = 0 ∧ ¬ TYp K (p : Int))) := by
  have n3 := BK.2.1
  have E1 : ((p : Int) + 1).toNat = p + 1 := by omega
  have E2 : ((p : Int) + 2).toNat = p + 2 := by omega
  unfold TYp
  rw [Int.toNat_natCast, E1, E2]
  unfold qf_X9_beginsVariable
  refine pc_sv (c_kind BK B hp hc hf) ?_; intro u2 q2
  refine pc_if (fun z => ?_) (fun z => pc_if (fun z2 => pc_ret (.inl ⟨rfl, by omega⟩)) (fun z2 => pc_if (fun z3 => pc_ret (.inr ⟨rfl, by omega⟩)) (fun z3 => pc_ret (.inl ⟨rfl, by omega⟩))))
  rw [hc]
  refine pc_add (by omega) ?_; intro v4 e4
  refine pc_sv (c_kindAt BK B (t := p + 1) (by omega)) ?_; intro u6 q6
  refine pc_if (fun z2 => pc_ret (.inl ⟨rfl, by omega⟩)) (fun z2 => pc_if (fun z3 => pc_ret (.inr ⟨rfl, by omega⟩)) (fun z3 => ?_))
  refine pc_add (by omega) ?_; intro v8 e8
  refine pc_sv (c_kindAt BK B (t := p + 2) (by omega)) ?_; intro u10 q10
  exact pc_if (fun z4 => pc_ret (.inr ⟨rfl, by omega⟩)) (fun z4 => pc_ret (.inl ⟨rfl, by omega⟩))
theorem r_typed (BK : TBn K c) (B : TBq K P c r) (hp : p < c) (hc : r 160 23 = (p : Int)) : Pc (qf_X13_isTyped nn r) (fun u => (u = 1 ∧ TYp K (p : Int)) ∨ (u = 0 ∧ ¬ TYp K (p : Int))) := by
  have n3 := BK.2.1
  have E1 : ((p : Int) + 1).toNat = p + 1 := by omega
  have E2 : ((p : Int) + 2).toNat = p + 2 := by omega
  have k0 := r_kd BK B (t := p) (by omega)
  have k1 := r_kd BK B (t := p + 1) (by omega)
  unfold TYp
  rw [Int.toNat_natCast, E1, E2]
  unfold qf_X13_isTyped
  rw [hc]
  refine pc_sv (r_wrd BK B rfl (by omega) (by decide)) ?_; intro u3 q3
  refine pc_if (fun z => pc_ret (.inl ⟨rfl, by omega⟩)) (fun z => ?_)
  refine pc_sv (r_wrd BK B rfl (by omega) (by decide)) ?_; intro u6 q6
  refine pc_if (fun z2 => ?_) (fun z2 => pc_ret (.inl ⟨rfl, by omega⟩))
  refine pc_rA ?_; intro _ _ v9 e9
  rw [Int.toNat_natCast] at e9
  refine pc_if (fun z3 => ?_) (fun z3 => pc_ret (.inr ⟨rfl, by omega⟩))
  refine pc_add (by omega) ?_; intro v12 e12
  refine pc_rA ?_; intro _ _ v13 e13
  rw [show v12.toNat = p + 1 by omega] at e13
  refine pc_if (fun z4 => pc_ret (.inl ⟨rfl, by omega⟩)) (fun z4 => ?_)
  refine pc_add (by omega) ?_; intro v15 e15
  refine pc_sv (r_sgn BK B (t := p + 1) (by omega) (by omega) (k := 44) (by decide) (by decide)) ?_; intro u17 q17
  refine pc_if (fun z5 => pc_ret (.inr ⟨rfl, by omega⟩)) (fun z5 => ?_)
  refine pc_add (by omega) ?_; intro v19 e19
  refine pc_sv (r_sgn BK B (t := p + 2) (by omega) (by omega) (k := 45) (by decide) (by decide)) ?_; intro u21 q21
  exact pc_if (fun z6 => pc_ret (.inr ⟨rfl, by omega⟩)) (fun z6 => pc_ret (.inl ⟨rfl, by omega⟩))
/-- TYPE -/
def JT2 (K P : Nat → Int) (c p : Nat) (r u v : ms_M) : Prop := SFj u v ∨ ∃ (t : Nat) (bs rw : Int), (JPp K P c t u v ∧ p < t) ∧ TYk K (p : Int) (t : Int) bs rw ∧ (v 160 45 = bs ∧ v 160 46 = (p : Int) ∧ v 160 47 = rw) ∧ v 160 22 = r 160 22 ∧ (∀ c x : Nat, ¬ (c = 160 ∧ (x = 9 ∨ x = 10 ∨ x = 23 ∨ x = 45 ∨ x = 46 ∨ x = 47)) → v c x = r c x)
theorem j_type (BK : TBn K c) (J : JPp K P c p h r) : Pc (qf_X8_readType nn h) (fun u => Pc (qf_X13_type nn r) (fun v => JT2 K P c p r u v)) := by
  have n3 := BK.2.1
  have J0 := J
  obtain ⟨b, d, ⟨g1, g2, g3⟩, g4, g5⟩ := J
  have E1 : ((p : Int) + 1).toNat = p + 1 := by omega
  have E2 : ((p : Int) + 2).toNat = p + 2 := by omega
  -- [ ] behind the name
  have ROW : ∀ (bs : Int) (h1 r1 : ms_M), ((K p = 20 ∧ bs = 0) ∨ (K p = 2 ∧ bs = 3)) → JPp K P c (p + 1) h1 r1 → (r1 160 45 = bs ∧ r1 160 46 = (p : Int) ∧ r1 160 47 = 0) → (∀ c x : Nat, ¬ (c = 160 ∧ (x = 9 ∨ x = 10 ∨ x = 23 ∨ x = 45 ∨ x = 46 ∨ x = 47)) → r1 c x = r c x) → Pc (qj_X8_readType_24 nn h1) (fun u => Pc (qj_X13_type_96 nn r1) (fun v => JT2 K P c p r u v)) := fun bs h1 r1 hb J1 hv hf => by
    have J1' := J1
    obtain ⟨b1, d1, ⟨k1, k2, k3⟩, k4, k5⟩ := J1'
    unfold qj_X8_readType_24 qj_X13_type_96
    refine pc_sv (c_acc BK b1 k3 k1 k4) ?_; intro u2 q2
    refine pc_fl ?_
    refine pc_if (fun z => absurd k5 z) (fun _ => ?_)
    rw [k2]
    refine pc_sv (r_sgn BK d1 rfl (by omega) (k := 44) (by decide) (by decide)) ?_; intro u4 q4
    rcases q2 with ⟨k44, m2⟩ | ⟨k44, m2⟩
    · refine pc_if (fun _ => ?_) (fun z => absurd (by omega) z)
      refine pc_add (by omega) ?_; intro v6 e6
      refine pc_xl ?_; intro h7 e7
      rw [show v6 = ((p + 2 : Nat) : Int) by omega] at e7
      refine pc_fl ?_
      rw [m2]
      dsimp only
      refine pc_if (fun z => absurd z (by decide)) (fun _ => ?_)
      have J2 : JPp K P c (p + 2) (up_M h1 2 10 ((p + 1 + 1 : Nat) : Int)) h7 := by rw [e7]; exact jp_up BK J1 (q := p + 2) (jp_lt BK k3 (by omega))
      refine p2_sv (j_need BK J2 (k := 45) (by decide) (by decide)) ?_; intro y4 y9 z9
      refine pc_ret ?_
      refine pc_xl ?_; intro h10 e10
      refine pc_ret ?_
      rcases z9 with ⟨k45, m9, J9⟩ | S
      · refine .inr ⟨p + 3, bs, 1, ⟨by rw [e10]; exact jp_c J9 (by decide), by omega⟩, ?_, ⟨?_, ?_, by rw [e10, up_s]⟩, ?_, fun c x z => ?_⟩
        · unfold TYk
          rw [Int.toNat_natCast, E1, E2]; omega
        · rw [e10, up_n (by omega), m9, up_n (by omega), e7, up_n (by omega)]; exact hv.1
        · rw [e10, up_n (by omega), m9, up_n (by omega), e7, up_n (by omega)]; exact hv.2.1
        · rw [e10, up_n (by omega), m9, up_n (by omega), e7, up_n (by omega)]; exact hf 160 22 (by omega)
        · rw [e10, up_n (by omega), m9, up_n (by omega), e7, up_n (by omega)]; exact hf c x z
      · refine .inl ⟨S.1, ?_, ?_⟩
        · rw [e10, up_n (by omega)]; exact S.2.1
        · rw [e10, up_n (by omega)]; exact S.2.2
    · refine pc_if (fun z => absurd z (by omega)) (fun _ => ?_)
      refine pc_ret ?_
      rw [m2]
      dsimp only
      refine pc_if (fun _ => ?_) (fun z => absurd rfl z)
      refine pc_ret (.inr ⟨p + 1, bs, 0, ⟨J1, by omega⟩, ?_, hv, hf 160 22 (by omega), hf⟩)
      unfold TYk
      rw [Int.toNat_natCast, E1, E2]; omega
  unfold qf_X8_readType qf_X13_type
  refine pc_fl ?_
  refine pc_if (fun _ => ?_) (fun z => absurd g5 z)
  refine pc_xl ?_; intro h23 e23
  refine pc_xl ?_; intro h24 e24
  have c24 : h24 160 23 = (p : Int) := by rw [e24, up_n (by omega), e23, up_n (by omega)]; exact g2
  have J24 : JPp K P c p h h24 := by rw [e24, e23]; exact jp_c (jp_c J0 (by decide)) (by decide)
  have d24 := J24.2.1
  have F24 : ∀ c x : Nat, ¬ (c = 160 ∧ (x = 9 ∨ x = 10 ∨ x = 23 ∨ x = 45 ∨ x = 46 ∨ x = 47)) → h24 c x = r c x := fun c x z => by rw [e24, up_n (by omega), e23, up_n (by omega)]
  have v46 : h24 160 46 = (p : Int) := by rw [e24, up_n (by omega), e23, up_s]; exact g2
  have v47 : h24 160 47 = 0 := by rw [e24, up_s]
  rw [c24]
  refine pc_sv (r_wrd BK d24 rfl (by omega) (by decide)) ?_; intro u27 q27
  refine pc_fl ?_
  refine pc_sv (c_acc BK b g3 g1 g4) ?_; intro u7 q7
  rcases q7 with ⟨k10, m7⟩ | ⟨k10, m7⟩
  · rw [m7]
    dsimp only
    refine pc_if (fun z => absurd z (by decide)) (fun _ => ?_)
    refine pc_ret ?_
    refine pc_if (fun z => absurd z (by omega)) (fun _ => ?_)
    refine pc_xl ?_; intro h32 e32
    have c32 : h32 160 23 = (p : Int) := by rw [e32, up_n (by omega)]; exact c24
    rw [c32]
    refine pc_add (by omega) ?_; intro v34 e34
    refine pc_xl ?_; intro h35 e35
    rw [show v34 = ((p + 1 : Nat) : Int) by omega] at e35
    refine pc_ret (.inr ⟨p + 1, 1, 0, ⟨?_, by omega⟩, ?_, ⟨?_, ?_, ?_⟩, ?_, fun c x z => ?_⟩)
    · have J32 : JPp K P c p h h32 := by rw [e32]; exact jp_c J24 (by decide)
      rw [e35]; exact jp_up BK J32 (jp_lt BK g3 (by omega))
    · unfold TYk
      rw [Int.toNat_natCast]; omega
    · rw [e35, up_n (by omega), e32, up_s]
    · rw [e35, up_n (by omega), e32, up_n (by omega)]; exact v46
    · rw [e35, up_n (by omega), e32, up_n (by omega)]; exact v47
    · rw [e35, up_n (by omega), e32, up_n (by omega)]; exact F24 160 22 (by omega)
    · rw [e35, up_n (by omega), e32, up_n (by omega)]; exact F24 c x z
  · rw [m7]
    dsimp only
    refine pc_if (fun _ => ?_) (fun z => absurd rfl z)
    refine pc_fl ?_
    refine pc_if (fun _ => ?_) (fun z => absurd (by omega) z)
    refine pc_sv (r_wrd BK d24 rfl (by omega) (by decide)) ?_; intro u30 q30
    refine pc_fl ?_
    refine pc_sv (c_acc BK b g3 g1 g4) ?_; intro u9 q9
    unfold qj_X13_type_68
    rcases q9 with ⟨k20, m9⟩ | ⟨k20, m9⟩
    · rw [m9]
      dsimp only
      refine pc_if (fun _ => ?_) (fun z => absurd (show ¬ (1 : Int) = 0 by decide) z)
      refine pc_fl ?_
      refine pc_if (fun z => absurd z (by omega)) (fun _ => ?_)
      refine pc_xl ?_; intro h13 e13
      have c45 : h13 160 45 = 0 := by rw [e13, up_s]
      have c13 : h13 160 23 = (p : Int) := by rw [e13, up_n (by omega)]; exact c24
      refine pc_if (fun z => absurd c45 z) (fun _ => ?_)
      rw [c13]
      refine pc_add (by omega) ?_; intro v18 e18
      refine pc_xl ?_; intro h19 e19
      rw [show v18 = ((p + 1 : Nat) : Int) by omega] at e19
      refine pc_fl ?_
      refine ROW 0 _ h19 (.inl ⟨k20, rfl⟩) ?_ ⟨?_, ?_, ?_⟩ (fun c x z => ?_)
      · have J13 : JPp K P c p h h13 := by rw [e13]; exact jp_c J24 (by decide)
        rw [e19]; exact jp_up BK J13 (jp_lt BK g3 (by omega))
      · rw [e19, up_n (by omega)]; exact c45
      · rw [e19, up_n (by omega), e13, up_n (by omega)]; exact v46
      · rw [e19, up_n (by omega), e13, up_n (by omega)]; exact v47
      · rw [e19, up_n (by omega), e13, up_n (by omega)]; exact F24 c x z
    · rw [m9]
      dsimp only
      refine pc_if (fun z => absurd rfl z) (fun _ => ?_)
      refine pc_fl ?_
      refine pc_if (fun _ => ?_) (fun z => absurd (by omega) z)
      refine pc_xl ?_; intro h13 e13
      have c45 : h13 160 45 = 3 := by rw [e13, up_s]
      have J13 : JPp K P c p h h13 := by rw [e13]; exact jp_c J24 (by decide)
      refine pc_if (fun _ => ?_) (fun z => absurd (by omega) z)
      refine pc_fl ?_
      refine p2_sv (j_name BK J13) ?_; intro u11 u16 q16
      rcases q16 with ⟨k2, m16, J16⟩ | S
      · have mm : u16.2 = up_M h13 160 23 ((p + 1 : Nat) : Int) := by rw [m16]
        refine ROW 3 u11 u16.2 (.inr ⟨k2, rfl⟩) J16 ⟨?_, ?_, ?_⟩ (fun c x z => ?_)
        · rw [mm, up_n (by omega)]; exact c45
        · rw [mm, up_n (by omega), e13, up_n (by omega)]; exact v46
        · rw [mm, up_n (by omega), e13, up_n (by omega)]; exact v47
        · rw [mm, up_n (by omega), e13, up_n (by omega)]; exact F24 c x z
      · refine pj_sf (o := fun a => a) (q := fun b => b) S (fs_qj_X8_readType_24 S.1) (ft_qj_X13_type_96 (sf_r S)) (fun a b s => .inl s)
/-- BLOCK: its statements -/
theorem jb_22 (BK : TBn K c) {rc : tq_X8_readBlock} {rd : tq_X13_block} {a : Int} (ha : 0 ≤ a ∧ a ≤ 40) (Gc : FScG_X8_readBlock rc) (Gr : FSrG_X13_block rd) (IT : PT K P c 6 rc.2.1 rd.2) : ∀ (f k q : Nat) (h r : ms_M) (l2 l3 t : Int), JPp K P c q h r → 0 ≤ r 160 22 → (0 ≤ l2 ∧ l2 < r 160 22) → (l3 = -1 ∨ (0 ≤ l3 ∧ l3 < r 160 22)) → (0 ≤ t ∧ t < (q : Int)) → Pc (qw_X8_readBlock_8 nn rc f a t h) (fun u => Pc (qw_X13_block_22 nn rd k a l2 l3 r) (fun v => SFj u v.2 ∨ ∃ (q2 : Nat) (m : Int), (JPp K P c (q2 + 1) u v.2 ∧ q ≤ q2 ∧ K q2 = 43) ∧ LKn a K v.2 7 0 0 (r 160 22) (v.2 160 22) (q : Int) (q2 : Int) m ∧ v.1 = l2 ∧ ((l3 = -1 ∧ (v.2 170 l2.toNat = m ∨ (m = -1 ∧ v.2 170 l2.toNat = r 170 l2.toNat))) ∨ (¬ l3 = -1 ∧ (v.2 173 l3.toNat = m ∨ (m = -1 ∧ v.2 173 l3.toNat = r 173 l3.toNat)))) ∧ r 160 22 ≤ v.2 160 22 ∧ ∀ c x : Nat, 167 ≤ c → c ≤ 177 → (x : Int) < r 160 22 → ¬ (c = 173 ∧ x = l3.toNat ∧ ¬ l3 = -1) → ¬ (c = 170 ∧ x = l2.toNat ∧ l3 = -1) → v.2 c x = r c x)) := by
  have n3 := BK.2.1
  intro f
  induction f with
  | zero => intros; exact pc_none
  | succ f ih =>
    intro k q h r l2 l3 t J hr hl2 hl3 ht
    cases k with
    | zero => exact fun _ _ => pc_none
    | succ k =>
      have J0 := J
      obtain ⟨b, d, ⟨g1, g2, g3⟩, g4, g5⟩ := J
      unfold qw_X8_readBlock_8 qw_X13_block_22
      refine pc_if (fun z => absurd z (by omega)) (fun _ => ?_)
      refine pc_if (fun z => absurd g4 z) (fun _ => ?_)
      refine pc_sv (c_kind BK b g3 g1 g4) ?_; intro u7 q7
      refine pc_fl ?_
      refine pc_if (fun z => absurd g5 z) (fun _ => ?_)
      rw [g2]
      refine pc_sv (r_sgn BK d rfl (by omega) (k := 43) (by decide) (by decide)) ?_; intro u6 q6
      refine pc_fl ?_
      by_cases k43 : K q = 43
      · refine pc_if (fun _ => ?_) (fun z => absurd (by omega) z)
        refine pc_fl ?_
        refine pc_if (fun _ => ?_) (fun z => absurd (by omega) z)
        refine pc_fl ?_
        unfold qj_X8_readBlock_48 qj_X13_block_79
        refine p2_sv (j_need BK J0 (k := 43) (by decide) (by decide)) ?_; intro u2 w2 z2
        refine pc_ret (pc_ret ?_)
        rcases z2 with ⟨-, m2, J2⟩ | S
        · refine .inr ⟨q, -1, ⟨J2, by omega, k43⟩, lk_ln (by rw [Int.toNat_natCast]; exact k43) ha, rfl, ?_, by show _ ≤ w2 160 22; rw [m2, up_n (by omega)]; omega, fun c x c1 c2 c3 c4 c5 => by show w2 c x = _; rw [m2, up_n (by omega)]⟩
          by_cases z : l3 = -1
          · exact .inl ⟨z, .inr ⟨rfl, by show w2 170 _ = _; rw [m2, up_n (by omega)]⟩⟩
          · exact .inr ⟨z, .inr ⟨rfl, by show w2 173 _ = _; rw [m2, up_n (by omega)]⟩⟩
        · exact .inl S
      · refine pc_if (fun z => absurd z (by omega)) (fun _ => ?_)
        refine pc_fl ?_
        refine pc_if (fun z => absurd z (by omega)) (fun _ => ?_)
        refine pc_fl ?_
        refine p2_sv (IT a q h r ha J0 hr) ?_; intro u9 u8 q8
        rcases q8 with S | ⟨q1, ⟨J1, pq⟩, L1, x1, N1⟩
        · refine pj_sf (o := fun a => a) (q := fun b => b.2) S ?_ ?_ (fun a b s => .inl s)
          · have S1 : ¬ u9 2 11 = 0 := S.1
            have F : FSc u9 u9 := fs_r
            refine pc_xl ?_; intro v10 _
            exact pc_imp (fs_qw_X8_readBlock_8 Gc _ _ _ _ (fs_n S1 F)) (fun _ q => fs_t F q)
          · have S1 : ¬ u8.2 160 9 = 0 := sf_r S
            have F : FSr u8.2 u8.2 := ft_r
            refine pc_if (fun _ => ?_) (fun _ => ?_)
            · refine pc_wA ?_; intro _ _ h10 Eh10
              have Fh10 : FSr u8.2 h10 := by rw [Eh10]; exact ft_u F (by omega)
              exact pc_imp (ft_qw_X13_block_22 Gr _ _ _ _ _ (ft_n S1 Fh10)) (fun _ q => ft_t Fh10 q)
            · refine pc_wA ?_; intro _ _ h12 Eh12
              have Fh12 : FSr u8.2 h12 := by rw [Eh12]; exact ft_u F (by omega)
              exact pc_imp (ft_qw_X13_block_22 Gr _ _ _ _ _ (ft_n S1 Fh12)) (fun _ q => ft_t Fh12 q)
        · refine pc_add (by omega) ?_; intro v10 e10
          have rg := lk_rg L1 (by decide) (by decide)
          have nn1 := N1.1
          -- what is written: cell m0, place n0
          have GO : ∀ (m0 n0 : Nat) (h10 : ms_M), (m0 = 173 ∨ m0 = 170) → (n0 : Int) < r 160 22 → h10 = up_M u8.2 m0 n0 u8.1 → (∀ (w : Int × ms_M) (uu : ms_M) (q2 : Nat), JPp K P c (q2 + 1) uu w.2 → q ≤ q2 → K q2 = 43 → LKn a K w.2 7 0 0 (r 160 22) (w.2 160 22) (q : Int) (q2 : Int) u8.1 → w.1 = l2 → w.2 m0 n0 = u8.1 → r 160 22 ≤ w.2 160 22 → (∀ c x : Nat, 167 ≤ c → c ≤ 177 → (x : Int) < r 160 22 → ¬ (c = m0 ∧ x = n0) → w.2 c x = r c x) → SFj uu w.2 ∨ ∃ (q2 : Nat) (m : Int), (JPp K P c (q2 + 1) uu w.2 ∧ q ≤ q2 ∧ K q2 = 43) ∧ LKn a K w.2 7 0 0 (r 160 22) (w.2 160 22) (q : Int) (q2 : Int) m ∧ w.1 = l2 ∧ ((l3 = -1 ∧ (w.2 170 l2.toNat = m ∨ (m = -1 ∧ w.2 170 l2.toNat = r 170 l2.toNat))) ∨ (¬ l3 = -1 ∧ (w.2 173 l3.toNat = m ∨ (m = -1 ∧ w.2 173 l3.toNat = r 173 l3.toNat)))) ∧ r 160 22 ≤ w.2 160 22 ∧ ∀ c x : Nat, 167 ≤ c → c ≤ 177 → (x : Int) < r 160 22 → ¬ (c = 173 ∧ x = l3.toNat ∧ ¬ l3 = -1) → ¬ (c = 170 ∧ x = l2.toNat ∧ l3 = -1) → w.2 c x = r c x) → Pc (qw_X8_readBlock_8 nn rc f a v10 u9) (fun uu => Pc (qw_X13_block_22 nn rd k a l2 u8.1 h10) (fun w => SFj uu w.2 ∨ ∃ (q2 : Nat) (m : Int), (JPp K P c (q2 + 1) uu w.2 ∧ q ≤ q2 ∧ K q2 = 43) ∧ LKn a K w.2 7 0 0 (r 160 22) (w.2 160 22) (q : Int) (q2 : Int) m ∧ w.1 = l2 ∧ ((l3 = -1 ∧ (w.2 170 l2.toNat = m ∨ (m = -1 ∧ w.2 170 l2.toNat = r 170 l2.toNat))) ∨ (¬ l3 = -1 ∧ (w.2 173 l3.toNat = m ∨ (m = -1 ∧ w.2 173 l3.toNat = r 173 l3.toNat)))) ∧ r 160 22 ≤ w.2 160 22 ∧ ∀ c x : Nat, 167 ≤ c → c ≤ 177 → (x : Int) < r 160 22 → ¬ (c = 173 ∧ x = l3.toNat ∧ ¬ l3 = -1) → ¬ (c = 170 ∧ x = l2.toNat ∧ l3 = -1) → w.2 c x = r c x)) := fun m0 n0 h10 hm hn0 e10' FIN => by
            have J10 : JPp K P c q1 u9 h10 := by rw [e10']; exact jp_w J1 (by omega)
            have n10 : h10 160 22 = u8.2 160 22 := by rw [e10', up_n (by omega)]
            refine (fun uu euu w ew => ?_)
            have R := ih k q1 u9 h10 l2 u8.1 v10 J10 (by omega) (by omega) (.inr (by omega)) (by omega) uu euu w ew
            rcases R with R | ⟨q2, m, ⟨R1, R2, R3⟩, R4, R5, R6, R7, R8⟩
            · exact .inl R
            · have nx : w.2 173 u8.1.toNat = m := by
                rcases R6 with ⟨z, -⟩ | ⟨-, z | ⟨z1, z2⟩⟩
                · omega
                · exact z
                · rw [z2, e10', up_n (by omega), x1, z1]
              have old : ∀ c x : Nat, 167 ≤ c → c ≤ 177 → (x : Int) < u8.2 160 22 → ¬ (c = 173 ∧ x = u8.1.toNat) → w.2 c x = h10 c x := fun c x c1 c2 c3 c4 => R8 c x c1 c2 (by omega) (fun z => c4 ⟨z.1, z.2.1⟩) (fun z => by omega)
              refine FIN w uu q2 R1 (by omega) R3 ?_ R5 ?_ (by omega) (fun c x c1 c2 c3 c4 => ?_)
              · refine lk_lc (t := (q1 : Int)) (y := u8.2 160 22) ⟨hr, by omega, by omega, by omega⟩ (by rw [Int.toNat_natCast]; exact k43) ?_ ?_
                · refine lk_map L1 (fun c x c1 c2 _ y1 y2 _ y4 => ?_)
                  have : ¬ (c = 173 ∧ x = u8.1.toNat) := fun z => absurd (.inl rfl) (y4 z.1 (by omega))
                  rw [old c x c1 c2 y2 this, e10', up_n (by omega)]
                · rw [nx, ← n10]; exact R4
              · rw [old m0 n0 (by omega) (by omega) (by omega) (by omega), e10', up_s]
              · rw [old c x c1 c2 (by omega) (by omega), e10', up_n (by omega)]; exact N1.2 c x c1 c2 c3
          refine pc_fl ?_
          refine pc_if (fun z => ?_) (fun z => ?_)
          · have hl3' : 0 ≤ l3 ∧ l3 < r 160 22 := by omega
            refine pc_wA ?_; intro i1 i2 h10 e10'
            refine pc_fl ?_
            exact GO 173 l3.toNat h10 (.inl rfl) (by omega) e10' (fun w uu q2 y1 y2 y3 y4 y5 y6 y7 y8 => .inr ⟨q2, u8.1, ⟨y1, y2, y3⟩, y4, y5, .inr ⟨z, .inl y6⟩, y7, fun c x c1 c2 c3 c4 c5 => y8 c x c1 c2 c3 (fun y => c4 ⟨y.1, y.2, z⟩)⟩)
          · have z := Decidable.not_not.1 z
            refine pc_wA ?_; intro i1 i2 h12 e12
            refine pc_fl ?_
            exact GO 170 l2.toNat h12 (.inr rfl) (by omega) e12 (fun w uu q2 y1 y2 y3 y4 y5 y6 y7 y8 => .inr ⟨q2, u8.1, ⟨y1, y2, y3⟩, y4, y5, .inl ⟨z, .inl y6⟩, y7, fun c x c1 c2 c3 c4 c5 => y8 c x c1 c2 c3 (fun y => c5 ⟨y.1, y.2, z⟩)⟩)
theorem js_B (BK : TBn K c) {rc : tq_X8_readBlock} {rd : tq_X13_block} {a : Int} (ha : 0 ≤ a ∧ a ≤ 40) (Gc : FScG_X8_readBlock rc) (Gr : FSrG_X13_block rd) (IT : PT K P c 6 rc.2.1 rd.2) (J : JPp K P c p h r) (hr : 0 ≤ r 160 22) : Pc (qo_X8_readBlock nn rc a h) (fun u => Pc (qo_X13_block nn rd a r) (fun v => JS a K P c p 8 r u v)) := by
  have n3 := BK.2.1
  have J0 := J
  obtain ⟨b, d, ⟨g1, g2, g3⟩, g4, g5⟩ := J
  unfold qo_X8_readBlock qo_X13_block
  refine pc_fl ?_
  rw [g2]
  refine pc_sv r_add ?_; intro u19 q19
  obtain ⟨⟨x1, x2, x3⟩, ND, FR⟩ := q19
  have J19 : JPp K P c p h u19.2 := jp_r J0 (fun c k z => FR c k (by omega) (by omega))
  have N19 : NDf r u19.2 := ⟨by rw [x3]; omega, fun c x c1 c2 c3 => FR c x (by omega) (by omega)⟩
  refine pc_fl ?_
  refine p2_sv (j_need BK J19 (k := 42) (by decide) (by decide)) ?_; intro u15 u21 q21
  rcases q21 with ⟨k42, m21, J21⟩ | S
  · have n21 : u21 160 22 = r 160 22 + 1 := by rw [m21, up_n (by omega)]; exact x3
    have N21 : NDf r u21 := by rw [m21]; exact ndf_c N19 (by decide)
    have ND21 := nd_o (z := ((p + 1 : Nat) : Int)) (m := 160) (j := 23) ND (.inr (by decide))
    rw [← m21] at ND21
    rw [x2]
    refine (fun uu euu w ew => ?_)
    have R := jb_22 BK ha Gc Gr IT nn nn (p + 1) u15 u21 (r 160 22) (-1) 0 J21 (by omega) (by omega) (.inl rfl) (by omega) uu euu w ew
    rcases R with R | ⟨q2, m, ⟨R1, R2, R3⟩, R4, R5, R6, R7, R8⟩
    · exact .inl R
    · have on : w.2 170 (r 160 22).toNat = m := by
        rcases R6 with ⟨-, z | ⟨z1, z2⟩⟩ | ⟨z, -⟩
        · exact z
        · rw [z2, ND21.2.1.1, z1]
        · exact absurd rfl z
      have row : ∀ c : Nat, 167 ≤ c → c ≤ 177 → ¬ c = 170 → w.2 c (r 160 22).toNat = u21 c (r 160 22).toNat := fun c c1 c2 c3 => R8 c _ c1 c2 (by omega) (fun z => z.2.2 rfl) (fun z => c3 z.1)
      refine .inr ⟨q2 + 1, ⟨R1, by omega⟩, ?_, ?_, ⟨by omega, fun c x c1 c2 c3 => ?_⟩⟩
      · rw [R5]
        refine lk_bk (t := (q2 : Int)) ⟨hr, Int.le_refl _, by omega⟩ ⟨?_, ?_⟩ (by rw [Int.toNat_natCast]; exact k42) ?_ ⟨by rw [Int.toNat_natCast]; exact R3, by omega⟩
        · rw [row 167 (by decide) (by decide) (by decide)]; exact ND21.1.1
        · rw [row 169 (by decide) (by decide) (by decide)]; exact ND21.1.2.2
        · rw [on, ← n21, show (p : Int) + 1 = ((p + 1 : Nat) : Int) by omega]; exact R4
      · rw [R5, row 173 (by decide) (by decide) (by decide)]; exact ND21.2.1.2.2.2
      · rw [R8 c x c1 c2 (by omega) (fun z => z.2.2 rfl) (fun z => by omega)]; exact N21.2 c x c1 c2 c3
  · refine pj_sf (o := fun a => a) (q := fun b => b.2) S ?_ ?_ (fun a b s => .inl s)
    · have S1 : ¬ u15 2 11 = 0 := S.1
      have F : FSc u15 u15 := fs_r
      exact pc_imp (fs_qw_X8_readBlock_8 Gc _ _ _ _ (fs_n S1 F)) (fun _ q => fs_t F q)
    · have S1 : ¬ u21 160 9 = 0 := sf_r S
      have F : FSr u21 u21 := ft_r
      exact pc_imp (ft_qw_X13_block_22 Gr _ _ _ _ _ (ft_n S1 F)) (fun _ q => ft_t F q)
end
end
section
/- PARSE: S of both sides, by its first token -/
section
variable {nn : Nat} {K P : Nat → Int} {c p : Nat} {h g r w u v : ms_M}
/-- rows below m stay but for one place -/
def RWx (r v : ms_M) (m n : Nat) : Prop := r 160 22 ≤ v 160 22 ∧ ∀ c x : Nat, 167 ≤ c → c ≤ 177 → (x : Int) < r 160 22 → ¬ (c = m ∧ x = n) → v c x = r c x
theorem hd_add {α : Type} (BK : TBn K c) (J : JPp K P c p h r) (hk : 2 ≤ K p) {k : Int} {G : Int × ms_M → ms_M → Option α} {Q : α → Prop} (H : ∀ (u : Int × ms_M) (h1 : ms_M), u.1 = r 160 22 → (0 ≤ r 160 22 ∧ h1 160 22 = r 160 22 + 1) → NDn h1 (r 160 22) k (p : Int) (p : Int) (-1) (-1) (-1) (-1) 0 0 0 → NDf r h1 → JPp K P c (p + 1) (up_M h 2 10 ((p + 1 : Nat) : Int)) h1 → Pc (G u h1) Q) : Pc (mx_sv (qf_X13_add nn k (r 160 23) (r 160 23) r) fun u => xl (oq_add (u.2 160 23) 1) fun v => xl (up_M u.2 160 23 v) fun h1 => G u h1) Q := by
  have n3 := BK.2.1
  have J0 := J
  obtain ⟨b, d, ⟨g1, g2, g3⟩, g4, g5⟩ := J
  rw [g2]
  refine pc_sv r_add ?_; intro u19 q19
  obtain ⟨⟨x1, x2, x3⟩, ND, FR⟩ := q19
  have c19 : u19.2 160 23 = (p : Int) := by rw [FR 160 23 (by omega) (by omega)]; exact g2
  rw [c19]
  refine pc_add (by omega) ?_; intro v1 e1
  refine pc_xl ?_; intro h1 f1
  rw [show v1 = ((p + 1 : Nat) : Int) by omega] at f1
  refine H u19 h1 x2 ⟨x1, by rw [f1, up_n (by omega)]; exact x3⟩ (by rw [f1]; exact nd_o ND (.inr (by decide))) ?_ ?_
  · rw [f1]; exact ndf_c ⟨by rw [x3]; omega, fun c x c1 c2 c3 => FR c x (by omega) (by omega)⟩ (by decide)
  · have J1 : JPp K P c p h u19.2 := jp_r J0 (fun c k z => FR c k (by omega) (by omega))
    rw [f1]; exact jp_up BK J1 (jp_lt BK g3 hk)
/-- an E that becomes row m of node n -/
theorem j_v {α β : Type} (BK : TBn K c) {a : Int} (ha : 0 ≤ a ∧ a ≤ 40) {q m : Nat} {n : Int} (J : JPp K P c q h r) (hn : 0 ≤ n ∧ n < r 160 22) (hm : m = 170 ∨ m = 171) {F : ms_M → Option α} {G : ms_M → Option β} {Z : α → β → Prop} (HS : ∀ u v, SFj u v → Pc (F u) (fun U => Pc (G v) (fun V => Z U V))) (HO : ∀ (u v : ms_M) (t : Nat) (ix e : Int), JPp K P c t u v → q < t → CHl a K v 0 ix 0 (r 160 22) (v 160 22) (q : Int) (t : Int) e → v m n.toNat = e → RWx r v m n.toNat → Pc (F u) (fun U => Pc (G v) (fun V => Z U V))) : Pc (mx_sv (qf_X8_readValue nn a h) F) (fun U => Pc (mx_sv (qf_X13_expression nn a r) fun u => wr_A 9000 m n u.1 u.2 fun h2 => G h2) (fun V => Z U V)) := by
  refine p2_sv (j_value BK ha J (by omega)) ?_; intro u4 u3 q3
  rcases q3 with S | ⟨t, ix, ⟨J1, pq⟩, L1, lab1, N1⟩
  · refine pc_fl ?_
    refine pc_wA ?_; intro _ _ h4 E4
    refine pc_fl ?_
    refine HS u4 h4 ⟨S.1, ?_, ?_⟩
    · rw [E4, up_n (by omega)]; exact S.2.1
    · rw [E4, up_n (by omega)]; exact S.2.2
  · have C1 := ch_mk L1 (by decide) lab1
    refine pc_fl ?_
    refine pc_wA ?_; intro i1 i2 h4 e4
    refine pc_fl ?_
    have n4 : h4 160 22 = u3.2 160 22 := by rw [e4, up_n (by omega)]
    have nn1 := N1.1
    refine HO u4 h4 t ix u3.1 (by rw [e4]; exact jp_w J1 (by omega)) pq ?_ (by rw [e4, up_s]) ⟨by omega, fun c x c1 c2 c3 c4 => by rw [e4, up_n c4]; exact N1.2 c x c1 c2 c3⟩
    rw [n4, e4]; exact ch_w C1 (.inl (.inl (by omega)))
/-- ; -/
theorem j_semi (BK : TBn K c) {rc : tq_X8_readBlock} {t : Nat} {n dp : Int} {r0 : ms_M} {s : Nat} (J : JPp K P c t u v) (hp : p < t) (H : K t = 46 → ∀ w : ms_M, w = up_M v 160 23 ((t + 1 : Nat) : Int) → LKn dp K w s 0 0 (r0 160 22) (w 160 22) (p : Int) ((t + 1 : Nat) : Int) n ∧ w 173 n.toNat = -1 ∧ NDf r0 w) : Pc (qj_X8_readStatement_157 nn rc u) (fun U => Pc (mx_sv (qf_X13_sign_ nn 59 v) fun u4 => some (n, u4)) (fun V => JS dp K P c p s r0 U V)) := by
  unfold qj_X8_readStatement_157
  refine p2_sv (j_need BK J (k := 46) (by decide) (by decide)) ?_; intro u2 w2 q2
  refine pc_ret (pc_ret ?_)
  rcases q2 with ⟨k46, m2, J2⟩ | S
  · have := H k46 w2 m2
    exact .inr ⟨t + 1, ⟨J2, by omega⟩, this.1, this.2.1, this.2.2⟩
  · exact .inl S
theorem j_semiS (BK : TBn K c) {rc : tq_X8_readBlock} (Gc : FScG_X8_readBlock rc) {n dp : Int} {r0 : ms_M} {s : Nat} (S : SFj u v) : Pc (qj_X8_readStatement_157 nn rc u) (fun U => Pc (mx_sv (qf_X13_sign_ nn 59 v) fun u4 => some (n, u4)) (fun V => JS dp K P c p s r0 U V)) := by
  refine pj_sf (o := fun a => a) (q := fun b => b.2) S (fs_qj_X8_readStatement_157 Gc S.1) ?_ (fun a b s => .inl s)
  refine pc_sv (ft_qf_X13_sign_ (sf_r S)) ?_; intro u4 Q4
  exact pc_ret Q4
/-- a node's rows, from RWx -/
theorem nd_rw {n k t f o w2 x y me sl ib e : Int} (D : NDn r n k t f o w2 x y me sl ib) (h0 : 0 ≤ n) (hn : n < r 160 22) (R : RWx r v 170 n.toNat) (e0 : v 170 n.toNat = e) : NDn v n k t f e w2 x y me sl ib := by
  obtain ⟨⟨a1, a2, a3⟩, ⟨b1, b2, b3, b4⟩, d1, d2, d3⟩ := D
  have E : ∀ c : Nat, 167 ≤ c → c ≤ 177 → ¬ c = 170 → v c n.toNat = r c n.toNat := fun c c1 c2 c3 => R.2 c n.toNat c1 c2 (by omega) (fun z => c3 z.1)
  exact ⟨⟨by rw [E 167 (by decide) (by decide) (by decide)]; exact a1, by rw [E 168 (by decide) (by decide) (by decide)]; exact a2, by rw [E 169 (by decide) (by decide) (by decide)]; exact a3⟩, ⟨e0, by rw [E 171 (by decide) (by decide) (by decide)]; exact b2, by rw [E 172 (by decide) (by decide) (by decide)]; exact b3, by rw [E 173 (by decide) (by decide) (by decide)]; exact b4⟩, by rw [E 175 (by decide) (by decide) (by decide)]; exact d1, by rw [E 176 (by decide) (by decide) (by decide)]; exact d2, by rw [E 177 (by decide) (by decide) (by decide)]; exact d3⟩
theorem nd_rw1 {n k t f o w2 x y me sl ib e : Int} (D : NDn r n k t f o w2 x y me sl ib) (h0 : 0 ≤ n) (hn : n < r 160 22) (R : RWx r v 171 n.toNat) (e0 : v 171 n.toNat = e) : NDn v n k t f o e x y me sl ib := by
  obtain ⟨⟨a1, a2, a3⟩, ⟨b1, b2, b3, b4⟩, d1, d2, d3⟩ := D
  have E : ∀ c : Nat, 167 ≤ c → c ≤ 177 → ¬ c = 171 → v c n.toNat = r c n.toNat := fun c c1 c2 c3 => R.2 c n.toNat c1 c2 (by omega) (fun z => c3 z.1)
  exact ⟨⟨by rw [E 167 (by decide) (by decide) (by decide)]; exact a1, by rw [E 168 (by decide) (by decide) (by decide)]; exact a2, by rw [E 169 (by decide) (by decide) (by decide)]; exact a3⟩, ⟨by rw [E 170 (by decide) (by decide) (by decide)]; exact b1, e0, by rw [E 172 (by decide) (by decide) (by decide)]; exact b3, by rw [E 173 (by decide) (by decide) (by decide)]; exact b4⟩, by rw [E 175 (by decide) (by decide) (by decide)]; exact d1, by rw [E 176 (by decide) (by decide) (by decide)]; exact d2, by rw [E 177 (by decide) (by decide) (by decide)]; exact d3⟩
theorem ndf_x {r0 : ms_M} {m n : Nat} (A : NDf r0 r) (R : RWx r v m n) (hn : r0 160 22 ≤ (n : Int)) : NDf r0 v := ⟨Int.le_trans A.1 R.1, fun c x c1 c2 c3 => by rw [R.2 c x c1 c2 (by have := A.1; omega) (by omega)]; exact A.2 c x c1 c2 c3⟩
/- break, continue -/
theorem js_leave (BK : TBn K c) {rc : tq_X8_readBlock} {rd : tq_X13_block} {a : Int} (ha : 0 ≤ a ∧ a ≤ 40) (Gc : FScG_X8_readBlock rc) {k : Int} (hk : (K p = 11 ∧ k = 5) ∨ (K p = 14 ∧ k = 6)) (J : JPp K P c p h r) (hr : 0 ≤ r 160 22) : Pc (mx_sv (qj_X8_readPlain_56 nn h) fun u13 => qj_X8_readStatement_157 nn rc u13) (fun u => Pc (qj_X13_statement_487 nn rd (r 160 23) k r) (fun v => JS a K P c p 6 r u v)) := by
  have n3 := BK.2.1
  have J0 := J
  obtain ⟨b, d, ⟨g1, g2, g3⟩, g4, g5⟩ := J
  unfold qj_X8_readPlain_56 qj_X13_statement_487
  refine pc_fl ?_
  refine hd_add BK J0 (by omega) ?_; intro u7 h10 hu n1 ND N1 J1
  refine pc_fl ?_
  refine p2_sa ?_
  rw [g1]
  refine pc_add (by omega) ?_; intro v3 e3
  refine pc_xl ?_; intro h4 e4
  rw [show v3 = ((p + 1 : Nat) : Int) by omega] at e4
  rw [← e4] at J1
  refine pc_ret ?_
  refine pc_fl ?_
  rw [hu]
  refine j_semi BK J1 (by omega) (fun k46 w ew => ?_)
  have NDw := nd_o (z := ((p + 1 + 1 : Nat) : Int)) (m := 160) (j := 23) ND (.inr (by decide))
  rw [← ew] at NDw
  have nw : w 160 22 = r 160 22 + 1 := by rw [ew, up_n (by omega)]; exact n1.2
  refine ⟨lk_tl ⟨hr, Int.le_refl _, by omega⟩ ⟨by rw [Int.toNat_natCast, NDw.1.1]; omega, NDw.1.2.1, NDw.1.2.2⟩ ⟨by rw [show ((p : Int) + 1).toNat = p + 1 by omega]; exact k46, by omega⟩ ha, NDw.2.1.2.2.2, by rw [ew]; exact ndf_c N1 (by decide)⟩
/- throw -/
theorem js_throw (BK : TBn K c) {rc : tq_X8_readBlock} {a : Int} (ha : 0 ≤ a ∧ a < 40) (Gc : FScG_X8_readBlock rc) (kp : K p = 27) (J : JPp K P c p h r) (hr : 0 ≤ r 160 22) : Pc (mx_sv (xl (oq_add (h 2 10) 1) fun v29 => xl (up_M h 2 10 v29) fun h30 => mx_sv (qf_X8_readValue nn (a + 1) h30) fun u32 => some u32) fun u13 => qj_X8_readStatement_157 nn rc u13) (fun u => Pc (mx_sv (qf_X13_add nn 8 (r 160 23) (r 160 23) r) fun u133 => xl (oq_add (u133.2 160 23) 1) fun v135 => xl (up_M u133.2 160 23 v135) fun h136 => xl (oq_add a 1) fun v138 => mx_sv (qf_X13_expression nn v138 h136) fun u140 => wr_A 9000 170 u133.1 u140.1 u140.2 fun h141 => mx_sv (qf_X13_sign_ nn 59 h141) fun u143 => some (u133.1, u143)) (fun v => JS a K P c p 6 r u v)) := by
  have n3 := BK.2.1
  have J0 := J
  obtain ⟨b, d, ⟨g1, g2, g3⟩, g4, g5⟩ := J
  refine pc_fl ?_
  refine hd_add BK J0 (by omega) ?_; intro u133 h136 hu n1 ND N1 J1
  refine pc_add (by omega) ?_; intro v138 e138
  rw [e138, hu]
  refine pc_fl ?_
  refine p2_sa ?_
  rw [g1]
  refine pc_add (by omega) ?_; intro v29 e29
  refine pc_xl ?_; intro h30 e30
  rw [show v29 = ((p + 1 : Nat) : Int) by omega] at e30
  rw [← e30] at J1
  refine j_v BK (by omega) J1 (by omega) (.inl rfl) (fun u v S => pc_ret (pc_fl (j_semiS BK Gc S))) (fun u v t ix e Jt qt Ct on R => ?_)
  refine pc_ret (pc_fl ?_)
  refine j_semi BK Jt (by omega) (fun k46 w ew => ?_)
  have NDv := nd_rw ND (by omega) (by omega) R on
  have NDw := nd_o (z := ((t + 1 : Nat) : Int)) (m := 160) (j := 23) NDv (.inr (by decide))
  rw [← ew] at NDw
  have R1 := R.1
  have nw : w 160 22 = v 160 22 := by rw [ew, up_n (by omega)]
  have Cw : CHl (a + 1) K w 0 ix 0 (r 160 22 + 1) (w 160 22) ((p + 1 : Nat) : Int) (t : Int) e := by rw [nw, ew, ← n1.2]; exact ch_w Ct (.inr (by decide))
  have o := NDw.2.1.1
  refine ⟨lk_tt (ix := ix) (t := (t : Int)) ⟨hr, Int.le_refl _, by omega⟩ ⟨NDw.1.1, NDw.1.2.1, NDw.1.2.2⟩ (by rw [Int.toNat_natCast]; exact kp) (by rw [o, show (p : Int) + 1 = ((p + 1 : Nat) : Int) by omega]; exact Cw.1) (by rw [o, show (p : Int) + 1 = ((p + 1 : Nat) : Int) by omega]; exact ⟨Cw.2.1, Cw.2.2.1⟩) ⟨by rw [Int.toNat_natCast]; exact k46, by omega⟩, NDw.2.1.2.2.2, by rw [ew]; exact ndf_c (ndf_x N1 R (by omega)) (by decide)⟩
/- return -/
theorem js_return (BK : TBn K c) {rc : tq_X8_readBlock} {rd : tq_X13_block} {a : Int} (ha : 0 ≤ a ∧ a < 40) (Gc : FScG_X8_readBlock rc) (kp : K p = 24) (J : JPp K P c p h r) (hr : 0 ≤ r 160 22) : Pc (mx_sv (xl (oq_add (h 2 10) 1) fun v19 => xl (up_M h 2 10 v19) fun h20 => mx_sv (qf_X9_kind nn h20) fun u23 => if u23 = 46 then (some h20) else (mx_sv (qf_X8_readValue nn (a + 1) h20) fun u25 => some u25)) fun u13 => qj_X8_readStatement_157 nn rc u13) (fun u => Pc (mx_sv (qf_X13_add nn 7 (r 160 23) (r 160 23) r) fun u118 => xl (oq_add (u118.2 160 23) 1) fun v120 => xl (up_M u118.2 160 23 v120) fun h121 => mx_sv (qf_X13_isSign nn (h121 160 23) 59 h121) fun u124 => if ¬ u124 = 0 then (qj_X13_statement_562 nn rd u118.1 h121) else (xl (oq_add a 1) fun v126 => mx_sv (qf_X13_expression nn v126 h121) fun u128 => wr_A 9000 170 u118.1 u128.1 u128.2 fun h129 => qj_X13_statement_562 nn rd u118.1 h129)) (fun v => JS a K P c p 6 r u v)) := by
  have n3 := BK.2.1
  have J0 := J
  obtain ⟨b, d, ⟨g1, g2, g3⟩, g4, g5⟩ := J
  refine pc_fl ?_
  refine hd_add BK J0 (by omega) ?_; intro u118 h121 hu n1 ND N1 J1
  refine pc_fl ?_
  refine p2_sa ?_
  rw [g1]
  refine pc_add (by omega) ?_; intro v19 e19
  refine pc_xl ?_; intro h20 e20
  rw [show v19 = ((p + 1 : Nat) : Int) by omega] at e20
  rw [← e20] at J1
  have J1' := J1
  obtain ⟨b1, d1, ⟨k1, k2, k3⟩, k4, k5⟩ := J1'
  refine pc_sv (c_kind BK b1 k3 k1 k4) ?_; intro u23 q23
  refine pc_fl ?_
  rw [k2]
  refine pc_sv (r_sgn BK d1 rfl (by omega) (k := 46) (by decide) (by decide)) ?_; intro u124 q124
  unfold qj_X13_statement_562
  by_cases k46 : K (p + 1) = 46
  · refine pc_if (fun _ => ?_) (fun z => absurd (by omega) z)
    refine pc_fl ?_
    refine pc_if (fun _ => ?_) (fun z => absurd (by omega) z)
    refine pc_ret (pc_fl ?_)
    rw [hu]
    refine j_semi BK J1 (by omega) (fun _ w ew => ?_)
    have NDw := nd_o (z := ((p + 1 + 1 : Nat) : Int)) (m := 160) (j := 23) ND (.inr (by decide))
    rw [← ew] at NDw
    have nw : w 160 22 = r 160 22 + 1 := by rw [ew, up_n (by omega)]; exact n1.2
    exact ⟨lk_tg ⟨hr, Int.le_refl _, by omega⟩ ⟨NDw.1.1, NDw.1.2.1, NDw.1.2.2, NDw.2.1.1⟩ ⟨by rw [Int.toNat_natCast]; exact kp, by rw [show ((p : Int) + 1).toNat = p + 1 by omega]; exact k46, by omega⟩ ⟨ha.1, by omega⟩, NDw.2.1.2.2.2, by rw [ew]; exact ndf_c N1 (by decide)⟩
  · refine pc_if (fun z => absurd z (by omega)) (fun _ => ?_)
    refine pc_add (by omega) ?_; intro v126 e126
    rw [e126, hu]
    refine pc_fl ?_
    refine pc_if (fun z => absurd z (by omega)) (fun _ => ?_)
    refine j_v BK (by omega) J1 (by omega) (.inl rfl) (fun u v S => pc_ret (pc_fl (j_semiS BK Gc S))) (fun u v t ix e Jt qt Ct on R => ?_)
    refine pc_ret (pc_fl ?_)
    refine j_semi BK Jt (by omega) (fun kt w ew => ?_)
    have NDv := nd_rw ND (by omega) (by omega) R on
    have NDw := nd_o (z := ((t + 1 : Nat) : Int)) (m := 160) (j := 23) NDv (.inr (by decide))
    rw [← ew] at NDw
    have R1 := R.1
    have nw : w 160 22 = v 160 22 := by rw [ew, up_n (by omega)]
    have Cw : CHl (a + 1) K w 0 ix 0 (r 160 22 + 1) (w 160 22) ((p + 1 : Nat) : Int) (t : Int) e := by rw [nw, ew, ← n1.2]; exact ch_w Ct (.inr (by decide))
    have o := NDw.2.1.1
    exact ⟨lk_tr (ix := ix) (t := (t : Int)) ⟨hr, Int.le_refl _, by omega⟩ ⟨NDw.1.1, NDw.1.2.1, NDw.1.2.2⟩ ⟨by rw [Int.toNat_natCast]; exact kp, by rw [show ((p : Int) + 1).toNat = p + 1 by omega]; exact k46⟩ (by rw [o, show (p : Int) + 1 = ((p + 1 : Nat) : Int) by omega]; exact Cw.1) (by rw [o, show (p : Int) + 1 = ((p + 1 : Nat) : Int) by omega]; exact ⟨Cw.2.1, Cw.2.2.1⟩) ⟨by rw [Int.toNat_natCast]; exact kt, by omega⟩, NDw.2.1.2.2.2, by rw [ew]; exact ndf_c (ndf_x N1 R (by omega)) (by decide)⟩
/-- ( E ) behind a word, for node n -/
theorem j_par {α β : Type} (BK : TBn K c) {a : Int} (ha : 0 ≤ a ∧ a ≤ 40) {q : Nat} {n : Int} (J : JPp K P c q h r) (hn : 0 ≤ n ∧ n < r 160 22) {F : ms_M → Option α} {G : ms_M → Option β} {Z : α → β → Prop} (HS : ∀ u v, SFj u v → Pc (F u) (fun U => Pc (G v) (fun V => Z U V))) (HO : ∀ (u v : ms_M) (t : Nat) (ix e : Int), JPp K P c (t + 1) u v → q < t → K t = 41 → CHl a K v 0 ix 0 (r 160 22) (v 160 22) (q : Int) (t : Int) e → v 170 n.toNat = e → RWx r v 170 n.toNat → Pc (F u) (fun U => Pc (G v) (fun V => Z U V))) : Pc (mx_sv (qf_X8_readValue nn a h) fun u8 => mx_sv (qf_X8_need nn 41 u8) fun u10 => F u10) (fun U => Pc (mx_sv (qf_X13_expression nn a r) fun u95 => wr_A 9000 170 n u95.1 u95.2 fun h96 => mx_sv (qf_X13_sign_ nn 41 h96) fun u98 => G u98) (fun V => Z U V)) := by
  refine j_v BK ha J hn (.inl rfl) (fun u v S => ?_) (fun u v t ix e Jt qt Ct on R => ?_)
  · refine pc_se ?_; intro u10 e10
    have F10 := fs_qf_X8_need S.1 u10 e10
    refine pc_fl ?_
    refine pc_sv (ft_qf_X13_sign_ (sf_r S)) ?_; intro u98 Q98
    exact pc_fl (HS u10 u98 (sf_k S F10 Q98))
  · refine p2_sv (j_need BK Jt (k := 41) (by decide) (by decide)) ?_; intro u10 u98 q98
    rcases q98 with ⟨k41, m98, J98⟩ | S
    · have n98 : u98 160 22 = v 160 22 := by rw [m98, up_n (by omega)]
      refine HO u10 u98 t ix e J98 qt k41 (by rw [n98, m98]; exact ch_w Ct (.inr (by decide))) (by rw [m98, up_n (by omega)]; exact on) ⟨by have := R.1; omega, fun c x c1 c2 c3 c4 => by rw [m98, up_n (by omega)]; exact R.2 c x c1 c2 c3 c4⟩
    · exact HS u10 u98 S
/- print -/
theorem js_print (BK : TBn K c) {rc : tq_X8_readBlock} {a : Int} (ha : 0 ≤ a ∧ a < 40) (Gc : FScG_X8_readBlock rc) (kp : K p = 23) (J : JPp K P c p h r) (hr : 0 ≤ r 160 22) : Pc (mx_sv (mx_sv (qf_X8_readCondition nn (a + 1) h) fun u16 => some u16) fun u13 => qj_X8_readStatement_157 nn rc u13) (fun u => Pc (mx_sv (qf_X13_add nn 10 (r 160 23) (r 160 23) r) fun u101 => xl (oq_add (u101.2 160 23) 1) fun v103 => xl (up_M u101.2 160 23 v103) fun h104 => mx_sv (qf_X13_sign_ nn 40 h104) fun u106 => xl (oq_add a 1) fun v108 => mx_sv (qf_X13_expression nn v108 u106) fun u110 => wr_A 9000 170 u101.1 u110.1 u110.2 fun h111 => mx_sv (qf_X13_sign_ nn 41 h111) fun u113 => mx_sv (qf_X13_sign_ nn 59 u113) fun u115 => some (u101.1, u115)) (fun v => JS a K P c p 6 r u v)) := by
  have n3 := BK.2.1
  have J0 := J
  obtain ⟨b, d, ⟨g1, g2, g3⟩, g4, g5⟩ := J
  refine pc_fl ?_
  refine hd_add BK J0 (by omega) ?_; intro u101 h104 hu n1 ND N1 J1
  refine pc_fl ?_
  refine p2_sa (p2_sa ?_)
  unfold qf_X8_readCondition
  rw [g1]
  refine pc_add (by omega) ?_; intro v3 e3
  refine pc_xl ?_; intro h4 e4
  rw [show v3 = ((p + 1 : Nat) : Int) by omega] at e4
  rw [← e4] at J1
  -- what comes behind ( E )
  have SE : ∀ u v, SFj u v → Pc (some u) (fun aa => Pc (mx_sv (qf_X13_sign_ nn 59 v) fun u115 => some (r 160 22, u115)) (fun V => Pc (some aa) (fun aa => Pc (qj_X8_readStatement_157 nn rc aa) (fun U => JS a K P c p 6 r U V)))) := fun u v S => pc_ret (pc_fl (pc_ret (pc_fl (j_semiS BK Gc S))))
  refine p2_sv (j_need BK J1 (k := 40) (by decide) (by decide)) ?_; intro u6 u106 q106
  rcases q106 with ⟨k40, m106, J2⟩ | S
  · have n106 : u106 160 22 = r 160 22 + 1 := by rw [m106, up_n (by omega)]; exact n1.2
    have ND106 := nd_o (z := ((p + 1 + 1 : Nat) : Int)) (m := 160) (j := 23) ND (.inr (by decide))
    rw [← m106] at ND106
    have N106 : NDf r u106 := by rw [m106]; exact ndf_c N1 (by decide)
    refine pc_fl ?_
    refine pc_add (by omega) ?_; intro v108 e108
    rw [e108, hu]
    refine pc_fl ?_
    refine j_par BK (by omega) J2 (by omega) (fun u v S => SE u v S) (fun u v t ix e Jt qt k41 Ct on R => ?_)
    refine pc_ret (pc_fl (pc_ret (pc_fl ?_)))
    refine j_semi BK Jt (by omega) (fun k46 w ew => ?_)
    have NDv := nd_rw ND106 (by omega) (by omega) R on
    have NDw := nd_o (z := ((t + 1 + 1 : Nat) : Int)) (m := 160) (j := 23) NDv (.inr (by decide))
    rw [← ew] at NDw
    have R1 := R.1
    have nw : w 160 22 = v 160 22 := by rw [ew, up_n (by omega)]
    have Cw : CHl (a + 1) K w 0 ix 0 (r 160 22 + 1) (w 160 22) ((p + 1 + 1 : Nat) : Int) (t : Int) e := by rw [nw, ew, ← n106]; exact ch_w Ct (.inr (by decide))
    have o := NDw.2.1.1
    exact ⟨lk_tp (ix := ix) (t := (t : Int)) ⟨hr, Int.le_refl _, by omega⟩ ⟨NDw.1.1, NDw.1.2.1, NDw.1.2.2⟩ ⟨by rw [Int.toNat_natCast]; exact kp, by rw [show ((p : Int) + 1).toNat = p + 1 by omega]; exact k40⟩ (by rw [o, show (p : Int) + 2 = ((p + 1 + 1 : Nat) : Int) by omega]; exact Cw.1) (by rw [o, show (p : Int) + 2 = ((p + 1 + 1 : Nat) : Int) by omega]; exact ⟨Cw.2.1, Cw.2.2.1⟩) ⟨by rw [Int.toNat_natCast]; exact k41, by rw [show ((t : Int) + 1).toNat = t + 1 by omega]; exact k46, by omega⟩, NDw.2.1.2.2.2, by rw [ew]; exact ndf_c (ndf_x N106 R (by omega)) (by decide)⟩
  · -- no (
    refine pc_se ?_; intro u8 e8
    have F8 := fs_qf_X8_readValue S.1 u8 e8
    refine pc_se ?_; intro u10 e10
    have F10 := fs_qf_X8_need (fs_n S.1 F8) u10 e10
    refine pc_fl ?_
    refine pc_xl ?_; intro v108 _
    refine pc_sv (ft_qf_X13_expression (sf_r S)) ?_; intro u110 Q110
    refine pc_wA ?_; intro _ _ h111 E111
    have F111 : FSr u106 h111 := by rw [E111]; exact ft_u Q110 (by omega)
    refine pc_sv (ft_qf_X13_sign_ (ft_n (sf_r S) F111)) ?_; intro u113 Q113
    have S2 := sf_k S (fs_t F8 F10) (ft_t F111 Q113)
    rw [hu]
    exact pc_fl (SE u10 u113 S2)
end
end
section
/- PARSE: variable, plain -/
section
variable {nn : Nat} {K P : Nat → Int} {c p : Nat} {h g r w u v : ms_M}
/- TYPE NAME = E ; -/
theorem js_var (BK : TBn K c) {rc : tq_X8_readBlock} {rd : tq_X13_block} {a : Int} (ha : 0 ≤ a ∧ a < 40) (Gc : FScG_X8_readBlock rc) (Gr : FSrG_X13_block rd) (kp : TYp K (p : Int)) (J : JPp K P c p h r) (hr : 0 ≤ r 160 22) : Pc (mx_sv (qf_X8_readVariable nn (a + 1) h) fun u16 => qj_X8_readStatement_157 nn rc u16) (fun u => Pc (mx_sv (qf_X13_type nn r) fun u196 => mx_sv (qf_X13_add nn 2 0 (r 160 23) u196) fun u198 => xl (oq_mul 4 (u198.2 160 46)) fun v201 => if (u198.2 160 47) = 0 then (qj_X13_statement_78 nn rd a u198.1 0 v201 u198.1 u198.2) else (qj_X13_statement_78 nn rd a u198.1 2 v201 u198.1 u198.2)) (fun v => JS a K P c p 6 r u v)) := by
  have n3 := BK.2.1
  have J0 := J
  have g2 : r 160 23 = (p : Int) := J.2.2.1.2.1
  rw [g2]
  refine p2_sa ?_
  unfold qf_X8_readVariable
  -- behind a FAULT: the class
  have FC : ∀ a1 : ms_M, ¬ a1 2 11 = 0 → Pc (qj_X8_readStatement_157 nn rc a1) (fun U => FSc a1 U) := fun a1 S => fs_qj_X8_readStatement_157 Gc S
  refine p2_sv (j_type BK J0) ?_; intro u2 u196 q196
  rcases q196 with S | ⟨t, bs, rw', ⟨Jt, pt⟩, TK, ⟨b1, b2, b3⟩, n196, F196⟩
  · refine pj_sf (o := fun a => a) (q := fun b => b.2) S ?_ ?_ (fun a b s => pc_imp (FC a s.1) (fun U z => .inl (sf_k s z ft_r)))
    · have S1 : ¬ u2 2 11 = 0 := S.1
      have F : FSc u2 u2 := fs_r
      refine pc_sv (fs_qf_X8_need (fs_n S1 F)) ?_; intro u4 Qu4
      have Fu4 : FSc u2 u4 := fs_t F Qu4
      refine pc_sv (fs_qf_X8_need (fs_n S1 Fu4)) ?_; intro u6 Qu6
      have Fu6 : FSc u2 u6 := fs_t Fu4 Qu6
      refine pc_sv (fs_qf_X8_readValue (fs_n S1 Fu6)) ?_; intro u8 Qu8
      have Fu8 : FSc u2 u8 := fs_t Fu6 Qu8
      exact pc_ret Fu8
    · have S1 : ¬ u196 160 9 = 0 := sf_r S
      have F : FSr u196 u196 := ft_r
      refine pc_sv (ft_qf_X13_add (ft_n S1 F)) ?_; intro u198 Qu198
      have Fu198 : FSr u196 u198.2 := ft_t F Qu198
      refine pc_xl ?_; intro v201 _
      refine pc_if (fun _ => ?_) (fun _ => ?_)
      · exact pc_imp (ft_qj_X13_statement_78 Gr (ft_n S1 Fu198)) (fun _ q => ft_t Fu198 q)
      · exact pc_imp (ft_qj_X13_statement_78 Gr (ft_n S1 Fu198)) (fun _ q => ft_t Fu198 q)
  · have N196 : NDf r u196 := ⟨by omega, fun c x c1 c2 c3 => F196 c x (by omega)⟩
    refine pc_fl ?_
    refine pc_sv r_add ?_; intro u198 q198
    obtain ⟨⟨x1, x2, x3⟩, ND, FR⟩ := q198
    rw [n196] at x1 x2 x3 ND FR
    have c46 : u198.2 160 46 = (p : Int) := by rw [FR 160 46 (by omega) (by omega)]; exact b2
    have c47 : u198.2 160 47 = rw' := by rw [FR 160 47 (by omega) (by omega)]; exact b3
    have c45 : u198.2 160 45 = bs := by rw [FR 160 45 (by omega) (by omega)]; exact b1
    have J198 : JPp K P c t u2 u198.2 := jp_r Jt (fun c k z => FR c k (by omega) (by omega))
    have N198 : NDf r u198.2 := ⟨by omega, fun c x c1 c2 c3 => by rw [FR c x (by omega) (by omega)]; exact N196.2 c x c1 c2 c3⟩
    have rw01 : rw' = 0 ∨ rw' = 1 := by unfold TYk at TK; omega
    have e4p : oq_mul 4 (p : Int) = 4 * (p : Int) := by have := J.2.2.1.2.2; exact oq_mul_eq (by omega) (by omega) (by omega)
    rw [c46, c47, e4p]
    refine pc_xl ?_; intro v201 e201
    -- the rest, with what is added for [ ]
    have GO : ∀ s0 : Int, s0 = 2 * rw' → Pc (qj_X13_statement_78 nn rd a u198.1 s0 v201 u198.1 u198.2) (fun V => Pc (mx_sv (qf_X8_need nn 2 u2) fun u4 => mx_sv (qf_X8_need nn 51 u4) fun u6 => mx_sv (qf_X8_readValue nn (a + 1) u6) fun u8 => some u8) (fun aa => Pc (qj_X8_readStatement_157 nn rc aa) (fun U => JS a K P c p 6 r U V))) := fun s0 hs0 => by
      have pc3 := J.2.2.1.2.2
      unfold qj_X13_statement_78
      refine pc_add (by omega) ?_; intro v49 e49
      refine pc_wA ?_; intro i1 i2 h50 e50
      rw [x2] at e50
      have d45 : h50 160 45 = bs := by rw [e50, up_n (by omega)]; exact c45
      rw [d45]
      refine pc_wA ?_; intro i3 i4 h53 e53
      rw [x2] at e53
      have ND53 := nd_5 (z := bs) (nd_2 (z := v49) ND)
      rw [← e50, ← e53] at ND53
      have J53 : JPp K P c t u2 h53 := by rw [e53, e50]; exact jp_w (jp_w J198 (by decide)) (by decide)
      have N53 : NDf r h53 := by rw [e53, e50]; exact ndf_w (ndf_w N198 (by decide) (by omega)) (by decide) (by omega)
      have n53 : h53 160 22 = r 160 22 + 1 := by rw [e53, up_n (by omega), e50, up_n (by omega)]; exact x3
      refine pc_fl ?_
      refine p2_sv (j_name BK J53) ?_; intro u4 u56 q56
      rcases q56 with ⟨k2, m56, J56⟩ | S
      · have w56 : u56.1 = (t : Int) := by rw [m56]
        have mm56 : u56.2 = up_M h53 160 23 ((t + 1 : Nat) : Int) := by rw [m56]
        refine pc_fl ?_
        refine pc_wA ?_; intro i5 i6 h57 e57
        rw [x2] at e57
        have c57 : h57 160 23 = ((t + 1 : Nat) : Int) := by rw [e57, up_n (by omega)]; exact J56.2.2.1.2.1
        rw [c57]
        refine pc_wA ?_; intro i7 i8 h60 e60
        rw [x2] at e60
        have ND60 := nd_6 (z := ((t + 1 : Nat) : Int)) (nd_8 (z := u56.1) (nd_o (z := ((t + 1 : Nat) : Int)) (m := 160) (j := 23) ND53 (.inr (by decide))))
        rw [← mm56, ← e57, ← e60] at ND60
        have J60 : JPp K P c (t + 1) u4 h60 := by rw [e60, e57]; exact jp_w (jp_w J56 (by decide)) (by decide)
        have N60 : NDf r h60 := by rw [e60, e57, mm56]; exact ndf_w (ndf_w (ndf_c N53 (by decide)) (by decide) (by omega)) (by decide) (by omega)
        have n60 : h60 160 22 = r 160 22 + 1 := by rw [e60, up_n (by omega), e57, up_n (by omega), mm56, up_n (by omega)]; exact n53
        refine pc_fl ?_
        refine p2_sv (j_need BK J60 (k := 51) (by decide) (by decide)) ?_; intro u6 u62 q62
        rcases q62 with ⟨k51, m62, J62⟩ | S
        · have ND62 := nd_o (z := ((t + 1 + 1 : Nat) : Int)) (m := 160) (j := 23) ND60 (.inr (by decide))
          rw [← m62] at ND62
          have N62 : NDf r u62 := by rw [m62]; exact ndf_c N60 (by decide)
          have n62 : u62 160 22 = r 160 22 + 1 := by rw [m62, up_n (by omega)]; exact n60
          refine pc_fl ?_
          refine pc_add (by omega) ?_; intro v64 e64
          rw [e64, x2]
          refine pc_fl ?_
          refine j_v BK (by omega) J62 (by omega) (.inl rfl) (fun u v S => pc_ret (pc_fl (j_semiS BK Gc S))) (fun u v t2 ix e Jt2 qt Ct on R => ?_)
          refine pc_ret (pc_fl ?_)
          refine j_semi BK Jt2 (by omega) (fun k46 w ew => ?_)
          have NDv := nd_rw ND62 (by omega) (by omega) R on
          have NDw := nd_o (z := ((t2 + 1 : Nat) : Int)) (m := 160) (j := 23) NDv (.inr (by decide))
          rw [← ew] at NDw
          have R1 := R.1
          have nw : w 160 22 = v 160 22 := by rw [ew, up_n (by omega)]
          have Cw : CHl (a + 1) K w 0 ix 0 (r 160 22 + 1) (w 160 22) ((t + 1 + 1 : Nat) : Int) (t2 : Int) e := by rw [nw, ew, ← n62]; exact ch_w Ct (.inr (by decide))
          have o := NDw.2.1.1
          exact ⟨lk_tv (ix := ix) (t := (t : Int)) (u := (t2 : Int)) (bs := bs) (rw := rw') ⟨hr, Int.le_refl _, by omega⟩ ⟨NDw.1.1, by rw [NDw.1.2.1]; exact w56, NDw.1.2.2, by rw [NDw.2.1.2.2.1]; omega, NDw.2.2.1, by rw [NDw.2.2.2.1]; omega⟩ ⟨TK, kp, by rw [Int.toNat_natCast]; exact k2, by rw [show ((t : Int) + 1).toNat = t + 1 by omega]; exact k51⟩ (by rw [o, show (t : Int) + 2 = ((t + 1 + 1 : Nat) : Int) by omega]; exact Cw.1) (by rw [o, show (t : Int) + 2 = ((t + 1 + 1 : Nat) : Int) by omega]; exact ⟨Cw.2.1, Cw.2.2.1⟩) ⟨by rw [Int.toNat_natCast]; exact k46, by omega⟩, NDw.2.1.2.2.2, by rw [ew]; exact ndf_c (ndf_x N62 R (by omega)) (by decide)⟩
        · refine pj_sf (o := fun a => a) (q := fun b => b.2) S ?_ ?_ (fun a b s => pc_imp (FC a s.1) (fun U z => .inl (sf_k s z ft_r)))
          · have S1 : ¬ u6 2 11 = 0 := S.1
            have F : FSc u6 u6 := fs_r
            refine pc_sv (fs_qf_X8_readValue (fs_n S1 F)) ?_; intro u8 Qu8
            have Fu8 : FSc u6 u8 := fs_t F Qu8
            exact pc_ret Fu8
          · have S1 : ¬ u62 160 9 = 0 := sf_r S
            have F : FSr u62 u62 := ft_r
            refine pc_xl ?_; intro v64 _
            refine pc_sv (ft_qf_X13_expression (ft_n S1 F)) ?_; intro u66 Qu66
            have Fu66 : FSr u62 u66.2 := ft_t F Qu66
            refine pc_wA ?_; intro _ _ h67 Eh67
            have Fh67 : FSr u62 h67 := by rw [Eh67]; exact ft_u Fu66 (by omega)
            refine pc_sv (ft_qf_X13_sign_ (ft_n S1 Fh67)) ?_; intro u69 Qu69
            have Fu69 : FSr u62 u69 := ft_t Fh67 Qu69
            exact pc_ret Fu69
      · refine pj_sf (o := fun a => a) (q := fun b => b.2) S ?_ ?_ (fun a b s => pc_imp (FC a s.1) (fun U z => .inl (sf_k s z ft_r)))
        · have S1 : ¬ u4 2 11 = 0 := S.1
          have F : FSc u4 u4 := fs_r
          refine pc_sv (fs_qf_X8_need (fs_n S1 F)) ?_; intro u6 Qu6
          have Fu6 : FSc u4 u6 := fs_t F Qu6
          refine pc_sv (fs_qf_X8_readValue (fs_n S1 Fu6)) ?_; intro u8 Qu8
          have Fu8 : FSc u4 u8 := fs_t Fu6 Qu8
          exact pc_ret Fu8
        · have S1 : ¬ u56.2 160 9 = 0 := sf_r S
          have F : FSr u56.2 u56.2 := ft_r
          refine pc_wA ?_; intro _ _ h57 Eh57
          have Fh57 : FSr u56.2 h57 := by rw [Eh57]; exact ft_u F (by omega)
          refine pc_wA ?_; intro _ _ h60 Eh60
          have Fh60 : FSr u56.2 h60 := by rw [Eh60]; exact ft_u Fh57 (by omega)
          refine pc_sv (ft_qf_X13_sign_ (ft_n S1 Fh60)) ?_; intro u62 Qu62
          have Fu62 : FSr u56.2 u62 := ft_t Fh60 Qu62
          refine pc_xl ?_; intro v64 _
          refine pc_sv (ft_qf_X13_expression (ft_n S1 Fu62)) ?_; intro u66 Qu66
          have Fu66 : FSr u56.2 u66.2 := ft_t Fu62 Qu66
          refine pc_wA ?_; intro _ _ h67 Eh67
          have Fh67 : FSr u56.2 h67 := by rw [Eh67]; exact ft_u Fu66 (by omega)
          refine pc_sv (ft_qf_X13_sign_ (ft_n S1 Fh67)) ?_; intro u69 Qu69
          have Fu69 : FSr u56.2 u69 := ft_t Fh67 Qu69
          exact pc_ret Fu69
    refine pc_if (fun z => ?_) (fun z => ?_)
    · exact GO 0 (by omega)
    · exact GO 2 (by omega)
/- E ; or E = E ; -/
theorem js_plain (BK : TBn K c) {rc : tq_X8_readBlock} {a : Int} (ha : 0 ≤ a ∧ a < 40) (Gc : FScG_X8_readBlock rc) (kp : PLp K (p : Int)) (J : JPp K P c p h r) (hr : 0 ≤ r 160 22) : Pc (mx_sv (mx_sv (qf_X8_readValue nn (a + 1) h) fun u9 => mx_sv (qf_X8_accept nn 51 u9) fun u11 => if u11.1 = 0 then (some u11.2) else (mx_sv (qf_X8_readValue nn (a + 1) u11.2) fun u13 => some u13)) fun u13 => qj_X8_readStatement_157 nn rc u13) (fun u => Pc (qf_X13_plain nn a r) (fun v => JS a K P c p 6 r u v)) := by
  have n3 := BK.2.1
  have J0 := J
  obtain ⟨b, d, ⟨g1, g2, g3⟩, g4, g5⟩ := J
  unfold qf_X13_plain
  rw [g2]
  refine pc_fl ?_
  refine pc_sv r_add ?_; intro u6 q6
  obtain ⟨⟨x1, x2, x3⟩, ND, FR⟩ := q6
  have J6 : JPp K P c p h u6.2 := jp_r J0 (fun c k z => FR c k (by omega) (by omega))
  have N6 : NDf r u6.2 := ⟨by rw [x3]; omega, fun c x c1 c2 c3 => FR c x (by omega) (by omega)⟩
  refine pc_add (by omega) ?_; intro v8 e8
  rw [e8, x2]
  refine pc_fl ?_
  refine p2_sa ?_
  unfold qj_X13_plain_89
  refine j_v BK (by omega) J6 (by omega) (.inl rfl) (fun u v S => ?_) (fun u v t ix e Jt qt Ct on R => ?_)
  · refine pc_se ?_; intro u11 e11
    have F11 := fs_qf_X8_accept S.1 u11 e11
    refine pc_fl ?_
    refine pc_if (fun _ => ?_) (fun z => absurd (Decidable.not_not.1 z) (sf_r S))
    refine pc_fl ?_
    have S2 := sf_k S F11 ft_r
    refine pc_if (fun _ => pc_ret (pc_fl (j_semiS BK Gc S2))) (fun _ => ?_)
    refine pc_se ?_; intro u13 e13
    have F13 := fs_qf_X8_readValue S2.1 u13 e13
    exact pc_ret (pc_fl (j_semiS BK Gc (sf_k S2 F13 ft_r)))
  · have Jt' := Jt
    obtain ⟨bt, dt, ⟨l1, l2, l3⟩, l4, l5⟩ := Jt'
    have NDv := nd_rw ND (by omega) (by omega) R on
    have Nv : NDf r v := ndf_x N6 R (by omega)
    have R1 := R.1
    rw [x3] at Ct
    refine pc_sv (c_acc BK bt l3 l1 l4) ?_; intro u11 q11
    refine pc_fl ?_
    refine pc_if (fun z => absurd l5 z) (fun _ => ?_)
    rw [l2]
    refine pc_sv (r_sgn BK dt rfl (by omega) (k := 51) (by decide) (by decide)) ?_; intro u15 q15
    rcases q11 with ⟨k51, m11⟩ | ⟨k51, m11⟩
    · refine pc_if (fun z => absurd z (by omega)) (fun _ => ?_)
      refine pc_wA ?_; intro i1 i2 h17 e17
      have c17 : h17 160 23 = (t : Int) := by rw [e17, up_n (by omega)]; exact l2
      rw [c17]
      refine pc_wA ?_; intro i3 i4 h20 e20
      have c20 : h20 160 23 = (t : Int) := by rw [e20, up_n (by omega)]; exact c17
      rw [c20]
      refine pc_add (by omega) ?_; intro v22 e22
      refine pc_xl ?_; intro h23 e23
      rw [show v22 = ((t + 1 : Nat) : Int) by omega] at e23
      refine pc_add (by omega) ?_; intro v25 e25
      rw [e25]
      have ND23 := nd_o (z := ((t + 1 : Nat) : Int)) (m := 160) (j := 23) (nd_8 (z := (t : Int)) (nd_7 (z := 12) NDv)) (.inr (by decide))
      rw [← e17, ← e20, ← e23] at ND23
      have N23 : NDf r h23 := by rw [e23, e20, e17]; exact ndf_c (ndf_w (ndf_w Nv (by decide) (by omega)) (by decide) (by omega)) (by decide)
      have n23 : h23 160 22 = v 160 22 := by rw [e23, up_n (by omega), e20, up_n (by omega), e17, up_n (by omega)]
      have J20 : JPp K P c t u h20 := by rw [e20, e17]; exact jp_w (jp_w Jt (by decide)) (by decide)
      have J23 : JPp K P c (t + 1) (up_M u 2 10 ((t + 1 : Nat) : Int)) h23 := by rw [e23]; exact jp_up BK J20 (jp_lt BK l3 (by omega))
      have C23 : CHl (a + 1) K h23 0 ix 0 (r 160 22 + 1) (v 160 22) (p : Int) (t : Int) e := by
        rw [e23, e20, e17]; exact ch_w (ch_w (ch_w Ct (.inl (.inl (by omega)))) (.inl (.inl (by omega)))) (.inr (by decide))
      refine pc_fl ?_
      rw [m11]
      dsimp only
      refine pc_if (fun z => absurd z (by decide)) (fun _ => ?_)
      refine j_v BK (by omega) J23 (by omega) (.inr rfl) (fun u v S => pc_ret (pc_fl (j_semiS BK Gc S))) (fun u2 v2 t2 iy e2 Jt2 qt2 Ct2 on2 R2 => ?_)
      refine pc_ret (pc_fl ?_)
      refine j_semi BK Jt2 (by omega) (fun k46 w ew => ?_)
      have ND2 := nd_rw1 ND23 (by omega) (by omega) R2 on2
      have NDw := nd_o (z := ((t2 + 1 : Nat) : Int)) (m := 160) (j := 23) ND2 (.inr (by decide))
      rw [← ew] at NDw
      have R3 := R2.1
      have nw : w 160 22 = v2 160 22 := by rw [ew, up_n (by omega)]
      have C2w : CHl (a + 1) K w 0 iy 0 (v 160 22) (w 160 22) ((t + 1 : Nat) : Int) (t2 : Int) e2 := by rw [nw, ew, ← n23]; exact ch_w Ct2 (.inr (by decide))
      have C1w : CHl (a + 1) K w 0 ix 0 (r 160 22 + 1) (v 160 22) (p : Int) (t : Int) e := by
        rw [ew]
        refine ch_w ?_ (.inr (by decide))
        obtain ⟨c1, c2, c3, c4, c5, c6⟩ := C23
        have old : ∀ c x : Nat, 167 ≤ c → c ≤ 177 → r 160 22 + 1 ≤ (x : Int) → (x : Int) < v 160 22 → v2 c x = h23 c x := fun c x y1 y2 y3 y4 => R2.2 c x y1 y2 (by omega) (by omega)
        exact ⟨lk_map c1 (fun c x y1 y2 _ y3 y4 _ _ => old c x y1 y2 y3 y4), by rw [old 169 _ (by decide) (by decide) (by omega) (by omega)]; exact c2, by rw [old 177 _ (by decide) (by decide) (by omega) (by omega)]; exact c3, c4, c5, c6⟩
      have o0 := NDw.2.1.1
      have o1 := NDw.2.1.2.1
      exact ⟨lk_te (ix := ix) (iy := iy) (t := (t : Int)) (u := (t2 : Int)) (y := v 160 22) ⟨hr, Int.le_refl _, by omega⟩ ⟨by omega, by omega⟩ ⟨NDw.1.1, NDw.1.2.2, NDw.1.2.1⟩ kp (by rw [o0]; exact C1w.1) (by rw [o0]; exact ⟨C1w.2.1, C1w.2.2.1⟩) (by rw [Int.toNat_natCast]; exact k51) (by rw [o1, show (t : Int) + 1 = ((t + 1 : Nat) : Int) by omega]; exact C2w.1) (by rw [o1, show (t : Int) + 1 = ((t + 1 : Nat) : Int) by omega]; exact ⟨C2w.2.1, C2w.2.2.1⟩) ⟨by rw [Int.toNat_natCast]; exact k46, by omega⟩, NDw.2.1.2.2.2, by rw [ew]; exact ndf_c (ndf_x N23 R2 (by omega)) (by decide)⟩
    · refine pc_if (fun _ => ?_) (fun z => absurd (by omega) z)
      refine pc_fl ?_
      rw [m11]
      dsimp only
      refine pc_if (fun _ => ?_) (fun z => absurd rfl z)
      refine pc_ret (pc_fl ?_)
      refine j_semi BK Jt (by omega) (fun k46 w ew => ?_)
      have NDw := nd_o (z := ((t + 1 : Nat) : Int)) (m := 160) (j := 23) NDv (.inr (by decide))
      rw [← ew] at NDw
      have nw : w 160 22 = v 160 22 := by rw [ew, up_n (by omega)]
      have Cw : CHl (a + 1) K w 0 ix 0 (r 160 22 + 1) (w 160 22) (p : Int) (t : Int) e := by rw [nw, ew]; exact ch_w Ct (.inr (by decide))
      have o := NDw.2.1.1
      exact ⟨lk_ta (ix := ix) (t := (t : Int)) ⟨hr, Int.le_refl _, by omega⟩ ⟨NDw.1.1, NDw.1.2.2⟩ kp (by rw [o]; exact Cw.1) (by rw [o]; exact ⟨Cw.2.1, Cw.2.2.1⟩) ⟨by rw [Int.toNat_natCast]; exact k46, by omega⟩, NDw.2.1.2.2.2, by rw [ew]; exact ndf_c Nv (by decide)⟩
end
end
section
/- PARSE: if, while, try; all of S -/
section
variable {nn : Nat} {K P : Nat → Int} {c p : Nat} {h g r w u v : ms_M}
/- a statement that becomes row m of node n -/
theorem j_st {α β : Type} {rc : tq_X8_readBlock} {rd : tq_X13_block} {a : Int} (ha : 0 ≤ a ∧ a ≤ 40) {s : Nat} {x : Int → ms_M → Option ms_M} {y : Int → ms_M → Option (Int × ms_M)} (IT : PT K P c s x y) (hs : s = 6 ∨ s = 8) {q m : Nat} {n : Int} (J : JPp K P c q h r) (hn : 0 ≤ n ∧ n < r 160 22) (hm : 170 ≤ m ∧ m ≤ 172) {F : ms_M → Option α} {G : ms_M → Option β} {Z : α → β → Prop} (HS : ∀ u v, SFj u v → Pc (F u) (fun U => Pc (G v) (fun V => Z U V))) (HO : ∀ (u v : ms_M) (t : Nat) (e : Int), JPp K P c t u v → q < t → LKn a K v s 0 0 (r 160 22) (v 160 22) (q : Int) (t : Int) e → v m n.toNat = e → RWx r v m n.toNat → Pc (F u) (fun U => Pc (G v) (fun V => Z U V))) : Pc (mx_sv (x a h) F) (fun U => Pc (mx_sv (y a r) fun u => wr_A 9000 m n u.1 u.2 fun h2 => G h2) (fun V => Z U V)) := by
  refine p2_sv (IT a q h r ha J (by omega)) ?_; intro u4 u3 q3
  rcases q3 with S | ⟨t, ⟨J1, pq⟩, L1, x1, N1⟩
  · refine pc_fl ?_
    refine pc_wA ?_; intro _ _ h4 E4
    refine pc_fl ?_
    refine HS u4 h4 ⟨S.1, ?_, ?_⟩
    · rw [E4, up_n (by omega)]; exact S.2.1
    · rw [E4, up_n (by omega)]; exact S.2.2
  · refine pc_fl ?_
    refine pc_wA ?_; intro i1 i2 h4 e4
    refine pc_fl ?_
    have n4 : h4 160 22 = u3.2 160 22 := by rw [e4, up_n (by omega)]
    have nn1 := N1.1
    refine HO u4 h4 t u3.1 (by rw [e4]; exact jp_w J1 (by omega)) pq ?_ (by rw [e4, up_s]) ⟨by omega, fun c x c1 c2 c3 c4 => by rw [e4, up_n c4]; exact N1.2 c x c1 c2 c3⟩
    rw [n4, e4]; exact lk_w L1 (.inl (.inl (by omega)))
theorem nd_rw2 {n k t f o w2 x y me sl ib e : Int} (D : NDn r n k t f o w2 x y me sl ib) (h0 : 0 ≤ n) (hn : n < r 160 22) (R : RWx r v 172 n.toNat) (e0 : v 172 n.toNat = e) : NDn v n k t f o w2 e y me sl ib := by
  obtain ⟨⟨a1, a2, a3⟩, ⟨b1, b2, b3, b4⟩, d1, d2, d3⟩ := D
  have E : ∀ c : Nat, 167 ≤ c → c ≤ 177 → ¬ c = 172 → v c n.toNat = r c n.toNat := fun c c1 c2 c3 => R.2 c n.toNat c1 c2 (by omega) (fun z => c3 z.1)
  exact ⟨⟨by rw [E 167 (by decide) (by decide) (by decide)]; exact a1, by rw [E 168 (by decide) (by decide) (by decide)]; exact a2, by rw [E 169 (by decide) (by decide) (by decide)]; exact a3⟩, ⟨by rw [E 170 (by decide) (by decide) (by decide)]; exact b1, by rw [E 171 (by decide) (by decide) (by decide)]; exact b2, e0, by rw [E 173 (by decide) (by decide) (by decide)]; exact b4⟩, by rw [E 175 (by decide) (by decide) (by decide)]; exact d1, by rw [E 176 (by decide) (by decide) (by decide)]; exact d2, by rw [E 177 (by decide) (by decide) (by decide)]; exact d3⟩
/-- a child's tree under RWx at an older node -/
theorem ch_rw {s m n : Nat} {dp i l a b p q e : Int} (C : CHl dp K r s i l a b p q e) (hn : (n : Int) < a) (hb : b ≤ r 160 22) (R : RWx r v m n) : CHl dp K v s i l a b p q e := by
  obtain ⟨c1, c2, c3, c4, c5, c6⟩ := C
  exact ⟨lk_map c1 (fun c x y1 y2 _ y3 y4 _ _ => R.2 c x y1 y2 (by omega) (by omega)), by rw [R.2 169 _ (by decide) (by decide) (by omega) (by omega)]; exact c2, by rw [R.2 177 _ (by decide) (by decide) (by omega) (by omega)]; exact c3, c4, c5, c6⟩
theorem lk_rw {s m n : Nat} {dp i l a b p q e : Int} (C : LKn dp K r s i l a b p q e) (hn : (n : Int) < a) (hb : b ≤ r 160 22) (R : RWx r v m n) : LKn dp K v s i l a b p q e := lk_map C (fun c x y1 y2 _ y3 y4 _ _ => R.2 c x y1 y2 (by omega) (by omega))
/- if -/
theorem js_if (BK : TBn K c) {rc : tq_X8_readBlock} {rd : tq_X13_block} {a : Int} (ha : 0 ≤ a ∧ a < 40) (Gc : FScG_X8_readBlock rc) (Gr : FSrG_X13_block rd) (IT : PT K P c 6 rc.2.1 rd.2) (kp : K p = 18) (J : JPp K P c p h r) (hr : 0 ≤ r 160 22) : Pc (xl (oq_add a 1) fun v18 => mx_sv (qf_X8_readCondition nn v18 h) fun u20 => xl (oq_add a 1) fun v21 => mx_sv (rc.2.1 v21 u20) fun u23 => mx_sv (qf_X8_accept nn 15 u23) fun u25 => if u25.1 = 0 then (some u25.2) else (xl (oq_add a 1) fun v26 => mx_sv (rc.2.1 v26 u25.2) fun u28 => some u28)) (fun u => Pc (mx_sv (qf_X13_add nn 3 (r 160 23) (r 160 23) r) fun u86 => xl (oq_add (u86.2 160 23) 1) fun v88 => xl (up_M u86.2 160 23 v88) fun h89 => mx_sv (qf_X13_sign_ nn 40 h89) fun u91 => xl (oq_add a 1) fun v93 => mx_sv (qf_X13_expression nn v93 u91) fun u95 => wr_A 9000 170 u86.1 u95.1 u95.2 fun h96 => mx_sv (qf_X13_sign_ nn 41 h96) fun u98 => qj_X13_statement_310 nn rd a u86.1 u98) (fun v => JS a K P c p 6 r u v)) := by
  have n3 := BK.2.1
  have J0 := J
  obtain ⟨b, d, ⟨g1, g2, g3⟩, g4, g5⟩ := J
  refine pc_fl ?_
  refine hd_add BK J0 (by omega) ?_; intro u86 h89 hu n1 ND N1 J1
  refine pc_fl ?_
  refine pc_add (by omega) ?_; intro v18 e18
  rw [e18]
  refine p2_sa ?_
  unfold qf_X8_readCondition
  rw [g1]
  refine pc_add (by omega) ?_; intro v3 e3
  refine pc_xl ?_; intro h4 e4
  rw [show v3 = ((p + 1 : Nat) : Int) by omega] at e4
  rw [← e4] at J1
  -- behind a FAULT
  have SE : ∀ u v, SFj u v → Pc (some u) (fun u20 => Pc (qj_X13_statement_310 nn rd a (r 160 22) v) (fun V => Pc (xl (oq_add a 1) fun v21 => mx_sv (rc.2.1 v21 u20) fun u23 => mx_sv (qf_X8_accept nn 15 u23) fun u25 => if u25.1 = 0 then (some u25.2) else (xl (oq_add a 1) fun v26 => mx_sv (rc.2.1 v26 u25.2) fun u28 => some u28)) (fun U => JS a K P c p 6 r U V))) := fun u20 v S => by
    refine pc_ret (pc_fl ?_)
    refine pj_sf (o := fun a => a) (q := fun b => b.2) S ?_ (ft_qj_X13_statement_310 Gr (sf_r S)) (fun a b s => .inl s)
    have S1 : ¬ u20 2 11 = 0 := S.1
    have F : FSc u20 u20 := fs_r
    refine pc_xl ?_; intro v21 _
    refine pc_sv (Gc.2.1 (fs_n S1 F)) ?_; intro u23 Qu23
    have Fu23 : FSc u20 u23 := fs_t F Qu23
    refine pc_sv (fs_qf_X8_accept (fs_n S1 Fu23)) ?_; intro u25 Qu25
    have Fu25 : FSc u20 u25.2 := fs_t Fu23 Qu25
    refine pc_if (fun _ => ?_) (fun _ => ?_)
    · exact pc_ret Fu25
    · refine pc_xl ?_; intro v26 _
      refine pc_sv (Gc.2.1 (fs_n S1 Fu25)) ?_; intro u28 Qu28
      have Fu28 : FSc u20 u28 := fs_t Fu25 Qu28
      exact pc_ret Fu28
  refine p2_sv (j_need BK J1 (k := 40) (by decide) (by decide)) ?_; intro u6 u91 q91
  rcases q91 with ⟨k40, m91, J2⟩ | S
  · have n91 : u91 160 22 = r 160 22 + 1 := by rw [m91, up_n (by omega)]; exact n1.2
    have ND91 := nd_o (z := ((p + 1 + 1 : Nat) : Int)) (m := 160) (j := 23) ND (.inr (by decide))
    rw [← m91] at ND91
    have N91 : NDf r u91 := by rw [m91]; exact ndf_c N1 (by decide)
    refine pc_fl ?_
    refine pc_add (by omega) ?_; intro v93 e93
    rw [e93, hu]
    refine pc_fl ?_
    refine j_par BK (by omega) J2 (by omega) (fun u v S => SE u v S) (fun u20 u98 t ix e Jt qt k41 Ct on R => ?_)
    refine pc_ret (pc_fl ?_)
    have ND98 := nd_rw ND91 (by omega) (by omega) R on
    have R1 := R.1
    have N98 : NDf r u98 := ndf_x N91 R (by omega)
    unfold qj_X13_statement_310
    refine pc_add (by omega) ?_; intro v21 e21
    rw [e21]
    refine pc_fl ?_
    refine pc_add (by omega) ?_; intro v31 e31
    rw [e31]
    refine pc_fl ?_
    refine j_st (rc := rc) (rd := rd) (by omega) IT (.inl rfl) Jt (by omega) (by decide) (fun u23 h34 S => ?_) (fun u23 h34 t2 e2 Jt2 qt2 L2 on2 R2 => ?_)
    · refine pj_sf (o := fun a => a) (q := fun b => b.2) S ?_ ?_ (fun a b s => .inl s)
      · have S1 : ¬ u23 2 11 = 0 := S.1
        have F : FSc u23 u23 := fs_r
        refine pc_sv (fs_qf_X8_accept (fs_n S1 F)) ?_; intro u25 Qu25
        have Fu25 : FSc u23 u25.2 := fs_t F Qu25
        refine pc_if (fun _ => ?_) (fun _ => ?_)
        · exact pc_ret Fu25
        · refine pc_xl ?_; intro v26 _
          refine pc_sv (Gc.2.1 (fs_n S1 Fu25)) ?_; intro u28 Qu28
          have Fu28 : FSc u23 u28 := fs_t Fu25 Qu28
          exact pc_ret Fu28
      · have S1 : ¬ h34 160 9 = 0 := sf_r S
        have F : FSr h34 h34 := ft_r
        refine pc_if (fun _ => ?_) (fun _ => ?_)
        · exact pc_ret F
        · refine pc_se ?_; intro u38 _
          refine pc_if (fun _ => ?_) (fun _ => ?_)
          · exact pc_ret F
          · refine pc_xl ?_; intro v40 _
            refine pc_xl ?_; intro h41 Eh41
            have Fh41 : FSr h34 h41 := by rw [Eh41]; exact ft_u F (by omega)
            refine pc_xl ?_; intro v43 _
            refine pc_sv (Gr.2 (ft_n S1 Fh41)) ?_; intro u45 Qu45
            have Fu45 : FSr h34 u45.2 := ft_t Fh41 Qu45
            refine pc_wA ?_; intro _ _ h46 Eh46
            have Fh46 : FSr h34 h46 := by rw [Eh46]; exact ft_u Fu45 (by omega)
            exact pc_ret Fh46
    · have ND34 := nd_rw1 ND98 (by omega) (by omega) R2 on2
      have R3 := R2.1
      have N34 : NDf r h34 := ndf_x N98 R2 (by omega)
      have C34 := ch_rw Ct (by omega) (Int.le_refl _) R2
      rw [n91] at C34
      have Jt2' := Jt2
      obtain ⟨b2, d2, ⟨l1, l2, l3⟩, l4, l5⟩ := Jt2'
      refine pc_sv (c_acc BK b2 l3 l1 l4) ?_; intro u25 q25
      refine pc_fl ?_
      refine pc_if (fun z => absurd l5 z) (fun _ => ?_)
      rw [l2]
      refine pc_sv (r_wrd BK d2 rfl (by omega) (by decide)) ?_; intro u38 q38
      rcases q25 with ⟨k15, m25⟩ | ⟨k15, m25⟩
      · -- else
        refine pc_if (fun z => absurd z (by omega)) (fun _ => ?_)
        refine pc_add (by omega) ?_; intro v40 e40
        refine pc_xl ?_; intro h41 e41
        rw [show v40 = ((t2 + 1 : Nat) : Int) by omega] at e41
        refine pc_add (by omega) ?_; intro v43 e43
        rw [e43]
        refine pc_fl ?_
        rw [m25]
        dsimp only
        refine pc_if (fun z => absurd z (by decide)) (fun _ => ?_)
        refine pc_add (by omega) ?_; intro v26 e26
        rw [e26]
        have J41 : JPp K P c (t2 + 1) (up_M u23 2 10 ((t2 + 1 : Nat) : Int)) h41 := by rw [e41]; exact jp_up BK Jt2 (jp_lt BK l3 (by omega))
        have n41 : h41 160 22 = h34 160 22 := by rw [e41, up_n (by omega)]
        have ND41 := nd_o (z := ((t2 + 1 : Nat) : Int)) (m := 160) (j := 23) ND34 (.inr (by decide))
        rw [← e41] at ND41
        have C41 : CHl (a + 1) K h41 0 ix 0 (r 160 22 + 1) (u98 160 22) ((p + 1 + 1 : Nat) : Int) (t : Int) e := by rw [e41]; exact ch_w C34 (.inr (by decide))
        have L41 : LKn (a + 1) K h41 6 0 0 (u98 160 22) (h34 160 22) ((t + 1 : Nat) : Int) (t2 : Int) e2 := by rw [e41]; exact lk_w L2 (.inr (by decide))
        refine j_st (rc := rc) (rd := rd) (by omega) IT (.inl rfl) J41 (by omega) (by decide) (fun u28 h46 S => pc_ret (pc_ret (.inl S))) (fun u28 h46 t3 e3 Jt3 qt3 L3 on3 R4 => ?_)
        refine pc_ret (pc_ret (.inr ⟨t3, ⟨Jt3, by omega⟩, ?_, ?_, ?_⟩))
        · have ND46 := nd_rw2 ND41 (by omega) (by omega) R4 on3
          have R5 := R4.1
          have C46 := ch_rw C41 (by omega) (by omega) R4
          have L46 := lk_rw L41 (by omega) (by omega) R4
          have o0 := ND46.2.1.1
          have o1 := ND46.2.1.2.1
          have o2 := ND46.2.1.2.2.1
          show LKn a K h46 6 0 0 _ (h46 160 22) _ _ (r 160 22)
          exact lk_tj (ix := ix) (t := (t : Int)) (u := (t2 : Int)) (y := u98 160 22) (z := h34 160 22) ⟨hr, Int.le_refl _, by omega⟩ ⟨by omega, by omega, by omega⟩ ⟨ND46.1.1, ND46.1.2.2⟩ ⟨by rw [Int.toNat_natCast]; exact kp, by rw [show ((p : Int) + 1).toNat = p + 1 by omega]; exact k40⟩ (by rw [o0, show (p : Int) + 2 = ((p + 1 + 1 : Nat) : Int) by omega]; exact C46.1) (by rw [o0, show (p : Int) + 2 = ((p + 1 + 1 : Nat) : Int) by omega]; exact ⟨C46.2.1, C46.2.2.1⟩) ⟨by rw [Int.toNat_natCast]; exact k41, by rw [Int.toNat_natCast]; exact k15⟩ (by rw [o1, show (t : Int) + 1 = ((t + 1 : Nat) : Int) by omega]; exact L46) (by rw [o2, show (t2 : Int) + 1 = ((t2 + 1 : Nat) : Int) by omega, ← n41]; exact L3)
        · have ND46 := nd_rw2 ND41 (by omega) (by omega) R4 on3
          exact ND46.2.1.2.2.2
        · show NDf r h46
          refine ndf_x (r := h41) ?_ R4 (by omega)
          rw [e41]; exact ndf_c N34 (by decide)
      · refine pc_if (fun _ => ?_) (fun z => absurd (by omega) z)
        refine pc_fl ?_
        rw [m25]
        dsimp only
        refine pc_if (fun _ => ?_) (fun z => absurd rfl z)
        refine pc_ret (pc_ret (.inr ⟨t2, ⟨Jt2, by omega⟩, ?_, ND34.2.1.2.2.2, N34⟩))
        have o0 := ND34.2.1.1
        have o1 := ND34.2.1.2.1
        show LKn a K h34 6 0 0 _ (h34 160 22) _ _ (r 160 22)
        exact lk_ti (ix := ix) (t := (t : Int)) (y := u98 160 22) ⟨hr, Int.le_refl _, by omega⟩ ⟨by omega, by omega⟩ ⟨ND34.1.1, ND34.1.2.2, ND34.2.1.2.2.1⟩ ⟨by rw [Int.toNat_natCast]; exact kp, by rw [show ((p : Int) + 1).toNat = p + 1 by omega]; exact k40⟩ (by rw [o0, show (p : Int) + 2 = ((p + 1 + 1 : Nat) : Int) by omega]; exact C34.1) (by rw [o0, show (p : Int) + 2 = ((p + 1 + 1 : Nat) : Int) by omega]; exact ⟨C34.2.1, C34.2.2.1⟩) ⟨by rw [Int.toNat_natCast]; exact k41, by rw [Int.toNat_natCast]; exact k15⟩ (by rw [o1, show (t : Int) + 1 = ((t + 1 : Nat) : Int) by omega]; exact L2)
  · -- no (
    refine pc_se ?_; intro u8 e8
    have F8 := fs_qf_X8_readValue S.1 u8 e8
    refine pc_se ?_; intro u10 e10
    have F10 := fs_qf_X8_need (fs_n S.1 F8) u10 e10
    refine pc_fl ?_
    refine pc_xl ?_; intro v93 _
    refine pc_sv (ft_qf_X13_expression (sf_r S)) ?_; intro u95 Q95
    refine pc_wA ?_; intro _ _ h96 E96
    have F96 : FSr u91 h96 := by rw [E96]; exact ft_u Q95 (by omega)
    refine pc_sv (ft_qf_X13_sign_ (ft_n (sf_r S) F96)) ?_; intro u98 Q98
    rw [hu]
    exact pc_fl (SE u10 u98 (sf_k S (fs_t F8 F10) (ft_t F96 Q98)))
/- while -/
theorem js_while (BK : TBn K c) {rc : tq_X8_readBlock} {rd : tq_X13_block} {a : Int} (ha : 0 ≤ a ∧ a < 40) (Gc : FScG_X8_readBlock rc) (Gr : FSrG_X13_block rd) (IT : PT K P c 6 rc.2.1 rd.2) (kp : K p = 31) (J : JPp K P c p h r) (hr : 0 ≤ r 160 22) : Pc (xl (oq_add a 1) fun v33 => mx_sv (qf_X8_readCondition nn v33 h) fun u35 => xl (oq_add a 1) fun v36 => mx_sv (rc.2.1 v36 u35) fun u38 => some u38) (fun u => Pc (mx_sv (qf_X13_add nn 4 (r 160 23) (r 160 23) r) fun u176 => xl (oq_add (u176.2 160 23) 1) fun v178 => xl (up_M u176.2 160 23 v178) fun h179 => mx_sv (qf_X13_sign_ nn 40 h179) fun u181 => mx_sv (qf_X13_isWord nn (u181 160 23) 18 u181) fun u185 => if u185 = 0 then (qj_X13_statement_431 nn rd a u176.1 u176.1 u181) else (xl (oq_add (u181 160 23) 1) fun v187 => mx_sv (qf_X13_isSign nn v187 41 u181) fun u189 => if u189 = 0 then (qj_X13_statement_431 nn rd a u176.1 u176.1 u181) else (qj_X13_statement_432 nn rd a u176.1 1 u176.1 u181))) (fun v => JS a K P c p 6 r u v)) := by
  have n3 := BK.2.1
  have J0 := J
  obtain ⟨b, d, ⟨g1, g2, g3⟩, g4, g5⟩ := J
  refine pc_fl ?_
  refine hd_add BK J0 (by omega) ?_; intro u176 h179 hu n1 ND N1 J1
  refine pc_fl ?_
  refine pc_add (by omega) ?_; intro v33 e33
  rw [e33]
  refine p2_sa ?_
  unfold qf_X8_readCondition
  rw [g1]
  refine pc_add (by omega) ?_; intro v3 e3
  refine pc_xl ?_; intro h4 e4
  rw [show v3 = ((p + 1 : Nat) : Int) by omega] at e4
  rw [← e4] at J1
  have E2 : ((p : Int) + 2).toNat = p + 1 + 1 := by omega
  have E3 : ((p : Int) + 3).toNat = p + 1 + 1 + 1 := by omega
  refine p2_sv (j_need BK J1 (k := 40) (by decide) (by decide)) ?_; intro u6 u181 q181
  rcases q181 with ⟨k40, m181, J2⟩ | S
  · have n181 : u181 160 22 = r 160 22 + 1 := by rw [m181, up_n (by omega)]; exact n1.2
    have ND181 := nd_o (z := ((p + 1 + 1 : Nat) : Int)) (m := 160) (j := 23) ND (.inr (by decide))
    rw [← m181] at ND181
    have N181 : NDf r u181 := by rw [m181]; exact ndf_c N1 (by decide)
    have J2' := J2
    obtain ⟨b2, d2, ⟨l1, l2, l3⟩, l4, l5⟩ := J2'
    -- with the flag
    have GO : ∀ s0 : Int, ((s0 = 1 ∧ K (p + 1 + 1) = 28 ∧ K (p + 1 + 1 + 1) = 41) ∨ (s0 = 0 ∧ ¬ (K (p + 1 + 1) = 28 ∧ K (p + 1 + 1 + 1) = 41))) → Pc (qj_X13_statement_432 nn rd a (r 160 22) s0 (r 160 22) u181) (fun V => Pc (mx_sv (qf_X8_readValue nn (a + 1) u6) fun u8 => mx_sv (qf_X8_need nn 41 u8) fun u10 => some u10) (fun u35 => Pc (xl (oq_add a 1) fun v36 => mx_sv (rc.2.1 v36 u35) fun u38 => some u38) (fun U => JS a K P c p 6 r U V))) := fun s0 hs0 => by
      unfold qj_X13_statement_432
      refine pc_wA ?_; intro i1 i2 h17 e17
      have ND17 := nd_5 (z := s0) ND181
      rw [← e17] at ND17
      have N17 : NDf r h17 := by rw [e17]; exact ndf_w N181 (by decide) (by omega)
      have n17 : h17 160 22 = r 160 22 + 1 := by rw [e17, up_n (by omega)]; exact n181
      have J17 : JPp K P c (p + 1 + 1) u6 h17 := by rw [e17]; exact jp_w J2 (by decide)
      refine pc_add (by omega) ?_; intro v19 e19
      rw [e19]
      refine pc_fl ?_
      refine j_par BK (by omega) J17 (by omega) (fun u35 v S => ?_) (fun u35 u24 t ix e Jt qt k41 Ct on R => ?_)
      · refine pc_ret (pc_fl ?_)
        refine pj_sf (o := fun a => a) (q := fun b => b.2) S ?_ ?_ (fun a b s => .inl s)
        · have S1 : ¬ u35 2 11 = 0 := S.1
          have F : FSc u35 u35 := fs_r
          refine pc_xl ?_; intro v36 _
          refine pc_sv (Gc.2.1 (fs_n S1 F)) ?_; intro u38 Qu38
          have Fu38 : FSc u35 u38 := fs_t F Qu38
          exact pc_ret Fu38
        · have S1 : ¬ v 160 9 = 0 := sf_r S
          have F : FSr v v := ft_r
          refine pc_xl ?_; intro v26 _
          refine pc_sv (Gr.2 (ft_n S1 F)) ?_; intro u28 Qu28
          have Fu28 : FSr v u28.2 := ft_t F Qu28
          refine pc_wA ?_; intro _ _ h29 Eh29
          have Fh29 : FSr v h29 := by rw [Eh29]; exact ft_u Fu28 (by omega)
          exact pc_ret Fh29
      · refine pc_ret (pc_fl ?_)
        have ND24 := nd_rw ND17 (by omega) (by omega) R on
        have R1 := R.1
        have N24 : NDf r u24 := ndf_x N17 R (by omega)
        refine pc_add (by omega) ?_; intro v36 e36
        rw [e36]
        refine pc_fl ?_
        refine pc_add (by omega) ?_; intro v26 e26
        rw [e26]
        refine pc_fl ?_
        refine j_st (rc := rc) (rd := rd) (by omega) IT (.inl rfl) Jt (by omega) (by decide) (fun u38 h29 S => pc_ret (pc_ret (.inl S))) (fun u38 h29 t2 e2 Jt2 qt2 L2 on2 R2 => ?_)
        have ND29 := nd_rw1 ND24 (by omega) (by omega) R2 on2
        have R3 := R2.1
        have C29 := ch_rw Ct (by omega) (Int.le_refl _) R2
        rw [n17] at C29
        have o0 := ND29.2.1.1
        have o1 := ND29.2.1.2.1
        refine pc_ret (pc_ret (.inr ⟨t2, ⟨Jt2, by omega⟩, ?_, ND29.2.1.2.2.2, ndf_x N24 R2 (by omega)⟩))
        show LKn a K h29 6 0 0 _ (h29 160 22) _ _ (r 160 22)
        exact lk_tw (ix := ix) (t := (t : Int)) (y := u24 160 22) ⟨hr, Int.le_refl _, by omega⟩ ⟨by omega, by omega⟩ ⟨ND29.1.1, ND29.1.2.2⟩ ⟨by rw [Int.toNat_natCast]; exact kp, by rw [show ((p : Int) + 1).toNat = p + 1 by omega]; exact k40⟩ (by rw [ND29.2.2.1, E2, E3]; exact hs0) (by rw [o0, show (p : Int) + 2 = ((p + 1 + 1 : Nat) : Int) by omega]; exact C29.1) (by rw [o0, show (p : Int) + 2 = ((p + 1 + 1 : Nat) : Int) by omega]; exact ⟨C29.2.1, C29.2.2.1⟩) (by rw [Int.toNat_natCast]; exact k41) (by rw [o1, show (t : Int) + 1 = ((t + 1 : Nat) : Int) by omega]; exact L2)
    refine pc_fl ?_
    rw [l2, hu]
    refine pc_sv (r_wrd BK d2 rfl (by omega) (by decide)) ?_; intro u185 q185
    unfold qj_X13_statement_431
    refine pc_if (fun z => GO 0 (by omega)) (fun z => ?_)
    refine pc_add (by omega) ?_; intro v187 e187
    refine pc_sv (r_sgn BK d2 (t := p + 1 + 1 + 1) (by omega) (by omega) (k := 41) (by decide) (by decide)) ?_; intro u189 q189
    exact pc_if (fun z => GO 0 (by omega)) (fun z => GO 1 (by omega))
  · refine pj_sf (o := fun a => a) (q := fun b => b.2) S ?_ ?_ (fun a b s => ?_)
    · have S1 : ¬ u6 2 11 = 0 := S.1
      have F : FSc u6 u6 := fs_r
      refine pc_sv (fs_qf_X8_readValue (fs_n S1 F)) ?_; intro u8 Qu8
      have Fu8 : FSc u6 u8 := fs_t F Qu8
      refine pc_sv (fs_qf_X8_need (fs_n S1 Fu8)) ?_; intro u10 Qu10
      have Fu10 : FSc u6 u10 := fs_t Fu8 Qu10
      exact pc_ret Fu10
    · have S1 : ¬ u181 160 9 = 0 := sf_r S
      have F : FSr u181 u181 := ft_r
      refine pc_se ?_; intro u185 _
      refine pc_if (fun _ => ?_) (fun _ => ?_)
      · exact pc_imp (ft_qj_X13_statement_431 Gr (ft_n S1 F)) (fun _ q => ft_t F q)
      · refine pc_xl ?_; intro v187 _
        refine pc_se ?_; intro u189 _
        refine pc_if (fun _ => ?_) (fun _ => ?_)
        · exact pc_imp (ft_qj_X13_statement_431 Gr (ft_n S1 F)) (fun _ q => ft_t F q)
        · exact pc_imp (ft_qj_X13_statement_432 Gr (ft_n S1 F)) (fun _ q => ft_t F q)
    · refine pc_imp (P := fun U => FSc a U) ?_ (fun U z => .inl (sf_k s z ft_r))
      have S1 : ¬ a 2 11 = 0 := s.1
      have F : FSc a a := fs_r
      refine pc_xl ?_; intro v36 _
      refine pc_sv (Gc.2.1 (fs_n S1 F)) ?_; intro u38 Qu38
      have Fu38 : FSc a u38 := fs_t F Qu38
      exact pc_ret Fu38
/- try -/
theorem js_try (BK : TBn K c) {rc : tq_X8_readBlock} {rd : tq_X13_block} {a : Int} (ha : 0 ≤ a ∧ a < 40) (Gc : FScG_X8_readBlock rc) (Gr : FSrG_X13_block rd) (IB : PT K P c 8 rc.1 rd.1) (kp : K p = 29) (J : JPp K P c p h r) (hr : 0 ≤ r 160 22) : Pc (qo_X8_readTry nn rc (a + 1) h) (fun u => Pc (mx_sv (qf_X13_add nn 9 (r 160 23) (r 160 23) r) fun u146 => xl (oq_add (u146.2 160 23) 1) fun v148 => xl (up_M u146.2 160 23 v148) fun h149 => xl (oq_add a 1) fun v151 => mx_sv (rd.1 v151 h149) fun u153 => wr_A 9000 170 u146.1 u153.1 u153.2 fun h154 => mx_sv (qf_X13_word nn 2 h154) fun u156 => mx_sv (qf_X13_sign_ nn 40 u156) fun u158 => mx_sv (qf_X13_name nn u158) fun u161 => wr_A 9000 168 u146.1 u161.1 u161.2 fun h162 => mx_sv (qf_X13_name nn h162) fun u165 => wr_A 9000 176 u146.1 u165.1 u165.2 fun h166 => mx_sv (qf_X13_sign_ nn 41 h166) fun u168 => xl (oq_add a 1) fun v170 => mx_sv (rd.1 v170 u168) fun u172 => wr_A 9000 171 u146.1 u172.1 u172.2 fun h173 => qj_X13_statement_698 nn rd u146.1 h173) (fun v => JS a K P c p 6 r u v)) := by
  have n3 := BK.2.1
  have J0 := J
  obtain ⟨b, d, ⟨g1, g2, g3⟩, g4, g5⟩ := J
  unfold qo_X8_readTry
  refine pc_fl ?_
  refine hd_add BK J0 (by omega) ?_; intro u146 h149 hu n1 ND N1 J1
  refine pc_add (by omega) ?_; intro v151 e151
  rw [e151, hu]
  refine pc_fl ?_
  rw [g1]
  refine pc_add (by omega) ?_; intro v3 e3
  refine pc_xl ?_; intro h4 e4
  rw [show v3 = ((p + 1 : Nat) : Int) by omega] at e4
  rw [← e4] at J1
  refine j_st (rc := rc) (rd := rd) (by omega) IB (.inr rfl) J1 (by omega) (by decide) (fun u6 h154 S => ?_) (fun u6 h154 t e Jt qt L1 on R => ?_)
  · refine pj_sf (o := fun a => a) (q := fun b => b.2) S ?_ ?_ (fun a b s => .inl s)
    · have S1 : ¬ u6 2 11 = 0 := S.1
      have F : FSc u6 u6 := fs_r
      refine pc_sv (fs_qf_X8_need (fs_n S1 F)) ?_; intro u8 Qu8
      have Fu8 : FSc u6 u8 := fs_t F Qu8
      refine pc_sv (fs_qf_X8_need (fs_n S1 Fu8)) ?_; intro u10 Qu10
      have Fu10 : FSc u6 u10 := fs_t Fu8 Qu10
      refine pc_sv (fs_qf_X8_need (fs_n S1 Fu10)) ?_; intro u12 Qu12
      have Fu12 : FSc u6 u12 := fs_t Fu10 Qu12
      refine pc_sv (fs_qf_X8_need (fs_n S1 Fu12)) ?_; intro u14 Qu14
      have Fu14 : FSc u6 u14 := fs_t Fu12 Qu14
      refine pc_sv (fs_qf_X8_need (fs_n S1 Fu14)) ?_; intro u16 Qu16
      have Fu16 : FSc u6 u16 := fs_t Fu14 Qu16
      refine pc_sv (Gc.1 (fs_n S1 Fu16)) ?_; intro u18 Qu18
      have Fu18 : FSc u6 u18 := fs_t Fu16 Qu18
      exact pc_ret Fu18
    · have S1 : ¬ h154 160 9 = 0 := sf_r S
      have F : FSr h154 h154 := ft_r
      refine pc_sv (ft_qf_X13_word (ft_n S1 F)) ?_; intro u156 Qu156
      have Fu156 : FSr h154 u156 := ft_t F Qu156
      refine pc_sv (ft_qf_X13_sign_ (ft_n S1 Fu156)) ?_; intro u158 Qu158
      have Fu158 : FSr h154 u158 := ft_t Fu156 Qu158
      refine pc_sv (ft_qf_X13_name (ft_n S1 Fu158)) ?_; intro u161 Qu161
      have Fu161 : FSr h154 u161.2 := ft_t Fu158 Qu161
      refine pc_wA ?_; intro _ _ h162 Eh162
      have Fh162 : FSr h154 h162 := by rw [Eh162]; exact ft_u Fu161 (by omega)
      refine pc_sv (ft_qf_X13_name (ft_n S1 Fh162)) ?_; intro u165 Qu165
      have Fu165 : FSr h154 u165.2 := ft_t Fh162 Qu165
      refine pc_wA ?_; intro _ _ h166 Eh166
      have Fh166 : FSr h154 h166 := by rw [Eh166]; exact ft_u Fu165 (by omega)
      refine pc_sv (ft_qf_X13_sign_ (ft_n S1 Fh166)) ?_; intro u168 Qu168
      have Fu168 : FSr h154 u168 := ft_t Fh166 Qu168
      refine pc_xl ?_; intro v170 _
      refine pc_sv (Gr.1 (ft_n S1 Fu168)) ?_; intro u172 Qu172
      have Fu172 : FSr h154 u172.2 := ft_t Fu168 Qu172
      refine pc_wA ?_; intro _ _ h173 Eh173
      have Fh173 : FSr h154 h173 := by rw [Eh173]; exact ft_u Fu172 (by omega)
      exact pc_imp (ft_qj_X13_statement_698 Gr (ft_n S1 Fh173)) (fun _ q => ft_t Fh173 q)
  · have ND154 := nd_rw ND (by omega) (by omega) R on
    have R1 := R.1
    have N154 : NDf r h154 := ndf_x N1 R (by omega)
    rw [n1.2] at L1
    refine p2_sv (j_word BK Jt (k := 12) (y := 2) (by decide) (by decide)) ?_; intro u8 u156 q156
    rcases q156 with ⟨k12, m156, J2⟩ | S
    · refine p2_sv (j_need BK J2 (k := 40) (by decide) (by decide)) ?_; intro u10 u158 q158
      rcases q158 with ⟨k40, m158, J3⟩ | S
      · refine p2_sv (j_name BK J3) ?_; intro u12 u161 q161
        rcases q161 with ⟨k2a, m161, J4⟩ | S
        · have w161 : u161.1 = ((t + 1 + 1 : Nat) : Int) := by rw [m161]
          have mm161 : u161.2 = up_M u158 160 23 ((t + 1 + 1 + 1 : Nat) : Int) := by rw [m161]
          refine pc_fl ?_
          refine pc_wA ?_; intro i1 i2 h162 e162
          refine pc_fl ?_
          have J162 : JPp K P c (t + 1 + 1 + 1) u12 h162 := by rw [e162]; exact jp_w J4 (by decide)
          refine p2_sv (j_name BK J162) ?_; intro u14 u165 q165
          rcases q165 with ⟨k2b, m165, J5⟩ | S
          · have w165 : u165.1 = ((t + 1 + 1 + 1 : Nat) : Int) := by rw [m165]
            have mm165 : u165.2 = up_M h162 160 23 ((t + 1 + 1 + 1 + 1 : Nat) : Int) := by rw [m165]
            refine pc_fl ?_
            refine pc_wA ?_; intro i3 i4 h166 e166
            refine pc_fl ?_
            have J166 : JPp K P c (t + 1 + 1 + 1 + 1) u14 h166 := by rw [e166]; exact jp_w J5 (by decide)
            refine p2_sv (j_need BK J166 (k := 41) (by decide) (by decide)) ?_; intro u16 u168 q168
            rcases q168 with ⟨k41, m168, J6⟩ | S
            · have ND168 := nd_o (z := ((t + 1 + 1 + 1 + 1 + 1 : Nat) : Int)) (m := 160) (j := 23) (nd_6 (z := u165.1) (nd_o (z := ((t + 1 + 1 + 1 + 1 : Nat) : Int)) (m := 160) (j := 23) (nd_8 (z := u161.1) (nd_o (z := ((t + 1 + 1 + 1 : Nat) : Int)) (m := 160) (j := 23) (nd_o (z := ((t + 1 + 1 : Nat) : Int)) (m := 160) (j := 23) (nd_o (z := ((t + 1 : Nat) : Int)) (m := 160) (j := 23) ND154 (.inr (by decide))) (.inr (by decide))) (.inr (by decide)))) (.inr (by decide)))) (.inr (by decide))
              rw [← m156, ← m158, ← mm161, ← e162, ← mm165, ← e166, ← m168] at ND168
              have N168 : NDf r u168 := by rw [m168, e166, mm165, e162, mm161, m158, m156]; exact ndf_c (ndf_w (ndf_c (ndf_w (ndf_c (ndf_c (ndf_c N154 (by decide)) (by decide)) (by decide)) (by decide) (by omega)) (by decide)) (by decide) (by omega)) (by decide)
              have n168 : u168 160 22 = h154 160 22 := by rw [m168, up_n (by omega), e166, up_n (by omega), mm165, up_n (by omega), e162, up_n (by omega), mm161, up_n (by omega), m158, up_n (by omega), m156, up_n (by omega)]
              have L168 : LKn (a + 1) K u168 8 0 0 (r 160 22 + 1) (h154 160 22) ((p + 1 : Nat) : Int) (t : Int) e := by
                rw [m168, e166, mm165, e162, mm161, m158, m156]
                exact lk_w (lk_w (lk_w (lk_w (lk_w (lk_w (lk_w L1 (.inr (by decide))) (.inr (by decide))) (.inr (by decide))) (.inl (.inl (by omega)))) (.inr (by decide))) (.inl (.inl (by omega)))) (.inr (by decide))
              refine pc_fl ?_
              refine pc_add (by omega) ?_; intro v170 e170
              rw [e170]
              refine pc_fl ?_
              unfold qj_X13_statement_698
              refine j_st (rc := rc) (rd := rd) (by omega) IB (.inr rfl) J6 (by omega) (by decide) (fun u18 h173 S => pc_ret (pc_ret (.inl S))) (fun u18 h173 t2 e2 Jt2 qt2 L2 on2 R2 => ?_)
              have ND173 := nd_rw1 ND168 (by omega) (by omega) R2 on2
              have R3 := R2.1
              have L173 := lk_rw L168 (by omega) (by omega) R2
              have o0 := ND173.2.1.1
              have o1 := ND173.2.1.2.1
              refine pc_ret (pc_ret (.inr ⟨t2, ⟨Jt2, by omega⟩, ?_, ND173.2.1.2.2.2, ndf_x N168 R2 (by omega)⟩))
              show LKn a K h173 6 0 0 _ (h173 160 22) _ _ (r 160 22)
              exact lk_ty (t := (t : Int)) (y := h154 160 22) ⟨hr, Int.le_refl _, by omega⟩ ⟨by omega, by omega⟩ ⟨ND173.1.1, by rw [ND173.1.2.1, w161]; omega, ND173.1.2.2, by rw [ND173.2.2.2.1, w165]; omega⟩ (by rw [Int.toNat_natCast]; exact kp) (by rw [o0, show (p : Int) + 1 = ((p + 1 : Nat) : Int) by omega]; exact L173) ⟨by rw [Int.toNat_natCast]; exact k12, by rw [show ((t : Int) + 1).toNat = t + 1 by omega]; exact k40, by rw [show ((t : Int) + 2).toNat = t + 1 + 1 by omega]; exact k2a, by rw [show ((t : Int) + 3).toNat = t + 1 + 1 + 1 by omega]; exact k2b, by rw [show ((t : Int) + 4).toNat = t + 1 + 1 + 1 + 1 by omega]; exact k41⟩ (by rw [o1, show (t : Int) + 5 = ((t + 1 + 1 + 1 + 1 + 1 : Nat) : Int) by omega, ← n168]; exact L2)
            · refine pj_sf (o := fun a => a) (q := fun b => b.2) S ?_ ?_ (fun a b s => .inl s)
              · have S1 : ¬ u16 2 11 = 0 := S.1
                have F : FSc u16 u16 := fs_r
                refine pc_sv (Gc.1 (fs_n S1 F)) ?_; intro u18 Qu18
                have Fu18 : FSc u16 u18 := fs_t F Qu18
                exact pc_ret Fu18
              · have S1 : ¬ u168 160 9 = 0 := sf_r S
                have F : FSr u168 u168 := ft_r
                refine pc_xl ?_; intro v170 _
                refine pc_sv (Gr.1 (ft_n S1 F)) ?_; intro u172 Qu172
                have Fu172 : FSr u168 u172.2 := ft_t F Qu172
                refine pc_wA ?_; intro _ _ h173 Eh173
                have Fh173 : FSr u168 h173 := by rw [Eh173]; exact ft_u Fu172 (by omega)
                exact pc_imp (ft_qj_X13_statement_698 Gr (ft_n S1 Fh173)) (fun _ q => ft_t Fh173 q)
          · refine pj_sf (o := fun a => a) (q := fun b => b.2) S ?_ ?_ (fun a b s => .inl s)
            · have S1 : ¬ u14 2 11 = 0 := S.1
              have F : FSc u14 u14 := fs_r
              refine pc_sv (fs_qf_X8_need (fs_n S1 F)) ?_; intro u16 Qu16
              have Fu16 : FSc u14 u16 := fs_t F Qu16
              refine pc_sv (Gc.1 (fs_n S1 Fu16)) ?_; intro u18 Qu18
              have Fu18 : FSc u14 u18 := fs_t Fu16 Qu18
              exact pc_ret Fu18
            · have S1 : ¬ u165.2 160 9 = 0 := sf_r S
              have F : FSr u165.2 u165.2 := ft_r
              refine pc_wA ?_; intro _ _ h166 Eh166
              have Fh166 : FSr u165.2 h166 := by rw [Eh166]; exact ft_u F (by omega)
              refine pc_sv (ft_qf_X13_sign_ (ft_n S1 Fh166)) ?_; intro u168 Qu168
              have Fu168 : FSr u165.2 u168 := ft_t Fh166 Qu168
              refine pc_xl ?_; intro v170 _
              refine pc_sv (Gr.1 (ft_n S1 Fu168)) ?_; intro u172 Qu172
              have Fu172 : FSr u165.2 u172.2 := ft_t Fu168 Qu172
              refine pc_wA ?_; intro _ _ h173 Eh173
              have Fh173 : FSr u165.2 h173 := by rw [Eh173]; exact ft_u Fu172 (by omega)
              exact pc_imp (ft_qj_X13_statement_698 Gr (ft_n S1 Fh173)) (fun _ q => ft_t Fh173 q)
        · refine pj_sf (o := fun a => a) (q := fun b => b.2) S ?_ ?_ (fun a b s => .inl s)
          · have S1 : ¬ u12 2 11 = 0 := S.1
            have F : FSc u12 u12 := fs_r
            refine pc_sv (fs_qf_X8_need (fs_n S1 F)) ?_; intro u14 Qu14
            have Fu14 : FSc u12 u14 := fs_t F Qu14
            refine pc_sv (fs_qf_X8_need (fs_n S1 Fu14)) ?_; intro u16 Qu16
            have Fu16 : FSc u12 u16 := fs_t Fu14 Qu16
            refine pc_sv (Gc.1 (fs_n S1 Fu16)) ?_; intro u18 Qu18
            have Fu18 : FSc u12 u18 := fs_t Fu16 Qu18
            exact pc_ret Fu18
          · have S1 : ¬ u161.2 160 9 = 0 := sf_r S
            have F : FSr u161.2 u161.2 := ft_r
            refine pc_wA ?_; intro _ _ h162 Eh162
            have Fh162 : FSr u161.2 h162 := by rw [Eh162]; exact ft_u F (by omega)
            refine pc_sv (ft_qf_X13_name (ft_n S1 Fh162)) ?_; intro u165 Qu165
            have Fu165 : FSr u161.2 u165.2 := ft_t Fh162 Qu165
            refine pc_wA ?_; intro _ _ h166 Eh166
            have Fh166 : FSr u161.2 h166 := by rw [Eh166]; exact ft_u Fu165 (by omega)
            refine pc_sv (ft_qf_X13_sign_ (ft_n S1 Fh166)) ?_; intro u168 Qu168
            have Fu168 : FSr u161.2 u168 := ft_t Fh166 Qu168
            refine pc_xl ?_; intro v170 _
            refine pc_sv (Gr.1 (ft_n S1 Fu168)) ?_; intro u172 Qu172
            have Fu172 : FSr u161.2 u172.2 := ft_t Fu168 Qu172
            refine pc_wA ?_; intro _ _ h173 Eh173
            have Fh173 : FSr u161.2 h173 := by rw [Eh173]; exact ft_u Fu172 (by omega)
            exact pc_imp (ft_qj_X13_statement_698 Gr (ft_n S1 Fh173)) (fun _ q => ft_t Fh173 q)
      · refine pj_sf (o := fun a => a) (q := fun b => b.2) S ?_ ?_ (fun a b s => .inl s)
        · have S1 : ¬ u10 2 11 = 0 := S.1
          have F : FSc u10 u10 := fs_r
          refine pc_sv (fs_qf_X8_need (fs_n S1 F)) ?_; intro u12 Qu12
          have Fu12 : FSc u10 u12 := fs_t F Qu12
          refine pc_sv (fs_qf_X8_need (fs_n S1 Fu12)) ?_; intro u14 Qu14
          have Fu14 : FSc u10 u14 := fs_t Fu12 Qu14
          refine pc_sv (fs_qf_X8_need (fs_n S1 Fu14)) ?_; intro u16 Qu16
          have Fu16 : FSc u10 u16 := fs_t Fu14 Qu16
          refine pc_sv (Gc.1 (fs_n S1 Fu16)) ?_; intro u18 Qu18
          have Fu18 : FSc u10 u18 := fs_t Fu16 Qu18
          exact pc_ret Fu18
        · have S1 : ¬ u158 160 9 = 0 := sf_r S
          have F : FSr u158 u158 := ft_r
          refine pc_sv (ft_qf_X13_name (ft_n S1 F)) ?_; intro u161 Qu161
          have Fu161 : FSr u158 u161.2 := ft_t F Qu161
          refine pc_wA ?_; intro _ _ h162 Eh162
          have Fh162 : FSr u158 h162 := by rw [Eh162]; exact ft_u Fu161 (by omega)
          refine pc_sv (ft_qf_X13_name (ft_n S1 Fh162)) ?_; intro u165 Qu165
          have Fu165 : FSr u158 u165.2 := ft_t Fh162 Qu165
          refine pc_wA ?_; intro _ _ h166 Eh166
          have Fh166 : FSr u158 h166 := by rw [Eh166]; exact ft_u Fu165 (by omega)
          refine pc_sv (ft_qf_X13_sign_ (ft_n S1 Fh166)) ?_; intro u168 Qu168
          have Fu168 : FSr u158 u168 := ft_t Fh166 Qu168
          refine pc_xl ?_; intro v170 _
          refine pc_sv (Gr.1 (ft_n S1 Fu168)) ?_; intro u172 Qu172
          have Fu172 : FSr u158 u172.2 := ft_t Fu168 Qu172
          refine pc_wA ?_; intro _ _ h173 Eh173
          have Fh173 : FSr u158 h173 := by rw [Eh173]; exact ft_u Fu172 (by omega)
          exact pc_imp (ft_qj_X13_statement_698 Gr (ft_n S1 Fh173)) (fun _ q => ft_t Fh173 q)
    · refine pj_sf (o := fun a => a) (q := fun b => b.2) S ?_ ?_ (fun a b s => .inl s)
      · have S1 : ¬ u8 2 11 = 0 := S.1
        have F : FSc u8 u8 := fs_r
        refine pc_sv (fs_qf_X8_need (fs_n S1 F)) ?_; intro u10 Qu10
        have Fu10 : FSc u8 u10 := fs_t F Qu10
        refine pc_sv (fs_qf_X8_need (fs_n S1 Fu10)) ?_; intro u12 Qu12
        have Fu12 : FSc u8 u12 := fs_t Fu10 Qu12
        refine pc_sv (fs_qf_X8_need (fs_n S1 Fu12)) ?_; intro u14 Qu14
        have Fu14 : FSc u8 u14 := fs_t Fu12 Qu14
        refine pc_sv (fs_qf_X8_need (fs_n S1 Fu14)) ?_; intro u16 Qu16
        have Fu16 : FSc u8 u16 := fs_t Fu14 Qu16
        refine pc_sv (Gc.1 (fs_n S1 Fu16)) ?_; intro u18 Qu18
        have Fu18 : FSc u8 u18 := fs_t Fu16 Qu18
        exact pc_ret Fu18
      · have S1 : ¬ u156 160 9 = 0 := sf_r S
        have F : FSr u156 u156 := ft_r
        refine pc_sv (ft_qf_X13_sign_ (ft_n S1 F)) ?_; intro u158 Qu158
        have Fu158 : FSr u156 u158 := ft_t F Qu158
        refine pc_sv (ft_qf_X13_name (ft_n S1 Fu158)) ?_; intro u161 Qu161
        have Fu161 : FSr u156 u161.2 := ft_t Fu158 Qu161
        refine pc_wA ?_; intro _ _ h162 Eh162
        have Fh162 : FSr u156 h162 := by rw [Eh162]; exact ft_u Fu161 (by omega)
        refine pc_sv (ft_qf_X13_name (ft_n S1 Fh162)) ?_; intro u165 Qu165
        have Fu165 : FSr u156 u165.2 := ft_t Fh162 Qu165
        refine pc_wA ?_; intro _ _ h166 Eh166
        have Fh166 : FSr u156 h166 := by rw [Eh166]; exact ft_u Fu165 (by omega)
        refine pc_sv (ft_qf_X13_sign_ (ft_n S1 Fh166)) ?_; intro u168 Qu168
        have Fu168 : FSr u156 u168 := ft_t Fh166 Qu168
        refine pc_xl ?_; intro v170 _
        refine pc_sv (Gr.1 (ft_n S1 Fu168)) ?_; intro u172 Qu172
        have Fu172 : FSr u156 u172.2 := ft_t Fu168 Qu172
        refine pc_wA ?_; intro _ _ h173 Eh173
        have Fh173 : FSr u156 h173 := by rw [Eh173]; exact ft_u Fu172 (by omega)
        exact pc_imp (ft_qj_X13_statement_698 Gr (ft_n S1 Fh173)) (fun _ q => ft_t Fh173 q)
end
end
section
/- PARSE: all of S; the group -/
section
variable {nn : Nat} {K P : Nat → Int} {c p : Nat} {h g r w u v : ms_M}
theorem c_kindE (BK : TBn K c) (B : TBc K P c h) (hp : p < c) (hc : h 2 10 = (p : Int)) (hf : h 2 11 = 0) : qf_X9_kind nn h = some (K p) := by
  have n3 := BK.2.1
  have b1 := B.1
  unfold qf_X9_kind
  rw [if_neg (fun z => z hf), if_neg (by omega), if_neg (by omega), hc]
  unfold rd_A
  rw [if_pos (by omega), Int.toNat_natCast, (B.2 p hp).1]
theorem c_plainE (BK : TBn K c) (B : TBc K P c h) (hp : p < c) (hc : h 2 10 = (p : Int)) (hf : h 2 11 = 0) {a : Int} : qf_X8_readPlain nn a h = if (K p) = 11 then (qj_X8_readPlain_56 nn h) else (if (K p) = 14 then (qj_X8_readPlain_56 nn h) else (if (K p) = 23 then (mx_sv (qf_X8_readCondition nn a h) fun u16 => some u16) else (if (K p) = 24 then (xl (oq_add (h 2 10) 1) fun v19 => xl (up_M h 2 10 v19) fun h20 => mx_sv (qf_X9_kind nn h20) fun u23 => if u23 = 46 then (some h20) else (mx_sv (qf_X8_readValue nn a h20) fun u25 => some u25)) else (if (K p) = 27 then (xl (oq_add (h 2 10) 1) fun v29 => xl (up_M h 2 10 v29) fun h30 => mx_sv (qf_X8_readValue nn a h30) fun u32 => some u32) else (mx_sv (qf_X8_readValue nn a h) fun u9 => mx_sv (qf_X8_accept nn 51 u9) fun u11 => if u11.1 = 0 then (some u11.2) else (mx_sv (qf_X8_readValue nn a u11.2) fun u13 => some u13)))))) := by
  unfold qf_X8_readPlain
  rw [c_kindE BK B hp hc hf, mx_svs]
/-- the reference: an S that begins with a word of its own -/
theorem rs_go (BK : TBn K c) {rd : tq_X13_block} {a : Int} {Y : Int × ms_M → Prop} (B : TBq K P c r) (hp : p < c) (hc : r 160 23 = (p : Int)) (n42 : ¬ K p = 42) (nt : ¬ TYp K (p : Int)) (kw : 10 ≤ K p ∧ K p ≤ 31) (H : ∀ v83 : Int, v83 = K p - 10 → Pc (if v83 = 1 then (qj_X13_statement_467 nn rd (r 160 23) r) else (if v83 = 4 then (qj_X13_statement_467 nn rd (r 160 23) r) else (if v83 = 8 then (mx_sv (qf_X13_add nn 3 (r 160 23) (r 160 23) r) fun u86 => xl (oq_add (u86.2 160 23) 1) fun v88 => xl (up_M u86.2 160 23 v88) fun h89 => mx_sv (qf_X13_sign_ nn 40 h89) fun u91 => xl (oq_add a 1) fun v93 => mx_sv (qf_X13_expression nn v93 u91) fun u95 => wr_A 9000 170 u86.1 u95.1 u95.2 fun h96 => mx_sv (qf_X13_sign_ nn 41 h96) fun u98 => qj_X13_statement_310 nn rd a u86.1 u98) else (if v83 = 13 then (mx_sv (qf_X13_add nn 10 (r 160 23) (r 160 23) r) fun u101 => xl (oq_add (u101.2 160 23) 1) fun v103 => xl (up_M u101.2 160 23 v103) fun h104 => mx_sv (qf_X13_sign_ nn 40 h104) fun u106 => xl (oq_add a 1) fun v108 => mx_sv (qf_X13_expression nn v108 u106) fun u110 => wr_A 9000 170 u101.1 u110.1 u110.2 fun h111 => mx_sv (qf_X13_sign_ nn 41 h111) fun u113 => mx_sv (qf_X13_sign_ nn 59 u113) fun u115 => some (u101.1, u115)) else (if v83 = 14 then (mx_sv (qf_X13_add nn 7 (r 160 23) (r 160 23) r) fun u118 => xl (oq_add (u118.2 160 23) 1) fun v120 => xl (up_M u118.2 160 23 v120) fun h121 => mx_sv (qf_X13_isSign nn (h121 160 23) 59 h121) fun u124 => if ¬ u124 = 0 then (qj_X13_statement_562 nn rd u118.1 h121) else (xl (oq_add a 1) fun v126 => mx_sv (qf_X13_expression nn v126 h121) fun u128 => wr_A 9000 170 u118.1 u128.1 u128.2 fun h129 => qj_X13_statement_562 nn rd u118.1 h129)) else (if v83 = 17 then (mx_sv (qf_X13_add nn 8 (r 160 23) (r 160 23) r) fun u133 => xl (oq_add (u133.2 160 23) 1) fun v135 => xl (up_M u133.2 160 23 v135) fun h136 => xl (oq_add a 1) fun v138 => mx_sv (qf_X13_expression nn v138 h136) fun u140 => wr_A 9000 170 u133.1 u140.1 u140.2 fun h141 => mx_sv (qf_X13_sign_ nn 59 h141) fun u143 => some (u133.1, u143)) else (if v83 = 19 then (mx_sv (qf_X13_add nn 9 (r 160 23) (r 160 23) r) fun u146 => xl (oq_add (u146.2 160 23) 1) fun v148 => xl (up_M u146.2 160 23 v148) fun h149 => xl (oq_add a 1) fun v151 => mx_sv (rd.1 v151 h149) fun u153 => wr_A 9000 170 u146.1 u153.1 u153.2 fun h154 => mx_sv (qf_X13_word nn 2 h154) fun u156 => mx_sv (qf_X13_sign_ nn 40 u156) fun u158 => mx_sv (qf_X13_name nn u158) fun u161 => wr_A 9000 168 u146.1 u161.1 u161.2 fun h162 => mx_sv (qf_X13_name nn h162) fun u165 => wr_A 9000 176 u146.1 u165.1 u165.2 fun h166 => mx_sv (qf_X13_sign_ nn 41 h166) fun u168 => xl (oq_add a 1) fun v170 => mx_sv (rd.1 v170 u168) fun u172 => wr_A 9000 171 u146.1 u172.1 u172.2 fun h173 => qj_X13_statement_698 nn rd u146.1 h173) else (if v83 = 21 then (mx_sv (qf_X13_add nn 4 (r 160 23) (r 160 23) r) fun u176 => xl (oq_add (u176.2 160 23) 1) fun v178 => xl (up_M u176.2 160 23 v178) fun h179 => mx_sv (qf_X13_sign_ nn 40 h179) fun u181 => mx_sv (qf_X13_isWord nn (u181 160 23) 18 u181) fun u185 => if u185 = 0 then (qj_X13_statement_431 nn rd a u176.1 u176.1 u181) else (xl (oq_add (u181 160 23) 1) fun v187 => mx_sv (qf_X13_isSign nn v187 41 u181) fun u189 => if u189 = 0 then (qj_X13_statement_431 nn rd a u176.1 u176.1 u181) else (qj_X13_statement_432 nn rd a u176.1 1 u176.1 u181))) else (qj_X13_statement_755 nn rd a r))))))))) Y) : Pc (mx_sv (qf_X13_isSign nn (r 160 23) 123 r) fun u75 => if u75 = 0 then (mx_sv (qf_X13_isTyped nn r) fun u77 => if u77 = 0 then (rd_A 3008 163 (r 160 23) r fun v80 => if v80 = 3 then (rd_A 3002 166 (r 160 23) r fun v83 => if v83 = 1 then (qj_X13_statement_467 nn rd (r 160 23) r) else (if v83 = 4 then (qj_X13_statement_467 nn rd (r 160 23) r) else (if v83 = 8 then (mx_sv (qf_X13_add nn 3 (r 160 23) (r 160 23) r) fun u86 => xl (oq_add (u86.2 160 23) 1) fun v88 => xl (up_M u86.2 160 23 v88) fun h89 => mx_sv (qf_X13_sign_ nn 40 h89) fun u91 => xl (oq_add a 1) fun v93 => mx_sv (qf_X13_expression nn v93 u91) fun u95 => wr_A 9000 170 u86.1 u95.1 u95.2 fun h96 => mx_sv (qf_X13_sign_ nn 41 h96) fun u98 => qj_X13_statement_310 nn rd a u86.1 u98) else (if v83 = 13 then (mx_sv (qf_X13_add nn 10 (r 160 23) (r 160 23) r) fun u101 => xl (oq_add (u101.2 160 23) 1) fun v103 => xl (up_M u101.2 160 23 v103) fun h104 => mx_sv (qf_X13_sign_ nn 40 h104) fun u106 => xl (oq_add a 1) fun v108 => mx_sv (qf_X13_expression nn v108 u106) fun u110 => wr_A 9000 170 u101.1 u110.1 u110.2 fun h111 => mx_sv (qf_X13_sign_ nn 41 h111) fun u113 => mx_sv (qf_X13_sign_ nn 59 u113) fun u115 => some (u101.1, u115)) else (if v83 = 14 then (mx_sv (qf_X13_add nn 7 (r 160 23) (r 160 23) r) fun u118 => xl (oq_add (u118.2 160 23) 1) fun v120 => xl (up_M u118.2 160 23 v120) fun h121 => mx_sv (qf_X13_isSign nn (h121 160 23) 59 h121) fun u124 => if ¬ u124 = 0 then (qj_X13_statement_562 nn rd u118.1 h121) else (xl (oq_add a 1) fun v126 => mx_sv (qf_X13_expression nn v126 h121) fun u128 => wr_A 9000 170 u118.1 u128.1 u128.2 fun h129 => qj_X13_statement_562 nn rd u118.1 h129)) else (if v83 = 17 then (mx_sv (qf_X13_add nn 8 (r 160 23) (r 160 23) r) fun u133 => xl (oq_add (u133.2 160 23) 1) fun v135 => xl (up_M u133.2 160 23 v135) fun h136 => xl (oq_add a 1) fun v138 => mx_sv (qf_X13_expression nn v138 h136) fun u140 => wr_A 9000 170 u133.1 u140.1 u140.2 fun h141 => mx_sv (qf_X13_sign_ nn 59 h141) fun u143 => some (u133.1, u143)) else (if v83 = 19 then (mx_sv (qf_X13_add nn 9 (r 160 23) (r 160 23) r) fun u146 => xl (oq_add (u146.2 160 23) 1) fun v148 => xl (up_M u146.2 160 23 v148) fun h149 => xl (oq_add a 1) fun v151 => mx_sv (rd.1 v151 h149) fun u153 => wr_A 9000 170 u146.1 u153.1 u153.2 fun h154 => mx_sv (qf_X13_word nn 2 h154) fun u156 => mx_sv (qf_X13_sign_ nn 40 u156) fun u158 => mx_sv (qf_X13_name nn u158) fun u161 => wr_A 9000 168 u146.1 u161.1 u161.2 fun h162 => mx_sv (qf_X13_name nn h162) fun u165 => wr_A 9000 176 u146.1 u165.1 u165.2 fun h166 => mx_sv (qf_X13_sign_ nn 41 h166) fun u168 => xl (oq_add a 1) fun v170 => mx_sv (rd.1 v170 u168) fun u172 => wr_A 9000 171 u146.1 u172.1 u172.2 fun h173 => qj_X13_statement_698 nn rd u146.1 h173) else (if v83 = 21 then (mx_sv (qf_X13_add nn 4 (r 160 23) (r 160 23) r) fun u176 => xl (oq_add (u176.2 160 23) 1) fun v178 => xl (up_M u176.2 160 23 v178) fun h179 => mx_sv (qf_X13_sign_ nn 40 h179) fun u181 => mx_sv (qf_X13_isWord nn (u181 160 23) 18 u181) fun u185 => if u185 = 0 then (qj_X13_statement_431 nn rd a u176.1 u176.1 u181) else (xl (oq_add (u181 160 23) 1) fun v187 => mx_sv (qf_X13_isSign nn v187 41 u181) fun u189 => if u189 = 0 then (qj_X13_statement_431 nn rd a u176.1 u176.1 u181) else (qj_X13_statement_432 nn rd a u176.1 1 u176.1 u181))) else (qj_X13_statement_755 nn rd a r))))))))) else (mx_sv (qf_X13_plain nn a r) fun u193 => some (u193.1, u193.2))) else (mx_sv (qf_X13_type nn r) fun u196 => mx_sv (qf_X13_add nn 2 0 (r 160 23) u196) fun u198 => xl (oq_mul 4 (u198.2 160 46)) fun v201 => if (u198.2 160 47) = 0 then (qj_X13_statement_78 nn rd a u198.1 0 v201 u198.1 u198.2) else (qj_X13_statement_78 nn rd a u198.1 2 v201 u198.1 u198.2))) else (xl (oq_add a 1) fun v205 => mx_sv (rd.1 v205 r) fun u207 => some (u207.1, u207.2))) Y := by
  have n3 := BK.2.1
  have kd := r_kd BK B (t := p) (by omega)
  have E : (r 160 23).toNat = p := by omega
  refine pc_sv (r_sgn BK B (t := p) hc (by omega) (k := 42) (by decide) (by decide)) ?_; intro u75 q75
  refine pc_if (fun _ => ?_) (fun z => absurd (by omega) z)
  refine pc_sv (r_typed BK B hp hc) ?_; intro u77 q77
  refine pc_if (fun _ => ?_) (fun z => ?_)
  · refine pc_rA ?_; intro _ _ v80 e80
    rw [E] at e80
    refine pc_if (fun _ => ?_) (fun z => absurd (by omega) z)
    refine pc_rA ?_; intro _ _ v83 e83
    rw [E, B.2.2.1 p kw.1 kw.2] at e83
    exact H v83 e83
  · rcases q77 with ⟨-, q⟩ | ⟨q, -⟩
    · exact absurd q nt
    · exact absurd q z
theorem js_T (BK : TBn K c) {rc : tq_X8_readBlock} {rd : tq_X13_block} {a : Int} (ha : 0 ≤ a ∧ a ≤ 40) (Gc : FScG_X8_readBlock rc) (Gr : FSrG_X13_block rd) (IT : PT K P c 6 rc.2.1 rd.2) (IB : PT K P c 8 rc.1 rd.1) (IY : a < 40 → K p = 29 → Pc (rc.2.2 (a + 1) h) (fun u => Pc (mx_sv (qf_X13_add nn 9 (r 160 23) (r 160 23) r) fun u146 => xl (oq_add (u146.2 160 23) 1) fun v148 => xl (up_M u146.2 160 23 v148) fun h149 => xl (oq_add a 1) fun v151 => mx_sv (rd.1 v151 h149) fun u153 => wr_A 9000 170 u146.1 u153.1 u153.2 fun h154 => mx_sv (qf_X13_word nn 2 h154) fun u156 => mx_sv (qf_X13_sign_ nn 40 u156) fun u158 => mx_sv (qf_X13_name nn u158) fun u161 => wr_A 9000 168 u146.1 u161.1 u161.2 fun h162 => mx_sv (qf_X13_name nn h162) fun u165 => wr_A 9000 176 u146.1 u165.1 u165.2 fun h166 => mx_sv (qf_X13_sign_ nn 41 h166) fun u168 => xl (oq_add a 1) fun v170 => mx_sv (rd.1 v170 u168) fun u172 => wr_A 9000 171 u146.1 u172.1 u172.2 fun h173 => qj_X13_statement_698 nn rd u146.1 h173) (fun v => JS a K P c p 6 r u v))) (J : JPp K P c p h r) (hr : 0 ≤ r 160 22) : Pc (qo_X8_readStatement nn rc a h) (fun u => Pc (qo_X13_statement nn rd a r) (fun v => JS a K P c p 6 r u v)) := by
  have n3 := BK.2.1
  have J0 := J
  obtain ⟨b, d, ⟨g1, g2, g3⟩, g4, g5⟩ := J
  have kd := r_kd BK d (t := p) (by omega)
  have E1 : ((p : Int) + 1).toNat = p + 1 := by omega
  unfold qo_X8_readStatement qo_X13_statement
  refine p2_sv (j_deep BK J0) ?_; intro u4 u71 q71
  rcases q71 with ⟨a40, c1, c2⟩ | ⟨c1, c2, S⟩
  · have ha2 : 0 ≤ a ∧ a < 40 := ⟨ha.1, a40⟩
    rw [c1, c2]
    dsimp only
    refine pc_if (fun _ => ?_) (fun z => absurd rfl z)
    refine pc_fl ?_
    refine pc_if (fun _ => ?_) (fun z => absurd rfl z)
    refine pc_fl ?_
    rw [c_kindE BK b g3 g1 g4, mx_svs]
    have TYn : ∀ k : Int, K p = k → ¬ k = 20 → ¬ k = 10 → ¬ k = 2 → ¬ TYp K (p : Int) := fun k e a1 a2 a3 => by
      unfold TYp; rw [Int.toNat_natCast]; omega
    -- a word
    refine pc_if (fun z => ?_) (fun z18 => ?_)
    · refine pc_fl (rs_go BK d g3 g2 (by omega) (TYn 18 z (by decide) (by decide) (by decide)) (by omega) (fun v83 e83 => ?_))
      refine pc_if (fun y => absurd y (by omega)) (fun _ => pc_if (fun y => absurd y (by omega)) (fun _ => pc_if (fun _ => ?_) (fun y => absurd (by omega) y)))
      exact pc_fl (js_if BK ha2 Gc Gr IT z J0 hr)
    refine pc_if (fun z => ?_) (fun z29 => ?_)
    · refine pc_fl (rs_go BK d g3 g2 (by omega) (TYn 29 z (by decide) (by decide) (by decide)) (by omega) (fun v83 e83 => ?_))
      refine pc_if (fun y => absurd y (by omega)) (fun _ => pc_if (fun y => absurd y (by omega)) (fun _ => pc_if (fun y => absurd y (by omega)) (fun _ => pc_if (fun y => absurd y (by omega)) (fun _ => pc_if (fun y => absurd y (by omega)) (fun _ => pc_if (fun y => absurd y (by omega)) (fun _ => pc_if (fun _ => ?_) (fun y => absurd (by omega) y)))))))
      refine pc_fl ?_
      refine pc_add (by omega) ?_; intro v30 e30
      rw [e30]
      refine p2_sa ?_
      refine pc_imp (IY a40 z) (fun u q => pc_imp q (fun v q2 => pc_ret q2))
    refine pc_if (fun z => ?_) (fun z31 => ?_)
    · refine pc_fl (rs_go BK d g3 g2 (by omega) (TYn 31 z (by decide) (by decide) (by decide)) (by omega) (fun v83 e83 => ?_))
      refine pc_if (fun y => absurd y (by omega)) (fun _ => pc_if (fun y => absurd y (by omega)) (fun _ => pc_if (fun y => absurd y (by omega)) (fun _ => pc_if (fun y => absurd y (by omega)) (fun _ => pc_if (fun y => absurd y (by omega)) (fun _ => pc_if (fun y => absurd y (by omega)) (fun _ => pc_if (fun y => absurd y (by omega)) (fun _ => pc_if (fun _ => ?_) (fun y => absurd (by omega) y))))))))
      exact pc_fl (js_while BK ha2 Gc Gr IT z J0 hr)
    refine pc_if (fun z => ?_) (fun z42 => ?_)
    · -- BLOCK
      refine pc_fl ?_
      refine pc_sv (r_sgn BK d (t := p) g2 (by omega) (k := 42) (by decide) (by decide)) ?_; intro u75 q75
      refine pc_if (fun y => absurd y (by omega)) (fun _ => ?_)
      refine pc_add (by omega) ?_; intro v205 e205
      rw [e205]
      refine pc_fl ?_
      refine pc_add (by omega) ?_; intro v39 e39
      rw [e39]
      refine p2_sv (IB (a + 1) p h r (by omega) J0 hr) ?_; intro u41 u207 q207
      refine pc_ret (pc_ret ?_)
      rcases q207 with S | ⟨q, y1, y2, y3, y4⟩
      · exact .inl S
      · exact .inr ⟨q, y1, lk_tb y2, y3, y4⟩
    refine pc_sv (c_typed BK b g3 g1 g4) ?_; intro u10 q10
    rcases q10 with ⟨t1, TY⟩ | ⟨t1, TY⟩
    · -- a variable
      refine pc_if (fun y => absurd y (by omega)) (fun _ => ?_)
      refine pc_add (by omega) ?_; intro v14 e14
      rw [e14]
      refine pc_fl ?_
      refine pc_sv (r_sgn BK d (t := p) g2 (by omega) (k := 42) (by decide) (by decide)) ?_; intro u75 q75
      refine pc_if (fun _ => ?_) (fun y => absurd (by omega) y)
      refine pc_sv (r_typed BK d g3 g2) ?_; intro u77 q77
      refine pc_if (fun y => ?_) (fun _ => ?_)
      · rcases q77 with ⟨q, -⟩ | ⟨-, q⟩
        · omega
        · exact absurd TY q
      · exact pc_fl (js_var BK ha2 Gc Gr TY J0 hr)
    · refine pc_if (fun _ => ?_) (fun y => absurd t1 y)
      refine pc_add (by omega) ?_; intro v11 e11
      rw [e11, c_plainE BK b g3 g1 g4]
      by_cases z11 : K p = 11
      · rw [if_pos z11]
        refine pc_fl (rs_go BK d g3 g2 (by omega) TY (by omega) (fun v83 e83 => ?_))
        refine pc_if (fun _ => ?_) (fun y => absurd (by omega) y)
        unfold qj_X13_statement_467
        refine pc_rA ?_; intro _ _ v15 e15
        rw [show (r 160 23).toNat = p by omega, d.2.2.1 p (by omega) (by omega)] at e15
        refine pc_if (fun y => absurd (by omega) y) (fun _ => ?_)
        exact pc_fl (js_leave (a := a) BK ha Gc (.inl ⟨z11, rfl⟩) J0 hr)
      rw [if_neg z11]
      by_cases z14 : K p = 14
      · rw [if_pos z14]
        refine pc_fl (rs_go BK d g3 g2 (by omega) TY (by omega) (fun v83 e83 => ?_))
        refine pc_if (fun y => absurd y (by omega)) (fun _ => pc_if (fun _ => ?_) (fun y => absurd (by omega) y))
        unfold qj_X13_statement_467
        refine pc_rA ?_; intro _ _ v15 e15
        rw [show (r 160 23).toNat = p by omega, d.2.2.1 p (by omega) (by omega)] at e15
        refine pc_if (fun _ => ?_) (fun y => absurd (by omega) y)
        exact pc_fl (js_leave (a := a) BK ha Gc (.inr ⟨z14, rfl⟩) J0 hr)
      rw [if_neg z14]
      by_cases z23 : K p = 23
      · rw [if_pos z23]
        refine pc_fl (rs_go BK d g3 g2 (by omega) TY (by omega) (fun v83 e83 => ?_))
        refine pc_if (fun y => absurd y (by omega)) (fun _ => pc_if (fun y => absurd y (by omega)) (fun _ => pc_if (fun y => absurd y (by omega)) (fun _ => pc_if (fun _ => ?_) (fun y => absurd (by omega) y))))
        exact pc_fl (js_print BK ha2 Gc z23 J0 hr)
      rw [if_neg z23]
      by_cases z24 : K p = 24
      · rw [if_pos z24]
        refine pc_fl (rs_go BK d g3 g2 (by omega) TY (by omega) (fun v83 e83 => ?_))
        refine pc_if (fun y => absurd y (by omega)) (fun _ => pc_if (fun y => absurd y (by omega)) (fun _ => pc_if (fun y => absurd y (by omega)) (fun _ => pc_if (fun y => absurd y (by omega)) (fun _ => pc_if (fun _ => ?_) (fun y => absurd (by omega) y)))))
        exact pc_fl (js_return BK ha2 Gc z24 J0 hr)
      rw [if_neg z24]
      by_cases z27 : K p = 27
      · rw [if_pos z27]
        refine pc_fl (rs_go BK d g3 g2 (by omega) TY (by omega) (fun v83 e83 => ?_))
        refine pc_if (fun y => absurd y (by omega)) (fun _ => pc_if (fun y => absurd y (by omega)) (fun _ => pc_if (fun y => absurd y (by omega)) (fun _ => pc_if (fun y => absurd y (by omega)) (fun _ => pc_if (fun y => absurd y (by omega)) (fun _ => pc_if (fun _ => ?_) (fun y => absurd (by omega) y))))))
        exact pc_fl (js_throw BK ha2 Gc z27 J0 hr)
      rw [if_neg z27]
      have PL : PLp K (p : Int) := by
        refine ⟨TY, ?_⟩
        rw [Int.toNat_natCast]; omega
      have R := js_plain (nn := nn) BK ha2 Gc PL J0 hr
      by_cases kw : 10 ≤ K p ∧ K p ≤ 31
      · refine pc_fl (rs_go BK d g3 g2 (by omega) TY kw (fun v83 e83 => ?_))
        refine pc_if (fun y => absurd y (by omega)) (fun _ => pc_if (fun y => absurd y (by omega)) (fun _ => pc_if (fun y => absurd y (by omega)) (fun _ => pc_if (fun y => absurd y (by omega)) (fun _ => pc_if (fun y => absurd y (by omega)) (fun _ => pc_if (fun y => absurd y (by omega)) (fun _ => pc_if (fun y => absurd y (by omega)) (fun _ => pc_if (fun y => absurd y (by omega)) (fun _ => ?_))))))))
        unfold qj_X13_statement_755
        exact pc_sb (pc_imp (pc_fl R) (fun a q => pc_ret q))
      · refine pc_fl ?_
        refine pc_sv (r_sgn BK d (t := p) g2 (by omega) (k := 42) (by decide) (by decide)) ?_; intro u75 q75
        refine pc_if (fun _ => ?_) (fun y => absurd (by omega) y)
        refine pc_sv (r_typed BK d g3 g2) ?_; intro u77 q77
        refine pc_if (fun _ => ?_) (fun y => ?_)
        · refine pc_rA ?_; intro _ _ v80 e80
          rw [show (r 160 23).toNat = p by omega] at e80
          refine pc_if (fun y => absurd y (by omega)) (fun _ => ?_)
          exact pc_sb (pc_imp (pc_fl R) (fun a q => pc_ret q))
        · rcases q77 with ⟨-, q⟩ | ⟨q, -⟩
          · exact absurd q TY
          · exact absurd q y
  · refine pc_if (fun z => absurd z c1) (fun _ => ?_)
    refine pc_ret ?_
    exact pc_if (fun z => absurd z c2) (fun _ => pc_ret (.inl S))
/-- blocks and statements, at any depth of both sides' calls -/
theorem gst_all (BK : TBn K c) : ∀ d d2 : Nat, PT K P c 8 (qg_X8_readBlock nn d).1 (qg_X13_block nn d2).1 ∧ PT K P c 6 (qg_X8_readBlock nn d).2.1 (qg_X13_block nn d2).2 := by
  intro d
  induction d using Nat.strongRecOn with
  | ind d ih =>
    intro d2
    cases d with
    | zero => exact ⟨fun a p h r _ _ _ => pc_none, fun a p h r _ _ _ => pc_none⟩
    | succ d =>
      have I := ih d (by omega)
      have Gc := fsg_X8_readBlock nn d
      cases d2 with
      | zero => exact ⟨fun a p h r _ _ _ => fun _ _ => pc_none, fun a p h r _ _ _ => fun _ _ => pc_none⟩
      | succ d2 =>
        have Gr := ftg_X13_block nn d2
        refine ⟨fun a p h r ha J hr => ?_, fun a p h r ha J hr => ?_⟩
        · exact js_B BK ha Gc Gr (I d2).2 J hr
        · refine js_T BK ha Gc Gr (I d2).2 (I d2).1 (fun a40 kp => ?_) J hr
          cases d with
          | zero => exact pc_none
          | succ d0 => exact js_try BK ⟨ha.1, a40⟩ (fsg_X8_readBlock nn d0) Gr (ih d0 (by omega) d2).1 kp J hr
theorem j_block (BK : TBn K c) {a : Int} (ha : 0 ≤ a ∧ a ≤ 40) (J : JPp K P c p h r) (hr : 0 ≤ r 160 22) : Pc (qf_X8_readBlock nn a h) (fun u => Pc (qf_X13_block nn a r) (fun v => JS a K P c p 8 r u v)) := (gst_all BK 150 160).1 a p h r ha J hr
end
end

/- PARSE: TYPE, S of both sides -/
section
variable {α β γ : Type}
theorem p2_sa {x : Option α} {F : α → Option β} {y : Option γ} {Z : β → γ → Prop} (H : Pc x (fun a => Pc y (fun v => Pc (F a) (fun u => Z u v)))) : Pc (mx_sv x F) (fun u => Pc y (fun v => Z u v)) := by
  refine pc_se ?_; intro a ea
  exact pc_fl (H a ea)
end
/-- what a reader of a statement leaves on both sides -/
def JS (dp : Int) (K P : Nat → Int) (c p s : Nat) (r u : ms_M) (v : Int × ms_M) : Prop := SFj u v.2 ∨ ∃ q : Nat, (JPp K P c q u v.2 ∧ p < q) ∧ LKn dp K v.2 s 0 0 (r 160 22) (v.2 160 22) (p : Int) (q : Int) v.1 ∧ v.2 173 v.1.toNat = -1 ∧ NDf r v.2
def PT (K P : Nat → Int) (c s : Nat) (x : Int → ms_M → Option ms_M) (y : Int → ms_M → Option (Int × ms_M)) : Prop := ∀ (a : Int) (p : Nat) (h r : ms_M), (0 ≤ a ∧ a ≤ 40) → JPp K P c p h r → 0 ≤ r 160 22 → Pc (x a h) (fun u => Pc (y a r) (fun v => JS a K P c p s r u v))
section
variable {nn : Nat} {K P : Nat → Int} {c p : Nat} {h g r w u v : ms_M}
theorem c_typed (BK : TBn K c) (B : TBc K P c h) (hp : p < c) (hc : h 2 10 = (p : Int)) (hf : h 2 11 = 0) : Pc (qf_X9_beginsVariable nn h) (fun u => (u = 1 ∧ TYp K (p : Int)) ∨ (u = 0 ∧ ¬ TYp K (p : Int))) := by
  have n3 := BK.2.1
  have E1 : ((p : Int) + 1).toNat = p + 1 := by omega
  have E2 : ((p : Int) + 2).toNat = p + 2 := by omega
  unfold TYp
  rw [Int.toNat_natCast, E1, E2]
  unfold qf_X9_beginsVariable
  refine pc_sv (c_kind BK B hp hc hf) ?_; intro u2 q2
  refine pc_if (fun z => ?_) (fun z => pc_if (fun z2 => pc_ret (.inl ⟨rfl, by omega⟩)) (fun z2 => pc_if (fun z3 => pc_ret (.inr ⟨rfl, by omega⟩)) (fun z3 => pc_ret (.inl ⟨rfl, by omega⟩))))
  rw [hc]
  refine pc_add (by omega) ?_; intro v4 e4
  refine pc_sv (c_kindAt BK B (t := p + 1) (by omega)) ?_; intro u6 q6
  refine pc_if (fun z2 => pc_ret (.inl ⟨rfl, by omega⟩)) (fun z2 => pc_if (fun z3 => pc_ret (.inr ⟨rfl, by omega⟩)) (fun z3 => ?_))
  refine pc_add (by omega) ?_; intro v8 e8
  refine pc_sv (c_kindAt BK B (t := p + 2) (by omega)) ?_; intro u10 q10
  exact pc_if (fun z4 => pc_ret (.inr ⟨rfl, by omega⟩)) (fun z4 => pc_ret (.inl ⟨rfl, by omega⟩))
theorem r_typed (BK : TBn K c) (B : TBq K P c r) (hp : p < c) (hc : r 160 23 = (p : Int)) : Pc (qf_X13_isTyped nn r) (fun u => (u = 1 ∧ TYp K (p : Int)) ∨ (u = 0 ∧ ¬ TYp K (p : Int))) := by
  have n3 := BK.2.1
  have E1 : ((p : Int) + 1).toNat = p + 1 := by omega
  have E2 : ((p : Int) + 2).toNat = p + 2 := by omega
  have k0 := r_kd BK B (t := p) (by omega)
  have k1 := r_kd BK B (t := p + 1) (by omega)
  unfold TYp
  rw [Int.toNat_natCast, E1, E2]
  unfold qf_X13_isTyped
  rw [hc]
  refine pc_sv (r_wrd BK B rfl (by omega) (by decide)) ?_; intro u3 q3
  refine pc_if (fun z => pc_ret (.inl ⟨rfl, by omega⟩)) (fun z => ?_)
  refine pc_sv (r_wrd BK B rfl (by omega) (by decide)) ?_; intro u6 q6
  refine pc_if (fun z2 => ?_) (fun z2 => pc_ret (.inl ⟨rfl, by omega⟩))
  refine pc_rA ?_; intro _ _ v9 e9
  rw [Int.toNat_natCast] at e9
  refine pc_if (fun z3 => ?_) (fun z3 => pc_ret (.inr ⟨rfl, by omega⟩))
  refine pc_add (by omega) ?_; intro v12 e12
  refine pc_rA ?_; intro _ _ v13 e13
  rw [show v12.toNat = p + 1 by omega] at e13
  refine pc_if (fun z4 => pc_ret (.inl ⟨rfl, by omega⟩)) (fun z4 => ?_)
  refine pc_add (by omega) ?_; intro v15 e15
  refine pc_sv (r_sgn BK B (t := p + 1) (by omega) (by omega) (k := 44) (by decide) (by decide)) ?_; intro u17 q17
  refine pc_if (fun z5 => pc_ret (.inr ⟨rfl, by omega⟩)) (fun z5 => ?_)
  refine pc_add (by omega) ?_; intro v19 e19
  refine pc_sv (r_sgn BK B (t := p + 2) (by omega) (by omega) (k := 45) (by decide) (by decide)) ?_; intro u21 q21
  exact pc_if (fun z6 => pc_ret (.inr ⟨rfl, by omega⟩)) (fun z6 => pc_ret (.inl ⟨rfl, by omega⟩))
/-- TYPE -/
def JT2 (K P : Nat → Int) (c p : Nat) (r u v : ms_M) : Prop := SFj u v ∨ ∃ (t : Nat) (bs rw : Int), (JPp K P c t u v ∧ p < t) ∧ TYk K (p : Int) (t : Int) bs rw ∧ (v 160 45 = bs ∧ v 160 46 = (p : Int) ∧ v 160 47 = rw) ∧ v 160 22 = r 160 22 ∧ (∀ c x : Nat, ¬ (c = 160 ∧ (x = 9 ∨ x = 10 ∨ x = 23 ∨ x = 45 ∨ x = 46 ∨ x = 47)) → v c x = r c x)
theorem j_type (BK : TBn K c) (J : JPp K P c p h r) : Pc (qf_X8_readType nn h) (fun u => Pc (qf_X13_type nn r) (fun v => JT2 K P c p r u v)) := by
  have n3 := BK.2.1
  have J0 := J
  obtain ⟨b, d, ⟨g1, g2, g3⟩, g4, g5⟩ := J
  have E1 : ((p : Int) + 1).toNat = p + 1 := by omega
  have E2 : ((p : Int) + 2).toNat = p + 2 := by omega
  -- [ ] behind the name
  have ROW : ∀ (bs : Int) (h1 r1 : ms_M), ((K p = 20 ∧ bs = 0) ∨ (K p = 2 ∧ bs = 3)) → JPp K P c (p + 1) h1 r1 → (r1 160 45 = bs ∧ r1 160 46 = (p : Int) ∧ r1 160 47 = 0) → (∀ c x : Nat, ¬ (c = 160 ∧ (x = 9 ∨ x = 10 ∨ x = 23 ∨ x = 45 ∨ x = 46 ∨ x = 47)) → r1 c x = r c x) → Pc (qj_X8_readType_24 nn h1) (fun u => Pc (qj_X13_type_96 nn r1) (fun v => JT2 K P c p r u v)) := fun bs h1 r1 hb J1 hv hf => by
    have J1' := J1
    obtain ⟨b1, d1, ⟨k1, k2, k3⟩, k4, k5⟩ := J1'
    unfold qj_X8_readType_24 qj_X13_type_96
    refine pc_sv (c_acc BK b1 k3 k1 k4) ?_; intro u2 q2
    refine pc_fl ?_
    refine pc_if (fun z => absurd k5 z) (fun _ => ?_)
    rw [k2]
    refine pc_sv (r_sgn BK d1 rfl (by omega) (k := 44) (by decide) (by decide)) ?_; intro u4 q4
    rcases q2 with ⟨k44, m2⟩ | ⟨k44, m2⟩
    · refine pc_if (fun _ => ?_) (fun z => absurd (by omega) z)
      refine pc_add (by omega) ?_; intro v6 e6
      refine pc_xl ?_; intro h7 e7
      rw [show v6 = ((p + 2 : Nat) : Int) by omega] at e7
      refine pc_fl ?_
      rw [m2]
      dsimp only
      refine pc_if (fun z => absurd z (by decide)) (fun _ => ?_)
      have J2 : JPp K P c (p + 2) (up_M h1 2 10 ((p + 1 + 1 : Nat) : Int)) h7 := by rw [e7]; exact jp_up BK J1 (q := p + 2) (jp_lt BK k3 (by omega))
      refine p2_sv (j_need BK J2 (k := 45) (by decide) (by decide)) ?_; intro y4 y9 z9
      refine pc_ret ?_
      refine pc_xl ?_; intro h10 e10
      refine pc_ret ?_
      rcases z9 with ⟨k45, m9, J9⟩ | S
      · refine .inr ⟨p + 3, bs, 1, ⟨by rw [e10]; exact jp_c J9 (by decide), by omega⟩, ?_, ⟨?_, ?_, by rw [e10, up_s]⟩, ?_, fun c x z => ?_⟩
        · unfold TYk
          rw [Int.toNat_natCast, E1, E2]; omega
        · rw [e10, up_n (by omega), m9, up_n (by omega), e7, up_n (by omega)]; exact hv.1
        · rw [e10, up_n (by omega), m9, up_n (by omega), e7, up_n (by omega)]; exact hv.2.1
        · rw [e10, up_n (by omega), m9, up_n (by omega), e7, up_n (by omega)]; exact hf 160 22 (by omega)
        · rw [e10, up_n (by omega), m9, up_n (by omega), e7, up_n (by omega)]; exact hf c x z
      · refine .inl ⟨S.1, ?_, ?_⟩
        · rw [e10, up_n (by omega)]; exact S.2.1
        · rw [e10, up_n (by omega)]; exact S.2.2
    · refine pc_if (fun z => absurd z (by omega)) (fun _ => ?_)
      refine pc_ret ?_
      rw [m2]
      dsimp only
      refine pc_if (fun _ => ?_) (fun z => absurd rfl z)
      refine pc_ret (.inr ⟨p + 1, bs, 0, ⟨J1, by omega⟩, ?_, hv, hf 160 22 (by omega), hf⟩)
      unfold TYk
      rw [Int.toNat_natCast, E1, E2]; omega
  unfold qf_X8_readType qf_X13_type
  refine pc_fl ?_
  refine pc_if (fun _ => ?_) (fun z => absurd g5 z)
  refine pc_xl ?_; intro h23 e23
  refine pc_xl ?_; intro h24 e24
  have c24 : h24 160 23 = (p : Int) := by rw [e24, up_n (by omega), e23, up_n (by omega)]; exact g2
  have J24 : JPp K P c p h h24 := by rw [e24, e23]; exact jp_c (jp_c J0 (by decide)) (by decide)
  have d24 := J24.2.1
  have F24 : ∀ c x : Nat, ¬ (c = 160 ∧ (x = 9 ∨ x = 10 ∨ x = 23 ∨ x = 45 ∨ x = 46 ∨ x = 47)) → h24 c x = r c x := fun c x z => by rw [e24, up_n (by omega), e23, up_n (by omega)]
  have v46 : h24 160 46 = (p : Int) := by rw [e24, up_n (by omega), e23, up_s]; exact g2
  have v47 : h24 160 47 = 0 := by rw [e24, up_s]
  rw [c24]
  refine pc_sv (r_wrd BK d24 rfl (by omega) (by decide)) ?_; intro u27 q27
  refine pc_fl ?_
  refine pc_sv (c_acc BK b g3 g1 g4) ?_; intro u7 q7
  rcases q7 with ⟨k10, m7⟩ | ⟨k10, m7⟩
  · rw [m7]
    dsimp only
    refine pc_if (fun z => absurd z (by decide)) (fun _ => ?_)
    refine pc_ret ?_
    refine pc_if (fun z => absurd z (by omega)) (fun _ => ?_)
    refine pc_xl ?_; intro h32 e32
    have c32 : h32 160 23 = (p : Int) := by rw [e32, up_n (by omega)]; exact c24
    rw [c32]
    refine pc_add (by omega) ?_; intro v34 e34
    refine pc_xl ?_; intro h35 e35
    rw [show v34 = ((p + 1 : Nat) : Int) by omega] at e35
    refine pc_ret (.inr ⟨p + 1, 1, 0, ⟨?_, by omega⟩, ?_, ⟨?_, ?_, ?_⟩, ?_, fun c x z => ?_⟩)
    · have J32 : JPp K P c p h h32 := by rw [e32]; exact jp_c J24 (by decide)
      rw [e35]; exact jp_up BK J32 (jp_lt BK g3 (by omega))
    · unfold TYk
      rw [Int.toNat_natCast]; omega
    · rw [e35, up_n (by omega), e32, up_s]
    · rw [e35, up_n (by omega), e32, up_n (by omega)]; exact v46
    · rw [e35, up_n (by omega), e32, up_n (by omega)]; exact v47
    · rw [e35, up_n (by omega), e32, up_n (by omega)]; exact F24 160 22 (by omega)
    · rw [e35, up_n (by omega), e32, up_n (by omega)]; exact F24 c x z
  · rw [m7]
    dsimp only
    refine pc_if (fun _ => ?_) (fun z => absurd rfl z)
    refine pc_fl ?_
    refine pc_if (fun _ => ?_) (fun z => absurd (by omega) z)
    refine pc_sv (r_wrd BK d24 rfl (by omega) (by decide)) ?_; intro u30 q30
    refine pc_fl ?_
    refine pc_sv (c_acc BK b g3 g1 g4) ?_; intro u9 q9
    unfold qj_X13_type_68
    rcases q9 with ⟨k20, m9⟩ | ⟨k20, m9⟩
    · rw [m9]
      dsimp only
      refine pc_if (fun _ => ?_) (fun z => absurd (show ¬ (1 : Int) = 0 by decide) z)
      refine pc_fl ?_
      refine pc_if (fun z => absurd z (by omega)) (fun _ => ?_)
      refine pc_xl ?_; intro h13 e13
      have c45 : h13 160 45 = 0 := by rw [e13, up_s]
      have c13 : h13 160 23 = (p : Int) := by rw [e13, up_n (by omega)]; exact c24
      refine pc_if (fun z => absurd c45 z) (fun _ => ?_)
      rw [c13]
      refine pc_add (by omega) ?_; intro v18 e18
      refine pc_xl ?_; intro h19 e19
      rw [show v18 = ((p + 1 : Nat) : Int) by omega] at e19
      refine pc_fl ?_
      refine ROW 0 _ h19 (.inl ⟨k20, rfl⟩) ?_ ⟨?_, ?_, ?_⟩ (fun c x z => ?_)
      · have J13 : JPp K P c p h h13 := by rw [e13]; exact jp_c J24 (by decide)
        rw [e19]; exact jp_up BK J13 (jp_lt BK g3 (by omega))
      · rw [e19, up_n (by omega)]; exact c45
      · rw [e19, up_n (by omega), e13, up_n (by omega)]; exact v46
      · rw [e19, up_n (by omega), e13, up_n (by omega)]; exact v47
      · rw [e19, up_n (by omega), e13, up_n (by omega)]; exact F24 c x z
    · rw [m9]
      dsimp only
      refine pc_if (fun z => absurd rfl z) (fun _ => ?_)
      refine pc_fl ?_
      refine pc_if (fun _ => ?_) (fun z => absurd (by omega) z)
      refine pc_xl ?_; intro h13 e13
      have c45 : h13 160 45 = 3 := by rw [e13, up_s]
      have J13 : JPp K P c p h h13 := by rw [e13]; exact jp_c J24 (by decide)
      refine pc_if (fun _ => ?_) (fun z => absurd (by omega) z)
      refine pc_fl ?_
      refine p2_sv (j_name BK J13) ?_; intro u11 u16 q16
      rcases q16 with ⟨k2, m16, J16⟩ | S
      · have mm : u16.2 = up_M h13 160 23 ((p + 1 : Nat) : Int) := by rw [m16]
        refine ROW 3 u11 u16.2 (.inr ⟨k2, rfl⟩) J16 ⟨?_, ?_, ?_⟩ (fun c x z => ?_)
        · rw [mm, up_n (by omega)]; exact c45
        · rw [mm, up_n (by omega), e13, up_n (by omega)]; exact v46
        · rw [mm, up_n (by omega), e13, up_n (by omega)]; exact v47
        · rw [mm, up_n (by omega), e13, up_n (by omega)]; exact F24 c x z
      · refine pj_sf (o := fun a => a) (q := fun b => b) S (fs_qj_X8_readType_24 S.1) (ft_qj_X13_type_96 (sf_r S)) (fun a b s => .inl s)
/-- BLOCK: its statements -/
theorem jb_22 (BK : TBn K c) {rc : tq_X8_readBlock} {rd : tq_X13_block} {a : Int} (ha : 0 ≤ a ∧ a ≤ 40) (Gc : FScG_X8_readBlock rc) (Gr : FSrG_X13_block rd) (IT : PT K P c 6 rc.2.1 rd.2) : ∀ (f k q : Nat) (h r : ms_M) (l2 l3 t : Int), JPp K P c q h r → 0 ≤ r 160 22 → (0 ≤ l2 ∧ l2 < r 160 22) → (l3 = -1 ∨ (0 ≤ l3 ∧ l3 < r 160 22)) → (0 ≤ t ∧ t < (q : Int)) → Pc (qw_X8_readBlock_8 nn rc f a t h) (fun u => Pc (qw_X13_block_22 nn rd k a l2 l3 r) (fun v => SFj u v.2 ∨ ∃ (q2 : Nat) (m : Int), (JPp K P c (q2 + 1) u v.2 ∧ q ≤ q2 ∧ K q2 = 43) ∧ LKn a K v.2 7 0 0 (r 160 22) (v.2 160 22) (q : Int) (q2 : Int) m ∧ v.1 = l2 ∧ ((l3 = -1 ∧ (v.2 170 l2.toNat = m ∨ (m = -1 ∧ v.2 170 l2.toNat = r 170 l2.toNat))) ∨ (¬ l3 = -1 ∧ (v.2 173 l3.toNat = m ∨ (m = -1 ∧ v.2 173 l3.toNat = r 173 l3.toNat)))) ∧ r 160 22 ≤ v.2 160 22 ∧ ∀ c x : Nat, 167 ≤ c → c ≤ 177 → (x : Int) < r 160 22 → ¬ (c = 173 ∧ x = l3.toNat ∧ ¬ l3 = -1) → ¬ (c = 170 ∧ x = l2.toNat ∧ l3 = -1) → v.2 c x = r c x)) := by
  have n3 := BK.2.1
  intro f
  induction f with
  | zero => intros; exact pc_none
  | succ f ih =>
    intro k q h r l2 l3 t J hr hl2 hl3 ht
    cases k with
    | zero => exact fun _ _ => pc_none
    | succ k =>
      have J0 := J
      obtain ⟨b, d, ⟨g1, g2, g3⟩, g4, g5⟩ := J
      unfold qw_X8_readBlock_8 qw_X13_block_22
      refine pc_if (fun z => absurd z (by omega)) (fun _ => ?_)
      refine pc_if (fun z => absurd g4 z) (fun _ => ?_)
      refine pc_sv (c_kind BK b g3 g1 g4) ?_; intro u7 q7
      refine pc_fl ?_
      refine pc_if (fun z => absurd g5 z) (fun _ => ?_)
      rw [g2]
      refine pc_sv (r_sgn BK d rfl (by omega) (k := 43) (by decide) (by decide)) ?_; intro u6 q6
      refine pc_fl ?_
      by_cases k43 : K q = 43
      · refine pc_if (fun _ => ?_) (fun z => absurd (by omega) z)
        refine pc_fl ?_
        refine pc_if (fun _ => ?_) (fun z => absurd (by omega) z)
        refine pc_fl ?_
        unfold qj_X8_readBlock_48 qj_X13_block_79
        refine p2_sv (j_need BK J0 (k := 43) (by decide) (by decide)) ?_; intro u2 w2 z2
        refine pc_ret (pc_ret ?_)
        rcases z2 with ⟨-, m2, J2⟩ | S
        · refine .inr ⟨q, -1, ⟨J2, by omega, k43⟩, lk_ln (by rw [Int.toNat_natCast]; exact k43) ha, rfl, ?_, by show _ ≤ w2 160 22; rw [m2, up_n (by omega)]; omega, fun c x c1 c2 c3 c4 c5 => by show w2 c x = _; rw [m2, up_n (by omega)]⟩
          by_cases z : l3 = -1
          · exact .inl ⟨z, .inr ⟨rfl, by show w2 170 _ = _; rw [m2, up_n (by omega)]⟩⟩
          · exact .inr ⟨z, .inr ⟨rfl, by show w2 173 _ = _; rw [m2, up_n (by omega)]⟩⟩
        · exact .inl S
      · refine pc_if (fun z => absurd z (by omega)) (fun _ => ?_)
        refine pc_fl ?_
        refine pc_if (fun z => absurd z (by omega)) (fun _ => ?_)
        refine pc_fl ?_
        refine p2_sv (IT a q h r ha J0 hr) ?_; intro u9 u8 q8
        rcases q8 with S | ⟨q1, ⟨J1, pq⟩, L1, x1, N1⟩
        · refine pj_sf (o := fun a => a) (q := fun b => b.2) S ?_ ?_ (fun a b s => .inl s)
          · have S1 : ¬ u9 2 11 = 0 := S.1
            have F : FSc u9 u9 := fs_r
            refine pc_xl ?_; intro v10 _
            exact pc_imp (fs_qw_X8_readBlock_8 Gc _ _ _ _ (fs_n S1 F)) (fun _ q => fs_t F q)
          · have S1 : ¬ u8.2 160 9 = 0 := sf_r S
            have F : FSr u8.2 u8.2 := ft_r
            refine pc_if (fun _ => ?_) (fun _ => ?_)
            · refine pc_wA ?_; intro _ _ h10 Eh10
              have Fh10 : FSr u8.2 h10 := by rw [Eh10]; exact ft_u F (by omega)
              exact pc_imp (ft_qw_X13_block_22 Gr _ _ _ _ _ (ft_n S1 Fh10)) (fun _ q => ft_t Fh10 q)
            · refine pc_wA ?_; intro _ _ h12 Eh12
              have Fh12 : FSr u8.2 h12 := by rw [Eh12]; exact ft_u F (by omega)
              exact pc_imp (ft_qw_X13_block_22 Gr _ _ _ _ _ (ft_n S1 Fh12)) (fun _ q => ft_t Fh12 q)
        · refine pc_add (by omega) ?_; intro v10 e10
          have rg := lk_rg L1 (by decide) (by decide)
          have nn1 := N1.1
          -- what is written: cell m0, place n0
          have GO : ∀ (m0 n0 : Nat) (h10 : ms_M), (m0 = 173 ∨ m0 = 170) → (n0 : Int) < r 160 22 → h10 = up_M u8.2 m0 n0 u8.1 → (∀ (w : Int × ms_M) (uu : ms_M) (q2 : Nat), JPp K P c (q2 + 1) uu w.2 → q ≤ q2 → K q2 = 43 → LKn a K w.2 7 0 0 (r 160 22) (w.2 160 22) (q : Int) (q2 : Int) u8.1 → w.1 = l2 → w.2 m0 n0 = u8.1 → r 160 22 ≤ w.2 160 22 → (∀ c x : Nat, 167 ≤ c → c ≤ 177 → (x : Int) < r 160 22 → ¬ (c = m0 ∧ x = n0) → w.2 c x = r c x) → SFj uu w.2 ∨ ∃ (q2 : Nat) (m : Int), (JPp K P c (q2 + 1) uu w.2 ∧ q ≤ q2 ∧ K q2 = 43) ∧ LKn a K w.2 7 0 0 (r 160 22) (w.2 160 22) (q : Int) (q2 : Int) m ∧ w.1 = l2 ∧ ((l3 = -1 ∧ (w.2 170 l2.toNat = m ∨ (m = -1 ∧ w.2 170 l2.toNat = r 170 l2.toNat))) ∨ (¬ l3 = -1 ∧ (w.2 173 l3.toNat = m ∨ (m = -1 ∧ w.2 173 l3.toNat = r 173 l3.toNat)))) ∧ r 160 22 ≤ w.2 160 22 ∧ ∀ c x : Nat, 167 ≤ c → c ≤ 177 → (x : Int) < r 160 22 → ¬ (c = 173 ∧ x = l3.toNat ∧ ¬ l3 = -1) → ¬ (c = 170 ∧ x = l2.toNat ∧ l3 = -1) → w.2 c x = r c x) → Pc (qw_X8_readBlock_8 nn rc f a v10 u9) (fun uu => Pc (qw_X13_block_22 nn rd k a l2 u8.1 h10) (fun w => SFj uu w.2 ∨ ∃ (q2 : Nat) (m : Int), (JPp K P c (q2 + 1) uu w.2 ∧ q ≤ q2 ∧ K q2 = 43) ∧ LKn a K w.2 7 0 0 (r 160 22) (w.2 160 22) (q : Int) (q2 : Int) m ∧ w.1 = l2 ∧ ((l3 = -1 ∧ (w.2 170 l2.toNat = m ∨ (m = -1 ∧ w.2 170 l2.toNat = r 170 l2.toNat))) ∨ (¬ l3 = -1 ∧ (w.2 173 l3.toNat = m ∨ (m = -1 ∧ w.2 173 l3.toNat = r 173 l3.toNat)))) ∧ r 160 22 ≤ w.2 160 22 ∧ ∀ c x : Nat, 167 ≤ c → c ≤ 177 → (x : Int) < r 160 22 → ¬ (c = 173 ∧ x = l3.toNat ∧ ¬ l3 = -1) → ¬ (c = 170 ∧ x = l2.toNat ∧ l3 = -1) → w.2 c x = r c x)) := fun m0 n0 h10 hm hn0 e10' FIN => by
            have J10 : JPp K P c q1 u9 h10 := by rw [e10']; exact jp_w J1 (by omega)
            have n10 : h10 160 22 = u8.2 160 22 := by rw [e10', up_n (by omega)]
            refine (fun uu euu w ew => ?_)
            have R := ih k q1 u9 h10 l2 u8.1 v10 J10 (by omega) (by omega) (.inr (by omega)) (by omega) uu euu w ew
            rcases R with R | ⟨q2, m, ⟨R1, R2, R3⟩, R4, R5, R6, R7, R8⟩
            · exact .inl R
            · have nx : w.2 173 u8.1.toNat = m := by
                rcases R6 with ⟨z, -⟩ | ⟨-, z | ⟨z1, z2⟩⟩
                · omega
                · exact z
                · rw [z2, e10', up_n (by omega), x1, z1]
              have old : ∀ c x : Nat, 167 ≤ c → c ≤ 177 → (x : Int) < u8.2 160 22 → ¬ (c = 173 ∧ x = u8.1.toNat) → w.2 c x = h10 c x := fun c x c1 c2 c3 c4 => R8 c x c1 c2 (by omega) (fun z => c4 ⟨z.1, z.2.1⟩) (fun z => by omega)
              refine FIN w uu q2 R1 (by omega) R3 ?_ R5 ?_ (by omega) (fun c x c1 c2 c3 c4 => ?_)
              · refine lk_lc (t := (q1 : Int)) (y := u8.2 160 22) ⟨hr, by omega, by omega, by omega⟩ (by rw [Int.toNat_natCast]; exact k43) ?_ ?_
                · refine lk_map L1 (fun c x c1 c2 _ y1 y2 _ y4 => ?_)
                  have : ¬ (c = 173 ∧ x = u8.1.toNat) := fun z => absurd (.inl rfl) (y4 z.1 (by omega))
                  rw [old c x c1 c2 y2 this, e10', up_n (by omega)]
                · rw [nx, ← n10]; exact R4
              · rw [old m0 n0 (by omega) (by omega) (by omega) (by omega), e10', up_s]
              · rw [old c x c1 c2 (by omega) (by omega), e10', up_n (by omega)]; exact N1.2 c x c1 c2 c3
          refine pc_fl ?_
          refine pc_if (fun z => ?_) (fun z => ?_)
          · have hl3' : 0 ≤ l3 ∧ l3 < r 160 22 := by omega
            refine pc_wA ?_; intro i1 i2 h10 e10'
            refine pc_fl ?_
            exact GO 173 l3.toNat h10 (.inl rfl) (by omega) e10' (fun w uu q2 y1 y2 y3 y4 y5 y6 y7 y8 => .inr ⟨q2, u8.1, ⟨y1, y2, y3⟩, y4, y5, .inr ⟨z, .inl y6⟩, y7, fun c x c1 c2 c3 c4 c5 => y8 c x c1 c2 c3 (fun y => c4 ⟨y.1, y.2, z⟩)⟩)
          · have z := Decidable.not_not.1 z
            refine pc_wA ?_; intro i1 i2 h12 e12
            refine pc_fl ?_
            exact GO 170 l2.toNat h12 (.inr rfl) (by omega) e12 (fun w uu q2 y1 y2 y3 y4 y5 y6 y7 y8 => .inr ⟨q2, u8.1, ⟨y1, y2, y3⟩, y4, y5, .inl ⟨z, .inl y6⟩, y7, fun c x c1 c2 c3 c4 c5 => y8 c x c1 c2 c3 (fun y => c5 ⟨y.1, y.2, z⟩)⟩)
theorem js_B (BK : TBn K c) {rc : tq_X8_readBlock} {rd : tq_X13_block} {a : Int} (ha : 0 ≤ a ∧ a ≤ 40) (Gc : FScG_X8_readBlock rc) (Gr : FSrG_X13_block rd) (IT : PT K P c 6 rc.2.1 rd.2) (J : JPp K P c p h r) (hr : 0 ≤ r 160 22) : Pc (qo_X8_readBlock nn rc a h) (fun u => Pc (qo_X13_block nn rd a r) (fun v => JS a K P c p 8 r u v)) := by
  have n3 := BK.2.1
  have J0 := J
  obtain ⟨b, d, ⟨g1, g2, g3⟩, g4, g5⟩ := J
  unfold qo_X8_readBlock qo_X13_block
  refine pc_fl ?_
  rw [g2]
  refine pc_sv r_add ?_; intro u19 q19
  obtain ⟨⟨x1, x2, x3⟩, ND, FR⟩ := q19
  have J19 : JPp K P c p h u19.2 := jp_r J0 (fun c k z => FR c k (by omega) (by omega))
  have N19 : NDf r u19.2 := ⟨by rw [x3]; omega, fun c x c1 c2 c3 => FR c x (by omega) (by omega)⟩
  refine pc_fl ?_
  refine p2_sv (j_need BK J19 (k := 42) (by decide) (by decide)) ?_; intro u15 u21 q21
  rcases q21 with ⟨k42, m21, J21⟩ | S
  · have n21 : u21 160 22 = r 160 22 + 1 := by rw [m21, up_n (by omega)]; exact x3
    have N21 : NDf r u21 := by rw [m21]; exact ndf_c N19 (by decide)
    have ND21 := nd_o (z := ((p + 1 : Nat) : Int)) (m := 160) (j := 23) ND (.inr (by decide))
    rw [← m21] at ND21
    rw [x2]
    refine (fun uu euu w ew => ?_)
    have R := jb_22 BK ha Gc Gr IT nn nn (p + 1) u15 u21 (r 160 22) (-1) 0 J21 (by omega) (by omega) (.inl rfl) (by omega) uu euu w ew
    rcases R with R | ⟨q2, m, ⟨R1, R2, R3⟩, R4, R5, R6, R7, R8⟩
    · exact .inl R
    · have on : w.2 170 (r 160 22).toNat = m := by
        rcases R6 with ⟨-, z | ⟨z1, z2⟩⟩ | ⟨z, -⟩
        · exact z
        · rw [z2, ND21.2.1.1, z1]
        · exact absurd rfl z
      have row : ∀ c : Nat, 167 ≤ c → c ≤ 177 → ¬ c = 170 → w.2 c (r 160 22).toNat = u21 c (r 160 22).toNat := fun c c1 c2 c3 => R8 c _ c1 c2 (by omega) (fun z => z.2.2 rfl) (fun z => c3 z.1)
      refine .inr ⟨q2 + 1, ⟨R1, by omega⟩, ?_, ?_, ⟨by omega, fun c x c1 c2 c3 => ?_⟩⟩
      · rw [R5]
        refine lk_bk (t := (q2 : Int)) ⟨hr, Int.le_refl _, by omega⟩ ⟨?_, ?_⟩ (by rw [Int.toNat_natCast]; exact k42) ?_ ⟨by rw [Int.toNat_natCast]; exact R3, by omega⟩
        · rw [row 167 (by decide) (by decide) (by decide)]; exact ND21.1.1
        · rw [row 169 (by decide) (by decide) (by decide)]; exact ND21.1.2.2
        · rw [on, ← n21, show (p : Int) + 1 = ((p + 1 : Nat) : Int) by omega]; exact R4
      · rw [R5, row 173 (by decide) (by decide) (by decide)]; exact ND21.2.1.2.2.2
      · rw [R8 c x c1 c2 (by omega) (fun z => z.2.2 rfl) (fun z => by omega)]; exact N21.2 c x c1 c2 c3
  · refine pj_sf (o := fun a => a) (q := fun b => b.2) S ?_ ?_ (fun a b s => .inl s)
    · have S1 : ¬ u15 2 11 = 0 := S.1
      have F : FSc u15 u15 := fs_r
      exact pc_imp (fs_qw_X8_readBlock_8 Gc _ _ _ _ (fs_n S1 F)) (fun _ q => fs_t F q)
    · have S1 : ¬ u21 160 9 = 0 := sf_r S
      have F : FSr u21 u21 := ft_r
      exact pc_imp (ft_qw_X13_block_22 Gr _ _ _ _ _ (ft_n S1 F)) (fun _ q => ft_t F q)
end

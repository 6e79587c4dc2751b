/- a handler, on both sides -/
def CHh (fr to c : Int) (h g : ms_M) : Prop := (h 34 10 < 20 ∧ g 34 10 = h 34 10 + 1 ∧ (g 39 (4 * (h 34 10).toNat) = fr ∧ g 39 (4 * (h 34 10).toNat + 1) = to ∧ g 39 (4 * (h 34 10).toNat + 2) = h 34 1 ∧ g 39 (4 * (h 34 10).toNat + 3) = c) ∧ ∀ cc y : Nat, ¬ (cc = 34 ∧ y = 10) → ¬ (cc = 39 ∧ 4 * (h 34 10).toNat ≤ y) → g cc y = h cc y) ∨ (¬ h 34 10 < 20 ∧ g = up_M h 34 15 1)
def CHd (fr to c : Int) (h u : ms_M) : Prop := ∃ (g1 g2 : ms_M) (s : Int) (g3 : ms_M), CHh fr to c h g1 ∧ CPu c g1 g2 ∧ SLc (h 34 1) g2 s g3 ∧ FLc s (h 34 7) (h 34 3 + 1) g3 u
section
variable {nn : Nat} {K V : Nat → Int} {C : Nat → Nat} {W : Nat → List Int} {n F : Nat} {own : Int} {a b T h g u m w v z : ms_M} {PB : Nat → Prop} {WL WM : Int → Int → Prop} {L L2 : List (Int × Int)} {f x j p s l fr to c : Int}
theorem chh_f (H : CHh fr to c h g) : ∀ cc y : Nat, ¬ (cc = 34 ∧ (y = 10 ∨ y = 15)) → ¬ cc = 39 → g cc y = h cc y := fun cc y z1 z2 => by
  rcases H with ⟨-, -, -, e⟩ | ⟨-, e⟩
  · exact e cc y (by omega) (by omega)
  · rw [e, up_n (by omega)]
theorem c_hand (h10 : 0 ≤ h 34 10 ∧ h 34 10 ≤ 20) (Fc : FRc h) (h3 : 0 ≤ h 34 3 ∧ h 34 3 ≤ 1000000) (h7 : 0 ≤ h 34 7) (h1 : 0 ≤ h 34 1) : Pc (qf_X1_addHandler nn fr to c h) (fun u => CHd fr to c h u) := by
  have T76 : ∀ g : ms_M, CHh fr to c h g → Pc (qj_X1_addHandler_76 nn c g) (fun u => CHd fr to c h u) := fun g H => by
    have E := chh_f H
    unfold qj_X1_addHandler_76
    refine pc_sv (c_push (by rw [E 34 3 (by omega) (by omega)]; omega)) ?_; intro u2 CP
    have E2 : ∀ cc y : Nat, ¬ (cc = 34 ∧ (y = 3 ∨ y = 4 ∨ y = 10 ∨ y = 15)) → ¬ (cc = 39 ∨ cc = 36) → u2 cc y = h cc y := fun cc y z1 z2 => by rw [CP.2.2.2 cc y (by omega) (by omega)]; exact E cc y (by omega) (by omega)
    rw [E2 34 1 (by omega) (by omega)]
    have F2 : FRc u2 := frc_k Fc (fun cc y z => E2 cc y (by omega) (by omega))
    refine pc_sv (c_slot h1 F2) ?_; intro u5 q5
    have b5 : -1 ≤ u5.1 ∧ u5.1 < 100 := by
      have f14 := F2.1
      rcases q5.2 with ⟨k, s1, s2, -⟩ | ⟨-, ⟨s1, s2, -⟩ | ⟨-, s2, -⟩⟩ <;> omega
    obtain ⟨K5, -⟩ := sl_sk F2 q5
    have l7 : u5.2 34 7 = h 34 7 := by rw [K5 34 7 (by omega) (by omega) (by omega)]; exact E2 34 7 (by omega) (by omega)
    have l3 : u5.2 34 3 = h 34 3 + 1 := by rw [K5 34 3 (by omega) (by omega) (by omega), CP.1, E 34 3 (by omega) (by omega)]
    rw [l7, l3]
    refine pc_sv (c_fill b5 h7 (by omega)) ?_; intro u9 q9
    exact pc_ret ⟨g, u2, u5.1, u5.2, H, CP, q5, q9⟩
  unfold qf_X1_addHandler
  refine pc_if (fun z => ?_) (fun z => ?_)
  · refine pc_xl ?_; intro v12 e12
    rw [oq_mul_eq (by omega) (by omega) (by omega)] at e12
    refine pc_wA ?_; intro _ _ h14 e14
    refine pc_add (by omega) ?_; intro v16 e16
    refine pc_wA ?_; intro _ _ h17 e17
    refine pc_add (by omega) ?_; intro v19 e19
    refine pc_wA ?_; intro _ _ h21 e21
    refine pc_add (by omega) ?_; intro v23 e23
    refine pc_wA ?_; intro _ _ h24 e24
    refine pc_add (by rw [e24, up_n (by omega), e21, up_n (by omega), e17, up_n (by omega), e14, up_n (by omega)]; omega) ?_; intro v26 e26
    refine pc_xl ?_; intro h27 e27
    have l17 : h17 34 1 = h 34 1 := by rw [e17, up_n (by omega), e14, up_n (by omega)]
    have l24 : h24 34 10 = h 34 10 := by rw [e24, up_n (by omega), e21, up_n (by omega), e17, up_n (by omega), e14, up_n (by omega)]
    refine T76 h27 (.inl ⟨z, by rw [e27, up_s]; omega, ⟨?_, ?_, ?_, ?_⟩, fun cc y z1 z2 => ?_⟩)
    · rw [e27, up_n (by omega), e24, up_n (by omega), e21, up_n (by omega), e17, up_n (by omega), e14, show 4 * (h 34 10).toNat = v12.toNat by omega, up_s]
    · rw [e27, up_n (by omega), e24, up_n (by omega), e21, up_n (by omega), e17, show 4 * (h 34 10).toNat + 1 = v16.toNat by omega, up_s]
    · rw [e27, up_n (by omega), e24, up_n (by omega), e21, show 4 * (h 34 10).toNat + 2 = v19.toNat by omega, up_s]; exact l17
    · rw [e27, up_n (by omega), e24, show 4 * (h 34 10).toNat + 3 = v23.toNat by omega, up_s]
    · rw [e27, up_n (by omega), e24, up_n (by omega), e21, up_n (by omega), e17, up_n (by omega), e14, up_n (by omega)]
  · refine pc_xl ?_; intro h28 e28
    exact T76 h28 (.inr ⟨z, e28⟩)
theorem frj_84 (J : FRJ n WL h m) (e2 : ∀ cc x : Nat, (cc = 160 ∧ (x = 78 ∨ x = 79)) ∨ (208 ≤ cc ∧ cc ≤ 212) → w cc x = m cc x) (e4 : m 160 84 ≤ w 160 84) : FRJ n WL h w := by
  have x78 := e2 160 78 (by omega)
  have x79 := e2 160 79 (by omega)
  rcases J with ⟨j0, A1, A2, A3⟩ | ⟨j1, JO⟩
  · refine .inl ⟨j0, fun k hk => ?_, fun f hf => ?_, A3⟩
    · rcases A1 k hk with y | ⟨y1, f, f1, f2, f3⟩
      · exact .inl y
      · exact .inr ⟨y1, f, by rw [x78]; exact f1, by rw [e2 208 f (by omega)]; exact f2, ctj_k f3 (fun _ _ _ => rfl) ⟨e2 209 f (by omega), e2 210 f (by omega), e2 211 f (by omega)⟩ (by omega) (fun y _ => e2 212 y (by omega))⟩
    · rw [x78] at hf
      rw [e2 208 f (by omega)]
      exact A2 f hf
  · refine .inr ⟨j1, ?_⟩
    rcases JO with y | ⟨Q, q1, q2⟩
    · exact .inl (by omega)
    · refine .inr ⟨Q, q1, fun i hi => ?_⟩
      rcases q2 i hi with ⟨f, f1, f2⟩ | y
      · exact .inl ⟨f, by rw [x78]; exact f1, by rw [e2 208 f (by omega)]; exact f2⟩
      · exact .inr y
theorem mk_hand {ty : Int} {m5 m6 : ms_M} (M : MK K V C W n F own a b T PB WL L h m) (X : CHd fr to c h u) (e5 : m5 = up_M (up_M (up_M (up_M (up_M m 160 84 (m 160 84 + 1)) 213 (m 160 84).toNat fr) 214 (m 160 84).toNat to) 215 (m 160 84).toNat (m 160 68)) 216 (m 160 84).toNat ty) (b84 : 0 ≤ m 160 84 ∧ m 160 84 < 1000) (B : RPs ty m5 m6) (et : TJ n ty c) (vc : 0 ≤ c ∧ c < 100) (ex : x = m 160 68) (bl : h 34 1 ≤ 900000) (b3 : h 34 3 ≤ 2000) : Pc (qf_X13_frame nn x m6) (fun w => MK K V C W n F own a b T PB WL L u w ∧ w 160 88 = m 160 88 ∧ ∀ cc y : Nat, ¬ (cc = 160 ∧ (y = 70 ∨ y = 71 ∨ y = 78 ∨ y = 79 ∨ y = 84)) → ¬ (207 ≤ cc ∧ cc ≤ 216) → w cc y = m cc y) := by
  have M0 := M
  obtain ⟨⟨cb, ⟨J, JB⟩, FK, MB⟩, SK⟩ := M
  obtain ⟨⟨k1, k2, k3⟩, ⟨k4, k5⟩, k6⟩ := FK
  obtain ⟨SG, HD, ⟨P1, P2, P3⟩, TX, ⟨⟨t1, t2⟩, t3, t4, t5, t6⟩⟩ := MB
  obtain ⟨g1, g2, s, g3, HH, CP, SL, FL⟩ := X
  have c1 := cb.1
  have E1 := chh_f HH
  have E5 : ∀ cc y : Nat, ¬ (cc = 160 ∧ y = 84) → ¬ (213 ≤ cc ∧ cc ≤ 216) → m5 cc y = m cc y := fun cc y z1 z2 => by rw [e5, up_n (by omega), up_n (by omega), up_n (by omega), up_n (by omega), up_n (by omega)]
  have x84 : m5 160 84 = m 160 84 + 1 := by rw [e5, up_n (by omega), up_n (by omega), up_n (by omega), up_n (by omega), up_s]
  have x68 := E5 160 68 (by omega) (by omega)
  have x88 := E5 160 88 (by omega) (by omega)
  have x78 := E5 160 78 (by omega) (by omega)
  have x79 := E5 160 79 (by omega) (by omega)
  have g1l := E1 34 1 (by omega) (by omega)
  have g18 := E1 34 8 (by omega) (by omega)
  have g14 := E1 34 4 (by omega) (by omega)
  have g13 := E1 34 3 (by omega) (by omega)
  have g17 := E1 34 7 (by omega) (by omega)
  have U15 : h 34 15 = 1 → g1 34 15 = 1 := fun z => by
    rcases HH with ⟨-, -, -, e⟩ | ⟨-, e⟩
    · rw [e 34 15 (by omega) (by omega)]; exact z
    · rw [e, up_s]
  have row : ∀ k : Nat, ¬ k = (m 160 84).toNat → m5 213 k = m 213 k ∧ m5 214 k = m 214 k ∧ m5 215 k = m 215 k ∧ m5 216 k = m 216 k := fun k nk => by
    refine ⟨?_, ?_, ?_, ?_⟩
    · rw [e5, up_n (by omega), up_n (by omega), up_n (by omega), up_n (by omega), up_n (by omega)]
    · rw [e5, up_n (by omega), up_n (by omega), up_n (by omega), up_n (by omega), up_n (by omega)]
    · rw [e5, up_n (by omega), up_n (by omega), up_n (by omega), up_n (by omega), up_n (by omega)]
    · rw [e5, up_n (by omega), up_n (by omega), up_n (by omega), up_n (by omega), up_n (by omega)]
  have rowk : m5 213 (m 160 84).toNat = fr ∧ m5 214 (m 160 84).toNat = to ∧ m5 215 (m 160 84).toNat = m 160 68 ∧ m5 216 (m 160 84).toNat = ty := by
    refine ⟨?_, ?_, ?_, ?_⟩
    · rw [e5, up_n (by omega), up_n (by omega), up_n (by omega), up_s]
    · rw [e5, up_n (by omega), up_n (by omega), up_s]
    · rw [e5, up_n (by omega), up_s]
    · rw [e5, up_s]
  obtain ⟨d0, d1, d2, d3⟩ := HD
  have HD5 : HDJ n g1 m5 := by
    refine ⟨by omega, fun z => ?_, fun z => ?_, fun k hk => ?_⟩
    · rcases HH with ⟨q1, q2, -⟩ | ⟨q1, -⟩
      · rw [q2, d1 (by omega)]; omega
      · rw [d1 (by omega)] at q1; omega
    · by_cases q : 20 < m 160 84
      · obtain ⟨y1, y2⟩ := d2 q
        rcases HH with ⟨q1, -⟩ | ⟨q1, e⟩
        · omega
        · exact ⟨by rw [e, up_n (by omega)]; exact y1, by rw [e, up_s]⟩
      · have y1 := d1 (by omega)
        rcases HH with ⟨q1, -⟩ | ⟨q1, e⟩
        · omega
        · exact ⟨by rw [e, up_n (by omega)]; omega, by rw [e, up_s]⟩
    · rcases HH with ⟨q1, q2, ⟨r1, r2, r3, r4⟩, e⟩ | ⟨q1, e⟩
      · have y1 : h 34 10 = m 160 84 := by
          by_cases q : 20 < m 160 84
          · have := (d2 q).1; omega
          · exact d1 (by omega)
        by_cases kq : k = (m 160 84).toNat
        · obtain ⟨z1, z2, z3, z4⟩ := rowk
          rw [kq, z1, z2, z3, z4]
          rw [y1] at r1 r2 r3 r4
          exact ⟨r1, r2, by rw [r3]; exact c1.1, by rw [r4]; exact ⟨et, vc⟩⟩
        · obtain ⟨z1, z2, z3, z4⟩ := row k kq
          rw [z1, z2, z3, z4, e 39 _ (by omega) (by omega), e 39 _ (by omega) (by omega), e 39 _ (by omega) (by omega), e 39 _ (by omega) (by omega)]
          exact d3 k (by omega)
      · have hk' : (k : Int) < h 34 10 := by rw [e, up_n (by omega)] at hk; exact hk
        have kq : ¬ k = (m 160 84).toNat := by
          by_cases q : 20 < m 160 84
          · have := (d2 q).1; omega
          · have := d1 (by omega); omega
        obtain ⟨z1, z2, z3, z4⟩ := row k kq
        rw [z1, z2, z3, z4, e, up_n (by omega), up_n (by omega), up_n (by omega), up_n (by omega)]
        exact d3 k hk'
  have FJ5 : OKM h → FRJ n WL g1 m5 := fun o => by
    have j := (k6 o).2
    have j5 : FRJ n WL h m5 := frj_84 j (fun cc y z => E5 cc y (by omega) (by omega)) (by omega)
    rcases HH with ⟨q1, q2, -, e⟩ | ⟨q1, e⟩
    · exact frj_k j5 (fun cc y z => e cc y (by omega) (by omega)) (fun _ _ _ => rfl)
    · refine .inr ⟨by rw [e, up_s], .inl ?_⟩
      by_cases q : 20 < m 160 84
      · omega
      · have := d1 (by omega); omega
  have Fc1 : FRc g1 := frc_k k1 (fun cc y z => E1 cc y (by omega) (by omega))
  have M5 : MK K V C W n F own a b T PB WL L g1 m5 := by
    refine ⟨⟨cby_k cb (fun cc y z => E1 cc y (by omega) (by omega)) (fun cc y z => E5 cc y (by omega) (by omega)), ⟨jl_k J (fun cc y z => E5 cc y (by omega) (by omega)), jlb_k JB (by omega) (by omega)⟩, ⟨⟨Fc1, frr_k k2 (fun cc y z => E5 cc y (by omega) (by omega)), by omega⟩, ⟨by omega, fun p k z => by have := k5 p k z; omega⟩, fun o => ?_⟩, ⟨sgv_k SG (fun cc y z => E1 cc y (by omega) (by omega)) (fun cc y z => E5 cc y (by omega) (by omega)), HD5, ⟨plr_k P1 (fun cc y z => E1 cc y (by omega) (by omega)) (fun cc y z => E5 cc y (by omega) (by omega)), ⟨by rw [E5 160 62 (by omega) (by omega)]; exact P2.1, by rw [E5 160 64 (by omega) (by omega)]; exact P2.2⟩, spl_k P3 (fun cc y z => E5 cc y (by omega) (by omega))⟩, txe_k TX (fun cc y z => E1 cc y (by omega) (by omega)) (fun cc y z => E5 cc y (by omega) (by omega)), sct_k ⟨⟨t1, t2⟩, t3, t4, t5, t6⟩ (fun cc y z => E1 cc y (by omega) (by omega)) (fun cc y z => E5 cc y (by omega) (by omega))⟩⟩, skj_k SK (fun cc y z => E1 cc y (by omega) (by omega)) (fun cc y z => E5 cc y (by omega) (by omega))⟩
    have o' : OKM h := ⟨by have := o.1; omega, by have := o.2.1; omega, by have := o.2.2; omega⟩
    have := (k6 o').1
    exact ⟨by omega, FJ5 o'⟩
  have M6 := mk_push M5 CP B et
  obtain ⟨⟨cb6, ⟨J6, JB6⟩, ⟨⟨q1, q2, q3⟩, -, -⟩, MB6⟩, SK6⟩ := M6
  have MB60 := MB6
  obtain ⟨⟨⟨s1, s2, s3⟩, s4, s5⟩, HD6, -, -, ⟨⟨v1, v2⟩, v3, v4, -, -⟩⟩ := MB60
  have SK60 := SK6
  obtain ⟨⟨y1, y2, y3, y4⟩, y5⟩ := SK60
  have F1 : F ≤ 1 := by
    rcases s4 with z | ⟨z, -⟩ <;> omega
  have B5 := B.2.2.2.2
  have z78 := B5 160 78 (by omega) (by omega)
  have z79 := B5 160 79 (by omega) (by omega)
  have z84 := B5 160 84 (by omega) (by omega)
  have z68 := B5 160 68 (by omega) (by omega)
  have G2 : ∀ cc y : Nat, ¬ (cc = 34 ∧ (y = 3 ∨ y = 4)) → ¬ cc = 36 → g2 cc y = g1 cc y := fun cc y z1 z2 => CP.2.2.2 cc y z1 (by omega)
  have g21 := G2 34 1 (by omega) (by omega)
  have g28 := G2 34 8 (by omega) (by omega)
  have g27 := G2 34 7 (by omega) (by omega)
  have g24 : g1 34 4 ≤ g2 34 4 := by rw [CP.2.1]; split <;> omega
  have g23 : g2 34 3 = h 34 3 + 1 := by rw [CP.1, g13]
  have r78 := q2.1
  refine pc_imp (r_frame (F := F) q2 v3 (by omega) (by omega) q3 (by omega) (by omega)) (fun w q => ?_)
  obtain ⟨Fw, fi, RF⟩ := q
  have RW := RF.2.2.2.2
  have FB := frk_both (WL := WL) (L2 := L) (F := F) (h := g2) (m := m6) (p := h 34 1) (l := h 34 7) (n' := h 34 3 + 1) q1 q2 q3 (by omega) (fun o => by
    have o' : OKM h := ⟨by have := o.1; omega, by have := o.2.1; omega, by have := o.2.2; omega⟩
    have := (k6 o').1
    omega) (fun p k z => by have := k5 p k z; omega) (fun o => by
    have o' : OKM h := ⟨by have := o.1; omega, by have := o.2.1; omega, by have := o.2.2; omega⟩
    exact frj_k (FJ5 o') (fun cc y z => G2 cc y (by omega) (by omega)) (fun cc y z => B5 cc y (by omega) (by omega))) (fun z => (HD6.2.2.1 z).2) SL FL SL.1 (by rw [ex, ← c1.1] at RF; exact RF) Fw (by omega) (by omega) (by omega) (by omega) (by omega) (by omega) s2 F1 (by
    rcases s4 with z | ⟨z1, -, z2⟩
    · exact .inl z
    · exact .inr ⟨z1, ⟨by rw [z2]; exact v4.1, v2.2 0 (by omega)⟩⟩) (fun i hi => ⟨(s5 i hi).2.2.2, v2.2 _ (by omega)⟩) (fun i hi i20 => y5 i (by omega) i20)
  obtain ⟨FK2, UF, UU⟩ := FB
  have WW : ∀ cc y : Nat, ¬ (cc = 160 ∧ (y = 78 ∨ y = 79)) → ¬ (208 ≤ cc ∧ cc ≤ 212) → w cc y = m6 cc y := fun cc y z1 z2 => RW cc y (by omega) (by omega) (by omega)
  have w68 := WW 160 68 (by omega) (by omega)
  have w88 := WW 160 88 (by omega) (by omega)
  refine ⟨⟨⟨cby_k cb6 (fun cc y z => UF cc y (by omega) (by omega)) (fun cc y z => WW cc y (by omega) (by omega)), ⟨jl_k J6 (fun cc y z => WW cc y (by omega) (by omega)), jlb_k JB6 (by omega) (by omega)⟩, FK2, mb_k MB6 (fun cc y z => UF cc y (by omega) (by omega)) UU (fun cc y z => WW cc y (by omega) (by omega))⟩, skj_k SK6 (fun cc y z => UF cc y (by omega) (by omega)) (fun cc y z => WW cc y (by omega) (by omega))⟩, by rw [w88, B5 160 88 (by omega) (by omega)]; exact x88, fun cc y z1 z2 => ?_⟩
  rw [WW cc y (by omega) (by omega), B5 cc y (by omega) (by omega)]
  exact E5 cc y (by omega) (by omega)
end

/- PARSE: ARGS, new, P of both sides -/
/-- ARGS -/
def JA (dp : Int) (K P : Nat → Int) (c p : Nat) (r u : ms_M) (v : Int × ms_M) : Prop := SFj u v.2 ∨ ∃ q : Nat, (JPp K P c q u v.2 ∧ p < q) ∧ LKn dp K v.2 4 0 0 (r 160 22) (v.2 160 22) (p : Int) (q : Int) v.1 ∧ NDf r v.2
def PAr (K P : Nat → Int) (c : Nat) (x : Int → ms_M → Option ms_M) (y : Int → ms_M → Option (Int × ms_M)) : Prop := ∀ (a : Int) (p : Nat) (h r : ms_M), (0 ≤ a ∧ a ≤ 40) → JPp K P c p h r → 0 ≤ r 160 22 → K p = 40 → Pc (x a h) (fun u => Pc (y a r) (fun v => JA a K P c p r u v))
/-- new -/
def PNw (K P : Nat → Int) (c : Nat) (x : Int → ms_M → Option ms_M) (y : Int → ms_M → Option (Int × ms_M)) : Prop := ∀ (a : Int) (p : Nat) (h r : ms_M), (0 ≤ a ∧ a ≤ 40) → JPp K P c p h r → 0 ≤ r 160 22 → K p = 21 → Pc (x a h) (fun u => Pc (y a r) (fun v => JE a K P c p 3 r u v))
section
variable {nn : Nat} {K P : Nat → Int} {c p : Nat} {h g r w u v : ms_M}
/-- the arguments from one on: class at its loop, reference at its piece -/
theorem ja_41 (BK : TBn K c) {rc : tq_X8_readValue} {rd : tq_X13_expression} {a : Int} (ha : 0 ≤ a ∧ a ≤ 40) (Gc : FScG_X8_readValue rc) (Gr : FSrG_X13_expression rd) (IE : PE K P c 0 rc.1 rd.1) : ∀ (f k q : Nat) (h r : ms_M) (l2 l3 t : Int), JPp K P c q h r → 0 ≤ r 160 22 → ((l2 = -1) ∨ (0 ≤ l2 ∧ 0 ≤ l3 ∧ l3 < r 160 22)) → (0 ≤ t ∧ t < (q : Int)) → Pc (qw_X8_readArguments_23 nn rc f a 1 t h) (fun u => Pc (qj_X13_arguments_41 nn rd (qw_X13_arguments_10 nn rd k) a l2 l3 r) (fun v => SFj u v.2 ∨ ∃ (q2 : Nat) (m : Int), (JPp K P c q2 u v.2 ∧ q < q2) ∧ LKn a K v.2 5 0 0 (r 160 22) (v.2 160 22) (q : Int) (q2 : Int) m ∧ 0 ≤ m ∧ ((l2 = -1 ∧ v.1 = m) ∨ (¬ l2 = -1 ∧ v.1 = l2 ∧ v.2 173 l3.toNat = m)) ∧ r 160 22 ≤ v.2 160 22 ∧ ∀ c x : Nat, 167 ≤ c → c ≤ 177 → (x : Int) < r 160 22 → ¬ (c = 173 ∧ x = l3.toNat ∧ ¬ l2 = -1) → v.2 c x = r c x)) := by
  have n3 := BK.2.1
  intro f
  induction f with
  | zero => intros; exact pc_none
  | succ f ih =>
    intro k q h r l2 l3 t J hr hl ht
    have e3 := J.2.2.1.2.2
    unfold qw_X8_readArguments_23
    refine pc_if (fun z => absurd z (by omega)) (fun _ => ?_)
    refine pc_if (fun z => absurd z (by decide)) (fun _ => ?_)
    unfold qj_X13_arguments_41
    refine p2_sv (IE a q h r ha J hr) ?_; intro u4 w4 q4
    have HK : ∀ (z0 z1 z2 : Int) (z3 : ms_M), ¬ z3 160 9 = 0 → Pc (qw_X13_arguments_10 nn rd k z0 z1 z2 z3) (fun u => FSr z3 u.2) := fun z0 z1 z2 z3 S => ft_qw_X13_arguments_10 Gr _ _ _ _ _ S
    rcases q4 with S | ⟨q1, ix, ⟨J1, pq⟩, L1, lab1, N1⟩
    · refine pj_sf (o := fun a => a) (q := fun b => b.2) S ?_ ?_ (fun a b s => .inl s)
      · have S1 : ¬ u4 2 11 = 0 := S.1
        have F : FSc u4 u4 := fs_r
        refine pc_sv (fs_qf_X8_accept (fs_n S1 F)) ?_; intro u6 Qu6
        have Fu6 : FSc u4 u6.2 := fs_t F Qu6
        refine pc_xl ?_; intro v7 _
        exact pc_imp (fs_qw_X8_readArguments_23 Gc _ _ _ _ _ (fs_n S1 Fu6)) (fun _ q => fs_t Fu6 q)
      · exact pc_if (fun z => absurd z (sf_r S)) (fun _ => pc_ret ft_r)
    · have C1 := ch_mk L1 (by decide) lab1
      have J1' := J1
      obtain ⟨b, d2, ⟨g1, g2, g3⟩, g4, g5⟩ := J1'
      -- the reference's entry
      refine pc_fl ?_
      refine pc_if (fun _ => ?_) (fun z => absurd g5 z)
      refine pc_rA ?_; intro i1 i2 v7 e7
      refine pc_rA ?_; intro i3 i4 v9 e9
      rw [lab1.1] at e7 e9
      refine pc_sv r_add ?_; intro u11 q11
      obtain ⟨⟨x1, x2, x3⟩, ND, FR⟩ := q11
      refine pc_wA ?_; intro i5 i6 h13 e13
      rw [x2] at e13
      have nn1 := N1.1
      have ND13 := nd_0 (z := w4.1) ND
      rw [← e13] at ND13
      have N11 : NDf w4.2 u11.2 := ⟨by rw [x3]; omega, fun c x c1 c2 c3 => FR c x (by omega) (by omega)⟩
      have N13 : NDf w4.2 h13 := by rw [e13]; exact ndf_w N11 (by decide) (by omega)
      have n13 : h13 160 22 = w4.2 160 22 + 1 := by rw [e13, up_n (by omega)]; exact x3
      have J13 : JPp K P c q1 u4 h13 := by rw [e13]; exact jp_w (jp_r J1 (fun c k z => FR c k (by omega) (by omega))) (by decide)
      have C13 : CHl a K h13 0 ix 0 (r 160 22) (w4.2 160 22) (q : Int) (q1 : Int) w4.1 := ch_nd C1 (Int.le_refl _) N13
      -- first and last behind it
      have GO : ∀ (l2' : Int) (h15 : ms_M), JPp K P c q1 u4 h15 → h15 160 22 = w4.2 160 22 + 1 → NDn h15 (w4.2 160 22) 11 v7 v9 w4.1 (-1) (-1) (-1) 0 0 0 → CHl a K h15 0 ix 0 (r 160 22) (w4.2 160 22) (q : Int) (q1 : Int) w4.1 → ¬ l2' = -1 → 0 ≤ l2' → (∀ (w : Int × ms_M) (uu : ms_M) (qe : Nat), JPp K P c qe uu w.2 → q < qe → LKn a K w.2 5 0 0 (r 160 22) (w.2 160 22) (q : Int) (qe : Int) (w4.2 160 22) → w.1 = l2' → h15 160 22 ≤ w.2 160 22 → (∀ c x : Nat, 167 ≤ c → c ≤ 177 → (x : Int) < w4.2 160 22 → w.2 c x = h15 c x) → SFj uu w.2 ∨ ∃ (q2 : Nat) (m : Int), (JPp K P c q2 uu w.2 ∧ q < q2) ∧ LKn a K w.2 5 0 0 (r 160 22) (w.2 160 22) (q : Int) (q2 : Int) m ∧ 0 ≤ m ∧ ((l2 = -1 ∧ w.1 = m) ∨ (¬ l2 = -1 ∧ w.1 = l2 ∧ w.2 173 l3.toNat = m)) ∧ r 160 22 ≤ w.2 160 22 ∧ ∀ c x : Nat, 167 ≤ c → c ≤ 177 → (x : Int) < r 160 22 → ¬ (c = 173 ∧ x = l3.toNat ∧ ¬ l2 = -1) → w.2 c x = r c x) → Pc (qw_X13_arguments_10 nn rd k a l2' (w4.2 160 22) h15) (fun w => Pc (mx_sv (qf_X8_accept nn 47 u4) fun u6 => xl (oq_add t 1) fun v7 => qw_X8_readArguments_23 nn rc f a u6.1 v7 u6.2) (fun uu => SFj uu w.2 ∨ ∃ (q2 : Nat) (m : Int), (JPp K P c q2 uu w.2 ∧ q < q2) ∧ LKn a K w.2 5 0 0 (r 160 22) (w.2 160 22) (q : Int) (q2 : Int) m ∧ 0 ≤ m ∧ ((l2 = -1 ∧ w.1 = m) ∨ (¬ l2 = -1 ∧ w.1 = l2 ∧ w.2 173 l3.toNat = m)) ∧ r 160 22 ≤ w.2 160 22 ∧ ∀ c x : Nat, 167 ≤ c → c ≤ 177 → (x : Int) < r 160 22 → ¬ (c = 173 ∧ x = l3.toNat ∧ ¬ l2 = -1) → w.2 c x = r c x)) := fun l2' h15 J15 n15 ND15 C15 nl l20 FIN => by
        have J15' := J15
        obtain ⟨-, d15, ⟨-, m2, -⟩, -, m5⟩ := J15'
        cases k with
        | zero => exact pc_none
        | succ k =>
          unfold qw_X13_arguments_10
          refine pc_if (fun z => absurd m5 z) (fun _ => ?_)
          rw [m2]
          refine pc_sv (r_sgn BK d15 rfl (by omega) (k := 41) (by decide) (by decide)) ?_; intro u21 q21
          refine pc_fl ?_
          refine pc_sv (c_acc BK b g3 g1 g4) ?_; intro u6 q6
          rcases q6 with ⟨k47, m6⟩ | ⟨k47, m6⟩
          · -- one more
            rw [m6]
            dsimp only
            refine pc_add (by omega) ?_; intro v7' e7'
            refine pc_fl ?_
            refine pc_if (fun z => absurd (by omega) z) (fun _ => ?_)
            refine pc_if (fun z => absurd z nl) (fun _ => ?_)
            refine pc_sv (r_sign_ BK d15 g3 m2 m5 (k := 47) (by decide) (by decide)) ?_; intro u23 q23
            rcases q23 with ⟨-, m23⟩ | ⟨z, -⟩
            · have q1c := jp_lt BK g3 (by omega)
              have J23 : JPp K P c (q1 + 1) (up_M u4 2 10 ((q1 + 1 : Nat) : Int)) u23 := by rw [m23]; exact jp_up BK J15 q1c
              have n23 : u23 160 22 = w4.2 160 22 + 1 := by rw [m23, up_n (by omega)]; exact n15
              refine pc_fl ?_
              refine (fun uu euu w ew => ?_)
              have R := ih k (q1 + 1) _ u23 l2' (w4.2 160 22) v7' J23 (by omega) (.inr ⟨l20, by omega, by omega⟩) (by omega) uu euu w ew
              rcases R with R | ⟨q2, m, ⟨R1, R2⟩, R3, R4, R5, R6, R7⟩
              · exact .inl R
              · have nx : w.2 173 (w4.2 160 22).toNat = m := by
                  rcases R5 with ⟨z, -⟩ | ⟨-, -, z⟩
                  · exact absurd z nl
                  · exact z
                have wl : w.1 = l2' := by
                  rcases R5 with ⟨z, -⟩ | ⟨-, z, -⟩
                  · exact absurd z nl
                  · exact z
                have row : ∀ c : Nat, 167 ≤ c → c ≤ 177 → ¬ c = 173 → w.2 c (w4.2 160 22).toNat = h15 c (w4.2 160 22).toNat := fun c c1 c2 c3 => by
                  rw [R7 c _ c1 c2 (by omega) (by omega), m23, up_n (by omega)]
                have old : ∀ c x : Nat, 167 ≤ c → c ≤ 177 → (x : Int) < w4.2 160 22 → w.2 c x = h15 c x := fun c x c1 c2 c3 => by
                  rw [R7 c x c1 c2 (by omega) (by omega), m23, up_n (by omega)]
                have on : w.2 170 (w4.2 160 22).toNat = w4.1 := by rw [row 170 (by decide) (by decide) (by decide)]; exact ND15.2.1.1
                have CW : CHl a K w.2 0 ix 0 (r 160 22) (w4.2 160 22) (q : Int) (q1 : Int) w4.1 := by
                  obtain ⟨c1, c2, c3, c4, c5, c6⟩ := C15
                  exact ⟨lk_map c1 (fun c x z1 z2 _ z4 z5 _ _ => old c x z1 z2 z5), by rw [old 169 _ (by decide) (by decide) (by omega)]; exact c2, by rw [old 177 _ (by decide) (by decide) (by omega)]; exact c3, c4, c5, c6⟩
                refine FIN w uu q2 R1 (by omega) ?_ wl (by omega) old
                refine lk_am (ix := ix) (t := (q1 : Int)) ⟨hr, by omega, by omega⟩ (by rw [on]; exact CW.1) (by rw [on]; exact ⟨CW.2.1, CW.2.2.1⟩) (by rw [Int.toNat_natCast]; exact k47) ?_
                rw [nx, ← n23]; exact R3
            · exact absurd k47 z
          · -- the last
            rw [m6]
            dsimp only
            refine pc_add (by omega) ?_; intro v7' e7'
            cases f with
            | zero => exact pc_none
            | succ f =>
              have D : Pc (qj_X8_readArguments_52 nn rc u4) (fun uu => Pc (if ¬ u21 = 0 then (qj_X13_arguments_113 nn rd l2' h15) else (if l2' = (-1) then (qj_X13_arguments_41 nn rd (qw_X13_arguments_10 nn rd k) a l2' (w4.2 160 22) h15) else (mx_sv (qf_X13_sign_ nn 44 h15) fun u23 => qj_X13_arguments_41 nn rd (qw_X13_arguments_10 nn rd k) a l2' (w4.2 160 22) u23))) (fun w => SFj uu w.2 ∨ ∃ (q2 : Nat) (m : Int), (JPp K P c q2 uu w.2 ∧ q < q2) ∧ LKn a K w.2 5 0 0 (r 160 22) (w.2 160 22) (q : Int) (q2 : Int) m ∧ 0 ≤ m ∧ ((l2 = -1 ∧ w.1 = m) ∨ (¬ l2 = -1 ∧ w.1 = l2 ∧ w.2 173 l3.toNat = m)) ∧ r 160 22 ≤ w.2 160 22 ∧ ∀ c x : Nat, 167 ≤ c → c ≤ 177 → (x : Int) < r 160 22 → ¬ (c = 173 ∧ x = l3.toNat ∧ ¬ l2 = -1) → w.2 c x = r c x)) := by
                unfold qj_X8_readArguments_52
                by_cases k41 : K q1 = 41
                · unfold qj_X13_arguments_113
                  refine pc_fl ?_
                  refine pc_if (fun _ => ?_) (fun z => absurd (by omega) z)
                  refine pc_fl ?_
                  refine p2_sv (j_need BK J15 (k := 41) (by decide) (by decide)) ?_; intro y2 y4 z2
                  rcases z2 with ⟨-, m4, J4⟩ | S
                  · refine pc_ret (pc_ret ?_)
                    have N4 : NDf h15 y4 := by rw [m4]; exact ndf_c ndf_r (by decide)
                    have ND4 := nd_nd ND15 (by omega) (by omega) N4
                    have C4 := ch_nd C15 (by omega) N4
                    have on := ND4.2.1.1
                    refine FIN (l2', y4) y2 (q1 + 1) J4 (by omega) ?_ rfl N4.1 (fun c x c1 c2 c3 => N4.2 c x c1 c2 (by omega))
                    exact lk_ao (ix := ix) (t := (q1 : Int)) ⟨hr, by omega, by show _ < y4 160 22; have := N4.1; omega⟩ (by show LKn a K y4 0 ix 0 _ _ _ _ (y4 170 _); rw [on]; exact C4.1) (by show y4 169 (y4 170 _).toNat = _ ∧ y4 177 (y4 170 _).toNat = _; rw [on]; exact ⟨C4.2.1, C4.2.2.1⟩) ⟨ND4.2.1.2.2.2, by rw [Int.toNat_natCast]; exact k41, by omega⟩
                  · exact pc_ret (pc_ret (.inl S))
                · refine pc_sv (c_need BK b g3 g1 g4) ?_; intro y2 z2
                  rcases z2 with ⟨z, -⟩ | ⟨-, z2, z3⟩
                  · exact absurd z k41
                  · refine pc_ret ?_
                    refine pc_if (fun z => absurd z (by omega)) (fun _ => ?_)
                    refine pc_if (fun z => absurd z nl) (fun _ => ?_)
                    refine pc_sv (r_sign_ BK d15 g3 m2 m5 (k := 47) (by decide) (by decide)) ?_; intro u23 q23
                    rcases q23 with ⟨z, -⟩ | ⟨-, z4, z5⟩
                    · exact absurd z k47
                    · have n0 := tl_0 (K := K) (p := q1) (k := 2) (by decide)
                      refine pc_imp (ft_qj_X13_arguments_41 Gr (fun z0 z1 z2 z3 S => ft_qw_X13_arguments_10 Gr _ _ _ _ _ S) (by rw [z4]; exact n0)) (fun w z => .inl ⟨by rw [z2]; exact n0, by rw [z.1, z4, z2], by rw [z.2, z5, z3]⟩)
              unfold qw_X8_readArguments_23
              exact pc_if (fun _ => D) (fun _ => pc_if (fun _ => D) (fun z => absurd rfl z))
      refine pc_if (fun z => ?_) (fun z => ?_)
      · have hl : 0 ≤ l2 ∧ 0 ≤ l3 ∧ l3 < r 160 22 := by omega
        refine pc_wA ?_; intro i7 i8 h15 e15
        rw [x2] at e15 ⊢
        refine GO l2 h15 (by rw [e15]; exact jp_w J13 (by decide)) (by rw [e15, up_n (by omega)]; exact n13) (by rw [e15]; exact nd_o ND13 (.inl (by omega))) (by rw [e15]; exact ch_w C13 (.inl (.inl (by omega)))) z hl.1 (fun w uu qe Je qe1 Le we ne old => .inr ⟨qe, w4.2 160 22, ⟨Je, qe1⟩, Le, by omega, .inr ⟨z, we, ?_⟩, by rw [e15, up_n (by omega)] at ne; omega, fun c x c1 c2 c3 c4 => ?_⟩)
        · rw [old 173 _ (by decide) (by decide) (by omega), e15, up_s]
        · rw [old c x c1 c2 (by omega), e15, up_n (by omega), N13.2 c x c1 c2 (by omega)]; exact N1.2 c x c1 c2 c3
      · rw [x2]
        refine GO (w4.2 160 22) h13 J13 n13 ND13 C13 (by omega) (by omega) (fun w uu qe Je qe1 Le we ne old => .inr ⟨qe, w4.2 160 22, ⟨Je, qe1⟩, Le, by omega, .inl ⟨Decidable.not_not.1 z, we⟩, by omega, fun c x c1 c2 c3 c4 => ?_⟩)
        rw [old c x c1 c2 (by omega), N13.2 c x c1 c2 (by omega)]; exact N1.2 c x c1 c2 c3
end

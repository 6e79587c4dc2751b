/- PATCH OF BOTH SIDES -/
section
variable {nn : Nat} {M g : ms_M} {Bf : Nat → Nat → Int} {nf : Nat → Nat}
theorem pt_2 (hn : 1000000 ≤ nn) (V : VS_ M) (SI : SI_ M) (J : OJ M) (E : SPE Bf nf M) (cm : cn_M M ≤ 700000) {a b v : Int} (ra : in_R a) (rb : in_R b) (rv : in_R v) {u : Int × ms_M} (e : qf_X7_change nn a b v M = some u) (Vg : VS_ g) (gT : ∀ x k, 226 ≤ x → x ≤ 237 → g x k = M x k) (g98 : g 160 98 = M 160 98) {z : Int × ms_M} (e2 : qf_X13_patch nn a b v g = some z) : u.1 = z.1 ∧ ∃ Bg, CSp Bg nf u.2 ∧ (∀ k : Nat, (k : Int) < z.2 160 98 → TBr (k : Int) (nf k) (Bg k) z.2) ∧ u.2 56 3 = z.2 160 98 ∧ NKn Bg nf (u.2 56 3) ∧ ((Bg = Bf ∧ u.1 = 0 ∧ u.2 56 4 = M 56 4 ∧ z.2 160 99 = g 160 99 ∧ z.2 160 138 = g 160 138) ∨ (u.1 = 1 ∧ u.2 56 4 = 0 ∧ z.2 160 99 = 0 ∧ z.2 160 138 = 0)) := by
  obtain ⟨⟨p1, p2, p3⟩, S, T, N⟩ := E
  have g3 := gF_56_3 V
  unfold in_R at ra rb
  have Tg : ∀ k : Nat, (k : Int) < g 160 98 → TBr (k : Int) (nf k) (Bf k) g := fun k hk => tb_k (by omega) (fun x j q => gT _ _ (by unfold TAB at q; omega) (by unfold TAB at q; omega)) (fun j _ _ => gT _ _ (by decide) (by decide)) (gT _ _ (by decide) (by decide)) (T k (by omega))
  have stay : u = (0, M) → z = (0, g) → u.1 = z.1 ∧ ∃ Bg, CSp Bg nf u.2 ∧ (∀ k : Nat, (k : Int) < z.2 160 98 → TBr (k : Int) (nf k) (Bg k) z.2) ∧ u.2 56 3 = z.2 160 98 ∧ NKn Bg nf (u.2 56 3) ∧ ((Bg = Bf ∧ u.1 = 0 ∧ u.2 56 4 = M 56 4 ∧ z.2 160 99 = g 160 99 ∧ z.2 160 138 = g 160 138) ∨ (u.1 = 1 ∧ u.2 56 4 = 0 ∧ z.2 160 99 = 0 ∧ z.2 160 138 = 0)) := fun a1 a2 => by
    rw [a1, a2]
    exact ⟨rfl, Bf, S, Tg, by show M 56 3 = g 160 98; omega, N, .inl ⟨rfl, rfl, rfl, rfl, rfl⟩⟩
  by_cases wa : 8 ≤ a ∧ a < 8 + M 56 3
  · obtain ⟨c, hc⟩ : ∃ c : Nat, a = 8 + (c : Int) := ⟨(a - 8).toNat, by omega⟩
    have hc3 : (c : Int) < M 56 3 := by omega
    have X0 := (S.1 c hc3).1.1
    have e1 : M (M 60 c).toNat 1 = (nf c : Int) := X0.2.2.1
    obtain ⟨s1, s2, s3, s4⟩ := (Tg c (by omega)).1
    rw [Int.toNat_natCast] at s1
    by_cases wb : 0 ≤ b ∧ b < (nf c : Int)
    · obtain ⟨i, hi⟩ : ∃ i : Nat, b = (i : Int) := ⟨b.toNat, by omega⟩
      rw [hc, hi] at e e2
      obtain ⟨Bn, eB, R1, R2⟩ := r_patch hn rv Vg Tg (c := c) (i := i) (by omega) (by omega) _ e2
      obtain ⟨C1, C2⟩ := c_change hn rv V SI J S hc3 (by omega) cm Bn eB _ e
      have keep : u.1 = 0 → CSp Bf nf u.2 → u.2 56 3 = M 56 3 → u.2 56 4 = M 56 4 → z.1 = 0 → KPs Bf nf g z.2 → u.1 = z.1 ∧ ∃ Bg, CSp Bg nf u.2 ∧ (∀ k : Nat, (k : Int) < z.2 160 98 → TBr (k : Int) (nf k) (Bg k) z.2) ∧ u.2 56 3 = z.2 160 98 ∧ NKn Bg nf (u.2 56 3) ∧ ((Bg = Bf ∧ u.1 = 0 ∧ u.2 56 4 = M 56 4 ∧ z.2 160 99 = g 160 99 ∧ z.2 160 138 = g 160 138) ∨ (u.1 = 1 ∧ u.2 56 4 = 0 ∧ z.2 160 99 = 0 ∧ z.2 160 138 = 0)) := fun a1 a2 a3 a4 a5 K => by
        obtain ⟨k1, k2, k3, k4⟩ := K
        exact ⟨by omega, Bf, a2, fun k hk => k4 k (by omega), by omega, by rw [a3]; exact N, .inl ⟨rfl, a1, a4, k2, k3⟩⟩
      rw [g98, p1] at R2
      cases zr : rdi_S Bn (nf c) with
      | inl x =>
        obtain ⟨c1, c2, c3, c4⟩ := C1 x zr
        obtain ⟨r1, r2⟩ := R1 x zr
        exact keep c1 c2 c3 c4 r1 r2
      | inr x =>
        obtain ⟨C3, C4⟩ := C2 x zr
        obtain ⟨R3, R4⟩ := R2 x zr
        by_cases o : OTh Bf nf (M 56 3) c (fun x => Bn (na_S Bn (nf c) (own_S Bn (nf c)) + x)) (tl_S Bn (nf c) (own_S Bn (nf c)))
        · obtain ⟨c1, c2, c3, c4⟩ := C3 o
          obtain ⟨r1, r2⟩ := R3 o
          exact keep c1 c2 c3 c4 r1 r2
        · obtain ⟨c1, c2, c3, c4⟩ := C4 o
          obtain ⟨r1, r2, r3, r4, r5⟩ := R4 o
          refine ⟨by omega, ext_B Bf c Bn, c2, fun k hk => r5 k (by omega), by omega, ?_, .inr ⟨c1, c4, r3, r4⟩⟩
          rw [c3]
          intro j hj d d8
          unfold ext_B
          by_cases qj : j = c
          · rw [if_pos qj, qj]
            exact fun y => o (.inl ⟨d, d8, y⟩)
          · rw [if_neg qj]; exact N j hj d d8
    · refine stay ?_ ?_
      · unfold qf_X7_change qf_X7_imageOf at e
        rw [if_neg (by omega), xl_eq, oq_add_eq (by omega) (by omega) (by omega), if_neg (by omega), xl_eq, oq_sub_eq (by omega) (by omega) (by omega)] at e
        obtain ⟨u4, e4, e⟩ := sv_i e
        have e4 := rd_i e4
        have e4 := Option.some.inj e4
        rw [show (a - 8).toNat = c by omega] at e4
        by_cases q1 : u4 < 0
        · rw [if_pos q1] at e; exact (Option.some.inj e).symm
        · rw [if_neg q1] at e
          by_cases q2 : b < 0
          · rw [if_pos q2] at e; exact (Option.some.inj e).symm
          · rw [if_neg q2] at e
            obtain ⟨-, e⟩ := ck_i e
            rw [← e4, e1, if_neg (by omega)] at e
            exact (Option.some.inj e).symm
      · unfold qf_X13_patch at e2
        rw [xl_eq, oq_sub_eq (by omega) (by omega) (by omega), if_neg (by omega), if_neg (by omega)] at e2
        by_cases q2 : b < 0
        · rw [if_pos q2] at e2; exact (Option.some.inj e2).symm
        · rw [if_neg q2] at e2
          have e2 := rd_i e2
          have e2 := e2
          rw [show (a - 8).toNat = c by omega, s1, if_neg (by omega)] at e2
          exact (Option.some.inj e2).symm
  · refine stay ?_ ?_
    · unfold qf_X7_change qf_X7_imageOf at e
      obtain ⟨u4, e4, e⟩ := sv_i e
      have n4 : u4 = -1 := by
        by_cases q1 : a < 8
        · rw [if_pos q1] at e4; exact (Option.some.inj e4).symm
        · rw [if_neg q1, xl_eq, oq_add_eq (by omega) (by omega) (by omega), if_pos (by omega)] at e4; exact (Option.some.inj e4).symm
      rw [if_pos (by omega)] at e
      exact (Option.some.inj e).symm
    · unfold qf_X13_patch at e2
      rw [xl_eq] at e2
      by_cases q1 : a < -2147483640
      · have w : oq_sub a 8 = a - 8 + 4294967296 := by
          obtain ⟨k, hk⟩ : ∃ k : Nat, a = -2147483648 + (k : Int) ∧ k < 8 := ⟨(a + 2147483648).toNat, by omega, by omega⟩
          rw [hk.1]
          have h8 := hk.2
          match k, h8 with
          | 0, _ => decide
          | 1, _ => decide
          | 2, _ => decide
          | 3, _ => decide
          | 4, _ => decide
          | 5, _ => decide
          | 6, _ => decide
          | 7, _ => decide
        rw [w, if_neg (by omega), if_pos (by omega)] at e2
        exact (Option.some.inj e2).symm
      · rw [oq_sub_eq (by omega) (by omega) (by omega)] at e2
        by_cases q2 : a - 8 < 0
        · rw [if_pos q2] at e2; exact (Option.some.inj e2).symm
        · rw [if_neg q2, if_pos (by omega)] at e2; exact (Option.some.inj e2).symm
end

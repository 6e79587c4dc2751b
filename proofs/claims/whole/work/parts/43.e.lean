/- PARSE: how strong a sign is -/
section
variable {nn : Nat} {K P : Nat → Int} {c p : Nat} {h g r w u v : ms_M}
theorem st_19 : st_T 19 = 6 := by decide
theorem st_52 : st_T 52 = 5 := by decide
theorem st_53 : st_T 53 = 5 := by decide
theorem st_54 : st_T 54 = 6 := by decide
theorem st_55 : st_T 55 = 6 := by decide
theorem st_56 : st_T 56 = 6 := by decide
theorem st_57 : st_T 57 = 6 := by decide
theorem st_58 : st_T 58 = 7 := by decide
theorem st_59 : st_T 59 = 7 := by decide
theorem st_60 : st_T 60 = 7 := by decide
theorem st_61 : st_T 61 = 8 := by decide
theorem st_62 : st_T 62 = 8 := by decide
theorem st_63 : st_T 63 = 9 := by decide
theorem st_64 : st_T 64 = 9 := by decide
theorem st_65 : st_T 65 = 9 := by decide
theorem st_66 : st_T 66 = 4 := by decide
theorem st_67 : st_T 67 = 1 := by decide
theorem st_68 : st_T 68 = 2 := by decide
theorem st_69 : st_T 69 = 0 := by decide
theorem st_70 : st_T 70 = 3 := by decide
theorem st_no {k : Int} (q : ¬ k = 19 ∧ ¬ k = 52 ∧ ¬ k = 53 ∧ ¬ k = 54 ∧ ¬ k = 55 ∧ ¬ k = 56 ∧ ¬ k = 57 ∧ ¬ k = 58 ∧ ¬ k = 59 ∧ ¬ k = 60 ∧ ¬ k = 61 ∧ ¬ k = 62 ∧ ¬ k = 63 ∧ ¬ k = 64 ∧ ¬ k = 65 ∧ ¬ k = 66 ∧ ¬ k = 67 ∧ ¬ k = 68 ∧ ¬ k = 69 ∧ ¬ k = 70) : st_T k = -1 := by
  unfold st_T
  rw [if_neg (show ¬ k = 19 by omega), if_neg (show ¬ k = 52 by omega), if_neg (show ¬ k = 53 by omega), if_neg (show ¬ k = 54 by omega), if_neg (show ¬ k = 55 by omega), if_neg (show ¬ k = 56 by omega), if_neg (show ¬ k = 57 by omega), if_neg (show ¬ k = 58 by omega), if_neg (show ¬ k = 59 by omega), if_neg (show ¬ k = 60 by omega), if_neg (show ¬ k = 61 by omega), if_neg (show ¬ k = 62 by omega), if_neg (show ¬ k = 63 by omega), if_neg (show ¬ k = 64 by omega), if_neg (show ¬ k = 65 by omega), if_neg (show ¬ k = 66 by omega), if_neg (show ¬ k = 67 by omega), if_neg (show ¬ k = 68 by omega), if_neg (show ¬ k = 69 by omega), if_neg (show ¬ k = 70 by omega)]
theorem st_r (k : Int) : -1 ≤ st_T k ∧ st_T k ≤ 9 := by
  by_cases c0 : k = 19
  · rw [c0]; decide
  by_cases c1 : k = 52
  · rw [c1]; decide
  by_cases c2 : k = 53
  · rw [c2]; decide
  by_cases c3 : k = 54
  · rw [c3]; decide
  by_cases c4 : k = 55
  · rw [c4]; decide
  by_cases c5 : k = 56
  · rw [c5]; decide
  by_cases c6 : k = 57
  · rw [c6]; decide
  by_cases c7 : k = 58
  · rw [c7]; decide
  by_cases c8 : k = 59
  · rw [c8]; decide
  by_cases c9 : k = 60
  · rw [c9]; decide
  by_cases c10 : k = 61
  · rw [c10]; decide
  by_cases c11 : k = 62
  · rw [c11]; decide
  by_cases c12 : k = 63
  · rw [c12]; decide
  by_cases c13 : k = 64
  · rw [c13]; decide
  by_cases c14 : k = 65
  · rw [c14]; decide
  by_cases c15 : k = 66
  · rw [c15]; decide
  by_cases c16 : k = 67
  · rw [c16]; decide
  by_cases c17 : k = 68
  · rw [c17]; decide
  by_cases c18 : k = 69
  · rw [c18]; decide
  by_cases c19 : k = 70
  · rw [c19]; decide
  rw [st_no ⟨c0, c1, c2, c3, c4, c5, c6, c7, c8, c9, c10, c11, c12, c13, c14, c15, c16, c17, c18, c19⟩]; decide
/-- a sign that binds is a word or a sign -/
theorem st_k {k : Int} (q : 0 ≤ st_T k) : 2 ≤ k := by
  by_cases z : 2 ≤ k
  · exact z
  · rw [st_no ⟨by omega, by omega, by omega, by omega, by omega, by omega, by omega, by omega, by omega, by omega, by omega, by omega, by omega, by omega, by omega, by omega, by omega, by omega, by omega, by omega⟩] at q; omega
theorem c_lev {k : Int} : Pc (qf_X9_level nn k h) (fun u => u = st_T k + 1) := by
  unfold qf_X9_level qj_X9_level_237 qj_X9_level_234 qj_X9_level_240 qj_X9_level_243 qj_X9_level_246 qj_X9_level_249
  refine pc_if (fun c => pc_ret (by rw [c]; decide)) (fun c0 => ?_)
  refine pc_if (fun c => pc_ret (by rw [c]; decide)) (fun c1 => ?_)
  refine pc_if (fun c => pc_ret (by rw [c]; decide)) (fun c2 => ?_)
  refine pc_if (fun c => pc_ret (by rw [c]; decide)) (fun c3 => ?_)
  refine pc_if (fun c => pc_ret (by rw [c]; decide)) (fun c4 => ?_)
  refine pc_if (fun c => pc_ret (by rw [c]; decide)) (fun c5 => ?_)
  refine pc_if (fun c => pc_ret (by rw [c]; decide)) (fun c6 => ?_)
  refine pc_if (fun c => pc_ret (by rw [c]; decide)) (fun c7 => ?_)
  refine pc_if (fun c => pc_ret (by rw [c]; decide)) (fun c8 => ?_)
  refine pc_if (fun c => pc_ret (by rw [c]; decide)) (fun c9 => ?_)
  refine pc_if (fun c => pc_ret (by rw [c]; decide)) (fun c10 => ?_)
  refine pc_if (fun c => pc_ret (by rw [c]; decide)) (fun c11 => ?_)
  refine pc_if (fun c => pc_ret (by rw [c]; decide)) (fun c12 => ?_)
  refine pc_if (fun c => pc_ret (by rw [c]; decide)) (fun c13 => ?_)
  refine pc_if (fun c => pc_ret (by rw [c]; decide)) (fun c14 => ?_)
  refine pc_if (fun c => pc_ret (by rw [c]; decide)) (fun c15 => ?_)
  refine pc_if (fun c => pc_ret (by rw [c]; decide)) (fun c16 => ?_)
  refine pc_if (fun c => pc_ret (by rw [c]; decide)) (fun c17 => ?_)
  refine pc_if (fun c => pc_ret (by rw [c]; decide)) (fun c18 => ?_)
  refine pc_if (fun c => pc_ret (by rw [c]; decide)) (fun c19 => ?_)
  exact pc_ret (by rw [st_no ⟨c0, c1, c2, c3, c4, c5, c6, c7, c8, c9, c10, c11, c12, c13, c14, c15, c16, c17, c18, c19⟩]; decide)
theorem r_str (BK : TBn K c) (B : TBq K P c r) {t : Nat} {x : Int} (hx : x = (t : Int)) (ht : t < c + 4) : Pc (qf_X13_strength nn x r) (fun u => u = st_T (K t)) := by
  have kd := r_kd BK B ht
  unfold qf_X13_strength qj_X13_strength_146
  refine pc_sv (r_wrd BK B hx ht (by decide)) ?_; intro u2 q2
  refine pc_if (fun z => ?_) (fun z => pc_ret ?_)
  · refine pc_rA ?_; intro i1 i2 v4 e4
    rw [hx, Int.toNat_natCast] at e4
    refine pc_if (fun z4 => ?_) (fun z4 => pc_ret ?_)
    · refine pc_rA ?_; intro j1 j2 v6 e6
      rw [hx, Int.toNat_natCast, B.2.2.2 t (by omega)] at e6
      have I : ∀ k y : Int, (40 ≤ k ∧ k ≤ 72) → sv_T k = y → v6 = y → K t = k := fun k y a b d => svt_i (by omega) a (by rw [← e6, b]; exact d)
      have N : ∀ k y : Int, sv_T k = y → ¬ v6 = y → ¬ K t = k := fun k y b d z => d (by rw [e6, z]; exact b)
      rw [show qf_X13_sign nn 0 124 124 r = some 15996 from rfl, mx_svs]
      refine pc_if (fun n0 => ?_) (fun z => pc_ret ?_)
      · have m0 := N 69 15996 (by decide) n0
        rw [show qf_X13_sign nn 0 38 38 r = some 4902 from rfl, mx_svs]
        refine pc_if (fun n1 => ?_) (fun z => pc_ret ?_)
        · have m1 := N 67 4902 (by decide) n1
          refine pc_if (fun n2 => ?_) (fun z => pc_ret ?_)
          · have m2 := N 68 124 (by decide) n2
            refine pc_if (fun n3 => ?_) (fun z => pc_ret ?_)
            · have m3 := N 70 94 (by decide) n3
              refine pc_if (fun n4 => ?_) (fun z => pc_ret ?_)
              · have m4 := N 66 38 (by decide) n4
                rw [show qf_X13_sign nn 0 61 61 r = some 7869 from rfl, mx_svs]
                refine pc_if (fun z => pc_ret ?_) (fun n5 => ?_)
                · rw [I 52 7869 (by decide) (by decide) z]; decide
                have m5 := N 52 7869 (by decide) n5
                rw [show qf_X13_sign nn 0 33 61 r = some 4285 from rfl, mx_svs]
                refine pc_if (fun n6 => ?_) (fun z => pc_ret ?_)
                · have m6 := N 53 4285 (by decide) n6
                  refine pc_if (fun z => pc_ret ?_) (fun n7 => ?_)
                  · rw [I 54 60 (by decide) (by decide) z]; decide
                  have m7 := N 54 60 (by decide) n7
                  refine pc_if (fun z => pc_ret ?_) (fun n8 => ?_)
                  · rw [I 56 62 (by decide) (by decide) z]; decide
                  have m8 := N 56 62 (by decide) n8
                  rw [show qf_X13_sign nn 0 60 61 r = some 7741 from rfl, mx_svs]
                  refine pc_if (fun z => pc_ret ?_) (fun n9 => ?_)
                  · rw [I 55 7741 (by decide) (by decide) z]; decide
                  have m9 := N 55 7741 (by decide) n9
                  rw [show qf_X13_sign nn 0 62 61 r = some 7997 from rfl, mx_svs]
                  refine pc_if (fun n10 => ?_) (fun z => pc_ret ?_)
                  · have m10 := N 57 7997 (by decide) n10
                    rw [show qf_X13_sign nn 0 60 60 r = some 7740 from rfl, mx_svs]
                    refine pc_if (fun z => pc_ret ?_) (fun n11 => ?_)
                    · rw [I 58 7740 (by decide) (by decide) z]; decide
                    have m11 := N 58 7740 (by decide) n11
                    rw [show qf_X13_sign nn 0 62 62 r = some 7998 from rfl, mx_svs]
                    refine pc_if (fun z => pc_ret ?_) (fun n12 => ?_)
                    · rw [I 59 7998 (by decide) (by decide) z]; decide
                    have m12 := N 59 7998 (by decide) n12
                    rw [show qf_X13_sign nn 62 62 62 r = some 1023806 from rfl, mx_svs]
                    refine pc_if (fun n13 => ?_) (fun z => pc_ret ?_)
                    · have m13 := N 60 1023806 (by decide) n13
                      refine pc_if (fun z => pc_ret ?_) (fun n14 => ?_)
                      · rw [I 61 43 (by decide) (by decide) z]; decide
                      have m14 := N 61 43 (by decide) n14
                      refine pc_if (fun n15 => ?_) (fun z => pc_ret ?_)
                      · have m15 := N 62 45 (by decide) n15
                        refine pc_if (fun z => pc_ret ?_) (fun n16 => ?_)
                        · rw [I 63 42 (by decide) (by decide) z]; decide
                        have m16 := N 63 42 (by decide) n16
                        refine pc_if (fun z => pc_ret ?_) (fun n17 => ?_)
                        · rw [I 64 47 (by decide) (by decide) z]; decide
                        have m17 := N 64 47 (by decide) n17
                        refine pc_if (fun n18 => ?_) (fun z => pc_ret ?_)
                        · have m18 := N 65 37 (by decide) n18
                          refine pc_ret ?_
                          rw [st_no ⟨by omega, m5, m6, m7, m9, m8, m10, m11, m12, m13, m14, m15, m16, m17, m18, m4, m1, m2, m0, m3⟩]
                        · rw [I 65 37 (by decide) (by decide) (Decidable.not_not.1 z)]; decide
                      · rw [I 62 45 (by decide) (by decide) (Decidable.not_not.1 z)]; decide
                    · rw [I 60 1023806 (by decide) (by decide) (Decidable.not_not.1 z)]; decide
                  · rw [I 57 7997 (by decide) (by decide) (Decidable.not_not.1 z)]; decide
                · rw [I 53 4285 (by decide) (by decide) (Decidable.not_not.1 z)]; decide
              · rw [I 66 38 (by decide) (by decide) (Decidable.not_not.1 z)]; decide
            · rw [I 70 94 (by decide) (by decide) (Decidable.not_not.1 z)]; decide
          · rw [I 68 124 (by decide) (by decide) (Decidable.not_not.1 z)]; decide
        · rw [I 67 4902 (by decide) (by decide) (Decidable.not_not.1 z)]; decide
      · rw [I 69 15996 (by decide) (by decide) (Decidable.not_not.1 z)]; decide
    · rw [st_no ⟨by omega, by omega, by omega, by omega, by omega, by omega, by omega, by omega, by omega, by omega, by omega, by omega, by omega, by omega, by omega, by omega, by omega, by omega, by omega, by omega⟩]
  · rw [show K t = 19 by omega]; decide
end

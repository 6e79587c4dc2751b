/-- what the class's calls keep (p: how many prints at most) -/
def CI_ (p : Int) (M : ms_M) : Prop := VS_ M ∧ NM_ M ∧ SI_ M ∧ (¬ M 143 1 = 1 ∨ 1 ≤ M 143 6) ∧ M 143 7 ≤ p
theorem si_frB {M N : ms_M} {L : List Nat} {LF : List (Nat × Nat)} (V : VS_ M) (h : SI_ M) (F : ∀ c k, nw_F L LF false true c k = true → N c k = M c k) (hc : ((L.all (fun x => !(is_I x)) && LF.all (fun q => !(is_I q.1))) && (nw_F L LF false true 56 2 && (!(L.contains 60) && LF.all (fun q => !(Nat.beq q.1 60))))) = true) : SI_ N := by
  simp only [Bool.and_eq_true] at hc
  obtain ⟨⟨q1, q0⟩, q2, q3, q4⟩ := hc
  have im : ∀ c k, is_I c = true → ly_T c ≠ 1 → N c k = M c k := by
    intro c k hI ht
    refine F c k ?_
    unfold nw_F
    simp only [Bool.and_eq_true]
    refine ⟨?_, ?_, rfl, ?_⟩
    · cases hq : L.contains c with
      | false => rfl
      | true => have := List.all_eq_true.mp q1 c (List.contains_iff_mem.mp hq); rw [hI] at this; cases this
    · cases hq : LF.contains (c, k) with
      | false => rfl
      | true => have := List.all_eq_true.mp q0 _ (List.contains_iff_mem.mp hq); simp only [hI] at this; cases this
    · cases hq : Nat.beq (ly_T c) 1 with
      | false => rfl
      | true => exact absurd (Nat.eq_of_beq_eq_true hq) ht
  refine si_eq V h (fun k => F _ _ (nw_ar ?_ k)) (F _ _ q2) (fun b hb => ⟨im b 12 (is_Ib hb).1 ?_, fun k => im _ k (is_Ib hb).2 ?_⟩)
  · simp only [Bool.and_eq_true]; exact ⟨q3, q4, rfl, rfl⟩
  · rw [T_img hb]; decide
  · rw [T_arr hb (off := 6) (by decide)]; decide
theorem ci_fr {p : Int} {M N : ms_M} {L : List Nat} {LF : List (Nat × Nat)} (C : CI_ p M) (V : VS_ N) (F : ∀ c k, nw_F L LF false false c k = true → N c k = M c k) (h1 : ((L.all (fun x => !(is_I x)) && LF.all (fun q => !(is_I q.1))) && (nw_F L LF false false 56 2 && (!(L.contains 60) && LF.all (fun q => !(Nat.beq q.1 60))))) = true) (h2 : ((!(L.contains 7) && LF.all (fun q => !(Nat.beq q.1 7))) && nw_F L LF false false 2 9) = true) (h3 : (nw_F L LF false false 143 1 && (nw_F L LF false false 143 6 && nw_F L LF false false 143 7)) = true) : CI_ p N := by
  simp only [Bool.and_eq_true] at h2 h3
  refine ⟨V, nm_eq C.2.1 (fun k => F _ _ (nw_ar ?_ k)) (F _ _ h2.2), si_fr C.1 C.2.2.1 F h1, ?_, ?_⟩
  · simp only [Bool.and_eq_true]; exact ⟨h2.1.1, h2.1.2, rfl, rfl⟩
  · rw [F _ _ h3.1, F _ _ h3.2.1]; exact C.2.2.2.1
  · rw [F _ _ h3.2.2]; exact C.2.2.2.2
theorem ci_feed {nn : Nat} (hn : 1000000 ≤ nn) {p a1 a2 a3 a4 a5 : Int} {h : ms_M} (r1 : -2147483648 ≤ a1 ∧ a1 ≤ 2147483647) (r2 : -2147483648 ≤ a2 ∧ a2 ≤ 2147483647) (r3 : -2147483648 ≤ a3 ∧ a3 ≤ 2147483647) (r4 : -2147483648 ≤ a4 ∧ a4 ≤ 2147483647) (r5 : -2147483648 ≤ a5 ∧ a5 ≤ 2147483647) (C : CI_ p h) : Ok_ (qf_X12_feed nn a1 a2 a3 a4 a5 h) (fun r => CI_ p r.2) := by
  obtain ⟨r, er, Q⟩ := vf_X12_feed hn r1.1 r1.2 r2.1 r2.2 r3.1 r3.2 r4.1 r4.2 r5.1 r5.2 C.1
  exact ⟨r, er, ci_fr C Q.1 (fun c k w => (ff_X12_feed nn) _ er c k w) rfl rfl rfl⟩
theorem ci_end {nn : Nat} (hn : 1000000 ≤ nn) {p a1 : Int} {h : ms_M} (r1 : -2147483648 ≤ a1 ∧ a1 ≤ 2147483647) (C : CI_ p h) : Ok_ (qf_X12_end nn a1 h) (fun r => CI_ p r.2) := by
  obtain ⟨r, er, Q⟩ := vf_X12_end hn r1.1 r1.2 C.1
  exact ⟨r, er, ci_fr C Q.1 (fun c k w => (ff_X12_end nn) _ er c k w) rfl rfl rfl⟩
theorem ci_verify {nn : Nat} (hn : 1000000 ≤ nn) {p : Int} {h : ms_M} (C : CI_ p h) : Ok_ (qf_X12_verify nn h) (fun r => CI_ p r.2) := by
  obtain ⟨r, er, Q⟩ := vf_X12_verify hn C.1 C.2.2.1
  exact ⟨r, er, ci_fr C Q.1 (fun c k w => (ff_X12_verify nn) _ er c k w) rfl rfl rfl⟩
theorem ci_compile {nn : Nat} (hn : 1000000 ≤ nn) {p : Int} {h : ms_M} (C : CI_ p h) (hc : h 900000 0 + 8 < 700000) : Ok_ (qf_X12_compile nn h) (fun r => CI_ p r.2.1 ∧ PQ_ (h 900000 0) r) := by
  obtain ⟨r, er, Q⟩ := vf_X12_compile hn C.1 C.2.1 hc
  have s1 : r.2.1 143 1 = h 143 1 := (ff_X12_compile nn) _ er 143 1 rfl
  have s6 : r.2.1 143 6 = h 143 6 := (ff_X12_compile nn) _ er 143 6 rfl
  have s7 : r.2.1 143 7 = h 143 7 := (ff_X12_compile nn) _ er 143 7 rfl
  refine ⟨r, er, ⟨Q.1, Q.2.1, si_frB C.1 C.2.2.1 (fun c k w => (ff_X12_compile nn) _ er c k w) rfl, ?_, ?_⟩, Q⟩
  · rw [s1, s6]; exact C.2.2.2.1
  · rw [s7]; exact C.2.2.2.2
theorem fg_st {nn : Nat} {h r : ms_M} (e : qf_X5_forget nn h = some r) : r 143 1 = 0 ∧ r 143 7 = 0 := by
  unfold qf_X5_forget at e
  rw [xl_eq, xl_eq, xl_eq, xl_eq, xl_eq, xl_eq, xl_eq] at e
  have e := Option.some.inj e
  rw [← e]
  exact ⟨by rw [up_n (by omega), up_n (by omega), up_n (by omega), up_n (by omega), up_n (by omega), up_n (by omega), up_s], up_s⟩
theorem ci_fg {nn : Nat} (hn : 1000000 ≤ nn) {p : Int} {h u : ms_M} (hp : 0 ≤ p) (V : VS_ h) (N : NM_ h) (S : SI_ h) (e : qf_X5_forget nn h = some u) : CI_ p u := by
  have Q := okof (vf_X5_forget hn V) e
  have z := fg_st e
  refine ⟨Q, nm_eq N (fun k => (ff_X5_forget nn) _ e 7 k (nw_ar rfl k)) ((ff_X5_forget nn) _ e 2 9 rfl), si_fr V S (fun c k w => (ff_X5_forget nn) _ e c k w) rfl, .inl (by omega), by omega⟩
theorem ci_clear {nn : Nat} (hn : 1000000 ≤ nn) {p : Int} {h : ms_M} (hp : 0 ≤ p) (C : CI_ p h) : Ok_ (qf_X12_clear nn h) (fun r => CI_ p r) := by
  obtain ⟨r, er, Q⟩ := vf_X12_clear hn C.1
  refine ⟨r, er, ?_⟩
  unfold qf_X12_clear at er
  obtain ⟨u3, e3, er⟩ := sv_i er
  obtain ⟨u6, e6, er⟩ := sv_i er
  cases er
  have V3 := okof (vf_X7_forget hn C.1) e3
  exact ci_fg hn hp V3 (nm_eq C.2.1 (fun k => (ff_X7_forget nn) _ e3 7 k (nw_ar rfl k)) ((ff_X7_forget nn) _ e3 2 9 rfl)) (si_fr C.1 C.2.2.1 (fun c k w => (ff_X7_forget nn) _ e3 c k w) rfl) e6
theorem ci_load {nn : Nat} (hn : 1000000 ≤ nn) {p : Int} {h : ms_M} (hp : 0 ≤ p) (C : CI_ p h) (hc : h 900000 0 < 700000) : Ok_ (qf_X12_load nn h) (fun r => CI_ p r.2.1 ∧ QB_ (h 900000 0) r) := by
  have g := gF_0_1 C.1
  obtain ⟨r, er, Q⟩ := vf_X12_load hn C.1 hc
  refine ⟨r, er, ?_, Q⟩
  unfold qf_X12_load at er
  obtain ⟨u5, e5, er⟩ := sv_i er
  have t1 : 1 < cn_M h ∧ ly_T 1 = 1 := ⟨Nat.lt_of_lt_of_le (by decide) (vi_c C.1), rfl⟩
  have S5 := si_bring hn C.1 C.2.2.1 t1 (by omega) hc e5
  have Q5 := okof (vf_X7_bring hn (by omega) C.1 t1 hc) e5
  have N5 : NM_ u5.2.1 := nm_eq C.2.1 (fun k => (ff_X7_bring nn) _ e5 7 k (nw_ar rfl k)) ((ff_X7_bring nn) _ e5 2 9 rfl)
  rw [xl_eq] at er
  have V6 : VS_ (up_M u5.2.1 0 1 0) := wF_0_1 Q5.1 (by omega)
  have N6 : NM_ (up_M u5.2.1 0 1 0) := nm_uf N5 (by decide)
  have S6 : SI_ (up_M u5.2.1 0 1 0) := si_up Q5.1 S5 (by omega)
  have s : ∀ k, up_M u5.2.1 0 1 0 143 k = u5.2.1 143 k := fun k => up_n (by omega)
  have s1 : u5.2.1 143 1 = h 143 1 := (ff_X7_bring nn) _ e5 143 1 rfl
  have s6 : u5.2.1 143 6 = h 143 6 := (ff_X7_bring nn) _ e5 143 6 rfl
  have s7 : u5.2.1 143 7 = h 143 7 := (ff_X7_bring nn) _ e5 143 7 rfl
  by_cases q : u5.1 < 0
  · rw [if_pos q] at er
    have er := Option.some.inj er
    rw [← er]
    refine ⟨V6, N6, S6, ?_, ?_⟩
    · show ¬ up_M u5.2.1 0 1 0 143 1 = 1 ∨ 1 ≤ up_M u5.2.1 0 1 0 143 6
      rw [s, s, s1, s6]; exact C.2.2.2.1
    · show up_M u5.2.1 0 1 0 143 7 ≤ p
      rw [s, s7]; exact C.2.2.2.2
  · rw [if_neg q] at er
    obtain ⟨u9, e9, er⟩ := sv_i er
    have er := Option.some.inj er
    rw [← er]
    exact ci_fg hn hp V6 N6 S6 e9
theorem ci_patch {nn : Nat} (hn : 1000000 ≤ nn) {p a1 a2 a3 : Int} {h : ms_M} (hp : 0 ≤ p) (r1 : -2147483648 ≤ a1 ∧ a1 ≤ 2147483647) (C : CI_ p h) : Ok_ (qf_X12_patch nn a1 a2 a3 h) (fun r => CI_ p r.2) := by
  obtain ⟨r, er, Q⟩ := vf_X12_patch (a2 := a2) (a3 := a3) hn r1 C.1
  refine ⟨r, er, ?_⟩
  unfold qf_X12_patch at er
  obtain ⟨u3, e3, er⟩ := sv_i er
  have S3 := si_change hn C.1 C.2.2.1 e3
  have Q3 := okof (vf_X7_change hn r1 C.1) e3
  have N3 : NM_ u3.2 := nm_eq C.2.1 (fun k => (ff_X7_change nn) _ e3 7 k (nw_ar rfl k)) ((ff_X7_change nn) _ e3 2 9 rfl)
  have s1 : u3.2 143 1 = h 143 1 := (ff_X7_change nn) _ e3 143 1 rfl
  have s6 : u3.2 143 6 = h 143 6 := (ff_X7_change nn) _ e3 143 6 rfl
  have s7 : u3.2 143 7 = h 143 7 := (ff_X7_change nn) _ e3 143 7 rfl
  by_cases q : u3.1 = 0
  · rw [if_pos q] at er
    obtain ⟨-, er⟩ := ck_i er
    have er := Option.some.inj er
    rw [← er]
    refine ⟨Q3.1, N3, S3, ?_, ?_⟩
    · show ¬ u3.2 143 1 = 1 ∨ 1 ≤ u3.2 143 6
      rw [s1, s6]; exact C.2.2.2.1
    · show u3.2 143 7 ≤ p
      rw [s7]; exact C.2.2.2.2
  · rw [if_neg q] at er
    obtain ⟨u7, e7, er⟩ := sv_i er
    obtain ⟨-, er⟩ := ck_i er
    have er := Option.some.inj er
    rw [← er]
    exact ci_fg hn hp Q3.1 N3 S3 e7
theorem ci_24 {nn : Nat} (hn : 1000000 ≤ nn) {p s0 : Int} {c s : Nat} {h : ms_M} {r : Int × ms_M × Nat × Nat} (hp : 0 ≤ p) (C : CI_ p h) (e : qj_X12_keep_24 nn s0 h c s = some r) : CI_ p r.2.1 := by
  unfold qj_X12_keep_24 at e
  by_cases q : s0 < 0
  · rw [if_pos q] at e
    have e := Option.some.inj e
    rw [← e]; exact C
  · rw [if_neg q] at e
    obtain ⟨u, eu, e⟩ := sv_i e
    have e := Option.some.inj e
    rw [← e]
    exact ci_fg hn hp C.1 C.2.1 C.2.2.1 eu
theorem ci_keep {nn : Nat} (hn : 1000000 ≤ nn) {p a1 : Int} {h : ms_M} (hp : 0 ≤ p) (C : CI_ p h) (hc : h 900000 0 < 700000) : Ok_ (qf_X12_keep nn a1 h) (fun r => CI_ p r.2.1 ∧ QB_ (h 900000 0) r) := by
  obtain ⟨r, er, Q⟩ := vf_X12_keep (a1 := a1) hn C.1 hc
  refine ⟨r, er, ?_, Q⟩
  unfold qf_X12_keep at er
  obtain ⟨u6, e6, er⟩ := sv_i er
  have Q6 := okof (vf_X12_imageOf C.1) e6
  by_cases q : u6 < 0
  · rw [if_pos q] at er
    exact ci_24 hn hp C er
  · rw [if_neg q] at er
    have Q6 := Q6.resolve_left q
    have l0 : 0 ≤ ln_I h u6.toNat := by
      unfold ln_I
      by_cases w : u6.toNat < 256
      · rw [if_pos w]; omega
      · rw [if_neg w]; exact C.1.2.1.2 _
    unfold ln_S at er
    split at er
    · obtain ⟨u12, e12, er⟩ := sv_i er
      have tt : u6.toNat < cn_M h ∧ ly_T u6.toNat = 1 := ⟨Q6.1, Q6.2.1⟩
      have S5 := si_bring hn C.1 C.2.2.1 tt ⟨l0, Q6.2.2⟩ hc e12
      have Q5 := okof (vf_X7_bring hn ⟨l0, Q6.2.2⟩ C.1 tt hc) e12
      have N5 : NM_ u12.2.1 := nm_eq C.2.1 (fun k => (ff_X7_bring nn) _ e12 7 k (nw_ar rfl k)) ((ff_X7_bring nn) _ e12 2 9 rfl)
      have s1 : u12.2.1 143 1 = h 143 1 := (ff_X7_bring nn) _ e12 143 1 rfl
      have s6 : u12.2.1 143 6 = h 143 6 := (ff_X7_bring nn) _ e12 143 6 rfl
      have s7 : u12.2.1 143 7 = h 143 7 := (ff_X7_bring nn) _ e12 143 7 rfl
      exact ci_24 hn hp ⟨Q5.1, N5, S5, by rw [s1, s6]; exact C.2.2.2.1, by rw [s7]; exact C.2.2.2.2⟩ er
    · cases er
theorem ci_start {nn : Nat} (hn : 1000000 ≤ nn) {p a1 a2 : Int} {h : ms_M} (hp : 0 ≤ p) (r1 : -2147483648 ≤ a1 ∧ a1 ≤ 2147483647) (r2 : -2147483648 ≤ a2 ∧ a2 ≤ 2147483647) (C : CI_ p h) : Ok_ (qf_X12_start nn a1 a2 h) (fun r => CI_ p r.2) := by
  obtain ⟨r, er, Q⟩ := vf_X12_start hn r1.1 r1.2 r2.1 r2.2 C.1 C.2.2.2.1
  refine ⟨r, er, Q.1, nm_eq C.2.1 (fun k => (ff_X12_start nn) _ er 7 k (nw_ar rfl k)) ((ff_X12_start nn) _ er 2 9 rfl), si_fr C.1 C.2.2.1 (fun c k w => (ff_X12_start nn) _ er c k w) rfl, Q.2.2.2, ?_⟩
  have same : ∀ {x : Int}, some (x, h) = some r → r.2 143 7 ≤ p := fun z => by
    have z := Option.some.inj z
    rw [← z]; exact C.2.2.2.2
  unfold qf_X12_start at er
  obtain ⟨u3, e3, er⟩ := sv_i er
  split at er
  · exact same er
  · split at er
    · exact same er
    · split at er
      · exact same er
      · obtain ⟨-, er⟩ := ck_i er
        split at er
        · obtain ⟨u10, e10, er⟩ := sv_i er
          split at er
          · exact same er
          · obtain ⟨u12, e12, er⟩ := sv_i er
            split at er
            · obtain ⟨u15, e15, er⟩ := sv_i er
              have er := Option.some.inj er
              rw [← er]
              show u15 143 7 ≤ p
              unfold qf_X5_beginRun at e15
              obtain ⟨w2, f2, e15⟩ := sv_i e15
              rw [xl_eq, xl_eq, xl_eq, xl_eq] at e15
              obtain ⟨w8, f8, e15⟩ := sv_i e15
              have e15 := Option.some.inj e15
              rw [← e15]
              have b7 : w8 143 7 = up_M w2 143 1 1 143 7 := (ff_X5_beginMethod nn) _ f8 143 7 rfl
              rw [b7, up_n (by omega), (fg_st f2).2]; exact hp
            · exact same er
        · exact same er

section
/- BOTH SIDES ARE SAFE IN EVERY CALL -/
theorem nw_rng {A : List Nat} {B : List (Nat × Nat)} {lo hi c k : Nat} (q : (A.all (fun x => Nat.blt x lo || Nat.blt hi x) && B.all (fun y => Nat.blt y.1 lo || Nat.blt hi y.1)) = true) (hc : lo ≤ c ∧ c ≤ hi) : nw_F A B false false c k = true := by
  rw [Bool.and_eq_true] at q
  unfold nw_F
  simp only [Bool.and_eq_true]
  refine ⟨?_, ?_, rfl, rfl⟩
  · cases hq : A.contains c with
    | false => rfl
    | true => have := List.all_eq_true.mp q.1 c (List.contains_iff_mem.mp hq); rw [Bool.or_eq_true, Nat.blt_eq, Nat.blt_eq] at this; omega
  · cases hq : B.contains (c, k) with
    | false => rfl
    | true => have := List.all_eq_true.mp q.2 _ (List.contains_iff_mem.mp hq); rw [Bool.or_eq_true, Nat.blt_eq, Nat.blt_eq] at this; dsimp only at this; omega
section
variable {nn : Nat} {h g r z : ms_M} {p q P Q L : Int}
theorem rva_fr {A : List Nat} {B : List (Nat × Nat)} (V0 : VS_ h) (V : VS_ r) (F : ∀ c k, nw_F A B false false c k = true → r c k = h c k) (h1 : (A.all (fun x => Nat.blt x 163 || Nat.blt 220 x) && B.all (fun y => Nat.blt y.1 163 || Nat.blt 220 y.1)) = true) (h2 : (A.all (fun x => Nat.blt x 226 || Nat.blt 237 x) && B.all (fun y => Nat.blt y.1 226 || Nat.blt 237 y.1)) = true) (h3 : (A.all (fun x => Nat.blt x 246 || Nat.blt 255 x) && B.all (fun y => Nat.blt y.1 246 || Nat.blt 255 y.1)) = true) (h4 : (nw_F A B false false 160 88 && (nw_F A B false false 160 98 && (nw_F A B false false 160 99 && (nw_F A B false false 160 138 && (nw_F A B false false 160 141 && (nw_F A B false false 160 142 && (nw_F A B false false 160 143 && nw_F A B false false 160 149))))))) = true) (R : RVa nn P L h) : RVa nn P L r := by
  simp only [Bool.and_eq_true (nw_F A B false false 160 88), Bool.and_eq_true (nw_F A B false false 160 98), Bool.and_eq_true (nw_F A B false false 160 99), Bool.and_eq_true (nw_F A B false false 160 138), Bool.and_eq_true (nw_F A B false false 160 141), Bool.and_eq_true (nw_F A B false false 160 142), Bool.and_eq_true (nw_F A B false false 160 143)] at h4
  obtain ⟨e0, e1, e2, e3, e4, e5, e6, e7⟩ := h4
  refine rva_k V0 V (rta_k (fun x k y1 y2 => F x k (nw_rng h1 ⟨y1, y2⟩)) (F _ _ e0) R.1) (fun x k y1 y2 y3 => ?_) (fun k hk => ?_) R
  · by_cases w : x ≤ 237
    · exact F x k (nw_rng h2 ⟨y1, w⟩)
    · exact F x k (nw_rng h3 ⟨by omega, y2⟩)
  · rcases hk with rfl | rfl | rfl | rfl | rfl | rfl | rfl
    · exact F _ _ e1
    · exact F _ _ e2
    · exact F _ _ e3
    · exact F _ _ e4
    · exact F _ _ e5
    · exact F _ _ e6
    · exact F _ _ e7
theorem bs_feed (hn : 1000000 ≤ nn) {a1 a2 a3 a4 a5 : Int} (r1 : in_R a1) (r2 : in_R a2) (r3 : in_R a3) (r4 : in_R a4) (r5 : in_R a5) (B : BVa nn P L h) : ∃ x M1 y M2, qf_X12_feed nn a1 a2 a3 a4 a5 h = some (x, M1) ∧ qf_X13_feed nn a1 a2 a3 a4 a5 M1 = some (y, M2) ∧ BVa nn P L M2 ∧ M2 900000 0 = h 900000 0 := by
  obtain ⟨u, eu, C⟩ := cva_feed hn r1 r2 r3 r4 r5 B.1
  have B1 := bva_c B C (by omega) (fun x k a b => (ff_X12_feed nn) _ eu x k (nw_ref rfl ⟨a, b⟩))
  obtain ⟨v, ev, V⟩ := vf_X13_feed hn r1.1 r1.2 r2.1 r2.2 r3.1 r3.2 r4.1 r4.2 r5.1 r5.2 C.1.1
  have F := (ff_X13_feed nn) _ ev
  have R : RVa nn P L v.2 := rva_fr C.1.1 V.1 (fun c k w => F c k w) rfl rfl rfl rfl B1.2
  refine ⟨u.1, u.2, v.1, v.2, eu, ev, bva_r B1 V.1 R (fun x k hx => F x k (nw_cls rfl hx)), ?_⟩
  rw [show v.2 900000 0 = u.2 900000 0 from F 900000 0 rfl]
  exact (ff_X12_feed nn) _ eu 900000 0 rfl
theorem bs_end (hn : 1000000 ≤ nn) {a1 : Int} (r1 : in_R a1) (B : BVa nn P L h) : ∃ x M1 y M2, qf_X12_end nn a1 h = some (x, M1) ∧ qf_X13_end nn a1 M1 = some (y, M2) ∧ BVa nn P L M2 ∧ M2 900000 0 = h 900000 0 := by
  obtain ⟨u, eu, C⟩ := cva_end hn r1 B.1
  have B1 := bva_c B C (by omega) (fun x k a b => (ff_X12_end nn) _ eu x k (nw_ref rfl ⟨a, b⟩))
  obtain ⟨v, ev, V⟩ := vf_X13_end hn r1.1 r1.2 C.1.1
  have F := (ff_X13_end nn) _ ev
  have R : RVa nn P L v.2 := rva_fr C.1.1 V.1 (fun c k w => F c k w) rfl rfl rfl rfl B1.2
  refine ⟨u.1, u.2, v.1, v.2, eu, ev, bva_r B1 V.1 R (fun x k hx => F x k (nw_cls rfl hx)), ?_⟩
  rw [show v.2 900000 0 = u.2 900000 0 from F 900000 0 rfl]
  exact (ff_X12_end nn) _ eu 900000 0 rfl
theorem bs_compile (hn : 1000000 ≤ nn) (hL : L ≤ 1600000000) (B : BVa nn P L h) (hc : h 900000 0 + 8 < 700000) : ∃ x M1 c s y M2, qf_X12_compile nn h = some (x, M1, c, s) ∧ qf_X13_compile nn M1 = some (y, M2) ∧ BVa nn P (L + 48000) M2 ∧ (h 900000 0 ≤ M2 900000 0 ∧ M2 900000 0 ≤ h 900000 0 + (c : Int)) ∧ c ≤ 8 ∧ s ≤ 48000 := by
  obtain ⟨u, eu, C, pq⟩ := cva_compile hn B.1 hc
  have B1 := bva_c B C (by omega) (fun x k a b => (ff_X12_compile nn) _ eu x k (nw_ref rfl ⟨a, b⟩))
  have T := B1.2.1
  obtain ⟨v, ev, W⟩ := rc_compile hn C.1.1 T.1 T.2.1 T.2.2.1 (by have := T.2.2.2; omega)
  have F := (ff_X13_compile nn) _ ev
  have R : RVa nn P (L + 48000) v.2 := by
    refine rva_k C.1.1 W.1 ⟨W.2.1, W.2.2.1, W.2.2.2.1, by have := W.2.2.2.2.1; have := T.2.2.2; omega⟩ (fun x k y1 y2 _ => F x k (nw_rng (lo := 226) (hi := 255) rfl ⟨y1, y2⟩)) (fun k hk => ?_) B1.2
    rcases hk with rfl | rfl | rfl | rfl | rfl | rfl | rfl <;> exact F _ _ rfl
  refine ⟨u.1, u.2.1, u.2.2.1, u.2.2.2, v.1, v.2, eu, ev, bva_r B1 W.1 R (fun x k hx => F x k (nw_cls rfl hx)), ?_, pq.2.2.2.1, pq.2.2.2.2⟩
  rw [show v.2 900000 0 = u.2.1 900000 0 from F 900000 0 rfl]
  exact pq.2.2.1
/-- what the reference's loading leaves -/
theorem rva_ld {w : Int × ms_M} (V0 : VS_ h) (q : QLE h w) (T : RTa L w.2) (e : w.2 160 143 = h 160 143) (R : RVa nn P L h) : RVa nn P L w.2 := by
  obtain ⟨⟨V, S, N⟩, K⟩ := q
  have e : ∀ k : Nat, (k = 141 ∨ k = 142 ∨ k = 143 ∨ k = 149) → w.2 160 k = h 160 k := fun k hk => N 160 k (by omega) (by unfold LF; omega)
  refine ⟨T, S, fun y => ?_, fun y => ?_, by rw [e 143 (by omega)]; exact R.2.2.2.2⟩
  · rcases K with ⟨k1, k2⟩ | ⟨k1, k2, k3⟩
    · exact absurd k1 y
    · exact vrd_k k3 (R.2.2.1 (by rw [← k1]; exact y))
  · rcases K with ⟨k1, k2⟩ | ⟨k1, k2, k3⟩
    · omega
    · exact rgo_k V S k3 (fun x j y1 y2 => N x j (by omega) (by omega)) (e 141 (by omega)) (e 142 (by omega)) (e 149 (by omega)) (R.2.2.2.1 (by rw [← k2]; exact y))
theorem bs_load (hn : 1000000 ≤ nn) (hP : 0 ≤ P) (B : BVa nn P L h) (hc : h 900000 0 < 700000) : ∃ x M1 c s y M2, qf_X12_load nn h = some (x, M1, c, s) ∧ qf_X13_load nn M1 = some (y, M2) ∧ BVa nn P L M2 ∧ (h 900000 0 ≤ M2 900000 0 ∧ M2 900000 0 ≤ h 900000 0 + (c : Int)) ∧ c ≤ 1 ∧ s ≤ 6000 := by
  obtain ⟨u, eu, C, pq⟩ := cva_load hn hP B.1 hc
  have B1 := bva_c B C (by omega) (fun x k a b => (ff_X12_load nn) _ eu x k (nw_ref rfl ⟨a, b⟩))
  obtain ⟨v, ev, W⟩ := lx_load hn C.1.1 B1.2.2.1
  have F := (ff_X13_load nn) _ ev
  have R := rva_ld C.1.1 W (rta_k (fun x k y1 y2 => F x k (nw_rng (lo := 163) (hi := 220) rfl ⟨y1, y2⟩)) (F 160 88 rfl) B1.2.1) (F 160 143 rfl) B1.2
  refine ⟨u.1, u.2.1, u.2.2.1, u.2.2.2, v.1, v.2, eu, ev, bva_r B1 W.1.1 R (fun x k hx => F x k (nw_cls rfl hx)), ?_, pq.2.2.2.1, pq.2.2.2.2⟩
  rw [show v.2 900000 0 = u.2.1 900000 0 from F 900000 0 rfl]
  exact pq.2.2.1
theorem bs_keep (hn : 1000000 ≤ nn) (hP : 0 ≤ P) {a1 : Int} (B : BVa nn P L h) (hc : h 900000 0 < 700000) : ∃ x M1 c s y M2, qf_X12_keep nn a1 h = some (x, M1, c, s) ∧ qf_X13_keep nn a1 M1 = some (y, M2) ∧ BVa nn P L M2 ∧ (h 900000 0 ≤ M2 900000 0 ∧ M2 900000 0 ≤ h 900000 0 + (c : Int)) ∧ c ≤ 1 ∧ s ≤ 6000 := by
  obtain ⟨u, eu, C, pq⟩ := cva_keep hn hP (a1 := a1) B.1 hc
  have B1 := bva_c B C (by omega) (fun x k a b => (ff_X12_keep nn) _ eu x k (nw_ref rfl ⟨a, b⟩))
  obtain ⟨v, ev, W⟩ := lx_keep hn C.1.1 B1.2.2.1 (a := a1)
  have F := (ff_X13_keep nn) _ ev
  have R := rva_ld C.1.1 W (rta_k (fun x k y1 y2 => F x k (nw_rng (lo := 163) (hi := 220) rfl ⟨y1, y2⟩)) (F 160 88 rfl) B1.2.1) (F 160 143 rfl) B1.2
  refine ⟨u.1, u.2.1, u.2.2.1, u.2.2.2, v.1, v.2, eu, ev, bva_r B1 W.1.1 R (fun x k hx => F x k (nw_cls rfl hx)), ?_, pq.2.2.2.1, pq.2.2.2.2⟩
  rw [show v.2 900000 0 = u.2.1 900000 0 from F 900000 0 rfl]
  exact pq.2.2.1
theorem chg_c {a1 a2 a3 : Int} (V : VS_ h) {w : Int × ms_M} (e : qf_X7_change nn a1 a2 a3 h = some w) : w.2 900000 0 = h 900000 0 := by
  have hb := (vi_r V).1.2
  have ib := im_at hb
  have hM := V.2.1.1
  unfold qf_X7_change at e
  obtain ⟨u4, e4, e⟩ := sv_i e
  by_cases c1 : u4 < 0
  · rw [if_pos c1] at e; cases e; rfl
  rw [if_neg c1] at e
  by_cases c2 : a2 < 0
  · rw [if_pos c2] at e; cases e; rfl
  rw [if_neg c2] at e
  obtain ⟨hd, e⟩ := ck_i e
  by_cases c3 : ¬ a2 < h u4.toNat 1
  · rw [if_neg c3] at e; cases e; rfl
  rw [if_pos (Decidable.not_not.1 c3)] at e
  obtain ⟨u9, e9, e⟩ := sv_i e
  obtain ⟨-, e⟩ := ck_i e
  have e := rt_i e
  rw [xl_eq] at e
  obtain ⟨hw, e⟩ := wti_ e
  have l9 : u9.toNat < 700001 := by have := hw.1.1; unfold cn_M at this; omega
  have f13 : ∀ c k, ¬ (c = u9.toNat ∧ k = a2.toNat) → up_M h u9.toNat a2.toNat (oq_b (oq_b a3)) c k = h c k := fun c k w => up_n w
  generalize up_M h u9.toNat a2.toNat (oq_b (oq_b a3)) = h13 at *
  obtain ⟨-, e⟩ := ck_i e
  obtain ⟨hb13, e⟩ := ck_i e
  obtain ⟨u17, e17, e⟩ := sv_i e
  have i13 := im_at hb13
  have q17 : u17.2 900000 0 = h 900000 0 := ((of_X3_read nn hb13) _ e17 900000 0 (by show _ ∨ _; omega)).trans (f13 _ _ (by omega))
  have back : ∀ {v : Int} {r : Int × ms_M}, qj_X7_change_72 nn a2 ((u9.toNat : Nat) : Int) v u17.2 = some r → r.2 900000 0 = h 900000 0 := by
    intro v r e
    unfold qj_X7_change_72 at e
    obtain ⟨-, e⟩ := ck_i e
    obtain ⟨hw2, e⟩ := wti_ e
    cases e
    show up_M _ _ _ _ 900000 0 = _
    rw [Int.toNat_natCast, up_n (by omega)]; exact q17
  by_cases d1 : ¬ u17.1 = -1
  · rw [if_pos d1] at e; exact back e
  rw [if_neg d1] at e
  obtain ⟨u19, e19, e⟩ := sv_i e
  by_cases d2 : u19 = 0
  · rw [if_pos d2, xl_eq] at e
    obtain ⟨u22, e22, e⟩ := sv_i e
    obtain ⟨u24, e24, e⟩ := sv_i e
    cases e
    have i22 := (sw_i e22).2
    show u24 900000 0 = _
    rw [rl_fr e24 900000 0 (by omega), i22, up_n (by omega), up_n (by omega)]; exact q17
  · rw [if_neg d2] at e; exact back e
theorem pat_c {a1 a2 a3 : Int} (V : VS_ h) {w : Int × ms_M} (e : qf_X12_patch nn a1 a2 a3 h = some w) : w.2 900000 0 = h 900000 0 := by
  unfold qf_X12_patch at e
  obtain ⟨u3, e3, e⟩ := sv_i e
  have q := chg_c V e3
  by_cases c : u3.1 = 0
  · rw [if_pos c] at e
    obtain ⟨-, e⟩ := ck_i e
    cases e; exact q
  · rw [if_neg c] at e
    obtain ⟨u7, e7, e⟩ := sv_i e
    obtain ⟨-, e⟩ := ck_i e
    cases e
    show u7 900000 0 = _
    rw [show u7 900000 0 = u3.2 900000 0 from (ff_X5_forget nn) _ e7 900000 0 rfl]; exact q
theorem bs_patch (hn : 1000000 ≤ nn) (hP : 0 ≤ P) {a1 a2 a3 : Int} (r1 : in_R a1) (B : BVa nn P L h) : ∃ x M1 y M2, qf_X12_patch nn a1 a2 a3 h = some (x, M1) ∧ qf_X13_patch nn a1 a2 a3 M1 = some (y, M2) ∧ BVa nn P L M2 ∧ M2 900000 0 = h 900000 0 := by
  obtain ⟨u, eu, C⟩ := cva_patch hn hP (a2 := a2) (a3 := a3) r1 B.1
  have B1 := bva_c B C (by omega) (fun x k a b => (ff_X12_patch nn) _ eu x k (nw_ref rfl ⟨a, b⟩))
  obtain ⟨v, ev, W⟩ := lx_patch2 hn C.1.1 B1.2.2.1 (a := a1) (b := a2) (d := a3) r1
  have F := (ff_X13_patch nn) _ ev
  have R := rva_ld C.1.1 W (rta_k (fun x k y1 y2 => F x k (nw_rng (lo := 163) (hi := 220) rfl ⟨y1, y2⟩)) (F 160 88 rfl) B1.2.1) (F 160 143 rfl) B1.2
  refine ⟨u.1, u.2, v.1, v.2, eu, ev, bva_r B1 W.1.1 R (fun x k hx => F x k (nw_cls rfl hx)), ?_⟩
  rw [show v.2 900000 0 = u.2 900000 0 from F 900000 0 rfl]
  exact pat_c B.1.1.1 eu
theorem bs_clear (hn : 1000000 ≤ nn) (hP : 0 ≤ P) (B : BVa nn P L h) : ∃ M1 M2, qf_X12_clear nn h = some M1 ∧ qf_X13_clear nn M1 = some M2 ∧ BVa nn P L M2 ∧ M2 900000 0 = h 900000 0 := by
  obtain ⟨u, eu, C⟩ := cva_clear hn hP B.1
  have B1 := bva_c B C (by omega) (fun x k a b => (ff_X12_clear nn) _ eu x k (nw_ref rfl ⟨a, b⟩))
  obtain ⟨v, ev, W⟩ := vf_X13_clear hn C.1.1
  have F := (ff_X13_clear nn) _ ev
  have z : v 160 98 = 0 ∧ v 160 99 = 0 ∧ v 160 138 = 0 := by
    have e := ev
    unfold qf_X13_clear at e
    rw [xl_eq, xl_eq, xl_eq] at e
    have e := Option.some.inj e
    rw [← e]
    exact ⟨by rw [up_n (by omega), up_n (by omega), up_s], by rw [up_n (by omega), up_s], up_s⟩
  have R : RVa nn P L v := ⟨rta_k (fun x k y1 y2 => F x k (nw_rng (lo := 163) (hi := 220) rfl ⟨y1, y2⟩)) (F 160 88 rfl) B1.2.1, fun c c0 c1 => by omega, fun y => absurd z.2.1 y, fun y => by omega, by rw [show v 160 143 = u 160 143 from F 160 143 rfl]; exact B1.2.2.2.2.2⟩
  refine ⟨u, v, eu, ev, bva_r B1 W R (fun x k hx => F x k (nw_cls rfl hx)), ?_⟩
  rw [show v 900000 0 = u 900000 0 from F 900000 0 rfl]
  exact (ff_X12_clear nn) _ eu 900000 0 rfl
theorem bs_verify (hn : 1000000 ≤ nn) (B : BVa nn P L h) : ∃ x M1 y M2, qf_X12_verify nn h = some (x, M1) ∧ qf_X13_verify nn M1 = some (y, M2) ∧ BVa nn P L M2 ∧ M2 900000 0 = h 900000 0 := by
  obtain ⟨u, eu, C⟩ := cva_verify hn B.1
  have B1 := bva_c B C (by omega) (fun x k a b => (ff_X12_verify nn) _ eu x k (nw_ref rfl ⟨a, b⟩))
  obtain ⟨v, ev, V, NXv, S, VV⟩ := k_verify hn C.1.1 B1.2.2.1
  have F := (ff_X13_verify nn) _ ev
  have N1 : ∀ x k : Nat, 226 ≤ x → x ≤ 237 → v.2 x k = u.2 x k := fun x k y1 y2 => F x k (nw_rng (lo := 226) (hi := 237) rfl ⟨y1, y2⟩)
  have R : RVa nn P L v.2 := by
    refine ⟨rta_k (fun x k y1 y2 => F x k (nw_rng (lo := 163) (hi := 220) rfl ⟨y1, y2⟩)) (F 160 88 rfl) B1.2.1, S, fun y => vrd_of V S (VV y), fun y => ?_, by rw [show v.2 160 143 = u.2 160 143 from F 160 143 rfl]; exact B1.2.2.2.2.2⟩
    refine rgo_k V S (age_k N1 (F 160 98 rfl)) (fun x j y1 y2 => F x j (nw_rng (lo := 246) (hi := 255) rfl ⟨y1, y2⟩)) (F 160 141 rfl) (F 160 142 rfl) (F 160 149 rfl) (B1.2.2.2.2.1 ?_)
    rw [← show v.2 160 138 = u.2 160 138 from F 160 138 rfl]; exact y
  refine ⟨u.1, u.2, v.1, v.2, eu, ev, bva_r B1 V R (fun x k hx => F x k (nw_cls rfl hx)), ?_⟩
  rw [show v.2 900000 0 = u.2 900000 0 from F 900000 0 rfl]
  exact (ff_X12_verify nn) _ eu 900000 0 rfl
theorem bs_start (hn : 1000000 ≤ nn) (hP : 0 ≤ P) {a1 a2 : Int} (r1 : in_R a1) (r2 : in_R a2) (B : BVa nn P L h) : ∃ x M1 y M2, qf_X12_start nn a1 a2 h = some (x, M1) ∧ qf_X13_start nn a1 a2 M1 = some (y, M2) ∧ BVa nn P L M2 ∧ M2 900000 0 = h 900000 0 := by
  obtain ⟨u, eu, C⟩ := cva_start hn hP r1 r2 B.1
  have B1 := bva_c B C (by omega) (fun x k a b => (ff_X12_start nn) _ eu x k (nw_ref rfl ⟨a, b⟩))
  obtain ⟨v, ev, V, NM, G⟩ := s_start hn C.1.1 B1.2.2.1 B1.2.2.2.1 (y := a1) (u := a2) r1
  have F := (ff_X13_start nn) _ ev
  have N1 : ∀ x k : Nat, 226 ≤ x → x ≤ 237 → v.2 x k = u.2 x k := fun x k y1 y2 => F x k (nw_rng (lo := 226) (hi := 237) rfl ⟨y1, y2⟩)
  have R : RVa nn P L v.2 := by
    rcases G with G | ⟨g1, g2⟩
    · rw [G]; exact B1.2
    · refine ⟨rta_k (fun x k y1 y2 => F x k (nw_rng (lo := 163) (hi := 220) rfl ⟨y1, y2⟩)) (F 160 88 rfl) B1.2.1, spd_k C.1.1 N1 (F 160 98 rfl) B1.2.2.1, fun y => vrd_k (age_k N1 (F 160 98 rfl)) (B1.2.2.2.1 ?_), fun _ => g2, by omega⟩
      rw [← show v.2 160 99 = u.2 160 99 from F 160 99 rfl]; exact y
  refine ⟨u.1, u.2, v.1, v.2, eu, ev, bva_r B1 V R (fun x k hx => F x k (nw_cls rfl hx)), ?_⟩
  rw [show v.2 900000 0 = u.2 900000 0 from F 900000 0 rfl]
  exact (ff_X12_start nn) _ eu 900000 0 rfl
theorem bs_run (hn : 1000000 ≤ nn) (hP : 0 ≤ P ∧ P + 20000 ≤ 1900000000) {a1 : Int} (B : BVa nn P L h) : ∃ x M1 y M2, qf_X12_run nn a1 h = some (x, M1) ∧ qf_X13_run nn a1 M1 = some (y, M2) ∧ BVa nn (P + 20000) L M2 ∧ M2 900000 0 = h 900000 0 := by
  obtain ⟨u, eu, C⟩ := cva_run hn (a1 := a1) (Z := P + 20000) B.1 (by omega) (by omega)
  have B1 := bva_c B C (by omega) (fun x k a b => (ff_X12_run nn) _ eu x k (nw_ref rfl ⟨a, b⟩))
  have e143 : u.2 160 143 = h 160 143 := (ff_X12_run nn) _ eu 160 143 rfl
  obtain ⟨v, ev, V, N, G, pr⟩ := s_run hn C.1.1 (P := P) (y := a1) B1.2.2.2.2.1 (by rw [e143]; exact B.2.2.2.2.2) (by omega)
  have F := (ff_X13_run nn) _ ev
  have N1 : ∀ x k : Nat, 226 ≤ x → x ≤ 237 → v.2 x k = u.2 x k := fun x k y1 y2 => F x k (nw_rng (lo := 226) (hi := 237) rfl ⟨y1, y2⟩)
  have R : RVa nn (P + 20000) L v.2 := by
    refine ⟨rta_k (fun x k y1 y2 => F x k (nw_rng (lo := 163) (hi := 220) rfl ⟨y1, y2⟩)) (F 160 88 rfl) B1.2.1, spd_k C.1.1 N1 (F 160 98 rfl) B1.2.2.1, fun y => vrd_k (age_k N1 (F 160 98 rfl)) (B1.2.2.2.1 ?_), G, pr⟩
    rw [← show v.2 160 99 = u.2 160 99 from F 160 99 rfl]; exact y
  refine ⟨u.1, u.2, v.1, v.2, eu, ev, bva_r B1 V R (fun x k hx => F x k (nw_cls rfl hx)), ?_⟩
  rw [show v.2 900000 0 = u.2 900000 0 from F 900000 0 rfl]
  exact (ff_X12_run nn) _ eu 900000 0 rfl
theorem bs_le (B : BVa nn P L h) (h1 : P ≤ Q) (h2 : L ≤ q) : BVa nn Q q h := by
  obtain ⟨⟨⟨a, b, c, d, e⟩, C⟩, ⟨t1, t2, t3, t4⟩, r1, r2, r3, r4⟩ := B
  exact ⟨⟨⟨a, b, c, d, by omega⟩, C⟩, ⟨t1, t2, t3, by omega⟩, r1, r2, r3, by omega⟩
end
end
section
/- THE CALLS THAT ONLY READ ARE SAFE ON BOTH SIDES -/
section
variable {nn : Nat} {h : ms_M} {P L : Int}
theorem ok_ex {α : Type} {x : Option α} {Q : α → Prop} (k : Ok_ x Q) : ∃ a, x = some a := by
  obtain ⟨a, e, -⟩ := k; exact ⟨a, e⟩
theorem bs_fault (hn : 1000000 ≤ nn) {a : Int} (r : in_R a) (B : BVa nn P L h) : (∃ x, qf_X12_fault nn a h = some x) ∧ ∃ y, qf_X13_fault nn a h = some y :=
  ⟨ok_ex (vf_X12_fault hn r.1 r.2 B.1.1.1), ok_ex (vf_X13_fault hn r.1 r.2 B.1.1.1)⟩
theorem bs_image (hn : 1000000 ≤ nn) {a b : Int} (r : in_R a) (r2 : in_R b) (B : BVa nn P L h) : (∃ x, qf_X12_image nn a b h = some x) ∧ ∃ y, qf_X13_image nn a b h = some y :=
  ⟨ok_ex (vf_X12_image B.1.1.1), ok_ex (vf_X13_image hn r.1 r.2 r2.1 r2.2 B.1.1.1)⟩
theorem bs_where (hn : 1000000 ≤ nn) {a : Int} (r : in_R a) (B : BVa nn P L h) : (∃ x, qf_X12_where nn a h = some x) ∧ ∃ y, qf_X13_where nn a h = some y :=
  ⟨ok_ex (vf_X12_where hn r.1 r.2 B.1.1.1), ok_ex (vf_X13_where hn r.1 r.2 B.1.1.1)⟩
theorem bs_out (hn : 1000000 ≤ nn) {a : Int} (r : in_R a) (B : BVa nn P L h) : (∃ x, qf_X12_out nn a h = some x) ∧ ∃ y, qf_X13_out nn a h = some y :=
  ⟨ok_ex (vf_X12_out hn r.1 r.2 B.1.1.1), ok_ex (vf_X13_out hn r.1 r.2 B.1.1.1)⟩
theorem bs_type (hn : 1000000 ≤ nn) {a b : Int} (r : in_R a) (r2 : in_R b) (B : BVa nn P L h) : (∃ x, qf_X12_type nn a b h = some x) ∧ ∃ y, qf_X13_type_ nn a b h = some y :=
  ⟨ok_ex (vf_X12_type hn r.1 r.2 r2.1 r2.2 B.1.1.1), ok_ex (rv_type hn B.1.1.1 B.2.2.1 r)⟩
theorem rgo_d (G : RGO nn h) : 1 ≤ h 160 149 ∧ h 160 149 ≤ 60 := by
  obtain ⟨ω, g, X, hd, -⟩ := G; exact hd
theorem ok_iT {α : Type} {c : Prop} {d : Decidable c} {x y : Option α} (h1 : c → ∃ a, x = some a) (h2 : ¬ c → ∃ a, y = some a) : ∃ a, (if c then x else y) = some a := by
  by_cases q : c
  · rw [if_pos q]; exact h1 q
  · rw [if_neg q]; exact h2 q
theorem ok_rdx {n : Int} {c : Nat} {j : Int} (q : 0 ≤ j ∧ j < n) : ∃ a, (rd_A n c j h fun v => some v) = some a := by
  unfold rd_A
  rw [if_pos q]; exact ⟨_, rfl⟩
theorem bs_look (hn : 1000000 ≤ nn) {a : Int} (r : in_R a) (B : BVa nn P L h) : (∃ x, qf_X12_look nn a h = some x) ∧ ∃ y, qf_X13_look nn a h = some y := by
  refine ⟨ok_ex (vf_X12_look hn r.1 r.2 B.1.1.1), ?_⟩
  have dd : ∀ {c : Nat}, ¬ ¬ h 160 138 = 1 → ∃ y, (xl (oq_sub (h 160 149) 1) fun v => rd_A 60 c v h fun w => some w) = some y := by
    intro c q
    have D := rgo_d (B.2.2.2.2.1 (Decidable.not_not.1 q))
    rw [xl_eq, oq_sub_eq (by omega) (by omega) (by omega)]
    exact ok_rdx (by omega)
  unfold qf_X13_look qj_X13_look_93 qj_X13_look_252
  have s : ∀ {v : Int}, ∃ y, (some v : Option Int) = some y := ⟨_, rfl⟩
  refine ok_iT (fun _ => s) (fun _ => ok_iT (fun _ => ok_iT (fun _ => s) (fun _ => ok_iT (fun _ => s) (fun _ => s))) (fun _ => ?_))
  refine ok_iT (fun _ => ok_iT (fun _ => s) (fun _ => s)) (fun _ => ok_iT (fun _ => ok_iT (fun _ => s) (fun _ => s)) (fun _ => ok_iT (fun _ => ok_iT (fun _ => s) (fun _ => s)) (fun _ => ok_iT (fun _ => ok_iT (fun _ => s) (fun _ => s)) (fun _ => ok_iT (fun _ => ok_iT (fun _ => s) (fun _ => s)) (fun _ => ?_)))))
  refine ok_iT (fun _ => ok_iT (fun _ => s) (fun q => dd q)) (fun _ => ok_iT (fun _ => ok_iT (fun _ => s) (fun q => dd q)) (fun _ => ok_iT (fun _ => ok_iT (fun _ => s) (fun q => dd q)) (fun _ => ok_iT (fun _ => ok_iT (fun _ => s) (fun q => dd q)) (fun _ => ?_))))
  exact ok_iT (fun _ => s) (fun _ => ok_iT (fun _ => ok_iT (fun _ => s) (fun _ => s)) (fun _ => ok_iT (fun _ => s) (fun _ => s)))
end
end
section
section
variable {nn : Nat} {h g r : ms_M}
/-- how wide a token is at least -/
def wk (k : Int) : Int := if k = 13 then 5 else if k = 2 then 1 else 0
theorem wk_0 {k : Int} : 0 ≤ wk k ∧ wk k ≤ 5 := by
  unfold wk
  by_cases a : k = 13
  · rw [if_pos a]; omega
  · rw [if_neg a]
    by_cases b : k = 2
    · rw [if_pos b]; omega
    · rw [if_neg b]; omega
theorem wk_13 : wk 13 = 5 := by decide
theorem wk_2 : wk 2 = 1 := by decide
theorem wk_o {k : Int} (a : ¬ k = 13) (b : ¬ k = 2) : wk k = 0 := by unfold wk; rw [if_neg a, if_neg b]
/-- the word 'class' is five letters long -/
def K7 (h : ms_M) : Prop := 32 ≤ h 2 9 ∧ h 7 12 = 91 ∧ h 7 13 = 96
/-- tokens stand one behind the other -/
def TPt (h : ms_M) : Prop := ∀ i : Nat, (i : Int) + 1 < h 2 3 → h 4 i + wk (h 3 i) ≤ h 4 (i + 1)
/-- all tokens end before a -/
def TQt (h : ms_M) (a : Int) : Prop := ∀ i : Nat, (i : Int) < h 2 3 → h 4 i + wk (h 3 i) ≤ a
/-- r is h and one token more -/
def APt (k p : Int) (h r : ms_M) : Prop := (0 ≤ h 2 3 ∧ h 2 3 ≤ 3000) ∧ r 2 3 = h 2 3 + 1 ∧ r 3 (h 2 3).toNat = k ∧ r 4 (h 2 3).toNat = p ∧ ∀ i : Nat, (i : Int) < h 2 3 → r 3 i = h 3 i ∧ r 4 i = h 4 i
theorem ap_tp {k p : Int} (A : APt k p h r) (P : TPt h) (Q : TQt h p) : TPt r := by
  obtain ⟨a0, a1, a2, a3, a4⟩ := A
  intro i hi
  by_cases q : (i : Int) + 1 < h 2 3
  · have b := a4 i (by omega)
    have b2 := a4 (i + 1) (by omega)
    have p1 := P i q
    rw [b.1, b.2, b2.2]; exact p1
  · have b := a4 i (by omega)
    have e : i + 1 = (h 2 3).toNat := by omega
    have q1 := Q i (by omega)
    rw [b.1, b.2, e, a3]; exact q1
theorem ap_tq {k p a b : Int} (A : APt k p h r) (Q : TQt h a) (hb : a ≤ b) (hp : p + wk k ≤ b) : TQt r b := by
  obtain ⟨a0, a1, a2, a3, a4⟩ := A
  intro i hi
  by_cases q : (i : Int) < h 2 3
  · have b := a4 i q
    have q1 := Q i q
    rw [b.1, b.2]; omega
  · have e : i = (h 2 3).toNat := by omega
    rw [e, a2, a3]; exact hp
theorem tq_le {a b : Int} (Q : TQt h a) (hb : a ≤ b) : TQt h b := fun i hi => by have := Q i hi; omega
theorem ap_addToken {k p v : Int} (hc : 0 ≤ h 2 3 ∧ h 2 3 ≤ 3000) : Pc (qf_X9_addToken nn k p v h) (APt k p h) := by
  unfold qf_X9_addToken
  refine pc_if (fun c => absurd c (by omega)) (fun _ => ?_)
  refine pc_wA ?_; intro i1 i2 h6 e6
  refine pc_wA ?_; intro j1 j2 h9 e9
  refine pc_wA ?_; intro k1 k2 h12 e12
  have c6 : h6 2 3 = h 2 3 := by rw [e6]; exact up_n (by omega)
  have c9 : h9 2 3 = h 2 3 := by rw [e9, up_n (by omega)]; exact c6
  have c12 : h12 2 3 = h 2 3 := by rw [e12, up_n (by omega)]; exact c9
  refine pc_add (by omega) ?_; intro v14 e14
  refine pc_xl ?_; intro h15 e15
  refine pc_ret ?_
  have r3 : ∀ i : Nat, h15 3 i = h6 3 i := fun i => by
    rw [e15, up_n (by omega), e12, up_n (by omega), e9, up_n (by omega)]
  have r4 : ∀ i : Nat, h15 4 i = h9 4 i := fun i => by
    rw [e15, up_n (by omega), e12, up_n (by omega)]
  refine ⟨hc, ?_, ?_, ?_, ?_⟩
  · rw [e15, up_s]; omega
  · rw [r3, e6, up_s]
  · rw [r4, e9, c6, up_s]
  · intro i hi
    refine ⟨?_, ?_⟩
    · rw [r3, e6, up_n (by omega)]
    · rw [r4, e9, up_n (by omega), e6, up_n (by omega)]
theorem k7_addToken {k p v : Int} (e : qf_X9_addToken nn k p v h = some r) (K : K7 h) : K7 r := by
  have a : r 2 9 = h 2 9 := (ff_X9_addToken nn) _ e 2 9 rfl
  have b : r 7 12 = h 7 12 := (ff_X9_addToken nn) _ e 7 12 (nw_ar rfl _)
  have c : r 7 13 = h 7 13 := (ff_X9_addToken nn) _ e 7 13 (nw_ar rfl _)
  unfold K7; rw [a, b, c]; exact K
theorem pc_cpS {α : Type} {Q : α → Prop} {M : ms_M} {a b : Nat} {sp dp n : Int} {G : ms_M → Option α} (q : ∀ z, z = cp_M M a sp.toNat b dp.toNat n.toNat → Pc (G z) Q) : Pc (cp_S a sp b dp n M G) Q := fun r e => q _ rfl r (cp_i e)
theorem pc_rT {α : Type} {Q : α → Prop} {M : ms_M} {c : Nat} {j : Int} {G : Int → Option α} (q : ∀ v, v = M c j.toNat → Pc (G v) Q) : Pc (rd_T c j M G) Q := fun r e => q _ rfl r (rt_i e)
theorem cp_ne {M : ms_M} {a sp b dp n c k : Nat} (q : ¬ c = b) : cp_M M a sp b dp n c k = M c k := by
  unfold cp_M; rw [if_neg (by omega)]
/-- a name that is closed: the earlier ones stay -/
theorem k7_closeName {a : Int} (K : K7 h) : Pc (qf_X9_closeName nn a h) (fun r => K7 r ∧ r 2 9 = h 2 9 + 1) := by
  obtain ⟨k1, k2, k3⟩ := K
  unfold qf_X9_closeName
  refine pc_rA ?_; intro i1 i2 v3 e3
  refine pc_xl ?_; intro v5 e5
  refine pc_se ?_; intro u6 e6
  refine pc_rA ?_; intro j1 j2 v10 e10
  refine pc_wA ?_; intro l1 l2 h11 e11
  refine pc_wA ?_; intro m1 m2 h14 e14
  have c14 : h14 2 9 = h 2 9 := by rw [e14, up_n (by omega), e11, up_n (by omega)]
  refine pc_add (by omega) ?_; intro v16 e16
  refine pc_xl ?_; intro h17 e17
  have c17 : h17 2 9 = h 2 9 + 1 := by rw [e17, up_s]; omega
  refine pc_wA ?_; intro n1 n2 h20 e20
  have r7 : ∀ k : Nat, k < 32 → h20 7 k = h 7 k := fun k hk => by
    rw [e20, up_n (by omega), e17, up_n (by omega), e14, up_n (by omega), e11, up_n (by omega)]
  have r9 : h20 2 9 = h 2 9 + 1 := by rw [e20, up_n (by omega)]; exact c17
  refine pc_ret ⟨⟨?_, ?_, ?_⟩, r9⟩
  · omega
  · rw [r7 12 (by omega)]; exact k2
  · rw [r7 13 (by omega)]; exact k3
theorem n_12 : ¬ (0 : Int) = 12 := by decide
theorem k7_79 {l1 : Nat} {l2 l3 : Int} (K : K7 h) : Pc (qj_X9_nameOf_79 nn l1 l2 l3 h) (fun u => K7 u.2 ∧ ¬ u.1 = 12) := by
  unfold qj_X9_nameOf_79
  refine pc_rA ?_; intro i1 i2 v3 e3
  refine pc_if (fun _ => pc_ret ⟨K, n_12⟩) (fun c => ?_)
  refine pc_xl ?_; intro v5 e5
  refine pc_if (fun _ => ?_) (fun _ => pc_ret ⟨K, n_12⟩)
  refine pc_cpS ?_; intro h9 e9
  have K9 : K7 h9 := by
    unfold K7; rw [e9, cp_ne (by omega), cp_ne (by omega), cp_ne (by omega)]; exact K
  refine pc_xl ?_; intro v10 e10
  refine pc_sv (k7_closeName K9) ?_; intro u12 q12
  have k := K9.1
  have c9 : h9 2 9 = h 2 9 := by rw [e9, cp_ne (by omega)]
  refine pc_sub (by omega) ?_; intro v14 e14
  refine pc_ret ⟨q12.1, ?_⟩
  show ¬ v14 = 12
  omega
theorem k7_isNamed {l1 : Nat} {l2 l3 l4 : Int} (K : K7 h) : Pc (qf_X9_isNamed nn l4 l1 l2 l3 h) (fun u => u = 0 ∨ ¬ l4 = 12 ∨ l3 = 5) := by
  obtain ⟨k1, k2, k3⟩ := K
  unfold qf_X9_isNamed
  refine pc_rA ?_; intro i1 i2 v10 e10
  refine pc_add (by omega) ?_; intro v12 e12
  refine pc_rA ?_; intro j1 j2 v13 e13
  refine pc_xl ?_; intro v14 e14
  refine pc_if (fun c => ?_) (fun _ => pc_ret (.inl rfl))
  intro u eu
  by_cases q : l4 = 12
  · refine .inr (.inr ?_)
    have z1 : v10 = 91 := by rw [e10, q]; exact k2
    have z2 : v13 = 96 := by rw [e13, e12, q]; exact k3
    rw [z1, z2, oq_sub_eq (by omega) (by omega) (by omega)] at e14
    omega
  · exact .inr (.inl q)
theorem k7_35 {l1 : Nat} {l2 l3 : Int} (K : K7 h) : ∀ (k : Nat) (l4 l5 : Int), Pc (qw_X9_nameOf_35 nn k l1 l2 l3 l4 l5 h) (fun u => K7 u.2 ∧ (u.1 = 12 → l3 = 5)) := by
  intro k
  induction k with
  | zero => intro l4 l5; exact pc_none
  | succ k ih =>
    intro l4 l5
    unfold qw_X9_nameOf_35
    have H := k7_79 (nn := nn) (l1 := l1) (l2 := l2) (l3 := l3) K
    refine pc_if (fun _ => pc_imp H (fun u q => ⟨q.1, fun z => absurd z q.2⟩)) (fun _ => ?_)
    refine pc_if (fun _ => pc_imp H (fun u q => ⟨q.1, fun z => absurd z q.2⟩)) (fun _ => ?_)
    refine pc_sv (k7_isNamed K) ?_; intro u18 q18
    refine pc_if (fun _ => ?_) (fun c => ?_)
    · refine pc_rA ?_; intro i1 i2 v20 e20
      refine pc_xl ?_; intro v21 e21
      exact ih v20 v21
    · refine pc_ret ⟨K, fun z => ?_⟩
      rcases q18 with q | q | q
      · exact absurd q c
      · exact absurd z q
      · exact q
theorem k7_nameOf {a1 : Nat} {a2 a3 : Int} (K : K7 h) : Pc (qf_X9_nameOf nn a1 a2 a3 h) (fun u => K7 u.2 ∧ (u.1 = 12 → a3 = 5)) := by
  unfold qf_X9_nameOf
  refine pc_if (fun _ => pc_ret ⟨K, fun z => absurd z n_12⟩) (fun _ => ?_)
  refine pc_if (fun _ => pc_ret ⟨K, fun z => absurd z n_12⟩) (fun _ => ?_)
  refine pc_xl ?_; intro v25 e25
  refine pc_lS ?_; intro v26 e26
  refine pc_if (fun _ => ?_) (fun _ => pc_ret ⟨K, fun z => absurd z n_12⟩)
  refine pc_se ?_; intro u28 e28
  refine pc_rA ?_; intro i1 i2 v29 e29
  exact k7_35 K _ _ _
/-- what the reading of a token at p, before z, leaves -/
def RTw (p z : Int) (h : ms_M) : Int × ms_M → Prop := fun u => K7 u.2 ∧ ((u.1 = 0 ∧ u.2 2 3 = h 2 3 ∧ ∀ i : Nat, u.2 3 i = h 3 i ∧ u.2 4 i = h 4 i) ∨ (0 ≤ u.1 ∧ u.1 ≤ 3000 ∧ ∃ k, APt k p h u.2 ∧ wk k ≤ u.1 ∧ p + wk k ≤ z))
theorem ap_k {k p : Int} {g : ms_M} (A : APt k p g r) (c : g 2 3 = h 2 3) (s : ∀ i : Nat, g 3 i = h 3 i ∧ g 4 i = h 4 i) : APt k p h r := by
  obtain ⟨a0, a1, a2, a3, a4⟩ := A
  rw [c] at a0 a1 a2 a3 a4
  exact ⟨a0, a1, a2, a3, fun i hi => by rw [(a4 i hi).1, (a4 i hi).2]; exact s i⟩
theorem rtw_89 {l3 l5 l6 s0 z : Int} (K : K7 h) (hc : 0 ≤ h 2 3 ∧ h 2 3 ≤ 3000) (h5 : 0 ≤ l5 ∧ l5 ≤ 3000) (hw : wk s0 ≤ l5 ∧ l3 + wk s0 ≤ z) : Pc (qj_X9_scanWord_89 nn l3 l5 l6 s0 h) (RTw l3 z h) := by
  unfold qj_X9_scanWord_89
  refine pc_se ?_; intro u2 e2
  exact pc_ret ⟨k7_addToken e2 K, .inr ⟨h5.1, h5.2, s0, ap_addToken hc _ e2, hw⟩⟩
theorem rtw_69 {l3 l5 l6 s0 z : Int} (K : K7 h) (hc : 0 ≤ h 2 3 ∧ h 2 3 ≤ 3000) (h5 : 1 ≤ l5 ∧ l5 ≤ 3000) (hz : l3 + l5 ≤ z) (hs : s0 = 0 ∨ (9 ≤ l6 ∧ l6 < 31 ∧ (l6 = 12 → l5 = 5))) : Pc (qj_X9_scanWord_69 nn l3 l5 l6 s0 h) (RTw l3 z h) := by
  unfold qj_X9_scanWord_69
  refine pc_if (fun _ => rtw_89 K hc (by omega) ?_) (fun c => ?_)
  · rw [wk_2]; omega
  · obtain ⟨s1, s2, s3⟩ : 9 ≤ l6 ∧ l6 < 31 ∧ (l6 = 12 → l5 = 5) := by
      rcases hs with q | q
      · exact absurd q c
      · exact q
    refine pc_add (by omega) ?_; intro v3 e3
    refine pc_sub (by omega) ?_; intro v4 e4
    refine rtw_89 K hc (by omega) ?_
    by_cases q : v4 = 13
    · have := s3 (by omega)
      rw [q, wk_13]; omega
    · rw [wk_o q (by omega)]; omega
theorem rtw_25 {l3 l4 z : Int} (K : K7 h) (hc : 0 ≤ h 2 3 ∧ h 2 3 ≤ 3000) (hl : 0 ≤ l3 ∧ l3 + 1 ≤ l4 ∧ l4 ≤ z ∧ z ≤ 3000) : Pc (qj_X9_scanWord_25 nn l3 l4 h) (RTw l3 z h) := by
  unfold qj_X9_scanWord_25
  refine pc_sub (by omega) ?_; intro v6 e6
  refine pc_if (fun _ => ?_) (fun _ => pc_ret ⟨K, .inl ⟨rfl, rfl, fun _ => ⟨rfl, rfl⟩⟩⟩)
  refine pc_se ?_; intro u8 e8
  have q8 := k7_nameOf (nn := nn) (a1 := 1) (a2 := l3) (a3 := v6) K _ e8
  have c8 : u8.2 2 3 = h 2 3 := (ff_X9_nameOf nn) _ e8 2 3 rfl
  have s8 : ∀ i : Nat, u8.2 3 i = h 3 i ∧ u8.2 4 i = h 4 i := fun i => ⟨(ff_X9_nameOf nn) _ e8 3 i (nw_ar rfl i), (ff_X9_nameOf nn) _ e8 4 i (nw_ar rfl i)⟩
  have T : ∀ u, RTw l3 z u8.2 u → RTw l3 z h u := fun u q => by
    refine ⟨q.1, ?_⟩
    rcases q.2 with ⟨a, b, d⟩ | ⟨a, b, k, A, d⟩
    · exact .inl ⟨a, by rw [b, c8], fun i => by rw [(d i).1, (d i).2]; exact s8 i⟩
    · exact .inr ⟨a, b, k, ap_k A c8 s8, d⟩
  have F : ∀ w : Int, Pc (qj_X9_scanWord_68 nn l3 v6 w u8.2) (RTw l3 z h) := fun w => by
    unfold qj_X9_scanWord_68
    exact pc_imp (rtw_69 q8.1 (by omega) (by omega) (by omega) (.inl rfl)) T
  refine pc_if (fun _ => F _) (fun c1 => ?_)
  refine pc_if (fun _ => F _) (fun c2 => ?_)
  exact pc_imp (rtw_69 q8.1 (by omega) (by omega) (by omega) (.inr ⟨by omega, by omega, q8.2⟩)) T
theorem rtw_w3 {l2 l3 : Int} (K : K7 h) (hc : 0 ≤ h 2 3 ∧ h 2 3 ≤ 3000) (hl : 0 ≤ l3 ∧ l2 ≤ 3000) : ∀ (k : Nat) (l4 : Int), l3 + 1 ≤ l4 ∧ l4 ≤ l2 → Pc (qw_X9_scanWord_3 nn k l2 l3 l4 h) (RTw l3 l2 h) := by
  intro k
  induction k with
  | zero => intro l4 _; exact pc_none
  | succ k ih =>
    intro l4 h4
    unfold qw_X9_scanWord_3
    refine pc_if (fun _ => rtw_25 K hc (by omega)) (fun c => ?_)
    refine pc_rA ?_; intro i1 i2 v12 e12
    refine pc_se ?_; intro u13 e13
    refine pc_if (fun _ => rtw_25 K hc (by omega)) (fun _ => ?_)
    refine pc_add (by omega) ?_; intro v14 e14
    exact ih v14 (by omega)
theorem np_letter {c u w : Int} (a : qf_X9_isLetter nn c h = some u) (hu : ¬ u = 0) (e : qf_X9_isNamePart nn c h = some w) : ¬ w = 0 := by
  unfold qf_X9_isNamePart at e
  rw [a, mx_svs, if_pos hu] at e
  cases e; decide
theorem rtw_word {a2 a3 : Int} (K : K7 h) (hc : 0 ≤ h 2 3 ∧ h 2 3 ≤ 3000) (hl : 0 ≤ a3 ∧ a3 < a2 ∧ a2 ≤ 3000) {u : Int} (a : qf_X9_isLetter nn (h 1 a3.toNat) h = some u) (hu : ¬ u = 0) : Pc (qf_X9_scanWord nn a2 a3 h) (RTw a3 a2 h) := by
  unfold qf_X9_scanWord
  intro r e
  cases nn with
  | zero => cases e
  | succ k =>
    unfold qw_X9_scanWord_3 at e
    rw [if_neg (by omega)] at e
    replace e := rd_i e
    obtain ⟨u13, e13, e⟩ := sv_i e
    rw [if_neg (np_letter a hu e13)] at e
    refine pc_add (Q := RTw a3 a2 h) (by omega) ?_ r e
    intro v14 e14
    exact rtw_w3 K hc (by omega) k v14 (by omega)
theorem rtw_96 {l3 l4 l6 l7 s0 z : Int} (K : K7 h) (hc : 0 ≤ h 2 3 ∧ h 2 3 ≤ 3000) (hl : 0 ≤ l3 ∧ l3 ≤ l6 ∧ l6 ≤ z ∧ z ≤ 3000) : Pc (qj_X9_scanNumber_96 nn l3 l4 l6 l7 s0 h) (RTw l3 z h) := by
  have Z : Pc (some ((0 : Int), h)) (RTw l3 z h) := pc_ret ⟨K, .inl ⟨rfl, rfl, fun _ => ⟨rfl, rfl⟩⟩⟩
  unfold qj_X9_scanNumber_96
  refine pc_if (fun _ => Z) (fun _ => pc_if (fun _ => Z) (fun _ => ?_))
  refine pc_xl ?_; intro v1 e1
  refine pc_if (fun _ => ?_) (fun _ => Z)
  refine pc_xl ?_; intro v2 e2
  refine pc_se ?_; intro u4 e4
  refine pc_sub (by omega) ?_; intro v5 e5
  refine pc_ret ⟨k7_addToken e4 K, .inr ⟨?_, ?_, 3, ap_addToken hc _ e4, ?_, ?_⟩⟩
  · show 0 ≤ v5; omega
  · show v5 ≤ 3000; omega
  · show wk 3 ≤ v5
    rw [wk_o (by decide) (by decide)]; omega
  · rw [wk_o (by decide) (by decide)]; omega
theorem rtw_73 {l2 l3 l4 l6 s0 : Int} (K : K7 h) (hc : 0 ≤ h 2 3 ∧ h 2 3 ≤ 3000) (hl : 0 ≤ l3 ∧ l3 ≤ l6 ∧ l6 ≤ l2 ∧ l2 ≤ 3000) : Pc (qj_X9_scanNumber_73 nn l2 l3 l4 l6 s0 h) (RTw l3 l2 h) := by
  unfold qj_X9_scanNumber_73
  have Z : Pc (qj_X9_scanNumber_95 nn l3 l4 l6 s0 h) (RTw l3 l2 h) := by
    unfold qj_X9_scanNumber_95; exact rtw_96 K hc hl
  refine pc_if (fun _ => Z) (fun _ => ?_)
  refine pc_rA ?_; intro i1 i2 v9 e9
  refine pc_se ?_; intro u10 e10
  exact pc_if (fun _ => Z) (fun _ => rtw_96 K hc hl)
theorem rtw_52 {l2 l3 l4 l6 : Int} (K : K7 h) (hc : 0 ≤ h 2 3 ∧ h 2 3 ≤ 3000) (hl : 0 ≤ l3 ∧ l3 ≤ l6 ∧ l6 ≤ l2 ∧ l2 ≤ 3000) : Pc (qj_X9_scanNumber_52 nn l2 l3 l4 l6 h) (RTw l3 l2 h) := by
  unfold qj_X9_scanNumber_52
  have Z : Pc (qj_X9_scanNumber_72 nn l2 l3 l4 l6 h) (RTw l3 l2 h) := by
    unfold qj_X9_scanNumber_72; exact rtw_73 K hc hl
  refine pc_rA ?_; intro i1 i2 v13 e13
  refine pc_if (fun _ => Z) (fun _ => ?_)
  refine pc_xl ?_; intro v14 e14
  exact pc_if (fun _ => Z) (fun _ => rtw_73 K hc hl)
theorem rtw_6 {l2 l3 : Int} (K : K7 h) (hc : 0 ≤ h 2 3 ∧ h 2 3 ≤ 3000) (hl : 0 ≤ l3 ∧ l2 ≤ 3000) : ∀ (k : Nat) (l4 l6 : Int), l3 ≤ l6 ∧ l6 ≤ l2 → Pc (qw_X9_scanNumber_6 nn k l2 l3 l4 l6 h) (RTw l3 l2 h) := by
  intro k
  induction k with
  | zero => intro l4 l6 _; exact pc_none
  | succ k ih =>
    intro l4 l6 h6
    unfold qw_X9_scanNumber_6
    refine pc_if (fun _ => rtw_52 K hc (by omega)) (fun c => ?_)
    refine pc_rA ?_; intro i1 i2 v17 e17
    refine pc_se ?_; intro u18 e18
    refine pc_if (fun _ => rtw_52 K hc (by omega)) (fun _ => ?_)
    refine pc_c6 (fun v19 => ?_)
    refine pc_rA ?_; intro j1 j2 v20 e20
    refine pc_xl ?_; intro v21 e21
    refine pc_c6 (fun v22 => ?_)
    refine pc_c6 (fun v23 => ?_)
    refine pc_xl ?_; intro v24 e24
    refine pc_add (by omega) ?_; intro v25 e25
    exact ih v24 v25 (by omega)
theorem rtw_sl {a : Int} : Pc (qf_X9_signLength nn a h) (fun u => 0 ≤ u ∧ u ≤ 3 ∧ (a = 0 → u = 0)) := by
  have Z : ¬ a = 0 → Pc (qj_X9_signLength_96 nn h) (fun u => 0 ≤ u ∧ u ≤ 3 ∧ (a = 0 → u = 0)) := fun q => by
    unfold qj_X9_signLength_96; exact pc_ret ⟨by decide, by decide, fun z => absurd z q⟩
  unfold qf_X9_signLength
  refine pc_if (fun _ => pc_ret ⟨by decide, by decide, fun _ => rfl⟩) (fun q => ?_)
  refine pc_if (fun _ => Z q) (fun _ => pc_if (fun _ => Z q) (fun _ => pc_if (fun _ => Z q) (fun _ => pc_if (fun _ => Z q) (fun _ => pc_if (fun _ => Z q) (fun _ => pc_if (fun _ => Z q) (fun _ => pc_if (fun _ => ?_) (fun _ => pc_if (fun _ => Z q) (fun _ => pc_if (fun _ => Z q) (fun _ => ?_)))))))))
  · exact pc_ret ⟨by decide, by decide, fun z => absurd z q⟩
  · exact pc_ret ⟨by decide, by decide, fun z => absurd z q⟩
theorem rtw_110 {l3 s0 z : Int} (K : K7 h) (hc : 0 ≤ h 2 3 ∧ h 2 3 ≤ 3000) (hl : l3 ≤ z) (hs : ¬ s0 = 13 ∧ ¬ s0 = 2) : Pc (qj_X9_scanToken_110 nn l3 s0 h) (RTw l3 z h) := by
  unfold qj_X9_scanToken_110
  refine pc_if (fun c => ?_) (fun c => ?_)
  · refine pc_sv rtw_sl ?_; intro u1 q1
    exact pc_ret ⟨K, .inl ⟨q1.2.2 c, rfl, fun _ => ⟨rfl, rfl⟩⟩⟩
  · refine pc_se ?_; intro u3 e3
    refine pc_sv rtw_sl ?_; intro u4 q4
    refine pc_ret ⟨k7_addToken e3 K, .inr ⟨q4.1, ?_, s0, ap_addToken hc _ e3, ?_, ?_⟩⟩
    · show u4 ≤ 3000; omega
    · rw [wk_o hs.1 hs.2]; exact q4.1
    · rw [wk_o hs.1 hs.2]; omega
theorem sg_plain {a : Int} : Pc (qf_X9_plainSignOf nn a h) (fun u => u = 0 ∨ 40 ≤ u) := by
  have R : ∀ v : Int, 40 ≤ v → Pc (some v) (fun u : Int => u = 0 ∨ 40 ≤ u) := fun v q => pc_ret (.inr q)
  unfold qf_X9_plainSignOf
  iterate 18 refine pc_if (fun _ => R _ (by decide)) (fun _ => ?_)
  exact pc_ret (.inl rfl)
theorem sg_sign {a b : Int} : Pc (qf_X9_signOf nn a b h) (fun u => u = 0 ∨ 40 ≤ u) := by
  have R : ∀ v : Int, 40 ≤ v → Pc (some v) (fun u : Int => u = 0 ∨ 40 ≤ u) := fun v q => pc_ret (.inr q)
  unfold qf_X9_signOf
  refine pc_if (fun _ => pc_if (fun _ => R _ (by decide)) (fun _ => R _ (by decide))) (fun _ => ?_)
  refine pc_if (fun _ => pc_if (fun _ => R _ (by decide)) (fun _ => R _ (by decide))) (fun _ => ?_)
  refine pc_if (fun _ => pc_if (fun _ => pc_if (fun _ => R _ (by decide)) (fun _ => R _ (by decide))) (fun _ => R _ (by decide))) (fun _ => ?_)
  refine pc_if (fun _ => pc_if (fun _ => R _ (by decide)) (fun _ => R _ (by decide))) (fun _ => ?_)
  refine pc_if (fun _ => pc_if (fun _ => pc_if (fun _ => R _ (by decide)) (fun _ => R _ (by decide))) (fun _ => R _ (by decide))) (fun _ => ?_)
  refine pc_if (fun _ => pc_if (fun _ => R _ (by decide)) (fun _ => R _ (by decide))) (fun _ => ?_)
  refine pc_sv sg_plain ?_; intro u1 q1
  exact pc_ret q1
theorem rtw_103 {l3 l4 l5 z : Int} (K : K7 h) (hc : 0 ≤ h 2 3 ∧ h 2 3 ≤ 3000) (hl : l3 ≤ z) : Pc (qj_X9_scanToken_103 nn l3 l4 l5 h) (RTw l3 z h) := by
  unfold qj_X9_scanToken_103
  refine pc_sv sg_sign ?_; intro u6 q6
  exact rtw_110 K hc hl ⟨by omega, by omega⟩
theorem rtw_84 {l3 l4 l5 s0 z : Int} (K : K7 h) (hc : 0 ≤ h 2 3 ∧ h 2 3 ≤ 3000) (hl : l3 ≤ z) : Pc (qj_X9_scanToken_84 nn l3 l4 l5 s0 h) (RTw l3 z h) := by
  unfold qj_X9_scanToken_84
  exact pc_if (fun _ => rtw_103 K hc hl) (fun _ => pc_if (fun _ => rtw_103 K hc hl) (fun _ => rtw_110 K hc hl ⟨by decide, by decide⟩))
theorem rtw_53 {l2 l3 l4 s0 z : Int} (K : K7 h) (hc : 0 ≤ h 2 3 ∧ h 2 3 ≤ 3000) (hl : l3 ≤ z) : Pc (qj_X9_scanToken_53 nn l2 l3 l4 s0 h) (RTw l3 z h) := by
  have Z : Pc (qj_X9_scanToken_83 nn l3 l4 s0 h) (RTw l3 z h) := by
    unfold qj_X9_scanToken_83; exact rtw_84 K hc hl
  unfold qj_X9_scanToken_53
  refine pc_if (fun _ => Z) (fun _ => ?_)
  refine pc_xl ?_; intro v9 e9
  refine pc_if (fun _ => Z) (fun _ => ?_)
  refine pc_xl ?_; intro v10 e10
  refine pc_rA ?_; intro i1 i2 v11 e11
  exact pc_if (fun _ => Z) (fun _ => rtw_84 K hc hl)
theorem rtw_token {a2 a3 : Int} (K : K7 h) (hc : 0 ≤ h 2 3 ∧ h 2 3 ≤ 3000) (hl : 0 ≤ a3 ∧ a3 < a2 ∧ a2 ≤ 3000) : Pc (qf_X9_scanToken nn a2 a3 h) (RTw a3 a2 h) := by
  unfold qf_X9_scanToken
  refine pc_rA ?_; intro i1 i2 v15 e15
  refine pc_se ?_; intro u16 e16
  refine pc_if (fun _ => ?_) (fun c => ?_)
  · refine pc_se ?_; intro u17 e17
    refine pc_if (fun _ => ?_) (fun _ => ?_)
    · refine pc_xl ?_; intro v18 e18
      refine pc_if (fun _ => rtw_53 K hc (by omega)) (fun _ => ?_)
      refine pc_xl ?_; intro v19 e19
      refine pc_rA ?_; intro j1 j2 v20 e20
      exact rtw_53 K hc (by omega)
    · refine pc_sv (P := RTw a3 a2 h) ?_ ?_
      · unfold qf_X9_scanNumber
        exact rtw_6 K hc (by omega) _ _ _ (by omega)
      · intro u23 q23
        exact pc_ret q23
  · rw [e15] at e16
    refine pc_sv (rtw_word K hc hl e16 c) ?_; intro u26 q26
    exact pc_ret q26
theorem bb_45 {qk : Int → Int → Int → ms_M → Option Int} {l1 l3 l4 l5 : Int} (hl : 0 ≤ l3 ∧ l3 < l1 ∧ l1 ≤ 3000) (hk : ∀ a b : Int, a = l3 + 1 → Pc (qk l1 a b h) (fun u => l3 ≤ u)) : Pc (qj_X9_behindBlanks_45 nn qk l1 l3 l4 l5 h) (fun u => l3 ≤ u) := by
  unfold qj_X9_behindBlanks_45
  refine pc_if (fun _ => pc_if (fun _ => ?_) (fun _ => pc_if (fun _ => ?_) (fun _ => pc_ret ?_))) (fun _ => ?_)
  · refine pc_add (by omega) ?_; intro v1 e1
    exact hk _ _ e1
  · refine pc_add (by omega) ?_; intro v1 e1
    exact hk _ _ e1
  · exact Int.le_refl _
  · refine pc_add (by omega) ?_; intro v1 e1
    exact hk _ _ e1
theorem bb_5 {l1 : Int} (hl : l1 ≤ 3000) : ∀ (k : Nat) (l3 l4 : Int), 0 ≤ l3 → Pc (qw_X9_behindBlanks_5 nn k l1 l3 l4 h) (fun u => l3 ≤ u) := by
  intro k
  induction k with
  | zero => intro l3 l4 _; exact pc_none
  | succ k ih =>
    intro l3 l4 h3
    have H : ∀ a b : Int, a = l3 + 1 → Pc (qw_X9_behindBlanks_5 nn k l1 a b h) (fun u => l3 ≤ u) := fun a b e => pc_imp (ih a b (by omega)) (fun u q => by omega)
    unfold qw_X9_behindBlanks_5
    refine pc_if (fun _ => pc_ret (Int.le_refl _)) (fun c => ?_)
    refine pc_rA ?_; intro i1 i2 v7 e7
    refine pc_if (fun _ => bb_45 (by omega) H) (fun _ => ?_)
    refine pc_xl ?_; intro v8 e8
    refine pc_if (fun _ => bb_45 (by omega) H) (fun _ => ?_)
    refine pc_xl ?_; intro v9 e9
    refine pc_rA ?_; intro j1 j2 v10 e10
    refine pc_if (fun _ => bb_45 (by omega) H) (fun _ => ?_)
    refine pc_add (by omega) ?_; intro v11 e11
    exact H v11 1 e11
/-- what scan leaves: tokens in their order, within the text -/
def TOw (z : Int) (h : ms_M) : Prop := K7 h ∧ TPt h ∧ TQt h z
theorem to_102 {z : Int} (K : K7 h) (hc : 0 ≤ h 2 3 ∧ h 2 3 ≤ 3000) (P : TPt h) (Q : TQt h z) : Pc (qj_X9_scan_102 nn z h) (TOw z) := by
  unfold qj_X9_scan_102
  refine pc_se ?_; intro u2 e2
  have A := ap_addToken (nn := nn) (k := 0) (p := z) (v := 0) hc _ e2
  exact pc_ret ⟨k7_addToken e2 K, ap_tp A P Q, ap_tq A Q (Int.le_refl _) (by rw [wk_o (by decide) (by decide)]; omega)⟩
theorem to_51 {z : Int} (hz : z ≤ 3000) : ∀ (k : Nat) (a n : Int) (h : ms_M), K7 h → (0 ≤ h 2 3 ∧ h 2 3 ≤ n) → n ≤ 3000 → 0 ≤ a → TPt h → TQt h a → TQt h z → Pc (qw_X9_scan_51 nn k z a n h) (TOw z) := by
  intro k
  induction k with
  | zero => intros; exact pc_none
  | succ k ih =>
    intro a n h K hc hn ha P Q Qz
    unfold qw_X9_scan_51
    refine pc_if (fun _ => to_102 K (by omega) P Qz) (fun c1 => ?_)
    refine pc_if (fun _ => to_102 K (by omega) P Qz) (fun c2 => ?_)
    refine pc_sv (rtw_token K (by omega) (by omega)) ?_; intro u4 q4
    obtain ⟨K4, q4⟩ := q4
    refine pc_if (fun c3 => ?_) (fun c3 => ?_)
    · rcases q4 with ⟨b, -⟩ | ⟨b1, b2, kd, A, b3, b4⟩
      · exact absurd b c3
      · refine pc_add (by omega) ?_; intro v5 e5
        refine pc_sv (P := fun u => v5 ≤ u) ?_ ?_
        · unfold qf_X9_behindBlanks; exact bb_5 hz _ _ _ (by omega)
        · intro u6 q6
          refine pc_add (by omega) ?_; intro v7 e7
          have P4 := ap_tp A P Q
          have c4 := A.2.1
          exact ih u6 v7 u4.2 K4 (by omega) (by omega) (by omega) P4 (ap_tq A Q (by omega) (by omega)) (ap_tq A Qz (Int.le_refl _) b4)
    · refine pc_se ?_; intro u9 e9
      have z1 := c1
      rcases q4 with ⟨b, b2, b3⟩ | ⟨b1, b2, kd, A, b3, b4⟩
      · have hc4 : 0 ≤ u4.2 2 3 ∧ u4.2 2 3 ≤ 3000 := by omega
        have A := ap_addToken (nn := nn) (k := 1) (p := a) (v := 0) hc4 _ e9
        have A := ap_k A b2 b3
        exact pc_ret ⟨k7_addToken e9 K4, ap_tp A P Q, ap_tq A Qz (Int.le_refl _) (by rw [wk_o (by decide) (by decide)]; omega)⟩
      · have c4 := A.2.1
        have w0 := wk_0 (k := kd)
        have hc4 : 0 ≤ u4.2 2 3 ∧ u4.2 2 3 ≤ 3000 := by omega
        have B := ap_addToken (nn := nn) (k := 1) (p := a) (v := 0) hc4 _ e9
        have zz : u4.1 = 0 := Decidable.byContradiction c3
        have P4 := ap_tp A P Q
        exact pc_ret ⟨k7_addToken e9 K4, ap_tp B P4 (ap_tq A Q (Int.le_refl _) (by omega)), ap_tq B (ap_tq A Qz (Int.le_refl _) b4) (Int.le_refl _) (by rw [wk_o (by decide) (by decide)]; omega)⟩
theorem to_scan {z : Int} (hz : 0 ≤ z ∧ z ≤ 3000) (k7 : h 7 12 = 91 ∧ h 7 13 = 96) : Pc (qf_X9_scan nn z h) (TOw z) := by
  unfold qf_X9_scan
  refine pc_xl ?_; intro h13 e13
  refine pc_cpS ?_; intro h16 e16
  refine pc_xl ?_; intro h17 e17
  refine pc_xl ?_; intro h18 e18
  refine pc_xl ?_; intro h19 e19
  refine pc_xl ?_; intro h20 e20
  have c3 : h20 2 3 = 0 := by rw [e20, up_n (by omega), e19, up_n (by omega), e18, up_n (by omega), e17, up_s]
  have K : K7 h20 := by
    refine ⟨?_, ?_, ?_⟩
    · rw [e20, up_n (by omega), e19, up_n (by omega), e18, up_n (by omega), e17, up_n (by omega), e16, cp_ne (by omega), e13, up_s]
      decide
    · rw [e20, up_n (by omega), e19, up_n (by omega), e18, up_n (by omega), e17, up_n (by omega), e16, cp_ne (by omega), e13, up_n (by omega)]
      exact k7.1
    · rw [e20, up_n (by omega), e19, up_n (by omega), e18, up_n (by omega), e17, up_n (by omega), e16, cp_ne (by omega), e13, up_n (by omega)]
      exact k7.2
  refine pc_sv (P := fun u => 0 ≤ u) ?_ ?_
  · unfold qf_X9_behindBlanks; exact bb_5 hz.2 _ _ _ (by omega)
  · intro u21 q21
    exact to_51 hz.2 _ _ _ _ K (by omega) (by omega) q21 (fun i hi => by omega) (fun i hi => by omega) (fun i hi => by omega)
end
end
section
section
variable {nn : Nat} {h g r : ms_M}
/-- a step of the reader that makes no class -/
def MRk (h r : ms_M) : Prop := r 2 3 = h 2 3 ∧ (∀ i : Nat, r 3 i = h 3 i ∧ r 4 i = h 4 i) ∧ r 11 2 = h 11 2 ∧ h 2 10 ≤ r 2 10 ∧ (h 2 11 = 0 ∨ ¬ r 2 11 = 0)
theorem mr_rfl : MRk h h := ⟨rfl, fun _ => ⟨rfl, rfl⟩, rfl, Int.le_refl _, by omega⟩
theorem mr_tr (A : MRk h g) (B : MRk g r) : MRk h r := by
  obtain ⟨a1, a2, a3, a4, a5⟩ := A
  obtain ⟨b1, b2, b3, b4, b5⟩ := B
  refine ⟨by omega, fun i => ?_, by omega, by omega, by omega⟩
  rw [(b2 i).1, (b2 i).2]; exact a2 i
theorem mr_need (hn : 1000000 ≤ nn) {a : Int} (ha : 2 ≤ a ∧ a ≤ 51) (V : VS_ h) (e : qf_X8_need nn a h = some r) : MRk h r ∧ VS_ r := by
  have q := okof (vf_X8_need hn ha.1 ha.2 V) e
  obtain ⟨q1, q2, q3⟩ := q
  have f : r 11 2 = h 11 2 := (ff_X8_need nn) _ e 11 2 rfl
  exact ⟨⟨q2, fun i => ⟨(ff_X8_need nn) _ e 3 i (nw_ar rfl i), (ff_X8_need nn) _ e 4 i (nw_ar rfl i)⟩, f, by omega, by omega⟩, q1⟩
theorem mr_accept (hn : 1000000 ≤ nn) {a : Int} (ha : 10 ≤ a ∧ a ≤ 51) (V : VS_ h) {u : Int × ms_M} (e : qf_X8_accept nn a h = some u) : MRk h u.2 ∧ VS_ u.2 := by
  have q := okof (vf_X8_accept hn ha.1 ha.2 V) e
  obtain ⟨q1, q2, q3, q4, q5, q6⟩ := q
  have f : u.2 11 2 = h 11 2 := (ff_X8_accept nn) _ e 11 2 rfl
  exact ⟨⟨q4, fun i => ⟨(ff_X8_accept nn) _ e 3 i (nw_ar rfl i), (ff_X8_accept nn) _ e 4 i (nw_ar rfl i)⟩, f, by omega, by omega⟩, q1⟩
theorem mr_member (hn : 1000000 ≤ nn) (V : VS_ h) (e : qf_X8_readMember nn h = some r) : MRk h r ∧ VS_ r := by
  have q := okof (vf_X8_readMember hn V) e
  obtain ⟨q1, q2, q3, q4, q5, q6⟩ := q
  have f : r 11 2 = h 11 2 := (ff_X8_readMember nn) _ e 11 2 rfl
  exact ⟨⟨q2, fun i => ⟨(ff_X8_readMember nn) _ e 3 i (nw_ar rfl i), (ff_X8_readMember nn) _ e 4 i (nw_ar rfl i)⟩, f, q3, q4⟩, q1⟩
theorem mr_86 (hn : 1000000 ≤ nn) (V : VS_ h) : Pc (qj_X8_readClass_86 nn h) (fun r => MRk h r ∧ VS_ r) := by
  unfold qj_X8_readClass_86
  refine pc_se ?_; intro u2 e2
  exact pc_ret (mr_need hn (by omega) V e2)
theorem mr_47 (hn : 1000000 ≤ nn) : ∀ (k : Nat) (l1 : Int) (h : ms_M), VS_ h → Pc (qw_X8_readClass_47 nn k l1 h) (fun r => MRk h r ∧ VS_ r) := by
  intro k
  induction k with
  | zero => intros; exact pc_none
  | succ k ih =>
    intro l1 h V
    unfold qw_X8_readClass_47
    refine pc_if (fun _ => mr_86 hn V) (fun _ => ?_)
    refine pc_if (fun _ => mr_86 hn V) (fun _ => ?_)
    refine pc_se ?_; intro u7 e7
    refine pc_if (fun _ => mr_86 hn V) (fun _ => ?_)
    refine pc_se ?_; intro u9 e9
    obtain ⟨m9, V9⟩ := mr_member hn V e9
    refine pc_xl ?_; intro v10 e10
    exact pc_imp (ih v10 u9 V9) (fun r q => ⟨mr_tr m9 q.1, q.2⟩)
theorem mr_39 (hn : 1000000 ≤ nn) (V : VS_ h) : Pc (qj_X8_readClass_39 nn h) (fun r => MRk h r ∧ VS_ r) := by
  unfold qj_X8_readClass_39
  refine pc_se ?_; intro u15 e15
  obtain ⟨m, V15⟩ := mr_need hn (by omega) V e15
  exact pc_imp (mr_47 hn _ _ _ V15) (fun r q => ⟨mr_tr m q.1, q.2⟩)
theorem rm_need (hn : 1000000 ≤ nn) {a : Int} (ha : 2 ≤ a ∧ a ≤ 51) (V : VS_ h) (N : EI_ h) (L : h 2 10 < h 2 3) (e : qf_X8_need nn a h = some r) : ¬ r 2 11 = 0 ∨ (h 2 11 = 0 ∧ h 3 (h 2 10).toNat = a ∧ r 2 10 = h 2 10 + 1 ∧ r 2 10 < r 2 3) := by
  have g := gF_2_10 V
  have q := okof (vf_X8_need hn ha.1 ha.2 V) e
  obtain ⟨q1, q2, q3⟩ := q
  have l := lm_X8_need N (by omega) e
  by_cases z : r 2 11 = 0
  · right
    have z1 : h 2 11 = 0 ∧ r 2 10 = h 2 10 + 1 := by omega
    refine ⟨z1.1, ?_, z1.2, by omega⟩
    clear q3 l
    unfold qf_X8_need at e
    obtain ⟨b, e1, e2⟩ := sv_i e
    by_cases w : b = a
    · unfold qf_X9_kind at e1
      rw [if_neg (by omega), if_neg (by omega), if_neg (by omega)] at e1
      replace e1 := rd_i e1
      have e1 := Option.some.inj e1
      omega
    · rw [if_pos w] at e2
      obtain ⟨c, e3, e4⟩ := sv_i e2
      cases e4
      have y : r 2 10 = h 2 10 := (ff_X9_tellHere nn) _ e3 2 10 rfl
      omega
  · exact .inl z
/-- six bytes a class: as far as the reader has come, and in all -/
def IRk (z : Int) (h : ms_M) : Prop := (¬ h 2 11 = 0 ∨ 6 * h 11 2 ≤ z) ∧ (¬ h 2 11 = 0 ∨ h 2 3 ≤ h 2 10 ∨ 6 * h 11 2 ≤ h 4 (h 2 10).toNat)
/-- the tokens' order -/
def TRk (z : Int) (h : ms_M) : Prop := EI_ h ∧ TPt h ∧ TQt h z
theorem tr_mono (P : TPt h) : ∀ (d i : Nat), (i : Int) + d < h 2 3 → h 4 i ≤ h 4 (i + d) := by
  intro d
  induction d with
  | zero => intro i _; exact Int.le_refl _
  | succ d ih =>
    intro i hi
    have a := ih i (by omega)
    have b := P (i + d) (by omega)
    have w := wk_0 (k := h 3 (i + d))
    have e : i + (d + 1) = i + d + 1 := by omega
    rw [e]; omega
theorem tr_keep {z : Int} (c : r 2 3 = h 2 3) (s : ∀ i : Nat, r 3 i = h 3 i ∧ r 4 i = h 4 i) (T : TRk z h) : TRk z r := by
  obtain ⟨t1, t2, t3⟩ := T
  refine ⟨ei_eq t1 (fun k => (s k).1) c, fun i hi => ?_, fun i hi => ?_⟩
  · rw [(s i).1, (s i).2, (s (i + 1)).2]; exact t2 i (by omega)
  · rw [(s i).1, (s i).2]; exact t3 i (by omega)
theorem ir_keep {z : Int} (T : TRk z h) (g0 : 0 ≤ h 2 10) (A : MRk h r) (I : IRk z h) : IRk z r := by
  obtain ⟨a1, a2, a3, a4, a5⟩ := A
  obtain ⟨i1, i2⟩ := I
  refine ⟨by omega, ?_⟩
  by_cases q : r 2 11 = 0
  · right
    by_cases w : h 2 3 ≤ r 2 10
    · left; omega
    · right
      have m := tr_mono T.2.1 (r 2 10 - h 2 10).toNat (h 2 10).toNat (by omega)
      have e : (h 2 10).toNat + (r 2 10 - h 2 10).toNat = (r 2 10).toNat := by omega
      rw [e] at m
      rw [(a2 _).2]
      omega
  · exact .inl q
theorem rm_class (hn : 1000000 ≤ nn) {z : Int} (V : VS_ h) (T : TRk z h) (L : h 2 10 < h 2 3) (F : h 2 11 = 0) (I : IRk z h) : Pc (qf_X8_readClass nn h) (fun r => VS_ r ∧ TRk z r ∧ IRk z r) := by
  have g0 := gF_2_10 V
  unfold qf_X8_readClass
  refine pc_se ?_; intro u17 e17
  obtain ⟨m17, V17⟩ := mr_need hn (by omega) V e17
  have n17 := rm_need hn (by omega) V T.1 L e17
  have T17 := tr_keep m17.1 m17.2.1 T
  have g17 := gF_2_10 V17
  refine pc_se ?_; intro u22 e22
  have gh := gF_2_3 V
  have b17 : u17 2 10 ≤ h 2 10 + 1 := by
    have q := okof (vf_X8_need hn (a1 := 13) (by omega) (by omega) V) e17
    obtain ⟨-, q2, q3⟩ := q
    omega
  have q22 := okof (vf_X2_addClass hn (a1 := u17 2 10) (by omega) (by omega) V17) e22
  obtain ⟨V22, c22⟩ := q22
  have p22 : u22 2 10 = u17 2 10 := (ff_X2_addClass nn) _ e22 2 10 rfl
  have f22 : u22 2 11 = u17 2 11 := (ff_X2_addClass nn) _ e22 2 11 rfl
  have k22 : u22 2 3 = u17 2 3 := (ff_X2_addClass nn) _ e22 2 3 rfl
  have s22 : ∀ i : Nat, u22 3 i = u17 3 i ∧ u22 4 i = u17 4 i := fun i => ⟨(ff_X2_addClass nn) _ e22 3 i (nw_ar rfl i), (ff_X2_addClass nn) _ e22 4 i (nw_ar rfl i)⟩
  have T22 := tr_keep k22 s22 T17
  refine pc_se ?_; intro u24 e24
  obtain ⟨m24, V24⟩ := mr_need hn (by omega) V22 e24
  have T24 := tr_keep m24.1 m24.2.1 T22
  have g22 := gF_2_10 V22
  have I24 : IRk z u24 := by
    by_cases w : u24 2 11 = 0
    · have w22 : u22 2 11 = 0 := by have := m24.2.2.2.2; omega
      have w17 : u17 2 11 = 0 := by omega
      obtain ⟨y1, y2, y3, y4⟩ : h 2 11 = 0 ∧ h 3 (h 2 10).toNat = 13 ∧ u17 2 10 = h 2 10 + 1 ∧ u17 2 10 < u17 2 3 := by
        rcases n17 with q | q
        · exact absurd w17 q
        · exact q
      have n24 := rm_need hn (by omega) V22 T22.1 (by omega) e24
      obtain ⟨x1, x2, x3, x4⟩ : u22 2 11 = 0 ∧ u22 3 (u22 2 10).toNat = 2 ∧ u24 2 10 = u22 2 10 + 1 ∧ u24 2 10 < u24 2 3 := by
        rcases n24 with q | q
        · exact absurd w q
        · exact q
      have k17 := m17.1
      have k24 := m24.1
      have c17 := m17.2.2.1
      have c24 := m24.2.2.1
      have b0 : 6 * h 11 2 ≤ h 4 (h 2 10).toNat := by have := I.2; omega
      have b1 := T.2.1 (h 2 10).toNat (by omega)
      rw [y2, wk_13] at b1
      have b2 := T.2.1 ((h 2 10).toNat + 1) (by omega)
      have e2 : u22 3 (u22 2 10).toNat = h 3 ((h 2 10).toNat + 1) := by
        rw [(s22 _).1, (m17.2.1 _).1]
        have : (u22 2 10).toNat = (h 2 10).toNat + 1 := by omega
        rw [this]
      rw [← e2, x2, wk_2] at b2
      have e4 : u24 4 (u24 2 10).toNat = h 4 ((h 2 10).toNat + 1 + 1) := by
        rw [(m24.2.1 _).2, (s22 _).2, (m17.2.1 _).2]
        have : (u24 2 10).toNat = (h 2 10).toNat + 1 + 1 := by omega
        rw [this]
      have b3 := T24.2.2 (u24 2 10).toNat (by omega)
      have w0 := wk_0 (k := u24 3 (u24 2 10).toNat)
      have b4 : 6 * u24 11 2 ≤ u24 4 (u24 2 10).toNat := by rw [e4]; omega
      exact ⟨.inr (by omega), .inr (.inr b4)⟩
    · exact ⟨.inl w, .inl w⟩
  refine pc_se ?_; intro u26 e26
  obtain ⟨m26, V26⟩ := mr_accept hn (by omega) V24 e26
  have g24 := gF_2_10 V24
  have g26 := gF_2_10 V26
  have T26 := tr_keep m26.1 m26.2.1 T24
  have I26 := ir_keep T24 g24.1 m26 I24
  refine pc_if (fun _ => ?_) (fun _ => ?_)
  · refine pc_imp (mr_39 hn V26) (fun r q => ⟨q.2, tr_keep q.1.1 q.1.2.1 T26, ir_keep T26 g26.1 q.1 I26⟩)
  · refine pc_se ?_; intro u28 e28
    obtain ⟨m28, V28⟩ := mr_need hn (by omega) V26 e28
    have g28 := gF_2_10 V28
    have T28 := tr_keep m28.1 m28.2.1 T26
    have I28 := ir_keep T26 g26.1 m28 I26
    exact pc_imp (mr_39 hn V28) (fun r q => ⟨q.2, tr_keep q.1.1 q.1.2.1 T28, ir_keep T28 g28.1 q.1 I28⟩)
theorem rm_33 (hn : 1000000 ≤ nn) {z : Int} {qk : Int → ms_M → Option ms_M} {l1 : Int} (hk : ∀ (v : Int) (g : ms_M), v = l1 + 1 → VS_ g → TRk z g → IRk z g → Pc (qk v g) (IRk z)) (hl : 0 ≤ l1 ∧ l1 ≤ 3000) (V : VS_ h) (T : TRk z h) (L : h 2 10 < h 2 3) (F : h 2 11 = 0) (I : IRk z h) : Pc (qj_X8_readProgram_33 nn qk l1 h) (IRk z) := by
  unfold qj_X8_readProgram_33
  refine pc_sv (rm_class hn V T L F I) ?_; intro u2 q2
  refine pc_add (by omega) ?_; intro v3 e3
  exact hk v3 u2 e3 q2.1 q2.2.1 q2.2.2
theorem rm_prog (hn : 1000000 ≤ nn) {z : Int} : ∀ (k : Nat) (l1 : Int) (h : ms_M), (0 ≤ l1 ∧ l1 ≤ 3000) → (¬ l1 = 0 ∨ h 2 10 < h 2 3) → VS_ h → TRk z h → IRk z h → Pc (qw_X8_readProgram_2 nn k l1 h) (IRk z) := by
  intro k
  induction k with
  | zero => intros; exact pc_none
  | succ k ih =>
    intro l1 h hl h0 V T I
    have g0 := gF_2_10 V
    unfold qw_X8_readProgram_2
    refine pc_if (fun _ => pc_ret I) (fun c1 => ?_)
    refine pc_if (fun _ => pc_ret I) (fun c2 => ?_)
    have F : h 2 11 = 0 := by omega
    have H : ∀ (v : Int) (g : ms_M), v = l1 + 1 → VS_ g → TRk z g → IRk z g → Pc (qw_X8_readProgram_2 nn k v g) (IRk z) := fun v g e Vg Tg Ig => ih v g (by omega) (by omega) Vg Tg Ig
    refine pc_if (fun c3 => rm_33 hn H hl V T (by omega) F I) (fun c3 => ?_)
    refine pc_se ?_; intro u8 e8
    refine pc_if (fun _ => pc_ret I) (fun c4 => ?_)
    have L : h 2 10 < h 2 3 := by
      by_cases w : h 2 3 ≤ h 2 10
      · unfold qf_X9_kind at e8
        rw [if_neg (by omega), if_neg (by omega), if_pos w] at e8
        cases e8; exact absurd rfl c4
      · omega
    exact rm_33 hn H hl V T L F I
/-- compile's memory behind the reader: the word 'class' stays -/
def KCl (h : ms_M) : Prop := h 7 12 = 91 ∧ h 7 13 = 96
theorem k7_eq (K : K7 h) (a : r 2 9 = h 2 9) (b : r 7 12 = h 7 12) (c : r 7 13 = h 7 13) : K7 r := by
  unfold K7; rw [a, b, c]; exact K
theorem k7_addKind {l : Int} (e : qf_X2_addKind nn l h = some r) (K : K7 h) : K7 r :=
  k7_eq K ((ff_X2_addKind nn) _ e 2 9 rfl) ((ff_X2_addKind nn) _ e 7 12 (nw_ar rfl _)) ((ff_X2_addKind nn) _ e 7 13 (nw_ar rfl _))
theorem k7_addByte {l : Int} (e : qf_X2_addKindByte nn l h = some r) (K : K7 h) : K7 r :=
  k7_eq K ((ff_X2_addKindByte nn) _ e 2 9 rfl) ((ff_X2_addKindByte nn) _ e 7 12 (nw_ar rfl _)) ((ff_X2_addKindByte nn) _ e 7 13 (nw_ar rfl _))
theorem k7_up {c k : Nat} {v : Int} (hc : c ≠ 2 ∧ c ≠ 7) (K : K7 h) : K7 (up_M h c k v) :=
  k7_eq K (up_n (by omega)) (up_n (by omega)) (up_n (by omega))
theorem k7_nameKind {l : Int} (K : K7 h) : Pc (qf_X2_nameKind nn l h) (fun u => K7 u.2) := by
  unfold qf_X2_nameKind
  refine pc_xl ?_; intro h1 e1
  refine pc_se ?_; intro u3 e3
  refine pc_sv (k7_nameOf (k7_addKind e3 (by rw [e1]; exact k7_up (by decide) K))) ?_; intro u8 q8
  exact pc_ret q8.1
theorem k7_M13 : ∀ (k : Nat) (l1 l2 : Int) (h : ms_M), K7 h → Pc (qw_X2_nameMethodKind_13 nn k l1 l2 h) (fun u => K7 u.2) := by
  intro k
  induction k with
  | zero => intros; exact pc_none
  | succ k ih =>
    intro l1 l2 h K
    unfold qw_X2_nameMethodKind_13
    refine pc_rA ?_; intro i1 i2 v2 e2
    refine pc_if (fun _ => ?_) (fun _ => ?_)
    · refine pc_se ?_; intro u4 e4
      refine pc_rA ?_; intro j1 j2 v6 e6
      refine pc_se ?_; intro u8 e8
      refine pc_sv (k7_nameOf (k7_addKind e8 (k7_addByte e4 K))) ?_; intro u13 q13
      exact pc_ret q13.1
    · refine pc_se ?_; intro u15 e15
      refine pc_se ?_; intro u17 e17
      refine pc_xl ?_; intro v18 e18
      exact ih _ _ _ (k7_addKind e17 K)
theorem k7_nameMethodKind {l : Int} (K : K7 h) : Pc (qf_X2_nameMethodKind nn l h) (fun u => K7 u.2) := by
  unfold qf_X2_nameMethodKind
  refine pc_xl ?_; intro h1 e1
  refine pc_se ?_; intro u3 e3
  exact k7_M13 _ _ _ _ (k7_addByte e3 (by rw [e1]; exact k7_up (by decide) K))
theorem k7_144 : ∀ (k : Nat) (l1 : Int) (h : ms_M), K7 h → Pc (qw_X2_nameKinds_144 nn k l1 h) K7 := by
  intro k
  induction k with
  | zero => intros; exact pc_none
  | succ k ih =>
    intro l1 h K
    unfold qw_X2_nameKinds_144
    refine pc_if (fun _ => pc_ret K) (fun _ => pc_if (fun _ => pc_ret K) (fun _ => ?_))
    refine pc_se ?_; intro u6 e6
    refine pc_if (fun _ => ?_) (fun _ => ?_)
    · refine pc_xl ?_; intro v7 e7
      exact ih _ _ K
    · refine pc_sv (k7_nameMethodKind K) ?_; intro u10 q10
      refine pc_wA ?_; intro i1 i2 h11 e11
      refine pc_xl ?_; intro v12 e12
      exact ih _ _ (by rw [e11]; exact k7_up (by decide) q10)
theorem k7_85 : ∀ (k : Nat) (l1 : Int) (h : ms_M), K7 h → Pc (qw_X2_nameKinds_85 nn k l1 h) K7 := by
  intro k
  induction k with
  | zero => intros; exact pc_none
  | succ k ih =>
    intro l1 h K
    unfold qw_X2_nameKinds_85
    refine pc_if (fun _ => k7_144 _ _ _ K) (fun _ => pc_if (fun _ => k7_144 _ _ _ K) (fun _ => ?_))
    refine pc_xl ?_; intro v20 e20
    refine pc_xl ?_; intro v22 e22
    refine pc_rA ?_; intro i1 i2 v23 e23
    refine pc_if (fun _ => ?_) (fun _ => ?_)
    · refine pc_xl ?_; intro v24 e24
      exact ih _ _ K
    · refine pc_rA ?_; intro j1 j2 v27 e27
      refine pc_sv (k7_nameKind K) ?_; intro u29 q29
      refine pc_wA ?_; intro l1 l2 h30 e30
      refine pc_xl ?_; intro v31 e31
      exact ih _ _ (by rw [e30]; exact k7_up (by decide) q29)
theorem k7_59 {qk : Int → ms_M → Option ms_M} (hk : ∀ (v : Int) (g : ms_M), K7 g → Pc (qk v g) K7) {l1 s0 s1 : Int} (K : K7 h) : Pc (qj_X2_nameKinds_59 nn qk l1 s0 s1 h) K7 := by
  unfold qj_X2_nameKinds_59
  refine pc_wA ?_; intro i1 i2 h35 e35
  refine pc_xl ?_; intro v37 e37
  refine pc_xl ?_; intro v38 e38
  refine pc_sv (k7_nameKind (h := h35) (by rw [e35]; exact k7_up (by decide) K)) ?_; intro u40 q40
  refine pc_wA ?_; intro j1 j2 h41 e41
  refine pc_xl ?_; intro v42 e42
  exact hk _ _ (by rw [e41]; exact k7_up (by decide) q40)
theorem k7_2 : ∀ (k : Nat) (l1 : Int) (h : ms_M), K7 h → Pc (qw_X2_nameKinds_2 nn k l1 h) K7 := by
  intro k
  induction k with
  | zero => intros; exact pc_none
  | succ k ih =>
    intro l1 h K
    have H : ∀ (v : Int) (g : ms_M), K7 g → Pc (qw_X2_nameKinds_2 nn k v g) K7 := fun v g q => ih v g q
    unfold qw_X2_nameKinds_2
    refine pc_xl ?_; intro v44 e44
    refine pc_if (fun _ => k7_85 _ _ _ K) (fun _ => pc_if (fun _ => k7_85 _ _ _ K) (fun _ => pc_if (fun _ => k7_85 _ _ _ K) (fun _ => pc_if (fun _ => ?_) (fun _ => k7_59 H K))))
    refine pc_xl ?_; intro v49 e49
    refine pc_se ?_; intro u51 e51
    refine pc_se ?_; intro u53 e53
    exact k7_59 H K
end
end
section
section
variable {nn : Nat} {h g r : ms_M}
/-- at most 6000 bytes for each six bytes of text; the word 'class' stays -/
def RQs (z : Int) : Int × ms_M × Nat × Nat → Prop := fun r => (r.2.2.2 : Int) ≤ 6000 * (z / 6) ∧ KCl r.2.1 ∧ r.2.1 0 1 = 0
theorem kc_eq (K : KCl h) (s : ∀ k : Nat, r 7 k = h 7 k) : KCl r := by unfold KCl; rw [s 12, s 13]; exact K
theorem rm_175 (hn : 1000000 ≤ nn) {c s : Nat} {z : Int} (V : VS_ h) (K : KCl h) (T0 : h 0 1 = 0) (hs : (s : Int) ≤ 6000 * (z / 6)) : Pc (qj_X12_compile_175 nn h c s) (RQs z) := by
  unfold qj_X12_compile_175
  refine pc_se ?_; intro u3 e3
  have V3 : VS_ u3 := okof (vf_X0_closeProgram hn V) e3
  have K3 : KCl u3 := kc_eq K (fun k => (ff_X0_closeProgram nn) _ e3 7 k (nw_ar rfl k))
  have t3 : u3 0 1 = h 0 1 := (ff_X0_closeProgram nn) _ e3 0 1 rfl
  refine pc_if (fun _ => pc_ret ⟨hs, K3, t3.trans T0⟩) (fun _ => ?_)
  refine pc_se ?_; intro u7 e7
  have q := okof (vf_X12_takeImages hn V3) e7
  exact pc_ret ⟨hs, kc_eq K3 (fun k => q.2 7 k (by decide) (by omega)), (q.2 0 1 (by decide) (by omega)).trans (t3.trans T0)⟩
theorem rm_124 {nn : Nat} (hn : 1000000 ≤ nn) {kk : Int → ms_M → Nat → Nat → Option (Int × ms_M × Nat × Nat)} {l2 C : Int} {c s : Nat} {n0 : Int} (r2 : 0 ≤ l2 ∧ l2 ≤ 7) {Q : Int × ms_M × Nat × Nat → Prop} (hc0 : n0 + (c : Int) < 700000) (hk : ∀ (v : Int) (h : ms_M) (c2 s2 : Nat), v = l2 + 1 → VS_ h → NM_ h → KCl h → h 0 1 = 0 → h 11 2 ≤ 8 → h 11 2 = C → (n0 ≤ h 900000 0 ∧ h 900000 0 ≤ n0 + (c2 : Int)) → c2 ≤ c + 1 → s2 ≤ s + 6000 → Pc (kk v h c2 s2) Q) : ∀ (k : Nat) (l3 : Int) (h : ms_M), VS_ h → NM_ h → KCl h → h 0 1 = 0 → h 11 2 ≤ 8 → h 11 2 = C → h 45 7 ≤ 100 + 3000100 * l3 → (n0 ≤ h 900000 0 ∧ h 900000 0 ≤ n0 + (c : Int)) → 0 ≤ l3 ∧ l3 ≤ 12 → Pc (qw_X12_compile_124 nn kk k l2 l3 h c s) Q := by
  have H : ∀ h : ms_M, VS_ h → NM_ h → KCl h → h 0 1 = 0 → h 11 2 ≤ 8 → h 11 2 = C → (n0 ≤ h 900000 0 ∧ h 900000 0 ≤ n0 + (c : Int)) → Pc (qj_X12_compile_161 nn kk l2 h c s) Q := by
    intro h V N K T h8 hC z
    unfold qj_X12_compile_161
    refine pc_se ?_; intro u eu
    obtain ⟨q1, q2, q3, q4, q5⟩ := okof (vf_X0_closeClass hn (a1 := l2) (by omega) V N (by omega)) eu
    refine pc_add (by omega) ?_; intro v12 e12
    have z7 : ∀ k : Nat, u.1 7 k = h 7 k := fun k => q2 7 k (by decide) (by decide) (by omega)
    have z2 : u.1 11 2 = h 11 2 := q2 11 2 (by decide) (by decide) (by omega)
    have z0 : u.1 0 1 = h 0 1 := q2 0 1 (by decide) (by decide) (by omega)
    exact hk v12 _ _ _ (by omega) q1 (nm_eq N z7 (q2 2 9 (by decide) (by decide) (by omega))) (kc_eq K z7) (z0.trans T) (by omega) (by omega) (by omega) (by omega) (by omega)
  intro k
  induction k with
  | zero => intros; exact pc_none
  | succ k ih =>
    intro l3 h V N K T h8 hC b7 z r3
    unfold qw_X12_compile_124
    refine pc_se ?_; intro u15 e15
    have m := mo_ e15
    obtain ⟨a15, b15⟩ := okof (vf_X2_methodsOf hn (a1 := l2) (by omega) (by omega) V) e15
    refine pc_if (fun _ => H h V N K T h8 hC z) (fun C1 => ?_)
    refine pc_if (fun _ => H h V N K T h8 hC z) (fun C2 => ?_)
    refine pc_se ?_; intro u20 E20
    obtain ⟨V20, R20⟩ := okof (vf_X0_makeMethod hn (a1 := l2) (a2 := l3) (by omega) (by omega) (by omega) (by omega) V (by omega) (by omega)) E20
    refine pc_add (by omega) ?_; intro v21 e21
    have z20 : u20 900000 0 = h 900000 0 := (ff_X0_makeMethod nn) _ E20 900000 0 rfl
    have h20 : u20 11 2 = h 11 2 := (ff_X0_makeMethod nn) _ E20 11 2 rfl
    have t20 : u20 0 1 = h 0 1 := (ff_X0_makeMethod nn) _ E20 0 1 rfl
    have s20 : ∀ k : Nat, u20 7 k = h 7 k := fun k => (ff_X0_makeMethod nn) _ E20 7 k (nw_ar rfl k)
    have N20 : NM_ u20 := nm_eq N s20 ((ff_X0_makeMethod nn) _ E20 2 9 rfl)
    exact ih v21 u20 V20 N20 (kc_eq K s20) (t20.trans T) (by omega) (by omega) (by omega) (by omega) (by omega)
theorem rm_93 {nn : Nat} (hn : 1000000 ≤ nn) {n0 z : Int} (hz : 0 ≤ z) (hc0 : n0 + 8 < 700000) : ∀ (k : Nat) (l2 : Int) (h : ms_M) (c s : Nat), VS_ h → NM_ h → KCl h → h 0 1 = 0 → (¬ h 2 11 = 0 ∨ h 11 2 ≤ 8) → (¬ h 2 11 = 0 ∨ 6 * h 11 2 ≤ z) → 0 ≤ l2 ∧ l2 ≤ 8 → 6 * l2 ≤ z → (c : Int) ≤ l2 → (s : Int) ≤ 6000 * l2 → (n0 ≤ h 900000 0 ∧ h 900000 0 ≤ n0 + (c : Int)) → Pc (qw_X12_compile_93 nn k l2 h c s) (RQs z) := by
  intro k
  induction k with
  | zero => intros; exact pc_none
  | succ k ih =>
    intro l2 h c s V N K T h8 hC r2 hl hc hs zz
    unfold qw_X12_compile_93
    refine pc_if (fun _ => rm_175 hn V K T (by omega)) (fun C1 => ?_)
    refine pc_if (fun _ => rm_175 hn V K T (by omega)) (fun C2 => ?_)
    refine pc_se ?_; intro u30 E30
    obtain ⟨V30, R30⟩ := okof (vf_X0_beginClass hn (a1 := l2) (by omega) (by omega) V) E30
    have z30 : u30 900000 0 = h 900000 0 := (ff_X0_beginClass nn) _ E30 900000 0 rfl
    have h30 : u30 11 2 = h 11 2 := (ff_X0_beginClass nn) _ E30 11 2 rfl
    have t30 : u30 0 1 = h 0 1 := (ff_X0_beginClass nn) _ E30 0 1 rfl
    have s30 : ∀ k : Nat, u30 7 k = h 7 k := fun k => (ff_X0_beginClass nn) _ E30 7 k (nw_ar rfl k)
    have N30 : NM_ u30 := nm_eq N s30 ((ff_X0_beginClass nn) _ E30 2 9 rfl)
    have hC2 : 6 * h 11 2 ≤ z := by
      rcases hC with q | q
      · exact absurd q C2
      · exact q
    refine rm_124 hn (n0 := n0) (C := h 11 2) (by omega) (by omega) ?_ nn 0 u30 V30 N30 (kc_eq K s30) (t30.trans T) (by omega) h30 (by omega) (by omega) (by omega)
    intro v g c2 s2 ev Vg Ng Kg Tg hg8 hgC zg hc2 hs2
    exact ih v g c2 s2 Vg Ng Kg Tg (.inr hg8) (.inr (by omega)) (by omega) (by omega) (by omega) (by omega) zg
theorem rm_compile (hn : 1000000 ≤ nn) (V : VS_ h) (N : NM_ h) (K : KCl h) (hc : h 900000 0 + 8 < 700000) : Pc (qf_X12_compile nn h) (RQs (h 0 1)) := by
  have g01 := gF_0_1 V
  unfold qf_X12_compile
  refine pc_xl ?_; intro h34 E34
  have V34 : VS_ h34 := by rw [E34]; exact wF_0_1 V (by omega)
  have N34 : NM_ h34 := by rw [E34]; exact nm_uf N (by decide)
  have z34 : h34 900000 0 = h 900000 0 := by rw [E34]; exact up_n (by decide)
  have K34 : KCl h34 := kc_eq K (fun k => by rw [E34]; exact up_n (by omega))
  have T34 : h34 0 1 = 0 := by rw [E34]; exact up_s
  refine pc_if (fun C1 => ?_) (fun C1 => ?_)
  · refine pc_se ?_; intro u38 E38
    obtain ⟨V38, N38, i38, p38⟩ := okof (vf_X9_scan hn (a2 := h 0 1) (by omega) (by omega) V34 N34) E38
    have T38 : u38 0 1 = 0 := ((ff_X9_scan nn) _ E38 0 1 rfl : u38 0 1 = h34 0 1).trans T34
    obtain ⟨k38, t38, y38⟩ := to_scan (nn := nn) (h := h34) (z := h 0 1) (by omega) K34 _ E38
    have z38 : u38 900000 0 = h34 900000 0 := (ff_X9_scan nn) _ E38 900000 0 rfl
    refine pc_se ?_; intro u41 E41
    have V41 : VS_ u41 := okof (vf_X2_forget hn V38) E41
    have T41 : u41 0 1 = 0 := ((ff_X2_forget nn) _ E41 0 1 rfl : u41 0 1 = u38 0 1).trans T38
    have z41 : u41 900000 0 = u38 900000 0 := (ff_X2_forget nn) _ E41 900000 0 rfl
    have n41 : u41 2 3 = u38 2 3 := (ff_X2_forget nn) _ E41 2 3 rfl
    have p41 : u41 2 10 = u38 2 10 := (ff_X2_forget nn) _ E41 2 10 rfl
    have b41 : u41 2 11 = u38 2 11 := (ff_X2_forget nn) _ E41 2 11 rfl
    have s41 : ∀ i : Nat, u41 3 i = u38 3 i ∧ u41 4 i = u38 4 i := fun i => ⟨(ff_X2_forget nn) _ E41 3 i (nw_ar rfl i), (ff_X2_forget nn) _ E41 4 i (nw_ar rfl i)⟩
    have TK41 : TRk (h 0 1) u41 := tr_keep n41 s41 ⟨i38, t38, y38⟩
    have w41 : ∀ k : Nat, u41 7 k = u38 7 k := fun k => (ff_X2_forget nn) _ E41 7 k (nw_ar rfl k)
    have N41 : NM_ u41 := nm_eq N38 w41 ((ff_X2_forget nn) _ E41 2 9 rfl)
    have K41 : KCl u41 := kc_eq ⟨k38.2.1, k38.2.2⟩ w41
    have f41 := fg_0 E41
    have c41 : 1 ≤ u41 2 3 := TK41.1.1
    have I41 : IRk (h 0 1) u41 := by
      refine ⟨.inr (by omega), .inr (.inr ?_)⟩
      have v := gA_4 V41 (u41 2 10).toNat (by omega)
      omega
    refine pc_se ?_; intro u44 E44
    obtain ⟨V44, R44⟩ := okof (vf_X8_readProgram hn V41 (by omega) (by omega) (by omega) TK41.1) E44
    have T44 : u44 0 1 = 0 := ((ff_X8_readProgram nn) _ E44 0 1 rfl : u44 0 1 = u41 0 1).trans T41
    have I44 : IRk (h 0 1) u44 := by
      have e := E44
      unfold qf_X8_readProgram at e
      exact rm_prog hn nn 0 u41 (by omega) (by omega) V41 TK41 I41 _ e
    have J44 := I44.1
    clear I44
    have z44 : u44 900000 0 = u41 900000 0 := (ff_X8_readProgram nn) _ E44 900000 0 rfl
    have w44 : ∀ k : Nat, u44 7 k = u41 7 k := fun k => (ff_X8_readProgram nn) _ E44 7 k (nw_ar rfl k)
    have N44 : NM_ u44 := nm_eq N41 w44 ((ff_X8_readProgram nn) _ E44 2 9 rfl)
    have K44 := kc_eq K41 w44
    refine pc_se ?_; intro u47 E47
    obtain ⟨V47, R47⟩ := okof (vf_X2_readClasses hn V44 R44) E47
    have T47 : u47 0 1 = 0 := ((ff_X2_readClasses nn) _ E47 0 1 rfl : u47 0 1 = u44 0 1).trans T44
    have h47 : u47 11 2 = u44 11 2 := (ff_X2_readClasses nn) _ E47 11 2 rfl
    have J47 : ¬ u47 2 11 = 0 ∨ 6 * u47 11 2 ≤ h 0 1 := by
      rcases J44 with q | q
      · left
        have e := E47
        unfold qf_X2_readClasses at e
        rw [if_neg q] at e
        cases e; exact q
      · right; omega
    have z47 : u47 900000 0 = u44 900000 0 := (ff_X2_readClasses nn) _ E47 900000 0 rfl
    have w47 : ∀ k : Nat, u47 7 k = u44 7 k := fun k => (ff_X2_readClasses nn) _ E47 7 k (nw_ar rfl k)
    have N47 : NM_ u47 := nm_eq N44 w47 ((ff_X2_readClasses nn) _ E47 2 9 rfl)
    have K47 := kc_eq K44 w47
    refine pc_se ?_; intro u50 E50
    obtain ⟨V50, R50⟩ := okof (vf_X2_readMembers hn V47 R47) E50
    have T50 : u50 0 1 = 0 := ((ff_X2_readMembers nn) _ E50 0 1 rfl : u50 0 1 = u47 0 1).trans T47
    have z50 : u50 900000 0 = u47 900000 0 := (ff_X2_readMembers nn) _ E50 900000 0 rfl
    have h50 : u50 11 2 = u47 11 2 := (ff_X2_readMembers nn) _ E50 11 2 rfl
    have w50 : ∀ k : Nat, u50 7 k = u47 7 k := fun k => (ff_X2_readMembers nn) _ E50 7 k (nw_ar rfl k)
    have N50 : NM_ u50 := nm_eq N47 w50 ((ff_X2_readMembers nn) _ E50 2 9 rfl)
    have K50 := kc_eq K47 w50
    refine pc_se ?_; intro u53 E53
    obtain ⟨V53, R53⟩ := okof (vf_X2_checkOverrides hn V50) E53
    have T53 : u53 0 1 = 0 := ((ff_X2_checkOverrides nn) _ E53 0 1 rfl : u53 0 1 = u50 0 1).trans T50
    have z53 : u53 900000 0 = u50 900000 0 := (ff_X2_checkOverrides nn) _ E53 900000 0 rfl
    have h53 : u53 11 2 = u50 11 2 := (ff_X2_checkOverrides nn) _ E53 11 2 rfl
    have w53 : ∀ k : Nat, u53 7 k = u50 7 k := fun k => (ff_X2_checkOverrides nn) _ E53 7 k (nw_ar rfl k)
    have N53 : NM_ u53 := nm_eq N50 w53 ((ff_X2_checkOverrides nn) _ E53 2 9 rfl)
    have K53 := kc_eq K50 w53
    refine pc_se ?_; intro u56 E56
    obtain ⟨V56, N56⟩ := okof (vf_X2_nameKinds hn V53 N53) E56
    have T56 : u56 0 1 = 0 := ((ff_X2_nameKinds nn) _ E56 0 1 rfl : u56 0 1 = u53 0 1).trans T53
    have K56 : K7 u56 := by
      have e := E56
      unfold qf_X2_nameKinds at e
      exact k7_2 _ _ _ ⟨N53.1, K53.1, K53.2⟩ _ e
    have z56 : u56 900000 0 = u53 900000 0 := hk_ok E56
    have h56 : u56 11 2 = u53 11 2 := (ff_X2_nameKinds nn) _ E56 11 2 rfl
    have f56 : u56 2 11 = u53 2 11 := (ff_X2_nameKinds nn) _ E56 2 11 rfl
    refine pc_se ?_; intro u59 E59
    have V59 : VS_ u59 := okof (vf_X0_beginProgram hn V56) E59
    have T59 : u59 0 1 = 0 := ((ff_X0_beginProgram nn) _ E59 0 1 rfl : u59 0 1 = u56 0 1).trans T56
    have z59 : u59 900000 0 = u56 900000 0 := (ff_X0_beginProgram nn) _ E59 900000 0 rfl
    have h59 : u59 11 2 = u56 11 2 := (ff_X0_beginProgram nn) _ E59 11 2 rfl
    have f59 : u59 2 11 = u56 2 11 := (ff_X0_beginProgram nn) _ E59 2 11 rfl
    have w59 : ∀ k : Nat, u59 7 k = u56 7 k := fun k => (ff_X0_beginProgram nn) _ E59 7 k (nw_ar rfl k)
    have N59 : NM_ u59 := nm_eq N56 w59 ((ff_X0_beginProgram nn) _ E59 2 9 rfl)
    have K59 : KCl u59 := kc_eq ⟨K56.2.1, K56.2.2⟩ w59
    have J59 : ¬ u59 2 11 = 0 ∨ 6 * u59 11 2 ≤ h 0 1 := by omega
    have A59 : ¬ u59 2 11 = 0 ∨ u59 11 2 ≤ 8 := by omega
    exact rm_93 hn g01.1 (n0 := h 900000 0) hc nn 0 u59 0 0 V59 N59 K59 T59 A59 J59 (by omega) (by omega) (by omega) (by omega) (by omega)
  · refine pc_se ?_; intro u62 E62
    refine pc_ret ⟨?_, kc_eq K34 (fun k => (ff_X9_refuse nn) _ E62 7 k (nw_ar rfl k)), ((ff_X9_refuse nn) _ E62 0 1 rfl : u62 0 1 = h34 0 1).trans T34⟩
    show ((0 : Nat) : Int) ≤ 6000 * (h 0 1 / 6)
    omega
end
end
section
/- THE ROOM, AND THE TAPES: AN INVARIANT OF ALL SIXTEEN CALLS -/
section
variable {nn : Nat} {h g r : ms_M} {P L : Int}
/-- bringing an Image leaves what the compiler and the tape have -/
theorem brg_c (hn : 1000000 ≤ nn) {a1 : Nat} {a2 : Int} (V : VS_ h) (ta : a1 < cn_M h ∧ ly_T a1 = 1) (ha : 0 ≤ a2 ∧ a2 ≤ 6000) (hc : h 900000 0 < 700000) : Pc (qf_X7_bring nn a1 a2 h) (fun r => ∀ c k : Nat, c < 56 → r.2.1 c k = h c k) := by
  have hb := (vi_r V).1.2
  have ib := im_at hb
  unfold qf_X7_bring
  refine pc_ck (fun _ => pc_ck (fun _ => pc_se (fun u3 e3 => ?_)))
  have F : ∀ c k, (c < (h 56 2).toNat ∨ (h 56 2).toNat + 6 < c) → u3.2 c k = h c k := fun c k q => (of_X3_read nn hb) _ e3 c k q
  have K : ∀ c k : Nat, c < 56 → u3.2 c k = h c k := fun c k q => F c k (by omega)
  have V3 := (okof (vf_X3_read hn hb (by omega) (by omega) V ta ha) e3).1
  refine pc_if (fun c => ?_) (fun _ => pc_xl (fun _ _ => pc_ret K))
  refine pc_ck (fun _ => pc_ck (fun _ => pc_if (fun _ => pc_ret K) (fun c8 => ?_)))
  refine pc_ck (fun _ => pc_ck (fun _ => pc_se (fun _ _ => pc_ck (fun _ => pc_se (fun _ _ => pc_se (fun u15 _ => ?_))))))
  refine pc_if (fun _ => ?_) (fun _ => pc_ret K)
  refine pc_ck (fun _ => pc_se (fun u18 e18 => pc_se (fun u21 e21 => ?_)))
  have s2 : u3.2 56 2 = h 56 2 := F 56 2 (by omega)
  have s9 : u3.2 900000 0 = h 900000 0 := F 900000 0 (by omega)
  rw [s2] at e18
  have k1 := (okof (vf_X3_keepOwn hb V3 (by omega)) e18).2.2.1
  have i21 := (sw_i e21).2
  refine pc_xl (fun v23 e23 => pc_xl (fun h24 e24 => pc_se (fun u26 e26 => pc_xl (fun v28 e28 => pc_xl (fun v29 e29 => pc_ret (fun c k q => ?_))))))
  show u26 c k = h c k
  rw [rl_fr e26 c k (by omega), e24, up_n (by omega), i21, up_n (by omega), up_n (by omega), k1 c k (by omega) (by omega)]
  exact K c k q
theorem chg_k {a1 a2 a3 : Int} (V : VS_ h) (J : OJ h) {w : Int × ms_M} (e : qf_X7_change nn a1 a2 a3 h = some w) : ∀ c k : Nat, c < 56 → w.2 c k = h c k := by
  have hb := (vi_r V).1.2
  have ib := im_at hb
  have hM := V.2.1.1
  have g3 := gF_56_3 V
  intro c k hck
  unfold qf_X7_change at e
  obtain ⟨u4, e4, e⟩ := sv_i e
  by_cases c1 : u4 < 0
  · rw [if_pos c1] at e; cases e; rfl
  rw [if_neg c1] at e
  by_cases c2 : a2 < 0
  · rw [if_pos c2] at e; cases e; rfl
  rw [if_neg c2] at e
  obtain ⟨hd, e⟩ := ck_i e
  by_cases c3 : ¬ a2 < h u4.toNat 1
  · rw [if_neg c3] at e; cases e; rfl
  rw [if_pos (Decidable.not_not.1 c3)] at e
  have I4 : (8 ≤ a1 ∧ a1 < 8 + h 56 3) ∧ u4 = h 60 (a1 - 8).toNat := by
    unfold qf_X7_imageOf at e4
    split at e4
    · cases e4; omega
    · rw [xl_eq, oq_add_eq (by omega) (by omega) (by omega)] at e4
      split at e4
      · cases e4; omega
      · rw [xl_eq, oq_sub_eq (by omega) (by omega) (by omega)] at e4
        have e4 := rd_i e4
        cases e4
        exact ⟨by omega, rfl⟩
  obtain ⟨ra, e4⟩ := I4
  have Jd := J (a1 - 8).toNat (by omega)
  rw [← e4] at Jd
  obtain ⟨u9, e9, e⟩ := sv_i e
  have Bd := vi_b V hd
  have e9 : u9 = h u4.toNat 0 := by
    unfold qf_X3_ownBytes at e9
    obtain ⟨-, e9⟩ := ck_i e9
    have e9 := Option.some.inj e9
    rw [← e9]
    exact Int.toNat_of_nonneg Bd.1.1
  obtain ⟨-, e⟩ := ck_i e
  have e := rt_i e
  rw [xl_eq] at e
  obtain ⟨hw, e⟩ := wti_ e
  have n9 : 256 ≤ u9.toNat := by rw [e9]; exact Jd.1
  have f13 : ∀ c k, ¬ (c = u9.toNat ∧ k = a2.toNat) → up_M h u9.toNat a2.toNat (oq_b (oq_b a3)) c k = h c k := fun c k w => up_n w
  generalize up_M h u9.toNat a2.toNat (oq_b (oq_b a3)) = h13 at *
  obtain ⟨-, e⟩ := ck_i e
  obtain ⟨hb13, e⟩ := ck_i e
  obtain ⟨u17, e17, e⟩ := sv_i e
  have i13 := im_at hb13
  have q17 : u17.2 c k = h c k := ((of_X3_read nn hb13) _ e17 c k (by show _ ∨ _; omega)).trans (f13 _ _ (by omega))
  have back : ∀ {v : Int} {r : Int × ms_M}, qj_X7_change_72 nn a2 ((u9.toNat : Nat) : Int) v u17.2 = some r → r.2 c k = h c k := by
    intro v r e
    unfold qj_X7_change_72 at e
    obtain ⟨-, e⟩ := ck_i e
    obtain ⟨hw2, e⟩ := wti_ e
    cases e
    show up_M _ _ _ _ c k = _
    rw [Int.toNat_natCast, up_n (by omega)]; exact q17
  by_cases d1 : ¬ u17.1 = -1
  · rw [if_pos d1] at e; exact back e
  rw [if_neg d1] at e
  obtain ⟨u19, e19, e⟩ := sv_i e
  by_cases d2 : u19 = 0
  · rw [if_pos d2, xl_eq] at e
    obtain ⟨u22, e22, e⟩ := sv_i e
    obtain ⟨u24, e24, e⟩ := sv_i e
    cases e
    have i22 := (sw_i e22).2
    show u24 c k = _
    rw [rl_fr e24 c k (by omega), i22, up_n (by omega), up_n (by omega)]; exact q17
  · rw [if_neg d2] at e; exact back e
theorem fo_k {u : ms_M} (e : qf_X5_forget nn h = some u) (c k : Nat) (hc : c < 56) : u c k = h c k := (ff_X5_forget nn) _ e c k (nw_rng (lo := 0) (hi := 55) rfl ⟨by omega, by omega⟩)
theorem pat_k {a1 a2 a3 : Int} (V : VS_ h) (J : OJ h) {w : Int × ms_M} (e : qf_X12_patch nn a1 a2 a3 h = some w) : ∀ c k : Nat, c < 56 → w.2 c k = h c k := by
  intro c k hck
  unfold qf_X12_patch at e
  obtain ⟨u3, e3, e⟩ := sv_i e
  have q := chg_k V J e3 c k hck
  by_cases d : u3.1 = 0
  · rw [if_pos d] at e
    obtain ⟨-, e⟩ := ck_i e
    cases e; exact q
  · rw [if_neg d] at e
    obtain ⟨u7, e7, e⟩ := sv_i e
    obtain ⟨-, e⟩ := ck_i e
    cases e
    exact (fo_k e7 c k hck).trans q
theorem ld_k (hn : 1000000 ≤ nn) (V : VS_ h) (hc : h 900000 0 < 700000) {w : Int × ms_M × Nat × Nat} (e : qf_X12_load nn h = some w) : w.2.1 0 1 = 0 ∧ ∀ k : Nat, w.2.1 7 k = h 7 k := by
  have g01 := gF_0_1 V
  have c256 := vi_c V
  unfold qf_X12_load at e
  obtain ⟨u5, e5, e⟩ := sv_i e
  have F := brg_c hn (a1 := 1) (a2 := h 0 1) V ⟨by omega, rfl⟩ (by omega) hc _ e5
  rw [xl_eq] at e
  by_cases d : u5.1 < 0
  · rw [if_pos d] at e
    cases e
    refine ⟨(up_s : up_M u5.2.1 0 1 0 0 1 = 0), fun k => ?_⟩
    show up_M u5.2.1 0 1 0 7 k = _
    rw [up_n (by omega)]; exact F 7 k (by decide)
  · rw [if_neg d] at e
    obtain ⟨u9, e9, e⟩ := sv_i e
    cases e
    refine ⟨(fo_k e9 0 1 (by decide)).trans up_s, fun k => (fo_k e9 7 k (by decide)).trans ?_⟩
    rw [up_n (by omega)]; exact F 7 k (by decide)
theorem kp_24 {s0 : Int} {c s : Nat} {w : Int × ms_M × Nat × Nat} (e : qj_X12_keep_24 nn s0 h c s = some w) : ∀ a k : Nat, a < 56 → w.2.1 a k = h a k := by
  intro a k ha
  unfold qj_X12_keep_24 at e
  by_cases d : s0 < 0
  · rw [if_pos d] at e; cases e; rfl
  · rw [if_neg d] at e
    obtain ⟨u3, e3, e⟩ := sv_i e
    cases e
    exact fo_k e3 a k ha
theorem kp_k (hn : 1000000 ≤ nn) (V : VS_ h) (hc : h 900000 0 < 700000) {a1 : Int} {w : Int × ms_M × Nat × Nat} (e : qf_X12_keep nn a1 h = some w) : ∀ a k : Nat, a < 56 → w.2.1 a k = h a k := by
  intro a k ha
  unfold qf_X12_keep at e
  obtain ⟨u6, e6, e⟩ := sv_i e
  by_cases d : u6 < 0
  · rw [if_pos d] at e
    exact kp_24 e a k ha
  · rw [if_neg d] at e
    have R := (okof (vf_X12_imageOf V) e6).resolve_left d
    unfold ln_S at e
    rw [if_pos ⟨R.1, by have := R.2.1; omega⟩] at e
    obtain ⟨u12, e12, e⟩ := sv_i e
    have l0 : 0 ≤ ln_I h u6.toNat := by
      unfold ln_I
      split
      · omega
      · exact V.2.1.2 _
    have F := brg_c hn V ⟨R.1, R.2.1⟩ ⟨l0, R.2.2⟩ hc _ e12
    exact (kp_24 e a k ha).trans (F a k ha)
/- the reference's tape is empty behind compile and load -/
theorem r0_169 {qk : Int → ms_M → Option (Int × ms_M)} (hk : ∀ (v : Int) (g : ms_M), g 160 1 = 0 → Pc (qk v g) (fun r => r.2 160 1 = 0)) : ∀ (k : Nat) (l2 l3 : Int) (h : ms_M), h 160 1 = 0 → Pc (qw_X13_compile_169 nn qk k l2 l3 h) (fun r => r.2 160 1 = 0) := by
  intro k
  induction k with
  | zero => intros; exact pc_none
  | succ k ih =>
    intro l2 l3 h T
    unfold qw_X13_compile_169
    refine pc_rA (fun _ _ v2 _ => pc_if (fun _ => pc_xl (fun v3 _ => hk v3 h T)) (fun _ => ?_))
    refine pc_xl (fun v5 _ => pc_xl (fun v6 _ => pc_xl (fun v8 _ => pc_xl (fun v9 _ => pc_rA (fun _ _ v10 _ => pc_wA (fun _ _ h11 e11 => pc_xl (fun v12 _ => ?_)))))))
    exact ih _ _ _ (by rw [e11, up_n (by omega)]; exact T)
theorem r0_147 : ∀ (k : Nat) (l2 : Int) (h : ms_M), h 160 1 = 0 → Pc (qw_X13_compile_147 nn k l2 h) (fun r => r.2 160 1 = 0) := by
  intro k
  induction k with
  | zero => intros; exact pc_none
  | succ k ih =>
    intro l2 h T
    unfold qw_X13_compile_147
    refine pc_if (fun _ => pc_xl (fun h16 e16 => pc_ret ?_)) (fun _ => pc_rA (fun _ _ v20 _ => pc_wA (fun _ _ h21 e21 => ?_)))
    · show h16 160 1 = 0
      rw [e16, up_n (by omega)]; exact T
    · exact r0_169 (fun v g q => ih v g q) _ _ _ _ (by rw [e21, up_n (by omega)]; exact T)
theorem r0_136 (T : h 160 1 = 0) : Pc (qj_X13_compile_136 nn h) (fun r => r.2 160 1 = 0) := by
  unfold qj_X13_compile_136
  exact pc_if (fun _ => r0_147 _ _ _ T) (fun _ => pc_ret T)
theorem r0_110 : ∀ (k : Nat) (l2 : Int) (h : ms_M), h 160 1 = 0 → Pc (qw_X13_compile_110 nn k l2 h) (fun r => r.2 160 1 = 0) := by
  intro k
  induction k with
  | zero => intros; exact pc_none
  | succ k ih =>
    intro l2 h T
    unfold qw_X13_compile_110
    refine pc_if (fun _ => r0_136 T) (fun _ => pc_if (fun _ => r0_136 T) (fun _ => pc_se (fun u28 e28 => pc_xl (fun v29 _ => ?_))))
    exact ih _ _ (((ff_X13_makeClass nn) _ e28 160 1 rfl : u28 160 1 = h 160 1).trans T)
theorem r0_97 (T : h 160 1 = 0) : Pc (qj_X13_compile_97 nn h) (fun r => r.2 160 1 = 0) := by
  unfold qj_X13_compile_97
  refine pc_if (fun _ => r0_110 _ _ _ T) (fun _ => pc_se (fun u e => ?_))
  exact r0_110 _ _ _ (((ff_X13_bodies nn) _ e 160 1 rfl : u 160 1 = h 160 1).trans T)
theorem r0_86 (T : h 160 1 = 0) : Pc (qj_X13_compile_86 nn h) (fun r => r.2 160 1 = 0) := by
  unfold qj_X13_compile_86
  refine pc_if (fun _ => r0_97 T) (fun _ => pc_se (fun u e => ?_))
  exact r0_97 (((ff_X13_heads nn) _ e 160 1 rfl : u 160 1 = h 160 1).trans T)
theorem r0_43 : ∀ (k : Nat) (l1 l2 : Int) (h : ms_M), h 160 1 = 0 → Pc (qw_X13_compile_43 nn k l1 l2 h) (fun r => r.2 160 1 = 0) := by
  intro k
  induction k with
  | zero => intros; exact pc_none
  | succ k ih =>
    intro l1 l2 h T
    unfold qw_X13_compile_43
    refine pc_if (fun _ => pc_xl (fun h40 e40 => pc_se (fun u42 e42 => ?_))) (fun _ => pc_rA (fun _ _ v49 _ => pc_wA (fun _ _ h50 e50 => pc_xl (fun v51 _ => ?_))))
    · have T40 : h40 160 1 = 0 := by rw [e40, up_n (by omega)]; exact T
      have T42 : u42 160 1 = 0 := ((ff_X13_tokenize nn) _ e42 160 1 rfl : u42 160 1 = h40 160 1).trans T40
      refine pc_if (fun _ => r0_86 T42) (fun _ => pc_se (fun u45 e45 => ?_))
      exact r0_86 (((ff_X13_program nn) _ e45 160 1 rfl : u45 160 1 = u42 160 1).trans T42)
    · exact ih _ _ _ (by rw [e50, up_n (by omega)]; exact T)
theorem r0_compile : Pc (qf_X13_compile nn h) (fun r => r.2 160 1 = 0) := by
  unfold qf_X13_compile
  refine pc_xl (fun h54 e54 => pc_xl (fun h55 e55 => pc_xl (fun h56 e56 => ?_)))
  have T : h56 160 1 = 0 := by rw [e56, up_n (by omega), e55, up_n (by omega), e54, up_s]
  refine pc_if (fun _ => r0_43 _ _ _ _ T) (fun _ => pc_xl (fun h57 e57 => pc_xl (fun h58 e58 => pc_ret ?_)))
  show h58 160 1 = 0
  rw [e58, up_n (by omega), e57, up_n (by omega)]; exact T
theorem r0_load10 : ∀ (k : Nat) (l1 : Int) (h : ms_M), Pc (qw_X13_load_10 nn k l1 h) (fun r => r.2 160 1 = 0) := by
  intro k
  induction k with
  | zero => intros; exact pc_none
  | succ k ih =>
    intro l1 h
    unfold qw_X13_load_10
    refine pc_if (fun _ => pc_xl (fun h2 e2 => pc_se (fun u4 e4 => pc_ret ?_))) (fun _ => pc_rA (fun _ _ v7 _ => pc_wA (fun _ _ h8 e8 => pc_xl (fun v9 _ => ih _ _))))
    show u4.2 160 1 = 0
    exact ((ff_X13_loaded nn) _ e4 160 1 rfl : u4.2 160 1 = h2 160 1).trans (by rw [e2]; exact up_s)
theorem r0_load : Pc (qf_X13_load nn h) (fun r => r.2 160 1 = 0) := by
  unfold qf_X13_load
  exact pc_xl (fun h12 _ => r0_load10 _ _ _)
theorem tp_keep (T : tp_R h) (e1 : g 160 1 = h 160 1) (e2 : g 0 1 = h 0 1) (e3 : ∀ k : Nat, g 161 k = h 161 k) (e4 : ∀ k : Nat, g 1 k = h 1 k) : tp_R g := by
  obtain ⟨t1, t2, t3⟩ := T
  refine ⟨by omega, by omega, fun i hi => ?_⟩
  rw [e3, e4]; exact t3 i (by omega)
theorem tp_zero (e1 : g 160 1 = 0) (e2 : g 0 1 = 0) : tp_R g := ⟨by omega, by omega, fun i hi => by omega⟩
/-- the invariant: both sides are good, the tapes are alike, the room is kept -/
def VRm (nn t : Nat) (M : ms_M) (c s : Nat) : Prop := BVa nn (20000 * (t : Int)) (48000 * (t : Int)) M ∧ KCl M ∧ tp_R M ∧ M 900000 0 ≤ 256 + 8 * (t : Int) ∧ (c : Int) ≤ 256 + 8 * (t : Int) ∧ (s : Int) + 12995 * ((M 0 1 + 19) / 20) ≤ 648382 + 12995 * (t : Int)
theorem vr_mk {t : Nat} {M M2 : ms_M} {c s c1 s1 : Nat} (B : BVa nn (20000 * ((t + 1 : Nat) : Int)) (48000 * ((t + 1 : Nat) : Int)) M2) (K : ∀ k : Nat, M2 7 k = M 7 k) (T : tp_R M2) (hc : M2 900000 0 ≤ M 900000 0 + 8) (h1 : c1 ≤ 8) (hs : (s1 : Int) + 12995 * ((M2 0 1 + 19) / 20) ≤ 12995 * ((M 0 1 + 19) / 20) + 12995) (V : VRm nn t M c s) : VRm nn (t + 1) M2 (c + c1) (s + s1) := by
  obtain ⟨v1, v2, v3, v4, v5, v6⟩ := V
  exact ⟨B, kc_eq v2 K, T, by omega, by omega, by omega⟩
theorem vr_B {t : Nat} {M : ms_M} (B : BVa nn (20000 * (t : Int)) (48000 * (t : Int)) M) : BVa nn (20000 * ((t + 1 : Nat) : Int)) (48000 * ((t + 1 : Nat) : Int)) M := bs_le B (by omega) (by omega)
theorem vr_feed (hn : 1000000 ≤ nn) {t : Nat} {M : ms_M} {c s : Nat} (V : VRm nn t M c s) {a b d e f : Int} (r1 : in_R a) (r2 : in_R b) (r3 : in_R d) (r4 : in_R e) (r5 : in_R f) : ∃ r M1 M2, qf_X12_feed nn a b d e f M = some (r, M1) ∧ qf_X13_feed nn a b d e f M1 = some (r, M2) ∧ VRm nn (t + 1) M2 c s := by
  have V0 := V
  obtain ⟨v1, v2, v3, v4, v5, v6⟩ := V
  obtain ⟨x, M1, y, M2, g1, g2, B, k9⟩ := bs_feed hn r1 r2 r3 r4 r5 v1
  obtain ⟨r, N1, N2, f1, f2, T, F⟩ := feed_2 (nn := nn) (by omega) (a := a) (b := b) (x := d) (e := e) (f := f) v3
  rw [g1] at f1; cases f1
  rw [g2] at f2; cases f2
  refine ⟨_, _, _, g1, g2, vr_mk (c1 := 0) (s1 := 0) (vr_B B) (fun k => F 7 k (nw_ar rfl k)) T (by omega) (by omega) ?_ V0⟩
  have q : M2 0 1 = M1 0 1 := (ff_X13_feed nn) _ g2 0 1 rfl
  have w : M1 0 1 ≤ M 0 1 + 20 := by
    rcases feed_X (nn := nn) (by omega) (a := a) (b := b) (x := d) (e := e) (f := f) v3.2.1 with ⟨-, z⟩ | ⟨-, h2, z, p⟩
    · rw [g1] at z; cases z; omega
    · rw [g1] at z; cases z; have := p.1; omega
  omega
theorem vr_end (hn : 1000000 ≤ nn) {t : Nat} {M : ms_M} {c s : Nat} (V : VRm nn t M c s) {a : Int} (r1 : in_R a) : ∃ r M1 M2, qf_X12_end nn a M = some (r, M1) ∧ qf_X13_end nn a M1 = some (r, M2) ∧ VRm nn (t + 1) M2 c s := by
  have V0 := V
  obtain ⟨v1, v2, v3, v4, v5, v6⟩ := V
  obtain ⟨x, M1, y, M2, g1, g2, B, k9⟩ := bs_end hn r1 v1
  obtain ⟨r, N1, N2, f1, f2, T, F⟩ := end_2 (nn := nn) (a := a) v3
  rw [g1] at f1; cases f1
  rw [g2] at f2; cases f2
  refine ⟨_, _, _, g1, g2, vr_mk (c1 := 0) (s1 := 0) (vr_B B) (fun k => F 7 k (nw_ar rfl k)) T (by omega) (by omega) ?_ V0⟩
  have q : M2 0 1 = M1 0 1 := (ff_X13_end nn) _ g2 0 1 rfl
  have w : M1 0 1 ≤ M 0 1 := by
    unfold qf_X12_end at g1
    by_cases z1 : a < 0
    · rw [if_pos z1] at g1; cases g1; omega
    · rw [if_neg z1] at g1
      by_cases z2 : a ≤ M 0 1
      · rw [if_pos z2, xl_eq] at g1; cases g1; rw [up_s]; exact z2
      · rw [if_neg z2] at g1; cases g1; omega
  omega
theorem vr_compile (hn : 1000000 ≤ nn) {t : Nat} (ht : t < 512) {M : ms_M} {c s : Nat} (V : VRm nn t M c s) : ∃ x M1 c1 s1 y M2, qf_X12_compile nn M = some (x, M1, c1, s1) ∧ qf_X13_compile nn M1 = some (y, M2) ∧ VRm nn (t + 1) M2 (c + c1) (s + s1) := by
  have V0 := V
  obtain ⟨v1, v2, v3, v4, v5, v6⟩ := V
  obtain ⟨x, M1, c1, s1, y, M2, g1, g2, B, k9, k1, k2⟩ := bs_compile hn (by omega) v1 (by omega)
  have W := bva_v v1
  have g01 := gF_0_1 W
  obtain ⟨R1, R2, R3⟩ := rm_compile hn W v1.1.1.2.1 v2 (by omega) _ g1
  have R1 : (s1 : Int) ≤ 6000 * (M 0 1 / 6) := R1
  have e0 : M2 0 1 = 0 := ((ff_X13_compile nn) _ g2 0 1 rfl : M2 0 1 = M1 0 1).trans R3
  have e1 : M2 160 1 = 0 := r0_compile _ g2
  have K : KCl M2 := kc_eq R2 (fun k => (ff_X13_compile nn) _ g2 7 k (nw_ar rfl k))
  refine ⟨x, M1, c1, s1, y, M2, g1, g2, bs_le B (by omega) (by omega), K, tp_zero e1 e0, by omega, by omega, ?_⟩
  rw [e0]
  have k3 : (s1 : Int) ≤ 12995 * ((M 0 1 + 19) / 20) + 12995 := by
    rcases (show M 0 1 = 0 ∨ (1 ≤ M 0 1 ∧ M 0 1 ≤ 20) ∨ (21 ≤ M 0 1 ∧ M 0 1 ≤ 40) ∨ 41 ≤ M 0 1 by omega) with q | q | q | q
    · have a1 : M 0 1 / 6 = 0 := by omega
      omega
    · have a1 : M 0 1 / 6 ≤ 3 := by omega
      have a2 : (M 0 1 + 19) / 20 = 1 := by omega
      omega
    · have a1 : M 0 1 / 6 ≤ 6 := by omega
      have a2 : (M 0 1 + 19) / 20 = 2 := by omega
      omega
    · have a2 : 3 ≤ (M 0 1 + 19) / 20 := by omega
      omega
  omega
theorem vr_load (hn : 1000000 ≤ nn) {t : Nat} (ht : t < 512) {M : ms_M} {c s : Nat} (V : VRm nn t M c s) : ∃ x M1 c1 s1 y M2, qf_X12_load nn M = some (x, M1, c1, s1) ∧ qf_X13_load nn M1 = some (y, M2) ∧ VRm nn (t + 1) M2 (c + c1) (s + s1) := by
  have V0 := V
  obtain ⟨v1, v2, v3, v4, v5, v6⟩ := V
  obtain ⟨x, M1, c1, s1, y, M2, g1, g2, B, k9, k1, k2⟩ := bs_load hn (by omega) v1 (by omega)
  have W := bva_v v1
  have g01 := gF_0_1 W
  obtain ⟨R3, R2⟩ := ld_k hn W (by omega) g1
  have e0 : M2 0 1 = 0 := ((ff_X13_load nn) _ g2 0 1 rfl : M2 0 1 = M1 0 1).trans R3
  have e1 : M2 160 1 = 0 := r0_load _ g2
  refine ⟨x, M1, c1, s1, y, M2, g1, g2, vr_mk (vr_B B) (fun k => ((ff_X13_load nn) _ g2 7 k (nw_ar rfl k) : M2 7 k = M1 7 k).trans (R2 k)) (tp_zero e1 e0) (by omega) (by omega) ?_ V0⟩
  rw [e0]; omega
theorem vr_keep (hn : 1000000 ≤ nn) {t : Nat} (ht : t < 512) {M : ms_M} {c s : Nat} (V : VRm nn t M c s) {a : Int} : ∃ x M1 c1 s1 y M2, qf_X12_keep nn a M = some (x, M1, c1, s1) ∧ qf_X13_keep nn a M1 = some (y, M2) ∧ VRm nn (t + 1) M2 (c + c1) (s + s1) := by
  have V0 := V
  obtain ⟨v1, v2, v3, v4, v5, v6⟩ := V
  obtain ⟨x, M1, c1, s1, y, M2, g1, g2, B, k9, k1, k2⟩ := bs_keep hn (by omega) v1 (by omega) (a1 := a)
  have W := bva_v v1
  have g01 := gF_0_1 W
  have R := kp_k hn W (by omega) g1
  have G := (ff_X13_keep nn) _ g2
  have F1 := (ff_X12_keep nn) _ g1
  have e0 : M2 0 1 = M 0 1 := (G 0 1 rfl : M2 0 1 = M1 0 1).trans (R 0 1 (by decide))
  refine ⟨x, M1, c1, s1, y, M2, g1, g2, vr_mk (vr_B B) (fun k => (G 7 k (nw_ar rfl k) : M2 7 k = M1 7 k).trans (R 7 k (by decide))) (tp_keep v3 ((G 160 1 rfl : M2 160 1 = M1 160 1).trans (F1 160 1 rfl)) e0 (fun k => (G 161 k (nw_ar rfl k) : M2 161 k = M1 161 k).trans (F1 161 k (nw_ar rfl k))) (fun k => (G 1 k (nw_ar rfl k) : M2 1 k = M1 1 k).trans (R 1 k (by decide)))) (by omega) (by omega) ?_ V0⟩
  rw [e0]; omega
theorem vr_patch (hn : 1000000 ≤ nn) {t : Nat} {M : ms_M} {c s : Nat} (V : VRm nn t M c s) {a b d : Int} (r1 : in_R a) : ∃ x M1 y M2, qf_X12_patch nn a b d M = some (x, M1) ∧ qf_X13_patch nn a b d M1 = some (y, M2) ∧ VRm nn (t + 1) M2 c s := by
  have V0 := V
  obtain ⟨v1, v2, v3, v4, v5, v6⟩ := V
  obtain ⟨x, M1, y, M2, g1, g2, B, k9⟩ := bs_patch hn (by omega) (a2 := b) (a3 := d) r1 v1
  have W := bva_v v1
  have R := pat_k W v1.1.2.2.2 g1
  have G := (ff_X13_patch nn) _ g2
  have F1 := (ff_X12_patch nn) _ g1
  have e0 : M2 0 1 = M 0 1 := (G 0 1 rfl : M2 0 1 = M1 0 1).trans (R 0 1 (by decide))
  refine ⟨x, M1, y, M2, g1, g2, vr_mk (c1 := 0) (s1 := 0) (vr_B B) (fun k => (G 7 k (nw_ar rfl k) : M2 7 k = M1 7 k).trans (R 7 k (by decide))) (tp_keep v3 ((G 160 1 rfl : M2 160 1 = M1 160 1).trans (F1 160 1 rfl)) e0 (fun k => (G 161 k (nw_ar rfl k) : M2 161 k = M1 161 k).trans (F1 161 k (nw_ar rfl k))) (fun k => (G 1 k (nw_ar rfl k) : M2 1 k = M1 1 k).trans (R 1 k (by decide)))) (by omega) (by omega) ?_ V0⟩
  rw [e0]; omega
/-- a call that leaves the tapes and the names -/
theorem vr_fr {t : Nat} {M M1 M2 : ms_M} {c s : Nat} {A1 A2 : List Nat} {B1 B2 : List (Nat × Nat)} (F1 : ∀ c k, nw_F A1 B1 false false c k = true → M1 c k = M c k) (F2 : ∀ c k, nw_F A2 B2 false false c k = true → M2 c k = M1 c k) (q : (((nw_F A1 B1 false false 0 1 && nw_F A2 B2 false false 0 1) && (nw_F A1 B1 false false 160 1 && nw_F A2 B2 false false 160 1)) && ([1, 7, 161].all (fun x => (!(A1.contains x) && (B1.all (fun q => !(Nat.beq q.1 x)) && ((!false || !(is_I x)) && (!false || !(Nat.beq (ly_T x) 1))))) && (!(A2.contains x) && (B2.all (fun q => !(Nat.beq q.1 x)) && ((!false || !(is_I x)) && (!false || !(Nat.beq (ly_T x) 1)))))))) = true) (B : BVa nn (20000 * ((t + 1 : Nat) : Int)) (48000 * ((t + 1 : Nat) : Int)) M2) (k9 : M2 900000 0 = M 900000 0) (V : VRm nn t M c s) : VRm nn (t + 1) M2 c s := by
  obtain ⟨q1, q2⟩ := Bool.and_eq_true_iff.mp q
  obtain ⟨q1, q3⟩ := Bool.and_eq_true_iff.mp q1
  obtain ⟨a1, a2⟩ := Bool.and_eq_true_iff.mp q1
  obtain ⟨b1, b2⟩ := Bool.and_eq_true_iff.mp q3
  have e0 : M2 0 1 = M 0 1 := (F2 0 1 a2).trans (F1 0 1 a1)
  have e1 : M2 160 1 = M 160 1 := (F2 160 1 b2).trans (F1 160 1 b1)
  have R : ∀ x : Nat, x ∈ [1, 7, 161] → ∀ k, M2 x k = M x k := fun x hx k => by
    obtain ⟨z1, z2⟩ := Bool.and_eq_true_iff.mp (List.all_eq_true.mp q2 x hx)
    exact (F2 x k (nw_ar z2 k)).trans (F1 x k (nw_ar z1 k))
  refine vr_mk (c1 := 0) (s1 := 0) B (R 7 (by decide)) (tp_keep V.2.2.1 e1 e0 (R 161 (by decide)) (R 1 (by decide))) (by omega) (by omega) (by rw [e0]; omega) V
theorem vr_clear (hn : 1000000 ≤ nn) {t : Nat} {M : ms_M} {c s : Nat} (V : VRm nn t M c s) : ∃ M1 M2, qf_X12_clear nn M = some M1 ∧ qf_X13_clear nn M1 = some M2 ∧ VRm nn (t + 1) M2 c s := by
  obtain ⟨M1, M2, g1, g2, B, k9⟩ := bs_clear hn (by omega) V.1
  exact ⟨M1, M2, g1, g2, vr_fr ((ff_X12_clear nn) _ g1) ((ff_X13_clear nn) _ g2) rfl (vr_B B) k9 V⟩
theorem vr_verify (hn : 1000000 ≤ nn) {t : Nat} {M : ms_M} {c s : Nat} (V : VRm nn t M c s) : ∃ x M1 y M2, qf_X12_verify nn M = some (x, M1) ∧ qf_X13_verify nn M1 = some (y, M2) ∧ VRm nn (t + 1) M2 c s := by
  obtain ⟨x, M1, y, M2, g1, g2, B, k9⟩ := bs_verify hn V.1
  exact ⟨x, M1, y, M2, g1, g2, vr_fr ((ff_X12_verify nn) _ g1) ((ff_X13_verify nn) _ g2) rfl (vr_B B) k9 V⟩
theorem vr_start (hn : 1000000 ≤ nn) {t : Nat} {M : ms_M} {c s : Nat} (V : VRm nn t M c s) {a b : Int} (r1 : in_R a) (r2 : in_R b) : ∃ x M1 y M2, qf_X12_start nn a b M = some (x, M1) ∧ qf_X13_start nn a b M1 = some (y, M2) ∧ VRm nn (t + 1) M2 c s := by
  obtain ⟨x, M1, y, M2, g1, g2, B, k9⟩ := bs_start hn (by omega) r1 r2 V.1
  exact ⟨x, M1, y, M2, g1, g2, vr_fr ((ff_X12_start nn) _ g1) ((ff_X13_start nn) _ g2) rfl (vr_B B) k9 V⟩
theorem vr_run (hn : 1000000 ≤ nn) {t : Nat} (ht : t < 512) {M : ms_M} {c s : Nat} (V : VRm nn t M c s) {a : Int} : ∃ x M1 y M2, qf_X12_run nn a M = some (x, M1) ∧ qf_X13_run nn a M1 = some (y, M2) ∧ VRm nn (t + 1) M2 c s := by
  obtain ⟨x, M1, y, M2, g1, g2, B, k9⟩ := bs_run hn (by omega) (a1 := a) V.1
  exact ⟨x, M1, y, M2, g1, g2, vr_fr ((ff_X12_run nn) _ g1) ((ff_X13_run nn) _ g2) rfl (bs_le B (by omega) (by omega)) k9 V⟩
end
end
section
/- THE START: the word 'class', the empty tapes -/
def iz_Y : Bool := match in_0 with
  | some (_, _, h, _, _) => decide (rd_H h 7 12 = 91 ∧ rd_H h 7 13 = 96 ∧ rd_H h 0 1 = 0 ∧ rd_H h 160 1 = 0)
  | none => false
theorem iz_y : iz_Y = true := by decide +kernel
theorem m0_r5 {c k : Nat} (hc : c < 256) : M_0 c k = rd_H h_0 c k := by
  show M_H h_0 c k = _
  unfold M_H; rw [if_neg (by omega), if_pos hc]
theorem KCl_a : KCl M_0 ∧ tp_R M_0 ∧ M_0 0 1 = 0 := by
  have h := iz_y
  unfold iz_Y at h
  rw [in_all.1] at h
  have h : _ = true := h
  obtain ⟨h1, h2, h3, h4⟩ := of_decide_eq_true h
  have R : ∀ {c k : Nat}, c < 256 → M_0 c k = rd_H h_0 c k := m0_r5
  rw [← R (by decide)] at h1 h2 h3 h4
  exact ⟨⟨h1, h2⟩, tp_zero h4 h3, h3⟩
theorem KCl_0 : KCl M_0 ∧ tp_R M_0 := ⟨KCl_a.1, KCl_a.2.1⟩
theorem KCl_1 : M_0 0 1 = 0 := KCl_a.2.2
end

/- BOTH SIDES ARE SAFE IN EVERY CALL -/
theorem nw_rng {A : List Nat} {B : List (Nat × Nat)} {lo hi c k : Nat} (q : (A.all (fun x => Nat.blt x lo || Nat.blt hi x) && B.all (fun y => Nat.blt y.1 lo || Nat.blt hi y.1)) = true) (hc : lo ≤ c ∧ c ≤ hi) : nw_F A B false false c k = true := by
  rw [Bool.and_eq_true] at q
  unfold nw_F
  simp only [Bool.and_eq_true]
  refine ⟨?_, ?_, rfl, rfl⟩
  · cases hq : A.contains c with
    | false => rfl
    | true => have := List.all_eq_true.mp q.1 c (List.contains_iff_mem.mp hq); rw [Bool.or_eq_true, Nat.blt_eq, Nat.blt_eq] at this; omega
  · cases hq : B.contains (c, k) with
    | false => rfl
    | true => have := List.all_eq_true.mp q.2 _ (List.contains_iff_mem.mp hq); rw [Bool.or_eq_true, Nat.blt_eq, Nat.blt_eq] at this; dsimp only at this; omega
section
variable {nn : Nat} {h g r z : ms_M} {p q P Q L : Int}
theorem rva_fr {A : List Nat} {B : List (Nat × Nat)} (V0 : VS_ h) (V : VS_ r) (F : ∀ c k, nw_F A B false false c k = true → r c k = h c k) (h1 : (A.all (fun x => Nat.blt x 163 || Nat.blt 220 x) && B.all (fun y => Nat.blt y.1 163 || Nat.blt 220 y.1)) = true) (h2 : (A.all (fun x => Nat.blt x 226 || Nat.blt 237 x) && B.all (fun y => Nat.blt y.1 226 || Nat.blt 237 y.1)) = true) (h3 : (A.all (fun x => Nat.blt x 246 || Nat.blt 255 x) && B.all (fun y => Nat.blt y.1 246 || Nat.blt 255 y.1)) = true) (h4 : (nw_F A B false false 160 88 && (nw_F A B false false 160 98 && (nw_F A B false false 160 99 && (nw_F A B false false 160 138 && (nw_F A B false false 160 141 && (nw_F A B false false 160 142 && (nw_F A B false false 160 143 && nw_F A B false false 160 149))))))) = true) (R : RVa nn P L h) : RVa nn P L r := by
  simp only [Bool.and_eq_true (nw_F A B false false 160 88), Bool.and_eq_true (nw_F A B false false 160 98), Bool.and_eq_true (nw_F A B false false 160 99), Bool.and_eq_true (nw_F A B false false 160 138), Bool.and_eq_true (nw_F A B false false 160 141), Bool.and_eq_true (nw_F A B false false 160 142), Bool.and_eq_true (nw_F A B false false 160 143)] at h4
  obtain ⟨e0, e1, e2, e3, e4, e5, e6, e7⟩ := h4
  refine rva_k V0 V (rta_k (fun x k y1 y2 => F x k (nw_rng h1 ⟨y1, y2⟩)) (F _ _ e0) R.1) (fun x k y1 y2 y3 => ?_) (fun k hk => ?_) R
  · by_cases w : x ≤ 237
    · exact F x k (nw_rng h2 ⟨y1, w⟩)
    · exact F x k (nw_rng h3 ⟨by omega, y2⟩)
  · rcases hk with rfl | rfl | rfl | rfl | rfl | rfl | rfl
    · exact F _ _ e1
    · exact F _ _ e2
    · exact F _ _ e3
    · exact F _ _ e4
    · exact F _ _ e5
    · exact F _ _ e6
    · exact F _ _ e7
theorem bs_feed (hn : 1000000 ≤ nn) {a1 a2 a3 a4 a5 : Int} (r1 : in_R a1) (r2 : in_R a2) (r3 : in_R a3) (r4 : in_R a4) (r5 : in_R a5) (B : BVa nn P L h) : ∃ x M1 y M2, qf_X12_feed nn a1 a2 a3 a4 a5 h = some (x, M1) ∧ qf_X13_feed nn a1 a2 a3 a4 a5 M1 = some (y, M2) ∧ BVa nn P L M2 ∧ M2 900000 0 = h 900000 0 := by
  obtain ⟨u, eu, C⟩ := cva_feed hn r1 r2 r3 r4 r5 B.1
  have B1 := bva_c B C (by omega) (fun x k a b => (ff_X12_feed nn) _ eu x k (nw_ref rfl ⟨a, b⟩))
  obtain ⟨v, ev, V⟩ := vf_X13_feed hn r1.1 r1.2 r2.1 r2.2 r3.1 r3.2 r4.1 r4.2 r5.1 r5.2 C.1.1
  have F := (ff_X13_feed nn) _ ev
  have R : RVa nn P L v.2 := rva_fr C.1.1 V.1 (fun c k w => F c k w) rfl rfl rfl rfl B1.2
  refine ⟨u.1, u.2, v.1, v.2, eu, ev, bva_r B1 V.1 R (fun x k hx => F x k (nw_cls rfl hx)), ?_⟩
  rw [show v.2 900000 0 = u.2 900000 0 from F 900000 0 rfl]
  exact (ff_X12_feed nn) _ eu 900000 0 rfl
theorem bs_end (hn : 1000000 ≤ nn) {a1 : Int} (r1 : in_R a1) (B : BVa nn P L h) : ∃ x M1 y M2, qf_X12_end nn a1 h = some (x, M1) ∧ qf_X13_end nn a1 M1 = some (y, M2) ∧ BVa nn P L M2 ∧ M2 900000 0 = h 900000 0 := by
  obtain ⟨u, eu, C⟩ := cva_end hn r1 B.1
  have B1 := bva_c B C (by omega) (fun x k a b => (ff_X12_end nn) _ eu x k (nw_ref rfl ⟨a, b⟩))
  obtain ⟨v, ev, V⟩ := vf_X13_end hn r1.1 r1.2 C.1.1
  have F := (ff_X13_end nn) _ ev
  have R : RVa nn P L v.2 := rva_fr C.1.1 V.1 (fun c k w => F c k w) rfl rfl rfl rfl B1.2
  refine ⟨u.1, u.2, v.1, v.2, eu, ev, bva_r B1 V.1 R (fun x k hx => F x k (nw_cls rfl hx)), ?_⟩
  rw [show v.2 900000 0 = u.2 900000 0 from F 900000 0 rfl]
  exact (ff_X12_end nn) _ eu 900000 0 rfl
theorem bs_compile (hn : 1000000 ≤ nn) (hL : L ≤ 1600000000) (B : BVa nn P L h) (hc : h 900000 0 + 8 < 700000) : ∃ x M1 c s y M2, qf_X12_compile nn h = some (x, M1, c, s) ∧ qf_X13_compile nn M1 = some (y, M2) ∧ BVa nn P (L + 48000) M2 ∧ (h 900000 0 ≤ M2 900000 0 ∧ M2 900000 0 ≤ h 900000 0 + (c : Int)) ∧ c ≤ 8 ∧ s ≤ 48000 := by
  obtain ⟨u, eu, C, pq⟩ := cva_compile hn B.1 hc
  have B1 := bva_c B C (by omega) (fun x k a b => (ff_X12_compile nn) _ eu x k (nw_ref rfl ⟨a, b⟩))
  have T := B1.2.1
  obtain ⟨v, ev, W⟩ := rc_compile hn C.1.1 T.1 T.2.1 T.2.2.1 (by have := T.2.2.2; omega)
  have F := (ff_X13_compile nn) _ ev
  have R : RVa nn P (L + 48000) v.2 := by
    refine rva_k C.1.1 W.1 ⟨W.2.1, W.2.2.1, W.2.2.2.1, by have := W.2.2.2.2.1; have := T.2.2.2; omega⟩ (fun x k y1 y2 _ => F x k (nw_rng (lo := 226) (hi := 255) rfl ⟨y1, y2⟩)) (fun k hk => ?_) B1.2
    rcases hk with rfl | rfl | rfl | rfl | rfl | rfl | rfl <;> exact F _ _ rfl
  refine ⟨u.1, u.2.1, u.2.2.1, u.2.2.2, v.1, v.2, eu, ev, bva_r B1 W.1 R (fun x k hx => F x k (nw_cls rfl hx)), ?_, pq.2.2.2.1, pq.2.2.2.2⟩
  rw [show v.2 900000 0 = u.2.1 900000 0 from F 900000 0 rfl]
  exact pq.2.2.1
/-- what the reference's loading leaves -/
theorem rva_ld {w : Int × ms_M} (V0 : VS_ h) (q : QLE h w) (T : RTa L w.2) (e : w.2 160 143 = h 160 143) (R : RVa nn P L h) : RVa nn P L w.2 := by
  obtain ⟨⟨V, S, N⟩, K⟩ := q
  have e : ∀ k : Nat, (k = 141 ∨ k = 142 ∨ k = 143 ∨ k = 149) → w.2 160 k = h 160 k := fun k hk => N 160 k (by omega) (by unfold LF; omega)
  refine ⟨T, S, fun y => ?_, fun y => ?_, by rw [e 143 (by omega)]; exact R.2.2.2.2⟩
  · rcases K with ⟨k1, k2⟩ | ⟨k1, k2, k3⟩
    · exact absurd k1 y
    · exact vrd_k k3 (R.2.2.1 (by rw [← k1]; exact y))
  · rcases K with ⟨k1, k2⟩ | ⟨k1, k2, k3⟩
    · omega
    · exact rgo_k V S k3 (fun x j y1 y2 => N x j (by omega) (by omega)) (e 141 (by omega)) (e 142 (by omega)) (e 149 (by omega)) (R.2.2.2.1 (by rw [← k2]; exact y))
theorem bs_load (hn : 1000000 ≤ nn) (hP : 0 ≤ P) (B : BVa nn P L h) (hc : h 900000 0 < 700000) : ∃ x M1 c s y M2, qf_X12_load nn h = some (x, M1, c, s) ∧ qf_X13_load nn M1 = some (y, M2) ∧ BVa nn P L M2 ∧ (h 900000 0 ≤ M2 900000 0 ∧ M2 900000 0 ≤ h 900000 0 + (c : Int)) ∧ c ≤ 1 ∧ s ≤ 6000 := by
  obtain ⟨u, eu, C, pq⟩ := cva_load hn hP B.1 hc
  have B1 := bva_c B C (by omega) (fun x k a b => (ff_X12_load nn) _ eu x k (nw_ref rfl ⟨a, b⟩))
  obtain ⟨v, ev, W⟩ := lx_load hn C.1.1 B1.2.2.1
  have F := (ff_X13_load nn) _ ev
  have R := rva_ld C.1.1 W (rta_k (fun x k y1 y2 => F x k (nw_rng (lo := 163) (hi := 220) rfl ⟨y1, y2⟩)) (F 160 88 rfl) B1.2.1) (F 160 143 rfl) B1.2
  refine ⟨u.1, u.2.1, u.2.2.1, u.2.2.2, v.1, v.2, eu, ev, bva_r B1 W.1.1 R (fun x k hx => F x k (nw_cls rfl hx)), ?_, pq.2.2.2.1, pq.2.2.2.2⟩
  rw [show v.2 900000 0 = u.2.1 900000 0 from F 900000 0 rfl]
  exact pq.2.2.1
theorem bs_keep (hn : 1000000 ≤ nn) (hP : 0 ≤ P) {a1 : Int} (B : BVa nn P L h) (hc : h 900000 0 < 700000) : ∃ x M1 c s y M2, qf_X12_keep nn a1 h = some (x, M1, c, s) ∧ qf_X13_keep nn a1 M1 = some (y, M2) ∧ BVa nn P L M2 ∧ (h 900000 0 ≤ M2 900000 0 ∧ M2 900000 0 ≤ h 900000 0 + (c : Int)) ∧ c ≤ 1 ∧ s ≤ 6000 := by
  obtain ⟨u, eu, C, pq⟩ := cva_keep hn hP (a1 := a1) B.1 hc
  have B1 := bva_c B C (by omega) (fun x k a b => (ff_X12_keep nn) _ eu x k (nw_ref rfl ⟨a, b⟩))
  obtain ⟨v, ev, W⟩ := lx_keep hn C.1.1 B1.2.2.1 (a := a1)
  have F := (ff_X13_keep nn) _ ev
  have R := rva_ld C.1.1 W (rta_k (fun x k y1 y2 => F x k (nw_rng (lo := 163) (hi := 220) rfl ⟨y1, y2⟩)) (F 160 88 rfl) B1.2.1) (F 160 143 rfl) B1.2
  refine ⟨u.1, u.2.1, u.2.2.1, u.2.2.2, v.1, v.2, eu, ev, bva_r B1 W.1.1 R (fun x k hx => F x k (nw_cls rfl hx)), ?_, pq.2.2.2.1, pq.2.2.2.2⟩
  rw [show v.2 900000 0 = u.2.1 900000 0 from F 900000 0 rfl]
  exact pq.2.2.1
theorem chg_c {a1 a2 a3 : Int} (V : VS_ h) {w : Int × ms_M} (e : qf_X7_change nn a1 a2 a3 h = some w) : w.2 900000 0 = h 900000 0 := by
  have hb := (vi_r V).1.2
  have ib := im_at hb
  have hM := V.2.1.1
  unfold qf_X7_change at e
  obtain ⟨u4, e4, e⟩ := sv_i e
  by_cases c1 : u4 < 0
  · rw [if_pos c1] at e; cases e; rfl
  rw [if_neg c1] at e
  by_cases c2 : a2 < 0
  · rw [if_pos c2] at e; cases e; rfl
  rw [if_neg c2] at e
  obtain ⟨hd, e⟩ := ck_i e
  by_cases c3 : ¬ a2 < h u4.toNat 1
  · rw [if_neg c3] at e; cases e; rfl
  rw [if_pos (Decidable.not_not.1 c3)] at e
  obtain ⟨u9, e9, e⟩ := sv_i e
  obtain ⟨-, e⟩ := ck_i e
  have e := rt_i e
  rw [xl_eq] at e
  obtain ⟨hw, e⟩ := wti_ e
  have l9 : u9.toNat < 700001 := by have := hw.1.1; unfold cn_M at this; omega
  have f13 : ∀ c k, ¬ (c = u9.toNat ∧ k = a2.toNat) → up_M h u9.toNat a2.toNat (oq_b (oq_b a3)) c k = h c k := fun c k w => up_n w
  generalize up_M h u9.toNat a2.toNat (oq_b (oq_b a3)) = h13 at *
  obtain ⟨-, e⟩ := ck_i e
  obtain ⟨hb13, e⟩ := ck_i e
  obtain ⟨u17, e17, e⟩ := sv_i e
  have i13 := im_at hb13
  have q17 : u17.2 900000 0 = h 900000 0 := ((of_X3_read nn hb13) _ e17 900000 0 (by show _ ∨ _; omega)).trans (f13 _ _ (by omega))
  have back : ∀ {v : Int} {r : Int × ms_M}, qj_X7_change_72 nn a2 ((u9.toNat : Nat) : Int) v u17.2 = some r → r.2 900000 0 = h 900000 0 := by
    intro v r e
    unfold qj_X7_change_72 at e
    obtain ⟨-, e⟩ := ck_i e
    obtain ⟨hw2, e⟩ := wti_ e
    cases e
    show up_M _ _ _ _ 900000 0 = _
    rw [Int.toNat_natCast, up_n (by omega)]; exact q17
  by_cases d1 : ¬ u17.1 = -1
  · rw [if_pos d1] at e; exact back e
  rw [if_neg d1] at e
  obtain ⟨u19, e19, e⟩ := sv_i e
  by_cases d2 : u19 = 0
  · rw [if_pos d2, xl_eq] at e
    obtain ⟨u22, e22, e⟩ := sv_i e
    obtain ⟨u24, e24, e⟩ := sv_i e
    cases e
    have i22 := (sw_i e22).2
    show u24 900000 0 = _
    rw [rl_fr e24 900000 0 (by omega), i22, up_n (by omega), up_n (by omega)]; exact q17
  · rw [if_neg d2] at e; exact back e
theorem pat_c {a1 a2 a3 : Int} (V : VS_ h) {w : Int × ms_M} (e : qf_X12_patch nn a1 a2 a3 h = some w) : w.2 900000 0 = h 900000 0 := by
  unfold qf_X12_patch at e
  obtain ⟨u3, e3, e⟩ := sv_i e
  have q := chg_c V e3
  by_cases c : u3.1 = 0
  · rw [if_pos c] at e
    obtain ⟨-, e⟩ := ck_i e
    cases e; exact q
  · rw [if_neg c] at e
    obtain ⟨u7, e7, e⟩ := sv_i e
    obtain ⟨-, e⟩ := ck_i e
    cases e
    show u7 900000 0 = _
    rw [show u7 900000 0 = u3.2 900000 0 from (ff_X5_forget nn) _ e7 900000 0 rfl]; exact q
theorem bs_patch (hn : 1000000 ≤ nn) (hP : 0 ≤ P) {a1 a2 a3 : Int} (r1 : in_R a1) (B : BVa nn P L h) : ∃ x M1 y M2, qf_X12_patch nn a1 a2 a3 h = some (x, M1) ∧ qf_X13_patch nn a1 a2 a3 M1 = some (y, M2) ∧ BVa nn P L M2 ∧ M2 900000 0 = h 900000 0 := by
  obtain ⟨u, eu, C⟩ := cva_patch hn hP (a2 := a2) (a3 := a3) r1 B.1
  have B1 := bva_c B C (by omega) (fun x k a b => (ff_X12_patch nn) _ eu x k (nw_ref rfl ⟨a, b⟩))
  obtain ⟨v, ev, W⟩ := lx_patch2 hn C.1.1 B1.2.2.1 (a := a1) (b := a2) (d := a3) r1
  have F := (ff_X13_patch nn) _ ev
  have R := rva_ld C.1.1 W (rta_k (fun x k y1 y2 => F x k (nw_rng (lo := 163) (hi := 220) rfl ⟨y1, y2⟩)) (F 160 88 rfl) B1.2.1) (F 160 143 rfl) B1.2
  refine ⟨u.1, u.2, v.1, v.2, eu, ev, bva_r B1 W.1.1 R (fun x k hx => F x k (nw_cls rfl hx)), ?_⟩
  rw [show v.2 900000 0 = u.2 900000 0 from F 900000 0 rfl]
  exact pat_c B.1.1.1 eu
theorem bs_clear (hn : 1000000 ≤ nn) (hP : 0 ≤ P) (B : BVa nn P L h) : ∃ M1 M2, qf_X12_clear nn h = some M1 ∧ qf_X13_clear nn M1 = some M2 ∧ BVa nn P L M2 ∧ M2 900000 0 = h 900000 0 := by
  obtain ⟨u, eu, C⟩ := cva_clear hn hP B.1
  have B1 := bva_c B C (by omega) (fun x k a b => (ff_X12_clear nn) _ eu x k (nw_ref rfl ⟨a, b⟩))
  obtain ⟨v, ev, W⟩ := vf_X13_clear hn C.1.1
  have F := (ff_X13_clear nn) _ ev
  have z : v 160 98 = 0 ∧ v 160 99 = 0 ∧ v 160 138 = 0 := by
    have e := ev
    unfold qf_X13_clear at e
    rw [xl_eq, xl_eq, xl_eq] at e
    have e := Option.some.inj e
    rw [← e]
    exact ⟨by rw [up_n (by omega), up_n (by omega), up_s], by rw [up_n (by omega), up_s], up_s⟩
  have R : RVa nn P L v := ⟨rta_k (fun x k y1 y2 => F x k (nw_rng (lo := 163) (hi := 220) rfl ⟨y1, y2⟩)) (F 160 88 rfl) B1.2.1, fun c c0 c1 => by omega, fun y => absurd z.2.1 y, fun y => by omega, by rw [show v 160 143 = u 160 143 from F 160 143 rfl]; exact B1.2.2.2.2.2⟩
  refine ⟨u, v, eu, ev, bva_r B1 W R (fun x k hx => F x k (nw_cls rfl hx)), ?_⟩
  rw [show v 900000 0 = u 900000 0 from F 900000 0 rfl]
  exact (ff_X12_clear nn) _ eu 900000 0 rfl
theorem bs_verify (hn : 1000000 ≤ nn) (B : BVa nn P L h) : ∃ x M1 y M2, qf_X12_verify nn h = some (x, M1) ∧ qf_X13_verify nn M1 = some (y, M2) ∧ BVa nn P L M2 ∧ M2 900000 0 = h 900000 0 := by
  obtain ⟨u, eu, C⟩ := cva_verify hn B.1
  have B1 := bva_c B C (by omega) (fun x k a b => (ff_X12_verify nn) _ eu x k (nw_ref rfl ⟨a, b⟩))
  obtain ⟨v, ev, V, NXv, S, VV⟩ := k_verify hn C.1.1 B1.2.2.1
  have F := (ff_X13_verify nn) _ ev
  have N1 : ∀ x k : Nat, 226 ≤ x → x ≤ 237 → v.2 x k = u.2 x k := fun x k y1 y2 => F x k (nw_rng (lo := 226) (hi := 237) rfl ⟨y1, y2⟩)
  have R : RVa nn P L v.2 := by
    refine ⟨rta_k (fun x k y1 y2 => F x k (nw_rng (lo := 163) (hi := 220) rfl ⟨y1, y2⟩)) (F 160 88 rfl) B1.2.1, S, fun y => vrd_of V S (VV y), fun y => ?_, by rw [show v.2 160 143 = u.2 160 143 from F 160 143 rfl]; exact B1.2.2.2.2.2⟩
    refine rgo_k V S (age_k N1 (F 160 98 rfl)) (fun x j y1 y2 => F x j (nw_rng (lo := 246) (hi := 255) rfl ⟨y1, y2⟩)) (F 160 141 rfl) (F 160 142 rfl) (F 160 149 rfl) (B1.2.2.2.2.1 ?_)
    rw [← show v.2 160 138 = u.2 160 138 from F 160 138 rfl]; exact y
  refine ⟨u.1, u.2, v.1, v.2, eu, ev, bva_r B1 V R (fun x k hx => F x k (nw_cls rfl hx)), ?_⟩
  rw [show v.2 900000 0 = u.2 900000 0 from F 900000 0 rfl]
  exact (ff_X12_verify nn) _ eu 900000 0 rfl
theorem bs_start (hn : 1000000 ≤ nn) (hP : 0 ≤ P) {a1 a2 : Int} (r1 : in_R a1) (r2 : in_R a2) (B : BVa nn P L h) : ∃ x M1 y M2, qf_X12_start nn a1 a2 h = some (x, M1) ∧ qf_X13_start nn a1 a2 M1 = some (y, M2) ∧ BVa nn P L M2 ∧ M2 900000 0 = h 900000 0 := by
  obtain ⟨u, eu, C⟩ := cva_start hn hP r1 r2 B.1
  have B1 := bva_c B C (by omega) (fun x k a b => (ff_X12_start nn) _ eu x k (nw_ref rfl ⟨a, b⟩))
  obtain ⟨v, ev, V, NM, G⟩ := s_start hn C.1.1 B1.2.2.1 B1.2.2.2.1 (y := a1) (u := a2) r1
  have F := (ff_X13_start nn) _ ev
  have N1 : ∀ x k : Nat, 226 ≤ x → x ≤ 237 → v.2 x k = u.2 x k := fun x k y1 y2 => F x k (nw_rng (lo := 226) (hi := 237) rfl ⟨y1, y2⟩)
  have R : RVa nn P L v.2 := by
    rcases G with G | ⟨g1, g2⟩
    · rw [G]; exact B1.2
    · refine ⟨rta_k (fun x k y1 y2 => F x k (nw_rng (lo := 163) (hi := 220) rfl ⟨y1, y2⟩)) (F 160 88 rfl) B1.2.1, spd_k C.1.1 N1 (F 160 98 rfl) B1.2.2.1, fun y => vrd_k (age_k N1 (F 160 98 rfl)) (B1.2.2.2.1 ?_), fun _ => g2, by omega⟩
      rw [← show v.2 160 99 = u.2 160 99 from F 160 99 rfl]; exact y
  refine ⟨u.1, u.2, v.1, v.2, eu, ev, bva_r B1 V R (fun x k hx => F x k (nw_cls rfl hx)), ?_⟩
  rw [show v.2 900000 0 = u.2 900000 0 from F 900000 0 rfl]
  exact (ff_X12_start nn) _ eu 900000 0 rfl
theorem bs_run (hn : 1000000 ≤ nn) (hP : 0 ≤ P ∧ P + 20000 ≤ 1900000000) {a1 : Int} (B : BVa nn P L h) : ∃ x M1 y M2, qf_X12_run nn a1 h = some (x, M1) ∧ qf_X13_run nn a1 M1 = some (y, M2) ∧ BVa nn (P + 20000) L M2 ∧ M2 900000 0 = h 900000 0 := by
  obtain ⟨u, eu, C⟩ := cva_run hn (a1 := a1) (Z := P + 20000) B.1 (by omega) (by omega)
  have B1 := bva_c B C (by omega) (fun x k a b => (ff_X12_run nn) _ eu x k (nw_ref rfl ⟨a, b⟩))
  have e143 : u.2 160 143 = h 160 143 := (ff_X12_run nn) _ eu 160 143 rfl
  obtain ⟨v, ev, V, N, G, pr⟩ := s_run hn C.1.1 (P := P) (y := a1) B1.2.2.2.2.1 (by rw [e143]; exact B.2.2.2.2.2) (by omega)
  have F := (ff_X13_run nn) _ ev
  have N1 : ∀ x k : Nat, 226 ≤ x → x ≤ 237 → v.2 x k = u.2 x k := fun x k y1 y2 => F x k (nw_rng (lo := 226) (hi := 237) rfl ⟨y1, y2⟩)
  have R : RVa nn (P + 20000) L v.2 := by
    refine ⟨rta_k (fun x k y1 y2 => F x k (nw_rng (lo := 163) (hi := 220) rfl ⟨y1, y2⟩)) (F 160 88 rfl) B1.2.1, spd_k C.1.1 N1 (F 160 98 rfl) B1.2.2.1, fun y => vrd_k (age_k N1 (F 160 98 rfl)) (B1.2.2.2.1 ?_), G, pr⟩
    rw [← show v.2 160 99 = u.2 160 99 from F 160 99 rfl]; exact y
  refine ⟨u.1, u.2, v.1, v.2, eu, ev, bva_r B1 V R (fun x k hx => F x k (nw_cls rfl hx)), ?_⟩
  rw [show v.2 900000 0 = u.2 900000 0 from F 900000 0 rfl]
  exact (ff_X12_run nn) _ eu 900000 0 rfl
theorem bs_le (B : BVa nn P L h) (h1 : P ≤ Q) (h2 : L ≤ q) : BVa nn Q q h := by
  obtain ⟨⟨⟨a, b, c, d, e⟩, C⟩, ⟨t1, t2, t3, t4⟩, r1, r2, r3, r4⟩ := B
  exact ⟨⟨⟨a, b, c, d, by omega⟩, C⟩, ⟨t1, t2, t3, by omega⟩, r1, r2, r3, by omega⟩
end

/- THE ROOM, AND THE TAPES: AN INVARIANT OF ALL SIXTEEN CALLS -/
section
variable {nn : Nat} {h g r : ms_M} {P L : Int}
/-- bringing an Image leaves what the compiler and the tape have -/
theorem brg_c (hn : 1000000 ≤ nn) {a1 : Nat} {a2 : Int} (V : VS_ h) (ta : a1 < cn_M h ∧ ly_T a1 = 1) (ha : 0 ≤ a2 ∧ a2 ≤ 6000) (hc : h 900000 0 < 700000) : Pc (qf_X7_bring nn a1 a2 h) (fun r => ∀ c k : Nat, c < 56 → r.2.1 c k = h c k) := by
  have hb := (vi_r V).1.2
  have ib := im_at hb
  unfold qf_X7_bring
  refine pc_ck (fun _ => pc_ck (fun _ => pc_se (fun u3 e3 => ?_)))
  have F : ∀ c k, (c < (h 56 2).toNat ∨ (h 56 2).toNat + 6 < c) → u3.2 c k = h c k := fun c k q => (of_X3_read nn hb) _ e3 c k q
  have K : ∀ c k : Nat, c < 56 → u3.2 c k = h c k := fun c k q => F c k (by omega)
  have V3 := (okof (vf_X3_read hn hb (by omega) (by omega) V ta ha) e3).1
  refine pc_if (fun c => ?_) (fun _ => pc_xl (fun _ _ => pc_ret K))
  refine pc_ck (fun _ => pc_ck (fun _ => pc_if (fun _ => pc_ret K) (fun c8 => ?_)))
  refine pc_ck (fun _ => pc_ck (fun _ => pc_se (fun _ _ => pc_ck (fun _ => pc_se (fun _ _ => pc_se (fun u15 _ => ?_))))))
  refine pc_if (fun _ => ?_) (fun _ => pc_ret K)
  refine pc_ck (fun _ => pc_se (fun u18 e18 => pc_se (fun u21 e21 => ?_)))
  have s2 : u3.2 56 2 = h 56 2 := F 56 2 (by omega)
  have s9 : u3.2 900000 0 = h 900000 0 := F 900000 0 (by omega)
  rw [s2] at e18
  have k1 := (okof (vf_X3_keepOwn hb V3 (by omega)) e18).2.2.1
  have i21 := (sw_i e21).2
  refine pc_xl (fun v23 e23 => pc_xl (fun h24 e24 => pc_se (fun u26 e26 => pc_xl (fun v28 e28 => pc_xl (fun v29 e29 => pc_ret (fun c k q => ?_))))))
  show u26 c k = h c k
  rw [rl_fr e26 c k (by omega), e24, up_n (by omega), i21, up_n (by omega), up_n (by omega), k1 c k (by omega) (by omega)]
  exact K c k q
theorem chg_k {a1 a2 a3 : Int} (V : VS_ h) (J : OJ h) {w : Int × ms_M} (e : qf_X7_change nn a1 a2 a3 h = some w) : ∀ c k : Nat, c < 56 → w.2 c k = h c k := by
  have hb := (vi_r V).1.2
  have ib := im_at hb
  have hM := V.2.1.1
  have g3 := gF_56_3 V
  intro c k hck
  unfold qf_X7_change at e
  obtain ⟨u4, e4, e⟩ := sv_i e
  by_cases c1 : u4 < 0
  · rw [if_pos c1] at e; cases e; rfl
  rw [if_neg c1] at e
  by_cases c2 : a2 < 0
  · rw [if_pos c2] at e; cases e; rfl
  rw [if_neg c2] at e
  obtain ⟨hd, e⟩ := ck_i e
  by_cases c3 : ¬ a2 < h u4.toNat 1
  · rw [if_neg c3] at e; cases e; rfl
  rw [if_pos (Decidable.not_not.1 c3)] at e
  have I4 : (8 ≤ a1 ∧ a1 < 8 + h 56 3) ∧ u4 = h 60 (a1 - 8).toNat := by
    unfold qf_X7_imageOf at e4
    split at e4
    · cases e4; omega
    · rw [xl_eq, oq_add_eq (by omega) (by omega) (by omega)] at e4
      split at e4
      · cases e4; omega
      · rw [xl_eq, oq_sub_eq (by omega) (by omega) (by omega)] at e4
        have e4 := rd_i e4
        cases e4
        exact ⟨by omega, rfl⟩
  obtain ⟨ra, e4⟩ := I4
  have Jd := J (a1 - 8).toNat (by omega)
  rw [← e4] at Jd
  obtain ⟨u9, e9, e⟩ := sv_i e
  have Bd := vi_b V hd
  have e9 : u9 = h u4.toNat 0 := by
    unfold qf_X3_ownBytes at e9
    obtain ⟨-, e9⟩ := ck_i e9
    have e9 := Option.some.inj e9
    rw [← e9]
    exact Int.toNat_of_nonneg Bd.1.1
  obtain ⟨-, e⟩ := ck_i e
  have e := rt_i e
  rw [xl_eq] at e
  obtain ⟨hw, e⟩ := wti_ e
  have n9 : 256 ≤ u9.toNat := by rw [e9]; exact Jd.1
  have f13 : ∀ c k, ¬ (c = u9.toNat ∧ k = a2.toNat) → up_M h u9.toNat a2.toNat (oq_b (oq_b a3)) c k = h c k := fun c k w => up_n w
  generalize up_M h u9.toNat a2.toNat (oq_b (oq_b a3)) = h13 at *
  obtain ⟨-, e⟩ := ck_i e
  obtain ⟨hb13, e⟩ := ck_i e
  obtain ⟨u17, e17, e⟩ := sv_i e
  have i13 := im_at hb13
  have q17 : u17.2 c k = h c k := ((of_X3_read nn hb13) _ e17 c k (by show _ ∨ _; omega)).trans (f13 _ _ (by omega))
  have back : ∀ {v : Int} {r : Int × ms_M}, qj_X7_change_72 nn a2 ((u9.toNat : Nat) : Int) v u17.2 = some r → r.2 c k = h c k := by
    intro v r e
    unfold qj_X7_change_72 at e
    obtain ⟨-, e⟩ := ck_i e
    obtain ⟨hw2, e⟩ := wti_ e
    cases e
    show up_M _ _ _ _ c k = _
    rw [Int.toNat_natCast, up_n (by omega)]; exact q17
  by_cases d1 : ¬ u17.1 = -1
  · rw [if_pos d1] at e; exact back e
  rw [if_neg d1] at e
  obtain ⟨u19, e19, e⟩ := sv_i e
  by_cases d2 : u19 = 0
  · rw [if_pos d2, xl_eq] at e
    obtain ⟨u22, e22, e⟩ := sv_i e
    obtain ⟨u24, e24, e⟩ := sv_i e
    cases e
    have i22 := (sw_i e22).2
    show u24 c k = _
    rw [rl_fr e24 c k (by omega), i22, up_n (by omega), up_n (by omega)]; exact q17
  · rw [if_neg d2] at e; exact back e
theorem fo_k {u : ms_M} (e : qf_X5_forget nn h = some u) (c k : Nat) (hc : c < 56) : u c k = h c k := (ff_X5_forget nn) _ e c k (nw_rng (lo := 0) (hi := 55) rfl ⟨by omega, by omega⟩)
theorem pat_k {a1 a2 a3 : Int} (V : VS_ h) (J : OJ h) {w : Int × ms_M} (e : qf_X12_patch nn a1 a2 a3 h = some w) : ∀ c k : Nat, c < 56 → w.2 c k = h c k := by
  intro c k hck
  unfold qf_X12_patch at e
  obtain ⟨u3, e3, e⟩ := sv_i e
  have q := chg_k V J e3 c k hck
  by_cases d : u3.1 = 0
  · rw [if_pos d] at e
    obtain ⟨-, e⟩ := ck_i e
    cases e; exact q
  · rw [if_neg d] at e
    obtain ⟨u7, e7, e⟩ := sv_i e
    obtain ⟨-, e⟩ := ck_i e
    cases e
    exact (fo_k e7 c k hck).trans q
theorem ld_k (hn : 1000000 ≤ nn) (V : VS_ h) (hc : h 900000 0 < 700000) {w : Int × ms_M × Nat × Nat} (e : qf_X12_load nn h = some w) : w.2.1 0 1 = 0 ∧ ∀ k : Nat, w.2.1 7 k = h 7 k := by
  have g01 := gF_0_1 V
  have c256 := vi_c V
  unfold qf_X12_load at e
  obtain ⟨u5, e5, e⟩ := sv_i e
  have F := brg_c hn (a1 := 1) (a2 := h 0 1) V ⟨by omega, rfl⟩ (by omega) hc _ e5
  rw [xl_eq] at e
  by_cases d : u5.1 < 0
  · rw [if_pos d] at e
    cases e
    refine ⟨(up_s : up_M u5.2.1 0 1 0 0 1 = 0), fun k => ?_⟩
    show up_M u5.2.1 0 1 0 7 k = _
    rw [up_n (by omega)]; exact F 7 k (by decide)
  · rw [if_neg d] at e
    obtain ⟨u9, e9, e⟩ := sv_i e
    cases e
    refine ⟨(fo_k e9 0 1 (by decide)).trans up_s, fun k => (fo_k e9 7 k (by decide)).trans ?_⟩
    rw [up_n (by omega)]; exact F 7 k (by decide)
theorem kp_24 {s0 : Int} {c s : Nat} {w : Int × ms_M × Nat × Nat} (e : qj_X12_keep_24 nn s0 h c s = some w) : ∀ a k : Nat, a < 56 → w.2.1 a k = h a k := by
  intro a k ha
  unfold qj_X12_keep_24 at e
  by_cases d : s0 < 0
  · rw [if_pos d] at e; cases e; rfl
  · rw [if_neg d] at e
    obtain ⟨u3, e3, e⟩ := sv_i e
    cases e
    exact fo_k e3 a k ha
theorem kp_k (hn : 1000000 ≤ nn) (V : VS_ h) (hc : h 900000 0 < 700000) {a1 : Int} {w : Int × ms_M × Nat × Nat} (e : qf_X12_keep nn a1 h = some w) : ∀ a k : Nat, a < 56 → w.2.1 a k = h a k := by
  intro a k ha
  unfold qf_X12_keep at e
  obtain ⟨u6, e6, e⟩ := sv_i e
  by_cases d : u6 < 0
  · rw [if_pos d] at e
    exact kp_24 e a k ha
  · rw [if_neg d] at e
    have R := (okof (vf_X12_imageOf V) e6).resolve_left d
    unfold ln_S at e
    rw [if_pos ⟨R.1, by have := R.2.1; omega⟩] at e
    obtain ⟨u12, e12, e⟩ := sv_i e
    have l0 : 0 ≤ ln_I h u6.toNat := by
      unfold ln_I
      split
      · omega
      · exact V.2.1.2 _
    have F := brg_c hn V ⟨R.1, R.2.1⟩ ⟨l0, R.2.2⟩ hc _ e12
    exact (kp_24 e a k ha).trans (F a k ha)
/- the reference's tape is empty behind compile and load -/
theorem r0_169 {qk : Int → ms_M → Option (Int × ms_M)} (hk : ∀ (v : Int) (g : ms_M), g 160 1 = 0 → Pc (qk v g) (fun r => r.2 160 1 = 0)) : ∀ (k : Nat) (l2 l3 : Int) (h : ms_M), h 160 1 = 0 → Pc (qw_X13_compile_169 nn qk k l2 l3 h) (fun r => r.2 160 1 = 0) := by
  intro k
  induction k with
  | zero => intros; exact pc_none
  | succ k ih =>
    intro l2 l3 h T
    unfold qw_X13_compile_169
    refine pc_rA (fun _ _ v2 _ => pc_if (fun _ => pc_xl (fun v3 _ => hk v3 h T)) (fun _ => ?_))
    refine pc_xl (fun v5 _ => pc_xl (fun v6 _ => pc_xl (fun v8 _ => pc_xl (fun v9 _ => pc_rA (fun _ _ v10 _ => pc_wA (fun _ _ h11 e11 => pc_xl (fun v12 _ => ?_)))))))
    exact ih _ _ _ (by rw [e11, up_n (by omega)]; exact T)
theorem r0_147 : ∀ (k : Nat) (l2 : Int) (h : ms_M), h 160 1 = 0 → Pc (qw_X13_compile_147 nn k l2 h) (fun r => r.2 160 1 = 0) := by
  intro k
  induction k with
  | zero => intros; exact pc_none
  | succ k ih =>
    intro l2 h T
    unfold qw_X13_compile_147
    refine pc_if (fun _ => pc_xl (fun h16 e16 => pc_ret ?_)) (fun _ => pc_rA (fun _ _ v20 _ => pc_wA (fun _ _ h21 e21 => ?_)))
    · show h16 160 1 = 0
      rw [e16, up_n (by omega)]; exact T
    · exact r0_169 (fun v g q => ih v g q) _ _ _ _ (by rw [e21, up_n (by omega)]; exact T)
theorem r0_136 (T : h 160 1 = 0) : Pc (qj_X13_compile_136 nn h) (fun r => r.2 160 1 = 0) := by
  unfold qj_X13_compile_136
  exact pc_if (fun _ => r0_147 _ _ _ T) (fun _ => pc_ret T)
theorem r0_110 : ∀ (k : Nat) (l2 : Int) (h : ms_M), h 160 1 = 0 → Pc (qw_X13_compile_110 nn k l2 h) (fun r => r.2 160 1 = 0) := by
  intro k
  induction k with
  | zero => intros; exact pc_none
  | succ k ih =>
    intro l2 h T
    unfold qw_X13_compile_110
    refine pc_if (fun _ => r0_136 T) (fun _ => pc_if (fun _ => r0_136 T) (fun _ => pc_se (fun u28 e28 => pc_xl (fun v29 _ => ?_))))
    exact ih _ _ (((ff_X13_makeClass nn) _ e28 160 1 rfl : u28 160 1 = h 160 1).trans T)
theorem r0_97 (T : h 160 1 = 0) : Pc (qj_X13_compile_97 nn h) (fun r => r.2 160 1 = 0) := by
  unfold qj_X13_compile_97
  refine pc_if (fun _ => r0_110 _ _ _ T) (fun _ => pc_se (fun u e => ?_))
  exact r0_110 _ _ _ (((ff_X13_bodies nn) _ e 160 1 rfl : u 160 1 = h 160 1).trans T)
theorem r0_86 (T : h 160 1 = 0) : Pc (qj_X13_compile_86 nn h) (fun r => r.2 160 1 = 0) := by
  unfold qj_X13_compile_86
  refine pc_if (fun _ => r0_97 T) (fun _ => pc_se (fun u e => ?_))
  exact r0_97 (((ff_X13_heads nn) _ e 160 1 rfl : u 160 1 = h 160 1).trans T)
theorem r0_43 : ∀ (k : Nat) (l1 l2 : Int) (h : ms_M), h 160 1 = 0 → Pc (qw_X13_compile_43 nn k l1 l2 h) (fun r => r.2 160 1 = 0) := by
  intro k
  induction k with
  | zero => intros; exact pc_none
  | succ k ih =>
    intro l1 l2 h T
    unfold qw_X13_compile_43
    refine pc_if (fun _ => pc_xl (fun h40 e40 => pc_se (fun u42 e42 => ?_))) (fun _ => pc_rA (fun _ _ v49 _ => pc_wA (fun _ _ h50 e50 => pc_xl (fun v51 _ => ?_))))
    · have T40 : h40 160 1 = 0 := by rw [e40, up_n (by omega)]; exact T
      have T42 : u42 160 1 = 0 := ((ff_X13_tokenize nn) _ e42 160 1 rfl : u42 160 1 = h40 160 1).trans T40
      refine pc_if (fun _ => r0_86 T42) (fun _ => pc_se (fun u45 e45 => ?_))
      exact r0_86 (((ff_X13_program nn) _ e45 160 1 rfl : u45 160 1 = u42 160 1).trans T42)
    · exact ih _ _ _ (by rw [e50, up_n (by omega)]; exact T)
theorem r0_compile : Pc (qf_X13_compile nn h) (fun r => r.2 160 1 = 0) := by
  unfold qf_X13_compile
  refine pc_xl (fun h54 e54 => pc_xl (fun h55 e55 => pc_xl (fun h56 e56 => ?_)))
  have T : h56 160 1 = 0 := by rw [e56, up_n (by omega), e55, up_n (by omega), e54, up_s]
  refine pc_if (fun _ => r0_43 _ _ _ _ T) (fun _ => pc_xl (fun h57 e57 => pc_xl (fun h58 e58 => pc_ret ?_)))
  show h58 160 1 = 0
  rw [e58, up_n (by omega), e57, up_n (by omega)]; exact T
theorem r0_load10 : ∀ (k : Nat) (l1 : Int) (h : ms_M), Pc (qw_X13_load_10 nn k l1 h) (fun r => r.2 160 1 = 0) := by
  intro k
  induction k with
  | zero => intros; exact pc_none
  | succ k ih =>
    intro l1 h
    unfold qw_X13_load_10
    refine pc_if (fun _ => pc_xl (fun h2 e2 => pc_se (fun u4 e4 => pc_ret ?_))) (fun _ => pc_rA (fun _ _ v7 _ => pc_wA (fun _ _ h8 e8 => pc_xl (fun v9 _ => ih _ _))))
    show u4.2 160 1 = 0
    exact ((ff_X13_loaded nn) _ e4 160 1 rfl : u4.2 160 1 = h2 160 1).trans (by rw [e2]; exact up_s)
theorem r0_load : Pc (qf_X13_load nn h) (fun r => r.2 160 1 = 0) := by
  unfold qf_X13_load
  exact pc_xl (fun h12 _ => r0_load10 _ _ _)
theorem tp_keep (T : tp_R h) (e1 : g 160 1 = h 160 1) (e2 : g 0 1 = h 0 1) (e3 : ∀ k : Nat, g 161 k = h 161 k) (e4 : ∀ k : Nat, g 1 k = h 1 k) : tp_R g := by
  obtain ⟨t1, t2, t3⟩ := T
  refine ⟨by omega, by omega, fun i hi => ?_⟩
  rw [e3, e4]; exact t3 i (by omega)
theorem tp_zero (e1 : g 160 1 = 0) (e2 : g 0 1 = 0) : tp_R g := ⟨by omega, by omega, fun i hi => by omega⟩
/-- the invariant: both sides are good, the tapes are alike, the room is kept -/
def VRm (nn t : Nat) (M : ms_M) (c s : Nat) : Prop := BVa nn (20000 * (t : Int)) (48000 * (t : Int)) M ∧ KCl M ∧ tp_R M ∧ M 900000 0 ≤ 256 + 8 * (t : Int) ∧ (c : Int) ≤ 256 + 8 * (t : Int) ∧ (s : Int) + 12995 * ((M 0 1 + 19) / 20) ≤ 648382 + 12995 * (t : Int)
theorem vr_mk {t : Nat} {M M2 : ms_M} {c s c1 s1 : Nat} (B : BVa nn (20000 * ((t + 1 : Nat) : Int)) (48000 * ((t + 1 : Nat) : Int)) M2) (K : ∀ k : Nat, M2 7 k = M 7 k) (T : tp_R M2) (hc : M2 900000 0 ≤ M 900000 0 + 8) (h1 : c1 ≤ 8) (hs : (s1 : Int) + 12995 * ((M2 0 1 + 19) / 20) ≤ 12995 * ((M 0 1 + 19) / 20) + 12995) (V : VRm nn t M c s) : VRm nn (t + 1) M2 (c + c1) (s + s1) := by
  obtain ⟨v1, v2, v3, v4, v5, v6⟩ := V
  exact ⟨B, kc_eq v2 K, T, by omega, by omega, by omega⟩
theorem vr_B {t : Nat} {M : ms_M} (B : BVa nn (20000 * (t : Int)) (48000 * (t : Int)) M) : BVa nn (20000 * ((t + 1 : Nat) : Int)) (48000 * ((t + 1 : Nat) : Int)) M := bs_le B (by omega) (by omega)
theorem vr_feed (hn : 1000000 ≤ nn) {t : Nat} {M : ms_M} {c s : Nat} (V : VRm nn t M c s) {a b d e f : Int} (r1 : in_R a) (r2 : in_R b) (r3 : in_R d) (r4 : in_R e) (r5 : in_R f) : ∃ r M1 M2, qf_X12_feed nn a b d e f M = some (r, M1) ∧ qf_X13_feed nn a b d e f M1 = some (r, M2) ∧ VRm nn (t + 1) M2 c s := by
  have V0 := V
  obtain ⟨v1, v2, v3, v4, v5, v6⟩ := V
  obtain ⟨x, M1, y, M2, g1, g2, B, k9⟩ := bs_feed hn r1 r2 r3 r4 r5 v1
  obtain ⟨r, N1, N2, f1, f2, T, F⟩ := feed_2 (nn := nn) (by omega) (a := a) (b := b) (x := d) (e := e) (f := f) v3
  rw [g1] at f1; cases f1
  rw [g2] at f2; cases f2
  refine ⟨_, _, _, g1, g2, vr_mk (c1 := 0) (s1 := 0) (vr_B B) (fun k => F 7 k (nw_ar rfl k)) T (by omega) (by omega) ?_ V0⟩
  have q : M2 0 1 = M1 0 1 := (ff_X13_feed nn) _ g2 0 1 rfl
  have w : M1 0 1 ≤ M 0 1 + 20 := by
    rcases feed_X (nn := nn) (by omega) (a := a) (b := b) (x := d) (e := e) (f := f) v3.2.1 with ⟨-, z⟩ | ⟨-, h2, z, p⟩
    · rw [g1] at z; cases z; omega
    · rw [g1] at z; cases z; have := p.1; omega
  omega
theorem vr_end (hn : 1000000 ≤ nn) {t : Nat} {M : ms_M} {c s : Nat} (V : VRm nn t M c s) {a : Int} (r1 : in_R a) : ∃ r M1 M2, qf_X12_end nn a M = some (r, M1) ∧ qf_X13_end nn a M1 = some (r, M2) ∧ VRm nn (t + 1) M2 c s := by
  have V0 := V
  obtain ⟨v1, v2, v3, v4, v5, v6⟩ := V
  obtain ⟨x, M1, y, M2, g1, g2, B, k9⟩ := bs_end hn r1 v1
  obtain ⟨r, N1, N2, f1, f2, T, F⟩ := end_2 (nn := nn) (a := a) v3
  rw [g1] at f1; cases f1
  rw [g2] at f2; cases f2
  refine ⟨_, _, _, g1, g2, vr_mk (c1 := 0) (s1 := 0) (vr_B B) (fun k => F 7 k (nw_ar rfl k)) T (by omega) (by omega) ?_ V0⟩
  have q : M2 0 1 = M1 0 1 := (ff_X13_end nn) _ g2 0 1 rfl
  have w : M1 0 1 ≤ M 0 1 := by
    unfold qf_X12_end at g1
    by_cases z1 : a < 0
    · rw [if_pos z1] at g1; cases g1; omega
    · rw [if_neg z1] at g1
      by_cases z2 : a ≤ M 0 1
      · rw [if_pos z2, xl_eq] at g1; cases g1; rw [up_s]; exact z2
      · rw [if_neg z2] at g1; cases g1; omega
  omega
theorem vr_compile (hn : 1000000 ≤ nn) {t : Nat} (ht : t < 512) {M : ms_M} {c s : Nat} (V : VRm nn t M c s) : ∃ x M1 c1 s1 y M2, qf_X12_compile nn M = some (x, M1, c1, s1) ∧ qf_X13_compile nn M1 = some (y, M2) ∧ VRm nn (t + 1) M2 (c + c1) (s + s1) := by
  have V0 := V
  obtain ⟨v1, v2, v3, v4, v5, v6⟩ := V
  obtain ⟨x, M1, c1, s1, y, M2, g1, g2, B, k9, k1, k2⟩ := bs_compile hn (by omega) v1 (by omega)
  have W := bva_v v1
  have g01 := gF_0_1 W
  obtain ⟨R1, R2, R3⟩ := rm_compile hn W v1.1.1.2.1 v2 (by omega) _ g1
  have R1 : (s1 : Int) ≤ 6000 * (M 0 1 / 6) := R1
  have e0 : M2 0 1 = 0 := ((ff_X13_compile nn) _ g2 0 1 rfl : M2 0 1 = M1 0 1).trans R3
  have e1 : M2 160 1 = 0 := r0_compile _ g2
  have K : KCl M2 := kc_eq R2 (fun k => (ff_X13_compile nn) _ g2 7 k (nw_ar rfl k))
  refine ⟨x, M1, c1, s1, y, M2, g1, g2, bs_le B (by omega) (by omega), K, tp_zero e1 e0, by omega, by omega, ?_⟩
  rw [e0]
  have k3 : (s1 : Int) ≤ 12995 * ((M 0 1 + 19) / 20) + 12995 := by
    rcases (show M 0 1 = 0 ∨ (1 ≤ M 0 1 ∧ M 0 1 ≤ 20) ∨ (21 ≤ M 0 1 ∧ M 0 1 ≤ 40) ∨ 41 ≤ M 0 1 by omega) with q | q | q | q
    · have a1 : M 0 1 / 6 = 0 := by omega
      omega
    · have a1 : M 0 1 / 6 ≤ 3 := by omega
      have a2 : (M 0 1 + 19) / 20 = 1 := by omega
      omega
    · have a1 : M 0 1 / 6 ≤ 6 := by omega
      have a2 : (M 0 1 + 19) / 20 = 2 := by omega
      omega
    · have a2 : 3 ≤ (M 0 1 + 19) / 20 := by omega
      omega
  omega
theorem vr_load (hn : 1000000 ≤ nn) {t : Nat} (ht : t < 512) {M : ms_M} {c s : Nat} (V : VRm nn t M c s) : ∃ x M1 c1 s1 y M2, qf_X12_load nn M = some (x, M1, c1, s1) ∧ qf_X13_load nn M1 = some (y, M2) ∧ VRm nn (t + 1) M2 (c + c1) (s + s1) := by
  have V0 := V
  obtain ⟨v1, v2, v3, v4, v5, v6⟩ := V
  obtain ⟨x, M1, c1, s1, y, M2, g1, g2, B, k9, k1, k2⟩ := bs_load hn (by omega) v1 (by omega)
  have W := bva_v v1
  have g01 := gF_0_1 W
  obtain ⟨R3, R2⟩ := ld_k hn W (by omega) g1
  have e0 : M2 0 1 = 0 := ((ff_X13_load nn) _ g2 0 1 rfl : M2 0 1 = M1 0 1).trans R3
  have e1 : M2 160 1 = 0 := r0_load _ g2
  refine ⟨x, M1, c1, s1, y, M2, g1, g2, vr_mk (vr_B B) (fun k => ((ff_X13_load nn) _ g2 7 k (nw_ar rfl k) : M2 7 k = M1 7 k).trans (R2 k)) (tp_zero e1 e0) (by omega) (by omega) ?_ V0⟩
  rw [e0]; omega
theorem vr_keep (hn : 1000000 ≤ nn) {t : Nat} (ht : t < 512) {M : ms_M} {c s : Nat} (V : VRm nn t M c s) {a : Int} : ∃ x M1 c1 s1 y M2, qf_X12_keep nn a M = some (x, M1, c1, s1) ∧ qf_X13_keep nn a M1 = some (y, M2) ∧ VRm nn (t + 1) M2 (c + c1) (s + s1) := by
  have V0 := V
  obtain ⟨v1, v2, v3, v4, v5, v6⟩ := V
  obtain ⟨x, M1, c1, s1, y, M2, g1, g2, B, k9, k1, k2⟩ := bs_keep hn (by omega) v1 (by omega) (a1 := a)
  have W := bva_v v1
  have g01 := gF_0_1 W
  have R := kp_k hn W (by omega) g1
  have G := (ff_X13_keep nn) _ g2
  have F1 := (ff_X12_keep nn) _ g1
  have e0 : M2 0 1 = M 0 1 := (G 0 1 rfl : M2 0 1 = M1 0 1).trans (R 0 1 (by decide))
  refine ⟨x, M1, c1, s1, y, M2, g1, g2, vr_mk (vr_B B) (fun k => (G 7 k (nw_ar rfl k) : M2 7 k = M1 7 k).trans (R 7 k (by decide))) (tp_keep v3 ((G 160 1 rfl : M2 160 1 = M1 160 1).trans (F1 160 1 rfl)) e0 (fun k => (G 161 k (nw_ar rfl k) : M2 161 k = M1 161 k).trans (F1 161 k (nw_ar rfl k))) (fun k => (G 1 k (nw_ar rfl k) : M2 1 k = M1 1 k).trans (R 1 k (by decide)))) (by omega) (by omega) ?_ V0⟩
  rw [e0]; omega
theorem vr_patch (hn : 1000000 ≤ nn) {t : Nat} {M : ms_M} {c s : Nat} (V : VRm nn t M c s) {a b d : Int} (r1 : in_R a) : ∃ x M1 y M2, qf_X12_patch nn a b d M = some (x, M1) ∧ qf_X13_patch nn a b d M1 = some (y, M2) ∧ VRm nn (t + 1) M2 c s := by
  have V0 := V
  obtain ⟨v1, v2, v3, v4, v5, v6⟩ := V
  obtain ⟨x, M1, y, M2, g1, g2, B, k9⟩ := bs_patch hn (by omega) (a2 := b) (a3 := d) r1 v1
  have W := bva_v v1
  have R := pat_k W v1.1.2.2.2 g1
  have G := (ff_X13_patch nn) _ g2
  have F1 := (ff_X12_patch nn) _ g1
  have e0 : M2 0 1 = M 0 1 := (G 0 1 rfl : M2 0 1 = M1 0 1).trans (R 0 1 (by decide))
  refine ⟨x, M1, y, M2, g1, g2, vr_mk (c1 := 0) (s1 := 0) (vr_B B) (fun k => (G 7 k (nw_ar rfl k) : M2 7 k = M1 7 k).trans (R 7 k (by decide))) (tp_keep v3 ((G 160 1 rfl : M2 160 1 = M1 160 1).trans (F1 160 1 rfl)) e0 (fun k => (G 161 k (nw_ar rfl k) : M2 161 k = M1 161 k).trans (F1 161 k (nw_ar rfl k))) (fun k => (G 1 k (nw_ar rfl k) : M2 1 k = M1 1 k).trans (R 1 k (by decide)))) (by omega) (by omega) ?_ V0⟩
  rw [e0]; omega
/-- a call that leaves the tapes and the names -/
theorem vr_fr {t : Nat} {M M1 M2 : ms_M} {c s : Nat} {A1 A2 : List Nat} {B1 B2 : List (Nat × Nat)} (F1 : ∀ c k, nw_F A1 B1 false false c k = true → M1 c k = M c k) (F2 : ∀ c k, nw_F A2 B2 false false c k = true → M2 c k = M1 c k) (q : (((nw_F A1 B1 false false 0 1 && nw_F A2 B2 false false 0 1) && (nw_F A1 B1 false false 160 1 && nw_F A2 B2 false false 160 1)) && ([1, 7, 161].all (fun x => (!(A1.contains x) && (B1.all (fun q => !(Nat.beq q.1 x)) && ((!false || !(is_I x)) && (!false || !(Nat.beq (ly_T x) 1))))) && (!(A2.contains x) && (B2.all (fun q => !(Nat.beq q.1 x)) && ((!false || !(is_I x)) && (!false || !(Nat.beq (ly_T x) 1)))))))) = true) (B : BVa nn (20000 * ((t + 1 : Nat) : Int)) (48000 * ((t + 1 : Nat) : Int)) M2) (k9 : M2 900000 0 = M 900000 0) (V : VRm nn t M c s) : VRm nn (t + 1) M2 c s := by
  obtain ⟨q1, q2⟩ := Bool.and_eq_true_iff.mp q
  obtain ⟨q1, q3⟩ := Bool.and_eq_true_iff.mp q1
  obtain ⟨a1, a2⟩ := Bool.and_eq_true_iff.mp q1
  obtain ⟨b1, b2⟩ := Bool.and_eq_true_iff.mp q3
  have e0 : M2 0 1 = M 0 1 := (F2 0 1 a2).trans (F1 0 1 a1)
  have e1 : M2 160 1 = M 160 1 := (F2 160 1 b2).trans (F1 160 1 b1)
  have R : ∀ x : Nat, x ∈ [1, 7, 161] → ∀ k, M2 x k = M x k := fun x hx k => by
    obtain ⟨z1, z2⟩ := Bool.and_eq_true_iff.mp (List.all_eq_true.mp q2 x hx)
    exact (F2 x k (nw_ar z2 k)).trans (F1 x k (nw_ar z1 k))
  refine vr_mk (c1 := 0) (s1 := 0) B (R 7 (by decide)) (tp_keep V.2.2.1 e1 e0 (R 161 (by decide)) (R 1 (by decide))) (by omega) (by omega) (by rw [e0]; omega) V
theorem vr_clear (hn : 1000000 ≤ nn) {t : Nat} {M : ms_M} {c s : Nat} (V : VRm nn t M c s) : ∃ M1 M2, qf_X12_clear nn M = some M1 ∧ qf_X13_clear nn M1 = some M2 ∧ VRm nn (t + 1) M2 c s := by
  obtain ⟨M1, M2, g1, g2, B, k9⟩ := bs_clear hn (by omega) V.1
  exact ⟨M1, M2, g1, g2, vr_fr ((ff_X12_clear nn) _ g1) ((ff_X13_clear nn) _ g2) rfl (vr_B B) k9 V⟩
theorem vr_verify (hn : 1000000 ≤ nn) {t : Nat} {M : ms_M} {c s : Nat} (V : VRm nn t M c s) : ∃ x M1 y M2, qf_X12_verify nn M = some (x, M1) ∧ qf_X13_verify nn M1 = some (y, M2) ∧ VRm nn (t + 1) M2 c s := by
  obtain ⟨x, M1, y, M2, g1, g2, B, k9⟩ := bs_verify hn V.1
  exact ⟨x, M1, y, M2, g1, g2, vr_fr ((ff_X12_verify nn) _ g1) ((ff_X13_verify nn) _ g2) rfl (vr_B B) k9 V⟩
theorem vr_start (hn : 1000000 ≤ nn) {t : Nat} {M : ms_M} {c s : Nat} (V : VRm nn t M c s) {a b : Int} (r1 : in_R a) (r2 : in_R b) : ∃ x M1 y M2, qf_X12_start nn a b M = some (x, M1) ∧ qf_X13_start nn a b M1 = some (y, M2) ∧ VRm nn (t + 1) M2 c s := by
  obtain ⟨x, M1, y, M2, g1, g2, B, k9⟩ := bs_start hn (by omega) r1 r2 V.1
  exact ⟨x, M1, y, M2, g1, g2, vr_fr ((ff_X12_start nn) _ g1) ((ff_X13_start nn) _ g2) rfl (vr_B B) k9 V⟩
theorem vr_run (hn : 1000000 ≤ nn) {t : Nat} (ht : t < 512) {M : ms_M} {c s : Nat} (V : VRm nn t M c s) {a : Int} : ∃ x M1 y M2, qf_X12_run nn a M = some (x, M1) ∧ qf_X13_run nn a M1 = some (y, M2) ∧ VRm nn (t + 1) M2 c s := by
  obtain ⟨x, M1, y, M2, g1, g2, B, k9⟩ := bs_run hn (by omega) (a1 := a) V.1
  exact ⟨x, M1, y, M2, g1, g2, vr_fr ((ff_X12_run nn) _ g1) ((ff_X13_run nn) _ g2) rfl (bs_le B (by omega) (by omega)) k9 V⟩
end

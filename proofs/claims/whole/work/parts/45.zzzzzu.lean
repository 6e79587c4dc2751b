/- THE LAW'S LEVEL: verify, start, run -/
section
variable {nn t n : Nat} {Bf : Nat → Nat → Int} {nf : Nat → Nat} {cnt : Int} {M M1 M2 h g : ms_M} {c s : Nat}
/-- names, fault, images told: kept by calls that work above the compiler -/
theorem rest_k (V : VS_ M) (A : ∀ c k : Nat, c < 56 → M2 c k = M c k) (B : ∀ c k : Nat, 256 ≤ c → M2 c k = M c k) (O : ∀ b : Nat, kc_O b = 3 → M2 b 0 = M b 0) (A60 : ∀ k : Nat, M2 60 k = M 60 k) (e3 : M2 56 3 = M 56 3) (r1 : ∀ k : Nat, M2 221 k = M 221 k) (r2 : ∀ k : Nat, M2 222 k = M 222 k) (r3 : M2 160 93 = M 160 93) (r9 : M2 160 9 = M 160 9) (r10 : M2 160 10 = M 160 10) (K : KNB M) (T : FTm M) (R : im_R M) (D : DJ M) : KNB M2 ∧ FTm M2 ∧ im_R M2 ∧ DJ M2 := by
  have g3 := gF_56_3 V
  refine ⟨kB_e K (fun k => A 6 k (by omega)) (fun k => A 7 k (by omega)) (fun k => A 8 k (by omega)) (fun k => A 10 k (by omega)), ft_fr (A 2 11 (by omega)) (A 2 12 (by omega)) r9 r10 T, im_f2 (fun c k a _ => B c k a) (fun k _ => B 900001 k (by omega)) ?_ (fun k => A 55 k (by omega)) r1 r2 (A 0 7 (by omega)) r3 R, dj_e e3 (fun k => A 43 k (by omega)) (fun k => A 55 k (by omega)) (fun j hj => ?_) D⟩
  · unfold cn_M; rw [B 900000 0 (by omega)]; exact Nat.le_refl _
  · rw [A60]; exact O _ (V.2.2.2.2.1 j (by omega)).2
theorem wh_verify (hn : 1000000 ≤ nn) (W : WHm nn t M c s) : ∃ r M1 M2, qf_X12_verify nn M = some (r, M1) ∧ qf_X13_verify nn M1 = some (r, M2) ∧ WHm nn (t + 1) M2 c s := by
  obtain ⟨w1, w2, w3, w4, ⟨wh, R, th, Bf, nf, E, v1, v2, v3⟩, w6⟩ := W
  have VM := bva_v w1.1
  obtain ⟨x, M1, y, M2, g1, g2, V'⟩ := vr_verify hn w1
  obtain ⟨q, E2, wh2, KC, KR, K⟩ := vf_2 hn E wh g1 g2
  have q : x = y := q
  have L := vf_lk hn E _ g1
  have G : ∀ c k : Nat, ¬ (127 ≤ c ∧ c ≤ 135) → ¬ (68 ≤ c ∧ c ≤ 70) → ¬ (c = 56 ∧ k = 4) → ¬ (c = 160 ∧ (k = 99 ∨ (117 ≤ k ∧ k ≤ 136))) → ¬ (240 ≤ c ∧ c ≤ 245) → M2 c k = M c k := fun c k q1 q2 q3 q4 q5 => (KR c k q4 q5).trans (KC c k q1 q2 q3)
  have e3 : M2 56 3 = M 56 3 := G 56 3 (by omega) (by omega) (by omega) (by omega) (by omega)
  have C : ∀ c k : Nat, 143 ≤ c → c ≤ 152 → M2 c k = M c k := fun c k a b => G c k (by omega) (by omega) (by omega) (by omega) (by omega)
  have D : ∀ c k : Nat, 246 ≤ c → c < 256 → M2 c k = M c k := fun c k a b => G c k (by omega) (by omega) (by omega) (by omega) (by omega)
  have D6 : ∀ k : Nat, (138 ≤ k ∧ k ≤ 143) ∨ k = 149 → M2 160 k = M 160 k := fun k a => G 160 k (by omega) (by omega) (by omega) (by omega) (by omega)
  have A60 : ∀ k : Nat, M2 60 k = M 60 k := fun k => G 60 k (by omega) (by omega) (by omega) (by omega) (by omega)
  obtain ⟨z1, z2, z3, z4⟩ := rest_k VM (fun c k a => G c k (by omega) (by omega) (by omega) (by omega) (by omega)) (fun c k a => G c k (by omega) (by omega) (by omega) (by omega) (by omega)) (fun b hb => by have ib := im_at hb; exact G b 0 (by omega) (by omega) (by omega) (by omega) (by omega)) A60 e3 (fun k => G 221 k (by omega) (by omega) (by omega) (by omega) (by omega)) (fun k => G 222 k (by omega) (by omega) (by omega) (by omega) (by omega)) (G 160 93 (by omega) (by omega) (by omega) (by omega) (by omega)) (G 160 9 (by omega) (by omega) (by omega) (by omega) (by omega)) (G 160 10 (by omega) (by omega) (by omega) (by omega) (by omega)) w2 w3 w4 w6
  refine ⟨x, M1, M2, g1, by rw [q]; exact g2, V', z1, z2, z3, ⟨wh2, rn_fr C D D6 R, (C 143 20 (by omega) (by omega)).trans th, Bf, nf, E2, fun y4 => ?_, ?_, fun y1 => ?_⟩, z4⟩
  · obtain ⟨k1, k2, k3⟩ := K.resolve_right (fun z => y4 z.1)
    rw [e3]
    have l1 : M1 56 4 = 1 := (KR 56 4 (by omega) (by omega)).symm.trans k1
    exact ⟨k1, k3, k2, lkt_k (L l1) (fun c a b => funext (fun k => KR c k (by omega) (by omega)))⟩
  · rw [C 143 1 (by omega) (by omega), e3]
    exact v2.imp (fun z => z) (fun R => rnx_fr C A60 D D6 R)
  · have y1 : M 143 1 = 1 := (C 143 1 (by omega) (by omega)).symm.trans y1
    have m4 := v3 y1
    obtain ⟨-, -, vo, -⟩ := v1 (by omega)
    exact (K.resolve_right (fun z => z.2 vo)).1
theorem wh_start (hn : 1000000 ≤ nn) (W : WHm nn t M c s) {a b : Int} (r1 : in_R a) (r2 : in_R b) : ∃ r M1 M2, qf_X12_start nn a b M = some (r, M1) ∧ qf_X13_start nn a b M1 = some (r, M2) ∧ WHm nn (t + 1) M2 c s := by
  obtain ⟨w1, w2, w3, w4, ⟨wh, R, th, Bf, nf, E, v1, v2, v3⟩, w6⟩ := W
  have VM := bva_v w1.1
  obtain ⟨x, M1, y, M2, g1, g2, V'⟩ := vr_start hn w1 r1 r2
  obtain ⟨q, E2, R2, wh2, K⟩ := st_V E R wh r1 g1 g2
  have q : x = y := q
  rcases K with ⟨-, e⟩ | ⟨-, k, i, ST, CL, SR⟩
  · have e : M2 = M := e
    refine ⟨x, M1, M2, g1, by rw [q]; exact g2, V', ?_⟩
    rw [e]
    exact ⟨w2, w3, w4, ⟨wh, R, th, Bf, nf, E, v1, v2, v3⟩, w6⟩
  · have CL : SCl Bf nf k i M M1 := CL
    have SR : SRf k i M1 M2 := SR
    obtain ⟨c0, ⟨c1, c2, c3, c4, c5, c6, c7⟩, ⟨c17, c18, c19⟩, ⟨c148, c149, c150⟩, c151⟩ := CL
    obtain ⟨r0, ⟨r138, r139, r140, r141, r142, r143, r149⟩, ⟨r251, r252, r253, r254⟩, r255⟩ := SR
    have ru : ∀ c k : Nat, c < 160 → M2 c k = M1 c k := fun c k q => r0 c k (by omega) (by omega) (by omega)
    have G : ∀ c k : Nat, ¬ (143 ≤ c ∧ c ≤ 152) → ¬ (c = 160 ∧ ((138 ≤ k ∧ k ≤ 143) ∨ k = 149)) → ¬ (251 ≤ c ∧ c ≤ 255) → M2 c k = M c k := fun c k q1 q2 q3 => (r0 c k q2 (by omega) (by omega)).trans (c0 c k (by omega) (by omega) (by omega))
    have e3 : M2 56 3 = M 56 3 := G 56 3 (by omega) (by omega) (by omega)
    have e4 : M2 56 4 = M 56 4 := G 56 4 (by omega) (by omega) (by omega)
    have A60 : ∀ k : Nat, M2 60 k = M 60 k := fun k => G 60 k (by omega) (by omega) (by omega)
    obtain ⟨z1, z2, z3, z4⟩ := rest_k VM (fun c k a => G c k (by omega) (by omega) (by omega)) (fun c k a => G c k (by omega) (by omega) (by omega)) (fun b hb => by have ib := im_at hb; exact G b 0 (by omega) (by omega) (by omega)) A60 e3 (fun k => G 221 k (by omega) (by omega) (by omega)) (fun k => G 222 k (by omega) (by omega) (by omega)) (G 160 93 (by omega) (by omega) (by omega)) (G 160 9 (by omega) (by omega) (by omega)) (G 160 10 (by omega) (by omega) (by omega)) w2 w3 w4 w6
    obtain ⟨s0, ⟨s1, s2⟩, s3, s4, -, -⟩ := ST
    obtain ⟨x1, x2, x3, x4⟩ := v1 s0
    have k143 : ∀ j : Nat, M2 143 j = M1 143 j := fun j => ru 143 j (by omega)
    refine ⟨x, M1, M2, g1, by rw [q]; exact g2, V', z1, z2, z3, ⟨wh2, R2, ?_, Bf, nf, E2, fun _ => ?_, .inr ?_, fun _ => e4.trans x1⟩, z4⟩
    · rw [k143]; exact (c0 143 20 (by omega) (by omega) (by omega)).trans th
    · rw [e3]
      exact ⟨e4.trans x1, x2, x3, lkt_k x4 (fun c a b => funext (fun k => G c k (by omega) (by omega) (by omega)))⟩
    · rw [e3]
      refine .inl ⟨0, k, i, ⟨⟨⟨(k143 1).trans c1, r138⟩, ⟨(k143 2).trans c2, r139⟩, by rw [k143, r140]; exact c3, (k143 6).trans c6, r149⟩, by omega, fun j hj => ?_, ⟨⟨by rw [k143, r141]; exact c4, by rw [k143, r142]; exact c5⟩, fun o o1 o2 => by omega, fun z => by omega, fun x hx => by omega⟩, by rw [k143, r143]; exact c7, fun x _ hx => by omega⟩, ⟨(k143 17).trans c17, ?_, (k143 19).trans c19⟩, ⟨r251, r252⟩, s3, s4⟩
      · have j0 : j = 0 := by omega
        rw [j0]
        refine ⟨⟨k, i, ⟨r251, r252⟩, ⟨s3, s4⟩, (ru 148 0 (by omega)).trans c148⟩, ⟨by rw [ru 149 0 (by omega), r253]; exact c149, by rw [ru 150 0 (by omega), r254]; exact c150⟩, fun n hn => ?_, fun n hn hl => by omega⟩
        rw [ru 151 _ (by omega), r255 _ (by omega)]
        exact c151 _ (by omega)
      · rw [k143, c18, A60]
/-- what is run tells what is looked at -/
theorem rn_x (S : CSw Bf nf M) (e : M 56 3 = cnt) (R : RNX Bf nf cnt M M) : rn_R M := by
  have h8 := S.1.1
  rcases R with ⟨d, k, i, ⟨⟨⟨a1, a2⟩, ⟨a3, a4⟩, a5, a6, a7⟩, d60, F, H, P⟩, T⟩ | ⟨⟨a1, a2, a3⟩, ⟨b1, b2, b3, b4⟩, P, c1, c2⟩
  · refine ⟨by omega, by omega, fun q => by omega, fun _ => ⟨a5.symm, H.1.1.symm, H.1.2.symm, by omega, P.1.symm, fun i hi h1 => (P.2 i h1 (by rw [← P.1]; exact hi)).symm⟩, fun q => by omega, fun _ _ => a3, fun _ => ⟨by omega, by have := T.1.1; omega, fun j hj => ?_⟩⟩
    obtain ⟨⟨k, i, ⟨f1, f2⟩, ⟨f3, f4⟩, f5⟩, ⟨f6, f7⟩, -⟩ := F j (by omega)
    have m12 := ((cg_im (S.1.2 k (by omega))).1).2.2.1
    exact ⟨by omega, by omega, by omega, f6, f7⟩
  · exact ⟨by omega, by omega, fun q => by omega, fun _ => ⟨b1.symm, b2.symm, b3.symm, b4.symm, P.1.symm, fun i hi h1 => (P.2 i h1 (by rw [← P.1]; exact hi)).symm⟩, fun q => (c1 q).symm, c2, fun q => by omega⟩
theorem ru_c (hn : 1 ≤ n) {l : Int} (hl : 1 ≤ l) (q : ¬ h 143 1 = 1) : qw_X5_go_2 nn n l 0 h = qj_X5_go_66 nn 0 h := by
  cases n with
  | zero => omega
  | succ k =>
    unfold qw_X5_go_2
    rw [if_neg (by omega), if_pos q]
theorem ru_r (hn : 1 ≤ n) {l : Int} (hl : 1 ≤ l) (q : ¬ h 160 138 = 1) : qw_X13_run_16 nn n l 0 h = qj_X13_run_39 nn 0 h := by
  cases n with
  | zero => omega
  | succ k =>
    unfold qw_X13_run_16
    rw [if_neg (by omega), if_pos q]
theorem up_sm {c k : Nat} : up_M h c k (h c k) = h := funext fun c2 => funext fun k2 => by
  by_cases q : c2 = c ∧ k2 = k
  · rw [q.1, q.2]; exact up_s
  · exact up_n q
/-- where nothing runs, run leaves all -/
theorem ru_0 (hn : 1 ≤ nn) (V : VS_ h) (q1 : ¬ h 143 1 = 1) (q2 : ¬ h 160 138 = 1) {a : Int} {u v : Int × ms_M} (e1 : qf_X12_run nn a h = some u) (e2 : qf_X13_run nn a u.2 = some v) : u.1 = v.1 ∧ v.2 = h := by
  have g3 := gF_143_3 V
  have g4 := gF_160_140 V
  unfold qf_X12_run at e1
  unfold qf_X13_run at e2
  by_cases a1 : a < 1
  · rw [if_pos a1] at e1 e2; cases e1; cases e2; exact ⟨rfl, rfl⟩
  rw [if_neg a1] at e1 e2
  by_cases a2 : a ≤ 20000
  · rw [if_pos a2] at e1 e2
    obtain ⟨u3, e3, e1⟩ := sv_i e1
    unfold qf_X5_go at e3
    rw [ru_c hn (by omega) q1] at e3
    unfold qj_X5_go_66 at e3
    rw [oq_add_eq (by omega) (by omega) (by omega), xl_eq, xl_eq, Int.add_zero, up_sm] at e3
    cases e3
    cases e1
    have e2 : qw_X13_run_16 nn nn a 0 h = some v := e2
    rw [ru_r hn (by omega) q2] at e2
    unfold qj_X13_run_39 at e2
    rw [oq_add_eq (by omega) (by omega) (by omega), xl_eq, xl_eq, Int.add_zero, up_sm] at e2
    cases e2
    exact ⟨rfl, rfl⟩
  · rw [if_neg a2] at e1 e2; cases e1; cases e2; exact ⟨rfl, rfl⟩
theorem wh_run (hn : 1000000 ≤ nn) (ht : t < 512) (W : WHm nn t M c s) {a : Int} : ∃ r M1 M2, qf_X12_run nn a M = some (r, M1) ∧ qf_X13_run nn a M1 = some (r, M2) ∧ WHm nn (t + 1) M2 c s := by
  obtain ⟨w1, w2, w3, w4, ⟨wh, R, th, Bf, nf, E, v1, v2, v3⟩, w6⟩ := W
  have VM := bva_v w1.1
  obtain ⟨x, M1, y, M2, g1, g2, V'⟩ := vr_run hn ht w1 (a := a)
  by_cases s1 : M 143 1 = 1
  · have F1 := fun c k q => (ff_X12_run nn) _ g1 c k q
    have F2 := fun c k q => (ff_X13_run nn) _ g2 c k q
    obtain ⟨x1, x2, x3, x4⟩ := v1 (by rw [v3 s1]; decide)
    have RX0 := v2.resolve_left (by omega)
    obtain ⟨⟨p1, p2, p3⟩, C, TB, N⟩ := E
    have S : CSw Bf nf M := ⟨⟨p2, C.1⟩, C.2.1⟩
    have R1 : ∀ x k : Nat, 160 ≤ x → x ≤ 255 → M1 x k = M x k := fun x k a b => F1 x k (nw_ref rfl ⟨a, b⟩)
    have lo : ∀ c k : Nat, c < 160 ∨ 256 ≤ c → M2 c k = M1 c k := fun c k q => F2 c k (nw_cls rfl q)
    have cu : ∀ c k : Nat, c < 160 ∨ 256 ≤ c → ¬ (143 ≤ c ∧ c ≤ 152) → M1 c k = M c k := fun c k q1 q2 => F1 c k (by
      by_cases z : 256 ≤ c
      · exact nw_big rfl z
      · by_cases z2 : c < 143
        · exact nw_rng (lo := 0) (hi := 142) rfl ⟨by omega, by omega⟩
        · exact nw_rng (lo := 153) (hi := 255) rfl ⟨by omega, by omega⟩)
    have A : ∀ c k : Nat, c < 160 ∨ 256 ≤ c → ¬ (143 ≤ c ∧ c ≤ 152) → M2 c k = M c k := fun c k q1 q2 => (lo c k q1).trans (cu c k q1 q2)
    have V1 : VS_ M1 := by
      obtain ⟨u, eu, C⟩ := cva_run hn (a1 := a) (Z := 20000 * (t : Int) + 20000) w1.1.1 (by omega) (by omega)
      rw [g1] at eu; cases eu
      exact C.1.1
    have RS : RSv Bf nf M1 := rsv_k (h := M) ⟨by rw [p1]; exact p2, TB⟩ (fun x j w => R1 x j (by omega) (by omega)) (R1 160 98 (by omega) (by omega))
    have EN : ENa Bf nf (M 56 3) M M1 := ⟨⟨S, rfl, x4⟩, ⟨RS, (R1 160 98 (by omega) (by omega)).trans p1⟩, N, x2, x3⟩
    have RN1 : RNX Bf nf (M 56 3) M M1 := rnx_fr (fun _ _ _ _ => rfl) (fun _ => rfl) (fun c k a b => R1 c k (by omega) (by omega)) (fun k _ => R1 160 k (by omega) (by omega)) RX0
    have RG : M1 160 138 = 1 → RGO nn M1 := (rva_all VM V1 R1 w1.1.2).2.2.2.1
    obtain ⟨q, RN2, t20⟩ := jt_run (P := 20000 * (t : Int)) hn (by omega) EN RN1 th V1 RG (by
      rw [R1 160 143 (by omega) (by omega)]; exact w1.1.2.2.2.2.2) _ g1 _ g2
    have q : x = y := q
    have RN3 : RNX Bf nf (M 56 3) M2 M2 := rnx_fr (fun c k a b => lo c k (by omega)) (fun k => lo 60 k (by omega)) (fun _ _ _ _ => rfl) (fun _ _ => rfl) RN2
    have e3 : M2 56 3 = M 56 3 := A 56 3 (by omega) (by omega)
    have e4 : M2 56 4 = M 56 4 := A 56 4 (by omega) (by omega)
    have C2 : CSp Bf nf M2 := csp_r C p2 A
    have r6 : ∀ k : Nat, k = 98 ∨ k = 99 ∨ k = 123 ∨ k = 124 ∨ k = 125 ∨ k = 9 ∨ k = 10 ∨ k = 93 → M2 160 k = M 160 k := fun k hk => by
      refine Eq.trans (F2 160 k ?_) (R1 160 k (by omega) (by omega))
      have all : ∀ k ∈ [98, 99, 123, 124, 125, 9, 10, 93], nw_F wl_X13_run wf_X13_run false false 160 k = true := by decide
      exact all k (by simp only [List.mem_cons, List.not_mem_nil, or_false]; omega)
    have TB2 := (rsv_k (g := M2) RS (fun x j w => F2 x j (nw_rng (lo := 226) (hi := 237) rfl ⟨by omega, by omega⟩)) (F2 160 98 rfl)).2
    obtain ⟨z1, z2, z3, z4⟩ := rest_k (M2 := M2) VM (fun c k a => A c k (by omega) (by omega)) (fun c k a => A c k (by omega) (by omega)) (fun b hb => by have ib := im_at hb; exact A b 0 (by omega) (by omega)) (fun k => A 60 k (by omega) (by omega)) e3 (fun k => (F2 221 k (nw_ar rfl k)).trans (R1 221 k (by omega) (by omega))) (fun k => (F2 222 k (nw_ar rfl k)).trans (R1 222 k (by omega) (by omega))) (r6 93 (by omega)) (r6 9 (by omega)) (r6 10 (by omega)) w2 w3 w4 w6
    obtain ⟨y1, y2, y3⟩ := wh
    refine ⟨x, M1, M2, g1, by rw [q]; exact g2, V', z1, z2, z3, ⟨⟨by rw [r6 123 (by omega), A 127 2 (by omega) (by omega)]; exact y1, by rw [r6 124 (by omega), A 127 3 (by omega) (by omega)]; exact y2, by rw [r6 125 (by omega), A 127 4 (by omega) (by omega)]; exact y3⟩, rn_x ⟨⟨by rw [e3]; exact p2, C2.1⟩, C2.2.1⟩ e3 RN3, (lo 143 20 (by omega)).trans t20, Bf, nf, ⟨⟨by rw [r6 98 (by omega), e3]; exact p1, by rw [e3]; exact p2, by rw [r6 99 (by omega), e4]; exact p3⟩, C2, TB2, by rw [e3]; exact N⟩, fun _ => ?_, .inr (by rw [e3]; exact RN3), fun _ => e4.trans x1⟩, z4⟩
    rw [e3]
    exact ⟨e4.trans x1, x2, x3, lkt_k x4 (fun c a b => funext (fun k => A c k (by omega) (by omega)))⟩
  · obtain ⟨q, e⟩ := ru_0 (by omega) VM s1 (by rw [R.1]; exact s1) g1 g2
    have q : x = y := q
    have e : M2 = M := e
    refine ⟨x, M1, M2, g1, by rw [q]; exact g2, V', ?_⟩
    rw [e]
    exact ⟨w2, w3, w4, ⟨wh, R, th, Bf, nf, E, v1, v2, v3⟩, w6⟩
end

/- THE LAW'S LEVEL: load and keep -/
section
variable {nn t n : Nat} {M M1 M2 h g : ms_M} {c s : Nat}
theorem ko_fr {b : Nat} (c256 : 256 ≤ cn_M h) (hb : b < 256) {u : ms_M × Nat × Nat} (e : qf_X3_keepOwn nn b h = some u) : (∀ c k, c ≠ cn_M h → c < 900000 → ¬ (c = b ∧ k = 0) → u.1 c k = h c k) ∧ u.1 b 0 = (cn_M h : Int) ∧ cn_M u.1 = cn_M h + 1 ∧ ∀ c, c < cn_M h → u.1 900001 c = h 900001 c := by
  unfold qf_X3_keepOwn at e
  obtain ⟨-, e⟩ := ck_i e
  obtain ⟨w, ew, e⟩ := sv_i e
  unfold qf_J7_copyOf_9075b at ew
  split at ew
  · rename_i hq
    have cm : cn_M h < 700000 := by unfold cn_M; omega
    have ew := Option.some.inj ew
    unfold wr_R at e
    split at e
    · have e := Option.some.inj e
      rw [← e, ← ew]
      refine ⟨fun c k q1 q2 q3 => ?_, up_s, ?_, fun c hcc => ?_⟩
      · dsimp only
        rw [up_n q3]
        unfold nw_M
        rw [if_neg q1, if_neg (by omega), if_neg (by omega)]
      · dsimp only
        unfold cn_M at cm ⊢
        rw [up_n (by omega)]
        unfold nw_M cn_M
        rw [if_neg (by omega), if_pos ⟨rfl, rfl⟩]
        omega
      · dsimp only
        rw [up_n (by omega)]
        unfold nw_M
        rw [if_neg (by omega), if_neg (by omega), if_neg (by omega)]
    · cases e
  · cases ew
/-- bringing leaves the rows of bytes; own bytes are old ones or new -/
theorem brg_by (hn : 1000000 ≤ nn) {a1 : Nat} {a2 : Int} (V : VS_ h) (SI : SI_ h) (ta : a1 < cn_M h ∧ ly_T a1 = 1) (ha : 0 ≤ a2 ∧ a2 ≤ 6000) (hc : h 900000 0 < 700000) : Pc (qf_X7_bring nn a1 a2 h) (fun r => ((∀ c k : Nat, 256 ≤ c → c < cn_M h → r.2.1 c k = h c k) ∧ (∀ c : Nat, c < cn_M h → r.2.1 900001 c = h 900001 c) ∧ cn_M h ≤ cn_M r.2.1) ∧ ∀ j : Nat, (j : Int) < r.2.1 56 3 → r.2.1 (r.2.1 60 j).toNat 0 = (cn_M h : Int) ∨ ∃ i : Nat, (i : Int) < h 56 3 ∧ r.2.1 (r.2.1 60 j).toNat 0 = h (h 60 i).toNat 0) := by
  have hb := (vi_r V).1.2
  have h0 := (vi_r V).1.1
  have g3 := gF_56_3 V
  have ib := im_at hb
  have c256 := vi_c V
  have cm : cn_M h < 700000 := by unfold cn_M; omega
  unfold qf_X7_bring
  refine pc_ck (fun _ => pc_ck (fun _ => pc_se (fun u3 e3 => ?_)))
  have F : ∀ c k, (c < (h 56 2).toNat ∨ (h 56 2).toNat + 6 < c) → u3.2 c k = h c k := fun c k q => (of_X3_read nn hb) _ e3 c k q
  have s9 : u3.2 900000 0 = h 900000 0 := F 900000 0 (by omega)
  have s2 : u3.2 56 2 = h 56 2 := F 56 2 (by omega)
  have s3 : u3.2 56 3 = h 56 3 := F 56 3 (by omega)
  have cn3 : cn_M u3.2 = cn_M h := by unfold cn_M; rw [s9]
  have ds : ∀ j : Nat, j < 8 → (h 60 j).toNat ≠ (h 56 2).toNat ∧ ((h 60 j).toNat < (h 56 2).toNat ∨ (h 56 2).toNat + 6 < (h 60 j).toNat) ∧ (61 ≤ (h 60 j).toNat ∧ (h 60 j).toNat ≤ 153) := fun j hj => by
    have hd := V.2.2.2.2.1 j hj
    have ne : (h 60 j).toNat ≠ (h 56 2).toNat := fun q => SI.2.2 j hj (by omega)
    have id := im_at hd.2
    exact ⟨ne, (im_dis hb hd.2 ne).1, by omega⟩
  have K : ((∀ c k : Nat, 256 ≤ c → c < cn_M h → u3.2 c k = h c k) ∧ (∀ c : Nat, c < cn_M h → u3.2 900001 c = h 900001 c) ∧ cn_M h ≤ cn_M u3.2) ∧ ∀ j : Nat, (j : Int) < u3.2 56 3 → u3.2 (u3.2 60 j).toNat 0 = (cn_M h : Int) ∨ ∃ i : Nat, (i : Int) < h 56 3 ∧ u3.2 (u3.2 60 j).toNat 0 = h (h 60 i).toNat 0 := by
    refine ⟨⟨fun c k a b => F c k (by omega), fun c a => F 900001 c (by omega), by omega⟩, fun j hj => .inr ⟨j, by omega, ?_⟩⟩
    rw [F 60 j (by omega)]
    exact F _ _ (ds j (by omega)).2.1
  have V3 := (okof (vf_X3_read hn hb (by omega) (by omega) V ta ha) e3).1
  refine pc_if (fun c => ?_) (fun _ => pc_xl (fun _ _ => pc_ret K))
  refine pc_ck (fun _ => pc_ck (fun _ => pc_if (fun _ => pc_ret K) (fun c8 => ?_)))
  refine pc_ck (fun _ => pc_ck (fun _ => pc_se (fun _ _ => pc_ck (fun _ => pc_se (fun _ _ => pc_se (fun u15 _ => ?_))))))
  refine pc_if (fun _ => ?_) (fun _ => pc_ret K)
  refine pc_ck (fun _ => pc_se (fun u18 e18 => pc_se (fun u21 e21 => ?_)))
  rw [s2] at e18
  obtain ⟨k1, k2, k3, k4⟩ := ko_fr (by omega) (by omega) e18
  rw [cn3] at k1 k2 k3 k4
  have i21 := (sw_i e21).2
  have t18 : u18.1 56 3 = h 56 3 := by rw [k1 56 3 (by omega) (by omega) (by omega)]; exact s3
  have t182 : u18.1 56 2 = h 56 2 := by rw [k1 56 2 (by omega) (by omega) (by omega)]; exact s2
  refine pc_xl (fun v23 e23 => pc_xl (fun h24 e24 => pc_se (fun u26 e26 => pc_xl (fun v28 e28 => pc_xl (fun v29 e29 => pc_ret ?_)))))
  rw [show u21 56 3 = h 56 3 by rw [i21, up_n (by omega), up_n (by omega)]; exact t18, oq_add_eq (by omega) (by omega) (by omega)] at e23
  have L : ∀ c k : Nat, c ≠ 56 → c ≠ 58 → c ≠ 59 → ¬ (c = 60 ∧ k = (h 56 3).toNat) → u26 c k = u18.1 c k := fun c k q1 q2 q3 q4 => by
    rw [rl_fr e26 c k (by omega), e24, up_n (by omega), i21, up_n (by omega), up_n (by rw [t18]; exact q4)]
  have l60 : u26 60 (h 56 3).toNat = h 56 2 := by
    rw [rl_fr e26 60 _ (by omega), e24, up_n (by omega), i21, up_n (by omega), t18, up_s]; exact t182
  have l3 : u26 56 3 = h 56 3 + 1 := by rw [rl_fr e26 56 3 (by omega), e24, up_s, e23]
  refine ⟨⟨fun c k a b => ?_, fun c a => ?_, ?_⟩, fun j hj => ?_⟩
  · show u26 c k = h c k
    rw [L c k (by omega) (by omega) (by omega) (by omega), k1 c k (by omega) (by omega) (by omega)]
    exact F c k (by omega)
  · show u26 900001 c = h 900001 c
    rw [L _ c (by omega) (by omega) (by omega) (by omega), k4 c a]
    exact F _ c (by omega)
  · show cn_M h ≤ cn_M u26
    have : cn_M u26 = cn_M u18.1 := by unfold cn_M; rw [L 900000 0 (by omega) (by omega) (by omega) (by omega)]
    omega
  · have hj : (j : Int) < u26 56 3 := hj
    rw [l3] at hj
    by_cases q : j = (h 56 3).toNat
    · refine .inl ?_
      show u26 (u26 60 j).toNat 0 = _
      rw [q, l60, L _ 0 (by omega) (by omega) (by omega) (by omega)]
      exact k2
    · refine .inr ⟨j, by omega, ?_⟩
      show u26 (u26 60 j).toNat 0 = _
      have d := ds j (by omega)
      have e60 : u26 60 j = h 60 j := by
        rw [L 60 j (by omega) (by omega) (by omega) (by omega), k1 60 j (by omega) (by omega) (by omega)]
        exact F 60 j (by omega)
      rw [e60, L _ 0 (by omega) (by omega) (by omega) (by omega), k1 _ 0 (by omega) (by omega) (by omega)]
      exact F _ 0 d.2.1
/-- images told, and where they lie, behind a bringing -/
theorem br_im (hn : 1000000 ≤ nn) {a1 : Nat} {a2 : Int} (V : VS_ M) (V2 : VS_ M2) (SI : SI_ M) (ta : a1 < cn_M M ∧ ly_T a1 = 1) (ha : 0 ≤ a2 ∧ a2 ≤ 6000) (hc : M 900000 0 < 700000) {u : Int × ms_M × Nat × Nat} (e : qf_X7_bring nn a1 a2 M = some u) (h1 : ∀ c k : Nat, ¬ (c = 0 ∧ k = 1) → ¬ (c = 143 ∧ 1 ≤ k ∧ k ≤ 7) → c < 160 ∨ 256 ≤ c → M2 c k = u.2.1 c k) (r1 : ∀ k : Nat, M2 221 k = M 221 k) (r2 : ∀ k : Nat, M2 222 k = M 222 k) (r3 : M2 160 93 = M 160 93) (r9 : M2 160 9 = M 160 9) (r10 : M2 160 10 = M 160 10) (K : KNB M) (T : FTm M) (R : im_R M) (D : DJ M) : KNB M2 ∧ FTm M2 ∧ im_R M2 ∧ DJ M2 := by
  obtain ⟨⟨b1, b2, b3⟩, b4⟩ := brg_by hn V SI ta ha hc _ e
  have L := brg_c hn (a1 := a1) (a2 := a2) V ta ha hc _ e
  have lo : ∀ c k : Nat, c < 56 → ¬ (c = 0 ∧ k = 1) → M2 c k = M c k := fun c k q1 q2 => (h1 c k q2 (by omega) (by omega)).trans (L c k q1)
  have c256 := vi_c V
  refine ⟨kB_e K (fun k => lo 6 k (by omega) (by omega)) (fun k => lo 7 k (by omega) (by omega)) (fun k => lo 8 k (by omega) (by omega)) (fun k => lo 10 k (by omega) (by omega)), ft_fr (lo 2 11 (by omega) (by omega)) (lo 2 12 (by omega) (by omega)) r9 r10 T, ?_, fun j hj c hc8 => ?_⟩
  · obtain ⟨x1, x2, x3⟩ := R
    have e7 : M2 0 7 = M 0 7 := lo 0 7 (by omega) (by omega)
    refine ⟨by rw [r3, e7]; exact x1, by rw [e7]; exact x2, fun k hk => ?_⟩
    rw [e7] at hk
    obtain ⟨⟨y1, y2⟩, y3, y4, y5⟩ := x3 k hk
    rw [lo 55 k (by omega) (by omega), r2]
    refine ⟨⟨y1, ?_⟩, y3, ?_, fun i hi => ?_⟩
    · have : cn_M M2 = cn_M u.2.1 := by unfold cn_M; rw [h1 900000 0 (by omega) (by omega) (by omega)]
      omega
    · rw [h1 900001 _ (by omega) (by omega) (by omega), b2 _ y2]; exact y4
    · rw [r1, h1 _ i (by omega) (by omega) (by omega), b1 _ i (by omega) y2]; exact y5 i hi
  · have e3 : M2 56 3 = u.2.1 56 3 := h1 56 3 (by omega) (by omega) (by omega)
    have g3 := gF_56_3 V2
    have id := im_at (V2.2.2.2.2.1 j (by omega)).2
    have e60 : M2 60 j = u.2.1 60 j := h1 60 j (by omega) (by omega) (by omega)
    have eo : M2 (M2 60 j).toNat 0 = u.2.1 (u.2.1 60 j).toNat 0 := by
      rw [h1 _ 0 (by omega) (by omega) (by omega), e60]
    rw [eo, lo 43 c (by omega) (by omega), lo 55 c (by omega) (by omega)]
    rcases b4 j (by omega) with q | ⟨i, q1, q2⟩
    · rw [q]
      exact ⟨fun z => by have := (V.2.2.2.2.2.2.1 c hc8 (by omega)).1; omega, fun z => by have := (V.2.2.2.2.2.2.2 c hc8 (by omega)).1; omega⟩
    · rw [q2]; exact D i q1 c hc8
/-- the reference copies the tape, then loads -/
theorem rl_10 : ∀ (k : Nat) (l1 : Int) (h : ms_M), VS_ h → 0 ≤ l1 → (∀ i : Nat, (i : Int) < l1 → h 238 i = h 161 i) → Pc (qw_X13_load_10 nn k l1 h) (fun w => ∃ g, VS_ g ∧ g 160 113 = h 160 113 ∧ (∀ i : Nat, (i : Int) < h 160 1 → g 238 i = h 161 i) ∧ (∀ x k : Nat, x ≠ 238 → ¬ (x = 160 ∧ k = 1) → g x k = h x k) ∧ qf_X13_loaded nn g = some w) := by
  intro k
  induction k with
  | zero => intros; exact pc_none
  | succ k ih =>
    intro l1 h V l0 A
    unfold qw_X13_load_10
    refine pc_if (fun q => pc_xl (fun h2 e2 => pc_se (fun u4 e4 => pc_ret ?_))) (fun q => pc_rA (fun b1 b2 v7 e7 => pc_wA (fun b3 b4 h8 e8 => pc_xl (fun v9 e9 => ?_))))
    · refine ⟨h2, by rw [e2]; exact wF_160_1 V (by omega), by rw [e2, up_n (by omega)], fun i hi => ?_, fun x k q1 q2 => by rw [e2, up_n (by omega)], e4⟩
      rw [e2, up_n (by omega)]; exact A i (by omega)
    · rw [oq_add_eq (by omega) (by omega) (by omega)] at e9
      have g7 := gA_161 V l1.toNat (by omega)
      rw [← e7] at g7
      have V8 : VS_ h8 := by rw [e8]; exact wA_238 V g7
      have N : ∀ x k : Nat, x ≠ 238 → h8 x k = h x k := fun x k q => by rw [e8, up_n (by omega)]
      rw [e9]
      refine pc_imp (ih _ _ V8 (by omega) (fun i hi => ?_)) (fun w ⟨g, w1, w2, w3, w4, w5⟩ => ⟨g, w1, w2.trans (N _ _ (by omega)), fun i hi => (w3 i (by rw [N _ _ (by omega)]; exact hi)).trans (N _ _ (by omega)), fun x k q1 q2 => (w4 x k q1 q2).trans (N x k q1), w5⟩)
      rw [N 161 i (by omega), e8]
      by_cases q : i = l1.toNat
      · rw [q, up_s, e7]
      · rw [up_n (by omega)]; exact A i (by omega)
theorem rl_26 {l1 : Int} (l10 : 0 ≤ l1 ∧ l1 ≤ 8) : ∀ (k : Nat) (l2 : Int) (h : ms_M), VS_ h → 0 ≤ l2 → (∀ i : Nat, (i : Int) < l2 → h 238 i = h 221 (6000 * l1.toNat + i)) → Pc (qw_X13_keep_26 nn k l1 l2 h) (fun w => ∃ g, VS_ g ∧ g 160 113 = h 160 113 ∧ (∀ i : Nat, (i : Int) < h 160 113 → g 238 i = h 221 (6000 * l1.toNat + i)) ∧ (∀ x k : Nat, x ≠ 238 → g x k = h x k) ∧ qf_X13_loaded nn g = some w) := by
  intro k
  induction k with
  | zero => intros; exact pc_none
  | succ k ih =>
    intro l2 h V l0 A
    unfold qw_X13_keep_26
    refine pc_if (fun q => pc_se (fun u4 e4 => pc_ret ⟨h, V, rfl, fun i hi => A i (by omega), fun _ _ _ => rfl, e4⟩)) (fun q => pc_xl (fun v6 e6 => pc_xl (fun v7 e7 => pc_rA (fun b1 b2 v8 e8 => pc_wA (fun b3 b4 h9 e9 => pc_xl (fun v9 e10 => ?_))))))
    rw [oq_mul_eq (by omega) (by omega) (by omega)] at e6
    rw [e6, oq_add_eq (by omega) (by omega) (by omega)] at e7
    rw [oq_add_eq (by omega) (by omega) (by omega)] at e10
    have t7 : v7.toNat = 6000 * l1.toNat + l2.toNat := by omega
    have g8 := gA_221 V v7.toNat (by omega)
    rw [← e8] at g8
    have V9 : VS_ h9 := by rw [e9]; exact wA_238 V g8
    have N : ∀ x k : Nat, x ≠ 238 → h9 x k = h x k := fun x k q => by rw [e9, up_n (by omega)]
    rw [e10]
    refine pc_imp (ih _ _ V9 (by omega) (fun i hi => ?_)) (fun w ⟨g, w1, w2, w3, w4, w5⟩ => ⟨g, w1, w2.trans (N _ _ (by omega)), fun i hi => (w3 i (by rw [N _ _ (by omega)]; exact hi)).trans (N _ _ (by omega)), fun x k q1 => (w4 x k q1).trans (N x k q1), w5⟩)
    rw [N 221 _ (by omega), e9]
    by_cases q : i = l2.toNat
    · rw [q, up_s, e8, t7]
    · rw [up_n (by omega)]; exact A i (by omega)
theorem ld_i {w : Int × ms_M × Nat × Nat} (e : qf_X12_load nn M = some w) : ∃ u, qf_X7_bring nn 1 (M 0 1) M = some u ∧ w.1 = u.1 ∧ ((u.1 < 0 ∧ w.2.1 = up_M u.2.1 0 1 0) ∨ (0 ≤ u.1 ∧ qf_X5_forget nn (up_M u.2.1 0 1 0) = some w.2.1)) := by
  unfold qf_X12_load at e
  obtain ⟨u, eu, e⟩ := sv_i e
  rw [xl_eq] at e
  refine ⟨u, eu, ?_⟩
  by_cases d : u.1 < 0
  · rw [if_pos d] at e; cases e; exact ⟨rfl, .inl ⟨d, rfl⟩⟩
  · rw [if_neg d] at e
    obtain ⟨u9, e9, e⟩ := sv_i e
    cases e
    exact ⟨rfl, .inr ⟨by omega, e9⟩⟩
theorem wh_load (hn : 1000000 ≤ nn) (ht : t < 512) (W : WHm nn t M c s) : ∃ r M1 c1 s1 M2, qf_X12_load nn M = some (r, M1, c1, s1) ∧ qf_X13_load nn M1 = some (r, M2) ∧ WHm nn (t + 1) M2 (c + c1) (s + s1) := by
  obtain ⟨w1, w2, w3, w4, w5, w6⟩ := W
  have VM := bva_v w1.1
  have J := w1.1.1.2.2.2
  have SI := w1.1.1.1.2.2.1
  have hc : M 900000 0 < 700000 := by have := w1.2.2.2.1; omega
  obtain ⟨x, M1, c1, s1, y, M2, g1, g2, V'⟩ := vr_load hn ht w1
  have V2 := bva_v V'.1
  have V1 : VS_ M1 := by
    obtain ⟨u, eu, C, -⟩ := cva_load (p := 20000 * (t : Int)) hn (by omega) w1.1.1 hc
    rw [g1] at eu; cases eu
    exact C.1.1
  have F1 := fun c k q => (ff_X12_load nn) _ g1 c k q
  have F2 := fun c k q => (ff_X13_load nn) _ g2 c k q
  have R1 : ∀ x k : Nat, 160 ≤ x → x ≤ 255 → M1 x k = M x k := fun x k a b => F1 x k (nw_ref rfl ⟨a, b⟩)
  obtain ⟨t1, t2, t3⟩ := w1.2.2.1
  have m1 : M 0 1 = ((M 0 1).toNat : Int) := (Int.toNat_of_nonneg t2.1).symm
  obtain ⟨u, eu, i1, i2⟩ := ld_i g1
  have i1 : x = u.1 := i1
  -- the class's memory against what bringing left
  have H1 : (∀ c k : Nat, ¬ (c = 0 ∧ k = 1) → ¬ (c = 143 ∧ 1 ≤ k ∧ k ≤ 7) → M1 c k = u.2.1 c k) ∧ (u.1 < 0 → ∀ k : Nat, M1 143 k = u.2.1 143 k) ∧ (0 ≤ u.1 → M1 143 1 = 0 ∧ M1 143 2 = -1 ∧ M1 143 3 = 0 ∧ M1 143 4 = 0 ∧ M1 143 5 = 0 ∧ M1 143 6 = 0 ∧ M1 143 7 = 0) := by
    rcases i2 with ⟨d, e⟩ | ⟨d, e⟩
    · have e : M1 = up_M u.2.1 0 1 0 := e
      rw [e]
      exact ⟨fun c k q _ => up_n q, fun _ k => up_n (by omega), fun q => by omega⟩
    · obtain ⟨f1, f2⟩ := fg_5 e
      exact ⟨fun c k q q2 => (f2 c k q2).trans (up_n q), fun q => by omega, fun _ => f1⟩
  -- the reference
  have g2' := g2
  unfold qf_X13_load at g2'
  rw [xl_eq] at g2'
  have V12 : VS_ (up_M M1 160 113 (M1 160 1)) := wF_160_113 V1 (by rw [R1 160 1 (by omega) (by omega), t1]; exact t2)
  obtain ⟨g, Vg, g113, g238, gx, gl⟩ := rl_10 (nn := nn) _ _ _ V12 (Int.le_refl 0) (fun i hi => by omega) _ g2'
  rw [up_s, R1 160 1 (by omega) (by omega), t1] at g113
  have gB : ∀ i : Nat, (i : Int) < M 0 1 → g 238 i = M 161 i := fun i hi => by
    rw [g238 i (by rw [up_n (by omega), R1 160 1 (by omega) (by omega), t1]; exact hi), up_n (by omega)]; exact R1 161 i (by omega) (by omega)
  have ta : 1 < cn_M M ∧ ly_T 1 = 1 := ⟨by have := vi_c VM; omega, rfl⟩
  have fin := br_fin (nn := nn) (M1 := M1) (n := (M 0 1).toNat) (B := fun i => g 238 i) hn VM SI J w5 ta (a2 := M 0 1) ⟨m1, by omega, by show ((M 0 1).toNat : Int) ≤ 6000; omega⟩ (fun i hi => by rw [gB i (by omega)]; exact (t3 i (by omega)).symm) hc eu H1.1 H1.2.1 H1.2.2 Vg (by rw [g113]; exact m1) (fun i => rfl) (fun x k q1 q2 => by rw [gx x k q1 (by omega), up_n (by omega)]) gl V2
  have q1 : x = y := i1.trans fin.1
  obtain ⟨z1, z2, z3, z4⟩ := br_im (nn := nn) (M2 := M2) hn VM V2 SI ta (a2 := M 0 1) t2 hc eu (fun c k q1 q2 q3 => (F2 c k (nw_cls rfl q3)).trans (H1.1 c k q1 q2)) (fun k => (F2 221 k (nw_ar rfl k)).trans (R1 221 k (by omega) (by omega))) (fun k => (F2 222 k (nw_ar rfl k)).trans (R1 222 k (by omega) (by omega))) ((F2 160 93 rfl).trans (R1 160 93 (by omega) (by omega))) ((F2 160 9 rfl).trans (R1 160 9 (by omega) (by omega))) ((F2 160 10 rfl).trans (R1 160 10 (by omega) (by omega))) w2 w3 w4 w6
  exact ⟨x, M1, c1, s1, M2, g1, by rw [q1]; exact g2, V', z1, z2, z3, fin.2, z4⟩
end

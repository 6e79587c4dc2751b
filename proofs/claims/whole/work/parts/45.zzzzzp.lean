/- THE LAW'S LEVEL: feed, end, compile, clear, and the calls that only tell -/
section
variable {nn t : Nat} {Bf : Nat → Nat → Int} {nf : Nat → Nat} {M M1 M2 : ms_M} {c s : Nat}
/-- the invariant of both sides over all calls -/
def WHm (nn t : Nat) (M : ms_M) (c s : Nat) : Prop := VRm nn t M c s ∧ KNB M ∧ FTm M ∧ im_R M ∧ SRw M ∧ DJ M
theorem im_fr (F : LFr M M2) (a : ∀ k : Nat, M2 55 k = M 55 k) (b : ∀ k : Nat, M2 221 k = M 221 k) (d : ∀ k : Nat, M2 222 k = M 222 k) (e : M2 0 7 = M 0 7) (f : M2 160 93 = M 160 93) (R : im_R M) : im_R M2 := by
  obtain ⟨A, O, L, N, T, K⟩ := F
  obtain ⟨r1, r2, r3⟩ := R
  refine ⟨by rw [f, e]; exact r1, by rw [e]; exact r2, fun k hk => ?_⟩
  rw [e] at hk
  obtain ⟨⟨x1, x2⟩, x3, x4, x5⟩ := r3 k hk
  rw [a, d]
  refine ⟨⟨x1, Nat.lt_of_lt_of_le x2 N⟩, x3, (L _ x2).trans x4, fun i hi => ?_⟩
  rw [b, O _ i (by omega) x2]
  exact x5 i hi
theorem ft_fr (a : M2 2 11 = M 2 11) (b : M2 2 12 = M 2 12) (d : M2 160 9 = M 160 9) (e : M2 160 10 = M 160 10) (R : FTm M) : FTm M2 := by
  obtain ⟨h1, h2⟩ := R
  exact ⟨by rw [d, a]; exact h1, by rw [a, e, b]; exact h2⟩
/-- the Images' own bytes lie where they lay -/
theorem own_k (V : VS_ M) (A : ∀ c k : Nat, 56 ≤ c → c < 160 → M2 c k = M c k) : ∀ j : Nat, (j : Int) < M 56 3 → M2 (M2 60 j).toNat 0 = M (M 60 j).toNat 0 := fun j hj => by
  have g3 := gF_56_3 V
  have id := im_at (V.2.2.2.2.1 j (by omega)).2
  rw [A 60 j (by omega) (by omega)]
  exact A _ _ (by omega) (by omega)
/-- feed and end: only the tapes change -/
theorem wh_tape {X : List Nat} (hX : X = [1, 161] ∨ X = []) (F : ∀ c k, nw_F X [(0, 1), (160, 1)] false false c k = true → M2 c k = M c k) (V : VRm nn (t + 1) M2 c s) (W : WHm nn t M c s) : WHm nn (t + 1) M2 c s := by
  obtain ⟨w1, w2, w3, w4, w5, w6⟩ := W
  have VM := bva_v w1.1
  have J := w1.1.1.2.2.2
  have G : ∀ c k : Nat, c ≠ 1 → c ≠ 161 → ¬ (c = 0 ∧ k = 1) → ¬ (c = 160 ∧ k = 1) → M2 c k = M c k := fun c k q1 q2 q3 q4 => F c k (by
    unfold nw_F
    simp only [Bool.and_eq_true]
    refine ⟨?_, ?_, rfl, rfl⟩
    · cases hq : X.contains c with
      | false => rfl
      | true =>
        exfalso
        have m := List.contains_iff_mem.mp hq
        rcases hX with e | e <;> (rw [e] at m; simp only [List.mem_cons, List.not_mem_nil, or_false] at m)
        omega
    · cases hq : [((0 : Nat), (1 : Nat)), (160, 1)].contains (c, k) with
      | false => rfl
      | true =>
        exfalso
        have m := List.contains_iff_mem.mp hq
        simp only [List.mem_cons, List.not_mem_nil, or_false, Prod.mk.injEq] at m
        omega)
  have L : LFr M M2 := ⟨fun c k _ _ => G c k (by omega) (by omega) (by omega) (by omega), fun c k _ _ => G c k (by omega) (by omega) (by omega) (by omega), fun k _ => G 900001 k (by omega) (by omega) (by omega) (by omega), by unfold cn_M; rw [G 900000 0 (by omega) (by omega) (by omega) (by omega)]; exact Nat.le_refl _, fun c k _ _ => G c k (by omega) (by omega) (by omega) (by omega), fun k _ => G 160 k (by omega) (by omega) (by omega) (by omega)⟩
  have R : ∀ c k : Nat, 2 ≤ c → c < 160 → M2 c k = M c k := fun c k _ _ => G c k (by omega) (by omega) (by omega) (by omega)
  exact ⟨V, kB_e w2 (fun k => R 6 k (by omega) (by omega)) (fun k => R 7 k (by omega) (by omega)) (fun k => R 8 k (by omega) (by omega)) (fun k => R 10 k (by omega) (by omega)), ft_fr (R 2 11 (by omega) (by omega)) (R 2 12 (by omega) (by omega)) (G 160 9 (by omega) (by omega) (by omega) (by omega)) (G 160 10 (by omega) (by omega) (by omega) (by omega)) w3, im_fr L (fun k => R 55 k (by omega) (by omega)) (fun k => G 221 k (by omega) (by omega) (by omega) (by omega)) (fun k => G 222 k (by omega) (by omega) (by omega) (by omega)) (G 0 7 (by omega) (by omega) (by omega) (by omega)) (G 160 93 (by omega) (by omega) (by omega) (by omega)) w4, srw_fr VM J L w5, dj_e (R 56 3 (by omega) (by omega)) (fun k => R 43 k (by omega) (by omega)) (fun k => R 55 k (by omega) (by omega)) (own_k VM (fun c k a b => R c k (by omega) b)) w6⟩
theorem wh_feed (hn : 1000000 ≤ nn) (W : WHm nn t M c s) {a b d e f : Int} (r1 : in_R a) (r2 : in_R b) (r3 : in_R d) (r4 : in_R e) (r5 : in_R f) : ∃ r M1 M2, qf_X12_feed nn a b d e f M = some (r, M1) ∧ qf_X13_feed nn a b d e f M1 = some (r, M2) ∧ WHm nn (t + 1) M2 c s := by
  obtain ⟨r, M1, M2, g1, g2, V⟩ := vr_feed hn W.1 r1 r2 r3 r4 r5
  obtain ⟨r', N1, N2, f1, f2, T, F⟩ := feed_2 (nn := nn) (by omega) (a := a) (b := b) (x := d) (e := e) (f := f) W.1.2.2.1
  rw [g1] at f1; cases f1
  rw [g2] at f2; cases f2
  exact ⟨_, _, _, g1, g2, wh_tape (.inl rfl) F V W⟩
theorem wh_end (hn : 1000000 ≤ nn) (W : WHm nn t M c s) {a : Int} (r1 : in_R a) : ∃ r M1 M2, qf_X12_end nn a M = some (r, M1) ∧ qf_X13_end nn a M1 = some (r, M2) ∧ WHm nn (t + 1) M2 c s := by
  obtain ⟨r, M1, M2, g1, g2, V⟩ := vr_end hn W.1 r1
  obtain ⟨r', N1, N2, f1, f2, T, F⟩ := end_2 (nn := nn) (a := a) W.1.2.2.1
  rw [g1] at f1; cases f1
  rw [g2] at f2; cases f2
  exact ⟨_, _, _, g1, g2, wh_tape (.inr rfl) F V W⟩
theorem wh_fault (W : WHm nn t M c s) {a : Int} : ∃ r, qf_X12_fault nn a M = some r ∧ qf_X13_fault nn a M = some r := fault_m (bva_v W.1.1) W.2.2.1
theorem wh_image (W : WHm nn t M c s) {a b : Int} (hb : in_R b) : ∃ r, qf_X12_image nn a b M = some r ∧ qf_X13_image nn a b M = some r := image_2 W.2.2.2.1 hb
theorem wh_where (W : WHm nn t M c s) {a : Int} : ∃ r, qf_X12_where nn a M = some r ∧ qf_X13_where nn a M = some r := where_2 W.2.2.2.2.1.1
theorem wh_out (W : WHm nn t M c s) {a : Int} : ∃ r, qf_X12_out nn a M = some r ∧ qf_X13_out nn a M = some r := out_2 W.2.2.2.2.1.2.1
theorem wh_look (W : WHm nn t M c s) {a : Int} : ∃ r, qf_X12_look nn a M = some r ∧ qf_X13_look nn a M = some r := by
  obtain ⟨Bf, nf, E, -⟩ := W.2.2.2.2.1.2.2.2
  exact look_2 W.2.2.2.2.1.2.1 W.1.2.2.1 E.1
theorem wh_type (hn : 1000000 ≤ nn) (W : WHm nn t M c s) {a b : Int} (r : in_R a) (r2 : in_R b) : ∃ r, qf_X12_type nn a b M = some r ∧ qf_X13_type_ nn a b M = some r := by
  obtain ⟨Bf, nf, E, -⟩ := W.2.2.2.2.1.2.2.2
  obtain ⟨⟨x, e1⟩, y, e2⟩ := bs_type hn r r2 W.1.1
  have q := type_2 (bva_v W.1.1) E e1 e2
  exact ⟨x, e1, by rw [q]; exact e2⟩
theorem wh_compile (hn : 1000000 ≤ nn) (ht : t < 512) (W : WHm nn t M c s) : ∃ r M1 c1 s1 M2, qf_X12_compile nn M = some (r, M1, c1, s1) ∧ qf_X13_compile nn M1 = some (r, M2) ∧ WHm nn (t + 1) M2 (c + c1) (s + s1) := by
  obtain ⟨w1, w2, w3, w4, w5, w6⟩ := W
  have VM := bva_v w1.1
  have J := w1.1.1.2.2.2
  obtain ⟨x, M1, c1, s1, y, M2, g1, g2, V'⟩ := vr_compile hn ht w1
  have V2 := bva_v V'.1
  have V1 : VS_ M1 := by
    obtain ⟨u, eu, C, -⟩ := cva_compile hn w1.1.1 (by have := w1.2.2.2.1; omega)
    rw [g1] at eu; cases eu
    exact C.1.1
  have F1 := fun c k q => (ff_X12_compile nn) _ g1 c k q
  have F2 := fun c k q => (ff_X13_compile nn) _ g2 c k q
  have C := cq_compile (nn := nn) w2 _ g1
  have O := ol_compile (nn := nn) VM _ g1
  obtain ⟨t1, t2, t3⟩ := w1.2.2.1
  have m1 : M 0 1 = ((M 0 1).toNat : Int) := (Int.toNat_of_nonneg t2.1).symm
  have R1 : ∀ x k : Nat, 160 ≤ x → x ≤ 255 → M1 x k = M x k := fun x k a b => F1 x k (nw_ref rfl ⟨a, b⟩)
  obtain ⟨n, FN⟩ := j_compile (nn := nn) (h := M) (r := M1) (m := (M 0 1).toNat) (by omega) hn V1 (fun k hk => by rw [R1 164 k (by omega) (by omega), R1 165 k (by omega) (by omega)]; exact w1.1.2.1.1.1 k hk) (vi_c VM) w2 (by rw [R1 160 88 (by omega) (by omega)]; have := w1.1.2.1.2.2.2; omega) m1 (by rw [R1 160 1 (by omega) (by omega), t1]; exact m1) (by omega) (fun i hi => ⟨gA_1 VM i (by omega), by rw [R1 161 i (by omega) (by omega)]; exact t3 i (by omega)⟩) _ g1 _ g2
  obtain ⟨q1, q2, q3⟩ := im_cmp VM V2 w4 g1 g2 C O FN
  have q1 : x = y := q1
  have lo : ∀ c k : Nat, c < 160 ∨ 256 ≤ c → M2 c k = M1 c k := fun c k q => F2 c k (nw_cls rfl q)
  have L : LFr M M2 := by
    refine ⟨fun c k a b => (lo c k (.inl b)).trans (C.2.1 c k a (by omega)), fun c k a b => (lo c k (.inr a)).trans (O.1 c k a b), fun k a => (lo 900001 k (.inr (by omega))).trans (C.2.2.2.1 k a), ?_, fun c k a b => (F2 c k (nw_rng (lo := 226) (hi := 255) rfl ⟨a, by omega⟩)).trans (R1 c k (by omega) (by omega)), fun k hk => ?_⟩
    · have e : cn_M M2 = cn_M M1 := by unfold cn_M; rw [lo 900000 0 (by omega)]
      rw [e]; exact O.2
    · refine Eq.trans ?_ (R1 160 k (by omega) (by omega))
      have all : ∀ k ∈ [98, 99, 123, 124, 125, 138, 139, 140, 141, 142, 143, 149], nw_F wl_X13_compile wf_X13_compile false false 160 k = true := by decide
      exact F2 160 k (all k (by simp only [List.mem_cons, List.not_mem_nil, or_false]; omega))
  refine ⟨x, M1, c1, s1, M2, g1, by rw [q1]; exact g2, V', kB_e C.1 (fun k => lo 6 k (by omega)) (fun k => lo 7 k (by omega)) (fun k => lo 8 k (by omega)) (fun k => lo 10 k (by omega)), q3, q2, srw_fr VM J L w5, dj_e (lo 56 3 (by omega)) (fun k => lo 43 k (by omega)) (fun k => lo 55 k (by omega)) (own_k V1 (fun c k a b => lo c k (.inl b))) (dj_cmp VM g1 C w6)⟩
end

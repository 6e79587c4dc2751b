/- THE LAW'S LEVEL: the images that compile tells are no Image's own bytes -/
section
variable {nn n : Nat} {S : Int → Prop} {h g z r : ms_M}
theorem ci_id40 {l1 : Nat} : ∀ (k : Nat) (l2 l3 : Int) {h : ms_M} (c s : Nat), Pc (qw_X6_closeImage_40 nn k l1 l2 l3 h c s) (fun r => r.1 = (l1 : Int)) := by
  intro k
  induction k with
  | zero => intro l2 l3 h c s; exact pc_none
  | succ k ih =>
    intro l2 l3 h c s
    unfold qw_X6_closeImage_40
    refine pc_if (fun _ => ?_) (fun _ => ?_)
    · intro r e
      have e := cp_i e
      have e := Option.some.inj e
      rw [← e]
    · exact pc_se (fun u6 _ => pc_rA (fun _ _ _ _ => pc_rA (fun _ _ _ _ => pc_se (fun _ _ => pc_xl (fun _ _ => pc_xl (fun _ _ => ih _ _ _ _))))))
theorem ci_id : Pc (qf_X6_closeImage nn h) (fun r => r.1 = (cn_M h : Int)) := by
  unfold qf_X6_closeImage
  refine pc_se (fun u17 _ => pc_if (fun _ => pc_se (fun u19 _ => pc_ck (fun _ => pc_nB (fun z _ _ => ?_)))) (fun _ => pc_ck (fun _ => pc_nB (fun z _ _ => pc_ret rfl))))
  exact pc_wT (fun h22 _ => pc_wT (fun h23 _ => pc_xl (fun _ _ => pc_wT (fun h26 _ => ci_id40 _ _ _ _ _))))
/-- the images made and told are in S -/
def G43 (S : Int → Prop) (n : Nat) (h : ms_M) : Prop := n ≤ cn_M h ∧ ∀ c : Nat, c < 8 → S (h 43 c) ∧ S (h 55 c)
theorem g43_e (a : r 900000 0 = h 900000 0) (b : ∀ k : Nat, r 43 k = h 43 k) (d : ∀ k : Nat, r 55 k = h 55 k) (G : G43 S n h) : G43 S n r := by
  refine ⟨by unfold cn_M; rw [a]; exact G.1, fun c hc => ?_⟩
  rw [b, d]; exact G.2 c hc
theorem g43_cc (hS : ∀ x : Int, (n : Int) ≤ x → S x) {l : Int} (G : G43 S n h) : Pc (qf_X0_closeClass nn l h) (fun r => G43 S n r.1) := by
  unfold qf_X0_closeClass
  refine pc_se (fun u3 _ => pc_se (fun u6 _ => pc_se (fun u8 e8 => ?_)))
  have F : ∀ c k : Nat, ¬ (c = 33 ∧ k = 7) → u8 c k = h c k := fun c k q => note_fr e8 c k q
  have G8 : G43 S n u8 := g43_e (F _ _ (by omega)) (fun k => F _ _ (by omega)) (fun k => F _ _ (by omega)) G
  refine pc_if (fun _ => pc_ret G8) (fun _ => pc_if (fun _ => pc_ret G8) (fun _ => pc_if (fun _ => pc_ret G8) (fun _ => pc_if (fun _ => pc_ret G8) (fun _ => ?_))))
  refine pc_se (fun u17 e17 => ?_)
  have L := lw_ci G8.1 _ e17
  have I := ci_id _ e17
  intro r e
  unfold wr_QB at e
  split at e
  · have e := Option.some.inj e
    rw [← e]
    refine ⟨?_, fun c hc => ⟨?_, ?_⟩⟩
    · show n ≤ cn_M (up_M u17.2.1 43 l.toNat u17.1)
      unfold cn_M; rw [up_n (by omega)]; exact L.2.2
    · show S (up_M u17.2.1 43 l.toNat u17.1 43 c)
      by_cases q : c = l.toNat
      · rw [q, up_s, I]; exact hS _ (by have := G8.1; omega)
      · rw [up_n (by omega), L.1 43 c (by omega)]; exact (G8.2 c hc).1
    · show S (up_M u17.2.1 43 l.toNat u17.1 55 c)
      rw [up_n (by omega), L.1 55 c (by omega)]; exact (G8.2 c hc).2
  · cases e
theorem g43_13 : ∀ (k : Nat) (l : Int) (h : ms_M), 0 ≤ l → G43 S n h → Pc (qw_X12_takeImages_13 nn k l h) (fun r => G43 S n r.2) := by
  intro k
  induction k with
  | zero => intros; exact pc_none
  | succ k ih =>
    intro l h l0 G
    unfold qw_X12_takeImages_13
    refine pc_if (fun y => pc_ret G) (fun y => pc_if (fun y8 => pc_ret G) (fun y8 => ?_))
    refine pc_se (fun u9 e9 => ?_)
    have v9 : u9 = h 43 l.toNat := by
      unfold qf_X0_made at e9
      rw [if_neg (by omega), if_neg (by omega)] at e9
      have e9 := rd_i e9
      cases e9; rfl
    intro r e
    unfold wr_QB at e
    split at e
    · refine (pc_xl (fun v11 e11 => ?_) : Pc _ (fun r => G43 S n r.2)) r e
      rw [oq_add_eq (by omega) (by omega) (by omega)] at e11
      rw [e11]
      refine ih _ _ (by omega) ⟨?_, fun c hc => ⟨?_, ?_⟩⟩
      · unfold cn_M; rw [up_n (by omega)]; exact G.1
      · rw [up_n (by omega)]; exact (G.2 c hc).1
      · by_cases q : c = l.toNat
        · rw [q, up_s, v9]; exact (G.2 _ (by omega)).1
        · rw [up_n (by omega)]; exact (G.2 c hc).2
    · cases e
theorem g_175 {c s : Nat} (G : G43 S n h) : Pc (qj_X12_compile_175 nn h c s) (fun r => G43 S n r.2.1) := by
  unfold qj_X12_compile_175
  refine pc_se (fun u3 e3 => ?_)
  have F := fun c k q => (ff_X0_closeProgram nn) _ e3 c k q
  have G3 : G43 S n u3 := g43_e (F 900000 0 rfl) (fun k => F 43 k (nw_ar rfl k)) (fun k => F 55 k (nw_ar rfl k)) G
  refine pc_if (fun y => pc_ret G3) (fun y => pc_se (fun u7 e7 => pc_ret ?_))
  refine (?_ : Pc (qf_X12_takeImages nn u3) (fun r => G43 S n r.2)) _ e7
  unfold qf_X12_takeImages
  refine pc_xl (fun h16 e16 => g43_13 _ _ _ (by omega) (g43_e ?_ (fun k => ?_) (fun k => ?_) G3))
  · rw [e16, up_n (by omega)]
  · rw [e16, up_n (by omega)]
  · rw [e16, up_n (by omega)]
theorem gg_124 (hS : ∀ x : Int, (n : Int) ≤ x → S x) {kk : Int → ms_M → Nat → Nat → Option (Int × ms_M × Nat × Nat)} {l2 : Int} {c s : Nat} (hk : ∀ (v : Int) (h : ms_M) (c s : Nat), G43 S n h → Pc (kk v h c s) (fun r => G43 S n r.2.1)) : ∀ (k : Nat) (l3 : Int) {h : ms_M}, G43 S n h → Pc (qw_X12_compile_124 nn kk k l2 l3 h c s) (fun r => G43 S n r.2.1) := by
  intro k
  induction k with
  | zero => intro l3 h N; exact pc_none
  | succ k ih =>
    intro l3 h N
    have j : Pc (qj_X12_compile_161 nn kk l2 h c s) (fun r => G43 S n r.2.1) := by
      unfold qj_X12_compile_161
      exact pc_sv (g43_cc hS N) (fun u11 O => pc_xl (fun v12 e12 => hk _ _ _ _ O))
    unfold qw_X12_compile_124
    refine pc_se (fun u15 _ => pc_if (fun _ => j) (fun _ => pc_if (fun _ => j) (fun y11 => pc_se (fun u20 e20 => pc_xl (fun _ _ => ?_)))))
    have F := fun c k q => (ff_X0_makeMethod nn) _ e20 c k q
    exact ih _ (g43_e (F 900000 0 rfl) (fun k => F 43 k (nw_ar rfl k)) (fun k => F 55 k (nw_ar rfl k)) N)
theorem gg_93 (hS : ∀ x : Int, (n : Int) ≤ x → S x) : ∀ (k : Nat) (l2 : Int) {h : ms_M} (c s : Nat), G43 S n h → Pc (qw_X12_compile_93 nn k l2 h c s) (fun r => G43 S n r.2.1) := by
  intro k
  induction k with
  | zero => intro l2 h c s K; exact pc_none
  | succ k ih =>
    intro l2 h c s K
    unfold qw_X12_compile_93
    refine pc_if (fun _ => g_175 K) (fun _ => pc_if (fun _ => g_175 K) (fun _ => pc_se (fun u30 e30 => ?_)))
    have F := fun c k q => (ff_X0_beginClass nn) _ e30 c k q
    exact gg_124 hS (fun v h c s q => ih v c s q) _ _ (g43_e (F 900000 0 rfl) (fun k => F 43 k (nw_ar rfl k)) (fun k => F 55 k (nw_ar rfl k)) K)
theorem g43_cmp (hS : ∀ x : Int, (n : Int) ≤ x → S x) (G : G43 S n h) : Pc (qf_X12_compile nn h) (fun r => G43 S n r.2.1) := by
  unfold qf_X12_compile
  refine pc_xl (fun h34 e34 => ?_)
  have E : ∀ c k : Nat, ¬ (c = 0 ∧ k = 1) → h34 c k = h c k := fun c k q => by rw [e34, up_n q]
  have G34 : G43 S n h34 := g43_e (E _ _ (by omega)) (fun k => E _ _ (by omega)) (fun k => E _ _ (by omega)) G
  refine pc_if (fun _ => ?_) (fun _ => pc_se (fun u62 e62 => pc_ret ?_))
  · refine pc_se (fun u38 e38 => pc_se (fun u41 e41 => pc_se (fun u44 e44 => pc_se (fun u47 e47 => pc_se (fun u50 e50 => pc_se (fun u53 e53 => pc_se (fun u56 e56 => pc_se (fun u59 e59 => ?_))))))))
    have F38 := fun c k q => (ff_X9_scan nn) _ e38 c k q
    have F41 := fun c k q => (ff_X2_forget nn) _ e41 c k q
    have F44 := fun c k q => (ff_X8_readProgram nn) _ e44 c k q
    have F47 := fun c k q => (ff_X2_readClasses nn) _ e47 c k q
    have F50 := fun c k q => (ff_X2_readMembers nn) _ e50 c k q
    have F53 := fun c k q => (ff_X2_checkOverrides nn) _ e53 c k q
    have F56 := fun c k q => (ff_X2_nameKinds nn) _ e56 c k q
    have F59 := fun c k q => (ff_X0_beginProgram nn) _ e59 c k q
    have G38 : G43 S n u38 := g43_e (F38 900000 0 rfl) (fun k => F38 43 k (nw_ar rfl k)) (fun k => F38 55 k (nw_ar rfl k)) G34
    have G41 : G43 S n u41 := g43_e (F41 900000 0 rfl) (fun k => F41 43 k (nw_ar rfl k)) (fun k => F41 55 k (nw_ar rfl k)) G38
    have G44 : G43 S n u44 := g43_e (F44 900000 0 rfl) (fun k => F44 43 k (nw_ar rfl k)) (fun k => F44 55 k (nw_ar rfl k)) G41
    have G47 : G43 S n u47 := g43_e (F47 900000 0 rfl) (fun k => F47 43 k (nw_ar rfl k)) (fun k => F47 55 k (nw_ar rfl k)) G44
    have G50 : G43 S n u50 := g43_e (F50 900000 0 rfl) (fun k => F50 43 k (nw_ar rfl k)) (fun k => F50 55 k (nw_ar rfl k)) G47
    have G53 : G43 S n u53 := g43_e (F53 900000 0 rfl) (fun k => F53 43 k (nw_ar rfl k)) (fun k => F53 55 k (nw_ar rfl k)) G50
    have G56 : G43 S n u56 := g43_e (hp_ok (by omega) e56) (fun k => F56 43 k (nw_ar rfl k)) (fun k => F56 55 k (nw_ar rfl k)) G53
    have G59 : G43 S n u59 := g43_e (F59 900000 0 rfl) (fun k => F59 43 k (nw_ar rfl k)) (fun k => F59 55 k (nw_ar rfl k)) G56
    exact gg_93 hS _ _ _ _ G59
  · have F := fun c k q => (ff_X9_refuse nn) _ e62 c k q
    exact g43_e (F 900000 0 rfl) (fun k => F 43 k (nw_ar rfl k)) (fun k => F 55 k (nw_ar rfl k)) G34
/-- no Image's own bytes lie where the compiler's images lie -/
def DJ (M : ms_M) : Prop := ∀ j : Nat, (j : Int) < M 56 3 → ∀ c : Nat, c < 8 → ¬ M 43 c = M (M 60 j).toNat 0 ∧ ¬ M 55 c = M (M 60 j).toNat 0
theorem dj_e {M M2 : ms_M} (e3 : M2 56 3 = M 56 3) (a : ∀ k : Nat, M2 43 k = M 43 k) (b : ∀ k : Nat, M2 55 k = M 55 k) (d : ∀ j : Nat, (j : Int) < M 56 3 → M2 (M2 60 j).toNat 0 = M (M 60 j).toNat 0) (D : DJ M) : DJ M2 := fun j hj c hc => by
  rw [a, b, d j (by omega)]; exact D j (by omega) c hc
theorem dj_cmp {M : ms_M} {u : Int × ms_M × Nat × Nat} (V : VS_ M) (e : qf_X12_compile nn M = some u) (C : CQE (cn_M M) M u.2.1) (D : DJ M) : DJ u.2.1 := by
  have g3 := gF_56_3 V
  have A : ∀ c k : Nat, 56 ≤ c → c < 256 → u.2.1 c k = M c k := C.2.1
  have ow : ∀ j : Nat, (j : Int) < M 56 3 → kc_O (M 60 j).toNat = 3 ∧ u.2.1 (u.2.1 60 j).toNat 0 = M (M 60 j).toNat 0 := fun j hj => by
    have hd := (V.2.2.2.2.1 j (by omega)).2
    have id := im_at hd
    rw [A 60 j (by omega) (by omega)]
    exact ⟨hd, A _ _ (by omega) (by omega)⟩
  have G : G43 (fun x => ∀ j : Nat, (j : Int) < M 56 3 → ¬ x = M (M 60 j).toNat 0) (cn_M M) M := ⟨Nat.le_refl _, fun c hc => ⟨fun j hj => (D j hj c hc).1, fun j hj => (D j hj c hc).2⟩⟩
  have R := g43_cmp (nn := nn) (S := fun x => ∀ j : Nat, (j : Int) < M 56 3 → ¬ x = M (M 60 j).toNat 0) (fun x hx j hj q => by
    have b := (vi_b V (ow j hj).1).1
    omega) G _ e
  intro j hj c hc
  rw [A 56 3 (by omega) (by omega)] at hj
  rw [(ow j hj).2]
  exact ⟨(R.2 c hc).1 j hj, (R.2 c hc).2 j hj⟩
end

/- VERIFY: the same texts, members looked up, the reference's side -/
section
variable {nn : Nat} {Bf : Nat → Nat → Int} {nf : Nat → Nat} {cnt : Int} {B C : Nat → Int} {n m b d k o j : Nat} {M h g r h0 : ms_M} {t s c : Int}
theorem vr_72 (S : RSv Bf nf h) (hk : (k : Int) < h 160 98) (hj : (j : Int) < h 160 98) (t1 : tg_S (Bf k) (nf k) t = 1) (s1 : tg_S (Bf j) (nf j) s = 1) (el : tl_S (Bf k) (nf k) t = tl_S (Bf j) (nf j) s) : ∀ (f x : Nat) (l7 : Int), x ≤ tl_S (Bf k) (nf k) t → ((l7 = 1 ∧ ∀ i : Nat, i < x → Bf k (na_S (Bf k) (nf k) t + i) = Bf j (na_S (Bf j) (nf j) s + i)) ∨ (l7 = 0 ∧ ¬ TXq (Bf k) (nf k) t (Bf j) (nf j) s)) → Pc (qw_X13_sameText_72 nn f ((6000 * k + pl_S (Bf k) (nf k) t : Nat) : Int) ((6000 * j + pl_S (Bf j) (nf j) s : Nat) : Int) l7 (x : Int) h) (fun u => (u = 1 ∧ TXq (Bf k) (nf k) t (Bf j) (nf j) s) ∨ (u = 0 ∧ ¬ TXq (Bf k) (nf k) t (Bf j) (nf j) s)) := by
  obtain ⟨n6, k8⟩ := tb_n6 S hk
  obtain ⟨m6, j8⟩ := tb_n6 S hj
  obtain ⟨p1, p2, p3, p4, p5, p6, p7⟩ := pi_le S hk t1
  obtain ⟨q1, q2, q3, q4, q5, q6, q7⟩ := pi_le S hj s1
  have ena : na_S (Bf k) (nf k) t = pl_S (Bf k) (nf k) t + 2 := rfl
  have enb : na_S (Bf j) (nf j) s = pl_S (Bf j) (nf j) s + 2 := rfl
  intro f
  induction f with
  | zero => intro x l7 _ _; exact pc_none
  | succ f ih =>
    intro x l7 hx H
    unfold qw_X13_sameText_72
    refine pc_add (by omega) ?_; intro v2 e2
    refine pc_rA ?_; intro _ _ v3 e3
    rw [show v2.toNat = 6000 * k + (pl_S (Bf k) (nf k) t + 1) by omega, tb_by S hk (by omega), p4] at e3
    refine pc_if (fun z => pc_ck (fun _ => pc_ret ?_)) (fun z => pc_if (fun w => pc_ck (fun _ => pc_ret ?_)) (fun w => ?_))
    · rcases H with ⟨h1, h2⟩ | H
      · refine .inl ⟨h1, el, fun i hi => h2 i (by omega)⟩
      · exact .inr H
    · rcases H with ⟨h1, h2⟩ | H
      · omega
      · exact .inr H
    · have H2 : ∀ i : Nat, i < x → Bf k (na_S (Bf k) (nf k) t + i) = Bf j (na_S (Bf j) (nf j) s + i) := by
        rcases H with H | H
        · exact H.2
        · exact absurd H.1 w
      refine pc_add (by omega) ?_; intro v7 e7
      refine pc_add (by omega) ?_; intro v8 e8
      refine pc_rA ?_; intro _ _ v9 e9
      rw [show v8.toNat = 6000 * k + (na_S (Bf k) (nf k) t + x) by omega, tb_by S hk (by omega)] at e9
      refine pc_add (by omega) ?_; intro v11 e11
      refine pc_add (by omega) ?_; intro v12 e12
      refine pc_rA ?_; intro _ _ v13 e13
      rw [show v12.toNat = 6000 * j + (na_S (Bf j) (nf j) s + x) by omega, tb_by S hj (by omega)] at e13
      refine pc_if (fun y => ?_) (fun y => ?_)
      · refine pc_add (by omega) ?_; intro v14 e14
        rw [show v14 = ((x + 1 : Nat) : Int) by omega]
        exact ih (x + 1) 0 (by omega) (.inr ⟨rfl, fun T => y (by rw [e9, e13]; exact T.2 x (by omega))⟩)
      · refine pc_add (by omega) ?_; intro v15 e15
        rw [show v15 = ((x + 1 : Nat) : Int) by omega]
        refine ih (x + 1) 1 (by omega) (.inl ⟨rfl, fun i hi => ?_⟩)
        by_cases ix : i = x
        · rw [ix, ← e9, ← e13]; omega
        · exact H2 i (by omega)
theorem vr_same (S : RSv Bf nf h) (hk : (k : Int) < h 160 98) (hj : (j : Int) < h 160 98) (t1 : tg_S (Bf k) (nf k) t = 1) (s1 : tg_S (Bf j) (nf j) s = 1) : Pc (qf_X13_sameText nn (k : Int) t (j : Int) s h) (fun u => (u = 1 ∧ TXq (Bf k) (nf k) t (Bf j) (nf j) s) ∨ (u = 0 ∧ ¬ TXq (Bf k) (nf k) t (Bf j) (nf j) s)) := by
  obtain ⟨n6, k8⟩ := tb_n6 S hk
  obtain ⟨m6, j8⟩ := tb_n6 S hj
  obtain ⟨p1, p2, p3, p4, p5, p6, p7⟩ := pi_le S hk t1
  obtain ⟨q1, q2, q3, q4, q5, q6, q7⟩ := pi_le S hj s1
  have ena : na_S (Bf k) (nf k) t = pl_S (Bf k) (nf k) t + 2 := rfl
  have enb : na_S (Bf j) (nf j) s = pl_S (Bf j) (nf j) s + 2 := rfl
  unfold qf_X13_sameText
  refine pc_xl ?_; intro v19 e19
  rw [oq_mul_eq (by omega) (by omega) (by omega)] at e19
  refine pc_xl ?_; intro v21 e21
  rw [oq_mul_eq (by omega) (by omega) (by omega)] at e21
  refine pc_add (by omega) ?_; intro v22 e22
  refine pc_rA ?_; intro _ _ v23 e23
  rw [show v22 = 256 * (k : Int) + t by omega, p6] at e23
  refine pc_add (by omega) ?_; intro v24 e24
  refine pc_xl ?_; intro v25 e25
  rw [oq_mul_eq (by omega) (by omega) (by omega)] at e25
  refine pc_xl ?_; intro v27 e27
  rw [oq_mul_eq (by omega) (by omega) (by omega)] at e27
  refine pc_add (by omega) ?_; intro v28 e28
  refine pc_rA ?_; intro _ _ v29 e29
  rw [show v28 = 256 * (j : Int) + s by omega, q6] at e29
  refine pc_add (by omega) ?_; intro v30 e30
  refine pc_add (by omega) ?_; intro v32 e32
  refine pc_rA ?_; intro _ _ v33 e33
  rw [show v32.toNat = 6000 * k + (pl_S (Bf k) (nf k) t + 1) by omega, tb_by S hk (by omega), p4] at e33
  refine pc_add (by omega) ?_; intro v35 e35
  refine pc_rA ?_; intro _ _ v36 e36
  rw [show v35.toNat = 6000 * j + (pl_S (Bf j) (nf j) s + 1) by omega, tb_by S hj (by omega), q4] at e36
  rw [show v24 = ((6000 * k + pl_S (Bf k) (nf k) t : Nat) : Int) by omega, show v30 = ((6000 * j + pl_S (Bf j) (nf j) s : Nat) : Int) by omega]
  refine pc_if (fun z => ?_) (fun z => ?_)
  · -- other lengths: at once
    have ne : ¬ TXq (Bf k) (nf k) t (Bf j) (nf j) s := fun T => z (by have := T.1; omega)
    have Z : ∀ (f x : Nat), Pc (qw_X13_sameText_72 nn f ((6000 * k + pl_S (Bf k) (nf k) t : Nat) : Int) ((6000 * j + pl_S (Bf j) (nf j) s : Nat) : Int) 0 (x : Int) h) (fun u => (u = 1 ∧ TXq (Bf k) (nf k) t (Bf j) (nf j) s) ∨ (u = 0 ∧ ¬ TXq (Bf k) (nf k) t (Bf j) (nf j) s)) := fun f x => by
      cases f with
      | zero => exact pc_none
      | succ f =>
        unfold qw_X13_sameText_72
        refine pc_xl ?_; intro v2 e2
        refine pc_rA ?_; intro _ _ v3 e3
        exact pc_if (fun _ => pc_ck (fun _ => pc_ret (.inr ⟨rfl, ne⟩))) (fun _ => pc_if (fun _ => pc_ck (fun _ => pc_ret (.inr ⟨rfl, ne⟩))) (fun w => absurd rfl w))
    exact Z nn 0
  · exact vr_72 S hk hj t1 s1 (by omega) nn 0 1 (Nat.zero_le _) (.inl ⟨rfl, fun i hi => absurd hi (by omega)⟩)
/-- THE REFERENCE LOOKS A MEMBER UP -/
theorem vr_60 (N : NKn Bf nf (h 160 98)) (S : RSv Bf nf h) (hk : (o : Int) < h 160 98) (t1 : tg_S (Bf o) (nf o) t = 1) {i : Nat} {l6 : Int} {qk : Int → Int → Int → Int → Int → ms_M → Option (Int × ms_M)} {Q : Int × ms_M → Prop} (c8 : 8 ≤ ch_F Bf nf (h 160 98) c i) (cI : ISc (h 160 98) (ch_F Bf nf (h 160 98) c i)) (l6r : 0 ≤ l6 ∧ l6 ≤ 16) (Hk : NOm Bf nf o t s (ch_F Bf nf (h 160 98) c i) → Pc (qk (o : Int) t s (ch_F Bf nf (h 160 98) c (i + 1)) (l6 + 1) h) Q) (Hf : ∀ j : Nat, (j : Int) < mb_S (Bf (ch_F Bf nf (h 160 98) c i - 8).toNat) (nf (ch_F Bf nf (h 160 98) c i - 8).toNat) s → NAm Bf nf o t s (ch_F Bf nf (h 160 98) c i) j → (∀ y : Nat, y < j → ¬ NAm Bf nf o t s (ch_F Bf nf (h 160 98) c i) y) → Q (ch_F Bf nf (h 160 98) c i, up_M h 160 121 (j : Int))) : ∀ (f j : Nat), (∀ y : Nat, y < j → ¬ NAm Bf nf o t s (ch_F Bf nf (h 160 98) c i) y) → Pc (qw_X13_holder_60 nn qk f (o : Int) t s (ch_F Bf nf (h 160 98) c i) l6 (((ch_F Bf nf (h 160 98) c i - 8).toNat : Nat) : Int) (mb_S (Bf (ch_F Bf nf (h 160 98) c i - 8).toNat) (nf (ch_F Bf nf (h 160 98) c i - 8).toNat) s) (j : Int) h) Q := by
  have g3 := S.1
  unfold ISc at cI
  have hd : (((ch_F Bf nf (h 160 98) c i - 8).toNat : Nat) : Int) < h 160 98 := by omega
  obtain ⟨G, ⟨e32, F1⟩, e34, M1⟩ := rg_im (S.2 _ hd)
  have gf := G.1
  have gm := G.2.2.1
  obtain ⟨n6, k8⟩ := tb_n6 S hd
  generalize hD : (ch_F Bf nf (h 160 98) c i - 8).toNat = D at *
  intro f
  induction f with
  | zero => intro j _; exact pc_none
  | succ f ih =>
    intro j hj
    unfold qw_X13_holder_60
    refine pc_if (fun z => ?_) (fun z => ?_)
    · unfold qj_X13_holder_148
      refine pc_sv (vr_super N S (c := ch_F Bf nf (h 160 98) c i) (by unfold ISc; omega)) ?_; intro u2 q2
      refine pc_add (by omega) ?_; intro v3 e3
      rw [q2, ← chv_s (by omega), e3]
      refine Hk (fun y hy => hj y ?_)
      rw [hD] at hy
      omega
    · have jm : (j : Int) < mb_S (Bf D) (nf D) s := by omega
      have j12 : j < 12 := by
        unfold mb_S at jm
        by_cases s0 : s = 0
        · rw [if_pos s0] at jm; omega
        · rw [if_neg s0] at jm; omega
      have E : Pc (qj_X13_holder_115 nn qk (qw_X13_holder_60 nn qk f) (o : Int) t s (ch_F Bf nf (h 160 98) c i) l6 (D : Int) (mb_S (Bf D) (nf D) s) (j : Int) (nt_S (Bf D) (nf D) j s) h) Q := by
        unfold qj_X13_holder_115
        refine pc_sv (vr_same S hd hk (nt_1 G jm) t1) ?_; intro u5 q5
        have EQ : TXq (Bf D) (nf D) (nt_S (Bf D) (nf D) j s) (Bf o) (nf o) t ↔ NAm Bf nf o t s (ch_F Bf nf (h 160 98) c i) j := by unfold NAm; rw [hD]
        rw [EQ] at q5
        refine pc_if (fun y => ?_) (fun y => ?_)
        · refine pc_xl ?_; intro h6 e6
          refine pc_ret ?_
          rw [e6]
          refine Hf j jm ?_ hj
          rcases q5 with q5 | q5
          · exact q5.2
          · omega
        · refine pc_add (by omega) ?_; intro v7 e7
          rw [show v7 = ((j + 1 : Nat) : Int) by omega]
          refine ih (j + 1) (fun x hx => ?_)
          by_cases xj : x = j
          · rw [xj]
            rcases q5 with q5 | q5
            · omega
            · exact q5.2
          · exact hj x (by omega)
      refine pc_if (fun s0 => ?_) (fun s0 => ?_)
      · have jf : (j : Int) < fc_S (Bf D) (nf D) := by unfold mb_S at jm; rw [if_pos s0] at jm; exact jm
        have f1 := F1 j jf
        have g1 := (G.2.1 j jf).1
        refine pc_xl ?_; intro v10 e10
        rw [oq_mul_eq (by omega) (by omega) (by omega)] at e10
        refine pc_add (by omega) ?_; intro v11 e11
        refine pc_rA ?_; intro _ _ v12 e12
        rw [show v11 = 12 * (D : Int) + j by omega, f1] at e12
        rw [e12]
        refine pc_sv (vq_rbyte S hd (by omega)) ?_; intro u14 q14
        rw [show u14 = nt_S (Bf D) (nf D) j s by rw [q14]; unfold nt_S; rw [if_pos s0]]
        exact E
      · have jf : (j : Int) < mc_S (Bf D) (nf D) := by unfold mb_S at jm; rw [if_neg s0] at jm; exact jm
        have f1 := (M1 j jf).1
        have g1 := (G.2.2.2 j jf).2.2.2.1
        refine pc_xl ?_; intro v16 e16
        rw [oq_mul_eq (by omega) (by omega) (by omega)] at e16
        refine pc_add (by omega) ?_; intro v17 e17
        refine pc_rA ?_; intro _ _ v18 e18
        rw [show v17 = 12 * (D : Int) + j by omega, f1] at e18
        refine pc_add (by omega) ?_; intro v19 e19
        rw [show v19 = ((ma_S (Bf D) (nf D) j + 1 : Nat) : Int) by omega]
        refine pc_sv (vq_rbyte S hd (by omega)) ?_; intro u21 q21
        rw [show u21 = nt_S (Bf D) (nf D) j s by rw [q21]; unfold nt_S; rw [if_neg s0]]
        exact E
theorem vr_6 (N : NKn Bf nf (h 160 98)) (S : RSv Bf nf h) (hk : (o : Int) < h 160 98) (t1 : tg_S (Bf o) (nf o) t = 1) (hc : c = -1 ∨ ISc (h 160 98) c) (E : ch_F Bf nf (h 160 98) c 17 = -1) : ∀ (f i : Nat), i ≤ 17 → (∀ x y : Nat, x ≤ y → y < i → 8 ≤ ch_F Bf nf (h 160 98) c y → 8 ≤ ch_F Bf nf (h 160 98) c x) → (∀ x : Nat, x < i → 8 ≤ ch_F Bf nf (h 160 98) c x → NOm Bf nf o t s (ch_F Bf nf (h 160 98) c x)) → Pc (qw_X13_holder_6 nn f (o : Int) t s (ch_F Bf nf (h 160 98) c i) (i : Int) h) (fun u => (u = (-1, h) ∧ HNo Bf nf (h 160 98) o t s c) ∨ ∃ (d : Int) (j : Nat), HFd Bf nf (h 160 98) o t s c d j ∧ u = (d, up_M h 160 121 (j : Int))) := by
  have g3 := S.1
  have I := ch_is (Bf := Bf) (nf := nf) g3.1 hc
  have DN : ∀ x : Nat, ch_F Bf nf (h 160 98) c x < 8 → ch_F Bf nf (h 160 98) c (x + 1) < 8 := fun x z => by
    show (if ch_F Bf nf (h 160 98) c x = -1 then -1 else sp_F Bf nf (h 160 98) (ch_F Bf nf (h 160 98) c x)) < 8
    by_cases q : ch_F Bf nf (h 160 98) c x = -1
    · rw [if_pos q]; decide
    · rw [if_neg q]
      unfold sp_F
      rw [if_pos z]
      unfold bi_A
      split
      · decide
      · split <;> decide
  intro f
  induction f with
  | zero => intro i _ _ _; exact pc_none
  | succ f ih =>
    intro i hi U A
    -- all below i are looked at: what holds if the way is at its end
    have FIN : (i = 17 ∨ ch_F Bf nf (h 160 98) c i = -1) → HNo Bf nf (h 160 98) o t s c := fun w x hx => by
      have e1 : ch_F Bf nf (h 160 98) c i = -1 := by
        rcases w with w | w
        · rw [w]; exact E
        · exact w
      have xi : x < i := Classical.byContradiction fun y => by have := hx i (by omega); omega
      exact A x xi (hx x (Nat.le_refl _))
    unfold qw_X13_holder_6
    refine pc_if (fun z => pc_ret (.inl ⟨rfl, FIN (.inl (by omega))⟩)) (fun z => ?_)
    refine pc_if (fun w => pc_ret (.inl ⟨rfl, FIN (.inr w)⟩)) (fun w => ?_)
    have cI : ISc (h 160 98) (ch_F Bf nf (h 160 98) c i) := by
      rcases I i with y | y
      · exact absurd y w
      · exact y
    have cI' := cI
    unfold ISc at cI'
    have U2 : ∀ x y : Nat, x ≤ y → y < i + 1 → 8 ≤ ch_F Bf nf (h 160 98) c y → 8 ≤ ch_F Bf nf (h 160 98) c x := fun x y xy yi q => Classical.byContradiction fun z => by
      have P : ∀ e : Nat, ch_F Bf nf (h 160 98) c (x + e) < 8 := by
        intro e
        induction e with
        | zero => rw [Nat.add_zero]; omega
        | succ e ih => exact DN (x + e) ih
      have := P (y - x)
      rw [show x + (y - x) = y by omega] at this
      omega
    refine pc_if (fun y => ?_) (fun y => ?_)
    · unfold qj_X13_holder_148
      refine pc_sv (vr_super N S cI) ?_; intro u2 q2
      refine pc_add (by omega) ?_; intro v3 e3
      rw [q2, ← chv_s (by omega), show v3 = ((i + 1 : Nat) : Int) by omega]
      refine ih (i + 1) (by omega) U2 (fun x hx q => ?_)
      by_cases xi : x = i
      · rw [xi] at q; omega
      · exact A x (by omega) q
    · have hd : (((ch_F Bf nf (h 160 98) c i - 8).toNat : Nat) : Int) < h 160 98 := by omega
      obtain ⟨-, ⟨e32, -⟩, e34, -⟩ := rg_im (S.2 _ hd)
      refine pc_sub (by omega) ?_; intro v24 e24
      have e24' : v24 = (((ch_F Bf nf (h 160 98) c i - 8).toNat : Nat) : Int) := by omega
      have T : Pc (qw_X13_holder_60 nn (qw_X13_holder_6 nn f) nn (o : Int) t s (ch_F Bf nf (h 160 98) c i) (i : Int) (((ch_F Bf nf (h 160 98) c i - 8).toNat : Nat) : Int) (mb_S (Bf (ch_F Bf nf (h 160 98) c i - 8).toNat) (nf (ch_F Bf nf (h 160 98) c i - 8).toNat) s) 0 h) (fun u => (u = (-1, h) ∧ HNo Bf nf (h 160 98) o t s c) ∨ ∃ (d : Int) (j : Nat), HFd Bf nf (h 160 98) o t s c d j ∧ u = (d, up_M h 160 121 (j : Int))) := by
        refine vr_60 N S hk t1 (by omega) cI (by omega) (fun q => ?_) (fun j j1 j2 j3 => ?_) nn 0 (fun x hx => absurd hx (by omega))
        · rw [show (i : Int) + 1 = ((i + 1 : Nat) : Int) by omega]
          refine ih (i + 1) (by omega) U2 (fun x hx q2 => ?_)
          by_cases xi : x = i
          · rw [xi]; exact q
          · exact A x (by omega) q2
        · refine .inr ⟨_, j, ⟨i, rfl, fun x hx => U2 x i hx (by omega) (by omega), ⟨j1, j2, j3⟩, fun x hx => A x hx (U2 x i (by omega) (by omega) (by omega))⟩, rfl⟩
      rw [e24']
      refine pc_if (fun s0 => ?_) (fun s0 => ?_)
      · refine pc_rA ?_; intro _ _ v26 e26
        rw [show v26 = mb_S (Bf (ch_F Bf nf (h 160 98) c i - 8).toNat) (nf (ch_F Bf nf (h 160 98) c i - 8).toNat) s by rw [e26, e32]; unfold mb_S; rw [if_pos s0]]
        exact T
      · refine pc_rA ?_; intro _ _ v28 e28
        rw [show v28 = mb_S (Bf (ch_F Bf nf (h 160 98) c i - 8).toNat) (nf (ch_F Bf nf (h 160 98) c i - 8).toNat) s by rw [e28, e34]; unfold mb_S; rw [if_neg s0]]
        exact T
theorem vr_holder (N : NKn Bf nf (h 160 98)) (S : RSv Bf nf h) (hk : (o : Int) < h 160 98) (t1 : tg_S (Bf o) (nf o) t = 1) (hc : c = -1 ∨ ISc (h 160 98) c) (E : ch_F Bf nf (h 160 98) c 17 = -1) : Pc (qf_X13_holder nn c (o : Int) t s h) (fun u => (u = (-1, h) ∧ HNo Bf nf (h 160 98) o t s c) ∨ ∃ (d : Int) (j : Nat), HFd Bf nf (h 160 98) o t s c d j ∧ u = (d, up_M h 160 121 (j : Int))) := by
  unfold qf_X13_holder
  exact vr_6 N S hk t1 hc E nn 0 (by omega) (fun _ _ _ hy => absurd hy (by omega)) (fun x hx => absurd hx (by omega))
end

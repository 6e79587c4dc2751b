/- VERIFY: handlers, the reference; frames, both sides -/
/-- frame f has room and its types are there -/
def FTh (Bf : Nat → Nat → Int) (nf : Nat → Nat) (cnt : Int) (k i f : Nat) : Prop := (nl_S (Bf k) (nf k) i f ≤ Bf k (ma_S (Bf k) (nf k) i + 4) ∧ nk_S (Bf k) (nf k) i f ≤ Bf k (ma_S (Bf k) (nf k) i + 3)) ∧ (∀ j : Nat, (j : Int) < nl_S (Bf k) (nf k) i f → ¬ fl_F Bf nf cnt k i f j = -1) ∧ ∀ j : Nat, (j : Int) < nk_S (Bf k) (nf k) i f → ¬ fk_F Bf nf cnt k i f j = -1
section
variable {nn : Nat} {Bf : Nat → Nat → Int} {nf : Nat → Nat} {cnt : Int} {B C D : Nat → Int} {n m b d k o i L p q : Nat} {M h g r h0 : ms_M} {t c : Int}
theorem rk_zk (R : RMe Bf nf cnt k i h) : ∃ x : Nat, kk_S (Bf k) (nf k) = .inr x ∧ 0 ≤ Bf k 2 := by
  obtain ⟨x, a, b, _⟩ := kz_rk R.1.2.1 (rme_hk R)
  exact ⟨x, a, b⟩
theorem rme_c (R : RMe Bf nf cnt k i h) : 0 ≤ cnt ∧ cnt ≤ 8 := by
  have := R.1.2.1.1
  rw [R.1.2.2.1] at this
  exact this
theorem vr_go (R : RMe Bf nf cnt k i h) {x y a b : Int} (X : TIs cnt x) (T : TYj x a) (U : TYj y b) : Pc (qf_X13_goes nn a b h) (fun u => (u = 1 ∧ FTq Bf nf cnt x y) ∨ (u = 0 ∧ ¬ FTq Bf nf cnt x y)) := by
  have N := R.1.1
  have e := R.1.2.2.1
  rw [← e] at N X ⊢
  exact vr_goes N R.1.2.1 X T U
theorem tyo_j {x y : Int} (T : TYo x y) (z : ¬ x = -1) : TYj x y := by
  rcases T with T | T
  · exact T
  · exact absurd T.1 z
theorem ty_1 : TYj 1 6 := .inr (.inr (.inr (.inr (.inl ⟨⟨by omega, by omega⟩, by omega⟩))))
theorem ft_k1 {x : Int} : FTq Bf nf cnt x 1 ↔ KFt Bf nf cnt x 1 := by
  constructor
  · intro w
    rcases w with w | w
    · omega
    · exact w
  · intro w; exact .inr w
theorem kf_m1 : ¬ KFt Bf nf cnt (-1) 1 := fun w => by
  rcases w with w | ⟨w1, w2⟩ | ⟨w1, w2, w3⟩ | ⟨w1, w2⟩ | ⟨w1, w2, w3⟩ <;> omega
/-- HANDLER j, the reference -/
theorem vr_hfits (R : RMe Bf nf cnt k i h) (MK : RBg (cd_S (Bf k) (nf k) i) (cl_N (Bf k) (nf k) i) h) {j : Nat} (jj : j < hn_S (Bf k) (nf k) i) : Pc (qf_X13_handlerFits nn (hq_S (Bf k) (nf k) i j : Int) h) (fun u => OTH h u.2 ∧ ((u.1 = 1 ∧ ¬ HBd Bf nf cnt k i j) ∨ (u.1 = 0 ∧ HBd Bf nf cnt k i j))) := by
  have n6 := rme_n6 R
  obtain ⟨hg, ht⟩ := gm_hd (rme_m R) jj
  obtain ⟨zx, zk, z2⟩ := rk_zk R
  have g3 := rme_c R
  have ci := cq_is (Bf := Bf) (nf := nf) g3 zk z2 ht
  have HD : HBd Bf nf cnt k i j = ¬ ((BGi (cd_S (Bf k) (nf k) i) (cl_N (Bf k) (nf k) i) (ln_N (Bf k) (hq_S (Bf k) (nf k) i j)) ∧ (BGi (cd_S (Bf k) (nf k) i) (cl_N (Bf k) (nf k) i) (ln_N (Bf k) (hq_S (Bf k) (nf k) i j + 2)) ∨ ln_N (Bf k) (hq_S (Bf k) (nf k) i j + 2) = (cl_N (Bf k) (nf k) i : Int)) ∧ ln_N (Bf k) (hq_S (Bf k) (nf k) i j) < ln_N (Bf k) (hq_S (Bf k) (nf k) i j + 2)) ∧ BGi (cd_S (Bf k) (nf k) i) (cl_N (Bf k) (nf k) i) (ln_N (Bf k) (hq_S (Bf k) (nf k) i j + 4)) ∧ (∃ f : Nat, fo_F (Bf k) (nf k) i (ln_N (Bf k) (hq_S (Bf k) (nf k) i j + 4)) = some f) ∧ KFt Bf nf cnt (cq_F Bf nf cnt (Bf k) (nf k) (Bf k (hq_S (Bf k) (nf k) i j + 6))) 1) := rfl
  have h0 := vr_pair (nn := nn) R (p := hq_S (Bf k) (nf k) i j) (by omega)
  have h2 := vr_pair (nn := nn) R (p := hq_S (Bf k) (nf k) i j + 2) (by omega)
  have h4 := vr_pair (nn := nn) R (p := hq_S (Bf k) (nf k) i j + 4) (by omega)
  have r0 := rme_p R (p := hq_S (Bf k) (nf k) i j) (by omega)
  have r2 := rme_p R (p := hq_S (Bf k) (nf k) i j + 2) (by omega)
  have r4 := rme_p R (p := hq_S (Bf k) (nf k) i j + 4) (by omega)
  generalize ln_N (Bf k) (hq_S (Bf k) (nf k) i j) = fr at *
  generalize ln_N (Bf k) (hq_S (Bf k) (nf k) i j + 2) = to at *
  generalize ln_N (Bf k) (hq_S (Bf k) (nf k) i j + 4) = am at *
  have B94 : ∀ s0 : Int, (s0 = 0 ∧ HBd Bf nf cnt k i j) ∨ (s0 = 1 ∧ (BGi (cd_S (Bf k) (nf k) i) (cl_N (Bf k) (nf k) i) fr ∧ (BGi (cd_S (Bf k) (nf k) i) (cl_N (Bf k) (nf k) i) to ∨ to = (cl_N (Bf k) (nf k) i : Int)) ∧ fr < to) ∧ BGi (cd_S (Bf k) (nf k) i) (cl_N (Bf k) (nf k) i) am) → Pc (qj_X13_handlerFits_94 nn (hq_S (Bf k) (nf k) i j : Int) am s0 h) (fun u => OTH h u.2 ∧ ((u.1 = 1 ∧ ¬ HBd Bf nf cnt k i j) ∨ (u.1 = 0 ∧ HBd Bf nf cnt k i j))) := fun s0 w => by
    unfold qj_X13_handlerFits_94
    refine pc_add (by omega) ?_; intro v3 e3
    rw [show v3 = ((hq_S (Bf k) (nf k) i j + 6 : Nat) : Int) by omega]
    refine pc_sv (vr_byte R hg) ?_; intro u5 q5
    rw [q5]
    refine pc_sv (vr_cls R ht) ?_; intro u7 ⟨O7, q7⟩
    refine pc_if (fun z => pc_ret ⟨O7, .inr ⟨rfl, ?_⟩⟩) (fun z => ?_)
    · rcases w with w | w
      · exact w.2
      · omega
    obtain ⟨-, w1, w2⟩ : s0 = 1 ∧ (BGi (cd_S (Bf k) (nf k) i) (cl_N (Bf k) (nf k) i) fr ∧ (BGi (cd_S (Bf k) (nf k) i) (cl_N (Bf k) (nf k) i) to ∨ to = (cl_N (Bf k) (nf k) i : Int)) ∧ fr < to) ∧ BGi (cd_S (Bf k) (nf k) i) (cl_N (Bf k) (nf k) i) am := by
      rcases w with w | w
      · exact absurd w.1 z
      · exact w
    have R7 := rme_e R (rke_o O7)
    refine pc_sv (vr_for R7 (x := am)) ?_; intro u9 q9
    refine pc_if (fun y => pc_ret ⟨O7, .inr ⟨rfl, ?_⟩⟩) (fun y => ?_)
    · rw [HD]
      intro ⟨_, _, ⟨f, y3⟩, _⟩
      rcases q9 with ⟨f, q, e⟩ | ⟨q, _⟩
      · omega
      · rw [q] at y3; exact nomatch y3
    have fx : ∃ f : Nat, fo_F (Bf k) (nf k) i am = some f := by
      rcases q9 with ⟨f, q, e⟩ | ⟨_, q⟩
      · exact ⟨f, q⟩
      · exact absurd q y
    refine pc_sv (vr_there (.inl q7)) ?_; intro u10 q10
    refine pc_if (fun y10 => pc_ret ⟨O7, .inr ⟨rfl, ?_⟩⟩) (fun y10 => ?_)
    · rw [HD]
      intro ⟨_, _, _, y4⟩
      have em : cq_F Bf nf cnt (Bf k) (nf k) (Bf k (hq_S (Bf k) (nf k) i j + 6)) = -1 := by
        rcases q10 with q | q
        · exact q.2
        · omega
      rw [em] at y4
      exact kf_m1 y4
    have nm : ¬ cq_F Bf nf cnt (Bf k) (nf k) (Bf k (hq_S (Bf k) (nf k) i j + 6)) = -1 := by
      rcases q10 with q | q
      · exact absurd q.1 y10
      · exact q.2
    have vt := (show VTq cnt (cq_F Bf nf cnt (Bf k) (nf k) (Bf k (hq_S (Bf k) (nf k) i j + 6))) by
      rcases ci with c | c
      · exact absurd c nm
      · exact c.1)
    refine pc_sv (vr_go R7 (vt_is g3.2 vt) (tyo_j q7 nm) ty_1) ?_; intro u12 q12
    refine pc_if (fun y12 => pc_ret ⟨O7, .inr ⟨rfl, ?_⟩⟩) (fun y12 => pc_ret ⟨O7, .inl ⟨rfl, ?_⟩⟩)
    · rw [HD]
      intro ⟨_, _, _, y4⟩
      rcases q12 with q | q
      · omega
      · exact q.2 (ft_k1.2 y4)
    · rw [HD]
      intro y5
      refine y5 ⟨w1, w2, fx, ?_⟩
      rcases q12 with q | q
      · exact ft_k1.1 q.2
      · exact absurd q.1 y12
  have B93 : HBd Bf nf cnt k i j → Pc (qj_X13_handlerFits_93 nn (hq_S (Bf k) (nf k) i j : Int) am h) (fun u => OTH h u.2 ∧ ((u.1 = 1 ∧ ¬ HBd Bf nf cnt k i j) ∨ (u.1 = 0 ∧ HBd Bf nf cnt k i j))) := fun w => by
    unfold qj_X13_handlerFits_93
    exact B94 0 (.inl ⟨rfl, w⟩)
  unfold qf_X13_handlerFits
  refine pc_sv h0 ?_; intro u19 q19
  refine pc_add (by omega) ?_; intro v20 e20
  rw [show v20 = ((hq_S (Bf k) (nf k) i j + 2 : Nat) : Int) by omega]
  refine pc_sv h2 ?_; intro u22 q22
  refine pc_add (by omega) ?_; intro v23 e23
  rw [show v23 = ((hq_S (Bf k) (nf k) i j + 4 : Nat) : Int) by omega]
  refine pc_sv h4 ?_; intro u25 q25
  rw [q19, q22, q25, R.2.2.1.2.2.2]
  refine pc_if (fun z => B93 (by rw [HD]; exact fun y => absurd (bgi_lt y.1.1) (by omega))) (fun z1 => ?_)
  refine pc_rA ?_; intro _ _ v28 e28
  have b1 := vr_begins (x := fr) R MK (by omega) (by omega)
  refine pc_if (fun z => B93 (by
    rw [HD]; intro y
    rcases b1 with q | q
    · omega
    · exact q.2 y.1.1)) (fun z2 => ?_)
  have w1 : BGi (cd_S (Bf k) (nf k) i) (cl_N (Bf k) (nf k) i) fr := by
    rcases b1 with q | q
    · exact q.2
    · omega
  refine pc_if (fun z => B93 (by rw [HD]; exact fun y => absurd (bgi_lt y.2.1) (by omega))) (fun z3 => ?_)
  refine pc_rA ?_; intro _ _ v31 e31
  have b2 := vr_begins (x := am) R MK (by omega) (by omega)
  refine pc_if (fun z => B93 (by
    rw [HD]; intro y
    rcases b2 with q | q
    · omega
    · exact q.2 y.2.1)) (fun z4 => ?_)
  have w2 : BGi (cd_S (Bf k) (nf k) i) (cl_N (Bf k) (nf k) i) am := by
    rcases b2 with q | q
    · exact q.2
    · omega
  have B84 : (BGi (cd_S (Bf k) (nf k) i) (cl_N (Bf k) (nf k) i) to ∨ to = (cl_N (Bf k) (nf k) i : Int)) → Pc (qj_X13_handlerFits_84 nn (hq_S (Bf k) (nf k) i j : Int) fr to am h) (fun u => OTH h u.2 ∧ ((u.1 = 1 ∧ ¬ HBd Bf nf cnt k i j) ∨ (u.1 = 0 ∧ HBd Bf nf cnt k i j))) := fun w3 => by
    unfold qj_X13_handlerFits_84
    refine pc_if (fun v => B93 (by rw [HD]; exact fun y => absurd y.1.2.2 (by omega))) (fun v => ?_)
    exact B94 1 (.inr ⟨rfl, ⟨w1, w3, by omega⟩, w2⟩)
  refine pc_if (fun z => B84 (.inr z)) (fun z5 => ?_)
  refine pc_if (fun z => B93 (by
    rw [HD]; intro y
    rcases y.1.2.1 with y | y
    · exact absurd (bgi_lt y) (by omega)
    · exact z5 y)) (fun z6 => ?_)
  refine pc_rA ?_; intro _ _ v35 e35
  have b3 := vr_begins (x := to) R MK (by omega) (by omega)
  refine pc_if (fun z => B93 (by
    rw [HD]; intro y
    rcases y.1.2.1 with y | y
    · rcases b3 with q | q
      · omega
      · exact q.2 y
    · exact z5 y)) (fun z7 => B84 (.inl (by
    rcases b3 with q | q
    · exact q.2
    · omega)))
/-- .. all of them -/
theorem vr_192 (E6 : fs_F (INo (cd_S (Bf k) (nf k) i) (cl_N (Bf k) (nf k) i)) (cl_N (Bf k) (nf k) i) = none) (E7 : fs_F (JBm (cd_S (Bf k) (nf k) i) (cl_N (Bf k) (nf k) i)) (cl_N (Bf k) (nf k) i) = none) (HK : ∀ g : ms_M, RM0 Bf nf cnt k i h0 g → RBg (cd_S (Bf k) (nf k) i) (cl_N (Bf k) (nf k) i) g → fs_F (HBd Bf nf cnt k i) (hn_S (Bf k) (nf k) i) = none → Pc (qw_X13_methodFits_245 nn nn (8 + (k : Int)) (i : Int) (-1) 0 g) (RMF Bf nf cnt k i h0)) : ∀ (f j : Nat) (h : ms_M), RM0 Bf nf cnt k i h0 h → RBg (cd_S (Bf k) (nf k) i) (cl_N (Bf k) (nf k) i) h → j ≤ hn_S (Bf k) (nf k) i → (∀ x : Nat, x < j → ¬ HBd Bf nf cnt k i x) → Pc (qw_X13_methodFits_192 nn f (8 + (k : Int)) (i : Int) (mh_P (Bf k) (nf k) i : Int) (j : Int) h) (RMF Bf nf cnt k i h0) := by
  intro f
  induction f with
  | zero => intro j h _ _ _ _; exact pc_none
  | succ f ih =>
    intro j h R MK hj A
    have n6 := rme_n6 R.1
    obtain ⟨l1, l2, l3, l4, l5⟩ := rme_l R.1
    obtain ⟨-, -, -, f4, f5⟩ := rme_f R.1
    unfold qw_X13_methodFits_192
    refine pc_sv (vr_byte R.1 l5) ?_; intro u26 q26
    refine pc_if (fun z => HK h R MK (fs_z (fun x hx => A x (by omega)))) (fun z => ?_)
    have jj : j < hn_S (Bf k) (nf k) i := by omega
    refine pc_add (by omega) ?_; intro v27 e27
    refine pc_xl ?_; intro v28 e28
    rw [oq_mul_eq (by omega) (by omega) (by omega)] at e28
    refine pc_add (by omega) ?_; intro v29 e29
    rw [show v29 = (hq_S (Bf k) (nf k) i j : Int) by unfold hq_S; omega]
    refine pc_sv (vr_hfits R.1 MK jj) ?_; intro u31 ⟨O, q31⟩
    have R2 := rm0_e R (rke_o O)
    have MK2 := rbg_e MK (rke_o O)
    refine pc_if (fun y => ?_) (fun y => vr_badM R2 ?_)
    · refine pc_add (by omega) ?_; intro v32 e32
      rw [show v32 = ((j + 1 : Nat) : Int) by omega]
      refine ih (j + 1) u31.2 R2 MK2 (by omega) (fun x hx => ?_)
      by_cases e : x = j
      · rw [e]
        rcases q31 with q | q
        · exact q.2
        · exact absurd q.1 y
      · exact A x (by omega)
    · have hb : HBd Bf nf cnt k i j := by
        rcases q31 with q | q
        · omega
        · exact q.2
      unfold mr_F
      rw [E6]
      dsimp only
      rw [E7]
      dsimp only
      rw [fs_s jj hb A]
/-- FRAME f, the reference -/
theorem vr_it50 (R : RMe Bf nf cnt k i h0) (TL : TLg (Bf k) (nf k) p) {qk : Int → Int → ms_M → Option (Int × ms_M)} {Q : Int × ms_M → Prop} {part : Int} (pr : 0 ≤ part ∧ part ≤ 1) (HK : ∀ g : ms_M, OTH h0 g → (∀ j : Nat, j < (Bf k p).toNat → ¬ tt_F Bf nf cnt k (tp_S (Bf k) p j) = -1) → Pc (qk (te_P (Bf k) p : Int) (part + 1) g) Q) (HN : ∀ g : ms_M, OTH h0 g → ∀ j : Nat, j < (Bf k p).toNat → tt_F Bf nf cnt k (tp_S (Bf k) p j) = -1 → Q (0, g)) : ∀ (f j : Nat) (h : ms_M), j ≤ (Bf k p).toNat → OTH h0 h → (∀ x : Nat, x < j → ¬ tt_F Bf nf cnt k (tp_S (Bf k) p x) = -1) → Pc (qw_X13_frameIsThere_50 nn qk f (tp_S (Bf k) p j : Int) part (Bf k p) (j : Int) h) Q := by
  have n6 := rme_n6 R
  have b0 := rme_b R TL.1
  intro f
  induction f with
  | zero => intro j h _ _ _; exact pc_none
  | succ f ih =>
    intro j h hj O A
    have Rh := rme_e R (rke_o O)
    unfold qw_X13_frameIsThere_50
    refine pc_if (fun z => ?_) (fun z => ?_)
    · have ej : j = (Bf k p).toNat := by omega
      refine pc_add (by omega) ?_; intro v3 e3
      rw [e3, ej]
      exact HK h O (fun x hx => A x (by omega))
    have T := TL.2.1 j (by omega)
    have tn := tpg_n T
    have st : tp_S (Bf k) p (j + 1) = tp_S (Bf k) p j + (if Bf k (tp_S (Bf k) p j) = 3 then 2 else 1) := rfl
    refine pc_sv (vr_framed Rh T) ?_; intro u5 ⟨O5, q5⟩
    have O6 := oth_t O O5
    have R5 := rme_e R (rke_o O6)
    refine pc_sv (vr_there (.inl q5)) ?_; intro u6 q6
    refine pc_if (fun y => ?_) (fun y => pc_ret (HN u5.2 O6 j (by omega) ?_))
    · refine pc_sv (vr_byte R5 T.1) ?_; intro u9 q9
      rw [q9]
      have A2 : ∀ x : Nat, x < j + 1 → ¬ tt_F Bf nf cnt k (tp_S (Bf k) p x) = -1 := fun x hx => by
        by_cases e : x = j
        · rw [e]
          rcases q6 with q | q
          · exact absurd q.1 y
          · exact q.2
        · exact A x (by omega)
      unfold qj_X13_frameIsThere_89
      refine pc_if (fun w => ?_) (fun w => ?_)
      · rw [if_neg w] at st
        refine pc_add (by omega) ?_; intro v1 e1
        refine pc_add (by omega) ?_; intro v2 e2
        rw [show v1 = (tp_S (Bf k) p (j + 1) : Int) by omega, show v2 = ((j + 1 : Nat) : Int) by omega]
        exact ih (j + 1) u5.2 (by omega) O6 A2
      · rw [if_pos (by omega)] at st
        refine pc_add (by omega) ?_; intro v1 e1
        refine pc_add (by omega) ?_; intro v2 e2
        rw [show v1 = (tp_S (Bf k) p (j + 1) : Int) by omega, show v2 = ((j + 1 : Nat) : Int) by omega]
        exact ih (j + 1) u5.2 (by omega) O6 A2
    · rcases q6 with q | q
      · exact q.2
      · omega
theorem vr_fthere (R : RMe Bf nf cnt k i h) {f : Nat} (hf : f < fn_S (Bf k) (nf k) i) : Pc (qf_X13_frameIsThere nn (fw_S (Bf k) (nf k) i f : Int) h) (fun u => OTH h u.2 ∧ ((u.1 = 1 ∧ FTh Bf nf cnt k i f) ∨ (u.1 = 0 ∧ ¬ FTh Bf nf cnt k i f))) := by
  have n6 := rme_n6 R
  obtain ⟨G1, G2, G3⟩ := gm_fr (rme_m R) hf
  have b2 := rme_b R G2.1
  have b3 := rme_b R G3.1
  have g30 := (rme_m R).2.2.1
  have g31 := G3.1
  unfold qf_X13_frameIsThere
  refine pc_add (by omega) ?_; intro v22 e22
  rw [show v22 = ((fw_S (Bf k) (nf k) i f + 2 : Nat) : Int) by omega]
  suffices K : ∀ y : Nat, Pc (qw_X13_frameIsThere_6 nn y ((fw_S (Bf k) (nf k) i f + 2 : Nat) : Int) 0 h) (fun u => OTH h u.2 ∧ ((u.1 = 1 ∧ FTh Bf nf cnt k i f) ∨ (u.1 = 0 ∧ ¬ FTh Bf nf cnt k i f))) from K nn
  intro y
  cases y with
  | zero => exact pc_none
  | succ y =>
    unfold qw_X13_frameIsThere_6
    refine pc_if (fun z => absurd z (by decide)) (fun _ => ?_)
    refine pc_sv (vr_byte R G2.1) ?_; intro u17 q17
    refine pc_if (fun z => absurd rfl z) (fun _ => ?_)
    unfold qj_X13_frameIsThere_39
    rw [q17, R.2.2.2.2]
    refine pc_if (fun z1 => ?_) (fun z1 => pc_ret ⟨oth_r, .inr ⟨rfl, fun w => absurd w.1.1 z1⟩⟩)
    refine pc_add (by omega) ?_; intro v13 e13
    rw [show v13 = (tp_S (Bf k) (fw_S (Bf k) (nf k) i f + 2) 0 : Int) by rw [e13]; rfl]
    refine vr_it50 R G2 (by decide) (fun g O A => ?_) (fun g O j hj e => ⟨O, .inr ⟨rfl, fun w => w.2.1 j (by show (j : Int) < Bf k (fw_S (Bf k) (nf k) i f + 2); omega) e⟩⟩) nn 0 h (Nat.zero_le _) oth_r (fun x hx => absurd hx (by omega))
    have Rg := rme_e R (rke_o O)
    cases y with
    | zero => exact pc_none
    | succ y =>
      unfold qw_X13_frameIsThere_6
      refine pc_if (fun z => absurd z (by decide)) (fun _ => ?_)
      refine pc_sv (vr_byte Rg G3.1) ?_; intro u18 q18
      refine pc_if (fun _ => ?_) (fun z => absurd (by decide) z)
      unfold qj_X13_frameIsThere_39
      rw [q18, Rg.2.2.2.1]
      refine pc_if (fun z2 => ?_) (fun z2 => pc_ret ⟨O, .inr ⟨rfl, fun w => absurd w.1.2 z2⟩⟩)
      refine pc_add (by omega) ?_; intro v14 e14
      rw [show v14 = (tp_S (Bf k) (te_P (Bf k) (fw_S (Bf k) (nf k) i f + 2)) 0 : Int) by rw [e14]; rfl]
      refine vr_it50 Rg G3 (by decide) (fun g2 O2 A2 => ?_) (fun g2 O2 j hj e => ⟨oth_t O O2, .inr ⟨rfl, fun w => w.2.2 j (by show (j : Int) < Bf k (te_P (Bf k) (fw_S (Bf k) (nf k) i f + 2)); omega) e⟩⟩) nn 0 g (Nat.zero_le _) oth_r (fun x hx => absurd hx (by omega))
      cases y with
      | zero => exact pc_none
      | succ y =>
        unfold qw_X13_frameIsThere_6
        refine pc_if (fun _ => pc_ret ⟨oth_t O O2, .inl ⟨rfl, ⟨z1, z2⟩, fun j hj => ?_, fun j hj => ?_⟩⟩) (fun z => absurd (by decide) z)
        · have hj : (j : Int) < Bf k (fw_S (Bf k) (nf k) i f + 2) := hj
          exact A j (by omega)
        · have hj : (j : Int) < Bf k (te_P (Bf k) (fw_S (Bf k) (nf k) i f + 2)) := hj
          exact A2 j (by omega)
/-- .. all of them -/
def lf_V (B : Nat → Int) (n i f : Nat) : Int := if f = 0 then -1 else fv_S B n i (f - 1)
theorem fbd_iff {f : Nat} : FBd Bf nf cnt k i f ↔ ¬ ((BGi (cd_S (Bf k) (nf k) i) (cl_N (Bf k) (nf k) i) (fv_S (Bf k) (nf k) i f) ∧ lf_V (Bf k) (nf k) i f < fv_S (Bf k) (nf k) i f) ∧ FTh Bf nf cnt k i f) := Iff.rfl
theorem vr_245 (E6 : fs_F (INo (cd_S (Bf k) (nf k) i) (cl_N (Bf k) (nf k) i)) (cl_N (Bf k) (nf k) i) = none) (E7 : fs_F (JBm (cd_S (Bf k) (nf k) i) (cl_N (Bf k) (nf k) i)) (cl_N (Bf k) (nf k) i) = none) (E8 : fs_F (HBd Bf nf cnt k i) (hn_S (Bf k) (nf k) i) = none) (HK : ∀ g : ms_M, RM0 Bf nf cnt k i h0 g → fs_F (FBd Bf nf cnt k i) (fn_S (Bf k) (nf k) i) = none → Pc (mx_sv (qf_X13_flows nn (8 + (k : Int)) (i : Int) g) fun u7 => ck_B (u7.1 = 0 ∨ u7.1 = 1) <| some (u7.1, u7.2)) (RMF Bf nf cnt k i h0)) : ∀ (y f : Nat) (h : ms_M), RM0 Bf nf cnt k i h0 h → RBg (cd_S (Bf k) (nf k) i) (cl_N (Bf k) (nf k) i) h → f ≤ fn_S (Bf k) (nf k) i → (∀ x : Nat, x < f → ¬ FBd Bf nf cnt k i x) → Pc (qw_X13_methodFits_245 nn y (8 + (k : Int)) (i : Int) (lf_V (Bf k) (nf k) i f) (f : Int) h) (RMF Bf nf cnt k i h0) := by
  intro y
  induction y with
  | zero => intro f h _ _ _ _; exact pc_none
  | succ y ih =>
    intro f h R MK hf A
    have n6 := rme_n6 R.1
    obtain ⟨f1, f2, f3, f4, f5⟩ := rme_f R.1
    unfold qw_X13_methodFits_245
    refine pc_sv (vr_many R.1) ?_; intro u5 q5
    refine pc_if (fun z => HK h R (fs_z (fun x hx => A x (by omega)))) (fun z => ?_)
    have ff : f < fn_S (Bf k) (nf k) i := by omega
    have G1 := (gm_fr (rme_m R.1) ff).1
    refine pc_sv (vr_frameAt R.1 ff) ?_; intro u10 q10
    rw [q10]
    refine pc_sv (vr_pair R.1 (p := fw_S (Bf k) (nf k) i f) (by omega)) ?_; intro u12 q12
    have q12 : u12 = fv_S (Bf k) (nf k) i f := q12
    have r12 := rme_p R.1 (p := fw_S (Bf k) (nf k) i f) (by omega)
    have r12 : 0 ≤ fv_S (Bf k) (nf k) i f ∧ fv_S (Bf k) (nf k) i f ≤ 65535 := r12
    have BD : ∀ g : ms_M, RM0 Bf nf cnt k i h0 g → FBd Bf nf cnt k i f → Pc (qj_X13_methodFits_305 nn (8 + (k : Int)) (i : Int) (f : Int) g) (RMF Bf nf cnt k i h0) := fun g Rg w => by
      unfold qj_X13_methodFits_305
      refine vr_badM Rg ?_
      unfold mr_F
      rw [E6]
      dsimp only
      rw [E7]
      dsimp only
      rw [E8]
      dsimp only
      rw [fs_s ff w A]
    rw [q12, R.1.2.2.1.2.2.2]
    refine pc_if (fun z1 => BD h R (fbd_iff.2 (fun w => absurd w.1.2 (by omega)))) (fun z1 => ?_)
    refine pc_if (fun z2 => BD h R (fbd_iff.2 (fun w => absurd (bgi_lt w.1.1) (by omega)))) (fun z2 => ?_)
    refine pc_rA ?_; intro _ _ v15 e15
    have b1 := vr_begins (x := fv_S (Bf k) (nf k) i f) R.1 MK (by omega) (by omega)
    refine pc_if (fun z3 => BD h R (fbd_iff.2 (fun w => ?_))) (fun z3 => ?_)
    · rcases b1 with q | q
      · omega
      · exact q.2 w.1.1
    refine pc_sv (vr_fthere R.1 ff) ?_; intro u17 ⟨O, q17⟩
    have R2 := rm0_e R (rke_o O)
    refine pc_if (fun z4 => ?_) (fun z4 => BD u17.2 R2 (fbd_iff.2 (fun w => ?_)))
    · refine pc_add (by omega) ?_; intro v18 e18
      rw [show v18 = ((f + 1 : Nat) : Int) by omega, show fv_S (Bf k) (nf k) i f = lf_V (Bf k) (nf k) i (f + 1) from rfl]
      refine ih (f + 1) u17.2 R2 (rbg_e MK (rke_o O)) (by omega) (fun x hx => ?_)
      by_cases e : x = f
      · rw [e]
        intro w
        refine fbd_iff.1 w ⟨⟨?_, by omega⟩, ?_⟩
        · rcases b1 with q | q
          · exact q.2
          · omega
        · rcases q17 with q | q
          · exact q.2
          · exact absurd q.1 z4
      · exact A x (by omega)
    · rcases q17 with q | q
      · omega
      · exact q.2 w.2
/-- FRAMES, the class -/
theorem vc_ar5 {a m : Nat} (am : a + m ≤ 6400) (m30 : m ≤ 30) : ∀ (f j : Nat) (l3 : Int), j ≤ m → ((l3 = 1 ∧ ∀ x : Nat, x < j → ¬ h 133 (a + x) = -1) ∨ (l3 = 0 ∧ ∃ x : Nat, x < m ∧ h 133 (a + x) = -1)) → Pc (qw_X11_areThere_5 nn f (a : Int) (m : Int) l3 ((a + j : Nat) : Int) h) (fun u => (u = 1 ∧ ∀ x : Nat, x < m → ¬ h 133 (a + x) = -1) ∨ (u = 0 ∧ ∃ x : Nat, x < m ∧ h 133 (a + x) = -1)) := by
  intro f
  induction f with
  | zero => intro j l3 _ _; exact pc_none
  | succ f ih =>
    intro j l3 hj A
    unfold qw_X11_areThere_5
    refine pc_add (by omega) ?_; intro v2 e2
    refine pc_if (fun z => pc_ck (fun _ => pc_ret ?_)) (fun z => ?_)
    · rcases A with ⟨a1, a2⟩ | ⟨a1, a2⟩
      · exact .inl ⟨a1, fun x hx => a2 x (by omega)⟩
      · exact .inr ⟨a1, a2⟩
    refine pc_add (by omega) ?_; intro v4 e4
    refine pc_if (fun w => absurd w (by omega)) (fun _ => ?_)
    have NX : (∃ x : Nat, x < m ∧ h 133 (a + x) = -1) → Pc (qj_X11_areThere_41 nn (qw_X11_areThere_5 nn f) (a : Int) (m : Int) ((a + j : Nat) : Int) h) (fun u => (u = 1 ∧ ∀ x : Nat, x < m → ¬ h 133 (a + x) = -1) ∨ (u = 0 ∧ ∃ x : Nat, x < m ∧ h 133 (a + x) = -1)) := fun w => by
      unfold qj_X11_areThere_41
      refine pc_add (by omega) ?_; intro v1 e1
      rw [show v1 = ((a + (j + 1) : Nat) : Int) by omega]
      exact ih (j + 1) 0 (by omega) (.inr ⟨rfl, w⟩)
    refine pc_if (fun y => NX ?_) (fun y => ?_)
    · rcases A with ⟨a1, a2⟩ | ⟨a1, a2⟩
      · omega
      · exact a2
    refine pc_rA ?_; intro _ _ v7 e7
    rw [Int.toNat_natCast] at e7
    refine pc_if (fun w => NX ⟨j, by omega, by omega⟩) (fun w => ?_)
    refine pc_add (by omega) ?_; intro v8 e8
    rw [show v8 = ((a + (j + 1) : Nat) : Int) by omega]
    refine ih (j + 1) 1 (by omega) (.inl ⟨rfl, fun x hx => ?_⟩)
    by_cases e : x = j
    · rw [e, ← e7]; exact w
    · rcases A with ⟨a1, a2⟩ | ⟨a1, a2⟩
      · exact a2 x (by omega)
      · exact absurd a1 y
theorem vc_there {a m : Nat} (am : a + m ≤ 6400) (m30 : m ≤ 30) : Pc (qf_X11_areThere nn (a : Int) (m : Int) h) (fun u => (u = 1 ∧ ∀ x : Nat, x < m → ¬ h 133 (a + x) = -1) ∨ (u = 0 ∧ ∃ x : Nat, x < m ∧ h 133 (a + x) = -1)) := by
  unfold qf_X11_areThere
  exact vc_ar5 am m30 nn 0 1 (Nat.zero_le _) (.inl ⟨rfl, fun x hx => absurd hx (by omega)⟩)
theorem vc_f4 (C : CMe Bf nf k i h) (e16 : h 127 16 = (cl_N (Bf k) (nf k) i : Int)) (FR : ∀ x : Nat, x < fn_S (Bf k) (nf k) i → CFx Bf nf cnt k i x h) (MK : MKb (cd_S (Bf k) (nf k) i) (cl_N (Bf k) (nf k) i) h) : ∀ (y f : Nat), f ≤ fn_S (Bf k) (nf k) i → (∀ x : Nat, x < f → ¬ FBd Bf nf cnt k i x) → Pc (qw_X11_proveFrames_4 nn y (lf_V (Bf k) (nf k) i f) (f : Int) h) (fun u => (∀ x y : Nat, ¬ (x = 127 ∧ y = 7) → u.2 x y = h x y) ∧ FNx (FBd Bf nf cnt k i) (fn_S (Bf k) (nf k) i) 9 u.1 (u.2 127 7)) := by
  have n6 := cme_n6 C
  obtain ⟨f1, f2, f3, -⟩ := cme_f C
  have g30 := (cme_m C).2.2.1
  intro y
  induction y with
  | zero => intro f _ _; exact pc_none
  | succ y ih =>
    intro f hf A
    unfold qw_X11_proveFrames_4
    refine pc_sv (vc_info C (w := 9) (by decide) (cme_d C).2.2.2.1) ?_; intro u8 q8
    refine pc_if (fun z => pc_ret ⟨fun _ _ _ => rfl, .inl ⟨rfl, fs_z (fun x hx => A x (by omega))⟩⟩) (fun z => ?_)
    have ff : f < fn_S (Bf k) (nf k) i := by omega
    obtain ⟨⟨c1, c2, c3⟩, c4, c5⟩ := FR f ff
    obtain ⟨G1, G2, G3⟩ := gm_fr (cme_m C) ff
    have b2 := cme_b C G2.1
    have b3 := cme_b C G3.1
    have b2 : 0 ≤ nl_S (Bf k) (nf k) i f ∧ nl_S (Bf k) (nf k) i f ≤ 255 := b2
    have b3 : 0 ≤ nk_S (Bf k) (nf k) i f ∧ nk_S (Bf k) (nf k) i f ≤ 255 := b3
    have BD : FBd Bf nf cnt k i f → ∀ l3 : Int, Pc (qj_X11_proveFrames_115 nn (qw_X11_proveFrames_4 nn y) (f : Int) l3 h) (fun u => (∀ x y : Nat, ¬ (x = 127 ∧ y = 7) → u.2 x y = h x y) ∧ FNx (FBd Bf nf cnt k i) (fn_S (Bf k) (nf k) i) 9 u.1 (u.2 127 7)) := fun w l3 => by
      unfold qj_X11_proveFrames_115 qj_X11_proveFrames_116
      refine pc_if (fun v => absurd rfl v) (fun _ => ?_)
      refine pc_sv vc_at ?_; intro u5 ⟨r1, r2⟩
      refine pc_ret ⟨fun x y v => ?_, .inr ⟨f, r1, fs_s ff w A, ?_⟩⟩
      · show u5.2 x y = h x y
        rw [r2, up_n v]
      · show u5.2 127 7 = _
        rw [r2, up_s]
    refine pc_xl ?_; intro v9 e9
    rw [oq_mul_eq (by omega) (by omega) (by omega)] at e9
    refine pc_rA ?_; intro _ _ v11 e11
    rw [show v9.toNat = 64 * f by omega, c1] at e11
    refine pc_sv (vc_begins e16 MK (x := v11)) ?_; intro u13 q13
    refine pc_if (fun v => BD (fbd_iff.2 (fun w => ?_)) v9) (fun v1 => ?_)
    · rcases q13 with q | q
      · omega
      · exact q.2 (by rw [e11]; exact w.1.1)
    have bg : BGi (cd_S (Bf k) (nf k) i) (cl_N (Bf k) (nf k) i) (fv_S (Bf k) (nf k) i f) := by
      rcases q13 with q | q
      · rw [← e11]; exact q.2
      · exact absurd q.1 v1
    refine pc_rA ?_; intro _ _ v15 e15
    rw [show v9.toNat = 64 * f by omega, c1] at e15
    refine pc_if (fun v => BD (fbd_iff.2 (fun w => absurd w.1.2 (by omega))) v9) (fun v2 => ?_)
    refine pc_add (by omega) ?_; intro v17 e17
    refine pc_rA ?_; intro _ _ v18 e18
    rw [show v17.toNat = 64 * f + 1 by omega, c2] at e18
    refine pc_sv (vc_info C (w := 4) (by decide) (cme_d C).1.2.2.2.2.2) ?_; intro u20 q20
    refine pc_if (fun v => BD (fbd_iff.2 (fun w => absurd w.2.1.1 (by omega))) v9) (fun v3 => ?_)
    refine pc_add (by omega) ?_; intro v22 e22
    refine pc_rA ?_; intro _ _ v23 e23
    rw [show v22.toNat = 64 * f + 2 by omega, c3] at e23
    refine pc_sv (vc_info C (w := 3) (by decide) (cme_d C).1.2.2.2.2.1) ?_; intro u25 q25
    refine pc_if (fun v => BD (fbd_iff.2 (fun w => absurd w.2.1.2 (by omega))) v9) (fun v4 => ?_)
    refine pc_add (by omega) ?_; intro v26 e26
    refine pc_add (by omega) ?_; intro v28 e28
    refine pc_rA ?_; intro _ _ v29 e29
    rw [show v28.toNat = 64 * f + 1 by omega, c2] at e29
    rw [show v26 = ((64 * f + 3 : Nat) : Int) by omega, show v29 = (((nl_S (Bf k) (nf k) i f).toNat : Nat) : Int) by omega]
    refine pc_sv (vc_there (a := 64 * f + 3) (m := (nl_S (Bf k) (nf k) i f).toNat) (by omega) (by omega)) ?_; intro u31 q31
    refine pc_if (fun v => BD (fbd_iff.2 (fun w => ?_)) v9) (fun v5 => ?_)
    · rcases q31 with q | ⟨_, x, x1, x2⟩
      · omega
      · rw [c4 x (by omega) (by omega)] at x2
        exact w.2.2.1 x (by omega) x2
    have K1 : ∀ j : Nat, (j : Int) < nl_S (Bf k) (nf k) i f → ¬ fl_F Bf nf cnt k i f j = -1 := fun j hj => by
      rcases q31 with q | q
      · have := q.2 j (by omega)
        rw [c4 j (by omega) hj] at this
        exact this
      · exact absurd q.1 v5
    refine pc_add (by omega) ?_; intro v32 e32
    refine pc_add (by omega) ?_; intro v34 e34
    refine pc_rA ?_; intro _ _ v35 e35
    rw [show v34.toNat = 64 * f + 2 by omega, c3] at e35
    rw [show v32 = ((64 * f + 33 : Nat) : Int) by omega, show v35 = (((nk_S (Bf k) (nf k) i f).toNat : Nat) : Int) by omega]
    refine pc_sv (vc_there (a := 64 * f + 33) (m := (nk_S (Bf k) (nf k) i f).toNat) (by omega) (by omega)) ?_; intro u37 q37
    refine pc_if (fun v => BD (fbd_iff.2 (fun w => ?_)) v9) (fun v6 => ?_)
    · rcases q37 with q | ⟨_, x, x1, x2⟩
      · omega
      · rw [c5 x (by omega) (by omega)] at x2
        exact w.2.2.2 x (by omega) x2
    have K2 : ∀ j : Nat, (j : Int) < nk_S (Bf k) (nf k) i f → ¬ fk_F Bf nf cnt k i f j = -1 := fun j hj => by
      rcases q37 with q | q
      · have := q.2 j (by omega)
        rw [c5 j (by omega) hj] at this
        exact this
      · exact absurd q.1 v6
    unfold qj_X11_proveFrames_116
    refine pc_if (fun _ => ?_) (fun w => absurd (by decide) w)
    refine pc_rA ?_; intro _ _ v2' e2'
    rw [show v9.toNat = 64 * f by omega, c1] at e2'
    refine pc_add (by omega) ?_; intro v3' e3'
    rw [show v3' = ((f + 1 : Nat) : Int) by omega, e2', show fv_S (Bf k) (nf k) i f = lf_V (Bf k) (nf k) i (f + 1) from rfl]
    refine ih (f + 1) (by omega) (fun x hx => ?_)
    by_cases e : x = f
    · rw [e]
      intro w
      exact fbd_iff.1 w ⟨⟨bg, by omega⟩, ⟨by omega, by omega⟩, K1, K2⟩
    · exact A x (by omega)
theorem vc_frames (C : CMe Bf nf k i h) (e16 : h 127 16 = (cl_N (Bf k) (nf k) i : Int)) (FR : ∀ x : Nat, x < fn_S (Bf k) (nf k) i → CFx Bf nf cnt k i x h) (MK : MKb (cd_S (Bf k) (nf k) i) (cl_N (Bf k) (nf k) i) h) : Pc (qf_X11_proveFrames nn h) (fun u => (∀ x y : Nat, ¬ (x = 127 ∧ y = 7) → u.2 x y = h x y) ∧ FNx (FBd Bf nf cnt k i) (fn_S (Bf k) (nf k) i) 9 u.1 (u.2 127 7)) := by
  unfold qf_X11_proveFrames
  exact vc_f4 C e16 FR MK nn 0 (Nat.zero_le _) (fun x hx => absurd hx (by omega))
end

/- VERIFY: heads, the reference's side, whole -/
section
variable {nn : Nat} {Bf : Nat → Nat → Int} {nf : Nat → Nat} {cnt : Int} {B C : Nat → Int} {n m b d k o : Nat} {M h g r h0 : ms_M} {t c : Int}
/-- ARE THERE TWO OF A NAME, the reference -/
theorem vr_122 (S : RSv Bf nf h) (hk : (k : Int) < h 160 98) {s : Int} (sb : s = 0 ∨ s = 1) {q7 : Int → Int → Int → ms_M → Option (Int × ms_M)} {q9 : Int → Int → Int → Int → Int → ms_M → Option (Int × ms_M)} {Q : Int × ms_M → Prop} {x : Nat} (hx : (x : Int) < mb_S (Bf k) (nf k) s) (Hb : TWs (Bf k) (nf k) s → Pc (mx_sv (qf_X13_bad nn 4 (8 + (k : Int)) (-1) (-1) h) fun u => ck_B (u.1 = 0 ∨ u.1 = 1) <| some (u.1, u.2)) Q) (Hk : (∀ y : Nat, x < y → (y : Int) < mb_S (Bf k) (nf k) s → ¬ TXq (Bf k) (nf k) (nt_S (Bf k) (nf k) x s) (Bf k) (nf k) (nt_S (Bf k) (nf k) y s)) → Pc (q9 (8 + (k : Int)) (k : Int) s (mb_S (Bf k) (nf k) s) ((x + 1 : Nat) : Int) h) Q) : ∀ (f y : Nat), x < y → (∀ z : Nat, x < z → z < y → ¬ TXq (Bf k) (nf k) (nt_S (Bf k) (nf k) x s) (Bf k) (nf k) (nt_S (Bf k) (nf k) z s)) → Pc (qw_X13_classFits_122 nn q7 q9 f (8 + (k : Int)) (k : Int) s (mb_S (Bf k) (nf k) s) (x : Int) (y : Int) h) Q := by
  obtain ⟨G, -, -, -⟩ := rg_im (S.2 k hk)
  have m12 : mb_S (Bf k) (nf k) s ≤ 12 := by
    have g1 := G.1
    have g2 := G.2.2.1
    unfold mb_S
    split <;> omega
  intro f
  induction f with
  | zero => intro y _ _; exact pc_none
  | succ f ih =>
    intro y xy A
    unfold qw_X13_classFits_122
    refine pc_if (fun z => ?_) (fun z => ?_)
    · refine pc_add (by omega) ?_; intro v52 e52
      rw [show v52 = ((x + 1 : Nat) : Int) by omega]
      exact Hk (fun w h1 h2 => A w h1 (by omega))
    · have hy : (y : Int) < mb_S (Bf k) (nf k) s := by omega
      have E : Pc (qj_X13_classFits_146 nn q7 q9 (qw_X13_classFits_122 nn q7 q9 f) (8 + (k : Int)) (k : Int) s (mb_S (Bf k) (nf k) s) (x : Int) (y : Int) s (x : Int) (k : Int) (k : Int) h) Q := by
        unfold qj_X13_classFits_146
        refine pc_sv (vq_rtx (nn := nn) S hk hx).1 ?_; intro u50 q50
        have E2 : Pc (qj_X13_classFits_165 nn q7 q9 (qw_X13_classFits_122 nn q7 q9 f) (8 + (k : Int)) (k : Int) s (mb_S (Bf k) (nf k) s) (x : Int) (y : Int) s (y : Int) (k : Int) (k : Int) u50 (k : Int) h) Q := by
          unfold qj_X13_classFits_165
          refine pc_sv (vq_rtx (nn := nn) S hk hy).1 ?_; intro u41 q41
          rw [q50, q41]
          refine pc_sv (vr_same S hk hk (nt_1 G hx) (nt_1 G hy)) ?_; intro u43 q43
          refine pc_if (fun w => ?_) (fun w => Hb ?_)
          · refine pc_add (by omega) ?_; intro v44 e44
            rw [show v44 = ((y + 1 : Nat) : Int) by omega]
            refine ih (y + 1) (by omega) (fun a h1 h2 => ?_)
            by_cases ay : a = y
            · rw [ay]
              rcases q43 with q | q
              · omega
              · exact q.2
            · exact A a h1 (by omega)
          · rcases q43 with q | q
            · exact ⟨y, x, xy, hy, txq_s q.2⟩
            · exact absurd q.1 w
        rcases sb with s0 | s1
        · rw [s0] at E2 ⊢
          exact pc_if (fun _ => E2) (fun w => absurd (by decide) w)
        · rw [s1] at E2 ⊢
          exact pc_if (fun w => absurd rfl w) (fun _ => E2)
      rcases sb with s0 | s1
      · rw [s0] at E ⊢
        exact pc_if (fun _ => E) (fun w => absurd (by decide) w)
      · rw [s1] at E ⊢
        exact pc_if (fun w => absurd rfl w) (fun _ => E)
theorem vr_109 (S : RSv Bf nf h) (hk : (k : Int) < h 160 98) {s : Int} (sb : s = 0 ∨ s = 1) {q7 : Int → Int → Int → ms_M → Option (Int × ms_M)} {Q : Int × ms_M → Prop} (Hb : TWs (Bf k) (nf k) s → Pc (mx_sv (qf_X13_bad nn 4 (8 + (k : Int)) (-1) (-1) h) fun u => ck_B (u.1 = 0 ∨ u.1 = 1) <| some (u.1, u.2)) Q) (Hk : ¬ TWs (Bf k) (nf k) s → Pc (q7 (8 + (k : Int)) (k : Int) (s + 1) h) Q) : ∀ (f x : Nat), (∀ z y : Nat, z < x → z < y → (y : Int) < mb_S (Bf k) (nf k) s → ¬ TXq (Bf k) (nf k) (nt_S (Bf k) (nf k) z s) (Bf k) (nf k) (nt_S (Bf k) (nf k) y s)) → Pc (qw_X13_classFits_109 nn q7 f (8 + (k : Int)) (k : Int) s (mb_S (Bf k) (nf k) s) (x : Int) h) Q := by
  obtain ⟨G, -, -, -⟩ := rg_im (S.2 k hk)
  have m12 : mb_S (Bf k) (nf k) s ≤ 12 := by
    have g1 := G.1
    have g2 := G.2.2.1
    unfold mb_S
    split <;> omega
  intro f
  induction f with
  | zero => intro x _; exact pc_none
  | succ f ih =>
    intro x A
    unfold qw_X13_classFits_109
    refine pc_if (fun z => ?_) (fun z => ?_)
    · refine pc_add (by omega) ?_; intro v55 e55
      rw [e55]
      refine Hk (fun ⟨i, j, ij, hi, T⟩ => ?_)
      exact A j i (by omega) ij hi (txq_s T)
    · refine pc_add (by omega) ?_; intro v56 e56
      rw [show v56 = ((x + 1 : Nat) : Int) by omega]
      refine vr_122 S hk sb (x := x) (by omega) Hb (fun H => ?_) nn (x + 1) (by omega) (fun z h1 h2 => absurd h2 (by omega))
      refine ih (x + 1) (fun z y h1 h2 h3 => ?_)
      by_cases zx : z = x
      · rw [zx] at h2 ⊢; exact H y h2 h3
      · exact A z y (by omega) h2 h3
theorem vr_77 (N : NKn Bf nf cnt) (S : RSv Bf nf h) (ec : h 160 98 = cnt) (hk : (k : Int) < cnt) (V : VRk h0 h) (W : SWy h0 h) (H3 : H3k Bf nf cnt k) : Pc (qw_X13_classFits_77 nn nn (8 + (k : Int)) (k : Int) 0 h) (RCF Bf nf cnt k h0) := by
  have hk' : (k : Int) < h 160 98 := by omega
  obtain ⟨G, ⟨e32, -⟩, e34, -⟩ := rg_im (S.2 k hk')
  rw [Int.toNat_natCast] at e32 e34
  have F2 : ∀ f : Nat, ¬ TWs (Bf k) (nf k) 0 → ¬ TWs (Bf k) (nf k) 1 → Pc (qw_X13_classFits_77 nn f (8 + (k : Int)) (k : Int) 2 h) (RCF Bf nf cnt k h0) := fun f t0 t1 => by
    cases f with
    | zero => exact pc_none
    | succ f =>
      unfold qw_X13_classFits_77
      refine pc_if (fun _ => ?_) (fun z => absurd (by decide) z)
      exact vr_204 N hk H3 (fun w => by rcases w with w | w; exact t0 w; exact t1 w) nn 0 h S ec V W (fun m hm => absurd hm (by omega))
  have F1 : ∀ f : Nat, ¬ TWs (Bf k) (nf k) 0 → Pc (qw_X13_classFits_77 nn f (8 + (k : Int)) (k : Int) 1 h) (RCF Bf nf cnt k h0) := fun f t0 => by
    cases f with
    | zero => exact pc_none
    | succ f =>
      unfold qw_X13_classFits_77
      refine pc_if (fun z => absurd z (by decide)) (fun _ => pc_if (fun z => absurd rfl z) (fun _ => ?_))
      refine pc_rA ?_; intro _ _ v61 e61
      rw [Int.toNat_natCast, e34] at e61
      rw [show v61 = mb_S (Bf k) (nf k) 1 by rw [e61]; unfold mb_S; rw [if_neg (by decide)]]
      refine vr_109 S hk' (.inr rfl) (fun T => vr_badF V (.inr (.inl ⟨rfl, H3, .inr T⟩))) (fun t1 => ?_) nn 0 (fun z y h1 => absurd h1 (by omega))
      exact F2 f t0 t1
  cases hnn : nn with
  | zero => exact pc_none
  | succ f =>
    rw [← hnn]
    show Pc (qw_X13_classFits_77 nn nn (8 + (k : Int)) (k : Int) 0 h) _
    have G0 : ∀ f : Nat, Pc (qw_X13_classFits_77 nn f (8 + (k : Int)) (k : Int) 0 h) (RCF Bf nf cnt k h0) := fun f => by
      cases f with
      | zero => exact pc_none
      | succ f =>
        unfold qw_X13_classFits_77
        refine pc_if (fun z => absurd z (by decide)) (fun _ => pc_if (fun _ => ?_) (fun z => absurd (by decide) z))
        refine pc_rA ?_; intro _ _ v59 e59
        rw [Int.toNat_natCast, e32] at e59
        rw [show v59 = mb_S (Bf k) (nf k) 0 by rw [e59]; unfold mb_S; rw [if_pos rfl]]
        refine vr_109 S hk' (.inl rfl) (fun T => vr_badF V (.inr (.inl ⟨rfl, H3, .inl T⟩))) (fun t0 => ?_) nn 0 (fun z y h1 => absurd h1 (by omega))
        exact F1 f t0
    exact G0 nn
theorem vr_36 (N : NKn Bf nf cnt) (S : RSv Bf nf h) (ec : h 160 98 = cnt) (hk : (k : Int) < cnt) (V : VRk h0 h) (W : SWy h0 h) (nz : ¬ sp_F Bf nf cnt (8 + (k : Int)) = -1) (KA : KAl Bf nf cnt (Bf k) (nf k)) : ∀ (f i : Nat), i ≤ 17 → Pc (qw_X13_classFits_36 nn f (8 + (k : Int)) (k : Int) (ch_F Bf nf cnt (8 + (k : Int)) i) (i : Int) h) (RCF Bf nf cnt k h0) := by
  have g3 := S.1
  have kI : ISc cnt (8 + (k : Int)) := by unfold ISc; omega
  have I := ch_is (Bf := Bf) (nf := nf) (cnt := cnt) (by omega) (.inr kI)
  have E : ∀ i : Nat, i ≤ 17 → (i = 17 ∨ ch_F Bf nf cnt (8 + (k : Int)) i = -1) → Pc (qj_X13_classFits_60 nn (8 + (k : Int)) (k : Int) (ch_F Bf nf cnt (8 + (k : Int)) i) h) (RCF Bf nf cnt k h0) := fun i hi w => by
    unfold qj_X13_classFits_60
    refine pc_if (fun z => ?_) (fun z => ?_)
    · have a := ch_m1 z (17 - i)
      rw [show i + (17 - i) = 17 by omega] at a
      exact vr_77 N S ec hk V W ⟨nz, KA, a⟩
    · refine vr_badF V (.inl ⟨rfl, fun y => ?_⟩)
      rcases w with w | w
      · rw [w] at z; exact z y.2.2
      · exact z w
  intro f
  induction f with
  | zero => intro i _; exact pc_none
  | succ f ih =>
    intro i hi
    unfold qw_X13_classFits_36
    refine pc_if (fun z => E i hi (.inl (by omega))) (fun z => pc_if (fun w => E i hi (.inr w)) (fun w => ?_))
    have cI : ISc cnt (ch_F Bf nf cnt (8 + (k : Int)) i) := by
      rcases I i with y | y
      · exact absurd y w
      · exact y
    have q := vr_super (nn := nn) (by rw [ec]; exact N) S (c := ch_F Bf nf cnt (8 + (k : Int)) i) (by rw [ec]; exact cI)
    rw [ec] at q
    refine pc_sv q ?_; intro u69 q69
    refine pc_add (by omega) ?_; intro v70 e70
    rw [q69, ← chv_s cI.1, show v70 = ((i + 1 : Nat) : Int) by omega]
    exact ih (i + 1) (by omega)
/-- CLASS FITS -/
theorem vr_class1 (N : NKn Bf nf (h 160 98)) (S : RSv Bf nf h) (h7 : 0 ≤ h 160 117) (hk : (k : Int) < h 160 98) : Pc (qf_X13_classFits nn (8 + (k : Int)) h) (RCF Bf nf (h 160 98) k h) := by
  have g3 := S.1
  have kI : ISc (h 160 98) (8 + (k : Int)) := by unfold ISc; omega
  unfold qf_X13_classFits
  refine pc_sub (by omega) ?_; intro v76 e76
  rw [show v76 = (k : Int) by omega]
  refine pc_sv (vr_super N S kI) ?_; intro u78 q78
  refine pc_if (fun z => ?_) (fun z => ?_)
  · unfold qj_X13_classFits_22
    exact vr_badF vrk_r (.inl ⟨rfl, fun y => y.1 (by rw [← q78]; exact z)⟩)
  refine pc_sv (vr_kinds N S h7 hk) ?_; intro u80 ⟨o80, q80⟩
  have e8 : u80.2 160 98 = h 160 98 := o80.1 160 98 (by omega) (by omega) (by omega)
  refine pc_if (fun w => ?_) (fun w => ?_)
  · have KA : KAl Bf nf (h 160 98) (Bf k) (nf k) := by
      rcases q80 with q | q
      · exact q.2
      · exact absurd q.1 w
    exact vr_36 N (rsv_o S o80) e8 hk (vrk_o o80) (swy_o o80) (fun y => z (by rw [q78]; exact y)) KA nn 0 (by omega)
  · unfold qj_X13_classFits_22
    refine vr_badF (vrk_o o80) (.inl ⟨rfl, fun y => ?_⟩)
    rcases q80 with q | q
    · omega
    · exact q.2 y.2.1
/-- ALL CLASSES, the reference: what comes behind is a continuation -/
theorem vr_20 (N : NKn Bf nf cnt) (c0 : cnt ≤ 8) {Q : Int × ms_M → Prop} (HOK : ∀ g : ms_M, VRk h0 g → SWy h0 g → (∀ j : Nat, (j : Int) < cnt → HOk Bf nf cnt j) → Pc (qw_X13_verify_50 nn nn 1 8 g) Q) (HBAD : ∀ (g : ms_M) (j : Nat), VRk h0 g → (j : Int) < cnt → (∀ i : Nat, i < j → HOk Bf nf cnt i) → NUm Bf nf cnt j (g 160 122) → g 160 123 = 8 + (j : Int) → g 160 124 = -1 → g 160 125 = -1 → Pc (qw_X13_verify_50 nn nn 0 8 g) Q) (h07 : 0 ≤ h0 160 117) : ∀ (f k : Nat) (h : ms_M), RSv Bf nf h → h 160 98 = cnt → VRk h0 h → SWy h0 h → (k : Int) ≤ cnt → (∀ j : Nat, j < k → HOk Bf nf cnt j) → Pc (qw_X13_verify_20 nn f 1 (8 + (k : Int)) h) Q := by
  intro f
  induction f with
  | zero => intro k h _ _ _ _ _ _; exact pc_none
  | succ f ih =>
    intro k h S ec V W hk A
    have g3 := S.1
    unfold qw_X13_verify_20
    rw [ec]
    refine pc_add (by omega) ?_; intro v19 e19
    refine pc_if (fun z => HOK h V W (fun j hj => A j (by omega))) (fun z => pc_if (fun w => absurd w (by decide)) (fun _ => ?_))
    have q := vr_class1 (nn := nn) (k := k) (by rw [ec]; exact N) S (V.2 h07) (by omega)
    rw [ec] at q
    refine pc_sv q ?_; intro u21 ⟨V21, q21⟩
    refine pc_add (by omega) ?_; intro v22 e22
    rw [show v22 = 8 + ((k + 1 : Nat) : Int) by omega]
    have S21 := rsv_v S V21
    have e21 : u21.2 160 98 = cnt := (V21.1 160 98 (by omega) (by omega) (by omega)).trans ec
    rcases q21 with ⟨q1, q2, q3⟩ | ⟨q1, q2, q3, q4, q5⟩
    · rw [q1]
      refine ih (k + 1) u21.2 S21 e21 (vrk_t V V21) (swy_t W q3) (by omega) (fun j hj => ?_)
      by_cases jk : j = k
      · rw [jk]; exact q2
      · exact A j (by omega)
    · rw [q1]
      have ST : Pc (qw_X13_verify_50 nn nn 0 8 u21.2) Q := HBAD u21.2 k (vrk_t V V21) (by omega) A q2 q3 q4 q5
      cases f with
      | zero => exact pc_none
      | succ f =>
        unfold qw_X13_verify_20
        refine pc_xl ?_; intro v e
        exact pc_if (fun _ => ST) (fun _ => pc_if (fun _ => ST) (fun w => absurd rfl w))
end

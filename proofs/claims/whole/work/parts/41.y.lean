section
/- VERIFY: heads, the reference's side, whole -/
section
variable {nn : Nat} {Bf : Nat → Nat → Int} {nf : Nat → Nat} {cnt : Int} {B C : Nat → Int} {n m b d k o : Nat} {M h g r h0 : ms_M} {t c : Int}
/-- ARE THERE TWO OF A NAME, the reference -/
theorem vr_122 (S : RSv Bf nf h) (hk : (k : Int) < h 160 98) {s : Int} (sb : s = 0 ∨ s = 1) {q7 : Int → Int → Int → ms_M → Option (Int × ms_M)} {q9 : Int → Int → Int → Int → Int → ms_M → Option (Int × ms_M)} {Q : Int × ms_M → Prop} {x : Nat} (hx : (x : Int) < mb_S (Bf k) (nf k) s) (Hb : TWs (Bf k) (nf k) s → Pc (mx_sv (qf_X13_bad nn 4 (8 + (k : Int)) (-1) (-1) h) fun u => ck_B (u.1 = 0 ∨ u.1 = 1) <| some (u.1, u.2)) Q) (Hk : (∀ y : Nat, x < y → (y : Int) < mb_S (Bf k) (nf k) s → ¬ TXq (Bf k) (nf k) (nt_S (Bf k) (nf k) x s) (Bf k) (nf k) (nt_S (Bf k) (nf k) y s)) → Pc (q9 (8 + (k : Int)) (k : Int) s (mb_S (Bf k) (nf k) s) ((x + 1 : Nat) : Int) h) Q) : ∀ (f y : Nat), x < y → (∀ z : Nat, x < z → z < y → ¬ TXq (Bf k) (nf k) (nt_S (Bf k) (nf k) x s) (Bf k) (nf k) (nt_S (Bf k) (nf k) z s)) → Pc (qw_X13_classFits_122 nn q7 q9 f (8 + (k : Int)) (k : Int) s (mb_S (Bf k) (nf k) s) (x : Int) (y : Int) h) Q := by
  obtain ⟨G, -, -, -⟩ := rg_im (S.2 k hk)
  have m12 : mb_S (Bf k) (nf k) s ≤ 12 := by
    have g1 := G.1
    have g2 := G.2.2.1
    unfold mb_S
    split <;> omega
  intro f
  induction f with
  | zero => intro y _ _; exact pc_none
  | succ f ih =>
    intro y xy A
    unfold qw_X13_classFits_122
    refine pc_if (fun z => ?_) (fun z => ?_)
    · refine pc_add (by omega) ?_; intro v52 e52
      rw [show v52 = ((x + 1 : Nat) : Int) by omega]
      exact Hk (fun w h1 h2 => A w h1 (by omega))
    · have hy : (y : Int) < mb_S (Bf k) (nf k) s := by omega
      have E : Pc (qj_X13_classFits_146 nn q7 q9 (qw_X13_classFits_122 nn q7 q9 f) (8 + (k : Int)) (k : Int) s (mb_S (Bf k) (nf k) s) (x : Int) (y : Int) s (x : Int) (k : Int) (k : Int) h) Q := by
        unfold qj_X13_classFits_146
        refine pc_sv (vq_rtx (nn := nn) S hk hx).1 ?_; intro u50 q50
        have E2 : Pc (qj_X13_classFits_165 nn q7 q9 (qw_X13_classFits_122 nn q7 q9 f) (8 + (k : Int)) (k : Int) s (mb_S (Bf k) (nf k) s) (x : Int) (y : Int) s (y : Int) (k : Int) (k : Int) u50 (k : Int) h) Q := by
          unfold qj_X13_classFits_165
          refine pc_sv (vq_rtx (nn := nn) S hk hy).1 ?_; intro u41 q41
          rw [q50, q41]
          refine pc_sv (vr_same S hk hk (nt_1 G hx) (nt_1 G hy)) ?_; intro u43 q43
          refine pc_if (fun w => ?_) (fun w => Hb ?_)
          · refine pc_add (by omega) ?_; intro v44 e44
            rw [show v44 = ((y + 1 : Nat) : Int) by omega]
            refine ih (y + 1) (by omega) (fun a h1 h2 => ?_)
            by_cases ay : a = y
            · rw [ay]
              rcases q43 with q | q
              · omega
              · exact q.2
            · exact A a h1 (by omega)
          · rcases q43 with q | q
            · exact ⟨y, x, xy, hy, txq_s q.2⟩
            · exact absurd q.1 w
        rcases sb with s0 | s1
        · rw [s0] at E2 ⊢
          exact pc_if (fun _ => E2) (fun w => absurd (by decide) w)
        · rw [s1] at E2 ⊢
          exact pc_if (fun w => absurd rfl w) (fun _ => E2)
      rcases sb with s0 | s1
      · rw [s0] at E ⊢
        exact pc_if (fun _ => E) (fun w => absurd (by decide) w)
      · rw [s1] at E ⊢
        exact pc_if (fun w => absurd rfl w) (fun _ => E)
theorem vr_109 (S : RSv Bf nf h) (hk : (k : Int) < h 160 98) {s : Int} (sb : s = 0 ∨ s = 1) {q7 : Int → Int → Int → ms_M → Option (Int × ms_M)} {Q : Int × ms_M → Prop} (Hb : TWs (Bf k) (nf k) s → Pc (mx_sv (qf_X13_bad nn 4 (8 + (k : Int)) (-1) (-1) h) fun u => ck_B (u.1 = 0 ∨ u.1 = 1) <| some (u.1, u.2)) Q) (Hk : ¬ TWs (Bf k) (nf k) s → Pc (q7 (8 + (k : Int)) (k : Int) (s + 1) h) Q) : ∀ (f x : Nat), (∀ z y : Nat, z < x → z < y → (y : Int) < mb_S (Bf k) (nf k) s → ¬ TXq (Bf k) (nf k) (nt_S (Bf k) (nf k) z s) (Bf k) (nf k) (nt_S (Bf k) (nf k) y s)) → Pc (qw_X13_classFits_109 nn q7 f (8 + (k : Int)) (k : Int) s (mb_S (Bf k) (nf k) s) (x : Int) h) Q := by
  obtain ⟨G, -, -, -⟩ := rg_im (S.2 k hk)
  have m12 : mb_S (Bf k) (nf k) s ≤ 12 := by
    have g1 := G.1
    have g2 := G.2.2.1
    unfold mb_S
    split <;> omega
  intro f
  induction f with
  | zero => intro x _; exact pc_none
  | succ f ih =>
    intro x A
    unfold qw_X13_classFits_109
    refine pc_if (fun z => ?_) (fun z => ?_)
    · refine pc_add (by omega) ?_; intro v55 e55
      rw [e55]
      refine Hk (fun ⟨i, j, ij, hi, T⟩ => ?_)
      exact A j i (by omega) ij hi (txq_s T)
    · refine pc_add (by omega) ?_; intro v56 e56
      rw [show v56 = ((x + 1 : Nat) : Int) by omega]
      refine vr_122 S hk sb (x := x) (by omega) Hb (fun H => ?_) nn (x + 1) (by omega) (fun z h1 h2 => absurd h2 (by omega))
      refine ih (x + 1) (fun z y h1 h2 h3 => ?_)
      by_cases zx : z = x
      · rw [zx] at h2 ⊢; exact H y h2 h3
      · exact A z y (by omega) h2 h3
theorem vr_77 (N : NKn Bf nf cnt) (S : RSv Bf nf h) (ec : h 160 98 = cnt) (hk : (k : Int) < cnt) (V : VRk h0 h) (W : SWy h0 h) (H3 : H3k Bf nf cnt k) : Pc (qw_X13_classFits_77 nn nn (8 + (k : Int)) (k : Int) 0 h) (RCF Bf nf cnt k h0) := by
  have hk' : (k : Int) < h 160 98 := by omega
  obtain ⟨G, ⟨e32, -⟩, e34, -⟩ := rg_im (S.2 k hk')
  rw [Int.toNat_natCast] at e32 e34
  have F2 : ∀ f : Nat, ¬ TWs (Bf k) (nf k) 0 → ¬ TWs (Bf k) (nf k) 1 → Pc (qw_X13_classFits_77 nn f (8 + (k : Int)) (k : Int) 2 h) (RCF Bf nf cnt k h0) := fun f t0 t1 => by
    cases f with
    | zero => exact pc_none
    | succ f =>
      unfold qw_X13_classFits_77
      refine pc_if (fun _ => ?_) (fun z => absurd (by decide) z)
      exact vr_204 N hk H3 (fun w => by rcases w with w | w; exact t0 w; exact t1 w) nn 0 h S ec V W (fun m hm => absurd hm (by omega))
  have F1 : ∀ f : Nat, ¬ TWs (Bf k) (nf k) 0 → Pc (qw_X13_classFits_77 nn f (8 + (k : Int)) (k : Int) 1 h) (RCF Bf nf cnt k h0) := fun f t0 => by
    cases f with
    | zero => exact pc_none
    | succ f =>
      unfold qw_X13_classFits_77
      refine pc_if (fun z => absurd z (by decide)) (fun _ => pc_if (fun z => absurd rfl z) (fun _ => ?_))
      refine pc_rA ?_; intro _ _ v61 e61
      rw [Int.toNat_natCast, e34] at e61
      rw [show v61 = mb_S (Bf k) (nf k) 1 by rw [e61]; unfold mb_S; rw [if_neg (by decide)]]
      refine vr_109 S hk' (.inr rfl) (fun T => vr_badF V (.inr (.inl ⟨rfl, H3, .inr T⟩))) (fun t1 => ?_) nn 0 (fun z y h1 => absurd h1 (by omega))
      exact F2 f t0 t1
  cases hnn : nn with
  | zero => exact pc_none
  | succ f =>
    rw [← hnn]
    show Pc (qw_X13_classFits_77 nn nn (8 + (k : Int)) (k : Int) 0 h) _
    have G0 : ∀ f : Nat, Pc (qw_X13_classFits_77 nn f (8 + (k : Int)) (k : Int) 0 h) (RCF Bf nf cnt k h0) := fun f => by
      cases f with
      | zero => exact pc_none
      | succ f =>
        unfold qw_X13_classFits_77
        refine pc_if (fun z => absurd z (by decide)) (fun _ => pc_if (fun _ => ?_) (fun z => absurd (by decide) z))
        refine pc_rA ?_; intro _ _ v59 e59
        rw [Int.toNat_natCast, e32] at e59
        rw [show v59 = mb_S (Bf k) (nf k) 0 by rw [e59]; unfold mb_S; rw [if_pos rfl]]
        refine vr_109 S hk' (.inl rfl) (fun T => vr_badF V (.inr (.inl ⟨rfl, H3, .inl T⟩))) (fun t0 => ?_) nn 0 (fun z y h1 => absurd h1 (by omega))
        exact F1 f t0
    exact G0 nn
theorem vr_36 (N : NKn Bf nf cnt) (S : RSv Bf nf h) (ec : h 160 98 = cnt) (hk : (k : Int) < cnt) (V : VRk h0 h) (W : SWy h0 h) (nz : ¬ sp_F Bf nf cnt (8 + (k : Int)) = -1) (KA : KAl Bf nf cnt (Bf k) (nf k)) : ∀ (f i : Nat), i ≤ 17 → Pc (qw_X13_classFits_36 nn f (8 + (k : Int)) (k : Int) (ch_F Bf nf cnt (8 + (k : Int)) i) (i : Int) h) (RCF Bf nf cnt k h0) := by
  have g3 := S.1
  have kI : ISc cnt (8 + (k : Int)) := by unfold ISc; omega
  have I := ch_is (Bf := Bf) (nf := nf) (cnt := cnt) (by omega) (.inr kI)
  have E : ∀ i : Nat, i ≤ 17 → (i = 17 ∨ ch_F Bf nf cnt (8 + (k : Int)) i = -1) → Pc (qj_X13_classFits_60 nn (8 + (k : Int)) (k : Int) (ch_F Bf nf cnt (8 + (k : Int)) i) h) (RCF Bf nf cnt k h0) := fun i hi w => by
    unfold qj_X13_classFits_60
    refine pc_if (fun z => ?_) (fun z => ?_)
    · have a := ch_m1 z (17 - i)
      rw [show i + (17 - i) = 17 by omega] at a
      exact vr_77 N S ec hk V W ⟨nz, KA, a⟩
    · refine vr_badF V (.inl ⟨rfl, fun y => ?_⟩)
      rcases w with w | w
      · rw [w] at z; exact z y.2.2
      · exact z w
  intro f
  induction f with
  | zero => intro i _; exact pc_none
  | succ f ih =>
    intro i hi
    unfold qw_X13_classFits_36
    refine pc_if (fun z => E i hi (.inl (by omega))) (fun z => pc_if (fun w => E i hi (.inr w)) (fun w => ?_))
    have cI : ISc cnt (ch_F Bf nf cnt (8 + (k : Int)) i) := by
      rcases I i with y | y
      · exact absurd y w
      · exact y
    have q := vr_super (nn := nn) (by rw [ec]; exact N) S (c := ch_F Bf nf cnt (8 + (k : Int)) i) (by rw [ec]; exact cI)
    rw [ec] at q
    refine pc_sv q ?_; intro u69 q69
    refine pc_add (by omega) ?_; intro v70 e70
    rw [q69, ← chv_s cI.1, show v70 = ((i + 1 : Nat) : Int) by omega]
    exact ih (i + 1) (by omega)
/-- CLASS FITS -/
theorem vr_class1 (N : NKn Bf nf (h 160 98)) (S : RSv Bf nf h) (h7 : 0 ≤ h 160 117) (hk : (k : Int) < h 160 98) : Pc (qf_X13_classFits nn (8 + (k : Int)) h) (RCF Bf nf (h 160 98) k h) := by
  have g3 := S.1
  have kI : ISc (h 160 98) (8 + (k : Int)) := by unfold ISc; omega
  unfold qf_X13_classFits
  refine pc_sub (by omega) ?_; intro v76 e76
  rw [show v76 = (k : Int) by omega]
  refine pc_sv (vr_super N S kI) ?_; intro u78 q78
  refine pc_if (fun z => ?_) (fun z => ?_)
  · unfold qj_X13_classFits_22
    exact vr_badF vrk_r (.inl ⟨rfl, fun y => y.1 (by rw [← q78]; exact z)⟩)
  refine pc_sv (vr_kinds N S h7 hk) ?_; intro u80 ⟨o80, q80⟩
  have e8 : u80.2 160 98 = h 160 98 := o80.1 160 98 (by omega) (by omega) (by omega)
  refine pc_if (fun w => ?_) (fun w => ?_)
  · have KA : KAl Bf nf (h 160 98) (Bf k) (nf k) := by
      rcases q80 with q | q
      · exact q.2
      · exact absurd q.1 w
    exact vr_36 N (rsv_o S o80) e8 hk (vrk_o o80) (swy_o o80) (fun y => z (by rw [q78]; exact y)) KA nn 0 (by omega)
  · unfold qj_X13_classFits_22
    refine vr_badF (vrk_o o80) (.inl ⟨rfl, fun y => ?_⟩)
    rcases q80 with q | q
    · omega
    · exact q.2 y.2.1
/-- ALL CLASSES, the reference: what comes behind is a continuation -/
theorem vr_20 (N : NKn Bf nf cnt) (c0 : cnt ≤ 8) {Q : Int × ms_M → Prop} (HOK : ∀ g : ms_M, VRk h0 g → SWy h0 g → (∀ j : Nat, (j : Int) < cnt → HOk Bf nf cnt j) → Pc (qw_X13_verify_50 nn nn 1 8 g) Q) (HBAD : ∀ (g : ms_M) (j : Nat), VRk h0 g → (j : Int) < cnt → (∀ i : Nat, i < j → HOk Bf nf cnt i) → NUm Bf nf cnt j (g 160 122) → g 160 123 = 8 + (j : Int) → g 160 124 = -1 → g 160 125 = -1 → Pc (qw_X13_verify_50 nn nn 0 8 g) Q) (h07 : 0 ≤ h0 160 117) : ∀ (f k : Nat) (h : ms_M), RSv Bf nf h → h 160 98 = cnt → VRk h0 h → SWy h0 h → (k : Int) ≤ cnt → (∀ j : Nat, j < k → HOk Bf nf cnt j) → Pc (qw_X13_verify_20 nn f 1 (8 + (k : Int)) h) Q := by
  intro f
  induction f with
  | zero => intro k h _ _ _ _ _ _; exact pc_none
  | succ f ih =>
    intro k h S ec V W hk A
    have g3 := S.1
    unfold qw_X13_verify_20
    rw [ec]
    refine pc_add (by omega) ?_; intro v19 e19
    refine pc_if (fun z => HOK h V W (fun j hj => A j (by omega))) (fun z => pc_if (fun w => absurd w (by decide)) (fun _ => ?_))
    have q := vr_class1 (nn := nn) (k := k) (by rw [ec]; exact N) S (V.2 h07) (by omega)
    rw [ec] at q
    refine pc_sv q ?_; intro u21 ⟨V21, q21⟩
    refine pc_add (by omega) ?_; intro v22 e22
    rw [show v22 = 8 + ((k + 1 : Nat) : Int) by omega]
    have S21 := rsv_v S V21
    have e21 : u21.2 160 98 = cnt := (V21.1 160 98 (by omega) (by omega) (by omega)).trans ec
    rcases q21 with ⟨q1, q2, q3⟩ | ⟨q1, q2, q3, q4, q5⟩
    · rw [q1]
      refine ih (k + 1) u21.2 S21 e21 (vrk_t V V21) (swy_t W q3) (by omega) (fun j hj => ?_)
      by_cases jk : j = k
      · rw [jk]; exact q2
      · exact A j (by omega)
    · rw [q1]
      have ST : Pc (qw_X13_verify_50 nn nn 0 8 u21.2) Q := HBAD u21.2 k (vrk_t V V21) (by omega) A q2 q3 q4 q5
      cases f with
      | zero => exact pc_none
      | succ f =>
        unfold qw_X13_verify_20
        refine pc_xl ?_; intro v e
        exact pc_if (fun _ => ST) (fun _ => pc_if (fun _ => ST) (fun w => absurd rfl w))
end
end
section
/- VERIFY: instructions of a method, both sides -/
/-- the code of method i; how long -/
def cd_S (B : Nat → Int) (n i p : Nat) : Int := B (ma_S B n i + 7 + p)
def cl_N (B : Nat → Int) (n i : Nat) : Nat := (ln_N B (ma_S B n i + 5)).toNat
/-- where instruction t begins -/
def is_S (D : Nat → Int) : Nat → Nat
  | 0 => 0
  | t + 1 => is_S D t + (WD (D (is_S D t))).toNat
/-- the first t instructions are right -/
def GSo (D : Nat → Int) (L t : Nat) : Prop := ∀ x : Nat, x < t → is_S D x < L ∧ 0 < WD (D (is_S D x)) ∧ (is_S D x : Int) + WD (D (is_S D x)) ≤ (L : Int)
/-- an instruction begins at p -/
def BGn (D : Nat → Int) (L p : Nat) : Prop := ∃ t : Nat, GSo D L t ∧ is_S D t = p ∧ p < L
/-- all instructions are right; the first that is not is at p -/
def IOk (D : Nat → Int) (L : Nat) : Prop := ∃ t : Nat, GSo D L t ∧ is_S D t = L
def INo (D : Nat → Int) (L p : Nat) : Prop := ∃ t : Nat, GSo D L t ∧ is_S D t = p ∧ p < L ∧ (WD (D p) = 0 ∨ (L : Int) < (p : Int) + WD (D p))
section
variable {nn : Nat} {Bf : Nat → Nat → Int} {nf : Nat → Nat} {cnt : Int} {B C D : Nat → Int} {n m b d k o i L : Nat} {M h g r h0 : ms_M} {t c : Int}
theorem wd_all : (List.range 256).all (fun o => decide (qf_X11_widthOf 0 ((o : Nat) : Int) (fun _ _ => 0) = some (WD ((o : Nat) : Int))) && decide (0 ≤ WD ((o : Nat) : Int) ∧ WD ((o : Nat) : Int) ≤ 3)) = true := by decide +kernel
theorem wd_at {a : Int} (ha : 0 ≤ a ∧ a ≤ 255) : qf_X11_widthOf 0 a (fun _ _ => 0) = some (WD a) ∧ 0 ≤ WD a ∧ WD a ≤ 3 := by
  have z := List.all_eq_true.mp wd_all a.toNat (List.mem_range.mpr (by omega))
  rw [Bool.and_eq_true] at z
  have e : ((a.toNat : Nat) : Int) = a := by omega
  rw [e] at z
  exact ⟨of_decide_eq_true z.1, of_decide_eq_true z.2⟩
theorem wd_c {a : Int} (ha : 0 ≤ a ∧ a ≤ 255) : qf_X11_widthOf nn a h = some (WD a) := by
  have q : qf_X11_widthOf 0 a (fun _ _ => 0) = qf_X11_widthOf nn a h := rfl
  rw [← q]; exact (wd_at ha).1
theorem wd_r {a : Int} : Pc (qf_X13_widthOf nn a h) (fun u => u = WD a) := pc_imp (pc_ok mw_width) (fun _ z => z.1)
theorem gso_u {s t : Nat} (A : GSo D L t) (st : s ≤ t) : GSo D L s := fun x hx => A x (by omega)
theorem is_mono {t : Nat} (A : GSo D L t) : ∀ x y : Nat, x < y → y ≤ t → is_S D x < is_S D y := by
  intro x y
  induction y with
  | zero => intro h1 _; exact absurd h1 (by omega)
  | succ y ih =>
    intro h1 h2
    have a := A y (by omega)
    have e : is_S D (y + 1) = is_S D y + (WD (D (is_S D y))).toNat := rfl
    by_cases q : x = y
    · rw [q, e]; omega
    · have := ih (by omega) (by omega)
      omega
/-- the beginnings, once all is right -/
theorem bgn_iff {t : Nat} (A : GSo D L t) (e : is_S D t = L) {p : Nat} : BGn D L p ↔ ∃ x : Nat, x < t ∧ is_S D x = p := by
  constructor
  · intro ⟨y, y1, y2, y3⟩
    refine ⟨y, Classical.byContradiction fun z => ?_, y2⟩
    by_cases q : y = t
    · rw [q] at y2; omega
    · have := (y1 t (by omega)).1
      omega
  · intro ⟨x, x1, x2⟩
    exact ⟨x, gso_u A (by omega), x2, by have := (A x x1).1; omega⟩
theorem ino_u {p q : Nat} (A : INo D L p) (E : INo D L q) : p = q := by
  obtain ⟨x, x1, x2, x3, x4⟩ := A
  obtain ⟨y, y1, y2, y3, y4⟩ := E
  have e : x = y := by
    rcases Nat.lt_trichotomy x y with z | z | z
    · have a := y1 x z
      rw [x2] at a; omega
    · exact z
    · have a := x1 y z
      rw [y2] at a; omega
  rw [← x2, ← y2, e]
theorem ino_ok {p : Nat} (A : INo D L p) (E : IOk D L) : False := by
  obtain ⟨x, x1, x2, x3, x4⟩ := A
  obtain ⟨y, y1, y2⟩ := E
  rcases Nat.lt_trichotomy x y with z | z | z
  · have a := y1 x z
    rw [x2] at a; omega
  · rw [z, y2] at x2; omega
  · have a := x1 y z
    rw [y2] at a; omega
/-- bytes of an image -/
theorem by_rg (S : CSv Bf nf h) (hk : (k : Int) < h 56 3) {p : Nat} (hp : p < nf k) : 0 ≤ Bf k p ∧ Bf k p ≤ 255 := by
  have a := ((S.2 k hk).1.1.2.2.2.2.2.2.2 p hp).1
  omega
/-- the class's code -/
theorem vc_code (S : CSv Bf nf h) (hk : (k : Int) < h 56 3) (e5 : h 127 5 = h 60 k) (e6 : h 127 6 = (i : Int)) (hi : (i : Int) < mc_S (Bf k) (nf k)) {p : Nat} (hp : p < cl_N (Bf k) (nf k) i) : Pc (qf_X11_codeAt nn (p : Int) h) (fun u => u = cd_S (Bf k) (nf k) i p ∧ 0 ≤ u ∧ u ≤ 255) := by
  have X := S.2 k hk
  have J := X.1.1
  have n6 := J.2.1
  obtain ⟨G, -, -, MD⟩ := cg_im X
  have gm := G.2.2.2 i hi
  have l1 := gm.2.2.2.1
  unfold cl_N at hp
  unfold qf_X11_codeAt qf_X11_info
  rw [e5]
  refine pc_ck (fun _ => ?_)
  refine pc_sv (P := fun u => u = ((ma_S (Bf k) (nf k) i + 7 : Nat) : Int)) ?_ ?_
  · refine pc_ck (fun _ => pc_ck (fun _ => ?_))
    rw [e6]
    refine pc_sv (vq_of (nn := nn) X hi (w := 6) (by decide) (MD i hi).2.1.2) ?_; intro u4 q4
    exact pc_ret q4
  intro u3 q3
  refine pc_add (by omega) ?_; intro v4 e4
  refine pc_ck (fun _ => ?_)
  refine pc_sv (P := fun u => u = Bf k (ma_S (Bf k) (nf k) i + 7 + p)) (fun u eu => by
    rw [show v4 = ((ma_S (Bf k) (nf k) i + 7 + p : Nat) : Int) by omega, byteAt_in J (by omega)] at eu; exact (Option.some.inj eu).symm) ?_
  intro u6 q6
  have rg := by_rg S hk (p := ma_S (Bf k) (nf k) i + 7 + p) (by omega)
  refine pc_ret ⟨q6, ?_, ?_⟩
  · rw [q6]; exact rg.1
  · rw [q6]; exact rg.2
/-- the marks of the class -/
def MKs (D : Nat → Int) (L t : Nat) (h : ms_M) : Prop := ∀ p : Nat, p < L → (h 132 p = -1 ∧ ∃ x : Nat, x < t ∧ is_S D x = p) ∨ (h 132 p = -2 ∧ ¬ ∃ x : Nat, x < t ∧ is_S D x = p)
theorem vc_33 (S0 : CSv Bf nf h0) (hk : (k : Int) < h0 56 3) (hi : (i : Int) < mc_S (Bf k) (nf k)) : ∀ (f t : Nat) (h : ms_M), VCk h0 h → h 127 5 = h 60 k → h 127 6 = (i : Int) → h 127 16 = (cl_N (Bf k) (nf k) i : Int) → GSo (cd_S (Bf k) (nf k) i) (cl_N (Bf k) (nf k) i) t → MKs (cd_S (Bf k) (nf k) i) (cl_N (Bf k) (nf k) i) t h → Pc (qw_X11_proveInstructions_33 nn f (is_S (cd_S (Bf k) (nf k) i) t : Int) h) (fun u => VCk h0 u.2 ∧ (∀ x j : Nat, ¬ x = 132 → ¬ (x = 127 ∧ j = 7) → u.2 x j = h x j) ∧ ((u.1 = 0 ∧ IOk (cd_S (Bf k) (nf k) i) (cl_N (Bf k) (nf k) i) ∧ ∀ p : Nat, p < cl_N (Bf k) (nf k) i → (u.2 132 p = -1 ∧ BGn (cd_S (Bf k) (nf k) i) (cl_N (Bf k) (nf k) i) p) ∨ (u.2 132 p = -2 ∧ ¬ BGn (cd_S (Bf k) (nf k) i) (cl_N (Bf k) (nf k) i) p)) ∨ (u.1 = 6 ∧ ∃ p : Nat, INo (cd_S (Bf k) (nf k) i) (cl_N (Bf k) (nf k) i) p ∧ u.2 127 7 = (p : Int)))) := by
  intro f
  induction f with
  | zero => intro t h _ _ _ _ _ _; exact pc_none
  | succ f ih =>
    intro t h V e5 e6 e16 A MK
    have S : CSv Bf nf h := csv_k S0 (fun c j _ z => V c j z)
    have hk' : (k : Int) < h 56 3 := by rw [V 56 3 (by omega)]; exact hk
    obtain ⟨G, -, -, -⟩ := cg_im (S.2 k hk')
    have l1 := (G.2.2.2 i hi).2.2.2.1
    have L15 : cl_N (Bf k) (nf k) i ≤ 1500 := by unfold cl_N; omega
    generalize hD : cd_S (Bf k) (nf k) i = D at *
    have isL : t = 0 ∨ is_S D t ≤ cl_N (Bf k) (nf k) i := by
      cases t with
      | zero => exact .inl rfl
      | succ t =>
        have a := A t (by omega)
        have e : is_S D (t + 1) = is_S D t + (WD (D (is_S D t))).toNat := rfl
        exact .inr (by omega)
    have is0 : is_S D 0 = 0 := rfl
    have isL2 : is_S D t ≤ cl_N (Bf k) (nf k) i := by
      rcases isL with z | z
      · rw [z, is0]; omega
      · exact z
    unfold qw_X11_proveInstructions_33
    rw [e16]
    refine pc_if (fun z => pc_ret ⟨V, fun _ _ _ _ => rfl, .inl ⟨rfl, ⟨t, A, by omega⟩, fun p hp => ?_⟩⟩) (fun z => ?_)
    · have bi := bgn_iff (p := p) A (show is_S D t = cl_N (Bf k) (nf k) i by omega)
      rcases MK p hp with ⟨m1, m2⟩ | ⟨m1, m2⟩
      · exact .inl ⟨m1, bi.2 m2⟩
      · exact .inr ⟨m1, fun w => m2 (bi.1 w)⟩
    have q := vc_code (nn := nn) S hk' e5 e6 hi (p := is_S D t) (by omega)
    rw [hD] at q
    refine pc_sv q ?_; intro u5 ⟨q5, r5⟩
    refine pc_sv (P := fun u => u = WD (D (is_S D t))) (fun u eu => by rw [wd_c r5, q5] at eu; exact (Option.some.inj eu).symm) ?_; intro u6 q6
    have w3 := (wd_at (a := D (is_S D t)) (by rw [← q5]; exact r5)).2
    have BD : (WD (D (is_S D t)) = 0 ∨ (cl_N (Bf k) (nf k) i : Int) < (is_S D t : Int) + WD (D (is_S D t))) → Pc (qj_X11_proveInstructions_64 nn (is_S D t : Int) h) (fun u => VCk h0 u.2 ∧ (∀ x j : Nat, ¬ x = 132 → ¬ (x = 127 ∧ j = 7) → u.2 x j = h x j) ∧ ((u.1 = 0 ∧ IOk D (cl_N (Bf k) (nf k) i) ∧ ∀ p : Nat, p < cl_N (Bf k) (nf k) i → (u.2 132 p = -1 ∧ BGn D (cl_N (Bf k) (nf k) i) p) ∨ (u.2 132 p = -2 ∧ ¬ BGn D (cl_N (Bf k) (nf k) i) p)) ∨ (u.1 = 6 ∧ ∃ p : Nat, INo D (cl_N (Bf k) (nf k) i) p ∧ u.2 127 7 = (p : Int)))) := fun w => by
      unfold qj_X11_proveInstructions_64 qf_X11_at
      refine pc_sv (P := fun u => u.1 = 6 ∧ u.2 = up_M h 127 7 (is_S D t : Int)) (pc_xl (fun h1 e1 => pc_ret ⟨rfl, e1⟩)) ?_
      intro u2 ⟨r1, r2⟩
      refine pc_ret ⟨fun c j y => ?_, fun x j y1 y2 => ?_, .inr ⟨r1, is_S D t, ⟨t, A, rfl, by omega, w⟩, ?_⟩⟩
      · show u2.2 c j = h0 c j
        rw [r2, up_n (by omega)]; exact V c j y
      · show u2.2 x j = h x j
        rw [r2, up_n (by omega)]
      · show u2.2 127 7 = _
        rw [r2, up_s]
    refine pc_if (fun y => BD (.inl (by omega))) (fun y => ?_)
    refine pc_add (by omega) ?_; intro v7 e7
    refine pc_if (fun w => ?_) (fun w => BD (.inr (by omega)))
    refine pc_wA ?_; intro _ _ h10 e10
    rw [Int.toNat_natCast] at e10
    refine pc_add (by omega) ?_; intro v11 e11
    have es : is_S D (t + 1) = is_S D t + (WD (D (is_S D t))).toNat := rfl
    rw [show v11 = (is_S D (t + 1) : Int) by omega]
    have A2 : GSo D (cl_N (Bf k) (nf k) i) (t + 1) := fun x hx => by
      by_cases xt : x = t
      · rw [xt]; exact ⟨by omega, by omega, by omega⟩
      · exact A x (by omega)
    have N10 : ∀ x j : Nat, ¬ x = 132 → h10 x j = h x j := fun x j y => by rw [e10, up_n (by omega)]
    refine pc_imp (ih (t + 1) h10 (fun c j y => by rw [N10 c j (by omega)]; exact V c j y) (by rw [N10 127 5 (by omega), N10 60 k (by omega)]; exact e5) (by rw [N10 127 6 (by omega)]; exact e6) (by rw [N10 127 16 (by omega)]; exact e16) A2 (fun p hp => ?_)) (fun u ⟨w1, w2, w3⟩ => ⟨w1, fun x j y1 y2 => by rw [w2 x j y1 y2]; exact N10 x j y1, w3⟩)
    by_cases pt : p = is_S D t
    · exact .inl ⟨by rw [pt, e10, up_s], t, by omega, pt.symm⟩
    · rw [e10, up_n (by omega)]
      rcases MK p hp with ⟨m1, x, x1, x2⟩ | ⟨m1, m2⟩
      · exact .inl ⟨m1, x, by omega, x2⟩
      · refine .inr ⟨m1, fun ⟨x, x1, x2⟩ => ?_⟩
        by_cases xt : x = t
        · exact pt (by rw [← x2, xt])
        · exact m2 ⟨x, by omega, x2⟩
end
end
section
/- VERIFY: instructions of a method, the class's side, whole -/
section
variable {nn : Nat} {Bf : Nat → Nat → Int} {nf : Nat → Nat} {cnt : Int} {B C D : Nat → Int} {n m b d k o i L : Nat} {M h g r h0 : ms_M} {t c : Int}
/-- what the class's reading of instructions leaves -/
def PIn (D : Nat → Int) (L : Nat) (h : ms_M) (u : Int × ms_M) : Prop := VCk h u.2 ∧ (∀ x j : Nat, ¬ x = 132 → ¬ (x = 127 ∧ (j = 7 ∨ j = 16)) → u.2 x j = h x j) ∧ u.2 127 16 = (L : Int) ∧ ((u.1 = 0 ∧ IOk D L ∧ ∀ p : Nat, p < L → (u.2 132 p = -1 ∧ BGn D L p) ∨ (u.2 132 p = -2 ∧ ¬ BGn D L p)) ∨ (u.1 = 6 ∧ ∃ p : Nat, INo D L p ∧ u.2 127 7 = (p : Int)))
theorem vc_ins (S : CSv Bf nf h) (hk : (k : Int) < h 56 3) (e5 : h 127 5 = h 60 k) (e6 : h 127 6 = (i : Int)) (hi : (i : Int) < mc_S (Bf k) (nf k)) : Pc (qf_X11_proveInstructions nn h) (PIn (cd_S (Bf k) (nf k) i) (cl_N (Bf k) (nf k) i) h) := by
  have X := S.2 k hk
  obtain ⟨G, -, -, MD⟩ := cg_im X
  have l1 := (G.2.2.2 i hi).2.2.2.1.1
  have eL : ln_N (Bf k) (ma_S (Bf k) (nf k) i + 5) = (cl_N (Bf k) (nf k) i : Int) := by unfold cl_N; omega
  unfold qf_X11_proveInstructions qf_X11_info
  refine pc_sv (P := fun u => u = (cl_N (Bf k) (nf k) i : Int)) ?_ ?_
  · rw [e5]
    refine pc_ck (fun _ => pc_ck (fun _ => ?_))
    rw [e6]
    refine pc_sv (vq_of (nn := nn) X hi (w := 5) (by decide) (MD i hi).2.1.1) ?_; intro u4 q4
    exact pc_ret (q4.trans eL)
  intro u16 q16
  refine pc_xl ?_; intro v19 e19
  rw [if_neg (by omega), q16] at e19
  refine pc_xl ?_; intro h20 e20
  have w16 : h20 127 16 = (cl_N (Bf k) (nf k) i : Int) := by rw [e20, up_s, e19]
  rw [w16]
  refine pc_se ?_; intro u23 e23
  have F23 : ∀ x j : Nat, ¬ x = 132 → u23 x j = h20 x j := fun x j z => (ff_J7_fill_fda19 nn) u23 e23 x j z
  have V23 := fr_v (by omega) e23
  have N23 : ∀ x j : Nat, ¬ x = 132 → ¬ (x = 127 ∧ j = 16) → u23 x j = h x j := fun x j z1 z2 => by rw [F23 x j z1, e20, up_n z2]
  have q := vc_33 (nn := nn) (h0 := h) S hk hi nn 0 u23 (fun c j z => N23 c j (by omega) (by omega)) (by rw [N23 127 5 (by omega) (by omega), N23 60 k (by omega) (by omega)]; exact e5) (by rw [N23 127 6 (by omega) (by omega)]; exact e6) (by rw [F23 127 16 (by omega)]; exact w16) (fun x hx => absurd hx (by omega)) (fun p hp => .inr ⟨V23 p (by omega), fun ⟨x, x1, _⟩ => absurd x1 (by omega)⟩)
  refine pc_imp q (fun u ⟨a1, a2, a3⟩ => ⟨a1, fun x j z1 z2 => ?_, ?_, a3⟩)
  · rw [a2 x j z1 (by omega)]; exact N23 x j z1 (by omega)
  · rw [a2 127 16 (by omega) (by omega), F23 127 16 (by omega)]; exact w16
end
end
section
/- VERIFY: what is asked of a method, as functions of the space -/
noncomputable def pr_I {α : Type} (P : Prop) (a b : α) : α := @ite α P (Classical.propDecidable P) a b
/-- the first below N of which P holds -/
noncomputable def fs_F (P : Nat → Prop) : Nat → Option Nat
  | 0 => none
  | N + 1 => match fs_F P N with
    | some p => some p
    | none => pr_I (P N) (some N) none
/-- an instruction begins at x; where a jump at p goes; a jump that goes to none -/
def BGi (D : Nat → Int) (L : Nat) (x : Int) : Prop := 0 ≤ x ∧ BGn D L x.toNat
def aim_S (D : Nat → Int) (p : Nat) : Int := (p : Int) + oq_s (oq_or (oq_shl (D (p + 1)) 8) (D (p + 2)))
def JBm (D : Nat → Int) (L p : Nat) : Prop := BGn D L p ∧ JMP (D p) ∧ ¬ BGi D L (aim_S D p)
/-- types that stand behind their count at p: where type j is, where they end; frame f of those counted at a -/
def tp_S (B : Nat → Int) (p : Nat) : Nat → Nat
  | 0 => p + 1
  | j + 1 => tp_S B p j + (if B (tp_S B p j) = 3 then 2 else 1)
def te_P (B : Nat → Int) (p : Nat) : Nat := tp_S B p (B p).toNat
def fp_S (B : Nat → Int) (a : Nat) : Nat → Nat
  | 0 => a + 1
  | f + 1 => te_P B (te_P B (fp_S B a f + 2))
/-- of method i: where frame f is, its place, how many; the first for place x -/
def fw_S (B : Nat → Int) (n i f : Nat) : Nat := fp_S B (mf_P B n i) f
def fv_S (B : Nat → Int) (n i f : Nat) : Int := ln_N B (fw_S B n i f)
def fn_S (B : Nat → Int) (n i : Nat) : Nat := (B (mf_P B n i)).toNat
noncomputable def fo_F (B : Nat → Int) (n i : Nat) (x : Int) : Option Nat := fs_F (fun f => fv_S B n i f = x) (fn_S B n i)
/-- the type told at p; local j and stack j of frame f, how many -/
noncomputable def tt_F (Bf : Nat → Nat → Int) (nf : Nat → Nat) (cnt : Int) (k p : Nat) : Int := if Bf k p = 0 then 304 else if Bf k p = 1 then 301 else if Bf k p = 2 then 300 else cq_F Bf nf cnt (Bf k) (nf k) (Bf k (p + 1))
def nl_S (B : Nat → Int) (n i f : Nat) : Int := B (fw_S B n i f + 2)
def nk_S (B : Nat → Int) (n i f : Nat) : Int := B (te_P B (fw_S B n i f + 2))
noncomputable def fl_F (Bf : Nat → Nat → Int) (nf : Nat → Nat) (cnt : Int) (k i f j : Nat) : Int := tt_F Bf nf cnt k (tp_S (Bf k) (fw_S (Bf k) (nf k) i f + 2) j)
noncomputable def fk_F (Bf : Nat → Nat → Int) (nf : Nat → Nat) (cnt : Int) (k i f j : Nat) : Int := tt_F Bf nf cnt k (tp_S (Bf k) (te_P (Bf k) (fw_S (Bf k) (nf k) i f + 2)) j)
/-- handler j of method i; how many -/
def hq_S (B : Nat → Int) (n i j : Nat) : Nat := mh_P B n i + 1 + 7 * j
def hn_S (B : Nat → Int) (n i : Nat) : Nat := (B (mh_P B n i)).toNat
/-- a type stands for another -/
def UNq (Bf : Nat → Nat → Int) (nf : Nat → Nat) (cnt x y : Int) : Prop := ∃ m : Nat, ch_F Bf nf cnt x m = y
def KFt (Bf : Nat → Nat → Int) (nf : Nat → Nat) (cnt x y : Int) : Prop := x = y ∨ (x = 300 ∧ 0 ≤ y ∧ y ≤ 200) ∨ ((0 ≤ x ∧ x < 16) ∧ (0 ≤ y ∧ y < 16) ∧ UNq Bf nf cnt x y) ∨ (y = 0 ∧ 100 ≤ x ∧ x ≤ 200) ∨ ((100 ≤ x ∧ x < 116) ∧ (100 ≤ y ∧ y < 116) ∧ UNq Bf nf cnt (x - 100) (y - 100))
def FTq (Bf : Nat → Nat → Int) (nf : Nat → Nat) (cnt x y : Int) : Prop := y = 304 ∨ KFt Bf nf cnt x y
/-- handler j is not right; frame f is not right -/
def HBd (Bf : Nat → Nat → Int) (nf : Nat → Nat) (cnt : Int) (k i j : Nat) : Prop := ¬ ((BGi (cd_S (Bf k) (nf k) i) (cl_N (Bf k) (nf k) i) (ln_N (Bf k) (hq_S (Bf k) (nf k) i j)) ∧ (BGi (cd_S (Bf k) (nf k) i) (cl_N (Bf k) (nf k) i) (ln_N (Bf k) (hq_S (Bf k) (nf k) i j + 2)) ∨ ln_N (Bf k) (hq_S (Bf k) (nf k) i j + 2) = (cl_N (Bf k) (nf k) i : Int)) ∧ ln_N (Bf k) (hq_S (Bf k) (nf k) i j) < ln_N (Bf k) (hq_S (Bf k) (nf k) i j + 2)) ∧ BGi (cd_S (Bf k) (nf k) i) (cl_N (Bf k) (nf k) i) (ln_N (Bf k) (hq_S (Bf k) (nf k) i j + 4)) ∧ (∃ f : Nat, fo_F (Bf k) (nf k) i (ln_N (Bf k) (hq_S (Bf k) (nf k) i j + 4)) = some f) ∧ KFt Bf nf cnt (cq_F Bf nf cnt (Bf k) (nf k) (Bf k (hq_S (Bf k) (nf k) i j + 6))) 1)
def FBd (Bf : Nat → Nat → Int) (nf : Nat → Nat) (cnt : Int) (k i f : Nat) : Prop := ¬ ((BGi (cd_S (Bf k) (nf k) i) (cl_N (Bf k) (nf k) i) (fv_S (Bf k) (nf k) i f) ∧ (if f = 0 then -1 else fv_S (Bf k) (nf k) i (f - 1)) < fv_S (Bf k) (nf k) i f) ∧ (nl_S (Bf k) (nf k) i f ≤ Bf k (ma_S (Bf k) (nf k) i + 4) ∧ nk_S (Bf k) (nf k) i f ≤ Bf k (ma_S (Bf k) (nf k) i + 3)) ∧ (∀ j : Nat, (j : Int) < nl_S (Bf k) (nf k) i f → ¬ fl_F Bf nf cnt k i f j = -1) ∧ ∀ j : Nat, (j : Int) < nk_S (Bf k) (nf k) i f → ¬ fk_F Bf nf cnt k i f j = -1)
/-- STATES: locals, stack, how many on it -/
abbrev ST3 : Type := (Nat → Int) × (Nat → Int) × Nat
def aPop (s : ST3) : Option (Int × ST3) := if s.2.2 = 0 then none else some (s.2.1 (s.2.2 - 1), (s.1, s.2.1, s.2.2 - 1))
def aU (mx : Int) (t : Int) (s : ST3) : Option ST3 := if (s.2.2 : Int) < mx then some (s.1, fun j => if j = s.2.2 then t else s.2.1 j, s.2.2 + 1) else none
noncomputable def aW (F : Int → Int → Prop) (t : Int) (s : ST3) : Option ST3 := (aPop s).bind (fun x => pr_I (F x.1 t) (some x.2) none)
def REf (x : Int) : Prop := x = 300 ∨ (0 ≤ x ∧ x ≤ 200)
noncomputable def aR (s : ST3) : Option (Int × ST3) := (aPop s).bind (fun x => pr_I (REf x.1) (some x) none)
def ARy (oi oc : Prop) (x : Int) : Prop := x = 300 ∨ (x = 200 ∧ oi) ∨ (¬ x = 200 ∧ oc ∧ 100 ≤ x ∧ x ≤ 200)
noncomputable def aA (oi oc : Prop) (s : ST3) : Option (Int × ST3) := (aPop s).bind (fun x => pr_I (ARy oi oc x.1) (some x) none)
noncomputable def aPs (F : Int → Int → Prop) (ty : Nat → Int) : Nat → ST3 → Option ST3
  | 0, s => some s
  | p + 1, s => (aW F (ty p) s).bind (aPs F ty p)
def aL (s : ST3) (a t : Int) : ST3 := (fun j => if (j : Int) = a then t else s.1 j, s.2.1, s.2.2)
/-- types of kinds: of a method's result, of its parameter j, of a field -/
noncomputable def rk_F (Bf : Nat → Nat → Int) (nf : Nat → Nat) (cnt : Int) (k : Nat) (t : Int) : Int := kq_F Bf nf cnt (Bf k) (ps_S (Bf k) (nf k) t (pm_S (Bf k) (nf k) t) + 1) (na_S (Bf k) (nf k) t + tl_S (Bf k) (nf k) t)
noncomputable def pk_F (Bf : Nat → Nat → Int) (nf : Nat → Nat) (cnt : Int) (k : Nat) (t : Int) (j : Nat) : Int := kq_F Bf nf cnt (Bf k) (ps_S (Bf k) (nf k) t j) (ps_S (Bf k) (nf k) t (j + 1))
noncomputable def fy_F (Bf : Nat → Nat → Int) (nf : Nat → Nat) (cnt : Int) (k : Nat) (t : Int) : Int := kq_F Bf nf cnt (Bf k) (na_S (Bf k) (nf k) t) (na_S (Bf k) (nf k) t + tl_S (Bf k) (nf k) t)
/-- the constant that an instruction names is right -/
def MBr (Bf : Nat → Nat → Int) (nf : Nat → Nat) (cnt : Int) (k : Nat) (op a : Int) : Prop := tg_S (Bf k) (nf k) a = 4 ∧ (0 ≤ cq_F Bf nf cnt (Bf k) (nf k) (pt_S (Bf k) (nf k) a 0) ∧ cq_F Bf nf cnt (Bf k) (nf k) (pt_S (Bf k) (nf k) a 0) < 16) ∧ ∃ (d : Int) (j : Nat), HFd Bf nf cnt k (pt_S (Bf k) (nf k) a 1) (if 182 ≤ op then 1 else 0) (cq_F Bf nf cnt (Bf k) (nf k) (pt_S (Bf k) (nf k) a 0)) d j ∧ TXq (Bf (d - 8).toNat) (nf (d - 8).toNat) (kt_S (Bf (d - 8).toNat) (nf (d - 8).toNat) j (if 182 ≤ op then 1 else 0)) (Bf k) (nf k) (pt_S (Bf k) (nf k) a 2) ∧ (182 ≤ op → Bf (d - 8).toNat (ma_S (Bf (d - 8).toNat) (nf (d - 8).toNat) j) = (if op = 184 then 1 else 0))
def CRt (Bf : Nat → Nat → Int) (nf : Nat → Nat) (cnt : Int) (k : Nat) (op a : Int) : Prop := (op = 18 → tg_S (Bf k) (nf k) a = 2) ∧ (op = 187 ∨ op = 189 ∨ op = 192 ∨ op = 193 → tg_S (Bf k) (nf k) a = 3 ∧ 0 ≤ cq_F Bf nf cnt (Bf k) (nf k) a ∧ cq_F Bf nf cnt (Bf k) (nf k) a < 16) ∧ (op = 188 → a = 10) ∧ (op = 180 ∨ op = 181 ∨ op = 182 ∨ op = 184 → MBr Bf nf cnt k op a)
/-- what an instruction makes of the state -/
def ARo (o : Int) : Prop := o = 96 ∨ o = 100 ∨ o = 104 ∨ o = 108 ∨ o = 112 ∨ o = 120 ∨ o = 122 ∨ o = 124 ∨ o = 126 ∨ o = 128 ∨ o = 130
noncomputable def ap_M (F : Int → Int → Prop) (mx rt : Int) (cl fy : Int) (pk : Nat → Int) (pm : Nat) (rk : Int) (op : Int) (s : ST3) : Option ST3 :=
  if op = 180 then (aW F cl s).bind (aU mx fy)
  else if op = 181 then (aW F fy s).bind (aW F cl)
  else if op = 182 then ((aPs F pk pm s).bind (aW F cl)).bind (fun s => if rk = 303 then some s else aU mx rk s)
  else (aPs F pk pm s).bind (fun s => if rk = 303 then some s else aU mx rk s)
noncomputable def ap_O (F : Int → Int → Prop) (mx : Int) (ca : Int) (op : Int) (s : ST3) : Option ST3 :=
  if op = 186 then aW F 301 s
  else if op = 187 then aU mx ca s
  else if op = 188 then (aW F 301 s).bind (aU mx 200)
  else if op = 189 then (aW F 301 s).bind (aU mx (100 + ca))
  else if op = 190 then (aA True True s).bind (fun x => aU mx 301 x.2)
  else if op = 191 then aW F 1 s
  else if op = 192 then (aR s).bind (fun x => aU mx ca x.2)
  else (aR s).bind (fun x => aU mx 301 x.2)
noncomputable def ap_R (F : Int → Int → Prop) (rt : Int) (op : Int) (s : ST3) : Option ST3 :=
  if op = 177 then (if rt = 303 then some s else none)
  else if op = 172 then (aW F 301 s).bind (fun s => if rt = 301 then some s else none)
  else (aW F rt s).bind (fun s => if rt = 301 ∨ rt = 303 then none else some s)
noncomputable def ap_A (F : Int → Int → Prop) (mx : Int) (op : Int) (s : ST3) : Option ST3 :=
  if op = 46 then ((aW F 301 s).bind (aA True False)).bind (fun x => aU mx 301 x.2)
  else if op = 50 then ((aW F 301 s).bind (aA False True)).bind (fun x => aU mx (if x.1 = 300 then 300 else x.1 - 100) x.2)
  else if op = 79 then (((aW F 301 s).bind (aW F 301)).bind (aA True False)).bind (fun x => some x.2)
  else if op = 83 then (((aR s).bind (fun x => aW F 301 x.2)).bind (aA False True)).bind (fun x => some x.2)
  else if op = 87 then (aPop s).bind (fun x => some x.2)
  else if op = 89 then (aPop s).bind (fun x => (aU mx x.1 x.2).bind (aU mx x.1))
  else if op = 116 then (aW F 301 s).bind (aU mx 301)
  else some s
noncomputable def ap_J (F : Int → Int → Prop) (op : Int) (s : ST3) : Option ST3 :=
  if op = 167 then some s
  else if op = 165 ∨ op = 166 then (aR s).bind (fun x => (aR x.2).bind (fun y => some y.2))
  else if op < 159 then aW F 301 s
  else (aW F 301 s).bind (aW F 301)
noncomputable def ap_L (F : Int → Int → Prop) (mx lc : Int) (op a : Int) (s : ST3) : Option ST3 :=
  if lc ≤ a then none
  else if op = 21 then pr_I (s.1 a.toNat = 301) (aU mx (s.1 a.toNat) s) none
  else if op = 25 then pr_I (REf (s.1 a.toNat)) (aU mx (s.1 a.toNat) s) none
  else if op = 54 then (aW F 301 s).bind (fun s => some (aL s a 301))
  else (aR s).bind (fun x => some (aL x.2 a x.1))
noncomputable def ap_F (Bf : Nat → Nat → Int) (nf : Nat → Nat) (cnt : Int) (k i : Nat) (op a : Int) (s : ST3) : Option ST3 :=
  if op = 1 then aU (Bf k (ma_S (Bf k) (nf k) i + 3)) 300 s
  else if (2 ≤ op ∧ op ≤ 8) ∨ op = 16 ∨ op = 18 then aU (Bf k (ma_S (Bf k) (nf k) i + 3)) 301 s
  else pr_I (ARo op) (((aW (FTq Bf nf cnt) 301 s).bind (aW (FTq Bf nf cnt) 301)).bind (aU (Bf k (ma_S (Bf k) (nf k) i + 3)) 301))
    (if op = 21 ∨ op = 25 ∨ op = 54 ∨ op = 58 then ap_L (FTq Bf nf cnt) (Bf k (ma_S (Bf k) (nf k) i + 3)) (Bf k (ma_S (Bf k) (nf k) i + 4)) op a s
    else pr_I (JMP op) (ap_J (FTq Bf nf cnt) op s)
      (if op < 172 then ap_A (FTq Bf nf cnt) (Bf k (ma_S (Bf k) (nf k) i + 3)) op s
      else if op < 180 then ap_R (FTq Bf nf cnt) (rk_F Bf nf cnt k (kt_S (Bf k) (nf k) i 1)) op s
      else if op ≤ 184 then ap_M (FTq Bf nf cnt) (Bf k (ma_S (Bf k) (nf k) i + 3)) (rk_F Bf nf cnt k (kt_S (Bf k) (nf k) i 1)) (cq_F Bf nf cnt (Bf k) (nf k) (pt_S (Bf k) (nf k) a 0)) (fy_F Bf nf cnt k (pt_S (Bf k) (nf k) a 2)) (pk_F Bf nf cnt k (pt_S (Bf k) (nf k) a 2)) (pm_S (Bf k) (nf k) (pt_S (Bf k) (nf k) a 2)) (rk_F Bf nf cnt k (pt_S (Bf k) (nf k) a 2)) op s
      else ap_O (FTq Bf nf cnt) (Bf k (ma_S (Bf k) (nf k) i + 3)) (cq_F Bf nf cnt (Bf k) (nf k) a) op s))
/-- the state fits frame f; its locals do; the state that frame f tells -/
def FLq (Bf : Nat → Nat → Int) (nf : Nat → Nat) (cnt : Int) (k i f : Nat) (s : ST3) : Prop := ∀ j : Nat, (j : Int) < nl_S (Bf k) (nf k) i f → FTq Bf nf cnt (s.1 j) (fl_F Bf nf cnt k i f j)
def FFt (Bf : Nat → Nat → Int) (nf : Nat → Nat) (cnt : Int) (k i f : Nat) (s : ST3) : Prop := FLq Bf nf cnt k i f s ∧ nk_S (Bf k) (nf k) i f = (s.2.2 : Int) ∧ ∀ j : Nat, j < s.2.2 → FTq Bf nf cnt (s.2.1 j) (fk_F Bf nf cnt k i f j)
noncomputable def tk_F (Bf : Nat → Nat → Int) (nf : Nat → Nat) (cnt : Int) (k i f : Nat) : ST3 := (fun j => if (j : Int) < nl_S (Bf k) (nf k) i f then fl_F Bf nf cnt k i f j else 304, fun j => fk_F Bf nf cnt k i f j, (nk_S (Bf k) (nf k) i f).toNat)
/-- handlers take what is thrown at p -/
def HDs (Bf : Nat → Nat → Int) (nf : Nat → Nat) (cnt : Int) (k i p : Nat) (s : ST3) (j : Nat) : Prop := ln_N (Bf k) (hq_S (Bf k) (nf k) i j) ≤ (p : Int) → (p : Int) < ln_N (Bf k) (hq_S (Bf k) (nf k) i j + 2) → ∃ f : Nat, fo_F (Bf k) (nf k) i (ln_N (Bf k) (hq_S (Bf k) (nf k) i j + 4)) = some f ∧ FLq Bf nf cnt k i f s ∧ nk_S (Bf k) (nf k) i f = 1 ∧ FTq Bf nf cnt (cq_F Bf nf cnt (Bf k) (nf k) (Bf k (hq_S (Bf k) (nf k) i j + 6))) (fk_F Bf nf cnt k i f 0)
/-- one instruction: the number that tells what is not right, or the state behind it -/
noncomputable def s3_F (Bf : Nat → Nat → Int) (nf : Nat → Nat) (cnt : Int) (k i p : Nat) (o : Option ST3) : Int ⊕ ST3 := match o with
  | none => .inl 12
  | some s => pr_I (JMP (cd_S (Bf k) (nf k) i p)) (match fo_F (Bf k) (nf k) i (aim_S (cd_S (Bf k) (nf k) i) p) with
    | none => .inl 12
    | some f => pr_I (FFt Bf nf cnt k i f s) (.inr s) (.inl 12)) (.inr s)
noncomputable def s2_F (Bf : Nat → Nat → Int) (nf : Nat → Nat) (cnt : Int) (k i p : Nat) (s : ST3) : Int ⊕ ST3 := pr_I (∀ j : Nat, j < hn_S (Bf k) (nf k) i → HDs Bf nf cnt k i p s j) (pr_I (CRt Bf nf cnt k (cd_S (Bf k) (nf k) i p) (cd_S (Bf k) (nf k) i (p + 1))) (s3_F Bf nf cnt k i p (ap_F Bf nf cnt k i (cd_S (Bf k) (nf k) i p) (cd_S (Bf k) (nf k) i (p + 1)) s)) (.inl 11)) (.inl 12)
noncomputable def s1_F (Bf : Nat → Nat → Int) (nf : Nat → Nat) (cnt : Int) (k i p : Nat) (rc : Int) (s : ST3) : Int ⊕ ST3 := match fo_F (Bf k) (nf k) i (p : Int) with
  | none => if rc = 0 then .inl 10 else s2_F Bf nf cnt k i p s
  | some f => if rc = 0 then s2_F Bf nf cnt k i p (tk_F Bf nf cnt k i f) else pr_I (FFt Bf nf cnt k i f s) (s2_F Bf nf cnt k i p (tk_F Bf nf cnt k i f)) (.inl 12)
/-- behind it the next is reached -/
def LSt (o : Int) : Int := if o = 167 ∨ o = 172 ∨ o = 176 ∨ o = 177 ∨ o = 191 then 0 else 1
noncomputable def sl_F (Bf : Nat → Nat → Int) (nf : Nat → Nat) (cnt : Int) (k i : Nat) : Nat → Nat → Int → ST3 → Option (Int × Int)
  | 0, _, _, _ => none
  | f + 1, p, rc, s => if cl_N (Bf k) (nf k) i ≤ p then (if rc = 0 then none else some (10, (cl_N (Bf k) (nf k) i : Int))) else match s1_F Bf nf cnt k i p rc s with
    | .inl c => some (c, (p : Int))
    | .inr s2 => sl_F Bf nf cnt k i f (p + (WD (cd_S (Bf k) (nf k) i p)).toNat) (LSt (cd_S (Bf k) (nf k) i p)) s2
noncomputable def bs_F (Bf : Nat → Nat → Int) (nf : Nat → Nat) (cnt : Int) (k i : Nat) : ST3 := (fun j => if Bf k (ma_S (Bf k) (nf k) i) = 0 then (if j = 0 then 8 + (k : Int) else if j - 1 < pm_S (Bf k) (nf k) (kt_S (Bf k) (nf k) i 1) then pk_F Bf nf cnt k (kt_S (Bf k) (nf k) i 1) (j - 1) else 304) else if j < pm_S (Bf k) (nf k) (kt_S (Bf k) (nf k) i 1) then pk_F Bf nf cnt k (kt_S (Bf k) (nf k) i 1) j else 304, fun _ => 304, 0)
/-- WHAT IS TOLD OF METHOD i OF CLASS k: nothing, or a number and where -/
noncomputable def mr_F (Bf : Nat → Nat → Int) (nf : Nat → Nat) (cnt : Int) (k i : Nat) : Option (Int × Int) := match fs_F (INo (cd_S (Bf k) (nf k) i) (cl_N (Bf k) (nf k) i)) (cl_N (Bf k) (nf k) i) with
  | some p => some (6, (p : Int))
  | none => match fs_F (JBm (cd_S (Bf k) (nf k) i) (cl_N (Bf k) (nf k) i)) (cl_N (Bf k) (nf k) i) with
    | some p => some (7, (p : Int))
    | none => match fs_F (HBd Bf nf cnt k i) (hn_S (Bf k) (nf k) i) with
      | some j => some (8, (j : Int))
      | none => match fs_F (FBd Bf nf cnt k i) (fn_S (Bf k) (nf k) i) with
        | some f => some (9, (f : Int))
        | none => sl_F Bf nf cnt k i (cl_N (Bf k) (nf k) i + 1) 0 1 (bs_F Bf nf cnt k i)
/-- one of these looks: none is bad, or the first is told by c -/
def FNx (P : Nat → Prop) (N : Nat) (c u pl : Int) : Prop := (u = 0 ∧ fs_F P N = none) ∨ (∃ p : Nat, u = c ∧ fs_F P N = some p ∧ pl = (p : Int))
section
variable {P : Nat → Prop} {N p : Nat} {D : Nat → Int} {L : Nat} {α : Type} {R : Prop} {a b : α}
theorem pr_t (h : R) : pr_I R a b = a := by unfold pr_I; exact if_pos h
theorem pr_f (h : ¬ R) : pr_I R a b = b := by unfold pr_I; exact if_neg h
theorem fs_z : (∀ q : Nat, q < N → ¬ P q) → fs_F P N = none := by
  induction N with
  | zero => intro _; rfl
  | succ N ih =>
    intro h
    have e := ih (fun q hq => h q (by omega))
    show (match fs_F P N with | some p => some p | none => pr_I (P N) (some N) none) = none
    rw [e]
    exact pr_f (h N (by omega))
theorem fs_s (hp : p < N) (h : P p) (hq : ∀ q : Nat, q < p → ¬ P q) : fs_F P N = some p := by
  induction N with
  | zero => exact absurd hp (by omega)
  | succ N ih =>
    show (match fs_F P N with | some p => some p | none => pr_I (P N) (some N) none) = some p
    by_cases e : p = N
    · rw [fs_z (fun q z => hq q (by omega))]
      rw [e] at h ⊢
      exact pr_t h
    · rw [ih (by omega)]
theorem fs_i : (fs_F P N = none ∧ ∀ q : Nat, q < N → ¬ P q) ∨ ∃ p : Nat, fs_F P N = some p ∧ p < N ∧ P p ∧ ∀ q : Nat, q < p → ¬ P q := by
  by_cases q : ∃ p : Nat, p < N ∧ P p
  · obtain ⟨p, p1, p2, p3⟩ := le_ast _ q
    exact .inr ⟨p, fs_s p1 p2 p3, p1, p2, p3⟩
  · have z : ∀ p : Nat, p < N → ¬ P p := fun p hp y => q ⟨p, hp, y⟩
    exact .inl ⟨fs_z z, z⟩
theorem fs_o (e : fs_F P N = some p) : p < N ∧ P p ∧ ∀ q : Nat, q < p → ¬ P q := by
  rcases fs_i (P := P) (N := N) with ⟨z, _⟩ | ⟨x, z, z1⟩
  · rw [z] at e; exact nomatch e
  · rw [z] at e
    have : x = p := Option.some.inj e
    rw [← this]; exact z1
theorem fs_e (e : fs_F P N = none) : ∀ q : Nat, q < N → ¬ P q := by
  rcases fs_i (P := P) (N := N) with ⟨_, z⟩ | ⟨x, z, _⟩
  · exact z
  · rw [z] at e; exact nomatch e
theorem bgn_lt (A : BGn D L p) : p < L := by
  obtain ⟨_, _, _, z⟩ := A
  exact z
theorem bgn_wd (E : IOk D L) (A : BGn D L p) : 0 < WD (D p) ∧ (p : Int) + WD (D p) ≤ (L : Int) := by
  obtain ⟨t, t1, t2⟩ := E
  obtain ⟨x, x1, x2⟩ := (bgn_iff t1 t2).1 A
  have := t1 x x1
  rw [x2] at this
  exact this.2
theorem wd_jmp {o : Int} (j : JMP o) : WD o = 3 := by
  unfold JMP at j
  rcases (show o = 153 ∨ o = 154 ∨ o = 159 ∨ o = 160 ∨ o = 161 ∨ o = 162 ∨ o = 163 ∨ o = 164 ∨ o = 165 ∨ o = 166 ∨ o = 167 by omega) with e | e | e | e | e | e | e | e | e | e | e
  all_goals (rw [e]; decide)
theorem pin_fn {u pl : Int} (A : (u = 0 ∧ IOk D L) ∨ (u = 6 ∧ ∃ p : Nat, INo D L p ∧ pl = (p : Int))) : FNx (INo D L) L 6 u pl := by
  rcases A with ⟨a, c⟩ | ⟨a, p, c, e⟩
  · exact .inl ⟨a, fs_z (fun q _ z => ino_ok z c)⟩
  · refine .inr ⟨p, a, fs_s ?_ c (fun q hq z => absurd (ino_u z c) (by omega)), e⟩
    obtain ⟨_, _, _, z, _⟩ := c
    exact z
end
end
section
/- VERIFY: a method of the class: rows told, code, beginnings, jumps -/
/-- the class's memory while it looks at method i of image k -/
def CMe (Bf : Nat → Nat → Int) (nf : Nat → Nat) (k i : Nat) (h : ms_M) : Prop := CSw Bf nf h ∧ (i : Int) < mc_S (Bf k) (nf k) ∧ (k : Int) < h 56 3 ∧ h 127 5 = h 60 k ∧ h 127 6 = (i : Int)
/-- what stays as long as cells 128 to 135 and these fields are written alone -/
def CKe (h g : ms_M) : Prop := ∀ x j : Nat, ¬ (128 ≤ x ∧ x ≤ 135) → ¬ (x = 127 ∧ (j = 7 ∨ (16 ≤ j ∧ j ≤ 20))) → g x j = h x j
/-- the marks of the class -/
def MKb (D : Nat → Int) (L : Nat) (h : ms_M) : Prop := ∀ p : Nat, p < L → (BGn D L p ∧ ¬ h 132 p = -2) ∨ (¬ BGn D L p ∧ h 132 p = -2)
section
variable {nn : Nat} {Bf : Nat → Nat → Int} {nf : Nat → Nat} {cnt : Int} {B C D : Nat → Int} {n m b d k o i L : Nat} {M h g r h0 : ms_M} {t c : Int}
theorem cke_r : CKe h h := fun _ _ _ _ => rfl
theorem cke_t (A : CKe h g) (E : CKe g r) : CKe h r := fun x j z1 z2 => (E x j z1 z2).trans (A x j z1 z2)
theorem cme_k (C : CMe Bf nf k i h) (A : CKe h g) : CMe Bf nf k i g := by
  obtain ⟨c1, c2, c3, c4, c5⟩ := C
  refine ⟨csw_k c1 (fun c j _ z => A c j (by omega) (by omega)), c2, ?_, ?_, ?_⟩
  · rw [A 56 3 (by omega) (by omega)]; exact c3
  · rw [A 127 5 (by omega) (by omega), A 60 k (by omega) (by omega)]; exact c4
  · rw [A 127 6 (by omega) (by omega)]; exact c5
theorem cme_n6 (C : CMe Bf nf k i h) : nf k ≤ 6000 := (C.1.1.2 k C.2.2.1).1.1.2.1
theorem cme_J (C : CMe Bf nf k i h) : sr_I h (h 60 k).toNat (Bf k) (nf k) := (C.1.1.2 k C.2.2.1).1.1
theorem cme_g (C : CMe Bf nf k i h) : GIM (Bf k) (nf k) := (cg_im (C.1.1.2 k C.2.2.1)).1
theorem cme_m (C : CMe Bf nf k i h) : GMt (Bf k) (nf k) i := (cme_g C).2.2.2 i C.2.1
theorem cme_l (C : CMe Bf nf k i h) : (ln_N (Bf k) (ma_S (Bf k) (nf k) i + 5) = (cl_N (Bf k) (nf k) i : Int)) ∧ 1 ≤ cl_N (Bf k) (nf k) i ∧ cl_N (Bf k) (nf k) i ≤ 1500 ∧ mh_P (Bf k) (nf k) i = ma_S (Bf k) (nf k) i + 7 + cl_N (Bf k) (nf k) i ∧ mh_P (Bf k) (nf k) i < nf k := by
  have l1 := (cme_m C).2.2.2.1
  unfold cl_N
  exact ⟨by omega, by omega, by omega, l1.2.1, l1.2.2⟩
theorem cme_b (C : CMe Bf nf k i h) {p : Nat} (hp : p < nf k) : 0 ≤ Bf k p ∧ Bf k p ≤ 255 := by_rg C.1.1 C.2.2.1 hp
/-- rows told -/
theorem vc_info (C : CMe Bf nf k i h) {w x : Int} (hw : 0 ≤ w ∧ w ≤ 11) (ex : h ((h 60 k).toNat + 6) (12 * (i : Int) + w).toNat = x) : Pc (qf_X11_info nn w h) (fun u => u = x) := by
  obtain ⟨c1, c2, c3, c4, c5⟩ := C
  unfold qf_X11_info
  rw [c4, c5]
  refine pc_ck (fun _ => pc_ck (fun _ => ?_))
  refine pc_sv (vq_of (nn := nn) (c1.1.2 k c3) c2 hw ex) ?_; intro u4 q4
  exact pc_ret q4
theorem cme_d (C : CMe Bf nf k i h) : MDt (h 60 k).toNat (Bf k) (nf k) (12 * (i : Int)) (ma_S (Bf k) (nf k) i) (mh_P (Bf k) (nf k) i) (mf_P (Bf k) (nf k) i) h := (cg_im (C.1.1.2 k C.2.2.1)).2.2.2 i C.2.1
/-- bytes of the image -/
theorem vc_byte (C : CMe Bf nf k i h) {p : Nat} (hp : p < nf k) : Pc (qf_X3_byteAt nn (h 60 k).toNat (p : Int) h) (fun u => u = Bf k p) := fun u eu => by
  rw [byteAt_in (cme_J C) hp] at eu; exact (Option.some.inj eu).symm
theorem vc_pair (C : CMe Bf nf k i h) {p : Nat} (hp : p + 1 < nf k) : Pc (qf_X3_pairAt nn (h 60 k).toNat (p : Int) h) (fun u => u = ln_N (Bf k) p) := by
  have n6 := cme_n6 C
  unfold qf_X3_pairAt
  refine pc_sv (vc_byte C (p := p) (by omega)) ?_; intro u2 q2
  refine pc_xl ?_; intro v3 e3
  refine pc_add (by omega) ?_; intro v4 e4
  rw [show v4 = ((p + 1 : Nat) : Int) by omega]
  refine pc_sv (vc_byte C (p := p + 1) hp) ?_; intro u6 q6
  refine pc_xl ?_; intro v7 e7
  refine pc_ret ?_
  show v7 = oq_or (oq_shl (Bf k p) 8) (Bf k (p + 1))
  rw [e7, e3, q2, q6]
theorem cme_p (C : CMe Bf nf k i h) {p : Nat} (hp : p + 1 < nf k) : 0 ≤ ln_N (Bf k) p ∧ ln_N (Bf k) p ≤ 65535 := lnr_S (cme_J C) hp
/-- the code, and one byte behind it -/
theorem vc_codeL (C : CMe Bf nf k i h) {p : Nat} (hp : p ≤ cl_N (Bf k) (nf k) i) : Pc (qf_X11_codeAt nn (p : Int) h) (fun u => u = cd_S (Bf k) (nf k) i p ∧ 0 ≤ u ∧ u ≤ 255) := by
  have n6 := cme_n6 C
  obtain ⟨l1, l2, l3, l4, l5⟩ := cme_l C
  unfold qf_X11_codeAt
  refine pc_ck (fun _ => ?_)
  refine pc_sv (vc_info C (w := 6) (by decide) (cme_d C).2.1.2) ?_; intro u3 q3
  refine pc_add (by omega) ?_; intro v4 e4
  rw [C.2.2.2.1]
  refine pc_ck (fun _ => ?_)
  rw [show v4 = ((ma_S (Bf k) (nf k) i + 7 + p : Nat) : Int) by omega]
  refine pc_sv (vc_byte C (by omega)) ?_; intro u6 q6
  have rg := cme_b C (p := ma_S (Bf k) (nf k) i + 7 + p) (by omega)
  refine pc_ret ⟨q6, ?_, ?_⟩
  · rw [q6]; exact rg.1
  · rw [q6]; exact rg.2
theorem vc_begins (e16 : h 127 16 = (L : Int)) (MK : MKb D L h) {x : Int} : Pc (qf_X11_begins nn x h) (fun u => (u = 1 ∧ BGi D L x) ∨ (u = 0 ∧ ¬ BGi D L x)) := by
  unfold qf_X11_begins
  refine pc_if (fun z => pc_ret (.inr ⟨rfl, fun w => absurd w.1 (by omega)⟩)) (fun z => ?_)
  rw [e16]
  refine pc_if (fun y => pc_ret (.inr ⟨rfl, fun w => ?_⟩)) (fun y => ?_)
  · have := bgn_lt w.2
    omega
  refine pc_rA ?_; intro _ _ v3 e3
  have q := MK x.toNat (by omega)
  refine pc_if (fun w => pc_ret (.inr ⟨rfl, fun v => ?_⟩)) (fun w => pc_ret (.inl ⟨rfl, by omega, ?_⟩))
  · rcases q with q | q
    · exact q.2 (by rw [← e3]; exact w)
    · exact q.1 v.2
  · rcases q with q | q
    · exact q.1
    · exact absurd (e3.trans q.2) w
theorem vc_aim (C : CMe Bf nf k i h) {p : Nat} (hp : p + 2 < cl_N (Bf k) (nf k) i) : Pc (qf_X11_aimOf nn (p : Int) h) (fun u => u = aim_S (cd_S (Bf k) (nf k) i) p) := by
  obtain ⟨l1, l2, l3, l4, l5⟩ := cme_l C
  unfold qf_X11_aimOf
  refine pc_add (by omega) ?_; intro v1 e1
  rw [show v1 = ((p + 1 : Nat) : Int) by omega]
  refine pc_sv (vc_codeL C (p := p + 1) (by omega)) ?_; intro u3 q3
  refine pc_xl ?_; intro v4 e4
  refine pc_add (by omega) ?_; intro v5 e5
  rw [show v5 = ((p + 2 : Nat) : Int) by omega]
  refine pc_sv (vc_codeL C (p := p + 2) (by omega)) ?_; intro u7 q7
  refine pc_xl ?_; intro v8 e8
  refine pc_xl ?_; intro v9 e9
  have r9 := oq_s_rg (v := v8)
  refine pc_add (by omega) ?_; intro v10 e10
  refine pc_ret ?_
  show v10 = (p : Int) + oq_s (oq_or (oq_shl (cd_S (Bf k) (nf k) i (p + 1)) 8) (cd_S (Bf k) (nf k) i (p + 2)))
  rw [e10, e9, e8, e4, q3.1, q7.1]
theorem vc_at {c p : Int} : Pc (qf_X11_at nn c p h) (fun u => u.1 = c ∧ u.2 = up_M h 127 7 p) := by
  unfold qf_X11_at
  exact pc_xl (fun h1 e1 => pc_ret ⟨rfl, e1⟩)
/-- PROVE JUMPS, the class -/
theorem vc_j2 (C : CMe Bf nf k i h) (IO : IOk (cd_S (Bf k) (nf k) i) (cl_N (Bf k) (nf k) i)) (e16 : h 127 16 = (cl_N (Bf k) (nf k) i : Int)) (MK : MKb (cd_S (Bf k) (nf k) i) (cl_N (Bf k) (nf k) i) h) : ∀ (f p : Nat), (∀ q : Nat, q < p → ¬ JBm (cd_S (Bf k) (nf k) i) (cl_N (Bf k) (nf k) i) q) → Pc (qw_X11_proveJumps_2 nn f (p : Int) h) (fun u => (∀ x j : Nat, ¬ (x = 127 ∧ j = 7) → u.2 x j = h x j) ∧ FNx (JBm (cd_S (Bf k) (nf k) i) (cl_N (Bf k) (nf k) i)) (cl_N (Bf k) (nf k) i) 7 u.1 (u.2 127 7)) := by
  obtain ⟨l1, l2, l3, l4, l5⟩ := cme_l C
  intro f
  induction f with
  | zero => intro p _; exact pc_none
  | succ f ih =>
    intro p A
    unfold qw_X11_proveJumps_2
    rw [e16]
    refine pc_if (fun z => pc_ret ⟨fun _ _ _ => rfl, .inl ⟨rfl, fs_z (fun q hq => A q (by omega))⟩⟩) (fun z => ?_)
    have NX : ¬ JBm (cd_S (Bf k) (nf k) i) (cl_N (Bf k) (nf k) i) p → ∀ v : Int, v = (p : Int) + 1 → Pc (qw_X11_proveJumps_2 nn f v h) (fun u => (∀ x j : Nat, ¬ (x = 127 ∧ j = 7) → u.2 x j = h x j) ∧ FNx (JBm (cd_S (Bf k) (nf k) i) (cl_N (Bf k) (nf k) i)) (cl_N (Bf k) (nf k) i) 7 u.1 (u.2 127 7)) := fun w v ev => by
      rw [ev, show (p : Int) + 1 = ((p + 1 : Nat) : Int) by omega]
      refine ih (p + 1) (fun q hq => ?_)
      by_cases e : q = p
      · rw [e]; exact w
      · exact A q (by omega)
    refine pc_sv (vc_begins e16 MK (x := (p : Int))) ?_; intro u3 q3
    refine pc_if (fun y => pc_add (by omega) (fun v e => NX (fun w => ?_) v e)) (fun y => ?_)
    · rcases q3 with q | q
      · omega
      · exact q.2 ⟨by omega, by rw [Int.toNat_natCast]; exact w.1⟩
    have bg : BGn (cd_S (Bf k) (nf k) i) (cl_N (Bf k) (nf k) i) p := by
      rcases q3 with q | q
      · have := q.2.2
        rw [Int.toNat_natCast] at this; exact this
      · exact absurd q.1 y
    refine pc_sv (vc_codeL C (p := p) (by omega)) ?_; intro u6 ⟨q6, _⟩
    rw [q6]
    refine pc_sv pv_jump ?_; intro u7 q7
    refine pc_if (fun y7 => pc_add (by omega) (fun v e => NX (fun w => ?_) v e)) (fun y7 => ?_)
    · rcases q7 with q | q
      · omega
      · exact q.2 w.2.1
    have jm : JMP (cd_S (Bf k) (nf k) i p) := by
      rcases q7 with q | q
      · exact q.2
      · exact absurd q.1 y7
    have wd := (bgn_wd IO bg).2
    rw [wd_jmp jm] at wd
    refine pc_sv (vc_aim C (p := p) (by omega)) ?_; intro u10 q10
    rw [q10]
    refine pc_sv (vc_begins e16 MK (x := aim_S (cd_S (Bf k) (nf k) i) p)) ?_; intro u12 q12
    refine pc_if (fun y12 => pc_add (by omega) (fun v e => NX (fun w => ?_) v e)) (fun y12 => ?_)
    · rcases q12 with q | q
      · exact w.2.2 q.2
      · exact y12 q.1
    have nb : ¬ BGi (cd_S (Bf k) (nf k) i) (cl_N (Bf k) (nf k) i) (aim_S (cd_S (Bf k) (nf k) i) p) := by
      rcases q12 with q | q
      · omega
      · exact q.2
    refine pc_sv vc_at ?_; intro u15 ⟨r1, r2⟩
    refine pc_ret ⟨fun x j w => ?_, .inr ⟨p, r1, fs_s (by omega) ⟨bg, jm, nb⟩ A, ?_⟩⟩
    · show u15.2 x j = h x j
      rw [r2, up_n w]
    · show u15.2 127 7 = _
      rw [r2, up_s]
theorem vc_jumps (C : CMe Bf nf k i h) (IO : IOk (cd_S (Bf k) (nf k) i) (cl_N (Bf k) (nf k) i)) (e16 : h 127 16 = (cl_N (Bf k) (nf k) i : Int)) (MK : MKb (cd_S (Bf k) (nf k) i) (cl_N (Bf k) (nf k) i) h) : Pc (qf_X11_proveJumps nn h) (fun u => (∀ x j : Nat, ¬ (x = 127 ∧ j = 7) → u.2 x j = h x j) ∧ FNx (JBm (cd_S (Bf k) (nf k) i) (cl_N (Bf k) (nf k) i)) (cl_N (Bf k) (nf k) i) 7 u.1 (u.2 127 7)) := by
  unfold qf_X11_proveJumps
  exact vc_j2 C IO e16 MK nn 0 (fun q hq => absurd hq (by omega))
end
end
section
/- VERIFY: a method, the reference's side: instructions, jumps -/
/-- the reference's memory while it looks at method i of class k -/
def RMe (Bf : Nat → Nat → Int) (nf : Nat → Nat) (cnt : Int) (k i : Nat) (h : ms_M) : Prop := (NKn Bf nf cnt ∧ RSv Bf nf h ∧ h 160 98 = cnt ∧ 0 ≤ h 160 117) ∧ ((k : Int) < cnt ∧ (i : Int) < mc_S (Bf k) (nf k)) ∧ (h 160 132 = (k : Int) ∧ h 160 133 = (i : Int) ∧ h 160 134 = ((ma_S (Bf k) (nf k) i + 7 : Nat) : Int) ∧ h 160 135 = (cl_N (Bf k) (nf k) i : Int)) ∧ h 160 130 = Bf k (ma_S (Bf k) (nf k) i + 3) ∧ h 160 129 = Bf k (ma_S (Bf k) (nf k) i + 4)
/-- what a method's look may write; what it may write behind the beginnings -/
def RKm (h g : ms_M) : Prop := ∀ x j : Nat, ¬ (x = 160 ∧ 117 ≤ j ∧ j ≤ 136) → ¬ (240 ≤ x ∧ x ≤ 245) → g x j = h x j
def RKe (h g : ms_M) : Prop := (∀ x j : Nat, ¬ (x = 160 ∧ ((117 ≤ j ∧ j ≤ 121) ∨ j = 131 ∨ j = 136)) → ¬ (240 ≤ x ∧ x ≤ 241) → ¬ (243 ≤ x ∧ x ≤ 245) → g x j = h x j) ∧ (0 ≤ h 160 117 → 0 ≤ g 160 117)
def RM0 (Bf : Nat → Nat → Int) (nf : Nat → Nat) (cnt : Int) (k i : Nat) (h0 h : ms_M) : Prop := RMe Bf nf cnt k i h ∧ RKm h0 h ∧ SWy h0 h
/-- the beginnings -/
def RBg (D : Nat → Int) (L : Nat) (h : ms_M) : Prop := ∀ p : Nat, p < 1501 → (h 242 p = 1 ∧ BGn D L p) ∨ (h 242 p = 0 ∧ ¬ BGn D L p)
/-- what methodFits gives -/
def RMF (Bf : Nat → Nat → Int) (nf : Nat → Nat) (cnt : Int) (k i : Nat) (h0 : ms_M) (u : Int × ms_M) : Prop := RKm h0 u.2 ∧ 0 ≤ u.2 160 117 ∧ ((u.1 = 1 ∧ mr_F Bf nf cnt k i = none ∧ SWy h0 u.2) ∨ (u.1 = 0 ∧ ∃ c p : Int, mr_F Bf nf cnt k i = some (c, p) ∧ u.2 160 122 = c ∧ u.2 160 123 = 8 + (k : Int) ∧ u.2 160 124 = (i : Int) ∧ u.2 160 125 = p))
section
variable {nn : Nat} {Bf : Nat → Nat → Int} {nf : Nat → Nat} {cnt : Int} {B C D : Nat → Int} {n m b d k o i L : Nat} {M h g r h0 : ms_M} {t c : Int}
theorem rkm_r : RKm h h := fun _ _ _ _ => rfl
theorem rkm_t (A : RKm h g) (E : RKm g r) : RKm h r := fun x j z1 z2 => (E x j z1 z2).trans (A x j z1 z2)
theorem rke_r : RKe h h := ⟨fun _ _ _ _ _ => rfl, fun z => z⟩
theorem rke_t (A : RKe h g) (E : RKe g r) : RKe h r := ⟨fun x j z1 z2 z3 => (E.1 x j z1 z2 z3).trans (A.1 x j z1 z2 z3), fun z => E.2 (A.2 z)⟩
theorem rke_o (A : OTH h g) : RKe h g := ⟨fun x j z1 z2 z3 => A.1 x j (by omega) (by omega) (by omega), A.2⟩
theorem rke_m (A : RKe h g) : RKm h g := fun x j z1 z2 => A.1 x j (by omega) (by omega) (by omega)
theorem rme_k (R : RMe Bf nf cnt k i h) (A : ∀ x j : Nat, ¬ (x = 160 ∧ ((117 ≤ j ∧ j ≤ 121) ∨ j = 131 ∨ j = 136)) → ¬ (240 ≤ x ∧ x ≤ 245) → g x j = h x j) (z : 0 ≤ g 160 117) : RMe Bf nf cnt k i g := by
  obtain ⟨⟨r1, r2, r3, r4⟩, r5, ⟨r6, r7, r8, r9⟩, r10, r11⟩ := R
  refine ⟨⟨r1, rsv_k r2 (fun x j w => A x j (by omega) (by omega)) (A 160 98 (by omega) (by omega)), ?_, z⟩, r5, ⟨?_, ?_, ?_, ?_⟩, ?_, ?_⟩
  · rw [A 160 98 (by omega) (by omega)]; exact r3
  · rw [A 160 132 (by omega) (by omega)]; exact r6
  · rw [A 160 133 (by omega) (by omega)]; exact r7
  · rw [A 160 134 (by omega) (by omega)]; exact r8
  · rw [A 160 135 (by omega) (by omega)]; exact r9
  · rw [A 160 130 (by omega) (by omega)]; exact r10
  · rw [A 160 129 (by omega) (by omega)]; exact r11
theorem rme_e (R : RMe Bf nf cnt k i h) (A : RKe h g) : RMe Bf nf cnt k i g := rme_k R (fun x j z1 z2 => A.1 x j z1 (by omega) (by omega)) (A.2 R.1.2.2.2)
theorem swy_e (A : RKe h g) : SWy h g := ⟨A.1 _ _ (by omega) (by omega) (by omega), A.1 _ _ (by omega) (by omega) (by omega), A.1 _ _ (by omega) (by omega) (by omega), A.1 _ _ (by omega) (by omega) (by omega)⟩
theorem rm0_e (R : RM0 Bf nf cnt k i h0 h) (A : RKe h g) : RM0 Bf nf cnt k i h0 g := ⟨rme_e R.1 A, rkm_t R.2.1 (rke_m A), swy_t R.2.2 (swy_e A)⟩
theorem rm0_2 (R : RM0 Bf nf cnt k i h0 h) {p : Nat} {v : Int} (e : g = up_M h 242 p v) : RM0 Bf nf cnt k i h0 g := by
  have A : ∀ x j : Nat, ¬ x = 242 → g x j = h x j := fun x j z => by rw [e, up_n (by omega)]
  refine ⟨rme_k R.1 (fun x j z1 z2 => A x j (by omega)) (by rw [A 160 117 (by omega)]; exact R.1.1.2.2.2), rkm_t R.2.1 (fun x j z1 z2 => A x j (by omega)), swy_t R.2.2 ⟨A _ _ (by omega), A _ _ (by omega), A _ _ (by omega), A _ _ (by omega)⟩⟩
theorem rbg_e (R : RBg D L h) (A : RKe h g) : RBg D L g := fun p hp => by rw [A.1 242 p (by omega) (by omega) (by omega)]; exact R p hp
theorem rme_hk (R : RMe Bf nf cnt k i h) : (k : Int) < h 160 98 := by
  have := R.2.1.1
  have := R.1.2.2.1
  omega
theorem rme_n6 (R : RMe Bf nf cnt k i h) : nf k ≤ 6000 ∧ k < 8 := tb_n6 R.1.2.1 (rme_hk R)
theorem rme_g (R : RMe Bf nf cnt k i h) : GIM (Bf k) (nf k) := (rg_im (R.1.2.1.2 k (rme_hk R))).1
theorem rme_m (R : RMe Bf nf cnt k i h) : GMt (Bf k) (nf k) i := (rme_g R).2.2.2 i R.2.1.2
theorem rme_b (R : RMe Bf nf cnt k i h) {p : Nat} (hp : p < nf k) : 0 ≤ Bf k p ∧ Bf k p ≤ 255 := (R.1.2.1.2 k (rme_hk R)).1.2.2.2 p hp
theorem rme_t (R : RMe Bf nf cnt k i h) : h 235 (12 * (k : Int) + i).toNat = (ma_S (Bf k) (nf k) i : Int) ∧ h 236 (12 * (k : Int) + i).toNat = (mh_P (Bf k) (nf k) i : Int) ∧ h 237 (12 * (k : Int) + i).toNat = (mf_P (Bf k) (nf k) i : Int) := (rg_im (R.1.2.1.2 k (rme_hk R))).2.2.2 i R.2.1.2
theorem rme_i (R : RMe Bf nf cnt k i h) : (i : Int) < 12 := by
  have := (rme_g R).2.2.1
  have := R.2.1.2
  omega
theorem rme_l (R : RMe Bf nf cnt k i h) : (ln_N (Bf k) (ma_S (Bf k) (nf k) i + 5) = (cl_N (Bf k) (nf k) i : Int)) ∧ 1 ≤ cl_N (Bf k) (nf k) i ∧ cl_N (Bf k) (nf k) i ≤ 1500 ∧ mh_P (Bf k) (nf k) i = ma_S (Bf k) (nf k) i + 7 + cl_N (Bf k) (nf k) i ∧ mh_P (Bf k) (nf k) i < nf k := by
  have l1 := (rme_m R).2.2.2.1
  unfold cl_N
  exact ⟨by omega, by omega, by omega, l1.2.1, l1.2.2⟩
theorem vr_byte (R : RMe Bf nf cnt k i h) {p : Nat} (hp : p < nf k) : Pc (qf_X13_byteAt nn (h 160 132) (p : Int) h) (fun u => u = Bf k p) := by
  rw [R.2.2.1.1]
  exact vq_rbyte R.1.2.1 (rme_hk R) hp
theorem lnb_rg {p : Nat} (a : 0 ≤ B p ∧ B p ≤ 255) (b : 0 ≤ B (p + 1) ∧ B (p + 1) ≤ 255) : 0 ≤ ln_N B p ∧ ln_N B p ≤ 65535 := by
  unfold ln_N
  rw [oq_shl_8 a]
  exact oq_or_rg (by omega) (by omega)
theorem rme_p (R : RMe Bf nf cnt k i h) {p : Nat} (hp : p + 1 < nf k) : 0 ≤ ln_N (Bf k) p ∧ ln_N (Bf k) p ≤ 65535 := lnb_rg (rme_b R (by omega)) (rme_b R hp)
theorem vr_pair (R : RMe Bf nf cnt k i h) {p : Nat} (hp : p + 1 < nf k) : Pc (qf_X13_pairIn nn (p : Int) h) (fun u => u = ln_N (Bf k) p) := by
  have n6 := rme_n6 R
  unfold qf_X13_pairIn
  refine pc_sv (vr_byte R (p := p) (by omega)) ?_; intro u3 q3
  refine pc_xl ?_; intro v4 e4
  refine pc_add (by omega) ?_; intro v6 e6
  rw [show v6 = ((p + 1 : Nat) : Int) by omega]
  refine pc_sv (vr_byte R (p := p + 1) hp) ?_; intro u8 q8
  refine pc_xl ?_; intro v9 e9
  refine pc_ret ?_
  show v9 = oq_or (oq_shl (Bf k p) 8) (Bf k (p + 1))
  rw [e9, e4, q3, q8]
theorem vr_code (R : RMe Bf nf cnt k i h) {p : Nat} (hp : p ≤ cl_N (Bf k) (nf k) i) : Pc (qf_X13_code nn (p : Int) h) (fun u => u = cd_S (Bf k) (nf k) i p) := by
  have n6 := rme_n6 R
  obtain ⟨l1, l2, l3, l4, l5⟩ := rme_l R
  have e134 := R.2.2.1.2.2.1
  unfold qf_X13_code
  refine pc_add (by omega) ?_; intro v3 e3
  rw [show v3 = ((ma_S (Bf k) (nf k) i + 7 + p : Nat) : Int) by omega]
  refine pc_sv (vr_byte R (by omega)) ?_; intro u5 q5
  exact pc_ret q5
theorem vr_aim (R : RMe Bf nf cnt k i h) {p : Nat} (hp : p + 2 < cl_N (Bf k) (nf k) i) : Pc (qf_X13_aimOf nn (p : Int) h) (fun u => u = aim_S (cd_S (Bf k) (nf k) i) p) := by
  obtain ⟨l1, l2, l3, l4, l5⟩ := rme_l R
  unfold qf_X13_aimOf
  refine pc_add (by omega) ?_; intro v1 e1
  rw [show v1 = ((p + 1 : Nat) : Int) by omega]
  refine pc_sv (vr_code R (p := p + 1) (by omega)) ?_; intro u3 q3
  refine pc_xl ?_; intro v4 e4
  refine pc_add (by omega) ?_; intro v5 e5
  rw [show v5 = ((p + 2 : Nat) : Int) by omega]
  refine pc_sv (vr_code R (p := p + 2) (by omega)) ?_; intro u7 q7
  refine pc_xl ?_; intro v8 e8
  refine pc_xl ?_; intro v9 e9
  have r9 := oq_s_rg (v := v8)
  refine pc_add (by omega) ?_; intro v10 e10
  refine pc_ret ?_
  show v10 = (p : Int) + oq_s (oq_or (oq_shl (cd_S (Bf k) (nf k) i (p + 1)) 8) (cd_S (Bf k) (nf k) i (p + 2)))
  rw [e10, e9, e8, e4, q3, q7]
theorem vr_badM {c p : Int} (R : RM0 Bf nf cnt k i h0 h) (E : mr_F Bf nf cnt k i = some (c, p)) : Pc (mx_sv (qf_X13_bad nn c (8 + (k : Int)) (i : Int) p h) fun u => ck_B (u.1 = 0 ∨ u.1 = 1) <| some (u.1, u.2)) (RMF Bf nf cnt k i h0) := by
  refine pc_sv vr_bad ?_; intro u ⟨r1, r2, r3, r4, r5, r6⟩
  refine pc_ck (fun _ => pc_ret ⟨rkm_t R.2.1 (fun x j z1 z2 => r2.1 x j (by omega) (by omega) (by omega)), r2.2 R.1.1.2.2.2, .inr ⟨r1, c, p, E, r3, r4, r5, r6⟩⟩)
/-- AT, the reference -/
theorem vr_at (N : NKn Bf nf cnt) (S : RSv Bf nf h) (e98 : h 160 98 = cnt) (h7 : 0 ≤ h 160 117) (hk : (k : Int) < cnt) (hi : (i : Int) < mc_S (Bf k) (nf k)) : Pc (qf_X13_at_ nn (8 + (k : Int)) (i : Int) h) (fun u => RM0 Bf nf cnt k i h u) := by
  have hk' : (k : Int) < h 160 98 := by omega
  obtain ⟨n6, k8⟩ := tb_n6 S hk'
  obtain ⟨G, -, e2, M1⟩ := rg_im (S.2 k hk')
  have gm := G.2.2.1
  have g1 := (G.2.2.2 i hi).2.2.2.1
  have T := (M1 i hi).1
  unfold qf_X13_at_
  refine pc_sub (by omega) ?_; intro v1 e1
  refine pc_xl ?_; intro h2 f2
  refine pc_xl ?_; intro h3 f3
  have A3 : ∀ x j : Nat, ¬ (x = 160 ∧ (j = 132 ∨ j = 133)) → h3 x j = h x j := fun x j z => by rw [f3, up_n (by omega), f2, up_n (by omega)]
  have w32 : h3 160 132 = (k : Int) := by rw [f3, up_n (by omega), f2, up_s]; omega
  have w33 : h3 160 133 = (i : Int) := by rw [f3, up_s]
  rw [w32]
  refine pc_xl ?_; intro v6 e6
  rw [oq_mul_eq (by omega) (by omega) (by omega)] at e6
  refine pc_add (by omega) ?_; intro v7 e7
  refine pc_rA ?_; intro _ _ v8 e8
  rw [show v7 = 12 * (k : Int) + i by omega, A3 235 _ (by omega), T] at e8
  refine pc_add (by omega) ?_; intro v10 e10
  have S3 : RSv Bf nf h3 := rsv_k S (fun x j z => A3 x j (by omega)) (A3 160 98 (by omega))
  have k3 : (k : Int) < h3 160 98 := by rw [A3 160 98 (by omega)]; exact hk'
  rw [show v10 = ((ma_S (Bf k) (nf k) i + 3 : Nat) : Int) by omega]
  refine pc_sv (vq_rbyte S3 k3 (by omega)) ?_; intro u12 q12
  refine pc_xl ?_; intro h13 f13
  have A13 : ∀ x j : Nat, ¬ (x = 160 ∧ (j = 130 ∨ j = 132 ∨ j = 133)) → h13 x j = h x j := fun x j z => by rw [f13, up_n (by omega)]; exact A3 x j (by omega)
  have x32 : h13 160 132 = (k : Int) := by rw [f13, up_n (by omega)]; exact w32
  rw [x32]
  refine pc_add (by omega) ?_; intro v15 e15
  have S13 : RSv Bf nf h13 := rsv_k S (fun x j z => A13 x j (by omega)) (A13 160 98 (by omega))
  have k13 : (k : Int) < h13 160 98 := by rw [A13 160 98 (by omega)]; exact hk'
  rw [show v15 = ((ma_S (Bf k) (nf k) i + 4 : Nat) : Int) by omega]
  refine pc_sv (vq_rbyte S13 k13 (by omega)) ?_; intro u17 q17
  refine pc_xl ?_; intro h18 f18
  have A18 : ∀ x j : Nat, ¬ (x = 160 ∧ (j = 129 ∨ j = 130 ∨ j = 132 ∨ j = 133)) → h18 x j = h x j := fun x j z => by rw [f18, up_n (by omega)]; exact A13 x j (by omega)
  have S18 : RSv Bf nf h18 := rsv_k S (fun x j z => A18 x j (by omega)) (A18 160 98 (by omega))
  have k18 : (k : Int) < h18 160 98 := by rw [A18 160 98 (by omega)]; exact hk'
  have y32 : h18 160 132 = (k : Int) := by rw [f18, up_n (by omega)]; exact x32
  refine pc_add (by omega) ?_; intro v19 e19
  refine pc_sv (P := fun u => u = ln_N (Bf k) (ma_S (Bf k) (nf k) i + 5)) ?_ ?_
  · unfold qf_X13_pairIn
    rw [y32, show v19 = ((ma_S (Bf k) (nf k) i + 5 : Nat) : Int) by omega]
    refine pc_sv (vq_rbyte S18 k18 (by omega)) ?_; intro u3 q3
    refine pc_xl ?_; intro v4 e4
    refine pc_add (by omega) ?_; intro v6 e6
    rw [show v6 = ((ma_S (Bf k) (nf k) i + 5 + 1 : Nat) : Int) by omega]
    refine pc_sv (vq_rbyte S18 k18 (by omega)) ?_; intro u8 q8
    refine pc_xl ?_; intro v9 e9
    refine pc_ret ?_
    show v9 = oq_or (oq_shl (Bf k (ma_S (Bf k) (nf k) i + 5)) 8) (Bf k (ma_S (Bf k) (nf k) i + 5 + 1))
    rw [e9, e4, q3, q8]
  intro u21 q21
  refine pc_xl ?_; intro h22 f22
  refine pc_add (by omega) ?_; intro v23 e23
  refine pc_xl ?_; intro h24 f24
  have A24 : ∀ x j : Nat, ¬ (x = 160 ∧ (j = 129 ∨ j = 130 ∨ (132 ≤ j ∧ j ≤ 135))) → h24 x j = h x j := fun x j z => by rw [f24, up_n (by omega), f22, up_n (by omega)]; exact A18 x j (by omega)
  refine pc_ret ⟨⟨⟨N, rsv_k S (fun x j z => A24 x j (by omega)) (A24 160 98 (by omega)), ?_, ?_⟩, ⟨hk, hi⟩, ⟨?_, ?_, ?_, ?_⟩, ?_, ?_⟩, fun x j z1 z2 => A24 x j (by omega), A24 _ _ (by omega), A24 _ _ (by omega), A24 _ _ (by omega), A24 _ _ (by omega)⟩
  · rw [A24 160 98 (by omega)]; exact e98
  · rw [A24 160 117 (by omega)]; exact h7
  · rw [f24, up_n (by omega), f22, up_n (by omega)]; exact y32
  · rw [f24, up_n (by omega), f22, up_n (by omega), f18, up_n (by omega), f13, up_n (by omega)]; exact w33
  · rw [f24, up_s]; omega
  · rw [f24, up_n (by omega), f22, up_s, q21]; unfold cl_N; omega
  · rw [f24, up_n (by omega), f22, up_n (by omega), f18, up_n (by omega), f13, up_s]; exact q12
  · rw [f24, up_n (by omega), f22, up_n (by omega), f18, up_s]; exact q17
/-- BEGINNINGS, the reference -/
theorem vr_8 {Q : Int × ms_M → Prop} (HK : ∀ g : ms_M, RM0 Bf nf cnt k i h0 g → (∀ q : Nat, q < 1501 → g 242 q = 0) → Pc (qw_X13_methodFits_30 nn nn (8 + (k : Int)) (i : Int) 0 g) Q) : ∀ (f p : Nat) (h : ms_M), RM0 Bf nf cnt k i h0 h → (∀ q : Nat, q < p → h 242 q = 0) → p ≤ 1501 → Pc (qw_X13_methodFits_8 nn f (8 + (k : Int)) (i : Int) (p : Int) h) Q := by
  intro f
  induction f with
  | zero => intro p h _ _ _; exact pc_none
  | succ f ih =>
    intro p h R A hp
    unfold qw_X13_methodFits_8
    refine pc_if (fun z => HK h R (fun q hq => A q (by omega))) (fun z => ?_)
    refine pc_wZ ?_; intro _ _ h83 e83
    rw [Int.toNat_natCast] at e83
    refine pc_add (by omega) ?_; intro v84 e84
    rw [show v84 = ((p + 1 : Nat) : Int) by omega]
    refine ih (p + 1) h83 (rm0_2 R e83) (fun q hq => ?_) (by omega)
    by_cases e : q = p
    · rw [e83, e, up_s]
    · rw [e83, up_n (by omega)]; exact A q (by omega)
/-- INSTRUCTIONS, the reference -/
theorem vr_30 (HK : ∀ g : ms_M, RM0 Bf nf cnt k i h0 g → IOk (cd_S (Bf k) (nf k) i) (cl_N (Bf k) (nf k) i) → RBg (cd_S (Bf k) (nf k) i) (cl_N (Bf k) (nf k) i) g → Pc (qw_X13_methodFits_97 nn nn (8 + (k : Int)) (i : Int) 0 g) (RMF Bf nf cnt k i h0)) : ∀ (f t : Nat) (h : ms_M), RM0 Bf nf cnt k i h0 h → GSo (cd_S (Bf k) (nf k) i) (cl_N (Bf k) (nf k) i) t → (∀ p : Nat, p < 1501 → (h 242 p = 1 ∧ ∃ x : Nat, x < t ∧ is_S (cd_S (Bf k) (nf k) i) x = p) ∨ (h 242 p = 0 ∧ ¬ ∃ x : Nat, x < t ∧ is_S (cd_S (Bf k) (nf k) i) x = p)) → Pc (qw_X13_methodFits_30 nn f (8 + (k : Int)) (i : Int) (is_S (cd_S (Bf k) (nf k) i) t : Int) h) (RMF Bf nf cnt k i h0) := by
  intro f
  induction f with
  | zero => intro t h _ _ _; exact pc_none
  | succ f ih =>
    intro t h R A MK
    obtain ⟨l1, l2, l3, l4, l5⟩ := rme_l R.1
    generalize hD : cd_S (Bf k) (nf k) i = D at *
    have is0 : is_S D 0 = 0 := rfl
    have isL : is_S D t ≤ cl_N (Bf k) (nf k) i := by
      cases t with
      | zero => rw [is0]; omega
      | succ t =>
        have a := A t (by omega)
        have e : is_S D (t + 1) = is_S D t + (WD (D (is_S D t))).toNat := rfl
        omega
    unfold qw_X13_methodFits_30
    rw [R.1.2.2.1.2.2.2]
    refine pc_if (fun z => ?_) (fun z => ?_)
    · have eL : is_S D t = cl_N (Bf k) (nf k) i := by omega
      refine HK h R ⟨t, A, eL⟩ (fun p hp => ?_)
      have bi := bgn_iff (p := p) A eL
      rcases MK p hp with ⟨m1, m2⟩ | ⟨m1, m2⟩
      · exact .inl ⟨m1, bi.2 m2⟩
      · exact .inr ⟨m1, fun w => m2 (bi.1 w)⟩
    have q := vr_code (nn := nn) R.1 (p := is_S D t) (by omega)
    rw [hD] at q
    refine pc_sv q ?_; intro u69 q69
    rw [q69]
    refine pc_sv wd_r ?_; intro u70 q70
    have ma7 := rme_m R.1
    have rg : 0 ≤ D (is_S D t) ∧ D (is_S D t) ≤ 255 := by
      rw [← hD]
      exact rme_b R.1 (p := ma_S (Bf k) (nf k) i + 7 + is_S (cd_S (Bf k) (nf k) i) t) (by rw [hD]; omega)
    have w3 := (wd_at rg).2
    have BD : (WD (D (is_S D t)) = 0 ∨ (cl_N (Bf k) (nf k) i : Int) < (is_S D t : Int) + WD (D (is_S D t))) → Pc (qj_X13_methodFits_64 nn (8 + (k : Int)) (i : Int) (is_S D t : Int) h) (RMF Bf nf cnt k i h0) := fun w => by
      unfold qj_X13_methodFits_64
      refine vr_badM R ?_
      have no : INo D (cl_N (Bf k) (nf k) i) (is_S D t) := ⟨t, A, rfl, by omega, w⟩
      unfold mr_F
      rw [hD, fs_s (p := is_S D t) (by omega) no (fun q hq y => absurd (ino_u y no) (by omega))]
    refine pc_if (fun y => BD (.inl (by omega))) (fun y => ?_)
    refine pc_add (by omega) ?_; intro v71 e71
    refine pc_if (fun w => ?_) (fun w => BD (.inr (by omega)))
    refine pc_wZ ?_; intro _ _ h74 e74
    rw [Int.toNat_natCast] at e74
    have R74 := rm0_2 R e74
    have q2 := vr_code (nn := nn) R74.1 (p := is_S D t) (by omega)
    rw [hD] at q2
    refine pc_sv q2 ?_; intro u76 q76
    rw [q76]
    refine pc_sv wd_r ?_; intro u77 q77
    refine pc_add (by omega) ?_; intro v78 e78
    have es : is_S D (t + 1) = is_S D t + (WD (D (is_S D t))).toNat := rfl
    rw [show v78 = (is_S D (t + 1) : Int) by omega]
    refine ih (t + 1) h74 R74 (fun x hx => ?_) (fun p hp => ?_)
    · by_cases xt : x = t
      · rw [xt]; exact ⟨by omega, by omega, by omega⟩
      · exact A x (by omega)
    by_cases pt : p = is_S D t
    · exact .inl ⟨by rw [pt, e74, up_s], t, by omega, pt.symm⟩
    · rw [e74, up_n (by omega)]
      rcases MK p hp with ⟨m1, x, x1, x2⟩ | ⟨m1, m2⟩
      · exact .inl ⟨m1, x, by omega, x2⟩
      · refine .inr ⟨m1, fun ⟨x, x1, x2⟩ => ?_⟩
        by_cases xt : x = t
        · exact pt (by rw [← x2, xt])
        · exact m2 ⟨x, by omega, x2⟩
theorem vr_begins (R : RMe Bf nf cnt k i h) (MK : RBg (cd_S (Bf k) (nf k) i) (cl_N (Bf k) (nf k) i) h) {x : Int} (x0 : 0 ≤ x) (xl : x < (cl_N (Bf k) (nf k) i : Int)) : (h 242 x.toNat = 1 ∧ BGi (cd_S (Bf k) (nf k) i) (cl_N (Bf k) (nf k) i) x) ∨ (h 242 x.toNat = 0 ∧ ¬ BGi (cd_S (Bf k) (nf k) i) (cl_N (Bf k) (nf k) i) x) := by
  obtain ⟨l1, l2, l3, l4, l5⟩ := rme_l R
  rcases MK x.toNat (by omega) with ⟨a, b⟩ | ⟨a, b⟩
  · exact .inl ⟨a, x0, b⟩
  · exact .inr ⟨a, fun w => b w.2⟩
theorem bgi_lt {x : Int} (A : BGi D L x) : 0 ≤ x ∧ x < (L : Int) := by
  have := bgn_lt A.2
  have := A.1
  omega
/-- JUMPS, the reference -/
theorem vr_97 (IO : IOk (cd_S (Bf k) (nf k) i) (cl_N (Bf k) (nf k) i)) {t0 : Nat} (T : GSo (cd_S (Bf k) (nf k) i) (cl_N (Bf k) (nf k) i) t0) (TL : is_S (cd_S (Bf k) (nf k) i) t0 = cl_N (Bf k) (nf k) i) (R : RM0 Bf nf cnt k i h0 h) (MK : RBg (cd_S (Bf k) (nf k) i) (cl_N (Bf k) (nf k) i) h) (HK : fs_F (JBm (cd_S (Bf k) (nf k) i) (cl_N (Bf k) (nf k) i)) (cl_N (Bf k) (nf k) i) = none → Pc (qw_X13_methodFits_192 nn nn (8 + (k : Int)) (i : Int) (mh_P (Bf k) (nf k) i : Int) 0 h) (RMF Bf nf cnt k i h0)) : ∀ (f t : Nat), t ≤ t0 → (∀ x : Nat, x < t → ¬ JBm (cd_S (Bf k) (nf k) i) (cl_N (Bf k) (nf k) i) (is_S (cd_S (Bf k) (nf k) i) x)) → Pc (qw_X13_methodFits_97 nn f (8 + (k : Int)) (i : Int) (is_S (cd_S (Bf k) (nf k) i) t : Int) h) (RMF Bf nf cnt k i h0) := by
  obtain ⟨l1, l2, l3, l4, l5⟩ := rme_l R.1
  have rt := rme_t R.1
  have i12 := rme_i R.1
  have k8 := (rme_n6 R.1).2
  have e6 : fs_F (INo (cd_S (Bf k) (nf k) i) (cl_N (Bf k) (nf k) i)) (cl_N (Bf k) (nf k) i) = none := fs_z (fun q _ z => ino_ok z IO)
  generalize hD : cd_S (Bf k) (nf k) i = D at *
  -- a bad place is where an instruction begins
  have BP : ∀ t : Nat, t ≤ t0 → (∀ x : Nat, x < t → ¬ JBm D (cl_N (Bf k) (nf k) i) (is_S D x)) → ∀ q : Nat, q < is_S D t → ¬ JBm D (cl_N (Bf k) (nf k) i) q := fun t ht A q hq J => by
    obtain ⟨x, x1, x2⟩ := (bgn_iff T TL).1 J.1
    by_cases z : x < t
    · exact A x z (by rw [x2]; exact J)
    · by_cases e : x = t
      · rw [e] at x2; omega
      · have := is_mono T t x (by omega) (by omega)
        omega
  intro f
  induction f with
  | zero => intro t _ _; exact pc_none
  | succ f ih =>
    intro t ht A
    unfold qw_X13_methodFits_97
    rw [R.1.2.2.1.2.2.2, R.1.2.2.1.1]
    refine pc_if (fun z => ?_) (fun z => ?_)
    · refine pc_xl ?_; intro v48 e48
      rw [oq_mul_eq (by omega) (by omega) (by omega)] at e48
      refine pc_add (by omega) ?_; intro v49 e49
      refine pc_rA ?_; intro _ _ v50 e50
      rw [show v49 = 12 * (k : Int) + i by omega, rt.2.1] at e50
      rw [e50]
      exact HK (fs_z (fun q hq => BP t ht A q (by omega)))
    have tt : t < t0 := Classical.byContradiction fun y => by
      have : t = t0 := by omega
      rw [this] at z; omega
    have NX : ¬ JBm D (cl_N (Bf k) (nf k) i) (is_S D t) → Pc (qj_X13_methodFits_160 nn (qw_X13_methodFits_97 nn f) (8 + (k : Int)) (i : Int) (is_S D t : Int) h) (RMF Bf nf cnt k i h0) := fun nj => by
      unfold qj_X13_methodFits_160
      have q2 := vr_code (nn := nn) R.1 (p := is_S D t) (by omega)
      rw [hD] at q2
      refine pc_sv q2 ?_; intro u39 q39
      rw [q39]
      refine pc_sv wd_r ?_; intro u40 q40
      have w := T t tt
      refine pc_add (by omega) ?_; intro v41 e41
      have es : is_S D (t + 1) = is_S D t + (WD (D (is_S D t))).toNat := rfl
      rw [show v41 = (is_S D (t + 1) : Int) by omega]
      refine ih (t + 1) (by omega) (fun x hx => ?_)
      by_cases e : x = t
      · rw [e]; exact nj
      · exact A x (by omega)
    have q2 := vr_code (nn := nn) R.1 (p := is_S D t) (by omega)
    rw [hD] at q2
    refine pc_sv q2 ?_; intro u52 q52
    rw [q52]
    refine pc_sv (pc_ok mv_jump) ?_; intro u53 q53
    have bg : BGn D (cl_N (Bf k) (nf k) i) (is_S D t) := (bgn_iff T TL).2 ⟨t, tt, rfl⟩
    have wd := bgn_wd IO bg
    have JJ : 153 ≤ D (is_S D t) ∧ D (is_S D t) ≤ 167 → JMP (D (is_S D t)) := fun z => by
      have w0 : ∀ o : Int, o = 155 ∨ o = 156 ∨ o = 157 ∨ o = 158 → WD o = 0 := fun o z => by
        rcases z with e | e | e | e <;> (rw [e]; decide)
      have := w0 (D (is_S D t))
      unfold JMP
      omega
    refine pc_if (fun y => ?_) (fun y => NX (fun w => ?_))
    · have jm : JMP (D (is_S D t)) := by
        rcases q53 with q | q
        · exact absurd q.1 y
        · exact JJ q.2
      have w3 := wd.2
      rw [wd_jmp jm] at w3
      have q3 := vr_aim (nn := nn) R.1 (p := is_S D t) (by omega)
      rw [hD] at q3
      refine pc_sv q3 ?_; intro u55 q55
      have BD : ¬ BGi D (cl_N (Bf k) (nf k) i) (aim_S D (is_S D t)) → Pc (qj_X13_methodFits_150 nn (8 + (k : Int)) (i : Int) (is_S D t : Int) h) (RMF Bf nf cnt k i h0) := fun nb => by
        unfold qj_X13_methodFits_150
        refine vr_badM R ?_
        unfold mr_F
        rw [hD, e6, fs_s (p := is_S D t) (by omega) ⟨bg, jm, nb⟩ (BP t ht A)]
      rw [q55]
      refine pc_if (fun z1 => BD (fun w => absurd w.1 (by omega))) (fun z1 => ?_)
      refine pc_if (fun z2 => BD (fun w => absurd (bgi_lt w) (by omega))) (fun z2 => ?_)
      refine pc_rA ?_; intro _ _ v58 e58
      have bb := vr_begins (x := aim_S D (is_S D t)) R.1 (by rw [hD]; exact MK) (by omega) (by omega)
      rw [hD] at bb
      refine pc_if (fun z3 => NX (fun w => ?_)) (fun z3 => BD (fun w => ?_))
      · rcases bb with q | q
        · exact w.2.2 q.2
        · exact z3 (by rw [e58]; exact q.1)
      · rcases bb with q | q
        · omega
        · exact q.2 w
    · rcases q53 with q | q
      · have := w.2.1
        unfold JMP at this
        omega
      · omega
end
end
section
/- VERIFY: frames and handlers of an IMAGE are as they must be; types; what stands for what -/
/-- a type told at x; types behind their count at p; a frame at p -/
def TPg (B : Nat → Int) (n x : Nat) : Prop := x < n ∧ (0 ≤ B x ∧ B x ≤ 3) ∧ (B x = 3 → x + 1 < n ∧ tg_S B n (B (x + 1)) = 3)
def TLg (B : Nat → Int) (n p : Nat) : Prop := p < n ∧ (∀ x : Nat, x < (B p).toNat → TPg B n (tp_S B p x)) ∧ te_P B p ≤ n
def FRg (B : Nat → Int) (n p : Nat) : Prop := p + 2 ≤ n ∧ TLg B n (p + 2) ∧ TLg B n (te_P B (p + 2))
/-- a type of the class whose class is there -/
def VTq (cnt x : Int) : Prop := x = 304 ∨ x = 301 ∨ x = 300 ∨ x = 200 ∨ ISc cnt x ∨ ISc cnt (x - 100)
section
variable {nn : Nat} {Bf : Nat → Nat → Int} {nf : Nat → Nat} {cnt : Int} {B C D : Nat → Int} {n m b d k o i L p q : Nat} {M h g r h0 : ms_M} {t c : Int}
theorem ty_g : ∀ (m j : Nat), ty_S B n m (tp_S B p j) = .inr q → tp_S B p (j + m) = q ∧ ∀ x : Nat, j ≤ x → x < j + m → TPg B n (tp_S B p x) := by
  intro m
  induction m with
  | zero =>
    intro j e
    refine ⟨Sum.inr.inj e, fun x h1 h2 => absurd h2 (by omega)⟩
  | succ m ih =>
    intro j e
    unfold ty_S at e
    obtain ⟨x, e1, e2⟩ := bd_inr e
    obtain ⟨y, e3, e4⟩ := bd_inr e1
    obtain ⟨a1, a2, a3⟩ := by_le e3
    have a3 := up_i a3
    have st : tp_S B p (j + 1) = tp_S B p j + (if B (tp_S B p j) = 3 then 2 else 1) := rfl
    by_cases c3 : B (tp_S B p j) = 3
    · rw [if_pos c3] at st e4
      obtain ⟨b1, b2, b3⟩ := by_le e4
      have b3 : tg_S B n (B y) = 3 := of_decide_eq_true b3
      rw [a1] at b1 b2 b3
      rw [show x = tp_S B p (j + 1) by omega] at e2
      obtain ⟨z1, z2⟩ := ih (j + 1) e2
      refine ⟨by rw [← z1]; congr 1; omega, fun w h1 h2 => ?_⟩
      by_cases wj : w = j
      · rw [wj]; exact ⟨a2, a3, fun _ => ⟨b2, b3⟩⟩
      · exact z2 w (by omega) (by omega)
    · rw [if_neg c3] at st e4
      have b1 : y = x := Sum.inr.inj e4
      rw [show x = tp_S B p (j + 1) by omega] at e2
      obtain ⟨z1, z2⟩ := ih (j + 1) e2
      refine ⟨by rw [← z1]; congr 1; omega, fun w h1 h2 => ?_⟩
      by_cases wj : w = j
      · rw [wj]; exact ⟨a2, a3, fun y => absurd y c3⟩
      · exact z2 w (by omega) (by omega)
theorem tpg_n (A : TPg B n (tp_S B p m)) : tp_S B p (m + 1) ≤ n := by
  have st : tp_S B p (m + 1) = tp_S B p m + (if B (tp_S B p m) = 3 then 2 else 1) := rfl
  obtain ⟨a1, a2, a3⟩ := A
  by_cases c3 : B (tp_S B p m) = 3
  · rw [if_pos c3] at st
    have := (a3 c3).1
    omega
  · rw [if_neg c3] at st
    omega
theorem ts_g (e : ts_S B n p = .inr q) : te_P B p = q ∧ TLg B n p := by
  unfold ts_S at e
  obtain ⟨x, e1, e2⟩ := bd_inr e
  unfold nx_S at e1
  by_cases w : p < n
  · rw [if_pos w] at e1
    have ex : p + 1 = x := Sum.inr.inj e1
    have e0 : tp_S B p 0 = p + 1 := rfl
    rw [← ex, ← e0] at e2
    obtain ⟨z1, z2⟩ := ty_g _ 0 e2
    rw [Nat.zero_add] at z1
    have z2 : ∀ x : Nat, x < (B p).toNat → TPg B n (tp_S B p x) := fun x hx => z2 x (by omega) (by omega)
    refine ⟨z1, w, z2, ?_⟩
    unfold te_P
    cases hm : (B p).toNat with
    | zero => rw [e0]; omega
    | succ m => exact tpg_n (z2 m (by omega))
  · rw [if_neg w] at e1; exact nomatch e1
theorem fr_g {a : Nat} : ∀ (m f : Nat), fr_S B n m (fp_S B a f) = .inr q → ∀ x : Nat, f ≤ x → x < f + m → FRg B n (fp_S B a x) := by
  intro m
  induction m with
  | zero => intro f _ x h1 h2; exact absurd h2 (by omega)
  | succ m ih =>
    intro f e x h1 h2
    unfold fr_S at e
    obtain ⟨y1, e1, e2⟩ := bd_inr e
    obtain ⟨y2, e3, e4⟩ := bd_inr e1
    obtain ⟨y3, e5, e6⟩ := bd_inr e3
    unfold sk_S at e5
    by_cases w : fp_S B a f + 2 ≤ n
    · rw [if_pos w] at e5
      have ey : fp_S B a f + 2 = y3 := Sum.inr.inj e5
      rw [← ey] at e6
      obtain ⟨g1, g2⟩ := ts_g e6
      rw [← g1] at e4
      obtain ⟨g3, g4⟩ := ts_g e4
      by_cases xf : x = f
      · rw [xf]; exact ⟨w, g2, g4⟩
      · have st : fp_S B a (f + 1) = te_P B (te_P B (fp_S B a f + 2)) := rfl
        rw [← g3, ← st] at e2
        exact ih (f + 1) e2 x (by omega) (by omega)
    · rw [if_neg w] at e5; exact nomatch e5
theorem gm_fr (G : GMt B n i) {f : Nat} (hf : f < fn_S B n i) : FRg B n (fw_S B n i f) := by
  obtain ⟨-, -, -, -, -, -, -, q, e, -⟩ := G
  have e0 : fp_S B (mf_P B n i) 0 = mf_P B n i + 1 := rfl
  rw [← e0] at e
  exact fr_g _ 0 e f (by omega) (by unfold fn_S at hf; omega)
theorem hd_g : ∀ (m p : Nat), hd_S B n m p = .inr q → ∀ j : Nat, j < m → p + 7 * j + 6 < n ∧ tg_S B n (B (p + 7 * j + 6)) = 3 := by
  intro m
  induction m with
  | zero => intro p _ j hj; exact absurd hj (by omega)
  | succ m ih =>
    intro p e j hj
    unfold hd_S at e
    obtain ⟨y1, e1, e2⟩ := bd_inr e
    obtain ⟨y2, e3, e4⟩ := bd_inr e1
    unfold sk_S at e3
    by_cases w : p + 6 ≤ n
    · rw [if_pos w] at e3
      have ey : p + 6 = y2 := Sum.inr.inj e3
      rw [← ey] at e4
      obtain ⟨b1, b2, b3⟩ := by_le e4
      have b3 : tg_S B n (B (p + 6)) = 3 := of_decide_eq_true b3
      by_cases j0 : j = 0
      · rw [j0]; exact ⟨by omega, b3⟩
      · have z := ih y1 e2 (j - 1) (by omega)
        rw [show y1 + 7 * (j - 1) + 6 = p + 7 * j + 6 by omega] at z
        exact z
    · rw [if_neg w] at e3; exact nomatch e3
theorem gm_hd (G : GMt B n i) {j : Nat} (hj : j < hn_S B n i) : hq_S B n i j + 6 < n ∧ tg_S B n (B (hq_S B n i j + 6)) = 3 := by
  obtain ⟨-, -, -, -, -, ⟨e, -⟩, -⟩ := G
  exact hd_g _ _ e j hj
/-- types -/
theorem kq_is (c0 : 0 ≤ cnt ∧ cnt ≤ 8) {p e : Nat} (K : KDs B p e) : (B p = 86 ∧ kq_F Bf nf cnt B p e = 303) ∨ (¬ B p = 86 ∧ ¬ kq_F Bf nf cnt B p e = 303 ∧ ¬ kq_F Bf nf cnt B p e = 304 ∧ ¬ kq_F Bf nf cnt B p e = 300 ∧ (kq_F Bf nf cnt B p e = 301 ↔ (B p = 73 ∨ B p = 90)) ∧ (kq_F Bf nf cnt B p e = -1 ∨ VTq cnt (kq_F Bf nf cnt B p e))) := by
  unfold VTq
  unfold KDs at K
  unfold kq_F
  by_cases a : B p = 73 ∨ B p = 90
  · rw [if_pos a]; exact .inr ⟨by omega, by omega, by omega, by omega, by omega, .inr (.inr (.inl rfl))⟩
  · rw [if_neg a]
    by_cases c : B p = 86
    · rw [if_pos c]; exact .inl ⟨c, rfl⟩
    · rw [if_neg c]
      by_cases f : B p = 91
      · rw [if_pos f]
        by_cases g : B (p + 1) = 73
        · rw [if_pos g]; exact .inr ⟨c, by omega, by omega, by omega, by omega, .inr (.inr (.inr (.inr (.inl rfl))))⟩
        · rw [if_neg g]
          rcases lo_is (Bf := Bf) (nf := nf) c0.1 (f := fun i => B (p + 2 + i)) (m := e - 1 - (p + 2)) with z | z
          · rw [if_pos z]; exact .inr ⟨c, by omega, by omega, by omega, by omega, .inl rfl⟩
          · have zn : ¬ lo_S Bf nf cnt (fun i => B (p + 2 + i)) (e - 1 - (p + 2)) = -1 := by unfold ISc at z; omega
            rw [if_neg zn]
            have z' := z
            unfold ISc at z'
            generalize lo_S Bf nf cnt (fun i => B (p + 2 + i)) (e - 1 - (p + 2)) = v at *
            exact .inr ⟨c, by omega, by omega, by omega, by omega, .inr (.inr (.inr (.inr (.inr (.inr (by rw [show 100 + v - 100 = v by omega]; exact z))))))⟩
      · rw [if_neg f]
        rcases lo_is (Bf := Bf) (nf := nf) c0.1 (f := fun i => B (p + 1 + i)) (m := e - 1 - (p + 1)) with z | z
        · exact .inr ⟨c, by omega, by omega, by omega, by omega, .inl z⟩
        · have z' := z
          unfold ISc at z'
          exact .inr ⟨c, by omega, by omega, by omega, by omega, .inr (.inr (.inr (.inr (.inr (.inl z)))))⟩
theorem cq_is (c0 : 0 ≤ cnt ∧ cnt ≤ 8) {x : Nat} (zk : kk_S B n = .inr x) (h2 : 0 ≤ B 2) {i : Int} (t3 : tg_S B n i = 3) : cq_F Bf nf cnt B n i = -1 ∨ (VTq cnt (cq_F Bf nf cnt B n i) ∧ (cq_F Bf nf cnt B n i = 200 ∨ (ISc cnt (cq_F Bf nf cnt B n i) ∧ cq_F Bf nf cnt B n i < 16) ∨ (ISc cnt (cq_F Bf nf cnt B n i - 100) ∧ 100 ≤ cq_F Bf nf cnt B n i ∧ cq_F Bf nf cnt B n i < 116))) := by
  have rg := cq_rg (Bf := Bf) (nf := nf) c0.2 zk h2 t3
  obtain ⟨-, tx⟩ := cl_tx zk h2 t3
  have V : cq_F Bf nf cnt B n i = -1 ∨ VTq cnt (cq_F Bf nf cnt B n i) := by
    unfold cq_F
    by_cases c : B (na_S B n (pt_S B n i 0)) = 91
    · rw [if_pos c]
      rcases tx with ⟨-, w⟩ | ⟨-, w⟩
      · exact absurd c w
      · rcases kq_is (Bf := Bf) (nf := nf) c0 w with z | z
        · omega
        · exact z.2.2.2.2.2
    · rw [if_neg c]
      rcases lo_is (Bf := Bf) (nf := nf) c0.1 (f := fun j => B (na_S B n (pt_S B n i 0) + j)) (m := tl_S B n (pt_S B n i 0)) with z | z
      · exact .inl z
      · exact .inr (.inr (.inr (.inr (.inr (.inl z)))))
  rcases V with z | z
  · exact .inl z
  · by_cases e : cq_F Bf nf cnt B n i = -1
    · exact .inl e
    · refine .inr ⟨z, ?_⟩
      unfold VTq ISc at z
      unfold ISc
      omega
theorem tt_is (c0 : 0 ≤ cnt ∧ cnt ≤ 8) {x : Nat} (zk : kk_S (Bf k) (nf k) = .inr x) (h2 : 0 ≤ Bf k 2) (T : TPg (Bf k) (nf k) p) : tt_F Bf nf cnt k p = -1 ∨ VTq cnt (tt_F Bf nf cnt k p) := by
  obtain ⟨t1, t2, t3⟩ := T
  unfold tt_F
  by_cases a : Bf k p = 0
  · rw [if_pos a]; exact .inr (.inl rfl)
  · rw [if_neg a]
    by_cases b : Bf k p = 1
    · rw [if_pos b]; exact .inr (.inr (.inl rfl))
    · rw [if_neg b]
      by_cases c : Bf k p = 2
      · rw [if_pos c]; exact .inr (.inr (.inr (.inl rfl)))
      · rw [if_neg c]
        rcases cq_is (Bf := Bf) (nf := nf) c0 zk h2 (t3 (by omega)).2 with z | z
        · exact .inl z
        · exact .inr z.1
/-- WHAT STANDS FOR WHAT -/
def TIs (cnt x : Int) : Prop := ((0 ≤ x ∧ x < 16) → ISc cnt x) ∧ ((100 ≤ x ∧ x < 116) → ISc cnt (x - 100))
theorem vt_is (c8 : cnt ≤ 8) {x : Int} (V : VTq cnt x) : TIs cnt x := by
  unfold VTq ISc at V
  unfold TIs ISc
  constructor
  · intro z; omega
  · intro z; omega
theorem ti_m1 : TIs cnt (-1) := ⟨fun z => absurd z (by omega), fun z => absurd z (by omega)⟩
theorem ch_mm {x : Int} {i : Nat} (e : ch_F Bf nf cnt x i = -1) : ∀ j : Nat, ch_F Bf nf cnt x (i + j) = -1 := by
  intro j
  induction j with
  | zero => exact e
  | succ j ih =>
    show (if ch_F Bf nf cnt x (i + j) = -1 then -1 else sp_F Bf nf cnt (ch_F Bf nf cnt x (i + j))) = -1
    rw [if_pos ih]
theorem ch_lt (c0 : 0 ≤ cnt ∧ cnt ≤ 8) {x y : Int} (hx : ISc cnt x) (hy : 0 ≤ y) (U : UNq Bf nf cnt x y) : ∃ m : Nat, m < 16 ∧ ch_F Bf nf cnt x m = y := by
  obtain ⟨m0, e0⟩ := U
  obtain ⟨m, m1, m2, m3⟩ := le_ast (P := fun m => ch_F Bf nf cnt x m = y) (m0 + 1) ⟨m0, by omega, e0⟩
  have m2 : ch_F Bf nf cnt x m = y := m2
  refine ⟨m, Classical.byContradiction fun z => ?_, m2⟩
  have I := ch_is (Bf := Bf) (nf := nf) c0.1 (c := x) (.inr hx)
  have A : ∀ i : Nat, i ≤ 16 → 0 ≤ ch_F Bf nf cnt x i ∧ ch_F Bf nf cnt x i < 16 := fun i hi => by
    rcases I i with w | w
    · have := ch_mm w (m - i)
      rw [show i + (m - i) = m by omega] at this
      omega
    · unfold ISc at w; omega
  obtain ⟨i, j, h1, h2, h3⟩ := pg_41 16 (fun i => (ch_F Bf nf cnt x i).toNat) (fun i hi => by
    have a := A i hi
    show (ch_F Bf nf cnt x i).toNat < 16
    omega)
  have h3' : (ch_F Bf nf cnt x i).toNat = (ch_F Bf nf cnt x j).toNat := h3
  have a1 := A i (by omega)
  have a2 := A j h2
  have e := ch_add (Bf := Bf) (nf := nf) (cnt := cnt) (c := x) (show ch_F Bf nf cnt x i = ch_F Bf nf cnt x j by omega) (m - j)
  rw [show j + (m - j) = m by omega, m2] at e
  exact m3 (i + (m - j)) (by omega) e
theorem chn_s {f : Nat → Int} : ∀ (m : Nat) (a : Int), ch_N f (m + 1) a = (if 0 ≤ ch_N f m a ∧ ch_N f m a < 16 then f (ch_N f m a).toNat else ch_N f m a) := by
  intro m
  induction m with
  | zero => intro a; rfl
  | succ m ih =>
    intro a
    exact ih (if 0 ≤ a ∧ a < 16 then f a.toNat else a)
theorem cn_ch (S : CSw Bf nf h) {x : Int} (hx : ISc (h 56 3) x) : ∀ m : Nat, ch_N (h 58) m x = ch_F Bf nf (h 56 3) x m := by
  have g3 := S.1.1
  have I := ch_is (Bf := Bf) (nf := nf) g3.1 (c := x) (.inr hx)
  intro m
  induction m with
  | zero => rfl
  | succ m ih =>
    rw [chn_s, ih]
    rcases I m with w | w
    · rw [if_neg (by omega), w]
      exact (ch_mm w 1).symm
    · have w' := w
      unfold ISc at w'
      rw [if_pos (by omega), kn_sp58 S w, chv_s w.1]
theorem un_58 (S : CSw Bf nf h) {x y : Int} (hx : ISc (h 56 3) x) (hy : 0 ≤ y ∧ y < 16) : (h 59 (16 * x.toNat + y.toNat) = 1 ∧ UNq Bf nf (h 56 3) x y) ∨ (h 59 (16 * x.toNat + y.toNat) = 0 ∧ ¬ UNq Bf nf (h 56 3) x y) := by
  have g3 := S.1.1
  have hx' := hx
  unfold ISc at hx'
  have U := S.2.1 x.toNat y.toNat (by omega) (by omega)
  rw [show ((x.toNat : Nat) : Int) = x by omega, show ((y.toNat : Nat) : Int) = y by omega] at U
  by_cases q : UNq Bf nf (h 56 3) x y
  · obtain ⟨m, m1, m2⟩ := ch_lt g3 hx hy.1 q
    exact .inl ⟨U.1 ⟨m, m1, by rw [show h (57 + 1) = h 58 from rfl, cn_ch S hx]; exact m2⟩, q⟩
  · refine .inr ⟨U.2 (fun ⟨m, _, m2⟩ => q ⟨m, ?_⟩), q⟩
    rw [show h (57 + 1) = h 58 from rfl, cn_ch S hx] at m2
    exact m2
/-- .. the class's side -/
theorem vc_kfits (S : CSw Bf nf h) {x y : Int} (X : TIs (h 56 3) x) : Pc (qf_X4_fits nn 57 x y h) (fun u => (u = 1 ∧ KFt Bf nf (h 56 3) x y) ∨ (u = 0 ∧ ¬ KFt Bf nf (h 56 3) x y)) := by
  have g3 := S.1.1
  have Z : ∀ (P : Prop), P = KFt Bf nf (h 56 3) x y → ¬ P → Pc (some (0 : Int)) (fun u => (u = 1 ∧ KFt Bf nf (h 56 3) x y) ∨ (u = 0 ∧ ¬ KFt Bf nf (h 56 3) x y)) := fun P e z => pc_ret (.inr ⟨rfl, by rw [← e]; exact z⟩)
  have Y : KFt Bf nf (h 56 3) x y → Pc (some (1 : Int)) (fun u => (u = 1 ∧ KFt Bf nf (h 56 3) x y) ∨ (u = 0 ∧ ¬ KFt Bf nf (h 56 3) x y)) := fun z => pc_ret (.inl ⟨rfl, z⟩)
  have NO : (¬ x = y) → (x = 300 → ¬ (0 ≤ y ∧ y ≤ 200)) → (0 ≤ x ∧ x < 16 → 0 ≤ y ∧ y < 16 → ¬ UNq Bf nf (h 56 3) x y) → (y = 0 → ¬ (100 ≤ x ∧ x ≤ 200)) → (100 ≤ x ∧ x < 116 → 100 ≤ y ∧ y < 116 → ¬ UNq Bf nf (h 56 3) (x - 100) (y - 100)) → ¬ KFt Bf nf (h 56 3) x y := fun n1 n2 n3 n4 n5 w => by
    rcases w with w | ⟨w1, w2⟩ | ⟨w1, w2, w3⟩ | ⟨w1, w2⟩ | ⟨w1, w2, w3⟩
    · exact n1 w
    · exact n2 w1 w2
    · exact n3 w1 w2 w3
    · exact n4 w1 w2
    · exact n5 w1 w2 w3
  unfold qf_X4_fits
  refine pc_if (fun n1 => ?_) (fun e => Y (.inl (by omega)))
  refine pc_if (fun n3 => ?_) (fun e3 => ?_)
  · have F71 : ¬ (0 ≤ x ∧ x < 16) → Pc (qj_X4_fits_71 nn 57 x y h) (fun u => (u = 1 ∧ KFt Bf nf (h 56 3) x y) ∨ (u = 0 ∧ ¬ KFt Bf nf (h 56 3) x y)) := fun nx => by
      unfold qj_X4_fits_71
      refine pc_if (fun ny => ?_) (fun ey => ?_)
      · have N22 : ¬ ((100 ≤ x ∧ x < 116) ∧ (100 ≤ y ∧ y < 116)) → Pc (qj_X4_fits_122 nn 57 x y h) (fun u => (u = 1 ∧ KFt Bf nf (h 56 3) x y) ∨ (u = 0 ∧ ¬ KFt Bf nf (h 56 3) x y)) := fun nz => by
          unfold qj_X4_fits_122 qj_X4_fits_123
          refine pc_if (fun _ => pc_ret (.inr ⟨rfl, NO n1 (fun e => absurd e n3) (fun e => absurd e nx) (fun e => absurd e ny) (fun e1 e2 => absurd ⟨e1, e2⟩ nz)⟩)) (fun z => absurd rfl z)
        refine pc_if (fun z => N22 (by omega)) (fun z1 => ?_)
        refine pc_if (fun z => N22 (by omega)) (fun z2 => ?_)
        refine pc_if (fun z => N22 (by omega)) (fun z3 => ?_)
        refine pc_if (fun z => N22 (by omega)) (fun z4 => ?_)
        have hx := X.2 (by omega)
        unfold qj_X4_fits_123
        refine pc_if (fun z => absurd z (by decide)) (fun _ => ?_)
        refine pc_sub (by omega) ?_; intro v2 e2
        refine pc_xl ?_; intro v3 e3
        rw [oq_mul_eq (by omega) (by omega) (by omega)] at e3
        refine pc_add (by omega) ?_; intro v4 e4
        refine pc_sub (by omega) ?_; intro v5 e5
        refine pc_rA ?_; intro _ _ v6 e6
        have U := un_58 S hx (y := y - 100) (by omega)
        rw [show 16 * (x - 100).toNat + (y - 100).toNat = v5.toNat by omega] at U
        rw [show h (57 + 2) = h 59 from rfl] at e6
        refine pc_if (fun z => pc_ret (.inr ⟨rfl, NO n1 (fun e => absurd e n3) (fun e => absurd e nx) (fun e => absurd e ny) (fun _ _ w => ?_)⟩)) (fun z => Y (.inr (.inr (.inr (.inr ⟨by omega, by omega, ?_⟩)))))
        · rcases U with u | u
          · omega
          · exact u.2 w
        · rcases U with u | u
          · exact u.2
          · omega
      · refine pc_if (fun z => pc_ret (.inr ⟨rfl, NO n1 (fun e => absurd e n3) (fun e => absurd e nx) (fun _ => by omega) (fun _ e => absurd e (by omega))⟩)) (fun z => ?_)
        refine pc_if (fun z => pc_ret (.inr ⟨rfl, NO n1 (fun e => absurd e n3) (fun e => absurd e nx) (fun _ => by omega) (fun _ e => absurd e (by omega))⟩)) (fun z2 => Y (.inr (.inr (.inr (.inl ⟨by omega, by omega, by omega⟩)))))
    refine pc_if (fun z => F71 (by omega)) (fun z1 => ?_)
    refine pc_if (fun z => F71 (by omega)) (fun z2 => ?_)
    refine pc_if (fun z => pc_ret (.inr ⟨rfl, NO n1 (fun e => absurd e n3) (fun _ e => absurd e (by omega)) (fun e => by omega) (fun e => absurd e (by omega))⟩)) (fun z3 => ?_)
    refine pc_if (fun z => pc_ret (.inr ⟨rfl, NO n1 (fun e => absurd e n3) (fun _ e => absurd e (by omega)) (fun e => by omega) (fun e => absurd e (by omega))⟩)) (fun z4 => ?_)
    have hx := X.1 (by omega)
    refine pc_xl ?_; intro v17 e17
    rw [oq_mul_eq (by omega) (by omega) (by omega)] at e17
    refine pc_add (by omega) ?_; intro v18 e18
    refine pc_rA ?_; intro _ _ v19 e19
    have U := un_58 S hx (y := y) (by omega)
    rw [show 16 * x.toNat + y.toNat = v18.toNat by omega] at U
    rw [show h (57 + 2) = h 59 from rfl] at e19
    refine pc_if (fun z => pc_ret (.inr ⟨rfl, NO n1 (fun e => absurd e n3) (fun _ _ w => ?_) (fun e => by omega) (fun e => absurd e (by omega))⟩)) (fun z => Y (.inr (.inr (.inl ⟨by omega, by omega, ?_⟩))))
    · rcases U with u | u
      · omega
      · exact u.2 w
    · rcases U with u | u
      · exact u.2
      · omega
  · have e3 : x = 300 := by omega
    refine pc_if (fun z => pc_ret (.inr ⟨rfl, NO n1 (fun _ => by omega) (fun e => absurd e (by omega)) (fun _ => by omega) (fun e => absurd e (by omega))⟩)) (fun z => ?_)
    refine pc_if (fun z => pc_ret (.inr ⟨rfl, NO n1 (fun _ => by omega) (fun e => absurd e (by omega)) (fun _ => by omega) (fun e => absurd e (by omega))⟩)) (fun z2 => Y (.inr (.inl ⟨e3, by omega, by omega⟩)))
theorem vc_fits (S : CSw Bf nf h) {x y : Int} (X : TIs (h 56 3) x) : Pc (qf_X11_fits nn x y h) (fun u => (u = 1 ∧ FTq Bf nf (h 56 3) x y) ∨ (u = 0 ∧ ¬ FTq Bf nf (h 56 3) x y)) := by
  unfold qf_X11_fits
  refine pc_if (fun z => pc_ret (.inl ⟨rfl, .inl z⟩)) (fun z => ?_)
  refine pc_sv (vc_kfits S X) ?_; intro u3 q3
  refine pc_if (fun y3 => pc_ret (.inr ⟨rfl, fun w => ?_⟩)) (fun y3 => pc_ret (.inl ⟨rfl, .inr ?_⟩))
  · rcases w with w | w
    · exact z w
    · rcases q3 with q | q
      · omega
      · exact q.2 w
  · rcases q3 with q | q
    · exact q.2
    · exact absurd q.1 y3
/-- .. the reference's side -/
theorem vr_un5 (N : NKn Bf nf (h 160 98)) (S : RSv Bf nf h) {x y : Int} (hx : ISc (h 160 98) x) (hy : 0 ≤ y) : ∀ (f m : Nat), m ≤ 17 → (∀ j : Nat, j < m → ¬ ch_F Bf nf (h 160 98) x j = y) → Pc (qw_X13_isUnder_5 nn f y (ch_F Bf nf (h 160 98) x m) (m : Int) h) (fun u => (u = 1 ∧ UNq Bf nf (h 160 98) x y) ∨ (u = 0 ∧ ¬ UNq Bf nf (h 160 98) x y)) := by
  have I := ch_is (Bf := Bf) (nf := nf) S.1.1 (c := x) (.inr hx)
  intro f
  induction f with
  | zero => intro m _ _; exact pc_none
  | succ f ih =>
    intro m hm A
    unfold qw_X13_isUnder_5
    refine pc_if (fun z => pc_ret (.inr ⟨rfl, fun w => ?_⟩)) (fun z => ?_)
    · obtain ⟨j, j1, j2⟩ := ch_lt S.1 hx hy w
      exact A j (by omega) j2
    refine pc_if (fun z1 => pc_ret (.inr ⟨rfl, fun ⟨j, ej⟩ => ?_⟩)) (fun z1 => ?_)
    · by_cases q : j < m
      · exact A j q ej
      · have := ch_mm z1 (j - m)
        rw [show m + (j - m) = j by omega] at this
        omega
    refine pc_if (fun z2 => ?_) (fun z2 => pc_ret (.inl ⟨rfl, m, by omega⟩))
    have w : ISc (h 160 98) (ch_F Bf nf (h 160 98) x m) := by
      rcases I m with w | w
      · exact absurd w z1
      · exact w
    refine pc_sv (vr_super N S w) ?_; intro u2 q2
    refine pc_add (by omega) ?_; intro v3 e3
    rw [q2, ← chv_s w.1, show v3 = ((m + 1 : Nat) : Int) by omega]
    refine ih (m + 1) (by omega) (fun j hj => ?_)
    by_cases e : j = m
    · rw [e]; exact z2
    · exact A j (by omega)
theorem vr_under (N : NKn Bf nf (h 160 98)) (S : RSv Bf nf h) {x y : Int} (hx : ISc (h 160 98) x) (hy : 0 ≤ y) : Pc (qf_X13_isUnder nn x y h) (fun u => (u = 1 ∧ UNq Bf nf (h 160 98) x y) ∨ (u = 0 ∧ ¬ UNq Bf nf (h 160 98) x y)) := by
  unfold qf_X13_isUnder
  exact vr_un5 N S hx hy nn 0 (by omega) (fun j hj => absurd hj (by omega))
theorem vr_row {x y : Int} (T : TYo x y) (t : ¬ x = -1) : Pc (qf_X13_isRow nn y h) (fun u => (u = 1 ∧ (x = 200 ∨ (100 ≤ x ∧ x < 116))) ∨ (u = 0 ∧ ¬ (x = 200 ∨ (100 ≤ x ∧ x < 116)))) := by
  unfold TYo TYj at T
  unfold qf_X13_isRow
  refine pc_if (fun z => pc_ret (.inl ⟨rfl, by omega⟩)) (fun z => ?_)
  refine pc_if (fun z1 => pc_ret (.inr ⟨rfl, by omega⟩)) (fun z1 => ?_)
  refine pc_xl ?_; intro v1 e1
  rw [Int.tmod_eq_emod_of_nonneg (by omega)] at e1
  exact pc_if (fun w => pc_ret (.inr ⟨rfl, by omega⟩)) (fun w => pc_ret (.inl ⟨rfl, by omega⟩))
theorem vr_goes (N : NKn Bf nf (h 160 98)) (S : RSv Bf nf h) {x y a b : Int} (X : TIs (h 160 98) x) (T : TYj x a) (U : TYj y b) : Pc (qf_X13_goes nn a b h) (fun u => (u = 1 ∧ FTq Bf nf (h 160 98) x y) ∨ (u = 0 ∧ ¬ FTq Bf nf (h 160 98) x y)) := by
  have NO : (¬ y = 304) → (¬ x = y) → (x = 300 → ¬ (0 ≤ y ∧ y ≤ 200)) → (0 ≤ x ∧ x < 16 → 0 ≤ y ∧ y < 16 → ¬ UNq Bf nf (h 160 98) x y) → (y = 0 → ¬ (100 ≤ x ∧ x ≤ 200)) → (100 ≤ x ∧ x < 116 → 100 ≤ y ∧ y < 116 → ¬ UNq Bf nf (h 160 98) (x - 100) (y - 100)) → Pc (some (0 : Int)) (fun u => (u = 1 ∧ FTq Bf nf (h 160 98) x y) ∨ (u = 0 ∧ ¬ FTq Bf nf (h 160 98) x y)) := fun n0 n1 n2 n3 n4 n5 => pc_ret (.inr ⟨rfl, fun w => by
    rcases w with w | w | ⟨w1, w2⟩ | ⟨w1, w2, w3⟩ | ⟨w1, w2⟩ | ⟨w1, w2, w3⟩
    · exact n0 w
    · exact n1 w
    · exact n2 w1 w2
    · exact n3 w1 w2 w3
    · exact n4 w1 w2
    · exact n5 w1 w2 w3⟩)
  have TR : Pc (qf_X13_isRow nn a h) (fun u => (u = 1 ∧ (x = 200 ∨ (100 ≤ x ∧ x < 116))) ∨ (u = 0 ∧ ¬ (x = 200 ∨ (100 ≤ x ∧ x < 116)))) := vr_row (.inl T) (by unfold TYj at T; omega)
  unfold TYj at T U
  unfold qf_X13_goes
  refine pc_if (fun z => pc_ret (.inl ⟨rfl, .inl (by omega)⟩)) (fun z0 => ?_)
  refine pc_if (fun z1 => ?_) (fun z1 => pc_ret (.inl ⟨rfl, .inr (.inl (by omega))⟩))
  refine pc_if (fun z => NO (by omega) (by omega) (by omega) (by omega) (by omega) (by omega)) (fun z2 => ?_)
  refine pc_if (fun z => NO (by omega) (by omega) (by omega) (by omega) (by omega) (by omega)) (fun z3 => ?_)
  refine pc_if (fun z => NO (by omega) (by omega) (by omega) (by omega) (by omega) (by omega)) (fun z4 => ?_)
  refine pc_if (fun z5 => ?_) (fun z5 => NO (by omega) (by omega) (by omega) (by omega) (by omega) (by omega))
  refine pc_if (fun z6 => ?_) (fun z6 => pc_ret (.inl ⟨rfl, .inr (.inr (.inl ⟨by omega, by omega, by omega⟩))⟩))
  have F53 : (¬ (y = 0 ∧ (x = 200 ∨ (100 ≤ x ∧ x < 116)))) → Pc (qj_X13_goes_53 nn a b h) (fun u => (u = 1 ∧ FTq Bf nf (h 160 98) x y) ∨ (u = 0 ∧ ¬ FTq Bf nf (h 160 98) x y)) := fun nz => by
    unfold qj_X13_goes_53
    refine pc_if (fun z => NO (by omega) (by omega) (by omega) (by omega) (by omega) (by omega)) (fun z7 => ?_)
    refine pc_if (fun z => NO (by omega) (by omega) (by omega) (by omega) (by omega) (by omega)) (fun z8 => ?_)
    refine pc_xl ?_; intro v1 e1
    rw [Int.tmod_eq_emod_of_nonneg (by omega)] at e1
    refine pc_xl ?_; intro v2 e2
    rw [Int.tmod_eq_emod_of_nonneg (by omega)] at e2
    refine pc_if (fun z9 => ?_) (fun z9 => NO (by omega) (by omega) (by omega) (by omega) (by omega) (by omega))
    refine pc_sub (by omega) ?_; intro v3 e3
    refine pc_xl ?_; intro v4 e4
    rw [Int.tdiv_eq_ediv_of_nonneg (by omega)] at e4
    refine pc_sub (by omega) ?_; intro v5 e5
    refine pc_xl ?_; intro v6 e6
    rw [Int.tdiv_eq_ediv_of_nonneg (by omega)] at e6
    refine pc_if (fun z => absurd z (by omega)) (fun z10 => ?_)
    refine pc_if (fun z => absurd z (by omega)) (fun z11 => ?_)
    by_cases c : x < 16
    · have hx := X.1 (by omega)
      rw [show v4 = x by omega, show v6 = y by omega]
      refine pc_sv (vr_under N S hx (by omega)) ?_; intro u8 q8
      refine pc_if (fun z => NO (by omega) (by omega) (by omega) (fun _ _ w => ?_) (by omega) (by omega)) (fun z => pc_ret (.inl ⟨rfl, .inr (.inr (.inr (.inl ⟨by omega, by omega, ?_⟩)))⟩))
      · rcases q8 with q | q
        · omega
        · exact q.2 w
      · rcases q8 with q | q
        · exact q.2
        · exact absurd q.1 z
    · have hx := X.2 (by omega)
      rw [show v4 = x - 100 by omega, show v6 = y - 100 by omega]
      refine pc_sv (vr_under N S hx (by omega)) ?_; intro u8 q8
      refine pc_if (fun z => NO (by omega) (by omega) (by omega) (by omega) (by omega) (fun _ _ w => ?_)) (fun z => pc_ret (.inl ⟨rfl, .inr (.inr (.inr (.inr (.inr ⟨by omega, by omega, ?_⟩))))⟩))
      · rcases q8 with q | q
        · omega
        · exact q.2 w
      · rcases q8 with q | q
        · exact q.2
        · exact absurd q.1 z
  refine pc_sv TR ?_; intro u15 q15
  refine pc_if (fun z => F53 (by omega)) (fun z => ?_)
  refine pc_if (fun z7 => F53 (by omega)) (fun z7 => pc_ret (.inl ⟨rfl, .inr (.inr (.inr (.inr (.inl ⟨by omega, by omega, by omega⟩))))⟩))
end
end

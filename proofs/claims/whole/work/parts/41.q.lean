section
/- VERIFY: kinds that are there, both sides -/
section
variable {nn : Nat} {Bf : Nat → Nat → Int} {nf : Nat → Nat} {cnt : Int} {B : Nat → Int} {n b k : Nat} {M h g r : ms_M}
theorem kal_f (h2 : GIM B n) {j : Nat} (hj : (j : Int) < fc_S B n) : fk_S B n (kt_S B n j 0) = true := by
  have := (h2.2.1 j hj).2.2
  unfold kt_S; rw [if_pos rfl]; exact this
theorem kal_m (h2 : GIM B n) {i : Nat} (hi : (i : Int) < mc_S B n) : ∃ m : Nat, pi_S B n (kt_S B n i 1) = some m := by
  obtain ⟨m, e, -⟩ := (h2.2.2.2 i hi).2.1
  refine ⟨m, ?_⟩
  unfold kt_S; rw [if_neg (by decide)]; exact e
/-- the flags of a row -/
theorem vc_108 {qk : Int → Int → ms_M → Option (Int × ms_M)} {Q : Int × ms_M → Prop} {l2 : Int} {m : Nat} (m6 : m ≤ 6) (r2 : 0 ≤ l2 ∧ l2 ≤ 1000) : ∀ (f : Nat) (l1 : Int) (j : Nat), (l1 = 0 ∨ l1 = 1) → j ≤ m + 1 → (∀ fl : Int, (fl = 1 ∧ l1 = 1 ∧ (∀ i : Nat, j ≤ i → i ≤ m → ¬ h 131 i = -1)) ∨ (fl = 0 ∧ ¬ (l1 = 1 ∧ ∀ i : Nat, j ≤ i → i ≤ m → ¬ h 131 i = -1)) → Pc (qk fl (l2 + 1) h) Q) → Pc (qw_X11_areKindsThere_108 nn qk f l1 l2 (m : Int) (j : Int) h) Q := by
  intro f
  induction f with
  | zero => intro l1 j _ _ _; exact pc_none
  | succ f ih =>
    intro l1 j b1 hj Hk
    unfold qw_X11_areKindsThere_108
    refine pc_if (fun z => ?_) (fun z => ?_)
    · refine pc_add (by omega) ?_; intro v2 e2
      rw [e2]
      refine Hk l1 ?_
      rcases b1 with q | q
      · exact .inr ⟨q, fun y => by omega⟩
      · exact .inl ⟨q, q, fun i h1 h2 => absurd h1 (by omega)⟩
    · have Z : Pc (qj_X11_areKindsThere_133 nn qk (qw_X11_areKindsThere_108 nn qk f) l2 (m : Int) (j : Int) h) Q ∨ l1 = 1 ∧ ¬ h 131 j = -1 := by
        by_cases w : l1 = 1 ∧ ¬ h 131 j = -1
        · exact .inr w
        · refine .inl ?_
          unfold qj_X11_areKindsThere_133
          refine pc_add (by omega) ?_; intro v1 e1
          rw [show v1 = ((j + 1 : Nat) : Int) by omega]
          refine ih 0 (j + 1) (.inl rfl) (by omega) (fun fl hf => Hk fl ?_)
          rcases hf with ⟨-, y, -⟩ | ⟨y, -⟩
          · exact absurd y (by decide)
          · exact .inr ⟨y, fun x => w ⟨x.1, x.2 j (Nat.le_refl _) (by omega)⟩⟩
      refine pc_if (fun w => ?_) (fun w => ?_)
      · rcases Z with Z | Z
        · exact Z
        · omega
      · refine pc_rA ?_; intro _ _ v4 e4
        rw [Int.toNat_natCast] at e4
        refine pc_if (fun y => ?_) (fun y => ?_)
        · rcases Z with Z | Z
          · exact Z
          · omega
        · refine pc_add (by omega) ?_; intro v5 e5
          rw [show v5 = ((j + 1 : Nat) : Int) by omega]
          refine ih 1 (j + 1) (.inr rfl) (by omega) (fun fl hf => Hk fl ?_)
          rcases hf with ⟨x1, -, x3⟩ | ⟨x1, x2⟩
          · refine .inl ⟨x1, by omega, fun i h1 h2 => ?_⟩
            by_cases ij : i = j
            · rw [ij]; omega
            · exact x3 i (by omega) h2
          · exact .inr ⟨x1, fun q => x2 ⟨rfl, fun i h1 h2 => q.2 i (by omega) h2⟩⟩
/-- what the class asks of a method's kind, of a field's -/
def KMl (Bf : Nat → Nat → Int) (nf : Nat → Nat) (cnt : Int) (B : Nat → Int) (n i : Nat) : Prop := (∀ j : Nat, j < pm_S B n (kt_S B n i 1) → ¬ kq_F Bf nf cnt B (ps_S B n (kt_S B n i 1) j) (ps_S B n (kt_S B n i 1) (j + 1)) = -1) ∧ ¬ kq_F Bf nf cnt B (ps_S B n (kt_S B n i 1) (pm_S B n (kt_S B n i 1)) + 1) (na_S B n (kt_S B n i 1) + tl_S B n (kt_S B n i 1)) = -1
def KFl (Bf : Nat → Nat → Int) (nf : Nat → Nat) (cnt : Int) (B : Nat → Int) (n j : Nat) : Prop := ¬ kq_F Bf nf cnt B (na_S B n (kt_S B n j 0)) (na_S B n (kt_S B n j 0) + tl_S B n (kt_S B n j 0)) = -1
theorem vc_68 (hn : 1000000 ≤ nn) (hk : (k : Int) < h 56 3) (S0 : CSv Bf nf h) (e5 : h 127 5 = h 60 k) : ∀ (f : Nat) (l1 : Int) (i : Nat) (M : ms_M), (l1 = 0 ∨ l1 = 1) → (∀ c j : Nat, ¬ c = 131 → M c j = h c j) → Pc (qw_X11_areKindsThere_68 nn f l1 (i : Int) M) (fun u => (∀ c j : Nat, ¬ c = 131 → u.2 c j = h c j) ∧ ((u.1 = 1 ∧ l1 = 1 ∧ ∀ j : Nat, i ≤ j → (j : Int) < mc_S (Bf k) (nf k) → KMl Bf nf (h 56 3) (Bf k) (nf k) j) ∨ (u.1 = 0 ∧ ¬ (l1 = 1 ∧ ∀ j : Nat, i ≤ j → (j : Int) < mc_S (Bf k) (nf k) → KMl Bf nf (h 56 3) (Bf k) (nf k) j)))) := by
  obtain ⟨G, -, -, -⟩ := cg_im (S0.2 k hk)
  have g3 := G.2.2.1
  intro f
  induction f with
  | zero => intro l1 i M _ _; exact pc_none
  | succ f ih =>
    intro l1 i M b1 W
    have S : CSv Bf nf M := csv_k S0 (fun c j _ z => W c j (by omega))
    have c3 : M 56 3 = h 56 3 := W 56 3 (by omega)
    have c60 : M 60 k = h 60 k := W 60 k (by omega)
    have X := S.2 k (by omega)
    have e12 := (cg_im X).2.2.1
    have eM : M 127 5 = h 60 k := (W 127 5 (by omega)).trans e5
    rw [c60] at e12
    unfold qw_X11_areKindsThere_68
    rw [eM]
    refine pc_ck (fun _ => ?_)
    refine pc_ck (fun _ => ?_)
    refine pc_if (fun z => ?_) (fun z => ?_)
    · refine pc_ck (fun _ => pc_ret ⟨W, ?_⟩)
      rcases b1 with q | q
      · exact .inr ⟨q, fun y => by omega⟩
      · exact .inl ⟨q, q, fun j h1 h2 => absurd h2 (by omega)⟩
    · have hi : (i : Int) < mc_S (Bf k) (nf k) := by omega
      refine pc_ck (fun _ => ?_)
      refine pc_ck (fun _ => ?_)
      obtain ⟨m, em⟩ := kal_m G hi
      obtain ⟨pe, -, KD⟩ := ps_ok em
      have m6 := KD.1.2.2
      have D := (cg_im X).2.2.2 i hi
      rw [c60] at D
      have q := vq_of (nn := nn) X hi (w := 2) (x := kt_S (Bf k) (nf k) i 1) (by decide) (by rw [c60, D.1.2.2.1]; unfold kt_S; rw [if_neg (by decide)])
      rw [c60] at q
      refine pc_sv q ?_; intro u16 q16
      rw [q16]
      have q2 := vc_readM hn S (a := 0) (by decide) em (k := k) (by omega)
      rw [c60, c3, show ((0 : Nat) : Int) = 0 from rfl] at q2
      refine pc_sv q2 ?_; intro u19 ⟨r1, r2, r3, r4⟩
      rw [r1, pe]
      rw [pe] at r2 r3 r4
      have W2 : ∀ c j : Nat, ¬ c = 131 → u19.2 c j = h c j := fun c j z => by rw [r2 c j (by omega)]; exact W c j z
      have EQ : (∀ j : Nat, 0 ≤ j → j ≤ m → ¬ u19.2 131 j = -1) ↔ KMl Bf nf (h 56 3) (Bf k) (nf k) i := by
        unfold KMl
        rw [pe]
        constructor
        · intro A
          refine ⟨fun j hj => ?_, ?_⟩
          · have a := A (0 + 1 + j) (Nat.zero_le _) (by omega)
            rw [r4 j hj] at a; exact a
          · have a := A 0 (Nat.zero_le _) (Nat.zero_le _)
            rw [r3] at a; exact a
        · intro ⟨A1, A2⟩ j _ hj
          by_cases j0 : j = 0
          · rw [j0, r3]; exact A2
          · have a := A1 (j - 1) (by omega)
            rw [← r4 (j - 1) (by omega), show 0 + 1 + (j - 1) = j by omega] at a; exact a
      refine vc_108 m6 (by omega) nn l1 0 b1 (by omega) (fun fl hf => ?_)
      rw [show (i : Int) + 1 = ((i + 1 : Nat) : Int) by omega]
      refine pc_imp (ih fl (i + 1) u19.2 (by rcases hf with y | y; exact .inr y.1; exact .inl y.1) W2) (fun u ⟨y1, y2⟩ => ⟨y1, ?_⟩)
      rcases y2 with ⟨x1, x2, x3⟩ | ⟨x1, x2⟩
      · rcases hf with ⟨f1, f2, f3⟩ | ⟨f1, f2⟩
        · refine .inl ⟨x1, f2, fun j h1 h2 => ?_⟩
          by_cases ji : j = i
          · rw [ji]; exact EQ.1 f3
          · exact x3 j (by omega) h2
        · omega
      · refine .inr ⟨x1, fun ⟨y3, y4⟩ => ?_⟩
        rcases hf with ⟨f1, f2, f3⟩ | ⟨f1, f2⟩
        · exact x2 ⟨f1, fun j h1 h2 => y4 j (by omega) h2⟩
        · exact f2 ⟨y3, EQ.2 (y4 i (Nat.le_refl _) hi)⟩
theorem vc_4 (hn : 1000000 ≤ nn) (hk : (k : Int) < h 56 3) (S0 : CSv Bf nf h) (e5 : h 127 5 = h 60 k) : ∀ (f : Nat) (l1 : Int) (i : Nat) (M : ms_M), (l1 = 0 ∨ l1 = 1) → (∀ c j : Nat, ¬ c = 131 → M c j = h c j) → Pc (qw_X11_areKindsThere_4 nn f l1 (i : Int) M) (fun u => (∀ c j : Nat, ¬ c = 131 → u.2 c j = h c j) ∧ ((u.1 = 1 ∧ l1 = 1 ∧ (∀ j : Nat, i ≤ j → (j : Int) < fc_S (Bf k) (nf k) → KFl Bf nf (h 56 3) (Bf k) (nf k) j) ∧ ∀ j : Nat, (j : Int) < mc_S (Bf k) (nf k) → KMl Bf nf (h 56 3) (Bf k) (nf k) j) ∨ (u.1 = 0 ∧ ¬ (l1 = 1 ∧ (∀ j : Nat, i ≤ j → (j : Int) < fc_S (Bf k) (nf k) → KFl Bf nf (h 56 3) (Bf k) (nf k) j) ∧ ∀ j : Nat, (j : Int) < mc_S (Bf k) (nf k) → KMl Bf nf (h 56 3) (Bf k) (nf k) j)))) := by
  obtain ⟨G, -, -, -⟩ := cg_im (S0.2 k hk)
  have g3 := G.1
  intro f
  induction f with
  | zero => intro l1 i M _ _; exact pc_none
  | succ f ih =>
    intro l1 i M b1 W
    have S : CSv Bf nf M := csv_k S0 (fun c j _ z => W c j (by omega))
    have c3 : M 56 3 = h 56 3 := W 56 3 (by omega)
    have c60 : M 60 k = h 60 k := W 60 k (by omega)
    have X := S.2 k (by omega)
    have e10 := (cg_im X).2.1.1
    have eM : M 127 5 = h 60 k := (W 127 5 (by omega)).trans e5
    rw [c60] at e10
    unfold qw_X11_areKindsThere_4
    rw [eM]
    refine pc_ck (fun _ => ?_)
    refine pc_ck (fun _ => ?_)
    refine pc_if (fun z => ?_) (fun z => ?_)
    · refine pc_imp (vc_68 hn hk S0 e5 nn l1 0 M b1 W) (fun u ⟨y1, y2⟩ => ⟨y1, ?_⟩)
      rcases y2 with ⟨x1, x2, x3⟩ | ⟨x1, x2⟩
      · exact .inl ⟨x1, x2, fun j h1 h2 => absurd h2 (by omega), fun j h2 => x3 j (Nat.zero_le _) h2⟩
      · exact .inr ⟨x1, fun y => x2 ⟨y.1, fun j _ h2 => y.2.2 j h2⟩⟩
    · have hi : (i : Int) < fc_S (Bf k) (nf k) := by omega
      refine pc_ck (fun _ => ?_)
      refine pc_ck (fun _ => ?_)
      have ek := kal_f G hi
      have q := (vq_cfn (nn := nn) X hi).2
      rw [c60] at q
      refine pc_sv q ?_; intro u28 q28
      rw [show u28 = kt_S (Bf k) (nf k) i 0 by rw [q28]; unfold kt_S; rw [if_pos rfl]]
      have q2 := vc_readF (nn := nn) S (a := 0) (by decide) ek (k := k) (by omega)
      rw [c60, c3, show ((0 : Nat) : Int) = 0 from rfl] at q2
      refine pc_sv q2 ?_; intro u31 ⟨r1, r2⟩
      have W2 : ∀ c j : Nat, ¬ c = 131 → u31.2 c j = h c j := fun c j z => by rw [r2, up_n (by omega)]; exact W c j z
      have N : ∀ fl : Int, (fl = 1 ∧ l1 = 1 ∧ KFl Bf nf (h 56 3) (Bf k) (nf k) i) ∨ (fl = 0 ∧ ¬ (l1 = 1 ∧ KFl Bf nf (h 56 3) (Bf k) (nf k) i)) → Pc (qw_X11_areKindsThere_4 nn f fl ((i + 1 : Nat) : Int) u31.2) (fun u => (∀ c j : Nat, ¬ c = 131 → u.2 c j = h c j) ∧ ((u.1 = 1 ∧ l1 = 1 ∧ (∀ j : Nat, i ≤ j → (j : Int) < fc_S (Bf k) (nf k) → KFl Bf nf (h 56 3) (Bf k) (nf k) j) ∧ ∀ j : Nat, (j : Int) < mc_S (Bf k) (nf k) → KMl Bf nf (h 56 3) (Bf k) (nf k) j) ∨ (u.1 = 0 ∧ ¬ (l1 = 1 ∧ (∀ j : Nat, i ≤ j → (j : Int) < fc_S (Bf k) (nf k) → KFl Bf nf (h 56 3) (Bf k) (nf k) j) ∧ ∀ j : Nat, (j : Int) < mc_S (Bf k) (nf k) → KMl Bf nf (h 56 3) (Bf k) (nf k) j)))) := fun fl hf => by
        refine pc_imp (ih fl (i + 1) u31.2 (by rcases hf with y | y; exact .inr y.1; exact .inl y.1) W2) (fun u ⟨y1, y2⟩ => ⟨y1, ?_⟩)
        rcases y2 with ⟨x1, x2, x3, x4⟩ | ⟨x1, x2⟩
        · rcases hf with ⟨f1, f2, f3⟩ | ⟨f1, f2⟩
          · refine .inl ⟨x1, f2, fun j h1 h2 => ?_, x4⟩
            by_cases ji : j = i
            · rw [ji]; exact f3
            · exact x3 j (by omega) h2
          · omega
        · refine .inr ⟨x1, fun ⟨y3, y4, y5⟩ => ?_⟩
          rcases hf with ⟨f1, f2, f3⟩ | ⟨f1, f2⟩
          · exact x2 ⟨f1, fun j h1 h2 => y4 j (by omega) h2, y5⟩
          · exact f2 ⟨y3, y4 i (Nat.le_refl _) hi⟩
      have v31 : u31.2 131 0 = kq_F Bf nf (h 56 3) (Bf k) (na_S (Bf k) (nf k) (kt_S (Bf k) (nf k) i 0)) (na_S (Bf k) (nf k) (kt_S (Bf k) (nf k) i 0) + tl_S (Bf k) (nf k) (kt_S (Bf k) (nf k) i 0)) := by rw [r2, up_s]
      have Z : ¬ (l1 = 1 ∧ KFl Bf nf (h 56 3) (Bf k) (nf k) i) → Pc (qj_X11_areKindsThere_58 nn (qw_X11_areKindsThere_4 nn f) (i : Int) u31.2) (fun u => (∀ c j : Nat, ¬ c = 131 → u.2 c j = h c j) ∧ ((u.1 = 1 ∧ l1 = 1 ∧ (∀ j : Nat, i ≤ j → (j : Int) < fc_S (Bf k) (nf k) → KFl Bf nf (h 56 3) (Bf k) (nf k) j) ∧ ∀ j : Nat, (j : Int) < mc_S (Bf k) (nf k) → KMl Bf nf (h 56 3) (Bf k) (nf k) j) ∨ (u.1 = 0 ∧ ¬ (l1 = 1 ∧ (∀ j : Nat, i ≤ j → (j : Int) < fc_S (Bf k) (nf k) → KFl Bf nf (h 56 3) (Bf k) (nf k) j) ∧ ∀ j : Nat, (j : Int) < mc_S (Bf k) (nf k) → KMl Bf nf (h 56 3) (Bf k) (nf k) j)))) := fun w => by
        unfold qj_X11_areKindsThere_58
        refine pc_add (by omega) ?_; intro v21 e21
        rw [show v21 = ((i + 1 : Nat) : Int) by omega]
        exact N 0 (.inr ⟨rfl, w⟩)
      refine pc_if (fun w => Z (fun y => by omega)) (fun w => ?_)
      refine pc_rA ?_; intro _ _ v33 e33
      rw [show (0 : Int).toNat = 0 from rfl, v31] at e33
      refine pc_if (fun y => Z (fun x => x.2 (by rw [← e33]; exact y))) (fun y => ?_)
      refine pc_add (by omega) ?_; intro v34 e34
      rw [show v34 = ((i + 1 : Nat) : Int) by omega]
      refine N 1 (.inl ⟨rfl, by omega, ?_⟩)
      unfold KFl
      rw [← e33]; exact y
/-- THE CLASS: ARE THE KINDS THERE -/
theorem vc_kinds (hn : 1000000 ≤ nn) (S : CSv Bf nf h) (hk : (k : Int) < h 56 3) (e5 : h 127 5 = h 60 k) : Pc (qf_X11_areKindsThere nn h) (fun u => (∀ c j : Nat, ¬ c = 131 → u.2 c j = h c j) ∧ ((u.1 = 1 ∧ KAl Bf nf (h 56 3) (Bf k) (nf k)) ∨ (u.1 = 0 ∧ ¬ KAl Bf nf (h 56 3) (Bf k) (nf k)))) := by
  unfold qf_X11_areKindsThere
  refine pc_imp (vc_4 hn hk S e5 nn 1 0 h (.inr rfl) (fun _ _ _ => rfl)) (fun u ⟨y1, y2⟩ => ⟨y1, ?_⟩)
  rcases y2 with ⟨x1, -, x3, x4⟩ | ⟨x1, x2⟩
  · exact .inl ⟨x1, fun j hj => x3 j (Nat.zero_le _) hj, x4⟩
  · exact .inr ⟨x1, fun y => x2 ⟨rfl, fun j _ hj => y.1 j hj, y.2⟩⟩
/- the reference -/
theorem vr_84 (N : NKn Bf nf cnt) (k8 : k < 8) {t : Int} {m : Nat} (hp : pi_S (Bf k) (nf k) t = some m) (he : na_S (Bf k) (nf k) t + tl_S (Bf k) (nf k) t ≤ nf k) (n6 : nf k ≤ 6000) {l3 : Int} (r3 : 0 ≤ l3 ∧ l3 ≤ 1000) {qk : Int → Int → Int → ms_M → Option (Int × ms_M)} {Q : Int × ms_M → Prop} {h0 : ms_M} (Hk : ∀ (fl : Int) (g : ms_M), OTH h0 g → ((fl = 1 ∧ (∀ j : Nat, j < m → ¬ kq_F Bf nf cnt (Bf k) (ps_S (Bf k) (nf k) t j) (ps_S (Bf k) (nf k) t (j + 1)) = -1) ∧ ¬ kq_F Bf nf cnt (Bf k) (ps_S (Bf k) (nf k) t m + 1) (na_S (Bf k) (nf k) t + tl_S (Bf k) (nf k) t) = -1) ∨ (fl = 0 ∧ ¬ ((∀ j : Nat, j < m → ¬ kq_F Bf nf cnt (Bf k) (ps_S (Bf k) (nf k) t j) (ps_S (Bf k) (nf k) t (j + 1)) = -1) ∧ ¬ kq_F Bf nf cnt (Bf k) (ps_S (Bf k) (nf k) t m + 1) (na_S (Bf k) (nf k) t + tl_S (Bf k) (nf k) t) = -1))) → Pc (qk (k : Int) fl (l3 + 1) g) Q) : ∀ (f j : Nat) (l2 : Int) (h : ms_M), RSv Bf nf h → h 160 98 = cnt → (k : Int) < cnt → 0 ≤ h 160 117 → OTH h0 h → j ≤ m → ((l2 = 1 ∧ ∀ i : Nat, i < j → ¬ kq_F Bf nf cnt (Bf k) (ps_S (Bf k) (nf k) t i) (ps_S (Bf k) (nf k) t (i + 1)) = -1) ∨ (l2 = 0 ∧ ¬ ∀ i : Nat, i < m → ¬ kq_F Bf nf cnt (Bf k) (ps_S (Bf k) (nf k) t i) (ps_S (Bf k) (nf k) t (i + 1)) = -1)) → Pc (qw_X13_kindsAreThere_84 nn qk f (k : Int) l2 l3 ((6000 * k + ps_S (Bf k) (nf k) t j : Nat) : Int) h) Q := by
  obtain ⟨em, t1, K⟩ := ps_ok hp
  have rg := mkd_rg K
  obtain ⟨⟨k1, k2, k3⟩, K1, K2, K3⟩ := K
  generalize hs : na_S (Bf k) (nf k) t + tl_S (Bf k) (nf k) t = s at *
  have Z : ∀ g : ms_M, OTH h0 g → ¬ ((∀ j : Nat, j < m → ¬ kq_F Bf nf cnt (Bf k) (ps_S (Bf k) (nf k) t j) (ps_S (Bf k) (nf k) t (j + 1)) = -1) ∧ ¬ kq_F Bf nf cnt (Bf k) (ps_S (Bf k) (nf k) t m + 1) s = -1) → Pc (qj_X13_kindsAreThere_141 nn qk (k : Int) l3 g) Q := fun g O z => by
    unfold qj_X13_kindsAreThere_141
    refine pc_add (by omega) ?_; intro v1 e1
    rw [e1]
    exact Hk 0 g O (.inr ⟨rfl, z⟩)
  intro f
  induction f with
  | zero => intro j l2 h _ _ _ _ _ _ _; exact pc_none
  | succ f ih =>
    intro j l2 h S ec hk h7 O hj F
    have rj := rg j hj
    unfold qw_X13_kindsAreThere_84
    refine pc_rA ?_; intro _ _ v10 e10
    rw [Int.toNat_natCast, tb_by S (by omega) (by omega)] at e10
    have E : (v10 = 41 ∨ l2 = 0) → Pc (qj_X13_kindsAreThere_119 nn qk (k : Int) l2 l3 ((6000 * k + ps_S (Bf k) (nf k) t j : Nat) : Int) h) Q := fun w => by
      unfold qj_X13_kindsAreThere_119
      refine pc_if (fun y => ?_) (fun y => ?_)
      · refine Z h O (fun x => ?_)
        rcases F with ⟨f1, f2⟩ | ⟨f1, f2⟩
        · omega
        · exact f2 x.1
      · have jm : j = m := Classical.byContradiction fun q => (K1 j (by omega)).2 (by omega)
        have f2 : ∀ i : Nat, i < m → ¬ kq_F Bf nf cnt (Bf k) (ps_S (Bf k) (nf k) t i) (ps_S (Bf k) (nf k) t (i + 1)) = -1 := by
          rcases F with ⟨f1, f2⟩ | ⟨f1, f2⟩
          · rw [jm] at f2; exact f2
          · omega
        refine pc_add (by omega) ?_; intro v2 e2
        rw [show v2 = ((6000 * k + (ps_S (Bf k) (nf k) t m + 1) : Nat) : Int) by rw [e2, jm]; omega]
        have q := vr_kind (nn := nn) (by rw [ec]; exact N) S h7 (by omega) K3 he
        rw [ec] at q
        refine pc_sv q ?_; intro u4 ⟨o4, _, c4⟩
        refine pc_sv (vr_there c4) ?_; intro u5 q5
        refine pc_if (fun z => ?_) (fun z => ?_)
        · refine Z u4.2 (oth_t O o4) (fun x => ?_)
          rcases q5 with q5 | q5
          · exact x.2 q5.2
          · omega
        · refine pc_add (by omega) ?_; intro v6 e6
          rw [e6]
          refine Hk 1 u4.2 (oth_t O o4) (.inl ⟨rfl, f2, ?_⟩)
          rcases q5 with q5 | q5
          · omega
          · exact q5.2
    refine pc_if (fun z => E (.inl z)) (fun z => pc_if (fun w => E (.inr w)) (fun w => ?_))
    have jm : j < m := Classical.byContradiction fun q => z (by rw [e10, show j = m by omega]; exact K2.1)
    have kd := (K1 j jm).1
    have kr := kd_rg kd
    have q := vr_kind (nn := nn) (by rw [ec]; exact N) S h7 (by omega) (kd_s kd).1 (by omega)
    rw [ec] at q
    refine pc_sv q ?_; intro u12 ⟨o12, q12, c12⟩
    refine pc_sv (vr_there c12) ?_; intro u13 q13
    rw [q12]
    have f2 : ∀ i : Nat, i < j → ¬ kq_F Bf nf cnt (Bf k) (ps_S (Bf k) (nf k) t i) (ps_S (Bf k) (nf k) t (i + 1)) = -1 := by
      rcases F with ⟨f1, f2⟩ | ⟨f1, f2⟩
      · exact f2
      · omega
    refine ih (j + 1) u13 u12.2 (rsv_o S o12) ((o12.1 160 98 (by omega) (by omega) (by omega)).trans ec) hk (o12.2 h7) (oth_t O o12) (by omega) ?_
    rcases q13 with q13 | q13
    · exact .inr ⟨q13.1, fun x => x j jm q13.2⟩
    · refine .inl ⟨q13.1, fun i hi => ?_⟩
      by_cases ij : i = j
      · rw [ij]; exact q13.2
      · exact f2 i (by omega)
end
end
section
/- VERIFY: kinds that are there, the reference's side -/
section
variable {nn : Nat} {Bf : Nat → Nat → Int} {nf : Nat → Nat} {cnt : Int} {B : Nat → Int} {n b k : Nat} {M h g r h0 : ms_M}
theorem pi_le (S : RSv Bf nf h) (hk : (k : Int) < h 160 98) {t : Int} (t1 : tg_S (Bf k) (nf k) t = 1) : na_S (Bf k) (nf k) t + tl_S (Bf k) (nf k) t ≤ nf k ∧ 1 ≤ tl_S (Bf k) (nf k) t ∧ tl_S (Bf k) (nf k) t ≤ 120 ∧ Bf k (pl_S (Bf k) (nf k) t + 1) = (tl_S (Bf k) (nf k) t : Int) ∧ (1 ≤ t ∧ t ≤ Bf k 2) ∧ h 228 (256 * (k : Int) + t).toNat = (pl_S (Bf k) (nf k) t : Int) ∧ Bf k 2 ≤ 255 := by
  obtain ⟨i1, i2, i3⟩ := tg_in (B := Bf k) (n := nf k) (k := t) (by omega)
  obtain ⟨a1, a2, a3⟩ := tb_pl S hk i1 i2
  have b := a2.2.1 (by omega)
  have ena : na_S (Bf k) (nf k) t = pl_S (Bf k) (nf k) t + 2 := rfl
  exact ⟨by omega, b.2.1, b.2.2.1, b.2.2.2, ⟨i1, i2⟩, a1, a3⟩
theorem vr_42 (N : NKn Bf nf cnt) (hz : 0 ≤ h0 160 117) (hk : (k : Int) < cnt) : ∀ (f i : Nat) (l2 : Int) (h : ms_M), RSv Bf nf h → h 160 98 = cnt → 0 ≤ h 160 117 → OTH h0 h → (l2 = 0 ∨ l2 = 1) → Pc (qw_X13_kindsAreThere_42 nn f (k : Int) l2 (i : Int) h) (fun u => OTH h0 u.2 ∧ ((u.1 = 1 ∧ l2 = 1 ∧ ∀ j : Nat, i ≤ j → (j : Int) < mc_S (Bf k) (nf k) → KMl Bf nf cnt (Bf k) (nf k) j) ∨ (u.1 = 0 ∧ ¬ (l2 = 1 ∧ ∀ j : Nat, i ≤ j → (j : Int) < mc_S (Bf k) (nf k) → KMl Bf nf cnt (Bf k) (nf k) j)))) := by
  intro f
  induction f with
  | zero => intro i l2 h _ _ _ _ _; exact pc_none
  | succ f ih =>
    intro i l2 h S ec h7 O b1
    have hk' : (k : Int) < h 160 98 := by omega
    obtain ⟨n6, k8⟩ := tb_n6 S hk'
    obtain ⟨G, -, e34, M1⟩ := rg_im (S.2 k hk')
    have g3 := G.2.2.1
    unfold qw_X13_kindsAreThere_42
    refine pc_rA ?_; intro _ _ v18 e18
    rw [e34] at e18
    refine pc_if (fun z => ?_) (fun z => ?_)
    · refine pc_ck (fun _ => pc_ret ⟨O, ?_⟩)
      rcases b1 with q | q
      · exact .inr ⟨q, fun y => by omega⟩
      · exact .inl ⟨q, q, fun j h1 h2 => absurd h2 (by omega)⟩
    refine pc_if (fun w => pc_ck (fun _ => pc_ret ⟨O, .inr ⟨w, fun y => by omega⟩⟩)) (fun w => ?_)
    have l1 : l2 = 1 := by omega
    have hi : (i : Int) < mc_S (Bf k) (nf k) := by omega
    obtain ⟨m, em⟩ := kal_m G hi
    obtain ⟨pe, t1, KD⟩ := ps_ok em
    obtain ⟨p1, p2, p3, p4, p5, p6, p7⟩ := pi_le S hk' t1
    have ena : na_S (Bf k) (nf k) (kt_S (Bf k) (nf k) i 1) = pl_S (Bf k) (nf k) (kt_S (Bf k) (nf k) i 1) + 2 := rfl
    refine pc_xl ?_; intro v21 e21
    rw [oq_mul_eq (by omega) (by omega) (by omega)] at e21
    refine pc_xl ?_; intro v23 e23
    rw [oq_mul_eq (by omega) (by omega) (by omega)] at e23
    refine pc_sv ((vq_rtx (nn := nn) S hk' (j := i) (s := 1) (by unfold mb_S; rw [if_neg (by decide)]; exact hi)).2) ?_; intro u25 q25
    rw [q25]
    refine pc_add (by omega) ?_; intro v26 e26
    refine pc_rA ?_; intro _ _ v27 e27
    rw [show v26 = 256 * (k : Int) + kt_S (Bf k) (nf k) i 1 by omega, p6] at e27
    refine pc_add (by omega) ?_; intro v28 e28
    refine pc_add (by omega) ?_; intro v29 e29
    have e0 := KD.1.2.1
    rw [show v29 = ((6000 * k + ps_S (Bf k) (nf k) (kt_S (Bf k) (nf k) i 1) 0 : Nat) : Int) by omega]
    refine vr_84 (h0 := h0) N k8 em p1 n6 (by omega) (fun fl g Og hf => ?_) nn 0 l2 h S ec hk h7 O (Nat.zero_le _) (.inl ⟨l1, fun i hi => absurd hi (by omega)⟩)
    rw [show (i : Int) + 1 = ((i + 1 : Nat) : Int) by omega]
    have EQ : ((∀ j : Nat, j < m → ¬ kq_F Bf nf cnt (Bf k) (ps_S (Bf k) (nf k) (kt_S (Bf k) (nf k) i 1) j) (ps_S (Bf k) (nf k) (kt_S (Bf k) (nf k) i 1) (j + 1)) = -1) ∧ ¬ kq_F Bf nf cnt (Bf k) (ps_S (Bf k) (nf k) (kt_S (Bf k) (nf k) i 1) m + 1) (na_S (Bf k) (nf k) (kt_S (Bf k) (nf k) i 1) + tl_S (Bf k) (nf k) (kt_S (Bf k) (nf k) i 1)) = -1) ↔ KMl Bf nf cnt (Bf k) (nf k) i := by unfold KMl; rw [pe]
    rw [EQ] at hf
    have Sg : RSv Bf nf g ∧ g 160 98 = cnt ∧ 0 ≤ g 160 117 := by
      have a1 : ∀ x j : Nat, ¬ (x = 160 ∧ (j = 117 ∨ j = 120)) → ¬ x = 240 → ¬ x = 241 → g x j = h x j := fun x j z1 z2 z3 => (Og.1 x j z1 z2 z3).trans (O.1 x j z1 z2 z3).symm
      refine ⟨rsv_k S (fun x j z => a1 x j (by omega) (by omega) (by omega)) (a1 160 98 (by omega) (by omega) (by omega)), (a1 160 98 (by omega) (by omega) (by omega)).trans ec, ?_⟩
      exact Og.2 hz
    refine pc_imp (ih (i + 1) fl g Sg.1 Sg.2.1 Sg.2.2 Og (by rcases hf with y | y; exact .inr y.1; exact .inl y.1)) (fun u ⟨y1, y2⟩ => ⟨y1, ?_⟩)
    rcases y2 with ⟨x1, x2, x3⟩ | ⟨x1, x2⟩
    · rcases hf with ⟨f1, f2⟩ | ⟨f1, f2⟩
      · refine .inl ⟨x1, l1, fun j h1 h2 => ?_⟩
        by_cases ji : j = i
        · rw [ji]; exact f2
        · exact x3 j (by omega) h2
      · omega
    · refine .inr ⟨x1, fun ⟨y3, y4⟩ => ?_⟩
      rcases hf with ⟨f1, f2⟩ | ⟨f1, f2⟩
      · exact x2 ⟨f1, fun j h1 h2 => y4 j (by omega) h2⟩
      · exact f2 (y4 i (Nat.le_refl _) hi)
theorem vr_4 (N : NKn Bf nf cnt) (hz : 0 ≤ h0 160 117) (hk : (k : Int) < cnt) : ∀ (f i : Nat) (l2 : Int) (h : ms_M), RSv Bf nf h → h 160 98 = cnt → 0 ≤ h 160 117 → OTH h0 h → (l2 = 0 ∨ l2 = 1) → Pc (qw_X13_kindsAreThere_4 nn f (k : Int) l2 (i : Int) h) (fun u => OTH h0 u.2 ∧ ((u.1 = 1 ∧ l2 = 1 ∧ (∀ j : Nat, i ≤ j → (j : Int) < fc_S (Bf k) (nf k) → KFl Bf nf cnt (Bf k) (nf k) j) ∧ ∀ j : Nat, (j : Int) < mc_S (Bf k) (nf k) → KMl Bf nf cnt (Bf k) (nf k) j) ∨ (u.1 = 0 ∧ ¬ (l2 = 1 ∧ (∀ j : Nat, i ≤ j → (j : Int) < fc_S (Bf k) (nf k) → KFl Bf nf cnt (Bf k) (nf k) j) ∧ ∀ j : Nat, (j : Int) < mc_S (Bf k) (nf k) → KMl Bf nf cnt (Bf k) (nf k) j)))) := by
  intro f
  induction f with
  | zero => intro i l2 h _ _ _ _ _; exact pc_none
  | succ f ih =>
    intro i l2 h S ec h7 O b1
    have hk' : (k : Int) < h 160 98 := by omega
    obtain ⟨n6, k8⟩ := tb_n6 S hk'
    obtain ⟨G, ⟨e32, F1⟩, -⟩ := rg_im (S.2 k hk')
    have g3 := G.1
    unfold qw_X13_kindsAreThere_4
    refine pc_rA ?_; intro _ _ v33 e33
    rw [e32] at e33
    have T : (v33 ≤ (i : Int) ∨ l2 = 0) → Pc (qw_X13_kindsAreThere_42 nn nn (k : Int) l2 0 h) (fun u => OTH h0 u.2 ∧ ((u.1 = 1 ∧ l2 = 1 ∧ (∀ j : Nat, i ≤ j → (j : Int) < fc_S (Bf k) (nf k) → KFl Bf nf cnt (Bf k) (nf k) j) ∧ ∀ j : Nat, (j : Int) < mc_S (Bf k) (nf k) → KMl Bf nf cnt (Bf k) (nf k) j) ∨ (u.1 = 0 ∧ ¬ (l2 = 1 ∧ (∀ j : Nat, i ≤ j → (j : Int) < fc_S (Bf k) (nf k) → KFl Bf nf cnt (Bf k) (nf k) j) ∧ ∀ j : Nat, (j : Int) < mc_S (Bf k) (nf k) → KMl Bf nf cnt (Bf k) (nf k) j)))) := fun w => by
      refine pc_imp (vr_42 N hz hk nn 0 l2 h S ec h7 O b1) (fun u ⟨y1, y2⟩ => ⟨y1, ?_⟩)
      rcases y2 with ⟨x1, x2, x3⟩ | ⟨x1, x2⟩
      · exact .inl ⟨x1, x2, fun j h1 h2 => absurd h2 (by omega), fun j h2 => x3 j (Nat.zero_le _) h2⟩
      · exact .inr ⟨x1, fun y => x2 ⟨y.1, fun j _ h2 => y.2.2 j h2⟩⟩
    refine pc_if (fun z => T (.inl z)) (fun z => pc_if (fun w => T (.inr w)) (fun w => ?_))
    have l1 : l2 = 1 := by omega
    have hi : (i : Int) < fc_S (Bf k) (nf k) := by omega
    have ek := kal_f G hi
    unfold fk_S at ek
    rw [Bool.and_eq_true] at ek
    obtain ⟨p1, p2, p3, p4, p5, p6, p7⟩ := pi_le S hk' (of_decide_eq_true ek.1)
    obtain ⟨K, kr, -⟩ := kd_s (of_decide_eq_true ek.2)
    refine pc_sv ((vq_rtx (nn := nn) S hk' (j := i) (s := 0) (by unfold mb_S; rw [if_pos rfl]; exact hi)).2) ?_; intro u35 q35
    rw [q35]
    have ena : na_S (Bf k) (nf k) (kt_S (Bf k) (nf k) i 0) = pl_S (Bf k) (nf k) (kt_S (Bf k) (nf k) i 0) + 2 := rfl
    refine pc_sv (P := fun u => OTH h u.2 ∧ TKo (kq_F Bf nf cnt (Bf k) (na_S (Bf k) (nf k) (kt_S (Bf k) (nf k) i 0)) (na_S (Bf k) (nf k) (kt_S (Bf k) (nf k) i 0) + tl_S (Bf k) (nf k) (kt_S (Bf k) (nf k) i 0))) u.1) ?_ ?_
    · unfold qf_X13_kindType
      refine pc_xl ?_; intro v1 e1
      rw [oq_mul_eq (by omega) (by omega) (by omega)] at e1
      refine pc_xl ?_; intro v3 e3
      rw [oq_mul_eq (by omega) (by omega) (by omega)] at e3
      refine pc_add (by omega) ?_; intro v4 e4
      refine pc_rA ?_; intro _ _ v5 e5
      rw [show v4 = 256 * (k : Int) + kt_S (Bf k) (nf k) i 0 by omega, p6] at e5
      refine pc_add (by omega) ?_; intro v6 e6
      refine pc_add (by omega) ?_; intro v7 e7
      rw [show v7 = ((6000 * k + na_S (Bf k) (nf k) (kt_S (Bf k) (nf k) i 0) : Nat) : Int) by omega]
      have q := vr_kind (nn := nn) (by rw [ec]; exact N) S h7 hk' K p1
      rw [ec] at q
      refine pc_sv q ?_; intro u9 ⟨o9, _, c9⟩
      exact pc_ret ⟨o9, c9⟩
    intro u37 ⟨o37, c37⟩
    refine pc_sv (vr_there c37) ?_; intro u38 q38
    refine pc_add (by omega) ?_; intro v39 e39
    rw [show v39 = ((i + 1 : Nat) : Int) by omega]
    refine pc_imp (ih (i + 1) u38 u37.2 (rsv_o S o37) ((o37.1 160 98 (by omega) (by omega) (by omega)).trans ec) (o37.2 h7) (oth_t O o37) (by rcases q38 with y | y; exact .inl y.1; exact .inr y.1)) (fun u ⟨y1, y2⟩ => ⟨y1, ?_⟩)
    rcases y2 with ⟨x1, x2, x3, x4⟩ | ⟨x1, x2⟩
    · rcases q38 with ⟨f1, f2⟩ | ⟨f1, f2⟩
      · omega
      · refine .inl ⟨x1, l1, fun j h1 h2 => ?_, x4⟩
        by_cases ji : j = i
        · rw [ji]; exact f2
        · exact x3 j (by omega) h2
    · refine .inr ⟨x1, fun ⟨y3, y4, y5⟩ => ?_⟩
      rcases q38 with ⟨f1, f2⟩ | ⟨f1, f2⟩
      · exact y4 i (Nat.le_refl _) hi f2
      · exact x2 ⟨f1, fun j h1 h2 => y4 j (by omega) h2, y5⟩
/-- THE REFERENCE: ARE THE KINDS THERE -/
theorem vr_kinds (N : NKn Bf nf (h 160 98)) (S : RSv Bf nf h) (h7 : 0 ≤ h 160 117) (hk : (k : Int) < h 160 98) : Pc (qf_X13_kindsAreThere nn (k : Int) h) (fun u => OTH h u.2 ∧ ((u.1 = 1 ∧ KAl Bf nf (h 160 98) (Bf k) (nf k)) ∨ (u.1 = 0 ∧ ¬ KAl Bf nf (h 160 98) (Bf k) (nf k)))) := by
  unfold qf_X13_kindsAreThere
  refine pc_imp (vr_4 N h7 hk nn 0 1 h S rfl h7 oth_r (.inr rfl)) (fun u ⟨y1, y2⟩ => ⟨y1, ?_⟩)
  rcases y2 with ⟨x1, -, x3, x4⟩ | ⟨x1, x2⟩
  · exact .inl ⟨x1, fun j hj => x3 j (Nat.zero_le _) hj, x4⟩
  · exact .inr ⟨x1, fun y => x2 ⟨rfl, fun j _ hj => y.1 j hj, y.2⟩⟩
end
end
section
/- VERIFY: the class above, the same texts -/
/-- the class above c, or -1 -/
noncomputable def sp_F (Bf : Nat → Nat → Int) (nf : Nat → Nat) (cnt : Int) (c : Int) : Int := if c < 8 then bi_A c.toNat else lo_S Bf nf cnt (fun i => Bf (c - 8).toNat (na_S (Bf (c - 8).toNat) (nf (c - 8).toNat) (nu_S (Bf (c - 8).toNat) (nf (c - 8).toNat)) + i)) (tl_S (Bf (c - 8).toNat) (nf (c - 8).toNat) (nu_S (Bf (c - 8).toNat) (nf (c - 8).toNat)))
/-- text t of the one is text s of the other -/
def TXq (B : Nat → Int) (n : Nat) (t : Int) (C : Nat → Int) (m : Nat) (s : Int) : Prop := tl_S B n t = tl_S C m s ∧ ∀ i : Nat, i < tl_S B n t → B (na_S B n t + i) = C (na_S C m s + i)
/-- the class's space with what is above -/
def CSw (Bf : Nat → Nat → Int) (nf : Nat → Nat) (h : ms_M) : Prop := CSv Bf nf h ∧ KNr Bf nf h
section
variable {nn : Nat} {Bf : Nat → Nat → Int} {nf : Nat → Nat} {cnt : Int} {B C : Nat → Int} {n m b d k : Nat} {M h g r h0 : ms_M}
theorem csw_k (S : CSw Bf nf h) (A : ∀ c j : Nat, c < 160 ∨ 256 ≤ c → ¬ (127 ≤ c ∧ c ≤ 135) → g c j = h c j) : CSw Bf nf g := by
  refine ⟨csv_k S.1 A, ?_⟩
  obtain ⟨n1, n2, n3, n4⟩ := S.2
  have e3 : g 56 3 = h 56 3 := A _ _ (by omega) (by omega)
  refine ⟨?_, fun j hj => by rw [A _ _ (by omega) (by omega)]; exact n2 j hj, fun j hj h2 => by rw [A _ _ (by omega) (by omega)]; exact n3 j hj (by omega), fun k hk => by rw [A 58 _ (by omega) (by omega), e3]; exact n4 k (by omega)⟩
  have ef : g (57 + 1) = h (57 + 1) := funext (fun j => A _ _ (by omega) (by omega))
  unfold un_R
  rw [ef]
  intro x y hx hy
  rw [show g (57 + 2) (16 * x + y) = h (57 + 2) (16 * x + y) from A _ _ (by omega) (by omega)]
  exact n1 x y hx hy
theorem sp_lt {c : Nat} (h8 : c < 8) : sp_F Bf nf cnt (c : Int) = bi_A c := by
  unfold sp_F
  rw [if_pos (by omega), Int.toNat_natCast]
theorem sp_ge : sp_F Bf nf cnt (8 + (k : Int)) = lo_S Bf nf cnt (fun i => Bf k (na_S (Bf k) (nf k) (nu_S (Bf k) (nf k)) + i)) (tl_S (Bf k) (nf k) (nu_S (Bf k) (nf k))) := by
  unfold sp_F
  rw [if_neg (by omega), show (8 + (k : Int) - 8).toNat = k by omega]
theorem sp_rg (c8 : cnt ≤ 8) {c : Int} (hc : 0 ≤ c ∧ c < 16) : -1 ≤ sp_F Bf nf cnt c ∧ sp_F Bf nf cnt c < 16 := by
  unfold sp_F
  by_cases q : c < 8
  · rw [if_pos q]
    unfold bi_A
    split
    · omega
    · split <;> omega
  · rw [if_neg q]
    rcases lo_rg (Bf := Bf) (nf := nf) c8 (f := fun i => Bf (c - 8).toNat (na_S (Bf (c - 8).toNat) (nf (c - 8).toNat) (nu_S (Bf (c - 8).toNat) (nf (c - 8).toNat)) + i)) (m := tl_S (Bf (c - 8).toNat) (nf (c - 8).toNat) (nu_S (Bf (c - 8).toNat) (nf (c - 8).toNat))) with z | z
    · omega
    · omega
/-- a class of the space -/
def ISc (cnt c : Int) : Prop := 0 ≤ c ∧ c < 8 + cnt
theorem lo_is (h0' : 0 ≤ cnt) {f : Nat → Int} {m : Nat} : lo_S Bf nf cnt f m = -1 ∨ ISc cnt (lo_S Bf nf cnt f m) := by
  unfold ISc
  rcases lo_ok (Bf := Bf) (nf := nf) (cnt := cnt) (f := f) (m := m) with ⟨k, k1, k2, -⟩ | ⟨⟨c, c1, c2, -⟩ | ⟨c1, -⟩, -⟩
  · omega
  · omega
  · omega
theorem sp_is (c0 : 0 ≤ cnt) {c : Int} (hc : 0 ≤ c) : sp_F Bf nf cnt c = -1 ∨ ISc cnt (sp_F Bf nf cnt c) := by
  unfold sp_F
  by_cases q : c < 8
  · rw [if_pos q]
    unfold bi_A ISc
    split
    · omega
    · split <;> omega
  · rw [if_neg q]; exact lo_is c0
/-- THE CLASS ABOVE, the class's side -/
theorem kn_sp58 (S : CSw Bf nf h) {c : Int} (hc : ISc (h 56 3) c) : h 58 c.toNat = sp_F Bf nf (h 56 3) c := by
  obtain ⟨hc0, hc1⟩ := hc
  have g3 := S.1.1
  obtain ⟨n1, n2, n3, n4⟩ := S.2
  by_cases q : c < 8
  · have a := n2 c.toNat (by omega)
    rw [a, show c = ((c.toNat : Nat) : Int) by omega, sp_lt (by omega), Int.toNat_natCast]
  · have a := n4 (c - 8).toNat (by omega)
    rw [show 8 + (c - 8).toNat = c.toNat by omega] at a
    have e : c = 8 + (((c - 8).toNat : Nat) : Int) := by omega
    rw [lo_e a]
    rw [e, sp_ge, show (8 + (((c - 8).toNat : Nat) : Int) - 8).toNat = (c - 8).toNat by omega]
theorem vc_above (S : CSw Bf nf h) {c : Int} (hc : ISc (h 56 3) c) : Pc (qf_X4_above nn 57 c h) (fun u => u = sp_F Bf nf (h 56 3) c) := by
  have g3 := S.1.1
  have hc' := hc
  unfold ISc at hc'
  unfold qf_X4_above qf_X4_isClass
  refine pc_sv (P := fun u => u = 1) (pc_if (fun z => absurd z (by omega)) (fun _ => pc_if (fun z => absurd z (by omega)) (fun _ => pc_ret rfl))) ?_
  intro u1 q1
  refine pc_if (fun z => absurd z (by omega)) (fun _ => ?_)
  refine pc_rA ?_; intro _ _ v3 e3
  exact pc_ret (e3.trans (kn_sp58 S hc))
/-- .. the reference's side -/
theorem vr_super (N : NKn Bf nf (h 160 98)) (S : RSv Bf nf h) {c : Int} (hc : ISc (h 160 98) c) : Pc (qf_X13_superOf nn c h) (fun u => u = sp_F Bf nf (h 160 98) c) := by
  obtain ⟨hc0, hc1⟩ := hc
  by_cases q : c < 8
  · unfold qf_X13_superOf
    refine pc_if (fun z => absurd z (by omega)) (fun _ => ?_)
    have e : sp_F Bf nf (h 160 98) c = bi_A c.toNat := by unfold sp_F; rw [if_pos q]
    rw [e]
    refine pc_if (fun z => ?_) (fun z => ?_)
    · refine pc_if (fun w => pc_ret ?_) (fun w => pc_ret ?_)
      · unfold bi_A; rw [if_neg (by omega), if_pos (by omega)]
      · unfold bi_A; rw [if_pos (by omega)]
    · refine pc_ret ?_
      unfold bi_A; rw [if_neg (by omega), if_neg (by omega)]
  · have e : c = 8 + (((c - 8).toNat : Nat) : Int) := by omega
    rw [e]
    refine pc_imp (r_super S.1 S.2 (by omega)) (fun u z => ?_)
    rw [sp_ge]
    exact (cl_cn N lo_ok z).symm
/-- THE SAME TEXTS, the class's side -/
theorem vc_same (S : CSv Bf nf h) {j : Nat} (hk : (k : Int) < h 56 3) (hj : (j : Int) < h 56 3) {t s : Int} (t1 : tg_S (Bf k) (nf k) t = 1) (s1 : tg_S (Bf j) (nf j) s = 1) : Pc (qf_X3_sameText nn (h 60 k).toNat t (h 60 j).toNat s h) (fun u => (u = 1 ∧ TXq (Bf k) (nf k) t (Bf j) (nf j) s) ∨ (u = 0 ∧ ¬ TXq (Bf k) (nf k) t (Bf j) (nf j) s)) := by
  have X := S.2 k hk
  have Y := S.2 j hj
  obtain ⟨c1, c2, c3⟩ := c_text (nn := nn) X.1 t1
  obtain ⟨d1, d2, d3⟩ := c_text (nn := nn) Y.1 s1
  unfold qf_X3_sameText
  refine pc_sv (P := fun u => u = ((na_S (Bf k) (nf k) t : Nat) : Int)) (fun u eu => by rw [c1] at eu; exact (Option.some.inj eu).symm) ?_; intro u2 q2
  refine pc_sv (P := fun u => u = ((na_S (Bf k) (nf k) t + tl_S (Bf k) (nf k) t : Nat) : Int)) (fun u eu => by rw [c2] at eu; exact (Option.some.inj eu).symm) ?_; intro u4 q4
  refine pc_ck (fun _ => ?_)
  refine pc_sv (P := fun u => u = ((na_S (Bf j) (nf j) s : Nat) : Int)) (fun u eu => by rw [d1] at eu; exact (Option.some.inj eu).symm) ?_; intro u6 q6
  refine pc_sv (P := fun u => u = ((na_S (Bf j) (nf j) s + tl_S (Bf j) (nf j) s : Nat) : Int)) (fun u eu => by rw [d2] at eu; exact (Option.some.inj eu).symm) ?_; intro u8 q8
  rw [q2, q4, q6, q8]
  refine pc_sv (c_same X.1.1 Y.1.1 (by omega) (by omega)) ?_; intro u10 q10
  refine pc_ck (fun _ => pc_ret ?_)
  rw [show na_S (Bf k) (nf k) t + tl_S (Bf k) (nf k) t - na_S (Bf k) (nf k) t = tl_S (Bf k) (nf k) t by omega, show na_S (Bf j) (nf j) s + tl_S (Bf j) (nf j) s - na_S (Bf j) (nf j) s = tl_S (Bf j) (nf j) s by omega] at q10
  exact q10
end
end
section
/- VERIFY: the way up; members looked up, the class's side -/
/-- the i-th class on the way up from c -/
noncomputable def ch_F (Bf : Nat → Nat → Int) (nf : Nat → Nat) (cnt c : Int) : Nat → Int
  | 0 => c
  | i + 1 => if ch_F Bf nf cnt c i = -1 then -1 else sp_F Bf nf cnt (ch_F Bf nf cnt c i)
/-- member j (s: 0 field, 1 method) of class d has the name that text t of image o says -/
def NAm (Bf : Nat → Nat → Int) (nf : Nat → Nat) (o : Nat) (t s d : Int) (j : Nat) : Prop := TXq (Bf (d - 8).toNat) (nf (d - 8).toNat) (nt_S (Bf (d - 8).toNat) (nf (d - 8).toNat) j s) (Bf o) (nf o) t
/-- no member of class d has it -/
def NOm (Bf : Nat → Nat → Int) (nf : Nat → Nat) (o : Nat) (t s d : Int) : Prop := ∀ j : Nat, (j : Int) < mb_S (Bf (d - 8).toNat) (nf (d - 8).toNat) s → ¬ NAm Bf nf o t s d j
/-- looked up from class c: found in class d, member j -/
def HFd (Bf : Nat → Nat → Int) (nf : Nat → Nat) (cnt : Int) (o : Nat) (t s c d : Int) (j : Nat) : Prop := ∃ i : Nat, ch_F Bf nf cnt c i = d ∧ (∀ x : Nat, x ≤ i → 8 ≤ ch_F Bf nf cnt c x) ∧ ((j : Int) < mb_S (Bf (d - 8).toNat) (nf (d - 8).toNat) s ∧ NAm Bf nf o t s d j ∧ ∀ y : Nat, y < j → ¬ NAm Bf nf o t s d y) ∧ ∀ x : Nat, x < i → NOm Bf nf o t s (ch_F Bf nf cnt c x)
/-- not found -/
def HNo (Bf : Nat → Nat → Int) (nf : Nat → Nat) (cnt : Int) (o : Nat) (t s c : Int) : Prop := ∀ i : Nat, (∀ x : Nat, x ≤ i → 8 ≤ ch_F Bf nf cnt c x) → NOm Bf nf o t s (ch_F Bf nf cnt c i)
section
variable {nn : Nat} {Bf : Nat → Nat → Int} {nf : Nat → Nat} {cnt : Int} {B C : Nat → Int} {n m b d k o : Nat} {M h g r h0 : ms_M} {t s c : Int}
theorem hfd_u {d e : Int} {i j : Nat} (A : HFd Bf nf cnt o t s c d i) (D : HFd Bf nf cnt o t s c e j) : d = e ∧ i = j := by
  obtain ⟨x, x1, x2, ⟨x3, x4, x5⟩, x6⟩ := A
  obtain ⟨y, y1, y2, ⟨y3, y4, y5⟩, y6⟩ := D
  have e1 : x = y := by
    rcases Nat.lt_trichotomy x y with q | q | q
    · exfalso
      have z := y6 x q
      rw [x1] at z
      exact z i x3 x4
    · exact q
    · exfalso
      have z := x6 y q
      rw [y1] at z
      exact z j y3 y4
  have e2 : d = e := by rw [← x1, ← y1, e1]
  subst e2
  refine ⟨rfl, ?_⟩
  rcases Nat.lt_trichotomy i j with q | q | q
  · exact absurd x4 (y5 i q)
  · exact q
  · exact absurd y4 (x5 j q)
theorem hfd_n {d : Int} {i : Nat} (A : HFd Bf nf cnt o t s c d i) (D : HNo Bf nf cnt o t s c) : False := by
  obtain ⟨x, x1, x2, ⟨x3, x4, x5⟩, x6⟩ := A
  have z := D x x2
  rw [x1] at z
  exact z i x3 x4
theorem chv_s {i : Nat} (z : 0 ≤ ch_F Bf nf cnt c i) : ch_F Bf nf cnt c (i + 1) = sp_F Bf nf cnt (ch_F Bf nf cnt c i) := by
  show (if ch_F Bf nf cnt c i = -1 then -1 else sp_F Bf nf cnt (ch_F Bf nf cnt c i)) = _
  rw [if_neg (by omega)]
theorem ch_is (c0 : 0 ≤ cnt) (hc : c = -1 ∨ ISc cnt c) : ∀ i : Nat, ch_F Bf nf cnt c i = -1 ∨ ISc cnt (ch_F Bf nf cnt c i) := by
  intro i
  induction i with
  | zero => exact hc
  | succ i ih =>
    rcases ih with z | z
    · refine .inl ?_
      show (if ch_F Bf nf cnt c i = -1 then -1 else sp_F Bf nf cnt (ch_F Bf nf cnt c i)) = -1
      rw [if_pos z]
    · rw [chv_s z.1]; exact sp_is c0 z.1
theorem pg_41 : ∀ (n : Nat) (s : Nat → Nat), (∀ i : Nat, i ≤ n → s i < n) → ∃ i j : Nat, i < j ∧ j ≤ n ∧ s i = s j := by
  intro n
  induction n with
  | zero => intro s H; exact absurd (H 0 (by omega)) (by omega)
  | succ n ih =>
    intro s H
    by_cases q : ∃ i : Nat, i ≤ n ∧ s i = s (n + 1)
    · obtain ⟨i, q1, q2⟩ := q
      exact ⟨i, n + 1, by omega, by omega, q2⟩
    · have q2 : ∀ i : Nat, i ≤ n → ¬ s i = s (n + 1) := fun i hi z => q ⟨i, hi, z⟩
      have a := H (n + 1) (by omega)
      obtain ⟨i, j, h1, h2, h3⟩ := ih (fun i => if s i = n then s (n + 1) else s i) (fun i hi => by
        have b := H i (by omega)
        have d := q2 i hi
        show (if s i = n then s (n + 1) else s i) < n
        by_cases z : s i = n
        · rw [if_pos z]; omega
        · rw [if_neg z]; omega)
      have h4 : (if s i = n then s (n + 1) else s i) = (if s j = n then s (n + 1) else s j) := h3
      refine ⟨i, j, h1, by omega, ?_⟩
      have d1 := q2 i (by omega)
      have d2 := q2 j h2
      by_cases z1 : s i = n
      · by_cases z2 : s j = n
        · omega
        · rw [if_pos z1, if_neg z2] at h4; omega
      · by_cases z2 : s j = n
        · rw [if_neg z1, if_pos z2] at h4; omega
        · rw [if_neg z1, if_neg z2] at h4; exact h4
theorem ch_add {i j : Nat} (e : ch_F Bf nf cnt c i = ch_F Bf nf cnt c j) : ∀ x : Nat, ch_F Bf nf cnt c (i + x) = ch_F Bf nf cnt c (j + x) := by
  intro x
  induction x with
  | zero => exact e
  | succ x ih =>
    show (if ch_F Bf nf cnt c (i + x) = -1 then -1 else sp_F Bf nf cnt (ch_F Bf nf cnt c (i + x))) = (if ch_F Bf nf cnt c (j + x) = -1 then -1 else sp_F Bf nf cnt (ch_F Bf nf cnt c (j + x)))
    rw [ih]
/-- a way that ends passes at most eight classes of the space -/
theorem ch_8 (c0 : 0 ≤ cnt ∧ cnt ≤ 8) (hc : c = -1 ∨ ISc cnt c) {f : Nat} (E : ch_F Bf nf cnt c f = -1) : ∃ i : Nat, i ≤ 8 ∧ ch_F Bf nf cnt c i < 8 := Classical.byContradiction fun q => by
  have A : ∀ i : Nat, i ≤ 8 → 8 ≤ ch_F Bf nf cnt c i := fun i hi => Classical.byContradiction fun z => q ⟨i, hi, by omega⟩
  have I := ch_is (Bf := Bf) (nf := nf) c0.1 hc
  obtain ⟨i, j, h1, h2, h3⟩ := pg_41 8 (fun i => (ch_F Bf nf cnt c i - 8).toNat) (fun i hi => by
    have a := A i hi
    show (ch_F Bf nf cnt c i - 8).toNat < 8
    rcases I i with z | z
    · omega
    · unfold ISc at z; omega)
  have h3' : (ch_F Bf nf cnt c i - 8).toNat = (ch_F Bf nf cnt c j - 8).toNat := h3
  have a1 := A i (by omega)
  have a2 := A j h2
  have e : ch_F Bf nf cnt c i = ch_F Bf nf cnt c j := by omega
  have ALL : ∀ y x : Nat, x ≤ y → 8 ≤ ch_F Bf nf cnt c x := by
    intro y
    induction y with
    | zero => intro x hx; exact A x (by omega)
    | succ y ih =>
      intro x hx
      by_cases w : x ≤ 8
      · exact A x w
      · have z := ch_add e (x - j)
        rw [show j + (x - j) = x by omega] at z
        rw [← z]; exact ih _ (by omega)
  have := ALL f f (Nat.le_refl _)
  omega
theorem vc_img (S : CSv Bf nf h) {c : Int} (hc : 8 ≤ c) (h2 : c < 8 + h 56 3) : Pc (qf_X7_imageOf nn c h) (fun u => u = h 60 (c - 8).toNat) := by
  have := S.1
  unfold qf_X7_imageOf
  refine pc_if (fun z => absurd z (by omega)) (fun _ => ?_)
  refine pc_add (by omega) ?_; intro v2 e2
  refine pc_if (fun z => absurd z (by omega)) (fun _ => ?_)
  refine pc_sub (by omega) ?_; intro v4 e4
  refine pc_rA ?_; intro _ _ v5 e5
  exact pc_ret (by rw [e5, e4])
theorem vc_im0 {c : Int} (hc : c < 8) : Pc (qf_X7_imageOf nn c h) (fun u => u = -1) := by
  unfold qf_X7_imageOf
  exact pc_if (fun _ => pc_ret rfl) (fun z => absurd hc z)
theorem nm_t1 {t : Int} (e : nm_S B n t = true) : tg_S B n t = 1 := by
  unfold nm_S at e
  rw [Bool.and_eq_true] at e
  exact of_decide_eq_true e.1
theorem nt_1 (G : GIM B n) {j : Nat} {s : Int} (hj : (j : Int) < mb_S B n s) : tg_S B n (nt_S B n j s) = 1 := by
  unfold mb_S at hj
  unfold nt_S
  by_cases s0 : s = 0
  · rw [if_pos s0] at hj ⊢; exact nm_t1 (G.2.1 j hj).2.1
  · rw [if_neg s0] at hj ⊢; exact nm_t1 (G.2.2.2 j hj).1.2
/-- THE CLASS LOOKS A METHOD UP -/
theorem vc_m31 (S : CSw Bf nf h) (hk : (o : Int) < h 56 3) (t1 : tg_S (Bf o) (nf o) t = 1) {i : Nat} {qk : Nat → Int → Int → Int → ms_M → Option Int} {Q : Int → Prop} (c8 : 8 ≤ ch_F Bf nf (h 56 3) c i) (cI : ISc (h 56 3) (ch_F Bf nf (h 56 3) c i)) (i16 : i < 16) (Hk : NOm Bf nf o t 1 (ch_F Bf nf (h 56 3) c i) → Pc (qk (h 60 o).toNat t (ch_F Bf nf (h 56 3) c (i + 1)) ((i + 1 : Nat) : Int) h) Q) (Hf : ∀ j : Nat, (j : Int) < mb_S (Bf (ch_F Bf nf (h 56 3) c i - 8).toNat) (nf (ch_F Bf nf (h 56 3) c i - 8).toNat) 1 → NAm Bf nf o t 1 (ch_F Bf nf (h 56 3) c i) j → (∀ y : Nat, y < j → ¬ NAm Bf nf o t 1 (ch_F Bf nf (h 56 3) c i) y) → Q ((ch_F Bf nf (h 56 3) c i - 8) * 12 + j)) : ∀ (f j : Nat), (∀ y : Nat, y < j → ¬ NAm Bf nf o t 1 (ch_F Bf nf (h 56 3) c i) y) → Pc (qw_X7_methodOf_31 nn qk f (h 60 o).toNat t (ch_F Bf nf (h 56 3) c i) (i : Int) (((h 60 (ch_F Bf nf (h 56 3) c i - 8).toNat).toNat : Nat) : Int) (j : Int) h) Q := by
  have g3 := S.1.1
  unfold ISc at cI
  have hd : (((ch_F Bf nf (h 56 3) c i - 8).toNat : Nat) : Int) < h 56 3 := by omega
  have X := S.1.2 _ hd
  obtain ⟨G, ⟨e10, -⟩, e12, MD⟩ := cg_im X
  have gf := G.1
  have gm := G.2.2.1
  generalize hD : (ch_F Bf nf (h 56 3) c i - 8).toNat = D at *
  intro f
  induction f with
  | zero => intro j _; exact pc_none
  | succ f ih =>
    intro j hj
    unfold qw_X7_methodOf_31
    refine pc_ck (fun _ => ?_)
    refine pc_ck (fun _ => ?_)
    rw [Int.toNat_natCast]
    refine pc_if (fun z => ?_) (fun z => ?_)
    · refine pc_sv (vc_above S (c := ch_F Bf nf (h 56 3) c i) (by unfold ISc; omega)) ?_; intro u5 q5
      refine pc_add (by omega) ?_; intro v6 e6
      rw [q5, ← chv_s (by omega), show v6 = ((i + 1 : Nat) : Int) by omega]
      refine Hk (fun y hy => hj y ?_)
      rw [hD] at hy
      unfold mb_S at hy
      rw [if_neg (by decide)] at hy
      omega
    · have jm : (j : Int) < mb_S (Bf D) (nf D) 1 := by
        unfold mb_S
        rw [if_neg (by decide)]
        omega
      refine pc_sv (P := fun u => u = nt_S (Bf D) (nf D) j 1) ?_ ?_
      · exact vq_of (nn := nn) X (by unfold mb_S at jm; rw [if_neg (by decide)] at jm; exact jm) (w := 1) (x := nt_S (Bf D) (nf D) j 1) (by decide) (by rw [(MD j (by unfold mb_S at jm; rw [if_neg (by decide)] at jm; exact jm)).1.2.1]; unfold nt_S; rw [if_neg (by decide)])
      intro u8 q8
      rw [q8]
      refine pc_sv (vc_same S.1 hd hk (nt_1 G jm) t1) ?_; intro u10 q10
      have EQ : TXq (Bf D) (nf D) (nt_S (Bf D) (nf D) j 1) (Bf o) (nf o) t ↔ NAm Bf nf o t 1 (ch_F Bf nf (h 56 3) c i) j := by unfold NAm; rw [hD]
      rw [EQ] at q10
      refine pc_if (fun y => ?_) (fun y => ?_)
      · refine pc_add (by omega) ?_; intro v11 e11
        rw [show v11 = ((j + 1 : Nat) : Int) by omega]
        refine ih (j + 1) (fun x hx => ?_)
        by_cases xj : x = j
        · rw [xj]
          rcases q10 with q10 | q10
          · omega
          · exact q10.2
        · exact hj x (by omega)
      · unfold qf_X7_numberOf
        refine pc_sv (P := fun u => u = (ch_F Bf nf (h 56 3) c i - 8) * 12 + j) ?_ ?_
        · refine pc_sub (by omega) ?_; intro v1 e1
          refine pc_xl ?_; intro v2 e2
          rw [oq_mul_eq (by omega) (by omega) (by omega)] at e2
          refine pc_add (by omega) ?_; intro v3 e3
          exact pc_ret (by rw [e3, e2, e1])
        intro u13 q13
        refine pc_ret ?_
        rw [q13]
        refine Hf j jm ?_ hj
        rcases q10 with q10 | q10
        · exact q10.2
        · omega
theorem vc_m6 (S : CSw Bf nf h) (hk : (o : Int) < h 56 3) (t1 : tg_S (Bf o) (nf o) t = 1) (hc : c = -1 ∨ ISc (h 56 3) c) {fe : Nat} (E : ch_F Bf nf (h 56 3) c fe = -1) : ∀ (f i : Nat), (∀ x : Nat, x < i → 8 ≤ ch_F Bf nf (h 56 3) c x ∧ NOm Bf nf o t 1 (ch_F Bf nf (h 56 3) c x)) → Pc (qw_X7_methodOf_6 nn f (h 60 o).toNat t (ch_F Bf nf (h 56 3) c i) (i : Int) h) (fun u => (u = -1 ∧ HNo Bf nf (h 56 3) o t 1 c) ∨ ∃ (d : Int) (j : Nat), HFd Bf nf (h 56 3) o t 1 c d j ∧ u = (d - 8) * 12 + j) := by
  have g3 := S.1.1
  obtain ⟨e, e1, e2⟩ := ch_8 (Bf := Bf) (nf := nf) g3 hc E
  have I := ch_is (Bf := Bf) (nf := nf) g3.1 hc
  intro f
  induction f with
  | zero => intro i _; exact pc_none
  | succ f ih =>
    intro i A
    have ie : i ≤ e := Classical.byContradiction fun z => by have := (A e (by omega)).1; omega
    unfold qw_X7_methodOf_6
    refine pc_if (fun z => absurd z (by omega)) (fun _ => ?_)
    by_cases q : ch_F Bf nf (h 56 3) c i < 8
    · refine pc_sv (vc_im0 q) ?_; intro u17 q17
      refine pc_if (fun _ => pc_ret (.inl ⟨rfl, fun x hx => ?_⟩)) (fun z => absurd (show u17 < 0 by omega) z)
      have xi : x < i := Classical.byContradiction fun w => by have := hx i (by omega); omega
      exact (A x xi).2
    · have cI : ISc (h 56 3) (ch_F Bf nf (h 56 3) c i) := by
        rcases I i with z | z
        · omega
        · exact z
      refine pc_sv (vc_img S.1 (c := ch_F Bf nf (h 56 3) c i) (by omega) cI.2) ?_; intro u17 q17
      have k3 : kc_O (h 60 (ch_F Bf nf (h 56 3) c i - 8).toNat).toNat = 3 := by
        have cI' := cI
        unfold ISc at cI'
        exact (S.1.2 _ (by omega)).1.1.1
      rw [q17]
      refine pc_if (fun z => ?_) (fun z => ?_)
      · exfalso
        have e0 : (h 60 (ch_F Bf nf (h 56 3) c i - 8).toNat).toNat = 0 := by omega
        rw [e0] at k3
        exact absurd k3 (by decide)
      · refine vc_m31 S hk t1 (by omega) cI (by omega) (fun z => ?_) (fun j j1 j2 j3 => ?_) nn 0 (fun y hy => absurd hy (by omega))
        · refine ih (i + 1) (fun x hx => ?_)
          by_cases xi : x = i
          · rw [xi]; exact ⟨by omega, z⟩
          · exact A x (by omega)
        · refine .inr ⟨_, j, ⟨i, rfl, fun x hx => ?_, ⟨j1, j2, j3⟩, fun x hx => (A x hx).2⟩, rfl⟩
          by_cases xi : x = i
          · rw [xi]; omega
          · exact (A x (by omega)).1
theorem vc_mo (S : CSw Bf nf h) (hk : (o : Int) < h 56 3) (t1 : tg_S (Bf o) (nf o) t = 1) (hc : c = -1 ∨ ISc (h 56 3) c) {fe : Nat} (E : ch_F Bf nf (h 56 3) c fe = -1) : Pc (qf_X7_methodOf nn c (h 60 o).toNat t h) (fun u => (u = -1 ∧ HNo Bf nf (h 56 3) o t 1 c) ∨ ∃ (d : Int) (j : Nat), HFd Bf nf (h 56 3) o t 1 c d j ∧ u = (d - 8) * 12 + j) := by
  unfold qf_X7_methodOf
  exact vc_m6 S hk t1 hc E nn 0 (fun x hx => absurd hx (by omega))
/-- THE CLASS LOOKS A FIELD UP -/
theorem vc_f31 (S : CSw Bf nf h) (hk : (o : Int) < h 56 3) (t1 : tg_S (Bf o) (nf o) t = 1) {i : Nat} {qk : Nat → Int → Int → Int → ms_M → Option Int} {Q : Int → Prop} (c8 : 8 ≤ ch_F Bf nf (h 56 3) c i) (cI : ISc (h 56 3) (ch_F Bf nf (h 56 3) c i)) (i16 : i < 16) (Hk : NOm Bf nf o t 0 (ch_F Bf nf (h 56 3) c i) → Pc (qk (h 60 o).toNat t (ch_F Bf nf (h 56 3) c (i + 1)) ((i + 1 : Nat) : Int) h) Q) (Hf : ∀ j : Nat, (j : Int) < mb_S (Bf (ch_F Bf nf (h 56 3) c i - 8).toNat) (nf (ch_F Bf nf (h 56 3) c i - 8).toNat) 0 → NAm Bf nf o t 0 (ch_F Bf nf (h 56 3) c i) j → (∀ y : Nat, y < j → ¬ NAm Bf nf o t 0 (ch_F Bf nf (h 56 3) c i) y) → Q ((ch_F Bf nf (h 56 3) c i - 8) * 12 + j)) : ∀ (f j : Nat), (∀ y : Nat, y < j → ¬ NAm Bf nf o t 0 (ch_F Bf nf (h 56 3) c i) y) → Pc (qw_X7_fieldOf_31 nn qk f (h 60 o).toNat t (ch_F Bf nf (h 56 3) c i) (i : Int) (((h 60 (ch_F Bf nf (h 56 3) c i - 8).toNat).toNat : Nat) : Int) (j : Int) h) Q := by
  have g3 := S.1.1
  unfold ISc at cI
  have hd : (((ch_F Bf nf (h 56 3) c i - 8).toNat : Nat) : Int) < h 56 3 := by omega
  have X := S.1.2 _ hd
  obtain ⟨G, ⟨e10, -⟩, e12, MD⟩ := cg_im X
  have gf := G.1
  have gm := G.2.2.1
  generalize hD : (ch_F Bf nf (h 56 3) c i - 8).toNat = D at *
  intro f
  induction f with
  | zero => intro j _; exact pc_none
  | succ f ih =>
    intro j hj
    unfold qw_X7_fieldOf_31
    refine pc_ck (fun _ => ?_)
    refine pc_ck (fun _ => ?_)
    rw [Int.toNat_natCast]
    refine pc_if (fun z => ?_) (fun z => ?_)
    · refine pc_sv (vc_above S (c := ch_F Bf nf (h 56 3) c i) (by unfold ISc; omega)) ?_; intro u5 q5
      refine pc_add (by omega) ?_; intro v6 e6
      rw [q5, ← chv_s (by omega), show v6 = ((i + 1 : Nat) : Int) by omega]
      refine Hk (fun y hy => hj y ?_)
      rw [hD] at hy
      unfold mb_S at hy
      rw [if_pos rfl] at hy
      omega
    · have jm : (j : Int) < mb_S (Bf D) (nf D) 0 := by
        unfold mb_S
        rw [if_pos rfl]
        omega
      refine pc_sv (P := fun u => u = nt_S (Bf D) (nf D) j 0) ?_ ?_
      · exact pc_imp ((vq_cfn (nn := nn) X (by unfold mb_S at jm; rw [if_pos rfl] at jm; exact jm)).1) (fun u z => by rw [z]; unfold nt_S; rw [if_pos rfl])
      intro u8 q8
      rw [q8]
      refine pc_sv (vc_same S.1 hd hk (nt_1 G jm) t1) ?_; intro u10 q10
      have EQ : TXq (Bf D) (nf D) (nt_S (Bf D) (nf D) j 0) (Bf o) (nf o) t ↔ NAm Bf nf o t 0 (ch_F Bf nf (h 56 3) c i) j := by unfold NAm; rw [hD]
      rw [EQ] at q10
      refine pc_if (fun y => ?_) (fun y => ?_)
      · refine pc_add (by omega) ?_; intro v11 e11
        rw [show v11 = ((j + 1 : Nat) : Int) by omega]
        refine ih (j + 1) (fun x hx => ?_)
        by_cases xj : x = j
        · rw [xj]
          rcases q10 with q10 | q10
          · omega
          · exact q10.2
        · exact hj x (by omega)
      · unfold qf_X7_numberOf
        refine pc_sv (P := fun u => u = (ch_F Bf nf (h 56 3) c i - 8) * 12 + j) ?_ ?_
        · refine pc_sub (by omega) ?_; intro v1 e1
          refine pc_xl ?_; intro v2 e2
          rw [oq_mul_eq (by omega) (by omega) (by omega)] at e2
          refine pc_add (by omega) ?_; intro v3 e3
          exact pc_ret (by rw [e3, e2, e1])
        intro u13 q13
        refine pc_ret ?_
        rw [q13]
        refine Hf j jm ?_ hj
        rcases q10 with q10 | q10
        · exact q10.2
        · omega
theorem vc_f6 (S : CSw Bf nf h) (hk : (o : Int) < h 56 3) (t1 : tg_S (Bf o) (nf o) t = 1) (hc : c = -1 ∨ ISc (h 56 3) c) {fe : Nat} (E : ch_F Bf nf (h 56 3) c fe = -1) : ∀ (f i : Nat), (∀ x : Nat, x < i → 8 ≤ ch_F Bf nf (h 56 3) c x ∧ NOm Bf nf o t 0 (ch_F Bf nf (h 56 3) c x)) → Pc (qw_X7_fieldOf_6 nn f (h 60 o).toNat t (ch_F Bf nf (h 56 3) c i) (i : Int) h) (fun u => (u = -1 ∧ HNo Bf nf (h 56 3) o t 0 c) ∨ ∃ (d : Int) (j : Nat), HFd Bf nf (h 56 3) o t 0 c d j ∧ u = (d - 8) * 12 + j) := by
  have g3 := S.1.1
  obtain ⟨e, e1, e2⟩ := ch_8 (Bf := Bf) (nf := nf) g3 hc E
  have I := ch_is (Bf := Bf) (nf := nf) g3.1 hc
  intro f
  induction f with
  | zero => intro i _; exact pc_none
  | succ f ih =>
    intro i A
    have ie : i ≤ e := Classical.byContradiction fun z => by have := (A e (by omega)).1; omega
    unfold qw_X7_fieldOf_6
    refine pc_if (fun z => absurd z (by omega)) (fun _ => ?_)
    by_cases q : ch_F Bf nf (h 56 3) c i < 8
    · refine pc_sv (vc_im0 q) ?_; intro u17 q17
      refine pc_if (fun _ => pc_ret (.inl ⟨rfl, fun x hx => ?_⟩)) (fun z => absurd (show u17 < 0 by omega) z)
      have xi : x < i := Classical.byContradiction fun w => by have := hx i (by omega); omega
      exact (A x xi).2
    · have cI : ISc (h 56 3) (ch_F Bf nf (h 56 3) c i) := by
        rcases I i with z | z
        · omega
        · exact z
      refine pc_sv (vc_img S.1 (c := ch_F Bf nf (h 56 3) c i) (by omega) cI.2) ?_; intro u17 q17
      have k3 : kc_O (h 60 (ch_F Bf nf (h 56 3) c i - 8).toNat).toNat = 3 := by
        have cI' := cI
        unfold ISc at cI'
        exact (S.1.2 _ (by omega)).1.1.1
      rw [q17]
      refine pc_if (fun z => ?_) (fun z => ?_)
      · exfalso
        have e0 : (h 60 (ch_F Bf nf (h 56 3) c i - 8).toNat).toNat = 0 := by omega
        rw [e0] at k3
        exact absurd k3 (by decide)
      · refine vc_f31 S hk t1 (by omega) cI (by omega) (fun z => ?_) (fun j j1 j2 j3 => ?_) nn 0 (fun y hy => absurd hy (by omega))
        · refine ih (i + 1) (fun x hx => ?_)
          by_cases xi : x = i
          · rw [xi]; exact ⟨by omega, z⟩
          · exact A x (by omega)
        · refine .inr ⟨_, j, ⟨i, rfl, fun x hx => ?_, ⟨j1, j2, j3⟩, fun x hx => (A x hx).2⟩, rfl⟩
          by_cases xi : x = i
          · rw [xi]; omega
          · exact (A x (by omega)).1
theorem vc_fo (S : CSw Bf nf h) (hk : (o : Int) < h 56 3) (t1 : tg_S (Bf o) (nf o) t = 1) (hc : c = -1 ∨ ISc (h 56 3) c) {fe : Nat} (E : ch_F Bf nf (h 56 3) c fe = -1) : Pc (qf_X7_fieldOf nn c (h 60 o).toNat t h) (fun u => (u = -1 ∧ HNo Bf nf (h 56 3) o t 0 c) ∨ ∃ (d : Int) (j : Nat), HFd Bf nf (h 56 3) o t 0 c d j ∧ u = (d - 8) * 12 + j) := by
  unfold qf_X7_fieldOf
  exact vc_f6 S hk t1 hc E nn 0 (fun x hx => absurd hx (by omega))
end
end
section
/- VERIFY: the same texts, members looked up, the reference's side -/
section
variable {nn : Nat} {Bf : Nat → Nat → Int} {nf : Nat → Nat} {cnt : Int} {B C : Nat → Int} {n m b d k o j : Nat} {M h g r h0 : ms_M} {t s c : Int}
theorem vr_72 (S : RSv Bf nf h) (hk : (k : Int) < h 160 98) (hj : (j : Int) < h 160 98) (t1 : tg_S (Bf k) (nf k) t = 1) (s1 : tg_S (Bf j) (nf j) s = 1) (el : tl_S (Bf k) (nf k) t = tl_S (Bf j) (nf j) s) : ∀ (f x : Nat) (l7 : Int), x ≤ tl_S (Bf k) (nf k) t → ((l7 = 1 ∧ ∀ i : Nat, i < x → Bf k (na_S (Bf k) (nf k) t + i) = Bf j (na_S (Bf j) (nf j) s + i)) ∨ (l7 = 0 ∧ ¬ TXq (Bf k) (nf k) t (Bf j) (nf j) s)) → Pc (qw_X13_sameText_72 nn f ((6000 * k + pl_S (Bf k) (nf k) t : Nat) : Int) ((6000 * j + pl_S (Bf j) (nf j) s : Nat) : Int) l7 (x : Int) h) (fun u => (u = 1 ∧ TXq (Bf k) (nf k) t (Bf j) (nf j) s) ∨ (u = 0 ∧ ¬ TXq (Bf k) (nf k) t (Bf j) (nf j) s)) := by
  obtain ⟨n6, k8⟩ := tb_n6 S hk
  obtain ⟨m6, j8⟩ := tb_n6 S hj
  obtain ⟨p1, p2, p3, p4, p5, p6, p7⟩ := pi_le S hk t1
  obtain ⟨q1, q2, q3, q4, q5, q6, q7⟩ := pi_le S hj s1
  have ena : na_S (Bf k) (nf k) t = pl_S (Bf k) (nf k) t + 2 := rfl
  have enb : na_S (Bf j) (nf j) s = pl_S (Bf j) (nf j) s + 2 := rfl
  intro f
  induction f with
  | zero => intro x l7 _ _; exact pc_none
  | succ f ih =>
    intro x l7 hx H
    unfold qw_X13_sameText_72
    refine pc_add (by omega) ?_; intro v2 e2
    refine pc_rA ?_; intro _ _ v3 e3
    rw [show v2.toNat = 6000 * k + (pl_S (Bf k) (nf k) t + 1) by omega, tb_by S hk (by omega), p4] at e3
    refine pc_if (fun z => pc_ck (fun _ => pc_ret ?_)) (fun z => pc_if (fun w => pc_ck (fun _ => pc_ret ?_)) (fun w => ?_))
    · rcases H with ⟨h1, h2⟩ | H
      · refine .inl ⟨h1, el, fun i hi => h2 i (by omega)⟩
      · exact .inr H
    · rcases H with ⟨h1, h2⟩ | H
      · omega
      · exact .inr H
    · have H2 : ∀ i : Nat, i < x → Bf k (na_S (Bf k) (nf k) t + i) = Bf j (na_S (Bf j) (nf j) s + i) := by
        rcases H with H | H
        · exact H.2
        · exact absurd H.1 w
      refine pc_add (by omega) ?_; intro v7 e7
      refine pc_add (by omega) ?_; intro v8 e8
      refine pc_rA ?_; intro _ _ v9 e9
      rw [show v8.toNat = 6000 * k + (na_S (Bf k) (nf k) t + x) by omega, tb_by S hk (by omega)] at e9
      refine pc_add (by omega) ?_; intro v11 e11
      refine pc_add (by omega) ?_; intro v12 e12
      refine pc_rA ?_; intro _ _ v13 e13
      rw [show v12.toNat = 6000 * j + (na_S (Bf j) (nf j) s + x) by omega, tb_by S hj (by omega)] at e13
      refine pc_if (fun y => ?_) (fun y => ?_)
      · refine pc_add (by omega) ?_; intro v14 e14
        rw [show v14 = ((x + 1 : Nat) : Int) by omega]
        exact ih (x + 1) 0 (by omega) (.inr ⟨rfl, fun T => y (by rw [e9, e13]; exact T.2 x (by omega))⟩)
      · refine pc_add (by omega) ?_; intro v15 e15
        rw [show v15 = ((x + 1 : Nat) : Int) by omega]
        refine ih (x + 1) 1 (by omega) (.inl ⟨rfl, fun i hi => ?_⟩)
        by_cases ix : i = x
        · rw [ix, ← e9, ← e13]; omega
        · exact H2 i (by omega)
theorem vr_same (S : RSv Bf nf h) (hk : (k : Int) < h 160 98) (hj : (j : Int) < h 160 98) (t1 : tg_S (Bf k) (nf k) t = 1) (s1 : tg_S (Bf j) (nf j) s = 1) : Pc (qf_X13_sameText nn (k : Int) t (j : Int) s h) (fun u => (u = 1 ∧ TXq (Bf k) (nf k) t (Bf j) (nf j) s) ∨ (u = 0 ∧ ¬ TXq (Bf k) (nf k) t (Bf j) (nf j) s)) := by
  obtain ⟨n6, k8⟩ := tb_n6 S hk
  obtain ⟨m6, j8⟩ := tb_n6 S hj
  obtain ⟨p1, p2, p3, p4, p5, p6, p7⟩ := pi_le S hk t1
  obtain ⟨q1, q2, q3, q4, q5, q6, q7⟩ := pi_le S hj s1
  have ena : na_S (Bf k) (nf k) t = pl_S (Bf k) (nf k) t + 2 := rfl
  have enb : na_S (Bf j) (nf j) s = pl_S (Bf j) (nf j) s + 2 := rfl
  unfold qf_X13_sameText
  refine pc_xl ?_; intro v19 e19
  rw [oq_mul_eq (by omega) (by omega) (by omega)] at e19
  refine pc_xl ?_; intro v21 e21
  rw [oq_mul_eq (by omega) (by omega) (by omega)] at e21
  refine pc_add (by omega) ?_; intro v22 e22
  refine pc_rA ?_; intro _ _ v23 e23
  rw [show v22 = 256 * (k : Int) + t by omega, p6] at e23
  refine pc_add (by omega) ?_; intro v24 e24
  refine pc_xl ?_; intro v25 e25
  rw [oq_mul_eq (by omega) (by omega) (by omega)] at e25
  refine pc_xl ?_; intro v27 e27
  rw [oq_mul_eq (by omega) (by omega) (by omega)] at e27
  refine pc_add (by omega) ?_; intro v28 e28
  refine pc_rA ?_; intro _ _ v29 e29
  rw [show v28 = 256 * (j : Int) + s by omega, q6] at e29
  refine pc_add (by omega) ?_; intro v30 e30
  refine pc_add (by omega) ?_; intro v32 e32
  refine pc_rA ?_; intro _ _ v33 e33
  rw [show v32.toNat = 6000 * k + (pl_S (Bf k) (nf k) t + 1) by omega, tb_by S hk (by omega), p4] at e33
  refine pc_add (by omega) ?_; intro v35 e35
  refine pc_rA ?_; intro _ _ v36 e36
  rw [show v35.toNat = 6000 * j + (pl_S (Bf j) (nf j) s + 1) by omega, tb_by S hj (by omega), q4] at e36
  rw [show v24 = ((6000 * k + pl_S (Bf k) (nf k) t : Nat) : Int) by omega, show v30 = ((6000 * j + pl_S (Bf j) (nf j) s : Nat) : Int) by omega]
  refine pc_if (fun z => ?_) (fun z => ?_)
  · -- other lengths: at once
    have ne : ¬ TXq (Bf k) (nf k) t (Bf j) (nf j) s := fun T => z (by have := T.1; omega)
    have Z : ∀ (f x : Nat), Pc (qw_X13_sameText_72 nn f ((6000 * k + pl_S (Bf k) (nf k) t : Nat) : Int) ((6000 * j + pl_S (Bf j) (nf j) s : Nat) : Int) 0 (x : Int) h) (fun u => (u = 1 ∧ TXq (Bf k) (nf k) t (Bf j) (nf j) s) ∨ (u = 0 ∧ ¬ TXq (Bf k) (nf k) t (Bf j) (nf j) s)) := fun f x => by
      cases f with
      | zero => exact pc_none
      | succ f =>
        unfold qw_X13_sameText_72
        refine pc_xl ?_; intro v2 e2
        refine pc_rA ?_; intro _ _ v3 e3
        exact pc_if (fun _ => pc_ck (fun _ => pc_ret (.inr ⟨rfl, ne⟩))) (fun _ => pc_if (fun _ => pc_ck (fun _ => pc_ret (.inr ⟨rfl, ne⟩))) (fun w => absurd rfl w))
    exact Z nn 0
  · exact vr_72 S hk hj t1 s1 (by omega) nn 0 1 (Nat.zero_le _) (.inl ⟨rfl, fun i hi => absurd hi (by omega)⟩)
/-- THE REFERENCE LOOKS A MEMBER UP -/
theorem vr_60 (N : NKn Bf nf (h 160 98)) (S : RSv Bf nf h) (hk : (o : Int) < h 160 98) (t1 : tg_S (Bf o) (nf o) t = 1) {i : Nat} {l6 : Int} {qk : Int → Int → Int → Int → Int → ms_M → Option (Int × ms_M)} {Q : Int × ms_M → Prop} (c8 : 8 ≤ ch_F Bf nf (h 160 98) c i) (cI : ISc (h 160 98) (ch_F Bf nf (h 160 98) c i)) (l6r : 0 ≤ l6 ∧ l6 ≤ 16) (Hk : NOm Bf nf o t s (ch_F Bf nf (h 160 98) c i) → Pc (qk (o : Int) t s (ch_F Bf nf (h 160 98) c (i + 1)) (l6 + 1) h) Q) (Hf : ∀ j : Nat, (j : Int) < mb_S (Bf (ch_F Bf nf (h 160 98) c i - 8).toNat) (nf (ch_F Bf nf (h 160 98) c i - 8).toNat) s → NAm Bf nf o t s (ch_F Bf nf (h 160 98) c i) j → (∀ y : Nat, y < j → ¬ NAm Bf nf o t s (ch_F Bf nf (h 160 98) c i) y) → Q (ch_F Bf nf (h 160 98) c i, up_M h 160 121 (j : Int))) : ∀ (f j : Nat), (∀ y : Nat, y < j → ¬ NAm Bf nf o t s (ch_F Bf nf (h 160 98) c i) y) → Pc (qw_X13_holder_60 nn qk f (o : Int) t s (ch_F Bf nf (h 160 98) c i) l6 (((ch_F Bf nf (h 160 98) c i - 8).toNat : Nat) : Int) (mb_S (Bf (ch_F Bf nf (h 160 98) c i - 8).toNat) (nf (ch_F Bf nf (h 160 98) c i - 8).toNat) s) (j : Int) h) Q := by
  have g3 := S.1
  unfold ISc at cI
  have hd : (((ch_F Bf nf (h 160 98) c i - 8).toNat : Nat) : Int) < h 160 98 := by omega
  obtain ⟨G, ⟨e32, F1⟩, e34, M1⟩ := rg_im (S.2 _ hd)
  have gf := G.1
  have gm := G.2.2.1
  obtain ⟨n6, k8⟩ := tb_n6 S hd
  generalize hD : (ch_F Bf nf (h 160 98) c i - 8).toNat = D at *
  intro f
  induction f with
  | zero => intro j _; exact pc_none
  | succ f ih =>
    intro j hj
    unfold qw_X13_holder_60
    refine pc_if (fun z => ?_) (fun z => ?_)
    · unfold qj_X13_holder_148
      refine pc_sv (vr_super N S (c := ch_F Bf nf (h 160 98) c i) (by unfold ISc; omega)) ?_; intro u2 q2
      refine pc_add (by omega) ?_; intro v3 e3
      rw [q2, ← chv_s (by omega), e3]
      refine Hk (fun y hy => hj y ?_)
      rw [hD] at hy
      omega
    · have jm : (j : Int) < mb_S (Bf D) (nf D) s := by omega
      have j12 : j < 12 := by
        unfold mb_S at jm
        by_cases s0 : s = 0
        · rw [if_pos s0] at jm; omega
        · rw [if_neg s0] at jm; omega
      have E : Pc (qj_X13_holder_115 nn qk (qw_X13_holder_60 nn qk f) (o : Int) t s (ch_F Bf nf (h 160 98) c i) l6 (D : Int) (mb_S (Bf D) (nf D) s) (j : Int) (nt_S (Bf D) (nf D) j s) h) Q := by
        unfold qj_X13_holder_115
        refine pc_sv (vr_same S hd hk (nt_1 G jm) t1) ?_; intro u5 q5
        have EQ : TXq (Bf D) (nf D) (nt_S (Bf D) (nf D) j s) (Bf o) (nf o) t ↔ NAm Bf nf o t s (ch_F Bf nf (h 160 98) c i) j := by unfold NAm; rw [hD]
        rw [EQ] at q5
        refine pc_if (fun y => ?_) (fun y => ?_)
        · refine pc_xl ?_; intro h6 e6
          refine pc_ret ?_
          rw [e6]
          refine Hf j jm ?_ hj
          rcases q5 with q5 | q5
          · exact q5.2
          · omega
        · refine pc_add (by omega) ?_; intro v7 e7
          rw [show v7 = ((j + 1 : Nat) : Int) by omega]
          refine ih (j + 1) (fun x hx => ?_)
          by_cases xj : x = j
          · rw [xj]
            rcases q5 with q5 | q5
            · omega
            · exact q5.2
          · exact hj x (by omega)
      refine pc_if (fun s0 => ?_) (fun s0 => ?_)
      · have jf : (j : Int) < fc_S (Bf D) (nf D) := by unfold mb_S at jm; rw [if_pos s0] at jm; exact jm
        have f1 := F1 j jf
        have g1 := (G.2.1 j jf).1
        refine pc_xl ?_; intro v10 e10
        rw [oq_mul_eq (by omega) (by omega) (by omega)] at e10
        refine pc_add (by omega) ?_; intro v11 e11
        refine pc_rA ?_; intro _ _ v12 e12
        rw [show v11 = 12 * (D : Int) + j by omega, f1] at e12
        rw [e12]
        refine pc_sv (vq_rbyte S hd (by omega)) ?_; intro u14 q14
        rw [show u14 = nt_S (Bf D) (nf D) j s by rw [q14]; unfold nt_S; rw [if_pos s0]]
        exact E
      · have jf : (j : Int) < mc_S (Bf D) (nf D) := by unfold mb_S at jm; rw [if_neg s0] at jm; exact jm
        have f1 := (M1 j jf).1
        have g1 := (G.2.2.2 j jf).2.2.2.1
        refine pc_xl ?_; intro v16 e16
        rw [oq_mul_eq (by omega) (by omega) (by omega)] at e16
        refine pc_add (by omega) ?_; intro v17 e17
        refine pc_rA ?_; intro _ _ v18 e18
        rw [show v17 = 12 * (D : Int) + j by omega, f1] at e18
        refine pc_add (by omega) ?_; intro v19 e19
        rw [show v19 = ((ma_S (Bf D) (nf D) j + 1 : Nat) : Int) by omega]
        refine pc_sv (vq_rbyte S hd (by omega)) ?_; intro u21 q21
        rw [show u21 = nt_S (Bf D) (nf D) j s by rw [q21]; unfold nt_S; rw [if_neg s0]]
        exact E
theorem vr_6 (N : NKn Bf nf (h 160 98)) (S : RSv Bf nf h) (hk : (o : Int) < h 160 98) (t1 : tg_S (Bf o) (nf o) t = 1) (hc : c = -1 ∨ ISc (h 160 98) c) (E : ch_F Bf nf (h 160 98) c 17 = -1) : ∀ (f i : Nat), i ≤ 17 → (∀ x y : Nat, x ≤ y → y < i → 8 ≤ ch_F Bf nf (h 160 98) c y → 8 ≤ ch_F Bf nf (h 160 98) c x) → (∀ x : Nat, x < i → 8 ≤ ch_F Bf nf (h 160 98) c x → NOm Bf nf o t s (ch_F Bf nf (h 160 98) c x)) → Pc (qw_X13_holder_6 nn f (o : Int) t s (ch_F Bf nf (h 160 98) c i) (i : Int) h) (fun u => (u = (-1, h) ∧ HNo Bf nf (h 160 98) o t s c) ∨ ∃ (d : Int) (j : Nat), HFd Bf nf (h 160 98) o t s c d j ∧ u = (d, up_M h 160 121 (j : Int))) := by
  have g3 := S.1
  have I := ch_is (Bf := Bf) (nf := nf) g3.1 hc
  have DN : ∀ x : Nat, ch_F Bf nf (h 160 98) c x < 8 → ch_F Bf nf (h 160 98) c (x + 1) < 8 := fun x z => by
    show (if ch_F Bf nf (h 160 98) c x = -1 then -1 else sp_F Bf nf (h 160 98) (ch_F Bf nf (h 160 98) c x)) < 8
    by_cases q : ch_F Bf nf (h 160 98) c x = -1
    · rw [if_pos q]; decide
    · rw [if_neg q]
      unfold sp_F
      rw [if_pos z]
      unfold bi_A
      split
      · decide
      · split <;> decide
  intro f
  induction f with
  | zero => intro i _ _ _; exact pc_none
  | succ f ih =>
    intro i hi U A
    -- all below i are looked at: what holds if the way is at its end
    have FIN : (i = 17 ∨ ch_F Bf nf (h 160 98) c i = -1) → HNo Bf nf (h 160 98) o t s c := fun w x hx => by
      have e1 : ch_F Bf nf (h 160 98) c i = -1 := by
        rcases w with w | w
        · rw [w]; exact E
        · exact w
      have xi : x < i := Classical.byContradiction fun y => by have := hx i (by omega); omega
      exact A x xi (hx x (Nat.le_refl _))
    unfold qw_X13_holder_6
    refine pc_if (fun z => pc_ret (.inl ⟨rfl, FIN (.inl (by omega))⟩)) (fun z => ?_)
    refine pc_if (fun w => pc_ret (.inl ⟨rfl, FIN (.inr w)⟩)) (fun w => ?_)
    have cI : ISc (h 160 98) (ch_F Bf nf (h 160 98) c i) := by
      rcases I i with y | y
      · exact absurd y w
      · exact y
    have cI' := cI
    unfold ISc at cI'
    have U2 : ∀ x y : Nat, x ≤ y → y < i + 1 → 8 ≤ ch_F Bf nf (h 160 98) c y → 8 ≤ ch_F Bf nf (h 160 98) c x := fun x y xy yi q => Classical.byContradiction fun z => by
      have P : ∀ e : Nat, ch_F Bf nf (h 160 98) c (x + e) < 8 := by
        intro e
        induction e with
        | zero => rw [Nat.add_zero]; omega
        | succ e ih => exact DN (x + e) ih
      have := P (y - x)
      rw [show x + (y - x) = y by omega] at this
      omega
    refine pc_if (fun y => ?_) (fun y => ?_)
    · unfold qj_X13_holder_148
      refine pc_sv (vr_super N S cI) ?_; intro u2 q2
      refine pc_add (by omega) ?_; intro v3 e3
      rw [q2, ← chv_s (by omega), show v3 = ((i + 1 : Nat) : Int) by omega]
      refine ih (i + 1) (by omega) U2 (fun x hx q => ?_)
      by_cases xi : x = i
      · rw [xi] at q; omega
      · exact A x (by omega) q
    · have hd : (((ch_F Bf nf (h 160 98) c i - 8).toNat : Nat) : Int) < h 160 98 := by omega
      obtain ⟨-, ⟨e32, -⟩, e34, -⟩ := rg_im (S.2 _ hd)
      refine pc_sub (by omega) ?_; intro v24 e24
      have e24' : v24 = (((ch_F Bf nf (h 160 98) c i - 8).toNat : Nat) : Int) := by omega
      have T : Pc (qw_X13_holder_60 nn (qw_X13_holder_6 nn f) nn (o : Int) t s (ch_F Bf nf (h 160 98) c i) (i : Int) (((ch_F Bf nf (h 160 98) c i - 8).toNat : Nat) : Int) (mb_S (Bf (ch_F Bf nf (h 160 98) c i - 8).toNat) (nf (ch_F Bf nf (h 160 98) c i - 8).toNat) s) 0 h) (fun u => (u = (-1, h) ∧ HNo Bf nf (h 160 98) o t s c) ∨ ∃ (d : Int) (j : Nat), HFd Bf nf (h 160 98) o t s c d j ∧ u = (d, up_M h 160 121 (j : Int))) := by
        refine vr_60 N S hk t1 (by omega) cI (by omega) (fun q => ?_) (fun j j1 j2 j3 => ?_) nn 0 (fun x hx => absurd hx (by omega))
        · rw [show (i : Int) + 1 = ((i + 1 : Nat) : Int) by omega]
          refine ih (i + 1) (by omega) U2 (fun x hx q2 => ?_)
          by_cases xi : x = i
          · rw [xi]; exact q
          · exact A x (by omega) q2
        · refine .inr ⟨_, j, ⟨i, rfl, fun x hx => U2 x i hx (by omega) (by omega), ⟨j1, j2, j3⟩, fun x hx => A x hx (U2 x i (by omega) (by omega) (by omega))⟩, rfl⟩
      rw [e24']
      refine pc_if (fun s0 => ?_) (fun s0 => ?_)
      · refine pc_rA ?_; intro _ _ v26 e26
        rw [show v26 = mb_S (Bf (ch_F Bf nf (h 160 98) c i - 8).toNat) (nf (ch_F Bf nf (h 160 98) c i - 8).toNat) s by rw [e26, e32]; unfold mb_S; rw [if_pos s0]]
        exact T
      · refine pc_rA ?_; intro _ _ v28 e28
        rw [show v28 = mb_S (Bf (ch_F Bf nf (h 160 98) c i - 8).toNat) (nf (ch_F Bf nf (h 160 98) c i - 8).toNat) s by rw [e28, e34]; unfold mb_S; rw [if_neg s0]]
        exact T
theorem vr_holder (N : NKn Bf nf (h 160 98)) (S : RSv Bf nf h) (hk : (o : Int) < h 160 98) (t1 : tg_S (Bf o) (nf o) t = 1) (hc : c = -1 ∨ ISc (h 160 98) c) (E : ch_F Bf nf (h 160 98) c 17 = -1) : Pc (qf_X13_holder nn c (o : Int) t s h) (fun u => (u = (-1, h) ∧ HNo Bf nf (h 160 98) o t s c) ∨ ∃ (d : Int) (j : Nat), HFd Bf nf (h 160 98) o t s c d j ∧ u = (d, up_M h 160 121 (j : Int))) := by
  unfold qf_X13_holder
  exact vr_6 N S hk t1 hc E nn 0 (by omega) (fun _ _ _ hy => absurd hy (by omega)) (fun x hx => absurd hx (by omega))
end
end
section
/- VERIFY: heads, the class's side -/
/-- two members of a name -/
def TWs (B : Nat → Int) (n : Nat) (s : Int) : Prop := ∃ i j : Nat, j < i ∧ (i : Int) < mb_S B n s ∧ TXq B n (nt_S B n i s) B n (nt_S B n j s)
/-- method m of class k stands for another of the same name, and it may not -/
def OTm (Bf : Nat → Nat → Int) (nf : Nat → Nat) (cnt : Int) (k m : Nat) : Prop := ∃ (d : Int) (j : Nat), HFd Bf nf cnt k (nt_S (Bf k) (nf k) m 1) 1 (sp_F Bf nf cnt (8 + (k : Int))) d j ∧ (¬ Bf k (ma_S (Bf k) (nf k) m) = 0 ∨ ¬ Bf (d - 8).toNat (ma_S (Bf (d - 8).toNat) (nf (d - 8).toNat) j) = 0 ∨ ¬ TXq (Bf k) (nf k) (kt_S (Bf k) (nf k) m 1) (Bf (d - 8).toNat) (nf (d - 8).toNat) (kt_S (Bf (d - 8).toNat) (nf (d - 8).toNat) j 1))
section
variable {nn : Nat} {Bf : Nat → Nat → Int} {nf : Nat → Nat} {cnt : Int} {B C : Nat → Int} {n m b d k o : Nat} {M h g r h0 : ms_M} {t s c : Int}
theorem txq_s {B C : Nat → Int} {n m : Nat} {t s : Int} (T : TXq B n t C m s) : TXq C m s B n t := ⟨T.1.symm, fun i hi => (T.2 i (by rw [T.1]; exact hi)).symm⟩
theorem ch_m1 {i : Nat} (e : ch_F Bf nf cnt c i = -1) : ∀ j : Nat, ch_F Bf nf cnt c (i + j) = -1 := by
  intro j
  induction j with
  | zero => exact e
  | succ j ih =>
    show (if ch_F Bf nf cnt c (i + j) = -1 then -1 else sp_F Bf nf cnt (ch_F Bf nf cnt c (i + j))) = -1
    rw [if_pos ih]
theorem ch_sh (c0 : 0 ≤ c) : ∀ i : Nat, ch_F Bf nf cnt (sp_F Bf nf cnt c) i = ch_F Bf nf cnt c (i + 1) := by
  intro i
  induction i with
  | zero =>
    have e : ch_F Bf nf cnt c (0 + 1) = sp_F Bf nf cnt (ch_F Bf nf cnt c 0) := chv_s c0
    rw [e]; rfl
  | succ i ih =>
    show (if ch_F Bf nf cnt (sp_F Bf nf cnt c) i = -1 then -1 else sp_F Bf nf cnt (ch_F Bf nf cnt (sp_F Bf nf cnt c) i)) = (if ch_F Bf nf cnt c (i + 1) = -1 then -1 else sp_F Bf nf cnt (ch_F Bf nf cnt c (i + 1)))
    rw [ih]
theorem ch_sp (c0 : 0 ≤ c) (E : ch_F Bf nf cnt c 17 = -1) : ch_F Bf nf cnt (sp_F Bf nf cnt c) 17 = -1 := by
  rw [ch_sh c0]; exact ch_m1 E 1
/-- DOES THE WAY UP END -/
theorem vc_e4 (S : CSw Bf nf h) (hc : c = -1 ∨ ISc (h 56 3) c) : ∀ (f i : Nat), i ≤ 17 → Pc (qw_X4_endsAbove_4 nn f (ch_F Bf nf (h 56 3) c i) (i : Int) h) (fun u => (u = 1 ∧ ch_F Bf nf (h 56 3) c 17 = -1) ∨ (u = 0 ∧ ¬ ch_F Bf nf (h 56 3) c 17 = -1)) := by
  have g3 := S.1.1
  have I := ch_is (Bf := Bf) (nf := nf) g3.1 hc
  have E : ∀ i : Nat, i ≤ 17 → (i = 17 ∨ ch_F Bf nf (h 56 3) c i = -1) → Pc (qj_X4_endsAbove_33 nn (ch_F Bf nf (h 56 3) c i) h) (fun u => (u = 1 ∧ ch_F Bf nf (h 56 3) c 17 = -1) ∨ (u = 0 ∧ ¬ ch_F Bf nf (h 56 3) c 17 = -1)) := fun i hi w => by
    unfold qj_X4_endsAbove_33
    refine pc_if (fun z => pc_ret ?_) (fun z => pc_ret ?_)
    · rcases w with w | w
      · rw [w] at z; exact .inr ⟨rfl, z⟩
      · exact absurd w z
    · have z' : ch_F Bf nf (h 56 3) c i = -1 := by omega
      have a := ch_m1 z' (17 - i)
      rw [show i + (17 - i) = 17 by omega] at a
      exact .inl ⟨rfl, a⟩
  intro f
  induction f with
  | zero => intro i _; exact pc_none
  | succ f ih =>
    intro i hi
    unfold qw_X4_endsAbove_4
    refine pc_if (fun z => E i hi (.inl (by omega))) (fun z => ?_)
    refine pc_if (fun w => ?_) (fun w => ?_)
    · refine E i hi (.inr ?_)
      rcases I i with y | y
      · exact y
      · unfold ISc at y; omega
    · have cI : ISc (h 56 3) (ch_F Bf nf (h 56 3) c i) := by
        rcases I i with y | y
        · omega
        · exact y
      have cI' := cI
      unfold ISc at cI'
      refine pc_if (fun y => absurd y (by omega)) (fun _ => ?_)
      refine pc_rA ?_; intro _ _ v3 e3
      rw [kn_sp58 S cI, ← chv_s (by omega)] at e3
      refine pc_add (by omega) ?_; intro v4 e4
      rw [e3, show v4 = ((i + 1 : Nat) : Int) by omega]
      exact ih (i + 1) (by omega)
theorem vc_ends (S : CSw Bf nf h) (hc : c = -1 ∨ ISc (h 56 3) c) : Pc (qf_X4_endsAbove nn c h) (fun u => (u = 1 ∧ ch_F Bf nf (h 56 3) c 17 = -1) ∨ (u = 0 ∧ ¬ ch_F Bf nf (h 56 3) c 17 = -1)) := by
  unfold qf_X4_endsAbove
  exact vc_e4 S hc nn 0 (by omega)
theorem vt_17 (S : CSv Bf nf h) (hk : (k : Int) < h 56 3) (e5 : h 127 5 = h 60 k) {i : Nat} (hi : (i : Int) < mb_S (Bf k) (nf k) 0) {qk : Int → Int → ms_M → Option Int} {Q : Int → Prop} : ∀ (f j : Nat) (l1 : Int), (l1 = 0 ∨ l1 = 1) → j ≤ i → (∀ fl : Int, (fl = 1 ∧ (l1 = 1 ∨ ∃ x : Nat, j ≤ x ∧ x < i ∧ TXq (Bf k) (nf k) (nt_S (Bf k) (nf k) i 0) (Bf k) (nf k) (nt_S (Bf k) (nf k) x 0))) ∨ (fl = 0 ∧ l1 = 0 ∧ ∀ x : Nat, j ≤ x → x < i → ¬ TXq (Bf k) (nf k) (nt_S (Bf k) (nf k) i 0) (Bf k) (nf k) (nt_S (Bf k) (nf k) x 0)) → Pc (qk fl ((i + 1 : Nat) : Int) h) Q) → Pc (qw_X11_hasTwins_17 nn qk f l1 (i : Int) (j : Int) h) Q := by
  have X := S.2 k hk
  obtain ⟨G, -, -, MD⟩ := cg_im X
  have gf := G.1
  have gm := G.2.2.1
  have i12 : i < 12 := by unfold mb_S at hi; rw [if_pos rfl] at hi; omega
  have GET : ∀ x : Nat, (x : Int) < mb_S (Bf k) (nf k) 0 → Pc (qf_X3_fieldName nn (h 60 k).toNat (x : Int) h) (fun u => u = nt_S (Bf k) (nf k) x 0) := fun x hx => by
    have hx2 : (x : Int) < fc_S (Bf k) (nf k) := by unfold mb_S at hx; rw [if_pos rfl] at hx; exact hx
    exact pc_imp ((vq_cfn (nn := nn) X hx2).1) (fun u z => by rw [z]; unfold nt_S; rw [if_pos rfl])
  intro f
  induction f with
  | zero => intro j l1 _ _ _; exact pc_none
  | succ f ih =>
    intro j l1 b1 hj Hk
    unfold qw_X11_hasTwins_17
    refine pc_if (fun z => ?_) (fun z => ?_)
    · refine pc_add (by omega) ?_; intro v22 e22
      rw [show v22 = ((i + 1 : Nat) : Int) by omega]
      refine Hk l1 ?_
      rcases b1 with q | q
      · exact .inr ⟨q, q, fun x h1 h2 => absurd h2 (by omega)⟩
      · exact .inl ⟨q, .inl q⟩
    · have ON : (l1 = 1 ∨ TXq (Bf k) (nf k) (nt_S (Bf k) (nf k) i 0) (Bf k) (nf k) (nt_S (Bf k) (nf k) j 0)) → Pc (qj_X11_hasTwins_56 nn qk (qw_X11_hasTwins_17 nn qk f) (i : Int) (j : Int) h) Q := fun w => by
        unfold qj_X11_hasTwins_56
        refine pc_add (by omega) ?_; intro v21 e21
        rw [show v21 = ((j + 1 : Nat) : Int) by omega]
        refine ih (j + 1) 1 (.inr rfl) (by omega) (fun fl hf => Hk fl ?_)
        rcases hf with ⟨f1, -⟩ | ⟨f1, f2, -⟩
        · refine .inl ⟨f1, ?_⟩
          rcases w with w | w
          · exact .inl w
          · exact .inr ⟨j, Nat.le_refl _, by omega, w⟩
        · exact absurd f2 (by decide)
      refine pc_if (fun w => ON (.inl (by omega))) (fun w => ?_)
      rw [e5]
      refine pc_ck (fun _ => pc_ck (fun _ => pc_ck (fun _ => ?_)))
      refine pc_sv (GET i hi) ?_; intro u26 q26
      refine pc_ck (fun _ => pc_ck (fun _ => ?_))
      refine pc_sv (GET j (by omega)) ?_; intro u30 q30
      rw [q26, q30]
      refine pc_sv (vc_same S hk hk (nt_1 G hi) (nt_1 G (by omega))) ?_; intro u32 q32
      refine pc_if (fun y => ?_) (fun y => ?_)
      · refine pc_add (by omega) ?_; intro v33 e33
        rw [show v33 = ((j + 1 : Nat) : Int) by omega]
        have nq : ¬ TXq (Bf k) (nf k) (nt_S (Bf k) (nf k) i 0) (Bf k) (nf k) (nt_S (Bf k) (nf k) j 0) := by
          rcases q32 with q | q
          · omega
          · exact q.2
        refine ih (j + 1) 0 (.inl rfl) (by omega) (fun fl hf => Hk fl ?_)
        rcases hf with ⟨f1, f2⟩ | ⟨f1, -, f3⟩
        · refine .inl ⟨f1, ?_⟩
          rcases f2 with f2 | ⟨x, x1, x2, x3⟩
          · exact absurd f2 (by decide)
          · exact .inr ⟨x, by omega, x2, x3⟩
        · refine .inr ⟨f1, by omega, fun x h1 h2 => ?_⟩
          by_cases xj : x = j
          · rw [xj]; exact nq
          · exact f3 x (by omega) h2
      · refine ON (.inr ?_)
        rcases q32 with q | q
        · exact q.2
        · omega
theorem vt_89 (S : CSv Bf nf h) (hk : (k : Int) < h 56 3) (e5 : h 127 5 = h 60 k) {i : Nat} (hi : (i : Int) < mb_S (Bf k) (nf k) 1) {qk : Int → Int → ms_M → Option Int} {Q : Int → Prop} : ∀ (f j : Nat) (l1 : Int), (l1 = 0 ∨ l1 = 1) → j ≤ i → (∀ fl : Int, (fl = 1 ∧ (l1 = 1 ∨ ∃ x : Nat, j ≤ x ∧ x < i ∧ TXq (Bf k) (nf k) (nt_S (Bf k) (nf k) i 1) (Bf k) (nf k) (nt_S (Bf k) (nf k) x 1))) ∨ (fl = 0 ∧ l1 = 0 ∧ ∀ x : Nat, j ≤ x → x < i → ¬ TXq (Bf k) (nf k) (nt_S (Bf k) (nf k) i 1) (Bf k) (nf k) (nt_S (Bf k) (nf k) x 1)) → Pc (qk fl ((i + 1 : Nat) : Int) h) Q) → Pc (qw_X11_hasTwins_89 nn qk f l1 (i : Int) (j : Int) h) Q := by
  have X := S.2 k hk
  obtain ⟨G, -, -, MD⟩ := cg_im X
  have gf := G.1
  have gm := G.2.2.1
  have i12 : i < 12 := by unfold mb_S at hi; rw [if_neg (by decide)] at hi; omega
  have GET : ∀ x : Nat, (x : Int) < mb_S (Bf k) (nf k) 1 → Pc (qf_X3_of nn (h 60 k).toNat (x : Int) 1 h) (fun u => u = nt_S (Bf k) (nf k) x 1) := fun x hx => by
    have hx2 : (x : Int) < mc_S (Bf k) (nf k) := by unfold mb_S at hx; rw [if_neg (by decide)] at hx; exact hx
    exact vq_of (nn := nn) X hx2 (w := 1) (x := nt_S (Bf k) (nf k) x 1) (by decide) (by rw [(MD x hx2).1.2.1]; unfold nt_S; rw [if_neg (by decide)])
  intro f
  induction f with
  | zero => intro j l1 _ _ _; exact pc_none
  | succ f ih =>
    intro j l1 b1 hj Hk
    unfold qw_X11_hasTwins_89
    refine pc_if (fun z => ?_) (fun z => ?_)
    · refine pc_add (by omega) ?_; intro v22 e22
      rw [show v22 = ((i + 1 : Nat) : Int) by omega]
      refine Hk l1 ?_
      rcases b1 with q | q
      · exact .inr ⟨q, q, fun x h1 h2 => absurd h2 (by omega)⟩
      · exact .inl ⟨q, .inl q⟩
    · have ON : (l1 = 1 ∨ TXq (Bf k) (nf k) (nt_S (Bf k) (nf k) i 1) (Bf k) (nf k) (nt_S (Bf k) (nf k) j 1)) → Pc (qj_X11_hasTwins_130 nn qk (qw_X11_hasTwins_89 nn qk f) (i : Int) (j : Int) h) Q := fun w => by
        unfold qj_X11_hasTwins_130
        refine pc_add (by omega) ?_; intro v21 e21
        rw [show v21 = ((j + 1 : Nat) : Int) by omega]
        refine ih (j + 1) 1 (.inr rfl) (by omega) (fun fl hf => Hk fl ?_)
        rcases hf with ⟨f1, -⟩ | ⟨f1, f2, -⟩
        · refine .inl ⟨f1, ?_⟩
          rcases w with w | w
          · exact .inl w
          · exact .inr ⟨j, Nat.le_refl _, by omega, w⟩
        · exact absurd f2 (by decide)
      refine pc_if (fun w => ON (.inl (by omega))) (fun w => ?_)
      rw [e5]
      refine pc_ck (fun _ => pc_ck (fun _ => pc_ck (fun _ => ?_)))
      refine pc_sv (GET i hi) ?_; intro u26 q26
      refine pc_ck (fun _ => pc_ck (fun _ => ?_))
      refine pc_sv (GET j (by omega)) ?_; intro u30 q30
      rw [q26, q30]
      refine pc_sv (vc_same S hk hk (nt_1 G hi) (nt_1 G (by omega))) ?_; intro u32 q32
      refine pc_if (fun y => ?_) (fun y => ?_)
      · refine pc_add (by omega) ?_; intro v33 e33
        rw [show v33 = ((j + 1 : Nat) : Int) by omega]
        have nq : ¬ TXq (Bf k) (nf k) (nt_S (Bf k) (nf k) i 1) (Bf k) (nf k) (nt_S (Bf k) (nf k) j 1) := by
          rcases q32 with q | q
          · omega
          · exact q.2
        refine ih (j + 1) 0 (.inl rfl) (by omega) (fun fl hf => Hk fl ?_)
        rcases hf with ⟨f1, f2⟩ | ⟨f1, -, f3⟩
        · refine .inl ⟨f1, ?_⟩
          rcases f2 with f2 | ⟨x, x1, x2, x3⟩
          · exact absurd f2 (by decide)
          · exact .inr ⟨x, by omega, x2, x3⟩
        · refine .inr ⟨f1, by omega, fun x h1 h2 => ?_⟩
          by_cases xj : x = j
          · rw [xj]; exact nq
          · exact f3 x (by omega) h2
      · refine ON (.inr ?_)
        rcases q32 with q | q
        · exact q.2
        · omega
/-- ARE THERE TWO OF A NAME -/
theorem vt_76 (S : CSv Bf nf h) (hk : (k : Int) < h 56 3) (e5 : h 127 5 = h 60 k) : ∀ (f i : Nat) (l1 : Int), (l1 = 0 ∨ l1 = 1) → Pc (qw_X11_hasTwins_76 nn f l1 (i : Int) h) (fun u => (u = 1 ∧ (l1 = 1 ∨ ∃ x y : Nat, i ≤ x ∧ y < x ∧ (x : Int) < mc_S (Bf k) (nf k) ∧ TXq (Bf k) (nf k) (nt_S (Bf k) (nf k) x 1) (Bf k) (nf k) (nt_S (Bf k) (nf k) y 1))) ∨ (u = 0 ∧ l1 = 0 ∧ ∀ x y : Nat, i ≤ x → y < x → (x : Int) < mc_S (Bf k) (nf k) → ¬ TXq (Bf k) (nf k) (nt_S (Bf k) (nf k) x 1) (Bf k) (nf k) (nt_S (Bf k) (nf k) y 1))) := by
  obtain ⟨G, -, e12, -⟩ := cg_im (S.2 k hk)
  intro f
  induction f with
  | zero => intro i l1 _; exact pc_none
  | succ f ih =>
    intro i l1 b1
    unfold qw_X11_hasTwins_76
    rw [e5]
    refine pc_ck (fun _ => pc_ck (fun _ => ?_))
    refine pc_if (fun z => pc_ck (fun _ => pc_ret ?_)) (fun z => ?_)
    · rcases b1 with q | q
      · exact .inr ⟨q, q, fun x y h1 h2 h3 => absurd h3 (by omega)⟩
      · exact .inl ⟨q, .inl q⟩
    · have hi : (i : Int) < mb_S (Bf k) (nf k) 1 := by unfold mb_S; rw [if_neg (by decide)]; omega
      refine vt_89 S hk e5 hi nn 0 l1 b1 (Nat.zero_le _) (fun fl hf => ?_)
      refine pc_imp (ih (i + 1) fl (by rcases hf with y | y; exact .inr y.1; exact .inl y.1)) (fun u q => ?_)
      rcases q with ⟨u1, u2⟩ | ⟨u1, u2, u3⟩
      · refine .inl ⟨u1, ?_⟩
        rcases u2 with u2 | ⟨x, y, x1, x2, x3, x4⟩
        · rcases hf with ⟨-, f2⟩ | ⟨f1, -⟩
          · rcases f2 with f2 | ⟨y, -, y2, y3⟩
            · exact .inl f2
            · refine .inr ⟨i, y, Nat.le_refl _, y2, by omega, y3⟩
          · omega
        · exact .inr ⟨x, y, by omega, x2, x3, x4⟩
      · rcases hf with ⟨f1, -⟩ | ⟨-, f2, f3⟩
        · omega
        · refine .inr ⟨u1, f2, fun x y h1 h2 h3 => ?_⟩
          by_cases xi : x = i
          · rw [xi] at h2 ⊢; exact f3 y (Nat.zero_le _) h2
          · exact u3 x y (by omega) h2 h3
theorem vt_4 (S : CSv Bf nf h) (hk : (k : Int) < h 56 3) (e5 : h 127 5 = h 60 k) : ∀ (f i : Nat) (l1 : Int), (l1 = 0 ∨ l1 = 1) → Pc (qw_X11_hasTwins_4 nn f l1 (i : Int) h) (fun u => (u = 1 ∧ (l1 = 1 ∨ (∃ x y : Nat, i ≤ x ∧ y < x ∧ (x : Int) < fc_S (Bf k) (nf k) ∧ TXq (Bf k) (nf k) (nt_S (Bf k) (nf k) x 0) (Bf k) (nf k) (nt_S (Bf k) (nf k) y 0)) ∨ TWs (Bf k) (nf k) 1)) ∨ (u = 0 ∧ l1 = 0 ∧ (∀ x y : Nat, i ≤ x → y < x → (x : Int) < fc_S (Bf k) (nf k) → ¬ TXq (Bf k) (nf k) (nt_S (Bf k) (nf k) x 0) (Bf k) (nf k) (nt_S (Bf k) (nf k) y 0)) ∧ ¬ TWs (Bf k) (nf k) 1)) := by
  obtain ⟨G, ⟨e10, -⟩, -⟩ := cg_im (S.2 k hk)
  intro f
  induction f with
  | zero => intro i l1 _; exact pc_none
  | succ f ih =>
    intro i l1 b1
    unfold qw_X11_hasTwins_4
    rw [e5]
    refine pc_ck (fun _ => pc_ck (fun _ => ?_))
    refine pc_if (fun z => ?_) (fun z => ?_)
    · refine pc_imp (vt_76 S hk e5 nn 0 l1 b1) (fun u q => ?_)
      rcases q with ⟨u1, u2⟩ | ⟨u1, u2, u3⟩
      · refine .inl ⟨u1, ?_⟩
        rcases u2 with u2 | ⟨x, y, x1, x2, x3, x4⟩
        · exact .inl u2
        · exact .inr (.inr ⟨x, y, x2, by unfold mb_S; rw [if_neg (by decide)]; exact x3, x4⟩)
      · refine .inr ⟨u1, u2, fun x y h1 h2 h3 => absurd h3 (by omega), fun ⟨x, y, x2, x3, x4⟩ => ?_⟩
        unfold mb_S at x3
        rw [if_neg (by decide)] at x3
        exact u3 x y (Nat.zero_le _) x2 x3 x4
    · have hi : (i : Int) < mb_S (Bf k) (nf k) 0 := by unfold mb_S; rw [if_pos rfl]; omega
      refine vt_17 S hk e5 hi nn 0 l1 b1 (Nat.zero_le _) (fun fl hf => ?_)
      refine pc_imp (ih (i + 1) fl (by rcases hf with y | y; exact .inr y.1; exact .inl y.1)) (fun u q => ?_)
      rcases q with ⟨u1, u2⟩ | ⟨u1, u2, u3, u4⟩
      · refine .inl ⟨u1, ?_⟩
        rcases u2 with u2 | ⟨x, y, x1, x2, x3, x4⟩ | u2
        · rcases hf with ⟨-, f2⟩ | ⟨f1, -⟩
          · rcases f2 with f2 | ⟨y, -, y2, y3⟩
            · exact .inl f2
            · refine .inr (.inl ⟨i, y, Nat.le_refl _, y2, by omega, y3⟩)
          · omega
        · exact .inr (.inl ⟨x, y, by omega, x2, x3, x4⟩)
        · exact .inr (.inr u2)
      · rcases hf with ⟨f1, -⟩ | ⟨-, f2, f3⟩
        · omega
        · refine .inr ⟨u1, f2, fun x y h1 h2 h3 => ?_, u4⟩
          by_cases xi : x = i
          · rw [xi] at h2 ⊢; exact f3 y (Nat.zero_le _) h2
          · exact u3 x y (by omega) h2 h3
theorem vc_twins (S : CSv Bf nf h) (hk : (k : Int) < h 56 3) (e5 : h 127 5 = h 60 k) : Pc (qf_X11_hasTwins nn h) (fun u => (u = 1 ∧ (TWs (Bf k) (nf k) 0 ∨ TWs (Bf k) (nf k) 1)) ∨ (u = 0 ∧ ¬ TWs (Bf k) (nf k) 0 ∧ ¬ TWs (Bf k) (nf k) 1)) := by
  unfold qf_X11_hasTwins
  refine pc_imp (vt_4 S hk e5 nn 0 0 (.inl rfl)) (fun u q => ?_)
  rcases q with ⟨u1, u2⟩ | ⟨u1, -, u3, u4⟩
  · refine .inl ⟨u1, ?_⟩
    rcases u2 with u2 | ⟨x, y, -, x2, x3, x4⟩ | u2
    · exact absurd u2 (by decide)
    · exact .inl ⟨x, y, x2, by unfold mb_S; rw [if_pos rfl]; exact x3, x4⟩
    · exact .inr u2
  · refine .inr ⟨u1, fun ⟨x, y, x2, x3, x4⟩ => ?_, u4⟩
    unfold mb_S at x3
    rw [if_pos rfl] at x3
    exact u3 x y (Nat.zero_le _) x2 x3 x4
/-- STANDS A METHOD FOR ANOTHER -/
theorem vc_imn (S : CSv Bf nf h) {d : Int} {j : Nat} (hd : 8 ≤ d ∧ d < 8 + h 56 3) (hj : j < 12) : Pc (qf_X7_imageOfMember nn ((d - 8) * 12 + j) h) (fun u => u = h 60 (d - 8).toNat) := by
  have g3 := S.1
  unfold qf_X7_imageOfMember
  refine pc_if (fun z => absurd z (by omega)) (fun _ => ?_)
  refine pc_xl ?_; intro v2 e2
  rw [oq_mul_eq (by omega) (by omega) (by omega)] at e2
  refine pc_if (fun z => absurd z (by omega)) (fun _ => ?_)
  refine pc_xl ?_; intro v4 e4
  rw [Int.tdiv_eq_ediv_of_nonneg (by omega)] at e4
  refine pc_rA ?_; intro _ _ v5 e5
  rw [show v4 = d - 8 by omega] at e5
  exact pc_ret e5
theorem vc_im1 : Pc (qf_X7_imageOfMember nn (-1) h) (fun u => u = -1) := by
  unfold qf_X7_imageOfMember
  exact pc_if (fun _ => pc_ret rfl) (fun z => absurd (by decide) z)
/-- what is found is a class of the space, and the member is there -/
theorem hfd_is (c0 : 0 ≤ cnt) (hc : c = -1 ∨ ISc cnt c) {d : Int} {j : Nat} (H : HFd Bf nf cnt o t s c d j) : (8 ≤ d ∧ d < 8 + cnt) ∧ (j : Int) < mb_S (Bf (d - 8).toNat) (nf (d - 8).toNat) s := by
  obtain ⟨i, e, A, ⟨q1, -, -⟩, -⟩ := H
  have a := A i (Nat.le_refl _)
  rcases ch_is (Bf := Bf) (nf := nf) c0 hc i with z | z
  · omega
  · unfold ISc at z
    rw [e] at z a
    exact ⟨⟨a, z.2⟩, q1⟩
theorem vc_o4 (S : CSw Bf nf h) (hk : (k : Int) < h 56 3) (e5 : h 127 5 = h 60 k) (nz : ¬ sp_F Bf nf (h 56 3) (8 + (k : Int)) = -1) (E : ch_F Bf nf (h 56 3) (8 + (k : Int)) 17 = -1) : ∀ (f i : Nat) (l2 : Int), ((l2 = 1 ∧ ∃ m : Nat, (m : Int) < mc_S (Bf k) (nf k) ∧ OTm Bf nf (h 56 3) k m) ∨ (l2 = 0 ∧ ∀ m : Nat, m < i → ¬ OTm Bf nf (h 56 3) k m)) → Pc (qw_X11_hasOtherAbove_4 nn f (8 + (k : Int)) l2 (i : Int) h) (fun u => (u = 1 ∧ ∃ m : Nat, (m : Int) < mc_S (Bf k) (nf k) ∧ OTm Bf nf (h 56 3) k m) ∨ (u = 0 ∧ ∀ m : Nat, (m : Int) < mc_S (Bf k) (nf k) → ¬ OTm Bf nf (h 56 3) k m)) := by
  have g3 := S.1.1
  have X := S.1.2 k hk
  obtain ⟨G, -, e12, MD⟩ := cg_im X
  have gm := G.2.2.1
  have kI : ISc (h 56 3) (8 + (k : Int)) := by unfold ISc; omega
  have sI : sp_F Bf nf (h 56 3) (8 + (k : Int)) = -1 ∨ ISc (h 56 3) (sp_F Bf nf (h 56 3) (8 + (k : Int))) := sp_is g3.1 kI.1
  have E2 := ch_sp (Bf := Bf) (nf := nf) kI.1 E
  intro f
  induction f with
  | zero => intro i l2 _; exact pc_none
  | succ f ih =>
    intro i l2 L
    unfold qw_X11_hasOtherAbove_4
    rw [e5]
    refine pc_ck (fun _ => pc_ck (fun _ => ?_))
    refine pc_if (fun z => pc_ck (fun _ => pc_ret ?_)) (fun z => ?_)
    · rcases L with L | L
      · exact .inl L
      · exact .inr ⟨L.1, fun m hm => L.2 m (by omega)⟩
    refine pc_if (fun w => pc_ck (fun _ => pc_ret ?_)) (fun w => ?_)
    · rcases L with L | L
      · exact .inl L
      · exact absurd L.1 w
    have l0 : l2 = 0 := by omega
    have A : ∀ m : Nat, m < i → ¬ OTm Bf nf (h 56 3) k m := by
      rcases L with L | L
      · omega
      · exact L.2
    have hi : (i : Int) < mc_S (Bf k) (nf k) := by omega
    have hmb : (i : Int) < mb_S (Bf k) (nf k) 1 := by unfold mb_S; rw [if_neg (by decide)]; exact hi
    have D := MD i hi
    refine pc_sv (vc_above S kI) ?_; intro u9 q9
    refine pc_ck (fun _ => pc_ck (fun _ => ?_))
    refine pc_sv (vq_of (nn := nn) X hi (w := 1) (x := nt_S (Bf k) (nf k) i 1) (by decide) (by rw [D.1.2.1]; unfold nt_S; rw [if_neg (by decide)])) ?_; intro u13 q13
    rw [q9, q13]
    refine pc_sv (vc_mo S hk (nt_1 G hmb) sI E2) ?_; intro u15 q15
    have NX : ¬ OTm Bf nf (h 56 3) k i → ∀ v : Int, v = (i : Int) + 1 → Pc (qw_X11_hasOtherAbove_4 nn f (8 + (k : Int)) 0 v h) (fun u => (u = 1 ∧ ∃ m : Nat, (m : Int) < mc_S (Bf k) (nf k) ∧ OTm Bf nf (h 56 3) k m) ∨ (u = 0 ∧ ∀ m : Nat, (m : Int) < mc_S (Bf k) (nf k) → ¬ OTm Bf nf (h 56 3) k m)) := fun no v ev => by
      rw [show v = ((i + 1 : Nat) : Int) by omega]
      refine ih (i + 1) 0 (.inr ⟨rfl, fun m hm => ?_⟩)
      by_cases mi : m = i
      · rw [mi]; exact no
      · exact A m (by omega)
    have YE : OTm Bf nf (h 56 3) k i → Pc (qj_X11_hasOtherAbove_124 nn (qw_X11_hasOtherAbove_4 nn f) (8 + (k : Int)) (i : Int) h) (fun u => (u = 1 ∧ ∃ m : Nat, (m : Int) < mc_S (Bf k) (nf k) ∧ OTm Bf nf (h 56 3) k m) ∨ (u = 0 ∧ ∀ m : Nat, (m : Int) < mc_S (Bf k) (nf k) → ¬ OTm Bf nf (h 56 3) k m)) := fun y => by
      unfold qj_X11_hasOtherAbove_124
      refine pc_add (by omega) ?_; intro v1 e1
      rw [show v1 = ((i + 1 : Nat) : Int) by omega]
      exact ih (i + 1) 1 (.inl ⟨rfl, i, hi, y⟩)
    rcases q15 with ⟨q15, HN⟩ | ⟨d, j, HF, q15⟩
    · rw [q15]
      refine pc_sv vc_im1 ?_; intro u18 q18
      refine pc_if (fun _ => ?_) (fun y => absurd (show u18 < 0 by omega) y)
      refine pc_add (by omega) ?_; intro v21 e21
      rw [l0]
      exact NX (fun ⟨d, j, HF, _⟩ => hfd_n HF HN) v21 e21
    · obtain ⟨dr, jm⟩ := hfd_is g3.1 sI HF
      have hd : (((d - 8).toNat : Nat) : Int) < h 56 3 := by omega
      have Y := S.1.2 _ hd
      obtain ⟨G2, -, -, MD2⟩ := cg_im Y
      have jc : (j : Int) < mc_S (Bf (d - 8).toNat) (nf (d - 8).toNat) := by unfold mb_S at jm; rw [if_neg (by decide)] at jm; exact jm
      have gm2 := G2.2.2.1
      have D2 := MD2 j jc
      rw [q15]
      refine pc_sv (vc_imn S.1 dr (by omega)) ?_; intro u18 q18
      have k3 : kc_O (h 60 (d - 8).toNat).toNat = 3 := Y.1.1.1
      rw [q18]
      refine pc_if (fun y => ?_) (fun _ => ?_)
      · exfalso
        rw [show (h 60 (d - 8).toNat).toNat = 0 by omega] at k3
        exact absurd k3 (by decide)
      refine pc_xl ?_; intro v22 e22
      rw [Int.tmod_eq_emod_of_nonneg (by omega)] at e22
      rw [show v22 = (j : Int) by omega]
      have OT : (¬ Bf k (ma_S (Bf k) (nf k) i) = 0 ∨ ¬ Bf (d - 8).toNat (ma_S (Bf (d - 8).toNat) (nf (d - 8).toNat) j) = 0 ∨ ¬ TXq (Bf k) (nf k) (kt_S (Bf k) (nf k) i 1) (Bf (d - 8).toNat) (nf (d - 8).toNat) (kt_S (Bf (d - 8).toNat) (nf (d - 8).toNat) j 1)) ↔ OTm Bf nf (h 56 3) k i := by
        constructor
        · intro w; exact ⟨d, j, HF, w⟩
        · intro ⟨d2, j2, HF2, w⟩
          obtain ⟨a1, a2⟩ := hfd_u HF HF2
          rw [a1, a2]; exact w
      refine pc_ck (fun _ => ?_)
      refine pc_sv (vq_of (nn := nn) X hi (w := 0) (x := Bf k (ma_S (Bf k) (nf k) i)) (by decide) D.1.1) ?_; intro u25 q25
      refine pc_if (fun y => YE (OT.1 (.inl (by rw [← q25]; exact y)))) (fun y25 => ?_)
      refine pc_ck (fun _ => ?_)
      refine pc_sv (vq_of (nn := nn) Y jc (w := 0) (x := Bf (d - 8).toNat (ma_S (Bf (d - 8).toNat) (nf (d - 8).toNat) j)) (by decide) D2.1.1) ?_; intro u27 q27
      refine pc_if (fun y => YE (OT.1 (.inr (.inl (by rw [← q27]; exact y))))) (fun y27 => ?_)
      refine pc_ck (fun _ => pc_ck (fun _ => ?_))
      refine pc_sv (vq_of (nn := nn) X hi (w := 2) (x := kt_S (Bf k) (nf k) i 1) (by decide) (by rw [D.1.2.2.1]; unfold kt_S; rw [if_neg (by decide)])) ?_; intro u31 q31
      refine pc_sv (vq_of (nn := nn) Y jc (w := 2) (x := kt_S (Bf (d - 8).toNat) (nf (d - 8).toNat) j 1) (by decide) (by rw [D2.1.2.2.1]; unfold kt_S; rw [if_neg (by decide)])) ?_; intro u33 q33
      rw [q31, q33]
      obtain ⟨m1, em1⟩ := kal_m G hi
      obtain ⟨m2, em2⟩ := kal_m G2 jc
      refine pc_sv (vc_same S.1 hk hd (ps_ok em1).2.1 (ps_ok em2).2.1) ?_; intro u35 q35
      refine pc_if (fun y => ?_) (fun y => YE (OT.1 (.inr (.inr ?_))))
      · refine pc_add (by omega) ?_; intro v36 e36
        refine NX (fun w => ?_) v36 e36
        rcases OT.2 w with z | z | z
        · exact y25 (by rw [q25]; exact z)
        · exact y27 (by rw [q27]; exact z)
        · rcases q35 with q | q
          · exact z q.2
          · exact y q.1
      · rcases q35 with q | q
        · omega
        · exact q.2
theorem vc_other (S : CSw Bf nf h) (hk : (k : Int) < h 56 3) (e5 : h 127 5 = h 60 k) (nz : ¬ sp_F Bf nf (h 56 3) (8 + (k : Int)) = -1) (E : ch_F Bf nf (h 56 3) (8 + (k : Int)) 17 = -1) : Pc (qf_X11_hasOtherAbove nn (8 + (k : Int)) h) (fun u => (u = 1 ∧ ∃ m : Nat, (m : Int) < mc_S (Bf k) (nf k) ∧ OTm Bf nf (h 56 3) k m) ∨ (u = 0 ∧ ∀ m : Nat, (m : Int) < mc_S (Bf k) (nf k) → ¬ OTm Bf nf (h 56 3) k m)) := by
  unfold qf_X11_hasOtherAbove
  exact vc_o4 S hk e5 nz E nn 0 0 (.inr ⟨rfl, fun m hm => absurd hm (by omega)⟩)
end
end
section
/- VERIFY: heads, the class's side, whole -/
/-- class k is there with all that it names, and its way up ends -/
def H3k (Bf : Nat → Nat → Int) (nf : Nat → Nat) (cnt : Int) (k : Nat) : Prop := ¬ sp_F Bf nf cnt (8 + (k : Int)) = -1 ∧ KAl Bf nf cnt (Bf k) (nf k) ∧ ch_F Bf nf cnt (8 + (k : Int)) 17 = -1
def TWk (Bf : Nat → Nat → Int) (nf : Nat → Nat) (k : Nat) : Prop := TWs (Bf k) (nf k) 0 ∨ TWs (Bf k) (nf k) 1
def OTk (Bf : Nat → Nat → Int) (nf : Nat → Nat) (cnt : Int) (k : Nat) : Prop := ∃ m : Nat, (m : Int) < mc_S (Bf k) (nf k) ∧ OTm Bf nf cnt k m
/-- class k is as it must be; or the number that tells what is not -/
def HOk (Bf : Nat → Nat → Int) (nf : Nat → Nat) (cnt : Int) (k : Nat) : Prop := H3k Bf nf cnt k ∧ ¬ TWk Bf nf k ∧ ¬ OTk Bf nf cnt k
def NUm (Bf : Nat → Nat → Int) (nf : Nat → Nat) (cnt : Int) (k : Nat) (u : Int) : Prop := (u = 3 ∧ ¬ H3k Bf nf cnt k) ∨ (u = 4 ∧ H3k Bf nf cnt k ∧ TWk Bf nf k) ∨ (u = 5 ∧ H3k Bf nf cnt k ∧ ¬ TWk Bf nf k ∧ OTk Bf nf cnt k)
/-- heads: all right, or told of the first -/
def HDw (Bf : Nat → Nat → Int) (nf : Nat → Nat) (cnt : Int) (k : Nat) (u a b c : Int) (OK : Prop) : Prop := (u = 0 ∧ (∀ j : Nat, k ≤ j → (j : Int) < cnt → HOk Bf nf cnt j) ∧ OK) ∨ ∃ j : Nat, k ≤ j ∧ (j : Int) < cnt ∧ (∀ i : Nat, k ≤ i → i < j → HOk Bf nf cnt i) ∧ NUm Bf nf cnt j u ∧ a = 8 + (j : Int) ∧ b = -1 ∧ c = -1
/-- the class's verifier writes its own cells alone -/
def VCk (h g : ms_M) : Prop := ∀ c j : Nat, ¬ (127 ≤ c ∧ c ≤ 135) → g c j = h c j
section
variable {nn : Nat} {Bf : Nat → Nat → Int} {nf : Nat → Nat} {cnt : Int} {B C : Nat → Int} {n m b d k o : Nat} {M h g r h0 : ms_M} {t s c : Int}
theorem num_u {u v : Int} (A : NUm Bf nf cnt k u) (D : NUm Bf nf cnt k v) : u = v := by
  rcases A with ⟨a, a1⟩ | ⟨a, a1, a2⟩ | ⟨a, a1, a2, a3⟩
  · rcases D with ⟨d, d1⟩ | ⟨d, d1, d2⟩ | ⟨d, d1, d2, d3⟩
    · omega
    · exact absurd d1 a1
    · exact absurd d1 a1
  · rcases D with ⟨d, d1⟩ | ⟨d, d1, d2⟩ | ⟨d, d1, d2, d3⟩
    · exact absurd a1 d1
    · omega
    · exact absurd a2 d2
  · rcases D with ⟨d, d1⟩ | ⟨d, d1, d2⟩ | ⟨d, d1, d2, d3⟩
    · exact absurd a1 d1
    · exact absurd d2 a2
    · omega
theorem num_ok {u : Int} (A : NUm Bf nf cnt k u) : ¬ HOk Bf nf cnt k ∧ (u = 3 ∨ u = 4 ∨ u = 5) := by
  rcases A with ⟨a, a1⟩ | ⟨a, a1, a2⟩ | ⟨a, a1, a2, a3⟩
  · exact ⟨fun z => a1 z.1, by omega⟩
  · exact ⟨fun z => z.2.1 a2, by omega⟩
  · exact ⟨fun z => z.2.2 a3, by omega⟩
/-- two tellings are the same -/
theorem hdw_u {u v a b c d e f : Int} {P Q : Prop} (A : HDw Bf nf cnt k u a b c P) (D : HDw Bf nf cnt k v d e f Q) : u = v ∧ ((u = 0 ∧ (∀ j : Nat, k ≤ j → (j : Int) < cnt → HOk Bf nf cnt j) ∧ P ∧ Q) ∨ (¬ u = 0 ∧ a = d ∧ b = e ∧ c = f)) := by
  rcases A with ⟨a1, a2, a3⟩ | ⟨j, j1, j2, j3, j4, j5, j6, j7⟩
  · rcases D with ⟨d1, d2, d3⟩ | ⟨i, i1, i2, i3, i4, i5, i6, i7⟩
    · exact ⟨by omega, .inl ⟨a1, a2, a3, d3⟩⟩
    · exact absurd (a2 i i1 i2) (num_ok i4).1
  · rcases D with ⟨d1, d2, d3⟩ | ⟨i, i1, i2, i3, i4, i5, i6, i7⟩
    · exact absurd (d2 j j1 j2) (num_ok j4).1
    · have e : j = i := by
        rcases Nat.lt_trichotomy j i with q | q | q
        · exact absurd (i3 j j1 q) (num_ok j4).1
        · exact q
        · exact absurd (j3 i i1 q) (num_ok i4).1
      rw [e] at j4 j5
      have := (num_ok j4).2
      exact ⟨num_u j4 i4, .inr ⟨by omega, by omega, by omega, by omega⟩⟩
theorem vck_t (A : VCk h g) (D : VCk g r) : VCk h r := fun c j z => (D c j z).trans (A c j z)
theorem csw_v (S : CSw Bf nf h) (A : VCk h g) : CSw Bf nf g := csw_k S (fun c j _ z => A c j z)
theorem vc_take (S : CSv Bf nf h) (hk : (k : Int) < h 56 3) : Pc (qf_X11_takeImage nn (8 + (k : Int)) h) (fun u => u = up_M h 127 5 (h 60 k) ∧ 0 ≤ h 60 k) := by
  have k3 : kc_O (h 60 k).toNat = 3 := (S.2 k hk).1.1.1
  unfold qf_X11_takeImage
  have q := vc_img (nn := nn) S (c := 8 + (k : Int)) (by omega) (by omega)
  rw [show (8 + (k : Int) - 8).toNat = k by omega] at q
  refine pc_sv q ?_; intro u3 q3
  rw [q3]
  refine pc_if (fun z => ?_) (fun z => ?_)
  · exfalso
    rw [show (h 60 k).toNat = 0 by omega] at k3
    exact absurd k3 (by decide)
  · refine pc_wR ?_; intro h6 e6
    refine pc_ret ⟨?_, by omega⟩
    rw [e6, show (((h 60 k).toNat : Nat) : Int) = h 60 k by omega]
/-- PROVE HEADS, the class -/
theorem vc_heads3 (hn : 1000000 ≤ nn) (S0 : CSw Bf nf h0) : ∀ (f k : Nat) (h : ms_M), VCk h0 h → (h 127 2 = h0 127 2 ∧ h 127 3 = h0 127 3 ∧ h 127 4 = h0 127 4) → (k : Int) ≤ h0 56 3 → Pc (qw_X11_proveHeads_3 nn f (8 + (k : Int)) h) (fun u => VCk h0 u.2 ∧ HDw Bf nf (h0 56 3) k u.1 (u.2 127 2) (u.2 127 3) (u.2 127 4) (u.2 127 2 = h0 127 2 ∧ u.2 127 3 = h0 127 3 ∧ u.2 127 4 = h0 127 4)) := by
  have g3 := S0.1.1
  intro f
  induction f with
  | zero => intro k h _ _ _; exact pc_none
  | succ f ih =>
    intro k h V T hk0
    have c3 : h 56 3 = h0 56 3 := V 56 3 (by omega)
    have S := csw_v S0 V
    unfold qw_X11_proveHeads_3
    rw [c3]
    refine pc_add (by omega) ?_; intro v7 e7
    refine pc_if (fun z => pc_ret ⟨V, .inl ⟨rfl, fun j h1 h2 => absurd h2 (by omega), T⟩⟩) (fun z => ?_)
    have hk : (k : Int) < h 56 3 := by omega
    refine pc_sv (vc_take S.1 hk) ?_; intro u9 ⟨e9, p9⟩
    have V9 : VCk h u9 := fun c j z => by rw [e9, up_n (by omega)]
    have S9 := csw_v S V9
    have c9 : u9 56 3 = h0 56 3 := (V9 56 3 (by omega)).trans c3
    have hk9 : (k : Int) < u9 56 3 := by omega
    have e5 : u9 127 5 = u9 60 k := by rw [V9 60 k (by omega), e9, up_s]
    have T9 : u9 127 2 = h0 127 2 ∧ u9 127 3 = h0 127 3 ∧ u9 127 4 = h0 127 4 := by rw [e9, up_n (by omega), up_n (by omega), up_n (by omega)]; exact T
    have kI : ISc (u9 56 3) (8 + (k : Int)) := by unfold ISc; omega
    -- the end of one class
    have TL : ∀ (num : Int) (g : ms_M), VCk h0 g → ¬ num = 0 → NUm Bf nf (h0 56 3) k num → Pc (qj_X11_proveHeads_81 nn (qw_X11_proveHeads_3 nn f) (8 + (k : Int)) num g) (fun u => VCk h0 u.2 ∧ HDw Bf nf (h0 56 3) k u.1 (u.2 127 2) (u.2 127 3) (u.2 127 4) (u.2 127 2 = h0 127 2 ∧ u.2 127 3 = h0 127 3 ∧ u.2 127 4 = h0 127 4)) := fun num g Vg n0 N => by
      unfold qj_X11_proveHeads_81 qf_X11_tellNumber
      refine pc_if (fun y => absurd y n0) (fun _ => ?_)
      refine pc_sv (P := fun u => u.1 = num ∧ VCk g u.2 ∧ u.2 127 2 = 8 + (k : Int) ∧ u.2 127 3 = -1 ∧ u.2 127 4 = -1) ?_ ?_
      · refine pc_xl ?_; intro h1 e1
        refine pc_xl ?_; intro h2 e2
        refine pc_xl ?_; intro h3 e3
        refine pc_ret ⟨rfl, fun c j z => ?_, ?_, ?_, ?_⟩
        · show h3 c j = g c j
          rw [e3, up_n (by omega), e2, up_n (by omega), e1, up_n (by omega)]
        · show h3 127 2 = _
          rw [e3, up_n (by omega), e2, up_n (by omega), e1, up_s]
        · show h3 127 3 = _
          rw [e3, up_n (by omega), e2, up_s]
        · show h3 127 4 = _
          rw [e3, up_s]
      intro u3 ⟨r1, r2, r3, r4, r5⟩
      refine pc_ret ⟨vck_t Vg r2, .inr ⟨k, Nat.le_refl _, by omega, fun i h1 h2 => absurd h2 (by omega), by rw [r1]; exact N, r3, r4, r5⟩⟩
    have T3 : ∀ g : ms_M, VCk h0 g → ¬ H3k Bf nf (h0 56 3) k → Pc (qj_X11_proveHeads_54 nn (qw_X11_proveHeads_3 nn f) (8 + (k : Int)) g) (fun u => VCk h0 u.2 ∧ HDw Bf nf (h0 56 3) k u.1 (u.2 127 2) (u.2 127 3) (u.2 127 4) (u.2 127 2 = h0 127 2 ∧ u.2 127 3 = h0 127 3 ∧ u.2 127 4 = h0 127 4)) := fun g Vg N => by
      unfold qj_X11_proveHeads_54
      exact TL 3 g Vg (by decide) (.inl ⟨rfl, N⟩)
    refine pc_sv (vc_above S9 kI) ?_; intro u12 q12
    rw [c9] at q12
    have VH9 := vck_t V V9
    refine pc_if (fun y => T3 u9 VH9 (fun w => w.1 (by rw [← q12]; exact y))) (fun y12 => ?_)
    refine pc_sv (vc_kinds hn S9.1 hk9 e5) ?_; intro u14 ⟨F14, q14⟩
    rw [c9] at q14
    have V14 : VCk u9 u14.2 := fun c j z => F14 c j (by omega)
    have VH := vck_t VH9 V14
    refine pc_if (fun y => T3 u14.2 VH (fun w => ?_)) (fun y14 => ?_)
    · rcases q14 with q | q
      · omega
      · exact q.2 w.2.1
    have KA : KAl Bf nf (h0 56 3) (Bf k) (nf k) := by
      rcases q14 with q | q
      · exact q.2
      · exact absurd q.1 y14
    have S14 := csw_v S9 V14
    have c14 : u14.2 56 3 = h0 56 3 := (V14 56 3 (by omega)).trans c9
    have e514 : u14.2 127 5 = u14.2 60 k := by rw [F14 127 5 (by omega), F14 60 k (by omega)]; exact e5
    have T14 : u14.2 127 2 = h0 127 2 ∧ u14.2 127 3 = h0 127 3 ∧ u14.2 127 4 = h0 127 4 := by rw [F14 127 2 (by omega), F14 127 3 (by omega), F14 127 4 (by omega)]; exact T9
    refine pc_sv (vc_ends S14 (c := 8 + (k : Int)) (.inr (by rw [c14, ← c9]; exact kI))) ?_; intro u17 q17
    rw [c14] at q17
    refine pc_if (fun y17 => ?_) (fun y17 => T3 u14.2 VH (fun w => ?_))
    · have EN : ch_F Bf nf (h0 56 3) (8 + (k : Int)) 17 = -1 := by
        rcases q17 with q | q
        · exact q.2
        · exact absurd q.1 y17
      have H3 : H3k Bf nf (h0 56 3) k := ⟨fun w => y12 (by rw [q12]; exact w), KA, EN⟩
      refine pc_sv (vc_twins S14.1 (k := k) (by omega) e514) ?_; intro u19 q19
      refine pc_if (fun y19 => ?_) (fun y19 => ?_)
      · have NT : ¬ TWk Bf nf k := by
          rcases q19 with q | q
          · omega
          · exact fun w => by rcases w with w | w; exact q.2.1 w; exact q.2.2 w
        refine pc_sv (vc_other S14 (k := k) (by omega) e514 (by rw [c14]; exact H3.1) (by rw [c14]; exact EN)) ?_; intro u21 q21
        rw [c14] at q21
        refine pc_if (fun y21 => ?_) (fun y21 => TL 5 u14.2 VH (by decide) (.inr (.inr ⟨rfl, H3, NT, ?_⟩)))
        · have NO : ¬ OTk Bf nf (h0 56 3) k := by
            rcases q21 with q | q
            · omega
            · exact fun ⟨m, m1, m2⟩ => q.2 m m1 m2
          unfold qj_X11_proveHeads_81
          refine pc_if (fun _ => ?_) (fun w => absurd rfl w)
          refine pc_add (by omega) ?_; intro v1 e1
          rw [show v1 = 8 + ((k + 1 : Nat) : Int) by omega]
          refine pc_imp (ih (k + 1) u14.2 VH T14 (by omega)) (fun u ⟨w1, w2⟩ => ⟨w1, ?_⟩)
          have OKk : HOk Bf nf (h0 56 3) k := ⟨H3, NT, NO⟩
          rcases w2 with ⟨a1, a2, a3⟩ | ⟨j, j1, j2, j3, j4⟩
          · refine .inl ⟨a1, fun j h1 h2 => ?_, a3⟩
            by_cases jk : j = k
            · rw [jk]; exact OKk
            · exact a2 j (by omega) h2
          · refine .inr ⟨j, by omega, j2, fun i h1 h2 => ?_, j4⟩
            by_cases ik : i = k
            · rw [ik]; exact OKk
            · exact j3 i (by omega) h2
        · rcases q21 with q | q
          · exact q.2
          · exact absurd q.1 y21
      · refine TL 4 u14.2 VH (by decide) (.inr (.inl ⟨rfl, H3, ?_⟩))
        rcases q19 with q | q
        · exact q.2
        · exact absurd q.1 y19
    · rcases q17 with q | q
      · omega
      · exact q.2 w.2.2
theorem vc_heads (hn : 1000000 ≤ nn) (S : CSw Bf nf h) : Pc (qf_X11_proveHeads nn h) (fun u => VCk h u.2 ∧ HDw Bf nf (h 56 3) 0 u.1 (u.2 127 2) (u.2 127 3) (u.2 127 4) (u.2 127 2 = h 127 2 ∧ u.2 127 3 = h 127 3 ∧ u.2 127 4 = h 127 4)) := by
  unfold qf_X11_proveHeads
  exact vc_heads3 hn S nn 0 h (fun _ _ _ => rfl) ⟨rfl, rfl, rfl⟩ S.1.1.1
end
end
section
/- VERIFY: heads, the reference's side -/
/-- the reference's check of classes writes these alone -/
def VRk (h g : ms_M) : Prop := (∀ x j : Nat, ¬ (x = 160 ∧ 117 ≤ j ∧ j ≤ 125) → ¬ x = 240 → ¬ x = 241 → g x j = h x j) ∧ (0 ≤ h 160 117 → 0 ≤ g 160 117)
def SWy (h g : ms_M) : Prop := g 160 122 = h 160 122 ∧ g 160 123 = h 160 123 ∧ g 160 124 = h 160 124 ∧ g 160 125 = h 160 125
/-- what classFits gives -/
def RCF (Bf : Nat → Nat → Int) (nf : Nat → Nat) (cnt : Int) (k : Nat) (h : ms_M) (u : Int × ms_M) : Prop := VRk h u.2 ∧ ((u.1 = 1 ∧ HOk Bf nf cnt k ∧ SWy h u.2) ∨ (u.1 = 0 ∧ NUm Bf nf cnt k (u.2 160 122) ∧ u.2 160 123 = 8 + (k : Int) ∧ u.2 160 124 = -1 ∧ u.2 160 125 = -1))
section
variable {nn : Nat} {Bf : Nat → Nat → Int} {nf : Nat → Nat} {cnt : Int} {B C : Nat → Int} {n m b d k o : Nat} {M h g r h0 : ms_M} {t s c : Int}
theorem vrk_r : VRk h h := ⟨fun _ _ _ _ _ => rfl, fun z => z⟩
theorem vrk_t (A : VRk h g) (D : VRk g r) : VRk h r := ⟨fun x j z1 z2 z3 => (D.1 x j z1 z2 z3).trans (A.1 x j z1 z2 z3), fun z => D.2 (A.2 z)⟩
theorem vrk_o (A : OTH h g) : VRk h g := ⟨fun x j z1 z2 z3 => A.1 x j (by omega) z2 z3, A.2⟩
theorem rsv_v (S : RSv Bf nf h) (A : VRk h g) : RSv Bf nf g := rsv_k S (fun x j z => A.1 x j (by omega) (by omega) (by omega)) (A.1 160 98 (by omega) (by omega) (by omega))
theorem swy_o (A : OTH h g) : SWy h g := ⟨A.1 _ _ (by omega) (by omega) (by omega), A.1 _ _ (by omega) (by omega) (by omega), A.1 _ _ (by omega) (by omega) (by omega), A.1 _ _ (by omega) (by omega) (by omega)⟩
theorem swy_t (A : SWy h g) (D : SWy g r) : SWy h r := ⟨D.1.trans A.1, D.2.1.trans A.2.1, D.2.2.1.trans A.2.2.1, D.2.2.2.trans A.2.2.2⟩
theorem vr_bad {num l1 a b : Int} : Pc (qf_X13_bad nn num l1 a b h) (fun u => u.1 = 0 ∧ VRk h u.2 ∧ u.2 160 122 = num ∧ u.2 160 123 = l1 ∧ u.2 160 124 = a ∧ u.2 160 125 = b) := by
  unfold qf_X13_bad
  refine pc_xl ?_; intro h1 e1
  refine pc_xl ?_; intro h2 e2
  refine pc_xl ?_; intro h3 e3
  refine pc_xl ?_; intro h4 e4
  refine pc_ret ⟨rfl, ⟨fun x j z1 z2 z3 => ?_, fun z => ?_⟩, ?_, ?_, ?_, ?_⟩
  · show h4 x j = h x j
    rw [e4, up_n (by omega), e3, up_n (by omega), e2, up_n (by omega), e1, up_n (by omega)]
  · show 0 ≤ h4 160 117
    rw [e4, up_n (by omega), e3, up_n (by omega), e2, up_n (by omega), e1, up_n (by omega)]; exact z
  · show h4 160 122 = num
    rw [e4, up_n (by omega), e3, up_n (by omega), e2, up_n (by omega), e1, up_s]
  · show h4 160 123 = l1
    rw [e4, up_n (by omega), e3, up_n (by omega), e2, up_s]
  · show h4 160 124 = a
    rw [e4, up_n (by omega), e3, up_s]
  · show h4 160 125 = b
    rw [e4, up_s]
/-- .. a class is told -/
theorem vr_badF {num : Int} (A : VRk h0 h) (N : NUm Bf nf cnt k num) : Pc (mx_sv (qf_X13_bad nn num (8 + (k : Int)) (-1) (-1) h) fun u => ck_B (u.1 = 0 ∨ u.1 = 1) <| some (u.1, u.2)) (RCF Bf nf cnt k h0) := by
  refine pc_sv vr_bad ?_; intro u ⟨r1, r2, r3, r4, r5, r6⟩
  refine pc_ck (fun _ => pc_ret ⟨vrk_t A r2, .inr ⟨r1, ?_, r4, r5, r6⟩⟩)
  show NUm Bf nf cnt k (u.2 160 122)
  rw [r3]; exact N
/-- STANDS A METHOD FOR ANOTHER, the reference -/
theorem vr_204 (N : NKn Bf nf cnt) (hk : (k : Int) < cnt) (H3 : H3k Bf nf cnt k) (NT : ¬ TWk Bf nf k) : ∀ (f i : Nat) (h : ms_M), RSv Bf nf h → h 160 98 = cnt → VRk h0 h → SWy h0 h → (∀ m : Nat, m < i → ¬ OTm Bf nf cnt k m) → Pc (qw_X13_classFits_204 nn f (8 + (k : Int)) (k : Int) (i : Int) h) (RCF Bf nf cnt k h0) := by
  intro f
  induction f with
  | zero => intro i h _ _ _ _ _; exact pc_none
  | succ f ih =>
    intro i h S ec V W A
    have hk' : (k : Int) < h 160 98 := by omega
    have g3 := S.1
    obtain ⟨n6, k8⟩ := tb_n6 S hk'
    obtain ⟨G, -, e34, M1⟩ := rg_im (S.2 k hk')
    have gm := G.2.2.1
    have kI : ISc cnt (8 + (k : Int)) := by unfold ISc; omega
    have sI : sp_F Bf nf cnt (8 + (k : Int)) = -1 ∨ ISc cnt (sp_F Bf nf cnt (8 + (k : Int))) := sp_is (by omega) kI.1
    have E2 := ch_sp (Bf := Bf) (nf := nf) kI.1 H3.2.2
    unfold qw_X13_classFits_204
    refine pc_rA ?_; intro _ _ v5 e5
    rw [e34] at e5
    refine pc_if (fun z => pc_ret ⟨V, .inl ⟨rfl, ⟨H3, NT, fun ⟨m, m1, m2⟩ => A m (by omega) m2⟩, W⟩⟩) (fun z => ?_)
    have hi : (i : Int) < mc_S (Bf k) (nf k) := by omega
    have hmb : (i : Int) < mb_S (Bf k) (nf k) 1 := by unfold mb_S; rw [if_neg (by decide)]; exact hi
    have q7 := vr_super (nn := nn) (by rw [ec]; exact N) S (c := 8 + (k : Int)) (by rw [ec]; exact kI)
    rw [ec] at q7
    refine pc_sv q7 ?_; intro u7 e7
    refine pc_sv (vq_rtx (nn := nn) S hk' hmb).1 ?_; intro u9 e9
    rw [e7, e9]
    have q11 := vr_holder (nn := nn) (s := 1) (by rw [ec]; exact N) S hk' (nt_1 G hmb) (by rw [ec]; exact sI) (by rw [ec]; exact E2)
    rw [ec] at q11
    refine pc_sv q11 ?_; intro u11 e11
    have NX : ∀ g : ms_M, RSv Bf nf g → g 160 98 = cnt → VRk h0 g → SWy h0 g → ¬ OTm Bf nf cnt k i → ∀ v : Int, v = (i : Int) + 1 → Pc (qw_X13_classFits_204 nn f (8 + (k : Int)) (k : Int) v g) (RCF Bf nf cnt k h0) := fun g Sg eg Vg Wg no v ev => by
      rw [show v = ((i + 1 : Nat) : Int) by omega]
      refine ih (i + 1) g Sg eg Vg Wg (fun m hm => ?_)
      by_cases mi : m = i
      · rw [mi]; exact no
      · exact A m (by omega)
    rcases e11 with ⟨e11, HN⟩ | ⟨d, j, HF, e11⟩
    · rw [e11]
      refine pc_if (fun w => absurd rfl w) (fun _ => ?_)
      refine pc_add (by omega) ?_; intro v37 e37
      exact NX h S ec V W (fun ⟨d, j, HF, _⟩ => hfd_n HF HN) v37 e37
    · obtain ⟨dr, jm⟩ := hfd_is (by omega) sI HF
      have jc : (j : Int) < mc_S (Bf (d - 8).toNat) (nf (d - 8).toNat) := by unfold mb_S at jm; rw [if_neg (by decide)] at jm; exact jm
      rw [e11]
      have V2 : VRk h (up_M h 160 121 (j : Int)) := ⟨fun x y z1 z2 z3 => by rw [up_n (by omega)], fun z => by rw [up_n (by omega)]; exact z⟩
      have W2 : SWy h (up_M h 160 121 (j : Int)) := ⟨by rw [up_n (by omega)], by rw [up_n (by omega)], by rw [up_n (by omega)], by rw [up_n (by omega)]⟩
      have S2 := rsv_v S V2
      have j21 : (up_M h 160 121 (j : Int)) 160 121 = (j : Int) := by rw [up_s]
      generalize hg : up_M h 160 121 (j : Int) = g at *
      have eg : g 160 98 = cnt := (V2.1 160 98 (by omega) (by omega) (by omega)).trans ec
      have hkg : (k : Int) < g 160 98 := by omega
      have hd : (((d - 8).toNat : Nat) : Int) < g 160 98 := by omega
      obtain ⟨G2, -, -, M2⟩ := rg_im (S2.2 _ hd)
      obtain ⟨-, -, -, M1g⟩ := rg_im (S2.2 k hkg)
      have gm2 := G2.2.2.1
      obtain ⟨n62, d8⟩ := tb_n6 S2 hd
      refine pc_if (fun _ => ?_) (fun w => absurd (show ¬ d = -1 by omega) w)
      refine pc_sub (by dsimp only; omega) ?_; intro v12 e12
      have ed : v12 = (((d - 8).toNat : Nat) : Int) := by dsimp only at e12; omega
      rw [ed]
      dsimp only
      rw [j21]
      refine pc_sv (vq_rtx (nn := nn) S2 hd jm).2 ?_; intro u15 q15
      refine pc_sv (vq_rtx (nn := nn) S2 hkg hmb).2 ?_; intro u17 q17
      rw [q15, q17]
      obtain ⟨m1, em1⟩ := kal_m G hi
      obtain ⟨m2, em2⟩ := kal_m G2 jc
      refine pc_sv (vr_same S2 hd hkg (ps_ok em2).2.1 (ps_ok em1).2.1) ?_; intro u19 q19
      have OT : (¬ Bf k (ma_S (Bf k) (nf k) i) = 0 ∨ ¬ Bf (d - 8).toNat (ma_S (Bf (d - 8).toNat) (nf (d - 8).toNat) j) = 0 ∨ ¬ TXq (Bf k) (nf k) (kt_S (Bf k) (nf k) i 1) (Bf (d - 8).toNat) (nf (d - 8).toNat) (kt_S (Bf (d - 8).toNat) (nf (d - 8).toNat) j 1)) ↔ OTm Bf nf cnt k i := by
        constructor
        · intro w; exact ⟨d, j, HF, w⟩
        · intro ⟨d2, j2, HF2, w⟩
          obtain ⟨a1, a2⟩ := hfd_u HF HF2
          rw [a1, a2]; exact w
      have YE : OTm Bf nf cnt k i → Pc (qj_X13_classFits_331 nn (8 + (k : Int)) g) (RCF Bf nf cnt k h0) := fun y => by
        unfold qj_X13_classFits_331
        exact vr_badF (vrk_t V V2) (.inr (.inr ⟨rfl, H3, NT, i, hi, y⟩))
      have gi := (G.2.2.2 i hi).1.1
      have gj := (G2.2.2.2 j jc).1.1
      have li := (G.2.2.2 i hi).2.2.2.1
      have lj := (G2.2.2.2 j jc).2.2.2.1
      refine pc_if (fun y => YE (OT.1 (.inr (.inr (fun T => ?_))))) (fun y19 => ?_)
      · rcases q19 with q | q
        · omega
        · exact q.2 (txq_s T)
      have TX : TXq (Bf k) (nf k) (kt_S (Bf k) (nf k) i 1) (Bf (d - 8).toNat) (nf (d - 8).toNat) (kt_S (Bf (d - 8).toNat) (nf (d - 8).toNat) j 1) := by
        rcases q19 with q | q
        · exact txq_s q.2
        · exact absurd q.1 y19
      refine pc_xl ?_; intro v21 e21
      rw [oq_mul_eq (by omega) (by omega) (by omega)] at e21
      refine pc_add (by omega) ?_; intro v23 e23
      refine pc_rA ?_; intro _ _ v24 e24
      rw [show v23 = 12 * (((d - 8).toNat : Nat) : Int) + j by omega, (M2 j jc).1] at e24
      rw [e24]
      refine pc_sv (vq_rbyte S2 hd (by omega)) ?_; intro u26 q26
      refine pc_if (fun y => YE (OT.1 (.inr (.inl (by omega))))) (fun y26 => ?_)
      refine pc_xl ?_; intro v28 e28
      rw [oq_mul_eq (by omega) (by omega) (by omega)] at e28
      refine pc_add (by omega) ?_; intro v29 e29
      refine pc_rA ?_; intro _ _ v30 e30
      rw [show v29 = 12 * (k : Int) + i by omega, (M1g i hi).1] at e30
      rw [e30]
      refine pc_sv (vq_rbyte S2 hkg (by omega)) ?_; intro u32 q32
      refine pc_if (fun y => ?_) (fun y => YE (OT.1 (.inl (by omega))))
      refine pc_add (by omega) ?_; intro v33 e33
      refine NX g S2 eg (vrk_t V V2) (swy_t W W2) (fun w => ?_) v33 e33
      rcases OT.2 w with z | z | z
      · omega
      · omega
      · exact z TX
end
end

/- VERIFY: kinds that are there, both sides -/
section
variable {nn : Nat} {Bf : Nat → Nat → Int} {nf : Nat → Nat} {cnt : Int} {B : Nat → Int} {n b k : Nat} {M h g r : ms_M}
theorem kal_f (h2 : GIM B n) {j : Nat} (hj : (j : Int) < fc_S B n) : fk_S B n (kt_S B n j 0) = true := by
  have := (h2.2.1 j hj).2.2
  unfold kt_S; rw [if_pos rfl]; exact this
theorem kal_m (h2 : GIM B n) {i : Nat} (hi : (i : Int) < mc_S B n) : ∃ m : Nat, pi_S B n (kt_S B n i 1) = some m := by
  obtain ⟨m, e, -⟩ := (h2.2.2.2 i hi).2.1
  refine ⟨m, ?_⟩
  unfold kt_S; rw [if_neg (by decide)]; exact e
/-- the flags of a row -/
theorem vc_108 {qk : Int → Int → ms_M → Option (Int × ms_M)} {Q : Int × ms_M → Prop} {l2 : Int} {m : Nat} (m6 : m ≤ 6) (r2 : 0 ≤ l2 ∧ l2 ≤ 1000) : ∀ (f : Nat) (l1 : Int) (j : Nat), (l1 = 0 ∨ l1 = 1) → j ≤ m + 1 → (∀ fl : Int, (fl = 1 ∧ l1 = 1 ∧ (∀ i : Nat, j ≤ i → i ≤ m → ¬ h 131 i = -1)) ∨ (fl = 0 ∧ ¬ (l1 = 1 ∧ ∀ i : Nat, j ≤ i → i ≤ m → ¬ h 131 i = -1)) → Pc (qk fl (l2 + 1) h) Q) → Pc (qw_X11_areKindsThere_108 nn qk f l1 l2 (m : Int) (j : Int) h) Q := by
  intro f
  induction f with
  | zero => intro l1 j _ _ _; exact pc_none
  | succ f ih =>
    intro l1 j b1 hj Hk
    unfold qw_X11_areKindsThere_108
    refine pc_if (fun z => ?_) (fun z => ?_)
    · refine pc_add (by omega) ?_; intro v2 e2
      rw [e2]
      refine Hk l1 ?_
      rcases b1 with q | q
      · exact .inr ⟨q, fun y => by omega⟩
      · exact .inl ⟨q, q, fun i h1 h2 => absurd h1 (by omega)⟩
    · have Z : Pc (qj_X11_areKindsThere_133 nn qk (qw_X11_areKindsThere_108 nn qk f) l2 (m : Int) (j : Int) h) Q ∨ l1 = 1 ∧ ¬ h 131 j = -1 := by
        by_cases w : l1 = 1 ∧ ¬ h 131 j = -1
        · exact .inr w
        · refine .inl ?_
          unfold qj_X11_areKindsThere_133
          refine pc_add (by omega) ?_; intro v1 e1
          rw [show v1 = ((j + 1 : Nat) : Int) by omega]
          refine ih 0 (j + 1) (.inl rfl) (by omega) (fun fl hf => Hk fl ?_)
          rcases hf with ⟨-, y, -⟩ | ⟨y, -⟩
          · exact absurd y (by decide)
          · exact .inr ⟨y, fun x => w ⟨x.1, x.2 j (Nat.le_refl _) (by omega)⟩⟩
      refine pc_if (fun w => ?_) (fun w => ?_)
      · rcases Z with Z | Z
        · exact Z
        · omega
      · refine pc_rA ?_; intro _ _ v4 e4
        rw [Int.toNat_natCast] at e4
        refine pc_if (fun y => ?_) (fun y => ?_)
        · rcases Z with Z | Z
          · exact Z
          · omega
        · refine pc_add (by omega) ?_; intro v5 e5
          rw [show v5 = ((j + 1 : Nat) : Int) by omega]
          refine ih 1 (j + 1) (.inr rfl) (by omega) (fun fl hf => Hk fl ?_)
          rcases hf with ⟨x1, -, x3⟩ | ⟨x1, x2⟩
          · refine .inl ⟨x1, by omega, fun i h1 h2 => ?_⟩
            by_cases ij : i = j
            · rw [ij]; omega
            · exact x3 i (by omega) h2
          · exact .inr ⟨x1, fun q => x2 ⟨rfl, fun i h1 h2 => q.2 i (by omega) h2⟩⟩
/-- what the class asks of a method's kind, of a field's -/
def KMl (Bf : Nat → Nat → Int) (nf : Nat → Nat) (cnt : Int) (B : Nat → Int) (n i : Nat) : Prop := (∀ j : Nat, j < pm_S B n (kt_S B n i 1) → ¬ kq_F Bf nf cnt B (ps_S B n (kt_S B n i 1) j) (ps_S B n (kt_S B n i 1) (j + 1)) = -1) ∧ ¬ kq_F Bf nf cnt B (ps_S B n (kt_S B n i 1) (pm_S B n (kt_S B n i 1)) + 1) (na_S B n (kt_S B n i 1) + tl_S B n (kt_S B n i 1)) = -1
def KFl (Bf : Nat → Nat → Int) (nf : Nat → Nat) (cnt : Int) (B : Nat → Int) (n j : Nat) : Prop := ¬ kq_F Bf nf cnt B (na_S B n (kt_S B n j 0)) (na_S B n (kt_S B n j 0) + tl_S B n (kt_S B n j 0)) = -1
theorem vc_68 (hn : 1000000 ≤ nn) (hk : (k : Int) < h 56 3) (S0 : CSv Bf nf h) (e5 : h 127 5 = h 60 k) : ∀ (f : Nat) (l1 : Int) (i : Nat) (M : ms_M), (l1 = 0 ∨ l1 = 1) → (∀ c j : Nat, ¬ c = 131 → M c j = h c j) → Pc (qw_X11_areKindsThere_68 nn f l1 (i : Int) M) (fun u => (∀ c j : Nat, ¬ c = 131 → u.2 c j = h c j) ∧ ((u.1 = 1 ∧ l1 = 1 ∧ ∀ j : Nat, i ≤ j → (j : Int) < mc_S (Bf k) (nf k) → KMl Bf nf (h 56 3) (Bf k) (nf k) j) ∨ (u.1 = 0 ∧ ¬ (l1 = 1 ∧ ∀ j : Nat, i ≤ j → (j : Int) < mc_S (Bf k) (nf k) → KMl Bf nf (h 56 3) (Bf k) (nf k) j)))) := by
  obtain ⟨G, -, -, -⟩ := cg_im (S0.2 k hk)
  have g3 := G.2.2.1
  intro f
  induction f with
  | zero => intro l1 i M _ _; exact pc_none
  | succ f ih =>
    intro l1 i M b1 W
    have S : CSv Bf nf M := csv_k S0 (fun c j _ z => W c j (by omega))
    have c3 : M 56 3 = h 56 3 := W 56 3 (by omega)
    have c60 : M 60 k = h 60 k := W 60 k (by omega)
    have X := S.2 k (by omega)
    have e12 := (cg_im X).2.2.1
    have eM : M 127 5 = h 60 k := (W 127 5 (by omega)).trans e5
    rw [c60] at e12
    unfold qw_X11_areKindsThere_68
    rw [eM]
    refine pc_ck (fun _ => ?_)
    refine pc_ck (fun _ => ?_)
    refine pc_if (fun z => ?_) (fun z => ?_)
    · refine pc_ck (fun _ => pc_ret ⟨W, ?_⟩)
      rcases b1 with q | q
      · exact .inr ⟨q, fun y => by omega⟩
      · exact .inl ⟨q, q, fun j h1 h2 => absurd h2 (by omega)⟩
    · have hi : (i : Int) < mc_S (Bf k) (nf k) := by omega
      refine pc_ck (fun _ => ?_)
      refine pc_ck (fun _ => ?_)
      obtain ⟨m, em⟩ := kal_m G hi
      obtain ⟨pe, -, KD⟩ := ps_ok em
      have m6 := KD.1.2.2
      have D := (cg_im X).2.2.2 i hi
      rw [c60] at D
      have q := vq_of (nn := nn) X hi (w := 2) (x := kt_S (Bf k) (nf k) i 1) (by decide) (by rw [c60, D.1.2.2.1]; unfold kt_S; rw [if_neg (by decide)])
      rw [c60] at q
      refine pc_sv q ?_; intro u16 q16
      rw [q16]
      have q2 := vc_readM hn S (a := 0) (by decide) em (k := k) (by omega)
      rw [c60, c3, show ((0 : Nat) : Int) = 0 from rfl] at q2
      refine pc_sv q2 ?_; intro u19 ⟨r1, r2, r3, r4⟩
      rw [r1, pe]
      rw [pe] at r2 r3 r4
      have W2 : ∀ c j : Nat, ¬ c = 131 → u19.2 c j = h c j := fun c j z => by rw [r2 c j (by omega)]; exact W c j z
      have EQ : (∀ j : Nat, 0 ≤ j → j ≤ m → ¬ u19.2 131 j = -1) ↔ KMl Bf nf (h 56 3) (Bf k) (nf k) i := by
        unfold KMl
        rw [pe]
        constructor
        · intro A
          refine ⟨fun j hj => ?_, ?_⟩
          · have a := A (0 + 1 + j) (Nat.zero_le _) (by omega)
            rw [r4 j hj] at a; exact a
          · have a := A 0 (Nat.zero_le _) (Nat.zero_le _)
            rw [r3] at a; exact a
        · intro ⟨A1, A2⟩ j _ hj
          by_cases j0 : j = 0
          · rw [j0, r3]; exact A2
          · have a := A1 (j - 1) (by omega)
            rw [← r4 (j - 1) (by omega), show 0 + 1 + (j - 1) = j by omega] at a; exact a
      refine vc_108 m6 (by omega) nn l1 0 b1 (by omega) (fun fl hf => ?_)
      rw [show (i : Int) + 1 = ((i + 1 : Nat) : Int) by omega]
      refine pc_imp (ih fl (i + 1) u19.2 (by rcases hf with y | y; exact .inr y.1; exact .inl y.1) W2) (fun u ⟨y1, y2⟩ => ⟨y1, ?_⟩)
      rcases y2 with ⟨x1, x2, x3⟩ | ⟨x1, x2⟩
      · rcases hf with ⟨f1, f2, f3⟩ | ⟨f1, f2⟩
        · refine .inl ⟨x1, f2, fun j h1 h2 => ?_⟩
          by_cases ji : j = i
          · rw [ji]; exact EQ.1 f3
          · exact x3 j (by omega) h2
        · omega
      · refine .inr ⟨x1, fun ⟨y3, y4⟩ => ?_⟩
        rcases hf with ⟨f1, f2, f3⟩ | ⟨f1, f2⟩
        · exact x2 ⟨f1, fun j h1 h2 => y4 j (by omega) h2⟩
        · exact f2 ⟨y3, EQ.2 (y4 i (Nat.le_refl _) hi)⟩
theorem vc_4 (hn : 1000000 ≤ nn) (hk : (k : Int) < h 56 3) (S0 : CSv Bf nf h) (e5 : h 127 5 = h 60 k) : ∀ (f : Nat) (l1 : Int) (i : Nat) (M : ms_M), (l1 = 0 ∨ l1 = 1) → (∀ c j : Nat, ¬ c = 131 → M c j = h c j) → Pc (qw_X11_areKindsThere_4 nn f l1 (i : Int) M) (fun u => (∀ c j : Nat, ¬ c = 131 → u.2 c j = h c j) ∧ ((u.1 = 1 ∧ l1 = 1 ∧ (∀ j : Nat, i ≤ j → (j : Int) < fc_S (Bf k) (nf k) → KFl Bf nf (h 56 3) (Bf k) (nf k) j) ∧ ∀ j : Nat, (j : Int) < mc_S (Bf k) (nf k) → KMl Bf nf (h 56 3) (Bf k) (nf k) j) ∨ (u.1 = 0 ∧ ¬ (l1 = 1 ∧ (∀ j : Nat, i ≤ j → (j : Int) < fc_S (Bf k) (nf k) → KFl Bf nf (h 56 3) (Bf k) (nf k) j) ∧ ∀ j : Nat, (j : Int) < mc_S (Bf k) (nf k) → KMl Bf nf (h 56 3) (Bf k) (nf k) j)))) := by
  obtain ⟨G, -, -, -⟩ := cg_im (S0.2 k hk)
  have g3 := G.1
  intro f
  induction f with
  | zero => intro l1 i M _ _; exact pc_none
  | succ f ih =>
    intro l1 i M b1 W
    have S : CSv Bf nf M := csv_k S0 (fun c j _ z => W c j (by omega))
    have c3 : M 56 3 = h 56 3 := W 56 3 (by omega)
    have c60 : M 60 k = h 60 k := W 60 k (by omega)
    have X := S.2 k (by omega)
    have e10 := (cg_im X).2.1.1
    have eM : M 127 5 = h 60 k := (W 127 5 (by omega)).trans e5
    rw [c60] at e10
    unfold qw_X11_areKindsThere_4
    rw [eM]
    refine pc_ck (fun _ => ?_)
    refine pc_ck (fun _ => ?_)
    refine pc_if (fun z => ?_) (fun z => ?_)
    · refine pc_imp (vc_68 hn hk S0 e5 nn l1 0 M b1 W) (fun u ⟨y1, y2⟩ => ⟨y1, ?_⟩)
      rcases y2 with ⟨x1, x2, x3⟩ | ⟨x1, x2⟩
      · exact .inl ⟨x1, x2, fun j h1 h2 => absurd h2 (by omega), fun j h2 => x3 j (Nat.zero_le _) h2⟩
      · exact .inr ⟨x1, fun y => x2 ⟨y.1, fun j _ h2 => y.2.2 j h2⟩⟩
    · have hi : (i : Int) < fc_S (Bf k) (nf k) := by omega
      refine pc_ck (fun _ => ?_)
      refine pc_ck (fun _ => ?_)
      have ek := kal_f G hi
      have q := (vq_cfn (nn := nn) X hi).2
      rw [c60] at q
      refine pc_sv q ?_; intro u28 q28
      rw [show u28 = kt_S (Bf k) (nf k) i 0 by rw [q28]; unfold kt_S; rw [if_pos rfl]]
      have q2 := vc_readF (nn := nn) S (a := 0) (by decide) ek (k := k) (by omega)
      rw [c60, c3, show ((0 : Nat) : Int) = 0 from rfl] at q2
      refine pc_sv q2 ?_; intro u31 ⟨r1, r2⟩
      have W2 : ∀ c j : Nat, ¬ c = 131 → u31.2 c j = h c j := fun c j z => by rw [r2, up_n (by omega)]; exact W c j z
      have N : ∀ fl : Int, (fl = 1 ∧ l1 = 1 ∧ KFl Bf nf (h 56 3) (Bf k) (nf k) i) ∨ (fl = 0 ∧ ¬ (l1 = 1 ∧ KFl Bf nf (h 56 3) (Bf k) (nf k) i)) → Pc (qw_X11_areKindsThere_4 nn f fl ((i + 1 : Nat) : Int) u31.2) (fun u => (∀ c j : Nat, ¬ c = 131 → u.2 c j = h c j) ∧ ((u.1 = 1 ∧ l1 = 1 ∧ (∀ j : Nat, i ≤ j → (j : Int) < fc_S (Bf k) (nf k) → KFl Bf nf (h 56 3) (Bf k) (nf k) j) ∧ ∀ j : Nat, (j : Int) < mc_S (Bf k) (nf k) → KMl Bf nf (h 56 3) (Bf k) (nf k) j) ∨ (u.1 = 0 ∧ ¬ (l1 = 1 ∧ (∀ j : Nat, i ≤ j → (j : Int) < fc_S (Bf k) (nf k) → KFl Bf nf (h 56 3) (Bf k) (nf k) j) ∧ ∀ j : Nat, (j : Int) < mc_S (Bf k) (nf k) → KMl Bf nf (h 56 3) (Bf k) (nf k) j)))) := fun fl hf => by
        refine pc_imp (ih fl (i + 1) u31.2 (by rcases hf with y | y; exact .inr y.1; exact .inl y.1) W2) (fun u ⟨y1, y2⟩ => ⟨y1, ?_⟩)
        rcases y2 with ⟨x1, x2, x3, x4⟩ | ⟨x1, x2⟩
        · rcases hf with ⟨f1, f2, f3⟩ | ⟨f1, f2⟩
          · refine .inl ⟨x1, f2, fun j h1 h2 => ?_, x4⟩
            by_cases ji : j = i
            · rw [ji]; exact f3
            · exact x3 j (by omega) h2
          · omega
        · refine .inr ⟨x1, fun ⟨y3, y4, y5⟩ => ?_⟩
          rcases hf with ⟨f1, f2, f3⟩ | ⟨f1, f2⟩
          · exact x2 ⟨f1, fun j h1 h2 => y4 j (by omega) h2, y5⟩
          · exact f2 ⟨y3, y4 i (Nat.le_refl _) hi⟩
      have v31 : u31.2 131 0 = kq_F Bf nf (h 56 3) (Bf k) (na_S (Bf k) (nf k) (kt_S (Bf k) (nf k) i 0)) (na_S (Bf k) (nf k) (kt_S (Bf k) (nf k) i 0) + tl_S (Bf k) (nf k) (kt_S (Bf k) (nf k) i 0)) := by rw [r2, up_s]
      have Z : ¬ (l1 = 1 ∧ KFl Bf nf (h 56 3) (Bf k) (nf k) i) → Pc (qj_X11_areKindsThere_58 nn (qw_X11_areKindsThere_4 nn f) (i : Int) u31.2) (fun u => (∀ c j : Nat, ¬ c = 131 → u.2 c j = h c j) ∧ ((u.1 = 1 ∧ l1 = 1 ∧ (∀ j : Nat, i ≤ j → (j : Int) < fc_S (Bf k) (nf k) → KFl Bf nf (h 56 3) (Bf k) (nf k) j) ∧ ∀ j : Nat, (j : Int) < mc_S (Bf k) (nf k) → KMl Bf nf (h 56 3) (Bf k) (nf k) j) ∨ (u.1 = 0 ∧ ¬ (l1 = 1 ∧ (∀ j : Nat, i ≤ j → (j : Int) < fc_S (Bf k) (nf k) → KFl Bf nf (h 56 3) (Bf k) (nf k) j) ∧ ∀ j : Nat, (j : Int) < mc_S (Bf k) (nf k) → KMl Bf nf (h 56 3) (Bf k) (nf k) j)))) := fun w => by
        unfold qj_X11_areKindsThere_58
        refine pc_add (by omega) ?_; intro v21 e21
        rw [show v21 = ((i + 1 : Nat) : Int) by omega]
        exact N 0 (.inr ⟨rfl, w⟩)
      refine pc_if (fun w => Z (fun y => by omega)) (fun w => ?_)
      refine pc_rA ?_; intro _ _ v33 e33
      rw [show (0 : Int).toNat = 0 from rfl, v31] at e33
      refine pc_if (fun y => Z (fun x => x.2 (by rw [← e33]; exact y))) (fun y => ?_)
      refine pc_add (by omega) ?_; intro v34 e34
      rw [show v34 = ((i + 1 : Nat) : Int) by omega]
      refine N 1 (.inl ⟨rfl, by omega, ?_⟩)
      unfold KFl
      rw [← e33]; exact y
/-- THE CLASS: ARE THE KINDS THERE -/
theorem vc_kinds (hn : 1000000 ≤ nn) (S : CSv Bf nf h) (hk : (k : Int) < h 56 3) (e5 : h 127 5 = h 60 k) : Pc (qf_X11_areKindsThere nn h) (fun u => (∀ c j : Nat, ¬ c = 131 → u.2 c j = h c j) ∧ ((u.1 = 1 ∧ KAl Bf nf (h 56 3) (Bf k) (nf k)) ∨ (u.1 = 0 ∧ ¬ KAl Bf nf (h 56 3) (Bf k) (nf k)))) := by
  unfold qf_X11_areKindsThere
  refine pc_imp (vc_4 hn hk S e5 nn 1 0 h (.inr rfl) (fun _ _ _ => rfl)) (fun u ⟨y1, y2⟩ => ⟨y1, ?_⟩)
  rcases y2 with ⟨x1, -, x3, x4⟩ | ⟨x1, x2⟩
  · exact .inl ⟨x1, fun j hj => x3 j (Nat.zero_le _) hj, x4⟩
  · exact .inr ⟨x1, fun y => x2 ⟨rfl, fun j _ hj => y.1 j hj, y.2⟩⟩
/- the reference -/
theorem vr_84 (N : NKn Bf nf cnt) (k8 : k < 8) {t : Int} {m : Nat} (hp : pi_S (Bf k) (nf k) t = some m) (he : na_S (Bf k) (nf k) t + tl_S (Bf k) (nf k) t ≤ nf k) (n6 : nf k ≤ 6000) {l3 : Int} (r3 : 0 ≤ l3 ∧ l3 ≤ 1000) {qk : Int → Int → Int → ms_M → Option (Int × ms_M)} {Q : Int × ms_M → Prop} {h0 : ms_M} (Hk : ∀ (fl : Int) (g : ms_M), OTH h0 g → ((fl = 1 ∧ (∀ j : Nat, j < m → ¬ kq_F Bf nf cnt (Bf k) (ps_S (Bf k) (nf k) t j) (ps_S (Bf k) (nf k) t (j + 1)) = -1) ∧ ¬ kq_F Bf nf cnt (Bf k) (ps_S (Bf k) (nf k) t m + 1) (na_S (Bf k) (nf k) t + tl_S (Bf k) (nf k) t) = -1) ∨ (fl = 0 ∧ ¬ ((∀ j : Nat, j < m → ¬ kq_F Bf nf cnt (Bf k) (ps_S (Bf k) (nf k) t j) (ps_S (Bf k) (nf k) t (j + 1)) = -1) ∧ ¬ kq_F Bf nf cnt (Bf k) (ps_S (Bf k) (nf k) t m + 1) (na_S (Bf k) (nf k) t + tl_S (Bf k) (nf k) t) = -1))) → Pc (qk (k : Int) fl (l3 + 1) g) Q) : ∀ (f j : Nat) (l2 : Int) (h : ms_M), RSv Bf nf h → h 160 98 = cnt → (k : Int) < cnt → 0 ≤ h 160 117 → OTH h0 h → j ≤ m → ((l2 = 1 ∧ ∀ i : Nat, i < j → ¬ kq_F Bf nf cnt (Bf k) (ps_S (Bf k) (nf k) t i) (ps_S (Bf k) (nf k) t (i + 1)) = -1) ∨ (l2 = 0 ∧ ¬ ∀ i : Nat, i < m → ¬ kq_F Bf nf cnt (Bf k) (ps_S (Bf k) (nf k) t i) (ps_S (Bf k) (nf k) t (i + 1)) = -1)) → Pc (qw_X13_kindsAreThere_84 nn qk f (k : Int) l2 l3 ((6000 * k + ps_S (Bf k) (nf k) t j : Nat) : Int) h) Q := by
  obtain ⟨em, t1, K⟩ := ps_ok hp
  have rg := mkd_rg K
  obtain ⟨⟨k1, k2, k3⟩, K1, K2, K3⟩ := K
  generalize hs : na_S (Bf k) (nf k) t + tl_S (Bf k) (nf k) t = s at *
  have Z : ∀ g : ms_M, OTH h0 g → ¬ ((∀ j : Nat, j < m → ¬ kq_F Bf nf cnt (Bf k) (ps_S (Bf k) (nf k) t j) (ps_S (Bf k) (nf k) t (j + 1)) = -1) ∧ ¬ kq_F Bf nf cnt (Bf k) (ps_S (Bf k) (nf k) t m + 1) s = -1) → Pc (qj_X13_kindsAreThere_141 nn qk (k : Int) l3 g) Q := fun g O z => by
    unfold qj_X13_kindsAreThere_141
    refine pc_add (by omega) ?_; intro v1 e1
    rw [e1]
    exact Hk 0 g O (.inr ⟨rfl, z⟩)
  intro f
  induction f with
  | zero => intro j l2 h _ _ _ _ _ _ _; exact pc_none
  | succ f ih =>
    intro j l2 h S ec hk h7 O hj F
    have rj := rg j hj
    unfold qw_X13_kindsAreThere_84
    refine pc_rA ?_; intro _ _ v10 e10
    rw [Int.toNat_natCast, tb_by S (by omega) (by omega)] at e10
    have E : (v10 = 41 ∨ l2 = 0) → Pc (qj_X13_kindsAreThere_119 nn qk (k : Int) l2 l3 ((6000 * k + ps_S (Bf k) (nf k) t j : Nat) : Int) h) Q := fun w => by
      unfold qj_X13_kindsAreThere_119
      refine pc_if (fun y => ?_) (fun y => ?_)
      · refine Z h O (fun x => ?_)
        rcases F with ⟨f1, f2⟩ | ⟨f1, f2⟩
        · omega
        · exact f2 x.1
      · have jm : j = m := Classical.byContradiction fun q => (K1 j (by omega)).2 (by omega)
        have f2 : ∀ i : Nat, i < m → ¬ kq_F Bf nf cnt (Bf k) (ps_S (Bf k) (nf k) t i) (ps_S (Bf k) (nf k) t (i + 1)) = -1 := by
          rcases F with ⟨f1, f2⟩ | ⟨f1, f2⟩
          · rw [jm] at f2; exact f2
          · omega
        refine pc_add (by omega) ?_; intro v2 e2
        rw [show v2 = ((6000 * k + (ps_S (Bf k) (nf k) t m + 1) : Nat) : Int) by rw [e2, jm]; omega]
        have q := vr_kind (nn := nn) (by rw [ec]; exact N) S h7 (by omega) K3 he
        rw [ec] at q
        refine pc_sv q ?_; intro u4 ⟨o4, _, c4⟩
        refine pc_sv (vr_there c4) ?_; intro u5 q5
        refine pc_if (fun z => ?_) (fun z => ?_)
        · refine Z u4.2 (oth_t O o4) (fun x => ?_)
          rcases q5 with q5 | q5
          · exact x.2 q5.2
          · omega
        · refine pc_add (by omega) ?_; intro v6 e6
          rw [e6]
          refine Hk 1 u4.2 (oth_t O o4) (.inl ⟨rfl, f2, ?_⟩)
          rcases q5 with q5 | q5
          · omega
          · exact q5.2
    refine pc_if (fun z => E (.inl z)) (fun z => pc_if (fun w => E (.inr w)) (fun w => ?_))
    have jm : j < m := Classical.byContradiction fun q => z (by rw [e10, show j = m by omega]; exact K2.1)
    have kd := (K1 j jm).1
    have kr := kd_rg kd
    have q := vr_kind (nn := nn) (by rw [ec]; exact N) S h7 (by omega) (kd_s kd).1 (by omega)
    rw [ec] at q
    refine pc_sv q ?_; intro u12 ⟨o12, q12, c12⟩
    refine pc_sv (vr_there c12) ?_; intro u13 q13
    rw [q12]
    have f2 : ∀ i : Nat, i < j → ¬ kq_F Bf nf cnt (Bf k) (ps_S (Bf k) (nf k) t i) (ps_S (Bf k) (nf k) t (i + 1)) = -1 := by
      rcases F with ⟨f1, f2⟩ | ⟨f1, f2⟩
      · exact f2
      · omega
    refine ih (j + 1) u13 u12.2 (rsv_o S o12) ((o12.1 160 98 (by omega) (by omega) (by omega)).trans ec) hk (o12.2 h7) (oth_t O o12) (by omega) ?_
    rcases q13 with q13 | q13
    · exact .inr ⟨q13.1, fun x => x j jm q13.2⟩
    · refine .inl ⟨q13.1, fun i hi => ?_⟩
      by_cases ij : i = j
      · rw [ij]; exact q13.2
      · exact f2 i (by omega)
end

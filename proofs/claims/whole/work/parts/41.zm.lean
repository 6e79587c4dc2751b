/- VERIFY: states, the reference's side: what an instruction takes and gives; constants -/
def RKs (h g : ms_M) : Prop := (∀ x y : Nat, ¬ (x = 160 ∧ ((117 ≤ y ∧ y ≤ 121) ∨ y = 131)) → ¬ (240 ≤ x ∧ x ≤ 241) → ¬ (243 ≤ x ∧ x ≤ 245) → g x y = h x y) ∧ (0 ≤ h 160 117 → 0 ≤ g 160 117)
/-- the state in the reference's memory -/
def STr (cnt mx lc : Int) (s : ST3) (h : ms_M) : Prop := GSt cnt mx s ∧ (∀ j : Nat, (j : Int) < lc → TYj (s.1 j) (h 243 j)) ∧ (∀ j : Nat, j < s.2.2 → TYj (s.2.1 j) (h 244 j)) ∧ h 160 131 = (s.2.2 : Int)
def RSo (cnt mx lc : Int) (h0 : ms_M) (o : Option ST3) (u : Int × ms_M) : Prop := RKs h0 u.2 ∧ ((o = none ∧ u.1 = 0) ∨ ∃ s : ST3, o = some s ∧ u.1 = 1 ∧ STr cnt mx lc s u.2)
def RVp (cnt mx lc : Int) (h0 : ms_M) (o : Option (Int × ST3)) (u : Int × ms_M) : Prop := RKs h0 u.2 ∧ ((o = none ∧ u.1 = -1) ∨ ∃ x : Int × ST3, o = some x ∧ TYj x.1 u.1 ∧ VTq cnt x.1 ∧ STr cnt mx lc x.2 u.2)
section
variable {nn : Nat} {Bf : Nat → Nat → Int} {nf : Nat → Nat} {cnt mx lc : Int} {B C D : Nat → Int} {n m b d k i L p q : Nat} {M h g r h0 : ms_M} {t t2 c a op : Int} {o : Option ST3} {o2 : Option (Int × ST3)} {s : ST3} {u : Int × ms_M}
theorem rks_r : RKs h h := ⟨fun _ _ _ _ _ => rfl, fun z => z⟩
theorem rks_t (A : RKs h g) (E : RKs g r) : RKs h r := ⟨fun x j z1 z2 z3 => (E.1 x j z1 z2 z3).trans (A.1 x j z1 z2 z3), fun z => E.2 (A.2 z)⟩
theorem rks_o (A : OTH h g) : RKs h g := ⟨fun x j z1 z2 z3 => A.1 x j (by omega) (by omega) (by omega), A.2⟩
theorem rks_e (A : RKs h g) : RKe h g := ⟨fun x j z1 z2 z3 => A.1 x j (by omega) z2 z3, A.2⟩
theorem str_k (S : STr cnt mx lc s h) (e1 : ∀ j : Nat, g 243 j = h 243 j) (e2 : ∀ j : Nat, g 244 j = h 244 j) (e3 : g 160 131 = h 160 131) : STr cnt mx lc s g := ⟨S.1, fun j hj => by rw [e1]; exact S.2.1 j hj, fun j hj => by rw [e2]; exact S.2.2.1 j hj, by rw [e3]; exact S.2.2.2⟩
theorem str_o (S : STr cnt mx lc s h) (A : OTH h g) : STr cnt mx lc s g := str_k S (fun j => A.1 243 j (by omega) (by omega) (by omega)) (fun j => A.1 244 j (by omega) (by omega) (by omega)) (A.1 160 131 (by omega) (by omega) (by omega))
theorem rs_t0 (A : RSo cnt mx lc h0 o u) : Pc (if u.1 = 0 then some ((0 : Int), u.2) else some (1, u.2)) (RSo cnt mx lc h0 o) := by
  obtain ⟨K, z | ⟨s, s1, s2, s3⟩⟩ := A
  · exact pc_if (fun _ => pc_ret ⟨K, .inl ⟨z.1, rfl⟩⟩) (fun w => absurd z.2 w)
  · exact pc_if (fun w => absurd w (by omega)) (fun _ => pc_ret ⟨K, .inr ⟨s, s1, rfl, s3⟩⟩)
theorem rs_tc (A : RSo cnt mx lc h0 o u) : Pc (ck_B (u.1 = 0 ∨ u.1 = 1) <| some (u.1, u.2)) (RSo cnt mx lc h0 o) := pc_ck (fun _ => pc_ret A)
theorem rs_i {X : Option (Int × ms_M)} {G : ST3 → Option ST3} (A : RSo cnt mx lc h0 o u) (K : ∀ s : ST3, STr cnt mx lc s u.2 → RKs h0 u.2 → Pc X (RSo cnt mx lc h0 (G s))) : Pc (if u.1 = 0 then some (0, u.2) else X) (RSo cnt mx lc h0 (o.bind G)) := by
  obtain ⟨K0, z | ⟨s, s1, s2, s3⟩⟩ := A
  · exact pc_if (fun _ => pc_ret ⟨K0, .inl ⟨by rw [z.1]; rfl, rfl⟩⟩) (fun w => absurd z.2 w)
  · refine pc_if (fun w => absurd w (by omega)) (fun _ => ?_)
    rw [s1]
    exact K s s3 K0
theorem rs_j {X : Option (Int × ms_M)} {G : ST3 → Option ST3} (A : RSo cnt mx lc h0 o u) (K : ∀ s : ST3, STr cnt mx lc s u.2 → RKs h0 u.2 → Pc X (RSo cnt mx lc h0 (G s))) : Pc (if ¬ u.1 = 0 then X else some (0, u.2)) (RSo cnt mx lc h0 (o.bind G)) := by
  obtain ⟨K0, z | ⟨s, s1, s2, s3⟩⟩ := A
  · exact pc_if (fun w => absurd z.2 w) (fun _ => pc_ret ⟨K0, .inl ⟨by rw [z.1]; rfl, rfl⟩⟩)
  · refine pc_if (fun _ => ?_) (fun w => absurd (show ¬ u.1 = 0 by omega) w)
    rw [s1]
    exact K s s3 K0
theorem rs_no (K : RKs h0 h) (z : o = none) : Pc (some ((0 : Int), h)) (RSo cnt mx lc h0 o) := pc_ret ⟨K, .inl ⟨z, rfl⟩⟩
theorem rs_yes (K : RKs h0 h) (S : STr cnt mx lc s h) : Pc (some ((1 : Int), h)) (RSo cnt mx lc h0 (some s)) := pc_ret ⟨K, .inr ⟨s, rfl, rfl, S⟩⟩
/-- PULL -/
theorem vr_pull (K : RKs h0 h) (S : STr cnt mx lc s h) (m30 : mx ≤ 30) : Pc (qf_X13_pull nn h) (RVp cnt mx lc h0 (aPop s)) := by
  obtain ⟨s3, s4, s5, s6⟩ := S
  have g3 := s3.2.2
  unfold qf_X13_pull
  refine pc_if (fun w => ?_) (fun w => ?_)
  · rw [s6] at w ⊢
    refine pc_sub (by omega) ?_; intro v3 e3
    refine pc_xl ?_; intro h4 e4
    have F4 : ∀ x y : Nat, ¬ (x = 160 ∧ y = 131) → h4 x y = h x y := fun x y z => by rw [e4, up_n z]
    refine pc_rA ?_; intro _ _ v7 e7
    have e18 : h4 160 131 = v3 := by rw [e4, up_s]
    rw [e18, F4 244 _ (by omega), show v3.toNat = s.2.2 - 1 by omega] at e7
    have ea : aPop s = some (s.2.1 (s.2.2 - 1), (s.1, s.2.1, s.2.2 - 1)) := by unfold aPop; rw [if_neg (by omega)]
    refine pc_ret ⟨⟨fun x y z1 z2 z3 => ?_, fun z => ?_⟩, .inr ⟨(s.2.1 (s.2.2 - 1), (s.1, s.2.1, s.2.2 - 1)), ea, ?_, s3.2.1 _ (by omega), ⟨s3.1, fun j hj => ?_, ?_⟩, fun j hj => ?_, fun j hj => ?_, ?_⟩⟩
    · show h4 x y = _
      rw [F4 x y (by omega)]; exact K.1 x y z1 z2 z3
    · show 0 ≤ h4 160 117
      rw [F4 160 117 (by omega)]; exact K.2 z
    · show TYj (s.2.1 (s.2.2 - 1)) v7
      rw [e7]; exact s5 _ (by omega)
    · have hj : j < s.2.2 - 1 := hj
      exact s3.2.1 j (by omega)
    · show ((s.2.2 - 1 : Nat) : Int) ≤ mx
      omega
    · show TYj (s.1 j) (h4 243 j)
      rw [F4 243 j (by omega)]; exact s4 j hj
    · have hj : j < s.2.2 - 1 := hj
      show TYj (s.2.1 j) (h4 244 j)
      rw [F4 244 j (by omega)]; exact s5 j (by omega)
    · show h4 160 131 = ((s.2.2 - 1 : Nat) : Int)
      omega
  · have ea : aPop s = none := by unfold aPop; rw [if_pos (by omega)]
    exact pc_ret ⟨K, .inl ⟨ea, rfl⟩⟩
theorem ty_m1 {x y : Int} (T : TYj x y) : ¬ y = -1 := by unfold TYj at T; omega
theorem aw_p {F : Int → Int → Prop} : aW F t s = (aPop s).bind (fun x => pr_I (F x.1 t) (some x.2) none) := rfl
theorem vr_pullFit (R : RMe Bf nf cnt k i h0) (K : RKs h0 h) (S : STr cnt mx lc s h) (m30 : mx ≤ 30) (T : TYj t t2) : Pc (qf_X13_pullFit nn t2 h) (RSo cnt mx lc h0 (aW (FTq Bf nf cnt) t s)) := by
  rw [aw_p]
  unfold qf_X13_pullFit
  refine pc_sv (vr_pull K S m30) ?_; intro u2 ⟨K2, Z⟩
  generalize aPop s = o2 at Z ⊢
  rcases Z with Z | ⟨x, x1, x2, x3, x4⟩
  · refine pc_if (fun _ => rs_no K2 (by rw [Z.1]; rfl)) (fun w => absurd Z.2 w)
  refine pc_if (fun w => absurd w (ty_m1 x2)) (fun _ => ?_)
  rw [x1]
  have R2 := rme_e R (rks_e K2)
  refine pc_sv (vr_go R2 (vt_is (rme_c R).2 x3) x2 T) ?_; intro u4 q4
  refine pc_if (fun y => rs_no K2 (pr_f ?_)) (fun y => ?_)
  · rcases q4 with q | q
    · omega
    · exact q.2
  · have e : (some x).bind (fun x => pr_I (FTq Bf nf cnt x.1 t) (some x.2) none) = some x.2 := pr_t (by
      rcases q4 with q | q
      · exact q.2
      · exact absurd q.1 y)
    rw [e]
    exact rs_yes K2 x4
theorem ft_301 {x : Int} (V : VTq cnt x) (c8 : cnt ≤ 8) : FTq Bf nf cnt x 301 ↔ x = 301 := by
  constructor
  · intro w
    rcases w with w | w | ⟨w1, w2⟩ | ⟨w1, w2, w3⟩ | ⟨w1, w2⟩ | ⟨w1, w2, w3⟩
    · omega
    · exact w
    · omega
    · omega
    · omega
    · omega
  · intro w; exact .inr (.inl w)
theorem vr_int2 (R : RMe Bf nf cnt k i h0) (m30 : mx ≤ 30) {z : Int} (z2 : z ≤ 2) : ∀ (y f : Nat) (s : ST3) (h : ms_M), z = (y : Int) + (f : Int) → RKs h0 h → STr cnt mx lc s h → ∀ w : Nat, Pc (qw_X13_pullInts_2 nn w z (y : Int) h) (RSo cnt mx lc h0 ((Nat.repeat (fun o : Option ST3 => o.bind (aW (FTq Bf nf cnt) 301)) f) (some s))) := by
  intro y f
  induction f generalizing y with
  | zero =>
    intro s h ez K S w
    cases w with
    | zero => exact pc_none
    | succ w =>
      unfold qw_X13_pullInts_2
      exact pc_if (fun _ => rs_yes K S) (fun v => absurd (show z ≤ (y : Int) by omega) v)
  | succ f ih =>
    intro s h ez K S w
    cases w with
    | zero => exact pc_none
    | succ w =>
      unfold qw_X13_pullInts_2
      refine pc_if (fun v => absurd v (by omega)) (fun _ => ?_)
      refine pc_sv (vr_pull K S m30) ?_; intro u2 ⟨K2, Z⟩
      have RP : ∀ (f : Nat) (o : Option ST3), Nat.repeat (fun o : Option ST3 => o.bind (aW (FTq Bf nf cnt) 301)) (f + 1) o = Nat.repeat (fun o : Option ST3 => o.bind (aW (FTq Bf nf cnt) 301)) f (o.bind (aW (FTq Bf nf cnt) 301)) := by
        intro f
        induction f with
        | zero => intro o; rfl
        | succ f ih2 =>
          intro o
          show (Nat.repeat (fun o : Option ST3 => o.bind (aW (FTq Bf nf cnt) 301)) (f + 1) o).bind _ = (Nat.repeat (fun o : Option ST3 => o.bind (aW (FTq Bf nf cnt) 301)) f (o.bind (aW (FTq Bf nf cnt) 301))).bind _
          rw [ih2]
      have RN : ∀ f : Nat, Nat.repeat (fun o : Option ST3 => o.bind (aW (FTq Bf nf cnt) 301)) f none = none := by
        intro f
        induction f with
        | zero => rfl
        | succ f ih2 =>
          show (Nat.repeat (fun o : Option ST3 => o.bind (aW (FTq Bf nf cnt) 301)) f none).bind _ = none
          rw [ih2]; rfl
      rw [RP]
      have ea : (some s).bind (aW (FTq Bf nf cnt) 301) = (aPop s).bind (fun x => pr_I (FTq Bf nf cnt x.1 301) (some x.2) none) := rfl
      rw [ea]
      rcases Z with Z | ⟨x, x1, x2, x3, x4⟩
      · refine pc_if (fun v => absurd v (by omega)) (fun _ => rs_no K2 ?_)
        rw [Z.1]; exact RN f
      rw [x1]
      have ft := ft_301 (Bf := Bf) (nf := nf) x3 (rme_c R).2
      refine pc_if (fun v => ?_) (fun v => rs_no K2 ?_)
      · have e3 : x.1 = 301 := by unfold TYj at x2; omega
        have e4 : (some x).bind (fun x => pr_I (FTq Bf nf cnt x.1 301) (some x.2) none) = some x.2 := pr_t (ft.2 e3)
        rw [e4]
        refine pc_add (by omega) ?_; intro v3 e3'
        rw [show v3 = ((y + 1 : Nat) : Int) by omega]
        exact ih (y + 1) x.2 u2.2 (by omega) K2 x4 w
      · have e4 : (some x).bind (fun x => pr_I (FTq Bf nf cnt x.1 301) (some x.2) none) = none := pr_f (fun w => v (by
          have := ft.1 w
          unfold TYj at x2
          omega))
        rw [e4]; exact RN f
theorem vr_int1 (R : RMe Bf nf cnt k i h0) (K : RKs h0 h) (S : STr cnt mx lc s h) (m30 : mx ≤ 30) : Pc (qf_X13_pullInts nn 1 h) (RSo cnt mx lc h0 (aW (FTq Bf nf cnt) 301 s)) := by
  unfold qf_X13_pullInts
  exact vr_int2 R m30 (by omega) 0 1 s h (by omega) K S nn
theorem vr_ints (R : RMe Bf nf cnt k i h0) (K : RKs h0 h) (S : STr cnt mx lc s h) (m30 : mx ≤ 30) : Pc (qf_X13_pullInts nn 2 h) (RSo cnt mx lc h0 ((aW (FTq Bf nf cnt) 301 s).bind (aW (FTq Bf nf cnt) 301))) := by
  unfold qf_X13_pullInts
  exact vr_int2 R m30 (by omega) 0 2 s h (by omega) K S nn
theorem vr_thing (K : RKs h0 h) (S : STr cnt mx lc s h) (m30 : mx ≤ 30) (c8 : cnt ≤ 8) : Pc (qf_X13_pullThing nn h) (RSo cnt mx lc h0 ((aR s).bind (fun x => some x.2))) := by
  have ea : aR s = (aPop s).bind (fun x => pr_I (REf x.1) (some x) none) := rfl
  rw [ea]
  unfold qf_X13_pullThing
  refine pc_sv (vr_pull K S m30) ?_; intro u2 ⟨K2, Z⟩
  rcases Z with Z | ⟨x, x1, x2, x3, x4⟩
  · refine pc_if (fun _ => rs_no K2 (by rw [Z.1]; rfl)) (fun v => absurd (show u2.1 < 2 by omega) v)
  rw [x1]
  unfold VTq ISc at x3
  unfold TYj at x2
  refine pc_if (fun v => rs_no K2 ?_) (fun v => ?_)
  · have e4 : (some x).bind (fun x => pr_I (REf x.1) (some x) none) = none := pr_f (by unfold REf; omega)
    rw [e4]; rfl
  · have e4 : (some x).bind (fun x => pr_I (REf x.1) (some x) none) = some x := pr_t (by unfold REf; omega)
    rw [e4]; exact rs_yes K2 x4
/-- COMES BACK -/
theorem vr_comes (e130 : h 160 130 = mx) (K : RKs h0 h) (S : STr cnt mx lc s h) (m30 : mx ≤ 30) (T : TYj t t2) (V : VTq cnt t) : Pc (qf_X13_comesBack nn t2 h) (RSo cnt mx lc h0 (aU mx t s)) := by
  obtain ⟨s3, s4, s5, s6⟩ := S
  unfold qf_X13_comesBack
  rw [e130, s6]
  refine pc_if (fun w => ?_) (fun w => ?_)
  · refine pc_wA ?_; intro _ _ h5 e5
    rw [Int.toNat_natCast] at e5
    have e18 : h5 160 131 = (s.2.2 : Int) := by rw [e5, up_n (by omega)]; exact s6
    rw [e18]
    refine pc_add (by omega) ?_; intro v7 e7
    refine pc_xl ?_; intro h8 e8
    have F8 : ∀ x y : Nat, ¬ (x = 160 ∧ y = 131) → ¬ (x = 244 ∧ y = s.2.2) → h8 x y = h x y := fun x y z1 z2 => by rw [e8, up_n z1, e5, up_n z2]
    have ea : aU mx t s = some (s.1, fun j => if j = s.2.2 then t else s.2.1 j, s.2.2 + 1) := by unfold aU; rw [if_pos w]
    rw [ea]
    refine rs_yes ⟨fun x y z1 z2 z3 => ?_, fun z => ?_⟩ ⟨⟨s3.1, fun j hj => ?_, ?_⟩, fun j hj => ?_, fun j hj => ?_, ?_⟩
    · rw [F8 x y (by omega) (by omega)]; exact K.1 x y z1 z2 z3
    · rw [F8 160 117 (by omega) (by omega)]; exact K.2 z
    · have hj : j < s.2.2 + 1 := hj
      show VTq cnt (if j = s.2.2 then t else s.2.1 j)
      by_cases e : j = s.2.2
      · rw [if_pos e]; exact V
      · rw [if_neg e]; exact s3.2.1 j (by omega)
    · show ((s.2.2 + 1 : Nat) : Int) ≤ mx
      omega
    · rw [F8 243 j (by omega) (by omega)]; exact s4 j hj
    · have hj : j < s.2.2 + 1 := hj
      show TYj (if j = s.2.2 then t else s.2.1 j) (h8 244 j)
      by_cases e : j = s.2.2
      · rw [if_pos e, e, e8, up_n (by omega), e5, up_s]; exact T
      · rw [if_neg e, F8 244 j (by omega) (by omega)]; exact s5 j (by omega)
    · show h8 160 131 = ((s.2.2 + 1 : Nat) : Int)
      rw [e8, up_s]; omega
  · have ea : aU mx t s = none := by unfold aU; rw [if_neg w]
    rw [ea]
    exact rs_no K rfl
/-- constants, the reference -/
theorem rme_k2 (R : RMe Bf nf cnt k i h) {a : Int} (h1 : 1 ≤ a) (h2 : a ≤ Bf k 2) : h 228 (256 * (k : Int) + a).toNat = (pl_S (Bf k) (nf k) a : Int) ∧ KVs (Bf k) (nf k) a ∧ Bf k 2 ≤ 255 := tb_pl R.1.2.1 (rme_hk R) h1 h2
theorem vr_part (R : RMe Bf nf cnt k i h) {w : Nat} (hw : w ≤ 2) (t4 : tg_S (Bf k) (nf k) a = 4) : Pc (qf_X13_partOf nn a (w : Int) h) (fun u => u = pt_S (Bf k) (nf k) a w) := by
  have n6 := rme_n6 R
  obtain ⟨i1, i2, i3⟩ := tg_in (B := Bf k) (n := nf k) (k := a) (by omega)
  obtain ⟨a1, a2, a3⟩ := rme_k2 R i1 i2
  have a4 := a2.2.2.2 (by omega)
  unfold qf_X13_partOf
  rw [R.2.2.1.1]
  refine pc_xl ?_; intro v4 e4
  rw [oq_mul_eq (by omega) (by omega) (by omega)] at e4
  refine pc_add (by omega) ?_; intro v5 e5
  refine pc_rA ?_; intro _ _ v6 e6
  rw [show v5 = 256 * (k : Int) + a by omega, a1] at e6
  refine pc_add (by omega) ?_; intro v7 e7
  refine pc_add (by omega) ?_; intro v8 e8
  rw [show v8 = ((pl_S (Bf k) (nf k) a + 1 + w : Nat) : Int) by omega]
  refine pc_sv (vq_rbyte R.1.2.1 (rme_hk R) (by omega)) ?_; intro u10 q10
  exact pc_ret q10
theorem vr_sort (R : RMe Bf nf cnt k i h) (ar : 0 ≤ a ∧ a ≤ 255) : Pc (qf_X13_sortOf nn a h) (fun u => u = tg_S (Bf k) (nf k) a) := by
  have n6 := rme_n6 R
  have e229 := (R.1.2.1.2 k (rme_hk R)).2.1.1
  rw [Int.toNat_natCast] at e229
  unfold qf_X13_sortOf
  refine pc_if (fun z => pc_ret ?_) (fun z => ?_)
  · unfold tg_S; rw [if_neg (by omega)]
  rw [R.2.2.1.1]
  refine pc_rA ?_; intro _ _ v3 e3
  rw [Int.toNat_natCast, e229] at e3
  refine pc_if (fun z1 => pc_ret ?_) (fun z1 => ?_)
  · unfold tg_S; rw [if_neg (by omega)]
  obtain ⟨a1, a2, a3⟩ := rme_k2 R (a := a) (by omega) (by omega)
  refine pc_xl ?_; intro v7 e7
  rw [oq_mul_eq (by omega) (by omega) (by omega)] at e7
  refine pc_add (by omega) ?_; intro v8 e8
  refine pc_rA ?_; intro _ _ v9 e9
  rw [show v8 = 256 * (k : Int) + a by omega, a1] at e9
  rw [e9]
  refine pc_sv (vq_rbyte R.1.2.1 (rme_hk R) a2.1) ?_; intro u11 q11
  refine pc_ret ?_
  rw [q11]
  unfold tg_S
  rw [if_pos (by omega)]
/-- IS THE CONSTANT RIGHT, the reference -/
theorem vr_r356 {x y : Int} : Pc (qj_X13_right_356 nn x y h) (fun u => u.2 = h ∧ ((u.1 = 1 ∧ y = x) ∨ (u.1 = 0 ∧ ¬ y = x))) := by
  unfold qj_X13_right_356
  exact pc_if (fun z => pc_ret ⟨rfl, .inr ⟨rfl, z⟩⟩) (fun z => pc_ret ⟨rfl, .inl ⟨rfl, by omega⟩⟩)
theorem vr_r187 (R : RMe Bf nf cnt k i h) (H : HGo Bf nf cnt) (ar : 0 ≤ a ∧ a ≤ 255) (ho : op = 180 ∨ op = 181 ∨ op = 182 ∨ op = 184) : Pc (qj_X13_right_187 nn op a h) (fun u => RKs h u.2 ∧ (∀ j : Nat, u.2 243 j = h 243 j) ∧ (∀ j : Nat, u.2 244 j = h 244 j) ∧ u.2 160 131 = h 160 131 ∧ ((u.1 = 1 ∧ MBr Bf nf cnt k op a) ∨ (u.1 = 0 ∧ ¬ MBr Bf nf cnt k op a))) := by
  have hk' := R.2.1.1
  obtain ⟨Gk, Ok, zx, zk, z2⟩ := H.2 k hk'
  have NO : ∀ g : ms_M, OTH h g → ¬ MBr Bf nf cnt k op a → Pc (some ((0 : Int), g)) (fun u => RKs h u.2 ∧ (∀ j : Nat, u.2 243 j = h 243 j) ∧ (∀ j : Nat, u.2 244 j = h 244 j) ∧ u.2 160 131 = h 160 131 ∧ ((u.1 = 1 ∧ MBr Bf nf cnt k op a) ∨ (u.1 = 0 ∧ ¬ MBr Bf nf cnt k op a))) := fun g O n => pc_ret ⟨rks_o O, fun j => O.1 243 j (by omega) (by omega) (by omega), fun j => O.1 244 j (by omega) (by omega) (by omega), O.1 160 131 (by omega) (by omega) (by omega), .inr ⟨rfl, n⟩⟩
  unfold qj_X13_right_187
  refine pc_sv (vr_sort R ar) ?_; intro u30 q30
  refine pc_if (fun z => ?_) (fun z => NO h oth_r (fun w => z (q30.trans w.1)))
  have t4 : tg_S (Bf k) (nf k) a = 4 := by omega
  obtain ⟨t0, t1, tt, KK⟩ := mb_tx zk z2 t4
  have ci := cq_is (Bf := Bf) (nf := nf) H.1 zk z2 t0
  refine pc_sv (vr_part R (w := 0) (by omega) t4) ?_; intro u33 q33
  rw [q33]
  refine pc_sv (vr_cls R t0) ?_; intro u35 ⟨O, q35⟩
  have R5 := rme_e R (rke_o O)
  by_cases m1 : cq_F Bf nf cnt (Bf k) (nf k) (pt_S (Bf k) (nf k) a 0) = -1
  · refine pc_se ?_; intro u36 _
    refine pc_if (fun _ => NO u35.2 O (fun w => absurd w.2.1 (by omega))) (fun _ => ?_)
    refine pc_sv (vr_there (.inl q35)) ?_; intro u37 q37
    refine pc_if (fun y => ?_) (fun _ => NO u35.2 O (fun w => absurd w.2.1 (by omega)))
    exfalso
    rcases q37 with q | q
    · exact y q.1
    · exact q.2 m1
  have TJ := tyo_j q35 m1
  refine pc_sv (vr_row (.inl TJ) m1) ?_; intro u36 q36
  refine pc_if (fun y => NO u35.2 O (fun w => ?_)) (fun y => ?_)
  · have := w.2.1
    rcases q36 with q | q
    · omega
    · exact y q.1
  refine pc_sv (vr_there (.inl q35)) ?_; intro u37 q37
  refine pc_if (fun y7 => ?_) (fun y7 => NO u35.2 O (fun w => by
    have := w.2.1
    rcases q37 with q | q
    · omega
    · omega))
  have nr : ¬ (cq_F Bf nf cnt (Bf k) (nf k) (pt_S (Bf k) (nf k) a 0) = 200 ∨ (100 ≤ cq_F Bf nf cnt (Bf k) (nf k) (pt_S (Bf k) (nf k) a 0) ∧ cq_F Bf nf cnt (Bf k) (nf k) (pt_S (Bf k) (nf k) a 0) < 116)) := by
    rcases q36 with q | q
    · omega
    · exact q.2
  have c16 : ISc cnt (cq_F Bf nf cnt (Bf k) (nf k) (pt_S (Bf k) (nf k) a 0)) ∧ cq_F Bf nf cnt (Bf k) (nf k) (pt_S (Bf k) (nf k) a 0) < 16 := by
    rcases ci with c | c
    · exact absurd c m1
    · rcases c.2 with c | c | c
      · omega
      · exact c
      · omega
  have c16' := c16
  unfold ISc at c16'
  have v35 : u35.1 = 4 + 2 * cq_F Bf nf cnt (Bf k) (nf k) (pt_S (Bf k) (nf k) a 0) := by unfold TYj at TJ; omega
  have E17 : ch_F Bf nf cnt (cq_F Bf nf cnt (Bf k) (nf k) (pt_S (Bf k) (nf k) a 0)) 17 = -1 := by
    by_cases c8 : cq_F Bf nf cnt (Bf k) (nf k) (pt_S (Bf k) (nf k) a 0) < 8
    · have s0 : ∀ c : Nat, c < 8 → ch_F Bf nf cnt (c : Int) 17 = -1 := fun c hc => by
        have q0 : ch_F Bf nf cnt (0 : Int) 1 = -1 := by
          have e0 : ch_F Bf nf cnt (0 : Int) 0 = 0 := rfl
          have := chv_s (Bf := Bf) (nf := nf) (cnt := cnt) (c := 0) (i := 0) (by rw [e0]; omega)
          rw [this, e0, show (0 : Int) = ((0 : Nat) : Int) from rfl, sp_lt (by omega)]
          rfl
        have up : ∀ x y : Int, 0 ≤ x → sp_F Bf nf cnt x = y → ∀ j : Nat, ch_F Bf nf cnt x (j + 1) = ch_F Bf nf cnt y j := fun x y x0 e j => by
          induction j with
          | zero =>
            have e0 : ch_F Bf nf cnt x 0 = x := rfl
            have := chv_s (Bf := Bf) (nf := nf) (cnt := cnt) (c := x) (i := 0) (by rw [e0]; exact x0)
            rw [this, e0, e]; rfl
          | succ j ih =>
            show (if ch_F Bf nf cnt x (j + 1) = -1 then -1 else sp_F Bf nf cnt (ch_F Bf nf cnt x (j + 1))) = (if ch_F Bf nf cnt y j = -1 then -1 else sp_F Bf nf cnt (ch_F Bf nf cnt y j))
            rw [ih]
        have q1 : ∀ j : Nat, ch_F Bf nf cnt (1 : Int) (j + 1) = ch_F Bf nf cnt 0 j := up 1 0 (by omega) (by rw [show (1 : Int) = ((1 : Nat) : Int) from rfl, sp_lt (by omega)]; rfl)
        have m0 : ∀ j : Nat, ch_F Bf nf cnt (0 : Int) (1 + j) = -1 := ch_mm q0
        rcases (show c = 0 ∨ c = 1 ∨ (2 ≤ c ∧ c < 8) by omega) with e | e | e
        · rw [e]; exact m0 16
        · rw [e]
          have := q1 16
          rw [show ((1 : Nat) : Int) = 1 from rfl, this]
          exact m0 15
        · have := up (c : Int) 1 (by omega) (by
            rw [sp_lt (by omega)]
            unfold bi_A
            rw [if_neg (by omega), if_pos (by omega)]) 16
          rw [this, q1 15]
          exact m0 14
      have := s0 (cq_F Bf nf cnt (Bf k) (nf k) (pt_S (Bf k) (nf k) a 0)).toNat (by omega)
      rw [show (((cq_F Bf nf cnt (Bf k) (nf k) (pt_S (Bf k) (nf k) a 0)).toNat : Nat) : Int) = cq_F Bf nf cnt (Bf k) (nf k) (pt_S (Bf k) (nf k) a 0) by omega] at this
      exact this
    · have O8 := (H.2 (cq_F Bf nf cnt (Bf k) (nf k) (pt_S (Bf k) (nf k) a 0) - 8).toNat (by omega)).2.1.1.2.2
      rw [show 8 + (((cq_F Bf nf cnt (Bf k) (nf k) (pt_S (Bf k) (nf k) a 0) - 8).toNat : Nat) : Int) = cq_F Bf nf cnt (Bf k) (nf k) (pt_S (Bf k) (nf k) a 0) by omega] at O8
      exact O8
  have F244 : ∀ s0 : Int, s0 = (if 182 ≤ op then 1 else 0) → Pc (qj_X13_right_244 nn op a u35.1 s0 u35.2) (fun u => RKs h u.2 ∧ (∀ j : Nat, u.2 243 j = h 243 j) ∧ (∀ j : Nat, u.2 244 j = h 244 j) ∧ u.2 160 131 = h 160 131 ∧ ((u.1 = 1 ∧ MBr Bf nf cnt k op a) ∨ (u.1 = 0 ∧ ¬ MBr Bf nf cnt k op a))) := fun s0 es => by
    unfold qj_X13_right_244
    refine pc_sub (by omega) ?_; intro v2 e2
    refine pc_xl ?_; intro v3 e3
    rw [Int.tdiv_eq_ediv_of_nonneg (by omega)] at e3
    rw [show v3 = cq_F Bf nf cnt (Bf k) (nf k) (pt_S (Bf k) (nf k) a 0) by omega]
    refine pc_sv (vr_part R5 (w := 1) (by omega) t4) ?_; intro u6 q6
    rw [q6, R5.2.2.1.1]
    have N5 := R5.1.1
    have ec := R5.1.2.2.1
    rw [← ec] at N5
    have hq := vr_holder (nn := nn) (s := s0) N5 R5.1.2.1 (rme_hk R5) t1 (c := cq_F Bf nf cnt (Bf k) (nf k) (pt_S (Bf k) (nf k) a 0)) (by rw [ec]; exact .inr c16.1) (by rw [ec]; exact E17)
    rw [ec] at hq
    refine pc_sv hq ?_; intro u8 q8
    rcases q8 with ⟨q8, hn⟩ | ⟨d, j, HF, q8⟩
    · rw [q8]
      refine pc_if (fun w => absurd rfl w) (fun _ => NO u35.2 O (fun w => ?_))
      obtain ⟨-, -, d, j, w4, -⟩ := w
      rw [← es] at w4
      exact hfd_n w4 hn
    obtain ⟨dr, jm⟩ := hfd_is H.1.1 (.inr c16.1) HF
    have h8 := H.1.2
    obtain ⟨Gd, -, -⟩ := H.2 (d - 8).toNat (by omega)
    rw [q8]
    dsimp only
    refine pc_if (fun _ => ?_) (fun w => absurd (show ¬ d = -1 by omega) w)
    generalize hg : up_M u35.2 160 121 (j : Int) = g
    have Fg : ∀ x y : Nat, ¬ (x = 160 ∧ y = 121) → g x y = u35.2 x y := fun x y w => by rw [← hg, up_n w]
    have g121 : g 160 121 = (j : Int) := by rw [← hg, up_s]
    have Kg : RKs h g := ⟨fun x y z1 z2 z3 => by rw [Fg x y (by omega)]; exact (rks_o O).1 x y z1 z2 z3, fun z => by rw [Fg 160 117 (by omega)]; exact O.2 z⟩
    have Rg := rme_e R (rks_e Kg)
    have X1 : ∀ j : Nat, g 243 j = h 243 j := fun j => by rw [Fg 243 j (by omega)]; exact O.1 243 j (by omega) (by omega) (by omega)
    have X2 : ∀ j : Nat, g 244 j = h 244 j := fun j => by rw [Fg 244 j (by omega)]; exact O.1 244 j (by omega) (by omega) (by omega)
    have X3 : g 160 131 = h 160 131 := by rw [Fg 160 131 (by omega)]; exact O.1 160 131 (by omega) (by omega) (by omega)
    have hd : (((d - 8).toNat : Nat) : Int) < g 160 98 := by rw [Rg.1.2.2.1]; omega
    refine pc_sub (by omega) ?_; intro v9 e9
    rw [show v9 = (((d - 8).toNat : Nat) : Int) by omega, g121]
    have s01 : s0 = 0 ∨ s0 = 1 := by rw [es]; by_cases w : 182 ≤ op; exact .inr (if_pos w); exact .inl (if_neg w)
    refine pc_sv (vq_rtx Rg.1.2.1 hd (j := j) (s := s0) jm).2 ?_; intro u12 q12
    refine pc_sv (vr_part Rg (w := 2) (by omega) t4) ?_; intro u15 q15
    rw [q12, q15, Rg.2.2.1.1]
    have tk : tg_S (Bf (d - 8).toNat) (nf (d - 8).toNat) (kt_S (Bf (d - 8).toNat) (nf (d - 8).toNat) j s0) = 1 := by
      unfold mb_S at jm
      unfold kt_S
      by_cases s00 : s0 = 0
      · rw [if_pos s00] at jm ⊢
        have := (Gd.2.1 j jm).2.2
        unfold fk_S at this
        rw [Bool.and_eq_true] at this
        exact of_decide_eq_true this.1
      · rw [if_neg s00] at jm ⊢
        obtain ⟨m, pm, -⟩ := (Gd.2.2.2 j jm).2.1
        exact (ps_ok pm).2.1
    refine pc_sv (vr_same Rg.1.2.1 hd (rme_hk Rg) tk tt) ?_; intro u17 q17
    refine pc_if (fun y17 => ?_) (fun y17 => pc_ret ⟨Kg, X1, X2, X3, .inr ⟨rfl, fun w => by
      obtain ⟨-, -, d2, j2, w4, w5, -⟩ := w
      rw [← es] at w4 w5
      obtain ⟨x1, x2⟩ := hfd_u w4 HF
      rw [x1, x2] at w5
      rcases q17 with q | q
      · omega
      · exact q.2 w5⟩⟩)
    have TX : TXq (Bf (d - 8).toNat) (nf (d - 8).toNat) (kt_S (Bf (d - 8).toNat) (nf (d - 8).toNat) j s0) (Bf k) (nf k) (pt_S (Bf k) (nf k) a 2) := by
      rcases q17 with q | q
      · exact q.2
      · exact absurd q.1 y17
    refine pc_if (fun y => pc_ret ⟨Kg, X1, X2, X3, .inl ⟨rfl, t4, ⟨c16'.1.1, c16.2⟩, d, j, ?_, ?_, fun w => ?_⟩⟩) (fun y => ?_)
    · rw [← es]; exact HF
    · rw [← es]; exact TX
    · rw [if_pos w] at es; omega
    have yo : 182 ≤ op := Classical.byContradiction fun w => by rw [if_neg w] at es; exact y es
    have jm2 := jm
    unfold mb_S at jm2
    rw [if_neg y] at jm2
    have n6d := tb_n6 Rg.1.2.1 hd
    obtain ⟨-, -, -, M1⟩ := rg_im (Rg.1.2.1.2 (d - 8).toNat hd)
    have b01 := (Gd.2.2.2 j jm2).1.1
    have lj := (Gd.2.2.2 j jm2).2.2.2.1
    have gm12 := Gd.2.2.1
    refine pc_xl ?_; intro v19 e19
    rw [oq_mul_eq (by omega) (by omega) (by omega)] at e19
    refine pc_add (by omega) ?_; intro v21 e21
    refine pc_rA ?_; intro _ _ v22 e22
    rw [show v21 = 12 * (((d - 8).toNat : Nat) : Int) + j by omega, (M1 j jm2).1] at e22
    rw [e22]
    refine pc_sv (vq_rbyte Rg.1.2.1 hd (by omega)) ?_; intro u24 q24
    have FIN : ∀ x : Int, x = (if op = 184 then 1 else 0) → Pc (qj_X13_right_356 nn x u24 g) (fun u => RKs h u.2 ∧ (∀ j : Nat, u.2 243 j = h 243 j) ∧ (∀ j : Nat, u.2 244 j = h 244 j) ∧ u.2 160 131 = h 160 131 ∧ ((u.1 = 1 ∧ MBr Bf nf cnt k op a) ∨ (u.1 = 0 ∧ ¬ MBr Bf nf cnt k op a))) := fun x ex => by
      refine pc_imp vr_r356 (fun u ⟨q1, q2⟩ => ?_)
      rw [q1]
      refine ⟨Kg, X1, X2, X3, ?_⟩
      rcases q2 with ⟨q3, q4⟩ | ⟨q3, q4⟩
      · refine .inl ⟨q3, t4, ⟨c16'.1.1, c16.2⟩, d, j, ?_, ?_, fun _ => ?_⟩
        · rw [← es]; exact HF
        · rw [← es]; exact TX
        · rw [← q24, q4]; exact ex
      · refine .inr ⟨q3, fun w => ?_⟩
        obtain ⟨-, -, d2, j2, w4, w5, w6⟩ := w
        rw [← es] at w4
        obtain ⟨x1, x2⟩ := hfd_u w4 HF
        rw [x1, x2] at w6
        exact q4 (by rw [q24, ex]; exact w6 yo)
    exact pc_if (fun w => FIN 0 (by rw [if_neg w])) (fun w => FIN 1 (by rw [if_pos (by omega)]))
  refine pc_if (fun w => F244 0 (by rw [if_neg (by omega)])) (fun w => F244 1 (by rw [if_pos (by omega)]))
theorem vr_r25 (R : RMe Bf nf cnt k i h) (H : HGo Bf nf cnt) (ar : 0 ≤ a ∧ a ≤ 255) : Pc (qj_X13_right_25 nn op a h) (fun u => RKs h u.2 ∧ (∀ j : Nat, u.2 243 j = h 243 j) ∧ (∀ j : Nat, u.2 244 j = h 244 j) ∧ u.2 160 131 = h 160 131 ∧ ((u.1 = 1 ∧ CRt Bf nf cnt k op a) ∨ (u.1 = 0 ∧ ¬ CRt Bf nf cnt k op a))) := by
  have hk' := R.2.1.1
  obtain ⟨Gk, Ok, zx, zk, z2⟩ := H.2 k hk'
  have RT : ∀ (v : Int) (g : ms_M), OTH h g → ((v = 1 ∧ CRt Bf nf cnt k op a) ∨ (v = 0 ∧ ¬ CRt Bf nf cnt k op a)) → Pc (some (v, g)) (fun u => RKs h u.2 ∧ (∀ j : Nat, u.2 243 j = h 243 j) ∧ (∀ j : Nat, u.2 244 j = h 244 j) ∧ u.2 160 131 = h 160 131 ∧ ((u.1 = 1 ∧ CRt Bf nf cnt k op a) ∨ (u.1 = 0 ∧ ¬ CRt Bf nf cnt k op a))) := fun v g O w => pc_ret ⟨rks_o O, fun j => O.1 243 j (by omega) (by omega) (by omega), fun j => O.1 244 j (by omega) (by omega) (by omega), O.1 160 131 (by omega) (by omega) (by omega), w⟩
  have M : (op = 180 ∨ op = 181 ∨ op = 182 ∨ op = 184) → Pc (qj_X13_right_187 nn op a h) (fun u => RKs h u.2 ∧ (∀ j : Nat, u.2 243 j = h 243 j) ∧ (∀ j : Nat, u.2 244 j = h 244 j) ∧ u.2 160 131 = h 160 131 ∧ ((u.1 = 1 ∧ CRt Bf nf cnt k op a) ∨ (u.1 = 0 ∧ ¬ CRt Bf nf cnt k op a))) := fun ho => by
    refine pc_imp (vr_r187 R H ar ho) (fun u ⟨q1, q2, q3, q4, q5⟩ => ⟨q1, q2, q3, q4, ?_⟩)
    rcases q5 with q | q
    · exact .inl ⟨q.1, fun w => absurd w (by omega), fun w => absurd w (by omega), fun w => absurd w (by omega), fun _ => q.2⟩
    · exact .inr ⟨q.1, fun w => q.2 (w.2.2.2 ho)⟩
  have K : (op = 187 ∨ op = 189 ∨ op = 192 ∨ op = 193) → Pc (qj_X13_right_131 nn a h) (fun u => RKs h u.2 ∧ (∀ j : Nat, u.2 243 j = h 243 j) ∧ (∀ j : Nat, u.2 244 j = h 244 j) ∧ u.2 160 131 = h 160 131 ∧ ((u.1 = 1 ∧ CRt Bf nf cnt k op a) ∨ (u.1 = 0 ∧ ¬ CRt Bf nf cnt k op a))) := fun ho => by
    unfold qj_X13_right_131
    refine pc_sv (vr_sort R ar) ?_; intro u43 q43
    refine pc_if (fun z => ?_) (fun z => RT 0 h oth_r (.inr ⟨rfl, fun v => z (q43.trans (v.2.1 ho).1)⟩))
    have t3 : tg_S (Bf k) (nf k) a = 3 := by omega
    have ci := cq_is (Bf := Bf) (nf := nf) H.1 zk z2 t3
    refine pc_sv (vr_cls R t3) ?_; intro u46 ⟨O, q46⟩
    refine pc_sv (vr_there (.inl q46)) ?_; intro u47 q47
    refine pc_if (fun y => RT 0 u46.2 O (.inr ⟨rfl, fun v => ?_⟩)) (fun y => ?_)
    · have := (v.2.1 ho).2
      rcases q47 with q | q
      · omega
      · omega
    have m1 : ¬ cq_F Bf nf cnt (Bf k) (nf k) a = -1 := by
      rcases q47 with q | q
      · exact absurd q.1 y
      · exact q.2
    refine pc_sv (vr_row q46 m1) ?_; intro u48 q48
    refine pc_if (fun y8 => RT 0 u46.2 O (.inr ⟨rfl, fun v => ?_⟩)) (fun y8 => RT 1 u46.2 O (.inl ⟨rfl, fun w => absurd w (by omega), fun _ => ⟨t3, ?_⟩, fun w => absurd w (by omega), fun w => absurd w (by omega)⟩))
    · have := (v.2.1 ho).2
      rcases q48 with q | q
      · omega
      · exact y8 q.1
    · have nr : ¬ (cq_F Bf nf cnt (Bf k) (nf k) a = 200 ∨ (100 ≤ cq_F Bf nf cnt (Bf k) (nf k) a ∧ cq_F Bf nf cnt (Bf k) (nf k) a < 116)) := by
        rcases q48 with q | q
        · omega
        · exact q.2
      rcases ci with c | c
      · exact absurd c m1
      · rcases c.2 with c | c | c
        · omega
        · have := c.1
          unfold ISc at this
          omega
        · omega
  unfold qj_X13_right_25
  refine pc_if (fun z => ?_) (fun z0 => ?_)
  · refine pc_sv (vr_sort R ar) ?_; intro u53 q53
    exact pc_if (fun w => RT 0 h oth_r (.inr ⟨rfl, fun v => w (q53.trans (v.1 z))⟩)) (fun w => RT 1 h oth_r (.inl ⟨rfl, fun _ => by omega, fun w => absurd w (by omega), fun w => absurd w (by omega), fun w => absurd w (by omega)⟩))
  refine pc_if (fun z => M (by omega)) (fun z1 => ?_)
  refine pc_if (fun z => M (by omega)) (fun z2 => ?_)
  refine pc_if (fun z => M (by omega)) (fun z3 => ?_)
  refine pc_if (fun z => M (by omega)) (fun z4 => ?_)
  refine pc_if (fun z => K (by omega)) (fun z5 => ?_)
  refine pc_if (fun z => ?_) (fun z6 => ?_)
  · exact pc_if (fun w => RT 0 h oth_r (.inr ⟨rfl, fun v => w (v.2.2.1 z)⟩)) (fun w => RT 1 h oth_r (.inl ⟨rfl, fun w => absurd w (by omega), fun w => absurd w (by omega), fun _ => by omega, fun w => absurd w (by omega)⟩))
  refine pc_if (fun z => K (by omega)) (fun z7 => ?_)
  refine pc_if (fun z => K (by omega)) (fun z8 => ?_)
  refine pc_if (fun z => K (by omega)) (fun z9 => ?_)
  exact RT 1 h oth_r (.inl ⟨rfl, fun w => absurd w (by omega), fun w => absurd w (by omega), fun w => absurd w (by omega), fun w => absurd w (by omega)⟩)
end

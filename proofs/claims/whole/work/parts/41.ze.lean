/- VERIFY: frames and handlers of an IMAGE are as they must be; types; what stands for what -/
/-- a type told at x; types behind their count at p; a frame at p -/
def TPg (B : Nat → Int) (n x : Nat) : Prop := x < n ∧ (0 ≤ B x ∧ B x ≤ 3) ∧ (B x = 3 → x + 1 < n ∧ tg_S B n (B (x + 1)) = 3)
def TLg (B : Nat → Int) (n p : Nat) : Prop := p < n ∧ (∀ x : Nat, x < (B p).toNat → TPg B n (tp_S B p x)) ∧ te_P B p ≤ n
def FRg (B : Nat → Int) (n p : Nat) : Prop := p + 2 ≤ n ∧ TLg B n (p + 2) ∧ TLg B n (te_P B (p + 2))
/-- a type of the class whose class is there -/
def VTq (cnt x : Int) : Prop := x = 304 ∨ x = 301 ∨ x = 300 ∨ x = 200 ∨ ISc cnt x ∨ ISc cnt (x - 100)
section
variable {nn : Nat} {Bf : Nat → Nat → Int} {nf : Nat → Nat} {cnt : Int} {B C D : Nat → Int} {n m b d k o i L p q : Nat} {M h g r h0 : ms_M} {t c : Int}
theorem ty_g : ∀ (m j : Nat), ty_S B n m (tp_S B p j) = .inr q → tp_S B p (j + m) = q ∧ ∀ x : Nat, j ≤ x → x < j + m → TPg B n (tp_S B p x) := by
  intro m
  induction m with
  | zero =>
    intro j e
    refine ⟨Sum.inr.inj e, fun x h1 h2 => absurd h2 (by omega)⟩
  | succ m ih =>
    intro j e
    unfold ty_S at e
    obtain ⟨x, e1, e2⟩ := bd_inr e
    obtain ⟨y, e3, e4⟩ := bd_inr e1
    obtain ⟨a1, a2, a3⟩ := by_le e3
    have a3 := up_i a3
    have st : tp_S B p (j + 1) = tp_S B p j + (if B (tp_S B p j) = 3 then 2 else 1) := rfl
    by_cases c3 : B (tp_S B p j) = 3
    · rw [if_pos c3] at st e4
      obtain ⟨b1, b2, b3⟩ := by_le e4
      have b3 : tg_S B n (B y) = 3 := of_decide_eq_true b3
      rw [a1] at b1 b2 b3
      rw [show x = tp_S B p (j + 1) by omega] at e2
      obtain ⟨z1, z2⟩ := ih (j + 1) e2
      refine ⟨by rw [← z1]; congr 1; omega, fun w h1 h2 => ?_⟩
      by_cases wj : w = j
      · rw [wj]; exact ⟨a2, a3, fun _ => ⟨b2, b3⟩⟩
      · exact z2 w (by omega) (by omega)
    · rw [if_neg c3] at st e4
      have b1 : y = x := Sum.inr.inj e4
      rw [show x = tp_S B p (j + 1) by omega] at e2
      obtain ⟨z1, z2⟩ := ih (j + 1) e2
      refine ⟨by rw [← z1]; congr 1; omega, fun w h1 h2 => ?_⟩
      by_cases wj : w = j
      · rw [wj]; exact ⟨a2, a3, fun y => absurd y c3⟩
      · exact z2 w (by omega) (by omega)
theorem tpg_n (A : TPg B n (tp_S B p m)) : tp_S B p (m + 1) ≤ n := by
  have st : tp_S B p (m + 1) = tp_S B p m + (if B (tp_S B p m) = 3 then 2 else 1) := rfl
  obtain ⟨a1, a2, a3⟩ := A
  by_cases c3 : B (tp_S B p m) = 3
  · rw [if_pos c3] at st
    have := (a3 c3).1
    omega
  · rw [if_neg c3] at st
    omega
theorem ts_g (e : ts_S B n p = .inr q) : te_P B p = q ∧ TLg B n p := by
  unfold ts_S at e
  obtain ⟨x, e1, e2⟩ := bd_inr e
  unfold nx_S at e1
  by_cases w : p < n
  · rw [if_pos w] at e1
    have ex : p + 1 = x := Sum.inr.inj e1
    have e0 : tp_S B p 0 = p + 1 := rfl
    rw [← ex, ← e0] at e2
    obtain ⟨z1, z2⟩ := ty_g _ 0 e2
    rw [Nat.zero_add] at z1
    have z2 : ∀ x : Nat, x < (B p).toNat → TPg B n (tp_S B p x) := fun x hx => z2 x (by omega) (by omega)
    refine ⟨z1, w, z2, ?_⟩
    unfold te_P
    cases hm : (B p).toNat with
    | zero => rw [e0]; omega
    | succ m => exact tpg_n (z2 m (by omega))
  · rw [if_neg w] at e1; exact nomatch e1
theorem fr_g {a : Nat} : ∀ (m f : Nat), fr_S B n m (fp_S B a f) = .inr q → ∀ x : Nat, f ≤ x → x < f + m → FRg B n (fp_S B a x) := by
  intro m
  induction m with
  | zero => intro f _ x h1 h2; exact absurd h2 (by omega)
  | succ m ih =>
    intro f e x h1 h2
    unfold fr_S at e
    obtain ⟨y1, e1, e2⟩ := bd_inr e
    obtain ⟨y2, e3, e4⟩ := bd_inr e1
    obtain ⟨y3, e5, e6⟩ := bd_inr e3
    unfold sk_S at e5
    by_cases w : fp_S B a f + 2 ≤ n
    · rw [if_pos w] at e5
      have ey : fp_S B a f + 2 = y3 := Sum.inr.inj e5
      rw [← ey] at e6
      obtain ⟨g1, g2⟩ := ts_g e6
      rw [← g1] at e4
      obtain ⟨g3, g4⟩ := ts_g e4
      by_cases xf : x = f
      · rw [xf]; exact ⟨w, g2, g4⟩
      · have st : fp_S B a (f + 1) = te_P B (te_P B (fp_S B a f + 2)) := rfl
        rw [← g3, ← st] at e2
        exact ih (f + 1) e2 x (by omega) (by omega)
    · rw [if_neg w] at e5; exact nomatch e5
theorem gm_fr (G : GMt B n i) {f : Nat} (hf : f < fn_S B n i) : FRg B n (fw_S B n i f) := by
  obtain ⟨-, -, -, -, -, -, -, q, e, -⟩ := G
  have e0 : fp_S B (mf_P B n i) 0 = mf_P B n i + 1 := rfl
  rw [← e0] at e
  exact fr_g _ 0 e f (by omega) (by unfold fn_S at hf; omega)
theorem hd_g : ∀ (m p : Nat), hd_S B n m p = .inr q → ∀ j : Nat, j < m → p + 7 * j + 6 < n ∧ tg_S B n (B (p + 7 * j + 6)) = 3 := by
  intro m
  induction m with
  | zero => intro p _ j hj; exact absurd hj (by omega)
  | succ m ih =>
    intro p e j hj
    unfold hd_S at e
    obtain ⟨y1, e1, e2⟩ := bd_inr e
    obtain ⟨y2, e3, e4⟩ := bd_inr e1
    unfold sk_S at e3
    by_cases w : p + 6 ≤ n
    · rw [if_pos w] at e3
      have ey : p + 6 = y2 := Sum.inr.inj e3
      rw [← ey] at e4
      obtain ⟨b1, b2, b3⟩ := by_le e4
      have b3 : tg_S B n (B (p + 6)) = 3 := of_decide_eq_true b3
      by_cases j0 : j = 0
      · rw [j0]; exact ⟨by omega, b3⟩
      · have z := ih y1 e2 (j - 1) (by omega)
        rw [show y1 + 7 * (j - 1) + 6 = p + 7 * j + 6 by omega] at z
        exact z
    · rw [if_neg w] at e3; exact nomatch e3
theorem gm_hd (G : GMt B n i) {j : Nat} (hj : j < hn_S B n i) : hq_S B n i j + 6 < n ∧ tg_S B n (B (hq_S B n i j + 6)) = 3 := by
  obtain ⟨-, -, -, -, -, ⟨e, -⟩, -⟩ := G
  exact hd_g _ _ e j hj
/-- types -/
theorem kq_is (c0 : 0 ≤ cnt ∧ cnt ≤ 8) {p e : Nat} (K : KDs B p e) : (B p = 86 ∧ kq_F Bf nf cnt B p e = 303) ∨ (¬ B p = 86 ∧ ¬ kq_F Bf nf cnt B p e = 303 ∧ ¬ kq_F Bf nf cnt B p e = 304 ∧ ¬ kq_F Bf nf cnt B p e = 300 ∧ (kq_F Bf nf cnt B p e = 301 ↔ (B p = 73 ∨ B p = 90)) ∧ (kq_F Bf nf cnt B p e = -1 ∨ VTq cnt (kq_F Bf nf cnt B p e))) := by
  unfold VTq
  unfold KDs at K
  unfold kq_F
  by_cases a : B p = 73 ∨ B p = 90
  · rw [if_pos a]; exact .inr ⟨by omega, by omega, by omega, by omega, by omega, .inr (.inr (.inl rfl))⟩
  · rw [if_neg a]
    by_cases c : B p = 86
    · rw [if_pos c]; exact .inl ⟨c, rfl⟩
    · rw [if_neg c]
      by_cases f : B p = 91
      · rw [if_pos f]
        by_cases g : B (p + 1) = 73
        · rw [if_pos g]; exact .inr ⟨c, by omega, by omega, by omega, by omega, .inr (.inr (.inr (.inr (.inl rfl))))⟩
        · rw [if_neg g]
          rcases lo_is (Bf := Bf) (nf := nf) c0.1 (f := fun i => B (p + 2 + i)) (m := e - 1 - (p + 2)) with z | z
          · rw [if_pos z]; exact .inr ⟨c, by omega, by omega, by omega, by omega, .inl rfl⟩
          · have zn : ¬ lo_S Bf nf cnt (fun i => B (p + 2 + i)) (e - 1 - (p + 2)) = -1 := by unfold ISc at z; omega
            rw [if_neg zn]
            have z' := z
            unfold ISc at z'
            generalize lo_S Bf nf cnt (fun i => B (p + 2 + i)) (e - 1 - (p + 2)) = v at *
            exact .inr ⟨c, by omega, by omega, by omega, by omega, .inr (.inr (.inr (.inr (.inr (.inr (by rw [show 100 + v - 100 = v by omega]; exact z))))))⟩
      · rw [if_neg f]
        rcases lo_is (Bf := Bf) (nf := nf) c0.1 (f := fun i => B (p + 1 + i)) (m := e - 1 - (p + 1)) with z | z
        · exact .inr ⟨c, by omega, by omega, by omega, by omega, .inl z⟩
        · have z' := z
          unfold ISc at z'
          exact .inr ⟨c, by omega, by omega, by omega, by omega, .inr (.inr (.inr (.inr (.inr (.inl z)))))⟩
theorem cq_is (c0 : 0 ≤ cnt ∧ cnt ≤ 8) {x : Nat} (zk : kk_S B n = .inr x) (h2 : 0 ≤ B 2) {i : Int} (t3 : tg_S B n i = 3) : cq_F Bf nf cnt B n i = -1 ∨ (VTq cnt (cq_F Bf nf cnt B n i) ∧ (cq_F Bf nf cnt B n i = 200 ∨ (ISc cnt (cq_F Bf nf cnt B n i) ∧ cq_F Bf nf cnt B n i < 16) ∨ (ISc cnt (cq_F Bf nf cnt B n i - 100) ∧ 100 ≤ cq_F Bf nf cnt B n i ∧ cq_F Bf nf cnt B n i < 116))) := by
  have rg := cq_rg (Bf := Bf) (nf := nf) c0.2 zk h2 t3
  obtain ⟨-, tx⟩ := cl_tx zk h2 t3
  have V : cq_F Bf nf cnt B n i = -1 ∨ VTq cnt (cq_F Bf nf cnt B n i) := by
    unfold cq_F
    by_cases c : B (na_S B n (pt_S B n i 0)) = 91
    · rw [if_pos c]
      rcases tx with ⟨-, w⟩ | ⟨-, w⟩
      · exact absurd c w
      · rcases kq_is (Bf := Bf) (nf := nf) c0 w with z | z
        · omega
        · exact z.2.2.2.2.2
    · rw [if_neg c]
      rcases lo_is (Bf := Bf) (nf := nf) c0.1 (f := fun j => B (na_S B n (pt_S B n i 0) + j)) (m := tl_S B n (pt_S B n i 0)) with z | z
      · exact .inl z
      · exact .inr (.inr (.inr (.inr (.inr (.inl z)))))
  rcases V with z | z
  · exact .inl z
  · by_cases e : cq_F Bf nf cnt B n i = -1
    · exact .inl e
    · refine .inr ⟨z, ?_⟩
      unfold VTq ISc at z
      unfold ISc
      omega
theorem tt_is (c0 : 0 ≤ cnt ∧ cnt ≤ 8) {x : Nat} (zk : kk_S (Bf k) (nf k) = .inr x) (h2 : 0 ≤ Bf k 2) (T : TPg (Bf k) (nf k) p) : tt_F Bf nf cnt k p = -1 ∨ VTq cnt (tt_F Bf nf cnt k p) := by
  obtain ⟨t1, t2, t3⟩ := T
  unfold tt_F
  by_cases a : Bf k p = 0
  · rw [if_pos a]; exact .inr (.inl rfl)
  · rw [if_neg a]
    by_cases b : Bf k p = 1
    · rw [if_pos b]; exact .inr (.inr (.inl rfl))
    · rw [if_neg b]
      by_cases c : Bf k p = 2
      · rw [if_pos c]; exact .inr (.inr (.inr (.inl rfl)))
      · rw [if_neg c]
        rcases cq_is (Bf := Bf) (nf := nf) c0 zk h2 (t3 (by omega)).2 with z | z
        · exact .inl z
        · exact .inr z.1
/-- WHAT STANDS FOR WHAT -/
def TIs (cnt x : Int) : Prop := ((0 ≤ x ∧ x < 16) → ISc cnt x) ∧ ((100 ≤ x ∧ x < 116) → ISc cnt (x - 100))
theorem vt_is (c8 : cnt ≤ 8) {x : Int} (V : VTq cnt x) : TIs cnt x := by
  unfold VTq ISc at V
  unfold TIs ISc
  constructor
  · intro z; omega
  · intro z; omega
theorem ti_m1 : TIs cnt (-1) := ⟨fun z => absurd z (by omega), fun z => absurd z (by omega)⟩
theorem ch_mm {x : Int} {i : Nat} (e : ch_F Bf nf cnt x i = -1) : ∀ j : Nat, ch_F Bf nf cnt x (i + j) = -1 := by
  intro j
  induction j with
  | zero => exact e
  | succ j ih =>
    show (if ch_F Bf nf cnt x (i + j) = -1 then -1 else sp_F Bf nf cnt (ch_F Bf nf cnt x (i + j))) = -1
    rw [if_pos ih]
theorem ch_lt (c0 : 0 ≤ cnt ∧ cnt ≤ 8) {x y : Int} (hx : ISc cnt x) (hy : 0 ≤ y) (U : UNq Bf nf cnt x y) : ∃ m : Nat, m < 16 ∧ ch_F Bf nf cnt x m = y := by
  obtain ⟨m0, e0⟩ := U
  obtain ⟨m, m1, m2, m3⟩ := le_ast (P := fun m => ch_F Bf nf cnt x m = y) (m0 + 1) ⟨m0, by omega, e0⟩
  have m2 : ch_F Bf nf cnt x m = y := m2
  refine ⟨m, Classical.byContradiction fun z => ?_, m2⟩
  have I := ch_is (Bf := Bf) (nf := nf) c0.1 (c := x) (.inr hx)
  have A : ∀ i : Nat, i ≤ 16 → 0 ≤ ch_F Bf nf cnt x i ∧ ch_F Bf nf cnt x i < 16 := fun i hi => by
    rcases I i with w | w
    · have := ch_mm w (m - i)
      rw [show i + (m - i) = m by omega] at this
      omega
    · unfold ISc at w; omega
  obtain ⟨i, j, h1, h2, h3⟩ := pg_41 16 (fun i => (ch_F Bf nf cnt x i).toNat) (fun i hi => by
    have a := A i hi
    show (ch_F Bf nf cnt x i).toNat < 16
    omega)
  have h3' : (ch_F Bf nf cnt x i).toNat = (ch_F Bf nf cnt x j).toNat := h3
  have a1 := A i (by omega)
  have a2 := A j h2
  have e := ch_add (Bf := Bf) (nf := nf) (cnt := cnt) (c := x) (show ch_F Bf nf cnt x i = ch_F Bf nf cnt x j by omega) (m - j)
  rw [show j + (m - j) = m by omega, m2] at e
  exact m3 (i + (m - j)) (by omega) e
theorem chn_s {f : Nat → Int} : ∀ (m : Nat) (a : Int), ch_N f (m + 1) a = (if 0 ≤ ch_N f m a ∧ ch_N f m a < 16 then f (ch_N f m a).toNat else ch_N f m a) := by
  intro m
  induction m with
  | zero => intro a; rfl
  | succ m ih =>
    intro a
    exact ih (if 0 ≤ a ∧ a < 16 then f a.toNat else a)
theorem cn_ch (S : CSw Bf nf h) {x : Int} (hx : ISc (h 56 3) x) : ∀ m : Nat, ch_N (h 58) m x = ch_F Bf nf (h 56 3) x m := by
  have g3 := S.1.1
  have I := ch_is (Bf := Bf) (nf := nf) g3.1 (c := x) (.inr hx)
  intro m
  induction m with
  | zero => rfl
  | succ m ih =>
    rw [chn_s, ih]
    rcases I m with w | w
    · rw [if_neg (by omega), w]
      exact (ch_mm w 1).symm
    · have w' := w
      unfold ISc at w'
      rw [if_pos (by omega), kn_sp58 S w, chv_s w.1]
theorem un_58 (S : CSw Bf nf h) {x y : Int} (hx : ISc (h 56 3) x) (hy : 0 ≤ y ∧ y < 16) : (h 59 (16 * x.toNat + y.toNat) = 1 ∧ UNq Bf nf (h 56 3) x y) ∨ (h 59 (16 * x.toNat + y.toNat) = 0 ∧ ¬ UNq Bf nf (h 56 3) x y) := by
  have g3 := S.1.1
  have hx' := hx
  unfold ISc at hx'
  have U := S.2.1 x.toNat y.toNat (by omega) (by omega)
  rw [show ((x.toNat : Nat) : Int) = x by omega, show ((y.toNat : Nat) : Int) = y by omega] at U
  by_cases q : UNq Bf nf (h 56 3) x y
  · obtain ⟨m, m1, m2⟩ := ch_lt g3 hx hy.1 q
    exact .inl ⟨U.1 ⟨m, m1, by rw [show h (57 + 1) = h 58 from rfl, cn_ch S hx]; exact m2⟩, q⟩
  · refine .inr ⟨U.2 (fun ⟨m, _, m2⟩ => q ⟨m, ?_⟩), q⟩
    rw [show h (57 + 1) = h 58 from rfl, cn_ch S hx] at m2
    exact m2
/-- .. the class's side -/
theorem vc_kfits (S : CSw Bf nf h) {x y : Int} (X : TIs (h 56 3) x) : Pc (qf_X4_fits nn 57 x y h) (fun u => (u = 1 ∧ KFt Bf nf (h 56 3) x y) ∨ (u = 0 ∧ ¬ KFt Bf nf (h 56 3) x y)) := by
  have g3 := S.1.1
  have Z : ∀ (P : Prop), P = KFt Bf nf (h 56 3) x y → ¬ P → Pc (some (0 : Int)) (fun u => (u = 1 ∧ KFt Bf nf (h 56 3) x y) ∨ (u = 0 ∧ ¬ KFt Bf nf (h 56 3) x y)) := fun P e z => pc_ret (.inr ⟨rfl, by rw [← e]; exact z⟩)
  have Y : KFt Bf nf (h 56 3) x y → Pc (some (1 : Int)) (fun u => (u = 1 ∧ KFt Bf nf (h 56 3) x y) ∨ (u = 0 ∧ ¬ KFt Bf nf (h 56 3) x y)) := fun z => pc_ret (.inl ⟨rfl, z⟩)
  have NO : (¬ x = y) → (x = 300 → ¬ (0 ≤ y ∧ y ≤ 200)) → (0 ≤ x ∧ x < 16 → 0 ≤ y ∧ y < 16 → ¬ UNq Bf nf (h 56 3) x y) → (y = 0 → ¬ (100 ≤ x ∧ x ≤ 200)) → (100 ≤ x ∧ x < 116 → 100 ≤ y ∧ y < 116 → ¬ UNq Bf nf (h 56 3) (x - 100) (y - 100)) → ¬ KFt Bf nf (h 56 3) x y := fun n1 n2 n3 n4 n5 w => by
    rcases w with w | ⟨w1, w2⟩ | ⟨w1, w2, w3⟩ | ⟨w1, w2⟩ | ⟨w1, w2, w3⟩
    · exact n1 w
    · exact n2 w1 w2
    · exact n3 w1 w2 w3
    · exact n4 w1 w2
    · exact n5 w1 w2 w3
  unfold qf_X4_fits
  refine pc_if (fun n1 => ?_) (fun e => Y (.inl (by omega)))
  refine pc_if (fun n3 => ?_) (fun e3 => ?_)
  · have F71 : ¬ (0 ≤ x ∧ x < 16) → Pc (qj_X4_fits_71 nn 57 x y h) (fun u => (u = 1 ∧ KFt Bf nf (h 56 3) x y) ∨ (u = 0 ∧ ¬ KFt Bf nf (h 56 3) x y)) := fun nx => by
      unfold qj_X4_fits_71
      refine pc_if (fun ny => ?_) (fun ey => ?_)
      · have N22 : ¬ ((100 ≤ x ∧ x < 116) ∧ (100 ≤ y ∧ y < 116)) → Pc (qj_X4_fits_122 nn 57 x y h) (fun u => (u = 1 ∧ KFt Bf nf (h 56 3) x y) ∨ (u = 0 ∧ ¬ KFt Bf nf (h 56 3) x y)) := fun nz => by
          unfold qj_X4_fits_122 qj_X4_fits_123
          refine pc_if (fun _ => pc_ret (.inr ⟨rfl, NO n1 (fun e => absurd e n3) (fun e => absurd e nx) (fun e => absurd e ny) (fun e1 e2 => absurd ⟨e1, e2⟩ nz)⟩)) (fun z => absurd rfl z)
        refine pc_if (fun z => N22 (by omega)) (fun z1 => ?_)
        refine pc_if (fun z => N22 (by omega)) (fun z2 => ?_)
        refine pc_if (fun z => N22 (by omega)) (fun z3 => ?_)
        refine pc_if (fun z => N22 (by omega)) (fun z4 => ?_)
        have hx := X.2 (by omega)
        unfold qj_X4_fits_123
        refine pc_if (fun z => absurd z (by decide)) (fun _ => ?_)
        refine pc_sub (by omega) ?_; intro v2 e2
        refine pc_xl ?_; intro v3 e3
        rw [oq_mul_eq (by omega) (by omega) (by omega)] at e3
        refine pc_add (by omega) ?_; intro v4 e4
        refine pc_sub (by omega) ?_; intro v5 e5
        refine pc_rA ?_; intro _ _ v6 e6
        have U := un_58 S hx (y := y - 100) (by omega)
        rw [show 16 * (x - 100).toNat + (y - 100).toNat = v5.toNat by omega] at U
        rw [show h (57 + 2) = h 59 from rfl] at e6
        refine pc_if (fun z => pc_ret (.inr ⟨rfl, NO n1 (fun e => absurd e n3) (fun e => absurd e nx) (fun e => absurd e ny) (fun _ _ w => ?_)⟩)) (fun z => Y (.inr (.inr (.inr (.inr ⟨by omega, by omega, ?_⟩)))))
        · rcases U with u | u
          · omega
          · exact u.2 w
        · rcases U with u | u
          · exact u.2
          · omega
      · refine pc_if (fun z => pc_ret (.inr ⟨rfl, NO n1 (fun e => absurd e n3) (fun e => absurd e nx) (fun _ => by omega) (fun _ e => absurd e (by omega))⟩)) (fun z => ?_)
        refine pc_if (fun z => pc_ret (.inr ⟨rfl, NO n1 (fun e => absurd e n3) (fun e => absurd e nx) (fun _ => by omega) (fun _ e => absurd e (by omega))⟩)) (fun z2 => Y (.inr (.inr (.inr (.inl ⟨by omega, by omega, by omega⟩)))))
    refine pc_if (fun z => F71 (by omega)) (fun z1 => ?_)
    refine pc_if (fun z => F71 (by omega)) (fun z2 => ?_)
    refine pc_if (fun z => pc_ret (.inr ⟨rfl, NO n1 (fun e => absurd e n3) (fun _ e => absurd e (by omega)) (fun e => by omega) (fun e => absurd e (by omega))⟩)) (fun z3 => ?_)
    refine pc_if (fun z => pc_ret (.inr ⟨rfl, NO n1 (fun e => absurd e n3) (fun _ e => absurd e (by omega)) (fun e => by omega) (fun e => absurd e (by omega))⟩)) (fun z4 => ?_)
    have hx := X.1 (by omega)
    refine pc_xl ?_; intro v17 e17
    rw [oq_mul_eq (by omega) (by omega) (by omega)] at e17
    refine pc_add (by omega) ?_; intro v18 e18
    refine pc_rA ?_; intro _ _ v19 e19
    have U := un_58 S hx (y := y) (by omega)
    rw [show 16 * x.toNat + y.toNat = v18.toNat by omega] at U
    rw [show h (57 + 2) = h 59 from rfl] at e19
    refine pc_if (fun z => pc_ret (.inr ⟨rfl, NO n1 (fun e => absurd e n3) (fun _ _ w => ?_) (fun e => by omega) (fun e => absurd e (by omega))⟩)) (fun z => Y (.inr (.inr (.inl ⟨by omega, by omega, ?_⟩))))
    · rcases U with u | u
      · omega
      · exact u.2 w
    · rcases U with u | u
      · exact u.2
      · omega
  · have e3 : x = 300 := by omega
    refine pc_if (fun z => pc_ret (.inr ⟨rfl, NO n1 (fun _ => by omega) (fun e => absurd e (by omega)) (fun _ => by omega) (fun e => absurd e (by omega))⟩)) (fun z => ?_)
    refine pc_if (fun z => pc_ret (.inr ⟨rfl, NO n1 (fun _ => by omega) (fun e => absurd e (by omega)) (fun _ => by omega) (fun e => absurd e (by omega))⟩)) (fun z2 => Y (.inr (.inl ⟨e3, by omega, by omega⟩)))
theorem vc_fits (S : CSw Bf nf h) {x y : Int} (X : TIs (h 56 3) x) : Pc (qf_X11_fits nn x y h) (fun u => (u = 1 ∧ FTq Bf nf (h 56 3) x y) ∨ (u = 0 ∧ ¬ FTq Bf nf (h 56 3) x y)) := by
  unfold qf_X11_fits
  refine pc_if (fun z => pc_ret (.inl ⟨rfl, .inl z⟩)) (fun z => ?_)
  refine pc_sv (vc_kfits S X) ?_; intro u3 q3
  refine pc_if (fun y3 => pc_ret (.inr ⟨rfl, fun w => ?_⟩)) (fun y3 => pc_ret (.inl ⟨rfl, .inr ?_⟩))
  · rcases w with w | w
    · exact z w
    · rcases q3 with q | q
      · omega
      · exact q.2 w
  · rcases q3 with q | q
    · exact q.2
    · exact absurd q.1 y3
/-- .. the reference's side -/
theorem vr_un5 (N : NKn Bf nf (h 160 98)) (S : RSv Bf nf h) {x y : Int} (hx : ISc (h 160 98) x) (hy : 0 ≤ y) : ∀ (f m : Nat), m ≤ 17 → (∀ j : Nat, j < m → ¬ ch_F Bf nf (h 160 98) x j = y) → Pc (qw_X13_isUnder_5 nn f y (ch_F Bf nf (h 160 98) x m) (m : Int) h) (fun u => (u = 1 ∧ UNq Bf nf (h 160 98) x y) ∨ (u = 0 ∧ ¬ UNq Bf nf (h 160 98) x y)) := by
  have I := ch_is (Bf := Bf) (nf := nf) S.1.1 (c := x) (.inr hx)
  intro f
  induction f with
  | zero => intro m _ _; exact pc_none
  | succ f ih =>
    intro m hm A
    unfold qw_X13_isUnder_5
    refine pc_if (fun z => pc_ret (.inr ⟨rfl, fun w => ?_⟩)) (fun z => ?_)
    · obtain ⟨j, j1, j2⟩ := ch_lt S.1 hx hy w
      exact A j (by omega) j2
    refine pc_if (fun z1 => pc_ret (.inr ⟨rfl, fun ⟨j, ej⟩ => ?_⟩)) (fun z1 => ?_)
    · by_cases q : j < m
      · exact A j q ej
      · have := ch_mm z1 (j - m)
        rw [show m + (j - m) = j by omega] at this
        omega
    refine pc_if (fun z2 => ?_) (fun z2 => pc_ret (.inl ⟨rfl, m, by omega⟩))
    have w : ISc (h 160 98) (ch_F Bf nf (h 160 98) x m) := by
      rcases I m with w | w
      · exact absurd w z1
      · exact w
    refine pc_sv (vr_super N S w) ?_; intro u2 q2
    refine pc_add (by omega) ?_; intro v3 e3
    rw [q2, ← chv_s w.1, show v3 = ((m + 1 : Nat) : Int) by omega]
    refine ih (m + 1) (by omega) (fun j hj => ?_)
    by_cases e : j = m
    · rw [e]; exact z2
    · exact A j (by omega)
theorem vr_under (N : NKn Bf nf (h 160 98)) (S : RSv Bf nf h) {x y : Int} (hx : ISc (h 160 98) x) (hy : 0 ≤ y) : Pc (qf_X13_isUnder nn x y h) (fun u => (u = 1 ∧ UNq Bf nf (h 160 98) x y) ∨ (u = 0 ∧ ¬ UNq Bf nf (h 160 98) x y)) := by
  unfold qf_X13_isUnder
  exact vr_un5 N S hx hy nn 0 (by omega) (fun j hj => absurd hj (by omega))
theorem vr_row {x y : Int} (T : TYo x y) (t : ¬ x = -1) : Pc (qf_X13_isRow nn y h) (fun u => (u = 1 ∧ (x = 200 ∨ (100 ≤ x ∧ x < 116))) ∨ (u = 0 ∧ ¬ (x = 200 ∨ (100 ≤ x ∧ x < 116)))) := by
  unfold TYo TYj at T
  unfold qf_X13_isRow
  refine pc_if (fun z => pc_ret (.inl ⟨rfl, by omega⟩)) (fun z => ?_)
  refine pc_if (fun z1 => pc_ret (.inr ⟨rfl, by omega⟩)) (fun z1 => ?_)
  refine pc_xl ?_; intro v1 e1
  rw [Int.tmod_eq_emod_of_nonneg (by omega)] at e1
  exact pc_if (fun w => pc_ret (.inr ⟨rfl, by omega⟩)) (fun w => pc_ret (.inl ⟨rfl, by omega⟩))
theorem vr_goes (N : NKn Bf nf (h 160 98)) (S : RSv Bf nf h) {x y a b : Int} (X : TIs (h 160 98) x) (T : TYj x a) (U : TYj y b) : Pc (qf_X13_goes nn a b h) (fun u => (u = 1 ∧ FTq Bf nf (h 160 98) x y) ∨ (u = 0 ∧ ¬ FTq Bf nf (h 160 98) x y)) := by
  have NO : (¬ y = 304) → (¬ x = y) → (x = 300 → ¬ (0 ≤ y ∧ y ≤ 200)) → (0 ≤ x ∧ x < 16 → 0 ≤ y ∧ y < 16 → ¬ UNq Bf nf (h 160 98) x y) → (y = 0 → ¬ (100 ≤ x ∧ x ≤ 200)) → (100 ≤ x ∧ x < 116 → 100 ≤ y ∧ y < 116 → ¬ UNq Bf nf (h 160 98) (x - 100) (y - 100)) → Pc (some (0 : Int)) (fun u => (u = 1 ∧ FTq Bf nf (h 160 98) x y) ∨ (u = 0 ∧ ¬ FTq Bf nf (h 160 98) x y)) := fun n0 n1 n2 n3 n4 n5 => pc_ret (.inr ⟨rfl, fun w => by
    rcases w with w | w | ⟨w1, w2⟩ | ⟨w1, w2, w3⟩ | ⟨w1, w2⟩ | ⟨w1, w2, w3⟩
    · exact n0 w
    · exact n1 w
    · exact n2 w1 w2
    · exact n3 w1 w2 w3
    · exact n4 w1 w2
    · exact n5 w1 w2 w3⟩)
  have TR : Pc (qf_X13_isRow nn a h) (fun u => (u = 1 ∧ (x = 200 ∨ (100 ≤ x ∧ x < 116))) ∨ (u = 0 ∧ ¬ (x = 200 ∨ (100 ≤ x ∧ x < 116)))) := vr_row (.inl T) (by unfold TYj at T; omega)
  unfold TYj at T U
  unfold qf_X13_goes
  refine pc_if (fun z => pc_ret (.inl ⟨rfl, .inl (by omega)⟩)) (fun z0 => ?_)
  refine pc_if (fun z1 => ?_) (fun z1 => pc_ret (.inl ⟨rfl, .inr (.inl (by omega))⟩))
  refine pc_if (fun z => NO (by omega) (by omega) (by omega) (by omega) (by omega) (by omega)) (fun z2 => ?_)
  refine pc_if (fun z => NO (by omega) (by omega) (by omega) (by omega) (by omega) (by omega)) (fun z3 => ?_)
  refine pc_if (fun z => NO (by omega) (by omega) (by omega) (by omega) (by omega) (by omega)) (fun z4 => ?_)
  refine pc_if (fun z5 => ?_) (fun z5 => NO (by omega) (by omega) (by omega) (by omega) (by omega) (by omega))
  refine pc_if (fun z6 => ?_) (fun z6 => pc_ret (.inl ⟨rfl, .inr (.inr (.inl ⟨by omega, by omega, by omega⟩))⟩))
  have F53 : (¬ (y = 0 ∧ (x = 200 ∨ (100 ≤ x ∧ x < 116)))) → Pc (qj_X13_goes_53 nn a b h) (fun u => (u = 1 ∧ FTq Bf nf (h 160 98) x y) ∨ (u = 0 ∧ ¬ FTq Bf nf (h 160 98) x y)) := fun nz => by
    unfold qj_X13_goes_53
    refine pc_if (fun z => NO (by omega) (by omega) (by omega) (by omega) (by omega) (by omega)) (fun z7 => ?_)
    refine pc_if (fun z => NO (by omega) (by omega) (by omega) (by omega) (by omega) (by omega)) (fun z8 => ?_)
    refine pc_xl ?_; intro v1 e1
    rw [Int.tmod_eq_emod_of_nonneg (by omega)] at e1
    refine pc_xl ?_; intro v2 e2
    rw [Int.tmod_eq_emod_of_nonneg (by omega)] at e2
    refine pc_if (fun z9 => ?_) (fun z9 => NO (by omega) (by omega) (by omega) (by omega) (by omega) (by omega))
    refine pc_sub (by omega) ?_; intro v3 e3
    refine pc_xl ?_; intro v4 e4
    rw [Int.tdiv_eq_ediv_of_nonneg (by omega)] at e4
    refine pc_sub (by omega) ?_; intro v5 e5
    refine pc_xl ?_; intro v6 e6
    rw [Int.tdiv_eq_ediv_of_nonneg (by omega)] at e6
    refine pc_if (fun z => absurd z (by omega)) (fun z10 => ?_)
    refine pc_if (fun z => absurd z (by omega)) (fun z11 => ?_)
    by_cases c : x < 16
    · have hx := X.1 (by omega)
      rw [show v4 = x by omega, show v6 = y by omega]
      refine pc_sv (vr_under N S hx (by omega)) ?_; intro u8 q8
      refine pc_if (fun z => NO (by omega) (by omega) (by omega) (fun _ _ w => ?_) (by omega) (by omega)) (fun z => pc_ret (.inl ⟨rfl, .inr (.inr (.inr (.inl ⟨by omega, by omega, ?_⟩)))⟩))
      · rcases q8 with q | q
        · omega
        · exact q.2 w
      · rcases q8 with q | q
        · exact q.2
        · exact absurd q.1 z
    · have hx := X.2 (by omega)
      rw [show v4 = x - 100 by omega, show v6 = y - 100 by omega]
      refine pc_sv (vr_under N S hx (by omega)) ?_; intro u8 q8
      refine pc_if (fun z => NO (by omega) (by omega) (by omega) (by omega) (by omega) (fun _ _ w => ?_)) (fun z => pc_ret (.inl ⟨rfl, .inr (.inr (.inr (.inr (.inr ⟨by omega, by omega, ?_⟩))))⟩))
      · rcases q8 with q | q
        · omega
        · exact q.2 w
      · rcases q8 with q | q
        · exact q.2
        · exact absurd q.1 z
  refine pc_sv TR ?_; intro u15 q15
  refine pc_if (fun z => F53 (by omega)) (fun z => ?_)
  refine pc_if (fun z7 => F53 (by omega)) (fun z7 => pc_ret (.inl ⟨rfl, .inr (.inr (.inr (.inr (.inl ⟨by omega, by omega, by omega⟩))))⟩))
end

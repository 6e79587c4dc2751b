/- THE REFERENCE SCANS AN IMAGE: from the first byte to the last -/
section
variable {nn : Nat} {M M1 M2 g : ms_M} {c : Int} {B : Nat → Int} {n : Nat} {s : Nat ⊕ Nat}
/-- what is known behind the scan of the whole Image -/
def IMr (c : Int) (n : Nat) (B : Nat → Int) (M : ms_M) : Prop := TTr c n B M ∧ ∃ p q, kk_S B n = .inr p ∧ (by_S B n (pc_S B n) p = .inr (p + 1) ∧ by_S B n (pc_S B n) (p + 1) = .inr (p + 2) ∧ fs_S B n (p + 2) = .inr q ∧ mm_S B n q = .inr n) ∧ (M 230 c.toNat = B p ∧ M 231 c.toNat = B (p + 1)) ∧ (M 232 c.toNat = B (p + 2) ∧ FAt c (p + 3) (B (p + 2)) M) ∧ (M 234 c.toNat = B q ∧ ∀ i : Nat, (i : Int) < B q → ∃ x y h f, mq_S B n (q + 1) i = some x ∧ MPl B n x h f y ∧ M 235 (12 * c + i).toNat = (x : Int) ∧ M 236 (12 * c + i).toNat = (h : Int) ∧ M 237 (12 * c + i).toNat = (f : Int))
/-- what scan leaves -/
def RFs (c : Int) (n : Nat) (B : Nat → Int) : ms_M → Prop := fun r => RSs (rdi_S B n) r ∧ ∀ q, rdi_S B n = .inr q → IMr c n B r
theorem r_379l (h : ¬ M 160 114 = -1) {l3 : Int} : Pc (qj_X13_scan_379 nn l3 M) (fun r => r = M) := by
  unfold qj_X13_scan_379
  exact pc_if (fun _ => pc_ret rfl) (fun z => absurd h z)
theorem r_332l (h : ¬ M 160 114 = -1) {l1 l3 l4 : Int} {f : Nat} : Pc (qw_X13_scan_332 nn f l1 l3 l4 M) (fun r => r = M) := by
  cases f with
  | zero => exact pc_none
  | succ f =>
    unfold qw_X13_scan_332
    exact pc_if (fun _ => r_379l h) (fun z => absurd h z)
theorem r_243l (h : ¬ M 160 114 = -1) {l1 l3 : Int} : Pc (qj_X13_scan_243 nn l1 l3 M) (fun r => r = M) := by
  unfold qj_X13_scan_243
  refine pc_xl (fun _ _ => ?_)
  rw [r_isBl h, mx_svs]
  exact pc_if (fun z => absurd rfl z) (fun _ => pc_ret rfl)
theorem r_210l (h : ¬ M 160 114 = -1) {l1 l3 : Int} : Pc (qj_X13_scan_210 nn l1 l3 M) (fun r => r = M) := by
  unfold qj_X13_scan_210
  refine pc_xl (fun _ _ => ?_)
  rw [r_isBl h, mx_svs]
  exact pc_if (fun _ => r_243l h) (fun z => absurd rfl z)
theorem r_183l (h : ¬ M 160 114 = -1) {l1 l3 : Int} : Pc (qj_X13_scan_183 nn l1 l3 M) (fun r => r = M) := by
  unfold qj_X13_scan_183
  rw [r_isBl h, mx_svs]
  exact pc_if (fun _ => r_210l h) (fun z => absurd rfl z)
theorem r_146l (h : ¬ M 160 114 = -1) {l1 l2 l3 l4 : Int} {f : Nat} : Pc (qw_X13_scan_146 nn f l1 l2 l3 l4 M) (fun r => r = M) := by
  cases f with
  | zero => exact pc_none
  | succ f =>
    unfold qw_X13_scan_146
    exact pc_if (fun _ => r_183l h) (fun _ => pc_if (fun _ => r_183l h) (fun z => absurd h z))
theorem r_65sl (h : ¬ M 160 114 = -1) {l1 : Int} : Pc (qj_X13_scan_65 nn l1 M) (fun r => r = M) := by
  unfold qj_X13_scan_65
  rw [r_isBl h, mx_svs]
  exact pc_if (fun z => absurd rfl z) (fun _ => pc_ret rfl)
theorem r_41l (h : ¬ M 160 114 = -1) {l1 : Int} : Pc (qj_X13_scan_41 nn l1 M) (fun r => r = M) := by
  unfold qj_X13_scan_41
  rw [r_isBl h, mx_svs]
  exact pc_if (fun _ => r_65sl h) (fun z => absurd rfl z)
theorem rf_l {e : Nat} (R : RSs (.inl e) M) (h : rdi_S B n = .inl e) : RFs c n B M := ⟨by rw [h]; exact R, fun q z => by rw [h] at z; cases z⟩
/-- a method's places are kept by the scan of the others -/
def MAt (c : Int) (B : Nat → Int) (n p : Nat) (j : Int) (M : ms_M) : Prop := ∀ i : Nat, (i : Int) < j → ∃ x y h f, mq_S B n p i = some x ∧ MPl B n x h f y ∧ M 235 (12 * c + i).toNat = (x : Int) ∧ M 236 (12 * c + i).toNat = (h : Int) ∧ M 237 (12 * c + i).toNat = (f : Int)
theorem mt_eq {p : Nat} : mt_S B n p = bd_S (bd_S (bd_S (mh_S B n p) (co_S B n)) (hs_S B n)) (ff_S B n) := rfl
theorem mt_le {p q : Nat} (e : mt_S B n p = .inr q) : q ≤ n := by
  obtain ⟨h, f, P⟩ := mt_pl e
  exact ff_le P.2.2.2
theorem ms_le {p q : Nat} : ∀ m, p ≤ n → ms_S B n m p = .inr q → q ≤ n := by
  intro m
  induction m generalizing p with
  | zero => intro h e; unfold ms_S at e; cases e; exact h
  | succ m ih =>
    intro h e
    unfold ms_S at e
    obtain ⟨x, hx, e⟩ := bd_inr e
    exact ih (mt_le hx) e
/-- rows of methods from i on -/
theorem r_332 (hn : 1000000 ≤ nn) {p0 : Nat} {many : Int} (hm12 : many ≤ 12) : ∀ (m f : Nat) (i : Int) (p : Nat) (M : ms_M), (i + m = many ∧ 0 ≤ i) → p ≤ n → mq_S B n p0 i.toNat = some p → M 234 c.toNat = many → TTr c n B M → RSs (.inr p) M → MAt c B n p0 i M → Pc (qw_X13_scan_332 nn f c (p : Int) i M) (fun r => (∀ a j, ¬ (a = 160 ∧ j = 114) → ¬ (235 ≤ a ∧ a ≤ 237) → r a j = M a j) ∧ RSs (bd_S (ms_S B n m p) (fun q => if q < n then .inl q else .inr q)) r ∧ ∀ q, ms_S B n m p = .inr q → MAt c B n p0 many r) := by
  intro m
  induction m with
  | zero =>
    intro f i p M hm hp hq h4 T R A
    cases f with
    | zero => exact pc_none
    | succ f =>
      unfold qw_X13_scan_332
      refine pc_if (fun z => absurd R z) (fun _ => ?_)
      refine pc_rA ?_; intro i1 i2 v9 e9
      rw [h4] at e9
      refine pc_if (fun _ => ?_) (fun z => absurd (by omega) z)
      have A2 : MAt c B n p0 many M := by rw [show many = i by omega]; exact A
      unfold qj_X13_scan_379
      refine pc_if (fun z => absurd R z) (fun _ => ?_)
      rw [T.1.2.2.1]
      refine pc_if (fun z => pc_ret ⟨fun _ _ _ _ => rfl, ?_, fun q z => A2⟩) (fun z => ?_)
      · unfold ms_S
        rw [bd_r, if_neg (by omega)]; exact R
      · refine r_unx (s := .inr p) R (fun g Fg Rg => pc_ret ⟨fun a j q _ => Fg a j q, ?_, fun q y => ?_⟩)
        · unfold ms_S
          rw [bd_r, if_pos (by omega)]; exact Rg
        · intro k hk
          obtain ⟨x, y, h, f, y1, y2, y3, y4, y5⟩ := A2 k hk
          exact ⟨x, y, h, f, y1, y2, by rw [Fg _ _ (by omega)]; exact y3, by rw [Fg _ _ (by omega)]; exact y4, by rw [Fg _ _ (by omega)]; exact y5⟩
  | succ m ih =>
    intro f i p M hm hp hq h4 T R A
    have n6 := T.1.2.2.2.1
    have hc := T.1.2.1
    cases f with
    | zero => exact pc_none
    | succ f =>
      unfold qw_X13_scan_332
      refine pc_if (fun z => absurd R z) (fun _ => ?_)
      refine pc_rA ?_; intro i1 i2 v9 e9
      rw [h4] at e9
      refine pc_if (fun z => absurd z (by omega)) (fun _ => ?_)
      refine pc_xl ?_; intro v11 e11
      rw [oq_mul_eq (by omega) (by omega) (by omega)] at e11
      refine pc_add (by omega) ?_; intro v12 e12
      refine pc_wA ?_; intro j1 j2 h13 e13
      have F13 : ∀ a j, ¬ (a = 235 ∧ j = (12 * c + i).toNat) → h13 a j = M a j := fun a j q => by rw [e13, up_n (by omega)]
      have T13 : TTr c n B h13 := ttr_z (fun a j q w => F13 a j (by omega)) T
      have R13 : RSs (.inr p) h13 := rs_k (F13 _ _ (by omega)) R
      have h5 : h13 235 (12 * c + i).toNat = (p : Int) := by rw [e13, show v12.toNat = (12 * c + i).toNat by omega, up_s]
      refine pc_sv (r_method hn (l2 := i) (by omega) T13 hp R13) ?_; intro u15 q15
      obtain ⟨F15, R15, P15⟩ := q15
      have T15 := ttr_w F15 T13
      refine pc_add (by omega) ?_; intro v16 e16
      have em : ms_S B n (m + 1) p = bd_S (mt_S B n p) (ms_S B n m) := rfl
      have G15 : ∀ a j, ¬ (a = 160 ∧ j = 114) → ¬ (235 ≤ a ∧ a ≤ 237) → u15.2 a j = M a j := fun a j q w => (F15 a j q (by omega)).trans (F13 a j (by omega))
      rw [em]
      cases z : mt_S B n p with
      | inl e =>
        have R15 : RSs (.inl e) u15.2 := by rw [← z]; exact R15
        exact pc_imp (r_332l (rs_l R15)) (fun r q => ⟨fun a j q1 q2 => by rw [q]; exact G15 a j q1 q2, by rw [q]; exact R15, fun x y => by cases y⟩)
      | inr x =>
        have R15 : RSs (.inr x) u15.2 := by rw [← z]; exact R15
        obtain ⟨h, ff, P⟩ := mt_pl z
        obtain ⟨w1, w2, w3⟩ := P15 h ff x (by rw [P.1, bd_r]; exact P.2.1) P.2.2.1 P.2.2.2
        rw [w1, bd_r]
        have ej : v16.toNat = i.toNat + 1 := by omega
        have en : mq_S B n p0 (i.toNat + 1) = some x := by
          show (match mq_S B n p0 i.toNat with
            | some q => (match mt_S B n q with
              | .inr x => some x
              | .inl _ => none)
            | none => none) = some x
          rw [hq]; dsimp only; rw [z]
        refine pc_imp (ih f v16 x u15.2 (by omega) (mt_le z) (by rw [ej]; exact en) (by rw [G15 _ _ (by omega) (by omega)]; exact h4) T15 R15 ?_) (fun r q => ⟨fun a j q1 q2 => (q.1 a j q1 q2).trans (G15 a j q1 q2), q.2⟩)
        intro k hk
        by_cases qk : (k : Int) = i
        · refine ⟨p, x, h, ff, by rw [show k = i.toNat by omega]; exact hq, P, ?_, ?_, ?_⟩
          · rw [show (k : Int) = i from qk, F15 _ _ (by omega) (by omega)]; exact h5
          · rw [show (k : Int) = i from qk]; exact w2
          · rw [show (k : Int) = i from qk]; exact w3
        · obtain ⟨x1, y1, hh, f1, z1, z2, z3, z4, z5⟩ := A k (by omega)
          refine ⟨x1, y1, hh, f1, z1, z2, ?_, ?_, ?_⟩
          · rw [F15 _ _ (by omega) (by omega), F13 _ _ (by omega)]; exact z3
          · rw [F15 _ _ (by omega) (by omega), F13 _ _ (by omega)]; exact z4
          · rw [F15 _ _ (by omega) (by omega), F13 _ _ (by omega)]; exact z5
/-- behind the constants: the two classes, fields, methods -/
theorem r_243 (hn : 1000000 ≤ nn) {p : Nat} (T : TTr c n B M) (hp : p + 2 ≤ n) (R : RSs (.inr p) M) (zk : kk_S B n = .inr p) (y1 : by_S B n (pc_S B n) p = .inr (p + 1)) (y2 : by_S B n (pc_S B n) (p + 1) = .inr (p + 2)) : Pc (qj_X13_scan_243 nn c (p : Int) M) (RFs c n B) := by
  have n6 := T.1.2.2.2.1
  have hc := T.1.2.1
  have er : rdi_S B n = bd_S (bd_S (fs_S B n (p + 2)) (mm_S B n)) (fun q => if q < n then .inl q else .inr q) := by
    unfold rdi_S; rw [zk, bd_r, y1, bd_r, y2, bd_r]
  unfold qj_X13_scan_243
  refine pc_add (by omega) ?_; intro v24 e24
  rw [show v24 = ((p + 2 : Nat) : Int) by omega]
  rcases r_isB (nn := nn) T.1 (x := p + 2) with ⟨a, e⟩ | ⟨a, w, e⟩ | ⟨a, w, e⟩
  · exact absurd R a
  · rw [e, mx_svs]
    dsimp only
    refine pc_if (fun _ => ?_) (fun z => absurd (show (1 : Int) = 0 from Decidable.not_not.1 z) (by decide))
    refine pc_rA ?_; intro i1 i2 v29 e29
    have e29 : v29 = B p := by rw [e29]; exact T.1.2.2.2.2.1 _
    refine pc_wA ?_; intro j1 j2 h30 e30
    refine pc_add (by omega) ?_; intro v33 e33
    refine pc_rA ?_; intro k1 k2 v34 e34
    have e34 : v34 = B (p + 1) := by
      rw [e34, show v33.toNat = p + 1 by omega, e30, up_n (by omega)]; exact T.1.2.2.2.2.1 _
    refine pc_wA ?_; intro l1 l2 h35 e35
    have F35 : ∀ x j, ¬ (x = 230 ∧ j = c.toNat) → ¬ (x = 231 ∧ j = c.toNat) → h35 x j = M x j := fun x j q1 q2 => by
      rw [e35, up_n (by omega), e30, up_n (by omega)]
    have T35 : TTr c n B h35 := ttr_z (fun x j q w => F35 x j (by omega) (by omega)) T
    have R35 : RSs (.inr (p + 2)) h35 := rs_k (s := .inr (p + 2)) (F35 _ _ (by omega) (by omega)) R
    have h230 : h35 230 c.toNat = B p := by rw [e35, up_n (by omega), e30, up_s]; exact e29
    have h231 : h35 231 c.toNat = B (p + 1) := by rw [e35, up_s]; exact e34
    refine pc_add (by omega) ?_; intro v36 e36
    rw [show v36 = ((p + 2 : Nat) : Int) by omega]
    refine pc_sv (r_fields hn w T35 R35) ?_; intro u38 q38
    obtain ⟨F38, R38, P38⟩ := q38
    have T38 : TTr c n B u38.2 := ttr_z (fun x j q w => F38 x j q (by omega) (by omega)) T35
    cases z : fs_S B n (p + 2) with
    | inl e =>
      rw [z] at R38
      have er2 : rdi_S B n = .inl e := by rw [er, z]; rfl
      rw [r_isBl (rs_l R38), mx_svs]
      exact pc_if (fun y => absurd rfl y) (fun _ => pc_ret (rf_l R38 er2))
    | inr q =>
      rw [z] at R38
      obtain ⟨w1, w2, w3, w4⟩ := P38 q z
      rw [w1]
      rcases r_isB (nn := nn) T38.1 (x := q) with ⟨a3, e3⟩ | ⟨a3, w5, e3⟩ | ⟨a3, w5, e3⟩
      · exact absurd R38 a3
      · rw [e3, mx_svs]
        have hB := T.1.2.2.2.2.2.2 q w5
        refine pc_if (fun _ => ?_) (fun y => absurd (show (1 : Int) = 0 from Decidable.not_not.1 y) (by decide))
        refine pc_rA ?_; intro m1 m2 v42 e42
        have e42 : v42 = B q := by rw [e42]; exact T38.1.2.2.2.2.1 _
        refine pc_if (fun y => ?_) (fun y => ?_)
        · have e1 : by_S B n (up_T 0 12) q = .inr (q + 1) := by
            unfold by_S up_T
            rw [if_pos w5, if_pos (by rw [Bool.and_eq_true, decide_eq_true_iff, decide_eq_true_iff]; omega)]
          have em : mm_S B n q = ms_S B n (B q).toNat (q + 1) := by unfold mm_S; rw [e1]; rfl
          have er2 : rdi_S B n = bd_S (ms_S B n (B q).toNat (q + 1)) (fun q => if q < n then .inl q else .inr q) := by rw [er, z, bd_r, em]
          unfold qj_X13_scan_314
          refine pc_rA ?_; intro n1 n2 v21 e21
          have e21 : v21 = B q := by rw [e21]; exact T38.1.2.2.2.2.1 _
          refine pc_wA ?_; intro o1 o2 h22 e22
          have F22 : ∀ x j, ¬ (x = 234 ∧ j = c.toNat) → h22 x j = u38.2 x j := fun x j q1 => by rw [e22, up_n (by omega)]
          have T22 : TTr c n B h22 := ttr_z (fun x j q w => F22 x j (by omega)) T38
          have R22 : RSs (.inr (q + 1)) h22 := rs_k (s := .inr (q + 1)) (F22 _ _ (by omega)) R38
          have h234 : h22 234 c.toNat = B q := by rw [e22, up_s]; exact e21
          refine pc_add (by omega) ?_; intro v23 e23
          rw [show v23 = ((q + 1 : Nat) : Int) by omega]
          refine pc_imp (r_332 hn (p0 := q + 1) (many := B q) (by omega) (B q).toNat nn 0 (q + 1) h22 (by omega) (by omega) rfl h234 T22 R22 (fun i hi => by omega)) (fun r w => ⟨by rw [er2]; exact w.2.1, fun x hx => ?_⟩)
          rw [er2] at hx
          obtain ⟨x1, hx1, hx2⟩ := bd_inr hx
          have xn : x1 = n := by
            by_cases y : x1 < n
            · rw [if_pos y] at hx2; cases hx2
            · have b1 : x1 ≤ n := ms_le _ (by omega) hx1
              omega
          have N := w.1
          have TR : TTr c n B r := ttr_z (fun a j q1 q2 => N a j q1 (by omega)) T22
          refine ⟨TR, p, q, zk, ⟨y1, y2, z, by rw [em, hx1, xn]⟩, ⟨?_, ?_⟩, ⟨?_, ?_⟩, ?_, ?_⟩
          · rw [N _ _ (by omega) (by omega), F22 _ _ (by omega), F38 _ _ (by omega) (by omega) (by omega)]; exact h230
          · rw [N _ _ (by omega) (by omega), F22 _ _ (by omega), F38 _ _ (by omega) (by omega) (by omega)]; exact h231
          · rw [N _ _ (by omega) (by omega), F22 _ _ (by omega)]; exact w3
          · intro j q1 q2
            rw [N _ _ (by omega) (by omega), F22 _ _ (by omega)]; exact w4 j q1 q2
          · rw [N _ _ (by omega) (by omega)]; exact h234
          · exact w.2.2 x1 hx1
        · have no : ¬ up_T 0 12 (B q) = true := fun x => by have := up_Tt x; omega
          have e1 : by_S B n (up_T 0 12) q = .inl q := by unfold by_S; rw [if_pos w5, if_neg no]
          have em : mm_S B n q = .inl q := by unfold mm_S; rw [e1]; rfl
          have er2 : rdi_S B n = .inl q := by rw [er, z, bd_r, em]; rfl
          refine r_unx (s := .inr q) R38 (fun g Fg Rg => ?_)
          unfold qj_X13_scan_314
          refine pc_rA ?_; intro n1 n2 v21 e21
          refine pc_wA ?_; intro o1 o2 h22 e22
          refine pc_xl ?_; intro v23 e23
          have R22 : RSs (.inl q) h22 := rs_k (s := .inl q) (by rw [e22, up_n (by omega)]) Rg
          exact pc_imp (r_332l (rs_l R22)) (fun r w => by rw [w]; exact rf_l R22 er2)
      · rw [e3, mx_svs]
        have e1 : by_S B n (up_T 0 12) q = .inl n := by unfold by_S; rw [if_neg w5]
        have em : mm_S B n q = .inl n := by unfold mm_S; rw [e1]; rfl
        have er2 : rdi_S B n = .inl n := by rw [er, z, bd_r, em]; rfl
        exact pc_if (fun y => absurd rfl y) (fun _ => pc_ret (rf_l (e := n) (show up_M u38.2 160 114 (n : Int) 160 114 = (n : Int) from up_s) er2))
  · rw [e, mx_svs]
    dsimp only
    have ef : fs_S B n (p + 2) = .inl n := by unfold fs_S by_S; rw [if_neg w]; rfl
    have er2 : rdi_S B n = .inl n := by rw [er, ef]; rfl
    exact pc_if (fun y => absurd rfl y) (fun _ => pc_ret (rf_l up_s er2))
/-- constants were checked: every class has a text -/
theorem csa_S : ∀ (m : Nat) (k : Int), cks_S B n m k = none → ∀ j : Int, k ≤ j → j < k + m → ck_S B n j = none := by
  intro m
  induction m with
  | zero => intro k _ j h1 h2; omega
  | succ m ih =>
    intro k e j h1 h2
    unfold cks_S at e
    cases z : ck_S B n k with
    | some x => rw [z] at e; cases e
    | none =>
      rw [z] at e
      by_cases q : j = k
      · rw [q]; exact z
      · exact ih (k + 1) e j (by omega) (by omega)
theorem ck_cl {k : Int} (z : ck_S B n k = none) (t : tg_S B n k = 3) : tg_S B n (pt_S B n k 0) = 1 := by
  unfold ck_S at z
  rw [if_pos t] at z
  by_cases y : (nm_S B n (pt_S B n k 0) || (ar_S B n (pt_S B n k 0) && fk_S B n (pt_S B n k 0))) = true
  · rw [Bool.or_eq_true, Bool.and_eq_true] at y
    rcases y with y | y
    · unfold nm_S at y; rw [Bool.and_eq_true, decide_eq_true_iff] at y; exact y.1
    · have y := y.1; unfold ar_S at y; rw [Bool.and_eq_true, decide_eq_true_iff] at y; exact y.1
  · rw [if_neg y] at z; cases z
theorem r_210 (hn : 1000000 ≤ nn) {p : Nat} (T : TTr c n B M) (hp : p + 1 ≤ n) (hk : ∀ k : Int, tg_S B n k = 3 → tg_S B n (pt_S B n k 0) = 1) (R : RSs (.inr p) M) (zk : kk_S B n = .inr p) (y1 : by_S B n (pc_S B n) p = .inr (p + 1)) : Pc (qj_X13_scan_210 nn c (p : Int) M) (RFs c n B) := by
  have n6 := T.1.2.2.2.1
  have er : ∀ x, by_S B n (pc_S B n) (p + 1) = .inl x → rdi_S B n = .inl x := fun x hx => by
    unfold rdi_S; rw [zk, bd_r, y1, bd_r, hx]; rfl
  unfold qj_X13_scan_210
  refine pc_add (by omega) ?_; intro v48 e48
  rw [show v48 = ((p + 1 : Nat) : Int) by omega]
  rcases r_isB (nn := nn) T.1 (x := p + 1) with ⟨a, e⟩ | ⟨a, w, e⟩ | ⟨a, w, e⟩
  · exact absurd R a
  · rw [e, mx_svs]
    dsimp only
    refine pc_if (fun z => absurd z (by decide)) (fun _ => ?_)
    refine pc_add (by omega) ?_; intro v52 e52
    refine pc_rA ?_; intro i1 i2 v53 e53
    have e53 : v53 = B (p + 1) := by rw [e53, show v52.toNat = p + 1 by omega]; exact T.1.2.2.2.2.1 _
    refine pc_sv (r_class0 T (hk v53)) ?_; intro u55 q55
    rw [e53] at q55
    refine pc_if (fun y => ?_) (fun y => ?_)
    · have e2 : by_S B n (pc_S B n) (p + 1) = .inr (p + 2) := by unfold by_S; rw [if_pos w, if_pos (bi_t (by rw [← q55]; exact y))]
      exact r_243 hn T (by omega) R zk y1 e2
    · have no := bi_f (x := pc_S B n (B (p + 1))) (by rw [← q55]; exact Decidable.not_not.1 y)
      have e2 : by_S B n (pc_S B n) (p + 1) = .inl (p + 1) := by unfold by_S; rw [if_pos w, if_neg no]
      refine pc_add (by omega) ?_; intro v56 e56
      rw [show v56 = ((p + 1 : Nat) : Int) by omega]
      exact r_unx (s := .inr (p + 1)) R (fun g Fg Rg => pc_imp (r_243l (rs_l Rg)) (fun r q => by rw [q]; exact rf_l Rg (er _ e2)))
  · have e2 : by_S B n (pc_S B n) (p + 1) = .inl n := by unfold by_S; rw [if_neg w]
    rw [e, mx_svs]
    dsimp only
    refine pc_if (fun _ => ?_) (fun z => absurd rfl z)
    have Rg : RSs (.inl n) (up_M M 160 114 (n : Int)) := up_s
    exact pc_imp (r_243l (rs_l Rg)) (fun r q => by rw [q]; exact rf_l Rg (er _ e2))
theorem r_183 (hn : 1000000 ≤ nn) {p : Nat} (T : TTr c n B M) (hp : p ≤ n) (hk : ∀ k : Int, tg_S B n k = 3 → tg_S B n (pt_S B n k 0) = 1) (R : RSs (.inr p) M) (zk : kk_S B n = .inr p) : Pc (qj_X13_scan_183 nn c (p : Int) M) (RFs c n B) := by
  have n6 := T.1.2.2.2.1
  have er : ∀ x, by_S B n (pc_S B n) p = .inl x → rdi_S B n = .inl x := fun x hx => by
    unfold rdi_S; rw [zk, bd_r, hx]; rfl
  unfold qj_X13_scan_183
  rcases r_isB (nn := nn) T.1 (x := p) with ⟨a, e⟩ | ⟨a, w, e⟩ | ⟨a, w, e⟩
  · exact absurd R a
  · rw [e, mx_svs]
    dsimp only
    refine pc_if (fun z => absurd z (by decide)) (fun _ => ?_)
    refine pc_rA ?_; intro i1 i2 v64 e64
    have e64 : v64 = B p := by rw [e64]; exact T.1.2.2.2.2.1 _
    refine pc_sv (r_class0 T (hk v64)) ?_; intro u66 q66
    rw [e64] at q66
    refine pc_if (fun y => ?_) (fun y => ?_)
    · have e2 : by_S B n (pc_S B n) p = .inr (p + 1) := by unfold by_S; rw [if_pos w, if_pos (bi_t (by rw [← q66]; exact y))]
      exact r_210 hn T (by omega) hk R zk e2
    · have no := bi_f (x := pc_S B n (B p)) (by rw [← q66]; exact Decidable.not_not.1 y)
      have e2 : by_S B n (pc_S B n) p = .inl p := by unfold by_S; rw [if_pos w, if_neg no]
      exact r_unx (s := .inr p) R (fun g Fg Rg => pc_imp (r_210l (rs_l Rg)) (fun r q => by rw [q]; exact rf_l Rg (er _ e2)))
  · have e2 : by_S B n (pc_S B n) p = .inl n := by unfold by_S; rw [if_neg w]
    rw [e, mx_svs]
    dsimp only
    refine pc_if (fun _ => ?_) (fun z => absurd rfl z)
    have Rg : RSs (.inl n) (up_M M 160 114 (n : Int)) := up_s
    exact pc_imp (r_210l (rs_l Rg)) (fun r q => by rw [q]; exact rf_l Rg (er _ e2))
/-- the check of the constants from k on, then the rest -/
theorem r_146 (hn : 1000000 ≤ nn) {p : Nat} (hp : p ≤ n) (hks : bd_S (bd_S (bd_S (by_S B n (up_T 74 74) 0) (by_S B n (up_T 77 77))) (nx_S n)) (fun x => ks_S B n (B 2).toNat x) = .inr p) : ∀ (m f : Nat) (k : Int) (M : ms_M), (k + m = B 2 + 1 ∧ 1 ≤ k) → (∀ j : Int, 1 ≤ j → j < k → ck_S B n j = none) → cks_S B n (B 2).toNat 1 = cks_S B n m k → TTr c n B M → RSs (.inr p) M → Pc (qw_X13_scan_146 nn f c (B 2) (p : Int) k M) (RFs c n B) := by
  have kf : ∀ e, cks_S B n (B 2).toNat 1 = some e → rdi_S B n = .inl e := fun e h => by
    unfold rdi_S kk_S; rw [hks, bd_r, h]; rfl
  have kn : cks_S B n (B 2).toNat 1 = none → kk_S B n = .inr p := fun h => by
    unfold kk_S; rw [hks, bd_r, h]
  intro m
  induction m with
  | zero =>
    intro f k M hm hd hcs T R
    cases f with
    | zero => exact pc_none
    | succ f =>
      unfold qw_X13_scan_146
      refine pc_if (fun _ => ?_) (fun z => absurd (by omega) z)
      refine r_183 hn T hp (fun j hj => ?_) R (kn (by rw [hcs]; rfl))
      have w := tg_in (B := B) (n := n) (k := j) (by omega)
      exact ck_cl (hd j w.1 (by omega)) hj
  | succ m ih =>
    intro f k M hm hd hcs T R
    have n6 := T.1.2.2.2.1
    have hc := T.1.2.1
    have h2 := T.2.2.1
    cases f with
    | zero => exact pc_none
    | succ f =>
      unfold qw_X13_scan_146
      refine pc_if (fun z => absurd z (by omega)) (fun _ => pc_if (fun z => absurd R z) (fun _ => ?_))
      refine pc_xl ?_; intro v73 e73
      rw [oq_mul_eq (by omega) (by omega) (by omega)] at e73
      refine pc_add (by omega) ?_; intro v74 e74
      refine pc_rA ?_; intro i1 i2 v75 e75
      have e75 : v75 = (pl_S B n k : Int) := by
        rw [e75, show v74.toNat = (256 * c + k).toNat by omega]; exact T.2.2.2.1 k hm.2 (by omega)
      rw [e75]
      refine pc_sv (r_chk hn T ⟨hm.2, by omega⟩ R) ?_; intro u77 q77
      refine pc_add (by omega) ?_; intro v78 e78
      have q2 := q77.2
      cases z : ck_S B n k with
      | some e =>
        rw [z] at q2
        have : cks_S B n (B 2).toNat 1 = some e := by rw [hcs]; unfold cks_S; rw [z]
        exact pc_imp (r_146l (rs_l q2)) (fun r q => by rw [q]; exact rf_l q2 (kf e this))
      | none =>
        rw [z] at q2
        rw [e78]
        refine ih f (k + 1) u77 (by omega) (fun j j1 j2 => ?_) ?_ (ttr_k q77.1 T) q2
        · by_cases qj : j = k
          · rw [qj]; exact z
          · exact hd j j1 (by omega)
        · rw [hcs]; show (match ck_S B n k with
            | some e => some e
            | none => cks_S B n m (k + 1)) = _
          rw [z]
/-- tables as far as k - 1 -/
def TRp (c : Int) (n : Nat) (B : Nat → Int) (k : Int) (M : ms_M) : Prop := ERs c n B M ∧ (∀ j : Int, 1 ≤ j → j < k → M 228 (256 * c + j).toNat = (pl_S B n j : Int)) ∧ (∀ j : Int, 1 ≤ j → j < k → KVs B n j) ∧ M 229 c.toNat = k - 1
theorem r_86 (hn : 1000000 ≤ nn) (h2 : 2 < n) (hpre : bd_S (bd_S (by_S B n (up_T 74 74) 0) (by_S B n (up_T 77 77))) (nx_S n) = .inr 3) : ∀ (m f : Nat) (k : Int) (p : Nat) (M : ms_M), (k + m = B 2 + 1 ∧ 1 ≤ k) → p = pl_S B n k → p ≤ n → ks_S B n (B 2).toNat 3 = ks_S B n m p → TRp c n B k M → RSs (.inr p) M → Pc (qw_X13_scan_86 nn f c (B 2) (p : Int) k M) (RFs c n B) := by
  have kf : ∀ e, ks_S B n (B 2).toNat 3 = .inl e → rdi_S B n = .inl e := fun e h => by
    unfold rdi_S kk_S; rw [hpre, bd_r, h]; rfl
  intro m
  induction m with
  | zero =>
    intro f k p M hm ep hp hks T R
    obtain ⟨t1, t2, t3, t4⟩ := T
    have hB2 := t1.2.2.2.2.2.2 2 h2
    cases f with
    | zero => exact pc_none
    | succ f =>
      unfold qw_X13_scan_86
      refine pc_if (fun _ => ?_) (fun z => absurd (by omega) z)
      refine r_146 hn hp ?_ (B 2).toNat nn 1 M (by omega) (fun j j1 j2 => by omega) rfl ⟨t1, by rw [t4]; omega, hB2, fun j j1 j2 => t2 j j1 (by omega), fun j j1 j2 => t3 j j1 (by omega)⟩ R
      rw [hpre, bd_r, hks]; rfl
  | succ m ih =>
    intro f k p M hm ep hp hks T R
    obtain ⟨t1, t2, t3, t4⟩ := T
    have hB2 := t1.2.2.2.2.2.2 2 h2
    have n6 := t1.2.2.2.1
    have hc := t1.2.1
    cases f with
    | zero => exact pc_none
    | succ f =>
      have ek : ks_S B n (m + 1) p = bd_S (ct_S B n p) (ks_S B n m) := rfl
      unfold qw_X13_scan_86
      refine pc_if (fun z => absurd z (by omega)) (fun _ => pc_if (fun z => absurd R z) (fun _ => ?_))
      rcases r_isB (nn := nn) t1 (x := p) with ⟨a, e⟩ | ⟨a, w, e⟩ | ⟨a, w, e⟩
      · exact absurd R a
      · rw [e, mx_svs]
        dsimp only
        refine pc_if (fun _ => ?_) (fun z => absurd (show (1 : Int) = 0 from Decidable.not_not.1 z) (by decide))
        refine pc_xl ?_; intro v85 e85
        rw [oq_mul_eq (by omega) (by omega) (by omega)] at e85
        refine pc_add (by omega) ?_; intro v86 e86
        refine pc_wA ?_; intro i1 i2 h87 e87
        refine pc_wA ?_; intro j1 j2 h89 e89
        have F89 : ∀ x j, ¬ (x = 228 ∧ j = (256 * c + k).toNat) → ¬ (x = 229 ∧ j = c.toNat) → h89 x j = M x j := fun x j q1 q2 => by
          rw [e89, up_n (by omega), e87]; show up_M M 228 v86.toNat (p : Int) x j = _; rw [up_n (by omega)]
        have E89 : ERs c n B h89 := er_k (F89 _ _ (by omega) (by omega)) (F89 _ _ (by omega) (by omega)) (fun i => F89 _ _ (by omega) (by omega)) (F89 _ _ (by omega) (by omega)) t1
        have f89 : h89 160 114 = -1 := by rw [F89 _ _ (by omega) (by omega)]; exact R
        have sc := scanConstant_ok (nn := nn) (by omega) (er_sr E89) f89 t1.2.2.2.2.2.2 w
        rw [sc, mx_svs]
        refine pc_add (by omega) ?_; intro v92 e92
        have h228 : h89 228 (256 * c + k).toNat = (p : Int) := by
          rw [e89, up_n (by omega), e87]; show up_M M 228 v86.toNat (p : Int) 228 _ = _
          rw [show v86.toNat = (256 * c + k).toNat by omega, up_s]
        have h229 : h89 229 c.toNat = k := by rw [e89, up_s]
        cases z : ct_S B n p with
        | inl x =>
          have zc : (ct_N B n p).2 = some x := by
            unfold ct_S at z
            rw [if_pos w] at z
            cases y : (ct_N B n p).2 with
            | some f => rw [y] at z; cases z; rfl
            | none => rw [y] at z; cases z
          dsimp only
          rw [zc]
          have Rg : RSs (.inl x) (fm_M h89 (some x)) := up_s
          have er2 : rdi_S B n = .inl x := kf x (by rw [hks, ek, z]; rfl)
          cases f with
          | zero => exact pc_none
          | succ f =>
            unfold qw_X13_scan_86
            exact pc_if (fun _ => pc_imp (r_146l (rs_l Rg)) (fun r q => by rw [q]; exact rf_l Rg er2)) (fun _ => pc_if (fun _ => pc_imp (r_146l (rs_l Rg)) (fun r q => by rw [q]; exact rf_l Rg er2)) (fun y => absurd (rs_l Rg) y))
        | inr q =>
          have zc : (ct_N B n p).2 = none := by
            unfold ct_S at z
            rw [if_pos w] at z
            cases y : (ct_N B n p).2 with
            | some f => rw [y] at z; cases z
            | none => rfl
          have eq := ctl_S z
          have v := ct_v t1.2.2.2.2.2.2 z
          dsimp only
          rw [zc, ← eq, e92]
          show Pc (qw_X13_scan_86 nn f c (B 2) (q : Int) (k + 1) h89) _
          rw [ep] at z
          refine ih f (k + 1) q h89 (by omega) (pl_n hm.2 z) v.2.2.2.2 ?_ ⟨E89, fun j q1 q2 => ?_, fun j q1 q2 => ?_, by rw [h229]; omega⟩ (show RSs (.inr q) h89 from f89)
          · rw [hks, ek, ep, z, bd_r]
          · by_cases qj : j = k
            · rw [qj, h228, ep]
            · rw [F89 _ _ (by omega) (by omega)]; exact t2 j q1 (by omega)
          · by_cases qj : j = k
            · rw [qj]
              rw [ep] at v
              exact ⟨v.1, fun y => v.2.1 y, v.2.2.1, v.2.2.2.1⟩
            · exact t3 j q1 (by omega)
      · rw [e, mx_svs]
        dsimp only
        have z : ct_S B n p = .inl n := by unfold ct_S; rw [if_neg w]
        have er2 : rdi_S B n = .inl n := kf n (by rw [hks, ek, z]; rfl)
        exact pc_if (fun y => absurd rfl y) (fun _ => pc_ret (rf_l up_s er2))
/-- THE REFERENCE'S SCAN -/
theorem r_scan (hn : 1000000 ≤ nn) (hc : 0 ≤ c ∧ c ≤ 7) (hs : M 160 113 = (n : Int) ∧ n ≤ 6000) (h8 : ∀ i, M 238 i = B i) (h0 : 238 < cn_M M) (hB : ∀ i, i < n → 0 ≤ B i ∧ B i ≤ 255) : Pc (qf_X13_scan nn c M) (RFs c n B) := by
  unfold qf_X13_scan
  refine pc_xl ?_; intro h109 e109
  refine pc_xl ?_; intro h110 e110
  refine pc_wA ?_; intro i1 i2 h112 e112
  have F : ∀ x j, ¬ (x = 160 ∧ (j = 114 ∨ j = 115)) → ¬ (x = 229 ∧ j = c.toNat) → h112 x j = M x j := fun x j q1 q2 => by
    rw [e112, up_n (by omega), e110, up_n (by omega), e109, up_n (by omega)]
  have E : ERs c n B h112 := by
    refine ⟨?_, hc, ?_, hs.2, fun i => ?_, ?_, hB⟩
    · rw [e112, up_n (by omega), e110, up_n (by omega), e109, up_s]
    · rw [F _ _ (by omega) (by omega)]; exact hs.1
    · rw [F _ _ (by omega) (by omega)]; exact h8 i
    · unfold cn_M at *; rw [F _ _ (by omega) (by omega)]; exact h0
  have R : RSs (.inr 0) h112 := by
    show h112 160 114 = -1
    rw [e112, up_n (by omega), e110, up_s]
  have h229 : h112 229 c.toNat = 0 := by rw [e112, up_s]
  clear e112 e110 e109
  have e0 : ∀ x, by_S B n (up_T 74 74) 0 = .inl x → rdi_S B n = .inl x := fun x hx => by unfold rdi_S kk_S; rw [hx]; rfl
  rcases r_isB (nn := nn) E (x := 0) with ⟨a, e⟩ | ⟨a, w, e⟩ | ⟨a, w, e⟩
  · exact absurd R a
  · have e : qf_X13_isByte nn 0 h112 = some (1, h112) := e
    rw [e, mx_svs]
    dsimp only
    refine pc_if (fun z => absurd z (by decide)) (fun _ => ?_)
    refine pc_rA ?_; intro j1 j2 v116 e116
    have e116 : v116 = B 0 := by rw [e116]; exact E.2.2.2.2.1 _
    refine pc_if (fun y => ?_) (fun y => ?_)
    · have b0 : by_S B n (up_T 74 74) 0 = .inr 1 := by
        unfold by_S up_T
        rw [if_pos w, if_pos (by rw [Bool.and_eq_true, decide_eq_true_iff, decide_eq_true_iff]; omega)]
      have e1 : ∀ x, by_S B n (up_T 77 77) 1 = .inl x → rdi_S B n = .inl x := fun x hx => by unfold rdi_S kk_S; rw [b0, bd_r, hx]; rfl
      unfold qj_X13_scan_41
      rcases r_isB (nn := nn) E (x := 1) with ⟨a1, f1⟩ | ⟨a1, w1, f1⟩ | ⟨a1, w1, f1⟩
      · exact absurd R a1
      · have f1 : qf_X13_isByte nn 1 h112 = some (1, h112) := f1
        show Pc (mx_sv (qf_X13_isByte nn 1 h112) _) _
        rw [f1, mx_svs]
        try dsimp only
        refine pc_if (fun z => absurd z (by decide)) (fun _ => ?_)
        refine pc_rA ?_; intro k1 k2 v104 e104
        have e104 : v104 = B 1 := by rw [e104]; exact E.2.2.2.2.1 _
        refine pc_if (fun y1 => ?_) (fun y1 => ?_)
        · have b1 : by_S B n (up_T 77 77) 1 = .inr 2 := by
            unfold by_S up_T
            rw [if_pos w1, if_pos (by rw [Bool.and_eq_true, decide_eq_true_iff, decide_eq_true_iff]; omega)]
          unfold qj_X13_scan_65
          rcases r_isB (nn := nn) E (x := 2) with ⟨a2, f2⟩ | ⟨a2, w2, f2⟩ | ⟨a2, w2, f2⟩
          · exact absurd R a2
          · have f2 : qf_X13_isByte nn 2 h112 = some (1, h112) := f2
            show Pc (mx_sv (qf_X13_isByte nn 2 h112) _) _
            rw [f2, mx_svs]
            refine pc_if (fun _ => ?_) (fun z => absurd (show (1 : Int) = 0 from Decidable.not_not.1 z) (by decide))
            refine pc_rA ?_; intro l1 l2 v99 e99
            have e99 : v99 = B 2 := by rw [e99]; exact E.2.2.2.2.1 _
            have hB2 := hB 2 w2
            have b2 : bd_S (bd_S (by_S B n (up_T 74 74) 0) (by_S B n (up_T 77 77))) (nx_S n) = .inr 3 := by
              rw [b0, bd_r, b1, bd_r]; unfold nx_S; rw [if_pos w2]
            rw [e99]
            exact r_86 hn w2 b2 (B 2).toNat nn 1 3 h112 (by omega) rfl (by omega) rfl ⟨E, fun j q1 q2 => by omega, fun j q1 q2 => by omega, by rw [h229]; omega⟩ R
          · have f2 : qf_X13_isByte nn 2 h112 = some (0, up_M h112 160 114 (n : Int)) := f2
            show Pc (mx_sv (qf_X13_isByte nn 2 h112) _) _
            rw [f2, mx_svs]
            have er2 : rdi_S B n = .inl n := by
              unfold rdi_S kk_S; rw [b0, bd_r, b1, bd_r]; unfold nx_S; rw [if_neg w2]; rfl
            exact pc_if (fun z => absurd rfl z) (fun _ => pc_ret (rf_l (e := n) (show up_M h112 160 114 (n : Int) 160 114 = (n : Int) from up_s) er2))
        · have no : ¬ up_T 77 77 (B 1) = true := fun z => by have := up_Tt z; omega
          have b1 : by_S B n (up_T 77 77) 1 = .inl 1 := by unfold by_S; rw [if_pos w1, if_neg no]
          exact r_unx (x := 1) (s := .inr 1) (M := h112) R (fun g Fg Rg => pc_imp (r_65sl (rs_l Rg)) (fun r q => by rw [q]; exact rf_l Rg (e1 _ b1)))
      · have f1 : qf_X13_isByte nn 1 h112 = some (0, up_M h112 160 114 (n : Int)) := f1
        show Pc (mx_sv (qf_X13_isByte nn 1 h112) _) _
        rw [f1, mx_svs]
        have b1 : by_S B n (up_T 77 77) 1 = .inl n := by unfold by_S; rw [if_neg w1]
        refine pc_if (fun _ => ?_) (fun z => absurd rfl z)
        have Rg : RSs (.inl n) (up_M h112 160 114 (n : Int)) := up_s
        exact pc_imp (r_65sl (rs_l Rg)) (fun r q => by rw [q]; exact rf_l Rg (e1 _ b1))
    · have no : ¬ up_T 74 74 (B 0) = true := fun z => by have := up_Tt z; omega
      have b0 : by_S B n (up_T 74 74) 0 = .inl 0 := by unfold by_S; rw [if_pos w, if_neg no]
      exact r_unx (x := 0) (s := .inr 0) (M := h112) R (fun g Fg Rg => pc_imp (r_41l (rs_l Rg)) (fun r q => by rw [q]; exact rf_l Rg (e0 _ b0)))
  · have e : qf_X13_isByte nn 0 h112 = some (0, up_M h112 160 114 (n : Int)) := e
    rw [e, mx_svs]
    dsimp only
    have b0 : by_S B n (up_T 74 74) 0 = .inl n := by unfold by_S; rw [if_neg w]
    refine pc_if (fun _ => ?_) (fun z => absurd rfl z)
    have Rg : RSs (.inl n) (up_M h112 160 114 (n : Int)) := up_s
    exact pc_imp (r_41l (rs_l Rg)) (fun r q => by rw [q]; exact rf_l Rg (e0 _ b0))
end

/- RULES: which type fits which, both sides -/
def EXT (U : Nat → Int) (x d : Int) : Prop := ∃ i : Nat, ui_T U x i = d ∧ ∀ j : Nat, j ≤ i → 0 ≤ ui_T U x j
def FTS (U : Nat → Int) (a b : Int) : Prop := a = b ∨ (a = 300 ∧ 0 ≤ b ∧ b ≤ 200) ∨ ((0 ≤ a ∧ a < 16) ∧ (0 ≤ b ∧ b < 16) ∧ EXT U a b) ∨ (b = 0 ∧ 100 ≤ a ∧ a ≤ 200) ∨ ((100 ≤ a ∧ a < 116) ∧ (100 ≤ b ∧ b < 116) ∧ EXT U (a - 100) (b - 100))
/-- a type whose class is there -/
def VTn (n : Nat) (t : Int) : Prop := t = 301 ∨ t = 302 ∨ t = 303 ∨ t = 300 ∨ t = 200 ∨ (0 ≤ t ∧ t < 8 + (n : Int)) ∨ (100 ≤ t ∧ t < 108 + (n : Int))
section
variable {nn : Nat} {K P V U : Nat → Int} {C : Nat → Nat} {c n N mt : Nat} {q : Int} {h g r w u v h0 r0 : ms_M}
theorem vtn_v (n8 : n ≤ 8) {t : Int} (H : VTn n t) : VTy t := by
  rcases H with e | e | e | e | e | e | e
  · exact .inl e
  · exact .inr (.inl e)
  · exact .inr (.inr (.inl e))
  · exact .inr (.inr (.inr (.inl e)))
  · exact .inr (.inr (.inr (.inr (.inl e))))
  · exact .inr (.inr (.inr (.inr (.inr (.inl (by omega))))))
  · exact .inr (.inr (.inr (.inr (.inr (.inr (by omega))))))
theorem ch_s {f : Nat → Int} : ∀ (m : Nat) (a : Int), ch_N f (m + 1) a = (if 0 ≤ ch_N f m a ∧ ch_N f m a < 16 then f (ch_N f m a).toNat else ch_N f m a) := by
  intro m
  induction m with
  | zero => intro a; rfl
  | succ m ih =>
    intro a
    show ch_N f (m + 1) (if 0 ≤ a ∧ a < 16 then f a.toNat else a) = _
    rw [ih]
    rfl
theorem ch_ui (n8 : n ≤ 8) (B : ∀ k : Nat, k < n → -1 ≤ U k ∧ U k < 8 + (n : Int)) {f : Nat → Int} (E : ∀ x : Int, 0 ≤ x → x < 8 + (n : Int) → f x.toNat = uq_T U x) {x : Int} (hx : 0 ≤ x ∧ x < 8 + (n : Int)) : ∀ m : Nat, ((∀ j : Nat, j ≤ m → 0 ≤ ui_T U x j ∧ ui_T U x j < 8 + (n : Int)) ∧ ch_N f m x = ui_T U x m) ∨ ch_N f m x = -1 := by
  intro m
  induction m with
  | zero =>
    refine .inl ⟨fun j hj => ?_, rfl⟩
    rw [show j = 0 by omega]; exact hx
  | succ m ih =>
    rw [ch_s]
    rcases ih with ⟨A, e⟩ | e
    · have a := A m (by omega)
      rw [e, if_pos (by omega), E _ a.1 a.2]
      have b : -1 ≤ uq_T U (ui_T U x m) ∧ uq_T U (ui_T U x m) < 8 + (n : Int) := by
        unfold uq_T
        by_cases q0 : ui_T U x m = 0
        · rw [if_pos q0]; omega
        · rw [if_neg q0]
          by_cases q1 : ui_T U x m = 1
          · rw [if_pos q1]; omega
          · rw [if_neg q1]
            by_cases q8 : 8 ≤ ui_T U x m
            · rw [if_pos q8]; exact B _ (by omega)
            · rw [if_neg q8]; omega
      by_cases z : uq_T U (ui_T U x m) = -1
      · exact .inr z
      · refine .inl ⟨fun j hj => ?_, rfl⟩
        by_cases jm : j = m + 1
        · rw [jm]
          show 0 ≤ uq_T U (ui_T U x m) ∧ uq_T U (ui_T U x m) < 8 + (n : Int)
          omega
        · exact A j (by omega)
    · rw [e, if_neg (by omega)]; exact .inr rfl
/-- a way up without a class that is not there is short -/
theorem ext_12 (n8 : n ≤ 8) (OK : OKc V C U n n) {x : Int} (hx : 0 ≤ x ∧ x < 8 + (n : Int)) {i : Nat} (A : ∀ j : Nat, j ≤ i → 0 ≤ ui_T U x j) : i ≤ 12 := by
  have Z : ∃ e : Nat, e ≤ n + 1 ∧ ui_T U x e < 8 := by
    by_cases x8 : x < 8
    · exact ⟨0, by omega, x8⟩
    · obtain ⟨e, e1, e2⟩ := (OK (x - 8).toNat (by omega)).2.2
      rw [show 8 + (((x - 8).toNat : Nat) : Int) = x by omega] at e2
      exact ⟨e, e1, e2⟩
  obtain ⟨e, e1, e2⟩ := Z
  exact Classical.byContradiction fun z => by
    obtain ⟨j, j1, j2⟩ := ui_3 e2 (by have := A e (by omega); omega)
    have := A j (by omega)
    omega
theorem kn_uq (S : CKd K V C n N) (n8 : n ≤ 8) (KN : KNc U n h) : ∀ x : Int, 0 ≤ x → x < 8 + (n : Int) → h 13 x.toNat = uq_T U x := by
  intro x h0 h1
  rw [KN.1 x.toNat (by omega)]
  unfold uq_T bi_A
  by_cases x8 : x < 8
  · rw [if_pos (by omega)]
    by_cases x0 : x = 0
    · rw [if_pos x0, if_neg (by omega), if_neg (by omega)]
    · rw [if_neg x0]
      by_cases x1 : x = 1
      · rw [if_pos x1, if_pos (by omega)]
      · rw [if_neg x1, if_neg (by omega), if_pos (by omega), if_neg (by omega)]
  · rw [if_neg (by omega), if_pos (by omega), if_neg (by omega), if_neg (by omega), if_pos (by omega), show (x - 8).toNat = x.toNat - 8 by omega]
theorem re_ext (S : CKd K V C n N) (n8 : n ≤ 8) (B : ∀ k : Nat, k < n → -1 ≤ U k ∧ U k < 8 + (n : Int)) (OK : OKc V C U n n) (KN : KNc U n h) {x d : Int} (hx : 0 ≤ x ∧ x < 8 + (n : Int)) (hd : 0 ≤ d) : re_N (h 13) 16 x d ↔ EXT U x d := by
  have E := kn_uq S n8 KN
  constructor
  · intro z
    obtain ⟨m, m1, m2⟩ := z
    rcases ch_ui n8 B E hx m with ⟨A, e⟩ | e
    · exact ⟨m, by rw [← e]; exact m2, fun j hj => (A j hj).1⟩
    · omega
  · intro z
    obtain ⟨i, e, A⟩ := z
    have i12 := ext_12 n8 OK hx A
    refine ⟨i, by omega, ?_⟩
    rcases ch_ui n8 B E hx i with ⟨A2, e2⟩ | e2
    · rw [e2]; exact e
    · exfalso
      -- all below i are there, so it has not left
      have L : ∀ m : Nat, m ≤ i → ch_N (h 13) m x = ui_T U x m := by
        intro m
        induction m with
        | zero => intro _; rfl
        | succ m ih =>
          intro hm
          have a := A m (by omega)
          have b : ui_T U x m < 8 + (n : Int) := by
            rcases ch_ui n8 B E hx m with ⟨A3, _⟩ | e3
            · exact (A3 m (by omega)).2
            · rw [ih (by omega)] at e3; omega
          rw [ch_s, ih (by omega), if_pos (by omega), E _ a b]
          rfl
      have a := A i (by omega)
      rw [L i (by omega)] at e2
      omega
/-- the class's table -/
theorem c_und (S : CKd K V C n N) (n8 : n ≤ 8) (B : ∀ k : Nat, k < n → -1 ≤ U k ∧ U k < 8 + (n : Int)) (OK : OKc V C U n n) (KN : KNc U n h) {x d y : Int} (hx : 0 ≤ x ∧ x < 8 + (n : Int)) (hd : 0 ≤ d ∧ d < 8 + (n : Int)) (hy : y = 16 * x + d) : Pc (rd_A 256 (12 + 2) y h fun v6 => if v6 = 0 then (some (0 : Int)) else (some 1)) (fun u => (u = 1 ∧ EXT U x d) ∨ (u = 0 ∧ ¬ EXT U x d)) := by
  have R := re_ext S n8 B OK KN hx hd.1
  have T := KN.2 x.toNat d.toNat (by omega) (by omega)
  rw [show ((x.toNat : Nat) : Int) = x by omega, show ((d.toNat : Nat) : Int) = d by omega] at T
  refine pc_rA ?_; intro _ _ v6 e6
  rw [show y.toNat = 16 * x.toNat + d.toNat by omega] at e6
  by_cases z : EXT U x d
  · have e1 := T.1 (R.mpr z)
    refine pc_if (fun y => by omega) (fun _ => pc_ret (.inl ⟨rfl, z⟩))
  · have e0 := T.2 (fun y => z (R.mp y))
    refine pc_if (fun _ => pc_ret (.inr ⟨rfl, z⟩)) (fun y => by omega)
theorem c_fits (S : CKd K V C n N) (n8 : n ≤ 8) (B : ∀ k : Nat, k < n → -1 ≤ U k ∧ U k < 8 + (n : Int)) (OK : OKc V C U n n) (KN : KNc U n h) {a b : Int} (va : VTn n a) (vb : VTn n b) : Pc (qf_X4_fits nn 12 a b h) (fun u => (u = 1 ∧ FTS U a b) ∨ (u = 0 ∧ ¬ FTS U a b)) := by
  unfold VTn at va vb
  unfold qf_X4_fits
  refine pc_if (fun z => ?_) (fun z => ?_)
  · refine pc_if (fun z3 => ?_) (fun z3 => ?_)
    · refine pc_if (fun y => absurd y (by omega)) (fun _ => ?_)
      refine pc_if (fun y => ?_) (fun y => ?_)
      · unfold qj_X4_fits_71
        have N122 : ¬ FTS U a b → Pc (qj_X4_fits_122 nn 12 a b h) (fun u => (u = 1 ∧ FTS U a b) ∨ (u = 0 ∧ ¬ FTS U a b)) := fun nf => by
          unfold qj_X4_fits_122 qj_X4_fits_123
          exact pc_if (fun _ => pc_ret (.inr ⟨rfl, nf⟩)) (fun y => absurd rfl y)
        refine pc_if (fun b0 => ?_) (fun b0 => ?_)
        · refine pc_if (fun y1 => N122 (fun f => ?_)) (fun y1 => ?_)
          · rcases f with f | f | f | f | f <;> omega
          · refine pc_if (fun y2 => N122 (fun f => ?_)) (fun y2 => ?_)
            · rcases f with f | f | f | f | f <;> omega
            · refine pc_if (fun y3 => N122 (fun f => ?_)) (fun y3 => ?_)
              · rcases f with f | f | f | f | f <;> omega
              · refine pc_if (fun y4 => N122 (fun f => ?_)) (fun y4 => ?_)
                · rcases f with f | f | f | f | f <;> omega
                · unfold qj_X4_fits_123
                  refine pc_if (fun y5 => absurd y5 (by decide)) (fun _ => ?_)
                  refine pc_sub (by omega) ?_; intro v2 e2
                  refine pc_xl ?_; intro v3 e3
                  rw [oq_mul_eq (by omega) (by omega) (by omega)] at e3
                  refine pc_add (by omega) ?_; intro v4 e4
                  refine pc_sub (by omega) ?_; intro v5 e5
                  refine pc_imp (c_und S n8 B OK KN (x := a - 100) (d := b - 100) (by omega) (by omega) (by omega)) (fun u x => ?_)
                  rcases x with ⟨x1, x2⟩ | ⟨x1, x2⟩
                  · exact .inl ⟨x1, .inr (.inr (.inr (.inr ⟨by omega, by omega, x2⟩)))⟩
                  · refine .inr ⟨x1, fun f => ?_⟩
                    rcases f with f | f | f | f | f
                    · omega
                    · omega
                    · omega
                    · omega
                    · exact x2 f.2.2
        · have b1 : b = 0 := Classical.byContradiction b0
          refine pc_if (fun y1 => pc_ret (.inr ⟨rfl, fun f => ?_⟩)) (fun y1 => ?_)
          · rcases f with f | f | f | f | f <;> omega
          · refine pc_if (fun y2 => pc_ret (.inr ⟨rfl, fun f => ?_⟩)) (fun y2 => ?_)
            · rcases f with f | f | f | f | f <;> omega
            · exact pc_ret (.inl ⟨rfl, .inr (.inr (.inr (.inl ⟨b1, by omega, by omega⟩)))⟩)
      · refine pc_if (fun y1 => absurd y1 (by omega)) (fun _ => ?_)
        refine pc_if (fun y2 => pc_ret (.inr ⟨rfl, fun f => ?_⟩)) (fun y2 => ?_)
        · rcases f with f | f | f | f | f <;> omega
        · refine pc_xl ?_; intro v17 e17
          rw [oq_mul_eq (by omega) (by omega) (by omega)] at e17
          refine pc_add (by omega) ?_; intro v18 e18
          refine pc_imp (c_und S n8 B OK KN (x := a) (d := b) (by omega) (by omega) (by omega)) (fun u x => ?_)
          rcases x with ⟨x1, x2⟩ | ⟨x1, x2⟩
          · exact .inl ⟨x1, .inr (.inr (.inl ⟨by omega, by omega, x2⟩))⟩
          · refine .inr ⟨x1, fun f => ?_⟩
            rcases f with f | f | f | f | f
            · omega
            · omega
            · exact x2 f.2.2
            · omega
            · omega
    · have a3 : a = 300 := Classical.byContradiction z3
      refine pc_if (fun y => absurd y (by omega)) (fun _ => ?_)
      refine pc_if (fun y => pc_ret (.inr ⟨rfl, fun f => ?_⟩)) (fun y => ?_)
      · rcases f with f | f | f | f | f <;> omega
      · exact pc_ret (.inl ⟨rfl, .inr (.inl ⟨a3, by omega, by omega⟩)⟩)
  · exact pc_ret (.inl ⟨rfl, .inl (Classical.byContradiction z)⟩)
theorem c_one (S : CKd K V C n N) (n8 : n ≤ 8) (B : ∀ k : Nat, k < n → -1 ≤ U k ∧ U k < 8 + (n : Int)) (OK : OKc V C U n n) (KN : KNc U n h) {a b : Int} (va : VTn n a) (vb : VTn n b) : Pc (qf_X4_oneFits nn a b h) (fun u => (u = 1 ∧ (FTS U a b ∨ FTS U b a)) ∨ (u = 0 ∧ ¬ (FTS U a b ∨ FTS U b a))) := by
  unfold qf_X4_oneFits
  refine pc_sv (c_fits S n8 B OK KN va vb) ?_; intro u2 q2
  refine pc_if (fun z => ?_) (fun z => ?_)
  · refine pc_ret (.inl ⟨rfl, .inl ?_⟩)
    rcases q2 with ⟨x, y⟩ | ⟨x, y⟩
    · exact y
    · exact absurd x z
  · have nf : ¬ FTS U a b := by
      rcases q2 with ⟨x, y⟩ | ⟨x, y⟩
      · omega
      · exact y
    refine pc_sv (c_fits S n8 B OK KN vb va) ?_; intro u4 q4
    refine pc_if (fun z4 => ?_) (fun z4 => ?_)
    · refine pc_ret (.inr ⟨rfl, fun f => ?_⟩)
      rcases q4 with ⟨x, y⟩ | ⟨x, y⟩
      · omega
      · rcases f with f | f
        · exact nf f
        · exact y f
    · refine pc_ret (.inl ⟨rfl, .inr ?_⟩)
      rcases q4 with ⟨x, y⟩ | ⟨x, y⟩
      · exact y
      · exact absurd x z4
/- the reference -/
theorem r_ext2 {x d : Int} (B : ∀ k : Nat, k < n → -1 ≤ r 180 k ∧ r 180 k < 8 + (n : Int)) (n8 : n ≤ 8) (hx : 0 ≤ x ∧ x < 8 + (n : Int)) (hd : 0 ≤ d) : ∀ (f i : Nat), (∀ j : Nat, j < i → 0 ≤ ui_T (r 180) x j ∧ ui_T (r 180) x j < 8 + (n : Int)) → (∀ j : Nat, j < i → ¬ ui_T (r 180) x j = d) → (-1 ≤ ui_T (r 180) x i ∧ ui_T (r 180) x i < 8 + (n : Int)) → Pc (qw_X13_extendsIt_2 nn f d (ui_T (r 180) x i) r) (fun u => (u = 1 ∧ EXT (r 180) x d) ∨ (u = 0 ∧ ¬ EXT (r 180) x d)) := by
  intro f
  induction f with
  | zero => intros; exact pc_none
  | succ f ih =>
    intro i A A2 b
    unfold qw_X13_extendsIt_2
    refine pc_if (fun z => ?_) (fun z => ?_)
    · unfold qj_X13_extendsIt_21
      refine pc_if (fun _ => pc_ret (.inr ⟨rfl, fun E => ?_⟩)) (fun y => absurd (fun y2 => by omega) y)
      obtain ⟨m, m1, m2⟩ := E
      by_cases mi : m < i
      · exact A2 m mi m1
      · have := m2 i (by omega); omega
    · refine pc_if (fun y => ?_) (fun y => ?_)
      · unfold qj_X13_extendsIt_21
        refine pc_if (fun y2 => absurd y y2) (fun _ => pc_ret (.inl ⟨rfl, i, y, fun j hj => ?_⟩))
        by_cases ji : j = i
        · rw [ji]; omega
        · exact (A j (by omega)).1
      · refine pc_sv (r_up (by omega)) ?_; intro u3 q3
        rw [show u3 = ui_T (r 180) x (i + 1) from q3]
        refine ih (i + 1) (fun j hj => ?_) (fun j hj => ?_) ?_
        · by_cases ji : j = i
          · rw [ji]; omega
          · exact A j (by omega)
        · by_cases ji : j = i
          · rw [ji]; exact y
          · exact A2 j (by omega)
        · show -1 ≤ uq_T (r 180) (ui_T (r 180) x i) ∧ uq_T (r 180) (ui_T (r 180) x i) < 8 + (n : Int)
          unfold uq_T
          by_cases q0 : ui_T (r 180) x i = 0
          · rw [if_pos q0]; omega
          · rw [if_neg q0]
            by_cases q1 : ui_T (r 180) x i = 1
            · rw [if_pos q1]; omega
            · rw [if_neg q1]
              by_cases q8 : 8 ≤ ui_T (r 180) x i
              · rw [if_pos q8]; exact B _ (by omega)
              · rw [if_neg q8]; omega
theorem r_fits (n8 : n ≤ 8) (B : ∀ k : Nat, k < n → -1 ≤ r 180 k ∧ r 180 k < 8 + (n : Int)) {a b : Int} (va : VTn n a) (vb : VTn n b) : Pc (qf_X13_fits nn (ty_T a) (ty_T b) r) (fun u => (u = 1 ∧ FTS (r 180) a b) ∨ (u = 0 ∧ ¬ FTS (r 180) a b)) := by
  have ta := ty_c (vtn_v n8 va)
  have tb := ty_c (vtn_v n8 vb)
  unfold VTn at va vb
  generalize ty_T a = x at ta ⊢
  generalize ty_T b = y at tb ⊢
  have F44 : (¬ x = y) → (¬ x = 2) → ¬ ((x = 4 ∨ (8 ≤ x ∧ x % 2 = 1)) ∧ y = 8) → Pc (qj_X13_fits_44 nn x y r) (fun u => (u = 1 ∧ FTS (r 180) a b) ∨ (u = 0 ∧ ¬ FTS (r 180) a b)) := fun n1 n2 n3 => by
    unfold qj_X13_fits_44
    refine pc_if (fun z => pc_ret (.inr ⟨rfl, fun f => ?_⟩)) (fun z => ?_)
    · rcases f with f | f | f | f | f <;> omega
    · refine pc_if (fun z2 => pc_ret (.inr ⟨rfl, fun f => ?_⟩)) (fun z2 => ?_)
      · rcases f with f | f | f | f | f <;> omega
      · refine pc_mod (by omega) ?_; intro v1 e1
        refine pc_mod (by omega) ?_; intro v2 e2
        refine pc_if (fun z3 => pc_ret (.inr ⟨rfl, fun f => ?_⟩)) (fun z3 => ?_)
        · rcases f with f | f | f | f | f <;> omega
        · refine pc_sub (by omega) ?_; intro v3 e3
          refine pc_div (by omega) ?_; intro v4 e4
          refine pc_sub (by omega) ?_; intro v5 e5
          refine pc_div (by omega) ?_; intro v6 e6
          have E := r_ext2 (nn := nn) (x := v4) (d := v6) B n8 (by omega) (by omega) nn 0 (fun j hj => absurd hj (by omega)) (fun j hj => absurd hj (by omega)) (by show -1 ≤ v4 ∧ v4 < 8 + (n : Int); omega)
          unfold qf_X13_extendsIt
          refine pc_sv E ?_; intro u8 q8
          by_cases ar : 100 ≤ a
          · have d4 : v4 = a - 100 := by omega
            have d6 : v6 = b - 100 := by omega
            rw [d4, d6] at q8
            refine pc_if (fun z8 => ?_) (fun z8 => ?_)
            · refine pc_ret (.inr ⟨rfl, fun f => ?_⟩)
              rcases f with f | f | f | f | f
              · omega
              · omega
              · omega
              · omega
              · rcases q8 with ⟨w1, w2⟩ | ⟨w1, w2⟩
                · omega
                · exact w2 f.2.2
            · refine pc_ret (.inl ⟨rfl, .inr (.inr (.inr (.inr ⟨by omega, by omega, ?_⟩)))⟩)
              rcases q8 with ⟨w1, w2⟩ | ⟨w1, w2⟩
              · exact w2
              · exact absurd w1 z8
          · have d4 : v4 = a := by omega
            have d6 : v6 = b := by omega
            rw [d4, d6] at q8
            refine pc_if (fun z8 => ?_) (fun z8 => ?_)
            · refine pc_ret (.inr ⟨rfl, fun f => ?_⟩)
              rcases f with f | f | f | f | f
              · omega
              · omega
              · rcases q8 with ⟨w1, w2⟩ | ⟨w1, w2⟩
                · omega
                · exact w2 f.2.2
              · omega
              · omega
            · refine pc_ret (.inl ⟨rfl, .inr (.inr (.inl ⟨by omega, by omega, ?_⟩))⟩)
              rcases q8 with ⟨w1, w2⟩ | ⟨w1, w2⟩
              · exact w2
              · exact absurd w1 z8
  unfold qf_X13_fits
  refine pc_if (fun z => ?_) (fun z => ?_)
  · refine pc_if (fun z2 => ?_) (fun z2 => ?_)
    · refine pc_sv (P := fun u => (u = 1 ∧ (x = 4 ∨ (8 ≤ x ∧ x % 2 = 1))) ∨ (u = 0 ∧ ¬ (x = 4 ∨ (8 ≤ x ∧ x % 2 = 1)))) ?_ ?_
      · unfold qf_X13_isArray
        refine pc_if (fun w => pc_ret (.inl ⟨rfl, .inl w⟩)) (fun w => ?_)
        refine pc_if (fun w2 => pc_ret (.inr ⟨rfl, by omega⟩)) (fun w2 => ?_)
        refine pc_mod (by omega) ?_; intro v1 e1
        exact pc_if (fun w3 => pc_ret (.inr ⟨rfl, by omega⟩)) (fun w3 => pc_ret (.inl ⟨rfl, by omega⟩))
      · intro u13 q13
        refine pc_if (fun w => F44 z z2 (by omega)) (fun w => ?_)
        refine pc_if (fun w2 => F44 z z2 (by omega)) (fun w2 => ?_)
        exact pc_ret (.inl ⟨rfl, .inr (.inr (.inr (.inl ⟨by omega, by omega, by omega⟩)))⟩)
    · have x2 : x = 2 := Classical.byContradiction z2
      refine pc_if (fun w => pc_ret (.inl ⟨rfl, .inr (.inl ⟨by omega, by omega, by omega⟩)⟩)) (fun w => ?_)
      refine pc_if (fun w2 => pc_ret (.inr ⟨rfl, fun f => ?_⟩)) (fun w2 => ?_)
      · rcases f with f | f | f | f | f <;> omega
      · exact pc_ret (.inl ⟨rfl, .inr (.inl ⟨by omega, by omega, by omega⟩)⟩)
  · exact pc_ret (.inl ⟨rfl, .inl (by omega)⟩)
theorem r_go (n8 : n ≤ 8) (B : ∀ k : Nat, k < n → -1 ≤ r 180 k ∧ r 180 k < 8 + (n : Int)) {a b : Int} (va : VTn n a) (vb : VTn n b) : Pc (qf_X13_goTogether nn (ty_T a) (ty_T b) r) (fun u => (u = 1 ∧ (((ty_T a < 2 ∨ ty_T b < 2) ∧ a = b) ∨ (¬ (ty_T a < 2 ∨ ty_T b < 2) ∧ (FTS (r 180) a b ∨ FTS (r 180) b a)))) ∨ (u = 0 ∧ ¬ (((ty_T a < 2 ∨ ty_T b < 2) ∧ a = b) ∨ (¬ (ty_T a < 2 ∨ ty_T b < 2) ∧ (FTS (r 180) a b ∨ FTS (r 180) b a))))) := by
  have ti := ty_i (vtn_v n8 va) (vtn_v n8 vb)
  have T10 : (ty_T a < 2 ∨ ty_T b < 2) → Pc (qj_X13_goTogether_10 nn (ty_T a) (ty_T b) r) (fun u => (u = 1 ∧ (((ty_T a < 2 ∨ ty_T b < 2) ∧ a = b) ∨ (¬ (ty_T a < 2 ∨ ty_T b < 2) ∧ (FTS (r 180) a b ∨ FTS (r 180) b a)))) ∨ (u = 0 ∧ ¬ (((ty_T a < 2 ∨ ty_T b < 2) ∧ a = b) ∨ (¬ (ty_T a < 2 ∨ ty_T b < 2) ∧ (FTS (r 180) a b ∨ FTS (r 180) b a))))) := fun lt => by
    unfold qj_X13_goTogether_10
    refine pc_if (fun z => pc_ret (.inr ⟨rfl, fun f => ?_⟩)) (fun z => pc_ret (.inl ⟨rfl, .inl ⟨lt, ti.mp (Classical.byContradiction z)⟩⟩))
    rcases f with ⟨_, f⟩ | ⟨f, _⟩
    · exact z (ti.mpr f)
    · exact f lt
  unfold qf_X13_goTogether
  refine pc_if (fun z => T10 (.inl z)) (fun z => ?_)
  refine pc_if (fun z2 => ?_) (fun z2 => T10 (.inr (by omega)))
  have nl : ¬ (ty_T a < 2 ∨ ty_T b < 2) := by omega
  refine pc_sv (r_fits n8 B va vb) ?_; intro u3 q3
  refine pc_if (fun w => ?_) (fun w => ?_)
  · refine pc_ret (.inl ⟨rfl, .inr ⟨nl, .inl ?_⟩⟩)
    rcases q3 with ⟨x, y⟩ | ⟨x, y⟩
    · exact y
    · exact absurd x w
  · have nf : ¬ FTS (r 180) a b := by
      rcases q3 with ⟨x, y⟩ | ⟨x, y⟩
      · omega
      · exact y
    refine pc_sv (r_fits n8 B vb va) ?_; intro u5 q5
    refine pc_if (fun w5 => ?_) (fun w5 => ?_)
    · refine pc_ret (.inr ⟨rfl, fun f => ?_⟩)
      rcases f with ⟨f, _⟩ | ⟨_, f⟩
      · exact nl f
      · rcases q5 with ⟨x, y⟩ | ⟨x, y⟩
        · omega
        · rcases f with f | f
          · exact nf f
          · exact y f
    · refine pc_ret (.inl ⟨rfl, .inr ⟨nl, .inr ?_⟩⟩)
      rcases q5 with ⟨x, y⟩ | ⟨x, y⟩
      · exact y
      · exact absurd x w5
end

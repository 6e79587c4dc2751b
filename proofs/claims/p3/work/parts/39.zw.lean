/-- going up by extends -/
def uo_ (M : ms_M) (c : Int) : Int := if c = 0 then -1 else if c = 1 then 0 else if 8 ≤ c then M 180 (c - 8).toNat else 1
def upn_ (M : ms_M) : Nat → Int → Int
  | 0, c => c
  | n + 1, c => if c = -1 then -1 else upn_ M n (uo_ M c)
theorem uo_eq {nn : Nat} {c : Int} {h : ms_M} (r : 0 ≤ c ∧ c ≤ 407) : qf_X13_upperOf nn c h = some (uo_ h c) := by
  unfold qf_X13_upperOf uo_
  by_cases q : c = 0
  · rw [if_neg (fun z => z q), if_pos q]
  · rw [if_pos q, if_neg q]
    by_cases q1 : c = 1
    · rw [if_neg (fun z => z q1), if_pos q1]
    · rw [if_pos q1, if_neg q1]
      by_cases q2 : 8 ≤ c
      · rw [if_pos q2, if_pos q2, xl_eq, oq_sub_eq (by omega) (by omega) (by omega)]
        unfold rd_A
        rw [if_pos (by omega)]
      · rw [if_neg q2, if_neg q2]
theorem uo_b {c : Int} {h : ms_M} (V : VS_ h) (r : 0 ≤ c ∧ c ≤ 407) : -1 ≤ uo_ h c ∧ uo_ h c ≤ 407 := by
  unfold uo_
  split
  · omega
  · split
    · omega
    · split
      · exact gA_180 V (c - 8).toNat (by omega)
      · omega
theorem upn_m {M : ms_M} : ∀ n : Nat, upn_ M n (-1) = -1 := by
  intro n
  cases n with
  | zero => rfl
  | succ n => show (if (-1 : Int) = -1 then (-1 : Int) else _) = -1; rw [if_pos rfl]
theorem upn_s {M : ms_M} : ∀ (n : Nat) (c : Int), upn_ M (n + 1) c = (if upn_ M n c = -1 then -1 else uo_ M (upn_ M n c)) := by
  intro n
  induction n with
  | zero =>
    intro c
    show (if c = -1 then -1 else uo_ M c) = (if c = -1 then -1 else uo_ M c)
    rfl
  | succ n ih =>
    intro c
    by_cases q : c = -1
    · rw [q, upn_m, upn_m, if_pos rfl]
    · have a : upn_ M (n + 1 + 1) c = upn_ M (n + 1) (uo_ M c) := by
        show (if c = -1 then -1 else upn_ M (n + 1) (uo_ M c)) = _; rw [if_neg q]
      have b : upn_ M (n + 1) c = upn_ M n (uo_ M c) := by
        show (if c = -1 then -1 else upn_ M n (uo_ M c)) = _; rw [if_neg q]
      rw [a, b]; exact ih _
theorem upn_e {M : ms_M} : ∀ (d n : Nat) {c : Int}, upn_ M n c = -1 → upn_ M (n + d) c = -1 := by
  intro d
  induction d with
  | zero => intro n c h; exact h
  | succ d ih =>
    intro n c h
    rw [show n + (d + 1) = n + d + 1 by omega, upn_s, if_pos (ih n h)]
/-- no class is above itself: from every class the way up ends -/
def AC_ (M : ms_M) : Prop := ∀ c : Int, -1 ≤ c → c < 8 + M 160 24 → upn_ M 420 c = -1
theorem upn_q {M N : ms_M} (h : ∀ k, N 180 k = M 180 k) : ∀ (n : Nat) (c : Int), upn_ N n c = upn_ M n c := by
  have e : N 180 = M 180 := funext h
  intro n
  induction n with
  | zero => intro c; rfl
  | succ n ih =>
    intro c
    have u : uo_ N c = uo_ M c := by unfold uo_; rw [e]
    show (if c = -1 then -1 else upn_ N n (uo_ N c)) = (if c = -1 then -1 else upn_ M n (uo_ M c))
    rw [ih, u]
theorem ac_eq {M N : ms_M} (h : AC_ M) (h1 : ∀ k, N 180 k = M 180 k) (h2 : N 160 24 = M 160 24) : AC_ N := by
  intro c a b
  rw [upn_q h1]; rw [h2] at b; exact h c a b
theorem ex_2 {nn : Nat} {l2 : Int} {h : ms_M} (V : VS_ h) : ∀ (k f : Nat) (l3 : Int), upn_ h k l3 = -1 → (-1 ≤ l3 ∧ l3 ≤ 407) → k < f → Ok_ (qw_X13_extendsIt_2 nn f l2 l3 h) (QP_ 0 1) := by
  have j : ∀ l3 : Int, Ok_ (qj_X13_extendsIt_21 nn l2 l3 h) (QP_ 0 1) := fun l3 => by
    unfold qj_X13_extendsIt_21
    exact ok_if (fun _ => ok_rP (by omega) (by omega)) (fun _ => ok_rP (by omega) (by omega))
  intro k
  induction k with
  | zero =>
    intro f l3 a b hf
    cases f with
    | zero => omega
    | succ f =>
      unfold qw_X13_extendsIt_2
      rw [if_pos (show l3 = -1 from a)]; exact j l3
  | succ k ih =>
    intro f l3 a b hf
    cases f with
    | zero => omega
    | succ f =>
      unfold qw_X13_extendsIt_2
      refine ok_if (fun _ => j l3) (fun C => ?_)
      refine ok_if (fun _ => j l3) (fun _ => ?_)
      rw [uo_eq (by omega), mx_svs]
      refine ih f _ ?_ (uo_b V (by omega)) (by omega)
      have a : (if l3 = -1 then -1 else upn_ h k (uo_ h l3)) = -1 := a
      rw [if_neg C] at a; exact a
theorem vf_X13_extendsIt {nn : Nat} (hn : 1000000 ≤ nn) {a1 a2 : Int} {h : ms_M} (V : VS_ h) (A : AC_ h) (r : -1 ≤ a1 ∧ a1 < 8 + h 160 24) : Ok_ (qf_X13_extendsIt nn a1 a2 h) (QP_ 0 1) := by
  have g := gF_160_24 V
  unfold qf_X13_extendsIt
  exact ex_2 V 420 nn a1 (A a1 r.1 r.2) (by omega) (by omega)
theorem mo_3 {nn : Nat} (hn : 1000000 ≤ nn) {l2 l3 : Int} {h : ms_M} (V : VS_ h) (N : HW_ h) (r2 : 0 ≤ l2 ∧ l2 ≤ 3001) : ∀ (k f : Nat) (l4 : Int), upn_ h k l4 = -1 → (-1 ≤ l4 ∧ l4 ≤ 407) → k < f → Ok_ (qw_X13_memberOf_3 nn f l2 l3 l4 h) (QP_ (-1) 799) := by
  have g := gF_160_28 V
  intro k
  induction k with
  | zero =>
    intro f l4 a b hf
    cases f with
    | zero => omega
    | succ f =>
      unfold qw_X13_memberOf_3
      rw [if_pos (show l4 = -1 from a)]; exact ok_rP (by omega) (by omega)
  | succ k ih =>
    intro f l4 a b hf
    cases f with
    | zero => omega
    | succ f =>
      unfold qw_X13_memberOf_3
      refine ok_if (fun _ => ok_rP (by omega) (by omega)) (fun C => ?_)
      have a : (if l4 = -1 then -1 else upn_ h k (uo_ h l4)) = -1 := a
      rw [if_neg C] at a
      have nx := ih f _ a (uo_b V (by omega)) (by omega)
      have inner : ∀ (f2 : Nat) (l5 : Int), 0 ≤ l5 ∧ l5 ≤ 800 → 801 - l5 < (f2 : Int) → Ok_ (qw_X13_memberOf_12 nn (qw_X13_memberOf_3 nn f) f2 l2 l3 l4 l5 h) (QP_ (-1) 799) := by
        intro f2
        induction f2 with
        | zero => intro l5 c hm; exfalso; omega
        | succ f2 ih2 =>
          intro l5 c hm
          unfold qw_X13_memberOf_12
          refine ok_if (fun _ => ?_) (fun C2 => ?_)
          · rw [uo_eq (by omega), mx_svs]; exact nx
          · have go : ∀ v : Int, v = l5 + 1 → Ok_ (qw_X13_memberOf_12 nn (qw_X13_memberOf_3 nn f) f2 l2 l3 l4 v h) (QP_ (-1) 799) := fun v e => ih2 v (by omega) (by omega)
            have j51 : ∀ s0 : Int, Ok_ (qj_X13_memberOf_51 nn (qw_X13_memberOf_3 nn f) (qw_X13_memberOf_12 nn (qw_X13_memberOf_3 nn f) f2) l2 l3 l4 l5 s0 h) (QP_ (-1) 799) := fun s0 => by
              unfold qj_X13_memberOf_51
              refine ok_if (fun _ => ?_) (fun _ => ?_)
              · refine ok_add (by omega) ?_; intro v e; exact go v e
              · refine ok_rd (by omega) (gA_186 V) ?_; intro v3 e3 a3 b3
                refine ok_cP (vf_X13_isLike hn (by omega) (by omega) (by omega) (by omega) V N) ?_; intro u5 e5 a5 b5
                refine ok_if (fun _ => ?_) (fun _ => ok_rP (by omega) (by omega))
                refine ok_add (by omega) ?_; intro v e; exact go v e
            refine ok_rd (by omega) (gA_181 V) ?_; intro v13 e13 a13 b13
            refine ok_sub (by omega) ?_; intro v14 e14
            refine ok_if (fun _ => ?_) (fun _ => ?_)
            · refine ok_add (by omega) ?_; intro v e; exact go v e
            · refine ok_rd (by omega) (gA_182 V) ?_; intro v17 e17 a17 b17
              exact ok_if (fun _ => j51 0) (fun _ => j51 1)
      exact inner nn 0 (by omega) (by omega)
theorem vf_X13_memberOf {nn : Nat} (hn : 1000000 ≤ nn) {a1 a2 a3 : Int} {h : ms_M} (V : VS_ h) (N : HW_ h) (A : AC_ h) (r : -1 ≤ a1 ∧ a1 < 8 + h 160 24) (r2 : 0 ≤ a2 ∧ a2 ≤ 3001) : Ok_ (qf_X13_memberOf nn a1 a2 a3 h) (QP_ (-1) 799) := by
  have g := gF_160_24 V
  unfold qf_X13_memberOf
  exact mo_3 hn V N r2 420 nn a1 (A a1 r.1 r.2) (by omega) (by omega)
theorem vj_X13_fits_44 {nn : Nat} (hn : 1000000 ≤ nn) {l1 l2 : Int} {h : ms_M} (V : VS_ h) (A : AC_ h) (r1 : -1 ≤ l1 ∧ l1 ≤ 900 ∧ l1 < 24 + 2 * h 160 24) (r2 : -1 ≤ l2 ∧ l2 ≤ 900) : Ok_ (qj_X13_fits_44 nn l1 l2 h) (QP_ 0 1) := by
  have g := gF_160_24 V
  unfold qj_X13_fits_44
  refine ok_if (fun _ => ok_rP (by omega) (by omega)) (fun c1 => ?_)
  refine ok_if (fun _ => ok_rP (by omega) (by omega)) (fun c2 => ?_)
  refine ok_rem (n := 2) (by omega) ?_; intro v1 e1
  refine ok_rem (n := 2) (by omega) ?_; intro v2 e2
  refine ok_if (fun _ => ok_rP (by omega) (by omega)) (fun c3 => ?_)
  refine ok_sub (by omega) ?_; intro v3 e3
  refine ok_div (n := 2) (by omega) ?_; intro v4 e4
  refine ok_sub (by omega) ?_; intro v5 e5
  refine ok_div (n := 2) (by omega) ?_; intro v6 e6
  refine ok_cP (vf_X13_extendsIt hn V A (by omega)) ?_; intro u8 e8 a8 b8
  exact ok_if (fun _ => ok_rP (by omega) (by omega)) (fun _ => ok_rP (by omega) (by omega))
theorem vf_X13_fits {nn : Nat} (hn : 1000000 ≤ nn) {a1 a2 : Int} {h : ms_M} (V : VS_ h) (A : AC_ h) (r1 : -1 ≤ a1 ∧ a1 ≤ 900 ∧ a1 < 24 + 2 * h 160 24) (r2 : -1 ≤ a2 ∧ a2 ≤ 900) : Ok_ (qf_X13_fits nn a1 a2 h) (QP_ 0 1) := by
  unfold qf_X13_fits
  refine ok_if (fun _ => ?_) (fun _ => ok_rP (by omega) (by omega))
  refine ok_if (fun _ => ?_) (fun _ => ?_)
  · refine ok_cP (vf_X13_isArray hn (by omega) (by omega) V) ?_; intro u13 e13 a13 b13
    refine ok_if (fun _ => vj_X13_fits_44 hn V A r1 r2) (fun _ => ?_)
    exact ok_if (fun _ => vj_X13_fits_44 hn V A r1 r2) (fun _ => ok_rP (by omega) (by omega))
  · refine ok_if (fun _ => ok_rP (by omega) (by omega)) (fun _ => ?_)
    exact ok_if (fun _ => ok_rP (by omega) (by omega)) (fun _ => ok_rP (by omega) (by omega))
theorem vf_X13_goTogether {nn : Nat} (hn : 1000000 ≤ nn) {a1 a2 : Int} {h : ms_M} (V : VS_ h) (A : AC_ h) (r1 : -1 ≤ a1 ∧ a1 ≤ 900 ∧ a1 < 24 + 2 * h 160 24) (r2 : -1 ≤ a2 ∧ a2 ≤ 900 ∧ a2 < 24 + 2 * h 160 24) : Ok_ (qf_X13_goTogether nn a1 a2 h) (QP_ 0 1) := by
  have j : Ok_ (qj_X13_goTogether_10 nn a1 a2 h) (QP_ 0 1) := by
    unfold qj_X13_goTogether_10
    exact ok_if (fun _ => ok_rP (by omega) (by omega)) (fun _ => ok_rP (by omega) (by omega))
  unfold qf_X13_goTogether
  refine ok_if (fun _ => j) (fun _ => ?_)
  refine ok_if (fun _ => ?_) (fun _ => j)
  refine ok_cP (vf_X13_fits hn V A r1 ⟨r2.1, r2.2.1⟩) ?_; intro u3 e3 a3 b3
  refine ok_if (fun _ => ok_rP (by omega) (by omega)) (fun _ => ?_)
  refine ok_cP (vf_X13_fits hn V A r2 ⟨r1.1, r1.2.1⟩) ?_; intro u5 e5 a5 b5
  exact ok_if (fun _ => ok_rP (by omega) (by omega)) (fun _ => ok_rP (by omega) (by omega))

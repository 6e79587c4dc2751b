/- THE READING OF AN IMAGE, AS A FUNCTION OF ITS BYTES: inl e: FORM at e; inr p: go on at p -/
def bd_S (s : Nat ⊕ Nat) (T : Nat → Nat ⊕ Nat) : Nat ⊕ Nat := match s with
  | .inl e => .inl e
  | .inr p => T p
theorem bd_l {e : Nat} {T : Nat → Nat ⊕ Nat} : bd_S (.inl e) T = .inl e := rfl
theorem bd_r {p : Nat} {T : Nat → Nat ⊕ Nat} : bd_S (.inr p) T = T p := rfl
/-- one byte -/
def nx_S (n p : Nat) : Nat ⊕ Nat := if p < n then .inr (p + 1) else .inl n
/-- one byte for which t holds -/
def by_S (B : Nat → Int) (n : Nat) (t : Int → Bool) (p : Nat) : Nat ⊕ Nat := if p < n then (if t (B p) = true then .inr (p + 1) else .inl p) else .inl n
/-- m bytes -/
def sk_S (n m p : Nat) : Nat ⊕ Nat := if p + m ≤ n then .inr (p + m) else .inl n
def up_T (lo hi : Int) (v : Int) : Bool := decide (lo ≤ v) && decide (v ≤ hi)
/-- one constant -/
def ct_S (B : Nat → Int) (n p : Nat) : Nat ⊕ Nat := if p < n then (match (ct_N B n p).2 with
    | some e => .inl e
    | none => .inr (ct_N B n p).1) else .inl n
def ks_S (B : Nat → Int) (n : Nat) : Nat → Nat → Nat ⊕ Nat
  | 0, p => .inr p
  | m + 1, p => bd_S (ct_S B n p) (ks_S B n m)
/-- where the constant behind j others is -/
def cq_S (B : Nat → Int) (n : Nat) : Nat → Nat
  | 0 => 3
  | j + 1 => (ct_N B n (cq_S B n j)).1
def pl_S (B : Nat → Int) (n : Nat) (k : Int) : Nat := cq_S B n (k - 1).toNat
/-- the tag of constant k; 0: there is none -/
def tg_S (B : Nat → Int) (n : Nat) (k : Int) : Int := if 1 ≤ k ∧ k ≤ B 2 then B (pl_S B n k) else 0
def tl_S (B : Nat → Int) (n : Nat) (k : Int) : Nat := (B (pl_S B n k + 1)).toNat
/-- the TEXT k is a name, a field's kind, begins with [, is a method's kind -/
def nm_S (B : Nat → Int) (n : Nat) (k : Int) : Bool := decide (tg_S B n k = 1) && nm_N (fun i => B (pl_S B n k + 2 + i)) (tl_S B n k)
def fk_S (B : Nat → Int) (n : Nat) (k : Int) : Bool := decide (tg_S B n k = 1) && decide (kd_N B (pl_S B n k + 2) (pl_S B n k + 2 + tl_S B n k) = some (pl_S B n k + 2 + tl_S B n k))
def ar_S (B : Nat → Int) (n : Nat) (k : Int) : Bool := decide (tg_S B n k = 1) && decide (B (pl_S B n k + 2) = 91)
def pi_S (B : Nat → Int) (n : Nat) (k : Int) : Option Nat := if tg_S B n k = 1 then up_6 (pi_N B (pl_S B n k + 2) (pl_S B n k + 2 + tl_S B n k)) else none
def cl_S (B : Nat → Int) (n : Nat) (k : Int) : Bool := decide (tg_S B n k = 3)
/-- part i of constant k -/
def pt_S (B : Nat → Int) (n : Nat) (k : Int) (i : Nat) : Int := B (pl_S B n k + 1 + i)
/-- a class that is no array -/
def pc_S (B : Nat → Int) (n : Nat) (k : Int) : Bool := cl_S B n k && !(ar_S B n (pt_S B n k 0))
/-- constant k is as it must be, or FORM -/
def ck_S (B : Nat → Int) (n : Nat) (k : Int) : Option Nat := if tg_S B n k = 3 then (if (nm_S B n (pt_S B n k 0) || (ar_S B n (pt_S B n k 0) && fk_S B n (pt_S B n k 0))) = true then none else some (pl_S B n k + 1))
  else if tg_S B n k = 4 then (if cl_S B n (pt_S B n k 0) = true then (if nm_S B n (pt_S B n k 1) = true then (if (fk_S B n (pt_S B n k 2) || (pi_S B n (pt_S B n k 2)).isSome) = true then none else some (pl_S B n k + 3)) else some (pl_S B n k + 2)) else some (pl_S B n k + 1))
  else none
/-- constants k, k + 1 .., m of them -/
def cks_S (B : Nat → Int) (n : Nat) : Nat → Int → Option Nat
  | 0, _ => none
  | m + 1, k => match ck_S B n k with
    | some e => some e
    | none => cks_S B n m (k + 1)
def fl_S (B : Nat → Int) (n : Nat) : Nat → Nat → Nat ⊕ Nat
  | 0, p => .inr p
  | m + 1, p => bd_S (bd_S (by_S B n (nm_S B n) p) (by_S B n (fk_S B n))) (fl_S B n m)
def fs_S (B : Nat → Int) (n p : Nat) : Nat ⊕ Nat := bd_S (by_S B n (up_T 0 12) p) (fun q => fl_S B n (B p).toNat q)
def ty_S (B : Nat → Int) (n : Nat) : Nat → Nat → Nat ⊕ Nat
  | 0, p => .inr p
  | m + 1, p => bd_S (bd_S (by_S B n (up_T 0 3) p) (fun q => if B p = 3 then by_S B n (cl_S B n) q else .inr q)) (ty_S B n m)
def ts_S (B : Nat → Int) (n p : Nat) : Nat ⊕ Nat := bd_S (nx_S n p) (fun q => ty_S B n (B p).toNat q)
def fr_S (B : Nat → Int) (n : Nat) : Nat → Nat → Nat ⊕ Nat
  | 0, p => .inr p
  | m + 1, p => bd_S (bd_S (bd_S (sk_S n 2 p) (ts_S B n)) (ts_S B n)) (fr_S B n m)
def ff_S (B : Nat → Int) (n p : Nat) : Nat ⊕ Nat := bd_S (by_S B n (up_T 0 100) p) (fun q => fr_S B n (B p).toNat q)
def hd_S (B : Nat → Int) (n : Nat) : Nat → Nat → Nat ⊕ Nat
  | 0, p => .inr p
  | m + 1, p => bd_S (bd_S (sk_S n 6 p) (by_S B n (cl_S B n))) (hd_S B n m)
def hs_S (B : Nat → Int) (n p : Nat) : Nat ⊕ Nat := bd_S (by_S B n (up_T 0 20) p) (fun q => hd_S B n (B p).toNat q)
/-- the LENGTH at p -/
def ln_N (B : Nat → Int) (p : Nat) : Int := oq_or (oq_shl (B p) 8) (B (p + 1))
def co_S (B : Nat → Int) (n p : Nat) : Nat ⊕ Nat := bd_S (sk_S n 2 p) (fun q => if ln_N B p < 1 ∨ 1500 < ln_N B p then .inl p else if (q : Int) + ln_N B p ≤ (n : Int) then .inr (q + (ln_N B p).toNat) else .inl n)
/-- least locals of the method at p -/
def le_S (B : Nat → Int) (n p : Nat) : Int := op_E (pi_S B n (B (p + 2))) + 1 - B p
/-- a method's head at p: the place of its LENGTH -/
def mh_S (B : Nat → Int) (n p : Nat) : Nat ⊕ Nat := bd_S (bd_S (bd_S (bd_S (by_S B n (up_T 0 1) p) (by_S B n (nm_S B n))) (by_S B n (fun k => (pi_S B n k).isSome))) (by_S B n (up_T 0 30))) (by_S B n (up_T (le_S B n p) 30))
def mt_S (B : Nat → Int) (n p : Nat) : Nat ⊕ Nat := bd_S (bd_S (bd_S (mh_S B n p) (co_S B n)) (hs_S B n)) (ff_S B n)
def ms_S (B : Nat → Int) (n : Nat) : Nat → Nat → Nat ⊕ Nat
  | 0, p => .inr p
  | m + 1, p => bd_S (mt_S B n p) (ms_S B n m)
def mm_S (B : Nat → Int) (n p : Nat) : Nat ⊕ Nat := bd_S (by_S B n (up_T 0 12) p) (fun q => ms_S B n (B p).toNat q)
/-- all constants: the place behind them -/
def kk_S (B : Nat → Int) (n : Nat) : Nat ⊕ Nat := bd_S (bd_S (bd_S (bd_S (by_S B n (up_T 74 74) 0) (by_S B n (up_T 77 77))) (nx_S n)) (fun p => ks_S B n (B 2).toNat p)) (fun p => match cks_S B n (B 2).toNat 1 with
    | some e => .inl e
    | none => .inr p)
/-- the whole IMAGE -/
def rdi_S (B : Nat → Int) (n : Nat) : Nat ⊕ Nat := bd_S (bd_S (bd_S (bd_S (bd_S (kk_S B n) (by_S B n (pc_S B n))) (by_S B n (pc_S B n))) (fs_S B n)) (mm_S B n)) (fun p => if p < n then .inl p else .inr p)
section
variable {B : Nat → Int} {n : Nat}
theorem by_le {t : Int → Bool} {p q : Nat} (e : by_S B n t p = .inr q) : q = p + 1 ∧ p < n ∧ t (B p) = true := by
  unfold by_S at e
  by_cases a : p < n
  · rw [if_pos a] at e
    by_cases b : t (B p) = true
    · rw [if_pos b] at e; cases e; exact ⟨rfl, a, b⟩
    · rw [if_neg b] at e; cases e
  · rw [if_neg a] at e; cases e
theorem nx_le {p q : Nat} (e : nx_S n p = .inr q) : q = p + 1 ∧ p < n := by
  unfold nx_S at e
  by_cases a : p < n
  · rw [if_pos a] at e; cases e; exact ⟨rfl, a⟩
  · rw [if_neg a] at e; cases e
theorem sk_le {m p q : Nat} (e : sk_S n m p = .inr q) : q = p + m ∧ p + m ≤ n := by
  unfold sk_S at e
  by_cases a : p + m ≤ n
  · rw [if_pos a] at e; cases e; exact ⟨rfl, a⟩
  · rw [if_neg a] at e; cases e
theorem bd_inr {s : Nat ⊕ Nat} {T : Nat → Nat ⊕ Nat} {q : Nat} (e : bd_S s T = .inr q) : ∃ p, s = .inr p ∧ T p = .inr q := by
  cases s with
  | inl x => cases e
  | inr p => exact ⟨p, rfl, e⟩
theorem bd_as (s : Nat ⊕ Nat) (T U : Nat → Nat ⊕ Nat) : bd_S (bd_S s T) U = bd_S s (fun p => bd_S (T p) U) := by cases s <;> rfl
theorem nx_by {p : Nat} : nx_S n p = by_S B n (fun _ => true) p := by
  unfold nx_S by_S
  by_cases a : p < n
  · rw [if_pos a, if_pos a, if_pos rfl]
  · rw [if_neg a, if_neg a]
theorem sk_1 {m p : Nat} (hp : p ≤ n) : sk_S n (m + 1) p = bd_S (nx_S n p) (sk_S n m) := by
  unfold nx_S
  by_cases a : p < n
  · rw [if_pos a, bd_r]
    unfold sk_S
    by_cases b : p + (m + 1) ≤ n
    · rw [if_pos b, if_pos (by omega)]; congr 1; omega
    · rw [if_neg b, if_neg (by omega)]
  · rw [if_neg a, bd_l]
    unfold sk_S
    rw [if_neg (by omega)]
theorem sk_0 {p : Nat} (hp : p ≤ n) : sk_S n 0 p = .inr p := by
  unfold sk_S; rw [if_pos (by omega)]; rfl
theorem tyl_S : ∀ (m p q : Nat), p ≤ n → ty_S B n m p = .inr q → q ≤ n := by
  intro m
  induction m with
  | zero => intro p q h e; unfold ty_S at e; cases e; exact h
  | succ m ih =>
    intro p q h e
    unfold ty_S at e
    obtain ⟨x, hx, e⟩ := bd_inr e
    obtain ⟨y, hy, hx⟩ := bd_inr hx
    have a := by_le hy
    refine ih x q ?_ e
    by_cases w : B p = 3
    · rw [if_pos w] at hx
      have := by_le hx
      omega
    · rw [if_neg w] at hx
      cases hx; omega
theorem ts_le {p q : Nat} (e : ts_S B n p = .inr q) : q ≤ n := by
  unfold ts_S at e
  obtain ⟨x, hx, e⟩ := bd_inr e
  have := nx_le hx
  exact tyl_S _ _ _ (by omega) e
theorem frl_S : ∀ (m p q : Nat), p ≤ n → fr_S B n m p = .inr q → q ≤ n := by
  intro m
  induction m with
  | zero => intro p q h e; unfold fr_S at e; cases e; exact h
  | succ m ih =>
    intro p q h e
    unfold fr_S at e
    obtain ⟨x, hx, e⟩ := bd_inr e
    obtain ⟨y, hy, hx⟩ := bd_inr hx
    exact ih x q (ts_le hx) e
theorem ff_le {p q : Nat} (e : ff_S B n p = .inr q) : q ≤ n := by
  unfold ff_S at e
  obtain ⟨x, hx, e⟩ := bd_inr e
  have := by_le hx
  exact frl_S _ _ _ (by omega) e
theorem hd_le : ∀ (m p q : Nat), p ≤ n → hd_S B n m p = .inr q → q ≤ n := by
  intro m
  induction m with
  | zero => intro p q h e; unfold hd_S at e; cases e; exact h
  | succ m ih =>
    intro p q h e
    unfold hd_S at e
    obtain ⟨x, hx, e⟩ := bd_inr e
    obtain ⟨y, hy, hx⟩ := bd_inr hx
    have := by_le hx
    exact ih x q (by omega) e
theorem hs_le {p q : Nat} (e : hs_S B n p = .inr q) : q ≤ n := by
  unfold hs_S at e
  obtain ⟨x, hx, e⟩ := bd_inr e
  have := by_le hx
  exact hd_le _ _ _ (by omega) e
theorem up_Tt {lo hi v : Int} (e : up_T lo hi v = true) : lo ≤ v ∧ v ≤ hi := by
  unfold up_T at e
  rw [Bool.and_eq_true, decide_eq_true_iff, decide_eq_true_iff] at e
  exact e
end

section
/- THE READING OF AN IMAGE, AS A FUNCTION OF ITS BYTES: inl e: FORM at e; inr p: go on at p -/
def bd_S (s : Nat ⊕ Nat) (T : Nat → Nat ⊕ Nat) : Nat ⊕ Nat := match s with
  | .inl e => .inl e
  | .inr p => T p
theorem bd_l {e : Nat} {T : Nat → Nat ⊕ Nat} : bd_S (.inl e) T = .inl e := rfl
theorem bd_r {p : Nat} {T : Nat → Nat ⊕ Nat} : bd_S (.inr p) T = T p := rfl
/-- one byte -/
def nx_S (n p : Nat) : Nat ⊕ Nat := if p < n then .inr (p + 1) else .inl n
/-- one byte for which t holds -/
def by_S (B : Nat → Int) (n : Nat) (t : Int → Bool) (p : Nat) : Nat ⊕ Nat := if p < n then (if t (B p) = true then .inr (p + 1) else .inl p) else .inl n
/-- m bytes -/
def sk_S (n m p : Nat) : Nat ⊕ Nat := if p + m ≤ n then .inr (p + m) else .inl n
def up_T (lo hi : Int) (v : Int) : Bool := decide (lo ≤ v) && decide (v ≤ hi)
/-- one constant -/
def ct_S (B : Nat → Int) (n p : Nat) : Nat ⊕ Nat := if p < n then (match (ct_N B n p).2 with
    | some e => .inl e
    | none => .inr (ct_N B n p).1) else .inl n
def ks_S (B : Nat → Int) (n : Nat) : Nat → Nat → Nat ⊕ Nat
  | 0, p => .inr p
  | m + 1, p => bd_S (ct_S B n p) (ks_S B n m)
/-- where the constant behind j others is -/
def cq_S (B : Nat → Int) (n : Nat) : Nat → Nat
  | 0 => 3
  | j + 1 => (ct_N B n (cq_S B n j)).1
def pl_S (B : Nat → Int) (n : Nat) (k : Int) : Nat := cq_S B n (k - 1).toNat
/-- the tag of constant k; 0: there is none -/
def tg_S (B : Nat → Int) (n : Nat) (k : Int) : Int := if 1 ≤ k ∧ k ≤ B 2 then B (pl_S B n k) else 0
def tl_S (B : Nat → Int) (n : Nat) (k : Int) : Nat := (B (pl_S B n k + 1)).toNat
/-- the TEXT k is a name, a field's kind, begins with [, is a method's kind -/
def nm_S (B : Nat → Int) (n : Nat) (k : Int) : Bool := decide (tg_S B n k = 1) && nm_N (fun i => B (pl_S B n k + 2 + i)) (tl_S B n k)
def fk_S (B : Nat → Int) (n : Nat) (k : Int) : Bool := decide (tg_S B n k = 1) && decide (kd_N B (pl_S B n k + 2) (pl_S B n k + 2 + tl_S B n k) = some (pl_S B n k + 2 + tl_S B n k))
def ar_S (B : Nat → Int) (n : Nat) (k : Int) : Bool := decide (tg_S B n k = 1) && decide (B (pl_S B n k + 2) = 91)
def pi_S (B : Nat → Int) (n : Nat) (k : Int) : Option Nat := if tg_S B n k = 1 then up_6 (pi_N B (pl_S B n k + 2) (pl_S B n k + 2 + tl_S B n k)) else none
def cl_S (B : Nat → Int) (n : Nat) (k : Int) : Bool := decide (tg_S B n k = 3)
/-- part i of constant k -/
def pt_S (B : Nat → Int) (n : Nat) (k : Int) (i : Nat) : Int := B (pl_S B n k + 1 + i)
/-- a class that is no array -/
def pc_S (B : Nat → Int) (n : Nat) (k : Int) : Bool := cl_S B n k && !(ar_S B n (pt_S B n k 0))
/-- constant k is as it must be, or FORM -/
def ck_S (B : Nat → Int) (n : Nat) (k : Int) : Option Nat := if tg_S B n k = 3 then (if (nm_S B n (pt_S B n k 0) || (ar_S B n (pt_S B n k 0) && fk_S B n (pt_S B n k 0))) = true then none else some (pl_S B n k + 1))
  else if tg_S B n k = 4 then (if cl_S B n (pt_S B n k 0) = true then (if nm_S B n (pt_S B n k 1) = true then (if (fk_S B n (pt_S B n k 2) || (pi_S B n (pt_S B n k 2)).isSome) = true then none else some (pl_S B n k + 3)) else some (pl_S B n k + 2)) else some (pl_S B n k + 1))
  else none
/-- constants k, k + 1 .., m of them -/
def cks_S (B : Nat → Int) (n : Nat) : Nat → Int → Option Nat
  | 0, _ => none
  | m + 1, k => match ck_S B n k with
    | some e => some e
    | none => cks_S B n m (k + 1)
def fl_S (B : Nat → Int) (n : Nat) : Nat → Nat → Nat ⊕ Nat
  | 0, p => .inr p
  | m + 1, p => bd_S (bd_S (by_S B n (nm_S B n) p) (by_S B n (fk_S B n))) (fl_S B n m)
def fs_S (B : Nat → Int) (n p : Nat) : Nat ⊕ Nat := bd_S (by_S B n (up_T 0 12) p) (fun q => fl_S B n (B p).toNat q)
def ty_S (B : Nat → Int) (n : Nat) : Nat → Nat → Nat ⊕ Nat
  | 0, p => .inr p
  | m + 1, p => bd_S (bd_S (by_S B n (up_T 0 3) p) (fun q => if B p = 3 then by_S B n (cl_S B n) q else .inr q)) (ty_S B n m)
def ts_S (B : Nat → Int) (n p : Nat) : Nat ⊕ Nat := bd_S (nx_S n p) (fun q => ty_S B n (B p).toNat q)
def fr_S (B : Nat → Int) (n : Nat) : Nat → Nat → Nat ⊕ Nat
  | 0, p => .inr p
  | m + 1, p => bd_S (bd_S (bd_S (sk_S n 2 p) (ts_S B n)) (ts_S B n)) (fr_S B n m)
def ff_S (B : Nat → Int) (n p : Nat) : Nat ⊕ Nat := bd_S (by_S B n (up_T 0 100) p) (fun q => fr_S B n (B p).toNat q)
def hd_S (B : Nat → Int) (n : Nat) : Nat → Nat → Nat ⊕ Nat
  | 0, p => .inr p
  | m + 1, p => bd_S (bd_S (sk_S n 6 p) (by_S B n (cl_S B n))) (hd_S B n m)
def hs_S (B : Nat → Int) (n p : Nat) : Nat ⊕ Nat := bd_S (by_S B n (up_T 0 20) p) (fun q => hd_S B n (B p).toNat q)
/-- the LENGTH at p -/
def ln_N (B : Nat → Int) (p : Nat) : Int := oq_or (oq_shl (B p) 8) (B (p + 1))
def co_S (B : Nat → Int) (n p : Nat) : Nat ⊕ Nat := bd_S (sk_S n 2 p) (fun q => if ln_N B p < 1 ∨ 1500 < ln_N B p then .inl p else if (q : Int) + ln_N B p ≤ (n : Int) then .inr (q + (ln_N B p).toNat) else .inl n)
/-- least locals of the method at p -/
def le_S (B : Nat → Int) (n p : Nat) : Int := op_E (pi_S B n (B (p + 2))) + 1 - B p
/-- a method's head at p: the place of its LENGTH -/
def mh_S (B : Nat → Int) (n p : Nat) : Nat ⊕ Nat := bd_S (bd_S (bd_S (bd_S (by_S B n (up_T 0 1) p) (by_S B n (nm_S B n))) (by_S B n (fun k => (pi_S B n k).isSome))) (by_S B n (up_T 0 30))) (by_S B n (up_T (le_S B n p) 30))
def mt_S (B : Nat → Int) (n p : Nat) : Nat ⊕ Nat := bd_S (bd_S (bd_S (mh_S B n p) (co_S B n)) (hs_S B n)) (ff_S B n)
def ms_S (B : Nat → Int) (n : Nat) : Nat → Nat → Nat ⊕ Nat
  | 0, p => .inr p
  | m + 1, p => bd_S (mt_S B n p) (ms_S B n m)
def mm_S (B : Nat → Int) (n p : Nat) : Nat ⊕ Nat := bd_S (by_S B n (up_T 0 12) p) (fun q => ms_S B n (B p).toNat q)
/-- all constants: the place behind them -/
def kk_S (B : Nat → Int) (n : Nat) : Nat ⊕ Nat := bd_S (bd_S (bd_S (bd_S (by_S B n (up_T 74 74) 0) (by_S B n (up_T 77 77))) (nx_S n)) (fun p => ks_S B n (B 2).toNat p)) (fun p => match cks_S B n (B 2).toNat 1 with
    | some e => .inl e
    | none => .inr p)
/-- the whole IMAGE -/
def rdi_S (B : Nat → Int) (n : Nat) : Nat ⊕ Nat := bd_S (bd_S (bd_S (bd_S (bd_S (kk_S B n) (by_S B n (pc_S B n))) (by_S B n (pc_S B n))) (fs_S B n)) (mm_S B n)) (fun p => if p < n then .inl p else .inr p)
section
variable {B : Nat → Int} {n : Nat}
theorem by_le {t : Int → Bool} {p q : Nat} (e : by_S B n t p = .inr q) : q = p + 1 ∧ p < n ∧ t (B p) = true := by
  unfold by_S at e
  by_cases a : p < n
  · rw [if_pos a] at e
    by_cases b : t (B p) = true
    · rw [if_pos b] at e; cases e; exact ⟨rfl, a, b⟩
    · rw [if_neg b] at e; cases e
  · rw [if_neg a] at e; cases e
theorem nx_le {p q : Nat} (e : nx_S n p = .inr q) : q = p + 1 ∧ p < n := by
  unfold nx_S at e
  by_cases a : p < n
  · rw [if_pos a] at e; cases e; exact ⟨rfl, a⟩
  · rw [if_neg a] at e; cases e
theorem sk_le {m p q : Nat} (e : sk_S n m p = .inr q) : q = p + m ∧ p + m ≤ n := by
  unfold sk_S at e
  by_cases a : p + m ≤ n
  · rw [if_pos a] at e; cases e; exact ⟨rfl, a⟩
  · rw [if_neg a] at e; cases e
theorem bd_inr {s : Nat ⊕ Nat} {T : Nat → Nat ⊕ Nat} {q : Nat} (e : bd_S s T = .inr q) : ∃ p, s = .inr p ∧ T p = .inr q := by
  cases s with
  | inl x => cases e
  | inr p => exact ⟨p, rfl, e⟩
theorem bd_as (s : Nat ⊕ Nat) (T U : Nat → Nat ⊕ Nat) : bd_S (bd_S s T) U = bd_S s (fun p => bd_S (T p) U) := by cases s <;> rfl
theorem nx_by {p : Nat} : nx_S n p = by_S B n (fun _ => true) p := by
  unfold nx_S by_S
  by_cases a : p < n
  · rw [if_pos a, if_pos a, if_pos rfl]
  · rw [if_neg a, if_neg a]
theorem sk_1 {m p : Nat} (hp : p ≤ n) : sk_S n (m + 1) p = bd_S (nx_S n p) (sk_S n m) := by
  unfold nx_S
  by_cases a : p < n
  · rw [if_pos a, bd_r]
    unfold sk_S
    by_cases b : p + (m + 1) ≤ n
    · rw [if_pos b, if_pos (by omega)]; congr 1; omega
    · rw [if_neg b, if_neg (by omega)]
  · rw [if_neg a, bd_l]
    unfold sk_S
    rw [if_neg (by omega)]
theorem sk_0 {p : Nat} (hp : p ≤ n) : sk_S n 0 p = .inr p := by
  unfold sk_S; rw [if_pos (by omega)]; rfl
theorem tyl_S : ∀ (m p q : Nat), p ≤ n → ty_S B n m p = .inr q → q ≤ n := by
  intro m
  induction m with
  | zero => intro p q h e; unfold ty_S at e; cases e; exact h
  | succ m ih =>
    intro p q h e
    unfold ty_S at e
    obtain ⟨x, hx, e⟩ := bd_inr e
    obtain ⟨y, hy, hx⟩ := bd_inr hx
    have a := by_le hy
    refine ih x q ?_ e
    by_cases w : B p = 3
    · rw [if_pos w] at hx
      have := by_le hx
      omega
    · rw [if_neg w] at hx
      cases hx; omega
theorem ts_le {p q : Nat} (e : ts_S B n p = .inr q) : q ≤ n := by
  unfold ts_S at e
  obtain ⟨x, hx, e⟩ := bd_inr e
  have := nx_le hx
  exact tyl_S _ _ _ (by omega) e
theorem frl_S : ∀ (m p q : Nat), p ≤ n → fr_S B n m p = .inr q → q ≤ n := by
  intro m
  induction m with
  | zero => intro p q h e; unfold fr_S at e; cases e; exact h
  | succ m ih =>
    intro p q h e
    unfold fr_S at e
    obtain ⟨x, hx, e⟩ := bd_inr e
    obtain ⟨y, hy, hx⟩ := bd_inr hx
    exact ih x q (ts_le hx) e
theorem ff_le {p q : Nat} (e : ff_S B n p = .inr q) : q ≤ n := by
  unfold ff_S at e
  obtain ⟨x, hx, e⟩ := bd_inr e
  have := by_le hx
  exact frl_S _ _ _ (by omega) e
theorem hd_le : ∀ (m p q : Nat), p ≤ n → hd_S B n m p = .inr q → q ≤ n := by
  intro m
  induction m with
  | zero => intro p q h e; unfold hd_S at e; cases e; exact h
  | succ m ih =>
    intro p q h e
    unfold hd_S at e
    obtain ⟨x, hx, e⟩ := bd_inr e
    obtain ⟨y, hy, hx⟩ := bd_inr hx
    have := by_le hx
    exact ih x q (by omega) e
theorem hs_le {p q : Nat} (e : hs_S B n p = .inr q) : q ≤ n := by
  unfold hs_S at e
  obtain ⟨x, hx, e⟩ := bd_inr e
  have := by_le hx
  exact hd_le _ _ _ (by omega) e
theorem up_Tt {lo hi v : Int} (e : up_T lo hi v = true) : lo ≤ v ∧ v ≤ hi := by
  unfold up_T at e
  rw [Bool.and_eq_true, decide_eq_true_iff, decide_eq_true_iff] at e
  exact e
end
end
section
/- THE CLASS READS AN IMAGE: steps that only go on -/
section
variable {nn : Nat} {M M1 M2 : ms_M} {b : Nat} {B : Nat → Int} {n : Nat} {st : Nat ⊕ Nat}
/-- the state of the class's reading -/
def CRs (b n : Nat) (s : Nat ⊕ Nat) (M : ms_M) : Prop := match s with
  | .inl e => M b 3 = (e : Int)
  | .inr p => M b 3 = -1 ∧ M b 2 = (p : Int) ∧ p ≤ n
/-- only pos and form have changed -/
def FRz (b : Nat) (M M2 : ms_M) : Prop := ∀ c k, ¬ (c = b ∧ (k = 2 ∨ k = 3)) → M2 c k = M c k
theorem frp_r : FRz b M M := fun _ _ _ => rfl
theorem frp_t (A : FRz b M M1) (C : FRz b M1 M2) : FRz b M M2 := fun c k q => (C c k q).trans (A c k q)
theorem frp_2 {v : Int} : FRz b M (up_M M b 2 v) := fun c k q => up_n (by omega)
theorem frp_3 {v : Int} : FRz b M (up_M M b 3 v) := fun c k q => up_n (by omega)
theorem sr_row (h : sr_I M b B n) : (M b 0).toNat ≠ b ∧ ∀ off, 2 ≤ off → off ≤ 6 → (M b 0).toNat ≠ b + off := by
  obtain ⟨h1, h2, h3, h4, h5, h6, h7, h8⟩ := h
  refine ⟨fun z => ?_, fun off a1 a2 z => ?_⟩
  · rw [z, T_img h1] at h6; omega
  · rw [z, T_arr h1 ⟨a1, a2⟩] at h6; omega
/-- the Image's own numbers and rows may have changed -/
def IFp (b : Nat) (M M2 : ms_M) : Prop := ∀ c k, ¬ (c = b ∧ 2 ≤ k) → ¬ (b + 2 ≤ c ∧ c ≤ b + 6) → M2 c k = M c k
theorem ifp_t (A : IFp b M M1) (C : IFp b M1 M2) : IFp b M M2 := fun c k q w => (C c k q w).trans (A c k q w)
theorem ifp_r : IFp b M M := fun _ _ _ _ => rfl
theorem ifp_p (A : FRz b M M1) : IFp b M M1 := fun c k q _ => A c k (fun z => q ⟨z.1, by omega⟩)
theorem ifp_u {c k : Nat} {v : Int} (q : (c = b ∧ 2 ≤ k) ∨ (b + 2 ≤ c ∧ c ≤ b + 6)) : IFp b M (up_M M c k v) := fun c2 k2 w1 w2 => up_n (by omega)
theorem sr_if (h : sr_I M b B n) (A : IFp b M M2) : sr_I M2 b B n := by
  have w := sr_row h
  obtain ⟨h1, h2, h3, h4, h5, h6, h7, h8⟩ := h
  have ib := im_at h1
  have e0 : M2 b 0 = M b 0 := A b 0 (by omega) (by omega)
  have e1 : M2 b 1 = M b 1 := A b 1 (by omega) (by omega)
  have ec : cn_M M2 = cn_M M := by unfold cn_M; rw [A 900000 0 (by omega) (by omega)]
  have el : ln_I M2 (M b 0).toNat = ln_I M (M b 0).toNat := by
    unfold ln_I
    split
    · rfl
    · exact A _ _ (by omega) (by omega)
  have er : ∀ i, M2 (M b 0).toNat i = M (M b 0).toNat i := fun i => A _ _ (fun z => w.1 z.1) (fun z => w.2 ((M b 0).toNat - b) (by omega) (by omega) (by omega))
  refine ⟨h1, h2, by rw [e1]; exact h3, by rw [e0]; exact h4, by rw [e0, ec]; exact h5, by rw [e0]; exact h6, by rw [e0, el]; exact h7, fun i hi => ?_⟩
  rw [e0, er]; exact h8 i hi
theorem sr_fr (h : sr_I M b B n) (A : FRz b M M2) : sr_I M2 b B n := sr_if h (ifp_p A)
theorem c_next (I : sr_I M b B n) (C : CRs b n st M) : Pc (qf_X3_next nn b M) (fun u => FRz b M u.2 ∧ CRs b n (bd_S st (nx_S n)) u.2 ∧ ∀ p, st = .inr p → p < n → u.1 = B p) := by
  cases st with
  | inl e =>
    have C : M b 3 = (e : Int) := C
    unfold qf_X3_next
    refine pc_if (fun _ => ?_) (fun _ => ?_)
    · refine pc_xl ?_; intro v4 e4
      refine pc_xl ?_; intro h5 e5
      refine pc_ck (fun _ => pc_xl (fun v8 _ => pc_rT (fun v9 _ => pc_xl (fun v10 _ => pc_ret ⟨?_, ?_, fun p z => nomatch z⟩))))
      · rw [e5]; exact frp_2
      · show h5 b 3 = (e : Int)
        rw [e5, up_n (by omega)]; exact C
    · refine pc_if (fun _ => pc_xl (fun h13 e13 => pc_ret ⟨?_, ?_, fun p z => nomatch z⟩)) (fun q => absurd (by omega) q)
      · rw [e13]; exact frp_3
      · show h13 b 3 = (e : Int)
        rw [e13, up_s]; exact C
  | inr p =>
    obtain ⟨c1, c2, c3⟩ : M b 3 = -1 ∧ M b 2 = (p : Int) ∧ p ≤ n := C
    by_cases w : p < n
    · rw [next_in I (by omega)]
      refine pc_ret ⟨frp_2, ?_, fun p2 z _ => ?_⟩
      · rw [bd_r]; unfold nx_S; rw [if_pos w]
        refine ⟨?_, ?_, w⟩
        · show up_M M b 2 _ b 3 = -1
          rw [up_n (by omega)]; exact c1
        · show up_M M b 2 _ b 2 = _
          rw [up_s]; omega
      · cases z
        show B (M b 2).toNat = B p
        rw [c2]; rfl
    · rw [next_out I (by omega), if_pos c1]
      refine pc_ret ⟨frp_3, ?_, fun p2 z y => ?_⟩
      · rw [bd_r]; unfold nx_S; rw [if_neg w]
        show up_M M b 3 _ b 3 = (n : Int)
        exact up_s
      · cases z; exact absurd y w
/-- a byte was read, and is tested -/
theorem c_by {t : Int → Bool} {v : Int} (I : sr_I M b B n) (C : CRs b n (bd_S st (nx_S n)) M) (hv : ∀ p, st = .inr p → p < n → v = B p) : (t v = true → CRs b n (bd_S st (by_S B n t)) M) ∧ (¬ t v = true → ∀ x, x = oq_sub (M b 2) 1 → Pc (qf_X3_bad nn b x M) (fun M2 => FRz b M M2 ∧ CRs b n (bd_S st (by_S B n t)) M2)) := by
  cases st with
  | inl e =>
    have C : M b 3 = (e : Int) := C
    refine ⟨fun _ => C, fun _ x _ => ?_⟩
    rw [bad_ok, if_neg (by omega)]
    exact pc_ret ⟨frp_r, C⟩
  | inr p =>
    rw [bd_r] at C ⊢
    unfold nx_S at C
    by_cases w : p < n
    · rw [if_pos w] at C
      obtain ⟨c1, c2, c3⟩ : M b 3 = -1 ∧ M b 2 = ((p + 1 : Nat) : Int) ∧ p + 1 ≤ n := C
      have ev := hv p rfl w
      have n6 := I.2.1
      refine ⟨fun h => ?_, fun h x ex => ?_⟩
      · unfold by_S; rw [if_pos w, ← ev, if_pos h]; exact ⟨c1, c2, c3⟩
      · unfold by_S; rw [if_pos w, ← ev, if_neg h]
        rw [bad_ok, if_pos c1]
        refine pc_ret ⟨frp_3, ?_⟩
        show up_M M b 3 x b 3 = (p : Int)
        rw [up_s, ex, c2, oq_sub_eq (by omega) (by omega) (by omega)]; omega
    · rw [if_neg w] at C
      have C : M b 3 = (n : Int) := C
      unfold by_S; rw [if_neg w]
      refine ⟨fun _ => C, fun _ x _ => ?_⟩
      rw [bad_ok, if_neg (by omega)]
      exact pc_ret ⟨frp_r, C⟩
/-- what a step leaves: the value, if it was read -/
def CVs (b n : Nat) (B : Nat → Int) (st : Nat ⊕ Nat) (t : Int → Bool) (M : ms_M) : Int × ms_M → Prop := fun u => FRz b M u.2 ∧ CRs b n (bd_S st (by_S B n t)) u.2 ∧ ∀ p, st = .inr p → p < n → u.1 = B p
theorem c_upTo {lo hi : Int} (I : sr_I M b B n) (C : CRs b n st M) : Pc (qf_X3_nextUpTo nn b lo hi M) (CVs b n B st (up_T lo hi) M) := by
  unfold qf_X3_nextUpTo
  refine pc_sv (c_next I C) ?_; intro u6 q6
  obtain ⟨f6, C6, v6⟩ := q6
  have T := c_by (nn := nn) (t := up_T lo hi) (sr_fr I f6) C6 v6
  have bad : ¬ up_T lo hi u6.1 = true → Pc (qj_X3_nextUpTo_15 nn b u6.1 u6.2) (CVs b n B st (up_T lo hi) M) := fun z => by
    unfold qj_X3_nextUpTo_15
    refine pc_xl ?_; intro v2 e2
    refine pc_sv (T.2 z v2 e2) ?_; intro u4 q4
    exact pc_ret ⟨frp_t f6 q4.1, q4.2, v6⟩
  refine pc_if (fun c1 => bad ?_) (fun c1 => pc_if (fun c2 => pc_ret ⟨f6, T.1 ?_, v6⟩) (fun c2 => bad ?_))
  · intro z; unfold up_T at z; rw [Bool.and_eq_true, decide_eq_true_iff, decide_eq_true_iff] at z; omega
  · unfold up_T; rw [Bool.and_eq_true, decide_eq_true_iff, decide_eq_true_iff]; omega
  · intro z; unfold up_T at z; rw [Bool.and_eq_true, decide_eq_true_iff, decide_eq_true_iff] at z; omega
theorem c_skip {a : Int} (ha : a = 1 ∨ a = 3) : ∀ (m k : Nat) (i : Int) (st : Nat ⊕ Nat) (M : ms_M), 2 * a = i + m → 0 ≤ i → sr_I M b B n → CRs b n st M → Pc (qw_X3_skipPairs_2 nn k b a i M) (fun r => FRz b M r ∧ CRs b n (bd_S st (sk_S n m)) r) := by
  intro m
  induction m with
  | zero =>
    intro k i st M hm hi I C
    cases k with
    | zero => exact pc_none
    | succ k =>
      unfold qw_X3_skipPairs_2
      refine pc_xl ?_; intro v1 e1
      rw [oq_mul_eq (by omega) (by omega) (by omega)] at e1
      refine pc_if (fun _ => pc_ret ⟨frp_r, ?_⟩) (fun z => absurd (by omega) z)
      cases st with
      | inl e => exact C
      | inr p => rw [bd_r, sk_0 C.2.2]; exact C
  | succ m ih =>
    intro k i st M hm hi I C
    cases k with
    | zero => exact pc_none
    | succ k =>
      unfold qw_X3_skipPairs_2
      refine pc_xl ?_; intro v1 e1
      rw [oq_mul_eq (by omega) (by omega) (by omega)] at e1
      refine pc_if (fun z => absurd z (by omega)) (fun _ => ?_)
      refine pc_sv (c_next I C) ?_; intro u3 q3
      obtain ⟨f3, C3, -⟩ := q3
      refine pc_add (by omega) ?_; intro v4 e4
      refine pc_imp (ih k v4 _ u3.2 (by omega) (by omega) (sr_fr I f3) C3) (fun r q => ⟨frp_t f3 q.1, ?_⟩)
      have e : bd_S (bd_S st (nx_S n)) (sk_S n m) = bd_S st (sk_S n (m + 1)) := by
        cases st with
        | inl e => rfl
        | inr p => rw [bd_r, bd_r, sk_1 C.2.2]
      rw [← e]; exact q.2
theorem c_skipPairs {a : Int} {m : Nat} (ha : a = 1 ∨ a = 3) (hm : 2 * a = (m : Int)) (I : sr_I M b B n) (C : CRs b n st M) : Pc (qf_X3_skipPairs nn b a M) (fun r => FRz b M r ∧ CRs b n (bd_S st (sk_S n m)) r) := by
  unfold qf_X3_skipPairs
  exact c_skip ha m _ _ _ _ (by omega) (by omega) I C
/-- the constants' tables as far as j -/
def TTj (b n : Nat) (B : Nat → Int) (j : Int) (M : ms_M) : Prop := ∀ k : Int, 1 ≤ k → k ≤ j → M (b + 2) k.toNat = B (pl_S B n k) ∧ (B (pl_S B n k) = 1 → M (b + 3) k.toNat = ((pl_S B n k + 2 : Nat) : Int) ∧ M (b + 4) k.toNat = ((pl_S B n k + 2 + tl_S B n k : Nat) : Int) ∧ pl_S B n k + 2 + tl_S B n k ≤ n ∧ 1 ≤ tl_S B n k ∧ tl_S B n k ≤ 120 ∧ B (pl_S B n k + 1) = (tl_S B n k : Int)) ∧ (B (pl_S B n k) = 3 → M (b + 3) k.toNat = ((pl_S B n k + 1 : Nat) : Int) ∧ pl_S B n k + 2 ≤ n) ∧ (B (pl_S B n k) = 4 ∨ B (pl_S B n k) = 2 → M (b + 3) k.toNat = ((pl_S B n k + 1 : Nat) : Int) ∧ pl_S B n k + 4 ≤ n ∧ (B (pl_S B n k) = 2 → pl_S B n k + 5 ≤ n))
/-- all constants are read -/
def TTc (b n : Nat) (B : Nat → Int) (M : ms_M) : Prop := sr_I M b B n ∧ M b 7 = B 2 ∧ (0 ≤ B 2 ∧ B 2 ≤ 255) ∧ TTj b n B (B 2) M
theorem ttj_k {j : Int} (e2 : ∀ k, M2 (b + 2) k = M (b + 2) k) (e3 : ∀ k, M2 (b + 3) k = M (b + 3) k) (e4 : ∀ k, M2 (b + 4) k = M (b + 4) k) (T : TTj b n B j M) : TTj b n B j M2 := fun k h1 h2 => by
  rw [e2, e3, e4]; exact T k h1 h2
theorem ttc_k (A : IFp b M M2) (e7 : M2 b 7 = M b 7) (e2 : ∀ k, M2 (b + 2) k = M (b + 2) k) (e3 : ∀ k, M2 (b + 3) k = M (b + 3) k) (e4 : ∀ k, M2 (b + 4) k = M (b + 4) k) (T : TTc b n B M) : TTc b n B M2 := by
  obtain ⟨t1, t2, t3, t4⟩ := T
  exact ⟨sr_if t1 A, e7.trans t2, t3, ttj_k e2 e3 e4 t4⟩
theorem ttc_fr (A : FRz b M M2) (T : TTc b n B M) : TTc b n B M2 := ttc_k (ifp_p A) (A b 7 (by omega)) (fun k => A _ _ (by omega)) (fun k => A _ _ (by omega)) (fun k => A _ _ (by omega)) T
theorem c_tag (T : TTc b n B M) {k : Int} : qf_X3_tagOf nn b k M = some (tg_S B n k) := by
  obtain ⟨t1, t2, t3, t4⟩ := T
  rw [tagOf_ok (by omega), t2]
  unfold tg_S
  by_cases q : 1 ≤ k ∧ k ≤ B 2
  · rw [if_pos q, if_pos q, (t4 k q.1 q.2).1]
  · rw [if_neg q, if_neg q]
theorem tg_in {k : Int} (q : ¬ tg_S B n k = 0) : 1 ≤ k ∧ k ≤ B 2 ∧ tg_S B n k = B (pl_S B n k) := by
  unfold tg_S at q ⊢
  by_cases w : 1 ≤ k ∧ k ≤ B 2
  · rw [if_pos w]; exact ⟨w.1, w.2, rfl⟩
  · rw [if_neg w] at q; exact absurd rfl q
theorem c_tx (T : TTc b n B M) {k : Int} (q : tg_S B n k = 1) : tx_I M b k (pl_S B n k + 2) (pl_S B n k + 2 + tl_S B n k) ∧ pl_S B n k + 2 < pl_S B n k + 2 + tl_S B n k ∧ pl_S B n k + 2 + tl_S B n k ≤ n := by
  obtain ⟨t1, t2, t3, t4⟩ := T
  obtain ⟨w1, w2, w3⟩ := tg_in (B := B) (n := n) (k := k) (by omega)
  obtain ⟨x1, x2, -⟩ := t4 k w1 w2
  have x2 := x2 (by omega)
  exact ⟨⟨by omega, by omega, x2.1, x2.2.1⟩, by omega, by omega⟩
theorem c_no (T : TTc b n B M) {k : Int} (q : ¬ tg_S B n k = 1) : ¬ (1 ≤ k ∧ k ≤ M b 7 ∧ M (b + 2) k.toNat = 1) := by
  obtain ⟨t1, t2, t3, t4⟩ := T
  intro z
  have y := (t4 k z.1 (by omega)).1
  unfold tg_S at q
  rw [if_pos (by omega)] at q
  omega
theorem c_isName (hn : 1000000 ≤ nn) (T : TTc b n B M) {k : Int} : qf_X3_isNameText nn b k M = some (bi_N (nm_S B n k)) := by
  unfold nm_S
  by_cases q : tg_S B n k = 1
  · obtain ⟨x, y, z⟩ := c_tx T q
    rw [nameText_ok (by omega) T.1 x y z]
    have e : pl_S B n k + 2 + tl_S B n k - (pl_S B n k + 2) = tl_S B n k := by omega
    rw [e, decide_eq_true q, Bool.true_and]
  · rw [(noText (by have := T.2.1; have := T.2.2.1; omega) (c_no T q)).1, decide_eq_false q, Bool.false_and]; rfl
theorem c_isField (hn : 1000000 ≤ nn) (T : TTc b n B M) {k : Int} : qf_X3_isFieldKind nn b k M = some (bi_N (fk_S B n k)) := by
  unfold fk_S
  by_cases q : tg_S B n k = 1
  · obtain ⟨x, y, z⟩ := c_tx T q
    rw [fieldKind_ok (by omega) T.1 x y z, decide_eq_true q, Bool.true_and]
  · rw [(noText (by have := T.2.1; have := T.2.2.1; omega) (c_no T q)).2.1, decide_eq_false q, Bool.false_and]; rfl
theorem c_isArr (T : TTc b n B M) {k : Int} : qf_X3_isArrayText nn b k M = some (bi_N (ar_S B n k)) := by
  unfold ar_S
  by_cases q : tg_S B n k = 1
  · obtain ⟨x, y, z⟩ := c_tx T q
    rw [arrayText_ok T.1 x y z, decide_eq_true q, Bool.true_and]
  · rw [(noText (by have := T.2.1; have := T.2.2.1; omega) (c_no T q)).2.2.1, decide_eq_false q, Bool.false_and]; rfl
theorem c_par (hn : 1000000 ≤ nn) (T : TTc b n B M) {k : Int} : qf_X3_parametersIn nn b k M = some (op_E (pi_S B n k)) := by
  unfold pi_S
  by_cases q : tg_S B n k = 1
  · obtain ⟨x, y, z⟩ := c_tx T q
    rw [if_pos q, params_X (by omega) T.1 (by have := T.2.1; have := T.2.2.1; omega) ⟨x.1.1, x.1.2.1⟩ x.2.1 x.2.2.1 x.2.2.2 y z]
  · rw [if_neg q, (noText (by have := T.2.1; have := T.2.2.1; omega) (c_no T q)).2.2.2]; rfl
/-- a part of a CLASS or a MEMBER -/
theorem c_part (T : TTc b n B M) {k : Int} {i : Nat} (q : (tg_S B n k = 3 ∧ i = 0) ∨ (tg_S B n k = 4 ∧ i ≤ 2)) : qf_X3_partOf nn b k (i : Int) M = some (pt_S B n k i) := by
  obtain ⟨t1, t2, t3, t4⟩ := T
  obtain ⟨w1, w2, w3⟩ := tg_in (B := B) (n := n) (k := k) (by omega)
  obtain ⟨x1, -, x3, x4⟩ := t4 k w1 w2
  have y : M (b + 3) k.toNat = ((pl_S B n k + 1 : Nat) : Int) ∧ pl_S B n k + 1 + i < n := by
    rcases q with ⟨q, w⟩ | ⟨q, w⟩
    · have := x3 (by omega); exact ⟨this.1, by omega⟩
    · have := x4 (by omega); exact ⟨this.1, by omega⟩
  have n6 := t1.2.1
  have i2 : i ≤ 2 := by omega
  unfold qf_X3_partOf rd_A
  rw [if_neg (show ¬ k < 1 by omega), if_neg (show ¬ M b 7 < k by omega), if_neg (show ¬ 256 ≤ k by omega), if_pos (show 0 ≤ k ∧ k < 256 by omega)]
  dsimp only
  rw [xl_eq, y.1, oq_add_eq (by omega) (by omega) (by omega), byteAt_ok t1, mx_svs, if_pos (by omega)]
  unfold pt_S
  congr 2
theorem bi_0 {x : Bool} : bi_N x = 0 ↔ x = false := by cases x <;> decide
theorem bi_t {x : Bool} (q : ¬ bi_N x = 0) : x = true := by cases x; exact absurd rfl q; rfl
theorem bi_f {x : Bool} (q : bi_N x = 0) : ¬ x = true := by cases x; decide; exact absurd q (by decide)
theorem c_name (hn : 1000000 ≤ nn) (T : TTc b n B M) (C : CRs b n st M) : Pc (qf_X3_nextName nn b M) (CVs b n B st (nm_S B n) M) := by
  unfold qf_X3_nextName
  refine pc_sv (c_next T.1 C) ?_; intro u2 q2
  obtain ⟨f2, C2, v2⟩ := q2
  have T2 := ttc_fr f2 T
  have K := c_by (nn := nn) (t := nm_S B n) T2.1 C2 v2
  rw [c_isName hn T2, mx_svs]
  refine pc_if (fun c => pc_ret ⟨f2, K.1 (bi_t c), v2⟩) (fun c => ?_)
  refine pc_xl ?_; intro v6 e6
  refine pc_sv (K.2 (bi_f (Decidable.byContradiction c)) v6 e6) ?_; intro u8 q8
  exact pc_ret ⟨frp_t f2 q8.1, q8.2, v2⟩
theorem c_class (T : TTc b n B M) (C : CRs b n st M) : Pc (qf_X3_nextClass nn b M) (fun r => FRz b M r ∧ CRs b n (bd_S st (by_S B n (cl_S B n))) r) := by
  unfold qf_X3_nextClass
  refine pc_sv (c_next T.1 C) ?_; intro u2 q2
  obtain ⟨f2, C2, v2⟩ := q2
  have T2 := ttc_fr f2 T
  have K := c_by (nn := nn) (t := cl_S B n) T2.1 C2 v2
  rw [c_tag T2, mx_svs]
  refine pc_if (fun c => pc_ret ⟨f2, K.1 (decide_eq_true c)⟩) (fun c => ?_)
  refine pc_xl ?_; intro v6 e6
  refine pc_sv (K.2 (fun z => c (of_decide_eq_true z)) v6 e6) ?_; intro u8 q8
  exact pc_ret ⟨frp_t f2 q8.1, q8.2⟩
theorem c_plain (T : TTc b n B M) (C : CRs b n st M) : Pc (qf_X3_nextPlainClass nn b M) (fun u => FRz b M u.2 ∧ CRs b n (bd_S st (by_S B n (pc_S B n))) u.2 ∧ ∀ p q, st = .inr p → by_S B n (pc_S B n) p = .inr q → u.1 = pt_S B n (B p) 0) := by
  unfold qf_X3_nextPlainClass
  refine pc_sv (c_next T.1 C) ?_; intro u6 q6
  obtain ⟨f6, C6, v6⟩ := q6
  have T6 := ttc_fr f6 T
  have K := c_by (nn := nn) (t := pc_S B n) T6.1 C6 v6
  refine pc_se ?_; intro u8 e8
  rw [c_tag T6, mx_svs]
  have e8' : tg_S B n u6.1 = 3 → u8 = pt_S B n u6.1 0 := fun z => by
    have w := c_part (nn := nn) T6 (k := u6.1) (i := 0) (.inl ⟨z, rfl⟩)
    rw [show ((0 : Nat) : Int) = 0 from rfl, e8] at w
    exact Option.some.inj w
  have V : ∀ p q, st = .inr p → by_S B n (pc_S B n) p = .inr q → u8 = pt_S B n (B p) 0 := fun p q z y => by
    obtain ⟨-, y1, y2⟩ := by_le y
    have e := v6 p z y1
    rw [← e] at y2 ⊢
    unfold pc_S cl_S at y2
    rw [Bool.and_eq_true, decide_eq_true_iff] at y2
    exact e8' y2.1
  have bad : ¬ pc_S B n u6.1 = true → Pc (qj_X3_nextPlainClass_29 nn b u8 u6.2) (fun u => FRz b M u.2 ∧ CRs b n (bd_S st (by_S B n (pc_S B n))) u.2 ∧ ∀ p q, st = .inr p → by_S B n (pc_S B n) p = .inr q → u.1 = pt_S B n (B p) 0) := fun z => by
    unfold qj_X3_nextPlainClass_29
    refine pc_xl ?_; intro v2 e2
    refine pc_sv (K.2 z v2 e2) ?_; intro u4 q4
    exact pc_ret ⟨frp_t f6 q4.1, q4.2, V⟩
  refine pc_if (fun c => bad ?_) (fun c => ?_)
  · intro z; unfold pc_S cl_S at z; rw [Bool.and_eq_true, decide_eq_true_iff] at z; exact c z.1
  have c := Decidable.not_not.1 c
  rw [c_isArr T6, mx_svs]
  refine pc_if (fun d => ?_) (fun d => ?_)
  · have k : pc_S B n u6.1 = true := by
      unfold pc_S cl_S
      rw [Bool.and_eq_true, decide_eq_true_iff, Bool.not_eq_true', ← e8' c]
      exact ⟨c, bi_0.1 d⟩
    exact pc_ret ⟨f6, K.1 k, V⟩
  · refine bad ?_
    intro z
    unfold pc_S at z
    rw [Bool.and_eq_true, Bool.not_eq_true', ← e8' c] at z
    exact d (bi_0.2 z.2)
end
end
section
/- THE CLASS READS AN IMAGE: constants -/
section
variable {nn : Nat} {M M1 M2 : ms_M} {b : Nat} {B : Nat → Int} {n : Nat} {st : Nat ⊕ Nat}
theorem tb_le : ∀ (m q : Nat), q ≤ n → tb_N B n q m = none → q + m ≤ n := by
  intro m
  induction m with
  | zero => intro q hq _; exact hq
  | succ m ih =>
    intro q hq e
    unfold tb_N at e
    by_cases a : ¬ q < n
    · rw [if_pos a] at e; cases e
    · rw [if_neg a] at e
      by_cases c : B q < 33 ∨ 126 < B q
      · rw [if_pos c] at e; cases e
      · rw [if_neg c] at e
        have := ih (q + 1) (by omega) e
        omega
/-- bytes of a TEXT -/
def tb_S (B : Nat → Int) (n m q : Nat) : Nat ⊕ Nat := match tb_N B n q m with
  | some e => .inl e
  | none => .inr (q + m)
/-- one constant's row has changed -/
def FKp (b : Nat) (k : Int) (M M2 : ms_M) : Prop := ∀ c j, ¬ (c = b ∧ (j = 2 ∨ j = 3)) → ¬ ((c = b + 2 ∨ c = b + 3 ∨ c = b + 4) ∧ j = k.toNat) → M2 c j = M c j
theorem fk_fr {k : Int} (A : FKp b k M M1) (C : FRz b M1 M2) : FKp b k M M2 := fun c j q w => (C c j q).trans (A c j q w)
theorem fr_fk {k : Int} (A : FRz b M M1) (C : FKp b k M1 M2) : FKp b k M M2 := fun c j q w => (C c j q w).trans (A c j q)
theorem fk_if {k : Int} (A : FKp b k M M1) : IFp b M M1 := fun c j q w => A c j (fun z => q ⟨z.1, by omega⟩) (fun z => w (by omega))
theorem c_84l {k : Nat} {tag l3 l4 : Int} (C : ¬ M b 3 = -1) : Pc (qw_X3_readConstant_84 nn k b tag l3 l4 M) (fun r => r = M) := by
  cases k with
  | zero => exact pc_none
  | succ k =>
    unfold qw_X3_readConstant_84
    exact pc_if (fun _ => pc_ret rfl) (fun _ => pc_if (fun _ => pc_ret rfl) (fun z => absurd C z))
theorem c_40l {k tag l3 : Int} {e : Nat} (I : sr_I M b B n) (C : M b 3 = (e : Int)) : Pc (qj_X3_readConstant_40 nn b k tag l3 M) (fun r => FKp b k M r ∧ r b 3 = (e : Int)) := by
  unfold qj_X3_readConstant_40
  refine pc_wA ?_; intro i1 i2 h12 e12
  refine pc_wA ?_; intro j1 j2 h15 e15
  have F15 : FKp b k M h15 := fun c j q w => by rw [e15, up_n (by omega), e12, up_n (by omega)]
  have C15 : h15 b 3 = (e : Int) := by rw [e15, up_n (by omega), e12, up_n (by omega)]; exact C
  have D : ∀ v : Int, ∀ h, h = up_M h15 (b + 4) k.toNat v → FKp b k M h ∧ h b 3 = (e : Int) := fun v h eh => by
    refine ⟨fun c j q w => by rw [eh, up_n (by omega)]; exact F15 c j q w, ?_⟩
    rw [eh, up_n (by omega)]; exact C15
  refine pc_if (fun _ => ?_) (fun _ => ?_)
  · refine pc_wA ?_; intro l1 l2 h18 e18
    obtain ⟨d1, d2⟩ := D _ _ e18
    exact pc_imp (c_84l (by omega)) (fun r q => by rw [q]; exact ⟨d1, d2⟩)
  · refine pc_xl ?_; intro v20 e20
    refine pc_wA ?_; intro l1 l2 h21 e21
    obtain ⟨d1, d2⟩ := D _ _ e21
    exact pc_imp (c_84l (by omega)) (fun r q => by rw [q]; exact ⟨d1, d2⟩)
theorem c_40r (hn : 1000000 ≤ nn) {k tag : Int} {m q : Nat} (hm : m ≤ 120) (I : sr_I M b B n) (C : CRs b n (.inr q) M) : Pc (qj_X3_readConstant_40 nn b k tag (m : Int) M) (fun r => FKp b k M r ∧ CRs b n (if tag = 1 then tb_S B n m q else sk_S n m q) r ∧ (r (b + 2) k.toNat = tag ∧ r (b + 3) k.toNat = (q : Int) ∧ (tag = 1 → r (b + 4) k.toNat = ((q + m : Nat) : Int)))) := by
  obtain ⟨c1, c2, c3⟩ : M b 3 = -1 ∧ M b 2 = (q : Int) ∧ q ≤ n := C
  have n6 := I.2.1
  unfold qj_X3_readConstant_40
  refine pc_wA ?_; intro i1 i2 h12 e12
  refine pc_wA ?_; intro j1 j2 h15 e15
  have F15 : FKp b k M h15 := fun c j q w => by rw [e15, up_n (by omega), e12, up_n (by omega)]
  have p12 : h12 b 2 = (q : Int) := by rw [e12, up_n (by omega)]; exact c2
  have p15 : h15 b 2 = (q : Int) := by rw [e15, up_n (by omega)]; exact p12
  have f15 : h15 b 3 = -1 := by rw [e15, up_n (by omega), e12, up_n (by omega)]; exact c1
  have t15 : h15 (b + 2) k.toNat = tag := by rw [e15, up_n (by omega), e12, up_s]
  have a15 : h15 (b + 3) k.toNat = (q : Int) := by rw [e15, up_s]; exact p12
  have D : ∀ v : Int, ∀ h, h = up_M h15 (b + 4) k.toNat v → FKp b k M h ∧ (h b 3 = -1 ∧ h b 2 = (q : Int)) ∧ h (b + 2) k.toNat = tag ∧ h (b + 3) k.toNat = (q : Int) ∧ h (b + 4) k.toNat = v := fun v h eh => by
    refine ⟨fun c j q w => by rw [eh, up_n (by omega)]; exact F15 c j q w, ⟨?_, ?_⟩, ?_, ?_, ?_⟩
    · rw [eh, up_n (by omega)]; exact f15
    · rw [eh, up_n (by omega)]; exact p15
    · rw [eh, up_n (by omega)]; exact t15
    · rw [eh, up_n (by omega)]; exact a15
    · rw [eh, up_s]
  refine pc_if (fun w => ?_) (fun w => ?_)
  · refine pc_wA ?_; intro l1 l2 h18 e18
    obtain ⟨d1, ⟨d2, d3⟩, d4, d5, d6⟩ := D _ _ e18
    obtain ⟨g, g1, g2, g3, g4⟩ := rn_84 (nn := nn) (b := b) (B := B) (n := n) w m nn q 0 h18 (sr_if I (fk_if d1)) d2 d3 c3 (by omega) (by omega)
    rw [show ((0 + m : Nat) : Int) = (m : Int) by omega, show ((0 : Nat) : Int) = 0 from rfl] at g1
    rw [g1]
    refine pc_ret ⟨fk_fr d1 g2, ?_, ?_, ?_, fun z => absurd z w⟩
    · rw [if_neg w]
      unfold sk_S
      by_cases y : q + m ≤ n
      · rw [if_pos y]; exact ⟨(g3 y).2, (g3 y).1, y⟩
      · rw [if_neg y]; exact g4 y
    · rw [g2 _ _ (by omega)]; exact d4
    · rw [g2 _ _ (by omega)]; exact d5
  · have w := Decidable.not_not.1 w
    refine pc_xl ?_; intro v20 e20
    rw [p15, oq_add_eq (by omega) (by omega) (by omega)] at e20
    refine pc_wA ?_; intro l1 l2 h21 e21
    obtain ⟨d1, ⟨d2, d3⟩, d4, d5, d6⟩ := D _ _ e21
    obtain ⟨g, g1, g2, g3, g4⟩ := rt_84 (nn := nn) (b := b) (B := B) (n := n) m nn q 0 h21 (sr_if I (fk_if d1)) d2 d3 (by omega) (by omega)
    rw [show ((0 + m : Nat) : Int) = (m : Int) by omega, show ((0 : Nat) : Int) = 0 from rfl] at g1
    rw [w, g1]
    refine pc_ret ⟨fk_fr d1 g2, ?_, ?_, ?_, fun _ => ?_⟩
    · rw [if_pos rfl]
      unfold tb_S
      cases y : tb_N B n q m with
      | none => exact ⟨(g3 y).2, (g3 y).1, tb_le m q c3 y⟩
      | some f => exact g4 f y
    · rw [g2 _ _ (by omega), d4, w]
    · rw [g2 _ _ (by omega)]; exact d5
    · rw [g2 _ _ (by omega), d6]; omega
/-- what stands in the tables for the constant at p -/
def TEp (b n : Nat) (B : Nat → Int) (k : Int) (p : Nat) (M : ms_M) : Prop := M (b + 2) k.toNat = B p ∧ (B p = 1 → M (b + 3) k.toNat = ((p + 2 : Nat) : Int) ∧ M (b + 4) k.toNat = ((p + 2 + (B (p + 1)).toNat : Nat) : Int) ∧ p + 2 + (B (p + 1)).toNat ≤ n ∧ 1 ≤ (B (p + 1)).toNat ∧ (B (p + 1)).toNat ≤ 120 ∧ B (p + 1) = ((B (p + 1)).toNat : Int)) ∧ (B p = 3 → M (b + 3) k.toNat = ((p + 1 : Nat) : Int) ∧ p + 2 ≤ n) ∧ (B p = 4 ∨ B p = 2 → M (b + 3) k.toNat = ((p + 1 : Nat) : Int) ∧ p + 4 ≤ n ∧ (B p = 2 → p + 5 ≤ n))
theorem c_const (hn : 1000000 ≤ nn) {k : Int} {p : Nat} (I : sr_I M b B n) (C : CRs b n (.inr p) M) : Pc (qf_X3_readConstant nn b k M) (fun r => FKp b k M r ∧ CRs b n (ct_S B n p) r ∧ ∀ q, ct_S B n p = .inr q → TEp b n B k p r) := by
  have hB : ∀ i, i < n → 0 ≤ B i ∧ B i ≤ 255 := fun i hi => sr_B I hi
  unfold qf_X3_readConstant
  refine pc_sv (c_upTo I C) ?_; intro u27 q27
  obtain ⟨f27, C27, v27⟩ := q27
  have I27 := sr_fr I f27
  rw [bd_r] at C27
  by_cases w : p < n
  · have v := v27 p rfl w
    have hp := hB p w
    by_cases g : 1 ≤ B p ∧ B p ≤ 4
    · have e1 : by_S B n (up_T 1 4) p = .inr (p + 1) := by
        unfold by_S up_T
        rw [if_pos w, if_pos (by rw [Bool.and_eq_true, decide_eq_true_iff, decide_eq_true_iff]; exact g)]
      rw [e1] at C27
      have go : ∀ m : Nat, m ≤ 4 → ¬ B p = 1 → ct_S B n p = sk_S n m (p + 1) → (B p = 3 → 1 ≤ m) → (B p = 4 ∨ B p = 2 → 3 ≤ m ∧ (B p = 2 → 4 ≤ m)) → Pc (qj_X3_readConstant_26 nn b k u27.1 (m : Int) u27.2) (fun r => FKp b k M r ∧ CRs b n (ct_S B n p) r ∧ ∀ q, ct_S B n p = .inr q → TEp b n B k p r) := by
        intro m hm h1 hc h3 h4
        unfold qj_X3_readConstant_26
        rw [v, if_pos h1]
        refine pc_imp (c_40r hn (by omega) I27 C27) (fun r q => ⟨fr_fk f27 q.1, ?_, fun x hx => ?_⟩)
        · have := q.2.1
          rw [if_neg h1] at this
          rw [hc]; exact this
        · obtain ⟨y1, y2, y3⟩ := q.2.2
          rw [hc] at hx
          have z := sk_le hx
          exact ⟨y1, fun z1 => absurd z1 h1, fun z3 => ⟨y2, by have := h3 z3; omega⟩, fun z4 => ⟨y2, by have := (h4 z4).1; omega, fun z2 => by have := (h4 z4).2 z2; omega⟩⟩
      refine pc_if (fun n2 => pc_if (fun n3 => ?_) (fun n3 => ?_)) (fun n2 => ?_)
      · rw [v] at n2 n3
        by_cases n1 : B p = 1
        · unfold qj_X3_readConstant_26
          rw [v, if_neg (fun z => z n1)]
          refine pc_sv (c_upTo I27 C27) ?_; intro u24 q24
          obtain ⟨f24, C24, v24⟩ := q24
          have I24 := sr_fr I27 f24
          rw [bd_r] at C24
          by_cases w1 : p + 1 < n
          · have vv := v24 (p + 1) rfl w1
            have hp1 := hB (p + 1) w1
            by_cases g1 : 1 ≤ B (p + 1) ∧ B (p + 1) ≤ 120
            · have e2 : by_S B n (up_T 1 120) (p + 1) = .inr (p + 1 + 1) := by
                unfold by_S up_T
                rw [if_pos w1, if_pos (by rw [Bool.and_eq_true, decide_eq_true_iff, decide_eq_true_iff]; exact g1)]
              rw [e2] at C24
              have em : u24.1 = ((B (p + 1)).toNat : Int) := by rw [vv]; omega
              rw [em]
              have hc : ct_S B n p = tb_S B n (B (p + 1)).toNat (p + 2) := by
                unfold ct_S ct_N tb_S
                rw [if_pos w, if_pos n1, if_pos w1]
                dsimp only
                rw [if_neg (by omega)]
                all_goals (cases tb_N B n (p + 2) (B (p + 1)).toNat <;> rfl)
              refine pc_imp (c_40r hn (by omega) I24 C24) (fun r q => ⟨fr_fk f27 (fr_fk f24 q.1), ?_, fun x hx => ?_⟩)
              · have := q.2.1
                rw [if_pos n1] at this
                rw [hc]; exact this
              · obtain ⟨y1, y2, y3⟩ := q.2.2
                rw [hc] at hx
                have z : tb_N B n (p + 2) (B (p + 1)).toNat = none := by
                  unfold tb_S at hx
                  cases zz : tb_N B n (p + 2) (B (p + 1)).toNat with
                  | none => rfl
                  | some f => rw [zz] at hx; cases hx
                have z2 := tb_le _ _ (by omega) z
                refine ⟨y1, fun _ => ⟨y2, y3 n1, z2, by omega, by omega, by omega⟩, fun z3 => absurd z3 n3, fun z4 => absurd z4 (by omega)⟩
            · have e2 : by_S B n (up_T 1 120) (p + 1) = .inl (p + 1) := by
                unfold by_S up_T
                rw [if_pos w1, if_neg (by rw [Bool.and_eq_true, decide_eq_true_iff, decide_eq_true_iff]; exact g1)]
              rw [e2] at C24
              have hc : ct_S B n p = .inl (p + 1) := by
                unfold ct_S ct_N
                rw [if_pos w, if_pos n1, if_pos w1]
                dsimp only
                rw [if_pos (by omega)]
              rw [hc]
              exact pc_imp (c_40l I24 C24) (fun r q => ⟨fr_fk f27 (fr_fk f24 q.1), q.2, fun x hx => nomatch hx⟩)
          · have e2 : by_S B n (up_T 1 120) (p + 1) = .inl n := by unfold by_S; rw [if_neg w1]
            rw [e2] at C24
            have hc : ct_S B n p = .inl n := by
              unfold ct_S ct_N
              rw [if_pos w, if_pos n1, if_neg w1]
            rw [hc]
            exact pc_imp (c_40l I24 C24) (fun r q => ⟨fr_fk f27 (fr_fk f24 q.1), q.2, fun x hx => nomatch hx⟩)
        · have n4 : B p = 4 := by omega
          refine go 3 (by omega) n1 ?_ (fun z => absurd z n3) (fun _ => ⟨by omega, fun z => absurd z n2⟩)
          unfold ct_S ct_N sk_S
          rw [if_pos w, if_neg n1, if_neg n2, if_neg n3, if_pos n4]
          dsimp only
          by_cases y : p + 3 < n
          · rw [if_pos y, if_pos (by omega)]
          · rw [if_neg y, if_neg (by omega)]
      · have n3 := Decidable.not_not.1 n3
        rw [v] at n3
        refine go 1 (by omega) (by omega) ?_ (fun _ => by omega) (fun z => absurd z (by omega))
        unfold ct_S ct_N sk_S
        rw [if_pos w, if_neg (by omega), if_neg (by omega), if_pos n3]
        dsimp only
        by_cases y : p + 1 < n
        · rw [if_pos y, if_pos (by omega)]
        · rw [if_neg y, if_neg (by omega)]
      · have n2 := Decidable.not_not.1 n2
        rw [v] at n2
        refine go 4 (by omega) (by omega) ?_ (fun z => absurd z (by omega)) (fun _ => ⟨by omega, fun _ => by omega⟩)
        unfold ct_S ct_N sk_S
        rw [if_pos w, if_neg (by omega), if_pos n2]
        dsimp only
        by_cases y : p + 4 < n
        · rw [if_pos y, if_pos (by omega)]
        · rw [if_neg y, if_neg (by omega)]
    · have e1 : by_S B n (up_T 1 4) p = .inl p := by
        unfold by_S up_T
        rw [if_pos w, if_neg (by rw [Bool.and_eq_true, decide_eq_true_iff, decide_eq_true_iff]; exact g)]
      rw [e1] at C27
      have hc : ct_S B n p = .inl p := by
        unfold ct_S ct_N
        rw [if_pos w, if_neg (by omega), if_neg (by omega), if_neg (by omega), if_neg (by omega)]
      rw [hc]
      have out : ∀ s0 : Int, Pc (qj_X3_readConstant_26 nn b k u27.1 s0 u27.2) (fun r => FKp b k M r ∧ CRs b n (.inl p) r ∧ ∀ q, (.inl p : Nat ⊕ Nat) = .inr q → TEp b n B k p r) := fun s0 => by
        unfold qj_X3_readConstant_26
        rw [v, if_pos (by omega)]
        exact pc_imp (c_40l I27 C27) (fun r q => ⟨fr_fk f27 q.1, q.2, fun x hx => nomatch hx⟩)
      exact pc_if (fun _ => pc_if (fun _ => out _) (fun _ => out _)) (fun _ => out _)
  · have e1 : by_S B n (up_T 1 4) p = .inl n := by unfold by_S; rw [if_neg w]
    rw [e1] at C27
    have hc : ct_S B n p = .inl n := by unfold ct_S; rw [if_neg w]
    rw [hc]
    have out : ∀ s0 : Int, Pc (qj_X3_readConstant_26 nn b k u27.1 s0 u27.2) (fun r => FKp b k M r ∧ CRs b n (.inl n) r ∧ ∀ q, (.inl n : Nat ⊕ Nat) = .inr q → TEp b n B k p r) := fun s0 => by
      unfold qj_X3_readConstant_26
      refine pc_if (fun _ => ?_) (fun _ => ?_)
      · exact pc_imp (c_40l I27 C27) (fun r q => ⟨fr_fk f27 q.1, q.2, fun x hx => nomatch hx⟩)
      · refine pc_sv (c_upTo I27 C27) ?_; intro u24 q24
        exact pc_imp (c_40l (sr_fr I27 q24.1) q24.2.1) (fun r q => ⟨fr_fk f27 (fr_fk q24.1 q.1), q.2, fun x hx => nomatch hx⟩)
    exact pc_if (fun _ => pc_if (fun _ => out _) (fun _ => out _)) (fun _ => out _)
/-- FORM at x, if there is none yet -/
theorem c_badx {s : Nat ⊕ Nat} {x : Nat} (C : CRs b n s M) : Pc (qf_X3_bad nn b (x : Int) M) (fun r => FRz b M r ∧ CRs b n (bd_S s (fun _ => .inl x)) r) := by
  rw [bad_ok]
  cases s with
  | inl e =>
    have C : M b 3 = (e : Int) := C
    rw [if_neg (by omega)]
    exact pc_ret ⟨frp_r, C⟩
  | inr p =>
    rw [if_pos C.1]
    exact pc_ret ⟨frp_3, up_s⟩
/-- a test without a byte -/
def te_S (t : Bool) (x : Nat) (p : Nat) : Nat ⊕ Nat := if t = true then .inr p else .inl x
theorem c_te {s : Nat ⊕ Nat} {t : Bool} {x : Nat} (C : CRs b n s M) (q : t = true) : CRs b n (bd_S s (te_S t x)) M := by
  cases s with
  | inl e => exact C
  | inr p => rw [bd_r]; unfold te_S; rw [if_pos q]; exact C
theorem c_tf {s : Nat ⊕ Nat} {t : Bool} {x : Nat} (C : CRs b n s M) (q : ¬ t = true) : Pc (qf_X3_bad nn b (x : Int) M) (fun r => FRz b M r ∧ CRs b n (bd_S s (te_S t x)) r) := by
  refine pc_imp (c_badx C) (fun r w => ⟨w.1, ?_⟩)
  cases s with
  | inl e => exact w.2
  | inr p =>
    rw [bd_r]; unfold te_S; rw [if_neg q]; exact w.2
theorem c_109 (hn : 1000000 ≤ nn) {k : Int} {l2 : Int} {s : Nat ⊕ Nat} (T : TTc b n B M) (t4 : tg_S B n k = 4) (e2 : l2 = ((pl_S B n k + 1 : Nat) : Int)) (C : CRs b n s M) : Pc (qj_X3_checkConstant_109 nn b l2 (pt_S B n k 2) M) (fun r => FRz b M r ∧ CRs b n (bd_S s (te_S (fk_S B n (pt_S B n k 2) || (pi_S B n (pt_S B n k 2)).isSome) (pl_S B n k + 3))) r) := by
  have n6 := T.1.2.1
  have w := tg_in (B := B) (n := n) (k := k) (by omega)
  have x := (T.2.2.2 k w.1 w.2.1).2.2.2 (by omega)
  unfold qj_X3_checkConstant_109
  rw [c_isField hn T, mx_svs]
  refine pc_if (fun c => pc_ret ⟨frp_r, c_te C (by rw [bi_t c, Bool.true_or])⟩) (fun c => ?_)
  have c := bi_f (Decidable.not_not.1 c)
  rw [c_par hn T, mx_svs]
  refine pc_if (fun d => pc_ret ⟨frp_r, c_te C ?_⟩) (fun d => ?_)
  · cases y : pi_S B n (pt_S B n k 2) with
    | none => rw [y] at d; exact absurd rfl d
    | some m => rw [Option.isSome_some, Bool.or_true]
  · have d := Decidable.not_not.1 d
    refine pc_xl ?_; intro v5 e5
    rw [e2, oq_add_eq (by omega) (by omega) (by omega)] at e5
    have e5 : v5 = ((pl_S B n k + 3 : Nat) : Int) := by omega
    rw [e5]
    refine pc_sv (c_tf (t := (fk_S B n (pt_S B n k 2) || (pi_S B n (pt_S B n k 2)).isSome)) C ?_) ?_
    · intro z
      rw [Bool.or_eq_true] at z
      rcases z with z | z
      · exact c z
      · cases y : pi_S B n (pt_S B n k 2) with
        | none => rw [y] at z; cases z
        | some m => rw [y] at d; unfold op_E at d; dsimp only at d; omega
    · intro u7 q7; exact pc_ret q7
theorem c_89 (hn : 1000000 ≤ nn) {k : Int} {l2 : Int} {s : Nat ⊕ Nat} (T : TTc b n B M) (t4 : tg_S B n k = 4) (e2 : l2 = ((pl_S B n k + 1 : Nat) : Int)) (C : CRs b n s M) : Pc (qj_X3_checkConstant_89 nn b k l2 (pt_S B n k 2) M) (fun r => FRz b M r ∧ CRs b n (bd_S (bd_S s (te_S (nm_S B n (pt_S B n k 1)) (pl_S B n k + 2))) (te_S (fk_S B n (pt_S B n k 2) || (pi_S B n (pt_S B n k 2)).isSome) (pl_S B n k + 3))) r) := by
  have n6 := T.1.2.1
  have w := tg_in (B := B) (n := n) (k := k) (by omega)
  have x := (T.2.2.2 k w.1 w.2.1).2.2.2 (by omega)
  unfold qj_X3_checkConstant_89
  have p1 := c_part (nn := nn) T (k := k) (i := 1) (.inr ⟨t4, by omega⟩)
  rw [show ((1 : Nat) : Int) = 1 from rfl] at p1
  rw [p1, mx_svs, c_isName hn T, mx_svs]
  refine pc_if (fun c => c_109 hn T t4 e2 (c_te C (bi_t c))) (fun c => ?_)
  have c := bi_f (Decidable.not_not.1 c)
  refine pc_xl ?_; intro v14 e14
  rw [e2, oq_add_eq (by omega) (by omega) (by omega)] at e14
  have e14 : v14 = ((pl_S B n k + 2 : Nat) : Int) := by omega
  rw [e14]
  refine pc_sv (c_tf C c) ?_; intro u16 q16
  exact pc_imp (c_109 hn (ttc_fr q16.1 T) t4 e2 q16.2) (fun r q => ⟨frp_t q16.1 q.1, q.2⟩)
theorem c_53 (hn : 1000000 ≤ nn) {k : Int} {l2 : Int} {s : Nat ⊕ Nat} (T : TTc b n B M) (w : 1 ≤ k ∧ k ≤ B 2) (e2 : tg_S B n k = 4 → l2 = ((pl_S B n k + 1 : Nat) : Int)) (C : CRs b n s M) : Pc (qj_X3_checkConstant_53 nn b k l2 M) (fun r => FRz b M r ∧ CRs b n (if tg_S B n k = 4 then bd_S (bd_S (bd_S s (te_S (cl_S B n (pt_S B n k 0)) (pl_S B n k + 1))) (te_S (nm_S B n (pt_S B n k 1)) (pl_S B n k + 2))) (te_S (fk_S B n (pt_S B n k 2) || (pi_S B n (pt_S B n k 2)).isSome) (pl_S B n k + 3)) else s) r) := by
  have tk : tg_S B n k = M (b + 2) k.toNat := by
    unfold tg_S; rw [if_pos w, (T.2.2.2 k w.1 w.2).1]
  unfold qj_X3_checkConstant_53
  refine pc_rA ?_; intro i1 i2 v19 e19
  rw [← tk] at e19
  refine pc_if (fun c => pc_ret ⟨frp_r, by rw [if_neg (by omega)]; exact C⟩) (fun c => ?_)
  have t4 : tg_S B n k = 4 := by omega
  have e2 := e2 t4
  rw [if_pos t4]
  have p2 := c_part (nn := nn) T (k := k) (i := 2) (.inr ⟨t4, by omega⟩)
  have p0 := c_part (nn := nn) T (k := k) (i := 0) (.inr ⟨t4, by omega⟩)
  rw [show ((2 : Nat) : Int) = 2 from rfl] at p2
  rw [show ((0 : Nat) : Int) = 0 from rfl] at p0
  rw [p2, mx_svs, p0, mx_svs, c_tag T, mx_svs]
  refine pc_if (fun d => c_89 hn T t4 e2 (c_te C (decide_eq_true d))) (fun d => ?_)
  rw [e2]
  refine pc_sv (c_tf C (fun z => d (of_decide_eq_true z))) ?_; intro u27 q27
  exact pc_imp (c_89 hn (ttc_fr q27.1 T) t4 rfl q27.2) (fun r q => ⟨frp_t q27.1 q.1, q.2⟩)
theorem c_check (hn : 1000000 ≤ nn) {k : Int} {p : Nat} (T : TTc b n B M) (w : 1 ≤ k ∧ k ≤ B 2) (C : CRs b n (.inr p) M) : Pc (qf_X3_checkConstant nn b k M) (fun r => FRz b M r ∧ CRs b n (match ck_S B n k with
    | some e => .inl e
    | none => .inr p) r) := by
  have tk : tg_S B n k = M (b + 2) k.toNat := by
    unfold tg_S; rw [if_pos w, (T.2.2.2 k w.1 w.2).1]
  have tb : tg_S B n k = B (pl_S B n k) := by unfold tg_S; rw [if_pos w]
  obtain ⟨x1, x2, x3, x4⟩ := T.2.2.2 k w.1 w.2
  unfold qf_X3_checkConstant
  refine pc_rA ?_; intro i1 i2 v33 e33
  refine pc_rA ?_; intro j1 j2 v35 e35
  rw [← tk] at e35
  have h4 : tg_S B n k = 4 → v33 = ((pl_S B n k + 1 : Nat) : Int) := fun z => by rw [e33]; exact (x4 (by omega)).1
  refine pc_if (fun c => ?_) (fun c => ?_)
  · refine pc_imp (c_53 hn T w h4 C) (fun r q => ⟨q.1, ?_⟩)
    have q2 := q.2
    unfold ck_S
    rw [if_neg (by omega)]
    by_cases t4 : tg_S B n k = 4
    · rw [if_pos t4] at q2 ⊢
      rw [bd_r] at q2
      unfold te_S at q2
      by_cases y1 : cl_S B n (pt_S B n k 0) = true
      · rw [if_pos y1] at q2 ⊢
        rw [bd_r] at q2
        by_cases y2 : nm_S B n (pt_S B n k 1) = true
        · rw [if_pos y2] at q2 ⊢
          rw [bd_r] at q2
          by_cases y3 : (fk_S B n (pt_S B n k 2) || (pi_S B n (pt_S B n k 2)).isSome) = true
          · rw [if_pos y3] at q2 ⊢; exact q2
          · rw [if_neg y3] at q2 ⊢; exact q2
        · rw [if_neg y2] at q2 ⊢; exact q2
      · rw [if_neg y1] at q2 ⊢; exact q2
    · rw [if_neg t4] at q2 ⊢; exact q2
  · have t3 : tg_S B n k = 3 := by omega
    have h3 : v33 = ((pl_S B n k + 1 : Nat) : Int) := by rw [e33]; exact (x3 (by omega)).1
    have p0 := c_part (nn := nn) T (k := k) (i := 0) (.inl ⟨t3, rfl⟩)
    rw [show ((0 : Nat) : Int) = 0 from rfl] at p0
    rw [p0, mx_svs, c_isName hn T, mx_svs]
    have fin : ∀ {g : ms_M}, TTc b n B g → CRs b n (te_S (nm_S B n (pt_S B n k 0) || (ar_S B n (pt_S B n k 0) && fk_S B n (pt_S B n k 0))) (pl_S B n k + 1) p) g → Pc (qj_X3_checkConstant_53 nn b k v33 g) (fun r => FRz b g r ∧ CRs b n (match ck_S B n k with
        | some e => .inl e
        | none => .inr p) r) := fun Tg Cg => by
      refine pc_imp (c_53 hn Tg w (fun z => absurd z (by omega)) Cg) (fun r q => ⟨q.1, ?_⟩)
      have q2 := q.2
      rw [if_neg (by omega)] at q2
      unfold ck_S
      rw [if_pos t3]
      unfold te_S at q2
      by_cases y : (nm_S B n (pt_S B n k 0) || (ar_S B n (pt_S B n k 0) && fk_S B n (pt_S B n k 0))) = true
      · rw [if_pos y] at q2 ⊢; exact q2
      · rw [if_neg y] at q2 ⊢; exact q2
    have bad : ¬ (nm_S B n (pt_S B n k 0) || (ar_S B n (pt_S B n k 0) && fk_S B n (pt_S B n k 0))) = true → Pc (qj_X3_checkConstant_48 nn b k v33 M) (fun r => FRz b M r ∧ CRs b n (match ck_S B n k with
        | some e => .inl e
        | none => .inr p) r) := fun z => by
      unfold qj_X3_checkConstant_48
      rw [h3]
      refine pc_sv (c_tf C z) ?_; intro u31 q31
      rw [← h3]
      exact pc_imp (fin (ttc_fr q31.1 T) q31.2) (fun r q => ⟨frp_t q31.1 q.1, q.2⟩)
    refine pc_if (fun c1 => fin T (c_te (s := .inr p) C (by rw [bi_t c1, Bool.true_or]))) (fun c1 => ?_)
    have c1 := bi_f (Decidable.not_not.1 c1)
    rw [c_isArr T, mx_svs]
    refine pc_if (fun c2 => bad ?_) (fun c2 => ?_)
    · rw [bi_0.1 c2, Bool.false_and, Bool.or_false]; exact c1
    rw [c_isField hn T, mx_svs]
    refine pc_if (fun c3 => fin T (c_te (s := .inr p) C (by rw [bi_t c2, bi_t c3]; exact Bool.or_true _))) (fun c3 => bad ?_)
    rw [bi_0.1 (Decidable.not_not.1 c3), Bool.and_false, Bool.or_false]; exact c1
end
end
section
/- THE CLASS READS AN IMAGE: all of it -/
section
variable {nn : Nat} {M M1 M2 : ms_M} {b : Nat} {B : Nat → Int} {n : Nat} {st : Nat ⊕ Nat}
theorem ctl_S {p q : Nat} (e : ct_S B n p = .inr q) : q = (ct_N B n p).1 := by
  unfold ct_S at e
  by_cases a : p < n
  · rw [if_pos a] at e
    cases z : (ct_N B n p).2 with
    | some f => rw [z] at e; cases e
    | none => rw [z] at e; cases e; rfl
  · rw [if_neg a] at e; cases e
theorem pl_n {k : Int} (hk : 1 ≤ k) {q : Nat} (e : ct_S B n (pl_S B n k) = .inr q) : q = pl_S B n (k + 1) := by
  rw [ctl_S e]
  unfold pl_S
  have z : (k + 1 - 1).toNat = (k - 1).toNat + 1 := by omega
  rw [z]; rfl
theorem te_ttj {k : Int} (hk : 1 ≤ k) (T : TTj b n B (k - 1) M) (F : FKp b k M M2) (E : TEp b n B k (pl_S B n k) M2) : TTj b n B k M2 := by
  intro j h1 h2
  by_cases q : j = k
  · rw [q]; exact E
  · have w := T j h1 (by omega)
    rw [F (b + 2) j.toNat (by omega) (by omega), F (b + 3) j.toNat (by omega) (by omega), F (b + 4) j.toNat (by omega) (by omega)]
    exact w
/-- the check of the constants from k on -/
theorem c_57 (hn : 1000000 ≤ nn) : ∀ (m f : Nat) (k : Int) (st : Nat ⊕ Nat) (M : ms_M), (k + m = B 2 + 1 ∧ 1 ≤ k) → (∀ p, st = .inr p → TTc b n B M) → (M b 7 = B 2) → B 2 ≤ 255 → CRs b n st M → Pc (qw_X3_readConstants_57 nn f b k M) (fun r => FRz b M r ∧ CRs b n (bd_S st (fun p => match cks_S B n m k with
    | some e => .inl e
    | none => .inr p)) r) := by
  intro m
  induction m with
  | zero =>
    intro f k st M hk T e7 h2 C
    cases f with
    | zero => exact pc_none
    | succ f =>
      unfold qw_X3_readConstants_57
      refine pc_if (fun _ => pc_ret ⟨frp_r, ?_⟩) (fun z => absurd (by omega) z)
      cases st with
      | inl e => exact C
      | inr p => exact C
  | succ m ih =>
    intro f k st M hk T e7 h2 C
    cases f with
    | zero => exact pc_none
    | succ f =>
      unfold qw_X3_readConstants_57
      refine pc_if (fun z => absurd z (by omega)) (fun _ => ?_)
      cases st with
      | inl e =>
        have C : M b 3 = (e : Int) := C
        exact pc_if (fun _ => pc_ret ⟨frp_r, C⟩) (fun z => absurd (by omega) z)
      | inr p =>
        refine pc_if (fun z => absurd C.1 z) (fun _ => ?_)
        have T := T p rfl
        refine pc_sv (c_check hn T ⟨hk.2, by omega⟩ C) ?_; intro u4 q4
        refine pc_add (by omega) ?_; intro v5 e5
        have T4 := ttc_fr q4.1 T
        rw [e5]
        have q42 := q4.2
        refine pc_imp (ih f (k + 1) _ u4 (by omega) (fun _ _ => T4) (by rw [q4.1 b 7 (by omega)]; exact e7) h2 q42) (fun r q => ⟨frp_t q4.1 q.1, ?_⟩)
        have q2 := q.2
        rw [bd_r]
        unfold cks_S
        cases z : ck_S B n k with
        | some x => rw [z] at q2; exact q2
        | none => rw [z] at q2; exact q2
/-- the constants from k on, then their check -/
theorem c_28 (hn : 1000000 ≤ nn) : ∀ (m f : Nat) (k : Int) (st : Nat ⊕ Nat) (M : ms_M), (k + m = B 2 + 1 ∧ 1 ≤ k) → sr_I M b B n → M b 7 = B 2 → B 2 ≤ 255 → (∀ p, st = .inr p → p = pl_S B n k ∧ TTj b n B (k - 1) M) → CRs b n st M → Pc (qw_X3_readConstants_28 nn f b k M) (fun r => (IFp b M r ∧ ∀ j, 4 ≤ j → r b j = M b j) ∧ CRs b n (bd_S (bd_S st (ks_S B n m)) (fun p => match cks_S B n (B 2).toNat 1 with
    | some e => .inl e
    | none => .inr p)) r ∧ ∀ p, bd_S st (ks_S B n m) = .inr p → TTc b n B r) := by
  intro m
  induction m with
  | zero =>
    intro f k st M hk I e7 h2 T C
    cases f with
    | zero => exact pc_none
    | succ f =>
      have es : bd_S st (ks_S B n 0) = st := by cases st <;> rfl
      have TT : ∀ p, st = .inr p → TTc b n B M := fun p z => ⟨I, e7, by omega, by have := (T p z).2; rw [show k - 1 = B 2 by omega] at this; exact this⟩
      unfold qw_X3_readConstants_28
      refine pc_if (fun _ => ?_) (fun z => absurd (by omega) z)
      refine pc_imp (c_57 hn (B 2).toNat nn 1 st M (by omega) TT e7 h2 C) (fun r q => ⟨⟨ifp_p q.1, fun j hj => q.1 b j (by omega)⟩, ?_, fun p z => ?_⟩)
      · rw [es]; exact q.2
      · rw [es] at z; exact ttc_fr q.1 (TT p z)
  | succ m ih =>
    intro f k st M hk I e7 h2 T C
    cases f with
    | zero => exact pc_none
    | succ f =>
      unfold qw_X3_readConstants_28
      refine pc_if (fun z => absurd z (by omega)) (fun _ => ?_)
      cases st with
      | inl e =>
        have C : M b 3 = (e : Int) := C
        refine pc_if (fun _ => ?_) (fun z => absurd (by omega) z)
        exact pc_imp (c_57 hn (B 2).toNat nn 1 (.inl e) M (by omega) (fun p z => nomatch z) e7 h2 C) (fun r q => ⟨⟨ifp_p q.1, fun j hj => q.1 b j (by omega)⟩, q.2, fun p z => nomatch z⟩)
      | inr p =>
        refine pc_if (fun z => absurd C.1 z) (fun _ => ?_)
        obtain ⟨ep, T⟩ := T p rfl
        refine pc_sv (c_const hn (k := k) I C) ?_; intro u11 q11
        obtain ⟨F11, C11, E11⟩ := q11
        refine pc_add (by omega) ?_; intro v12 e12
        rw [e12]
        have e7b : u11 b 7 = B 2 := by rw [F11 b 7 (by omega) (by omega)]; exact e7
        refine pc_imp (ih f (k + 1) (ct_S B n p) u11 (by omega) (sr_if I (fk_if F11)) e7b h2 (fun x hx => ?_) C11) (fun r q => ⟨⟨ifp_t (fk_if F11) q.1.1, fun j hj => (q.1.2 j hj).trans (F11 b j (by omega) (by omega))⟩, q.2.1, q.2.2⟩)
        have E := E11 x hx
        rw [ep] at hx E
        refine ⟨pl_n hk.2 hx, ?_⟩
        rw [show k + 1 - 1 = k by omega]
        exact te_ttj hk.2 T F11 E
theorem c_consts (hn : 1000000 ≤ nn) (I : sr_I M b B n) (C : CRs b n (.inr 0) M) : Pc (qf_X3_readConstants nn b M) (fun r => (IFp b M r ∧ ∀ j, 8 ≤ j → r b j = M b j) ∧ CRs b n (kk_S B n) r ∧ ∀ p, kk_S B n = .inr p → TTc b n B r) := by
  unfold qf_X3_readConstants
  refine pc_sv (c_upTo I C) ?_; intro u16 q16
  obtain ⟨f16, C16, -⟩ := q16
  have I16 := sr_fr I f16
  refine pc_sv (c_upTo I16 C16) ?_; intro u18 q18
  obtain ⟨f18, C18, -⟩ := q18
  have I18 := sr_fr I16 f18
  refine pc_sv (c_next I18 C18) ?_; intro u20 q20
  obtain ⟨f20, C20, v20⟩ := q20
  have I20 := sr_fr I18 f20
  refine pc_xl ?_; intro h21 e21
  have F21 : IFp b M h21 := ifp_t (ifp_p (frp_t f16 (frp_t f18 f20))) (by rw [e21]; exact ifp_u (.inl ⟨rfl, by omega⟩))
  have I21 := sr_if I F21
  have K21 : ∀ j, 8 ≤ j → h21 b j = M b j := fun j hj => by rw [e21, up_n (by omega)]; exact (frp_t f16 (frp_t f18 f20)) b j (by omega)
  have C21 : CRs b n (bd_S (bd_S (bd_S (.inr 0) (by_S B n (up_T 74 74))) (by_S B n (up_T 77 77))) (nx_S n)) h21 := by
    cases z : bd_S (bd_S (bd_S (.inr 0) (by_S B n (up_T 74 74))) (by_S B n (up_T 77 77))) (nx_S n) with
    | inl e =>
      rw [z] at C20
      show h21 b 3 = (e : Int)
      rw [e21, up_n (by omega)]; exact C20
    | inr p =>
      rw [z] at C20
      refine ⟨?_, ?_, C20.2.2⟩
      · rw [e21, up_n (by omega)]; exact C20.1
      · rw [e21, up_n (by omega)]; exact C20.2.1
  have e7 : h21 b 7 = u20.1 := by rw [e21, up_s]
  have ek : kk_S B n = bd_S (bd_S (bd_S (bd_S (bd_S (.inr 0) (by_S B n (up_T 74 74))) (by_S B n (up_T 77 77))) (nx_S n)) (fun p => ks_S B n (B 2).toNat p)) (fun p => match cks_S B n (B 2).toNat 1 with
    | some e => .inl e
    | none => .inr p) := rfl
  cases z : bd_S (bd_S (bd_S (.inr 0) (by_S B n (up_T 74 74))) (by_S B n (up_T 77 77))) (nx_S n) with
  | inl e =>
    rw [z] at C21
    have C21 : h21 b 3 = (e : Int) := C21
    have ek : kk_S B n = .inl e := by rw [ek, z]; rfl
    rw [ek]
    have out : ∀ f k, Pc (qw_X3_readConstants_57 nn f b k h21) (fun r => r = h21) := fun f k => by
      cases f with
      | zero => exact pc_none
      | succ f =>
        unfold qw_X3_readConstants_57
        exact pc_if (fun _ => pc_ret rfl) (fun _ => pc_if (fun _ => pc_ret rfl) (fun y => absurd (by omega) y))
    have out2 : ∀ f k, Pc (qw_X3_readConstants_28 nn f b k h21) (fun r => r = h21) := fun f k => by
      cases f with
      | zero => exact pc_none
      | succ f =>
        unfold qw_X3_readConstants_28
        exact pc_if (fun _ => out _ _) (fun _ => pc_if (fun _ => out _ _) (fun y => absurd (by omega) y))
    exact pc_imp (out2 _ _) (fun r q => by rw [q]; exact ⟨⟨F21, K21⟩, C21, fun p y => nomatch y⟩)
  | inr p =>
    rw [z] at C21
    obtain ⟨p2, z2, z3⟩ := bd_inr z
    obtain ⟨p1, y2, y3⟩ := bd_inr z2
    have a1 := by_le (show by_S B n (up_T 74 74) 0 = .inr p1 from y2)
    have a2 := by_le y3
    have a3 := nx_le z3
    have e2 : p2 = 2 := by omega
    have ev : u20.1 = B 2 := by
      have := v20 p2 z2 (by omega)
      rw [this, e2]
    have hB := sr_B I (i := 2) (by omega)
    have e3 : p = 3 := by omega
    refine pc_imp (c_28 hn (B 2).toNat nn 1 (.inr p) h21 (by omega) I21 (by rw [e7]; exact ev) hB.2 (fun x hx => ?_) C21) (fun r q => ⟨⟨ifp_t F21 q.1.1, fun j hj => (q.1.2 j (by omega)).trans (K21 j hj)⟩, ?_, fun x hx => ?_⟩)
    · cases hx
      refine ⟨by rw [e3]; rfl, fun j h1 h2 => by omega⟩
    · rw [ek, z]; exact q.2.1
    · rw [ek, z] at hx
      obtain ⟨y, hy, -⟩ := bd_inr hx
      exact q.2.2 y hy
/-- the fields' row as far as f, from p on -/
def FLt (b : Nat) (B : Nat → Int) (p : Nat) (f : Int) (M : ms_M) : Prop := ∀ j : Int, 0 ≤ j → j < f → M (b + 5) (2 * j).toNat = B (p + (2 * j).toNat) ∧ M (b + 5) (2 * j + 1).toNat = B (p + (2 * j + 1).toNat)
/-- what reading fields leaves of the Image -/
def FFp (b : Nat) (M M2 : ms_M) : Prop := ∀ c k, ¬ (c = b ∧ (k = 2 ∨ k = 3 ∨ k = 10)) → ¬ c = b + 5 → M2 c k = M c k
theorem ff_if (A : FFp b M M1) : IFp b M M1 := fun c j q w => A c j (fun z => q ⟨z.1, by omega⟩) (fun z => w (by omega))
theorem ff_t (A : FFp b M M1) (C : FFp b M1 M2) : FFp b M M2 := fun c k q w => (C c k q w).trans (A c k q w)
theorem ff_p (A : FRz b M M1) : FFp b M M1 := fun c k q _ => A c k (fun z => q ⟨z.1, by omega⟩)
theorem ttc_ff (A : FFp b M M2) (T : TTc b n B M) : TTc b n B M2 := ttc_k (ff_if A) (A b 7 (by omega) (by omega)) (fun k => A _ _ (by omega) (by omega)) (fun k => A _ _ (by omega) (by omega)) (fun k => A _ _ (by omega) (by omega)) T
theorem fl_2 : ∀ (m p q : Nat), fl_S B n m p = .inr q → q = p + 2 * m := by
  intro m
  induction m with
  | zero => intro p q e; unfold fl_S at e; cases e; rfl
  | succ m ih =>
    intro p q e
    unfold fl_S at e
    obtain ⟨x, hx, e⟩ := bd_inr e
    obtain ⟨y, hy, hx⟩ := bd_inr hx
    have a := by_le hy
    have c := by_le hx
    have := ih x q e
    omega
theorem c_fields (hn : 1000000 ≤ nn) {p0 : Nat} : ∀ (m f : Nat) (many j : Int) (st : Nat ⊕ Nat) (M : ms_M), (j + m = many ∧ 0 ≤ j ∧ many ≤ 12) → (∀ p, st = .inr p → p = p0 + (2 * j).toNat ∧ M b 10 = j ∧ FLt b B p0 j M) → (∀ p, st = .inr p → TTc b n B M) → sr_I M b B n → CRs b n st M → Pc (qw_X3_readFields_10 nn f b many j M) (fun r => FFp b M r ∧ CRs b n (bd_S st (fl_S B n m)) r ∧ ∀ p, bd_S st (fl_S B n m) = .inr p → r b 10 = many ∧ FLt b B p0 many r) := by
  intro m
  induction m with
  | zero =>
    intro f many j st M hm H T I C
    cases f with
    | zero => exact pc_none
    | succ f =>
      have es : bd_S st (fl_S B n 0) = st := by cases st <;> rfl
      unfold qw_X3_readFields_10
      refine pc_if (fun _ => pc_ret ⟨fun _ _ _ _ => rfl, by rw [es]; exact C, fun p z => ?_⟩) (fun z => absurd (by omega) z)
      rw [es] at z
      have := H p z
      rw [show many = j by omega]; exact this.2
  | succ m ih =>
    intro f many j st M hm H T I C
    cases f with
    | zero => exact pc_none
    | succ f =>
      unfold qw_X3_readFields_10
      refine pc_if (fun z => absurd z (by omega)) (fun _ => ?_)
      cases st with
      | inl e =>
        have C : M b 3 = (e : Int) := C
        exact pc_if (fun _ => pc_ret ⟨fun _ _ _ _ => rfl, C, fun p z => nomatch z⟩) (fun z => absurd (by omega) z)
      | inr p =>
        refine pc_if (fun z => absurd C.1 z) (fun _ => ?_)
        obtain ⟨ep, e10, FT⟩ := H p rfl
        have T := T p rfl
        refine pc_xl ?_; intro v11 e11
        rw [oq_mul_eq (by omega) (by omega) (by omega)] at e11
        refine pc_sv (c_name hn T C) ?_; intro u13 q13
        obtain ⟨f13, C13, v13⟩ := q13
        refine pc_wA ?_; intro i1 i2 h14 e14
        have F14 : FFp b M h14 := fun c k q w => by rw [e14, up_n (by omega)]; exact f13 c k (by omega)
        have T14 := ttc_ff F14 T
        have C14 : CRs b n (bd_S (.inr p) (by_S B n (nm_S B n))) h14 := by
          cases z : bd_S (.inr p) (by_S B n (nm_S B n)) with
          | inl e => rw [z] at C13; show h14 b 3 = (e : Int); rw [e14, up_n (by omega)]; exact C13
          | inr x =>
            rw [z] at C13
            exact ⟨by rw [e14, up_n (by omega)]; exact C13.1, by rw [e14, up_n (by omega)]; exact C13.2.1, C13.2.2⟩
        refine pc_sv (c_next T14.1 C14) ?_; intro u16 q16
        obtain ⟨f16, C16, v16⟩ := q16
        have T16 := ttc_fr f16 T14
        have K := c_by (nn := nn) (t := fk_S B n) T16.1 C16 v16
        have F16 : FFp b M u16.2 := ff_t F14 (ff_p f16)
        have tail : ∀ g : ms_M, FFp b M g → (∀ k, g (b + 5) k = u16.2 (b + 5) k) → g b 10 = u16.2 b 10 → TTc b n B g → CRs b n (bd_S (bd_S (.inr p) (by_S B n (nm_S B n))) (by_S B n (fk_S B n))) g → Pc (qj_X3_readFields_58 nn (qw_X3_readFields_10 nn f) b many j u16.1 g) (fun r => FFp b M r ∧ CRs b n (bd_S (.inr p) (fl_S B n (m + 1))) r ∧ ∀ p2, bd_S (.inr p) (fl_S B n (m + 1)) = .inr p2 → r b 10 = many ∧ FLt b B p0 many r) := by
          intro g Fg g5 g10 Tg Cg
          unfold qj_X3_readFields_58
          refine pc_xl ?_; intro v2 e2
          rw [oq_mul_eq (by omega) (by omega) (by omega)] at e2
          refine pc_add (by omega) ?_; intro v3 e3
          refine pc_wA ?_; intro k1 k2 h4 e4
          refine pc_xl ?_; intro v6 e6
          refine pc_xl ?_; intro h7 e7
          refine pc_add (by omega) ?_; intro v8 e8
          have F7 : FFp b M h7 := fun c k q w => by rw [e7, up_n (by omega), e4, up_n (by omega)]; exact Fg c k q w
          have T7 : TTc b n B h7 := ttc_ff F7 T
          have C7 : CRs b n (bd_S (bd_S (.inr p) (by_S B n (nm_S B n))) (by_S B n (fk_S B n))) h7 := by
            cases z : bd_S (bd_S (.inr p) (by_S B n (nm_S B n))) (by_S B n (fk_S B n)) with
            | inl e => rw [z] at Cg; show h7 b 3 = (e : Int); rw [e7, up_n (by omega), e4, up_n (by omega)]; exact Cg
            | inr x =>
              rw [z] at Cg
              exact ⟨by rw [e7, up_n (by omega), e4, up_n (by omega)]; exact Cg.1, by rw [e7, up_n (by omega), e4, up_n (by omega)]; exact Cg.2.1, Cg.2.2⟩
          have ef : bd_S (.inr p) (fl_S B n (m + 1)) = bd_S (bd_S (bd_S (.inr p) (by_S B n (nm_S B n))) (by_S B n (fk_S B n))) (fl_S B n m) := rfl
          rw [ef]
          refine pc_imp (ih f many v8 _ h7 (by omega) (fun x hx => ?_) (fun _ _ => T7) T7.1 C7) (fun r q => ⟨ff_t F7 q.1, q.2.1, q.2.2⟩)
          obtain ⟨y, hy, hx⟩ := bd_inr hx
          have hy : by_S B n (nm_S B n) p = .inr y := hy
          have a := by_le hy
          have c := by_le hx
          have w13 := v13 p rfl a.2.1
          have w16 := v16 y hy c.2.1
          have g10 : g b 10 = j := by
            rw [g10, f16 b 10 (by omega), e14, up_n (by omega), f13 b 10 (by omega)]; exact e10
          have h10 : h7 b 10 = v8 := by
            rw [e7, up_s, e6, e4, up_n (by omega), g10, oq_add_eq (by omega) (by omega) (by omega)]; omega
          refine ⟨by omega, h10, fun i hi1 hi2 => ?_⟩
          have R : ∀ k, ¬ k = v3.toNat → h7 (b + 5) k = h14 (b + 5) k := fun k hk => by
            rw [e7, up_n (by omega), e4, up_n (by omega), g5, f16 (b + 5) k (by omega)]
          have R3 : h7 (b + 5) v3.toNat = u16.1 := by
            rw [e7, up_n (by omega), e4, up_s]
          by_cases qi : i = j
          · rw [qi]
            refine ⟨?_, ?_⟩
            · rw [R _ (by omega), e14, show v11.toNat = (2 * j).toNat by omega, up_s, w13, ep]
            · rw [show (2 * j + 1).toNat = v3.toNat by omega, R3, w16]
              congr 1; omega
          · have FT := FT i hi1 (by omega)
            have R11 : ∀ k, ¬ k = v11.toNat → h14 (b + 5) k = M (b + 5) k := fun k hk => by
              rw [e14, up_n (by omega)]; exact f13 _ _ (by omega)
            rw [R _ (by omega), R11 _ (by omega), R _ (by omega), R11 _ (by omega)]
            exact FT
        rw [c_isField hn T16, mx_svs]
        refine pc_if (fun c => tail u16.2 F16 (fun _ => rfl) rfl T16 (K.1 (bi_t c))) (fun c => ?_)
        refine pc_xl ?_; intro v20 e20
        refine pc_sv (K.2 (bi_f (Decidable.not_not.1 c)) v20 e20) ?_; intro u22 q22
        exact tail u22 (ff_t F16 (ff_p q22.1)) (fun k => q22.1 _ _ (by omega)) (q22.1 _ _ (by omega)) (ttc_fr q22.1 T16) q22.2
theorem c_fs (hn : 1000000 ≤ nn) (T : ∀ p, st = .inr p → TTc b n B M) (I : sr_I M b B n) (C : CRs b n st M) (z : ∀ p, st = .inr p → M b 10 = 0) : Pc (qf_X3_readFields nn b M) (fun r => FFp b M r ∧ CRs b n (bd_S st (fs_S B n)) r ∧ ∀ p q, st = .inr p → fs_S B n p = .inr q → r b 10 = B p ∧ FLt b B (p + 1) (B p) r) := by
  unfold qf_X3_readFields
  refine pc_sv (c_upTo I C) ?_; intro u27 q27
  obtain ⟨f27, C27, v27⟩ := q27
  have I27 := sr_fr I f27
  cases st with
  | inl e =>
    have C27 : u27.2 b 3 = (e : Int) := C27
    have out : ∀ f k, Pc (qw_X3_readFields_10 nn f b u27.1 k u27.2) (fun r => r = u27.2) := fun f k => by
      cases f with
      | zero => exact pc_none
      | succ f =>
        unfold qw_X3_readFields_10
        exact pc_if (fun _ => pc_ret rfl) (fun _ => pc_if (fun _ => pc_ret rfl) (fun y => absurd (by omega) y))
    exact pc_imp (out _ _) (fun r q => by rw [q]; exact ⟨ff_p f27, C27, fun p q y => nomatch y⟩)
  | inr p =>
    have T := T p rfl
    have T27 := ttc_fr f27 T
    rw [bd_r] at C27
    cases zz : by_S B n (up_T 0 12) p with
    | inl e =>
      rw [zz] at C27
      have C27 : u27.2 b 3 = (e : Int) := C27
      have ef : fs_S B n p = .inl e := by unfold fs_S; rw [zz]; rfl
      rw [bd_r, ef]
      have out : ∀ f k, Pc (qw_X3_readFields_10 nn f b u27.1 k u27.2) (fun r => r = u27.2) := fun f k => by
        cases f with
        | zero => exact pc_none
        | succ f =>
          unfold qw_X3_readFields_10
          exact pc_if (fun _ => pc_ret rfl) (fun _ => pc_if (fun _ => pc_ret rfl) (fun y => absurd (by omega) y))
      exact pc_imp (out _ _) (fun r q => by rw [q]; exact ⟨ff_p f27, C27, fun p2 q y1 y2 => by cases y1; rw [ef] at y2; cases y2⟩)
    | inr q0 =>
      rw [zz] at C27
      have a := by_le zz
      have hv := v27 p rfl a.2.1
      have hB := sr_B I a.2.1
      have t12 : 0 ≤ B p ∧ B p ≤ 12 := by
        have := a.2.2
        unfold up_T at this
        rw [Bool.and_eq_true, decide_eq_true_iff, decide_eq_true_iff] at this
        exact this
      have ef : fs_S B n p = bd_S (.inr q0) (fl_S B n (B p).toNat) := by unfold fs_S; rw [zz]
      rw [bd_r, ef, hv]
      refine pc_imp (c_fields hn (p0 := p + 1) (B p).toNat nn (B p) 0 (.inr q0) u27.2 (by omega) (fun x hx => ?_) (fun _ _ => T27) T27.1 C27) (fun r q => ⟨ff_t (ff_p f27) q.1, q.2.1, fun p2 q2 y1 y2 => ?_⟩)
      · cases hx
        refine ⟨by omega, by rw [f27 b 10 (by omega)]; exact z p rfl, fun j h1 h2 => by omega⟩
      · cases y1
        rw [ef] at y2
        exact q.2.2 q2 y2
end
end
section
/- THE CLASS READS AN IMAGE: methods, and all of it -/
section
variable {nn : Nat} {M M1 M2 : ms_M} {b : Nat} {B : Nat → Int} {n : Nat} {st : Nat ⊕ Nat}
theorem cr_k {s : Nat ⊕ Nat} (e2 : M2 b 2 = M b 2) (e3 : M2 b 3 = M b 3) (C : CRs b n s M) : CRs b n s M2 := by
  cases s with
  | inl e => exact e3.trans C
  | inr p => exact ⟨e3.trans C.1, e2.trans C.2.1, C.2.2⟩
theorem c_badl {x : Int} (C : ¬ M b 3 = -1) : qf_X3_bad nn b x M = some M := by rw [bad_ok, if_neg C]
theorem c_plain_l {e : Nat} (I : sr_I M b B n) (C : M b 3 = (e : Int)) : Pc (qf_X3_nextPlainClass nn b M) (fun u => FRz b M u.2 ∧ u.2 b 3 = (e : Int)) := by
  unfold qf_X3_nextPlainClass
  refine pc_sv (c_next (st := .inl e) I C) ?_; intro u6 q6
  obtain ⟨f6, C6, -⟩ := q6
  have C6 : u6.2 b 3 = (e : Int) := C6
  refine pc_se ?_; intro u8 e8
  have bad : Pc (qj_X3_nextPlainClass_29 nn b u8 u6.2) (fun u => FRz b M u.2 ∧ u.2 b 3 = (e : Int)) := by
    unfold qj_X3_nextPlainClass_29
    refine pc_xl ?_; intro v2 e2
    rw [c_badl (by omega), mx_svs]
    exact pc_ret ⟨f6, C6⟩
  refine pc_se ?_; intro u10 e10
  refine pc_if (fun _ => bad) (fun _ => ?_)
  refine pc_se ?_; intro u12 e12
  exact pc_if (fun _ => pc_ret ⟨f6, C6⟩) (fun _ => bad)
theorem c_types (T : TTc b n B M1) : ∀ (m f : Nat) (many j : Int) (st : Nat ⊕ Nat) (M : ms_M), FRz b M1 M → (j + m = many ∧ 0 ≤ j ∧ many ≤ 255) → CRs b n st M → Pc (qw_X3_readFrameTypes_7 nn f b many j M) (fun r => FRz b M r ∧ CRs b n (bd_S st (ty_S B n m)) r) := by
  intro m
  induction m with
  | zero =>
    intro f many j st M F hm C
    cases f with
    | zero => exact pc_none
    | succ f =>
      have es : bd_S st (ty_S B n 0) = st := by cases st <;> rfl
      unfold qw_X3_readFrameTypes_7
      exact pc_if (fun _ => pc_ret ⟨frp_r, by rw [es]; exact C⟩) (fun z => absurd (by omega) z)
  | succ m ih =>
    intro f many j st M F hm C
    cases f with
    | zero => exact pc_none
    | succ f =>
      have TM := ttc_fr F T
      unfold qw_X3_readFrameTypes_7
      refine pc_if (fun z => absurd z (by omega)) (fun _ => ?_)
      cases st with
      | inl e =>
        have C : M b 3 = (e : Int) := C
        exact pc_if (fun _ => pc_ret ⟨frp_r, C⟩) (fun z => absurd (by omega) z)
      | inr p =>
        refine pc_if (fun z => absurd C.1 z) (fun _ => ?_)
        refine pc_sv (c_upTo TM.1 C) ?_; intro u3 q3
        obtain ⟨f3, C3, v3⟩ := q3
        rw [bd_r] at C3
        have et : bd_S (.inr p) (ty_S B n (m + 1)) = bd_S (bd_S (by_S B n (up_T 0 3) p) (fun q => if B p = 3 then by_S B n (cl_S B n) q else .inr q)) (ty_S B n m) := rfl
        rw [et]
        refine pc_if (fun c => ?_) (fun c => ?_)
        · refine pc_add (by omega) ?_; intro v4 e4
          have ek : bd_S (by_S B n (up_T 0 3) p) (fun q => if B p = 3 then by_S B n (cl_S B n) q else .inr q) = by_S B n (up_T 0 3) p := by
            cases z : by_S B n (up_T 0 3) p with
            | inl e => rfl
            | inr x =>
              have a := by_le z
              rw [v3 p rfl a.2.1] at c
              rw [bd_r, if_neg c]
          rw [ek]
          exact pc_imp (ih f many v4 _ u3.2 (frp_t F f3) (by omega) C3) (fun r q => ⟨frp_t f3 q.1, q.2⟩)
        · refine pc_sv (c_class (ttc_fr f3 TM) C3) ?_; intro u6 q6
          refine pc_add (by omega) ?_; intro v7 e7
          have ek : bd_S (by_S B n (up_T 0 3) p) (fun q => if B p = 3 then by_S B n (cl_S B n) q else .inr q) = bd_S (by_S B n (up_T 0 3) p) (by_S B n (cl_S B n)) := by
            cases z : by_S B n (up_T 0 3) p with
            | inl e => rfl
            | inr x =>
              have a := by_le z
              rw [v3 p rfl a.2.1] at c
              rw [bd_r, bd_r, if_pos (by omega)]
          rw [ek]
          exact pc_imp (ih f many v7 _ u6 (frp_t F (frp_t f3 q6.1)) (by omega) q6.2) (fun r q => ⟨frp_t f3 (frp_t q6.1 q.1), q.2⟩)
theorem c_typ_l {e : Nat} {f : Nat} {many j : Int} (C : M b 3 = (e : Int)) : Pc (qw_X3_readFrameTypes_7 nn f b many j M) (fun r => r = M) := by
  cases f with
  | zero => exact pc_none
  | succ f =>
    unfold qw_X3_readFrameTypes_7
    exact pc_if (fun _ => pc_ret rfl) (fun _ => pc_if (fun _ => pc_ret rfl) (fun y => absurd (by omega) y))
theorem c_ts (T : TTc b n B M) (C : CRs b n st M) : Pc (qf_X3_readFrameTypes nn b M) (fun r => FRz b M r ∧ CRs b n (bd_S st (ts_S B n)) r) := by
  unfold qf_X3_readFrameTypes
  refine pc_sv (c_next T.1 C) ?_; intro u12 q12
  obtain ⟨f12, C12, v12⟩ := q12
  cases st with
  | inl e => exact pc_imp (c_typ_l C12) (fun r q => by rw [q]; exact ⟨f12, C12⟩)
  | inr p =>
    rw [bd_r] at C12 ⊢
    unfold ts_S
    by_cases w : p < n
    · have hv := v12 p rfl w
      have hB := sr_B T.1 w
      rw [hv]
      refine pc_imp (c_types T (B p).toNat nn (B p) 0 (nx_S n p) u12.2 f12 (by omega) C12) (fun r q => ⟨frp_t f12 q.1, q.2⟩)
    · have z : nx_S n p = .inl n := by unfold nx_S; rw [if_neg w]
      rw [z] at C12 ⊢
      exact pc_imp (c_typ_l C12) (fun r q => by rw [q]; exact ⟨f12, C12⟩)
theorem c_frs (T : TTc b n B M1) : ∀ (m f : Nat) (many j : Int) (st : Nat ⊕ Nat) (M : ms_M), FRz b M1 M → (j + m = many ∧ 0 ≤ j ∧ many ≤ 255) → CRs b n st M → Pc (qw_X3_readFrames_33 nn f b many j M) (fun r => FRz b M r ∧ CRs b n (bd_S st (fr_S B n m)) r) := by
  intro m
  induction m with
  | zero =>
    intro f many j st M F hm C
    cases f with
    | zero => exact pc_none
    | succ f =>
      have es : bd_S st (fr_S B n 0) = st := by cases st <;> rfl
      unfold qw_X3_readFrames_33
      exact pc_if (fun _ => pc_ret ⟨frp_r, by rw [es]; exact C⟩) (fun z => absurd (by omega) z)
  | succ m ih =>
    intro f many j st M F hm C
    cases f with
    | zero => exact pc_none
    | succ f =>
      have TM := ttc_fr F T
      unfold qw_X3_readFrames_33
      refine pc_if (fun z => absurd z (by omega)) (fun _ => ?_)
      cases st with
      | inl e =>
        have C : M b 3 = (e : Int) := C
        exact pc_if (fun _ => pc_ret ⟨frp_r, C⟩) (fun z => absurd (by omega) z)
      | inr p =>
        refine pc_if (fun z => absurd C.1 z) (fun _ => ?_)
        refine pc_sv (c_skipPairs (m := 2) (.inl rfl) (by omega) TM.1 C) ?_; intro u3 q3
        refine pc_sv (c_ts (ttc_fr q3.1 TM) q3.2) ?_; intro u5 q5
        refine pc_sv (c_ts (ttc_fr q5.1 (ttc_fr q3.1 TM)) q5.2) ?_; intro u7 q7
        refine pc_add (by omega) ?_; intro v8 e8
        have g := frp_t q3.1 (frp_t q5.1 q7.1)
        exact pc_imp (ih f many v8 _ u7 (frp_t F g) (by omega) q7.2) (fun r q => ⟨frp_t g q.1, q.2⟩)
theorem c_hds (T : TTc b n B M1) : ∀ (m f : Nat) (many j : Int) (st : Nat ⊕ Nat) (M : ms_M), FRz b M1 M → (j + m = many ∧ 0 ≤ j ∧ many ≤ 255) → CRs b n st M → Pc (qw_X3_readHandlers_33 nn f b many j M) (fun r => FRz b M r ∧ CRs b n (bd_S st (hd_S B n m)) r) := by
  intro m
  induction m with
  | zero =>
    intro f many j st M F hm C
    cases f with
    | zero => exact pc_none
    | succ f =>
      have es : bd_S st (hd_S B n 0) = st := by cases st <;> rfl
      unfold qw_X3_readHandlers_33
      exact pc_if (fun _ => pc_ret ⟨frp_r, by rw [es]; exact C⟩) (fun z => absurd (by omega) z)
  | succ m ih =>
    intro f many j st M F hm C
    cases f with
    | zero => exact pc_none
    | succ f =>
      have TM := ttc_fr F T
      unfold qw_X3_readHandlers_33
      refine pc_if (fun z => absurd z (by omega)) (fun _ => ?_)
      cases st with
      | inl e =>
        have C : M b 3 = (e : Int) := C
        exact pc_if (fun _ => pc_ret ⟨frp_r, C⟩) (fun z => absurd (by omega) z)
      | inr p =>
        refine pc_if (fun z => absurd C.1 z) (fun _ => ?_)
        refine pc_sv (c_skipPairs (m := 6) (.inr rfl) (by omega) TM.1 C) ?_; intro u3 q3
        refine pc_sv (c_class (ttc_fr q3.1 TM) q3.2) ?_; intro u5 q5
        refine pc_add (by omega) ?_; intro v6 e6
        have g := frp_t q3.1 q5.1
        exact pc_imp (ih f many v6 _ u5 (frp_t F g) (by omega) q5.2) (fun r q => ⟨frp_t g q.1, q.2⟩)
/-- a method's row may have changed: places lo to hi of it -/
def FMp (b : Nat) (lo hi : Int) (M M2 : ms_M) : Prop := ∀ c k : Nat, ¬ (c = b ∧ (k = 2 ∨ k = 3)) → ¬ (c = b + 6 ∧ lo ≤ (k : Int) ∧ (k : Int) ≤ hi) → M2 c k = M c k
theorem fm_t {lo hi : Int} (A : FMp b lo hi M M1) (C : FMp b lo hi M1 M2) : FMp b lo hi M M2 := fun c k q w => (C c k q w).trans (A c k q w)
theorem fm_p {lo hi : Int} (A : FRz b M M1) : FMp b lo hi M M1 := fun c k q _ => A c k q
theorem fm_r {lo hi : Int} : FMp b lo hi M M := fun _ _ _ _ => rfl
theorem fm_u {lo hi : Int} {j v : Int} (h : 0 ≤ j ∧ lo ≤ j ∧ j ≤ hi) : FMp b lo hi M (up_M M (b + 6) j.toNat v) := fun c k q w => up_n (by omega)
theorem fm_w {lo hi lo2 hi2 : Int} (A : FMp b lo hi M M1) (h : lo2 ≤ lo ∧ hi ≤ hi2) : FMp b lo2 hi2 M M1 := fun c k q w => A c k q (fun z => w (by omega))
theorem fmi_S {lo hi : Int} (A : FMp b lo hi M M1) : IFp b M M1 := fun c j q w => A c j (fun z => q ⟨z.1, by omega⟩) (fun z => w (by omega))
theorem ttc_fm {lo hi : Int} (A : FMp b lo hi M M2) (T : TTc b n B M) : TTc b n B M2 := ttc_k (fmi_S A) (A b 7 (by omega) (by omega)) (fun k => A _ _ (by omega) (by omega)) (fun k => A _ _ (by omega) (by omega)) (fun k => A _ _ (by omega) (by omega)) T
theorem c_frames (T : TTc b n B M) (C : CRs b n st M) {a : Int} (ha : 0 ≤ a ∧ a ≤ 132) : Pc (qf_X3_readFrames nn b a M) (fun r => FMp b (a + 9) (a + 10) M r ∧ CRs b n (bd_S st (ff_S B n)) r ∧ ∀ p q, st = .inr p → ff_S B n p = .inr q → r (b + 6) (a + 9).toNat = B p ∧ r (b + 6) (a + 10).toNat = ((p + 1 : Nat) : Int)) := by
  unfold qf_X3_readFrames
  refine pc_sv (c_upTo T.1 C) ?_; intro u12 q12
  obtain ⟨f12, C12, v12⟩ := q12
  refine pc_add (by omega) ?_; intro v14 e14
  refine pc_wA ?_; intro i1 i2 h15 e15
  refine pc_add (by omega) ?_; intro v17 e17
  refine pc_wA ?_; intro j1 j2 h19 e19
  have F19 : FMp b (a + 9) (a + 10) M h19 := fm_t (fm_p f12) (fm_t (M1 := h15) (by rw [e15]; exact fm_u (by omega)) (by rw [e19]; exact fm_u (by omega)))
  have T19 := ttc_fm F19 T
  have K2 : ∀ k, (k = 2 ∨ k = 3) → h19 b k = u12.2 b k := fun k hk => by rw [e19, up_n (by omega), e15, up_n (by omega)]
  have C19 := cr_k (n := n) (s := bd_S st (by_S B n (up_T 0 100))) (K2 2 (.inl rfl)) (K2 3 (.inr rfl)) C12
  have R9 : h19 (b + 6) (a + 9).toNat = u12.1 := by rw [e19, up_n (by omega), e15, show v14.toNat = (a + 9).toNat by omega, up_s]
  have R10 : h19 (b + 6) (a + 10).toNat = u12.2 b 2 := by
    rw [e19, show v17.toNat = (a + 10).toNat by omega, up_s, e15, up_n (by omega)]
  have out : ∀ {e : Nat}, h19 b 3 = (e : Int) → ∀ f k, Pc (qw_X3_readFrames_33 nn f b u12.1 k h19) (fun r => r = h19) := fun {e} ce f k => by
    cases f with
    | zero => exact pc_none
    | succ f =>
      unfold qw_X3_readFrames_33
      exact pc_if (fun _ => pc_ret rfl) (fun _ => pc_if (fun _ => pc_ret rfl) (fun y => absurd (by omega) y))
  cases st with
  | inl e => exact pc_imp (out C19 _ _) (fun r q => by rw [q]; exact ⟨F19, C19, fun p q y => nomatch y⟩)
  | inr p =>
    rw [bd_r] at C19 ⊢
    cases zz : by_S B n (up_T 0 100) p with
    | inl e =>
      rw [zz] at C19
      have ef : ff_S B n p = .inl e := by unfold ff_S; rw [zz]; rfl
      rw [ef]
      exact pc_imp (out C19 _ _) (fun r q => by rw [q]; exact ⟨F19, C19, fun p2 q y1 y2 => by cases y1; rw [ef] at y2; cases y2⟩)
    | inr q0 =>
      rw [zz] at C19
      have w := by_le zz
      have hv := v12 p rfl w.2.1
      have t := up_Tt w.2.2
      have ef : ff_S B n p = bd_S (.inr q0) (fr_S B n (B p).toNat) := by unfold ff_S; rw [zz]
      rw [ef, hv]
      refine pc_imp (c_frs T19 (B p).toNat nn (B p) 0 (.inr q0) h19 frp_r (by omega) C19) (fun r q => ⟨fm_t F19 (fm_p q.1), q.2, fun p2 q2 y1 y2 => ?_⟩)
      cases y1
      rw [q.1 _ _ (by omega), q.1 _ _ (by omega), R9, R10]
      have := C19.2.1
      rw [K2 2 (.inl rfl)] at this
      exact ⟨hv, by rw [this]; omega⟩
theorem c_handlers (T : TTc b n B M) (C : CRs b n st M) {a : Int} (ha : 0 ≤ a ∧ a ≤ 132) : Pc (qf_X3_readHandlers nn b a M) (fun r => FMp b (a + 7) (a + 8) M r ∧ CRs b n (bd_S st (hs_S B n)) r ∧ ∀ p q, st = .inr p → hs_S B n p = .inr q → r (b + 6) (a + 7).toNat = B p ∧ r (b + 6) (a + 8).toNat = ((p + 1 : Nat) : Int)) := by
  unfold qf_X3_readHandlers
  refine pc_sv (c_upTo T.1 C) ?_; intro u12 q12
  obtain ⟨f12, C12, v12⟩ := q12
  refine pc_add (by omega) ?_; intro v14 e14
  refine pc_wA ?_; intro i1 i2 h15 e15
  refine pc_add (by omega) ?_; intro v17 e17
  refine pc_wA ?_; intro j1 j2 h19 e19
  have F19 : FMp b (a + 7) (a + 8) M h19 := fm_t (fm_p f12) (fm_t (M1 := h15) (by rw [e15]; exact fm_u (by omega)) (by rw [e19]; exact fm_u (by omega)))
  have T19 := ttc_fm F19 T
  have K2 : ∀ k, (k = 2 ∨ k = 3) → h19 b k = u12.2 b k := fun k hk => by rw [e19, up_n (by omega), e15, up_n (by omega)]
  have C19 := cr_k (n := n) (s := bd_S st (by_S B n (up_T 0 20))) (K2 2 (.inl rfl)) (K2 3 (.inr rfl)) C12
  have R9 : h19 (b + 6) (a + 7).toNat = u12.1 := by rw [e19, up_n (by omega), e15, show v14.toNat = (a + 7).toNat by omega, up_s]
  have R10 : h19 (b + 6) (a + 8).toNat = u12.2 b 2 := by
    rw [e19, show v17.toNat = (a + 8).toNat by omega, up_s, e15, up_n (by omega)]
  have out : ∀ {e : Nat}, h19 b 3 = (e : Int) → ∀ f k, Pc (qw_X3_readHandlers_33 nn f b u12.1 k h19) (fun r => r = h19) := fun {e} ce f k => by
    cases f with
    | zero => exact pc_none
    | succ f =>
      unfold qw_X3_readHandlers_33
      exact pc_if (fun _ => pc_ret rfl) (fun _ => pc_if (fun _ => pc_ret rfl) (fun y => absurd (by omega) y))
  cases st with
  | inl e => exact pc_imp (out C19 _ _) (fun r q => by rw [q]; exact ⟨F19, C19, fun p q y => nomatch y⟩)
  | inr p =>
    rw [bd_r] at C19 ⊢
    cases zz : by_S B n (up_T 0 20) p with
    | inl e =>
      rw [zz] at C19
      have ef : hs_S B n p = .inl e := by unfold hs_S; rw [zz]; rfl
      rw [ef]
      exact pc_imp (out C19 _ _) (fun r q => by rw [q]; exact ⟨F19, C19, fun p2 q y1 y2 => by cases y1; rw [ef] at y2; cases y2⟩)
    | inr q0 =>
      rw [zz] at C19
      have w := by_le zz
      have hv := v12 p rfl w.2.1
      have t := up_Tt w.2.2
      have ef : hs_S B n p = bd_S (.inr q0) (hd_S B n (B p).toNat) := by unfold hs_S; rw [zz]
      rw [ef, hv]
      refine pc_imp (c_hds T19 (B p).toNat nn (B p) 0 (.inr q0) h19 frp_r (by omega) C19) (fun r q => ⟨fm_t F19 (fm_p q.1), q.2, fun p2 q2 y1 y2 => ?_⟩)
      cases y1
      rw [q.1 _ _ (by omega), q.1 _ _ (by omega), R9, R10]
      have := C19.2.1
      rw [K2 2 (.inl rfl)] at this
      exact ⟨hv, by rw [this]; omega⟩
theorem lnr_S {p : Nat} (I : sr_I M b B n) (h : p + 1 < n) : 0 ≤ ln_N B p ∧ ln_N B p ≤ 65535 := by
  have x := sr_B I (i := p) (by omega)
  have y := sr_B I (i := p + 1) h
  unfold ln_N
  rw [oq_shl_8 x]
  exact oq_or_rg (by omega) (by omega)
theorem c_85 {l4 : Int} {s : Nat ⊕ Nat} (I : sr_I M b B n) (C : CRs b n s M) (h4 : ∀ p, s = .inr p → 0 ≤ l4 ∧ (p : Int) + l4 ≤ (n : Int)) : Pc (qj_X3_readCode_85 nn b l4 M) (fun r => FRz b M r ∧ CRs b n (bd_S s (fun q => .inr (q + l4.toNat))) r) := by
  have n6 := I.2.1
  have e1 := I.2.2.1
  unfold qj_X3_readCode_85
  refine pc_xl ?_; intro v2 e2
  refine pc_xl ?_; intro v4 e4
  refine pc_xl ?_; intro h5 e5
  refine pc_ret ⟨by rw [e5]; exact frp_2, ?_⟩
  cases s with
  | inl e => show h5 b 3 = (e : Int); rw [e5, up_n (by omega)]; exact C
  | inr p =>
    obtain ⟨c1, c2, c3⟩ : M b 3 = -1 ∧ M b 2 = (p : Int) ∧ p ≤ n := C
    have w := h4 p rfl
    rw [c2, oq_add_eq (by omega) (by omega) (by omega)] at e2
    rw [if_neg (by omega)] at e4
    refine ⟨?_, ?_, ?_⟩
    · rw [e5, up_n (by omega)]; exact c1
    · rw [e5, up_s]; omega
    · show p + l4.toNat ≤ n; omega
theorem c_40 {l4 : Int} {s : Nat ⊕ Nat} {a : Int} (ha : 0 ≤ a ∧ a ≤ 132) (I : sr_I M b B n) (C : CRs b n s M) (h4 : ∀ p, s = .inr p → 0 ≤ l4 ∧ l4 ≤ 65535) : Pc (qj_X3_readCode_40 nn b a l4 M) (fun r => FMp b (a + 5) (a + 6) M r ∧ CRs b n (bd_S s (fun q => if (q : Int) + l4 ≤ (n : Int) then .inr (q + l4.toNat) else .inl n)) r ∧ ∀ p, s = .inr p → r (b + 6) (a + 5).toNat = l4 ∧ r (b + 6) (a + 6).toNat = (p : Int)) := by
  have n6 := I.2.1
  have e1 := I.2.2.1
  unfold qj_X3_readCode_40
  refine pc_add (by omega) ?_; intro v7 e7
  refine pc_wA ?_; intro i1 i2 h8 e8
  refine pc_add (by omega) ?_; intro v10 e10
  refine pc_wA ?_; intro j1 j2 h12 e12
  have F12 : FMp b (a + 5) (a + 6) M h12 := fm_t (M1 := h8) (by rw [e8]; exact fm_u (by omega)) (by rw [e12]; exact fm_u (by omega))
  have I12 := sr_if I (fmi_S F12)
  have K2 : ∀ k, h12 b k = M b k := fun k => by rw [e12, up_n (by omega), e8, up_n (by omega)]
  have C12 := cr_k (n := n) (K2 2) (K2 3) C
  have R5 : h12 (b + 6) (a + 5).toNat = l4 := by rw [e12, up_n (by omega), e8, show v7.toNat = (a + 5).toNat by omega, up_s]
  have R6 : ∀ p, s = .inr p → h12 (b + 6) (a + 6).toNat = (p : Int) := fun p z => by
    rw [e12, show v10.toNat = (a + 6).toNat by omega, up_s, e8, up_n (by omega)]
    rw [z] at C; exact C.2.1
  refine pc_xl ?_; intro v14 e14
  refine pc_if (fun c => ?_) (fun c => ?_)
  · have E : ∀ p, s = .inr p → 0 ≤ l4 ∧ (p : Int) + l4 ≤ (n : Int) := fun p z => by
      have w := h4 p z
      rw [z] at C12
      obtain ⟨c1, c2, c3⟩ : h12 b 3 = -1 ∧ h12 b 2 = (p : Int) ∧ p ≤ n := C12
      rw [c2, oq_add_eq (by omega) (by omega) (by omega)] at e14
      rw [K2 1, e1] at c
      omega
    refine pc_imp (c_85 I12 C12 E) (fun r q => ⟨fm_t F12 (fm_p q.1), ?_, fun p z => ?_⟩)
    · have q2 := q.2
      cases s with
      | inl e => exact q2
      | inr p =>
        rw [bd_r] at q2 ⊢
        rw [if_pos (E p rfl).2]; exact q2
    · rw [q.1 _ _ (by omega), q.1 _ _ (by omega)]; exact ⟨R5, R6 p z⟩
  · rw [K2 1, e1] at c ⊢
    refine pc_sv (c_badx C12) ?_; intro u18 q18
    have I18 := sr_fr I12 q18.1
    have q182 := q18.2
    refine pc_imp (c_85 (s := bd_S s (fun _ => .inl n)) I18 q182 (fun p z => by cases s <;> cases z)) (fun r q => ⟨fm_t F12 (fm_t (fm_p q18.1) (fm_p q.1)), ?_, fun p z => ?_⟩)
    · have q2 := q.2
      cases s with
      | inl e => exact q2
      | inr p =>
        have w := h4 p rfl
        obtain ⟨c1, c2, c3⟩ : h12 b 3 = -1 ∧ h12 b 2 = (p : Int) ∧ p ≤ n := C12
        rw [c2, oq_add_eq (by omega) (by omega) (by omega)] at e14
        rw [bd_r, if_neg (by omega)]; exact q2
    · rw [q.1 _ _ (by omega), q.1 _ _ (by omega), q18.1 _ _ (by omega), q18.1 _ _ (by omega)]; exact ⟨R5, R6 p z⟩
theorem c_code {a : Int} (ha : 0 ≤ a ∧ a ≤ 132) (I : sr_I M b B n) (C : CRs b n st M) : Pc (qf_X3_readCode nn b a M) (fun r => FMp b (a + 5) (a + 6) M r ∧ CRs b n (bd_S st (co_S B n)) r ∧ ∀ p q, st = .inr p → co_S B n p = .inr q → r (b + 6) (a + 5).toNat = ln_N B p ∧ r (b + 6) (a + 6).toNat = ((p + 2 : Nat) : Int)) := by
  unfold qf_X3_readCode
  refine pc_sv (c_next I C) ?_; intro u24 q24
  obtain ⟨f24, C24, v24⟩ := q24
  have I24 := sr_fr I f24
  refine pc_xl ?_; intro v25 e25
  refine pc_sv (c_next I24 C24) ?_; intro u27 q27
  obtain ⟨f27, C27, v27⟩ := q27
  have I27 := sr_fr I24 f27
  have F27 := frp_t f24 f27
  refine pc_xl ?_; intro v28 e28
  have C27b : CRs b n (bd_S st (sk_S n 2)) u27.2 := by
    cases st with
    | inl e => exact C27
    | inr p =>
      have hp : p ≤ n := C.2.2
      rw [bd_r] at C27
      rw [bd_r, sk_1 hp]
      cases z : nx_S n p with
      | inl e => rw [z] at C27; exact C27
      | inr x =>
        rw [z] at C27
        have w := nx_le z
        rw [bd_r] at C27 ⊢
        rw [sk_1 (by omega)]
        cases y : nx_S n x with
        | inl e => rw [y] at C27; exact C27
        | inr x2 =>
          rw [y] at C27
          rw [bd_r, sk_0 C27.2.2]; exact C27
  have V : ∀ p q, st = .inr p → sk_S n 2 p = .inr q → v28 = ln_N B p ∧ q = p + 2 ∧ p + 1 < n := fun p q z y => by
    have w := sk_le y
    have a1 := v24 p z (by omega)
    have zn : nx_S n p = .inr (p + 1) := by unfold nx_S; rw [if_pos (by omega)]
    have a2 := v27 (p + 1) (by rw [z, bd_r]; exact zn) (by omega)
    unfold ln_N
    rw [e28, e25, a1, a2]
    exact ⟨rfl, w.1, by omega⟩
  have H4 : ∀ p, bd_S st (sk_S n 2) = .inr p → 0 ≤ v28 ∧ v28 ≤ 65535 := fun p z => by
    obtain ⟨x, hx, hy⟩ := bd_inr z
    have w := V x p hx hy
    rw [w.1]; exact lnr_S I w.2.2
  have good : (1 ≤ v28 ∧ v28 ≤ 1500) → Pc (qj_X3_readCode_40 nn b a v28 u27.2) (fun r => FMp b (a + 5) (a + 6) M r ∧ CRs b n (bd_S st (co_S B n)) r ∧ ∀ p q, st = .inr p → co_S B n p = .inr q → r (b + 6) (a + 5).toNat = ln_N B p ∧ r (b + 6) (a + 6).toNat = ((p + 2 : Nat) : Int)) := fun g => by
    refine pc_imp (c_40 ha I27 C27b H4) (fun r q => ⟨fm_t (fm_p F27) q.1, ?_, fun p x z y => ?_⟩)
    · have q2 := q.2.1
      cases st with
      | inl e => exact q2
      | inr p =>
        rw [bd_r] at q2 ⊢
        unfold co_S
        cases z : sk_S n 2 p with
        | inl e => rw [z] at q2; exact q2
        | inr x =>
          rw [z] at q2
          have w := V p x rfl z
          rw [bd_r] at q2 ⊢
          rw [← w.1, if_neg (by omega)]; exact q2
    · unfold co_S at y
      obtain ⟨x2, hx, -⟩ := bd_inr y
      have w := V p x2 z hx
      have k := q.2.2 x2 (by rw [z, bd_r]; exact hx)
      rw [k.1, k.2, w.2.1]
      exact ⟨w.1, rfl⟩
  have bad : ¬ (1 ≤ v28 ∧ v28 ≤ 1500) → Pc (qj_X3_readCode_35 nn b a (M b 2) v28 u27.2) (fun r => FMp b (a + 5) (a + 6) M r ∧ CRs b n (bd_S st (co_S B n)) r ∧ ∀ p q, st = .inr p → co_S B n p = .inr q → r (b + 6) (a + 5).toNat = ln_N B p ∧ r (b + 6) (a + 6).toNat = ((p + 2 : Nat) : Int)) := fun g => by
    unfold qj_X3_readCode_35
    cases st with
    | inl e =>
      have C27 : u27.2 b 3 = (e : Int) := C27
      rw [c_badl (by omega), mx_svs]
      exact pc_imp (c_40 (s := .inl e) ha I27 C27 (fun p z => nomatch z)) (fun r q => ⟨fm_t (fm_p F27) q.1, q.2.1, fun p x z => nomatch z⟩)
    | inr p =>
      have cp : M b 2 = (p : Int) := C.2.1
      rw [cp]
      refine pc_sv (c_badx C27b) ?_; intro u21 q21
      have hs : ∀ x, bd_S (bd_S (.inr p) (sk_S n 2)) (fun _ => .inl p) = .inr x → False := fun x z => by
        obtain ⟨y, -, w⟩ := bd_inr z
        cases w
      refine pc_imp (c_40 ha (sr_fr I27 q21.1) q21.2 (fun x z => (hs x z).elim)) (fun r q => ⟨fm_t (fm_p F27) (fm_t (fm_p q21.1) q.1), ?_, fun p2 x z y => ?_⟩)
      · have q2 := q.2.1
        rw [bd_r] at q2 ⊢
        unfold co_S
        cases z : sk_S n 2 p with
        | inl e => rw [z] at q2; exact q2
        | inr x =>
          rw [z] at q2
          have w := V p x rfl z
          rw [bd_r] at q2 ⊢
          rw [← w.1, if_pos (by omega)]; exact q2
      · cases z
        unfold co_S at y
        obtain ⟨x2, hx, hy⟩ := bd_inr y
        have w := V p x2 rfl hx
        rw [← w.1, if_pos (by omega)] at hy
        cases hy
  refine pc_if (fun c => bad (by omega)) (fun c => pc_if (fun c2 => good (by omega)) (fun c2 => bad (by omega)))
/-- the row of the method at p -/
def MDt (b : Nat) (B : Nat → Int) (n : Nat) (a : Int) (p h f : Nat) (M : ms_M) : Prop := (M (b + 6) (a + 0).toNat = B p ∧ M (b + 6) (a + 1).toNat = B (p + 1) ∧ M (b + 6) (a + 2).toNat = B (p + 2) ∧ M (b + 6) (a + 11).toNat = op_E (pi_S B n (B (p + 2))) ∧ M (b + 6) (a + 3).toNat = B (p + 3) ∧ M (b + 6) (a + 4).toNat = B (p + 4)) ∧ (M (b + 6) (a + 5).toNat = ln_N B (p + 5) ∧ M (b + 6) (a + 6).toNat = ((p + 7 : Nat) : Int)) ∧ (M (b + 6) (a + 7).toNat = B h ∧ M (b + 6) (a + 8).toNat = ((h + 1 : Nat) : Int)) ∧ (M (b + 6) (a + 9).toNat = B f ∧ M (b + 6) (a + 10).toNat = ((f + 1 : Nat) : Int))
/-- where a method's handlers and frames are -/
def MPl (B : Nat → Int) (n p h f q : Nat) : Prop := mh_S B n p = .inr (p + 5) ∧ co_S B n (p + 5) = .inr h ∧ hs_S B n h = .inr f ∧ ff_S B n f = .inr q
theorem mh_le {p q : Nat} (e : mh_S B n p = .inr q) : q = p + 5 ∧ p + 4 < n := by
  unfold mh_S at e
  obtain ⟨p4, e, e4⟩ := bd_inr e
  obtain ⟨p3, e, e3⟩ := bd_inr e
  obtain ⟨p2, e, e2⟩ := bd_inr e
  obtain ⟨p1, e, e1⟩ := bd_inr e
  have a0 := by_le e
  have a1 := by_le e1
  have a2 := by_le e2
  have a3 := by_le e3
  have a4 := by_le e4
  omega
theorem mt_pl {p q : Nat} (e : mt_S B n p = .inr q) : ∃ h f, MPl B n p h f q := by
  unfold mt_S at e
  obtain ⟨f, e, e3⟩ := bd_inr e
  obtain ⟨h, e, e2⟩ := bd_inr e
  obtain ⟨x, e, e1⟩ := bd_inr e
  have w := mh_le e
  rw [w.1] at e e1
  exact ⟨h, f, e, e1, e2, e3⟩
theorem c_method (hn : 1000000 ≤ nn) {a : Int} {p : Nat} (ha : 0 ≤ a ∧ a ≤ 132) (T : TTc b n B M) (C : CRs b n (.inr p) M) : Pc (qf_X3_readMethod nn b a M) (fun r => FMp b a (a + 11) M r ∧ CRs b n (mt_S B n p) r ∧ ∀ h f q, MPl B n p h f q → MDt b B n a p h f r) := by
  unfold qf_X3_readMethod
  refine pc_add (by omega) ?_; intro v29 e29
  refine pc_sv (c_upTo T.1 C) ?_; intro u31 q31
  obtain ⟨f31, C31, w31⟩ := q31
  refine pc_wA ?_; intro i1 i2 h32 e32
  have F32 : FMp b a (a + 11) M h32 := fm_t (fm_p f31) (by rw [e32]; exact fm_u (by omega))
  have C32 := cr_k (n := n) (M2 := h32) (by rw [e32, up_n (by omega)]) (by rw [e32, up_n (by omega)]) C31
  have T32 := ttc_fm F32 T
  have R0 : h32 (b + 6) (a + 0).toNat = u31.1 := by rw [e32, show v29.toNat = (a + 0).toNat by omega, up_s]
  refine pc_add (by omega) ?_; intro v34 e34
  refine pc_sv (c_name hn T32 C32) ?_; intro u36 q36
  obtain ⟨f36, C36, w36⟩ := q36
  refine pc_wA ?_; intro j1 j2 h37 e37
  have G37 : FMp b (a + 1) (a + 1) h32 h37 := fm_t (fm_p f36) (by rw [e37]; exact fm_u (by omega))
  have F37 := fm_t F32 (fm_w (lo2 := a) (hi2 := a + 11) G37 (by omega))
  have C37 := cr_k (n := n) (M2 := h37) (by rw [e37, up_n (by omega)]) (by rw [e37, up_n (by omega)]) C36
  have T37 := ttc_fm F37 T
  have R1 : h37 (b + 6) (a + 1).toNat = u36.1 := by rw [e37, show v34.toNat = (a + 1).toNat by omega, up_s]
  refine pc_sv (c_next T37.1 C37) ?_; intro u39 q39
  obtain ⟨f39, C39, w39⟩ := q39
  have T39 := ttc_fr f39 T37
  have K := c_by (nn := nn) (t := fun k => (pi_S B n k).isSome) T39.1 C39 w39
  rw [c_par hn T39, mx_svs]
  have tail : ∀ g : ms_M, FRz b u39.2 g → CRs b n (bd_S (bd_S (bd_S (.inr p) (by_S B n (up_T 0 1))) (by_S B n (nm_S B n))) (by_S B n (fun k => (pi_S B n k).isSome))) g → Pc (qj_X3_readMethod_52 nn b a u39.1 (op_E (pi_S B n u39.1)) g) (fun r => FMp b a (a + 11) M r ∧ CRs b n (mt_S B n p) r ∧ ∀ h f q, MPl B n p h f q → MDt b B n a p h f r) := by
    intro g fg Cg
    have Gg : FRz b h37 g := frp_t f39 fg
    have Fg := fm_t F37 (fm_p (lo := a) (hi := a + 11) Gg)
    have Tg := ttc_fm Fg T
    unfold qj_X3_readMethod_52
    refine pc_add (by omega) ?_; intro v2 e2
    refine pc_wA ?_; intro k1 k2 h3 e3
    refine pc_add (by omega) ?_; intro v5 e5
    refine pc_wA ?_; intro l1 l2 h6 e6
    have F6 : FMp b a (a + 11) M h6 := fm_t Fg (fm_t (M1 := h3) (by rw [e3]; exact fm_u (by omega)) (by rw [e6]; exact fm_u (by omega)))
    have N6 : ∀ k, h6 b k = g b k := fun k => by rw [e6, up_n (by omega), e3, up_n (by omega)]
    have C6 := cr_k (n := n) (N6 2) (N6 3) Cg
    have T6 := ttc_fm F6 T
    have S6 : ∀ j : Int, (j = a + 0 ∨ j = a + 1) → h6 (b + 6) j.toNat = g (b + 6) j.toNat := fun j hj => by rw [e6, up_n (by omega), e3, up_n (by omega)]
    have R2 : h6 (b + 6) (a + 2).toNat = u39.1 := by rw [e6, up_n (by omega), e3, show v2.toNat = (a + 2).toNat by omega, up_s]
    have R11 : h6 (b + 6) (a + 11).toNat = op_E (pi_S B n u39.1) := by rw [e6, show v5.toNat = (a + 11).toNat by omega, up_s]
    refine pc_add (by omega) ?_; intro v8 e8
    refine pc_sv (c_upTo T6.1 C6) ?_; intro u10 q10
    obtain ⟨f10, C10, w10⟩ := q10
    refine pc_wA ?_; intro m1 m2 h11 e11
    have G11 : FMp b (a + 3) (a + 3) h6 h11 := fm_t (fm_p f10) (by rw [e11]; exact fm_u (by omega))
    have F11 := fm_t F6 (fm_w (lo2 := a) (hi2 := a + 11) G11 (by omega))
    have C11 := cr_k (n := n) (M2 := h11) (by rw [e11, up_n (by omega)]) (by rw [e11, up_n (by omega)]) C10
    have T11 := ttc_fm F11 T
    have R3 : h11 (b + 6) (a + 3).toNat = u10.1 := by rw [e11, show v8.toNat = (a + 3).toNat by omega, up_s]
    refine pc_add (by omega) ?_; intro v13 e13
    refine pc_xl ?_; intro v14 e14
    refine pc_add (by omega) ?_; intro v16 e16
    refine pc_rA ?_; intro n1 n2 v17 e17
    have R0b : v17 = u31.1 := by
      rw [e17, show v16.toNat = (a + 0).toNat by omega, G11 _ _ (by omega) (by omega), S6 (a + 0) (.inl rfl), Gg _ _ (by omega), G37 _ _ (by omega) (by omega)]; exact R0
    refine pc_xl ?_; intro v18 e18
    refine pc_sv (c_upTo T11.1 C11) ?_; intro u20 q20
    obtain ⟨f20, C20, w20⟩ := q20
    refine pc_wA ?_; intro o1 o2 h21 e21
    have G21 : FMp b (a + 4) (a + 4) h11 h21 := fm_t (fm_p f20) (by rw [e21]; exact fm_u (by omega))
    have F21 := fm_t F11 (fm_w (lo2 := a) (hi2 := a + 11) G21 (by omega))
    have C21 := cr_k (n := n) (M2 := h21) (by rw [e21, up_n (by omega)]) (by rw [e21, up_n (by omega)]) C20
    have T21 := ttc_fm F21 T
    have R4 : h21 (b + 6) (a + 4).toNat = u20.1 := by rw [e21, show v13.toNat = (a + 4).toNat by omega, up_s]
    -- the head's values, once it is read
    have V : ∀ x, bd_S (bd_S (bd_S (bd_S (.inr p) (by_S B n (up_T 0 1))) (by_S B n (nm_S B n))) (by_S B n (fun k => (pi_S B n k).isSome))) (by_S B n (up_T 0 30)) = .inr x → x = p + 4 ∧ u31.1 = B p ∧ u36.1 = B (p + 1) ∧ u39.1 = B (p + 2) ∧ u10.1 = B (p + 3) ∧ v18 = le_S B n p ∧ (0 ≤ B p ∧ B p ≤ 1) := fun x z => by
      obtain ⟨x3, z3, y3⟩ := bd_inr z
      obtain ⟨x2, z2, y2⟩ := bd_inr z3
      obtain ⟨x1, z1, y1⟩ := bd_inr z2
      have a0 := by_le (show by_S B n (up_T 0 1) p = .inr x1 from z1)
      have a1 := by_le y1
      have a2 := by_le y2
      have a3 := by_le y3
      have b0 := w31 p rfl a0.2.1
      have b1 := w36 x1 z1 a1.2.1
      have b2 := w39 x2 z2 a2.2.1
      have b3 := w10 x3 z3 a3.2.1
      rw [show x1 = p + 1 by omega] at b1
      rw [show x2 = p + 2 by omega] at b2 a2
      rw [show x3 = p + 3 by omega] at b3
      have t01 := up_Tt a0.2.2
      refine ⟨by omega, b0, b1, b2, b3, ?_, t01⟩
      unfold le_S
      have pm : 0 ≤ op_E (pi_S B n (B (p + 2))) ∧ op_E (pi_S B n (B (p + 2))) ≤ 6 := by
        cases y : pi_S B n (B (p + 2)) with
        | none => rw [y] at a2; exact absurd a2.2.2 (by decide)
        | some c =>
          unfold pi_S up_6 at y
          unfold op_E
          dsimp only
          split at y
          · split at y
            · split at y
              · cases y; omega
              · cases y
            · cases y
          · cases y
      rw [b2, oq_add_eq (by omega) (by omega) (by omega)] at e14
      rw [e14, R0b, b0, oq_sub_eq (by omega) (by omega) (by omega)] at e18
      exact e18
    have C21b : CRs b n (mh_S B n p) h21 := by
      unfold mh_S
      cases z : bd_S (bd_S (bd_S (bd_S (.inr p) (by_S B n (up_T 0 1))) (by_S B n (nm_S B n))) (by_S B n (fun k => (pi_S B n k).isSome))) (by_S B n (up_T 0 30)) with
      | inl e => rw [z] at C21; exact (show bd_S (bd_S (bd_S (by_S B n (up_T 0 1) p) (by_S B n (nm_S B n))) (by_S B n (fun k => (pi_S B n k).isSome))) (by_S B n (up_T 0 30)) = .inl e from z) ▸ C21
      | inr x =>
        have w := V x z
        rw [z, w.2.2.2.2.2.1] at C21
        exact (show bd_S (bd_S (bd_S (by_S B n (up_T 0 1) p) (by_S B n (nm_S B n))) (by_S B n (fun k => (pi_S B n k).isSome))) (by_S B n (up_T 0 30)) = .inr x from z) ▸ C21
    refine pc_sv (c_code ha T21.1 C21b) ?_; intro u23 q23
    obtain ⟨G23, C23, w23⟩ := q23
    have F23 := fm_t F21 (fm_w (lo2 := a) (hi2 := a + 11) G23 (by omega))
    refine pc_sv (c_handlers (ttc_fm F23 T) C23 ha) ?_; intro u25 q25
    obtain ⟨G25, C25, w25⟩ := q25
    have F25 := fm_t F23 (fm_w (lo2 := a) (hi2 := a + 11) G25 (by omega))
    refine pc_sv (c_frames (ttc_fm F25 T) C25 ha) ?_; intro u27 q27
    obtain ⟨G27, C27, w27⟩ := q27
    have F27 := fm_t F25 (fm_w (lo2 := a) (hi2 := a + 11) G27 (by omega))
    refine pc_ret ⟨F27, C27, fun h f q P => ?_⟩
    obtain ⟨P1, P2, P3, P4⟩ := P
    have z4 : ∃ x, bd_S (bd_S (bd_S (bd_S (.inr p) (by_S B n (up_T 0 1))) (by_S B n (nm_S B n))) (by_S B n (fun k => (pi_S B n k).isSome))) (by_S B n (up_T 0 30)) = .inr x ∧ by_S B n (up_T (le_S B n p) 30) x = .inr (p + 5) := bd_inr P1
    obtain ⟨x, zx, yx⟩ := z4
    obtain ⟨x4, b0, b1, b2, b3, b18, -⟩ := V x zx
    have a4 := by_le yx
    have b4 := w20 x zx a4.2.1
    rw [x4] at b4
    have s23 := w23 (p + 5) h P1 P2
    have s25 := w25 h f (by rw [P1, bd_r]; exact P2) P3
    have s27 := w27 f q (by rw [P1, bd_r, P2, bd_r]; exact P3) P4
    have L : ∀ j : Int, (0 ≤ j ∧ (j ≤ a + 4 ∨ a + 11 ≤ j)) → u27 (b + 6) j.toNat = h21 (b + 6) j.toNat := fun j hj => by
      rw [G27 _ _ (by omega) (by omega), G25 _ _ (by omega) (by omega), G23 _ _ (by omega) (by omega)]
    have L11 : ∀ j : Int, (0 ≤ j ∧ (j ≤ a + 2 ∨ a + 11 ≤ j)) → h21 (b + 6) j.toNat = h6 (b + 6) j.toNat := fun j hj => by
      rw [G21 _ _ (by omega) (by omega), G11 _ _ (by omega) (by omega)]
    refine ⟨⟨?_, ?_, ?_, ?_, ?_, ?_⟩, ⟨?_, ?_⟩, ⟨?_, ?_⟩, s27⟩
    · rw [L _ (by omega), L11 _ (by omega), S6 _ (.inl rfl), Gg _ _ (by omega), G37 _ _ (by omega) (by omega), R0]; exact b0
    · rw [L _ (by omega), L11 _ (by omega), S6 _ (.inr rfl), Gg _ _ (by omega), R1]; exact b1
    · rw [L _ (by omega), L11 _ (by omega), R2]; exact b2
    · rw [L _ (by omega), L11 _ (by omega), R11, b2]
    · rw [L _ (by omega), G21 _ _ (by omega) (by omega), R3]; exact b3
    · rw [L _ (by omega), R4]; exact b4
    · rw [G27 _ _ (by omega) (by omega), G25 _ _ (by omega) (by omega)]; exact s23.1
    · rw [G27 _ _ (by omega) (by omega), G25 _ _ (by omega) (by omega)]; exact s23.2
    · rw [G27 _ _ (by omega) (by omega)]; exact s25.1
    · rw [G27 _ _ (by omega) (by omega)]; exact s25.2
  refine pc_if (fun c => tail u39.2 frp_r (K.1 ?_)) (fun c => ?_)
  · cases y : pi_S B n u39.1 with
    | none => rw [y] at c; exact absurd rfl c
    | some m => rfl
  · have c := Decidable.not_not.1 c
    refine pc_xl ?_; intro v43 e43
    refine pc_sv (K.2 ?_ v43 e43) ?_
    · intro z
      cases y : pi_S B n u39.1 with
      | none => rw [y] at z; cases z
      | some m => rw [y] at c; unfold op_E at c; dsimp only at c; omega
    · intro u45 q45
      exact tail u45 q45.1 q45.2
end
end

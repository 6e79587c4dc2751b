/- VERIFY: instructions of a method, both sides -/
/-- the code of method i; how long -/
def cd_S (B : Nat → Int) (n i p : Nat) : Int := B (ma_S B n i + 7 + p)
def cl_N (B : Nat → Int) (n i : Nat) : Nat := (ln_N B (ma_S B n i + 5)).toNat
/-- where instruction t begins -/
def is_S (D : Nat → Int) : Nat → Nat
  | 0 => 0
  | t + 1 => is_S D t + (WD (D (is_S D t))).toNat
/-- the first t instructions are right -/
def GSo (D : Nat → Int) (L t : Nat) : Prop := ∀ x : Nat, x < t → is_S D x < L ∧ 0 < WD (D (is_S D x)) ∧ (is_S D x : Int) + WD (D (is_S D x)) ≤ (L : Int)
/-- an instruction begins at p -/
def BGn (D : Nat → Int) (L p : Nat) : Prop := ∃ t : Nat, GSo D L t ∧ is_S D t = p ∧ p < L
/-- all instructions are right; the first that is not is at p -/
def IOk (D : Nat → Int) (L : Nat) : Prop := ∃ t : Nat, GSo D L t ∧ is_S D t = L
def INo (D : Nat → Int) (L p : Nat) : Prop := ∃ t : Nat, GSo D L t ∧ is_S D t = p ∧ p < L ∧ (WD (D p) = 0 ∨ (L : Int) < (p : Int) + WD (D p))
section
variable {nn : Nat} {Bf : Nat → Nat → Int} {nf : Nat → Nat} {cnt : Int} {B C D : Nat → Int} {n m b d k o i L : Nat} {M h g r h0 : ms_M} {t c : Int}
theorem wd_all : (List.range 256).all (fun o => decide (qf_X11_widthOf 0 ((o : Nat) : Int) (fun _ _ => 0) = some (WD ((o : Nat) : Int))) && decide (0 ≤ WD ((o : Nat) : Int) ∧ WD ((o : Nat) : Int) ≤ 3)) = true := by decide +kernel
theorem wd_at {a : Int} (ha : 0 ≤ a ∧ a ≤ 255) : qf_X11_widthOf 0 a (fun _ _ => 0) = some (WD a) ∧ 0 ≤ WD a ∧ WD a ≤ 3 := by
  have z := List.all_eq_true.mp wd_all a.toNat (List.mem_range.mpr (by omega))
  rw [Bool.and_eq_true] at z
  have e : ((a.toNat : Nat) : Int) = a := by omega
  rw [e] at z
  exact ⟨of_decide_eq_true z.1, of_decide_eq_true z.2⟩
theorem wd_c {a : Int} (ha : 0 ≤ a ∧ a ≤ 255) : qf_X11_widthOf nn a h = some (WD a) := by
  have q : qf_X11_widthOf 0 a (fun _ _ => 0) = qf_X11_widthOf nn a h := rfl
  rw [← q]; exact (wd_at ha).1
theorem wd_r {a : Int} : Pc (qf_X13_widthOf nn a h) (fun u => u = WD a) := pc_imp (pc_ok mw_width) (fun _ z => z.1)
theorem gso_u {s t : Nat} (A : GSo D L t) (st : s ≤ t) : GSo D L s := fun x hx => A x (by omega)
theorem is_mono {t : Nat} (A : GSo D L t) : ∀ x y : Nat, x < y → y ≤ t → is_S D x < is_S D y := by
  intro x y
  induction y with
  | zero => intro h1 _; exact absurd h1 (by omega)
  | succ y ih =>
    intro h1 h2
    have a := A y (by omega)
    have e : is_S D (y + 1) = is_S D y + (WD (D (is_S D y))).toNat := rfl
    by_cases q : x = y
    · rw [q, e]; omega
    · have := ih (by omega) (by omega)
      omega
/-- the beginnings, once all is right -/
theorem bgn_iff {t : Nat} (A : GSo D L t) (e : is_S D t = L) {p : Nat} : BGn D L p ↔ ∃ x : Nat, x < t ∧ is_S D x = p := by
  constructor
  · intro ⟨y, y1, y2, y3⟩
    refine ⟨y, Classical.byContradiction fun z => ?_, y2⟩
    by_cases q : y = t
    · rw [q] at y2; omega
    · have := (y1 t (by omega)).1
      omega
  · intro ⟨x, x1, x2⟩
    exact ⟨x, gso_u A (by omega), x2, by have := (A x x1).1; omega⟩
theorem ino_u {p q : Nat} (A : INo D L p) (E : INo D L q) : p = q := by
  obtain ⟨x, x1, x2, x3, x4⟩ := A
  obtain ⟨y, y1, y2, y3, y4⟩ := E
  have e : x = y := by
    rcases Nat.lt_trichotomy x y with z | z | z
    · have a := y1 x z
      rw [x2] at a; omega
    · exact z
    · have a := x1 y z
      rw [y2] at a; omega
  rw [← x2, ← y2, e]
theorem ino_ok {p : Nat} (A : INo D L p) (E : IOk D L) : False := by
  obtain ⟨x, x1, x2, x3, x4⟩ := A
  obtain ⟨y, y1, y2⟩ := E
  rcases Nat.lt_trichotomy x y with z | z | z
  · have a := y1 x z
    rw [x2] at a; omega
  · rw [z, y2] at x2; omega
  · have a := x1 y z
    rw [y2] at a; omega
/-- bytes of an image -/
theorem by_rg (S : CSv Bf nf h) (hk : (k : Int) < h 56 3) {p : Nat} (hp : p < nf k) : 0 ≤ Bf k p ∧ Bf k p ≤ 255 := by
  have a := ((S.2 k hk).1.1.2.2.2.2.2.2.2 p hp).1
  omega
/-- the class's code -/
theorem vc_code (S : CSv Bf nf h) (hk : (k : Int) < h 56 3) (e5 : h 127 5 = h 60 k) (e6 : h 127 6 = (i : Int)) (hi : (i : Int) < mc_S (Bf k) (nf k)) {p : Nat} (hp : p < cl_N (Bf k) (nf k) i) : Pc (qf_X11_codeAt nn (p : Int) h) (fun u => u = cd_S (Bf k) (nf k) i p ∧ 0 ≤ u ∧ u ≤ 255) := by
  have X := S.2 k hk
  have J := X.1.1
  have n6 := J.2.1
  obtain ⟨G, -, -, MD⟩ := cg_im X
  have gm := G.2.2.2 i hi
  have l1 := gm.2.2.2.1
  unfold cl_N at hp
  unfold qf_X11_codeAt qf_X11_info
  rw [e5]
  refine pc_ck (fun _ => ?_)
  refine pc_sv (P := fun u => u = ((ma_S (Bf k) (nf k) i + 7 : Nat) : Int)) ?_ ?_
  · refine pc_ck (fun _ => pc_ck (fun _ => ?_))
    rw [e6]
    refine pc_sv (vq_of (nn := nn) X hi (w := 6) (by decide) (MD i hi).2.1.2) ?_; intro u4 q4
    exact pc_ret q4
  intro u3 q3
  refine pc_add (by omega) ?_; intro v4 e4
  refine pc_ck (fun _ => ?_)
  refine pc_sv (P := fun u => u = Bf k (ma_S (Bf k) (nf k) i + 7 + p)) (fun u eu => by
    rw [show v4 = ((ma_S (Bf k) (nf k) i + 7 + p : Nat) : Int) by omega, byteAt_in J (by omega)] at eu; exact (Option.some.inj eu).symm) ?_
  intro u6 q6
  have rg := by_rg S hk (p := ma_S (Bf k) (nf k) i + 7 + p) (by omega)
  refine pc_ret ⟨q6, ?_, ?_⟩
  · rw [q6]; exact rg.1
  · rw [q6]; exact rg.2
/-- the marks of the class -/
def MKs (D : Nat → Int) (L t : Nat) (h : ms_M) : Prop := ∀ p : Nat, p < L → (h 132 p = -1 ∧ ∃ x : Nat, x < t ∧ is_S D x = p) ∨ (h 132 p = -2 ∧ ¬ ∃ x : Nat, x < t ∧ is_S D x = p)
theorem vc_33 (S0 : CSv Bf nf h0) (hk : (k : Int) < h0 56 3) (hi : (i : Int) < mc_S (Bf k) (nf k)) : ∀ (f t : Nat) (h : ms_M), VCk h0 h → h 127 5 = h 60 k → h 127 6 = (i : Int) → h 127 16 = (cl_N (Bf k) (nf k) i : Int) → GSo (cd_S (Bf k) (nf k) i) (cl_N (Bf k) (nf k) i) t → MKs (cd_S (Bf k) (nf k) i) (cl_N (Bf k) (nf k) i) t h → Pc (qw_X11_proveInstructions_33 nn f (is_S (cd_S (Bf k) (nf k) i) t : Int) h) (fun u => VCk h0 u.2 ∧ (∀ x j : Nat, ¬ x = 132 → ¬ (x = 127 ∧ j = 7) → u.2 x j = h x j) ∧ ((u.1 = 0 ∧ IOk (cd_S (Bf k) (nf k) i) (cl_N (Bf k) (nf k) i) ∧ ∀ p : Nat, p < cl_N (Bf k) (nf k) i → (u.2 132 p = -1 ∧ BGn (cd_S (Bf k) (nf k) i) (cl_N (Bf k) (nf k) i) p) ∨ (u.2 132 p = -2 ∧ ¬ BGn (cd_S (Bf k) (nf k) i) (cl_N (Bf k) (nf k) i) p)) ∨ (u.1 = 6 ∧ ∃ p : Nat, INo (cd_S (Bf k) (nf k) i) (cl_N (Bf k) (nf k) i) p ∧ u.2 127 7 = (p : Int)))) := by
  intro f
  induction f with
  | zero => intro t h _ _ _ _ _ _; exact pc_none
  | succ f ih =>
    intro t h V e5 e6 e16 A MK
    have S : CSv Bf nf h := csv_k S0 (fun c j _ z => V c j z)
    have hk' : (k : Int) < h 56 3 := by rw [V 56 3 (by omega)]; exact hk
    obtain ⟨G, -, -, -⟩ := cg_im (S.2 k hk')
    have l1 := (G.2.2.2 i hi).2.2.2.1
    have L15 : cl_N (Bf k) (nf k) i ≤ 1500 := by unfold cl_N; omega
    generalize hD : cd_S (Bf k) (nf k) i = D at *
    have isL : t = 0 ∨ is_S D t ≤ cl_N (Bf k) (nf k) i := by
      cases t with
      | zero => exact .inl rfl
      | succ t =>
        have a := A t (by omega)
        have e : is_S D (t + 1) = is_S D t + (WD (D (is_S D t))).toNat := rfl
        exact .inr (by omega)
    have is0 : is_S D 0 = 0 := rfl
    have isL2 : is_S D t ≤ cl_N (Bf k) (nf k) i := by
      rcases isL with z | z
      · rw [z, is0]; omega
      · exact z
    unfold qw_X11_proveInstructions_33
    rw [e16]
    refine pc_if (fun z => pc_ret ⟨V, fun _ _ _ _ => rfl, .inl ⟨rfl, ⟨t, A, by omega⟩, fun p hp => ?_⟩⟩) (fun z => ?_)
    · have bi := bgn_iff (p := p) A (show is_S D t = cl_N (Bf k) (nf k) i by omega)
      rcases MK p hp with ⟨m1, m2⟩ | ⟨m1, m2⟩
      · exact .inl ⟨m1, bi.2 m2⟩
      · exact .inr ⟨m1, fun w => m2 (bi.1 w)⟩
    have q := vc_code (nn := nn) S hk' e5 e6 hi (p := is_S D t) (by omega)
    rw [hD] at q
    refine pc_sv q ?_; intro u5 ⟨q5, r5⟩
    refine pc_sv (P := fun u => u = WD (D (is_S D t))) (fun u eu => by rw [wd_c r5, q5] at eu; exact (Option.some.inj eu).symm) ?_; intro u6 q6
    have w3 := (wd_at (a := D (is_S D t)) (by rw [← q5]; exact r5)).2
    have BD : (WD (D (is_S D t)) = 0 ∨ (cl_N (Bf k) (nf k) i : Int) < (is_S D t : Int) + WD (D (is_S D t))) → Pc (qj_X11_proveInstructions_64 nn (is_S D t : Int) h) (fun u => VCk h0 u.2 ∧ (∀ x j : Nat, ¬ x = 132 → ¬ (x = 127 ∧ j = 7) → u.2 x j = h x j) ∧ ((u.1 = 0 ∧ IOk D (cl_N (Bf k) (nf k) i) ∧ ∀ p : Nat, p < cl_N (Bf k) (nf k) i → (u.2 132 p = -1 ∧ BGn D (cl_N (Bf k) (nf k) i) p) ∨ (u.2 132 p = -2 ∧ ¬ BGn D (cl_N (Bf k) (nf k) i) p)) ∨ (u.1 = 6 ∧ ∃ p : Nat, INo D (cl_N (Bf k) (nf k) i) p ∧ u.2 127 7 = (p : Int)))) := fun w => by
      unfold qj_X11_proveInstructions_64 qf_X11_at
      refine pc_sv (P := fun u => u.1 = 6 ∧ u.2 = up_M h 127 7 (is_S D t : Int)) (pc_xl (fun h1 e1 => pc_ret ⟨rfl, e1⟩)) ?_
      intro u2 ⟨r1, r2⟩
      refine pc_ret ⟨fun c j y => ?_, fun x j y1 y2 => ?_, .inr ⟨r1, is_S D t, ⟨t, A, rfl, by omega, w⟩, ?_⟩⟩
      · show u2.2 c j = h0 c j
        rw [r2, up_n (by omega)]; exact V c j y
      · show u2.2 x j = h x j
        rw [r2, up_n (by omega)]
      · show u2.2 127 7 = _
        rw [r2, up_s]
    refine pc_if (fun y => BD (.inl (by omega))) (fun y => ?_)
    refine pc_add (by omega) ?_; intro v7 e7
    refine pc_if (fun w => ?_) (fun w => BD (.inr (by omega)))
    refine pc_wA ?_; intro _ _ h10 e10
    rw [Int.toNat_natCast] at e10
    refine pc_add (by omega) ?_; intro v11 e11
    have es : is_S D (t + 1) = is_S D t + (WD (D (is_S D t))).toNat := rfl
    rw [show v11 = (is_S D (t + 1) : Int) by omega]
    have A2 : GSo D (cl_N (Bf k) (nf k) i) (t + 1) := fun x hx => by
      by_cases xt : x = t
      · rw [xt]; exact ⟨by omega, by omega, by omega⟩
      · exact A x (by omega)
    have N10 : ∀ x j : Nat, ¬ x = 132 → h10 x j = h x j := fun x j y => by rw [e10, up_n (by omega)]
    refine pc_imp (ih (t + 1) h10 (fun c j y => by rw [N10 c j (by omega)]; exact V c j y) (by rw [N10 127 5 (by omega), N10 60 k (by omega)]; exact e5) (by rw [N10 127 6 (by omega)]; exact e6) (by rw [N10 127 16 (by omega)]; exact e16) A2 (fun p hp => ?_)) (fun u ⟨w1, w2, w3⟩ => ⟨w1, fun x j y1 y2 => by rw [w2 x j y1 y2]; exact N10 x j y1, w3⟩)
    by_cases pt : p = is_S D t
    · exact .inl ⟨by rw [pt, e10, up_s], t, by omega, pt.symm⟩
    · rw [e10, up_n (by omega)]
      rcases MK p hp with ⟨m1, x, x1, x2⟩ | ⟨m1, m2⟩
      · exact .inl ⟨m1, x, by omega, x2⟩
      · refine .inr ⟨m1, fun ⟨x, x1, x2⟩ => ?_⟩
        by_cases xt : x = t
        · exact pt (by rw [← x2, xt])
        · exact m2 ⟨x, by omega, x2⟩
end

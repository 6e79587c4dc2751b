/- VERIFY: heads, the class's side -/
/-- two members of a name -/
def TWs (B : Nat → Int) (n : Nat) (s : Int) : Prop := ∃ i j : Nat, j < i ∧ (i : Int) < mb_S B n s ∧ TXq B n (nt_S B n i s) B n (nt_S B n j s)
/-- method m of class k stands for another of the same name, and it may not -/
def OTm (Bf : Nat → Nat → Int) (nf : Nat → Nat) (cnt : Int) (k m : Nat) : Prop := ∃ (d : Int) (j : Nat), HFd Bf nf cnt k (nt_S (Bf k) (nf k) m 1) 1 (sp_F Bf nf cnt (8 + (k : Int))) d j ∧ (¬ Bf k (ma_S (Bf k) (nf k) m) = 0 ∨ ¬ Bf (d - 8).toNat (ma_S (Bf (d - 8).toNat) (nf (d - 8).toNat) j) = 0 ∨ ¬ TXq (Bf k) (nf k) (kt_S (Bf k) (nf k) m 1) (Bf (d - 8).toNat) (nf (d - 8).toNat) (kt_S (Bf (d - 8).toNat) (nf (d - 8).toNat) j 1))
section
variable {nn : Nat} {Bf : Nat → Nat → Int} {nf : Nat → Nat} {cnt : Int} {B C : Nat → Int} {n m b d k o : Nat} {M h g r h0 : ms_M} {t s c : Int}
theorem txq_s {B C : Nat → Int} {n m : Nat} {t s : Int} (T : TXq B n t C m s) : TXq C m s B n t := ⟨T.1.symm, fun i hi => (T.2 i (by rw [T.1]; exact hi)).symm⟩
theorem ch_m1 {i : Nat} (e : ch_F Bf nf cnt c i = -1) : ∀ j : Nat, ch_F Bf nf cnt c (i + j) = -1 := by
  intro j
  induction j with
  | zero => exact e
  | succ j ih =>
    show (if ch_F Bf nf cnt c (i + j) = -1 then -1 else sp_F Bf nf cnt (ch_F Bf nf cnt c (i + j))) = -1
    rw [if_pos ih]
theorem ch_sh (c0 : 0 ≤ c) : ∀ i : Nat, ch_F Bf nf cnt (sp_F Bf nf cnt c) i = ch_F Bf nf cnt c (i + 1) := by
  intro i
  induction i with
  | zero =>
    have e : ch_F Bf nf cnt c (0 + 1) = sp_F Bf nf cnt (ch_F Bf nf cnt c 0) := chv_s c0
    rw [e]; rfl
  | succ i ih =>
    show (if ch_F Bf nf cnt (sp_F Bf nf cnt c) i = -1 then -1 else sp_F Bf nf cnt (ch_F Bf nf cnt (sp_F Bf nf cnt c) i)) = (if ch_F Bf nf cnt c (i + 1) = -1 then -1 else sp_F Bf nf cnt (ch_F Bf nf cnt c (i + 1)))
    rw [ih]
theorem ch_sp (c0 : 0 ≤ c) (E : ch_F Bf nf cnt c 17 = -1) : ch_F Bf nf cnt (sp_F Bf nf cnt c) 17 = -1 := by
  rw [ch_sh c0]; exact ch_m1 E 1
/-- DOES THE WAY UP END -/
theorem vc_e4 (S : CSw Bf nf h) (hc : c = -1 ∨ ISc (h 56 3) c) : ∀ (f i : Nat), i ≤ 17 → Pc (qw_X4_endsAbove_4 nn f (ch_F Bf nf (h 56 3) c i) (i : Int) h) (fun u => (u = 1 ∧ ch_F Bf nf (h 56 3) c 17 = -1) ∨ (u = 0 ∧ ¬ ch_F Bf nf (h 56 3) c 17 = -1)) := by
  have g3 := S.1.1
  have I := ch_is (Bf := Bf) (nf := nf) g3.1 hc
  have E : ∀ i : Nat, i ≤ 17 → (i = 17 ∨ ch_F Bf nf (h 56 3) c i = -1) → Pc (qj_X4_endsAbove_33 nn (ch_F Bf nf (h 56 3) c i) h) (fun u => (u = 1 ∧ ch_F Bf nf (h 56 3) c 17 = -1) ∨ (u = 0 ∧ ¬ ch_F Bf nf (h 56 3) c 17 = -1)) := fun i hi w => by
    unfold qj_X4_endsAbove_33
    refine pc_if (fun z => pc_ret ?_) (fun z => pc_ret ?_)
    · rcases w with w | w
      · rw [w] at z; exact .inr ⟨rfl, z⟩
      · exact absurd w z
    · have z' : ch_F Bf nf (h 56 3) c i = -1 := by omega
      have a := ch_m1 z' (17 - i)
      rw [show i + (17 - i) = 17 by omega] at a
      exact .inl ⟨rfl, a⟩
  intro f
  induction f with
  | zero => intro i _; exact pc_none
  | succ f ih =>
    intro i hi
    unfold qw_X4_endsAbove_4
    refine pc_if (fun z => E i hi (.inl (by omega))) (fun z => ?_)
    refine pc_if (fun w => ?_) (fun w => ?_)
    · refine E i hi (.inr ?_)
      rcases I i with y | y
      · exact y
      · unfold ISc at y; omega
    · have cI : ISc (h 56 3) (ch_F Bf nf (h 56 3) c i) := by
        rcases I i with y | y
        · omega
        · exact y
      have cI' := cI
      unfold ISc at cI'
      refine pc_if (fun y => absurd y (by omega)) (fun _ => ?_)
      refine pc_rA ?_; intro _ _ v3 e3
      rw [kn_sp58 S cI, ← chv_s (by omega)] at e3
      refine pc_add (by omega) ?_; intro v4 e4
      rw [e3, show v4 = ((i + 1 : Nat) : Int) by omega]
      exact ih (i + 1) (by omega)
theorem vc_ends (S : CSw Bf nf h) (hc : c = -1 ∨ ISc (h 56 3) c) : Pc (qf_X4_endsAbove nn c h) (fun u => (u = 1 ∧ ch_F Bf nf (h 56 3) c 17 = -1) ∨ (u = 0 ∧ ¬ ch_F Bf nf (h 56 3) c 17 = -1)) := by
  unfold qf_X4_endsAbove
  exact vc_e4 S hc nn 0 (by omega)
theorem vt_17 (S : CSv Bf nf h) (hk : (k : Int) < h 56 3) (e5 : h 127 5 = h 60 k) {i : Nat} (hi : (i : Int) < mb_S (Bf k) (nf k) 0) {qk : Int → Int → ms_M → Option Int} {Q : Int → Prop} : ∀ (f j : Nat) (l1 : Int), (l1 = 0 ∨ l1 = 1) → j ≤ i → (∀ fl : Int, (fl = 1 ∧ (l1 = 1 ∨ ∃ x : Nat, j ≤ x ∧ x < i ∧ TXq (Bf k) (nf k) (nt_S (Bf k) (nf k) i 0) (Bf k) (nf k) (nt_S (Bf k) (nf k) x 0))) ∨ (fl = 0 ∧ l1 = 0 ∧ ∀ x : Nat, j ≤ x → x < i → ¬ TXq (Bf k) (nf k) (nt_S (Bf k) (nf k) i 0) (Bf k) (nf k) (nt_S (Bf k) (nf k) x 0)) → Pc (qk fl ((i + 1 : Nat) : Int) h) Q) → Pc (qw_X11_hasTwins_17 nn qk f l1 (i : Int) (j : Int) h) Q := by
  have X := S.2 k hk
  obtain ⟨G, -, -, MD⟩ := cg_im X
  have gf := G.1
  have gm := G.2.2.1
  have i12 : i < 12 := by unfold mb_S at hi; rw [if_pos rfl] at hi; omega
  have GET : ∀ x : Nat, (x : Int) < mb_S (Bf k) (nf k) 0 → Pc (qf_X3_fieldName nn (h 60 k).toNat (x : Int) h) (fun u => u = nt_S (Bf k) (nf k) x 0) := fun x hx => by
    have hx2 : (x : Int) < fc_S (Bf k) (nf k) := by unfold mb_S at hx; rw [if_pos rfl] at hx; exact hx
    exact pc_imp ((vq_cfn (nn := nn) X hx2).1) (fun u z => by rw [z]; unfold nt_S; rw [if_pos rfl])
  intro f
  induction f with
  | zero => intro j l1 _ _ _; exact pc_none
  | succ f ih =>
    intro j l1 b1 hj Hk
    unfold qw_X11_hasTwins_17
    refine pc_if (fun z => ?_) (fun z => ?_)
    · refine pc_add (by omega) ?_; intro v22 e22
      rw [show v22 = ((i + 1 : Nat) : Int) by omega]
      refine Hk l1 ?_
      rcases b1 with q | q
      · exact .inr ⟨q, q, fun x h1 h2 => absurd h2 (by omega)⟩
      · exact .inl ⟨q, .inl q⟩
    · have ON : (l1 = 1 ∨ TXq (Bf k) (nf k) (nt_S (Bf k) (nf k) i 0) (Bf k) (nf k) (nt_S (Bf k) (nf k) j 0)) → Pc (qj_X11_hasTwins_56 nn qk (qw_X11_hasTwins_17 nn qk f) (i : Int) (j : Int) h) Q := fun w => by
        unfold qj_X11_hasTwins_56
        refine pc_add (by omega) ?_; intro v21 e21
        rw [show v21 = ((j + 1 : Nat) : Int) by omega]
        refine ih (j + 1) 1 (.inr rfl) (by omega) (fun fl hf => Hk fl ?_)
        rcases hf with ⟨f1, -⟩ | ⟨f1, f2, -⟩
        · refine .inl ⟨f1, ?_⟩
          rcases w with w | w
          · exact .inl w
          · exact .inr ⟨j, Nat.le_refl _, by omega, w⟩
        · exact absurd f2 (by decide)
      refine pc_if (fun w => ON (.inl (by omega))) (fun w => ?_)
      rw [e5]
      refine pc_ck (fun _ => pc_ck (fun _ => pc_ck (fun _ => ?_)))
      refine pc_sv (GET i hi) ?_; intro u26 q26
      refine pc_ck (fun _ => pc_ck (fun _ => ?_))
      refine pc_sv (GET j (by omega)) ?_; intro u30 q30
      rw [q26, q30]
      refine pc_sv (vc_same S hk hk (nt_1 G hi) (nt_1 G (by omega))) ?_; intro u32 q32
      refine pc_if (fun y => ?_) (fun y => ?_)
      · refine pc_add (by omega) ?_; intro v33 e33
        rw [show v33 = ((j + 1 : Nat) : Int) by omega]
        have nq : ¬ TXq (Bf k) (nf k) (nt_S (Bf k) (nf k) i 0) (Bf k) (nf k) (nt_S (Bf k) (nf k) j 0) := by
          rcases q32 with q | q
          · omega
          · exact q.2
        refine ih (j + 1) 0 (.inl rfl) (by omega) (fun fl hf => Hk fl ?_)
        rcases hf with ⟨f1, f2⟩ | ⟨f1, -, f3⟩
        · refine .inl ⟨f1, ?_⟩
          rcases f2 with f2 | ⟨x, x1, x2, x3⟩
          · exact absurd f2 (by decide)
          · exact .inr ⟨x, by omega, x2, x3⟩
        · refine .inr ⟨f1, by omega, fun x h1 h2 => ?_⟩
          by_cases xj : x = j
          · rw [xj]; exact nq
          · exact f3 x (by omega) h2
      · refine ON (.inr ?_)
        rcases q32 with q | q
        · exact q.2
        · omega
theorem vt_89 (S : CSv Bf nf h) (hk : (k : Int) < h 56 3) (e5 : h 127 5 = h 60 k) {i : Nat} (hi : (i : Int) < mb_S (Bf k) (nf k) 1) {qk : Int → Int → ms_M → Option Int} {Q : Int → Prop} : ∀ (f j : Nat) (l1 : Int), (l1 = 0 ∨ l1 = 1) → j ≤ i → (∀ fl : Int, (fl = 1 ∧ (l1 = 1 ∨ ∃ x : Nat, j ≤ x ∧ x < i ∧ TXq (Bf k) (nf k) (nt_S (Bf k) (nf k) i 1) (Bf k) (nf k) (nt_S (Bf k) (nf k) x 1))) ∨ (fl = 0 ∧ l1 = 0 ∧ ∀ x : Nat, j ≤ x → x < i → ¬ TXq (Bf k) (nf k) (nt_S (Bf k) (nf k) i 1) (Bf k) (nf k) (nt_S (Bf k) (nf k) x 1)) → Pc (qk fl ((i + 1 : Nat) : Int) h) Q) → Pc (qw_X11_hasTwins_89 nn qk f l1 (i : Int) (j : Int) h) Q := by
  have X := S.2 k hk
  obtain ⟨G, -, -, MD⟩ := cg_im X
  have gf := G.1
  have gm := G.2.2.1
  have i12 : i < 12 := by unfold mb_S at hi; rw [if_neg (by decide)] at hi; omega
  have GET : ∀ x : Nat, (x : Int) < mb_S (Bf k) (nf k) 1 → Pc (qf_X3_of nn (h 60 k).toNat (x : Int) 1 h) (fun u => u = nt_S (Bf k) (nf k) x 1) := fun x hx => by
    have hx2 : (x : Int) < mc_S (Bf k) (nf k) := by unfold mb_S at hx; rw [if_neg (by decide)] at hx; exact hx
    exact vq_of (nn := nn) X hx2 (w := 1) (x := nt_S (Bf k) (nf k) x 1) (by decide) (by rw [(MD x hx2).1.2.1]; unfold nt_S; rw [if_neg (by decide)])
  intro f
  induction f with
  | zero => intro j l1 _ _ _; exact pc_none
  | succ f ih =>
    intro j l1 b1 hj Hk
    unfold qw_X11_hasTwins_89
    refine pc_if (fun z => ?_) (fun z => ?_)
    · refine pc_add (by omega) ?_; intro v22 e22
      rw [show v22 = ((i + 1 : Nat) : Int) by omega]
      refine Hk l1 ?_
      rcases b1 with q | q
      · exact .inr ⟨q, q, fun x h1 h2 => absurd h2 (by omega)⟩
      · exact .inl ⟨q, .inl q⟩
    · have ON : (l1 = 1 ∨ TXq (Bf k) (nf k) (nt_S (Bf k) (nf k) i 1) (Bf k) (nf k) (nt_S (Bf k) (nf k) j 1)) → Pc (qj_X11_hasTwins_130 nn qk (qw_X11_hasTwins_89 nn qk f) (i : Int) (j : Int) h) Q := fun w => by
        unfold qj_X11_hasTwins_130
        refine pc_add (by omega) ?_; intro v21 e21
        rw [show v21 = ((j + 1 : Nat) : Int) by omega]
        refine ih (j + 1) 1 (.inr rfl) (by omega) (fun fl hf => Hk fl ?_)
        rcases hf with ⟨f1, -⟩ | ⟨f1, f2, -⟩
        · refine .inl ⟨f1, ?_⟩
          rcases w with w | w
          · exact .inl w
          · exact .inr ⟨j, Nat.le_refl _, by omega, w⟩
        · exact absurd f2 (by decide)
      refine pc_if (fun w => ON (.inl (by omega))) (fun w => ?_)
      rw [e5]
      refine pc_ck (fun _ => pc_ck (fun _ => pc_ck (fun _ => ?_)))
      refine pc_sv (GET i hi) ?_; intro u26 q26
      refine pc_ck (fun _ => pc_ck (fun _ => ?_))
      refine pc_sv (GET j (by omega)) ?_; intro u30 q30
      rw [q26, q30]
      refine pc_sv (vc_same S hk hk (nt_1 G hi) (nt_1 G (by omega))) ?_; intro u32 q32
      refine pc_if (fun y => ?_) (fun y => ?_)
      · refine pc_add (by omega) ?_; intro v33 e33
        rw [show v33 = ((j + 1 : Nat) : Int) by omega]
        have nq : ¬ TXq (Bf k) (nf k) (nt_S (Bf k) (nf k) i 1) (Bf k) (nf k) (nt_S (Bf k) (nf k) j 1) := by
          rcases q32 with q | q
          · omega
          · exact q.2
        refine ih (j + 1) 0 (.inl rfl) (by omega) (fun fl hf => Hk fl ?_)
        rcases hf with ⟨f1, f2⟩ | ⟨f1, -, f3⟩
        · refine .inl ⟨f1, ?_⟩
          rcases f2 with f2 | ⟨x, x1, x2, x3⟩
          · exact absurd f2 (by decide)
          · exact .inr ⟨x, by omega, x2, x3⟩
        · refine .inr ⟨f1, by omega, fun x h1 h2 => ?_⟩
          by_cases xj : x = j
          · rw [xj]; exact nq
          · exact f3 x (by omega) h2
      · refine ON (.inr ?_)
        rcases q32 with q | q
        · exact q.2
        · omega
/-- ARE THERE TWO OF A NAME -/
theorem vt_76 (S : CSv Bf nf h) (hk : (k : Int) < h 56 3) (e5 : h 127 5 = h 60 k) : ∀ (f i : Nat) (l1 : Int), (l1 = 0 ∨ l1 = 1) → Pc (qw_X11_hasTwins_76 nn f l1 (i : Int) h) (fun u => (u = 1 ∧ (l1 = 1 ∨ ∃ x y : Nat, i ≤ x ∧ y < x ∧ (x : Int) < mc_S (Bf k) (nf k) ∧ TXq (Bf k) (nf k) (nt_S (Bf k) (nf k) x 1) (Bf k) (nf k) (nt_S (Bf k) (nf k) y 1))) ∨ (u = 0 ∧ l1 = 0 ∧ ∀ x y : Nat, i ≤ x → y < x → (x : Int) < mc_S (Bf k) (nf k) → ¬ TXq (Bf k) (nf k) (nt_S (Bf k) (nf k) x 1) (Bf k) (nf k) (nt_S (Bf k) (nf k) y 1))) := by
  obtain ⟨G, -, e12, -⟩ := cg_im (S.2 k hk)
  intro f
  induction f with
  | zero => intro i l1 _; exact pc_none
  | succ f ih =>
    intro i l1 b1
    unfold qw_X11_hasTwins_76
    rw [e5]
    refine pc_ck (fun _ => pc_ck (fun _ => ?_))
    refine pc_if (fun z => pc_ck (fun _ => pc_ret ?_)) (fun z => ?_)
    · rcases b1 with q | q
      · exact .inr ⟨q, q, fun x y h1 h2 h3 => absurd h3 (by omega)⟩
      · exact .inl ⟨q, .inl q⟩
    · have hi : (i : Int) < mb_S (Bf k) (nf k) 1 := by unfold mb_S; rw [if_neg (by decide)]; omega
      refine vt_89 S hk e5 hi nn 0 l1 b1 (Nat.zero_le _) (fun fl hf => ?_)
      refine pc_imp (ih (i + 1) fl (by rcases hf with y | y; exact .inr y.1; exact .inl y.1)) (fun u q => ?_)
      rcases q with ⟨u1, u2⟩ | ⟨u1, u2, u3⟩
      · refine .inl ⟨u1, ?_⟩
        rcases u2 with u2 | ⟨x, y, x1, x2, x3, x4⟩
        · rcases hf with ⟨-, f2⟩ | ⟨f1, -⟩
          · rcases f2 with f2 | ⟨y, -, y2, y3⟩
            · exact .inl f2
            · refine .inr ⟨i, y, Nat.le_refl _, y2, by omega, y3⟩
          · omega
        · exact .inr ⟨x, y, by omega, x2, x3, x4⟩
      · rcases hf with ⟨f1, -⟩ | ⟨-, f2, f3⟩
        · omega
        · refine .inr ⟨u1, f2, fun x y h1 h2 h3 => ?_⟩
          by_cases xi : x = i
          · rw [xi] at h2 ⊢; exact f3 y (Nat.zero_le _) h2
          · exact u3 x y (by omega) h2 h3
theorem vt_4 (S : CSv Bf nf h) (hk : (k : Int) < h 56 3) (e5 : h 127 5 = h 60 k) : ∀ (f i : Nat) (l1 : Int), (l1 = 0 ∨ l1 = 1) → Pc (qw_X11_hasTwins_4 nn f l1 (i : Int) h) (fun u => (u = 1 ∧ (l1 = 1 ∨ (∃ x y : Nat, i ≤ x ∧ y < x ∧ (x : Int) < fc_S (Bf k) (nf k) ∧ TXq (Bf k) (nf k) (nt_S (Bf k) (nf k) x 0) (Bf k) (nf k) (nt_S (Bf k) (nf k) y 0)) ∨ TWs (Bf k) (nf k) 1)) ∨ (u = 0 ∧ l1 = 0 ∧ (∀ x y : Nat, i ≤ x → y < x → (x : Int) < fc_S (Bf k) (nf k) → ¬ TXq (Bf k) (nf k) (nt_S (Bf k) (nf k) x 0) (Bf k) (nf k) (nt_S (Bf k) (nf k) y 0)) ∧ ¬ TWs (Bf k) (nf k) 1)) := by
  obtain ⟨G, ⟨e10, -⟩, -⟩ := cg_im (S.2 k hk)
  intro f
  induction f with
  | zero => intro i l1 _; exact pc_none
  | succ f ih =>
    intro i l1 b1
    unfold qw_X11_hasTwins_4
    rw [e5]
    refine pc_ck (fun _ => pc_ck (fun _ => ?_))
    refine pc_if (fun z => ?_) (fun z => ?_)
    · refine pc_imp (vt_76 S hk e5 nn 0 l1 b1) (fun u q => ?_)
      rcases q with ⟨u1, u2⟩ | ⟨u1, u2, u3⟩
      · refine .inl ⟨u1, ?_⟩
        rcases u2 with u2 | ⟨x, y, x1, x2, x3, x4⟩
        · exact .inl u2
        · exact .inr (.inr ⟨x, y, x2, by unfold mb_S; rw [if_neg (by decide)]; exact x3, x4⟩)
      · refine .inr ⟨u1, u2, fun x y h1 h2 h3 => absurd h3 (by omega), fun ⟨x, y, x2, x3, x4⟩ => ?_⟩
        unfold mb_S at x3
        rw [if_neg (by decide)] at x3
        exact u3 x y (Nat.zero_le _) x2 x3 x4
    · have hi : (i : Int) < mb_S (Bf k) (nf k) 0 := by unfold mb_S; rw [if_pos rfl]; omega
      refine vt_17 S hk e5 hi nn 0 l1 b1 (Nat.zero_le _) (fun fl hf => ?_)
      refine pc_imp (ih (i + 1) fl (by rcases hf with y | y; exact .inr y.1; exact .inl y.1)) (fun u q => ?_)
      rcases q with ⟨u1, u2⟩ | ⟨u1, u2, u3, u4⟩
      · refine .inl ⟨u1, ?_⟩
        rcases u2 with u2 | ⟨x, y, x1, x2, x3, x4⟩ | u2
        · rcases hf with ⟨-, f2⟩ | ⟨f1, -⟩
          · rcases f2 with f2 | ⟨y, -, y2, y3⟩
            · exact .inl f2
            · refine .inr (.inl ⟨i, y, Nat.le_refl _, y2, by omega, y3⟩)
          · omega
        · exact .inr (.inl ⟨x, y, by omega, x2, x3, x4⟩)
        · exact .inr (.inr u2)
      · rcases hf with ⟨f1, -⟩ | ⟨-, f2, f3⟩
        · omega
        · refine .inr ⟨u1, f2, fun x y h1 h2 h3 => ?_, u4⟩
          by_cases xi : x = i
          · rw [xi] at h2 ⊢; exact f3 y (Nat.zero_le _) h2
          · exact u3 x y (by omega) h2 h3
theorem vc_twins (S : CSv Bf nf h) (hk : (k : Int) < h 56 3) (e5 : h 127 5 = h 60 k) : Pc (qf_X11_hasTwins nn h) (fun u => (u = 1 ∧ (TWs (Bf k) (nf k) 0 ∨ TWs (Bf k) (nf k) 1)) ∨ (u = 0 ∧ ¬ TWs (Bf k) (nf k) 0 ∧ ¬ TWs (Bf k) (nf k) 1)) := by
  unfold qf_X11_hasTwins
  refine pc_imp (vt_4 S hk e5 nn 0 0 (.inl rfl)) (fun u q => ?_)
  rcases q with ⟨u1, u2⟩ | ⟨u1, -, u3, u4⟩
  · refine .inl ⟨u1, ?_⟩
    rcases u2 with u2 | ⟨x, y, -, x2, x3, x4⟩ | u2
    · exact absurd u2 (by decide)
    · exact .inl ⟨x, y, x2, by unfold mb_S; rw [if_pos rfl]; exact x3, x4⟩
    · exact .inr u2
  · refine .inr ⟨u1, fun ⟨x, y, x2, x3, x4⟩ => ?_, u4⟩
    unfold mb_S at x3
    rw [if_pos rfl] at x3
    exact u3 x y (Nat.zero_le _) x2 x3 x4
/-- STANDS A METHOD FOR ANOTHER -/
theorem vc_imn (S : CSv Bf nf h) {d : Int} {j : Nat} (hd : 8 ≤ d ∧ d < 8 + h 56 3) (hj : j < 12) : Pc (qf_X7_imageOfMember nn ((d - 8) * 12 + j) h) (fun u => u = h 60 (d - 8).toNat) := by
  have g3 := S.1
  unfold qf_X7_imageOfMember
  refine pc_if (fun z => absurd z (by omega)) (fun _ => ?_)
  refine pc_xl ?_; intro v2 e2
  rw [oq_mul_eq (by omega) (by omega) (by omega)] at e2
  refine pc_if (fun z => absurd z (by omega)) (fun _ => ?_)
  refine pc_xl ?_; intro v4 e4
  rw [Int.tdiv_eq_ediv_of_nonneg (by omega)] at e4
  refine pc_rA ?_; intro _ _ v5 e5
  rw [show v4 = d - 8 by omega] at e5
  exact pc_ret e5
theorem vc_im1 : Pc (qf_X7_imageOfMember nn (-1) h) (fun u => u = -1) := by
  unfold qf_X7_imageOfMember
  exact pc_if (fun _ => pc_ret rfl) (fun z => absurd (by decide) z)
/-- what is found is a class of the space, and the member is there -/
theorem hfd_is (c0 : 0 ≤ cnt) (hc : c = -1 ∨ ISc cnt c) {d : Int} {j : Nat} (H : HFd Bf nf cnt o t s c d j) : (8 ≤ d ∧ d < 8 + cnt) ∧ (j : Int) < mb_S (Bf (d - 8).toNat) (nf (d - 8).toNat) s := by
  obtain ⟨i, e, A, ⟨q1, -, -⟩, -⟩ := H
  have a := A i (Nat.le_refl _)
  rcases ch_is (Bf := Bf) (nf := nf) c0 hc i with z | z
  · omega
  · unfold ISc at z
    rw [e] at z a
    exact ⟨⟨a, z.2⟩, q1⟩
theorem vc_o4 (S : CSw Bf nf h) (hk : (k : Int) < h 56 3) (e5 : h 127 5 = h 60 k) (nz : ¬ sp_F Bf nf (h 56 3) (8 + (k : Int)) = -1) (E : ch_F Bf nf (h 56 3) (8 + (k : Int)) 17 = -1) : ∀ (f i : Nat) (l2 : Int), ((l2 = 1 ∧ ∃ m : Nat, (m : Int) < mc_S (Bf k) (nf k) ∧ OTm Bf nf (h 56 3) k m) ∨ (l2 = 0 ∧ ∀ m : Nat, m < i → ¬ OTm Bf nf (h 56 3) k m)) → Pc (qw_X11_hasOtherAbove_4 nn f (8 + (k : Int)) l2 (i : Int) h) (fun u => (u = 1 ∧ ∃ m : Nat, (m : Int) < mc_S (Bf k) (nf k) ∧ OTm Bf nf (h 56 3) k m) ∨ (u = 0 ∧ ∀ m : Nat, (m : Int) < mc_S (Bf k) (nf k) → ¬ OTm Bf nf (h 56 3) k m)) := by
  have g3 := S.1.1
  have X := S.1.2 k hk
  obtain ⟨G, -, e12, MD⟩ := cg_im X
  have gm := G.2.2.1
  have kI : ISc (h 56 3) (8 + (k : Int)) := by unfold ISc; omega
  have sI : sp_F Bf nf (h 56 3) (8 + (k : Int)) = -1 ∨ ISc (h 56 3) (sp_F Bf nf (h 56 3) (8 + (k : Int))) := sp_is g3.1 kI.1
  have E2 := ch_sp (Bf := Bf) (nf := nf) kI.1 E
  intro f
  induction f with
  | zero => intro i l2 _; exact pc_none
  | succ f ih =>
    intro i l2 L
    unfold qw_X11_hasOtherAbove_4
    rw [e5]
    refine pc_ck (fun _ => pc_ck (fun _ => ?_))
    refine pc_if (fun z => pc_ck (fun _ => pc_ret ?_)) (fun z => ?_)
    · rcases L with L | L
      · exact .inl L
      · exact .inr ⟨L.1, fun m hm => L.2 m (by omega)⟩
    refine pc_if (fun w => pc_ck (fun _ => pc_ret ?_)) (fun w => ?_)
    · rcases L with L | L
      · exact .inl L
      · exact absurd L.1 w
    have l0 : l2 = 0 := by omega
    have A : ∀ m : Nat, m < i → ¬ OTm Bf nf (h 56 3) k m := by
      rcases L with L | L
      · omega
      · exact L.2
    have hi : (i : Int) < mc_S (Bf k) (nf k) := by omega
    have hmb : (i : Int) < mb_S (Bf k) (nf k) 1 := by unfold mb_S; rw [if_neg (by decide)]; exact hi
    have D := MD i hi
    refine pc_sv (vc_above S kI) ?_; intro u9 q9
    refine pc_ck (fun _ => pc_ck (fun _ => ?_))
    refine pc_sv (vq_of (nn := nn) X hi (w := 1) (x := nt_S (Bf k) (nf k) i 1) (by decide) (by rw [D.1.2.1]; unfold nt_S; rw [if_neg (by decide)])) ?_; intro u13 q13
    rw [q9, q13]
    refine pc_sv (vc_mo S hk (nt_1 G hmb) sI E2) ?_; intro u15 q15
    have NX : ¬ OTm Bf nf (h 56 3) k i → ∀ v : Int, v = (i : Int) + 1 → Pc (qw_X11_hasOtherAbove_4 nn f (8 + (k : Int)) 0 v h) (fun u => (u = 1 ∧ ∃ m : Nat, (m : Int) < mc_S (Bf k) (nf k) ∧ OTm Bf nf (h 56 3) k m) ∨ (u = 0 ∧ ∀ m : Nat, (m : Int) < mc_S (Bf k) (nf k) → ¬ OTm Bf nf (h 56 3) k m)) := fun no v ev => by
      rw [show v = ((i + 1 : Nat) : Int) by omega]
      refine ih (i + 1) 0 (.inr ⟨rfl, fun m hm => ?_⟩)
      by_cases mi : m = i
      · rw [mi]; exact no
      · exact A m (by omega)
    have YE : OTm Bf nf (h 56 3) k i → Pc (qj_X11_hasOtherAbove_124 nn (qw_X11_hasOtherAbove_4 nn f) (8 + (k : Int)) (i : Int) h) (fun u => (u = 1 ∧ ∃ m : Nat, (m : Int) < mc_S (Bf k) (nf k) ∧ OTm Bf nf (h 56 3) k m) ∨ (u = 0 ∧ ∀ m : Nat, (m : Int) < mc_S (Bf k) (nf k) → ¬ OTm Bf nf (h 56 3) k m)) := fun y => by
      unfold qj_X11_hasOtherAbove_124
      refine pc_add (by omega) ?_; intro v1 e1
      rw [show v1 = ((i + 1 : Nat) : Int) by omega]
      exact ih (i + 1) 1 (.inl ⟨rfl, i, hi, y⟩)
    rcases q15 with ⟨q15, HN⟩ | ⟨d, j, HF, q15⟩
    · rw [q15]
      refine pc_sv vc_im1 ?_; intro u18 q18
      refine pc_if (fun _ => ?_) (fun y => absurd (show u18 < 0 by omega) y)
      refine pc_add (by omega) ?_; intro v21 e21
      rw [l0]
      exact NX (fun ⟨d, j, HF, _⟩ => hfd_n HF HN) v21 e21
    · obtain ⟨dr, jm⟩ := hfd_is g3.1 sI HF
      have hd : (((d - 8).toNat : Nat) : Int) < h 56 3 := by omega
      have Y := S.1.2 _ hd
      obtain ⟨G2, -, -, MD2⟩ := cg_im Y
      have jc : (j : Int) < mc_S (Bf (d - 8).toNat) (nf (d - 8).toNat) := by unfold mb_S at jm; rw [if_neg (by decide)] at jm; exact jm
      have gm2 := G2.2.2.1
      have D2 := MD2 j jc
      rw [q15]
      refine pc_sv (vc_imn S.1 dr (by omega)) ?_; intro u18 q18
      have k3 : kc_O (h 60 (d - 8).toNat).toNat = 3 := Y.1.1.1
      rw [q18]
      refine pc_if (fun y => ?_) (fun _ => ?_)
      · exfalso
        rw [show (h 60 (d - 8).toNat).toNat = 0 by omega] at k3
        exact absurd k3 (by decide)
      refine pc_xl ?_; intro v22 e22
      rw [Int.tmod_eq_emod_of_nonneg (by omega)] at e22
      rw [show v22 = (j : Int) by omega]
      have OT : (¬ Bf k (ma_S (Bf k) (nf k) i) = 0 ∨ ¬ Bf (d - 8).toNat (ma_S (Bf (d - 8).toNat) (nf (d - 8).toNat) j) = 0 ∨ ¬ TXq (Bf k) (nf k) (kt_S (Bf k) (nf k) i 1) (Bf (d - 8).toNat) (nf (d - 8).toNat) (kt_S (Bf (d - 8).toNat) (nf (d - 8).toNat) j 1)) ↔ OTm Bf nf (h 56 3) k i := by
        constructor
        · intro w; exact ⟨d, j, HF, w⟩
        · intro ⟨d2, j2, HF2, w⟩
          obtain ⟨a1, a2⟩ := hfd_u HF HF2
          rw [a1, a2]; exact w
      refine pc_ck (fun _ => ?_)
      refine pc_sv (vq_of (nn := nn) X hi (w := 0) (x := Bf k (ma_S (Bf k) (nf k) i)) (by decide) D.1.1) ?_; intro u25 q25
      refine pc_if (fun y => YE (OT.1 (.inl (by rw [← q25]; exact y)))) (fun y25 => ?_)
      refine pc_ck (fun _ => ?_)
      refine pc_sv (vq_of (nn := nn) Y jc (w := 0) (x := Bf (d - 8).toNat (ma_S (Bf (d - 8).toNat) (nf (d - 8).toNat) j)) (by decide) D2.1.1) ?_; intro u27 q27
      refine pc_if (fun y => YE (OT.1 (.inr (.inl (by rw [← q27]; exact y))))) (fun y27 => ?_)
      refine pc_ck (fun _ => pc_ck (fun _ => ?_))
      refine pc_sv (vq_of (nn := nn) X hi (w := 2) (x := kt_S (Bf k) (nf k) i 1) (by decide) (by rw [D.1.2.2.1]; unfold kt_S; rw [if_neg (by decide)])) ?_; intro u31 q31
      refine pc_sv (vq_of (nn := nn) Y jc (w := 2) (x := kt_S (Bf (d - 8).toNat) (nf (d - 8).toNat) j 1) (by decide) (by rw [D2.1.2.2.1]; unfold kt_S; rw [if_neg (by decide)])) ?_; intro u33 q33
      rw [q31, q33]
      obtain ⟨m1, em1⟩ := kal_m G hi
      obtain ⟨m2, em2⟩ := kal_m G2 jc
      refine pc_sv (vc_same S.1 hk hd (ps_ok em1).2.1 (ps_ok em2).2.1) ?_; intro u35 q35
      refine pc_if (fun y => ?_) (fun y => YE (OT.1 (.inr (.inr ?_))))
      · refine pc_add (by omega) ?_; intro v36 e36
        refine NX (fun w => ?_) v36 e36
        rcases OT.2 w with z | z | z
        · exact y25 (by rw [q25]; exact z)
        · exact y27 (by rw [q27]; exact z)
        · rcases q35 with q | q
          · exact z q.2
          · exact y q.1
      · rcases q35 with q | q
        · omega
        · exact q.2
theorem vc_other (S : CSw Bf nf h) (hk : (k : Int) < h 56 3) (e5 : h 127 5 = h 60 k) (nz : ¬ sp_F Bf nf (h 56 3) (8 + (k : Int)) = -1) (E : ch_F Bf nf (h 56 3) (8 + (k : Int)) 17 = -1) : Pc (qf_X11_hasOtherAbove nn (8 + (k : Int)) h) (fun u => (u = 1 ∧ ∃ m : Nat, (m : Int) < mc_S (Bf k) (nf k) ∧ OTm Bf nf (h 56 3) k m) ∨ (u = 0 ∧ ∀ m : Nat, (m : Int) < mc_S (Bf k) (nf k) → ¬ OTm Bf nf (h 56 3) k m)) := by
  unfold qf_X11_hasOtherAbove
  exact vc_o4 S hk e5 nz E nn 0 0 (.inr ⟨rfl, fun m hm => absurd hm (by omega)⟩)
end

/- VERIFY: frames and handlers against the state, both sides -/
section
variable {nn : Nat} {Bf : Nat → Nat → Int} {nf : Nat → Nat} {cnt mx lc : Int} {B C D : Nat → Int} {n m b d k i L p q : Nat} {M h g r h0 : ms_M} {t t2 c a op x : Int} {o : Option ST3} {s : ST3} {u : Int × ms_M}
theorem pcw_S {α : Type} {Q : α → Prop} {c : Nat} {j v : Int} {G : ms_M → Option α} (q : ∀ z, z = up_M M c j.toNat v → Pc (G z) Q) : Pc (wr_S c j v M G) Q := fun r e => q _ rfl r (ws_i e)
/-- FILL, the locals -/
theorem vc_fl5 : ∀ (f j : Nat) (h : ms_M), j ≤ 30 → (∀ x y : Nat, ¬ x = 134 → h x y = h0 x y) → (∀ x : Nat, x < j → h 134 x = 304) → Pc (qw_J7_fill_53178_5 nn f 134 304 (j : Int) 30 h) (fun u => (∀ x y : Nat, ¬ x = 134 → u x y = h0 x y) ∧ ∀ x : Nat, x < 30 → u 134 x = 304) := by
  intro f
  induction f with
  | zero => intro j h _ _ _; exact pc_none
  | succ f ih =>
    intro j h hj F W
    unfold qw_J7_fill_53178_5
    refine pc_if (fun z => pc_ret ⟨F, fun x hx => W x (by omega)⟩) (fun z => ?_)
    refine pcw_S ?_; intro h1 e1
    rw [Int.toNat_natCast] at e1
    refine pc_add (by omega) ?_; intro v2 e2
    rw [show v2 = ((j + 1 : Nat) : Int) by omega]
    refine ih (j + 1) h1 (by omega) (fun x y w => by rw [e1, up_n (by omega)]; exact F x y w) (fun x hx => ?_)
    by_cases e : x = j
    · rw [e, e1, up_s]
    · rw [e1, up_n (by omega)]; exact W x (by omega)
theorem vc_fillL : Pc (qf_J7_fill_53178 nn 134 304 h) (fun u => (∀ x y : Nat, ¬ x = 134 → u x y = h x y) ∧ ∀ x : Nat, x < 30 → u 134 x = 304) := by
  unfold qf_J7_fill_53178
  refine pc_lS ?_; intro v4 e4
  have e : ln_I h 134 = 30 := by
    unfold ln_I
    rw [if_pos (by decide)]
    rfl
  rw [e4, e]
  exact vc_fl5 nn 0 h (by omega) (fun _ _ _ => rfl) (fun x hx => absurd hx (by omega))
/-- types of a frame -/
theorem ft_vt (c0 : 0 ≤ cnt ∧ cnt ≤ 8) (G : GMt (Bf k) (nf k) i) {zx : Nat} (zk : kk_S (Bf k) (nf k) = .inr zx) (z2 : 0 ≤ Bf k 2) {f : Nat} (hf : f < fn_S (Bf k) (nf k) i) (F : FTh Bf nf cnt k i f) : (∀ j : Nat, (j : Int) < nl_S (Bf k) (nf k) i f → TPg (Bf k) (nf k) (tp_S (Bf k) (fw_S (Bf k) (nf k) i f + 2) j) ∧ VTq cnt (fl_F Bf nf cnt k i f j)) ∧ ∀ j : Nat, (j : Int) < nk_S (Bf k) (nf k) i f → TPg (Bf k) (nf k) (tp_S (Bf k) (te_P (Bf k) (fw_S (Bf k) (nf k) i f + 2)) j) ∧ VTq cnt (fk_F Bf nf cnt k i f j) := by
  obtain ⟨G1, G2, G3⟩ := gm_fr G hf
  refine ⟨fun j hj => ?_, fun j hj => ?_⟩
  · have hj' : (j : Int) < Bf k (fw_S (Bf k) (nf k) i f + 2) := hj
    have T := G2.2.1 j (by omega)
    refine ⟨T, ?_⟩
    rcases tt_is (Bf := Bf) (nf := nf) c0 zk z2 T with w | w
    · exact absurd w (F.2.1 j hj)
    · exact w
  · have hj' : (j : Int) < Bf k (te_P (Bf k) (fw_S (Bf k) (nf k) i f + 2)) := hj
    have T := G3.2.1 j (by omega)
    refine ⟨T, ?_⟩
    rcases tt_is (Bf := Bf) (nf := nf) c0 zk z2 T with w | w
    · exact absurd w (F.2.2 j hj)
    · exact w
/-- LOCALS FIT, the class -/
theorem vc_fl4 (C : CMz Bf nf cnt k i h) (S : STc cnt (Bf k (ma_S (Bf k) (nf k) i + 3)) s h) {f : Nat} (hf : f < fn_S (Bf k) (nf k) i) (F : FTh Bf nf cnt k i f) : ∀ (y j : Nat) (l2 : Int), ((l2 = 1 ∧ ∀ x : Nat, x < j → FTq Bf nf cnt (s.1 x) (fl_F Bf nf cnt k i f x)) ∨ (l2 = 0 ∧ ¬ FLq Bf nf cnt k i f s)) → (j : Int) ≤ nl_S (Bf k) (nf k) i f → Pc (qw_X11_fitsLocals_4 nn y ((64 * f : Nat) : Int) l2 (j : Int) h) (fun u => (u = 1 ∧ FLq Bf nf cnt k i f s) ∨ (u = 0 ∧ ¬ FLq Bf nf cnt k i f s)) := by
  have f100 := (cme_f C.1.1).2.1
  have g30 := (cme_m C.1.1).2.2.1
  have c8 := C.1.1.1.1.1.2
  rw [C.1.2] at c8
  obtain ⟨⟨c1, c2, c3⟩, c4, c5⟩ := C.2.2.2.1 f hf
  have f1 := F.1.1
  intro y
  induction y with
  | zero => intro j l2 _ _; exact pc_none
  | succ y ih =>
    intro j l2 A hj
    unfold qw_X11_fitsLocals_4
    refine pc_add (by omega) ?_; intro v2 e2
    refine pc_rA ?_; intro _ _ v3 e3
    rw [show v2.toNat = 64 * f + 1 by omega, c2] at e3
    refine pc_if (fun z => pc_ck (fun _ => pc_ret ?_)) (fun z => ?_)
    · rcases A with w | w
      · exact .inl ⟨w.1, fun x hx => w.2 x (by omega)⟩
      · exact .inr w
    refine pc_if (fun w => pc_ck (fun _ => pc_ret (.inr ⟨w, ?_⟩))) (fun w => ?_)
    · rcases A with v | v
      · omega
      · exact v.2
    have A1 : ∀ x : Nat, x < j → FTq Bf nf cnt (s.1 x) (fl_F Bf nf cnt k i f x) := by
      rcases A with v | v
      · exact v.2
      · exact absurd v.1 w
    refine pc_rA ?_; intro _ _ v7 e7
    rw [Int.toNat_natCast, S.2.1 j (by omega)] at e7
    refine pc_add (by omega) ?_; intro v9 e9
    refine pc_add (by omega) ?_; intro v10 e10
    refine pc_rA ?_; intro _ _ v11 e11
    rw [show v10.toNat = 64 * f + 3 + j by omega, c4 j (by omega) (by omega)] at e11
    rw [e7, e11]
    have q := vc_fits (nn := nn) C.1.1.1 (x := s.1 j) (y := fl_F Bf nf cnt k i f j) (by rw [C.1.2]; exact vt_is c8 (S.1.1 j (by omega)))
    rw [C.1.2] at q
    refine pc_sv q ?_; intro u13 q13
    refine pc_add (by omega) ?_; intro v14 e14
    rw [show v14 = ((j + 1 : Nat) : Int) by omega]
    refine ih (j + 1) u13 ?_ (by omega)
    rcases q13 with v | v
    · refine .inl ⟨v.1, fun x hx => ?_⟩
      by_cases e : x = j
      · rw [e]; exact v.2
      · exact A1 x (by omega)
    · exact .inr ⟨v.1, fun y => v.2 (y j (by omega))⟩
theorem vc_flocals (C : CMz Bf nf cnt k i h) (S : STc cnt (Bf k (ma_S (Bf k) (nf k) i + 3)) s h) {f : Nat} (hf : f < fn_S (Bf k) (nf k) i) (F : FTh Bf nf cnt k i f) {v : Int} (ev : v = ((64 * f : Nat) : Int)) : Pc (qf_X11_fitsLocals nn v h) (fun u => (u = 1 ∧ FLq Bf nf cnt k i f s) ∨ (u = 0 ∧ ¬ FLq Bf nf cnt k i f s)) := by
  rw [ev]
  unfold qf_X11_fitsLocals
  have b := cme_b C.1.1 (gm_fr (cme_m C.1.1) hf).2.1.1
  exact vc_fl4 C S hf F nn 0 1 (.inl ⟨rfl, fun x hx => absurd hx (by omega)⟩) b.1
/-- THE FRAME FITS, the class -/
theorem vc_ff37 (C : CMz Bf nf cnt k i h) (S : STc cnt (Bf k (ma_S (Bf k) (nf k) i + 3)) s h) {f : Nat} (hf : f < fn_S (Bf k) (nf k) i) (en : nk_S (Bf k) (nf k) i f = (s.2.2 : Int)) (FL : FLq Bf nf cnt k i f s) : ∀ (y j : Nat) (l3 : Int), ((l3 = 1 ∧ ∀ x : Nat, x < j → FTq Bf nf cnt (s.2.1 x) (fk_F Bf nf cnt k i f x)) ∨ (l3 = 0 ∧ ¬ FFt Bf nf cnt k i f s)) → j ≤ s.2.2 → Pc (qw_X11_fitsFrame_37 nn y ((64 * f : Nat) : Int) l3 (j : Int) h) (fun u => (u = 1 ∧ FFt Bf nf cnt k i f s) ∨ (u = 0 ∧ ¬ FFt Bf nf cnt k i f s)) := by
  have f100 := (cme_f C.1.1).2.1
  have g30 := (cme_m C.1.1).2.2.1
  have c8 := C.1.1.1.1.1.2
  rw [C.1.2] at c8
  have s30 := S.1.2.2
  obtain ⟨⟨c1, c2, c3⟩, c4, c5⟩ := C.2.2.2.1 f hf
  intro y
  induction y with
  | zero => intro j l3 _ _; exact pc_none
  | succ y ih =>
    intro j l3 A hj
    unfold qw_X11_fitsFrame_37
    rw [S.2.2.2]
    refine pc_if (fun z => pc_ck (fun _ => pc_ret ?_)) (fun z => ?_)
    · rcases A with w | w
      · exact .inl ⟨w.1, FL, en, fun x hx => w.2 x (by omega)⟩
      · exact .inr w
    refine pc_if (fun w => pc_ck (fun _ => pc_ret (.inr ⟨w, ?_⟩))) (fun w => ?_)
    · rcases A with v | v
      · omega
      · exact v.2
    have A1 : ∀ x : Nat, x < j → FTq Bf nf cnt (s.2.1 x) (fk_F Bf nf cnt k i f x) := by
      rcases A with v | v
      · exact v.2
      · exact absurd v.1 w
    refine pc_rA ?_; intro _ _ v5 e5
    rw [Int.toNat_natCast, S.2.2.1 j (by omega)] at e5
    refine pc_add (by omega) ?_; intro v7 e7
    refine pc_add (by omega) ?_; intro v8 e8
    refine pc_rA ?_; intro _ _ v9 e9
    rw [show v8.toNat = 64 * f + 33 + j by omega, c5 j (by omega) (by omega)] at e9
    rw [e5, e9]
    have q := vc_fits (nn := nn) C.1.1.1 (x := s.2.1 j) (y := fk_F Bf nf cnt k i f j) (by rw [C.1.2]; exact vt_is c8 (S.1.2.1 j (by omega)))
    rw [C.1.2] at q
    refine pc_sv q ?_; intro u11 q11
    refine pc_add (by omega) ?_; intro v12 e12
    rw [show v12 = ((j + 1 : Nat) : Int) by omega]
    refine ih (j + 1) u11 ?_ (by omega)
    rcases q11 with v | v
    · refine .inl ⟨v.1, fun x hx => ?_⟩
      by_cases e : x = j
      · rw [e]; exact v.2
      · exact A1 x (by omega)
    · exact .inr ⟨v.1, fun y => v.2 (y.2.2 j (by omega))⟩
theorem vc_ff0 {v : Int} : Pc (qj_X11_fitsFrame_32 nn v h) (fun u => u = 0) := by
  unfold qj_X11_fitsFrame_32
  suffices K : ∀ y : Nat, Pc (qw_X11_fitsFrame_37 nn y v 0 0 h) (fun u => u = 0) from K nn
  intro y
  cases y with
  | zero => exact pc_none
  | succ y =>
    unfold qw_X11_fitsFrame_37
    refine pc_if (fun _ => pc_ck (fun _ => pc_ret rfl)) (fun _ => ?_)
    exact pc_if (fun _ => pc_ck (fun _ => pc_ret rfl)) (fun w => absurd rfl w)
theorem vc_fframe (C : CMz Bf nf cnt k i h) (S : STc cnt (Bf k (ma_S (Bf k) (nf k) i + 3)) s h) {f : Nat} (hf : f < fn_S (Bf k) (nf k) i) (F : FTh Bf nf cnt k i f) : Pc (qf_X11_fitsFrame nn (f : Int) h) (fun u => (u = 1 ∧ FFt Bf nf cnt k i f s) ∨ (u = 0 ∧ ¬ FFt Bf nf cnt k i f s)) := by
  have f100 := (cme_f C.1.1).2.1
  obtain ⟨⟨c1, c2, c3⟩, c4, c5⟩ := C.2.2.2.1 f hf
  unfold qf_X11_fitsFrame
  refine pc_xl ?_; intro v15 e15
  rw [oq_mul_eq (by omega) (by omega) (by omega)] at e15
  refine pc_add (by omega) ?_; intro v17 e17
  refine pc_rA ?_; intro _ _ v18 e18
  rw [show v17.toNat = 64 * f + 2 by omega, c3] at e18
  rw [S.2.2.2]
  refine pc_if (fun z => pc_imp vc_ff0 (fun u w => .inr ⟨w, fun v => z (e18.trans v.2.1)⟩)) (fun z => ?_)
  refine pc_sv (vc_flocals C S hf F (v := v15) (by omega)) ?_; intro u21 q21
  refine pc_if (fun w => pc_imp vc_ff0 (fun u y => .inr ⟨y, fun v => ?_⟩)) (fun w => ?_)
  · rcases q21 with q | q
    · omega
    · exact q.2 v.1
  rw [show v15 = ((64 * f : Nat) : Int) by omega]
  refine vc_ff37 C S hf (by omega) ?_ nn 0 1 (.inl ⟨rfl, fun x hx => absurd hx (by omega)⟩) (Nat.zero_le _)
  rcases q21 with q | q
  · exact q.2
  · exact absurd q.1 w
/-- THE STATE BECOMES THE FRAME'S, the class -/
theorem vc_tkf {f : Nat} (C : CMz Bf nf cnt k i h) (VT : (∀ j : Nat, (j : Int) < nl_S (Bf k) (nf k) i f → VTq cnt (fl_F Bf nf cnt k i f j)) ∧ ∀ j : Nat, (j : Int) < nk_S (Bf k) (nf k) i f → VTq cnt (fk_F Bf nf cnt k i f j)) (hf : f < fn_S (Bf k) (nf k) i) (F : FTh Bf nf cnt k i f) : Pc (qf_X11_takeFrame nn (f : Int) h) (fun u => SKe h u ∧ STc cnt (Bf k (ma_S (Bf k) (nf k) i + 3)) (tk_F Bf nf cnt k i f) u) := by
  have f100 := (cme_f C.1.1).2.1
  have g30 := (cme_m C.1.1).2.2.1
  have f1 := F.1
  obtain ⟨⟨c1, c2, c3⟩, c4, c5⟩ := C.2.2.2.1 f hf
  obtain ⟨G1, G2, G3⟩ := gm_fr (cme_m C.1.1) hf
  have b2 : 0 ≤ nl_S (Bf k) (nf k) i f ∧ nl_S (Bf k) (nf k) i f ≤ 255 := cme_b C.1.1 G2.1
  have b3 : 0 ≤ nk_S (Bf k) (nf k) i f ∧ nk_S (Bf k) (nf k) i f ≤ 255 := cme_b C.1.1 G3.1
  unfold qf_X11_takeFrame
  refine pc_xl ?_; intro v1 e1
  rw [oq_mul_eq (by omega) (by omega) (by omega)] at e1
  refine pc_sv vc_fillL ?_; intro u3 ⟨F3, W3⟩
  refine pc_add (by omega) ?_; intro v5 e5
  refine pc_add (by omega) ?_; intro v8 e8
  refine pc_rA ?_; intro _ _ v9 e9
  rw [show v8.toNat = 64 * f + 1 by omega, F3 133 _ (by omega), c2] at e9
  refine pc_cpS ?_; intro h10 e10
  have V10 : ∀ j : Nat, h10 134 j = if (0 ≤ j ∧ j < 0 + v9.toNat) then u3 133 (v5.toNat + (j - 0)) else u3 134 j := fun j => by
    rw [e10]
    show (if 134 = 134 ∧ (0 : Int).toNat ≤ j ∧ j < (0 : Int).toNat + v9.toNat then u3 133 (v5.toNat + (j - (0 : Int).toNat)) else u3 134 j) = _
    rw [show (0 : Int).toNat = 0 from rfl]
    by_cases w : 0 ≤ j ∧ j < 0 + v9.toNat
    · rw [if_pos ⟨rfl, w⟩, if_pos w]
    · rw [if_neg (fun y => w y.2), if_neg w]
  have F10 : ∀ x y : Nat, ¬ x = 134 → h10 x y = h x y := fun x y w => by
    rw [e10]
    show (if x = 134 ∧ _ then _ else u3 x y) = h x y
    rw [if_neg (fun z => w z.1)]
    exact F3 x y w
  refine pc_add (by omega) ?_; intro v12 e12
  refine pc_rA ?_; intro _ _ v13 e13
  rw [show v12.toNat = 64 * f + 2 by omega, F10 133 _ (by omega), c3] at e13
  refine pc_xl ?_; intro h14 e14
  have F14 : ∀ x y : Nat, ¬ x = 134 → ¬ (x = 127 ∧ y = 18) → h14 x y = h x y := fun x y w1 w2 => by rw [e14, up_n w2]; exact F10 x y w1
  have e18 : h14 127 18 = v13 := by rw [e14, up_s]
  refine pc_add (by omega) ?_; intro v16 e16
  rw [e18]
  refine pc_cpS ?_; intro h19 e19
  have F19 : ∀ x y : Nat, ¬ x = 135 → h19 x y = h14 x y := fun x y w => by
    rw [e19]
    show (if x = 135 ∧ _ then _ else h14 x y) = h14 x y
    rw [if_neg (fun z => w z.1)]
  refine pc_ret ⟨fun x y z1 z2 => ?_, ⟨fun j hj => ?_, fun j hj => ?_, ?_⟩, fun j hj => ?_, fun j hj => ?_, ?_⟩
  · rw [F19 x y (by omega)]; exact F14 x y (by omega) (by omega)
  · show VTq cnt (if (j : Int) < nl_S (Bf k) (nf k) i f then fl_F Bf nf cnt k i f j else 304)
    by_cases w : (j : Int) < nl_S (Bf k) (nf k) i f
    · rw [if_pos w]; exact VT.1 j w
    · rw [if_neg w]; exact .inl rfl
  · have hj : j < (nk_S (Bf k) (nf k) i f).toNat := hj
    exact VT.2 j (by omega)
  · show (((nk_S (Bf k) (nf k) i f).toNat : Nat) : Int) ≤ (Bf k (ma_S (Bf k) (nf k) i + 3))
    omega
  · show h19 134 j = (if (j : Int) < nl_S (Bf k) (nf k) i f then fl_F Bf nf cnt k i f j else 304)
    rw [F19 134 j (by omega), e14, up_n (by omega), V10 j]
    by_cases w : (j : Int) < nl_S (Bf k) (nf k) i f
    · rw [if_pos w, if_pos (by omega), show v5.toNat + (j - 0) = 64 * f + 3 + j by omega, F3 133 _ (by omega)]
      exact c4 j hj w
    · rw [if_neg w, if_neg (by omega)]
      exact W3 j hj
  · have hj : j < (nk_S (Bf k) (nf k) i f).toNat := hj
    show h19 135 j = fk_F Bf nf cnt k i f j
    rw [e19]
    show (if 135 = 135 ∧ (0 : Int).toNat ≤ j ∧ j < (0 : Int).toNat + v13.toNat then h14 133 (v16.toNat + (j - (0 : Int).toNat)) else h14 135 j) = _
    rw [show (0 : Int).toNat = 0 from rfl, if_pos ⟨rfl, by omega, by omega⟩, show v16.toNat + (j - 0) = 64 * f + 33 + j by omega, F14 133 _ (by omega) (by omega)]
    exact c5 j (by omega) (by omega)
  · show h19 127 18 = (((nk_S (Bf k) (nf k) i f).toNat : Nat) : Int)
    rw [F19 127 18 (by omega), e18]; omega
/-- HANDLERS FIT, the class -/
theorem vc_fh4 (C : CMz Bf nf cnt k i h) (S : STc cnt (Bf k (ma_S (Bf k) (nf k) i + 3)) s h) (E8 : ∀ j : Nat, j < hn_S (Bf k) (nf k) i → ¬ HBd Bf nf cnt k i j) (F9 : ∀ f : Nat, f < fn_S (Bf k) (nf k) i → FTh Bf nf cnt k i f) : ∀ (y j : Nat) (l2 : Int), ((l2 = 1 ∧ ∀ x : Nat, x < j → HDs Bf nf cnt k i p s x) ∨ (l2 = 0 ∧ ¬ ∀ x : Nat, x < hn_S (Bf k) (nf k) i → HDs Bf nf cnt k i p s x)) → j ≤ hn_S (Bf k) (nf k) i → Pc (qw_X11_fitsHandlers_4 nn y (p : Int) l2 (j : Int) h) (fun u => (u = 1 ∧ ∀ x : Nat, x < hn_S (Bf k) (nf k) i → HDs Bf nf cnt k i p s x) ∨ (u = 0 ∧ ¬ ∀ x : Nat, x < hn_S (Bf k) (nf k) i → HDs Bf nf cnt k i p s x)) := by
  obtain ⟨f1, f2, f3, f4, f5⟩ := cme_f C.1.1
  have c0 := C.1.1.1.1.1
  rw [C.1.2] at c0
  obtain ⟨zx, zk, z2⟩ := ck_zk C.1.1
  intro y
  induction y with
  | zero => intro j l2 _ _; exact pc_none
  | succ y ih =>
    intro j l2 A hj
    unfold qw_X11_fitsHandlers_4
    refine pc_sv (vc_info C.1.1 (w := 7) (by decide) (cme_d C.1.1).2.2.1.1) ?_; intro u3 q3
    refine pc_if (fun z => pc_ck (fun _ => pc_ret ?_)) (fun z => ?_)
    · rcases A with w | w
      · exact .inl ⟨w.1, fun x hx => w.2 x (by omega)⟩
      · exact .inr w
    refine pc_if (fun w => pc_ck (fun _ => pc_ret (.inr ⟨w, ?_⟩))) (fun w => ?_)
    · rcases A with v | v
      · omega
      · exact v.2
    have A1 : l2 = 1 ∧ ∀ x : Nat, x < j → HDs Bf nf cnt k i p s x := by
      rcases A with v | v
      · exact v
      · exact absurd v.1 w
    have jj : j < hn_S (Bf k) (nf k) i := by omega
    have NXT : HDs Bf nf cnt k i p s j → ∀ v : Int, v = (j : Int) + 1 → ∀ l : Int, l = 1 → Pc (qw_X11_fitsHandlers_4 nn y (p : Int) l v h) (fun u => (u = 1 ∧ ∀ x : Nat, x < hn_S (Bf k) (nf k) i → HDs Bf nf cnt k i p s x) ∨ (u = 0 ∧ ¬ ∀ x : Nat, x < hn_S (Bf k) (nf k) i → HDs Bf nf cnt k i p s x)) := fun hd v ev l el => by
      rw [ev, show (j : Int) + 1 = ((j + 1 : Nat) : Int) by omega]
      refine ih (j + 1) l (.inl ⟨el, fun x hx => ?_⟩) (by omega)
      by_cases e : x = j
      · rw [e]; exact hd
      · exact A1.2 x (by omega)
    have BD : ¬ HDs Bf nf cnt k i p s j → Pc (qj_X11_fitsHandlers_106 nn (qw_X11_fitsHandlers_4 nn y) (p : Int) (j : Int) h) (fun u => (u = 1 ∧ ∀ x : Nat, x < hn_S (Bf k) (nf k) i → HDs Bf nf cnt k i p s x) ∨ (u = 0 ∧ ¬ ∀ x : Nat, x < hn_S (Bf k) (nf k) i → HDs Bf nf cnt k i p s x)) := fun nd => by
      unfold qj_X11_fitsHandlers_106
      refine pc_add (by omega) ?_; intro v1 e1
      rw [show v1 = ((j + 1 : Nat) : Int) by omega]
      exact ih (j + 1) 0 (.inr ⟨rfl, fun y => nd (y j jj)⟩) (by omega)
    have q0 := vc_handler (nn := nn) C.1.1 (j := j) (x := 0) jj (by omega)
    rw [Nat.add_zero] at q0
    refine pc_sv q0 ?_; intro u7 q7
    refine pc_if (fun v => ?_) (fun v => ?_)
    · refine pc_add (by omega) ?_; intro v8 e8
      exact NXT (fun z1 _ => absurd z1 (by omega)) v8 e8 l2 A1.1
    refine pc_sv (vc_handler C.1.1 (j := j) (x := 2) jj (by omega)) ?_; intro u10 q10
    refine pc_if (fun v1 => ?_) (fun v1 => ?_)
    · refine pc_add (by omega) ?_; intro v11 e11
      exact NXT (fun _ z1 => absurd z1 (by omega)) v11 e11 l2 A1.1
    refine pc_sv (vc_handler C.1.1 (j := j) (x := 4) jj (by omega)) ?_; intro u13 q13
    have H8 := Classical.byContradiction (fun w => E8 j jj w)
    obtain ⟨H1, H2, ⟨f, H3⟩, H4⟩ := H8
    have fo := fs_o (P := fun f => fv_S (Bf k) (nf k) i f = ln_N (Bf k) (hq_S (Bf k) (nf k) i j + 4)) (N := fn_S (Bf k) (nf k) i) (p := f) H3
    have hf := fo.1
    rw [q13]
    refine pc_sv (vc_frameAt C.2.1.1 C.2.2.2.2) ?_; intro u15 q15
    have e15 : u15 = (f : Int) := by
      rcases q15 with ⟨_, q⟩ | ⟨q, _⟩
      · rw [q, H3]; rfl
      · exact absurd H2 q
    refine pc_xl ?_; intro v16 e16
    rw [oq_mul_eq (by omega) (by omega) (by omega)] at e16
    refine pc_if (fun y => absurd y (by omega)) (fun _ => ?_)
    have F := F9 f hf
    have UQ : ∀ g : Nat, fo_F (Bf k) (nf k) i (ln_N (Bf k) (hq_S (Bf k) (nf k) i j + 4)) = some g → g = f := fun g hg => by rw [H3] at hg; exact (Option.some.inj hg).symm
    refine pc_sv (vc_flocals C S hf F (v := v16) (by omega)) ?_; intro u18 q18
    refine pc_if (fun y8 => BD (fun w => ?_)) (fun y8 => ?_)
    · obtain ⟨g, g1, g2, -⟩ := w (by omega) (by omega)
      rw [UQ g g1] at g2
      rcases q18 with q | q
      · omega
      · exact q.2 g2
    have FLL : FLq Bf nf cnt k i f s := by
      rcases q18 with q | q
      · exact q.2
      · exact absurd q.1 y8
    obtain ⟨⟨c1, c2, c3⟩, c4, c5⟩ := C.2.2.2.1 f hf
    refine pc_add (by omega) ?_; intro v20 e20
    refine pc_rA ?_; intro _ _ v21 e21
    rw [show v20.toNat = 64 * f + 2 by omega, c3] at e21
    refine pc_if (fun y9 => BD (fun w => ?_)) (fun y9 => ?_)
    · obtain ⟨g, g1, -, g3, -⟩ := w (by omega) (by omega)
      rw [UQ g g1] at g3
      exact y9 (e21.trans g3)
    refine pc_sv (vc_hclass C.1.1 C.2.2.1.1 jj) ?_; intro u23 q23
    refine pc_add (by omega) ?_; intro v25 e25
    refine pc_rA ?_; intro _ _ v26 e26
    rw [show v25.toNat = 64 * f + 33 + 0 by omega, c5 0 (by omega) (by omega)] at e26
    rw [q23, e26]
    have ci := cq_is (Bf := Bf) (nf := nf) c0 zk z2 (gm_hd (cme_m C.1.1) jj).2
    have q := vc_fits (nn := nn) C.1.1.1 (x := cq_F Bf nf cnt (Bf k) (nf k) (Bf k (hq_S (Bf k) (nf k) i j + 6))) (y := fk_F Bf nf cnt k i f 0) (by
      rw [C.1.2]
      rcases ci with c | c
      · rw [c]; exact ti_m1
      · exact vt_is c0.2 c.1)
    rw [C.1.2] at q
    refine pc_sv q ?_; intro u28 q28
    refine pc_if (fun y10 => BD (fun w => ?_)) (fun y10 => ?_)
    · obtain ⟨g, g1, -, -, g4⟩ := w (by omega) (by omega)
      rw [UQ g g1] at g4
      rcases q28 with q | q
      · omega
      · exact q.2 g4
    refine pc_add (by omega) ?_; intro v29 e29
    refine NXT (fun _ _ => ⟨f, H3, FLL, by omega, ?_⟩) v29 e29 1 rfl
    rcases q28 with q | q
    · exact q.2
    · exact absurd q.1 y10
theorem vc_fhand (C : CMz Bf nf cnt k i h) (S : STc cnt (Bf k (ma_S (Bf k) (nf k) i + 3)) s h) (E8 : ∀ j : Nat, j < hn_S (Bf k) (nf k) i → ¬ HBd Bf nf cnt k i j) (F9 : ∀ f : Nat, f < fn_S (Bf k) (nf k) i → FTh Bf nf cnt k i f) : Pc (qf_X11_fitsHandlers nn (p : Int) h) (fun u => (u = 1 ∧ ∀ x : Nat, x < hn_S (Bf k) (nf k) i → HDs Bf nf cnt k i p s x) ∨ (u = 0 ∧ ¬ ∀ x : Nat, x < hn_S (Bf k) (nf k) i → HDs Bf nf cnt k i p s x)) := by
  unfold qf_X11_fitsHandlers
  exact vc_fh4 C S E8 F9 nn 0 1 (.inl ⟨rfl, fun x hx => absurd hx (by omega)⟩) (Nat.zero_le _)
end

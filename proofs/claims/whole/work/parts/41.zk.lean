section
/- VERIFY: states, the class's side: what an instruction takes and gives -/
def GSt (cnt mx : Int) (s : ST3) : Prop := (∀ j : Nat, j < 30 → VTq cnt (s.1 j)) ∧ (∀ j : Nat, j < s.2.2 → VTq cnt (s.2.1 j)) ∧ (s.2.2 : Int) ≤ mx
/-- the class's memory while states are looked at -/
def CMz (Bf : Nat → Nat → Int) (nf : Nat → Nat) (cnt : Int) (k i : Nat) (h : ms_M) : Prop := (CMe Bf nf k i h ∧ h 56 3 = cnt) ∧ (h 127 16 = (cl_N (Bf k) (nf k) i : Int) ∧ h 127 17 = Bf k (ma_S (Bf k) (nf k) i + 3) ∧ h 127 20 = rk_F Bf nf cnt k (kt_S (Bf k) (nf k) i 1)) ∧ (CT3 Bf nf cnt k h ∧ ∀ x : Int, tg_S (Bf k) (nf k) x = 4 → CMq Bf nf cnt k x h) ∧ (∀ x : Nat, x < fn_S (Bf k) (nf k) i → CFx Bf nf cnt k i x h) ∧ MKf (cd_S (Bf k) (nf k) i) (cl_N (Bf k) (nf k) i) (fv_S (Bf k) (nf k) i) (fn_S (Bf k) (nf k) i) h
def SKe (h g : ms_M) : Prop := ∀ x y : Nat, ¬ (x = 134 ∨ x = 135) → ¬ (x = 127 ∧ (y = 18 ∨ y = 19)) → g x y = h x y
/-- the state in the class's memory -/
def STc (cnt mx : Int) (s : ST3) (h : ms_M) : Prop := GSt cnt mx s ∧ (∀ j : Nat, j < 30 → h 134 j = s.1 j) ∧ (∀ j : Nat, j < s.2.2 → h 135 j = s.2.1 j) ∧ h 127 18 = (s.2.2 : Int)
def CSo (cnt mx : Int) (h0 : ms_M) (o : Option ST3) (h : ms_M) : Prop := SKe h0 h ∧ ((o = none ∧ h 127 19 = 0) ∨ ∃ s : ST3, o = some s ∧ h 127 19 = 1 ∧ STc cnt mx s h)
def CVp (cnt mx : Int) (h0 : ms_M) (o : Option (Int × ST3)) (u : Int × ms_M) : Prop := SKe h0 u.2 ∧ ((o = none ∧ u.2 127 19 = 0) ∨ ∃ x : Int × ST3, o = some x ∧ u.1 = x.1 ∧ VTq cnt x.1 ∧ u.2 127 19 = 1 ∧ STc cnt mx x.2 u.2)
section
variable {nn : Nat} {Bf : Nat → Nat → Int} {nf : Nat → Nat} {cnt mx : Int} {B C D : Nat → Int} {n m b d k i L p q : Nat} {M h g r h0 : ms_M} {t c a op : Int} {o : Option ST3} {o2 : Option (Int × ST3)} {s : ST3}
theorem ske_t (A : SKe h g) (E : SKe g r) : SKe h r := fun x y z1 z2 => (E x y z1 z2).trans (A x y z1 z2)
theorem cms_k (C : CMz Bf nf cnt k i h) (A : SKe h g) : CMz Bf nf cnt k i g := by
  obtain ⟨⟨c1, c2⟩, ⟨c3, c4, c5⟩, ⟨c6, c7⟩, c8, c9⟩ := C
  refine ⟨⟨cme_k c1 (fun x j z1 z2 => A x j (by omega) (by omega)), by rw [A 56 3 (by omega) (by omega)]; exact c2⟩, ⟨?_, ?_, ?_⟩, ⟨fun a ha => ?_, fun x hx => ?_⟩, fun x hx => ?_, fun p hp => ?_⟩
  · rw [A 127 16 (by omega) (by omega)]; exact c3
  · rw [A 127 17 (by omega) (by omega)]; exact c4
  · rw [A 127 20 (by omega) (by omega)]; exact c5
  · rw [A 128 _ (by omega) (by omega)]; exact c6 a ha
  · exact cmb_k (c7 x hx) (A _ _ (by omega) (by omega)) (A _ _ (by omega) (by omega)) (fun y _ => A _ _ (by omega) (by omega))
  · exact cfx_k (c8 x hx) (fun a _ _ => A _ _ (by omega) (by omega))
  · rw [A 132 p (by omega) (by omega)]; exact c9 p hp
theorem ske_19 {v : Int} (A : SKe h0 h) (e : g = up_M h 127 19 v) : SKe h0 g := fun x y z1 z2 => by rw [e, up_n (by omega)]; exact A x y z1 z2
theorem stc_19 {v : Int} (A : STc cnt mx s h) (e : g = up_M h 127 19 v) : STc cnt mx s g := by
  obtain ⟨a1, a2, a3, a4⟩ := A
  refine ⟨a1, fun j hj => ?_, fun j hj => ?_, ?_⟩
  · rw [e, up_n (by omega)]; exact a2 j hj
  · rw [e, up_n (by omega)]; exact a3 j hj
  · rw [e, up_n (by omega)]; exact a4
theorem cs_none (A : SKe h0 h) (e : h 127 19 = 0) (z : o = none) : CSo cnt mx h0 o h := ⟨A, .inl ⟨z, e⟩⟩
theorem cs_p {u : Int × ms_M} (A : CVp cnt mx h0 o2 u) : CSo cnt mx h0 (o2.bind (fun x => some x.2)) u.2 := by
  obtain ⟨a, z | ⟨x, x1, x2, x3, x4, x5⟩⟩ := A
  · rw [z.1]; exact ⟨a, .inl ⟨rfl, z.2⟩⟩
  · rw [x1]; exact ⟨a, .inr ⟨x.2, rfl, x4, x5⟩⟩
theorem cs_b {G : ST3 → Option ST3} (A : CSo cnt mx h0 ((o2.bind (fun x => some x.2)).bind G) h) : CSo cnt mx h0 (o2.bind (fun x => G x.2)) h := by
  cases o2 with
  | none => exact A
  | some x => exact A
/-- POP -/
theorem vc_pop (A : CSo cnt mx h0 o h) (m30 : mx ≤ 30) : Pc (qf_X11_pop nn h) (CVp cnt mx h0 (o.bind aPop)) := by
  obtain ⟨K, z | ⟨s, s1, s2, s3, s4, s5, s6⟩⟩ := A
  · rw [z.1]
    unfold qf_X11_pop
    refine pc_if (fun _ => ?_) (fun _ => ?_)
    · refine pc_xl ?_; intro v3 e3
      refine pc_xl ?_; intro h4 e4
      refine pc_rA ?_; intro _ _ v7 e7
      refine pc_ret ⟨fun x y z1 z2 => ?_, .inl ⟨rfl, ?_⟩⟩
      · show h4 x y = _
        rw [e4, up_n (by omega)]; exact K x y z1 z2
      · show h4 127 19 = 0
        rw [e4, up_n (by omega)]; exact z.2
    · refine pc_xl ?_; intro h8 e8
      refine pc_ret ⟨ske_19 K e8, .inl ⟨rfl, ?_⟩⟩
      show h8 127 19 = 0
      rw [e8, up_s]
  · rw [s1]
    have g3 := s3.2.2
    unfold qf_X11_pop
    refine pc_if (fun w => ?_) (fun w => ?_)
    · rw [s6] at w ⊢
      refine pc_sub (by omega) ?_; intro v3 e3
      refine pc_xl ?_; intro h4 e4
      refine pc_rA ?_; intro _ _ v7 e7
      have e18 : h4 127 18 = v3 := by rw [e4, up_s]
      rw [e18, e4, up_n (by omega), show v3.toNat = s.2.2 - 1 by omega, s5 _ (by omega)] at e7
      have F4 : ∀ x y : Nat, ¬ (x = 127 ∧ y = 18) → h4 x y = h x y := fun x y z => by rw [e4, up_n z]
      have ea : aPop s = some (s.2.1 (s.2.2 - 1), (s.1, s.2.1, s.2.2 - 1)) := by unfold aPop; rw [if_neg (by omega)]
      refine pc_ret ⟨fun x y z1 z2 => ?_, .inr ⟨(s.2.1 (s.2.2 - 1), (s.1, s.2.1, s.2.2 - 1)), ea, e7, s3.2.1 _ (by omega), ?_, ⟨s3.1, fun j hj => ?_, ?_⟩, fun j hj => ?_, fun j hj => ?_, ?_⟩⟩
      · show h4 x y = _
        rw [F4 x y (by omega)]; exact K x y z1 z2
      · show h4 127 19 = 1
        rw [F4 127 19 (by omega)]; exact s2
      · have hj : j < s.2.2 - 1 := hj
        exact s3.2.1 j (by omega)
      · show ((s.2.2 - 1 : Nat) : Int) ≤ mx
        omega
      · show h4 134 j = _
        rw [F4 134 j (by omega)]; exact s4 j hj
      · have hj : j < s.2.2 - 1 := hj
        show h4 135 j = _
        rw [F4 135 j (by omega)]; exact s5 j (by omega)
      · show h4 127 18 = ((s.2.2 - 1 : Nat) : Int)
        omega
    · refine pc_xl ?_; intro h8 e8
      have ea : aPop s = none := by unfold aPop; rw [if_pos (by omega)]
      refine pc_ret ⟨ske_19 K e8, .inl ⟨ea, ?_⟩⟩
      show h8 127 19 = 0
      rw [e8, up_s]
theorem awb_ {F : Int → Int → Prop} : o.bind (aW F t) = (o.bind aPop).bind (fun x => pr_I (F x.1 t) (some x.2) none) := by
  cases o with
  | none => rfl
  | some s => rfl
/-- WANT -/
theorem vc_want (C : CMz Bf nf cnt k i h0) (A : CSo cnt mx h0 o h) (m30 : mx ≤ 30) : Pc (qf_X11_want nn t h) (CSo cnt mx h0 (o.bind (aW (FTq Bf nf cnt) t))) := by
  rw [awb_]
  unfold qf_X11_want
  refine pc_sv (vc_pop A m30) ?_; intro u3 ⟨K, Z⟩
  generalize o.bind aPop = o2 at Z ⊢
  refine pc_if (fun w => ?_) (fun w => ?_)
  · refine pc_xl ?_; intro h5 e5
    rcases Z with Z | ⟨x, x1, x2, x3, x4, x5⟩
    · exact pc_ret ⟨ske_19 K e5, .inl ⟨by rw [Z.1]; rfl, by rw [e5, up_s]⟩⟩
    · omega
  rcases Z with Z | ⟨x, x1, x2, x3, x4, x5⟩
  · exact absurd Z.2 w
  rw [x1]
  have Y32 : FTq Bf nf cnt x.1 t → Pc (qj_X11_want_32 nn u3.2) (CSo cnt mx h0 ((some x).bind (fun x => pr_I (FTq Bf nf cnt x.1 t) (some x.2) none))) := fun y => by
    unfold qj_X11_want_32
    refine pc_xl ?_; intro h1 e1
    exact pc_ret ⟨ske_19 K e1, .inr ⟨x.2, pr_t y, by rw [e1, up_s], stc_19 x5 e1⟩⟩
  refine pc_if (fun y => Y32 (.inl y)) (fun y => ?_)
  have C3 := cms_k C K
  have kf := vc_kfits (nn := nn) C3.1.1.1 (x := u3.1) (y := t) (by rw [C3.1.2, x2]; exact vt_is (by have := C3.1.1.1.1.1.2; rw [C3.1.2] at this; exact this) x3)
  rw [C3.1.2, x2] at kf
  rw [x2]
  refine pc_sv kf ?_; intro u8 q8
  refine pc_if (fun y8 => ?_) (fun y8 => Y32 (.inr ?_))
  · refine pc_xl ?_; intro h9 e9
    refine pc_ret ⟨ske_19 K e9, .inl ⟨pr_f (fun w => ?_), by rw [e9, up_s]⟩⟩
    rcases w with w | w
    · exact y w
    · rcases q8 with q | q
      · omega
      · exact q.2 w
  · rcases q8 with q | q
    · exact q.2
    · exact absurd q.1 y8
/-- WANT A REFERENCE, AN ARRAY -/
theorem ar_b : o.bind aR = (o.bind aPop).bind (fun x => pr_I (REf x.1) (some x) none) := by
  cases o with
  | none => rfl
  | some s => rfl
theorem vc_isRef {x : Int} : Pc (qf_X4_isReference nn x h) (fun u => (u = 1 ∧ REf x) ∨ (u = 0 ∧ ¬ REf x)) := by
  unfold qf_X4_isReference REf
  refine pc_if (fun z => pc_ret (.inl ⟨rfl, .inl z⟩)) (fun z => ?_)
  refine pc_if (fun z1 => pc_ret (.inr ⟨rfl, by omega⟩)) (fun z1 => ?_)
  exact pc_if (fun z2 => pc_ret (.inr ⟨rfl, by omega⟩)) (fun z2 => pc_ret (.inl ⟨rfl, by omega⟩))
theorem vc_wantR (A : CSo cnt mx h0 o h) (m30 : mx ≤ 30) : Pc (qf_X11_wantReference nn h) (CVp cnt mx h0 (o.bind aR)) := by
  rw [ar_b]
  unfold qf_X11_wantReference
  refine pc_sv (vc_pop A m30) ?_; intro u3 ⟨K, Z⟩
  generalize o.bind aPop = o2 at Z ⊢
  have N24 : o2.bind (fun x => pr_I (REf x.1) (some x) none) = none → Pc (qj_X11_wantReference_24 nn u3.1 u3.2) (CVp cnt mx h0 (o2.bind (fun x => pr_I (REf x.1) (some x) none))) := fun y => by
    unfold qj_X11_wantReference_24
    refine pc_xl ?_; intro h1 e1
    refine pc_ret ⟨ske_19 K e1, .inl ⟨y, ?_⟩⟩
    show h1 127 19 = 0
    rw [e1, up_s]
  refine pc_if (fun w => N24 ?_) (fun w => ?_)
  · rcases Z with Z | ⟨x, x1, x2, x3, x4, x5⟩
    · rw [Z.1]; rfl
    · omega
  rcases Z with Z | ⟨x, x1, x2, x3, x4, x5⟩
  · exact absurd Z.2 w
  refine pc_sv vc_isRef ?_; intro u5 q5
  rw [x2] at q5
  refine pc_if (fun y => N24 ?_) (fun y => ?_)
  · rw [x1]
    refine pr_f ?_
    rcases q5 with q | q
    · omega
    · exact q.2
  · refine pc_xl ?_; intro h6 e6
    rw [x1]
    refine pc_ret ⟨ske_19 K e6, .inr ⟨x, pr_t ?_, x2, x3, ?_, stc_19 x5 e6⟩⟩
    · rcases q5 with q | q
      · exact q.2
      · exact absurd q.1 y
    · show h6 127 19 = 1
      rw [e6, up_s]
theorem aa_b {oi oc : Prop} : o.bind (aA oi oc) = (o.bind aPop).bind (fun x => pr_I (ARy oi oc x.1) (some x) none) := by
  cases o with
  | none => rfl
  | some s => rfl
theorem vc_wantA {a1 a2 : Int} {oi oc : Prop} (hi : a1 = 0 ↔ ¬ oi) (hc : a2 = 0 ↔ ¬ oc) (A : CSo cnt mx h0 o h) (m30 : mx ≤ 30) : Pc (qf_X11_wantArray nn a1 a2 h) (CVp cnt mx h0 (o.bind (aA oi oc))) := by
  rw [aa_b]
  unfold qf_X11_wantArray
  refine pc_sv (vc_pop A m30) ?_; intro u7 ⟨K, Z⟩
  generalize o.bind aPop = o2 at Z ⊢
  have E : ∀ s0 : Int, ((s0 = 1 ∧ ARy oi oc u7.1) ∨ (s0 = 0 ∧ ¬ ARy oi oc u7.1)) → Pc (qj_X11_wantArray_42 nn u7.1 s0 u7.2) (CVp cnt mx h0 (o2.bind (fun x => pr_I (ARy oi oc x.1) (some x) none))) := fun s0 hs => by
    have N61 : o2.bind (fun x => pr_I (ARy oi oc x.1) (some x) none) = none → Pc (qj_X11_wantArray_61 nn u7.1 u7.2) (CVp cnt mx h0 (o2.bind (fun x => pr_I (ARy oi oc x.1) (some x) none))) := fun y => by
      unfold qj_X11_wantArray_61
      refine pc_xl ?_; intro h1 e1
      refine pc_ret ⟨ske_19 K e1, .inl ⟨y, ?_⟩⟩
      show h1 127 19 = 0
      rw [e1, up_s]
    unfold qj_X11_wantArray_42
    refine pc_if (fun w => N61 ?_) (fun w => ?_)
    · rcases Z with Z | ⟨x, x1, x2, x3, x4, x5⟩
      · rw [Z.1]; rfl
      · omega
    rcases Z with Z | ⟨x, x1, x2, x3, x4, x5⟩
    · exact absurd Z.2 w
    rw [x2] at hs
    refine pc_if (fun y => N61 ?_) (fun y => ?_)
    · rw [x1]
      refine pr_f ?_
      rcases hs with q | q
      · omega
      · exact q.2
    · refine pc_xl ?_; intro h3 e3
      rw [x1]
      refine pc_ret ⟨ske_19 K e3, .inr ⟨x, pr_t ?_, x2, x3, ?_, stc_19 x5 e3⟩⟩
      · rcases hs with q | q
        · exact q.2
        · exact absurd q.1 y
      · show h3 127 19 = 1
        rw [e3, up_s]
  have Y37 : ARy oi oc u7.1 → Pc (qj_X11_wantArray_37 nn u7.1 u7.2) (CVp cnt mx h0 (o2.bind (fun x => pr_I (ARy oi oc x.1) (some x) none))) := fun y => by
    unfold qj_X11_wantArray_37
    exact E 1 (.inl ⟨rfl, y⟩)
  have N41 : ¬ ARy oi oc u7.1 → Pc (qj_X11_wantArray_41 nn u7.1 u7.2) (CVp cnt mx h0 (o2.bind (fun x => pr_I (ARy oi oc x.1) (some x) none))) := fun y => by
    unfold qj_X11_wantArray_41
    exact E 0 (.inr ⟨rfl, y⟩)
  refine pc_if (fun z => Y37 (.inl z)) (fun z => ?_)
  refine pc_if (fun z1 => ?_) (fun z1 => ?_)
  · refine pc_if (fun z2 => N41 (fun w => ?_)) (fun z2 => ?_)
    · rcases w with w | w | w
      · exact z w
      · exact z1 w.1
      · exact hc.1 z2 w.2.1
    unfold qf_X4_isArray
    have oc' : oc := Classical.byContradiction fun y => z2 (hc.2 y)
    refine pc_sv (P := fun u => (u = 1 ∧ (100 ≤ u7.1 ∧ u7.1 ≤ 200)) ∨ (u = 0 ∧ ¬ (100 ≤ u7.1 ∧ u7.1 ≤ 200))) ?_ ?_
    · refine pc_if (fun w => pc_ret (.inr ⟨rfl, by omega⟩)) (fun w => ?_)
      exact pc_if (fun w => pc_ret (.inr ⟨rfl, by omega⟩)) (fun w => pc_ret (.inl ⟨rfl, by omega⟩))
    intro u8 q8
    refine pc_if (fun w => N41 (fun v => ?_)) (fun w => Y37 (.inr (.inr ⟨z1, oc', ?_⟩)))
    · rcases v with v | v | v
      · exact z v
      · exact z1 v.1
      · rcases q8 with q | q
        · omega
        · exact q.2 v.2.2
    · rcases q8 with q | q
      · exact q.2
      · exact absurd q.1 w
  · have z1 : u7.1 = 200 := Classical.byContradiction fun y => z1 y
    refine pc_if (fun z2 => N41 (fun w => ?_)) (fun z2 => Y37 (.inr (.inl ⟨z1, ?_⟩)))
    · rcases w with w | w | w
      · exact z w
      · exact hi.1 z2 w.2
      · exact w.1 z1
    · exact Classical.byContradiction fun y => z2 (hi.2 y)
/-- PUSH -/
theorem vc_push (A : CSo cnt mx h0 o h) (e17 : h 127 17 = mx) (m30 : mx ≤ 30) (V : ∀ s : ST3, o = some s → VTq cnt t) : Pc (qf_X11_push nn t h) (CSo cnt mx h0 (o.bind (aU mx t))) := by
  obtain ⟨K, z | ⟨s, s1, s2, s3, s4, s5, s6⟩⟩ := A
  · rw [z.1]
    unfold qf_X11_push
    refine pc_if (fun _ => ?_) (fun _ => ?_)
    · refine pc_wA ?_; intro _ _ h5 e5
      refine pc_xl ?_; intro v7 e7
      refine pc_xl ?_; intro h8 e8
      refine pc_ret ⟨fun x y z1 z2 => ?_, .inl ⟨rfl, ?_⟩⟩
      · rw [e8, up_n (by omega), e5, up_n (by omega)]; exact K x y z1 z2
      · rw [e8, up_n (by omega), e5, up_n (by omega)]; exact z.2
    · refine pc_xl ?_; intro h9 e9
      exact pc_ret ⟨ske_19 K e9, .inl ⟨rfl, by rw [e9, up_s]⟩⟩
  · have Vt := V s s1
    rw [s1]
    unfold qf_X11_push
    rw [e17, s6]
    refine pc_if (fun w => ?_) (fun w => ?_)
    · refine pc_wA ?_; intro _ _ h5 e5
      rw [Int.toNat_natCast] at e5
      have e18 : h5 127 18 = (s.2.2 : Int) := by rw [e5, up_n (by omega)]; exact s6
      rw [e18]
      refine pc_add (by omega) ?_; intro v7 e7
      refine pc_xl ?_; intro h8 e8
      have F8 : ∀ x y : Nat, ¬ (x = 127 ∧ y = 18) → ¬ (x = 135 ∧ y = s.2.2) → h8 x y = h x y := fun x y z1 z2 => by rw [e8, up_n z1, e5, up_n z2]
      have ea : (some s).bind (aU mx t) = some (s.1, fun j => if j = s.2.2 then t else s.2.1 j, s.2.2 + 1) := by
        show aU mx t s = _
        unfold aU; rw [if_pos w]
      refine pc_ret ⟨fun x y z1 z2 => ?_, .inr ⟨_, ea, ?_, ⟨s3.1, fun j hj => ?_, ?_⟩, fun j hj => ?_, fun j hj => ?_, ?_⟩⟩
      · rw [F8 x y (by omega) (by omega)]; exact K x y z1 z2
      · rw [F8 127 19 (by omega) (by omega)]; exact s2
      · have hj : j < s.2.2 + 1 := hj
        show VTq cnt (if j = s.2.2 then t else s.2.1 j)
        by_cases e : j = s.2.2
        · rw [if_pos e]; exact Vt
        · rw [if_neg e]; exact s3.2.1 j (by omega)
      · show ((s.2.2 + 1 : Nat) : Int) ≤ mx
        omega
      · rw [F8 134 j (by omega) (by omega)]; exact s4 j hj
      · have hj : j < s.2.2 + 1 := hj
        show h8 135 j = (if j = s.2.2 then t else s.2.1 j)
        by_cases e : j = s.2.2
        · rw [if_pos e, e, e8, up_n (by omega), e5, up_s]
        · rw [if_neg e, F8 135 j (by omega) (by omega)]; exact s5 j (by omega)
      · show h8 127 18 = ((s.2.2 + 1 : Nat) : Int)
        rw [e8, up_s]; omega
    · refine pc_xl ?_; intro h9 e9
      have ea : (some s).bind (aU mx t) = none := by
        show aU mx t s = _
        unfold aU; rw [if_neg w]
      exact pc_ret ⟨ske_19 K e9, .inl ⟨ea, by rw [e9, up_s]⟩⟩
end
end
section
/- VERIFY: constants of instructions; what an instruction makes of the state: the class's side -/
section
variable {nn : Nat} {Bf : Nat → Nat → Int} {nf : Nat → Nat} {cnt mx : Int} {B C D : Nat → Int} {n m b d k i L p q : Nat} {M h g r h0 : ms_M} {t c a op : Int} {o : Option ST3} {o2 : Option (Int × ST3)} {s : ST3}
theorem vc_iom (S : CSv Bf nf h) {d num : Int} {j : Nat} (dr : 8 ≤ d ∧ d < 8 + h 56 3) (j12 : (j : Int) < 12) (en : num = (d - 8) * 12 + (j : Int)) : Pc (qf_X7_imageOfMember nn num h) (fun v => v = h 60 (d - 8).toNat ∧ 0 ≤ v) := by
  have g3 := S.1
  have X := S.2 (d - 8).toNat (by omega)
  have k3 : kc_O (h 60 (d - 8).toNat).toNat = 3 := X.1.1.1
  have h60 : 0 ≤ h 60 (d - 8).toNat := Classical.byContradiction fun z => by
    rw [show (h 60 (d - 8).toNat).toNat = 0 by omega] at k3
    exact absurd k3 (by decide)
  unfold qf_X7_imageOfMember
  refine pc_if (fun z => absurd z (by omega)) (fun _ => ?_)
  refine pc_xl ?_; intro v2 e2
  rw [oq_mul_eq (by omega) (by omega) (by omega)] at e2
  refine pc_if (fun z => absurd z (by omega)) (fun _ => ?_)
  refine pc_xl ?_; intro v4 e4
  rw [Int.tdiv_eq_ediv_of_nonneg (by omega)] at e4
  refine pc_rA ?_; intro _ _ v5 e5'
  rw [show v4 = d - 8 by omega] at e5'
  exact pc_ret ⟨e5', by rw [e5']; exact h60⟩
theorem vc_iom0 {num : Int} (e : num = -1) : Pc (qf_X7_imageOfMember nn num h) (fun v => v = -1) := by
  unfold qf_X7_imageOfMember
  exact pc_if (fun _ => pc_ret rfl) (fun z => absurd (show num < 0 by omega) z)
theorem vc_mr131 {x y : Int} : Pc (qj_X11_isMemberRight_131 nn x y h) (fun u => (u = 1 ∧ y = x) ∨ (u = 0 ∧ ¬ y = x)) := by
  unfold qj_X11_isMemberRight_131
  exact pc_if (fun z => pc_ret (.inr ⟨rfl, z⟩)) (fun z => pc_ret (.inl ⟨rfl, by omega⟩))
theorem vc_mr115 {x : Int} : Pc (qj_X11_isMemberRight_115 nn op x h) (fun u => (u = 1 ∧ x = (if op = 184 then 1 else 0)) ∨ (u = 0 ∧ ¬ x = (if op = 184 then 1 else 0))) := by
  unfold qj_X11_isMemberRight_115
  refine pc_if (fun z => ?_) (fun z => ?_)
  · rw [if_neg z]; exact vc_mr131
  · rw [if_pos (by omega)]; exact vc_mr131
/-- IS THE MEMBER RIGHT -/
theorem vc_mright (C : CMz Bf nf cnt k i h) (H : HGo Bf nf cnt) (ho : op = 180 ∨ op = 181 ∨ op = 182 ∨ op = 184) : Pc (qf_X11_isMemberRight nn op a h) (fun u => (u = 1 ∧ MBr Bf nf cnt k op a) ∨ (u = 0 ∧ ¬ MBr Bf nf cnt k op a)) := by
  obtain ⟨⟨c1, c2⟩, -, ⟨c6, c7⟩, -⟩ := C
  obtain ⟨S, hi, hk, e5, e6⟩ := c1
  have hk' : (k : Int) < cnt := by omega
  obtain ⟨Gk, Ok, z, zk, z2⟩ := H.2 k hk'
  have X := S.1.2 k hk
  have T := X.1
  unfold qf_X11_isMemberRight
  rw [e5]
  refine pc_ck (fun _ => pc_ck (fun _ => pc_ck (fun _ => pc_ck (fun _ => ?_))))
  by_cases t4 : tg_S (Bf k) (nf k) a = 4
  · obtain ⟨a1, a2, -⟩ := tg_in (B := Bf k) (n := nf k) (k := a) (by omega)
    obtain ⟨t0, t1, t2, KK⟩ := mb_tx zk z2 t4
    have ci := cq_is (Bf := Bf) (nf := nf) H.1 zk z2 t0
    have hc : (0 ≤ cq_F Bf nf cnt (Bf k) (nf k) (pt_S (Bf k) (nf k) a 0) ∧ cq_F Bf nf cnt (Bf k) (nf k) (pt_S (Bf k) (nf k) a 0) < 16) → cq_F Bf nf cnt (Bf k) (nf k) (pt_S (Bf k) (nf k) a 0) = -1 ∨ ISc cnt (cq_F Bf nf cnt (Bf k) (nf k) (pt_S (Bf k) (nf k) a 0)) := fun w => by
      rcases ci with c | c
      · exact .inl c
      · rcases c.2 with c | c | c
        · omega
        · exact .inr c.1
        · omega
    refine pc_sv (P := fun u => u = pt_S (Bf k) (nf k) a 2) (fun u eu => by
      have z := c_part (nn := nn) T (k := a) (i := 2) (.inr ⟨t4, by omega⟩)
      rw [show ((2 : Nat) : Int) = 2 from rfl] at z
      rw [z] at eu; exact (Option.some.inj eu).symm) ?_; intro u26 q26
    rw [q26]
    obtain ⟨w1, w2, w3⟩ := c_text (nn := nn) T t2
    refine pc_sv (P := fun u => u = ((na_S (Bf k) (nf k) (pt_S (Bf k) (nf k) a 2) : Nat) : Int)) (fun u eu => by rw [w1] at eu; exact (Option.some.inj eu).symm) ?_; intro u28 q28
    rw [q28]
    have nl : na_S (Bf k) (nf k) (pt_S (Bf k) (nf k) a 2) < nf k := by
      rcases KK with ⟨_, z⟩ | ⟨_, m, z⟩
      · unfold fk_S at z
        rw [Bool.and_eq_true] at z
        have := (kd_s (of_decide_eq_true z.2)).2.1
        have e : na_S (Bf k) (nf k) (pt_S (Bf k) (nf k) a 2) = pl_S (Bf k) (nf k) (pt_S (Bf k) (nf k) a 2) + 2 := rfl
        omega
      · have := mkd_rg (ps_ok z).2.2 0 (Nat.zero_le _)
        omega
    refine pc_sv (P := fun u => u = Bf k (na_S (Bf k) (nf k) (pt_S (Bf k) (nf k) a 2))) (fun u eu => by rw [byteAt_in T.1 nl] at eu; exact (Option.some.inj eu).symm) ?_; intro u30 q30
    have E : ∀ s0 : Int, s0 = sk_V (Bf k) (nf k) a → Pc (qj_X11_isMemberRight_33 nn op a s0 h) (fun u => (u = 1 ∧ MBr Bf nf cnt k op a) ∨ (u = 0 ∧ ¬ MBr Bf nf cnt k op a)) := fun s0 es => by
      unfold qj_X11_isMemberRight_33
      rw [e5]
      refine pc_ck (fun _ => pc_ck (fun _ => ?_))
      refine pc_sv (P := fun u => u = tg_S (Bf k) (nf k) a) (fun u eu => by rw [c_tag T] at eu; exact (Option.some.inj eu).symm) ?_; intro u18 q18
      refine pc_if (fun w => absurd (q18.trans t4) w) (fun _ => ?_)
      refine pc_rA ?_; intro _ _ v20 e20
      unfold qj_X11_isMemberRight_56
      rcases c7 a t4 with ⟨m1, m2⟩ | ⟨d, j, m1, m2, -⟩
      · refine pc_sv (vc_iom0 (e20.trans m1)) ?_; intro u12 q12
        refine pc_if (fun _ => pc_ret (.inr ⟨rfl, fun w => ?_⟩)) (fun w => absurd (show u12 < 0 by omega) w)
        obtain ⟨x1, -⟩ := mbr_t H hk' w
        obtain ⟨-, w16, d, j, w4, w5, -⟩ := w
        rw [← x1] at w4 w5
        exact m2 d j ⟨w16, w4, w5⟩
      · obtain ⟨m16, mH, mT⟩ := m1
        obtain ⟨dr, jm⟩ := hfd_is H.1.1 (hc m16) mH
        obtain ⟨Gd, -, -⟩ := H.2 (d - 8).toNat (by omega)
        have s01 : sk_V (Bf k) (nf k) a = 0 ∨ sk_V (Bf k) (nf k) a = 1 := by
          rcases KK with z | z
          · exact .inl z.1
          · exact .inr z.1
        have j12 : (j : Int) < 12 := by
          have g1 := Gd.1
          have g2 := Gd.2.2.1
          unfold mb_S at jm
          by_cases s0' : sk_V (Bf k) (nf k) a = 0
          · rw [if_pos s0'] at jm; omega
          · rw [if_neg s0'] at jm; omega
        refine pc_sv (vc_iom S.1 (d := d) (j := j) (by rw [c2]; exact dr) j12 (e20.trans m2)) ?_; intro u12 ⟨q12, p12⟩
        refine pc_if (fun w => absurd w (by omega)) (fun _ => ?_)
        have F : ∀ f0 : Int, f0 = (if 182 ≤ op then 1 else 0) → Pc (qj_X11_isMemberRight_87 nn op s0 v20 (((u12).toNat : Nat) : Int) f0 s0 h) (fun u => (u = 1 ∧ MBr Bf nf cnt k op a) ∨ (u = 0 ∧ ¬ MBr Bf nf cnt k op a)) := fun f0 ef => by
          unfold qj_X11_isMemberRight_87
          refine pc_if (fun w => ?_) (fun w => pc_ret (.inr ⟨rfl, fun v => w ?_⟩))
          · have sf : sk_V (Bf k) (nf k) a = (if 182 ≤ op then 1 else 0) := by rw [← es, w, ef]
            refine pc_if (fun y => ?_) (fun y => ?_)
            · have no : ¬ 182 ≤ op := fun v => by rw [if_pos v] at sf; omega
              unfold qj_X11_isMemberRight_114
              refine pc_imp vc_mr115 (fun u q => ?_)
              rw [if_neg (by omega)] at q
              refine .inl ⟨?_, t4, m16, d, j, ?_, ?_, fun v => absurd v no⟩
              · rcases q with q | q
                · exact q.1
                · exact absurd rfl q.2
              · rw [← sf]; exact mH
              · rw [← sf]; exact mT
            · have yo : 182 ≤ op := Classical.byContradiction fun v => by rw [if_neg v] at sf; omega
              rw [sf, if_pos yo] at jm
              unfold mb_S at jm
              rw [if_neg (by decide)] at jm
              have Xd := S.1.2 (d - 8).toNat (by omega)
              obtain ⟨-, -, -, MD⟩ := cg_im Xd
              have b01 := (Gd.2.2.2 j jm).1.1
              refine pc_xl ?_; intro v3 e3
              rw [Int.tmod_eq_emod_of_nonneg (by omega)] at e3
              rw [show v3 = (j : Int) by omega, Int.toNat_natCast, q12]
              refine pc_ck (fun _ => pc_ck (fun _ => ?_))
              refine pc_sv (vq_of (nn := nn) Xd jm (w := 0) (by decide) (MD j jm).1.1) ?_; intro u6 q6
              have FIN : ∀ x : Int, (x = Bf (d - 8).toNat (ma_S (Bf (d - 8).toNat) (nf (d - 8).toNat) j)) → Pc (qj_X11_isMemberRight_115 nn op x h) (fun u => (u = 1 ∧ MBr Bf nf cnt k op a) ∨ (u = 0 ∧ ¬ MBr Bf nf cnt k op a)) := fun x ex => by
                refine pc_imp vc_mr115 (fun u q => ?_)
                rcases q with ⟨q1, q2⟩ | ⟨q1, q2⟩
                · refine .inl ⟨q1, t4, m16, d, j, ?_, ?_, fun _ => by rw [← ex]; exact q2⟩
                  · rw [← sf]; exact mH
                  · rw [← sf]; exact mT
                · refine .inr ⟨q1, fun v => ?_⟩
                  obtain ⟨-, -, d2, j2, v4, v5, v6⟩ := v
                  rw [← sf] at v4
                  obtain ⟨x1, x2⟩ := hfd_u v4 mH
                  rw [x1, x2] at v6
                  exact q2 (ex.trans (v6 yo))
              refine pc_if (fun v => ?_) (fun v => FIN 1 (by omega))
              unfold qj_X11_isMemberRight_114
              exact FIN 0 (by omega)
          · obtain ⟨x1, -⟩ := mbr_t H hk' v
            rw [es, ef]; exact x1
        refine pc_if (fun w => F 0 (by rw [if_neg (by omega)])) (fun w => F 1 (by rw [if_pos (by omega)]))
    refine pc_if (fun w => E 0 (by unfold sk_V; rw [if_neg (by rw [← q30]; exact w)])) (fun w => E 1 (by unfold sk_V; rw [if_pos (by rw [← q30]; omega)]))
  · have E : ∀ s0 : Int, Pc (qj_X11_isMemberRight_33 nn op a s0 h) (fun u => (u = 1 ∧ MBr Bf nf cnt k op a) ∨ (u = 0 ∧ ¬ MBr Bf nf cnt k op a)) := fun s0 => by
      unfold qj_X11_isMemberRight_33
      rw [e5]
      refine pc_ck (fun _ => pc_ck (fun _ => ?_))
      refine pc_sv (P := fun u => u = tg_S (Bf k) (nf k) a) (fun u eu => by rw [c_tag T] at eu; exact (Option.some.inj eu).symm) ?_; intro u18 q18
      refine pc_if (fun _ => ?_) (fun w => absurd (by omega) w)
      unfold qj_X11_isMemberRight_56
      refine pc_sv (vc_iom0 rfl) ?_; intro u12 q12
      exact pc_if (fun _ => pc_ret (.inr ⟨rfl, fun w => t4 w.1⟩)) (fun w => absurd (show u12 < 0 by omega) w)
    refine pc_se ?_; intro u26 _
    refine pc_se ?_; intro u28 _
    refine pc_se ?_; intro u30 _
    exact pc_if (fun _ => E 0) (fun _ => E 1)
/-- IS THE CONSTANT RIGHT -/
theorem vc_cright (C : CMz Bf nf cnt k i h) (H : HGo Bf nf cnt) : Pc (qf_X11_isConstantRight nn op a h) (fun u => (u = 1 ∧ CRt Bf nf cnt k op a) ∨ (u = 0 ∧ ¬ CRt Bf nf cnt k op a)) := by
  have C0 := C
  obtain ⟨⟨c1, c2⟩, -, ⟨c6, c7⟩, -⟩ := C
  obtain ⟨S, hi, hk, e5, e6⟩ := c1
  have T := (S.1.2 k hk).1
  have TG : Pc (qf_X3_tagOf nn (h 60 k).toNat a h) (fun u => u = tg_S (Bf k) (nf k) a) := fun u eu => by rw [c_tag T] at eu; exact (Option.some.inj eu).symm
  have M : (op = 180 ∨ op = 181 ∨ op = 182 ∨ op = 184) → Pc (qj_X11_isConstantRight_152 nn op a h) (fun u => (u = 1 ∧ CRt Bf nf cnt k op a) ∨ (u = 0 ∧ ¬ CRt Bf nf cnt k op a)) := fun ho => by
    unfold qj_X11_isConstantRight_152
    refine pc_sv (vc_mright C0 H ho) ?_; intro u2 q2
    refine pc_ck (fun _ => pc_ret ?_)
    rcases q2 with q | q
    · exact .inl ⟨q.1, fun w => absurd w (by omega), fun w => absurd w (by omega), fun w => absurd w (by omega), fun _ => q.2⟩
    · exact .inr ⟨q.1, fun w => q.2 (w.2.2.2 ho)⟩
  have K : (op = 187 ∨ op = 189 ∨ op = 192 ∨ op = 193) → Pc (qj_X11_isConstantRight_110 nn a h) (fun u => (u = 1 ∧ CRt Bf nf cnt k op a) ∨ (u = 0 ∧ ¬ CRt Bf nf cnt k op a)) := fun ho => by
    unfold qj_X11_isConstantRight_110
    rw [e5]
    refine pc_ck (fun _ => pc_ck (fun _ => ?_))
    refine pc_sv TG ?_; intro u6 q6
    refine pc_if (fun w => pc_ret (.inr ⟨rfl, fun v => w (q6.trans (v.2.1 ho).1)⟩)) (fun w => ?_)
    have t3 : tg_S (Bf k) (nf k) a = 3 := by omega
    refine pc_rA ?_; intro _ _ v8 e8
    rw [c6 a t3] at e8
    unfold qf_X4_isClass
    refine pc_sv (P := fun u => (u = 1 ∧ (0 ≤ v8 ∧ v8 < 16)) ∨ (u = 0 ∧ ¬ (0 ≤ v8 ∧ v8 < 16))) ?_ ?_
    · refine pc_if (fun z => pc_ret (.inr ⟨rfl, by omega⟩)) (fun z => ?_)
      exact pc_if (fun z => pc_ret (.inr ⟨rfl, by omega⟩)) (fun z => pc_ret (.inl ⟨rfl, by omega⟩))
    intro u9 q9
    refine pc_if (fun z => pc_ret (.inr ⟨rfl, fun v => ?_⟩)) (fun z => pc_ret (.inl ⟨rfl, fun w => absurd w (by omega), fun _ => ⟨t3, ?_, ?_⟩, fun w => absurd w (by omega), fun w => absurd w (by omega)⟩))
    · have := (v.2.1 ho).2
      omega
    · omega
    · omega
  unfold qf_X11_isConstantRight
  rw [e5]
  refine pc_if (fun z => ?_) (fun z0 => ?_)
  · refine pc_ck (fun _ => pc_ck (fun _ => ?_))
    refine pc_sv TG ?_; intro u14 q14
    refine pc_if (fun w => pc_ret (.inr ⟨rfl, fun v => w (q14.trans (v.1 z))⟩)) (fun w => pc_ret (.inl ⟨rfl, fun _ => by omega, fun w => absurd w (by omega), fun w => absurd w (by omega), fun w => absurd w (by omega)⟩))
  refine pc_if (fun z => M (by omega)) (fun z1 => ?_)
  refine pc_if (fun z => M (by omega)) (fun z2 => ?_)
  refine pc_if (fun z => M (by omega)) (fun z3 => ?_)
  refine pc_if (fun z => M (by omega)) (fun z4 => ?_)
  refine pc_if (fun z => K (by omega)) (fun z5 => ?_)
  refine pc_if (fun z => ?_) (fun z6 => ?_)
  · refine pc_if (fun w => pc_ret (.inr ⟨rfl, fun v => w (v.2.2.1 z)⟩)) (fun w => pc_ret (.inl ⟨rfl, fun w => absurd w (by omega), fun w => absurd w (by omega), fun _ => by omega, fun w => absurd w (by omega)⟩))
  refine pc_if (fun z => K (by omega)) (fun z7 => ?_)
  refine pc_if (fun z => K (by omega)) (fun z8 => ?_)
  refine pc_if (fun z => K (by omega)) (fun z9 => ?_)
  exact pc_ret (.inl ⟨rfl, fun w => absurd w (by omega), fun w => absurd w (by omega), fun w => absurd w (by omega), fun w => absurd w (by omega)⟩)
/-- one step each -/
theorem vt_301 : VTq cnt 301 := .inr (.inl rfl)
theorem vt_300 : VTq cnt 300 := .inr (.inr (.inl rfl))
theorem vt_200 : VTq cnt 200 := .inr (.inr (.inr (.inl rfl)))
theorem vc_pu (C : CMz Bf nf cnt k i h0) (em : Bf k (ma_S (Bf k) (nf k) i + 3) = mx) (m30 : mx ≤ 30) (A : CSo cnt mx h0 o h) (V : ∀ s : ST3, o = some s → VTq cnt t) : Pc (qf_X11_push nn t h) (CSo cnt mx h0 (o.bind (aU mx t))) := vc_push A ((cms_k C A.1).2.1.2.1.trans em) m30 V
theorem vc_pv (C : CMz Bf nf cnt k i h0) (em : Bf k (ma_S (Bf k) (nf k) i + 3) = mx) (m30 : mx ≤ 30) {u : Int × ms_M} (A : CVp cnt mx h0 o2 u) (V : VTq cnt t) : Pc (qf_X11_push nn t u.2) (CSo cnt mx h0 (o2.bind (fun x => aU mx t x.2))) := pc_imp (vc_pu C em m30 (cs_p A) (fun _ _ => V)) (fun _ z => cs_b z)
theorem cs_loc {x : Nat} (A : CSo cnt mx h0 o h) (V : ∀ s : ST3, o = some s → VTq cnt t) (ea : a = (x : Int)) (e : g = up_M h 134 x t) : CSo cnt mx h0 (o.bind (fun s => some (aL s a t))) g := by
  obtain ⟨K, z | ⟨s, s1, s2, s3, s4, s5, s6⟩⟩ := A
  · rw [z.1]
    exact ⟨fun x y z1 z2 => by rw [e, up_n (by omega)]; exact K x y z1 z2, .inl ⟨rfl, by rw [e, up_n (by omega)]; exact z.2⟩⟩
  · have Vt := V s s1
    rw [s1]
    refine ⟨fun x y z1 z2 => by rw [e, up_n (by omega)]; exact K x y z1 z2, .inr ⟨aL s a t, rfl, by rw [e, up_n (by omega)]; exact s2, ⟨fun j hj => ?_, s3.2.1, s3.2.2⟩, fun j hj => ?_, fun j hj => by rw [e, up_n (by omega)]; exact s5 j hj, by rw [e, up_n (by omega)]; exact s6⟩⟩
    · show VTq cnt (if (j : Int) = a then t else s.1 j)
      by_cases q : (j : Int) = a
      · rw [if_pos q]; exact Vt
      · rw [if_neg q]; exact s3.1 j hj
    · show g 134 j = (if (j : Int) = a then t else s.1 j)
      by_cases q : (j : Int) = a
      · rw [if_pos q, e, show j = x by omega, up_s]
      · rw [if_neg q, e, up_n (by omega)]; exact s4 j hj
/-- OBJECTS -/
theorem vc_apO (C : CMz Bf nf cnt k i h0) (H : HGo Bf nf cnt) (em : Bf k (ma_S (Bf k) (nf k) i + 3) = mx) (m30 : mx ≤ 30) (A : CSo cnt mx h0 (some s) h) (cr : op = 187 ∨ op = 189 ∨ op = 192 ∨ op = 193 → tg_S (Bf k) (nf k) a = 3 ∧ 0 ≤ cq_F Bf nf cnt (Bf k) (nf k) a ∧ cq_F Bf nf cnt (Bf k) (nf k) a < 16) : Pc (qf_X11_applyObject nn op a h) (CSo cnt mx h0 (ap_O (FTq Bf nf cnt) mx (cq_F Bf nf cnt (Bf k) (nf k) a) op s)) := by
  have hk' : (k : Int) < cnt := by have := C.1.1.2.2.1; rw [C.1.2] at this; exact this
  obtain ⟨-, -, zx, zk, z2⟩ := H.2 k hk'
  have IS : (op = 187 ∨ op = 189 ∨ op = 192 ∨ op = 193) → ISc cnt (cq_F Bf nf cnt (Bf k) (nf k) a) := fun w => by
    obtain ⟨t3, r⟩ := cr w
    rcases cq_is (Bf := Bf) (nf := nf) H.1 zk z2 t3 with c | c
    · omega
    · rcases c.2 with c | c | c
      · omega
      · exact c.1
      · omega
  have RD : (op = 187 ∨ op = 189 ∨ op = 192 ∨ op = 193) → ∀ g : ms_M, SKe h0 g → g 128 a.toNat = cq_F Bf nf cnt (Bf k) (nf k) a := fun w g K => (cms_k C K).2.2.1.1 a (cr w).1
  unfold qf_X11_applyObject ap_O
  refine pc_if (fun z => ?_) (fun z => ?_)
  · rw [if_pos z]
    refine pc_sv (vc_want C A m30) ?_; intro u q
    exact pc_ret q
  rw [if_neg z]
  refine pc_if (fun z => ?_) (fun z => ?_)
  · rw [if_pos z]
    refine pc_rA ?_; intro _ _ v8 e8
    rw [RD (by omega) h A.1] at e8
    rw [e8]
    refine pc_sv (vc_pu C em m30 A (fun _ _ => .inr (.inr (.inr (.inr (.inl (IS (by omega)))))))) ?_; intro u q
    exact pc_ret q
  rw [if_neg z]
  refine pc_if (fun z => ?_) (fun z => ?_)
  · rw [if_pos z]
    refine pc_sv (vc_want C A m30) ?_; intro u q
    refine pc_sv (vc_pu C em m30 q (fun _ _ => vt_200)) ?_; intro v w
    exact pc_ret w
  rw [if_neg z]
  refine pc_if (fun z => ?_) (fun z => ?_)
  · rw [if_pos z]
    refine pc_sv (vc_want C A m30) ?_; intro u q
    refine pc_rA ?_; intro _ _ v18 e18
    rw [RD (by omega) u q.1] at e18
    have r := (cr (by omega)).2
    refine pc_add (by omega) ?_; intro v19 e19
    rw [show v19 = 100 + cq_F Bf nf cnt (Bf k) (nf k) a by omega]
    refine pc_sv (vc_pu C em m30 q (fun _ _ => .inr (.inr (.inr (.inr (.inr ?_)))))) ?_
    · rw [show 100 + cq_F Bf nf cnt (Bf k) (nf k) a - 100 = cq_F Bf nf cnt (Bf k) (nf k) a by omega]
      exact IS (by omega)
    intro v w
    exact pc_ret w
  rw [if_neg z]
  refine pc_if (fun z => ?_) (fun z => ?_)
  · rw [if_pos z]
    refine pc_sv (vc_wantA (oi := True) (oc := True) (by simp) (by simp) A m30) ?_; intro u q
    refine pc_sv (vc_pv C em m30 q vt_301) ?_; intro v w
    exact pc_ret w
  rw [if_neg z]
  refine pc_if (fun z => ?_) (fun z => ?_)
  · rw [if_pos z]
    refine pc_sv (vc_want C A m30) ?_; intro u q
    exact pc_ret q
  rw [if_neg z]
  refine pc_if (fun z => ?_) (fun z => ?_)
  · rw [if_pos z]
    refine pc_sv (vc_wantR A m30) ?_; intro u q
    refine pc_rA ?_; intro _ _ v31 e31
    rw [RD (by omega) u.2 q.1] at e31
    rw [e31]
    refine pc_sv (vc_pv C em m30 q (.inr (.inr (.inr (.inr (.inl (IS (by omega)))))))) ?_; intro v w
    exact pc_ret w
  rw [if_neg z]
  refine pc_sv (vc_wantR A m30) ?_; intro u q
  refine pc_sv (vc_pv C em m30 q vt_301) ?_; intro v w
  exact pc_ret w
/-- RETURNS -/
theorem vc_apR (C : CMz Bf nf cnt k i h0) (m30 : mx ≤ 30) (A : CSo cnt mx h0 (some s) h) : Pc (qf_X11_applyReturn nn op h) (CSo cnt mx h0 (ap_R (FTq Bf nf cnt) (rk_F Bf nf cnt k (kt_S (Bf k) (nf k) i 1)) op s)) := by
  have RT : ∀ g : ms_M, SKe h0 g → g 127 20 = rk_F Bf nf cnt k (kt_S (Bf k) (nf k) i 1) := fun g K => (cms_k C K).2.1.2.2
  generalize rk_F Bf nf cnt k (kt_S (Bf k) (nf k) i 1) = rt at RT ⊢
  have ST : ∀ (o : Option ST3) (G : ST3 → Option ST3) (u h1 : ms_M), CSo cnt mx h0 o u → h1 = up_M u 127 19 0 → (∀ s : ST3, o = some s → G s = none) → CSo cnt mx h0 (o.bind G) h1 := fun o G u h1 q e z => by
    refine ⟨ske_19 q.1 e, .inl ⟨?_, by rw [e, up_s]⟩⟩
    cases o with
    | none => rfl
    | some s => exact z s rfl
  unfold qf_X11_applyReturn ap_R
  refine pc_if (fun z => ?_) (fun z => ?_)
  · rw [if_neg z]
    refine pc_if (fun z1 => ?_) (fun z1 => ?_)
    · rw [if_neg z1, RT h A.1]
      refine pc_sv (vc_want C A m30) ?_; intro u4 q4
      have r20 := RT u4 q4.1
      have q4 : CSo cnt mx h0 (aW (FTq Bf nf cnt) rt s) u4 := q4
      refine pc_if (fun y => ?_) (fun y => ?_)
      · refine pc_xl ?_; intro h6 e6
        refine pc_ret (ST _ _ u4 h6 q4 e6 (fun s e => ?_))
        obtain ⟨_, w | ⟨s2, s3, s4, _⟩⟩ := q4
        · rw [w.1] at e; exact nomatch e
        · omega
      rw [r20]
      refine pc_if (fun y1 => ?_) (fun y1 => ?_)
      · refine pc_xl ?_; intro h8 e8
        exact pc_ret (ST _ _ u4 h8 q4 e8 (fun s _ => if_pos (.inl y1)))
      refine pc_if (fun y2 => ?_) (fun y2 => ?_)
      · refine pc_xl ?_; intro h8 e8
        exact pc_ret (ST _ _ u4 h8 q4 e8 (fun s _ => if_pos (.inr y2)))
      · refine pc_xl ?_; intro h11 e11
        obtain ⟨K, w | ⟨s2, s3, s4, s5⟩⟩ := q4
        · exact absurd w.2 y
        · refine pc_ret ⟨ske_19 K e11, .inr ⟨s2, ?_, by rw [e11, up_s], stc_19 s5 e11⟩⟩
          rw [s3]
          show (if rt = 301 ∨ rt = 303 then none else some s2) = some s2
          rw [if_neg (by omega)]
    · have z1 : op = 172 := by omega
      rw [if_pos z1]
      refine pc_sv (vc_want C A m30) ?_; intro u16 q16
      have r20 := RT u16 q16.1
      have q16 : CSo cnt mx h0 (aW (FTq Bf nf cnt) 301 s) u16 := q16
      unfold qj_X11_applyReturn_65
      refine pc_if (fun y => ?_) (fun y => ?_)
      · refine pc_xl ?_; intro h1 e1
        refine pc_ret (ST _ _ u16 h1 q16 e1 (fun s e => ?_))
        obtain ⟨_, w | ⟨s2, s3, s4, _⟩⟩ := q16
        · rw [w.1] at e; exact nomatch e
        · omega
      rw [r20]
      refine pc_if (fun y1 => ?_) (fun y1 => ?_)
      · refine pc_xl ?_; intro h1 e1
        exact pc_ret (ST _ _ u16 h1 q16 e1 (fun s _ => if_neg y1))
      · refine pc_xl ?_; intro h19 e19
        obtain ⟨K, w | ⟨s2, s3, s4, s5⟩⟩ := q16
        · exact absurd w.2 y
        · refine pc_ret ⟨ske_19 K e19, .inr ⟨s2, ?_, by rw [e19, up_s], stc_19 s5 e19⟩⟩
          rw [s3]
          show (if rt = 301 then some s2 else none) = some s2
          rw [if_pos (by omega)]
  · have z : op = 177 := by omega
    rw [if_pos z, RT h A.1]
    obtain ⟨K, w | ⟨s2, s3, s4, s5⟩⟩ := A
    · exact absurd w.1 (by simp)
    · have e2 : s = s2 := Option.some.inj s3
      refine pc_if (fun y => ?_) (fun y => ?_)
      · refine pc_xl ?_; intro h24 e24
        rw [if_neg y]
        exact pc_ret ⟨ske_19 K e24, .inl ⟨rfl, by rw [e24, up_s]⟩⟩
      · refine pc_xl ?_; intro h25 e25
        rw [if_pos (by omega), e2]
        exact pc_ret ⟨ske_19 K e25, .inr ⟨s2, rfl, by rw [e25, up_s], stc_19 s5 e25⟩⟩
/-- ARRAYS AND THE STACK -/
theorem vc_apA (C : CMz Bf nf cnt k i h0) (em : Bf k (ma_S (Bf k) (nf k) i + 3) = mx) (m30 : mx ≤ 30) (A : CSo cnt mx h0 (some s) h) : Pc (qf_X11_applyArray nn op h) (CSo cnt mx h0 (ap_A (FTq Bf nf cnt) mx op s)) := by
  unfold qf_X11_applyArray ap_A
  refine pc_if (fun z => ?_) (fun z => ?_)
  · rw [if_pos z]
    refine pc_sv (vc_want C A m30) ?_; intro u2 q2
    refine pc_sv (vc_wantA (oi := True) (oc := False) (by simp) (by simp) q2 m30) ?_; intro u4 q4
    refine pc_sv (vc_pv C em m30 q4 vt_301) ?_; intro u6 q6
    exact pc_ret q6
  rw [if_neg z]
  refine pc_if (fun z => ?_) (fun z => ?_)
  · rw [if_pos z]
    refine pc_sv (vc_want C A m30) ?_; intro u8 q8
    refine pc_sv (vc_wantA (oi := False) (oc := True) (by simp) (by simp) q8 m30) ?_; intro u10 q10
    have q10 : CVp cnt mx h0 ((aW (FTq Bf nf cnt) 301 s).bind (aA False True)) u10 := q10
    have X : ∀ x : Int × ST3, (aW (FTq Bf nf cnt) 301 s).bind (aA False True) = some x → ARy False True x.1 := fun x e => by
      rw [show (aW (FTq Bf nf cnt) 301 s).bind (aA False True) = ((aW (FTq Bf nf cnt) 301 s).bind aPop).bind (fun x => pr_I (ARy False True x.1) (some x) none) from aa_b] at e
      cases hp : (aW (FTq Bf nf cnt) 301 s).bind aPop with
      | none => rw [hp] at e; exact nomatch e
      | some y =>
        rw [hp] at e
        have e : pr_I (ARy False True y.1) (some y) none = some x := e
        by_cases w : ARy False True y.1
        · rw [pr_t w] at e
          rw [← Option.some.inj e]; exact w
        · rw [pr_f w] at e; exact nomatch e
    generalize (aW (FTq Bf nf cnt) 301 s).bind (aA False True) = o2 at q10 X ⊢
    have FIN : ∀ t : Int, (∀ x : Int × ST3, o2 = some x → t = (if x.1 = 300 then 300 else x.1 - 100)) → (∀ x : Int × ST3, o2 = some x → VTq cnt t) → Pc (qf_X11_push nn t u10.2) (CSo cnt mx h0 (o2.bind (fun x => aU mx (if x.1 = 300 then 300 else x.1 - 100) x.2))) := fun t ht hv => by
      refine pc_imp (vc_pu C em m30 (t := t) (cs_p q10) (fun s' e => ?_)) (fun u w => ?_)
      · cases ho : o2 with
        | none => rw [ho] at e; exact nomatch e
        | some x => exact hv x ho
      · have w := cs_b (G := aU mx t) w
        cases ho : o2 with
        | none => rw [ho] at w; exact w
        | some x =>
          rw [ho] at w
          have ex := ht x ho
          rw [ex] at w
          exact w
    have FA : ∀ x : Int × ST3, o2 = some x → u10.1 = x.1 ∧ VTq cnt x.1 := fun x e => by
      obtain ⟨_, w | ⟨y, y1, y2, y3, _⟩⟩ := q10
      · rw [w.1] at e; exact nomatch e
      · rw [y1] at e
        rw [← Option.some.inj e]; exact ⟨y2, y3⟩
    refine pc_if (fun y => ?_) (fun y => ?_)
    · refine pc_sv (P := fun u => ∀ x : Int × ST3, o2 = some x → u = x.1 - 100) ?_ ?_
      · unfold qf_X4_elementOf
        have NO : ∀ v : Int, (∀ x : Int × ST3, o2 = some x → False) → Pc (some v) (fun u => ∀ x : Int × ST3, o2 = some x → u = x.1 - 100) := fun v hv => pc_ret (fun x e => (hv x e).elim)
        refine pc_if (fun y1 => ?_) (fun y1 => NO _ (fun x e => ?_))
        · refine pc_if (fun y2 => NO _ (fun x e => ?_)) (fun y2 => ?_)
          · obtain ⟨w1, w2⟩ := FA x e
            rcases X x e with v | v | v
            · omega
            · exact v.2
            · omega
          refine pc_if (fun y3 => NO _ (fun x e => ?_)) (fun y3 => ?_)
          · obtain ⟨w1, w2⟩ := FA x e
            rcases X x e with v | v | v
            · omega
            · exact v.2
            · omega
          refine pc_sub (by omega) ?_; intro v1 e1
          refine pc_ret (fun x e => ?_)
          obtain ⟨w1, w2⟩ := FA x e
          omega
        · obtain ⟨w1, w2⟩ := FA x e
          rcases X x e with v | v | v
          · omega
          · exact v.2
          · exact v.1 (by omega)
      intro u11 q11
      refine pc_sv (FIN u11 (fun x e => ?_) (fun x e => ?_)) ?_
      · obtain ⟨w1, w2⟩ := FA x e
        rw [if_neg (by omega)]; exact q11 x e
      · obtain ⟨w1, w2⟩ := FA x e
        rw [q11 x e]
        rcases X x e with v | v | v
        · omega
        · exact v.2.elim
        · unfold VTq at w2 ⊢
          unfold ISc at w2 ⊢
          omega
      intro u13 q13
      exact pc_ret q13
    · refine pc_sv (FIN 300 (fun x e => ?_) (fun _ _ => vt_300)) ?_
      · obtain ⟨w1, w2⟩ := FA x e
        rw [if_pos (by omega)]
      intro u15 q15
      exact pc_ret q15
  rw [if_neg z]
  refine pc_if (fun z => ?_) (fun z => ?_)
  · rw [if_pos z]
    refine pc_sv (vc_want C A m30) ?_; intro u18 q18
    refine pc_sv (vc_want C q18 m30) ?_; intro u20 q20
    refine pc_sv (vc_wantA (oi := True) (oc := False) (by simp) (by simp) q20 m30) ?_; intro u22 q22
    exact pc_ret (cs_p q22)
  rw [if_neg z]
  refine pc_if (fun z => ?_) (fun z => ?_)
  · rw [if_pos z]
    refine pc_sv (vc_wantR A m30) ?_; intro u24 q24
    have q24 : CVp cnt mx h0 (aR s) u24 := q24
    refine pc_sv (vc_want C (cs_p q24) m30) ?_; intro u26 q26
    have q26 := cs_b (G := aW (FTq Bf nf cnt) 301) q26
    refine pc_sv (vc_wantA (oi := False) (oc := True) (by simp) (by simp) q26 m30) ?_; intro u28 q28
    exact pc_ret (cs_p q28)
  rw [if_neg z]
  refine pc_if (fun z => ?_) (fun z => ?_)
  · rw [if_pos z]
    refine pc_sv (vc_pop A m30) ?_; intro u30 q30
    exact pc_ret (cs_p q30)
  rw [if_neg z]
  refine pc_if (fun z => ?_) (fun z => ?_)
  · rw [if_pos z]
    refine pc_sv (vc_pop A m30) ?_; intro u32 q32
    have q32 : CVp cnt mx h0 (aPop s) u32 := q32
    generalize aPop s = o2 at q32 ⊢
    have FA : ∀ x : Int × ST3, o2 = some x → u32.1 = x.1 ∧ VTq cnt x.1 := fun x e => by
      obtain ⟨_, w | ⟨y, y1, y2, y3, _⟩⟩ := q32
      · rw [w.1] at e; exact nomatch e
      · rw [y1] at e
        rw [← Option.some.inj e]; exact ⟨y2, y3⟩
    refine pc_sv (vc_pu C em m30 (t := u32.1) (cs_p q32) (fun s' e => ?_)) ?_
    · cases ho : o2 with
      | none => rw [ho] at e; exact nomatch e
      | some x =>
        obtain ⟨w1, w2⟩ := FA x ho
        rw [w1]; exact w2
    intro u34 q34
    refine pc_sv (vc_pu C em m30 (t := u32.1) q34 (fun s' e => ?_)) ?_
    · cases ho : o2 with
      | none => rw [ho] at e; exact nomatch e
      | some x =>
        obtain ⟨w1, w2⟩ := FA x ho
        rw [w1]; exact w2
    intro u36 q36
    refine pc_ret ?_
    cases ho : o2 with
    | none => rw [ho] at q36; exact q36
    | some x =>
      rw [ho, (FA x ho).1] at q36
      exact q36
  rw [if_neg z]
  refine pc_if (fun z => ?_) (fun z => ?_)
  · rw [if_pos z]
    refine pc_sv (vc_want C A m30) ?_; intro u38 q38
    refine pc_sv (vc_pu C em m30 q38 (fun _ _ => vt_301)) ?_; intro u40 q40
    exact pc_ret q40
  rw [if_neg z]
  exact pc_ret A
/-- JUMPS -/
theorem vc_apJ (C : CMz Bf nf cnt k i h0) (m30 : mx ≤ 30) (A : CSo cnt mx h0 (some s) h) : Pc (qf_X11_applyJump nn op h) (CSo cnt mx h0 (ap_J (FTq Bf nf cnt) op s)) := by
  have R2 : Pc (qj_X11_applyJump_22 nn h) (CSo cnt mx h0 ((aR s).bind (fun x => (aR x.2).bind (fun y => some y.2)))) := by
    unfold qj_X11_applyJump_22
    refine pc_sv (vc_wantR A m30) ?_; intro u2 q2
    have q2 : CVp cnt mx h0 (aR s) u2 := q2
    refine pc_sv (vc_wantR (cs_p q2) m30) ?_; intro u4 q4
    refine pc_ret ?_
    have q5 := cs_p q4
    cases ho : aR s with
    | none => rw [ho] at q5; exact q5
    | some x => rw [ho] at q5; exact q5
  unfold qf_X11_applyJump ap_J
  refine pc_if (fun z => ?_) (fun z => ?_)
  · rw [if_neg z]
    refine pc_if (fun z1 => ?_) (fun z1 => ?_)
    · rw [if_pos (.inl z1)]; exact R2
    · refine pc_if (fun z2 => ?_) (fun z2 => ?_)
      · rw [if_neg (by omega)]
        refine pc_sv (vc_want C A m30) ?_; intro u6 q6
        refine pc_if (fun z3 => ?_) (fun z3 => ?_)
        · rw [if_pos z3]; exact pc_ret q6
        · rw [if_neg z3]
          refine pc_sv (vc_want C q6 m30) ?_; intro u8 q8
          exact pc_ret q8
      · rw [if_pos (by omega)]; exact R2
  · rw [if_pos (by omega)]; exact pc_ret A
/-- LOCALS -/
theorem vc_apL (C : CMz Bf nf cnt k i h0) (em : Bf k (ma_S (Bf k) (nf k) i + 3) = mx) (m30 : mx ≤ 30) (A : CSo cnt mx h0 (some s) h) (ar : 0 ≤ a) (ho : op = 21 ∨ op = 25 ∨ op = 54 ∨ op = 58) : Pc (qf_X11_applyLocal nn op a h) (CSo cnt mx h0 (ap_L (FTq Bf nf cnt) mx (Bf k (ma_S (Bf k) (nf k) i + 4)) op a s)) := by
  have Ch := cms_k C A.1
  have g30 := (cme_m Ch.1.1).2.2.1.2
  have A0 := A
  obtain ⟨K, w | ⟨s2, s3, s4, s5⟩⟩ := A
  · exact absurd w.1 (by simp)
  have e2 : s = s2 := Option.some.inj s3
  rw [← e2] at s5
  have s5' := s5
  obtain ⟨t1, t2, t3, t4⟩ := s5
  unfold qf_X11_applyLocal ap_L
  refine pc_sv (vc_info Ch.1.1 (w := 4) (by decide) (cme_d Ch.1.1).1.2.2.2.2.2) ?_; intro u19 q19
  rw [q19]
  refine pc_if (fun z => ?_) (fun z => ?_)
  · rw [if_pos z]
    unfold qj_X11_applyLocal_18
    refine pc_xl ?_; intro h17 e17
    exact pc_ret ⟨ske_19 K e17, .inl ⟨rfl, by rw [e17, up_s]⟩⟩
  rw [if_neg z]
  refine pc_if (fun z1 => ?_) (fun z1 => absurd (show a < 30 by omega) z1)
  have a134 := t2 a.toNat (by omega)
  have va := t1.1 a.toNat (by omega)
  have P90 : Pc (qj_X11_applyLocal_90 nn a h) (CSo cnt mx h0 none) := by
    unfold qj_X11_applyLocal_90 qj_X11_applyLocal_91
    refine pc_ck (fun _ => ?_)
    refine pc_xl ?_; intro h2 e2
    refine pc_rA ?_; intro _ _ v4 e4
    refine pc_sv (vc_pu C em m30 (o := none) ⟨ske_19 K e2, .inl ⟨rfl, by rw [e2, up_s]⟩⟩ (fun _ e => nomatch e)) ?_; intro u6 q6
    exact pc_ret q6
  have P91 : Pc (qj_X11_applyLocal_91 nn a 1 h) (CSo cnt mx h0 (aU mx (s.1 a.toNat) s)) := by
    unfold qj_X11_applyLocal_91
    refine pc_ck (fun _ => ?_)
    refine pc_xl ?_; intro h2 e2
    refine pc_rA ?_; intro _ _ v4 e4
    rw [e2, up_n (by omega), a134] at e4
    rw [e4]
    refine pc_sv (vc_pu C em m30 (o := some s) ⟨ske_19 K e2, .inr ⟨s, rfl, by rw [e2, up_s], stc_19 s5' e2⟩⟩ (fun _ _ => va)) ?_; intro u6 q6
    exact pc_ret q6
  have P73 : ∀ (R : Prop) (x : Int), ((x = 1 ∧ R) ∨ (x = 0 ∧ ¬ R)) → Pc (qj_X11_applyLocal_73 nn a x h) (CSo cnt mx h0 (pr_I R (aU mx (s.1 a.toNat) s) none)) := fun R x hx => by
    unfold qj_X11_applyLocal_73
    refine pc_if (fun y => absurd y (by omega)) (fun _ => ?_)
    refine pc_if (fun y => ?_) (fun y => ?_)
    · rw [pr_f (show ¬ R by
        rcases hx with q | q
        · omega
        · exact q.2)]
      exact P90
    · rw [pr_t (show R by
        rcases hx with q | q
        · exact q.2
        · exact absurd q.1 y)]
      exact P91
  refine pc_if (fun z2 => ?_) (fun z2 => ?_)
  · rw [if_pos z2]
    unfold qj_X11_applyLocal_38
    refine pc_if (fun y => absurd z2 y) (fun _ => ?_)
    refine pc_rA ?_; intro _ _ v14 e14
    rw [a134] at e14
    refine pc_if (fun y => P73 _ 0 (.inr ⟨rfl, by omega⟩)) (fun y => P73 _ 1 (.inl ⟨rfl, by omega⟩))
  rw [if_neg z2]
  refine pc_if (fun z3 => ?_) (fun z3 => ?_)
  · rw [if_neg z3]
    refine pc_if (fun z4 => ?_) (fun z4 => ?_)
    · rw [if_neg z4]
      refine pc_sv (vc_wantR A0 m30) ?_; intro u24 q24
      have q24 : CVp cnt mx h0 (aR s) u24 := q24
      refine pc_wA ?_; intro _ _ h25 e25
      have FA : ∀ x : Int × ST3, aR s = some x → u24.1 = x.1 ∧ VTq cnt x.1 := fun x e => by
        obtain ⟨_, w | ⟨y, y1, y2, y3, _⟩⟩ := q24
        · rw [w.1] at e; exact nomatch e
        · rw [y1] at e
          rw [← Option.some.inj e]; exact ⟨y2, y3⟩
      have w := cs_loc (a := a) (cs_p q24) (t := u24.1) (x := a.toNat) (fun s' e => ?_) (by omega) e25
      · refine pc_ret ?_
        cases ho : aR s with
        | none => rw [ho] at w; exact w
        | some x =>
          rw [ho, (FA x ho).1] at w
          exact w
      · cases ho : aR s with
        | none => rw [ho] at e; exact nomatch e
        | some x =>
          obtain ⟨w1, w2⟩ := FA x ho
          rw [w1]; exact w2
    · rw [if_pos (by omega)]
      refine pc_sv (vc_want C A0 m30) ?_; intro u27 q27
      refine pc_wA ?_; intro _ _ h29 e29
      exact pc_ret (cs_loc (a := a) q27 (fun _ _ => vt_301) (x := a.toNat) (by omega) e29)
  · rw [if_pos (by omega)]
    unfold qj_X11_applyLocal_38
    refine pc_if (fun _ => ?_) (fun y => absurd (by omega) y)
    refine pc_rA ?_; intro _ _ v11 e11
    rw [a134] at e11
    rw [e11]
    refine pc_sv vc_isRef ?_; intro u12 q12
    exact P73 _ u12 q12
/-- MEMBERS -/
theorem vc_apM94 (C : CMz Bf nf cnt k i h0) (em : Bf k (ma_S (Bf k) (nf k) i + 3) = mx) (m30 : mx ≤ 30) {x cl rk : Int} {y pm : Nat} {pk : Nat → Int} (ex : x = ((y : Nat) : Int)) (y9 : y + 6 < 1799) (p6 : pm ≤ 6) (RR : ∀ g : ms_M, SKe h0 g → g 131 y = rk ∧ ∀ j : Nat, j < pm → g 131 (y + 1 + j) = pk j) (VR : rk = 303 ∨ VTq cnt rk) (ho : op = 182 ∨ op = 184) : ∀ (f p : Nat) (o : Option ST3) (h : ms_M), p ≤ pm → CSo cnt mx h0 o h → Pc (qw_X11_applyMember_94 nn f op cl x (p : Int) h) (CSo cnt mx h0 ((o.bind (aPs (FTq Bf nf cnt) pk p)).bind (fun s => (if op = 182 then aW (FTq Bf nf cnt) cl s else some s).bind (fun s => if rk = 303 then some s else aU mx rk s)))) := by
  have E131 : ∀ (o : Option ST3) (h : ms_M), CSo cnt mx h0 o h → Pc (qj_X11_applyMember_131 nn x h) (CSo cnt mx h0 (o.bind (fun s => if rk = 303 then some s else aU mx rk s))) := fun o h A => by
    unfold qj_X11_applyMember_131
    refine pc_rA ?_; intro _ _ v2 e2
    rw [show x.toNat = y by omega, (RR h A.1).1] at e2
    refine pc_if (fun z => pc_ret ?_) (fun z => ?_)
    · have : o.bind (fun s => if rk = 303 then some s else aU mx rk s) = o := by
        cases o with
        | none => rfl
        | some s => exact if_pos (by omega)
      rw [this]; exact A
    · refine pc_rA ?_; intro _ _ v4 e4
      rw [show x.toNat = y by omega, (RR h A.1).1] at e4
      rw [e4]
      have V : VTq cnt rk := by
        rcases VR with v | v
        · omega
        · exact v
      refine pc_sv (vc_pu C em m30 A (fun _ _ => V)) ?_; intro u6 q6
      refine pc_ret ?_
      cases o with
      | none => exact q6
      | some s =>
        show CSo cnt mx h0 (if rk = 303 then some s else aU mx rk s) u6
        rw [if_neg (by omega)]; exact q6
  intro f
  induction f with
  | zero => intro p o h _ _; exact pc_none
  | succ f ih =>
    intro p o h hp A
    unfold qw_X11_applyMember_94
    cases p with
    | zero =>
      refine pc_if (fun _ => ?_) (fun z => absurd (show ((0 : Nat) : Int) ≤ 0 by omega) z)
      have e0 : o.bind (aPs (FTq Bf nf cnt) pk 0) = o := by
        cases o with
        | none => rfl
        | some s => rfl
      rw [e0]
      refine pc_if (fun z => ?_) (fun z => ?_)
      · refine pc_imp (E131 o h A) (fun u q => ?_)
        cases o with
        | none => exact q
        | some s =>
          show CSo cnt mx h0 ((if op = 182 then aW (FTq Bf nf cnt) cl s else some s).bind (fun s => if rk = 303 then some s else aU mx rk s)) u
          rw [if_neg z]; exact q
      · refine pc_sv (vc_want C A m30 (t := cl)) ?_; intro u9 q9
        refine pc_imp (E131 _ u9 q9) (fun u q => ?_)
        cases o with
        | none => exact q
        | some s =>
          show CSo cnt mx h0 ((if op = 182 then aW (FTq Bf nf cnt) cl s else some s).bind (fun s => if rk = 303 then some s else aU mx rk s)) u
          rw [if_pos (by omega)]; exact q
    | succ p =>
      refine pc_if (fun z => absurd z (by omega)) (fun _ => ?_)
      refine pc_add (by omega) ?_; intro v12 e12
      refine pc_rA ?_; intro _ _ v13 e13
      rw [show v12.toNat = y + 1 + p by omega, (RR h A.1).2 p (by omega)] at e13
      rw [e13]
      refine pc_sv (vc_want C A m30 (t := pk p)) ?_; intro u15 q15
      refine pc_add (by omega) ?_; intro v16 e16
      rw [show v16 = ((p : Nat) : Int) by omega]
      refine pc_imp (ih p _ u15 (by omega) q15) (fun u q => ?_)
      cases o with
      | none => exact q
      | some s => exact q
theorem vc_apM (C : CMz Bf nf cnt k i h0) (H : HGo Bf nf cnt) (em : Bf k (ma_S (Bf k) (nf k) i + 3) = mx) (m30 : mx ≤ 30) (A : CSo cnt mx h0 (some s) h) (ho : op = 180 ∨ op = 181 ∨ op = 182 ∨ op = 184) (MB : MBr Bf nf cnt k op a) : Pc (qf_X11_applyMember nn op a h) (CSo cnt mx h0 (ap_M (FTq Bf nf cnt) mx (rk_F Bf nf cnt k (kt_S (Bf k) (nf k) i 1)) (cq_F Bf nf cnt (Bf k) (nf k) (pt_S (Bf k) (nf k) a 0)) (fy_F Bf nf cnt k (pt_S (Bf k) (nf k) a 2)) (pk_F Bf nf cnt k (pt_S (Bf k) (nf k) a 2)) (pm_S (Bf k) (nf k) (pt_S (Bf k) (nf k) a 2)) (rk_F Bf nf cnt k (pt_S (Bf k) (nf k) a 2)) op s)) := by
  have Ch := cms_k C A.1
  have hk' : (k : Int) < cnt := by have := Ch.1.1.2.2.1; rw [Ch.1.2] at this; exact this
  obtain ⟨-, -, zx, zk, z2⟩ := H.2 k hk'
  have t4 := MB.1
  obtain ⟨a1, a2, -⟩ := tg_in (B := Bf k) (n := nf k) (k := a) (by omega)
  have B2 := (Ch.1.1.1.1.2 k Ch.1.1.2.2.1).1.2.2.1
  obtain ⟨t0, -, -, -⟩ := mb_tx zk z2 t4
  obtain ⟨sk, TT⟩ := mbr_t H hk' MB
  have T := (Ch.1.1.1.1.2 k Ch.1.1.2.2.1).1
  have ROW : ∀ g : ms_M, SKe h0 g → (sk_V (Bf k) (nf k) a = 1 → pm_S (Bf k) (nf k) (pt_S (Bf k) (nf k) a 2) ≤ 6 ∧ g 130 a.toNat = (pm_S (Bf k) (nf k) (pt_S (Bf k) (nf k) a 2) : Int) ∧ g 131 (7 * a.toNat) = rk_F Bf nf cnt k (pt_S (Bf k) (nf k) a 2) ∧ ∀ x : Nat, x < pm_S (Bf k) (nf k) (pt_S (Bf k) (nf k) a 2) → g 131 (7 * a.toNat + 1 + x) = pk_F Bf nf cnt k (pt_S (Bf k) (nf k) a 2) x) ∧ (sk_V (Bf k) (nf k) a = 0 → g 131 (7 * a.toNat) = fy_F Bf nf cnt k (pt_S (Bf k) (nf k) a 2)) := fun g K => by
    rcases (cms_k C K).2.2.1.2 a t4 with ⟨m1, m2⟩ | ⟨d, j, m1, m2, m3, m4⟩
    · exfalso
      obtain ⟨-, w16, d, j, w4, w5, -⟩ := MB
      rw [← sk] at w4 w5
      exact m2 d j ⟨w16, w4, w5⟩
    · exact ⟨m3, m4⟩
  unfold qf_X11_applyMember
  rw [Ch.1.1.2.2.2.1]
  refine pc_ck (fun _ => pc_ck (fun _ => ?_))
  refine pc_sv (P := fun u => u = pt_S (Bf k) (nf k) a 0) (fun u eu => by
    have z := c_part (nn := nn) T (k := a) (i := 0) (.inr ⟨t4, by omega⟩)
    rw [show ((0 : Nat) : Int) = 0 from rfl] at z
    rw [z] at eu; exact (Option.some.inj eu).symm) ?_; intro u21 q21
  refine pc_rA ?_; intro _ _ v22 e22
  rw [q21, Ch.2.2.1.1 _ t0] at e22
  rw [e22]
  refine pc_xl ?_; intro v23 e23
  rw [oq_mul_eq (by omega) (by omega) (by omega)] at e23
  have ev : v23.toNat = 7 * a.toNat := by omega
  unfold ap_M
  refine pc_if (fun z => ?_) (fun z => ?_)
  · rw [if_pos z]
    rw [if_neg (by omega)] at sk
    have VF : VTq cnt (fy_F Bf nf cnt k (pt_S (Bf k) (nf k) a 2)) := by
      rcases TT with w | w
      · exact w.2.1
      · omega
    refine pc_sv (vc_want C A m30) ?_; intro u27 q27
    refine pc_rA ?_; intro _ _ v29 e29
    rw [ev, (ROW u27 q27.1).2 sk] at e29
    rw [e29]
    refine pc_sv (vc_pu C em m30 q27 (fun _ _ => VF)) ?_; intro u31 q31
    exact pc_ret q31
  rw [if_neg z]
  refine pc_if (fun z1 => ?_) (fun z1 => ?_)
  · rw [if_pos z1]
    rw [if_neg (by omega)] at sk
    refine pc_rA ?_; intro _ _ v33 e33
    rw [ev, (ROW h A.1).2 sk] at e33
    rw [e33]
    refine pc_sv (vc_want C A m30) ?_; intro u35 q35
    refine pc_sv (vc_want C q35 m30) ?_; intro u37 q37
    exact pc_ret q37
  rw [if_neg z1]
  rw [if_pos (by omega)] at sk
  obtain ⟨p6, r1, r2, r3⟩ := (ROW h A.1).1 sk
  have VR : rk_F Bf nf cnt k (pt_S (Bf k) (nf k) a 2) = 303 ∨ VTq cnt (rk_F Bf nf cnt k (pt_S (Bf k) (nf k) a 2)) := by
    rcases TT with w | w
    · omega
    · exact w.2.2.2
  refine pc_rA ?_; intro _ _ v25 e25
  rw [r1] at e25
  rw [e25]
  refine pc_imp (vc_apM94 C em m30 (y := 7 * a.toNat) (pk := pk_F Bf nf cnt k (pt_S (Bf k) (nf k) a 2)) (pm := pm_S (Bf k) (nf k) (pt_S (Bf k) (nf k) a 2)) (rk := rk_F Bf nf cnt k (pt_S (Bf k) (nf k) a 2)) (by omega) (by omega) p6 (fun g K => ⟨((ROW g K).1 sk).2.2.1, ((ROW g K).1 sk).2.2.2⟩) VR (by omega) nn _ (some s) h (Nat.le_refl _) A) (fun u q => ?_)
  by_cases w : op = 182
  · rw [if_pos w]
    have q : CSo cnt mx h0 ((aPs (FTq Bf nf cnt) (pk_F Bf nf cnt k (pt_S (Bf k) (nf k) a 2)) (pm_S (Bf k) (nf k) (pt_S (Bf k) (nf k) a 2)) s).bind (fun s => (if op = 182 then aW (FTq Bf nf cnt) (cq_F Bf nf cnt (Bf k) (nf k) (pt_S (Bf k) (nf k) a 0)) s else some s).bind (fun s => if rk_F Bf nf cnt k (pt_S (Bf k) (nf k) a 2) = 303 then some s else aU mx (rk_F Bf nf cnt k (pt_S (Bf k) (nf k) a 2)) s))) u := q
    cases ho : aPs (FTq Bf nf cnt) (pk_F Bf nf cnt k (pt_S (Bf k) (nf k) a 2)) (pm_S (Bf k) (nf k) (pt_S (Bf k) (nf k) a 2)) s with
    | none => rw [ho] at q; exact q
    | some s2 =>
      rw [ho] at q
      have q : CSo cnt mx h0 ((if op = 182 then aW (FTq Bf nf cnt) (cq_F Bf nf cnt (Bf k) (nf k) (pt_S (Bf k) (nf k) a 0)) s2 else some s2).bind (fun s => if rk_F Bf nf cnt k (pt_S (Bf k) (nf k) a 2) = 303 then some s else aU mx (rk_F Bf nf cnt k (pt_S (Bf k) (nf k) a 2)) s)) u := q
      rw [if_pos w] at q
      exact q
  · rw [if_neg w]
    have q : CSo cnt mx h0 ((aPs (FTq Bf nf cnt) (pk_F Bf nf cnt k (pt_S (Bf k) (nf k) a 2)) (pm_S (Bf k) (nf k) (pt_S (Bf k) (nf k) a 2)) s).bind (fun s => (if op = 182 then aW (FTq Bf nf cnt) (cq_F Bf nf cnt (Bf k) (nf k) (pt_S (Bf k) (nf k) a 0)) s else some s).bind (fun s => if rk_F Bf nf cnt k (pt_S (Bf k) (nf k) a 2) = 303 then some s else aU mx (rk_F Bf nf cnt k (pt_S (Bf k) (nf k) a 2)) s))) u := q
    cases ho : aPs (FTq Bf nf cnt) (pk_F Bf nf cnt k (pt_S (Bf k) (nf k) a 2)) (pm_S (Bf k) (nf k) (pt_S (Bf k) (nf k) a 2)) s with
    | none => rw [ho] at q; exact q
    | some s2 =>
      rw [ho] at q
      have q : CSo cnt mx h0 ((if op = 182 then aW (FTq Bf nf cnt) (cq_F Bf nf cnt (Bf k) (nf k) (pt_S (Bf k) (nf k) a 0)) s2 else some s2).bind (fun s => if rk_F Bf nf cnt k (pt_S (Bf k) (nf k) a 2) = 303 then some s else aU mx (rk_F Bf nf cnt k (pt_S (Bf k) (nf k) a 2)) s)) u := q
      rw [if_neg w] at q
      exact q
/-- WHAT AN INSTRUCTION MAKES OF THE STATE, the class -/
theorem vc_arith : Pc (qf_X11_isArithmetic nn op h) (fun u => (u = 1 ∧ ARo op) ∨ (u = 0 ∧ ¬ ARo op)) := by
  unfold qf_X11_isArithmetic qj_X11_isArithmetic_156 qj_X11_isArithmetic_158 ARo
  refine pc_if (fun z => pc_ret (.inl ⟨rfl, by omega⟩)) (fun z => ?_)
  refine pc_if (fun z => pc_ret (.inl ⟨rfl, by omega⟩)) (fun z => ?_)
  refine pc_if (fun z => pc_ret (.inl ⟨rfl, by omega⟩)) (fun z => ?_)
  refine pc_if (fun z => pc_ret (.inl ⟨rfl, by omega⟩)) (fun z => ?_)
  refine pc_if (fun z => pc_ret (.inl ⟨rfl, by omega⟩)) (fun z => ?_)
  refine pc_if (fun z => pc_ret (.inl ⟨rfl, by omega⟩)) (fun z => ?_)
  refine pc_if (fun z => pc_ret (.inl ⟨rfl, by omega⟩)) (fun z => ?_)
  refine pc_if (fun z => pc_ret (.inl ⟨rfl, by omega⟩)) (fun z => ?_)
  refine pc_if (fun z => pc_ret (.inl ⟨rfl, by omega⟩)) (fun z => ?_)
  refine pc_if (fun z => pc_ret (.inl ⟨rfl, by omega⟩)) (fun z => ?_)
  exact pc_if (fun z => pc_ret (.inl ⟨rfl, by omega⟩)) (fun z => pc_ret (.inr ⟨rfl, by omega⟩))
theorem vc_apply (C : CMz Bf nf cnt k i h0) (H : HGo Bf nf cnt) (A : CSo cnt (Bf k (ma_S (Bf k) (nf k) i + 3)) h0 (some s) h) (ar : 0 ≤ a) (wd : 0 < WD op) (o0 : 0 ≤ op ∧ op ≤ 255) (CR : CRt Bf nf cnt k op a) : Pc (qf_X11_applySimple nn op a h) (CSo cnt (Bf k (ma_S (Bf k) (nf k) i + 3)) h0 (ap_F Bf nf cnt k i op a s)) := by
  have m30 := (cme_m C.1.1).2.2.1.1.2
  have P3 : Pc (qj_X11_applySimple_38 nn h) (CSo cnt (Bf k (ma_S (Bf k) (nf k) i + 3)) h0 (aU (Bf k (ma_S (Bf k) (nf k) i + 3)) 301 s)) := by
    unfold qj_X11_applySimple_38
    refine pc_sv (vc_pu C rfl m30 A (fun _ _ => vt_301)) ?_; intro u4 q4
    exact pc_ret q4
  have w183 : ¬ op = 183 := fun e => by rw [e] at wd; exact absurd wd (by decide)
  have P26 : ¬ op = 1 → ¬ (2 ≤ op ∧ op ≤ 8) → Pc (qj_X11_applySimple_26 nn op a h) (CSo cnt (Bf k (ma_S (Bf k) (nf k) i + 3)) h0 (ap_F Bf nf cnt k i op a s)) := fun n1 n2 => by
    unfold qj_X11_applySimple_26 ap_F
    rw [if_neg n1]
    refine pc_if (fun z => ?_) (fun z => ?_)
    · rw [if_pos (show (2 ≤ op ∧ op ≤ 8) ∨ op = 16 ∨ op = 18 by omega)]; exact P3
    refine pc_if (fun z1 => ?_) (fun z1 => ?_)
    · rw [if_neg (show ¬ ((2 ≤ op ∧ op ≤ 8) ∨ op = 16 ∨ op = 18) by omega)]
      refine pc_sv vc_arith ?_; intro u5 q5
      refine pc_if (fun y => ?_) (fun y => ?_)
      · rw [pr_f (show ¬ ARo op by
          rcases q5 with q | q
          · omega
          · exact q.2)]
        have L : (op = 21 ∨ op = 25 ∨ op = 54 ∨ op = 58) → Pc (qj_X11_applySimple_103 nn op a h) (CSo cnt (Bf k (ma_S (Bf k) (nf k) i + 3)) h0 (ap_L (FTq Bf nf cnt) (Bf k (ma_S (Bf k) (nf k) i + 3)) (Bf k (ma_S (Bf k) (nf k) i + 4)) op a s)) := fun w => by
          unfold qj_X11_applySimple_103
          refine pc_sv (vc_apL C rfl m30 A ar w) ?_; intro u2 q2
          exact pc_ret q2
        refine pc_if (fun z => by rw [if_pos (show op = 21 ∨ op = 25 ∨ op = 54 ∨ op = 58 by omega)]; exact L (by omega)) (fun z2 => ?_)
        refine pc_if (fun z => by rw [if_pos (show op = 21 ∨ op = 25 ∨ op = 54 ∨ op = 58 by omega)]; exact L (by omega)) (fun z3 => ?_)
        refine pc_if (fun z => by rw [if_pos (show op = 21 ∨ op = 25 ∨ op = 54 ∨ op = 58 by omega)]; exact L (by omega)) (fun z4 => ?_)
        refine pc_if (fun z5 => ?_) (fun z5 => by rw [if_pos (show op = 21 ∨ op = 25 ∨ op = 54 ∨ op = 58 by omega)]; exact L (by omega))
        rw [if_neg (show ¬ (op = 21 ∨ op = 25 ∨ op = 54 ∨ op = 58) by omega)]
        refine pc_sv pv_jump ?_; intro u6 q6
        refine pc_if (fun y6 => ?_) (fun y6 => ?_)
        · rw [pr_f (show ¬ JMP op by
            rcases q6 with q | q
            · omega
            · exact q.2)]
          refine pc_if (fun z6 => ?_) (fun z6 => ?_)
          · rw [if_neg (show ¬ op < 172 by omega)]
            refine pc_if (fun z7 => ?_) (fun z7 => ?_)
            · rw [if_neg (show ¬ op < 180 by omega)]
              refine pc_if (fun z8 => ?_) (fun z8 => ?_)
              · rw [if_neg (show ¬ op ≤ 184 by omega)]
                refine pc_sv (vc_apO C H rfl m30 A (fun w => CR.2.1 w)) ?_; intro u8 q8
                exact pc_ret q8
              · rw [if_pos (show op ≤ 184 by omega)]
                have h4 : op = 180 ∨ op = 181 ∨ op = 182 ∨ op = 184 := by omega
                refine pc_sv (vc_apM C H rfl m30 A h4 (CR.2.2.2 h4)) ?_; intro u10 q10
                exact pc_ret q10
            · rw [if_pos (show op < 180 by omega)]
              refine pc_sv (vc_apR C m30 A) ?_; intro u13 q13
              exact pc_ret q13
          · rw [if_pos (show op < 172 by omega)]
            refine pc_sv (vc_apA C rfl m30 A) ?_; intro u16 q16
            exact pc_ret q16
        · rw [pr_t (show JMP op by
            rcases q6 with q | q
            · exact q.2
            · exact absurd q.1 y6)]
          refine pc_sv (vc_apJ C m30 A) ?_; intro u19 q19
          exact pc_ret q19
      · rw [pr_t (show ARo op by
          rcases q5 with q | q
          · exact q.2
          · exact absurd q.1 y)]
        refine pc_sv (vc_want C A m30) ?_; intro u26 q26
        refine pc_sv (vc_want C q26 m30) ?_; intro u28 q28
        refine pc_sv (vc_pu C rfl m30 q28 (fun _ _ => vt_301)) ?_; intro u30 q30
        exact pc_ret q30
    · rw [if_pos (show (2 ≤ op ∧ op ≤ 8) ∨ op = 16 ∨ op = 18 by omega)]; exact P3
  unfold qf_X11_applySimple
  refine pc_if (fun n1 => ?_) (fun n1 => ?_)
  · refine pc_if (fun z => P26 n1 (by omega)) (fun z => ?_)
    refine pc_if (fun z1 => ?_) (fun z1 => P26 n1 (by omega))
    unfold ap_F
    rw [if_neg n1, if_pos (show (2 ≤ op ∧ op ≤ 8) ∨ op = 16 ∨ op = 18 by omega)]
    exact P3
  · unfold ap_F
    rw [if_pos (show op = 1 by omega)]
    refine pc_sv (vc_pu C rfl m30 A (fun _ _ => vt_300)) ?_; intro u37 q37
    exact pc_ret q37
end
end
section
/- VERIFY: states, the reference's side: what an instruction takes and gives; constants -/
def RKs (h g : ms_M) : Prop := (∀ x y : Nat, ¬ (x = 160 ∧ ((117 ≤ y ∧ y ≤ 121) ∨ y = 131)) → ¬ (240 ≤ x ∧ x ≤ 241) → ¬ (243 ≤ x ∧ x ≤ 245) → g x y = h x y) ∧ (0 ≤ h 160 117 → 0 ≤ g 160 117)
/-- the state in the reference's memory -/
def STr (cnt mx lc : Int) (s : ST3) (h : ms_M) : Prop := GSt cnt mx s ∧ (∀ j : Nat, (j : Int) < lc → TYj (s.1 j) (h 243 j)) ∧ (∀ j : Nat, j < s.2.2 → TYj (s.2.1 j) (h 244 j)) ∧ h 160 131 = (s.2.2 : Int)
def RSo (cnt mx lc : Int) (h0 : ms_M) (o : Option ST3) (u : Int × ms_M) : Prop := RKs h0 u.2 ∧ ((o = none ∧ u.1 = 0) ∨ ∃ s : ST3, o = some s ∧ u.1 = 1 ∧ STr cnt mx lc s u.2)
def RVp (cnt mx lc : Int) (h0 : ms_M) (o : Option (Int × ST3)) (u : Int × ms_M) : Prop := RKs h0 u.2 ∧ ((o = none ∧ u.1 = -1) ∨ ∃ x : Int × ST3, o = some x ∧ TYj x.1 u.1 ∧ VTq cnt x.1 ∧ STr cnt mx lc x.2 u.2)
section
variable {nn : Nat} {Bf : Nat → Nat → Int} {nf : Nat → Nat} {cnt mx lc : Int} {B C D : Nat → Int} {n m b d k i L p q : Nat} {M h g r h0 : ms_M} {t t2 c a op : Int} {o : Option ST3} {o2 : Option (Int × ST3)} {s : ST3} {u : Int × ms_M}
theorem rks_r : RKs h h := ⟨fun _ _ _ _ _ => rfl, fun z => z⟩
theorem rks_t (A : RKs h g) (E : RKs g r) : RKs h r := ⟨fun x j z1 z2 z3 => (E.1 x j z1 z2 z3).trans (A.1 x j z1 z2 z3), fun z => E.2 (A.2 z)⟩
theorem rks_o (A : OTH h g) : RKs h g := ⟨fun x j z1 z2 z3 => A.1 x j (by omega) (by omega) (by omega), A.2⟩
theorem rks_e (A : RKs h g) : RKe h g := ⟨fun x j z1 z2 z3 => A.1 x j (by omega) z2 z3, A.2⟩
theorem str_k (S : STr cnt mx lc s h) (e1 : ∀ j : Nat, g 243 j = h 243 j) (e2 : ∀ j : Nat, g 244 j = h 244 j) (e3 : g 160 131 = h 160 131) : STr cnt mx lc s g := ⟨S.1, fun j hj => by rw [e1]; exact S.2.1 j hj, fun j hj => by rw [e2]; exact S.2.2.1 j hj, by rw [e3]; exact S.2.2.2⟩
theorem str_o (S : STr cnt mx lc s h) (A : OTH h g) : STr cnt mx lc s g := str_k S (fun j => A.1 243 j (by omega) (by omega) (by omega)) (fun j => A.1 244 j (by omega) (by omega) (by omega)) (A.1 160 131 (by omega) (by omega) (by omega))
theorem rs_t0 (A : RSo cnt mx lc h0 o u) : Pc (if u.1 = 0 then some ((0 : Int), u.2) else some (1, u.2)) (RSo cnt mx lc h0 o) := by
  obtain ⟨K, z | ⟨s, s1, s2, s3⟩⟩ := A
  · exact pc_if (fun _ => pc_ret ⟨K, .inl ⟨z.1, rfl⟩⟩) (fun w => absurd z.2 w)
  · exact pc_if (fun w => absurd w (by omega)) (fun _ => pc_ret ⟨K, .inr ⟨s, s1, rfl, s3⟩⟩)
theorem rs_tc (A : RSo cnt mx lc h0 o u) : Pc (ck_B (u.1 = 0 ∨ u.1 = 1) <| some (u.1, u.2)) (RSo cnt mx lc h0 o) := pc_ck (fun _ => pc_ret A)
theorem rs_i {X : Option (Int × ms_M)} {G : ST3 → Option ST3} (A : RSo cnt mx lc h0 o u) (K : ∀ s : ST3, STr cnt mx lc s u.2 → RKs h0 u.2 → Pc X (RSo cnt mx lc h0 (G s))) : Pc (if u.1 = 0 then some (0, u.2) else X) (RSo cnt mx lc h0 (o.bind G)) := by
  obtain ⟨K0, z | ⟨s, s1, s2, s3⟩⟩ := A
  · exact pc_if (fun _ => pc_ret ⟨K0, .inl ⟨by rw [z.1]; rfl, rfl⟩⟩) (fun w => absurd z.2 w)
  · refine pc_if (fun w => absurd w (by omega)) (fun _ => ?_)
    rw [s1]
    exact K s s3 K0
theorem rs_j {X : Option (Int × ms_M)} {G : ST3 → Option ST3} (A : RSo cnt mx lc h0 o u) (K : ∀ s : ST3, STr cnt mx lc s u.2 → RKs h0 u.2 → Pc X (RSo cnt mx lc h0 (G s))) : Pc (if ¬ u.1 = 0 then X else some (0, u.2)) (RSo cnt mx lc h0 (o.bind G)) := by
  obtain ⟨K0, z | ⟨s, s1, s2, s3⟩⟩ := A
  · exact pc_if (fun w => absurd z.2 w) (fun _ => pc_ret ⟨K0, .inl ⟨by rw [z.1]; rfl, rfl⟩⟩)
  · refine pc_if (fun _ => ?_) (fun w => absurd (show ¬ u.1 = 0 by omega) w)
    rw [s1]
    exact K s s3 K0
theorem rs_no (K : RKs h0 h) (z : o = none) : Pc (some ((0 : Int), h)) (RSo cnt mx lc h0 o) := pc_ret ⟨K, .inl ⟨z, rfl⟩⟩
theorem rs_yes (K : RKs h0 h) (S : STr cnt mx lc s h) : Pc (some ((1 : Int), h)) (RSo cnt mx lc h0 (some s)) := pc_ret ⟨K, .inr ⟨s, rfl, rfl, S⟩⟩
/-- PULL -/
theorem vr_pull (K : RKs h0 h) (S : STr cnt mx lc s h) (m30 : mx ≤ 30) : Pc (qf_X13_pull nn h) (RVp cnt mx lc h0 (aPop s)) := by
  obtain ⟨s3, s4, s5, s6⟩ := S
  have g3 := s3.2.2
  unfold qf_X13_pull
  refine pc_if (fun w => ?_) (fun w => ?_)
  · rw [s6] at w ⊢
    refine pc_sub (by omega) ?_; intro v3 e3
    refine pc_xl ?_; intro h4 e4
    have F4 : ∀ x y : Nat, ¬ (x = 160 ∧ y = 131) → h4 x y = h x y := fun x y z => by rw [e4, up_n z]
    refine pc_rA ?_; intro _ _ v7 e7
    have e18 : h4 160 131 = v3 := by rw [e4, up_s]
    rw [e18, F4 244 _ (by omega), show v3.toNat = s.2.2 - 1 by omega] at e7
    have ea : aPop s = some (s.2.1 (s.2.2 - 1), (s.1, s.2.1, s.2.2 - 1)) := by unfold aPop; rw [if_neg (by omega)]
    refine pc_ret ⟨⟨fun x y z1 z2 z3 => ?_, fun z => ?_⟩, .inr ⟨(s.2.1 (s.2.2 - 1), (s.1, s.2.1, s.2.2 - 1)), ea, ?_, s3.2.1 _ (by omega), ⟨s3.1, fun j hj => ?_, ?_⟩, fun j hj => ?_, fun j hj => ?_, ?_⟩⟩
    · show h4 x y = _
      rw [F4 x y (by omega)]; exact K.1 x y z1 z2 z3
    · show 0 ≤ h4 160 117
      rw [F4 160 117 (by omega)]; exact K.2 z
    · show TYj (s.2.1 (s.2.2 - 1)) v7
      rw [e7]; exact s5 _ (by omega)
    · have hj : j < s.2.2 - 1 := hj
      exact s3.2.1 j (by omega)
    · show ((s.2.2 - 1 : Nat) : Int) ≤ mx
      omega
    · show TYj (s.1 j) (h4 243 j)
      rw [F4 243 j (by omega)]; exact s4 j hj
    · have hj : j < s.2.2 - 1 := hj
      show TYj (s.2.1 j) (h4 244 j)
      rw [F4 244 j (by omega)]; exact s5 j (by omega)
    · show h4 160 131 = ((s.2.2 - 1 : Nat) : Int)
      omega
  · have ea : aPop s = none := by unfold aPop; rw [if_pos (by omega)]
    exact pc_ret ⟨K, .inl ⟨ea, rfl⟩⟩
theorem ty_m1 {x y : Int} (T : TYj x y) : ¬ y = -1 := by unfold TYj at T; omega
theorem aw_p {F : Int → Int → Prop} : aW F t s = (aPop s).bind (fun x => pr_I (F x.1 t) (some x.2) none) := rfl
theorem vr_pullFit (R : RMe Bf nf cnt k i h0) (K : RKs h0 h) (S : STr cnt mx lc s h) (m30 : mx ≤ 30) (T : TYj t t2) : Pc (qf_X13_pullFit nn t2 h) (RSo cnt mx lc h0 (aW (FTq Bf nf cnt) t s)) := by
  rw [aw_p]
  unfold qf_X13_pullFit
  refine pc_sv (vr_pull K S m30) ?_; intro u2 ⟨K2, Z⟩
  generalize aPop s = o2 at Z ⊢
  rcases Z with Z | ⟨x, x1, x2, x3, x4⟩
  · refine pc_if (fun _ => rs_no K2 (by rw [Z.1]; rfl)) (fun w => absurd Z.2 w)
  refine pc_if (fun w => absurd w (ty_m1 x2)) (fun _ => ?_)
  rw [x1]
  have R2 := rme_e R (rks_e K2)
  refine pc_sv (vr_go R2 (vt_is (rme_c R).2 x3) x2 T) ?_; intro u4 q4
  refine pc_if (fun y => rs_no K2 (pr_f ?_)) (fun y => ?_)
  · rcases q4 with q | q
    · omega
    · exact q.2
  · have e : (some x).bind (fun x => pr_I (FTq Bf nf cnt x.1 t) (some x.2) none) = some x.2 := pr_t (by
      rcases q4 with q | q
      · exact q.2
      · exact absurd q.1 y)
    rw [e]
    exact rs_yes K2 x4
theorem ft_301 {x : Int} (V : VTq cnt x) (c8 : cnt ≤ 8) : FTq Bf nf cnt x 301 ↔ x = 301 := by
  constructor
  · intro w
    rcases w with w | w | ⟨w1, w2⟩ | ⟨w1, w2, w3⟩ | ⟨w1, w2⟩ | ⟨w1, w2, w3⟩
    · omega
    · exact w
    · omega
    · omega
    · omega
    · omega
  · intro w; exact .inr (.inl w)
theorem vr_int2 (R : RMe Bf nf cnt k i h0) (m30 : mx ≤ 30) {z : Int} (z2 : z ≤ 2) : ∀ (y f : Nat) (s : ST3) (h : ms_M), z = (y : Int) + (f : Int) → RKs h0 h → STr cnt mx lc s h → ∀ w : Nat, Pc (qw_X13_pullInts_2 nn w z (y : Int) h) (RSo cnt mx lc h0 ((Nat.repeat (fun o : Option ST3 => o.bind (aW (FTq Bf nf cnt) 301)) f) (some s))) := by
  intro y f
  induction f generalizing y with
  | zero =>
    intro s h ez K S w
    cases w with
    | zero => exact pc_none
    | succ w =>
      unfold qw_X13_pullInts_2
      exact pc_if (fun _ => rs_yes K S) (fun v => absurd (show z ≤ (y : Int) by omega) v)
  | succ f ih =>
    intro s h ez K S w
    cases w with
    | zero => exact pc_none
    | succ w =>
      unfold qw_X13_pullInts_2
      refine pc_if (fun v => absurd v (by omega)) (fun _ => ?_)
      refine pc_sv (vr_pull K S m30) ?_; intro u2 ⟨K2, Z⟩
      have RP : ∀ (f : Nat) (o : Option ST3), Nat.repeat (fun o : Option ST3 => o.bind (aW (FTq Bf nf cnt) 301)) (f + 1) o = Nat.repeat (fun o : Option ST3 => o.bind (aW (FTq Bf nf cnt) 301)) f (o.bind (aW (FTq Bf nf cnt) 301)) := by
        intro f
        induction f with
        | zero => intro o; rfl
        | succ f ih2 =>
          intro o
          show (Nat.repeat (fun o : Option ST3 => o.bind (aW (FTq Bf nf cnt) 301)) (f + 1) o).bind _ = (Nat.repeat (fun o : Option ST3 => o.bind (aW (FTq Bf nf cnt) 301)) f (o.bind (aW (FTq Bf nf cnt) 301))).bind _
          rw [ih2]
      have RN : ∀ f : Nat, Nat.repeat (fun o : Option ST3 => o.bind (aW (FTq Bf nf cnt) 301)) f none = none := by
        intro f
        induction f with
        | zero => rfl
        | succ f ih2 =>
          show (Nat.repeat (fun o : Option ST3 => o.bind (aW (FTq Bf nf cnt) 301)) f none).bind _ = none
          rw [ih2]; rfl
      rw [RP]
      have ea : (some s).bind (aW (FTq Bf nf cnt) 301) = (aPop s).bind (fun x => pr_I (FTq Bf nf cnt x.1 301) (some x.2) none) := rfl
      rw [ea]
      rcases Z with Z | ⟨x, x1, x2, x3, x4⟩
      · refine pc_if (fun v => absurd v (by omega)) (fun _ => rs_no K2 ?_)
        rw [Z.1]; exact RN f
      rw [x1]
      have ft := ft_301 (Bf := Bf) (nf := nf) x3 (rme_c R).2
      refine pc_if (fun v => ?_) (fun v => rs_no K2 ?_)
      · have e3 : x.1 = 301 := by unfold TYj at x2; omega
        have e4 : (some x).bind (fun x => pr_I (FTq Bf nf cnt x.1 301) (some x.2) none) = some x.2 := pr_t (ft.2 e3)
        rw [e4]
        refine pc_add (by omega) ?_; intro v3 e3'
        rw [show v3 = ((y + 1 : Nat) : Int) by omega]
        exact ih (y + 1) x.2 u2.2 (by omega) K2 x4 w
      · have e4 : (some x).bind (fun x => pr_I (FTq Bf nf cnt x.1 301) (some x.2) none) = none := pr_f (fun w => v (by
          have := ft.1 w
          unfold TYj at x2
          omega))
        rw [e4]; exact RN f
theorem vr_int1 (R : RMe Bf nf cnt k i h0) (K : RKs h0 h) (S : STr cnt mx lc s h) (m30 : mx ≤ 30) : Pc (qf_X13_pullInts nn 1 h) (RSo cnt mx lc h0 (aW (FTq Bf nf cnt) 301 s)) := by
  unfold qf_X13_pullInts
  exact vr_int2 R m30 (by omega) 0 1 s h (by omega) K S nn
theorem vr_ints (R : RMe Bf nf cnt k i h0) (K : RKs h0 h) (S : STr cnt mx lc s h) (m30 : mx ≤ 30) : Pc (qf_X13_pullInts nn 2 h) (RSo cnt mx lc h0 ((aW (FTq Bf nf cnt) 301 s).bind (aW (FTq Bf nf cnt) 301))) := by
  unfold qf_X13_pullInts
  exact vr_int2 R m30 (by omega) 0 2 s h (by omega) K S nn
theorem vr_thing (K : RKs h0 h) (S : STr cnt mx lc s h) (m30 : mx ≤ 30) (c8 : cnt ≤ 8) : Pc (qf_X13_pullThing nn h) (RSo cnt mx lc h0 ((aR s).bind (fun x => some x.2))) := by
  have ea : aR s = (aPop s).bind (fun x => pr_I (REf x.1) (some x) none) := rfl
  rw [ea]
  unfold qf_X13_pullThing
  refine pc_sv (vr_pull K S m30) ?_; intro u2 ⟨K2, Z⟩
  rcases Z with Z | ⟨x, x1, x2, x3, x4⟩
  · refine pc_if (fun _ => rs_no K2 (by rw [Z.1]; rfl)) (fun v => absurd (show u2.1 < 2 by omega) v)
  rw [x1]
  unfold VTq ISc at x3
  unfold TYj at x2
  refine pc_if (fun v => rs_no K2 ?_) (fun v => ?_)
  · have e4 : (some x).bind (fun x => pr_I (REf x.1) (some x) none) = none := pr_f (by unfold REf; omega)
    rw [e4]; rfl
  · have e4 : (some x).bind (fun x => pr_I (REf x.1) (some x) none) = some x := pr_t (by unfold REf; omega)
    rw [e4]; exact rs_yes K2 x4
/-- COMES BACK -/
theorem vr_comes (e130 : h 160 130 = mx) (K : RKs h0 h) (S : STr cnt mx lc s h) (m30 : mx ≤ 30) (T : TYj t t2) (V : VTq cnt t) : Pc (qf_X13_comesBack nn t2 h) (RSo cnt mx lc h0 (aU mx t s)) := by
  obtain ⟨s3, s4, s5, s6⟩ := S
  unfold qf_X13_comesBack
  rw [e130, s6]
  refine pc_if (fun w => ?_) (fun w => ?_)
  · refine pc_wA ?_; intro _ _ h5 e5
    rw [Int.toNat_natCast] at e5
    have e18 : h5 160 131 = (s.2.2 : Int) := by rw [e5, up_n (by omega)]; exact s6
    rw [e18]
    refine pc_add (by omega) ?_; intro v7 e7
    refine pc_xl ?_; intro h8 e8
    have F8 : ∀ x y : Nat, ¬ (x = 160 ∧ y = 131) → ¬ (x = 244 ∧ y = s.2.2) → h8 x y = h x y := fun x y z1 z2 => by rw [e8, up_n z1, e5, up_n z2]
    have ea : aU mx t s = some (s.1, fun j => if j = s.2.2 then t else s.2.1 j, s.2.2 + 1) := by unfold aU; rw [if_pos w]
    rw [ea]
    refine rs_yes ⟨fun x y z1 z2 z3 => ?_, fun z => ?_⟩ ⟨⟨s3.1, fun j hj => ?_, ?_⟩, fun j hj => ?_, fun j hj => ?_, ?_⟩
    · rw [F8 x y (by omega) (by omega)]; exact K.1 x y z1 z2 z3
    · rw [F8 160 117 (by omega) (by omega)]; exact K.2 z
    · have hj : j < s.2.2 + 1 := hj
      show VTq cnt (if j = s.2.2 then t else s.2.1 j)
      by_cases e : j = s.2.2
      · rw [if_pos e]; exact V
      · rw [if_neg e]; exact s3.2.1 j (by omega)
    · show ((s.2.2 + 1 : Nat) : Int) ≤ mx
      omega
    · rw [F8 243 j (by omega) (by omega)]; exact s4 j hj
    · have hj : j < s.2.2 + 1 := hj
      show TYj (if j = s.2.2 then t else s.2.1 j) (h8 244 j)
      by_cases e : j = s.2.2
      · rw [if_pos e, e, e8, up_n (by omega), e5, up_s]; exact T
      · rw [if_neg e, F8 244 j (by omega) (by omega)]; exact s5 j (by omega)
    · show h8 160 131 = ((s.2.2 + 1 : Nat) : Int)
      rw [e8, up_s]; omega
  · have ea : aU mx t s = none := by unfold aU; rw [if_neg w]
    rw [ea]
    exact rs_no K rfl
/-- constants, the reference -/
theorem rme_k2 (R : RMe Bf nf cnt k i h) {a : Int} (h1 : 1 ≤ a) (h2 : a ≤ Bf k 2) : h 228 (256 * (k : Int) + a).toNat = (pl_S (Bf k) (nf k) a : Int) ∧ KVs (Bf k) (nf k) a ∧ Bf k 2 ≤ 255 := tb_pl R.1.2.1 (rme_hk R) h1 h2
theorem vr_part (R : RMe Bf nf cnt k i h) {w : Nat} (hw : w ≤ 2) (t4 : tg_S (Bf k) (nf k) a = 4) : Pc (qf_X13_partOf nn a (w : Int) h) (fun u => u = pt_S (Bf k) (nf k) a w) := by
  have n6 := rme_n6 R
  obtain ⟨i1, i2, i3⟩ := tg_in (B := Bf k) (n := nf k) (k := a) (by omega)
  obtain ⟨a1, a2, a3⟩ := rme_k2 R i1 i2
  have a4 := a2.2.2.2 (by omega)
  unfold qf_X13_partOf
  rw [R.2.2.1.1]
  refine pc_xl ?_; intro v4 e4
  rw [oq_mul_eq (by omega) (by omega) (by omega)] at e4
  refine pc_add (by omega) ?_; intro v5 e5
  refine pc_rA ?_; intro _ _ v6 e6
  rw [show v5 = 256 * (k : Int) + a by omega, a1] at e6
  refine pc_add (by omega) ?_; intro v7 e7
  refine pc_add (by omega) ?_; intro v8 e8
  rw [show v8 = ((pl_S (Bf k) (nf k) a + 1 + w : Nat) : Int) by omega]
  refine pc_sv (vq_rbyte R.1.2.1 (rme_hk R) (by omega)) ?_; intro u10 q10
  exact pc_ret q10
theorem vr_sort (R : RMe Bf nf cnt k i h) (ar : 0 ≤ a ∧ a ≤ 255) : Pc (qf_X13_sortOf nn a h) (fun u => u = tg_S (Bf k) (nf k) a) := by
  have n6 := rme_n6 R
  have e229 := (R.1.2.1.2 k (rme_hk R)).2.1.1
  rw [Int.toNat_natCast] at e229
  unfold qf_X13_sortOf
  refine pc_if (fun z => pc_ret ?_) (fun z => ?_)
  · unfold tg_S; rw [if_neg (by omega)]
  rw [R.2.2.1.1]
  refine pc_rA ?_; intro _ _ v3 e3
  rw [Int.toNat_natCast, e229] at e3
  refine pc_if (fun z1 => pc_ret ?_) (fun z1 => ?_)
  · unfold tg_S; rw [if_neg (by omega)]
  obtain ⟨a1, a2, a3⟩ := rme_k2 R (a := a) (by omega) (by omega)
  refine pc_xl ?_; intro v7 e7
  rw [oq_mul_eq (by omega) (by omega) (by omega)] at e7
  refine pc_add (by omega) ?_; intro v8 e8
  refine pc_rA ?_; intro _ _ v9 e9
  rw [show v8 = 256 * (k : Int) + a by omega, a1] at e9
  rw [e9]
  refine pc_sv (vq_rbyte R.1.2.1 (rme_hk R) a2.1) ?_; intro u11 q11
  refine pc_ret ?_
  rw [q11]
  unfold tg_S
  rw [if_pos (by omega)]
/-- IS THE CONSTANT RIGHT, the reference -/
theorem vr_r356 {x y : Int} : Pc (qj_X13_right_356 nn x y h) (fun u => u.2 = h ∧ ((u.1 = 1 ∧ y = x) ∨ (u.1 = 0 ∧ ¬ y = x))) := by
  unfold qj_X13_right_356
  exact pc_if (fun z => pc_ret ⟨rfl, .inr ⟨rfl, z⟩⟩) (fun z => pc_ret ⟨rfl, .inl ⟨rfl, by omega⟩⟩)
theorem vr_r187 (R : RMe Bf nf cnt k i h) (H : HGo Bf nf cnt) (ar : 0 ≤ a ∧ a ≤ 255) (ho : op = 180 ∨ op = 181 ∨ op = 182 ∨ op = 184) : Pc (qj_X13_right_187 nn op a h) (fun u => RKs h u.2 ∧ (∀ j : Nat, u.2 243 j = h 243 j) ∧ (∀ j : Nat, u.2 244 j = h 244 j) ∧ u.2 160 131 = h 160 131 ∧ ((u.1 = 1 ∧ MBr Bf nf cnt k op a) ∨ (u.1 = 0 ∧ ¬ MBr Bf nf cnt k op a))) := by
  have hk' := R.2.1.1
  obtain ⟨Gk, Ok, zx, zk, z2⟩ := H.2 k hk'
  have NO : ∀ g : ms_M, OTH h g → ¬ MBr Bf nf cnt k op a → Pc (some ((0 : Int), g)) (fun u => RKs h u.2 ∧ (∀ j : Nat, u.2 243 j = h 243 j) ∧ (∀ j : Nat, u.2 244 j = h 244 j) ∧ u.2 160 131 = h 160 131 ∧ ((u.1 = 1 ∧ MBr Bf nf cnt k op a) ∨ (u.1 = 0 ∧ ¬ MBr Bf nf cnt k op a))) := fun g O n => pc_ret ⟨rks_o O, fun j => O.1 243 j (by omega) (by omega) (by omega), fun j => O.1 244 j (by omega) (by omega) (by omega), O.1 160 131 (by omega) (by omega) (by omega), .inr ⟨rfl, n⟩⟩
  unfold qj_X13_right_187
  refine pc_sv (vr_sort R ar) ?_; intro u30 q30
  refine pc_if (fun z => ?_) (fun z => NO h oth_r (fun w => z (q30.trans w.1)))
  have t4 : tg_S (Bf k) (nf k) a = 4 := by omega
  obtain ⟨t0, t1, tt, KK⟩ := mb_tx zk z2 t4
  have ci := cq_is (Bf := Bf) (nf := nf) H.1 zk z2 t0
  refine pc_sv (vr_part R (w := 0) (by omega) t4) ?_; intro u33 q33
  rw [q33]
  refine pc_sv (vr_cls R t0) ?_; intro u35 ⟨O, q35⟩
  have R5 := rme_e R (rke_o O)
  by_cases m1 : cq_F Bf nf cnt (Bf k) (nf k) (pt_S (Bf k) (nf k) a 0) = -1
  · refine pc_se ?_; intro u36 _
    refine pc_if (fun _ => NO u35.2 O (fun w => absurd w.2.1 (by omega))) (fun _ => ?_)
    refine pc_sv (vr_there (.inl q35)) ?_; intro u37 q37
    refine pc_if (fun y => ?_) (fun _ => NO u35.2 O (fun w => absurd w.2.1 (by omega)))
    exfalso
    rcases q37 with q | q
    · exact y q.1
    · exact q.2 m1
  have TJ := tyo_j q35 m1
  refine pc_sv (vr_row (.inl TJ) m1) ?_; intro u36 q36
  refine pc_if (fun y => NO u35.2 O (fun w => ?_)) (fun y => ?_)
  · have := w.2.1
    rcases q36 with q | q
    · omega
    · exact y q.1
  refine pc_sv (vr_there (.inl q35)) ?_; intro u37 q37
  refine pc_if (fun y7 => ?_) (fun y7 => NO u35.2 O (fun w => by
    have := w.2.1
    rcases q37 with q | q
    · omega
    · omega))
  have nr : ¬ (cq_F Bf nf cnt (Bf k) (nf k) (pt_S (Bf k) (nf k) a 0) = 200 ∨ (100 ≤ cq_F Bf nf cnt (Bf k) (nf k) (pt_S (Bf k) (nf k) a 0) ∧ cq_F Bf nf cnt (Bf k) (nf k) (pt_S (Bf k) (nf k) a 0) < 116)) := by
    rcases q36 with q | q
    · omega
    · exact q.2
  have c16 : ISc cnt (cq_F Bf nf cnt (Bf k) (nf k) (pt_S (Bf k) (nf k) a 0)) ∧ cq_F Bf nf cnt (Bf k) (nf k) (pt_S (Bf k) (nf k) a 0) < 16 := by
    rcases ci with c | c
    · exact absurd c m1
    · rcases c.2 with c | c | c
      · omega
      · exact c
      · omega
  have c16' := c16
  unfold ISc at c16'
  have v35 : u35.1 = 4 + 2 * cq_F Bf nf cnt (Bf k) (nf k) (pt_S (Bf k) (nf k) a 0) := by unfold TYj at TJ; omega
  have E17 : ch_F Bf nf cnt (cq_F Bf nf cnt (Bf k) (nf k) (pt_S (Bf k) (nf k) a 0)) 17 = -1 := by
    by_cases c8 : cq_F Bf nf cnt (Bf k) (nf k) (pt_S (Bf k) (nf k) a 0) < 8
    · have s0 : ∀ c : Nat, c < 8 → ch_F Bf nf cnt (c : Int) 17 = -1 := fun c hc => by
        have q0 : ch_F Bf nf cnt (0 : Int) 1 = -1 := by
          have e0 : ch_F Bf nf cnt (0 : Int) 0 = 0 := rfl
          have := chv_s (Bf := Bf) (nf := nf) (cnt := cnt) (c := 0) (i := 0) (by rw [e0]; omega)
          rw [this, e0, show (0 : Int) = ((0 : Nat) : Int) from rfl, sp_lt (by omega)]
          all_goals rfl
        have up : ∀ x y : Int, 0 ≤ x → sp_F Bf nf cnt x = y → ∀ j : Nat, ch_F Bf nf cnt x (j + 1) = ch_F Bf nf cnt y j := fun x y x0 e j => by
          induction j with
          | zero =>
            have e0 : ch_F Bf nf cnt x 0 = x := rfl
            have := chv_s (Bf := Bf) (nf := nf) (cnt := cnt) (c := x) (i := 0) (by rw [e0]; exact x0)
            rw [this, e0, e]; rfl
          | succ j ih =>
            show (if ch_F Bf nf cnt x (j + 1) = -1 then -1 else sp_F Bf nf cnt (ch_F Bf nf cnt x (j + 1))) = (if ch_F Bf nf cnt y j = -1 then -1 else sp_F Bf nf cnt (ch_F Bf nf cnt y j))
            rw [ih]
        have q1 : ∀ j : Nat, ch_F Bf nf cnt (1 : Int) (j + 1) = ch_F Bf nf cnt 0 j := up 1 0 (by omega) (by rw [show (1 : Int) = ((1 : Nat) : Int) from rfl, sp_lt (by omega)]; rfl)
        have m0 : ∀ j : Nat, ch_F Bf nf cnt (0 : Int) (1 + j) = -1 := ch_mm q0
        rcases (show c = 0 ∨ c = 1 ∨ (2 ≤ c ∧ c < 8) by omega) with e | e | e
        · rw [e]; exact m0 16
        · rw [e]
          have := q1 16
          rw [show ((1 : Nat) : Int) = 1 from rfl, this]
          exact m0 15
        · have := up (c : Int) 1 (by omega) (by
            rw [sp_lt (by omega)]
            unfold bi_A
            rw [if_neg (by omega), if_pos (by omega)]) 16
          rw [this, q1 15]
          exact m0 14
      have := s0 (cq_F Bf nf cnt (Bf k) (nf k) (pt_S (Bf k) (nf k) a 0)).toNat (by omega)
      rw [show (((cq_F Bf nf cnt (Bf k) (nf k) (pt_S (Bf k) (nf k) a 0)).toNat : Nat) : Int) = cq_F Bf nf cnt (Bf k) (nf k) (pt_S (Bf k) (nf k) a 0) by omega] at this
      exact this
    · have O8 := (H.2 (cq_F Bf nf cnt (Bf k) (nf k) (pt_S (Bf k) (nf k) a 0) - 8).toNat (by omega)).2.1.1.2.2
      rw [show 8 + (((cq_F Bf nf cnt (Bf k) (nf k) (pt_S (Bf k) (nf k) a 0) - 8).toNat : Nat) : Int) = cq_F Bf nf cnt (Bf k) (nf k) (pt_S (Bf k) (nf k) a 0) by omega] at O8
      exact O8
  have F244 : ∀ s0 : Int, s0 = (if 182 ≤ op then 1 else 0) → Pc (qj_X13_right_244 nn op a u35.1 s0 u35.2) (fun u => RKs h u.2 ∧ (∀ j : Nat, u.2 243 j = h 243 j) ∧ (∀ j : Nat, u.2 244 j = h 244 j) ∧ u.2 160 131 = h 160 131 ∧ ((u.1 = 1 ∧ MBr Bf nf cnt k op a) ∨ (u.1 = 0 ∧ ¬ MBr Bf nf cnt k op a))) := fun s0 es => by
    unfold qj_X13_right_244
    refine pc_sub (by omega) ?_; intro v2 e2
    refine pc_xl ?_; intro v3 e3
    rw [Int.tdiv_eq_ediv_of_nonneg (by omega)] at e3
    rw [show v3 = cq_F Bf nf cnt (Bf k) (nf k) (pt_S (Bf k) (nf k) a 0) by omega]
    refine pc_sv (vr_part R5 (w := 1) (by omega) t4) ?_; intro u6 q6
    rw [q6, R5.2.2.1.1]
    have N5 := R5.1.1
    have ec := R5.1.2.2.1
    rw [← ec] at N5
    have hq := vr_holder (nn := nn) (s := s0) N5 R5.1.2.1 (rme_hk R5) t1 (c := cq_F Bf nf cnt (Bf k) (nf k) (pt_S (Bf k) (nf k) a 0)) (by rw [ec]; exact .inr c16.1) (by rw [ec]; exact E17)
    rw [ec] at hq
    refine pc_sv hq ?_; intro u8 q8
    rcases q8 with ⟨q8, hn⟩ | ⟨d, j, HF, q8⟩
    · rw [q8]
      refine pc_if (fun w => absurd rfl w) (fun _ => NO u35.2 O (fun w => ?_))
      obtain ⟨-, -, d, j, w4, -⟩ := w
      rw [← es] at w4
      exact hfd_n w4 hn
    obtain ⟨dr, jm⟩ := hfd_is H.1.1 (.inr c16.1) HF
    have h8 := H.1.2
    obtain ⟨Gd, -, -⟩ := H.2 (d - 8).toNat (by omega)
    rw [q8]
    dsimp only
    refine pc_if (fun _ => ?_) (fun w => absurd (show ¬ d = -1 by omega) w)
    generalize hg : up_M u35.2 160 121 (j : Int) = g
    have Fg : ∀ x y : Nat, ¬ (x = 160 ∧ y = 121) → g x y = u35.2 x y := fun x y w => by rw [← hg, up_n w]
    have g121 : g 160 121 = (j : Int) := by rw [← hg, up_s]
    have Kg : RKs h g := ⟨fun x y z1 z2 z3 => by rw [Fg x y (by omega)]; exact (rks_o O).1 x y z1 z2 z3, fun z => by rw [Fg 160 117 (by omega)]; exact O.2 z⟩
    have Rg := rme_e R (rks_e Kg)
    have X1 : ∀ j : Nat, g 243 j = h 243 j := fun j => by rw [Fg 243 j (by omega)]; exact O.1 243 j (by omega) (by omega) (by omega)
    have X2 : ∀ j : Nat, g 244 j = h 244 j := fun j => by rw [Fg 244 j (by omega)]; exact O.1 244 j (by omega) (by omega) (by omega)
    have X3 : g 160 131 = h 160 131 := by rw [Fg 160 131 (by omega)]; exact O.1 160 131 (by omega) (by omega) (by omega)
    have hd : (((d - 8).toNat : Nat) : Int) < g 160 98 := by rw [Rg.1.2.2.1]; omega
    refine pc_sub (by omega) ?_; intro v9 e9
    rw [show v9 = (((d - 8).toNat : Nat) : Int) by omega, g121]
    have s01 : s0 = 0 ∨ s0 = 1 := by rw [es]; by_cases w : 182 ≤ op; exact .inr (if_pos w); exact .inl (if_neg w)
    refine pc_sv (vq_rtx Rg.1.2.1 hd (j := j) (s := s0) jm).2 ?_; intro u12 q12
    refine pc_sv (vr_part Rg (w := 2) (by omega) t4) ?_; intro u15 q15
    rw [q12, q15, Rg.2.2.1.1]
    have tk : tg_S (Bf (d - 8).toNat) (nf (d - 8).toNat) (kt_S (Bf (d - 8).toNat) (nf (d - 8).toNat) j s0) = 1 := by
      unfold mb_S at jm
      unfold kt_S
      by_cases s00 : s0 = 0
      · rw [if_pos s00] at jm ⊢
        have := (Gd.2.1 j jm).2.2
        unfold fk_S at this
        rw [Bool.and_eq_true] at this
        exact of_decide_eq_true this.1
      · rw [if_neg s00] at jm ⊢
        obtain ⟨m, pm, -⟩ := (Gd.2.2.2 j jm).2.1
        exact (ps_ok pm).2.1
    refine pc_sv (vr_same Rg.1.2.1 hd (rme_hk Rg) tk tt) ?_; intro u17 q17
    refine pc_if (fun y17 => ?_) (fun y17 => pc_ret ⟨Kg, X1, X2, X3, .inr ⟨rfl, fun w => by
      obtain ⟨-, -, d2, j2, w4, w5, -⟩ := w
      rw [← es] at w4 w5
      obtain ⟨x1, x2⟩ := hfd_u w4 HF
      rw [x1, x2] at w5
      rcases q17 with q | q
      · omega
      · exact q.2 w5⟩⟩)
    have TX : TXq (Bf (d - 8).toNat) (nf (d - 8).toNat) (kt_S (Bf (d - 8).toNat) (nf (d - 8).toNat) j s0) (Bf k) (nf k) (pt_S (Bf k) (nf k) a 2) := by
      rcases q17 with q | q
      · exact q.2
      · exact absurd q.1 y17
    refine pc_if (fun y => pc_ret ⟨Kg, X1, X2, X3, .inl ⟨rfl, t4, ⟨c16'.1.1, c16.2⟩, d, j, ?_, ?_, fun w => ?_⟩⟩) (fun y => ?_)
    · rw [← es]; exact HF
    · rw [← es]; exact TX
    · rw [if_pos w] at es; omega
    have yo : 182 ≤ op := Classical.byContradiction fun w => by rw [if_neg w] at es; exact y es
    have jm2 := jm
    unfold mb_S at jm2
    rw [if_neg y] at jm2
    have n6d := tb_n6 Rg.1.2.1 hd
    obtain ⟨-, -, -, M1⟩ := rg_im (Rg.1.2.1.2 (d - 8).toNat hd)
    have b01 := (Gd.2.2.2 j jm2).1.1
    have lj := (Gd.2.2.2 j jm2).2.2.2.1
    have gm12 := Gd.2.2.1
    refine pc_xl ?_; intro v19 e19
    rw [oq_mul_eq (by omega) (by omega) (by omega)] at e19
    refine pc_add (by omega) ?_; intro v21 e21
    refine pc_rA ?_; intro _ _ v22 e22
    rw [show v21 = 12 * (((d - 8).toNat : Nat) : Int) + j by omega, (M1 j jm2).1] at e22
    rw [e22]
    refine pc_sv (vq_rbyte Rg.1.2.1 hd (by omega)) ?_; intro u24 q24
    have FIN : ∀ x : Int, x = (if op = 184 then 1 else 0) → Pc (qj_X13_right_356 nn x u24 g) (fun u => RKs h u.2 ∧ (∀ j : Nat, u.2 243 j = h 243 j) ∧ (∀ j : Nat, u.2 244 j = h 244 j) ∧ u.2 160 131 = h 160 131 ∧ ((u.1 = 1 ∧ MBr Bf nf cnt k op a) ∨ (u.1 = 0 ∧ ¬ MBr Bf nf cnt k op a))) := fun x ex => by
      refine pc_imp vr_r356 (fun u ⟨q1, q2⟩ => ?_)
      rw [q1]
      refine ⟨Kg, X1, X2, X3, ?_⟩
      rcases q2 with ⟨q3, q4⟩ | ⟨q3, q4⟩
      · refine .inl ⟨q3, t4, ⟨c16'.1.1, c16.2⟩, d, j, ?_, ?_, fun _ => ?_⟩
        · rw [← es]; exact HF
        · rw [← es]; exact TX
        · rw [← q24, q4]; exact ex
      · refine .inr ⟨q3, fun w => ?_⟩
        obtain ⟨-, -, d2, j2, w4, w5, w6⟩ := w
        rw [← es] at w4
        obtain ⟨x1, x2⟩ := hfd_u w4 HF
        rw [x1, x2] at w6
        exact q4 (by rw [q24, ex]; exact w6 yo)
    exact pc_if (fun w => FIN 0 (by rw [if_neg w])) (fun w => FIN 1 (by rw [if_pos (by omega)]))
  refine pc_if (fun w => F244 0 (by rw [if_neg (by omega)])) (fun w => F244 1 (by rw [if_pos (by omega)]))
theorem vr_r25 (R : RMe Bf nf cnt k i h) (H : HGo Bf nf cnt) (ar : 0 ≤ a ∧ a ≤ 255) : Pc (qj_X13_right_25 nn op a h) (fun u => RKs h u.2 ∧ (∀ j : Nat, u.2 243 j = h 243 j) ∧ (∀ j : Nat, u.2 244 j = h 244 j) ∧ u.2 160 131 = h 160 131 ∧ ((u.1 = 1 ∧ CRt Bf nf cnt k op a) ∨ (u.1 = 0 ∧ ¬ CRt Bf nf cnt k op a))) := by
  have hk' := R.2.1.1
  obtain ⟨Gk, Ok, zx, zk, z2⟩ := H.2 k hk'
  have RT : ∀ (v : Int) (g : ms_M), OTH h g → ((v = 1 ∧ CRt Bf nf cnt k op a) ∨ (v = 0 ∧ ¬ CRt Bf nf cnt k op a)) → Pc (some (v, g)) (fun u => RKs h u.2 ∧ (∀ j : Nat, u.2 243 j = h 243 j) ∧ (∀ j : Nat, u.2 244 j = h 244 j) ∧ u.2 160 131 = h 160 131 ∧ ((u.1 = 1 ∧ CRt Bf nf cnt k op a) ∨ (u.1 = 0 ∧ ¬ CRt Bf nf cnt k op a))) := fun v g O w => pc_ret ⟨rks_o O, fun j => O.1 243 j (by omega) (by omega) (by omega), fun j => O.1 244 j (by omega) (by omega) (by omega), O.1 160 131 (by omega) (by omega) (by omega), w⟩
  have M : (op = 180 ∨ op = 181 ∨ op = 182 ∨ op = 184) → Pc (qj_X13_right_187 nn op a h) (fun u => RKs h u.2 ∧ (∀ j : Nat, u.2 243 j = h 243 j) ∧ (∀ j : Nat, u.2 244 j = h 244 j) ∧ u.2 160 131 = h 160 131 ∧ ((u.1 = 1 ∧ CRt Bf nf cnt k op a) ∨ (u.1 = 0 ∧ ¬ CRt Bf nf cnt k op a))) := fun ho => by
    refine pc_imp (vr_r187 R H ar ho) (fun u ⟨q1, q2, q3, q4, q5⟩ => ⟨q1, q2, q3, q4, ?_⟩)
    rcases q5 with q | q
    · exact .inl ⟨q.1, fun w => absurd w (by omega), fun w => absurd w (by omega), fun w => absurd w (by omega), fun _ => q.2⟩
    · exact .inr ⟨q.1, fun w => q.2 (w.2.2.2 ho)⟩
  have K : (op = 187 ∨ op = 189 ∨ op = 192 ∨ op = 193) → Pc (qj_X13_right_131 nn a h) (fun u => RKs h u.2 ∧ (∀ j : Nat, u.2 243 j = h 243 j) ∧ (∀ j : Nat, u.2 244 j = h 244 j) ∧ u.2 160 131 = h 160 131 ∧ ((u.1 = 1 ∧ CRt Bf nf cnt k op a) ∨ (u.1 = 0 ∧ ¬ CRt Bf nf cnt k op a))) := fun ho => by
    unfold qj_X13_right_131
    refine pc_sv (vr_sort R ar) ?_; intro u43 q43
    refine pc_if (fun z => ?_) (fun z => RT 0 h oth_r (.inr ⟨rfl, fun v => z (q43.trans (v.2.1 ho).1)⟩))
    have t3 : tg_S (Bf k) (nf k) a = 3 := by omega
    have ci := cq_is (Bf := Bf) (nf := nf) H.1 zk z2 t3
    refine pc_sv (vr_cls R t3) ?_; intro u46 ⟨O, q46⟩
    refine pc_sv (vr_there (.inl q46)) ?_; intro u47 q47
    refine pc_if (fun y => RT 0 u46.2 O (.inr ⟨rfl, fun v => ?_⟩)) (fun y => ?_)
    · have := (v.2.1 ho).2
      rcases q47 with q | q
      · omega
      · omega
    have m1 : ¬ cq_F Bf nf cnt (Bf k) (nf k) a = -1 := by
      rcases q47 with q | q
      · exact absurd q.1 y
      · exact q.2
    refine pc_sv (vr_row q46 m1) ?_; intro u48 q48
    refine pc_if (fun y8 => RT 0 u46.2 O (.inr ⟨rfl, fun v => ?_⟩)) (fun y8 => RT 1 u46.2 O (.inl ⟨rfl, fun w => absurd w (by omega), fun _ => ⟨t3, ?_⟩, fun w => absurd w (by omega), fun w => absurd w (by omega)⟩))
    · have := (v.2.1 ho).2
      rcases q48 with q | q
      · omega
      · exact y8 q.1
    · have nr : ¬ (cq_F Bf nf cnt (Bf k) (nf k) a = 200 ∨ (100 ≤ cq_F Bf nf cnt (Bf k) (nf k) a ∧ cq_F Bf nf cnt (Bf k) (nf k) a < 116)) := by
        rcases q48 with q | q
        · omega
        · exact q.2
      rcases ci with c | c
      · exact absurd c m1
      · rcases c.2 with c | c | c
        · omega
        · have := c.1
          unfold ISc at this
          omega
        · omega
  unfold qj_X13_right_25
  refine pc_if (fun z => ?_) (fun z0 => ?_)
  · refine pc_sv (vr_sort R ar) ?_; intro u53 q53
    exact pc_if (fun w => RT 0 h oth_r (.inr ⟨rfl, fun v => w (q53.trans (v.1 z))⟩)) (fun w => RT 1 h oth_r (.inl ⟨rfl, fun _ => by omega, fun w => absurd w (by omega), fun w => absurd w (by omega), fun w => absurd w (by omega)⟩))
  refine pc_if (fun z => M (by omega)) (fun z1 => ?_)
  refine pc_if (fun z => M (by omega)) (fun z2 => ?_)
  refine pc_if (fun z => M (by omega)) (fun z3 => ?_)
  refine pc_if (fun z => M (by omega)) (fun z4 => ?_)
  refine pc_if (fun z => K (by omega)) (fun z5 => ?_)
  refine pc_if (fun z => ?_) (fun z6 => ?_)
  · exact pc_if (fun w => RT 0 h oth_r (.inr ⟨rfl, fun v => w (v.2.2.1 z)⟩)) (fun w => RT 1 h oth_r (.inl ⟨rfl, fun w => absurd w (by omega), fun w => absurd w (by omega), fun _ => by omega, fun w => absurd w (by omega)⟩))
  refine pc_if (fun z => K (by omega)) (fun z7 => ?_)
  refine pc_if (fun z => K (by omega)) (fun z8 => ?_)
  refine pc_if (fun z => K (by omega)) (fun z9 => ?_)
  exact RT 1 h oth_r (.inl ⟨rfl, fun w => absurd w (by omega), fun w => absurd w (by omega), fun w => absurd w (by omega), fun w => absurd w (by omega)⟩)
end
end
section
/- VERIFY: what an instruction makes of the state: the reference's side -/
section
variable {nn : Nat} {Bf : Nat → Nat → Int} {nf : Nat → Nat} {cnt mx lc : Int} {B C D : Nat → Int} {n m b d k i L p q : Nat} {M h g r h0 : ms_M} {t t2 c a op x : Int} {o : Option ST3} {o2 : Option (Int × ST3)} {s : ST3} {u : Int × ms_M}
/-- which of the rules an instruction has -/
theorem apF_1 (e : op = 1) : ap_F Bf nf cnt k i op a s = aU (Bf k (ma_S (Bf k) (nf k) i + 3)) 300 s := by
  unfold ap_F
  rw [if_pos e]
theorem apF_P (e : (2 ≤ op ∧ op ≤ 8) ∨ op = 16 ∨ op = 18) : ap_F Bf nf cnt k i op a s = aU (Bf k (ma_S (Bf k) (nf k) i + 3)) 301 s := by
  unfold ap_F
  rw [if_neg (show ¬ op = 1 by omega), if_pos e]
theorem apF_I (e : ARo op) : ap_F Bf nf cnt k i op a s = ((aW (FTq Bf nf cnt) 301 s).bind (aW (FTq Bf nf cnt) 301)).bind (aU (Bf k (ma_S (Bf k) (nf k) i + 3)) 301) := by
  have e2 := e
  unfold ARo at e2
  unfold ap_F
  rw [if_neg (show ¬ op = 1 by omega), if_neg (show ¬ ((2 ≤ op ∧ op ≤ 8) ∨ op = 16 ∨ op = 18) by omega), pr_t e]
theorem apF_L (e : op = 21 ∨ op = 25 ∨ op = 54 ∨ op = 58) : ap_F Bf nf cnt k i op a s = ap_L (FTq Bf nf cnt) (Bf k (ma_S (Bf k) (nf k) i + 3)) (Bf k (ma_S (Bf k) (nf k) i + 4)) op a s := by
  unfold ap_F
  rw [if_neg (show ¬ op = 1 by omega), if_neg (show ¬ ((2 ≤ op ∧ op ≤ 8) ∨ op = 16 ∨ op = 18) by omega), pr_f (show ¬ ARo op by unfold ARo; omega), if_pos e]
theorem apF_J (e : JMP op) : ap_F Bf nf cnt k i op a s = ap_J (FTq Bf nf cnt) op s := by
  have e2 := e
  unfold JMP at e2
  unfold ap_F
  rw [if_neg (show ¬ op = 1 by omega), if_neg (show ¬ ((2 ≤ op ∧ op ≤ 8) ∨ op = 16 ∨ op = 18) by omega), pr_f (show ¬ ARo op by unfold ARo; omega), if_neg (show ¬ (op = 21 ∨ op = 25 ∨ op = 54 ∨ op = 58) by omega), pr_t e]
theorem apF_A (e : op = 0 ∨ op = 46 ∨ op = 50 ∨ op = 79 ∨ op = 83 ∨ op = 87 ∨ op = 89 ∨ op = 116) : ap_F Bf nf cnt k i op a s = ap_A (FTq Bf nf cnt) (Bf k (ma_S (Bf k) (nf k) i + 3)) op s := by
  unfold ap_F
  rw [if_neg (show ¬ op = 1 by omega), if_neg (show ¬ ((2 ≤ op ∧ op ≤ 8) ∨ op = 16 ∨ op = 18) by omega), pr_f (show ¬ ARo op by unfold ARo; omega), if_neg (show ¬ (op = 21 ∨ op = 25 ∨ op = 54 ∨ op = 58) by omega), pr_f (show ¬ JMP op by unfold JMP; omega), if_pos (show op < 172 by omega)]
theorem apF_R (e : op = 172 ∨ op = 176 ∨ op = 177) : ap_F Bf nf cnt k i op a s = ap_R (FTq Bf nf cnt) (rk_F Bf nf cnt k (kt_S (Bf k) (nf k) i 1)) op s := by
  unfold ap_F
  rw [if_neg (show ¬ op = 1 by omega), if_neg (show ¬ ((2 ≤ op ∧ op ≤ 8) ∨ op = 16 ∨ op = 18) by omega), pr_f (show ¬ ARo op by unfold ARo; omega), if_neg (show ¬ (op = 21 ∨ op = 25 ∨ op = 54 ∨ op = 58) by omega), pr_f (show ¬ JMP op by unfold JMP; omega), if_neg (show ¬ op < 172 by omega), if_pos (show op < 180 by omega)]
theorem apF_M (e : op = 180 ∨ op = 181 ∨ op = 182 ∨ op = 184) : ap_F Bf nf cnt k i op a s = ap_M (FTq Bf nf cnt) (Bf k (ma_S (Bf k) (nf k) i + 3)) (rk_F Bf nf cnt k (kt_S (Bf k) (nf k) i 1)) (cq_F Bf nf cnt (Bf k) (nf k) (pt_S (Bf k) (nf k) a 0)) (fy_F Bf nf cnt k (pt_S (Bf k) (nf k) a 2)) (pk_F Bf nf cnt k (pt_S (Bf k) (nf k) a 2)) (pm_S (Bf k) (nf k) (pt_S (Bf k) (nf k) a 2)) (rk_F Bf nf cnt k (pt_S (Bf k) (nf k) a 2)) op s := by
  unfold ap_F
  rw [if_neg (show ¬ op = 1 by omega), if_neg (show ¬ ((2 ≤ op ∧ op ≤ 8) ∨ op = 16 ∨ op = 18) by omega), pr_f (show ¬ ARo op by unfold ARo; omega), if_neg (show ¬ (op = 21 ∨ op = 25 ∨ op = 54 ∨ op = 58) by omega), pr_f (show ¬ JMP op by unfold JMP; omega), if_neg (show ¬ op < 172 by omega), if_neg (show ¬ op < 180 by omega), if_pos (show op ≤ 184 by omega)]
theorem apF_O (e : 186 ≤ op) : ap_F Bf nf cnt k i op a s = ap_O (FTq Bf nf cnt) (Bf k (ma_S (Bf k) (nf k) i + 3)) (cq_F Bf nf cnt (Bf k) (nf k) a) op s := by
  unfold ap_F
  rw [if_neg (show ¬ op = 1 by omega), if_neg (show ¬ ((2 ≤ op ∧ op ≤ 8) ∨ op = 16 ∨ op = 18) by omega), pr_f (show ¬ ARo op by unfold ARo; omega), if_neg (show ¬ (op = 21 ∨ op = 25 ∨ op = 54 ∨ op = 58) by omega), pr_f (show ¬ JMP op by unfold JMP; omega), if_neg (show ¬ op < 172 by omega), if_neg (show ¬ op < 180 by omega), if_neg (show ¬ op ≤ 184 by omega)]
/-- types -/
theorem ty_301 : TYj 301 1 := .inr (.inl ⟨rfl, rfl⟩)
theorem ty_300 : TYj 300 2 := .inr (.inr (.inl ⟨rfl, rfl⟩))
theorem ty_200 : TYj 200 3 := .inr (.inr (.inr (.inl ⟨rfl, rfl⟩)))
theorem vr_typ (R : RMe Bf nf cnt k i h) {p e : Nat} (K : KDs (Bf k) p e) (he : e ≤ nf k) {v : Int} (ev : v = ((6000 * k + p : Nat) : Int)) : Pc (qf_X13_typeAt nn v h) (fun u => OTH h u.2 ∧ u.2 160 120 = ((6000 * k + e : Nat) : Int) ∧ TKo (kq_F Bf nf cnt (Bf k) p e) u.1) := by
  have N := R.1.1
  have ec := R.1.2.2.1
  rw [← ec] at N ⊢
  rw [ev]
  exact vr_kind N R.1.2.1 R.1.2.2.2 (rme_hk R) K he
theorem vr_kty (R : RMe Bf nf cnt k i h) (F : fk_S (Bf k) (nf k) t = true) (V : VTq cnt (fy_F Bf nf cnt k t)) : Pc (qf_X13_kindType nn (h 160 132) t h) (fun u => OTH h u.2 ∧ TYj (fy_F Bf nf cnt k t) u.1) := by
  have n6 := rme_n6 R
  unfold fk_S at F
  rw [Bool.and_eq_true] at F
  have t1 := of_decide_eq_true F.1
  have kd := kd_s (of_decide_eq_true F.2)
  obtain ⟨i1, i2, i3⟩ := tg_in (B := Bf k) (n := nf k) (k := t) (by omega)
  obtain ⟨a1, a2, a3⟩ := rme_k2 R i1 i2
  have a4 := a2.2.1 (by omega)
  unfold qf_X13_kindType
  rw [R.2.2.1.1]
  refine pc_xl ?_; intro v1 e1
  rw [oq_mul_eq (by omega) (by omega) (by omega)] at e1
  refine pc_xl ?_; intro v3 e3
  rw [oq_mul_eq (by omega) (by omega) (by omega)] at e3
  refine pc_add (by omega) ?_; intro v4 e4
  refine pc_rA ?_; intro _ _ v5 e5
  rw [show v4 = 256 * (k : Int) + t by omega, a1] at e5
  refine pc_add (by omega) ?_; intro v6 e6
  refine pc_add (by omega) ?_; intro v7 e7
  refine pc_sv (vr_typ R kd.1 (by omega) (v := v7) (by omega)) ?_; intro u9 ⟨O, _, q9⟩
  refine pc_ret ⟨O, ?_⟩
  have q9 : TKo (fy_F Bf nf cnt k t) u9.1 := q9
  rcases q9 with q | q
  · exact tyo_j q (by intro w; rw [w] at V; unfold VTq ISc at V; omega)
  · have := q.1
    rw [this] at V
    unfold VTq ISc at V
    have := (rme_c R).2
    omega
theorem vt_m1 (c8 : cnt ≤ 8) {x : Int} (V : VTq cnt x) : ¬ x = -1 ∧ ¬ x = 303 := by
  unfold VTq ISc at V
  omega
/-- CALLS -/
theorem vr_c129 (R : RMe Bf nf cnt k i h0) (K : RKs h0 h) (S : STr cnt (Bf k (ma_S (Bf k) (nf k) i + 3)) lc s h) (m30 : Bf k (ma_S (Bf k) (nf k) i + 3) ≤ 30) {v : Int} {m2 : Nat} (G : pi_S (Bf k) (nf k) t = some m2) (ev : v = ((6000 * k + ps_S (Bf k) (nf k) t (pm_S (Bf k) (nf k) t) : Nat) : Int)) (VR : rk_F Bf nf cnt k t = 303 ∨ VTq cnt (rk_F Bf nf cnt k t)) : Pc (qj_X13_calls_129 nn v h) (RSo cnt (Bf k (ma_S (Bf k) (nf k) i + 3)) lc h0 (if rk_F Bf nf cnt k t = 303 then some s else aU (Bf k (ma_S (Bf k) (nf k) i + 3)) (rk_F Bf nf cnt k t) s)) := by
  have Rh := rme_e R (rks_e K)
  have n6 := rme_n6 R
  have c8 := (rme_c R).2
  obtain ⟨em, t1, KM⟩ := ps_ok G
  have rg := mkd_rg KM m2 (Nat.le_refl _)
  obtain ⟨i1, i2, i3⟩ := tg_in (B := Bf k) (n := nf k) (k := t) (by omega)
  obtain ⟨a1, a2, a3⟩ := rme_k2 R i1 i2
  have a4 := a2.2.1 (by omega)
  have ena : na_S (Bf k) (nf k) t = pl_S (Bf k) (nf k) t + 2 := rfl
  have K3 := KM.2.2.2
  rw [em] at ev
  unfold qj_X13_calls_129
  refine pc_add (by omega) ?_; intro v1 e1
  refine pc_sv (vr_typ Rh K3 (by omega) (v := v1) (by omega)) ?_; intro u3 ⟨O, _, q3⟩
  have K2 := rks_t K (rks_o O)
  have S2 := str_o S O
  have q3 : TKo (rk_F Bf nf cnt k t) u3.1 := by unfold rk_F; rw [em]; exact q3
  have n304 : ¬ rk_F Bf nf cnt k t = 304 := by
    unfold rk_F
    rw [em]
    rcases kq_is (Bf := Bf) (nf := nf) (rme_c R) K3 with w | w
    · omega
    · exact w.2.2.1
  by_cases r3 : rk_F Bf nf cnt k t = 303
  · rw [if_pos r3]
    refine pc_if (fun _ => rs_yes K2 S2) (fun w => absurd ?_ w)
    unfold TKo TYo TYj at q3
    omega
  · rw [if_neg r3]
    have V : VTq cnt (rk_F Bf nf cnt k t) := by
      rcases VR with w | w
      · exact absurd w r3
      · exact w
    have m1 := (vt_m1 c8 V).1
    have TJ : TYj (rk_F Bf nf cnt k t) u3.1 := by
      rcases q3 with q | q
      · exact tyo_j q m1
      · exact absurd q.1 r3
    refine pc_if (fun w => ?_) (fun w => ?_)
    · exfalso
      unfold TYj at TJ
      omega
    have R3 := rme_e R (rks_e K2)
    refine pc_sv (vr_comes R3.2.2.2.1 K2 S2 m30 TJ V) ?_; intro u5 q5
    exact rs_t0 q5
theorem vr_c75 (R : RMe Bf nf cnt k i h0) (m30 : Bf k (ma_S (Bf k) (nf k) i + 3) ≤ 30) {v y : Int} {m2 : Nat} (G : pi_S (Bf k) (nf k) t = some m2) (ev : v = ((6000 * k + ps_S (Bf k) (nf k) t (pm_S (Bf k) (nf k) t) : Nat) : Int)) (VR : rk_F Bf nf cnt k t = 303 ∨ VTq cnt (rk_F Bf nf cnt k t)) (t4 : tg_S (Bf k) (nf k) a = 4) (t0 : tg_S (Bf k) (nf k) (pt_S (Bf k) (nf k) a 0) = 3) (c16 : 0 ≤ cq_F Bf nf cnt (Bf k) (nf k) (pt_S (Bf k) (nf k) a 0) ∧ cq_F Bf nf cnt (Bf k) (nf k) (pt_S (Bf k) (nf k) a 0) < 16) : ∀ (w p : Nat) (s : ST3) (h : ms_M), p ≤ 6 → RKs h0 h → STr cnt (Bf k (ma_S (Bf k) (nf k) i + 3)) lc s h → (∀ x : Nat, x < p → TYj (pk_F Bf nf cnt k t x) (h 245 x)) → Pc (qw_X13_calls_75 nn w a y v ((p : Int) - 1) h) (RSo cnt (Bf k (ma_S (Bf k) (nf k) i + 3)) lc h0 ((aPs (FTq Bf nf cnt) (pk_F Bf nf cnt k t) p s).bind (fun s => (if y = 0 then aW (FTq Bf nf cnt) (cq_F Bf nf cnt (Bf k) (nf k) (pt_S (Bf k) (nf k) a 0)) s else some s).bind (fun s => if rk_F Bf nf cnt k t = 303 then some s else aU (Bf k (ma_S (Bf k) (nf k) i + 3)) (rk_F Bf nf cnt k t) s)))) := by
  intro w
  induction w with
  | zero => intro p s h _ _ _ _; exact pc_none
  | succ w ih =>
    intro p s h p6 K S W
    have Rh := rme_e R (rks_e K)
    unfold qw_X13_calls_75
    cases p with
    | zero =>
      refine pc_if (fun _ => ?_) (fun z => absurd (show ((0 : Nat) : Int) - 1 < 0 by omega) z)
      show Pc _ (RSo cnt (Bf k (ma_S (Bf k) (nf k) i + 3)) lc h0 ((if y = 0 then aW (FTq Bf nf cnt) (cq_F Bf nf cnt (Bf k) (nf k) (pt_S (Bf k) (nf k) a 0)) s else some s).bind (fun s => if rk_F Bf nf cnt k t = 303 then some s else aU (Bf k (ma_S (Bf k) (nf k) i + 3)) (rk_F Bf nf cnt k t) s)))
      refine pc_if (fun z => ?_) (fun z => ?_)
      · rw [if_neg z]
        exact vr_c129 R K S m30 G ev VR
      · rw [if_pos (show y = 0 by omega)]
        refine pc_sv (vr_part Rh (w := 0) (by omega) t4) ?_; intro u10 q10
        rw [q10]
        refine pc_sv (vr_cls Rh t0) ?_; intro u12 ⟨O, q12⟩
        have K2 := rks_t K (rks_o O)
        refine pc_sv (vr_pullFit R K2 (str_o S O) m30 (tyo_j q12 (by omega))) ?_; intro u14 q14
        exact rs_j q14 (fun s2 S2 K3 => vr_c129 R K3 S2 m30 G ev VR)
    | succ p =>
      refine pc_if (fun z => absurd z (by omega)) (fun _ => ?_)
      refine pc_rA ?_; intro _ _ v18 e18
      rw [show (((p + 1 : Nat) : Int) - 1).toNat = p by omega] at e18
      have T := W p (by omega)
      rw [← e18] at T
      refine pc_se ?_; intro u20 e20
      have q20 := vr_pullFit (nn := nn) R K S m30 T u20 e20
      have f20 : ∀ j : Nat, u20.2 245 j = h 245 j := fun j => (ff_X13_pullFit nn) u20 e20 245 j (nw_ar rfl j)
      have ea : (aPs (FTq Bf nf cnt) (pk_F Bf nf cnt k t) (p + 1) s).bind (fun s => (if y = 0 then aW (FTq Bf nf cnt) (cq_F Bf nf cnt (Bf k) (nf k) (pt_S (Bf k) (nf k) a 0)) s else some s).bind (fun s => if rk_F Bf nf cnt k t = 303 then some s else aU (Bf k (ma_S (Bf k) (nf k) i + 3)) (rk_F Bf nf cnt k t) s)) = (aW (FTq Bf nf cnt) (pk_F Bf nf cnt k t p) s).bind (fun s => (aPs (FTq Bf nf cnt) (pk_F Bf nf cnt k t) p s).bind (fun s => (if y = 0 then aW (FTq Bf nf cnt) (cq_F Bf nf cnt (Bf k) (nf k) (pt_S (Bf k) (nf k) a 0)) s else some s).bind (fun s => if rk_F Bf nf cnt k t = 303 then some s else aU (Bf k (ma_S (Bf k) (nf k) i + 3)) (rk_F Bf nf cnt k t) s))) := by
        show ((aW (FTq Bf nf cnt) (pk_F Bf nf cnt k t p) s).bind (aPs (FTq Bf nf cnt) (pk_F Bf nf cnt k t) p)).bind _ = _
        cases aW (FTq Bf nf cnt) (pk_F Bf nf cnt k t p) s with
        | none => rfl
        | some s2 => rfl
      rw [ea]
      refine rs_j q20 (fun s2 S2 K3 => ?_)
      refine pc_add (by omega) ?_; intro v21 e21
      rw [show v21 = (p : Int) - 1 by omega]
      exact ih p s2 u20.2 (by omega) K3 S2 (fun x hx => by rw [f20 x]; exact W x (by omega))
theorem vr_c35 (R : RMe Bf nf cnt k i h0) (m30 : Bf k (ma_S (Bf k) (nf k) i + 3) ≤ 30) {y : Int} {m2 : Nat} (G : pi_S (Bf k) (nf k) t = some m2) (VP : ∀ j : Nat, j < pm_S (Bf k) (nf k) t → VTq cnt (pk_F Bf nf cnt k t j)) (VR : rk_F Bf nf cnt k t = 303 ∨ VTq cnt (rk_F Bf nf cnt k t)) (t4 : tg_S (Bf k) (nf k) a = 4) (t0 : tg_S (Bf k) (nf k) (pt_S (Bf k) (nf k) a 0) = 3) (c16 : 0 ≤ cq_F Bf nf cnt (Bf k) (nf k) (pt_S (Bf k) (nf k) a 0) ∧ cq_F Bf nf cnt (Bf k) (nf k) (pt_S (Bf k) (nf k) a 0) < 16) : ∀ (w p : Nat) (h : ms_M), p ≤ m2 → RKs h0 h → STr cnt (Bf k (ma_S (Bf k) (nf k) i + 3)) lc s h → (∀ x : Nat, x < p → TYj (pk_F Bf nf cnt k t x) (h 245 x)) → Pc (qw_X13_calls_35 nn w a y ((6000 * k + ps_S (Bf k) (nf k) t p : Nat) : Int) (p : Int) h) (RSo cnt (Bf k (ma_S (Bf k) (nf k) i + 3)) lc h0 ((aPs (FTq Bf nf cnt) (pk_F Bf nf cnt k t) m2 s).bind (fun s => (if y = 0 then aW (FTq Bf nf cnt) (cq_F Bf nf cnt (Bf k) (nf k) (pt_S (Bf k) (nf k) a 0)) s else some s).bind (fun s => if rk_F Bf nf cnt k t = 303 then some s else aU (Bf k (ma_S (Bf k) (nf k) i + 3)) (rk_F Bf nf cnt k t) s)))) := by
  have n6 := rme_n6 R
  have c8 := (rme_c R).2
  obtain ⟨em, t1, KM⟩ := ps_ok G
  have rg := mkd_rg KM
  obtain ⟨i1, i2, i3⟩ := tg_in (B := Bf k) (n := nf k) (k := t) (by omega)
  obtain ⟨a1, a2, a3⟩ := rme_k2 R i1 i2
  have a4 := a2.2.1 (by omega)
  have ena : na_S (Bf k) (nf k) t = pl_S (Bf k) (nf k) t + 2 := rfl
  have m6 := KM.1.2.2
  intro w
  induction w with
  | zero => intro p h _ _ _ _; exact pc_none
  | succ w ih =>
    intro p h hp K S W
    have Rh := rme_e R (rks_e K)
    have rp := rg p hp
    unfold qw_X13_calls_35
    refine pc_rA ?_; intro _ _ v25 e25
    rw [Int.toNat_natCast, tb_by Rh.1.2.1 (rme_hk Rh) (by omega)] at e25
    refine pc_if (fun z => ?_) (fun z => ?_)
    · have pm : p = m2 := Classical.byContradiction fun w => absurd (e25.symm.trans z) (KM.2.1 p (by omega)).2
      refine pc_sub (by omega) ?_; intro v26 e26
      rw [e26]
      have q := vr_c75 (nn := nn) (y := y) R m30 G (v := ((6000 * k + ps_S (Bf k) (nf k) t p : Nat) : Int)) (by rw [em, pm]) VR t4 t0 c16 nn p s h (by omega) K S W
      rw [← pm]
      exact q
    · have pl : p < m2 := Classical.byContradiction fun w => z (by rw [e25, show p = m2 by omega]; exact KM.2.2.1.1)
      have kd := (KM.2.1 p pl).1
      have ks := kd_s kd
      have rq := rg (p + 1) (by omega)
      refine pc_sv (vr_typ Rh ks.1 (by omega) rfl) ?_; intro u29 ⟨O, e120, q29⟩
      refine pc_wA ?_; intro _ _ h30 e30
      rw [Int.toNat_natCast] at e30
      have F30 : ∀ x y : Nat, ¬ (x = 245 ∧ y = p) → h30 x y = u29.2 x y := fun x y w => by rw [e30, up_n w]
      refine pc_add (by omega) ?_; intro v31 e31
      rw [show v31 = ((p + 1 : Nat) : Int) by omega, F30 160 120 (by omega), e120]
      have V := VP p (by omega)
      have TJ : TYj (pk_F Bf nf cnt k t p) u29.1 := by
        have m1 := vt_m1 c8 V
        have q29 : TKo (pk_F Bf nf cnt k t p) u29.1 := q29
        rcases q29 with q | q
        · exact tyo_j q m1.1
        · exact absurd q.1 m1.2
      have K2 : RKs h0 h30 := by
        have K1 := rks_t K (rks_o O)
        exact ⟨fun x y z1 z2 z3 => by rw [F30 x y (by omega)]; exact K1.1 x y z1 z2 z3, fun z => by rw [F30 160 117 (by omega)]; exact K1.2 z⟩
      refine ih (p + 1) h30 (by omega) K2 (str_k (str_o S O) (fun j => F30 243 j (by omega)) (fun j => F30 244 j (by omega)) (F30 160 131 (by omega))) (fun x hx => ?_)
      by_cases e : x = p
      · rw [e, e30, up_s]; exact TJ
      · rw [F30 245 x (by omega), O.1 245 x (by omega) (by omega) (by omega)]; exact W x (by omega)
theorem vr_calls (R : RMe Bf nf cnt k i h0) (H : HGo Bf nf cnt) (K : RKs h0 h) (S : STr cnt (Bf k (ma_S (Bf k) (nf k) i + 3)) lc s h) (m30 : Bf k (ma_S (Bf k) (nf k) i + 3) ≤ 30) (ho : op = 182 ∨ op = 184) (MB : MBr Bf nf cnt k op a) {y : Int} (ey : y = (if op = 184 then 1 else 0)) : Pc (qf_X13_calls nn a y h) (RSo cnt (Bf k (ma_S (Bf k) (nf k) i + 3)) lc h0 (ap_M (FTq Bf nf cnt) (Bf k (ma_S (Bf k) (nf k) i + 3)) (rk_F Bf nf cnt k (kt_S (Bf k) (nf k) i 1)) (cq_F Bf nf cnt (Bf k) (nf k) (pt_S (Bf k) (nf k) a 0)) (fy_F Bf nf cnt k (pt_S (Bf k) (nf k) a 2)) (pk_F Bf nf cnt k (pt_S (Bf k) (nf k) a 2)) (pm_S (Bf k) (nf k) (pt_S (Bf k) (nf k) a 2)) (rk_F Bf nf cnt k (pt_S (Bf k) (nf k) a 2)) op s)) := by
  have Rh := rme_e R (rks_e K)
  have n6 := rme_n6 R
  have hk' := R.2.1.1
  obtain ⟨-, -, zx, zk, z2⟩ := H.2 k hk'
  have t4 := MB.1
  have c16 := MB.2.1
  obtain ⟨t0, -, t2, -⟩ := mb_tx zk z2 t4
  obtain ⟨-, TT⟩ := mbr_t H hk' MB
  obtain ⟨G, VP, VR⟩ : (∃ m : Nat, pi_S (Bf k) (nf k) (pt_S (Bf k) (nf k) a 2) = some m) ∧ (∀ j : Nat, j < pm_S (Bf k) (nf k) (pt_S (Bf k) (nf k) a 2) → VTq cnt (pk_F Bf nf cnt k (pt_S (Bf k) (nf k) a 2) j)) ∧ (rk_F Bf nf cnt k (pt_S (Bf k) (nf k) a 2) = 303 ∨ VTq cnt (rk_F Bf nf cnt k (pt_S (Bf k) (nf k) a 2))) := by
    rcases TT with w | w
    · omega
    · exact w.2
  obtain ⟨m2, G⟩ := G
  obtain ⟨em, -, KM⟩ := ps_ok G
  obtain ⟨i1, i2, i3⟩ := tg_in (B := Bf k) (n := nf k) (k := pt_S (Bf k) (nf k) a 2) (by omega)
  obtain ⟨a1, a2, a3⟩ := rme_k2 Rh i1 i2
  have a4 := a2.2.1 (by omega)
  have ena : na_S (Bf k) (nf k) (pt_S (Bf k) (nf k) a 2) = pl_S (Bf k) (nf k) (pt_S (Bf k) (nf k) a 2) + 2 := rfl
  have p0 := KM.1.2.1
  unfold qf_X13_calls
  rw [Rh.2.2.1.1]
  refine pc_xl ?_; intro v35 e35
  rw [oq_mul_eq (by omega) (by omega) (by omega)] at e35
  refine pc_xl ?_; intro v38 e38
  rw [oq_mul_eq (by omega) (by omega) (by omega)] at e38
  refine pc_sv (vr_part Rh (w := 2) (by omega) t4) ?_; intro u40 q40
  rw [q40]
  refine pc_add (by omega) ?_; intro v41 e41
  refine pc_rA ?_; intro _ _ v42 e42
  rw [show v41 = 256 * (k : Int) + pt_S (Bf k) (nf k) a 2 by omega, a1] at e42
  refine pc_add (by omega) ?_; intro v43 e43
  refine pc_add (by omega) ?_; intro v44 e44
  rw [show v44 = ((6000 * k + ps_S (Bf k) (nf k) (pt_S (Bf k) (nf k) a 2) 0 : Nat) : Int) by omega]
  refine pc_imp (vr_c35 (y := y) (s := s) R m30 G VP VR t4 t0 c16 nn 0 h (Nat.zero_le _) K S (fun x hx => absurd hx (by omega))) (fun u q => ?_)
  unfold ap_M
  rw [if_neg (show ¬ op = 180 by omega), if_neg (show ¬ op = 181 by omega), em]
  by_cases w : op = 182
  · rw [if_pos w]
    rw [if_neg (show ¬ op = 184 by omega)] at ey
    cases ho : aPs (FTq Bf nf cnt) (pk_F Bf nf cnt k (pt_S (Bf k) (nf k) a 2)) m2 s with
    | none => rw [ho] at q; exact q
    | some s2 =>
      rw [ho] at q
      have q : RSo cnt (Bf k (ma_S (Bf k) (nf k) i + 3)) lc h0 ((if y = 0 then aW (FTq Bf nf cnt) (cq_F Bf nf cnt (Bf k) (nf k) (pt_S (Bf k) (nf k) a 0)) s2 else some s2).bind (fun s => if rk_F Bf nf cnt k (pt_S (Bf k) (nf k) a 2) = 303 then some s else aU (Bf k (ma_S (Bf k) (nf k) i + 3)) (rk_F Bf nf cnt k (pt_S (Bf k) (nf k) a 2)) s)) u := q
      rw [if_pos ey] at q
      exact q
  · rw [if_neg w]
    rw [if_pos (show op = 184 by omega)] at ey
    cases ho : aPs (FTq Bf nf cnt) (pk_F Bf nf cnt k (pt_S (Bf k) (nf k) a 2)) m2 s with
    | none => rw [ho] at q; exact q
    | some s2 =>
      rw [ho] at q
      have q : RSo cnt (Bf k (ma_S (Bf k) (nf k) i + 3)) lc h0 ((if y = 0 then aW (FTq Bf nf cnt) (cq_F Bf nf cnt (Bf k) (nf k) (pt_S (Bf k) (nf k) a 0)) s2 else some s2).bind (fun s => if rk_F Bf nf cnt k (pt_S (Bf k) (nf k) a 2) = 303 then some s else aU (Bf k (ma_S (Bf k) (nf k) i + 3)) (rk_F Bf nf cnt k (pt_S (Bf k) (nf k) a 2)) s)) u := q
      rw [if_neg (show ¬ y = 0 by omega)] at q
      exact q
end
end

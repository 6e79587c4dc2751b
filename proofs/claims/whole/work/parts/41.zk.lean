/- VERIFY: states, the class's side: what an instruction takes and gives -/
def GSt (cnt mx : Int) (s : ST3) : Prop := (∀ j : Nat, j < 30 → VTq cnt (s.1 j)) ∧ (∀ j : Nat, j < s.2.2 → VTq cnt (s.2.1 j)) ∧ (s.2.2 : Int) ≤ mx
/-- the class's memory while states are looked at -/
def CMz (Bf : Nat → Nat → Int) (nf : Nat → Nat) (cnt : Int) (k i : Nat) (h : ms_M) : Prop := (CMe Bf nf k i h ∧ h 56 3 = cnt) ∧ (h 127 16 = (cl_N (Bf k) (nf k) i : Int) ∧ h 127 17 = Bf k (ma_S (Bf k) (nf k) i + 3) ∧ h 127 20 = rk_F Bf nf cnt k (kt_S (Bf k) (nf k) i 1)) ∧ (CT3 Bf nf cnt k h ∧ ∀ x : Int, tg_S (Bf k) (nf k) x = 4 → CMq Bf nf cnt k x h) ∧ (∀ x : Nat, x < fn_S (Bf k) (nf k) i → CFx Bf nf cnt k i x h) ∧ MKf (cd_S (Bf k) (nf k) i) (cl_N (Bf k) (nf k) i) (fv_S (Bf k) (nf k) i) (fn_S (Bf k) (nf k) i) h
def SKe (h g : ms_M) : Prop := ∀ x y : Nat, ¬ (x = 134 ∨ x = 135) → ¬ (x = 127 ∧ (y = 18 ∨ y = 19)) → g x y = h x y
/-- the state in the class's memory -/
def STc (cnt mx : Int) (s : ST3) (h : ms_M) : Prop := GSt cnt mx s ∧ (∀ j : Nat, j < 30 → h 134 j = s.1 j) ∧ (∀ j : Nat, j < s.2.2 → h 135 j = s.2.1 j) ∧ h 127 18 = (s.2.2 : Int)
def CSo (cnt mx : Int) (h0 : ms_M) (o : Option ST3) (h : ms_M) : Prop := SKe h0 h ∧ ((o = none ∧ h 127 19 = 0) ∨ ∃ s : ST3, o = some s ∧ h 127 19 = 1 ∧ STc cnt mx s h)
def CVp (cnt mx : Int) (h0 : ms_M) (o : Option (Int × ST3)) (u : Int × ms_M) : Prop := SKe h0 u.2 ∧ ((o = none ∧ u.2 127 19 = 0) ∨ ∃ x : Int × ST3, o = some x ∧ u.1 = x.1 ∧ VTq cnt x.1 ∧ u.2 127 19 = 1 ∧ STc cnt mx x.2 u.2)
section
variable {nn : Nat} {Bf : Nat → Nat → Int} {nf : Nat → Nat} {cnt mx : Int} {B C D : Nat → Int} {n m b d k i L p q : Nat} {M h g r h0 : ms_M} {t c a op : Int} {o : Option ST3} {o2 : Option (Int × ST3)} {s : ST3}
theorem ske_t (A : SKe h g) (E : SKe g r) : SKe h r := fun x y z1 z2 => (E x y z1 z2).trans (A x y z1 z2)
theorem cms_k (C : CMz Bf nf cnt k i h) (A : SKe h g) : CMz Bf nf cnt k i g := by
  obtain ⟨⟨c1, c2⟩, ⟨c3, c4, c5⟩, ⟨c6, c7⟩, c8, c9⟩ := C
  refine ⟨⟨cme_k c1 (fun x j z1 z2 => A x j (by omega) (by omega)), by rw [A 56 3 (by omega) (by omega)]; exact c2⟩, ⟨?_, ?_, ?_⟩, ⟨fun a ha => ?_, fun x hx => ?_⟩, fun x hx => ?_, fun p hp => ?_⟩
  · rw [A 127 16 (by omega) (by omega)]; exact c3
  · rw [A 127 17 (by omega) (by omega)]; exact c4
  · rw [A 127 20 (by omega) (by omega)]; exact c5
  · rw [A 128 _ (by omega) (by omega)]; exact c6 a ha
  · exact cmb_k (c7 x hx) (A _ _ (by omega) (by omega)) (A _ _ (by omega) (by omega)) (fun y _ => A _ _ (by omega) (by omega))
  · exact cfx_k (c8 x hx) (fun a _ _ => A _ _ (by omega) (by omega))
  · rw [A 132 p (by omega) (by omega)]; exact c9 p hp
theorem ske_19 {v : Int} (A : SKe h0 h) (e : g = up_M h 127 19 v) : SKe h0 g := fun x y z1 z2 => by rw [e, up_n (by omega)]; exact A x y z1 z2
theorem stc_19 {v : Int} (A : STc cnt mx s h) (e : g = up_M h 127 19 v) : STc cnt mx s g := by
  obtain ⟨a1, a2, a3, a4⟩ := A
  refine ⟨a1, fun j hj => ?_, fun j hj => ?_, ?_⟩
  · rw [e, up_n (by omega)]; exact a2 j hj
  · rw [e, up_n (by omega)]; exact a3 j hj
  · rw [e, up_n (by omega)]; exact a4
theorem cs_none (A : SKe h0 h) (e : h 127 19 = 0) (z : o = none) : CSo cnt mx h0 o h := ⟨A, .inl ⟨z, e⟩⟩
theorem cs_p {u : Int × ms_M} (A : CVp cnt mx h0 o2 u) : CSo cnt mx h0 (o2.bind (fun x => some x.2)) u.2 := by
  obtain ⟨a, z | ⟨x, x1, x2, x3, x4, x5⟩⟩ := A
  · rw [z.1]; exact ⟨a, .inl ⟨rfl, z.2⟩⟩
  · rw [x1]; exact ⟨a, .inr ⟨x.2, rfl, x4, x5⟩⟩
theorem cs_b {G : ST3 → Option ST3} (A : CSo cnt mx h0 ((o2.bind (fun x => some x.2)).bind G) h) : CSo cnt mx h0 (o2.bind (fun x => G x.2)) h := by
  cases o2 with
  | none => exact A
  | some x => exact A
/-- POP -/
theorem vc_pop (A : CSo cnt mx h0 o h) (m30 : mx ≤ 30) : Pc (qf_X11_pop nn h) (CVp cnt mx h0 (o.bind aPop)) := by
  obtain ⟨K, z | ⟨s, s1, s2, s3, s4, s5, s6⟩⟩ := A
  · rw [z.1]
    unfold qf_X11_pop
    refine pc_if (fun _ => ?_) (fun _ => ?_)
    · refine pc_xl ?_; intro v3 e3
      refine pc_xl ?_; intro h4 e4
      refine pc_rA ?_; intro _ _ v7 e7
      refine pc_ret ⟨fun x y z1 z2 => ?_, .inl ⟨rfl, ?_⟩⟩
      · show h4 x y = _
        rw [e4, up_n (by omega)]; exact K x y z1 z2
      · show h4 127 19 = 0
        rw [e4, up_n (by omega)]; exact z.2
    · refine pc_xl ?_; intro h8 e8
      refine pc_ret ⟨ske_19 K e8, .inl ⟨rfl, ?_⟩⟩
      show h8 127 19 = 0
      rw [e8, up_s]
  · rw [s1]
    have g3 := s3.2.2
    unfold qf_X11_pop
    refine pc_if (fun w => ?_) (fun w => ?_)
    · rw [s6] at w ⊢
      refine pc_sub (by omega) ?_; intro v3 e3
      refine pc_xl ?_; intro h4 e4
      refine pc_rA ?_; intro _ _ v7 e7
      have e18 : h4 127 18 = v3 := by rw [e4, up_s]
      rw [e18, e4, up_n (by omega), show v3.toNat = s.2.2 - 1 by omega, s5 _ (by omega)] at e7
      have F4 : ∀ x y : Nat, ¬ (x = 127 ∧ y = 18) → h4 x y = h x y := fun x y z => by rw [e4, up_n z]
      have ea : aPop s = some (s.2.1 (s.2.2 - 1), (s.1, s.2.1, s.2.2 - 1)) := by unfold aPop; rw [if_neg (by omega)]
      refine pc_ret ⟨fun x y z1 z2 => ?_, .inr ⟨(s.2.1 (s.2.2 - 1), (s.1, s.2.1, s.2.2 - 1)), ea, e7, s3.2.1 _ (by omega), ?_, ⟨s3.1, fun j hj => ?_, ?_⟩, fun j hj => ?_, fun j hj => ?_, ?_⟩⟩
      · show h4 x y = _
        rw [F4 x y (by omega)]; exact K x y z1 z2
      · show h4 127 19 = 1
        rw [F4 127 19 (by omega)]; exact s2
      · have hj : j < s.2.2 - 1 := hj
        exact s3.2.1 j (by omega)
      · show ((s.2.2 - 1 : Nat) : Int) ≤ mx
        omega
      · show h4 134 j = _
        rw [F4 134 j (by omega)]; exact s4 j hj
      · have hj : j < s.2.2 - 1 := hj
        show h4 135 j = _
        rw [F4 135 j (by omega)]; exact s5 j (by omega)
      · show h4 127 18 = ((s.2.2 - 1 : Nat) : Int)
        omega
    · refine pc_xl ?_; intro h8 e8
      have ea : aPop s = none := by unfold aPop; rw [if_pos (by omega)]
      refine pc_ret ⟨ske_19 K e8, .inl ⟨ea, ?_⟩⟩
      show h8 127 19 = 0
      rw [e8, up_s]
theorem awb_ {F : Int → Int → Prop} : o.bind (aW F t) = (o.bind aPop).bind (fun x => pr_I (F x.1 t) (some x.2) none) := by
  cases o with
  | none => rfl
  | some s => rfl
/-- WANT -/
theorem vc_want (C : CMz Bf nf cnt k i h0) (A : CSo cnt mx h0 o h) (m30 : mx ≤ 30) : Pc (qf_X11_want nn t h) (CSo cnt mx h0 (o.bind (aW (FTq Bf nf cnt) t))) := by
  rw [awb_]
  unfold qf_X11_want
  refine pc_sv (vc_pop A m30) ?_; intro u3 ⟨K, Z⟩
  generalize o.bind aPop = o2 at Z ⊢
  refine pc_if (fun w => ?_) (fun w => ?_)
  · refine pc_xl ?_; intro h5 e5
    rcases Z with Z | ⟨x, x1, x2, x3, x4, x5⟩
    · exact pc_ret ⟨ske_19 K e5, .inl ⟨by rw [Z.1]; rfl, by rw [e5, up_s]⟩⟩
    · omega
  rcases Z with Z | ⟨x, x1, x2, x3, x4, x5⟩
  · exact absurd Z.2 w
  rw [x1]
  have Y32 : FTq Bf nf cnt x.1 t → Pc (qj_X11_want_32 nn u3.2) (CSo cnt mx h0 ((some x).bind (fun x => pr_I (FTq Bf nf cnt x.1 t) (some x.2) none))) := fun y => by
    unfold qj_X11_want_32
    refine pc_xl ?_; intro h1 e1
    exact pc_ret ⟨ske_19 K e1, .inr ⟨x.2, pr_t y, by rw [e1, up_s], stc_19 x5 e1⟩⟩
  refine pc_if (fun y => Y32 (.inl y)) (fun y => ?_)
  have C3 := cms_k C K
  have kf := vc_kfits (nn := nn) C3.1.1.1 (x := u3.1) (y := t) (by rw [C3.1.2, x2]; exact vt_is (by have := C3.1.1.1.1.1.2; rw [C3.1.2] at this; exact this) x3)
  rw [C3.1.2, x2] at kf
  rw [x2]
  refine pc_sv kf ?_; intro u8 q8
  refine pc_if (fun y8 => ?_) (fun y8 => Y32 (.inr ?_))
  · refine pc_xl ?_; intro h9 e9
    refine pc_ret ⟨ske_19 K e9, .inl ⟨pr_f (fun w => ?_), by rw [e9, up_s]⟩⟩
    rcases w with w | w
    · exact y w
    · rcases q8 with q | q
      · omega
      · exact q.2 w
  · rcases q8 with q | q
    · exact q.2
    · exact absurd q.1 y8
/-- WANT A REFERENCE, AN ARRAY -/
theorem ar_b : o.bind aR = (o.bind aPop).bind (fun x => pr_I (REf x.1) (some x) none) := by
  cases o with
  | none => rfl
  | some s => rfl
theorem vc_isRef {x : Int} : Pc (qf_X4_isReference nn x h) (fun u => (u = 1 ∧ REf x) ∨ (u = 0 ∧ ¬ REf x)) := by
  unfold qf_X4_isReference REf
  refine pc_if (fun z => pc_ret (.inl ⟨rfl, .inl z⟩)) (fun z => ?_)
  refine pc_if (fun z1 => pc_ret (.inr ⟨rfl, by omega⟩)) (fun z1 => ?_)
  exact pc_if (fun z2 => pc_ret (.inr ⟨rfl, by omega⟩)) (fun z2 => pc_ret (.inl ⟨rfl, by omega⟩))
theorem vc_wantR (A : CSo cnt mx h0 o h) (m30 : mx ≤ 30) : Pc (qf_X11_wantReference nn h) (CVp cnt mx h0 (o.bind aR)) := by
  rw [ar_b]
  unfold qf_X11_wantReference
  refine pc_sv (vc_pop A m30) ?_; intro u3 ⟨K, Z⟩
  generalize o.bind aPop = o2 at Z ⊢
  have N24 : o2.bind (fun x => pr_I (REf x.1) (some x) none) = none → Pc (qj_X11_wantReference_24 nn u3.1 u3.2) (CVp cnt mx h0 (o2.bind (fun x => pr_I (REf x.1) (some x) none))) := fun y => by
    unfold qj_X11_wantReference_24
    refine pc_xl ?_; intro h1 e1
    refine pc_ret ⟨ske_19 K e1, .inl ⟨y, ?_⟩⟩
    show h1 127 19 = 0
    rw [e1, up_s]
  refine pc_if (fun w => N24 ?_) (fun w => ?_)
  · rcases Z with Z | ⟨x, x1, x2, x3, x4, x5⟩
    · rw [Z.1]; rfl
    · omega
  rcases Z with Z | ⟨x, x1, x2, x3, x4, x5⟩
  · exact absurd Z.2 w
  refine pc_sv vc_isRef ?_; intro u5 q5
  rw [x2] at q5
  refine pc_if (fun y => N24 ?_) (fun y => ?_)
  · rw [x1]
    refine pr_f ?_
    rcases q5 with q | q
    · omega
    · exact q.2
  · refine pc_xl ?_; intro h6 e6
    rw [x1]
    refine pc_ret ⟨ske_19 K e6, .inr ⟨x, pr_t ?_, x2, x3, ?_, stc_19 x5 e6⟩⟩
    · rcases q5 with q | q
      · exact q.2
      · exact absurd q.1 y
    · show h6 127 19 = 1
      rw [e6, up_s]
theorem aa_b {oi oc : Prop} : o.bind (aA oi oc) = (o.bind aPop).bind (fun x => pr_I (ARy oi oc x.1) (some x) none) := by
  cases o with
  | none => rfl
  | some s => rfl
theorem vc_wantA {a1 a2 : Int} {oi oc : Prop} (hi : a1 = 0 ↔ ¬ oi) (hc : a2 = 0 ↔ ¬ oc) (A : CSo cnt mx h0 o h) (m30 : mx ≤ 30) : Pc (qf_X11_wantArray nn a1 a2 h) (CVp cnt mx h0 (o.bind (aA oi oc))) := by
  rw [aa_b]
  unfold qf_X11_wantArray
  refine pc_sv (vc_pop A m30) ?_; intro u7 ⟨K, Z⟩
  generalize o.bind aPop = o2 at Z ⊢
  have E : ∀ s0 : Int, ((s0 = 1 ∧ ARy oi oc u7.1) ∨ (s0 = 0 ∧ ¬ ARy oi oc u7.1)) → Pc (qj_X11_wantArray_42 nn u7.1 s0 u7.2) (CVp cnt mx h0 (o2.bind (fun x => pr_I (ARy oi oc x.1) (some x) none))) := fun s0 hs => by
    have N61 : o2.bind (fun x => pr_I (ARy oi oc x.1) (some x) none) = none → Pc (qj_X11_wantArray_61 nn u7.1 u7.2) (CVp cnt mx h0 (o2.bind (fun x => pr_I (ARy oi oc x.1) (some x) none))) := fun y => by
      unfold qj_X11_wantArray_61
      refine pc_xl ?_; intro h1 e1
      refine pc_ret ⟨ske_19 K e1, .inl ⟨y, ?_⟩⟩
      show h1 127 19 = 0
      rw [e1, up_s]
    unfold qj_X11_wantArray_42
    refine pc_if (fun w => N61 ?_) (fun w => ?_)
    · rcases Z with Z | ⟨x, x1, x2, x3, x4, x5⟩
      · rw [Z.1]; rfl
      · omega
    rcases Z with Z | ⟨x, x1, x2, x3, x4, x5⟩
    · exact absurd Z.2 w
    rw [x2] at hs
    refine pc_if (fun y => N61 ?_) (fun y => ?_)
    · rw [x1]
      refine pr_f ?_
      rcases hs with q | q
      · omega
      · exact q.2
    · refine pc_xl ?_; intro h3 e3
      rw [x1]
      refine pc_ret ⟨ske_19 K e3, .inr ⟨x, pr_t ?_, x2, x3, ?_, stc_19 x5 e3⟩⟩
      · rcases hs with q | q
        · exact q.2
        · exact absurd q.1 y
      · show h3 127 19 = 1
        rw [e3, up_s]
  have Y37 : ARy oi oc u7.1 → Pc (qj_X11_wantArray_37 nn u7.1 u7.2) (CVp cnt mx h0 (o2.bind (fun x => pr_I (ARy oi oc x.1) (some x) none))) := fun y => by
    unfold qj_X11_wantArray_37
    exact E 1 (.inl ⟨rfl, y⟩)
  have N41 : ¬ ARy oi oc u7.1 → Pc (qj_X11_wantArray_41 nn u7.1 u7.2) (CVp cnt mx h0 (o2.bind (fun x => pr_I (ARy oi oc x.1) (some x) none))) := fun y => by
    unfold qj_X11_wantArray_41
    exact E 0 (.inr ⟨rfl, y⟩)
  refine pc_if (fun z => Y37 (.inl z)) (fun z => ?_)
  refine pc_if (fun z1 => ?_) (fun z1 => ?_)
  · refine pc_if (fun z2 => N41 (fun w => ?_)) (fun z2 => ?_)
    · rcases w with w | w | w
      · exact z w
      · exact z1 w.1
      · exact hc.1 z2 w.2.1
    unfold qf_X4_isArray
    have oc' : oc := Classical.byContradiction fun y => z2 (hc.2 y)
    refine pc_sv (P := fun u => (u = 1 ∧ (100 ≤ u7.1 ∧ u7.1 ≤ 200)) ∨ (u = 0 ∧ ¬ (100 ≤ u7.1 ∧ u7.1 ≤ 200))) ?_ ?_
    · refine pc_if (fun w => pc_ret (.inr ⟨rfl, by omega⟩)) (fun w => ?_)
      exact pc_if (fun w => pc_ret (.inr ⟨rfl, by omega⟩)) (fun w => pc_ret (.inl ⟨rfl, by omega⟩))
    intro u8 q8
    refine pc_if (fun w => N41 (fun v => ?_)) (fun w => Y37 (.inr (.inr ⟨z1, oc', ?_⟩)))
    · rcases v with v | v | v
      · exact z v
      · exact z1 v.1
      · rcases q8 with q | q
        · omega
        · exact q.2 v.2.2
    · rcases q8 with q | q
      · exact q.2
      · exact absurd q.1 w
  · have z1 : u7.1 = 200 := Classical.byContradiction fun y => z1 y
    refine pc_if (fun z2 => N41 (fun w => ?_)) (fun z2 => Y37 (.inr (.inl ⟨z1, ?_⟩)))
    · rcases w with w | w | w
      · exact z w
      · exact hi.1 z2 w.2
      · exact w.1 z1
    · exact Classical.byContradiction fun y => z2 (hi.2 y)
/-- PUSH -/
theorem vc_push (A : CSo cnt mx h0 o h) (e17 : h 127 17 = mx) (m30 : mx ≤ 30) (V : ∀ s : ST3, o = some s → VTq cnt t) : Pc (qf_X11_push nn t h) (CSo cnt mx h0 (o.bind (aU mx t))) := by
  obtain ⟨K, z | ⟨s, s1, s2, s3, s4, s5, s6⟩⟩ := A
  · rw [z.1]
    unfold qf_X11_push
    refine pc_if (fun _ => ?_) (fun _ => ?_)
    · refine pc_wA ?_; intro _ _ h5 e5
      refine pc_xl ?_; intro v7 e7
      refine pc_xl ?_; intro h8 e8
      refine pc_ret ⟨fun x y z1 z2 => ?_, .inl ⟨rfl, ?_⟩⟩
      · rw [e8, up_n (by omega), e5, up_n (by omega)]; exact K x y z1 z2
      · rw [e8, up_n (by omega), e5, up_n (by omega)]; exact z.2
    · refine pc_xl ?_; intro h9 e9
      exact pc_ret ⟨ske_19 K e9, .inl ⟨rfl, by rw [e9, up_s]⟩⟩
  · have Vt := V s s1
    rw [s1]
    unfold qf_X11_push
    rw [e17, s6]
    refine pc_if (fun w => ?_) (fun w => ?_)
    · refine pc_wA ?_; intro _ _ h5 e5
      rw [Int.toNat_natCast] at e5
      have e18 : h5 127 18 = (s.2.2 : Int) := by rw [e5, up_n (by omega)]; exact s6
      rw [e18]
      refine pc_add (by omega) ?_; intro v7 e7
      refine pc_xl ?_; intro h8 e8
      have F8 : ∀ x y : Nat, ¬ (x = 127 ∧ y = 18) → ¬ (x = 135 ∧ y = s.2.2) → h8 x y = h x y := fun x y z1 z2 => by rw [e8, up_n z1, e5, up_n z2]
      have ea : (some s).bind (aU mx t) = some (s.1, fun j => if j = s.2.2 then t else s.2.1 j, s.2.2 + 1) := by
        show aU mx t s = _
        unfold aU; rw [if_pos w]
      refine pc_ret ⟨fun x y z1 z2 => ?_, .inr ⟨_, ea, ?_, ⟨s3.1, fun j hj => ?_, ?_⟩, fun j hj => ?_, fun j hj => ?_, ?_⟩⟩
      · rw [F8 x y (by omega) (by omega)]; exact K x y z1 z2
      · rw [F8 127 19 (by omega) (by omega)]; exact s2
      · have hj : j < s.2.2 + 1 := hj
        show VTq cnt (if j = s.2.2 then t else s.2.1 j)
        by_cases e : j = s.2.2
        · rw [if_pos e]; exact Vt
        · rw [if_neg e]; exact s3.2.1 j (by omega)
      · show ((s.2.2 + 1 : Nat) : Int) ≤ mx
        omega
      · rw [F8 134 j (by omega) (by omega)]; exact s4 j hj
      · have hj : j < s.2.2 + 1 := hj
        show h8 135 j = (if j = s.2.2 then t else s.2.1 j)
        by_cases e : j = s.2.2
        · rw [if_pos e, e, e8, up_n (by omega), e5, up_s]
        · rw [if_neg e, F8 135 j (by omega) (by omega)]; exact s5 j (by omega)
      · show h8 127 18 = ((s.2.2 + 1 : Nat) : Int)
        rw [e8, up_s]; omega
    · refine pc_xl ?_; intro h9 e9
      have ea : (some s).bind (aU mx t) = none := by
        show aU mx t s = _
        unfold aU; rw [if_neg w]
      exact pc_ret ⟨ske_19 K e9, .inl ⟨ea, by rw [e9, up_s]⟩⟩
end

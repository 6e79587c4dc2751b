def ml_ : List Nat := [196, 197, 199, 200, 201, 202, 203, 204, 205, 206, 207, 208, 209, 210, 211, 212, 213, 214, 215, 216, 217, 218, 219, 220]
def mf_ : List (Nat × Nat) := [(160, 50), (160, 54), (160, 57), (160, 62), (160, 64), (160, 66), (160, 68), (160, 70), (160, 71), (160, 72), (160, 78), (160, 79), (160, 84), (160, 87), (160, 88)]
section
variable {nn : Nat} {s h r z : ms_M}
/-- what making a method leaves -/
def MF (s h : ms_M) : Prop := ∀ c k, nw_F ml_ mf_ false false c k = true → h c k = s c k
theorem mf_fr {L : List Nat} {LF : List (Nat × Nat)} (B : MF s h) (F : ∀ c k, nw_F L LF false false c k = true → r c k = h c k) (hs : (L.all (fun x => ml_.contains x) && (LF.all (fun x => mf_.contains x) && ((!false || false) && (!false || false)))) = true) : MF s r := fun c k w => by rw [F c k (nw_sub hs c k w)]; exact B c k w
theorem mf_f {c k : Nat} {v : Int} (B : MF s h) (hc : mf_.contains (c, k) = true) : MF s (up_M h c k v) := fun c2 k2 w => by
  have n := nw_nf hc c2 k2 w
  rw [up_n n]; exact B c2 k2 w
theorem mf_a {c k : Nat} {v : Int} (B : MF s h) (hc : ml_.contains c = true) : MF s (up_M h c k v) := fun c2 k2 w => by
  have n := nw_ne hc c2 k2 w
  rw [up_n (by omega)]; exact B c2 k2 w
/-- the words of frames are paid for by the code: three bytes a jump -/
def DW (h : ms_M) : Prop := 3 * h 160 87 ≤ h 160 68 ∧ 3 * (h 160 79 + (1 + h 160 72 + h 160 71) * h 160 87) ≤ (1 + h 160 72 + h 160 71) * (h 160 68 + 3 * h 160 84)
/-- the code that is being made -/
def CK (s h : ms_M) : Prop := VS_ h ∧ MF s h ∧ FP (24 + 2 * s 160 24) h ∧ FI (24 + 2 * s 160 24) h ∧ (∀ i : Nat, (i : Int) < h 160 87 → h 218 i ≤ h 160 88) ∧ (∀ f : Nat, (f : Int) < h 160 84 → 0 ≤ h 216 f ∧ h 216 f < 24 + 2 * s 160 24) ∧ DW h
/-- all but this stays as it was -/
theorem dw_put {X j w l a b c : Int} (hX : 0 ≤ X) (h1 : 3 * j ≤ l) (h2 : 3 * (w + X * j) ≤ X * (l + 3 * c)) (hl : l ≤ a) : 3 * (w + X * j) ≤ X * (a + 3 * c) := by
  have : X * (l + 3 * c) ≤ X * (a + 3 * c) := Int.mul_le_mul_of_nonneg_left (by omega) hX
  omega
theorem dw_X {X Y j w l c : Int} (hX : 0 ≤ X) (hXY : X ≤ Y) (hc : 0 ≤ c) (h1 : 3 * j ≤ l) (h2 : 3 * (w + X * j) ≤ X * (l + 3 * c)) : 3 * (w + Y * j) ≤ Y * (l + 3 * c) := by
  have e : (Y - X) * (3 * j) ≤ (Y - X) * (l + 3 * c) := Int.mul_le_mul_of_nonneg_left (by omega) (by omega)
  have a1 : (Y - X) * (3 * j) = 3 * (Y * j) - 3 * (X * j) := by
    rw [Int.sub_mul, Int.mul_left_comm Y 3 j, Int.mul_left_comm X 3 j]
  have a2 : (Y - X) * (l + 3 * c) = Y * (l + 3 * c) - X * (l + 3 * c) := Int.sub_mul _ _ _
  omega
theorem dw_jump {X j w l c : Int} (h2 : 3 * (w + X * j) ≤ X * (l + 3 * c)) : 3 * (w + X * (j + 1)) ≤ X * (l + 3 + 3 * c) := by
  have a1 : X * (j + 1) = X * j + X := by rw [Int.mul_add, Int.mul_one]
  have a2 : X * (l + 3 + 3 * c) = X * (l + 3 * c) + X * 3 := by rw [← Int.mul_add]; congr 1; omega
  omega
theorem dw_stand {X j k w v l c : Int} (hX : 0 ≤ X) (h2 : 3 * (w + X * j) ≤ X * (l + 3 * c)) (hj : k + 1 ≤ j) (hv : v ≤ w + X) : 3 * (v + X * k) ≤ X * (l + 3 * c) := by
  have a1 : X * (k + 1) ≤ X * j := Int.mul_le_mul_of_nonneg_left hj hX
  have a2 : X * (k + 1) = X * k + X := by rw [Int.mul_add, Int.mul_one]
  omega
theorem dw_less {X j k w l c : Int} (hX : 0 ≤ X) (h2 : 3 * (w + X * j) ≤ X * (l + 3 * c)) (hj : k ≤ j) : 3 * (w + X * k) ≤ X * (l + 3 * c) := by
  have a1 : X * k ≤ X * j := Int.mul_le_mul_of_nonneg_left hj hX
  omega
theorem dw_guard {X j w v l c : Int} (h2 : 3 * (w + X * j) ≤ X * (l + 3 * c)) (hv : v ≤ w + X) : 3 * (v + X * j) ≤ X * (l + 3 * (c + 1)) := by
  have a2 : X * (l + 3 * (c + 1)) = X * (l + 3 * c) + X * 3 := by rw [← Int.mul_add]; congr 1; omega
  omega
/-- a byte of code -/
theorem cm_put (hn : 1000000 ≤ nn) {a : Int} (C : CK s h) (ra : -2147483645 ≤ a ∧ a ≤ 3001) (h68 : h 160 68 ≤ 900000000) : Ok_ (qf_X13_put nn a h) (fun r => CK s r ∧ r 160 68 = h 160 68 + 1 ∧ (∀ c k : Nat, c ≠ 206 → ¬ (c = 160 ∧ k = 68) → r c k = h c k)) := by
  obtain ⟨V, B, P, I, J, H, D1, D2⟩ := C
  obtain ⟨u, eu, Vu, q68⟩ := vf_X13_put hn ra.1 ra.2 V h68
  have F : ∀ c k, nw_F wl_X13_put wf_X13_put false false c k = true → u c k = h c k := fun c k w => (ff_X13_put nn) _ eu c k w
  have N : ∀ c k : Nat, c ≠ 206 → ¬ (c = 160 ∧ k = 68) → u c k = h c k := fun c k w1 w2 => by
    refine F c k ?_
    simp only [nw_F, wl_X13_put, wf_X13_put, Bool.and_eq_true, Bool.not_eq_true', Bool.not_false, Bool.true_or, and_true]
    refine ⟨?_, ?_⟩
    · rw [List.contains_eq_mem, decide_eq_false_iff_not]
      intro w
      simp only [List.mem_cons, List.not_mem_nil, or_false] at w
      omega
    · rw [List.contains_eq_mem, decide_eq_false_iff_not]
      intro w
      simp only [List.mem_cons, Prod.mk.injEq, List.not_mem_nil, or_false] at w
      omega
  have e70 := N 160 70 (by decide) (by decide)
  have e71 := N 160 71 (by decide) (by decide)
  have e72 := N 160 72 (by decide) (by decide)
  have e78 := N 160 78 (by decide) (by decide)
  have e79 := N 160 79 (by decide) (by decide)
  have e84 := N 160 84 (by decide) (by decide)
  have e87 := N 160 87 (by decide) (by decide)
  have e88 := N 160 88 (by decide) (by decide)
  have g71 := gF_160_71 V
  have g72 := gF_160_72 V
  refine ⟨u, eu, ⟨Vu, mf_fr B F rfl, fp_eq P (fun k => ⟨N 207 k (by decide) (by omega), N 197 k (by decide) (by omega)⟩) (N 160 50 (by decide) (by decide)) e70 e71 e72 (N 160 52 (by decide) (by decide)), fi_eq I (fun c k a b => N c k (by omega) (by omega)) e71 e72 e78 e79, fun i hi => ?_, fun f hf => ?_, by omega, ?_⟩, q68, N⟩
  · rw [N 218 i (by decide) (by omega), e88]; exact J i (by omega)
  · rw [N 216 f (by decide) (by omega)]; exact H f (by omega)
  · rw [e79, e72, e71, e87, e84]
    exact dw_put (b := 0) (by omega) D1 D2 (by omega)
/-- a value on the pile -/
theorem cm_push {a : Int} (C : CK s h) (ra : 0 ≤ a ∧ a < 24 + 2 * s 160 24) (h70 : 0 ≤ h 160 70 ∧ h 160 70 ≤ 2999) : Ok_ (qf_X13_push nn a h) (fun r => CK s r ∧ r 160 70 = h 160 70 + 1 ∧ (∀ c k : Nat, c ≠ 207 → ¬ (c = 160 ∧ (k = 70 ∨ k = 71)) → r c k = h c k)) := by
  obtain ⟨V, B, P, I, J, H, D1, D2⟩ := C
  have g71 := gF_160_71 V
  have g72 := gF_160_72 V
  have g84 := gF_160_84 V
  have pK := P.2.2.2
  unfold qf_X13_push
  refine ok_wA (by omega) ?_; intro h3 E3
  have V3 : VS_ h3 := by rw [E3]; exact wA_207 V (by omega)
  have q70 : h3 160 70 = h 160 70 := by rw [E3]; exact up_n (by omega)
  refine ok_add (by omega) ?_; intro v5 e5
  refine ok_xl ?_; intro h6 E6
  have V6 : VS_ h6 := by rw [E6]; exact wF_160_70 V3 (by omega)
  have q6 : h6 160 70 = v5 := by rw [E6]; exact up_s
  have q671 : h6 160 71 = h 160 71 := by rw [E6, up_n (by decide), E3, up_n (by omega)]
  refine ok_ite ?_; intro v9 e9
  refine ok_xl ?_; intro h10 E10
  have V10 : VS_ h10 := by rw [E10]; exact wF_160_71 V6 (by omega)
  have N : ∀ c k : Nat, c ≠ 207 → ¬ (c = 160 ∧ (k = 70 ∨ k = 71)) → h10 c k = h c k := fun c k w1 w2 => by rw [E10, up_n (by omega), E6, up_n (by omega), E3, up_n (by omega)]
  have p70 : h10 160 70 = v5 := by rw [E10, up_n (by decide)]; exact q6
  have p71 : h10 160 71 = v9 := by rw [E10]; exact up_s
  have p7 : ∀ k : Nat, k ≠ (h 160 70).toNat → h10 207 k = h 207 k := fun k w => by rw [E10, up_n (by omega), E6, up_n (by omega), E3, up_n (by omega)]
  have p7n : h10 207 (h 160 70).toNat = a := by rw [E10, up_n (by omega), E6, up_n (by omega), E3, up_s]
  have B10 : MF s h10 := by rw [E10]; exact mf_f (by rw [E6]; exact mf_f (by rw [E3]; exact mf_a B rfl) rfl) rfl
  have e72 := N 160 72 (by decide) (by decide)
  have e78 := N 160 78 (by decide) (by decide)
  have e79 := N 160 79 (by decide) (by decide)
  have e84 := N 160 84 (by decide) (by decide)
  have e87 := N 160 87 (by decide) (by decide)
  have e88 := N 160 88 (by decide) (by decide)
  have e68 := N 160 68 (by decide) (by decide)
  have e50 := N 160 50 (by decide) (by decide)
  have e52 := N 160 52 (by decide) (by decide)
  have P3 := P.2.2.1
  refine ok_ret ⟨⟨V10, B10, ⟨fun x hx => ?_, fun x hx => ?_, by omega, by have := P.2.2.2; omega⟩, ⟨fun x hx => ?_, fun f hf => ?_, fun f g hf hg e => ?_⟩, fun i hi => ?_, fun f hf => ?_, by omega, ?_⟩, by omega, N⟩
  · by_cases w : x = (h 160 70).toNat
    · rw [w, p7n]; exact ra
    · rw [p7 x w]; exact P.1 x (by omega)
  · rw [N 197 x (by decide) (by omega)]; exact P.2.1 x (by omega)
  · rw [N 212 x (by decide) (by omega)]; exact I.1 x (by omega)
  · rw [N 209 f (by decide) (by omega), N 210 f (by decide) (by omega), N 211 f (by decide) (by omega)]
    have := I.2.1 f (by omega)
    omega
  · rw [N 208 f (by decide) (by omega), N 208 g (by decide) (by omega)] at e
    exact I.2.2 f g (by omega) (by omega) e
  · rw [N 218 i (by decide) (by omega), e88]; exact J i (by omega)
  · rw [N 216 f (by decide) (by omega)]; exact H f (by omega)
  · rw [e79, e72, p71, e87, e84, e68]
    exact dw_X (by omega) (by omega) (by omega) D1 D2
/-- values off the pile -/
theorem cm_pop {v : Int} (C : CK s h) (E : z = up_M h 160 70 v) (hv : 0 ≤ v ∧ v ≤ h 160 70) : CK s z ∧ z 160 70 = v ∧ (∀ c k : Nat, ¬ (c = 160 ∧ k = 70) → z c k = h c k) := by
  obtain ⟨V, B, P, I, J, H, D⟩ := C
  have g := gF_160_70 V
  have N : ∀ c k : Nat, ¬ (c = 160 ∧ k = 70) → z c k = h c k := fun c k w => by rw [E]; exact up_n w
  have q : z 160 70 = v := by rw [E]; exact up_s
  have e71 := N 160 71 (by decide)
  have e72 := N 160 72 (by decide)
  have e78 := N 160 78 (by decide)
  have e79 := N 160 79 (by decide)
  have e84 := N 160 84 (by decide)
  have e87 := N 160 87 (by decide)
  have e88 := N 160 88 (by decide)
  have e68 := N 160 68 (by decide)
  have e50 := N 160 50 (by decide)
  have e52 := N 160 52 (by decide)
  have P3 := P.2.2.1
  refine ⟨⟨by rw [E]; exact wF_160_70 V (by omega), by rw [E]; exact mf_f B rfl, ⟨fun x hx => ?_, fun x hx => ?_, by omega, by have := P.2.2.2; omega⟩, fi_eq I (fun c k a b => N c k (by omega)) e71 e72 e78 e79, fun i hi => ?_, fun f hf => ?_, ?_⟩, q, N⟩
  · rw [N 207 x (by omega)]; exact P.1 x (by omega)
  · rw [N 197 x (by omega)]; exact P.2.1 x (by omega)
  · rw [N 218 i (by omega), e88]; exact J i (by omega)
  · rw [N 216 f (by omega)]; exact H f (by omega)
  · unfold DW
    rw [e87, e68, e79, e72, e71, e84]; exact D
/-- a new label -/
theorem cm_label (C : CK s h) (h88 : h 160 88 ≤ 2000000000) : Ok_ (qf_X13_label nn h) (fun u => CK s u.2 ∧ u.1 = h 160 88 + 1 ∧ u.2 160 88 = h 160 88 + 1 ∧ (∀ c k : Nat, ¬ (c = 160 ∧ k = 88) → u.2 c k = h c k)) := by
  obtain ⟨V, B, P, I, J, H, D⟩ := C
  have g := gF_160_88 V
  unfold qf_X13_label
  refine ok_add (by omega) ?_; intro v2 e2
  refine ok_xl ?_; intro h3 E
  have N : ∀ c k : Nat, ¬ (c = 160 ∧ k = 88) → h3 c k = h c k := fun c k w => by rw [E]; exact up_n w
  have q : h3 160 88 = v2 := by rw [E]; exact up_s
  have e71 := N 160 71 (by decide)
  have e72 := N 160 72 (by decide)
  have e78 := N 160 78 (by decide)
  have e79 := N 160 79 (by decide)
  have e84 := N 160 84 (by decide)
  have e87 := N 160 87 (by decide)
  have e68 := N 160 68 (by decide)
  refine ok_ret ⟨⟨by rw [E]; exact wF_160_88 V (by omega), by rw [E]; exact mf_f B rfl, fp_eq P (fun k => ⟨N 207 k (by omega), N 197 k (by omega)⟩) (N 160 50 (by decide)) (N 160 70 (by decide)) e71 e72 (N 160 52 (by decide)), fi_eq I (fun c k a b => N c k (by omega)) e71 e72 e78 e79, fun i hi => ?_, fun f hf => ?_, ?_⟩, by show h3 160 88 = _; omega, by show h3 160 88 = _; omega, N⟩
  · have hi : (i : Int) < h3 160 87 := hi
    show h3 218 i ≤ h3 160 88
    have := J i (by omega)
    rw [N 218 i (by omega)]; omega
  · have hf : (f : Int) < h3 160 84 := hf
    show 0 ≤ h3 216 f ∧ h3 216 f < 24 + 2 * s 160 24
    rw [N 216 f (by omega)]; exact H f (by omega)
  · show DW h3
    unfold DW
    rw [e87, e68, e79, e72, e71, e84]; exact D
theorem pc_jump {a1 a2 : Int} : Pc (qf_X13_jump nn a1 a2 h) (fun r => (r 218 (h 160 87).toNat = a2 ∧ r 217 (h 160 87).toNat = h 160 68) ∧ ∀ i : Nat, i ≠ (h 160 87).toNat → r 217 i = h 217 i ∧ r 218 i = h 218 i) := by
  unfold qf_X13_jump
  refine pc_wA ?_; intro _ _ h4 E4
  refine pc_wA ?_; intro _ _ h7 E7
  refine pc_xl ?_; intro v9 _
  refine pc_xl ?_; intro h10 E10
  refine pc_se ?_; intro u12 e12
  refine pc_se ?_; intro u14 e14
  refine pc_se ?_; intro u16 e16
  have q87 : h4 160 87 = h 160 87 := by rw [E4]; exact up_n (by omega)
  rw [q87] at E7
  have f7 : ∀ i : Nat, u16 217 i = h10 217 i := fun i => ((show u16 217 i = u14 217 i from (ff_X13_put nn) _ e16 217 i (nw_ar rfl i)).trans (show u14 217 i = u12 217 i from (ff_X13_put nn) _ e14 217 i (nw_ar rfl i))).trans (show u12 217 i = h10 217 i from (ff_X13_put nn) _ e12 217 i (nw_ar rfl i))
  have f8 : ∀ i : Nat, u16 218 i = h10 218 i := fun i => ((show u16 218 i = u14 218 i from (ff_X13_put nn) _ e16 218 i (nw_ar rfl i)).trans (show u14 218 i = u12 218 i from (ff_X13_put nn) _ e14 218 i (nw_ar rfl i))).trans (show u12 218 i = h10 218 i from (ff_X13_put nn) _ e12 218 i (nw_ar rfl i))
  refine pc_ret ⟨⟨?_, ?_⟩, fun i w => ⟨?_, ?_⟩⟩
  · rw [f8, E10, up_n (by omega), E7, up_s]
  · rw [f7, E10, up_n (by omega), E7, up_n (by omega), E4, up_s]
  · rw [f7, E10, up_n (by omega), E7, up_n (by omega), E4, up_n (by omega)]
  · rw [f8, E10, up_n (by omega), E7, up_n (by omega), E4, up_n (by omega)]
/-- a jump -/
theorem cm_jump (hn : 1000000 ≤ nn) {a1 a2 : Int} (C : CK s h) (r1 : 153 ≤ a1 ∧ a1 ≤ 167) (r2 : 0 ≤ a2 ∧ a2 ≤ h 160 88) (h68 : h 160 68 ≤ 800000000) (h87 : h 160 87 ≤ 2999) : Ok_ (qf_X13_jump nn a1 a2 h) (fun r => CK s r ∧ r 160 68 = h 160 68 + 3 ∧ r 160 87 = h 160 87 + 1 ∧ r 218 (h 160 87).toNat = a2 ∧ (∀ i : Nat, (i : Int) < h 160 87 → r 217 i = h 217 i ∧ r 218 i = h 218 i) ∧ (∀ c k, nw_F wl_X13_jump wf_X13_jump false false c k = true → r c k = h c k)) := by
  obtain ⟨V, B, P, I, J, H, D1, D2⟩ := C
  have g87 := gF_160_87 V
  have g88 := gF_160_88 V
  obtain ⟨u, eu, Vu, q68, q87⟩ := vf_X13_jump hn r1.1 r1.2 r2.1 (by omega) V h68 h87
  have F : ∀ c k, nw_F wl_X13_jump wf_X13_jump false false c k = true → u c k = h c k := fun c k w => (ff_X13_jump nn) _ eu c k w
  obtain ⟨⟨p1, p2⟩, p3⟩ := pc_jump u eu
  have e71 := F 160 71 rfl
  have e72 := F 160 72 rfl
  have e78 := F 160 78 rfl
  have e79 := F 160 79 rfl
  have e84 := F 160 84 rfl
  have e88 := F 160 88 rfl
  have A : ∀ c k : Nat, 208 ≤ c → c ≤ 212 → u c k = h c k := fun c k a b => by
    have q : c = 208 ∨ c = 209 ∨ c = 210 ∨ c = 211 ∨ c = 212 := by omega
    rcases q with q | q | q | q | q
    · subst q; exact F _ _ (nw_ar rfl _)
    · subst q; exact F _ _ (nw_ar rfl _)
    · subst q; exact F _ _ (nw_ar rfl _)
    · subst q; exact F _ _ (nw_ar rfl _)
    · subst q; exact F _ _ (nw_ar rfl _)
  refine ⟨u, eu, ⟨Vu, mf_fr B F rfl, fp_eq P (fun k => ⟨F 207 k (nw_ar rfl k), F 197 k (nw_ar rfl k)⟩) (F 160 50 rfl) (F 160 70 rfl) e71 e72 (F 160 52 rfl), fi_eq I A e71 e72 e78 e79, fun i hi => ?_, fun f hf => ?_, by omega, ?_⟩, q68, q87, p1, fun i hi => p3 i (by omega), F⟩
  · rw [e88]
    by_cases w : i = (h 160 87).toNat
    · rw [w, p1]; exact r2.2
    · rw [(p3 i w).2]; exact J i (by omega)
  · rw [F 216 f (nw_ar rfl f)]; exact H f (by omega)
  · rw [e79, e72, e71, q87, e84, q68]
    exact dw_jump D2
/-- a label stands here -/
theorem cm_stands (hn : 1000000 ≤ nn) {l a n : Int} (C : CK s h) (ra : 0 ≤ a ∧ a ≤ 1000000000) (hN : ∀ i : Nat, (i : Int) < n → ¬ h 218 i = l) (hn2 : 0 ≤ n ∧ n ≤ h 160 87) (h78 : h 160 78 ≤ 6199) : Ok_ (qf_X13_stands nn l a h) (fun r => CK s r ∧ (n ≤ r 160 87 ∧ r 160 87 ≤ h 160 87) ∧ (h 160 78 ≤ r 160 78 ∧ r 160 78 ≤ h 160 78 + 1) ∧ (∀ i : Nat, (i : Int) < n → r 217 i = h 217 i ∧ r 218 i = h 218 i) ∧ (∀ i : Nat, n ≤ (i : Int) → (i : Int) < r 160 87 → ¬ r 218 i = l ∧ ∃ j : Nat, (n ≤ (j : Int) ∧ (j : Int) < h 160 87) ∧ r 218 i = h 218 j ∧ r 217 i = h 217 j) ∧ (∀ c k, nw_F wl_X13_stands wf_X13_stands false false c k = true → r c k = h c k)) := by
  obtain ⟨V, B, P, I, J, H, D1, D2⟩ := C
  have g87 := gF_160_87 V
  have g71 := gF_160_71 V
  have g72 := gF_160_72 V
  obtain ⟨u, eu, Vu, Iu, q1, q2, q3, q4⟩ := vm_stands hn V ra hN hn2 h78 P I
  have F : ∀ c k, nw_F wl_X13_stands wf_X13_stands false false c k = true → u c k = h c k := fun c k w => (ff_X13_stands nn) _ eu c k w
  have e71 := F 160 71 rfl
  have e72 := F 160 72 rfl
  have e84 := F 160 84 rfl
  have e88 := F 160 88 rfl
  have e68 := F 160 68 rfl
  have P3 := P.2.2.1
  refine ⟨u, eu, ⟨Vu, mf_fr B F rfl, fp_eq P (fun k => ⟨F 207 k (nw_ar rfl k), F 197 k (nw_ar rfl k)⟩) (F 160 50 rfl) (F 160 70 rfl) e71 e72 (F 160 52 rfl), Iu, fun i hi => ?_, fun f hf => ?_, by omega, ?_⟩, q1, by omega, q2, q3, F⟩
  · rw [e88]
    by_cases w : (i : Int) < n
    · rw [(q2 i w).2]; exact J i (by omega)
    · obtain ⟨_, j, j1, j2, _⟩ := q3 i (by omega) hi
      rw [j2]; exact J j j1.2
  · rw [F 216 f (nw_ar rfl f)]; exact H f (by omega)
  · rw [e72, e71, e84, e68]
    rcases q4 with q4 | q4
    · rw [q4.2]; exact dw_less (by omega) D2 q1.2
    · exact dw_stand (by omega) D2 q4.1 (by omega)
end

section
variable {nn : Nat} {s h h0 r z : ms_M} {w a f l n p q j m : Int}
/-- a jump to the label is open -/
def HJ (h : ms_M) (l : Int) : Prop := ∃ i : Nat, (i : Int) < h 160 87 ∧ h 218 i = l
def Mo (h r : ms_M) : Prop := (∀ l, HJ h l → HJ r l) ∧ h 160 88 ≤ r 160 88
theorem mo_eq (e87 : h 160 87 ≤ r 160 87) (e88 : h 160 88 ≤ r 160 88) (A : ∀ i : Nat, (i : Int) < h 160 87 → r 218 i = h 218 i) : Mo h r := ⟨fun l x => by
  obtain ⟨i, hi, x⟩ := x
  exact ⟨i, by omega, by rw [A i hi]; exact x⟩, e88⟩
theorem mo_tr (x : Mo h r) (y : Mo r z) : Mo h z := ⟨fun l g => y.1 l (x.1 l g), Int.le_trans x.2 y.2⟩
theorem pc_st8 {l1 l2 l' : Int} (hl : ¬ l' = l1) : ∀ (k : Nat) (l3 l4 l5 : Int) (h : ms_M), (0 ≤ l4 ∧ l4 ≤ l5 ∧ l5 ≤ h 160 87) → Pc (qw_X13_stands_8 nn k l1 l2 l3 l4 l5 h) (fun r => r 160 87 ≤ l4 + (h 160 87 - l5) ∧ ((∃ i : Nat, l5 ≤ (i : Int) ∧ (i : Int) < h 160 87 ∧ h 218 i = l1) → r 160 87 + 1 ≤ l4 + (h 160 87 - l5)) ∧ ((∃ i : Nat, ((i : Int) < l4 ∨ l5 ≤ (i : Int)) ∧ (i : Int) < h 160 87 ∧ h 218 i = l') → HJ r l')) := by
  intro k
  induction k with
  | zero => intro l3 l4 l5 h _; exact pc_none
  | succ k ih =>
    intro l3 l4 l5 h o
    unfold qw_X13_stands_8
    refine pc_if (fun C => ?_) (fun C => ?_)
    · refine pc_xl ?_; intro h2 E2
      have q87 : h2 160 87 = l4 := by rw [E2]; exact up_s
      have q218 : ∀ i : Nat, h2 218 i = h 218 i := fun i => by rw [E2]; exact up_n (by omega)
      have K : ∀ r : ms_M, r 160 87 = h2 160 87 → (∀ i : Nat, r 218 i = h2 218 i) → (r 160 87 ≤ l4 + (h 160 87 - l5) ∧ ((∃ i : Nat, l5 ≤ (i : Int) ∧ (i : Int) < h 160 87 ∧ h 218 i = l1) → r 160 87 + 1 ≤ l4 + (h 160 87 - l5)) ∧ ((∃ i : Nat, ((i : Int) < l4 ∨ l5 ≤ (i : Int)) ∧ (i : Int) < h 160 87 ∧ h 218 i = l') → HJ r l')) := fun r e1 e2 => by
        refine ⟨by omega, fun x => ?_, fun x => ?_⟩
        · obtain ⟨i, i1, i2, _⟩ := x
          exfalso; omega
        · obtain ⟨i, i1, i2, i3⟩ := x
          exact ⟨i, by omega, by rw [e2, q218]; exact i3⟩
      refine pc_if (fun C2 => ?_) (fun C2 => ?_)
      · unfold qj_X13_stands_154
        exact pc_ret (K h2 rfl (fun _ => rfl))
      · refine pc_se ?_; intro u eu
        unfold qj_X13_stands_154
        exact pc_ret (K u ((ff_X13_frame nn) _ eu 160 87 rfl) (fun i => (ff_X13_frame nn) _ eu 218 i (nw_ar rfl i)))
    · refine pc_rA ?_; intro p1 p2 v7 e7
      refine pc_if (fun C2 => ?_) (fun C2 => ?_)
      · refine pc_rA ?_; intro _ _ v10 e10
        refine pc_wA ?_; intro _ _ h11 E11
        refine pc_rA ?_; intro _ _ v14 e14
        refine pc_wA ?_; intro _ _ h15 E15
        have e14b : v14 = h 218 l5.toNat := by rw [e14, E11, up_n (by omega)]
        have q87 : h15 160 87 = h 160 87 := by rw [E15, up_n (by omega), E11, up_n (by omega)]
        have q8 : ∀ i : Nat, i ≠ l4.toNat → h15 218 i = h 218 i := fun i hi => by rw [E15, up_n (by omega), E11, up_n (by omega)]
        have q9 : h15 218 l4.toNat = h 218 l5.toNat := by rw [E15, up_s, e14b]
        refine pc_add (by omega) ?_; intro v16 e16
        refine pc_add (by omega) ?_; intro v17 e17
        refine pc_imp (ih l3 v16 v17 h15 (by omega)) (fun r R => ?_)
        obtain ⟨R1, R2, R3⟩ := R
        refine ⟨by omega, fun x => ?_, fun x => R3 ?_⟩
        · obtain ⟨i, i1, i2, i3⟩ := x
          have ne : ¬ (i : Int) = l5 := fun y => C2 (by rw [e7, show l5.toNat = i by omega]; exact i3)
          have := R2 ⟨i, by omega, by omega, by rw [q8 i (by omega)]; exact i3⟩
          omega
        · obtain ⟨i, i1, i2, i3⟩ := x
          by_cases y : (i : Int) = l5
          · exact ⟨l4.toNat, .inl (by omega), by omega, by rw [q9, show l5.toNat = i by omega]; exact i3⟩
          · exact ⟨i, by omega, by omega, by rw [q8 i (by omega)]; exact i3⟩
      · have C2 : v7 = l1 := Decidable.not_not.1 C2
        have K : ∀ (g : ms_M) (v : Int), g 160 87 = h 160 87 → (∀ i : Nat, g 218 i = h 218 i) → v = l5 + 1 → Pc (qw_X13_stands_8 nn k l1 l2 1 l4 v g) (fun r => r 160 87 ≤ l4 + (h 160 87 - l5) ∧ ((∃ i : Nat, l5 ≤ (i : Int) ∧ (i : Int) < h 160 87 ∧ h 218 i = l1) → r 160 87 + 1 ≤ l4 + (h 160 87 - l5)) ∧ ((∃ i : Nat, ((i : Int) < l4 ∨ l5 ≤ (i : Int)) ∧ (i : Int) < h 160 87 ∧ h 218 i = l') → HJ r l')) := fun g v g1 g2 ev => by
          refine pc_imp (ih 1 l4 v g (by omega)) (fun r R => ?_)
          obtain ⟨R1, R2, R3⟩ := R
          refine ⟨by omega, fun x => by omega, fun x => R3 ?_⟩
          obtain ⟨i, i1, i2, i3⟩ := x
          have ne : ¬ (i : Int) = l5 := fun y => hl (by rw [← i3, ← C2, e7, show l5.toNat = i by omega])
          exact ⟨i, by omega, by omega, by rw [g2]; exact i3⟩
        refine pc_rA ?_; intro _ _ v19 e19
        refine pc_xl ?_; intro v20 _
        refine pc_rA ?_; intro _ _ v22 e22
        refine pc_xl ?_; intro v23 _
        refine pc_if (fun C3 => ?_) (fun C3 => ?_)
        · refine pc_add (by omega) ?_; intro v24 e24
          exact K h v24 rfl (fun _ => rfl) e24
        · refine pc_rA ?_; intro _ _ v27 e27
          refine pc_xl ?_; intro v28 _
          refine pc_xl ?_; intro v29 _
          refine pc_xl ?_; intro v30 _
          refine pc_wA ?_; intro _ _ h31 E31
          refine pc_rA ?_; intro _ _ v34 e34
          refine pc_xl ?_; intro v35 _
          refine pc_xl ?_; intro v36 _
          refine pc_wA ?_; intro _ _ h37 E37
          refine pc_add (by omega) ?_; intro v38 e38
          exact K h37 v38 (by rw [E37, up_n (by omega), E31, up_n (by omega)]) (fun i => by rw [E37, up_n (by omega), E31, up_n (by omega)]) e38
/-- the loops' labels are old ones -/
def LB (h : ms_M) : Prop := ∀ i : Nat, i < 3000 → h 219 i ≤ h 160 88 ∧ h 220 i ≤ h 160 88
theorem lb_eq (L : LB h) (e : h 160 88 ≤ r 160 88) (A : ∀ i : Nat, r 219 i = h 219 i ∧ r 220 i = h 220 i) : LB r := fun i hi => by
  have := L i hi
  rw [(A i).1, (A i).2]; omega
/-- where making stands: behind h0, w half words, a bytes, f frames, l labels, n in sight, p on the pile, m loops, q quarter handlers, j half jumps more -/
def ST (s h0 : ms_M) (w a f l n p m q j : Int) (r : ms_M) : Prop := (CW s w r ∧ LB r) ∧ (r 160 50 = n ∧ r 160 70 = p ∧ r 160 54 = m ∧ r 160 57 = h0 160 57) ∧ (h0 160 68 ≤ r 160 68 ∧ r 160 68 ≤ h0 160 68 + a) ∧ (h0 160 78 ≤ r 160 78 ∧ r 160 78 ≤ h0 160 78 + f) ∧ (h0 160 88 ≤ r 160 88 ∧ r 160 88 ≤ h0 160 88 + l) ∧ (h0 160 84 ≤ r 160 84 ∧ 4 * r 160 84 ≤ 4 * h0 160 84 + q) ∧ (h0 160 87 ≤ r 160 87 ∧ 2 * r 160 87 ≤ 2 * h0 160 87 + j) ∧ (∀ i : Nat, (i : Int) < h0 160 87 → r 217 i = h0 217 i ∧ r 218 i = h0 218 i)
theorem st_0 (C : CW s w h) (L : LB h) : ST s h w 0 0 0 (h 160 50) (h 160 70) (h 160 54) 0 0 h := ⟨⟨C, L⟩, ⟨rfl, rfl, rfl, rfl⟩, by omega, by omega, by omega, by omega, by omega, fun _ _ => ⟨rfl, rfl⟩⟩
theorem st_le {w2 a2 f2 l2 q2 j2 : Int} (T : ST s h0 w a f l n p m q j h) (hw : w ≤ w2) (ha : a ≤ a2) (hf : f ≤ f2) (hl : l ≤ l2) (hq : q ≤ q2) (hj : j ≤ j2) : ST s h0 w2 a2 f2 l2 n p m q2 j2 h := by
  obtain ⟨⟨t1, t2⟩, t3, t4, t5, t6, t7, t8, t9⟩ := T
  exact ⟨⟨cw_le t1 hw, t2⟩, t3, by omega, by omega, by omega, by omega, by omega, t9⟩
/-- a step that leaves most as it was -/
theorem st_of {w2 a2 p2 n2 : Int} (T : ST s h0 w a f l n p m q j h) (C : CW s w2 r) (e88 : r 160 88 = h 160 88) (A : ∀ c k : Nat, (c = 217 ∨ c = 218 ∨ c = 219 ∨ c = 220 ∨ (c = 160 ∧ (k = 54 ∨ k = 57 ∨ k = 78 ∨ k = 84 ∨ k = 87))) → r c k = h c k) (e50 : r 160 50 = n2) (e70 : r 160 70 = p2) (e68 : h 160 68 ≤ r 160 68 ∧ r 160 68 ≤ h 160 68 + (a2 - a)) : ST s h0 w2 a2 f l n2 p2 m q j r ∧ Mo h r := by
  obtain ⟨⟨t1, t2⟩, ⟨t3, t3b, t3c, t3d⟩, t4, t5, t6, t7, t8, t9⟩ := T
  have e54 := A 160 54 (by decide)
  have e57 := A 160 57 (by decide)
  have e78 := A 160 78 (by decide)
  have e84 := A 160 84 (by decide)
  have e87 := A 160 87 (by decide)
  refine ⟨⟨⟨C, lb_eq t2 (by omega) (fun i => ⟨A 219 i (by omega), A 220 i (by omega)⟩)⟩, ⟨e50, e70, by omega, by omega⟩, by omega, by omega, by omega, by omega, by omega, fun i hi => ?_⟩, mo_eq (by omega) (by omega) (fun i _ => A 218 i (by omega))⟩
  rw [A 217 i (by omega), A 218 i (by omega)]; exact t9 i hi
theorem st_put (hn : 1000000 ≤ nn) {x : Int} (T : ST s h0 w a f l n p m q j h) (ra : -2147483645 ≤ x ∧ x ≤ 3001) (h68 : h0 160 68 + a ≤ 900000) : Ok_ (qf_X13_put nn x h) (fun r => ST s h0 w (a + 1) f l n p m q j r ∧ Mo h r) := by
  have t := T
  obtain ⟨⟨t1, t2⟩, ⟨t3, t3b, t3c, t3d⟩, t4, t5, t6, t7, t8, t9⟩ := t
  refine ok_im (cw_put hn t1 ra (by omega)) (fun r P => ?_)
  obtain ⟨C, k, N⟩ := P
  exact st_of T C (N 160 88 (by decide) (by decide)) (fun c k x => N c k (by omega) (by omega)) (by rw [N 160 50 (by decide) (by decide)]; exact t3) (by rw [N 160 70 (by decide) (by decide)]; exact t3b) (by omega)
theorem st_pop {v : Int} (T : ST s h0 w a f l n p m q j h) (E : z = up_M h 160 70 v) (hv : 0 ≤ v ∧ v ≤ p) : ST s h0 w a f l n v m q j z ∧ Mo h z := by
  have t := T
  obtain ⟨⟨t1, t2⟩, ⟨t3, t3b, t3c, t3d⟩, t4, t5, t6, t7, t8, t9⟩ := t
  obtain ⟨C, k, N⟩ := cw_pop t1 E (by omega)
  exact st_of T C (N 160 88 (by decide)) (fun c k x => N c k (by omega)) (by rw [N 160 50 (by decide)]; exact t3) k (by rw [N 160 68 (by decide)]; omega)
theorem st_label (T : ST s h0 w a f l n p m q j h) (h88 : h0 160 88 + l ≤ 1900000000) : Ok_ (qf_X13_label nn h) (fun u => ST s h0 w a f (l + 1) n p m q j u.2 ∧ Mo h u.2 ∧ (h0 160 88 < u.1 ∧ h 160 88 < u.1 ∧ u.1 = u.2 160 88) ∧ u.2 160 68 = h 160 68) := by
  obtain ⟨⟨t1, t2⟩, ⟨t3, t3b, t3c, t3d⟩, t4, t5, t6, t7, t8, t9⟩ := T
  refine ok_im (cw_label t1 (by omega)) (fun u P => ?_)
  obtain ⟨C, e, k, N⟩ := P
  have e54 := N 160 54 (by decide)
  have e57 := N 160 57 (by decide)
  have e78 := N 160 78 (by decide)
  have e84 := N 160 84 (by decide)
  have e87 := N 160 87 (by decide)
  have e68 := N 160 68 (by decide)
  have e50 := N 160 50 (by decide)
  have e70 := N 160 70 (by decide)
  refine ⟨⟨⟨C, lb_eq t2 (by omega) (fun i => ⟨N 219 i (by omega), N 220 i (by omega)⟩)⟩, ⟨by omega, by omega, by omega, by omega⟩, by omega, by omega, by omega, by omega, by omega, fun i hi => ?_⟩, mo_eq (by omega) (by omega) (fun i _ => N 218 i (by omega)), ⟨by omega, by omega, by omega⟩, e68⟩
  rw [N 217 i (by omega), N 218 i (by omega)]; exact t9 i hi
theorem st_jump (hn : 1000000 ≤ nn) {x y : Int} (T : ST s h0 w a f l n p m q j h) (r1 : 153 ≤ x ∧ x ≤ 167) (r2 : 0 ≤ y ∧ y ≤ h 160 88) (h68 : h0 160 68 + a ≤ 900000) (h87 : 2 * h0 160 87 + j ≤ 5998) : Ok_ (qf_X13_jump nn x y h) (fun r => ST s h0 w (a + 3) f l n p m q (j + 2) r ∧ Mo h r ∧ HJ r y) := by
  obtain ⟨⟨t1, t2⟩, ⟨t3, t3b, t3c, t3d⟩, t4, t5, t6, t7, t8, t9⟩ := T
  have g87 := gF_160_87 t1.1.1
  refine ok_im (cw_jump hn t1 r1 r2 (by omega) (by omega)) (fun r P => ?_)
  obtain ⟨C, k68, k87, k, A, N⟩ := P
  have e54 := N 160 54 rfl
  have e57 := N 160 57 rfl
  have e78 := N 160 78 rfl
  have e84 := N 160 84 rfl
  have e88 := N 160 88 rfl
  have e50 := N 160 50 rfl
  have e70 := N 160 70 rfl
  refine ⟨⟨⟨C, lb_eq t2 (by omega) (fun i => ⟨N 219 i (nw_ar rfl i), N 220 i (nw_ar rfl i)⟩)⟩, ⟨by omega, by omega, by omega, by omega⟩, by omega, by omega, by omega, by omega, by omega, fun i hi => ?_⟩, mo_eq (by omega) (by omega) (fun i hi => (A i hi).2), ⟨(h 160 87).toNat, by omega, k⟩⟩
  rw [(A i (by omega)).1, (A i (by omega)).2]; exact t9 i hi
theorem st_stands (hn : 1000000 ≤ nn) {x y v : Int} (T : ST s h0 w a f l n p m q j h) (r1 : 0 ≤ y ∧ y ≤ 900000) (hx : h0 160 88 < x) (gg : 0 ≤ h0 160 87) (J0 : ∀ i : Nat, (i : Int) < h0 160 87 → h0 218 i ≤ h0 160 88) (h78 : h0 160 78 + f ≤ 6199) (hv : v = 0 ∨ (v = 2 ∧ HJ h x)) : Ok_ (qf_X13_stands nn x y h) (fun r => ST s h0 w a (f + 1) l n p m q (j - v) r ∧ (∀ l', ¬ l' = x → HJ h l' → HJ r l') ∧ r 160 88 = h 160 88) := by
  obtain ⟨⟨t1, t2⟩, ⟨t3, t3b, t3c, t3d⟩, t4, t5, t6, t7, t8, t9⟩ := T
  have g87 := gF_160_87 t1.1.1
  have hN : ∀ i : Nat, (i : Int) < h0 160 87 → ¬ h 218 i = x := fun i hi => by
    rw [(t9 i hi).2]
    have := J0 i hi
    omega
  have A0 := fun l' (hl : ¬ l' = x) => pc_st8 (nn := nn) (l1 := x) (l2 := y) hl nn 0 0 0 h (by omega)
  obtain ⟨r, er, C, k87, k78, A, B, N⟩ := cw_stands (l := x) (a := y) hn t1 (by omega) hN ⟨gg, t8.1⟩ (by omega)
  have e54 := N 160 54 rfl
  have e57 := N 160 57 rfl
  have e84 := N 160 84 rfl
  have e88 := N 160 88 rfl
  have e68 := N 160 68 rfl
  have e50 := N 160 50 rfl
  have e70 := N 160 70 rfl
  have k87b : 2 * r 160 87 ≤ 2 * h 160 87 - v := by
    rcases hv with hv | ⟨hv, i, i1, i2⟩
    · omega
    · have := (A0 (x + 1) (by omega) r er).2.1 ⟨i, by omega, i1, i2⟩
      omega
  refine ⟨r, er, ⟨⟨C, lb_eq t2 (by omega) (fun i => ⟨N 219 i (nw_ar rfl i), N 220 i (nw_ar rfl i)⟩)⟩, ⟨by omega, by omega, by omega, by omega⟩, by omega, by omega, by omega, by omega, by omega, fun i hi => ?_⟩, fun l' hl g => ?_, e88⟩
  · rw [(A i hi).1, (A i hi).2]; exact t9 i hi
  · obtain ⟨i, i1, i2⟩ := g
    exact (A0 l' hl r er).2.2 ⟨i, .inr (by omega), i1, i2⟩
end

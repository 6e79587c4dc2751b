section
variable {α β : Type} {Q : α → Prop} {M : ms_M}
/-- whatever x gives has Q -/
def Pc {α : Type} (x : Option α) (Q : α → Prop) : Prop := ∀ r, x = some r → Q r
theorem pc_ret {a : α} (h : Q a) : Pc (some a) Q := fun r e => by cases e; exact h
theorem pc_none : Pc (none : Option α) Q := fun r e => nomatch e
theorem pc_xl {v : β} {F : β → Option α} (h : ∀ z, z = v → Pc (F z) Q) : Pc (xl v F) Q := h v rfl
theorem pc_add {x y : Int} {F : Int → Option α} (r : (-2147483648 ≤ x ∧ x ≤ 2147483647) ∧ (-2147483648 ≤ y ∧ y ≤ 2147483647) ∧ (-2147483648 ≤ x + y ∧ x + y ≤ 2147483647)) (h : ∀ v, v = x + y → Pc (F v) Q) : Pc (xl (oq_add x y) F) Q := h _ (oq_add_eq r.1 r.2.1 r.2.2)
theorem pc_sv {x : Option β} {P : β → Prop} {F : β → Option α} (hx : Pc x P) (h : ∀ a, P a → Pc (F a) Q) : Pc (mx_sv x F) Q := fun r e => by
  obtain ⟨a, ea, ef⟩ := sv_i e
  exact h a (hx a ea) r ef
theorem pc_se {x : Option β} {F : β → Option α} (h : ∀ a, x = some a → Pc (F a) Q) : Pc (mx_sv x F) Q := fun r e => by
  obtain ⟨a, ea, ef⟩ := sv_i e
  exact h a ea r ef
theorem pc_if {c : Prop} {d : Decidable c} {x y : Option α} (h1 : c → Pc x Q) (h2 : ¬ c → Pc y Q) : Pc (if c then x else y) Q := by
  by_cases z : c
  · rw [if_pos z]; exact h1 z
  · rw [if_neg z]; exact h2 z
theorem pc_rA {n : Int} {c : Nat} {j : Int} {G : Int → Option α} (h : 0 ≤ j → j < n → ∀ v, v = M c j.toNat → Pc (G v) Q) : Pc (rd_A n c j M G) Q := by
  unfold rd_A
  exact pc_if (fun z => h z.1 z.2 _ rfl) (fun _ => pc_none)
theorem pc_wA {n : Int} {c : Nat} {j v : Int} {G : ms_M → Option α} (h : 0 ≤ j → j < n → ∀ z, z = up_M M c j.toNat v → Pc (G z) Q) : Pc (wr_A n c j v M G) Q := by
  unfold wr_A
  exact pc_if (fun z => h z.1 z.2 _ rfl) (fun _ => pc_none)
theorem pc_wZ {n : Int} {c : Nat} {j v : Int} {G : ms_M → Option α} (h : 0 ≤ j → j < n → ∀ z, z = up_M M c j.toNat v → Pc (G z) Q) : Pc (wr_Z n c j v M G) Q := by
  unfold wr_Z
  exact pc_if (fun z => h z.2.1 z.2.2 _ rfl) (fun _ => pc_none)
theorem pc_imp {x : Option α} {P : α → Prop} (hx : Pc x P) (h : ∀ a, P a → Q a) : Pc x Q := fun r e => h r (hx r e)
theorem pc_ok {x : Option α} {P : α → Prop} (hx : Ok_ x P) : Pc x P := fun r e => by
  obtain ⟨a, ea, p⟩ := hx
  rw [ea] at e; cases e; exact p
end
section
variable {nn : Nat} {m : Int} {h g r z : ms_M} {n n2 : Int}
/-- a step that leaves the tree -/
def Sm (h r : ms_M) : Prop := r 160 22 = h 160 22 ∧ (r 160 9 = 0 → h 160 9 = 0) ∧ h 160 23 ≤ r 160 23 ∧ ∀ (c x : Nat), 167 ≤ c → c ≤ 177 → r c x = h c x
/-- nodes that the rules have not seen yet -/
def GI (h : ms_M) : Prop := ∀ x : Nat, (x : Int) < h 160 22 → h 174 x = 0 ∧ (20 ≤ h 167 x → h 175 x = 0 ∧ h 176 x = 0) ∧ 0 ≤ h 176 x
/-- a step that leaves the nodes below n -/
def Fr (h r : ms_M) (n : Int) : Prop := (h 160 22 ≤ r 160 22 ∧ (r 160 9 = 0 → h 160 9 = 0) ∧ h 160 23 ≤ r 160 23) ∧ (∀ (c x : Nat), 167 ≤ c → c ≤ 177 → (x : Int) < n → r c x = h c x) ∧ (GI h → GI r)
theorem gi_sm (S : Sm h r) (G : GI h) : GI r := fun x hx => by
  rw [S.2.2.2 174 x (by decide) (by decide), S.2.2.2 167 x (by decide) (by decide), S.2.2.2 175 x (by decide) (by decide), S.2.2.2 176 x (by decide) (by decide)]
  exact G x (by rw [S.1] at hx; exact hx)
theorem gi_o {c : Nat} {j v : Int} (E : z = up_M h c j.toNat v) (hc : c ≠ 160 ∧ c ≠ 167 ∧ c ≠ 174 ∧ c ≠ 175 ∧ c ≠ 176) (G : GI h) : GI z := fun x hx => by
  subst E
  rw [up_n (by omega)] at hx
  rw [up_n (by omega), up_n (by omega), up_n (by omega), up_n (by omega)]
  exact G x hx
theorem gi_7 {j v : Int} (E : z = up_M h 167 j.toNat v) (hk : v < 20 ∨ 20 ≤ h 167 j.toNat) (G : GI h) : GI z := fun x hx => by
  subst E
  rw [up_n (by omega)] at hx
  obtain ⟨g1, g2, g3⟩ := G x hx
  have e4 : up_M h 167 j.toNat v 174 x = h 174 x := up_n (by omega)
  have e5 : up_M h 167 j.toNat v 175 x = h 175 x := up_n (by omega)
  have e6 : up_M h 167 j.toNat v 176 x = h 176 x := up_n (by omega)
  rw [e4, e5, e6]
  refine ⟨g1, fun w => ?_, g3⟩
  by_cases q : x = j.toNat
  · rw [q, up_s] at w
    rw [q] at g2 ⊢
    exact g2 (by omega)
  · rw [up_n (by omega)] at w
    exact g2 w
theorem gi_5 {j v : Int} (E : z = up_M h 175 j.toNat v) (hk : h 167 j.toNat < 20) (G : GI h) : GI z := fun x hx => by
  subst E
  rw [up_n (by omega)] at hx
  obtain ⟨g1, g2, g3⟩ := G x hx
  have e4 : up_M h 175 j.toNat v 174 x = h 174 x := up_n (by omega)
  have e7 : up_M h 175 j.toNat v 167 x = h 167 x := up_n (by omega)
  have e6 : up_M h 175 j.toNat v 176 x = h 176 x := up_n (by omega)
  rw [e4, e7, e6]
  refine ⟨g1, fun w => ?_, g3⟩
  by_cases q : x = j.toNat
  · rw [q] at w; omega
  · rw [up_n (by omega)]
    exact g2 w
theorem gi_6 {j v : Int} (E : z = up_M h 176 j.toNat v) (hv : 0 ≤ v) (hk : h 167 j.toNat < 20) (G : GI h) : GI z := fun x hx => by
  subst E
  rw [up_n (by omega)] at hx
  obtain ⟨g1, g2, g3⟩ := G x hx
  have e4 : up_M h 176 j.toNat v 174 x = h 174 x := up_n (by omega)
  have e7 : up_M h 176 j.toNat v 167 x = h 167 x := up_n (by omega)
  have e5 : up_M h 176 j.toNat v 175 x = h 175 x := up_n (by omega)
  rw [e4, e7, e5]
  by_cases q : x = j.toNat
  · refine ⟨g1, fun w => ?_, ?_⟩
    · rw [q] at w; omega
    · rw [q, up_s]; exact hv
  · rw [up_n (by omega)]
    exact ⟨g1, g2, g3⟩
/-- how many tokens the nodes take -/
def wt (k : Int) : Int := if k = 5 ∨ k = 6 ∨ k = 12 ∨ k = 30 ∨ k = 31 ∨ k = 39 then 2 else if k = 9 then 4 else 1
def Cn (h : ms_M) : Nat → Int
  | 0 => 0
  | n + 1 => Cn h n + wt (h 167 n)
def CC (h : ms_M) : Int := Cn h (h 160 22).toNat
theorem cn_eq : ∀ n : Nat, (∀ x, x < n → r 167 x = h 167 x) → Cn r n = Cn h n := by
  intro n
  induction n with
  | zero => intro _; rfl
  | succ n ih =>
    intro A
    show Cn r n + wt (r 167 n) = Cn h n + wt (h 167 n)
    rw [ih (fun x hx => A x (by omega)), A n (by omega)]
theorem cn_w7 {j : Nat} {v : Int} (hw : wt v = wt (h 167 j)) : ∀ n : Nat, Cn (up_M h 167 j v) n = Cn h n := by
  intro n
  induction n with
  | zero => rfl
  | succ n ih =>
    show Cn (up_M h 167 j v) n + wt (up_M h 167 j v 167 n) = Cn h n + wt (h 167 n)
    rw [ih]
    by_cases q : n = j
    · rw [q, up_s, hw]
    · rw [up_n (by omega)]
theorem cc_sm (S : Sm h r) : CC r = CC h := by
  unfold CC
  rw [S.1]
  exact cn_eq _ (fun x _ => S.2.2.2 167 x (by decide) (by decide))
theorem cc_wo {c : Nat} {j v : Int} (E : z = up_M h c j.toNat v) (hc : c ≠ 160 ∧ c ≠ 167) : CC z = CC h := by
  subst E
  unfold CC
  rw [up_n (by omega)]
  exact cn_eq _ (fun x _ => up_n (by omega))
theorem cc_w7 {j v : Int} (E : z = up_M h 167 j.toNat v) (hw : wt v = wt (h 167 j.toNat)) : CC z = CC h := by
  subst E
  unfold CC
  rw [up_n (by omega)]
  exact cn_w7 hw _
theorem cn_w7p {j : Nat} {v : Int} (hw : wt v = wt (h 167 j) + 1) : ∀ n : Nat, Cn (up_M h 167 j v) n = Cn h n + (if j < n then 1 else 0) := by
  intro n
  induction n with
  | zero => show (0 : Int) = 0 + _; rw [if_neg (by omega)]; rfl
  | succ n ih =>
    show Cn (up_M h 167 j v) n + wt (up_M h 167 j v 167 n) = Cn h n + wt (h 167 n) + _
    rw [ih]
    by_cases q : n = j
    · rw [q, up_s, hw, if_neg (by omega), if_pos (by omega)]; omega
    · rw [up_n (by omega)]
      by_cases q2 : j < n
      · rw [if_pos q2, if_pos (by omega)]; omega
      · rw [if_neg q2, if_neg (by omega)]; omega
theorem cc_w7p {j v : Int} (E : z = up_M h 167 j.toNat v) (hw : wt v = wt (h 167 j.toNat) + 1) (hj : 0 ≤ j ∧ j < h 160 22) : CC z = CC h + 1 := by
  subst E
  unfold CC
  rw [up_n (by omega), cn_w7p hw, if_pos (by omega)]
theorem sm_rf : Sm h h := ⟨rfl, id, Int.le_refl _, fun _ _ _ _ => rfl⟩
theorem fr_rf : Fr h h n := ⟨⟨Int.le_refl _, id, Int.le_refl _⟩, fun _ _ _ _ _ => rfl, id⟩
theorem sm_fr (s : Sm h r) : Fr h r n := ⟨⟨by have := s.1; omega, s.2.1, s.2.2.1⟩, fun c x h1 h2 _ => s.2.2.2 c x h1 h2, gi_sm s⟩
theorem sm_tr (a : Sm h g) (b : Sm g r) : Sm h r := ⟨by rw [b.1, a.1], fun z => a.2.1 (b.2.1 z), by have := a.2.2.1; have := b.2.2.1; omega, fun c x h1 h2 => by rw [b.2.2.2 c x h1 h2, a.2.2.2 c x h1 h2]⟩
theorem fr_tr (a : Fr h g n) (b : Fr g r n2) (hn : n ≤ n2) : Fr h r n := ⟨⟨by have := a.1.1; have := b.1.1; omega, fun z => a.1.2.1 (b.1.2.1 z), by have := a.1.2.2; have := b.1.2.2; omega⟩, fun c x h1 h2 h3 => by rw [b.2.1 c x h1 h2 (by omega), a.2.1 c x h1 h2 h3], fun w => b.2.2 (a.2.2 w)⟩
theorem sm_cur {v : Int} (E : z = up_M h 160 23 v) (hv : h 160 23 ≤ v) : Sm h z ∧ z 160 23 = v ∧ z 160 9 = h 160 9 := by
  subst E
  refine ⟨⟨up_n (by decide), fun y => ?_, ?_, fun c x h1 h2 => up_n (by omega)⟩, up_s, up_n (by decide)⟩
  · rwa [up_n (by decide)] at y
  · rw [up_s]; exact hv
theorem sm_fld {k : Nat} {v : Int} (E : z = up_M h 160 k v) (hk : k ≠ 22 ∧ k ≠ 9 ∧ k ≠ 23) : Sm h z := by
  subst E
  refine ⟨up_n (by omega), fun y => ?_, ?_, fun c x h1 h2 => up_n (by omega)⟩
  · rwa [up_n (by omega)] at y
  · rw [up_n (by omega)]; exact Int.le_refl _
/-- a write into a node's row -/
theorem w_nd {c : Nat} {j v : Int} (E : z = up_M h c j.toNat v) (hc : 167 ≤ c ∧ c ≤ 177) : z 160 22 = h 160 22 ∧ z 160 9 = h 160 9 ∧ z 160 23 = h 160 23 := by
  subst E
  exact ⟨up_n (by omega), up_n (by omega), up_n (by omega)⟩
theorem fr_w {c : Nat} {j v : Int} (E : z = up_M h c j.toNat v) (hc : 167 ≤ c ∧ c ≤ 177) (hj : 0 ≤ j) (hn : n ≤ j) (hG : GI h → GI z) : Fr h z n := by
  obtain ⟨w1, w2, w3⟩ := w_nd E hc
  refine ⟨⟨by omega, fun y => by omega, by omega⟩, fun c2 x h1 h2 h3 => ?_, hG⟩
  rw [E]; exact up_n (by omega)
theorem te_sm {s : Nat} {d a b e : Int} (S : Sm h r) (ha : 0 ≤ a) (x : TE m h s d a b e) : TE m r s d a b e := te_fr x ha (fun c y h1 h2 _ _ => S.2.2.2 c y h1 h2)
theorem te_F {s : Nat} {d a b e : Int} (F : Fr h r n) (ha : 0 ≤ a) (hb : b ≤ n) (x : TE m h s d a b e) : TE m r s d a b e := te_fr x ha (fun c y h1 h2 _ h4 => F.2.1 c y h1 h2 (by omega))
theorem te_w {s c : Nat} {d a b e j v : Int} (E : z = up_M h c j.toNat v) (hj : 0 ≤ j) (hr : j < a ∨ b ≤ j) (ha : 0 ≤ a) (x : TE m h s d a b e) : TE m z s d a b e := te_fr x ha (fun c y h1 h2 h3 h4 => by rw [E]; exact up_n (by omega))
theorem sm_ar {L : List Nat} {LF : List (Nat × Nat)} (F : ∀ c k, nw_F L LF false false c k = true → r c k = h c k) (hc : ((List.range 11).all (fun i => !(L.contains (167 + i)) && LF.all (fun q => !(Nat.beq q.1 (167 + i))))) = true) : ∀ (c x : Nat), 167 ≤ c → c ≤ 177 → r c x = h c x := by
  intro c x h1 h2
  have w := List.all_eq_true.mp hc (c - 167) (List.mem_range.mpr (by omega))
  rw [show 167 + (c - 167) = c by omega] at w
  rw [Bool.and_eq_true] at w
  exact F c x (nw_ar (by rw [w.1, w.2]; rfl) x)
/-- an open node: what its row holds -/
def ON (g : ms_M) (e k o t w x bg sl : Int) : Prop := g 167 e.toNat = k ∧ g 170 e.toNat = o ∧ g 171 e.toNat = t ∧ g 172 e.toNat = w ∧ g 173 e.toNat = x ∧ g 169 e.toNat = bg ∧ g 176 e.toNat = sl
section
variable {e k o t w x bg sl : Int}
theorem on_ag (O : ON g e k o t w x bg sl) (A : ∀ c : Nat, 167 ≤ c → c ≤ 177 → r c e.toNat = g c e.toNat) : ON r e k o t w x bg sl := by
  unfold ON at *
  rw [A 167 (by decide) (by decide), A 170 (by decide) (by decide), A 171 (by decide) (by decide), A 172 (by decide) (by decide), A 173 (by decide) (by decide), A 169 (by decide) (by decide), A 176 (by decide) (by decide)]
  exact O
theorem on_sm (S : Sm g r) (O : ON g e k o t w x bg sl) : ON r e k o t w x bg sl := on_ag O (fun c h1 h2 => S.2.2.2 c _ h1 h2)
theorem on_F (F : Fr g r n) (h0 : 0 ≤ e) (hn : e < n) (O : ON g e k o t w x bg sl) : ON r e k o t w x bg sl := on_ag O (fun c h1 h2 => F.2.1 c _ h1 h2 (by omega))
theorem on_wo {c : Nat} {j v : Int} (E : z = up_M g c j.toNat v) (hc : c = 168 ∨ c = 174 ∨ c = 175 ∨ c = 177) (O : ON g e k o t w x bg sl) : ON z e k o t w x bg sl := by
  unfold ON at *
  rw [E, up_n (by omega), up_n (by omega), up_n (by omega), up_n (by omega), up_n (by omega), up_n (by omega), up_n (by omega)]
  exact O
theorem on_wj {c : Nat} {j v : Int} (E : z = up_M g c j.toNat v) (hj : 0 ≤ j) (h0 : 0 ≤ e) (hc : j ≠ e) (O : ON g e k o t w x bg sl) : ON z e k o t w x bg sl := on_ag O (fun c h1 h2 => by rw [E]; exact up_n (by omega))
theorem on_w0 {v : Int} (E : z = up_M g 170 e.toNat v) (O : ON g e k o t w x bg sl) : ON z e k v t w x bg sl := by
  unfold ON at *
  rw [E, up_s, up_n (by omega), up_n (by omega), up_n (by omega), up_n (by omega), up_n (by omega), up_n (by omega)]
  exact ⟨O.1, rfl, O.2.2⟩
theorem on_w1 {v : Int} (E : z = up_M g 171 e.toNat v) (O : ON g e k o t w x bg sl) : ON z e k o v w x bg sl := by
  unfold ON at *
  rw [E, up_s, up_n (by omega), up_n (by omega), up_n (by omega), up_n (by omega), up_n (by omega), up_n (by omega)]
  exact ⟨O.1, O.2.1, rfl, O.2.2.2⟩
theorem on_w2 {v : Int} (E : z = up_M g 172 e.toNat v) (O : ON g e k o t w x bg sl) : ON z e k o t v x bg sl := by
  unfold ON at *
  rw [E, up_s, up_n (by omega), up_n (by omega), up_n (by omega), up_n (by omega), up_n (by omega), up_n (by omega)]
  exact ⟨O.1, O.2.1, O.2.2.1, rfl, O.2.2.2.2⟩
theorem on_w3 {v : Int} (E : z = up_M g 173 e.toNat v) (O : ON g e k o t w x bg sl) : ON z e k o t w v bg sl := by
  unfold ON at *
  rw [E, up_s, up_n (by omega), up_n (by omega), up_n (by omega), up_n (by omega), up_n (by omega), up_n (by omega)]
  exact ⟨O.1, O.2.1, O.2.2.1, O.2.2.2.1, rfl, O.2.2.2.2.2⟩
theorem on_wk {v : Int} (E : z = up_M g 167 e.toNat v) (O : ON g e k o t w x bg sl) : ON z e v o t w x bg sl := by
  unfold ON at *
  rw [E, up_s, up_n (by omega), up_n (by omega), up_n (by omega), up_n (by omega), up_n (by omega), up_n (by omega)]
  exact ⟨rfl, O.2⟩
theorem on_ws {v : Int} (E : z = up_M g 176 e.toNat v) (O : ON g e k o t w x bg sl) : ON z e k o t w x bg v := by
  unfold ON at *
  rw [E, up_s, up_n (by omega), up_n (by omega), up_n (by omega), up_n (by omega), up_n (by omega), up_n (by omega)]
  exact ⟨O.1, O.2.1, O.2.2.1, O.2.2.2.1, O.2.2.2.2.1, O.2.2.2.2.2.1, rfl⟩
variable {d a b : Int}
theorem on_leaf (O : ON g e k o t w x bg sl) (hk : (20 ≤ k ∧ k ≤ 25) ∨ k = 27) (q : 0 ≤ a ∧ a ≤ e ∧ e < b ∧ 1 ≤ d) : TE m g 0 d a b e := te_i0 ⟨q, by
  rw [O.1]
  rcases hk with y | y
  · exact .inl y
  · exact .inr (.inl y)⟩
theorem on_call (O : ON g e k o t w x bg sl) (hk : k = 26 ∧ 4 ≤ d) (q : 0 ≤ a ∧ a ≤ e ∧ e < b ∧ 1 ≤ d) (y : TE m g 1 (d - 3 - m) (e + 1) b t) : TE m g 0 d a b e := te_i0 ⟨q, by
  rw [O.1, O.2.2.1]
  exact .inr (.inr (.inl ⟨hk, y⟩))⟩
theorem on_ints (O : ON g e k o t w x bg sl) (hk : k = 28 ∨ (k = 29 ∧ 0 ≤ w ∧ w ≤ 3001)) (q : 0 ≤ a ∧ a ≤ e ∧ e < b ∧ 1 ≤ d) (y : TE m g 0 (d - 2 - m) (e + 1) b o) : TE m g 0 d a b e := te_i0 ⟨q, by
  rw [O.1, O.2.1, O.2.2.2.1]
  exact .inr (.inr (.inr (.inl ⟨hk, y⟩)))⟩
theorem on_field (O : ON g e k o t w x bg sl) (hk : k = 30 ∧ 0 ≤ w ∧ w ≤ 3001) (q : 0 ≤ a ∧ a ≤ e ∧ e < b ∧ 1 ≤ d) (y : TE m g 0 d a e o) : TE m g 0 d a b e := te_i0 ⟨q, by
  rw [O.1, O.2.1, O.2.2.2.1]
  exact .inr (.inr (.inr (.inr (.inl ⟨hk, y⟩))))⟩
theorem on_method (O : ON g e k o t w x bg sl) (hk : k = 31 ∧ 4 ≤ d ∧ 0 ≤ w ∧ w ≤ 3001) (q : 0 ≤ a ∧ a ≤ e ∧ e < b ∧ 1 ≤ d) (y : TE m g 0 d a e o) (y2 : TE m g 1 (d - 3 - 2 * m) (e + 1) b t) : TE m g 0 d a b e := te_i0 ⟨q, by
  rw [O.1, O.2.1, O.2.2.2.1, O.2.2.1]
  exact .inr (.inr (.inr (.inr (.inr (.inl ⟨hk, y, y2⟩)))))⟩
theorem on_two (O : ON g e k o t w x bg sl) (hk : k = 32 ∨ k = 37) (q : 0 ≤ a ∧ a ≤ e ∧ e < b ∧ 1 ≤ d) (y : TE m g 0 d a e o) (y2 : TE m g 0 (d - 3) (e + 1) b t) : TE m g 0 d a b e := te_i0 ⟨q, by
  rw [O.1, O.2.1, O.2.2.1]
  exact .inr (.inr (.inr (.inr (.inr (.inr (.inl ⟨hk, y, y2⟩))))))⟩
theorem on_pre (O : ON g e k o t w x bg sl) (hk : 33 ≤ k ∧ k ≤ 36) (q : 0 ≤ a ∧ a ≤ e ∧ e < b ∧ 1 ≤ d) (y : TE m g 0 (d - 2 - 2 * m) (e + 1) b o) : TE m g 0 d a b e := te_i0 ⟨q, by
  rw [O.1, O.2.1]
  exact .inr (.inr (.inr (.inr (.inr (.inr (.inr (.inl ⟨hk, y⟩)))))))⟩
theorem on_is (O : ON g e k o t w x bg sl) (hk : k = 38) (q : 0 ≤ a ∧ a ≤ e ∧ e < b ∧ 1 ≤ d) (y : TE m g 0 d a e o) : TE m g 0 d a b e := te_i0 ⟨q, by
  rw [O.1, O.2.1]
  exact .inr (.inr (.inr (.inr (.inr (.inr (.inr (.inr (.inl ⟨hk, y⟩))))))))⟩
theorem on_else (O : ON g e k o t w x bg sl) (hk : k = 39) (q : 0 ≤ a ∧ a ≤ e ∧ e < b ∧ 1 ≤ d) (y : TE m g 0 (d - 2 - 2 * m) a e o) {p : Int} (hp : e < p ∧ p ≤ b) (y2 : TE m g 0 (d - 2 - 2 * m) (e + 1) p t) (y3 : TE m g 0 (d - 2 - 2 * m) p b w) : TE m g 0 d a b e := te_i0 ⟨q, by
  rw [O.1, O.2.1, O.2.2.1, O.2.2.2.1]
  exact .inr (.inr (.inr (.inr (.inr (.inr (.inr (.inr (.inr ⟨hk, y, p, hp, y2, y3⟩))))))))⟩
/-- a statement that stands at N: v is N, its first token is c -/
def TB (m : Int) (g : ms_M) (K v N b c : Int) : Prop := v = N ∧ g 169 N.toNat = c ∧ TE m g 2 K N b N
variable {K v N c : Int}
theorem tb_sm (S : Sm h r) (hN : 0 ≤ N) (y : TB m h K v N b c) : TB m r K v N b c := ⟨y.1, by rw [S.2.2.2 169 _ (by decide) (by decide)]; exact y.2.1, te_sm S hN y.2.2⟩
theorem tb_F (F : Fr h r n) (hN : 0 ≤ N) (hb : b ≤ n) (y : TB m h K v N b c) : TB m r K v N b c := ⟨y.1, by have q := (te_o2 y.2.2).1; rw [F.2.1 169 _ (by decide) (by decide) (by omega)]; exact y.2.1, te_F F hN hb y.2.2⟩
theorem tb_w {cc : Nat} {j w : Int} (E : z = up_M h cc j.toNat w) (hj : 0 ≤ j) (hr : j < N ∨ b ≤ j) (hN : 0 ≤ N) (y : TB m h K v N b c) : TB m z K v N b c := ⟨y.1, by have q := (te_o2 y.2.2).1; rw [E, up_n (by omega)]; exact y.2.1, te_w E hj hr hN y.2.2⟩
theorem tb_st (y : TB m g K v N b c) (hk : K ≤ d - 1) (hb : b ≤ n) (hN : 0 ≤ N) (h1 : e < N) (O : g 169 e.toNat ≤ c) : (e < v ∧ v < n ∧ g 169 e.toNat ≤ g 169 v.toNat) ∧ TE m g 2 (d - 1) v n v := by
  have q := (te_o2 y.2.2).1
  obtain ⟨y1, y2, y3⟩ := y
  rw [y1, y2]
  exact ⟨⟨h1, by omega, O⟩, te_wd y3 hk hN (by omega) hb⟩
theorem on_var (O : ON g e k o t w x bg sl) (hk : k = 2 ∧ 0 ≤ sl ∧ 0 ≤ w ∧ w ≤ 12007) (q : 0 ≤ a ∧ a ≤ e ∧ e < b ∧ 0 ≤ d) (y : TE m g 0 (RE m 1) (e + 1) b o) : TE m g 2 d a b e := te_i2 ⟨q, by
  rw [O.1, O.2.1, O.2.2.2.1, O.2.2.2.2.2.2]
  exact .inr (.inl ⟨hk, y⟩)⟩
theorem on_ch2 (O : ON g e k o t w x bg sl) (hk : k = 3 ∧ w = -1) (q : 0 ≤ a ∧ a ≤ e ∧ e < b ∧ 0 ≤ d) (y : TE m g 0 (RE m 1) (e + 1) t o) (y2 : (e < t ∧ t < b ∧ bg ≤ g 169 t.toNat) ∧ TE m g 2 (d - 1) t b t) : TE m g 2 d a b e := te_i2 ⟨q, by
  rw [O.1, O.2.1, O.2.2.1, O.2.2.2.1, O.2.2.2.2.2.1]
  exact .inr (.inr (.inl ⟨hk.1, y, .inl ⟨hk.2, y2⟩⟩))⟩
theorem on_ch3 (O : ON g e k o t w x bg sl) (hk : k = 3) (q : 0 ≤ a ∧ a ≤ e ∧ e < b ∧ 0 ≤ d) (y : TE m g 0 (RE m 1) (e + 1) t o) (y2 : (e < t ∧ t < w ∧ bg ≤ g 169 t.toNat) ∧ TE m g 2 (d - 1) t w t) (y3 : (e < w ∧ w < b ∧ bg ≤ g 169 w.toNat) ∧ TE m g 2 (d - 1) w b w) : TE m g 2 d a b e := te_i2 ⟨q, by
  rw [O.1, O.2.1, O.2.2.1, O.2.2.2.1, O.2.2.2.2.2.1]
  exact .inr (.inr (.inl ⟨hk, y, .inr ⟨y3.1.2.1, y2, y3⟩⟩))⟩
theorem on_loop (O : ON g e k o t w x bg sl) (hk : k = 4) (q : 0 ≤ a ∧ a ≤ e ∧ e < b ∧ 0 ≤ d) (y : TE m g 0 (RE m 1) (e + 1) t o) (y2 : (e < t ∧ t < b ∧ bg ≤ g 169 t.toNat) ∧ TE m g 2 (d - 1) t b t) : TE m g 2 d a b e := te_i2 ⟨q, by
  rw [O.1, O.2.1, O.2.2.1, O.2.2.2.2.2.1]
  exact .inr (.inr (.inr (.inl ⟨hk, y, y2⟩)))⟩
theorem on_jump (O : ON g e k o t w x bg sl) (hk : k = 5 ∨ k = 6) (q : 0 ≤ a ∧ a ≤ e ∧ e < b ∧ 0 ≤ d) : TE m g 2 d a b e := te_i2 ⟨q, by
  rw [O.1]
  exact .inr (.inr (.inr (.inr (.inl hk))))⟩
theorem on_giv0 (O : ON g e k o t w x bg sl) (hk : k = 7 ∧ o = -1) (q : 0 ≤ a ∧ a ≤ e ∧ e < b ∧ 0 ≤ d) : TE m g 2 d a b e := te_i2 ⟨q, by
  rw [O.1, O.2.1]
  exact .inr (.inr (.inr (.inr (.inr (.inl ⟨hk.1, .inl hk.2⟩)))))⟩
theorem on_giv1 (O : ON g e k o t w x bg sl) (hk : k = 7) (q : 0 ≤ a ∧ a ≤ e ∧ e < b ∧ 0 ≤ d) (y : TE m g 0 (RE m 1) (e + 1) b o) : TE m g 2 d a b e := te_i2 ⟨q, by
  rw [O.1, O.2.1]
  exact .inr (.inr (.inr (.inr (.inr (.inl ⟨hk, .inr y⟩)))))⟩
theorem on_one (O : ON g e k o t w x bg sl) (hk : k = 8 ∨ k = 10 ∨ k = 11) (q : 0 ≤ a ∧ a ≤ e ∧ e < b ∧ 0 ≤ d) (y : TE m g 0 (RE m 1) (e + 1) b o) : TE m g 2 d a b e := te_i2 ⟨q, by
  rw [O.1, O.2.1]
  exact .inr (.inr (.inr (.inr (.inr (.inr (.inl ⟨hk, y⟩))))))⟩
theorem on_ass (O : ON g e k o t w x bg sl) (hk : k = 12) (q : 0 ≤ a ∧ a ≤ e ∧ e < b ∧ 0 ≤ d) {p : Int} (hp : e < p ∧ p ≤ b) (y : TE m g 0 (RE m 1) (e + 1) p o) (y2 : TE m g 0 (RE m 1) p b t) : TE m g 2 d a b e := te_i2 ⟨q, by
  rw [O.1, O.2.1, O.2.2.1]
  exact .inr (.inr (.inr (.inr (.inr (.inr (.inr (.inl ⟨hk, p, hp, y, y2⟩)))))))⟩
theorem on_guard (O : ON g e k o t w x bg sl) (hk : k = 9 ∧ 0 ≤ sl ∧ sl ≤ 3000) (q : 0 ≤ a ∧ a ≤ e ∧ e < b ∧ 0 ≤ d) (y : (e < o ∧ o < t ∧ bg ≤ g 169 o.toNat) ∧ TE m g 2 (d - 1) o t o) (y2 : (e < t ∧ t < b ∧ bg ≤ g 169 t.toNat) ∧ TE m g 2 (d - 1) t b t) (y3 : bg + 4 ≤ g 169 t.toNat) : TE m g 2 d a b e := te_i2 ⟨q, by
  rw [O.1, O.2.1, O.2.2.1, O.2.2.2.2.2.1, O.2.2.2.2.2.2]
  exact .inr (.inr (.inr (.inr (.inr (.inr (.inr (.inr ⟨hk, ⟨y2.1.2.1, y⟩, y2, y3⟩)))))))⟩
end
/-- the small readers -/
theorem pc_wrong {k t : Int} (hk : ¬ k = 0) : Pc (qf_X13_wrong nn k t h) (fun r => Sm h r ∧ ¬ r 160 9 = 0) := by
  intro r e
  have f : ∀ c j, nw_F wl_X13_wrong wf_X13_wrong false false c j = true → r c j = h c j := fun c j w => (ff_X13_wrong nn) _ e c j w
  have a := sm_ar f rfl
  have b := f 160 22 rfl
  have c := f 160 23 rfl
  refine ⟨⟨b, ?_, by omega, a⟩, ?_⟩
  · unfold qf_X13_wrong at e
    by_cases y : h 160 9 = 0
    · intro _; exact y
    · rw [if_neg y] at e; cases e; exact id
  · unfold qf_X13_wrong at e
    by_cases y : h 160 9 = 0
    · rw [if_pos y] at e
      have e2 := rd_i (show rd_A 3002 164 t (up_M h 160 9 k) (fun v4 => xl (up_M (up_M h 160 9 k) 160 10 v4) fun h5 => some h5) = some r from e)
      cases e2
      rw [up_n (by decide), up_s]; exact hk
    · rw [if_neg y] at e; cases e; exact y
theorem pc_isSign {t v : Int} : Pc (qf_X13_isSign nn t v h) (fun u => (0 ≤ t ∧ t < 3008) ∧ (u = 0 ∨ t < 3002)) := by
  unfold qf_X13_isSign
  refine pc_rA ?_; intro b0 b1 v2 _
  refine pc_if (fun _ => pc_ret ⟨⟨b0, b1⟩, .inl rfl⟩) (fun _ => ?_)
  refine pc_rA ?_; intro _ b2 v4 _
  exact pc_if (fun _ => pc_ret ⟨⟨b0, b1⟩, .inl rfl⟩) (fun _ => pc_ret ⟨⟨b0, b1⟩, .inr b2⟩)
theorem pc_isWord {t v : Int} : Pc (qf_X13_isWord nn t v h) (fun u => (0 ≤ t ∧ t < 3008) ∧ (u = 0 ∨ t < 3002)) := by
  unfold qf_X13_isWord
  refine pc_rA ?_; intro b0 b1 v2 _
  refine pc_if (fun _ => pc_ret ⟨⟨b0, b1⟩, .inl rfl⟩) (fun _ => ?_)
  refine pc_rA ?_; intro _ b2 v4 _
  exact pc_if (fun _ => pc_ret ⟨⟨b0, b1⟩, .inl rfl⟩) (fun _ => pc_ret ⟨⟨b0, b1⟩, .inr b2⟩)
theorem pc_strength {t : Int} : Pc (qf_X13_strength nn t h) (fun _ => 0 ≤ t ∧ t < 3008) := fun r e => by
  unfold qf_X13_strength at e
  obtain ⟨a, ea, _⟩ := sv_i e
  exact (pc_isWord a ea).1
theorem pc_misplaced : Pc (qf_X13_misplaced nn h) (fun r => Sm h r ∧ ¬ r 160 9 = 0) := by
  unfold qf_X13_misplaced
  refine pc_rA ?_; intro _ _ v _
  refine pc_if (fun _ => ?_) (fun _ => ?_)
  · unfold qj_X13_misplaced_20
    exact pc_sv (pc_wrong (by decide)) (fun a p => pc_ret p)
  · unfold qj_X13_misplaced_20
    exact pc_sv (pc_wrong (by decide)) (fun a p => pc_ret p)
theorem pc_sign_ {v : Int} : Pc (qf_X13_sign_ nn v h) (fun r => Sm h r ∧ (r 160 9 = 0 → r 160 23 = h 160 23 + 1 ∧ h 160 23 < 3002)) := by
  unfold qf_X13_sign_
  refine pc_if (fun C => ?_) (fun C => pc_ret ⟨sm_rf, fun y => absurd y C⟩)
  refine pc_sv pc_isSign ?_; intro u4 b4
  refine pc_if (fun C4 => ?_) (fun C4 => ?_)
  · exact pc_sv pc_misplaced (fun a p => pc_ret ⟨p.1, fun y => absurd y p.2⟩)
  · refine pc_add (by omega) ?_; intro v8 e8
    refine pc_xl ?_; intro h9 E9
    obtain ⟨S, c, _⟩ := sm_cur E9 (by omega)
    exact pc_ret ⟨S, fun _ => by omega⟩
theorem pc_word {v : Int} : Pc (qf_X13_word nn v h) (fun r => Sm h r ∧ (r 160 9 = 0 → r 160 23 = h 160 23 + 1 ∧ h 160 23 < 3002)) := by
  unfold qf_X13_word
  refine pc_if (fun C => ?_) (fun C => pc_ret ⟨sm_rf, fun y => absurd y C⟩)
  refine pc_sv pc_isWord ?_; intro u4 b4
  refine pc_if (fun C4 => ?_) (fun C4 => ?_)
  · exact pc_sv pc_misplaced (fun a p => pc_ret ⟨p.1, fun y => absurd y p.2⟩)
  · refine pc_add (by omega) ?_; intro v8 e8
    refine pc_xl ?_; intro h9 E9
    obtain ⟨S, c, _⟩ := sm_cur E9 (by omega)
    exact pc_ret ⟨S, fun _ => by omega⟩
theorem pc_name : Pc (qf_X13_name nn h) (fun u => Sm h u.2 ∧ 0 ≤ u.1 ∧ (u.2 160 9 = 0 → u.2 160 23 = h 160 23 + 1 ∧ u.1 = h 160 23)) := by
  unfold qf_X13_name
  refine pc_if (fun C => ?_) (fun C => pc_ret ⟨sm_rf, Int.le_refl 0, fun y => absurd y C⟩)
  refine pc_rA ?_; intro b0 b1 v4 _
  refine pc_if (fun C4 => ?_) (fun C4 => ?_)
  · refine pc_add (by omega) ?_; intro v8 e8
    refine pc_xl ?_; intro h9 E9
    obtain ⟨S, c, _⟩ := sm_cur E9 (by omega)
    refine pc_xl ?_; intro v9 e9
    rw [oq_sub_eq (by omega) (by omega) (by omega)] at e9
    exact pc_ret ⟨S, by show 0 ≤ v9; omega, fun _ => by show h9 160 23 = _ ∧ v9 = _; omega⟩
  · exact pc_sv pc_misplaced (fun a p => pc_ret ⟨p.1, Int.le_refl 0, fun y => absurd y p.2⟩)
theorem pc_isDeep {d : Int} : Pc (qf_X13_isDeep nn d h) (fun u => Sm h u.2 ∧ ((u.1 = 0 ∧ d < 40 ∧ h 160 9 = 0 ∧ u.2 = h) ∨ (¬ u.1 = 0 ∧ ¬ u.2 160 9 = 0))) := by
  unfold qf_X13_isDeep
  refine pc_if (fun C => ?_) (fun C => pc_ret ⟨sm_rf, .inr ⟨by show ¬ (1 : Int) = 0; omega, C⟩⟩)
  refine pc_if (fun C1 => ?_) (fun C1 => pc_ret ⟨sm_rf, .inl ⟨rfl, by omega, C, rfl⟩⟩)
  refine pc_rA ?_; intro _ _ v _
  refine pc_if (fun _ => ?_) (fun _ => ?_)
  · unfold qj_X13_isDeep_37
    exact pc_sv (pc_wrong (by decide)) (fun a p => pc_ret ⟨p.1, .inr ⟨by show ¬ (1 : Int) = 0; omega, p.2⟩⟩)
  · unfold qj_X13_isDeep_37
    exact pc_sv (pc_wrong (by decide)) (fun a p => pc_ret ⟨p.1, .inr ⟨by show ¬ (1 : Int) = 0; omega, p.2⟩⟩)
theorem pc_ty96 : Pc (qj_X13_type_96 nn h) (fun r => Sm h r ∧ r 160 46 = h 160 46) := by
  unfold qj_X13_type_96
  refine pc_if (fun C => pc_ret ⟨sm_rf, rfl⟩) (fun C => ?_)
  refine pc_sv pc_isSign ?_; intro u4 b4
  refine pc_if (fun C4 => ?_) (fun C4 => pc_ret ⟨sm_rf, rfl⟩)
  refine pc_add (by omega) ?_; intro v8 e8
  refine pc_xl ?_; intro h9 E9
  obtain ⟨S, c, _⟩ := sm_cur E9 (by omega)
  refine pc_se ?_; intro u9 e9
  have S9 := pc_sign_ u9 e9
  have f9 : u9 160 46 = h9 160 46 := (ff_X13_sign_ nn) _ e9 160 46 rfl
  refine pc_xl ?_; intro h10 E10
  refine pc_ret ⟨sm_tr S (sm_tr S9.1 (sm_fld E10 (by decide))), ?_⟩
  rw [E10, up_n (by decide), f9, E9, up_n (by decide)]
theorem pc_ty68 {s : Int} (hb : 0 ≤ h 160 23 ∧ h 160 23 < 3008) : Pc (qj_X13_type_68 nn s h) (fun r => Sm h r ∧ r 160 46 = h 160 46) := by
  unfold qj_X13_type_68
  refine pc_xl ?_; intro h13 E13
  have S := sm_fld E13 (by decide)
  have w : h13 160 23 = h 160 23 := by rw [E13]; exact up_n (by decide)
  have w46 : h13 160 46 = h 160 46 := by rw [E13]; exact up_n (by decide)
  refine pc_if (fun C => ?_) (fun C => ?_)
  · refine pc_se ?_; intro u16 e16
    have p := pc_name u16 e16
    have f16 : u16.2 160 46 = h13 160 46 := (ff_X13_name nn) _ e16 160 46 rfl
    exact pc_imp pc_ty96 (fun a q => ⟨sm_tr S (sm_tr p.1 q.1), by rw [q.2, f16, w46]⟩)
  · refine pc_add (by omega) ?_; intro v8 e8
    refine pc_xl ?_; intro h9 E9
    obtain ⟨S2, c, _⟩ := sm_cur E9 (by omega)
    have f9 : h9 160 46 = h13 160 46 := by rw [E9]; exact up_n (by decide)
    exact pc_imp pc_ty96 (fun a q => ⟨sm_tr S (sm_tr S2 q.1), by rw [q.2, f9, w46]⟩)
theorem pc_type : Pc (qf_X13_type nn h) (fun r => Sm h r ∧ (r 160 9 = 0 → r 160 46 = h 160 23)) := by
  unfold qf_X13_type
  refine pc_if (fun C => ?_) (fun C => pc_ret ⟨sm_rf, fun y => absurd y C⟩)
  refine pc_xl ?_; intro h23 E23
  refine pc_xl ?_; intro h24 E24
  have S := sm_tr (sm_fld E23 (by decide)) (sm_fld E24 (by decide))
  have w46 : h24 160 46 = h 160 23 := by rw [E24, up_n (by decide), E23, up_s]
  refine pc_sv pc_isWord ?_; intro u27 b27
  refine pc_if (fun C7 => ?_) (fun C7 => ?_)
  · refine pc_se ?_; intro u30 _
    exact pc_if (fun _ => pc_imp (pc_ty68 b27.1) (fun a q => ⟨sm_tr S q.1, fun _ => by rw [q.2, w46]⟩)) (fun _ => pc_imp (pc_ty68 b27.1) (fun a q => ⟨sm_tr S q.1, fun _ => by rw [q.2, w46]⟩))
  · refine pc_xl ?_; intro h32 E32
    have w : h32 160 23 = h24 160 23 := by rw [E32]; exact up_n (by decide)
    refine pc_add (by omega) ?_; intro v8 e8
    refine pc_xl ?_; intro h9 E9
    obtain ⟨S2, c, _⟩ := sm_cur E9 (by omega)
    exact pc_ret ⟨sm_tr S (sm_tr (sm_fld E32 (by decide)) S2), fun _ => by rw [E9, up_n (by decide), E32, up_n (by decide), w46]⟩
/-- a new node -/
theorem pc_ad {k t f : Int} : Pc (qf_X13_add nn k t f h) (fun u => (0 ≤ h 160 22 ∧ h 160 22 < 9000 ∧ u.1 = h 160 22 ∧ u.2 160 22 = h 160 22 + 1 ∧ u.2 160 9 = h 160 9 ∧ u.2 160 23 = h 160 23 ∧ u.2 160 46 = h 160 46) ∧ Fr h u.2 (h 160 22) ∧ ON u.2 u.1 k (-1) (-1) (-1) (-1) f 0 ∧ CC u.2 = CC h + wt k) := by
  unfold qf_X13_add
  refine pc_wA ?_; intro b0 b1 h3 E3
  refine pc_wA ?_; intro _ _ h6 E6
  refine pc_wA ?_; intro _ _ h9 E9
  refine pc_wA ?_; intro _ _ h12 E12
  refine pc_wA ?_; intro _ _ h15 E15
  refine pc_wA ?_; intro _ _ h18 E18
  refine pc_wA ?_; intro _ _ h21 E21
  refine pc_wA ?_; intro _ _ h24 E24
  refine pc_wA ?_; intro _ _ h27 E27
  refine pc_wA ?_; intro _ _ h30 E30
  refine pc_wZ ?_; intro _ _ h33 E33
  have w3 := w_nd E3 (by decide)
  have w6 := w_nd E6 (by decide)
  have w9 := w_nd E9 (by decide)
  have w12 := w_nd E12 (by decide)
  have w15 := w_nd E15 (by decide)
  have w18 := w_nd E18 (by decide)
  have w21 := w_nd E21 (by decide)
  have w24 := w_nd E24 (by decide)
  have w27 := w_nd E27 (by decide)
  have w30 := w_nd E30 (by decide)
  have w33 := w_nd E33 (by decide)
  rw [w3.1] at E6; rw [w6.1, w3.1] at E9; rw [w9.1, w6.1, w3.1] at E12; rw [w12.1, w9.1, w6.1, w3.1] at E15
  rw [w15.1, w12.1, w9.1, w6.1, w3.1] at E18; rw [w18.1, w15.1, w12.1, w9.1, w6.1, w3.1] at E21
  rw [w21.1, w18.1, w15.1, w12.1, w9.1, w6.1, w3.1] at E24; rw [w24.1, w21.1, w18.1, w15.1, w12.1, w9.1, w6.1, w3.1] at E27
  rw [w27.1, w24.1, w21.1, w18.1, w15.1, w12.1, w9.1, w6.1, w3.1] at E30; rw [w30.1, w27.1, w24.1, w21.1, w18.1, w15.1, w12.1, w9.1, w6.1, w3.1] at E33
  refine pc_add (by omega) ?_; intro v35 e35
  refine pc_xl ?_; intro h36 E36
  have q22 : h36 160 22 = v35 := by rw [E36]; exact up_s
  have q9 : h36 160 9 = h33 160 9 := by rw [E36]; exact up_n (by decide)
  have q23 : h36 160 23 = h33 160 23 := by rw [E36]; exact up_n (by decide)
  refine pc_xl ?_; intro v38 e38
  rw [oq_sub_eq (by omega) (by omega) (by omega)] at e38
  have FR : ∀ (c x : Nat), 167 ≤ c → c ≤ 177 → (x : Int) < h 160 22 → h36 c x = h c x := fun c x h1 h2 h3 => by
    rw [E36, up_n (by omega), E33, up_n (by omega), E30, up_n (by omega), E27, up_n (by omega), E24, up_n (by omega), E21, up_n (by omega), E18, up_n (by omega), E15, up_n (by omega), E12, up_n (by omega), E9, up_n (by omega), E6, up_n (by omega), E3, up_n (by omega)]
  have Q46 : h36 160 46 = h 160 46 := by rw [E36, up_n (by omega), E33, up_n (by omega), E30, up_n (by omega), E27, up_n (by omega), E24, up_n (by omega), E21, up_n (by omega), E18, up_n (by omega), E15, up_n (by omega), E12, up_n (by omega), E9, up_n (by omega), E6, up_n (by omega), E3, up_n (by omega)]
  refine pc_ret ⟨⟨b0, b1, by show v38 = _; omega, by show h36 160 22 = _; omega, by show h36 160 9 = _; omega, by show h36 160 23 = _; omega, Q46⟩, ?_, ?_, ?_⟩
  · refine ⟨⟨by show _ ≤ h36 160 22; omega, fun y => by have : h36 160 9 = 0 := y; omega, by show _ ≤ h36 160 23; omega⟩, fun c x h1 h2 h3 => FR c x h1 h2 h3, fun G x hx => ?_⟩
    have hx : (x : Int) < h36 160 22 := hx
    show h36 174 x = 0 ∧ (20 ≤ h36 167 x → h36 175 x = 0 ∧ h36 176 x = 0) ∧ 0 ≤ h36 176 x
    by_cases q : (x : Int) < h 160 22
    · rw [FR 174 x (by decide) (by decide) q, FR 167 x (by decide) (by decide) q, FR 175 x (by decide) (by decide) q, FR 176 x (by decide) (by decide) q]
      exact G x q
    · have q2 : x = (h 160 22).toNat := by omega
      have z4 : h36 174 x = 0 := by rw [q2, E36, up_n (by omega), E33, up_n (by omega), E30, up_n (by omega), E27, up_n (by omega), E24, up_s]
      have z5 : h36 175 x = 0 := by rw [q2, E36, up_n (by omega), E33, up_n (by omega), E30, up_n (by omega), E27, up_s]
      have z6 : h36 176 x = 0 := by rw [q2, E36, up_n (by omega), E33, up_n (by omega), E30, up_s]
      rw [z4, z5, z6]
      exact ⟨rfl, fun _ => ⟨rfl, rfl⟩, by decide⟩
  · show ON h36 v38 k (-1) (-1) (-1) (-1) f 0
    rw [show v38 = h 160 22 by omega]
    unfold ON
    refine ⟨?_, ?_, ?_, ?_, ?_, ?_, ?_⟩
    · rw [E36, up_n (by omega), E33, up_n (by omega), E30, up_n (by omega), E27, up_n (by omega), E24, up_n (by omega), E21, up_n (by omega), E18, up_n (by omega), E15, up_n (by omega), E12, up_n (by omega), E9, up_n (by omega), E6, up_n (by omega), E3, up_s]
    · rw [E36, up_n (by omega), E33, up_n (by omega), E30, up_n (by omega), E27, up_n (by omega), E24, up_n (by omega), E21, up_n (by omega), E18, up_n (by omega), E15, up_n (by omega), E12, up_s]
    · rw [E36, up_n (by omega), E33, up_n (by omega), E30, up_n (by omega), E27, up_n (by omega), E24, up_n (by omega), E21, up_n (by omega), E18, up_n (by omega), E15, up_s]
    · rw [E36, up_n (by omega), E33, up_n (by omega), E30, up_n (by omega), E27, up_n (by omega), E24, up_n (by omega), E21, up_n (by omega), E18, up_s]
    · rw [E36, up_n (by omega), E33, up_n (by omega), E30, up_n (by omega), E27, up_n (by omega), E24, up_n (by omega), E21, up_s]
    · rw [E36, up_n (by omega), E33, up_n (by omega), E30, up_n (by omega), E27, up_n (by omega), E24, up_n (by omega), E21, up_n (by omega), E18, up_n (by omega), E15, up_n (by omega), E12, up_n (by omega), E9, up_s]
    · rw [E36, up_n (by omega), E33, up_n (by omega), E30, up_s]
  · show CC h36 = CC h + wt k
    unfold CC
    rw [show h36 160 22 = h 160 22 + 1 by omega, show (h 160 22 + 1).toNat = (h 160 22).toNat + 1 by omega]
    show Cn h36 (h 160 22).toNat + wt (h36 167 (h 160 22).toNat) = _
    rw [cn_eq (h := h) (h 160 22).toNat (fun x hx => FR 167 x (by decide) (by decide) (by omega))]
    have e7 : h36 167 (h 160 22).toNat = k := by rw [E36, up_n (by omega), E33, up_n (by omega), E30, up_n (by omega), E27, up_n (by omega), E24, up_n (by omega), E21, up_n (by omega), E18, up_n (by omega), E15, up_n (by omega), E12, up_n (by omega), E9, up_n (by omega), E6, up_n (by omega), E3, up_s]
    rw [e7]
end

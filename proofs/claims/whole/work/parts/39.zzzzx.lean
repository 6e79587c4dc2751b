section
section
variable {nn : Nat} {h g r z w v x f : ms_M} {c d e k : Int} {ω : Int → ms_M}
theorem wd_known {a : Int} (p : 1 ≤ WD a) : a ≤ 8 ∨ a = 16 ∨ a = 18 ∨ a = 21 ∨ a = 25 ∨ a = 54 ∨ a = 58 ∨ (180 ≤ a ∧ a ≤ 182) ∨ a = 184 ∨ (187 ≤ a ∧ a ≤ 189) ∨ a = 192 ∨ a = 193 ∨ a = 46 ∨ a = 50 ∨ a = 79 ∨ a = 83 ∨ a = 87 ∨ a = 89 ∨ a = 96 ∨ a = 100 ∨ a = 104 ∨ a = 108 ∨ a = 112 ∨ a = 116 ∨ a = 120 ∨ a = 122 ∨ a = 124 ∨ a = 126 ∨ a = 128 ∨ a = 130 ∨ a = 172 ∨ a = 176 ∨ a = 177 ∨ a = 186 ∨ a = 190 ∨ a = 191 ∨ a = 153 ∨ a = 154 ∨ (159 ≤ a ∧ a ≤ 167) := by
  have L : Ok_ (qf_X13_widthOf 0 a (fun _ _ => 0)) (fun u => 1 ≤ u → a ≤ 8 ∨ a = 16 ∨ a = 18 ∨ a = 21 ∨ a = 25 ∨ a = 54 ∨ a = 58 ∨ (180 ≤ a ∧ a ≤ 182) ∨ a = 184 ∨ (187 ≤ a ∧ a ≤ 189) ∨ a = 192 ∨ a = 193 ∨ a = 46 ∨ a = 50 ∨ a = 79 ∨ a = 83 ∨ a = 87 ∨ a = 89 ∨ a = 96 ∨ a = 100 ∨ a = 104 ∨ a = 108 ∨ a = 112 ∨ a = 116 ∨ a = 120 ∨ a = 122 ∨ a = 124 ∨ a = 126 ∨ a = 128 ∨ a = 130 ∨ a = 172 ∨ a = 176 ∨ a = 177 ∨ a = 186 ∨ a = 190 ∨ a = 191 ∨ a = 153 ∨ a = 154 ∨ (159 ≤ a ∧ a ≤ 167)) := by
    unfold qf_X13_widthOf qj_X13_widthOf_736 qj_X13_widthOf_738 qj_X13_widthOf_740 qj_X13_widthOf_742
    repeat' (first | exact ok_ret (fun _ => by omega) | exact ok_ret (fun q => absurd q (by decide)) | (refine ok_if (fun _ => ?_) (fun _ => ?_)))
  obtain ⟨u, e, P⟩ := L
  unfold WD at p
  rw [e] at p
  exact P p
/-- type y below the top of the stack -/
def tp (f : ms_M) (y : Int) : Int := f 244 (f 160 131 - 1 - y).toNat
/-- m values are taken -/
def POP (f : ms_M) (m : Int) (r : ms_M) : Prop := (∀ x j : Nat, ¬ (x = 160 ∧ (j = 120 ∨ j = 131)) → x ≠ 245 → r x j = f x j) ∧ r 160 131 = f 160 131 - m ∧ (0 ≤ m ∧ m ≤ f 160 131)
/-- m values are taken, and one of type t comes -/
def PS1 (f : ms_M) (m t : Int) (r : ms_M) : Prop := (∀ x j : Nat, ¬ (x = 160 ∧ (j = 120 ∨ j = 131)) → x ≠ 245 → ¬ (x = 244 ∧ j = (f 160 131 - m).toNat) → r x j = f x j) ∧ r 160 131 = f 160 131 - m + 1 ∧ (0 ≤ m ∧ m ≤ f 160 131) ∧ f 160 131 - m < f 160 130 ∧ r 244 (f 160 131 - m).toNat = t
/-- the top goes to local i -/
def STO (f : ms_M) (i : Int) (r : ms_M) : Prop := (∀ x j : Nat, ¬ (x = 160 ∧ j = 131) → ¬ (x = 243 ∧ j = i.toNat) → r x j = f x j) ∧ (0 ≤ i ∧ i < f 160 129) ∧ 1 ≤ f 160 131 ∧ r 160 131 = f 160 131 - 1 ∧ r 243 i.toNat = tp f 0
theorem pop_nfl {m : Int} (P : POP f m r) : NFl f r := fun x j a b => P.1 x j (by omega) (by omega)
theorem ps1_nfl {m t : Int} (P : PS1 f m t r) : NFl f r := fun x j a b => P.1 x j (by omega) (by omega) (by omega)
theorem sto_nfl {i : Int} (P : STO f i r) : NFl f r := fun x j a b => P.1 x j (by omega) (by omega)
theorem pop_rf (V : VS_ f) : POP f 0 f := ⟨fun _ _ _ _ => rfl, by omega, by omega, (gF_160_131 V).1⟩
theorem pop_12 {m : Int} (P : POP f m r) (N : N12 r z) : POP f m z := ⟨fun x j a b => (N x j (by omega)).trans (P.1 x j a b), by rw [N 160 131 (by decide)]; exact P.2.1, P.2.2⟩
theorem pop_lgt {m : Int} (P : POP f m r) (L : LGT f) (S : SGT f) : LGT r ∧ SGT r := by
  have A := nfl_agd (pop_nfl P)
  have p := P.2
  refine ⟨fun x a b => ?_, ?_, fun x a b => ?_⟩
  · rw [P.1 243 _ (by omega) (by decide)]
    rw [P.1 160 129 (by decide) (by decide)] at b
    exact gts_c A (L x a b)
  · rw [P.1 160 130 (by decide) (by decide)]; have := S.1; omega
  · rw [P.1 244 _ (by omega) (by decide)]
    exact gts_c A (S.2 x a (by omega))
theorem ps1_lgt {m t : Int} (P : PS1 f m t r) (G : GTs f t) (L : LGT f) (S : SGT f) : LGT r ∧ SGT r := by
  have A := nfl_agd (ps1_nfl P)
  have p := P.2
  refine ⟨fun x a b => ?_, ?_, fun x a b => ?_⟩
  · rw [P.1 243 _ (by omega) (by decide) (by omega)]
    rw [P.1 160 129 (by decide) (by decide) (by omega)] at b
    exact gts_c A (L x a b)
  · rw [P.1 160 130 (by decide) (by decide) (by omega)]; omega
  · by_cases y : x = f 160 131 - m
    · rw [y, p.2.2.2]; exact gts_c A G
    · rw [P.1 244 _ (by omega) (by decide) (by omega)]
      exact gts_c A (S.2 x a (by omega))
theorem sto_lgt {i : Int} (P : STO f i r) (L : LGT f) (S : SGT f) : LGT r ∧ SGT r := by
  have A := nfl_agd (sto_nfl P)
  have p := P.2
  refine ⟨fun x a b => ?_, ?_, fun x a b => ?_⟩
  · rw [P.1 160 129 (by decide) (by omega)] at b
    by_cases y : x = i
    · rw [y, p.2.2.2]; exact gts_c A (S.2 _ (by omega) (by omega))
    · rw [P.1 243 _ (by omega) (by omega)]
      exact gts_c A (L x a b)
  · rw [P.1 160 130 (by decide) (by omega)]; have := S.1; omega
  · rw [P.1 244 _ (by omega) (by omega)]
    exact gts_c A (S.2 x a (by omega))
theorem x_pull (V : VS_ r) {m : Int} (P : POP f m r) (S : SGT f) : Ok_ (qf_X13_pull nn r) (fun u => VS_ u.2 ∧ ((u.1 = -1 ∧ POP f m u.2) ∨ (POP f (m + 1) u.2 ∧ u.1 = tp f m ∧ GTs f u.1))) := by
  have g131 := gF_160_131 V
  have p := P.2
  unfold qf_X13_pull
  refine ok_if (fun C => ?_) (fun C => ok_ret ⟨V, .inl ⟨rfl, P⟩⟩)
  refine ok_sub (by omega) ?_; intro v3 e3
  refine ok_xl ?_; intro h4 E4
  have V4 : VS_ h4 := by rw [E4]; exact wF_160_131 V (by omega)
  have f131 : h4 160 131 = v3 := by rw [E4, up_s]
  rw [f131]
  refine ok_rd (by omega) (gA_244 V4) ?_; intro v7 e7 _ _
  have q7 : v7 = tp f m := by
    unfold tp
    rw [e7, E4, up_n (by omega), P.1 244 _ (by omega) (by decide), show v3 = f 160 131 - 1 - m by omega]
  refine ok_ret ⟨V4, .inr ⟨⟨fun x j a b => ?_, by show h4 160 131 = _; omega, by omega⟩, q7, ?_⟩⟩
  · show h4 x j = f x j
    rw [E4, up_n (by omega)]; exact P.1 x j a b
  · show GTs f v7
    rw [q7]
    exact S.2 _ (by omega) (by omega)
theorem x_ints (V : VS_ r) {m n : Int} (hn : 1000000 ≤ nn) (hn2 : 0 ≤ n ∧ n ≤ 2) (P : POP f m r) (S : SGT f) : Ok_ (qf_X13_pullInts nn n r) (fun u => VS_ u.2 ∧ ((u.1 = 0 ∧ NFl f u.2) ∨ (u.1 = 1 ∧ POP f (m + n) u.2 ∧ ∀ y : Int, m ≤ y → y < m + n → tp f y = 1))) := by
  have L : ∀ (j : Nat) (l : Int) (r : ms_M), VS_ r → (0 ≤ l ∧ l ≤ n) → POP f (m + l) r → (∀ y : Int, m ≤ y → y < m + l → tp f y = 1) → n - l < (j : Int) → Ok_ (qw_X13_pullInts_2 nn j n l r) (fun u => VS_ u.2 ∧ ((u.1 = 0 ∧ NFl f u.2) ∨ (u.1 = 1 ∧ POP f (m + n) u.2 ∧ ∀ y : Int, m ≤ y → y < m + n → tp f y = 1))) := by
    intro j
    induction j with
    | zero => intro l r V a P T hm; exfalso; omega
    | succ j ih =>
      intro l r V a P T hm
      unfold qw_X13_pullInts_2
      refine ok_if (fun C => ?_) (fun C => ?_)
      · have e : l = n := by omega
        rw [e] at P T
        exact ok_ret ⟨V, .inr ⟨rfl, P, T⟩⟩
      refine ok_sv (x_pull V P S) ?_; intro u2 P2
      refine ok_if (fun D => ?_) (fun D => ?_)
      · rcases P2.2 with q | ⟨q1, q2, q3⟩
        · exfalso; omega
        · refine ok_add (by omega) ?_; intro v3 e3
          rw [e3]
          rw [show m + l + 1 = m + (l + 1) by omega] at q1
          refine ih (l + 1) u2.2 P2.1 (by omega) q1 (fun y y1 y2 => ?_) (by omega)
          by_cases y0 : y = m + l
          · rw [y0, ← q2]; exact D
          · exact T y y1 (by omega)
      · refine ok_ret ⟨P2.1, .inl ⟨rfl, ?_⟩⟩
        rcases P2.2 with q | q
        · exact pop_nfl q.2
        · exact pop_nfl q.1
  unfold qf_X13_pullInts
  exact L nn 0 r V (by omega) (by rw [show m + 0 = m by omega]; exact P) (fun y y1 y2 => by exfalso; omega) (by omega)
theorem x_thing (V : VS_ r) {m : Int} (P : POP f m r) (S : SGT f) : Ok_ (qf_X13_pullThing nn r) (fun u => VS_ u.2 ∧ ((u.1 = 0 ∧ NFl f u.2) ∨ (u.1 = 1 ∧ POP f (m + 1) u.2 ∧ 2 ≤ tp f m))) := by
  unfold qf_X13_pullThing
  refine ok_sv (x_pull V P S) ?_; intro u2 P2
  refine ok_if (fun D => ?_) (fun D => ?_)
  · refine ok_ret ⟨P2.1, .inl ⟨rfl, ?_⟩⟩
    rcases P2.2 with q | q
    · exact pop_nfl q.2
    · exact pop_nfl q.1
  · rcases P2.2 with q | ⟨q1, q2, q3⟩
    · exfalso; omega
    · exact ok_ret ⟨P2.1, .inr ⟨rfl, q1, by omega⟩⟩
theorem x_fit (hn : 1000000 ≤ nn) (V0 : VS_ f) (S0 : SPD f) (V : VS_ r) {m t : Int} (P : POP f m r) (S : SGT f) (ht : 0 ≤ t ∧ t ≤ 2147483647) : Ok_ (qf_X13_pullFit nn t r) (fun u => VS_ u.2 ∧ ((u.1 = 0 ∧ NFl f u.2) ∨ (u.1 = 1 ∧ POP f (m + 1) u.2 ∧ GOt nn f (tp f m) t))) := by
  unfold qf_X13_pullFit
  refine ok_sv (x_pull V P S) ?_; intro u2 P2
  refine ok_if (fun D => ?_) (fun D => ?_)
  · refine ok_ret ⟨P2.1, .inl ⟨rfl, ?_⟩⟩
    rcases P2.2 with q | q
    · exact pop_nfl q.2
    · exact pop_nfl q.1
  · rcases P2.2 with q | ⟨q1, q2, q3⟩
    · exact absurd q.1 D
    have A := nfl_agd (pop_nfl q1)
    refine ok_sv (rg_goes hn P2.1 (agd_spd V0 A S0) (gts_y P2.1 (gts_c A q3)) ht) ?_; intro u4 P4
    refine ok_if (fun _ => ok_ret ⟨P2.1, .inl ⟨rfl, pop_nfl q1⟩⟩) (fun E => ok_ret ⟨P2.1, .inr ⟨rfl, q1, ?_⟩⟩)
    have := got_c (agd_sy A) (P4.2 E)
    rw [q2] at this
    exact this
theorem x_back (V : VS_ r) {m t : Int} (P : POP f m r) (S : SGT f) (ht : GTs f t) (b130 : f 160 130 ≤ 30) (b98 : f 160 98 ≤ 8) : Ok_ (qf_X13_comesBack nn t r) (fun u => VS_ u.2 ∧ ((u.1 = 0 ∧ NFl f u.2) ∨ (u.1 = 1 ∧ PS1 f m t u.2))) := by
  have p := P.2
  have e130 : r 160 130 = f 160 130 := P.1 160 130 (by decide) (by decide)
  have g131 := gF_160_131 V
  have ht' : 0 ≤ t ∧ t < 20 + 2 * f 160 98 := ht
  unfold qf_X13_comesBack
  refine ok_if (fun C => ?_) (fun C => ok_ret ⟨V, .inl ⟨rfl, pop_nfl P⟩⟩)
  refine ok_wA (by omega) ?_; intro h5 E5
  have V5 : VS_ h5 := by rw [E5]; exact wA_244 V (by omega)
  have e5 : h5 160 131 = r 160 131 := by rw [E5, up_n (by omega)]
  refine ok_add (by omega) ?_; intro v7 e7
  refine ok_xl ?_; intro h8 E8
  have V8 : VS_ h8 := by rw [E8]; exact wF_160_131 V5 (by omega)
  have ei : (r 160 131).toNat = (f 160 131 - m).toNat := by omega
  rw [ei] at E5
  refine ok_ret ⟨V8, .inr ⟨rfl, fun x j a b d => ?_, by show h8 160 131 = _; rw [E8, up_s]; omega, by omega, by omega, ?_⟩⟩
  · show h8 x j = f x j
    rw [E8, up_n (by omega), E5, up_n (by omega)]; exact P.1 x j a b
  · show h8 244 _ = t
    rw [E8, up_n (by omega), E5, up_s]
/-- what wanted leaves -/
def WQ (f : ms_M) (F : ms_M → Prop) (u : Int × ms_M) : Prop := VS_ u.2 ∧ NFl f u.2 ∧ (u.1 = 0 ∨ u.1 = 1) ∧ (¬ u.1 = 0 → (LGT u.2 ∧ SGT u.2) ∧ F u.2)
theorem wq_0 {F : ms_M → Prop} (V : VS_ r) (N : NFl f r) : Ok_ (some ((0 : Int), r)) (WQ f F) := ok_ret ⟨V, N, .inl rfl, fun y => absurd rfl y⟩
theorem wq_1 {F : ms_M → Prop} (V : VS_ r) (N : NFl f r) (T : LGT r ∧ SGT r) (y : F r) : Ok_ (some ((1 : Int), r)) (WQ f F) := ok_ret ⟨V, N, .inr rfl, fun _ => ⟨T, y⟩⟩
theorem wq_pop {F : ms_M → Prop} {m : Int} (V : VS_ r) (P : POP f m r) (L : LGT f) (S : SGT f) (y : F r) : Ok_ (some ((1 : Int), r)) (WQ f F) := wq_1 V (pop_nfl P) (pop_lgt P L S) y
/-- the last step: a value comes -/
theorem wq_b1 {F : ms_M → Prop} {m t : Int} (V : VS_ r) (P : POP f m r) (L : LGT f) (S : SGT f) (ht : GTs f t) (b130 : f 160 130 ≤ 30) (b98 : f 160 98 ≤ 8) (y : ∀ z : ms_M, PS1 f m t z → F z) : Ok_ (mx_sv (qf_X13_comesBack nn t r) fun u => if u.1 = 0 then (some (0, u.2)) else (some (1, u.2))) (WQ f F) := by
  refine ok_sv (x_back V P S ht b130 b98) ?_; intro u Q
  refine ok_if (fun C => ?_) (fun C => ?_)
  · rcases Q.2 with q | q
    · exact wq_0 Q.1 q.2
    · have := q.1; exfalso; omega
  · rcases Q.2 with q | q
    · exact absurd q.1 C
    · exact wq_1 Q.1 (ps1_nfl q.2) (ps1_lgt q.2 ht L S) (y _ q.2)
theorem wq_b2 {F : ms_M → Prop} {m t : Int} (V : VS_ r) (P : POP f m r) (L : LGT f) (S : SGT f) (ht : GTs f t) (b130 : f 160 130 ≤ 30) (b98 : f 160 98 ≤ 8) (y : ∀ z : ms_M, PS1 f m t z → F z) : Ok_ (mx_sv (qf_X13_comesBack nn t r) fun u => ck_B (u.1 = 0 ∨ u.1 = 1) <| some (u.1, u.2)) (WQ f F) := by
  refine ok_sv (x_back V P S ht b130 b98) ?_; intro u Q
  rcases Q.2 with q | q
  · refine ok_ck (.inl q.1) (ok_ret ⟨Q.1, q.2, .inl q.1, fun y => absurd q.1 y⟩)
  · refine ok_ck (.inr q.1) (ok_ret ⟨Q.1, ps1_nfl q.2, .inr q.1, fun _ => ⟨ps1_lgt q.2 ht L S, y _ q.2⟩⟩)
/-- a call: what it takes and leaves -/
def CLL (nn : Nat) (f : ms_M) (ω : Int → ms_M) (c : Int) (w : ms_M) (op i : Int) (r : ms_M) : Prop := ∃ (u b j m : Int) (L : Int → Int) (q t : Int), (MRF nn f ω c w i 1 u b j ∧ ω (b - 8) 238 (f 235 (12 * (b - 8) + j).toNat).toNat = (if op = 184 then 1 else 0)) ∧ TKV nn f c w (w 238 (pl w c i + 1 + 2).toNat) m L q t ∧ (∀ y : Int, 0 ≤ y → y < m → GOt nn f (tp f (m - 1 - y)) (L y)) ∧ ((op = 184 ∧ ((t = 0 ∧ POP f m r) ∨ (¬ t = 0 ∧ PS1 f m t r))) ∨ (¬ op = 184 ∧ GOt nn f (tp f m) (4 + 2 * u) ∧ ((t = 0 ∧ POP f (m + 1) r) ∨ (¬ t = 0 ∧ PS1 f (m + 1) t r))))
/-- what instruction op with operand i wants of f and leaves as r; rt: the type of the method's result -/
def WN (nn : Nat) (f : ms_M) (ω : Int → ms_M) (c : Int) (w : ms_M) (rt op i : Int) (r : ms_M) : Prop := ((op = 0 ∨ op = 167) ∧ POP f 0 r) ∨ (op = 1 ∧ PS1 f 0 2 r) ∨ (((2 ≤ op ∧ op ≤ 8) ∨ op = 16 ∨ op = 18) ∧ PS1 f 0 1 r) ∨ (op = 21 ∧ (i < f 160 129 ∧ f 243 i.toNat = 1) ∧ PS1 f 0 1 r) ∨ (op = 25 ∧ (i < f 160 129 ∧ 2 ≤ f 243 i.toNat) ∧ PS1 f 0 (f 243 i.toNat) r) ∨ (((op = 54 ∧ tp f 0 = 1) ∨ (op = 58 ∧ 2 ≤ tp f 0)) ∧ STO f i r) ∨ (op = 46 ∧ tp f 0 = 1 ∧ (tp f 1 = 3 ∨ tp f 1 = 2) ∧ PS1 f 2 1 r) ∨ (op = 50 ∧ tp f 0 = 1 ∧ ((tp f 1 = 2 ∧ PS1 f 2 2 r) ∨ ((4 ≤ tp f 1 ∧ tp f 1 % 2 = 1) ∧ PS1 f 2 (tp f 1 - 1) r))) ∨ (op = 79 ∧ tp f 0 = 1 ∧ tp f 1 = 1 ∧ (tp f 2 = 3 ∨ tp f 2 = 2) ∧ POP f 3 r) ∨ (op = 83 ∧ 2 ≤ tp f 0 ∧ tp f 1 = 1 ∧ (tp f 2 = 2 ∨ (4 ≤ tp f 2 ∧ tp f 2 % 2 = 1)) ∧ POP f 3 r) ∨ (op = 87 ∧ POP f 1 r) ∨ (op = 89 ∧ 1 ≤ f 160 131 ∧ PS1 f 0 (tp f 0) r) ∨ ((op = 96 ∨ op = 100 ∨ op = 104 ∨ op = 108 ∨ op = 112 ∨ op = 120 ∨ op = 122 ∨ op = 124 ∨ op = 126 ∨ op = 128 ∨ op = 130) ∧ tp f 0 = 1 ∧ tp f 1 = 1 ∧ PS1 f 2 1 r) ∨ (op = 116 ∧ tp f 0 = 1 ∧ PS1 f 1 1 r) ∨ ((op = 153 ∨ op = 154 ∨ op = 186) ∧ tp f 0 = 1 ∧ POP f 1 r) ∨ ((159 ≤ op ∧ op ≤ 164) ∧ tp f 0 = 1 ∧ tp f 1 = 1 ∧ POP f 2 r) ∨ ((op = 165 ∨ op = 166) ∧ 2 ≤ tp f 0 ∧ 2 ≤ tp f 1 ∧ POP f 2 r) ∨ (op = 172 ∧ rt = 1 ∧ tp f 0 = 1 ∧ POP f 1 r) ∨ (op = 176 ∧ 2 ≤ rt ∧ GOt nn f (tp f 0) rt ∧ POP f 1 r) ∨ (op = 177 ∧ rt = 0 ∧ POP f 0 r) ∨ (op = 180 ∧ (∃ u b j s : Int, MRF nn f ω c w i 0 u b j ∧ TKU nn f c w (w 238 (pl w c i + 1 + 2).toNat) s ∧ GOt nn f (tp f 0) (4 + 2 * u) ∧ PS1 f 1 s r)) ∨ (op = 181 ∧ (∃ u b j s : Int, MRF nn f ω c w i 0 u b j ∧ TKU nn f c w (w 238 (pl w c i + 1 + 2).toNat) s ∧ GOt nn f (tp f 0) s ∧ GOt nn f (tp f 1) (4 + 2 * u) ∧ POP f 2 r)) ∨ ((op = 182 ∨ op = 184) ∧ CLL nn f ω c w op i r) ∨ (op = 187 ∧ (∃ u : Int, ((0 ≤ u ∧ u < 8 + f 160 98) ∧ CL w c i ∧ CTv nn f c w i (4 + 2 * u)) ∧ PS1 f 0 (4 + 2 * u) r)) ∨ (op = 188 ∧ tp f 0 = 1 ∧ PS1 f 1 3 r) ∨ (op = 189 ∧ (tp f 0 = 1 ∧ ∃ u : Int, ((0 ≤ u ∧ u < 8 + f 160 98) ∧ CL w c i ∧ CTv nn f c w i (4 + 2 * u)) ∧ PS1 f 1 (5 + 2 * u) r)) ∨ (op = 190 ∧ (tp f 0 = 2 ∨ tp f 0 = 3 ∨ (4 ≤ tp f 0 ∧ tp f 0 % 2 = 1)) ∧ PS1 f 1 1 r) ∨ (op = 191 ∧ GOt nn f (tp f 0) 6 ∧ POP f 1 r) ∨ (op = 192 ∧ (2 ≤ tp f 0 ∧ ∃ u : Int, ((0 ≤ u ∧ u < 8 + f 160 98) ∧ CL w c i ∧ CTv nn f c w i (4 + 2 * u)) ∧ PS1 f 1 (4 + 2 * u) r)) ∨ (op = 193 ∧ (2 ≤ tp f 0 ∧ ∃ u : Int, ((0 ≤ u ∧ u < 8 + f 160 98) ∧ CL w c i ∧ CTv nn f c w i (4 + 2 * u)) ∧ PS1 f 1 1 r))
theorem wnt_0 {rt op i : Int} (p : (op = 0 ∨ op = 167) ∧ POP f 0 r) : WN nn f ω c w rt op i r := .inl p
theorem wnt_1 {rt op i : Int} (p : op = 1 ∧ PS1 f 0 2 r) : WN nn f ω c w rt op i r := .inr (.inl p)
theorem wnt_2 {rt op i : Int} (p : ((2 ≤ op ∧ op ≤ 8) ∨ op = 16 ∨ op = 18) ∧ PS1 f 0 1 r) : WN nn f ω c w rt op i r := .inr (.inr (.inl p))
theorem wnt_3 {rt op i : Int} (p : op = 21 ∧ (i < f 160 129 ∧ f 243 i.toNat = 1) ∧ PS1 f 0 1 r) : WN nn f ω c w rt op i r := .inr (.inr (.inr (.inl p)))
theorem wnt_4 {rt op i : Int} (p : op = 25 ∧ (i < f 160 129 ∧ 2 ≤ f 243 i.toNat) ∧ PS1 f 0 (f 243 i.toNat) r) : WN nn f ω c w rt op i r := .inr (.inr (.inr (.inr (.inl p))))
theorem wnt_5 {rt op i : Int} (p : ((op = 54 ∧ tp f 0 = 1) ∨ (op = 58 ∧ 2 ≤ tp f 0)) ∧ STO f i r) : WN nn f ω c w rt op i r := .inr (.inr (.inr (.inr (.inr (.inl p)))))
theorem wnt_6 {rt op i : Int} (p : op = 46 ∧ tp f 0 = 1 ∧ (tp f 1 = 3 ∨ tp f 1 = 2) ∧ PS1 f 2 1 r) : WN nn f ω c w rt op i r := .inr (.inr (.inr (.inr (.inr (.inr (.inl p))))))
theorem wnt_7 {rt op i : Int} (p : op = 50 ∧ tp f 0 = 1 ∧ ((tp f 1 = 2 ∧ PS1 f 2 2 r) ∨ ((4 ≤ tp f 1 ∧ tp f 1 % 2 = 1) ∧ PS1 f 2 (tp f 1 - 1) r))) : WN nn f ω c w rt op i r := .inr (.inr (.inr (.inr (.inr (.inr (.inr (.inl p)))))))
theorem wnt_8 {rt op i : Int} (p : op = 79 ∧ tp f 0 = 1 ∧ tp f 1 = 1 ∧ (tp f 2 = 3 ∨ tp f 2 = 2) ∧ POP f 3 r) : WN nn f ω c w rt op i r := .inr (.inr (.inr (.inr (.inr (.inr (.inr (.inr (.inl p))))))))
theorem wnt_9 {rt op i : Int} (p : op = 83 ∧ 2 ≤ tp f 0 ∧ tp f 1 = 1 ∧ (tp f 2 = 2 ∨ (4 ≤ tp f 2 ∧ tp f 2 % 2 = 1)) ∧ POP f 3 r) : WN nn f ω c w rt op i r := .inr (.inr (.inr (.inr (.inr (.inr (.inr (.inr (.inr (.inl p)))))))))
theorem wnt_10 {rt op i : Int} (p : op = 87 ∧ POP f 1 r) : WN nn f ω c w rt op i r := .inr (.inr (.inr (.inr (.inr (.inr (.inr (.inr (.inr (.inr (.inl p))))))))))
theorem wnt_11 {rt op i : Int} (p : op = 89 ∧ 1 ≤ f 160 131 ∧ PS1 f 0 (tp f 0) r) : WN nn f ω c w rt op i r := .inr (.inr (.inr (.inr (.inr (.inr (.inr (.inr (.inr (.inr (.inr (.inl p)))))))))))
theorem wnt_12 {rt op i : Int} (p : (op = 96 ∨ op = 100 ∨ op = 104 ∨ op = 108 ∨ op = 112 ∨ op = 120 ∨ op = 122 ∨ op = 124 ∨ op = 126 ∨ op = 128 ∨ op = 130) ∧ tp f 0 = 1 ∧ tp f 1 = 1 ∧ PS1 f 2 1 r) : WN nn f ω c w rt op i r := .inr (.inr (.inr (.inr (.inr (.inr (.inr (.inr (.inr (.inr (.inr (.inr (.inl p))))))))))))
theorem wnt_13 {rt op i : Int} (p : op = 116 ∧ tp f 0 = 1 ∧ PS1 f 1 1 r) : WN nn f ω c w rt op i r := .inr (.inr (.inr (.inr (.inr (.inr (.inr (.inr (.inr (.inr (.inr (.inr (.inr (.inl p)))))))))))))
theorem wnt_14 {rt op i : Int} (p : (op = 153 ∨ op = 154 ∨ op = 186) ∧ tp f 0 = 1 ∧ POP f 1 r) : WN nn f ω c w rt op i r := .inr (.inr (.inr (.inr (.inr (.inr (.inr (.inr (.inr (.inr (.inr (.inr (.inr (.inr (.inl p))))))))))))))
theorem wnt_15 {rt op i : Int} (p : (159 ≤ op ∧ op ≤ 164) ∧ tp f 0 = 1 ∧ tp f 1 = 1 ∧ POP f 2 r) : WN nn f ω c w rt op i r := .inr (.inr (.inr (.inr (.inr (.inr (.inr (.inr (.inr (.inr (.inr (.inr (.inr (.inr (.inr (.inl p)))))))))))))))
theorem wnt_16 {rt op i : Int} (p : (op = 165 ∨ op = 166) ∧ 2 ≤ tp f 0 ∧ 2 ≤ tp f 1 ∧ POP f 2 r) : WN nn f ω c w rt op i r := .inr (.inr (.inr (.inr (.inr (.inr (.inr (.inr (.inr (.inr (.inr (.inr (.inr (.inr (.inr (.inr (.inl p))))))))))))))))
theorem wnt_17 {rt op i : Int} (p : op = 172 ∧ rt = 1 ∧ tp f 0 = 1 ∧ POP f 1 r) : WN nn f ω c w rt op i r := .inr (.inr (.inr (.inr (.inr (.inr (.inr (.inr (.inr (.inr (.inr (.inr (.inr (.inr (.inr (.inr (.inr (.inl p)))))))))))))))))
theorem wnt_18 {rt op i : Int} (p : op = 176 ∧ 2 ≤ rt ∧ GOt nn f (tp f 0) rt ∧ POP f 1 r) : WN nn f ω c w rt op i r := .inr (.inr (.inr (.inr (.inr (.inr (.inr (.inr (.inr (.inr (.inr (.inr (.inr (.inr (.inr (.inr (.inr (.inr (.inl p))))))))))))))))))
theorem wnt_19 {rt op i : Int} (p : op = 177 ∧ rt = 0 ∧ POP f 0 r) : WN nn f ω c w rt op i r := .inr (.inr (.inr (.inr (.inr (.inr (.inr (.inr (.inr (.inr (.inr (.inr (.inr (.inr (.inr (.inr (.inr (.inr (.inr (.inl p)))))))))))))))))))
theorem wnt_20 {rt op i : Int} (p : op = 180 ∧ (∃ u b j s : Int, MRF nn f ω c w i 0 u b j ∧ TKU nn f c w (w 238 (pl w c i + 1 + 2).toNat) s ∧ GOt nn f (tp f 0) (4 + 2 * u) ∧ PS1 f 1 s r)) : WN nn f ω c w rt op i r := .inr (.inr (.inr (.inr (.inr (.inr (.inr (.inr (.inr (.inr (.inr (.inr (.inr (.inr (.inr (.inr (.inr (.inr (.inr (.inr (.inl p))))))))))))))))))))
theorem wnt_21 {rt op i : Int} (p : op = 181 ∧ (∃ u b j s : Int, MRF nn f ω c w i 0 u b j ∧ TKU nn f c w (w 238 (pl w c i + 1 + 2).toNat) s ∧ GOt nn f (tp f 0) s ∧ GOt nn f (tp f 1) (4 + 2 * u) ∧ POP f 2 r)) : WN nn f ω c w rt op i r := .inr (.inr (.inr (.inr (.inr (.inr (.inr (.inr (.inr (.inr (.inr (.inr (.inr (.inr (.inr (.inr (.inr (.inr (.inr (.inr (.inr (.inl p)))))))))))))))))))))
theorem wnt_22 {rt op i : Int} (p : (op = 182 ∨ op = 184) ∧ CLL nn f ω c w op i r) : WN nn f ω c w rt op i r := .inr (.inr (.inr (.inr (.inr (.inr (.inr (.inr (.inr (.inr (.inr (.inr (.inr (.inr (.inr (.inr (.inr (.inr (.inr (.inr (.inr (.inr (.inl p))))))))))))))))))))))
theorem wnt_23 {rt op i : Int} (p : op = 187 ∧ (∃ u : Int, ((0 ≤ u ∧ u < 8 + f 160 98) ∧ CL w c i ∧ CTv nn f c w i (4 + 2 * u)) ∧ PS1 f 0 (4 + 2 * u) r)) : WN nn f ω c w rt op i r := .inr (.inr (.inr (.inr (.inr (.inr (.inr (.inr (.inr (.inr (.inr (.inr (.inr (.inr (.inr (.inr (.inr (.inr (.inr (.inr (.inr (.inr (.inr (.inl p)))))))))))))))))))))))
theorem wnt_24 {rt op i : Int} (p : op = 188 ∧ tp f 0 = 1 ∧ PS1 f 1 3 r) : WN nn f ω c w rt op i r := .inr (.inr (.inr (.inr (.inr (.inr (.inr (.inr (.inr (.inr (.inr (.inr (.inr (.inr (.inr (.inr (.inr (.inr (.inr (.inr (.inr (.inr (.inr (.inr (.inl p))))))))))))))))))))))))
theorem wnt_25 {rt op i : Int} (p : op = 189 ∧ (tp f 0 = 1 ∧ ∃ u : Int, ((0 ≤ u ∧ u < 8 + f 160 98) ∧ CL w c i ∧ CTv nn f c w i (4 + 2 * u)) ∧ PS1 f 1 (5 + 2 * u) r)) : WN nn f ω c w rt op i r := .inr (.inr (.inr (.inr (.inr (.inr (.inr (.inr (.inr (.inr (.inr (.inr (.inr (.inr (.inr (.inr (.inr (.inr (.inr (.inr (.inr (.inr (.inr (.inr (.inr (.inl p)))))))))))))))))))))))))
theorem wnt_26 {rt op i : Int} (p : op = 190 ∧ (tp f 0 = 2 ∨ tp f 0 = 3 ∨ (4 ≤ tp f 0 ∧ tp f 0 % 2 = 1)) ∧ PS1 f 1 1 r) : WN nn f ω c w rt op i r := .inr (.inr (.inr (.inr (.inr (.inr (.inr (.inr (.inr (.inr (.inr (.inr (.inr (.inr (.inr (.inr (.inr (.inr (.inr (.inr (.inr (.inr (.inr (.inr (.inr (.inr (.inl p))))))))))))))))))))))))))
theorem wnt_27 {rt op i : Int} (p : op = 191 ∧ GOt nn f (tp f 0) 6 ∧ POP f 1 r) : WN nn f ω c w rt op i r := .inr (.inr (.inr (.inr (.inr (.inr (.inr (.inr (.inr (.inr (.inr (.inr (.inr (.inr (.inr (.inr (.inr (.inr (.inr (.inr (.inr (.inr (.inr (.inr (.inr (.inr (.inr (.inl p)))))))))))))))))))))))))))
theorem wnt_28 {rt op i : Int} (p : op = 192 ∧ (2 ≤ tp f 0 ∧ ∃ u : Int, ((0 ≤ u ∧ u < 8 + f 160 98) ∧ CL w c i ∧ CTv nn f c w i (4 + 2 * u)) ∧ PS1 f 1 (4 + 2 * u) r)) : WN nn f ω c w rt op i r := .inr (.inr (.inr (.inr (.inr (.inr (.inr (.inr (.inr (.inr (.inr (.inr (.inr (.inr (.inr (.inr (.inr (.inr (.inr (.inr (.inr (.inr (.inr (.inr (.inr (.inr (.inr (.inr (.inl p))))))))))))))))))))))))))))
theorem wnt_29 {rt op i : Int} (p : op = 193 ∧ (2 ≤ tp f 0 ∧ ∃ u : Int, ((0 ≤ u ∧ u < 8 + f 160 98) ∧ CL w c i ∧ CTv nn f c w i (4 + 2 * u)) ∧ PS1 f 1 1 r)) : WN nn f ω c w rt op i r := .inr (.inr (.inr (.inr (.inr (.inr (.inr (.inr (.inr (.inr (.inr (.inr (.inr (.inr (.inr (.inr (.inr (.inr (.inr (.inr (.inr (.inr (.inr (.inr (.inr (.inr (.inr (.inr (.inr (p)))))))))))))))))))))))))))))
end
end
section
section
variable {nn : Nat} {h g r z w v x f : ms_M} {c d e k : Int} {ω : Int → ms_M}
theorem wd_3 {a : Int} (p : WD a = 3) : 153 ≤ a ∧ a ≤ 167 := by
  have L : Ok_ (qf_X13_widthOf 0 a (fun _ _ => 0)) (fun u => u = 3 → 153 ≤ a ∧ a ≤ 167) := by
    unfold qf_X13_widthOf qj_X13_widthOf_736 qj_X13_widthOf_738 qj_X13_widthOf_740 qj_X13_widthOf_742
    repeat' (first | exact ok_ret (fun _ => by omega) | exact ok_ret (fun q => absurd q (by decide)) | (refine ok_if (fun _ => ?_) (fun _ => ?_)))
  obtain ⟨u, e, P⟩ := L
  unfold WD at p
  rw [e] at p
  exact P p
/-- all classes are good -/
def CLA (nn : Nat) (h : ms_M) (ω : Int → ms_M) : Prop := ∀ k : Int, 8 ≤ k → k < 8 + h 160 98 → CLK nn h ω k
theorem cla_c (A : AGd h g) (C : CLA nn h ω) : CLA nn g ω := fun k a b => clk_c A (C k a (by rw [A.2.1] at b; exact b))
theorem mrf_c (A : AGd h g) {i s u b j : Int} (R : MRF nn h ω c w i s u b j) : MRF nn g ω c w i s u b j := by
  obtain ⟨r1, ⟨r2, r3⟩, r4, r5, r6, r7⟩ := R
  exact ⟨r1, ⟨by rw [A.2.1]; exact r2, ctv_c (agd_c A) r3⟩, hsn_c A _ _ _ _ r4, by rw [A.2.1]; exact r5, by rw [mem_c A]; exact r6, by rw [kdT_c A]; exact r7⟩
/-- the kind that a member's constant says is the holder's: a field's -/
theorem mrf_u (V : VS_ f) (OW : OM f ω) (CA : CLA nn f ω) (hc : 0 ≤ c ∧ c ≤ 7) (W : WI f c w) {i u b j : Int} (R : MRF nn f ω c w i 0 u b j) : ∃ t : Int, TKU nn f (b - 8) (ω (b - 8)) (kdT f ω (b - 8) 0 j) t ∧ TKU nn f c w (w 238 (pl w c i + 1 + 2).toNat) t ∧ TX w c (w 238 (pl w c i + 1 + 2).toNat) := by
  have g98 := gF_160_98 V
  obtain ⟨st, _, _, rb, rj, eq⟩ := R
  have X := OW (b - 8) (by omega) (by omega)
  have hd : 0 ≤ b - 8 ∧ b - 8 ≤ 7 := by omega
  have ck := (W.2.1.2.2 i st.1.1 st.1.2).2 st.2
  have tx : TX w c (w 238 (pl w c i + 1 + 2).toNat) := by rw [show pl w c i + 1 + 2 = pl w c i + 3 by omega]; exact ck.2.2.1
  obtain ⟨j12, _, _, _, t1⟩ := wi_fd X hd (k := j) rj
  have e0 : kdT f ω (b - 8) 0 j = ω (b - 8) 238 (f 233 (12 * (b - 8) + j).toNat + 1).toNat := rfl
  rw [← e0] at t1
  have kd := t1.2.2.1 rfl
  have kf := (CA b rb.1 rb.2).2.2.1.1 j rj.1 rj.2
  rw [← e0] at kf
  obtain ⟨t, kt⟩ := ktv_ex (.inr kd) kf
  exact ⟨t, ⟨kd, kt⟩, tku_p X W hd hc t1.1 tx eq ⟨kd, kt⟩, tx⟩
/-- the same of a method's -/
theorem mrf_v (V : VS_ f) (OW : OM f ω) (CA : CLA nn f ω) (hc : 0 ≤ c ∧ c ≤ 7) (W : WI f c w) {i u b j : Int} (R : MRF nn f ω c w i 1 u b j) : ∃ (m : Int) (L : Int → Int) (q t q2 : Int), TKV nn f (b - 8) (ω (b - 8)) (kdT f ω (b - 8) 1 j) m L q t ∧ TKV nn f c w (w 238 (pl w c i + 1 + 2).toNat) m L q2 t ∧ TX w c (w 238 (pl w c i + 1 + 2).toNat) := by
  have g98 := gF_160_98 V
  obtain ⟨st, _, _, rb, rj, eq⟩ := R
  have X := OW (b - 8) (by omega) (by omega)
  have hd : 0 ≤ b - 8 ∧ b - 8 ≤ 7 := by omega
  have ck := (W.2.1.2.2 i st.1.1 st.1.2).2 st.2
  have tx : TX w c (w 238 (pl w c i + 1 + 2).toNat) := by rw [show pl w c i + 1 + 2 = pl w c i + 3 by omega]; exact ck.2.2.1
  obtain ⟨j12, _, mt⟩ := wi_mt X hd (k := j) rj
  have t1 := (mth_tx mt).2
  have e0 : kdT f ω (b - 8) 1 j = ω (b - 8) 238 (f 235 (12 * (b - 8) + j).toNat + 2).toNat := rfl
  rw [← e0] at t1
  have kf := (CA b rb.1 rb.2).2.2.1.2 j rj.1 rj.2
  rw [← e0] at kf
  obtain ⟨m, L, q, t, kt⟩ := mkv_of kf
  obtain ⟨q2, k2⟩ := tkv_p X W hd hc t1.1 tx eq (m := m) (L := L) (q := q) (t := t) kt
  exact ⟨m, L, q, t, q2, kt, k2, tx⟩
theorem fit_245 {t : Int} : Pc (qf_X13_pullFit nn t r) (fun u => ∀ y : Nat, u.2 245 y = r 245 y) := by
  unfold qf_X13_pullFit
  refine pc_sv (P := fun u => ∀ y : Nat, u.2 245 y = r 245 y) ?_ ?_
  · unfold qf_X13_pull
    refine pc_if (fun _ => ?_) (fun _ => pc_ret (fun _ => rfl))
    refine pc_xl ?_; intro v3 _
    refine pc_xl ?_; intro h4 E4
    refine pc_rA ?_; intro _ _ v7 _
    exact pc_ret (fun y => by show h4 245 y = r 245 y; rw [E4, up_n (by omega)])
  · intro u2 P2
    refine pc_if (fun _ => pc_ret P2) (fun _ => ?_)
    refine pc_se ?_; intro u4 _
    exact pc_if (fun _ => pc_ret P2) (fun _ => pc_ret P2)
theorem y_129 (hn : 1000000 ≤ nn) (V0 : VS_ f) (M : MC f c k w) (LG : LGT f) (SG : SGT f) {n q e t : Int} {F : ms_M → Prop} (hq : 0 ≤ q) (he : e ≤ w 160 113) (R : RTk (w 238) (q + 1) e) (K : KTv nn f c (w 238) (q + 1) e t) (V : VS_ r) (P : POP f n r) (F0 : ∀ z : ms_M, (t = 0 ∧ POP f n z) ∨ (¬ t = 0 ∧ PS1 f n t z) → F z) : Ok_ (qj_X13_calls_129 nn (6000 * c + q) r) (WQ f F) := by
  have hc := M.1
  have g3 := gF_160_113 M.2.2.1.1
  have g98 := gF_160_98 V0
  have A := nfl_agd (pop_nfl P)
  have Mr : MC r c k w := nfl_mc (pop_nfl P) M
  have lt : q + 1 < e := by
    rcases R with R | R
    · omega
    · have := kd_lt R; omega
  unfold qj_X13_calls_129
  refine ok_add (by omega) ?_; intro v1 e1
  rw [show v1 = 6000 * c + (q + 1) by omega]
  refine ok_sv (rg_typeAt hn V hc Mr.2.2.1 (by omega) he R (ktv_c (agd_c A) K)) ?_; intro u3 P3
  obtain ⟨⟨V3, N3, _, b3⟩, q3⟩ := P3
  have P3 := pop_12 P N3
  refine ok_if (fun C => wq_pop V3 P3 LG SG (F0 _ (.inl ⟨by omega, P3⟩))) (fun C => ?_)
  rw [q3]
  exact wq_b1 V3 P3 LG SG (ktv_rg V0 K) (mc_30 M).2 (by omega) (fun z Z => F0 z (.inr ⟨by omega, Z⟩))
theorem y_calls (hn : 1000000 ≤ nn) (V0 : VS_ f) (S0 : SPD f) (OW : OM f ω) (CA : CLA nn f ω) (M : MC f c k w) (LG : LGT f) (SG : SGT f) {op i st u b j : Int} (hs : (st = 1 ∧ op = 184) ∨ (st = 0 ∧ ¬ op = 184)) (R : MRF nn f ω c w i 1 u b j) (R2 : ω (b - 8) 238 (f 235 (12 * (b - 8) + j).toNat).toNat = (if op = 184 then 1 else 0)) : Ok_ (qf_X13_calls nn i st f) (WQ f (CLL nn f ω c w op i)) := by
  have hc := M.1
  have W := M.2.2.1
  have g3 := gF_160_113 W.1
  have g98 := gF_160_98 V0
  obtain ⟨m, L, _, t, q, _, kv, tx⟩ := mrf_v V0 OW CA hc W R
  have st4 := R.1
  have hcl := R.2.1
  obtain ⟨a1, a2, a3, a4, a5⟩ := wi_tx W hc tx
  have ck := (W.2.1.2.2 i st4.1.1 st4.1.2).2 st4.2
  have cl : CL w c (w 238 (pl w c i + 1 + 0).toNat) := by rw [show pl w c i + 1 + 0 = pl w c i + 1 by omega]; exact ck.1
  have kv0 := kv
  obtain ⟨m6, pv, f41, rt, kt⟩ := kv
  have le := pv_lt _ _ _ _ pv
  have lt : q + 1 < pl w c (w 238 (pl w c i + 1 + 2).toNat) + 2 + w 238 (pl w c (w 238 (pl w c i + 1 + 2).toNat) + 1).toNat := by
    rcases rt with y | y
    · omega
    · have := kd_lt y; omega
  -- the second loop
  have T2 : ∀ (jj : Nat) (l5 : Int) (r : ms_M), VS_ r → (-1 ≤ l5 ∧ l5 < m) → POP f (m - 1 - l5) r → (∀ y : Int, 0 ≤ y → y < m → r 245 y.toNat = L y) → (∀ y : Int, l5 < y → y < m → GOt nn f (tp f (m - 1 - y)) (L y)) → l5 + 1 < (jj : Int) → Ok_ (qw_X13_calls_75 nn jj i st (6000 * c + q) l5 r) (WQ f (CLL nn f ω c w op i)) := by
    intro jj
    induction jj with
    | zero => intro l5 r V a P D T hm; exfalso; omega
    | succ jj ih =>
      intro l5 r V a P D T hm
      have A := nfl_agd (pop_nfl P)
      have Mr : MC r c k w := nfl_mc (pop_nfl P) M
      unfold qw_X13_calls_75
      refine ok_if (fun C => ?_) (fun C => ?_)
      · have e5 : m - 1 - l5 = m := by omega
        rw [e5] at P
        have TT : ∀ y : Int, 0 ≤ y → y < m → GOt nn f (tp f (m - 1 - y)) (L y) := fun y y1 y2 => T y (by omega) y2
        refine ok_if (fun s1 => ?_) (fun s1 => ?_)
        · have o4 : op = 184 := by omega
          exact y_129 hn V0 M LG SG (by omega) (by omega) rt kt V P (fun z Z => ⟨u, b, j, m, L, q, t, ⟨R, R2⟩, kv0, TT, .inl ⟨o4, Z⟩⟩)
        · have o4 : ¬ op = 184 := by omega
          refine ok_sv (mr_part V Mr st4 (by omega)) ?_; intro u10 P10
          rw [Mr.2.2.2.1, P10.1]
          refine ok_sv (rg_typeOf hn V hc Mr.2.2.1 cl (ctv_c (agd_c A) hcl.2)) ?_; intro u12 P12
          obtain ⟨⟨V12, N12', b12⟩, q12⟩ := P12
          rw [q12]
          refine ok_sv (x_fit hn V0 S0 V12 (pop_12 P N12') SG (by omega)) ?_; intro u14 P14
          refine ok_if (fun y => ?_) (fun y => ?_)
          · rcases P14.2 with p | p
            · exact absurd p.1 y
            · exact y_129 hn V0 M LG SG (by omega) (by omega) rt kt P14.1 p.2.1 (fun z Z => ⟨u, b, j, m, L, q, t, ⟨R, R2⟩, kv0, TT, .inr ⟨o4, p.2.2, Z⟩⟩)
          · rcases P14.2 with p | p
            · exact wq_0 P14.1 p.2
            · exact wq_0 P14.1 (pop_nfl p.2.1)
      · refine ok_rd (by omega) (gA_245 V) ?_; intro v18 e18 b1 b2
        rw [D l5 (by omega) (by omega)] at e18
        refine ok_sv (ok_pc (x_fit hn V0 S0 V P SG (by omega)) fit_245) ?_; intro u20 P20
        obtain ⟨P20, w20⟩ := P20
        refine ok_if (fun y => ?_) (fun y => ?_)
        · rcases P20.2 with p | p
          · exact absurd p.1 y
          refine ok_add (by omega) ?_; intro v21 e21
          rw [show v21 = l5 - 1 by omega]
          have pp := p.2.1
          rw [show m - 1 - l5 + 1 = m - 1 - (l5 - 1) by omega] at pp
          refine ih (l5 - 1) u20.2 P20.1 (by omega) pp (fun y y1 y2 => ?_) (fun y y1 y2 => ?_) (by omega)
          · rw [w20]; exact D y y1 y2
          · by_cases y0 : y = l5
            · rw [y0, ← e18]; exact p.2.2
            · exact T y (by omega) y2
        · rcases P20.2 with p | p
          · exact wq_0 P20.1 p.2
          · exact wq_0 P20.1 (pop_nfl p.2.1)
  -- the first loop
  have T1 : ∀ (jj : Nat) (l : Nat) (n p : Int) (r : ms_M), VS_ r → POP f 0 r → 0 ≤ p → (0 ≤ n ∧ n + l = m) → PVn nn f c (w 238) L l n p q → (∀ y : Int, 0 ≤ y → y < n → r 245 y.toNat = L y) → l < jj → Ok_ (qw_X13_calls_35 nn jj i st (6000 * c + p) n r) (WQ f (CLL nn f ω c w op i)) := by
    intro jj
    induction jj with
    | zero => intro l n p r V P a b Y D hm; exfalso; omega
    | succ jj ih =>
      intro l n p r V P a b Y D hm
      have A := nfl_agd (pop_nfl P)
      have Mr : MC r c k w := nfl_mc (pop_nfl P) M
      have lq := pv_lt _ _ _ _ Y
      unfold qw_X13_calls_35
      refine ok_rd (by omega) (gA_226 V) ?_; intro v25 e25 _ _
      rw [Mr.2.2.1.2.2.1 p (by omega) (by omega)] at e25
      cases l with
      | zero =>
        have Y : p = q := Y
        rw [if_pos (show v25 = 41 by rw [e25, Y]; exact f41)]
        refine ok_sub (by omega) ?_; intro v26 e26
        rw [Y, show v26 = m - 1 by omega]
        exact T2 nn (m - 1) r V (by omega) (by rw [show m - 1 - (m - 1) = 0 by omega]; exact P) (fun y y1 y2 => D y y1 (by omega)) (fun y y1 y2 => by exfalso; omega) (by omega)
      | succ l =>
        obtain ⟨e, ⟨y1, y2⟩, y3⟩ := Y
        have le3 := pv_lt _ _ _ _ y3
        have lt3 := kd_lt y1
        rw [if_neg (show ¬ v25 = 41 by rw [e25]; exact kd_41 y1)]
        refine ok_sv (rg_typeAt hn V hc Mr.2.2.1 (by omega) (by omega) (.inr y1) (ktv_c (agd_c A) y2)) ?_; intro u29 P29
        obtain ⟨⟨V29, N29, e120, b29⟩, q29⟩ := P29
        have f98 : r 160 98 = f 160 98 := A.2.1
        refine ok_wA (by omega) ?_; intro h30 E30
        have V30 : VS_ h30 := by rw [E30]; exact wA_245 V29 (by omega)
        have P29 := pop_12 P N29
        have P30 : POP f 0 h30 := ⟨fun x j a b => by rw [E30, up_n (by omega)]; exact P29.1 x j a b, by rw [E30, up_n (by omega)]; exact P29.2.1, P29.2.2⟩
        have e120' : h30 160 120 = 6000 * c + e := by rw [E30, up_n (by omega)]; exact e120
        refine ok_add (by omega) ?_; intro v31 e31
        rw [e31, e120']
        refine ih l (n + 1) e h30 V30 P30 (by omega) (by omega) y3 (fun y z1 z2 => ?_) (by omega)
        by_cases y0 : y = n
        · rw [y0, E30, up_s]; exact q29
        · rw [E30, up_n (by omega), N29 245 _ (by omega)]; exact D y z1 (by omega)
  unfold qf_X13_calls
  rw [M.2.2.2.1]
  refine ok_mul (by omega) ?_; intro v35 e35
  refine ok_mul (by omega) ?_; intro v38 e38
  refine ok_sv (mr_part V0 M st4 (by omega)) ?_; intro u40 P40
  rw [P40.1]
  refine ok_add (by omega) ?_; intro v41 e41
  refine ok_rd (by omega) (gA_228 V0) ?_; intro v42 e42 _ _
  rw [e41, e38, a2] at e42
  refine ok_add (by omega) ?_; intro v43 e43
  refine ok_add (by omega) ?_; intro v44 e44
  rw [show v44 = 6000 * c + (pl w c (w 238 (pl w c i + 1 + 2).toNat) + 2 + 1) by omega]
  exact T1 nn m.toNat 0 _ f V0 (pop_rf V0) (by omega) (by omega) pv (fun y y1 y2 => by exfalso; omega) (by omega)
/-- not so, hidden from omega -/
def NoT (c : Prop) : Prop := ¬ c
theorem ok_ifN {α : Type} {Q : α → Prop} {c : Prop} {d : Decidable c} {x y : Option α} (h1 : c → Ok_ x Q) (h2 : NoT c → Ok_ y Q) : Ok_ (if c then x else y) Q := ok_if h1 h2
/-- the result of the method under check is of type t; it stands at 160.136 -/
def RSP (nn : Nat) (f : ms_M) (c : Int) (w : ms_M) (t : Int) : Prop := ∃ p e : Int, f 160 136 = 6000 * c + p ∧ (0 ≤ p ∧ e ≤ w 160 113) ∧ RTk (w 238) p e ∧ KTv nn f c (w 238) p e t
theorem rgt_3 {op i j : Int} (j3 : 153 ≤ op ∧ op ≤ 167) : RGT nn f ω c w op j := ⟨fun y => by exfalso; omega, fun y => by exfalso; omega, fun y => by exfalso; omega, fun y => by exfalso; omega⟩
theorem y_pull2 (V : VS_ f) (S : SGT f) : Ok_ (qf_X13_pull nn f) (fun u => VS_ u.2 ∧ NFl f u.2 ∧ (¬ u.1 = -1 → (∀ x j : Nat, ¬ (x = 160 ∧ j = 131) → u.2 x j = f x j) ∧ 1 ≤ f 160 131 ∧ u.2 160 131 = f 160 131 - 1 ∧ u.1 = tp f 0)) := by
  have g131 := gF_160_131 V
  unfold qf_X13_pull
  refine ok_if (fun C => ?_) (fun C => ok_ret ⟨V, nfl_rf, fun y => absurd rfl y⟩)
  refine ok_sub (by omega) ?_; intro v3 e3
  refine ok_xl ?_; intro h4 E4
  have V4 : VS_ h4 := by rw [E4]; exact wF_160_131 V (by omega)
  have f131 : h4 160 131 = v3 := by rw [E4, up_s]
  rw [f131]
  refine ok_rd (by omega) (gA_244 V4) ?_; intro v7 e7 _ _
  have N : ∀ x j : Nat, ¬ (x = 160 ∧ j = 131) → h4 x j = f x j := fun x j a => by rw [E4, up_n (by omega)]
  refine ok_ret ⟨V4, fun x j a b => N x j (by omega), fun _ => ⟨N, by omega, by show h4 160 131 = _; omega, ?_⟩⟩
  show v7 = tp f 0
  unfold tp
  rw [e7, N 244 _ (by omega), show v3 = f 160 131 - 1 - 0 by omega]
theorem y_25 (hn : 1000000 ≤ nn) (V : VS_ f) (S : SPD f) (OW : OM f ω) (CA : CLA nn f ω) (M : MC f c k w) (LG : LGT f) (SG : SGT f) {op i rt : Int} (h1 : 1 ≤ WD op) (ho : 0 ≤ op ∧ op ≤ 255) (hi : 0 ≤ i ∧ i ≤ 255) (RS : RSP nn f c w rt) (RG : RGT nn f ω c w op i) : Ok_ (qj_X13_wanted_25 nn op i f) (WQ f (WN nn f ω c w rt op i)) := by
  have hc := M.1
  have W := M.2.2.1
  have e132 := M.2.2.2.1
  have b30 := mc_30 M
  have g98 := gF_160_98 V
  have g131 := gF_160_131 V
  have g129 := gF_160_129 V
  have P0 := pop_rf V
  have t1 : GTs f 1 := ⟨by decide, by omega⟩
  have t2 : GTs f 2 := ⟨by decide, by omega⟩
  have t3 : GTs f 3 := ⟨by decide, by omega⟩
  have z820 : ((2 ≤ op ∧ op ≤ 8) ∨ op = 16 ∨ op = 18) → Ok_ (qj_X13_wanted_820 nn f) (WQ f (WN nn f ω c w rt op i)) := fun y => wq_b2 V P0 LG SG t1 b30.2 g98.2 (fun z Z => wnt_2 ⟨y, Z⟩)
  have z1183 : (op = 96 ∨ op = 100 ∨ op = 104 ∨ op = 108 ∨ op = 112 ∨ op = 120 ∨ op = 122 ∨ op = 124 ∨ op = 126 ∨ op = 128 ∨ op = 130) → Ok_ (qj_X13_wanted_1183 nn f) (WQ f (WN nn f ω c w rt op i)) := fun y => by
    unfold qj_X13_wanted_1183
    refine ok_sv (x_ints V hn (n := 2) (by omega) P0 SG) ?_; intro u P
    refine ok_if (fun C => ?_) (fun C => ?_)
    · rcases P.2 with p | p
      · exact wq_0 P.1 p.2
      · exact wq_0 P.1 (pop_nfl p.2.1)
    · rcases P.2 with p | p
      · exact absurd p.1 C
      · exact wq_b1 P.1 p.2.1 LG SG t1 b30.2 g98.2 (fun z Z => wnt_12 ⟨y, p.2.2 0 (by omega) (by omega), p.2.2 1 (by omega) (by omega), Z⟩)
  have z1227 : (op = 153 ∨ op = 154 ∨ op = 186) → Ok_ (qj_X13_wanted_1227 nn f) (WQ f (WN nn f ω c w rt op i)) := fun y => by
    unfold qj_X13_wanted_1227
    refine ok_sv (x_ints V hn (n := 1) (by omega) P0 SG) ?_; intro u P
    rcases P.2 with p | p
    · exact ok_ck (.inl p.1) (ok_ret ⟨P.1, p.2, .inl p.1, fun z => absurd p.1 z⟩)
    · exact ok_ck (.inr p.1) (ok_ret ⟨P.1, pop_nfl p.2.1, .inr p.1, fun _ => ⟨pop_lgt p.2.1 LG SG, wnt_14 ⟨y, p.2.2 0 (by omega) (by omega), p.2.1⟩⟩⟩)
  have z1233 : (159 ≤ op ∧ op ≤ 164) → Ok_ (qj_X13_wanted_1233 nn f) (WQ f (WN nn f ω c w rt op i)) := fun y => by
    unfold qj_X13_wanted_1233
    refine ok_sv (x_ints V hn (n := 2) (by omega) P0 SG) ?_; intro u P
    rcases P.2 with p | p
    · exact ok_ck (.inl p.1) (ok_ret ⟨P.1, p.2, .inl p.1, fun z => absurd p.1 z⟩)
    · exact ok_ck (.inr p.1) (ok_ret ⟨P.1, pop_nfl p.2.1, .inr p.1, fun _ => ⟨pop_lgt p.2.1 LG SG, wnt_15 ⟨y, p.2.2 0 (by omega) (by omega), p.2.2 1 (by omega) (by omega), p.2.1⟩⟩⟩)
  have z1239 : (op = 165 ∨ op = 166) → Ok_ (qj_X13_wanted_1239 nn f) (WQ f (WN nn f ω c w rt op i)) := fun y => by
    unfold qj_X13_wanted_1239
    refine ok_sv (x_thing V P0 SG) ?_; intro u P
    refine ok_if (fun C => ?_) (fun C => ?_)
    · rcases P.2 with p | p
      · exact wq_0 P.1 p.2
      · exact wq_0 P.1 (pop_nfl p.2.1)
    · rcases P.2 with p | p
      · exact absurd p.1 C
      refine ok_sv (x_thing P.1 p.2.1 SG) ?_; intro u2 P2
      refine ok_if (fun C => ?_) (fun C => ?_)
      · rcases P2.2 with p | p
        · exact wq_0 P2.1 p.2
        · exact wq_0 P2.1 (pop_nfl p.2.1)
      · rcases P2.2 with p2 | p2
        · exact absurd p2.1 C
        · exact wq_pop P2.1 p2.2.1 LG SG (wnt_16 ⟨y, p.2.2, p2.2.2, p2.2.1⟩)
  have z1480 : (op = 182 ∨ op = 184) → Ok_ (qj_X13_wanted_1480 nn op i f) (WQ f (WN nn f ω c w rt op i)) := fun y => by
    obtain ⟨u, b, j, R, R2⟩ := RG.2.2.2 y
    unfold qj_X13_wanted_1480
    refine ok_if (fun C => ?_) (fun C => ?_)
    · refine ok_sv (y_calls hn V S OW CA M LG SG (op := op) (st := 0) (.inr ⟨rfl, C⟩) R R2) ?_; intro u P
      exact ok_ck P.2.2.1 (ok_ret ⟨P.1, P.2.1, P.2.2.1, fun q => ⟨(P.2.2.2 q).1, wnt_22 ⟨y, (P.2.2.2 q).2⟩⟩⟩)
    · refine ok_sv (y_calls hn V S OW CA M LG SG (op := op) (st := 1) (.inl ⟨rfl, Decidable.not_not.1 C⟩) R R2) ?_; intro u P
      exact ok_ck P.2.2.1 (ok_ret ⟨P.1, P.2.1, P.2.2.1, fun q => ⟨(P.2.2.2 q).1, wnt_22 ⟨y, (P.2.2.2 q).2⟩⟩⟩)
  have pop0 : ∀ {r : ms_M} {m : Int} {F : ms_M → Prop}, VS_ r → ((∃ q : Int, q = -1 ∧ POP f m r) ∨ POP f (m + 1) r) → Ok_ (some ((0 : Int), r)) (WQ f F) := fun V P => by
    rcases P with ⟨_, _, p⟩ | p
    · exact wq_0 V (pop_nfl p)
    · exact wq_0 V (pop_nfl p)
  have pl0 : ∀ {u : Int × ms_M} {m : Int}, ((u.1 = -1 ∧ POP f m u.2) ∨ (POP f (m + 1) u.2 ∧ u.1 = tp f m ∧ GTs f u.1)) → NFl f u.2 := fun P => by
    rcases P with p | p
    · exact pop_nfl p.2
    · exact pop_nfl p.1
  have cls : ∀ {r : ms_M} {m u : Int}, VS_ r → POP f m r → CL w c i → CTv nn f c w i (4 + 2 * u) → Ok_ (qf_X13_typeOfClass nn (r 160 132) i r) (fun x => VS_ x.2 ∧ POP f m x.2 ∧ x.1 = 4 + 2 * u) := fun {r m u} Vr P cl ct => by
    have A := nfl_agd (pop_nfl P)
    have Mr : MC r c k w := nfl_mc (pop_nfl P) M
    rw [Mr.2.2.2.1]
    exact ok_im (rg_typeOf hn Vr hc Mr.2.2.1 cl (ctv_c (agd_c A) ct)) (fun x X => ⟨X.1.1, pop_12 P X.1.2.1, X.2⟩)
  unfold qj_X13_wanted_25
  refine ok_ifN (fun y => ?_) (fun n0 => ?_)
  · exact wq_pop V P0 LG SG (wnt_0 ⟨.inl y, P0⟩)
  refine ok_ifN (fun y => ?_) (fun n1 => ?_)
  · exact wq_b2 V P0 LG SG t2 b30.2 g98.2 (fun z Z => wnt_1 ⟨y, Z⟩)
  refine ok_ifN (fun y => ?_) (fun n2 => ?_)
  · exact z820 (by omega)
  refine ok_ifN (fun y => ?_) (fun n3 => ?_)
  · exact z820 (by omega)
  refine ok_ifN (fun y => ?_) (fun n4 => ?_)
  · exact z820 (by omega)
  refine ok_ifN (fun y => ?_) (fun n5 => ?_)
  · exact z820 (by omega)
  refine ok_ifN (fun y => ?_) (fun n6 => ?_)
  · exact z820 (by omega)
  refine ok_ifN (fun y => ?_) (fun n7 => ?_)
  · exact z820 (by omega)
  refine ok_ifN (fun y => ?_) (fun n8 => ?_)
  · exact z820 (by omega)
  refine ok_ifN (fun y => ?_) (fun n16 => ?_)
  · exact z820 (by omega)
  refine ok_ifN (fun y => ?_) (fun n18 => ?_)
  · exact z820 (by omega)
  refine ok_ifN (fun y => ?_) (fun n21 => ?_)
  · refine ok_if (fun _ => wq_0 V nfl_rf) (fun C => ?_)
    refine ok_rd (by omega) (gA_243 V) ?_; intro v57 e57 _ _
    refine ok_if (fun _ => wq_0 V nfl_rf) (fun D => ?_)
    exact wq_b1 V P0 LG SG t1 b30.2 g98.2 (fun z Z => wnt_3 ⟨y, ⟨by omega, by omega⟩, Z⟩)
  refine ok_ifN (fun y => ?_) (fun n25 => ?_)
  · refine ok_if (fun _ => wq_0 V nfl_rf) (fun C => ?_)
    refine ok_rd (by omega) (gA_243 V) ?_; intro v65 e65 _ _
    refine ok_if (fun _ => wq_0 V nfl_rf) (fun D => ?_)
    refine ok_rd (by omega) (gA_243 V) ?_; intro v67 e67 _ _
    rw [e67]
    exact wq_b1 V P0 LG SG (LG i (by omega) (by omega)) b30.2 g98.2 (fun z Z => wnt_4 ⟨y, ⟨by omega, by omega⟩, Z⟩)
  refine ok_ifN (fun y => ?_) (fun n46 => ?_)
  · refine ok_sv (x_ints V hn (n := 1) (by omega) P0 SG) ?_; intro u74 P
    refine ok_if (fun C => ?_) (fun C => ?_)
    · rcases P.2 with p | p
      · exact absurd p.1 C
      have i0 := p.2.2 0 (by omega) (by omega)
      refine ok_sv (x_pull P.1 p.2.1 SG) ?_; intro u76 P6
      have yes : (u76.1 = 3 ∨ u76.1 = 2) → Ok_ (qj_X13_wanted_982 nn u76.2) (WQ f (WN nn f ω c w rt op i)) := fun yy => by
        rcases P6.2 with q | q
        · exfalso; omega
        · exact wq_b1 P6.1 q.1 LG SG t1 b30.2 g98.2 (fun z Z => wnt_6 ⟨y, i0, by have e2 : u76.1 = tp f 1 := q.2.1; omega, Z⟩)
      refine ok_if (fun y2 => yes (.inl y2)) (fun y2 => ?_)
      exact ok_if (fun y3 => wq_0 P6.1 (pl0 P6.2)) (fun y3 => yes (.inr (Decidable.not_not.1 y3)))
    · rcases P.2 with p | p
      · exact wq_0 P.1 p.2
      · exact wq_0 P.1 (pop_nfl p.2.1)
  refine ok_ifN (fun y => ?_) (fun n50 => ?_)
  · refine ok_sv (x_ints V hn (n := 1) (by omega) P0 SG) ?_; intro u81 P
    refine ok_if (fun C => ?_) (fun C => ?_)
    · rcases P.2 with p | p
      · exact absurd p.1 C
      have i0 := p.2.2 0 (by omega) (by omega)
      refine ok_sv (x_pull P.1 p.2.1 SG) ?_; intro u83 P6
      refine ok_if (fun y2 => ?_) (fun y2 => ?_)
      · refine ok_if (fun _ => wq_0 P6.1 (pl0 P6.2)) (fun y3 => ?_)
        refine ok_sv (mr_row (by omega)) ?_; intro u84 P84
        refine ok_if (fun _ => wq_0 P6.1 (pl0 P6.2)) (fun y4 => ?_)
        rcases P6.2 with q | ⟨q1, q2, q3⟩
        · exfalso; omega
        have e2 : u83.1 = tp f 1 := q2
        have odd : 4 ≤ u83.1 ∧ u83.1 % 2 = 1 := by omega
        have q4 : 0 ≤ u83.1 ∧ u83.1 < 20 + 2 * f 160 98 := q3
        refine ok_sub (by omega) ?_; intro v85 e85
        rw [e85, e2]
        rw [e2] at odd q4
        exact wq_b1 P6.1 q1 LG SG ⟨by omega, by omega⟩ b30.2 g98.2 (fun z Z => wnt_7 ⟨y, i0, .inr ⟨odd, Z⟩⟩)
      · rcases P6.2 with q | ⟨q1, q2, q3⟩
        · exfalso; omega
        have e2 : u83.1 = tp f 1 := q2
        exact wq_b2 P6.1 q1 LG SG t2 b30.2 g98.2 (fun z Z => wnt_7 ⟨y, i0, .inl ⟨by omega, Z⟩⟩)
    · rcases P.2 with p | p
      · exact wq_0 P.1 p.2
      · exact wq_0 P.1 (pop_nfl p.2.1)
  refine ok_ifN (fun y => ?_) (fun n54 => ?_)
  · refine ok_if (fun _ => wq_0 V nfl_rf) (fun C => ?_)
    refine ok_sv (y_pull2 V SG) ?_; intro u98 P6
    refine ok_if (fun y2 => ?_) (fun _ => wq_0 P6.1 P6.2.1)
    obtain ⟨q1, q2, q3, q4⟩ := P6.2.2 (by omega)
    refine ok_wA (by omega) ?_; intro h100 E100
    have V100 : VS_ h100 := by rw [E100]; exact wA_243 P6.1 (by omega)
    have S1 : STO f i h100 := ⟨fun x j a b => by rw [E100, up_n (by omega)]; exact q1 x j a, ⟨by omega, by omega⟩, q2, by rw [E100, up_n (by omega)]; exact q3, by rw [E100, up_s]; omega⟩
    exact wq_1 V100 (sto_nfl S1) (sto_lgt S1 LG SG) (wnt_5 ⟨.inl ⟨y, by omega⟩, S1⟩)
  refine ok_ifN (fun y => ?_) (fun n58 => ?_)
  · refine ok_sv (y_pull2 V SG) ?_; intro u104 P6
    refine ok_if (fun _ => wq_0 P6.1 P6.2.1) (fun C => ?_)
    have C : ¬ f 160 129 ≤ i := by rw [← P6.2.1 160 129 (by decide) (by decide)]; exact C
    refine ok_if (fun y2 => ?_) (fun _ => wq_0 P6.1 P6.2.1)
    obtain ⟨q1, q2, q3, q4⟩ := P6.2.2 (by omega)
    refine ok_wA (by omega) ?_; intro h107 E107
    have b4 := SG.2 (f 160 131 - 1 - 0) (by omega) (by omega)
    have b5 : 0 ≤ tp f 0 ∧ tp f 0 < 20 + 2 * f 160 98 := b4
    have V107 : VS_ h107 := by rw [E107]; exact wA_243 P6.1 (by omega)
    have S1 : STO f i h107 := ⟨fun x j a b => by rw [E107, up_n (by omega)]; exact q1 x j a, ⟨by omega, by omega⟩, q2, by rw [E107, up_n (by omega)]; exact q3, by rw [E107, up_s]; exact q4⟩
    exact wq_1 V107 (sto_nfl S1) (sto_lgt S1 LG SG) (wnt_5 ⟨.inr ⟨y, by omega⟩, S1⟩)
  refine ok_ifN (fun y => ?_) (fun n79 => ?_)
  · refine ok_sv (x_ints V hn (n := 2) (by omega) P0 SG) ?_; intro u111 P
    refine ok_if (fun C => ?_) (fun C => ?_)
    · rcases P.2 with p | p
      · exact absurd p.1 C
      have i0 := p.2.2 0 (by omega) (by omega)
      have i1 := p.2.2 1 (by omega) (by omega)
      refine ok_sv (x_pull P.1 p.2.1 SG) ?_; intro u113 P6
      have yes : (u113.1 = 3 ∨ u113.1 = 2) → Ok_ (some ((1 : Int), u113.2)) (WQ f (WN nn f ω c w rt op i)) := fun yy => by
        rcases P6.2 with q | q
        · exfalso; omega
        · exact wq_pop P6.1 q.1 LG SG (wnt_8 ⟨y, i0, i1, by have e2 : u113.1 = tp f 2 := q.2.1; omega, q.1⟩)
      refine ok_if (fun y2 => yes (.inl y2)) (fun y2 => ?_)
      exact ok_if (fun y3 => wq_0 P6.1 (pl0 P6.2)) (fun y3 => yes (.inr (Decidable.not_not.1 y3)))
    · rcases P.2 with p | p
      · exact wq_0 P.1 p.2
      · exact wq_0 P.1 (pop_nfl p.2.1)
  refine ok_ifN (fun y => ?_) (fun n83 => ?_)
  · refine ok_sv (x_thing V P0 SG) ?_; intro u118 P
    refine ok_if (fun C => ?_) (fun C => ?_)
    · rcases P.2 with p | p
      · exact wq_0 P.1 p.2
      · exact wq_0 P.1 (pop_nfl p.2.1)
    rcases P.2 with p | p
    · exact absurd p.1 C
    have i0 := p.2.2
    refine ok_sv (x_ints P.1 hn (n := 1) (by omega) p.2.1 SG) ?_; intro u120 P2
    refine ok_if (fun C2 => ?_) (fun C2 => ?_)
    · rcases P2.2 with p2 | p2
      · exact absurd p2.1 C2
      have i1 := p2.2.2 1 (by omega) (by omega)
      refine ok_sv (x_pull P2.1 p2.2.1 SG) ?_; intro u122 P6
      refine ok_if (fun y2 => ?_) (fun y2 => ?_)
      · rcases P6.2 with q | q
        · exfalso; omega
        · exact wq_pop P6.1 q.1 LG SG (wnt_9 ⟨y, i0, i1, by have e2 : u122.1 = tp f 2 := q.2.1; omega, q.1⟩)
      refine ok_if (fun _ => wq_0 P6.1 (pl0 P6.2)) (fun y3 => ?_)
      refine ok_sv (mr_row (by omega)) ?_; intro u123 P123
      refine ok_if (fun _ => wq_0 P6.1 (pl0 P6.2)) (fun y4 => ?_)
      rcases P6.2 with q | q
      · exfalso; omega
      · exact wq_pop P6.1 q.1 LG SG (wnt_9 ⟨y, i0, i1, by have e2 : u122.1 = tp f 2 := q.2.1; omega, q.1⟩)
    · rcases P2.2 with p | p
      · exact wq_0 P2.1 p.2
      · exact wq_0 P2.1 (pop_nfl p.2.1)
  refine ok_ifN (fun y => ?_) (fun n87 => ?_)
  · refine ok_sv (x_pull V P0 SG) ?_; intro u130 P6
    refine ok_if (fun _ => wq_0 P6.1 (pl0 P6.2)) (fun C => ?_)
    rcases P6.2 with q | q
    · exact absurd q.1 C
    · exact wq_pop P6.1 q.1 LG SG (wnt_10 ⟨y, q.1⟩)
  refine ok_ifN (fun y => ?_) (fun n89 => ?_)
  · refine ok_if (fun _ => wq_0 V nfl_rf) (fun C => ?_)
    refine ok_sub (by omega) ?_; intro v135 e135
    refine ok_rd (by omega) (gA_244 V) ?_; intro v136 e136 _ _
    have q : v136 = tp f 0 := by unfold tp; rw [e136, show v135 = f 160 131 - 1 - 0 by omega]
    rw [q]
    exact wq_b1 V P0 LG SG (SG.2 (f 160 131 - 1 - 0) (by omega) (by omega)) b30.2 g98.2 (fun z Z => wnt_11 ⟨y, by omega, Z⟩)
  refine ok_ifN (fun y => ?_) (fun n96 => ?_)
  · exact z1183 (by omega)
  refine ok_ifN (fun y => ?_) (fun n100 => ?_)
  · exact z1183 (by omega)
  refine ok_ifN (fun y => ?_) (fun n104 => ?_)
  · exact z1183 (by omega)
  refine ok_ifN (fun y => ?_) (fun n108 => ?_)
  · exact z1183 (by omega)
  refine ok_ifN (fun y => ?_) (fun n112 => ?_)
  · exact z1183 (by omega)
  refine ok_ifN (fun y => ?_) (fun n116 => ?_)
  · refine ok_sv (x_ints V hn (n := 1) (by omega) P0 SG) ?_; intro u P
    refine ok_if (fun C => ?_) (fun C => ?_)
    · rcases P.2 with p | p
      · exact wq_0 P.1 p.2
      · exact wq_0 P.1 (pop_nfl p.2.1)
    · rcases P.2 with p | p
      · exact absurd p.1 C
      · exact wq_b1 P.1 p.2.1 LG SG t1 b30.2 g98.2 (fun z Z => wnt_13 ⟨y, p.2.2 0 (by omega) (by omega), Z⟩)
  refine ok_ifN (fun y => ?_) (fun n120 => ?_)
  · exact z1183 (by omega)
  refine ok_ifN (fun y => ?_) (fun n122 => ?_)
  · exact z1183 (by omega)
  refine ok_ifN (fun y => ?_) (fun n124 => ?_)
  · exact z1183 (by omega)
  refine ok_ifN (fun y => ?_) (fun n126 => ?_)
  · exact z1183 (by omega)
  refine ok_ifN (fun y => ?_) (fun n128 => ?_)
  · exact z1183 (by omega)
  refine ok_ifN (fun y => ?_) (fun n130 => ?_)
  · exact z1183 (by omega)
  refine ok_ifN (fun y => ?_) (fun n153 => ?_)
  · exact z1227 (by omega)
  refine ok_ifN (fun y => ?_) (fun n154 => ?_)
  · exact z1227 (by omega)
  refine ok_ifN (fun y => ?_) (fun n159 => ?_)
  · exact z1233 (by omega)
  refine ok_ifN (fun y => ?_) (fun n160 => ?_)
  · exact z1233 (by omega)
  refine ok_ifN (fun y => ?_) (fun n161 => ?_)
  · exact z1233 (by omega)
  refine ok_ifN (fun y => ?_) (fun n162 => ?_)
  · exact z1233 (by omega)
  refine ok_ifN (fun y => ?_) (fun n163 => ?_)
  · exact z1233 (by omega)
  refine ok_ifN (fun y => ?_) (fun n164 => ?_)
  · exact z1233 (by omega)
  refine ok_ifN (fun y => ?_) (fun n165 => ?_)
  · exact z1239 (by omega)
  refine ok_ifN (fun y => ?_) (fun n166 => ?_)
  · exact z1239 (by omega)
  refine ok_ifN (fun y => ?_) (fun n167 => ?_)
  · exact wq_pop V P0 LG SG (wnt_0 ⟨.inr y, P0⟩)
  refine ok_ifN (fun y => ?_) (fun n172 => ?_)
  · obtain ⟨p, e, e136, pe, rk, kt⟩ := RS
    have g3 := gF_160_113 W.1
    have pl : p < e := by
      rcases rk with q | q
      · omega
      · have := kd_lt q; omega
    rw [e136]
    have one : (w 238 p.toNat = 73 ∨ w 238 p.toNat = 90) → Ok_ (qj_X13_wanted_1287 nn f) (WQ f (WN nn f ω c w rt op i)) := fun yy => by
      unfold qj_X13_wanted_1287
      refine ok_sv (x_ints V hn (n := 1) (by omega) P0 SG) ?_; intro u P
      refine ok_if (fun C => ?_) (fun C => ?_)
      · rcases P.2 with p | p
        · exact wq_0 P.1 p.2
        · exact wq_0 P.1 (pop_nfl p.2.1)
      · rcases P.2 with p | p
        · exact absurd p.1 C
        · exact wq_pop P.1 p.2.1 LG SG (wnt_17 ⟨y, ktv_det kt (.inr (.inl ⟨yy, rfl⟩)), p.2.2 0 (by omega) (by omega), p.2.1⟩)
    refine ok_rd (by omega) (gA_226 V) ?_; intro v149 e149 _ _
    rw [W.2.2.1 p (by omega) (by omega)] at e149
    refine ok_if (fun C => one (.inl (by omega))) (fun C => ?_)
    refine ok_rd (by omega) (gA_226 V) ?_; intro v152 e152 _ _
    rw [W.2.2.1 p (by omega) (by omega)] at e152
    exact ok_if (fun _ => wq_0 V nfl_rf) (fun D => one (.inr (by omega)))
  refine ok_ifN (fun y => ?_) (fun n176 => ?_)
  · obtain ⟨p, e, e136, pe, rk, kt⟩ := RS
    have g3 := gF_160_113 W.1
    have pl : p < e := by
      rcases rk with q | q
      · omega
      · have := kd_lt q; omega
    rw [e136]
    refine ok_rd (by omega) (gA_226 V) ?_; intro v157 e157 _ _
    rw [W.2.2.1 p (by omega) (by omega)] at e157
    refine ok_if (fun _ => wq_0 V nfl_rf) (fun C => ?_)
    refine ok_rd (by omega) (gA_226 V) ?_; intro v160 e160 _ _
    rw [W.2.2.1 p (by omega) (by omega)] at e160
    refine ok_if (fun _ => wq_0 V nfl_rf) (fun D => ?_)
    refine ok_rd (by omega) (gA_226 V) ?_; intro v163 e163 _ _
    rw [W.2.2.1 p (by omega) (by omega)] at e163
    refine ok_if (fun _ => wq_0 V nfl_rf) (fun E => ?_)
    refine ok_sv (rg_typeAt hn V hc W pe.1 pe.2 rk kt) ?_; intro u166 P166
    obtain ⟨⟨V6, N6, _, b6⟩, q6⟩ := P166
    have r2 : 2 ≤ rt := by
      rcases kt with q | q | ⟨_, u, q, q2⟩ | q | ⟨_, _, u, q, q2⟩
      · exfalso; omega
      · exfalso; omega
      · have := q.1; omega
      · omega
      · have := q.1; omega
    rw [q6]
    rw [q6] at b6
    refine ok_sv (x_fit hn V S V6 (pop_12 P0 N6) SG (by omega)) ?_; intro u168 P
    refine ok_if (fun C => ?_) (fun C => ?_)
    · rcases P.2 with p | p
      · exact wq_0 P.1 p.2
      · exact wq_0 P.1 (pop_nfl p.2.1)
    · rcases P.2 with p | p
      · exact absurd p.1 C
      · exact wq_pop P.1 p.2.1 LG SG (wnt_18 ⟨y, r2, p.2.2, p.2.1⟩)
  refine ok_ifN (fun y => ?_) (fun n177 => ?_)
  · obtain ⟨p, e, e136, pe, rk, kt⟩ := RS
    have g3 := gF_160_113 W.1
    have pl : p < e := by
      rcases rk with q | q
      · omega
      · have := kd_lt q; omega
    rw [e136]
    refine ok_rd (by omega) (gA_226 V) ?_; intro v175 e175 _ _
    rw [W.2.2.1 p (by omega) (by omega)] at e175
    exact ok_if (fun _ => wq_0 V nfl_rf) (fun D => wq_pop V P0 LG SG (wnt_19 ⟨y, ktv_det kt (.inl ⟨by omega, rfl⟩), P0⟩))
  refine ok_ifN (fun y => ?_) (fun n180 => ?_)
  · obtain ⟨u, b, j, R⟩ := RG.2.2.1 (by omega)
    have st4 := R.1
    have hcl := R.2.1
    obtain ⟨s, _, ku, tx⟩ := mrf_u V OW CA hc W R
    have sr := ktv_rg V ku.2
    have ck := (W.2.1.2.2 i st4.1.1 st4.1.2).2 st4.2
    have cl : CL w c (w 238 (pl w c i + 1 + 0).toNat) := by rw [show pl w c i + 1 + 0 = pl w c i + 1 by omega]; exact ck.1
    refine ok_sv (mr_part V M st4 (by omega)) ?_; intro u179 P179
    rw [e132, P179.1]
    refine ok_sv (rg_typeOf hn V hc W cl hcl.2) ?_; intro u181 P181
    obtain ⟨⟨V1, N1, _⟩, q1⟩ := P181
    rw [q1]
    refine ok_sv (x_fit hn V S V1 (pop_12 P0 N1) SG (by omega)) ?_; intro u183 P
    refine ok_if (fun C => ?_) (fun C => ?_)
    · rcases P.2 with p | p
      · exact wq_0 P.1 p.2
      · exact wq_0 P.1 (pop_nfl p.2.1)
    rcases P.2 with p | p
    · exact absurd p.1 C
    have M3 : MC u183.2 c k w := nfl_mc (pop_nfl p.2.1) M
    have A3 := nfl_agd (pop_nfl p.2.1)
    refine ok_sv (mr_part P.1 M3 st4 (by omega)) ?_; intro u186 P186
    rw [M3.2.2.2.1, P186.1]
    refine ok_sv (rg_kindType hn P.1 hc M3.2.2.1 tx (.inr ku.1) (ktv_c (agd_c A3) ku.2)) ?_; intro u188 P188
    obtain ⟨⟨V8, N8, _⟩, q8⟩ := P188
    rw [q8]
    exact wq_b1 V8 (pop_12 p.2.1 N8) LG SG sr b30.2 g98.2 (fun z Z => wnt_20 ⟨y, u, b, j, s, R, ku, p.2.2, Z⟩)
  refine ok_ifN (fun y => ?_) (fun n181 => ?_)
  · obtain ⟨u, b, j, R⟩ := RG.2.2.1 (by omega)
    have st4 := R.1
    have hcl := R.2.1
    obtain ⟨s, _, ku, tx⟩ := mrf_u V OW CA hc W R
    have sr := ktv_rg V ku.2
    have ck := (W.2.1.2.2 i st4.1.1 st4.1.2).2 st4.2
    have cl : CL w c (w 238 (pl w c i + 1 + 0).toNat) := by rw [show pl w c i + 1 + 0 = pl w c i + 1 by omega]; exact ck.1
    refine ok_sv (mr_part V M st4 (by omega)) ?_; intro u195 P195
    rw [e132, P195.1]
    refine ok_sv (rg_kindType hn V hc W tx (.inr ku.1) ku.2) ?_; intro u197 P197
    obtain ⟨⟨V7, N7, _⟩, q7⟩ := P197
    rw [q7]
    refine ok_sv (x_fit hn V S V7 (pop_12 P0 N7) SG (by omega)) ?_; intro u199 P
    refine ok_if (fun C => ?_) (fun C => ?_)
    · rcases P.2 with p | p
      · exact wq_0 P.1 p.2
      · exact wq_0 P.1 (pop_nfl p.2.1)
    rcases P.2 with p | p
    · exact absurd p.1 C
    have M3 : MC u199.2 c k w := nfl_mc (pop_nfl p.2.1) M
    have A3 := nfl_agd (pop_nfl p.2.1)
    unfold qj_X13_wanted_1453
    refine ok_sv (mr_part P.1 M3 st4 (by omega)) ?_; intro u19 P19
    rw [M3.2.2.2.1, P19.1]
    refine ok_sv (rg_typeOf hn P.1 hc M3.2.2.1 cl (ctv_c (agd_c A3) hcl.2)) ?_; intro u21 P21
    obtain ⟨⟨V1, N1, _⟩, q1⟩ := P21
    rw [q1]
    refine ok_sv (x_fit hn V S V1 (pop_12 p.2.1 N1) SG (by omega)) ?_; intro u23 P3
    refine ok_if (fun C => ?_) (fun C => ?_)
    · rcases P3.2 with p | p
      · exact wq_0 P3.1 p.2
      · exact wq_0 P3.1 (pop_nfl p.2.1)
    · rcases P3.2 with p3 | p3
      · exact absurd p3.1 C
      · exact wq_pop P3.1 p3.2.1 LG SG (wnt_21 ⟨y, u, b, j, s, R, ku, p.2.2, p3.2.2, p3.2.1⟩)
  refine ok_ifN (fun y => ?_) (fun n182 => ?_)
  · exact z1480 (by omega)
  refine ok_ifN (fun y => ?_) (fun n184 => ?_)
  · exact z1480 (by omega)
  refine ok_ifN (fun y => ?_) (fun n186 => ?_)
  · exact z1227 (by omega)
  refine ok_ifN (fun y => ?_) (fun n187 => ?_)
  · obtain ⟨cl, u, ub, ct⟩ := RG.2.1 (by omega)
    refine ok_sv (cls V P0 cl ct) ?_; intro u203 P
    rw [P.2.2]
    exact wq_b2 P.1 P.2.1 LG SG ⟨by omega, by omega⟩ b30.2 g98.2 (fun z Z => wnt_23 ⟨y, u, ⟨ub, cl, ct⟩, Z⟩)
  refine ok_ifN (fun y => ?_) (fun n188 => ?_)
  · refine ok_sv (x_ints V hn (n := 1) (by omega) P0 SG) ?_; intro u208 P
    refine ok_if (fun C => ?_) (fun C => ?_)
    · rcases P.2 with p | p
      · exact wq_0 P.1 p.2
      · exact wq_0 P.1 (pop_nfl p.2.1)
    rcases P.2 with p | p
    · exact absurd p.1 C
    have i0 := p.2.2 0 (by omega) (by omega)
    exact wq_b1 P.1 p.2.1 LG SG t3 b30.2 g98.2 (fun z Z => wnt_24 ⟨y, i0, Z⟩)
  refine ok_ifN (fun y => ?_) (fun n189 => ?_)
  · refine ok_sv (x_ints V hn (n := 1) (by omega) P0 SG) ?_; intro u214 P
    refine ok_if (fun C => ?_) (fun C => ?_)
    · rcases P.2 with p | p
      · exact wq_0 P.1 p.2
      · exact wq_0 P.1 (pop_nfl p.2.1)
    rcases P.2 with p | p
    · exact absurd p.1 C
    have i0 := p.2.2 0 (by omega) (by omega)
    obtain ⟨cl, u, ub, ct⟩ := RG.2.1 (by omega)
    refine ok_sv (cls P.1 p.2.1 cl ct) ?_; intro u217 P7
    refine ok_add (by have := P7.2.2; omega) ?_; intro v218 e218
    rw [show v218 = 5 + 2 * u by have := P7.2.2; omega]
    exact wq_b1 P7.1 P7.2.1 LG SG ⟨by omega, by omega⟩ b30.2 g98.2 (fun z Z => wnt_25 ⟨y, i0, u, ⟨ub, cl, ct⟩, Z⟩)
  refine ok_ifN (fun y => ?_) (fun n190 => ?_)
  · refine ok_sv (x_pull V P0 SG) ?_; intro u224 P6
    have yes : (u224.1 = 2 ∨ u224.1 = 3 ∨ (4 ≤ u224.1 ∧ u224.1 % 2 = 1)) → Ok_ (qj_X13_wanted_1592 nn u224.2) (WQ f (WN nn f ω c w rt op i)) := fun yy => by
      rcases P6.2 with q | q
      · exfalso; omega
      · exact wq_b1 P6.1 q.1 LG SG t1 b30.2 g98.2 (fun z Z => wnt_26 ⟨y, by have e2 : u224.1 = tp f 0 := q.2.1; rw [← e2]; exact yy, Z⟩)
    refine ok_if (fun y2 => yes (.inl y2)) (fun y2 => ?_)
    refine ok_if (fun y3 => wq_0 P6.1 (pl0 P6.2)) (fun y3 => ?_)
    have nn0 : 0 ≤ u224.1 := by
      rcases P6.2 with q | q
      · exact absurd q.1 y3
      · exact q.2.2.1
    refine ok_sv (mr_row nn0) ?_; intro u225 P225
    refine ok_if (fun y4 => wq_0 P6.1 (pl0 P6.2)) (fun y4 => yes (.inr ?_))
    rcases P225 with q | q
    · exact q.2
    · exact absurd q.1 y4
  refine ok_ifN (fun y => ?_) (fun n191 => ?_)
  · refine ok_sv (x_fit hn V S V P0 SG (by omega)) ?_; intro u P
    rcases P.2 with p | p
    · exact ok_ck (.inl p.1) (ok_ret ⟨P.1, p.2, .inl p.1, fun z => absurd p.1 z⟩)
    · exact ok_ck (.inr p.1) (ok_ret ⟨P.1, pop_nfl p.2.1, .inr p.1, fun _ => ⟨pop_lgt p.2.1 LG SG, wnt_27 ⟨y, p.2.2, p.2.1⟩⟩⟩)
  refine ok_ifN (fun y => ?_) (fun n192 => ?_)
  · refine ok_sv (x_thing V P0 SG) ?_; intro u233 P
    refine ok_if (fun C => ?_) (fun C => ?_)
    · rcases P.2 with p | p
      · exact wq_0 P.1 p.2
      · exact wq_0 P.1 (pop_nfl p.2.1)
    rcases P.2 with p | p
    · exact absurd p.1 C
    obtain ⟨cl, u, ub, ct⟩ := RG.2.1 (by omega)
    refine ok_sv (cls P.1 p.2.1 cl ct) ?_; intro u236 P7
    rw [P7.2.2]
    exact wq_b1 P7.1 P7.2.1 LG SG ⟨by omega, by omega⟩ b30.2 g98.2 (fun z Z => wnt_28 ⟨y, p.2.2, u, ⟨ub, cl, ct⟩, Z⟩)
  have y : op = 193 := by
    have kn := wd_known h1
    unfold NoT at *
    omega
  unfold qj_X13_wanted_1642
  refine ok_sv (x_thing V P0 SG) ?_; intro u233 P
  refine ok_if (fun C => ?_) (fun C => ?_)
  · rcases P.2 with p | p
    · exact wq_0 P.1 p.2
    · exact wq_0 P.1 (pop_nfl p.2.1)
  rcases P.2 with p | p
  · exact absurd p.1 C
  obtain ⟨cl, u, ub, ct⟩ := RG.2.1 (by omega)
  exact wq_b1 P.1 p.2.1 LG SG t1 b30.2 g98.2 (fun z Z => wnt_29 ⟨y, p.2.2, u, ⟨ub, cl, ct⟩, Z⟩)
/-- wanted is safe, and tells -/
theorem y_wanted (hn : 1000000 ≤ nn) (V : VS_ f) (S : SPD f) (OW : OM f ω) (CA : CLA nn f ω) (M : MC f c k w) (LG : LGT f) (SG : SGT f) {q rt : Int} (hq : 0 ≤ q) (hw1 : 1 ≤ WD (w 238 (f 160 134 + q).toNat)) (hw : q + WD (w 238 (f 160 134 + q).toNat) ≤ f 160 135) (RS : RSP nn f c w rt) (RG : RGT nn f ω c w (w 238 (f 160 134 + q).toNat) (if WD (w 238 (f 160 134 + q).toNat) = 2 then w 238 (f 160 134 + (q + 1)).toNat else 0)) : Ok_ (qf_X13_wanted nn q f) (WQ f (WN nn f ω c w rt (w 238 (f 160 134 + q).toNat) (if WD (w 238 (f 160 134 + q).toNat) ≤ 1 then 0 else w 238 (f 160 134 + (q + 1)).toNat))) := by
  have cd := mc_code M
  unfold qf_X13_wanted
  refine ok_sv (mv_code V M (by omega)) ?_; intro u242 P242
  rw [← P242.1] at hw hw1 RG ⊢
  refine ok_sv mw_width ?_; intro u243 P243
  have q243 := P243.1
  refine ok_if (fun y => ?_) (fun y => ?_)
  · rw [if_neg (show ¬ WD u242 = 2 by omega)] at RG
    rw [if_pos (show WD u242 ≤ 1 by omega)]
    exact y_25 hn V S OW CA M LG SG hw1 P242.2 (by omega) RS RG
  · rw [if_neg (show ¬ WD u242 ≤ 1 by omega)]
    refine ok_add (by omega) ?_; intro v244 e244
    refine ok_sv (mv_code V M (by omega)) ?_; intro u246 P246
    rw [e244] at P246
    rw [← P246.1] at RG ⊢
    refine y_25 hn V S OW CA M LG SG hw1 P242.2 P246.2 RS ?_
    by_cases z : WD u242 = 2
    · rw [if_pos z] at RG; exact RG
    · exact rgt_3 (i := 0) (wd_3 (by omega))
end
end
section
section
variable {nn : Nat} {h g r z w v x f : ms_M} {c d e k : Int} {ω : Int → ms_M}
/-- what a method's check may write -/
def NV (h r : ms_M) : Prop := ∀ x j : Nat, ¬ (x = 160 ∧ ((117 ≤ j ∧ j ≤ 125) ∨ j = 131 ∨ j = 136)) → ¬ (240 ≤ x ∧ x ≤ 245) → r x j = h x j
theorem nv_rf : NV h h := fun _ _ _ _ => rfl
theorem nv_tr (a : NV h z) (b : NV z r) : NV h r := fun x j p q => (b x j p q).trans (a x j p q)
theorem nv_nfl (a : NFl h r) : NV h r := fun x j p q => a x j (by omega) (by omega)
theorem nv_nz (a : NZ h r) : NV h r := fun x j p q => a x j (by omega) (by omega) (by omega)
/-- the state r fits the frame's -/
def FITF (nn : Nat) (h r : ms_M) (n : Int) (L : Int → Int) (m : Int) (K : Int → Int) : Prop := (∀ y : Int, 0 ≤ y → y < n → GOt nn h (r 243 y.toNat) (L y)) ∧ m = r 160 131 ∧ ∀ y : Int, 0 ≤ y → y < m → GOt nn h (r 244 y.toNat) (K y)
/-- the state r fits the state s -/
def FIT (nn : Nat) (h r s : ms_M) : Prop := (∀ y : Int, 0 ≤ y → y < h 160 129 → GOt nn h (r 243 y.toNat) (s 243 y.toNat)) ∧ r 160 131 = s 160 131 ∧ ∀ y : Int, 0 ≤ y → y < s 160 131 → GOt nn h (r 244 y.toNat) (s 244 y.toNat)
theorem fit_rf : FIT nn h r r := ⟨fun _ _ _ => got_rf, rfl, fun _ _ _ => got_rf⟩
theorem fit_f {n m : Int} {L K : Int → Int} {s : ms_M} (F : FITF nn h r n L m K) (B : BCM h n L m K s) : FIT nn h r s := by
  obtain ⟨f1, f2, f3⟩ := F
  obtain ⟨b1, b2, b3, b4⟩ := B
  refine ⟨fun y y1 y2 => ?_, by omega, fun y y1 y2 => ?_⟩
  · by_cases q : y < n
    · rw [b1 y y1 q]; exact f1 y y1 q
    · rw [b2 y (by omega) y1 y2]; exact got_0
  · rw [b4 y y1 (by omega)]; exact f3 y y1 (by omega)
/-- the same types -/
def SAM (r s : ms_M) : Prop := s 243 = r 243 ∧ s 244 = r 244 ∧ s 160 131 = r 160 131
theorem sam_rf : SAM r r := ⟨rfl, rfl, rfl⟩
theorem sam_tr (a : SAM r z) (b : SAM z v) : SAM r v := ⟨b.1.trans a.1, b.2.1.trans a.2.1, b.2.2.trans a.2.2⟩
theorem sam_12 (N : ∀ x j : Nat, ¬ (x = 160 ∧ (j = 120 ∨ j = 121)) → z x j = r x j) : SAM r z := ⟨funext fun j => N 243 j (by omega), funext fun j => N 244 j (by omega), N 160 131 (by decide)⟩
theorem sam_n (N : N12 r z) : SAM r z := sam_12 (fun x j y => N x j (by omega))
theorem fit_s {s t : ms_M} (F : FIT nn h r s) (S : SAM s t) : FIT nn h r t := by
  obtain ⟨f1, f2, f3⟩ := F
  obtain ⟨s1, s2, s3⟩ := S
  exact ⟨fun y y1 y2 => by rw [s1]; exact f1 y y1 y2, by omega, fun y y1 y2 => by rw [s2]; exact f3 y y1 (by omega)⟩
theorem fit_r {s t : ms_M} (F : FIT nn h t s) (S : SAM r t) : FIT nn h r s := by
  obtain ⟨f1, f2, f3⟩ := F
  obtain ⟨s1, s2, s3⟩ := S
  exact ⟨fun y y1 y2 => by rw [← s1]; exact f1 y y1 y2, by omega, fun y y1 y2 => by rw [← s2]; exact f3 y y1 y2⟩
theorem bcm_s {n m : Int} {L K : Int → Int} {s t : ms_M} (B : BCM h n L m K s) (S : SAM s t) : BCM h n L m K t := by
  obtain ⟨b1, b2, b3, b4⟩ := B
  obtain ⟨s1, s2, s3⟩ := S
  exact ⟨fun y y1 y2 => by rw [s1]; exact b1 y y1 y2, fun y y1 y2 y3 => by rw [s1]; exact b2 y y1 y2 y3, by omega, fun y y1 y2 => by rw [s2]; exact b4 y y1 y2⟩
theorem lgt_s (N : ∀ x j : Nat, ¬ (x = 160 ∧ (j = 120 ∨ j = 121)) → z x j = r x j) (L : LGT r ∧ SGT r) : LGT z ∧ SGT z := by
  have A : AGd r z := ⟨fun x j p q => N x j (by omega), N 160 98 (by decide), N 900000 0 (by omega)⟩
  refine ⟨fun x a b => ?_, ?_⟩
  · rw [N 243 _ (by omega)]
    rw [N 160 129 (by decide)] at b
    exact gts_c A (L.1 x a b)
  · unfold SGT
    rw [N 160 131 (by decide), N 160 130 (by decide)]
    refine ⟨L.2.1, fun x a b => ?_⟩
    rw [N 244 _ (by omega)]
    exact gts_c A (L.2.2 x a b)
/-- the operand of the instruction at q -/
def opd (w : ms_M) (A q : Int) : Int := if WD (w 238 (A + q).toNat) ≤ 1 then 0 else w 238 (A + (q + 1)).toNat
/-- instruction a of the method, as its check saw it: T before, U behind it -/
def NODE (nn : Nat) (h : ms_M) (ω : Int → ms_M) (c k : Int) (w : ms_M) (rt : Int) (N : Nat) (T U : Nat → ms_M) (a : Nat) : Prop := (NFl h (T a) ∧ LGT (T a) ∧ SGT (T a)) ∧ (∀ (u n : Int) (L : Int → Int) (m : Int) (K : Int → Int), FFr h c k w (bp w (h 160 134) a) u → FRT nn h c w u n L m K → BCM h n L m K (T a)) ∧ HDO nn h c k w (bp w (h 160 134) a) (T a) ∧ RGT nn h ω c w (w 238 (h 160 134 + bp w (h 160 134) a).toNat) (opd w (h 160 134) (bp w (h 160 134) a)) ∧ WN nn (T a) ω c w rt (w 238 (h 160 134 + bp w (h 160 134) a).toNat) (opd w (h 160 134) (bp w (h 160 134) a)) (U a) ∧ (NFl h (U a) ∧ LGT (U a) ∧ SGT (U a)) ∧ ((153 ≤ w 238 (h 160 134 + bp w (h 160 134) a).toNat ∧ w 238 (h 160 134 + bp w (h 160 134) a).toNat ≤ 167) → ∃ (u n : Int) (L : Int → Int) (m : Int) (K : Int → Int), FFr h c k w (AIM w (h 160 134) (bp w (h 160 134) a)) u ∧ FRT nn h c w u n L m K ∧ FITF nn h (U a) n L m K) ∧ (¬ (w 238 (h 160 134 + bp w (h 160 134) a).toNat = 167 ∨ w 238 (h 160 134 + bp w (h 160 134) a).toNat = 172 ∨ w 238 (h 160 134 + bp w (h 160 134) a).toNat = 176 ∨ w 238 (h 160 134 + bp w (h 160 134) a).toNat = 177 ∨ w 238 (h 160 134 + bp w (h 160 134) a).toNat = 191) → a + 1 < N ∧ FIT nn h (U a) (T (a + 1)))
theorem node_ext {rt : Int} {N : Nat} {T U T2 U2 : Nat → ms_M} {a : Nat} (e1 : T2 a = T a) (e2 : U2 a = U a) (e3 : T2 (a + 1) = T (a + 1)) (X : NODE nn h ω c k w rt N T U a) : NODE nn h ω c k w rt N T2 U2 a := by
  unfold NODE at X ⊢
  rw [e1, e2, e3]
  exact X
/-- what a method's check leaves -/
def FQ (h : ms_M) (u : Int × ms_M) : Prop := VS_ u.2 ∧ NV h u.2 ∧ OI u.2 ∧ ((u.1 = 1 ∧ u.2 160 117 = h 160 117) ∨ (u.1 = 0 ∧ u.2 160 117 ≤ h 160 117 + 1))
theorem bad_118 {a b d e : Int} : Pc (qf_X13_bad nn a b d e r) (fun u => ∀ x j : Nat, ¬ (x = 160 ∧ 122 ≤ j ∧ j ≤ 125) → u.2 x j = r x j) := by
  unfold qf_X13_bad
  refine pc_xl ?_; intro h1 E1
  refine pc_xl ?_; intro h2 E2
  refine pc_xl ?_; intro h3 E3
  refine pc_xl ?_; intro h4 E4
  exact pc_ret (fun x j y => by show h4 x j = r x j; rw [E4, up_n (by omega), E3, up_n (by omega), E2, up_n (by omega), E1, up_n (by omega)])
theorem fq_bad {F : Prop} (V : VS_ r) (N : NV h r) (O : OI r) (e : r 160 117 ≤ h 160 117 + 1) {a b m p : Int} (ra : 0 ≤ a ∧ a ≤ 12) (rk : -1 ≤ b ∧ b ≤ 15) (rm : -1 ≤ m ∧ m ≤ 254) (rp : -2147483648 ≤ p ∧ p ≤ 65535) : Ok_ (mx_sv (qf_X13_bad nn a b m p r) fun u2 => ck_B (u2.1 = 0 ∨ u2.1 = 1) <| some (u2.1, u2.2)) (fun u => FQ h u ∧ (¬ u.1 = 0 → F)) := by
  refine ok_sv (ok_pc (rv_bad V O ra rk rm rp) bad_118) ?_; intro u P
  obtain ⟨P, Q⟩ := P
  refine ok_ck (.inl P.1) (ok_ret ⟨⟨P.2.1, nv_tr N (fun x j p q => Q x j (by omega)), P.2.2.2.1, .inr ⟨P.1, by have := P.2.2.2.2; show u.2 160 117 ≤ _; omega⟩⟩, fun q => absurd P.1 q⟩)
/-- the frames and handlers of the method are there -/
def FHK (nn : Nat) (h : ms_M) (c k : Int) (w : ms_M) : Prop := (∀ u : Int, FRu h c k w u → FOK nn h c k w u) ∧ HDK nn h c k w
theorem fok_c (A : AGd h g) (e1 : g 160 129 = h 160 129) (e2 : g 160 130 = h 160 130) {u : Int} (F : FOK nn h c k w u) : FOK nn g c k w u := by
  obtain ⟨a, b, ⟨a1, a2⟩, ⟨b1, b2⟩, b3⟩ := F
  exact ⟨a, b, ⟨by rw [e1]; exact a1, tyf_c (agd_c A) _ _ _ a2⟩, ⟨by rw [e2]; exact b1, tyf_c (agd_c A) _ _ _ b2⟩, b3⟩
theorem hpl_c (A : AGd h g) {i : Int} : hpl g c k i = hpl h c k i := by
  unfold hpl
  rw [agd_f A (x := 236) (by decide) (by decide)]
theorem ffr_c (A : AGd h g) {t u : Int} : FFr g c k w t u = FFr h c k w t u := by
  unfold FFr
  rw [agd_f A (x := 237) (by decide) (by decide)]
theorem hfr_c (A : AGd h g) {t : Int} : HFr g c k w t = HFr h c k w t := by
  unfold HFr
  rw [agd_f A (x := 237) (by decide) (by decide)]
theorem fru_c (A : AGd h g) {u : Int} : FRu g c k w u = FRu h c k w u := by
  unfold FRu
  rw [agd_f A (x := 237) (by decide) (by decide)]
theorem hdk_c (A : AGd h g) (H : HDK nn h c k w) : HDK nn g c k w := fun i a b => by
  rw [agd_f A (x := 236) (by decide) (by decide)] at b
  rw [hpl_c A, hfr_c A]
  obtain ⟨q1, q2, u, q3, q4⟩ := H i a b
  exact ⟨cfd_c (agd_c A) q1, q2, u, by rw [A.2.1]; exact q3, ctv_c (agd_c A) q4⟩
theorem fhk_c (A : AGd h g) (e1 : g 160 129 = h 160 129) (e2 : g 160 130 = h 160 130) (H : FHK nn h c k w) : FHK nn g c k w := ⟨fun u y => fok_c A e1 e2 (H.1 u (by rw [fru_c A] at y; exact y)), hdk_c A H.2⟩
theorem hdo_c (A : AGd h g) (e1 : g 160 129 = h 160 129) {q : Int} (H : HDO nn g c k w q r) : HDO nn h c k w q r := fun i a b d e => by
  have b' : i < w 238 (g 236 (12 * c + k).toNat).toNat := by rw [agd_f A (x := 236) (by decide) (by decide)]; exact b
  obtain ⟨u, n, L, m, K, t, p1, ⟨p2, p3, p4⟩, p5, p6, p7⟩ := H i a b' (by rw [hpl_c A]; exact d) (by rw [hpl_c A]; exact e)
  rw [hpl_c A, ffr_c A] at p1
  rw [hpl_c A] at p6
  exact ⟨u, n, L, m, K, t, p1, ⟨frt_c (agd_c (agd_sy A)) p2, by rw [← e1]; exact p3, p4⟩, fun y y1 y2 => got_c (agd_sy A) (p5 y y1 y2), ctv_c (agd_c (agd_sy A)) p6, got_c (agd_sy A) p7⟩
theorem hdo_s {q : Int} {s : ms_M} (H : HDO nn h c k w q r) (S : s 243 = r 243) : HDO nn h c k w q s := fun i a b d e => by
  obtain ⟨u, n, L, m, K, t, p1, p2, p5, p6, p7⟩ := H i a b d e
  exact ⟨u, n, L, m, K, t, p1, p2, fun y y1 y2 => by rw [S]; exact p5 y y1 y2, p6, p7⟩
theorem rgt_c (A : AGd h g) {op i : Int} (R : RGT nn g ω c w op i) : RGT nn h ω c w op i := by
  have B := agd_sy A
  refine ⟨R.1, fun y => ?_, fun y => ?_, fun y => ?_⟩
  · obtain ⟨a, u, b, d⟩ := R.2.1 y
    exact ⟨a, u, by rw [B.2.1]; exact b, ctv_c (agd_c B) d⟩
  · obtain ⟨u, b, j, d⟩ := R.2.2.1 y
    exact ⟨u, b, j, mrf_c B d⟩
  · obtain ⟨u, b, j, d, e⟩ := R.2.2.2 y
    exact ⟨u, b, j, mrf_c B d, by rw [agd_f A (x := 235) (by decide) (by decide)] at e; exact e⟩
/-- the flow: what it tells from instruction a on -/
def FLT (nn : Nat) (h : ms_M) (ω : Int → ms_M) (c k : Int) (w : ms_M) (rt : Int) (N a : Nat) (l : Int) (f : ms_M) : Prop := ∃ T U : Nat → ms_M, (¬ l = 0 → a < N ∧ FIT nn h f (T a)) ∧ ∀ b : Nat, a ≤ b → b < N → NODE nn h ω c k w rt N T U b
theorem f_240 {N : Nat} {rt p136 e136 : Int} (hn : 1000000 ≤ nn) (V : VS_ h) (S : SPD h) (OW : OM h ω) (CA : CLA nn h ω) (O : OI h) (room : h 160 117 ≤ 2090) (M : MC h c k w) (FH : FHK nn h c k w) (IN : INS w (h 160 134) (h 160 135) N) (r1 : h 160 136 = 6000 * c + p136) (r2 : 0 ≤ p136 ∧ e136 ≤ w 160 113) (r3 : RTk (w 238) p136 e136) (r4 : KTv nn h c (w 238) p136 e136 rt) {a : Nat} (ha : a < N) {C : Int → Int → Int → Int → ms_M → Option (Int × ms_M)} (HC : ∀ (l : Int) (f : ms_M), (l = 0 ∨ l = 1) → VS_ f → NFl h f → LGT f → SGT f → Ok_ (C (8 + c) k l (bp w (h 160 134) (a + 1)) f) (fun u => FQ h u ∧ (¬ u.1 = 0 → FLT nn h ω c k w rt N (a + 1) l f))) (Vf : VS_ f) (Nf : NFl h f) (LG : LGT f) (SG : SGT f) (FB : ∀ (u n : Int) (L : Int → Int) (m : Int) (K : Int → Int), FFr h c k w (bp w (h 160 134) a) u → FRT nn h c w u n L m K → BCM h n L m K f) : Ok_ (qj_X13_flows_240 nn C (8 + c) k (bp w (h 160 134) a) f) (fun u => FQ h u ∧ (¬ u.1 = 0 → ∃ T U : Nat → ms_M, SAM f (T a) ∧ ∀ b : Nat, a ≤ b → b < N → NODE nn h ω c k w rt N T U b)) := by
  have hc := M.1
  have hk12 : k < 12 := (wi_mt M.2.2.1 M.1 M.2.1).1
  have hk0 := M.2.1.1
  have cd := mc_code M
  obtain ⟨iq, iw, il⟩ := IN.2 a ha
  have il' : bp w (h 160 134) a + WD (w 238 (h 160 134 + bp w (h 160 134) a).toNat) ≤ h 160 135 := il
  have Af := nfl_agd Nf
  have Mf : MC f c k w := nfl_mc Nf M
  have Sf := agd_spd V Af S
  have e129 : f 160 129 = h 160 129 := Nf 160 129 (by decide) (by decide)
  have e130 : f 160 130 = h 160 130 := Nf 160 130 (by decide) (by decide)
  have FHf := fhk_c Af e129 e130 FH
  unfold qj_X13_flows_240
  refine ok_sv (ml_handled hn Vf Sf Mf LG FHf.2 FHf.1) ?_; intro u14 P14
  obtain ⟨V14, N14, _, H14⟩ := P14
  have Nh14 : NFl h u14.2 := nfl_tr Nf (nfl_12 N14)
  have O14 : OI u14.2 := nfl_oi Nh14 O
  have e14 : u14.2 160 117 = h 160 117 := Nh14 160 117 (by decide) (by decide)
  refine ok_if (fun y14 => ?_) (fun _ => fq_bad V14 (nv_nfl Nh14) O14 (by omega) (by omega) (by omega) (by omega) (by omega))
  have hdo := hdo_c Af e129 (H14 y14)
  have M14 : MC u14.2 c k w := nfl_mc Nh14 M
  have A14 := nfl_agd Nh14
  have c14 : u14.2 160 134 = h 160 134 := Nh14 160 134 (by decide) (by decide)
  have d14 : u14.2 160 135 = h 160 135 := Nh14 160 135 (by decide) (by decide)
  refine ok_sv (mr_right hn V14 (agd_spd V A14 S) (om_k A14 OW) O14 (by omega) M14 (q := bp w (h 160 134) a) (by omega) (by rw [c14, d14]; exact il') (by rw [c14]; exact iw)) ?_; intro u16 P16
  obtain ⟨V16, Z16, O16, P16⟩ := P16
  rcases P16 with ⟨y16, N16, R16⟩ | ⟨y16, e16⟩
  case inr =>
    rw [if_neg (show ¬ ¬ u16.1 = 0 by omega)]
    exact fq_bad V16 (nv_tr (nv_nfl Nh14) (nv_nz Z16)) O16 (by omega) (by omega) (by omega) (by omega) (by omega)
  rw [if_pos (show ¬ u16.1 = 0 by omega)]
  have Nh16 : NFl h u16.2 := nfl_tr Nh14 (fun x j p q => N16 x j (by omega))
  have A16 := nfl_agd Nh16
  have M16 : MC u16.2 c k w := nfl_mc Nh16 M
  have c16 : u16.2 160 134 = h 160 134 := Nh16 160 134 (by decide) (by decide)
  have d16 : u16.2 160 135 = h 160 135 := Nh16 160 135 (by decide) (by decide)
  have S16 : SAM f u16.2 := sam_tr (sam_n N14) (sam_12 N16)
  have LS14 : LGT u14.2 ∧ SGT u14.2 := ⟨lgt_12 N14 LG, sgt_12 N14 SG⟩
  have LS16 := lgt_s N16 LS14
  rw [c14] at R16
  have RG := rgt_c A14 R16
  have RS : RSP nn u16.2 c w rt := ⟨p136, e136, by rw [Nh16 160 136 (by decide) (by decide)]; exact r1, r2, r3, ktv_c (agd_c A16) r4⟩
  refine ok_sv (y_wanted hn V16 (agd_spd V A16 S) (om_k A16 OW) (cla_c A16 CA) M16 LS16.1 LS16.2 (q := bp w (h 160 134) a) (by omega) (by rw [c16]; exact iw) (by rw [c16, d16]; exact il') RS (by rw [c16]; exact rgt_c (agd_sy A16) RG)) ?_; intro u18 P18
  obtain ⟨V18, N18, _, W18⟩ := P18
  have Nh18 : NFl h u18.2 := nfl_tr Nh16 N18
  have O18 : OI u18.2 := nfl_oi Nh18 O
  have e18 : u18.2 160 117 = h 160 117 := Nh18 160 117 (by decide) (by decide)
  refine ok_if (fun y18 => ?_) (fun _ => fq_bad V18 (nv_nfl Nh18) O18 (by omega) (by omega) (by omega) (by omega) (by omega))
  obtain ⟨LS18, wn⟩ := W18 y18
  rw [c16] at wn
  have M18 : MC u18.2 c k w := nfl_mc Nh18 M
  have A18 := nfl_agd Nh18
  have c18 : u18.2 160 134 = h 160 134 := Nh18 160 134 (by decide) (by decide)
  have d18 : u18.2 160 135 = h 160 135 := Nh18 160 135 (by decide) (by decide)
  have FH18 := fhk_c A18 (Nh18 160 129 (by decide) (by decide)) (Nh18 160 130 (by decide) (by decide)) FH
  have RGo : RGT nn h ω c w (w 238 (h 160 134 + bp w (h 160 134) a).toNat) (opd w (h 160 134) (bp w (h 160 134) a)) := by
    unfold opd
    by_cases z : WD (w 238 (h 160 134 + bp w (h 160 134) a).toNat) = 2
    · rw [if_pos z] at RG
      rw [if_neg (by omega)]; exact RG
    · by_cases z1 : WD (w 238 (h 160 134 + bp w (h 160 134) a).toNat) ≤ 1
      · rw [if_neg z] at RG
        rw [if_pos z1]; exact RG
      · have := wd_rg (a := w 238 (h 160 134 + bp w (h 160 134) a).toNat)
        exact rgt_3 (i := 0) (wd_3 (by omega))
  refine ok_sv (mv_code V18 M18 (by omega)) ?_; intro u20 P20
  rw [c18] at P20
  have q20 := P20.1
  -- the end of the turn
  have fin : ∀ (f2 : ms_M), VS_ f2 → N12 u18.2 f2 → ((153 ≤ u20 ∧ u20 ≤ 167) → ∃ (u n : Int) (L : Int → Int) (m : Int) (K : Int → Int), FFr h c k w (AIM w (h 160 134) (bp w (h 160 134) a)) u ∧ FRT nn h c w u n L m K ∧ FITF nn h u18.2 n L m K) → Ok_ (qj_X13_flows_363 nn C (8 + c) k (bp w (h 160 134) a) u20 f2) (fun u => FQ h u ∧ (¬ u.1 = 0 → ∃ T U : Nat → ms_M, SAM f (T a) ∧ ∀ b : Nat, a ≤ b → b < N → NODE nn h ω c k w rt N T U b)) := fun f2 V2 N2 J => by
    have Nh2 : NFl h f2 := nfl_tr Nh18 (nfl_12 N2)
    have M2 : MC f2 c k w := nfl_mc Nh2 M
    have c2 : f2 160 134 = h 160 134 := Nh2 160 134 (by decide) (by decide)
    have go : ∀ l : Int, (l = 0 ∨ l = 1) → (l = 0 → (u20 = 167 ∨ u20 = 172 ∨ u20 = 176 ∨ u20 = 177 ∨ u20 = 191)) → Ok_ (qj_X13_flows_408 nn C (8 + c) k (bp w (h 160 134) a) l f2) (fun u => FQ h u ∧ (¬ u.1 = 0 → ∃ T U : Nat → ms_M, SAM f (T a) ∧ ∀ b : Nat, a ≤ b → b < N → NODE nn h ω c k w rt N T U b)) := fun l hl lo => by
      unfold qj_X13_flows_408
      refine ok_sv (mv_code V2 M2 (by rw [Nh2 160 135 (by decide) (by decide)]; omega)) ?_; intro u2 P2
      rw [c2] at P2
      refine ok_sv mw_width ?_; intro u3 P3
      have q3 := P3.1
      rw [P2.1] at q3
      refine ok_add (by omega) ?_; intro v4 e4
      rw [show v4 = bp w (h 160 134) (a + 1) from by rw [e4, q3]; rfl]
      refine ok_im (HC l f2 hl V2 Nh2 (lgt_12 N2 LS18.1) (sgt_12 N2 LS18.2)) (fun u P => ⟨P.1, fun y => ?_⟩)
      obtain ⟨T, U, X1, X2⟩ := P.2 y
      refine ⟨fun b => if b = a then u16.2 else T b, fun b => if b = a then u18.2 else U b, ?_, fun b b1 b2 => ?_⟩
      · show SAM f (if a = a then u16.2 else T a)
        rw [if_pos rfl]; exact S16
      · by_cases y0 : b = a
        · rw [y0]
          unfold NODE
          simp only [if_true, if_neg (show ¬ a + 1 = a by omega)]
          refine ⟨⟨Nh16, LS16⟩, fun u n L m K q1 q2 => bcm_s (FB u n L m K q1 q2) S16, hdo_s hdo (by rw [S16.1]), RGo, wn, ⟨Nh18, LS18⟩, ?_, fun q => ?_⟩
          · rw [← q20]; exact J
          · rw [← q20] at q
            have ln : ¬ l = 0 := fun z => q (lo z)
            exact ⟨(X1 ln).1, fit_r (X1 ln).2 (sam_n N2)⟩
        · exact node_ext (by show (if b = a then u16.2 else T b) = T b; rw [if_neg y0]) (by show (if b = a then u18.2 else U b) = U b; rw [if_neg y0]) (by show (if b + 1 = a then u16.2 else T (b + 1)) = T (b + 1); rw [if_neg (by omega)]) (X2 b (by omega) b2)
    unfold qj_X13_flows_363 qj_X13_flows_407
    refine ok_if (fun y => go 0 (.inl rfl) (fun _ => by omega)) (fun n1 => ?_)
    refine ok_if (fun y => go 0 (.inl rfl) (fun _ => by omega)) (fun n2 => ?_)
    refine ok_if (fun y => go 0 (.inl rfl) (fun _ => by omega)) (fun n3 => ?_)
    refine ok_if (fun y => go 0 (.inl rfl) (fun _ => by omega)) (fun n4 => ?_)
    refine ok_if (fun y => go 0 (.inl rfl) (fun _ => by omega)) (fun n5 => ?_)
    exact go 1 (.inr rfl) (fun z => by exfalso; omega)
  have bad : ∀ (f2 : ms_M), VS_ f2 → NFl h f2 → Ok_ (qj_X13_flows_352 nn (8 + c) k (bp w (h 160 134) a) f2) (fun u => FQ h u ∧ (¬ u.1 = 0 → ∃ T U : Nat → ms_M, SAM f (T a) ∧ ∀ b : Nat, a ≤ b → b < N → NODE nn h ω c k w rt N T U b)) := fun f2 V2 N2 => by
    unfold qj_X13_flows_352
    refine fq_bad V2 (nv_nfl N2) (nfl_oi N2 O) ?_ (by omega) (by omega) (by omega) (by omega)
    rw [N2 160 117 (by decide) (by decide)]; omega
  refine ok_sv mv_jump ?_; intro u21 P21
  refine ok_if (fun y21 => ?_) (fun y21 => ?_)
  · exact fin u18.2 V18 (fun _ _ _ => rfl) (fun z => by exfalso; omega)
  have jr : 153 ≤ u20 ∧ u20 ≤ 167 := by omega
  have w3 : WD (w 238 (h 160 134 + bp w (h 160 134) a).toNat) = 3 := by rw [← q20] at iw ⊢; exact wd_jump jr iw
  refine ok_sv (mv_aim V18 M18 (p := bp w (h 160 134) a) (by rw [d18]; omega)) ?_; intro u23 P23
  rw [c18] at P23
  refine ok_sv (mv_for3 hn V18 M18) ?_; intro u25 P25
  refine ok_if (fun _ => bad u18.2 V18 Nh18) (fun n25 => ?_)
  obtain ⟨⟨fa, fu⟩, ff⟩ : (FRa w c u25 ∧ FRu u18.2 c k w u25) ∧ FFr u18.2 c k w u23 u25 := by
    rcases P25 with p | p
    · exact absurd p.1 n25
    · exact p
  obtain ⟨n, L, m, K, F, fn, fm⟩ := frt_of hc M18.2.2.1 fa.1 (FH18.1 u25 fu)
  refine ok_sv (ml_locals hn V18 (agd_spd V A18 S) M18 LS18.1 F fn) ?_; intro u27 P27
  obtain ⟨V27, N27, _, L27⟩ := P27
  have Nh27 := nfl_tr Nh18 (nfl_12 N27)
  have A27 := nfl_agd Nh27
  refine ok_if (fun _ => bad u27.2 V27 Nh27) (fun y27 => ?_)
  refine ok_sv (ml_stack hn V27 (agd_spd V A27 S) (nfl_mc Nh27 M) (sgt_12 N27 LS18.2) (frt_c (agd_c (n12_agd N27)) F)) ?_; intro u29 P29
  obtain ⟨V29, N29, _, L29⟩ := P29
  refine ok_if (fun y29 => ?_) (fun _ => bad u29.2 V29 (nfl_tr Nh27 (nfl_12 N29)))
  refine fin u29.2 V29 (n12_tr N27 N29) (fun _ => ⟨u25, n, L, m, K, ?_, frt_c (agd_c (agd_sy A18)) F, fun y y1 y2 => got_c (agd_sy A18) (L27 y27 y y1 y2), ?_, fun y y1 y2 => ?_⟩)
  · rw [ffr_c A18, P23] at ff
    exact ff
  · rw [← N27 160 131 (by decide)]; exact (L29 y29).1
  · have := got_c (agd_sy A27) ((L29 y29).2 y y1 y2)
    rw [N27 244 _ (by omega)] at this
    exact this
end
end
section
section
variable {nn : Nat} {h g r z w v x f : ms_M} {c d e k : Int} {ω : Int → ms_M}
theorem bcm_d {n m n2 m2 : Int} {L K L2 K2 : Int → Int} (B : BCM h n L m K f) (D : n = n2 ∧ m = m2 ∧ (∀ x : Int, 0 ≤ x → x < n → L x = L2 x) ∧ (∀ x : Int, 0 ≤ x → x < m → K x = K2 x)) : BCM h n2 L2 m2 K2 f := by
  obtain ⟨b1, b2, b3, b4⟩ := B
  obtain ⟨d1, d2, d3, d4⟩ := D
  exact ⟨fun y y1 y2 => by rw [← d3 y y1 (by omega)]; exact b1 y y1 (by omega), fun y y1 y2 y3 => b2 y (by omega) y2 y3, by omega, fun y y1 y2 => by rw [← d4 y y1 (by omega)]; exact b4 y y1 (by omega)⟩
theorem ffr_hfr {t u : Int} (F : FFr h c k w t u) : HFr h c k w t := ffn_frp _ _ _ _ F
theorem f_155 {N : Nat} {rt p136 e136 : Int} (hn : 1000000 ≤ nn) (V : VS_ h) (S : SPD h) (OW : OM h ω) (CA : CLA nn h ω) (O : OI h) (room : h 160 117 ≤ 2090) (M : MC h c k w) (FH : FHK nn h c k w) (IN : INS w (h 160 134) (h 160 135) N) (r1 : h 160 136 = 6000 * c + p136) (r2 : 0 ≤ p136 ∧ e136 ≤ w 160 113) (r3 : RTk (w 238) p136 e136) (r4 : KTv nn h c (w 238) p136 e136 rt) : ∀ (j : Nat) (a : Nat) (l : Int) (f : ms_M), a ≤ N → (l = 0 ∨ l = 1) → VS_ f → NFl h f → LGT f → SGT f → N - a < j → Ok_ (qw_X13_flows_155 nn j (8 + c) k l (bp w (h 160 134) a) f) (fun u => FQ h u ∧ (¬ u.1 = 0 → FLT nn h ω c k w rt N a l f)) := by
  have hc := M.1
  have hk12 : k < 12 := (wi_mt M.2.2.1 M.1 M.2.1).1
  have hk0 := M.2.1.1
  have cd := mc_code M
  intro j
  induction j with
  | zero => intro a l f aN hl Vf Nf LG SG hm; exfalso; omega
  | succ j ih =>
    intro a l f aN hl Vf Nf LG SG hm
    have Af := nfl_agd Nf
    have Mf : MC f c k w := nfl_mc Nf M
    have Of : OI f := nfl_oi Nf O
    have Sf := agd_spd V Af S
    have e117 : f 160 117 = h 160 117 := Nf 160 117 (by decide) (by decide)
    have e129 : f 160 129 = h 160 129 := Nf 160 129 (by decide) (by decide)
    have e130 : f 160 130 = h 160 130 := Nf 160 130 (by decide) (by decide)
    have FHf := fhk_c Af e129 e130 FH
    unfold qw_X13_flows_155
    rw [Nf 160 135 (by decide) (by decide)]
    refine ok_if (fun C => ?_) (fun C => ?_)
    · have eN : a = N := by
        by_cases y : a < N
        · have := (IN.2 a y).1; exfalso; omega
        · omega
      refine ok_if (fun y => ok_ret ⟨⟨Vf, nv_nfl Nf, Of, .inl ⟨rfl, e117⟩⟩, fun _ => ⟨fun _ => f, fun _ => f, fun z => absurd y z, fun b b1 b2 => by exfalso; omega⟩⟩) (fun _ => fq_bad Vf (nv_nfl Nf) Of (by omega) (by omega) (by omega) (by omega) (by omega))
    have aN2 : a < N := by
      by_cases y : a = N
      · rw [y, IN.1] at C; exfalso; omega
      · omega
    obtain ⟨iq, _⟩ := IN.2 a aN2
    have bad : ∀ (f2 : ms_M), VS_ f2 → NFl h f2 → Ok_ (qj_X13_flows_223 nn (8 + c) k (bp w (h 160 134) a) f2) (fun u => FQ h u ∧ (¬ u.1 = 0 → FLT nn h ω c k w rt N a l f)) := fun f2 V2 N2 => by
      unfold qj_X13_flows_223
      refine fq_bad V2 (nv_nfl N2) (nfl_oi N2 O) ?_ (by omega) (by omega) (by omega) (by omega)
      rw [N2 160 117 (by decide) (by decide)]; omega
    have K240 : ∀ (f2 : ms_M), VS_ f2 → NFl h f2 → LGT f2 → SGT f2 → (∀ (u n : Int) (L : Int → Int) (m : Int) (K : Int → Int), FFr h c k w (bp w (h 160 134) a) u → FRT nn h c w u n L m K → BCM h n L m K f2) → (¬ l = 0 → FIT nn h f f2) → Ok_ (qj_X13_flows_240 nn (qw_X13_flows_155 nn j) (8 + c) k (bp w (h 160 134) a) f2) (fun u => FQ h u ∧ (¬ u.1 = 0 → FLT nn h ω c k w rt N a l f)) := fun f2 V2 N2 L2 S2 B2 F2 => by
      refine ok_im (f_240 hn V S OW CA O room M FH IN r1 r2 r3 r4 aN2 (C := qw_X13_flows_155 nn j) (fun l2 f3 hl2 V3 N3 L3 S3 => ih (a + 1) l2 f3 (by omega) hl2 V3 N3 L3 S3 (by omega)) V2 N2 L2 S2 B2) (fun u P => ⟨P.1, fun y => ?_⟩)
      obtain ⟨T, U, X1, X2⟩ := P.2 y
      exact ⟨T, U, fun z => ⟨aN2, fit_s (F2 z) X1⟩, X2⟩
    have K194 : ∀ u7 : Int, ((u7 = -1 ∧ ¬ HFr f c k w (bp w (h 160 134) a)) ∨ ((FRa w c u7 ∧ FRu f c k w u7) ∧ FFr f c k w (bp w (h 160 134) a) u7)) → (¬ l = 0 ∨ ¬ u7 = -1) → Ok_ (qj_X13_flows_194 nn (qw_X13_flows_155 nn j) (8 + c) k l (bp w (h 160 134) a) u7 f) (fun u => FQ h u ∧ (¬ u.1 = 0 → FLT nn h ω c k w rt N a l f)) := fun u7 P7 ln => by
      unfold qj_X13_flows_194
      refine ok_if (fun y => ?_) (fun y => ?_)
      · have nf : ¬ HFr h c k w (bp w (h 160 134) a) := by
          rcases P7 with p | p
          · rw [← hfr_c Af]; exact p.2
          · have := p.1.1.1; exfalso; omega
        exact K240 f Vf Nf LG SG (fun u n L m K q1 _ => absurd (ffr_hfr q1) nf) (fun _ => fit_rf)
      obtain ⟨⟨fa, fu⟩, ff⟩ : (FRa w c u7 ∧ FRu f c k w u7) ∧ FFr f c k w (bp w (h 160 134) a) u7 := by
        rcases P7 with p | p
        · exact absurd p.1 y
        · exact p
      rw [fru_c Af] at fu
      rw [ffr_c Af] at ff
      obtain ⟨n, L, m, K, F, fn, fm⟩ := frt_of hc M.2.2.1 fa.1 (FH.1 u7 fu)
      have frg : (∀ q : Int, 0 ≤ q → q < n → 0 ≤ L q ∧ L q < 20 + 2 * h 160 98) ∧ (∀ q : Int, 0 ≤ q → q < m → 0 ≤ K q ∧ K q < 20 + 2 * h 160 98) := by
        obtain ⟨⟨u0, en⟩, aa, bb, t1, em, t2, lb⟩ := F
        have g3 := gF_160_113 M.2.2.1.1
        have l1 := ty_le _ _ _ (ftn_ty _ _ _ _ t1)
        have l2 := ty_le _ _ _ (ftn_ty _ _ _ _ t2)
        have R : ∀ (L : Int → Int) (n : Nat) (i p q : Int), 0 ≤ p → q ≤ w 160 113 → FTn nn h c w L n i p q → ∀ y : Int, i ≤ y → y < i + n → 0 ≤ L y ∧ L y < 20 + 2 * h 160 98 := by
          intro L n
          induction n with
          | zero => intro i p q _ _ _ y y1 y2; exfalso; omega
          | succ n ihn =>
            intro i p q p0 q0 X y y1 y2
            have le := ty_le _ _ _ (ftn_ty _ _ _ _ X)
            by_cases y0 : y = i
            · rw [y0]; exact fv_rg V M.2.2.1.1 (by omega) X.1
            · rcases X.2 with b | b
              · exact ihn _ _ _ (by omega) q0 b.2 y (by omega) (by omega)
              · exact ihn _ _ _ (by omega) q0 b.2.2 y (by omega) (by omega)
        exact ⟨fun q q1 q2 => R L _ 0 _ _ (by omega) (by omega) t1 q q1 (by omega), fun q q1 q2 => R K _ 0 _ _ (by omega) lb t2 q q1 (by omega)⟩
      have K234 : ∀ (f2 : ms_M), VS_ f2 → N12 f f2 → (¬ l = 0 → FITF nn h f n L m K) → Ok_ (qj_X13_flows_234 nn (qw_X13_flows_155 nn j) (8 + c) k (bp w (h 160 134) a) u7 f2) (fun u => FQ h u ∧ (¬ u.1 = 0 → FLT nn h ω c k w rt N a l f)) := fun f2 V2 N2 FF => by
        have Nh2 := nfl_tr Nf (nfl_12 N2)
        have A2 := nfl_agd Nh2
        unfold qj_X13_flows_234
        have e2 : f2 160 129 = h 160 129 := Nh2 160 129 (by decide) (by decide)
        refine ok_sv (ml_becomes hn V2 (nfl_mc Nh2 M) (frt_c (agd_c A2) F) (by rw [e2]; exact fn) (by rw [Nh2 160 130 (by decide) (by decide)]; exact fm)) ?_; intro u47 P47
        obtain ⟨V4, N4, B4⟩ := P47
        have Nh4 := nfl_tr Nh2 N4
        have A4 := nfl_agd Nh4
        have B4h : BCM h n L m K u47 := ⟨B4.1, fun y y1 y2 y3 => B4.2.1 y y1 y2 (by rw [e2]; exact y3), B4.2.2⟩
        refine K240 u47 V4 Nh4 (fun q q1 q2 => ?_) ⟨?_, fun q q1 q2 => ?_⟩ (fun u n2 L2 m2 K2 q1 q2 => ?_) (fun z => fit_f (FF z) B4h)
        · rw [Nh4 160 129 (by decide) (by decide)] at q2
          refine gts_c A4 ?_
          by_cases y : q < n
          · rw [B4h.1 q q1 y]; exact frg.1 q q1 y
          · rw [B4h.2.1 q (by omega) q1 q2]; exact ⟨by decide, by have := gF_160_98 V; omega⟩
        · rw [Nh4 160 130 (by decide) (by decide), B4h.2.2.1]; exact fm
        · rw [B4h.2.2.1] at q2
          rw [B4h.2.2.2 q q1 q2]
          exact gts_c A4 (frg.2 q q1 q2)
        · have eu : u = u7 := ffn_det _ _ _ _ _ q1 ff
          rw [eu] at q2
          exact bcm_d B4h (frt_det M.2.2.1.1 F q2)
      refine ok_if (fun y => K234 f Vf (fun _ _ _ => rfl) (fun z => absurd y z)) (fun y => ?_)
      refine ok_sv (ml_locals hn Vf Sf Mf LG (frt_c (agd_c Af) F) (by rw [e129]; exact fn)) ?_; intro u52 P52
      obtain ⟨V5, N5, _, L5⟩ := P52
      refine ok_if (fun _ => bad u52.2 V5 (nfl_tr Nf (nfl_12 N5))) (fun y5 => ?_)
      have Nh5 := nfl_tr Nf (nfl_12 N5)
      have A5 := nfl_agd Nh5
      refine ok_sv (ml_stack hn V5 (agd_spd V A5 S) (nfl_mc Nh5 M) (sgt_12 N5 SG) (frt_c (agd_c A5) F)) ?_; intro u54 P54
      obtain ⟨V6, N6, _, L6⟩ := P54
      refine ok_if (fun y6 => ?_) (fun _ => bad u54.2 V6 (nfl_tr Nh5 (nfl_12 N6)))
      refine K234 u54.2 V6 (n12_tr N5 N6) (fun _ => ⟨fun q q1 q2 => got_c (agd_sy Af) (L5 y5 q q1 q2), ?_, fun q q1 q2 => ?_⟩)
      · rw [← N5 160 131 (by decide)]; exact (L6 y6).1
      · have := got_c (agd_sy A5) ((L6 y6).2 q q1 q2)
        rw [N5 244 _ (by omega)] at this
        exact this
    refine ok_sv (mv_for3 hn Vf Mf) ?_; intro u66 P66
    refine ok_if (fun y => K194 u66 P66 (.inl y)) (fun y => ?_)
    refine ok_if (fun y2 => K194 u66 P66 (.inr y2)) (fun _ => fq_bad Vf (nv_nfl Nf) Of (by omega) (by omega) (by omega) (by omega) (by omega))
/-- the types that the locals begin with: s = 1 where the method has its object -/
def ini (c s m : Int) (L : Int → Int) (y : Int) : Int := if y < s then 4 + 2 * (8 + c) else if y < s + m then L (y - s) else 0
/-- the flag of method k: static or not -/
def flg (h : ms_M) (c k : Int) (w : ms_M) : Int := w 238 (h 235 (12 * c + k).toNat).toNat
/-- method k of image c is good -/
def MOK (nn : Nat) (h : ms_M) (ω : Int → ms_M) (c k : Int) : Prop := ∃ (g : ms_M) (N : Nat) (T U : Nat → ms_M) (m : Int) (L : Int → Int) (q t : Int), (AGd h g ∧ VS_ g ∧ MC g c k (ω c)) ∧ INS (ω c) (g 160 134) (g 160 135) N ∧ TKV nn g c (ω c) (kdT g ω c 1 k) m L q t ∧ ((1 - flg g c k (ω c)) + m ≤ g 160 129 ∧ 0 < N) ∧ ((∀ y : Int, 0 ≤ y → y < g 160 129 → GOt nn g (ini c (1 - flg g c k (ω c)) m L y) (T 0 243 y.toNat)) ∧ T 0 160 131 = 0) ∧ (∀ u : Int, FRu g c k (ω c) u → FOK nn g c k (ω c) u ∧ BGI (ω c) (g 160 134) N (pw (ω c 238 u.toNat) (ω c 238 (u + 1).toNat))) ∧ HDK nn g c k (ω c) ∧ ∀ b : Nat, b < N → NODE nn g ω c k (ω c) t N T U b
theorem mok_c {h2 : ms_M} (A : AGd h h2) (X : MOK nn h ω c k) : MOK nn h2 ω c k := by
  obtain ⟨g, N, T, U, m, L, q, t, ⟨a, b, d⟩, r⟩ := X
  exact ⟨g, N, T, U, m, L, q, t, ⟨agd_tr (agd_sy A) a, b, d⟩, r⟩
theorem mc_xd (M : MC h c k w) : (w 238 (h 235 (12 * c + k).toNat).toNat ≤ 1) ∧ TS 2 w c (w 238 (h 235 (12 * c + k).toNat + 2).toNat) ∧ ∃ m : Nat, m ≤ 6 ∧ MKn (w 238) m (pl w c (w 238 (h 235 (12 * c + k).toNat + 2).toNat) + 2) (pl w c (w 238 (h 235 (12 * c + k).toNat + 2).toNat) + 2 + w 238 (pl w c (w 238 (h 235 (12 * c + k).toNat + 2).toNat) + 1).toNat) ∧ (m : Int) + 1 ≤ h 160 129 + w 238 (h 235 (12 * c + k).toNat).toNat := by
  obtain ⟨hc, hk, W, _, _, _, e4, _, _⟩ := M
  obtain ⟨_, _, m⟩ := wi_mt W hc hk
  obtain ⟨q, _, m⟩ := m
  unfold XM XI XG XE XD at m
  rw [e4]
  exact ⟨m.1, m.2.2.1, m.2.2.2.2.2.1⟩
theorem ins_le {A Z : Int} {N : Nat} (IN : INS w A Z N) : (N : Int) ≤ Z := by
  have L : ∀ m : Nat, m ≤ N → (m : Int) ≤ bp w A m := by
    intro m
    induction m with
    | zero => intro _; exact Int.le_refl 0
    | succ m ih =>
      intro hm
      have a := ih (by omega)
      have b := (IN.2 m (by omega)).2.1
      show ((m + 1 : Nat) : Int) ≤ bp w A m + WD _
      omega
  have := L N (Nat.le_refl N)
  rw [IN.1] at this
  exact this
theorem f_flows {N : Nat} (hn : 1000000 ≤ nn) (V : VS_ h) (S : SPD h) (OW : OM h ω) (CA : CLA nn h ω) (O : OI h) (room : h 160 117 ≤ 2090) (M : MC h c k (ω c)) (c98 : c < h 160 98) (FK : ∀ u : Int, FRu h c k (ω c) u → FOK nn h c k (ω c) u ∧ BGI (ω c) (h 160 134) N (pw (ω c 238 u.toNat) (ω c 238 (u + 1).toNat))) (HK : HDK nn h c k (ω c)) (IN : INS (ω c) (h 160 134) (h 160 135) N) : Ok_ (qf_X13_flows nn (8 + c) k h) (fun u => FQ h u ∧ (¬ u.1 = 0 → MOK nn h ω c k)) := by
  have hc := M.1
  have W := M.2.2.1
  have m30 := mc_30 M
  have hk := M.2.1
  obtain ⟨hk12, mb, _⟩ := wi_mt W hc hk
  have g98 := gF_160_98 V
  have g129 := gF_160_129 V
  have g3 := gF_160_113 W.1
  have g235 := gA_235 V (12 * c + k).toNat (by omega)
  obtain ⟨f1, ts, m0, m06, ⟨_, q0, pr0, f410, _⟩, ml0⟩ := mc_xd M
  have e0 : kdT h ω c 1 k = ω c 238 (h 235 (12 * c + k).toNat + 2).toNat := rfl
  have kf := (CA (8 + c) (by omega) (by omega)).2.2.1.2 k hk.1 (by rw [show 8 + c - 8 = c by omega]; exact hk.2)
  rw [show 8 + c - 8 = c by omega] at kf
  obtain ⟨m, L, q, t, kv⟩ := mkv_of kf
  have kv0 := kv
  obtain ⟨m6, pv, f41, rt, kt⟩ := kv
  obtain ⟨em, eq⟩ := pr_41 _ _ _ _ _ (pv_pr _ _ _ _ pv) pr0 f41 f410
  have le := pv_lt _ _ _ _ pv
  obtain ⟨a1, a2, a3, a4, a5⟩ := wi_tx W hc ts.1
  have lt : q + 1 < pl (ω c) c (ω c 238 (h 235 (12 * c + k).toNat + 2).toNat) + 2 + ω c 238 (pl (ω c) c (ω c 238 (h 235 (12 * c + k).toNat + 2).toNat) + 1).toNat := by
    rcases rt with y | y
    · omega
    · have := kd_lt y; omega
  have fl0 := gA_238 W.1 (h 235 (12 * c + k).toNat).toNat (by omega)
  have efl : flg h c k (ω c) = ω c 238 (h 235 (12 * c + k).toNat).toNat := rfl
  have np : 0 < N := by
    by_cases y : N = 0
    · have := IN.1
      rw [y] at this
      have cd := mc_code M
      have : (0 : Int) = h 160 135 := this
      exfalso; omega
    · omega
  -- the parameters
  have T105 : ∀ (j : Nat) (l : Nat) (i p : Int) (f : ms_M), VS_ f → NFl h f → 0 ≤ p → (0 ≤ i ∧ i + l = m) → f 160 131 = 0 → PVn nn h c (ω c 238) L l i p q → (∀ y : Int, 0 ≤ y → y < h 160 129 → f 243 y.toNat = ini c (1 - flg h c k (ω c)) i L y) → l < j → Ok_ (qw_X13_flows_105 nn j (8 + c) k (1 - flg h c k (ω c) + i) (6000 * c + p) f) (fun u => FQ h u ∧ (¬ u.1 = 0 → MOK nn h ω c k)) := by
    intro j
    induction j with
    | zero => intro l i p f Vf Nf p0 a z Y D hm; exfalso; omega
    | succ j ih =>
      intro l i p f Vf Nf p0 a z Y D hm
      have Af := nfl_agd Nf
      have Mf : MC f c k (ω c) := nfl_mc Nf M
      have lq := pv_lt _ _ _ _ Y
      unfold qw_X13_flows_105
      refine ok_rd (by omega) (gA_226 Vf) ?_; intro v74 e74 _ _
      rw [Mf.2.2.1.2.2.1 p (by omega) (by omega)] at e74
      cases l with
      | zero =>
        have Y : p = q := Y
        rw [if_pos (show v74 = 41 by rw [e74, Y]; exact f41)]
        refine ok_add (by omega) ?_; intro v75 e75
        refine ok_xl ?_; intro h76 E76
        have V76 : VS_ h76 := by rw [E76]; exact wF_160_136 Vf (by omega)
        have Nv : NV h h76 := nv_tr (nv_nfl Nf) (fun x j p q => by rw [E76, up_n (by omega)])
        have A76 : AGd h h76 := ⟨fun x j p q => Nv x j (by omega) (by omega), Nv 160 98 (by decide) (by decide), Nv 900000 0 (by omega) (by omega)⟩
        have M76 : MC h76 c k (ω c) := mc_v (fun x j p q => Nv x j (by omega) (by omega)) M
        have e117 : h76 160 117 = h 160 117 := by rw [E76, up_n (by omega)]; exact Nf 160 117 (by decide) (by decide)
        have O76 : OI h76 := fun y hy => by
          rw [E76, up_n (by omega), up_n (by omega)]
          exact nfl_oi Nf O y (by rw [E76, up_n (by omega)] at hy; exact hy)
        have c134 : h76 160 134 = h 160 134 := Nv 160 134 (by decide) (by decide)
        have c135 : h76 160 135 = h 160 135 := Nv 160 135 (by decide) (by decide)
        have c129 : h76 160 129 = h 160 129 := Nv 160 129 (by decide) (by decide)
        have c130 : h76 160 130 = h 160 130 := Nv 160 130 (by decide) (by decide)
        have cfl : flg h76 c k (ω c) = flg h c k (ω c) := by unfold flg; rw [A76.1 235 _ (by decide) (by decide)]
        have i0 : i = m := by omega
        rw [i0] at D
        have D76 : ∀ y : Int, 0 ≤ y → y < h 160 129 → h76 243 y.toNat = ini c (1 - flg h c k (ω c)) m L y := fun y y1 y2 => by rw [E76, up_n (by omega)]; exact D y y1 y2
        have rgL : ∀ y : Int, 0 ≤ y → y < m → GTs h (L y) := by
          have R : ∀ (n : Nat) (i p q : Int), PVn nn h c (ω c 238) L n i p q → ∀ y : Int, i ≤ y → y < i + n → GTs h (L y) := by
            intro n
            induction n with
            | zero => intro i p q _ y y1 y2; exfalso; omega
            | succ n ihn =>
              intro i p q X y y1 y2
              obtain ⟨e, ⟨x1, x2⟩, x3⟩ := X
              by_cases y0 : y = i
              · rw [y0]; exact ktv_rg V x2
              · exact ihn _ _ _ x3 y (by omega) (by omega)
          exact fun y y1 y2 => R _ 0 _ _ pv y y1 (by omega)
        have z76 : h76 160 131 = 0 := by rw [E76, up_n (by omega)]; exact z
        have LG : LGT h76 := fun y y1 y2 => by
          rw [c129] at y2
          rw [D76 y y1 y2]
          refine gts_c A76 ?_
          unfold ini
          by_cases q1 : y < 1 - flg h c k (ω c)
          · rw [if_pos q1]; exact ⟨by omega, by omega⟩
          · rw [if_neg q1]
            by_cases q2 : y < 1 - flg h c k (ω c) + m
            · rw [if_pos q2]; exact rgL _ (by omega) (by omega)
            · rw [if_neg q2]; exact ⟨by omega, by omega⟩
        have SG : SGT h76 := ⟨by rw [z76, c130]; exact (gF_160_130 V).1, fun y y1 y2 => by exfalso; omega⟩
        have FH76 : FHK nn h76 c k (ω c) := fhk_c A76 c129 c130 ⟨fun u y => (FK u y).1, HK⟩
        have KT : KTv nn h76 c (ω c 238) (q + 1) (pl (ω c) c (ω c 238 (h 235 (12 * c + k).toNat + 2).toNat) + 2 + ω c 238 (pl (ω c) c (ω c 238 (h 235 (12 * c + k).toNat + 2).toNat) + 1).toNat) t := ktv_c (agd_c A76) kt
        refine ok_im (f_155 hn V76 (agd_spd V A76 S) (om_k A76 OW) (cla_c A76 CA) O76 (by omega) M76 FH76 (N := N) (by rw [c134, c135]; exact IN) (p136 := q + 1) (by rw [E76, up_s]; omega) (by omega) rt KT nn 0 1 h76 (by omega) (.inr rfl) V76 nfl_rf LG SG (by have := ins_le IN; have := mc_code M; omega)) (fun u P => ⟨?_, fun y => ?_⟩)
        · obtain ⟨⟨p1, p2, p3, p4⟩, _⟩ := P
          exact ⟨p1, nv_tr Nv p2, p3, by rw [e117] at p4; exact p4⟩
        · obtain ⟨T, U, X1, X2⟩ := P.2 y
          obtain ⟨X0, X1⟩ := X1 (by decide)
          refine ⟨h76, N, T, U, m, L, q, t, ⟨A76, V76, M76⟩, by rw [c134, c135]; exact IN, ?_, ⟨by rw [cfl, c129]; omega, X0⟩, ⟨fun y y1 y2 => ?_, ?_⟩, fun u y => ?_, FH76.2, fun b hb => X2 b (by omega) hb⟩
          · rw [kdT_c A76, e0]
            exact mkv_c (agd_c A76) kv0
          · have := X1.1 y y1 y2
            rw [c129] at y2
            rw [D76 y y1 y2] at this
            rw [cfl]; exact this
          · rw [← X1.2.1]; exact z76
          · rw [fru_c A76] at y
            rw [c134]
            exact ⟨fok_c A76 c129 c130 (FK u y).1, (FK u y).2⟩
      | succ l =>
        obtain ⟨e, ⟨y1, y2⟩, y3⟩ := Y
        have le3 := pv_lt _ _ _ _ y3
        have lt3 := kd_lt y1
        rw [if_neg (show ¬ v74 = 41 by rw [e74]; exact kd_41 y1)]
        refine ok_sv (rg_typeAt hn Vf hc Mf.2.2.1 p0 (by omega) (.inr y1) (ktv_c (agd_c Af) y2)) ?_; intro u79 P79
        obtain ⟨⟨V79, N79, e120, b79⟩, q79⟩ := P79
        have f98 : f 160 98 = h 160 98 := Af.2.1
        refine ok_wA (by omega) ?_; intro h80 E80
        have V80 : VS_ h80 := by rw [E80]; exact wA_243 V79 (by omega)
        have N80 : NFl h h80 := nfl_tr Nf (nfl_tr (nfl_12 N79) (fun x j p q => by rw [E80, up_n (by omega)]))
        have e120' : h80 160 120 = 6000 * c + e := by rw [E80, up_n (by omega)]; exact e120
        refine ok_add (by omega) ?_; intro v81 e81
        rw [show v81 = 1 - flg h c k (ω c) + (i + 1) by omega, e120']
        refine ih l (i + 1) e h80 V80 N80 (by omega) (by omega) (by rw [E80, up_n (by omega), N79 160 131 (by decide)]; exact z) y3 (fun y z1 z2 => ?_) (by omega)
        by_cases y0 : y = 1 - flg h c k (ω c) + i
        · rw [y0, E80, up_s, q79]
          unfold ini
          rw [if_neg (by omega), if_pos (by omega), show 1 - flg h c k (ω c) + i - (1 - flg h c k (ω c)) = i by omega]
        · rw [E80, up_n (by omega), N79 243 _ (by omega), D y z1 z2]
          unfold ini
          by_cases q1 : y < 1 - flg h c k (ω c)
          · rw [if_pos q1, if_pos q1]
          · rw [if_neg q1, if_neg q1]
            by_cases q2 : y < 1 - flg h c k (ω c) + i
            · rw [if_pos q2, if_pos (by omega)]
            · rw [if_neg q2, if_neg (by omega)]
  have T68 : ∀ (f : ms_M), VS_ f → NFl h f → f 160 131 = 0 → (∀ y : Int, 0 ≤ y → y < h 160 129 → f 243 y.toNat = ini c (1 - flg h c k (ω c)) 0 L y) → Ok_ (qj_X13_flows_68 nn (8 + c) k (1 - flg h c k (ω c)) f) (fun u => FQ h u ∧ (¬ u.1 = 0 → MOK nn h ω c k)) := fun f Vf Nf z D => by
    have Af := nfl_agd Nf
    have Mf : MC f c k (ω c) := nfl_mc Nf M
    unfold qj_X13_flows_68
    rw [Mf.2.2.2.1]
    refine ok_mul (by omega) ?_; intro v85 e85
    refine ok_mul (by omega) ?_; intro v88 e88
    refine ok_sv (rt_kind Vf hc Mf.2.2.1 (s := 1) (k := k) Mf.2.1) ?_; intro u91 P91
    have q91 : u91 = ω c 238 (h 235 (12 * c + k).toNat + 2).toNat := by rw [P91.1, kdT_c Af]; rfl
    rw [q91]
    refine ok_add (by omega) ?_; intro v92 e92
    refine ok_rd (by omega) (gA_228 Vf) ?_; intro v93 e93 _ _
    rw [e92, e88, Af.1 228 _ (by decide) (by decide), a2] at e93
    refine ok_add (by omega) ?_; intro v94 e94
    refine ok_add (by omega) ?_; intro v95 e95
    rw [show v95 = 6000 * c + (pl (ω c) c (ω c 238 (h 235 (12 * c + k).toNat + 2).toNat) + 2 + 1) by omega]
    have := T105 nn m.toNat 0 _ f Vf Nf (by omega) (by omega) z pv D (by omega)
    rw [show 1 - flg h c k (ω c) + 0 = 1 - flg h c k (ω c) by omega] at this
    exact this
  -- the locals are cleared
  have T2 : ∀ (j : Nat) (i : Int) (f : ms_M), VS_ f → NFl h f → (0 ≤ i ∧ i ≤ h 160 129) → (∀ y : Int, 0 ≤ y → y < i → f 243 y.toNat = 0) → h 160 129 - i < (j : Int) → Ok_ (qw_X13_flows_2 nn j (8 + c) k i f) (fun u => FQ h u ∧ (¬ u.1 = 0 → MOK nn h ω c k)) := by
    intro j
    induction j with
    | zero => intro i f Vf Nf a D hm; exfalso; omega
    | succ j ih =>
      intro i f Vf Nf a D hm
      unfold qw_X13_flows_2
      rw [Nf 160 129 (by decide) (by decide)]
      refine ok_if (fun C => ?_) (fun C => ?_)
      · refine ok_xl ?_; intro h97 E97
        have V97 : VS_ h97 := by rw [E97]; exact wF_160_131 Vf (by omega)
        have N97 : NFl h h97 := nfl_tr Nf (fun x j p q => by rw [E97, up_n (by omega)])
        have A97 := nfl_agd N97
        have M97 : MC h97 c k (ω c) := nfl_mc N97 M
        have z97 : h97 160 131 = 0 := by rw [E97, up_s]
        have D97 : ∀ y : Int, 0 ≤ y → y < h 160 129 → h97 243 y.toNat = 0 := fun y y1 y2 => by rw [E97, up_n (by omega)]; exact D y y1 (by omega)
        rw [M97.2.2.2.1]
        refine ok_mul (by omega) ?_; intro v101 e101
        refine ok_add (by omega) ?_; intro v102 e102
        refine ok_rd (by omega) (gA_235 V97) ?_; intro v103 e103 _ _
        rw [e102, e101, A97.1 235 _ (by decide) (by decide)] at e103
        refine ok_sv (mv_bytew V97 hc M97.2.2.1 (by omega)) ?_; intro u105 P105
        have q105 : u105 = flg h c k (ω c) := by rw [P105.1, e103]; rfl
        refine ok_if (fun Y => ?_) (fun Y => ?_)
        · have e1 : 1 - flg h c k (ω c) = 0 := by omega
          have := T68 h97 V97 N97 z97 (fun y y1 y2 => by
            rw [D97 y y1 y2]
            unfold ini
            rw [if_neg (by omega), if_neg (by omega)])
          rw [e1] at this
          exact this
        · have e1 : 1 - flg h c k (ω c) = 1 := by omega
          refine ok_mul (by omega) ?_; intro v107 e107
          refine ok_add (by omega) ?_; intro v108 e108
          refine ok_wA (by omega) ?_; intro h109 E109
          have V109 : VS_ h109 := by rw [E109]; exact wA_243 V97 (by omega)
          have N109 : NFl h h109 := nfl_tr N97 (fun x j p q => by rw [E109, up_n (by omega)])
          have := T68 h109 V109 N109 (by rw [E109, up_n (by omega)]; exact z97) (fun y y1 y2 => by
            unfold ini
            by_cases y0 : y = 0
            · rw [y0, if_pos (by omega), E109, up_s]; omega
            · rw [if_neg (by omega), if_neg (by omega), E109, up_n (by omega)]
              exact D97 y y1 y2)
          rw [e1] at this
          exact this
      · refine ok_wA (by omega) ?_; intro h112 E112
        refine ok_add (by omega) ?_; intro v113 e113
        rw [e113]
        refine ih (i + 1) h112 (by rw [E112]; exact wA_243 Vf (by omega)) (nfl_tr Nf (fun x j p q => by rw [E112, up_n (by omega)])) (by omega) (fun y y1 y2 => ?_) (by omega)
        by_cases y0 : y = i
        · rw [y0, E112, up_s]
        · rw [E112, up_n (by omega)]; exact D y y1 (by omega)
  unfold qf_X13_flows
  exact T2 nn 0 h V nfl_rf (by omega) (fun y y1 y2 => by exfalso; omega) (by omega)
end
end

section
variable {nn : Nat} {h g r z w v x f : ms_M} {c d e k : Int} {ω : Int → ms_M}
theorem wd_known {a : Int} (p : 1 ≤ WD a) : a ≤ 8 ∨ a = 16 ∨ a = 18 ∨ a = 21 ∨ a = 25 ∨ a = 54 ∨ a = 58 ∨ (180 ≤ a ∧ a ≤ 182) ∨ a = 184 ∨ (187 ≤ a ∧ a ≤ 189) ∨ a = 192 ∨ a = 193 ∨ a = 46 ∨ a = 50 ∨ a = 79 ∨ a = 83 ∨ a = 87 ∨ a = 89 ∨ a = 96 ∨ a = 100 ∨ a = 104 ∨ a = 108 ∨ a = 112 ∨ a = 116 ∨ a = 120 ∨ a = 122 ∨ a = 124 ∨ a = 126 ∨ a = 128 ∨ a = 130 ∨ a = 172 ∨ a = 176 ∨ a = 177 ∨ a = 186 ∨ a = 190 ∨ a = 191 ∨ a = 153 ∨ a = 154 ∨ (159 ≤ a ∧ a ≤ 167) := by
  have L : Ok_ (qf_X13_widthOf 0 a (fun _ _ => 0)) (fun u => 1 ≤ u → a ≤ 8 ∨ a = 16 ∨ a = 18 ∨ a = 21 ∨ a = 25 ∨ a = 54 ∨ a = 58 ∨ (180 ≤ a ∧ a ≤ 182) ∨ a = 184 ∨ (187 ≤ a ∧ a ≤ 189) ∨ a = 192 ∨ a = 193 ∨ a = 46 ∨ a = 50 ∨ a = 79 ∨ a = 83 ∨ a = 87 ∨ a = 89 ∨ a = 96 ∨ a = 100 ∨ a = 104 ∨ a = 108 ∨ a = 112 ∨ a = 116 ∨ a = 120 ∨ a = 122 ∨ a = 124 ∨ a = 126 ∨ a = 128 ∨ a = 130 ∨ a = 172 ∨ a = 176 ∨ a = 177 ∨ a = 186 ∨ a = 190 ∨ a = 191 ∨ a = 153 ∨ a = 154 ∨ (159 ≤ a ∧ a ≤ 167)) := by
    unfold qf_X13_widthOf qj_X13_widthOf_736 qj_X13_widthOf_738 qj_X13_widthOf_740 qj_X13_widthOf_742
    repeat' (first | exact ok_ret (fun _ => by omega) | exact ok_ret (fun q => absurd q (by decide)) | (refine ok_if (fun _ => ?_) (fun _ => ?_)))
  obtain ⟨u, e, P⟩ := L
  unfold WD at p
  rw [e] at p
  exact P p
/-- type y below the top of the stack -/
def tp (f : ms_M) (y : Int) : Int := f 244 (f 160 131 - 1 - y).toNat
/-- m values are taken -/
def POP (f : ms_M) (m : Int) (r : ms_M) : Prop := (∀ x j : Nat, ¬ (x = 160 ∧ (j = 120 ∨ j = 131)) → x ≠ 245 → r x j = f x j) ∧ r 160 131 = f 160 131 - m ∧ (0 ≤ m ∧ m ≤ f 160 131)
/-- m values are taken, and one of type t comes -/
def PS1 (f : ms_M) (m t : Int) (r : ms_M) : Prop := (∀ x j : Nat, ¬ (x = 160 ∧ (j = 120 ∨ j = 131)) → x ≠ 245 → ¬ (x = 244 ∧ j = (f 160 131 - m).toNat) → r x j = f x j) ∧ r 160 131 = f 160 131 - m + 1 ∧ (0 ≤ m ∧ m ≤ f 160 131) ∧ f 160 131 - m < f 160 130 ∧ r 244 (f 160 131 - m).toNat = t
/-- the top goes to local i -/
def STO (f : ms_M) (i : Int) (r : ms_M) : Prop := (∀ x j : Nat, ¬ (x = 160 ∧ j = 131) → ¬ (x = 243 ∧ j = i.toNat) → r x j = f x j) ∧ (0 ≤ i ∧ i < f 160 129) ∧ 1 ≤ f 160 131 ∧ r 160 131 = f 160 131 - 1 ∧ r 243 i.toNat = tp f 0
theorem pop_nfl {m : Int} (P : POP f m r) : NFl f r := fun x j a b => P.1 x j (by omega) (by omega)
theorem ps1_nfl {m t : Int} (P : PS1 f m t r) : NFl f r := fun x j a b => P.1 x j (by omega) (by omega) (by omega)
theorem sto_nfl {i : Int} (P : STO f i r) : NFl f r := fun x j a b => P.1 x j (by omega) (by omega)
theorem pop_rf (V : VS_ f) : POP f 0 f := ⟨fun _ _ _ _ => rfl, by omega, by omega, (gF_160_131 V).1⟩
theorem pop_12 {m : Int} (P : POP f m r) (N : N12 r z) : POP f m z := ⟨fun x j a b => (N x j (by omega)).trans (P.1 x j a b), by rw [N 160 131 (by decide)]; exact P.2.1, P.2.2⟩
theorem pop_lgt {m : Int} (P : POP f m r) (L : LGT f) (S : SGT f) : LGT r ∧ SGT r := by
  have A := nfl_agd (pop_nfl P)
  have p := P.2
  refine ⟨fun x a b => ?_, ?_, fun x a b => ?_⟩
  · rw [P.1 243 _ (by omega) (by decide)]
    rw [P.1 160 129 (by decide) (by decide)] at b
    exact gts_c A (L x a b)
  · rw [P.1 160 130 (by decide) (by decide)]; have := S.1; omega
  · rw [P.1 244 _ (by omega) (by decide)]
    exact gts_c A (S.2 x a (by omega))
theorem ps1_lgt {m t : Int} (P : PS1 f m t r) (G : GTs f t) (L : LGT f) (S : SGT f) : LGT r ∧ SGT r := by
  have A := nfl_agd (ps1_nfl P)
  have p := P.2
  refine ⟨fun x a b => ?_, ?_, fun x a b => ?_⟩
  · rw [P.1 243 _ (by omega) (by decide) (by omega)]
    rw [P.1 160 129 (by decide) (by decide) (by omega)] at b
    exact gts_c A (L x a b)
  · rw [P.1 160 130 (by decide) (by decide) (by omega)]; omega
  · by_cases y : x = f 160 131 - m
    · rw [y, p.2.2.2]; exact gts_c A G
    · rw [P.1 244 _ (by omega) (by decide) (by omega)]
      exact gts_c A (S.2 x a (by omega))
theorem sto_lgt {i : Int} (P : STO f i r) (L : LGT f) (S : SGT f) : LGT r ∧ SGT r := by
  have A := nfl_agd (sto_nfl P)
  have p := P.2
  refine ⟨fun x a b => ?_, ?_, fun x a b => ?_⟩
  · rw [P.1 160 129 (by decide) (by omega)] at b
    by_cases y : x = i
    · rw [y, p.2.2.2]; exact gts_c A (S.2 _ (by omega) (by omega))
    · rw [P.1 243 _ (by omega) (by omega)]
      exact gts_c A (L x a b)
  · rw [P.1 160 130 (by decide) (by omega)]; have := S.1; omega
  · rw [P.1 244 _ (by omega) (by omega)]
    exact gts_c A (S.2 x a (by omega))
theorem x_pull (V : VS_ r) {m : Int} (P : POP f m r) (S : SGT f) : Ok_ (qf_X13_pull nn r) (fun u => VS_ u.2 ∧ ((u.1 = -1 ∧ POP f m u.2) ∨ (POP f (m + 1) u.2 ∧ u.1 = tp f m ∧ GTs f u.1))) := by
  have g131 := gF_160_131 V
  have p := P.2
  unfold qf_X13_pull
  refine ok_if (fun C => ?_) (fun C => ok_ret ⟨V, .inl ⟨rfl, P⟩⟩)
  refine ok_sub (by omega) ?_; intro v3 e3
  refine ok_xl ?_; intro h4 E4
  have V4 : VS_ h4 := by rw [E4]; exact wF_160_131 V (by omega)
  have f131 : h4 160 131 = v3 := by rw [E4, up_s]
  rw [f131]
  refine ok_rd (by omega) (gA_244 V4) ?_; intro v7 e7 _ _
  have q7 : v7 = tp f m := by
    unfold tp
    rw [e7, E4, up_n (by omega), P.1 244 _ (by omega) (by decide), show v3 = f 160 131 - 1 - m by omega]
  refine ok_ret ⟨V4, .inr ⟨⟨fun x j a b => ?_, by show h4 160 131 = _; omega, by omega⟩, q7, ?_⟩⟩
  · show h4 x j = f x j
    rw [E4, up_n (by omega)]; exact P.1 x j a b
  · show GTs f v7
    rw [q7]
    exact S.2 _ (by omega) (by omega)
theorem x_ints (V : VS_ r) {m n : Int} (hn : 1000000 ≤ nn) (hn2 : 0 ≤ n ∧ n ≤ 2) (P : POP f m r) (S : SGT f) : Ok_ (qf_X13_pullInts nn n r) (fun u => VS_ u.2 ∧ ((u.1 = 0 ∧ NFl f u.2) ∨ (u.1 = 1 ∧ POP f (m + n) u.2 ∧ ∀ y : Int, m ≤ y → y < m + n → tp f y = 1))) := by
  have L : ∀ (j : Nat) (l : Int) (r : ms_M), VS_ r → (0 ≤ l ∧ l ≤ n) → POP f (m + l) r → (∀ y : Int, m ≤ y → y < m + l → tp f y = 1) → n - l < (j : Int) → Ok_ (qw_X13_pullInts_2 nn j n l r) (fun u => VS_ u.2 ∧ ((u.1 = 0 ∧ NFl f u.2) ∨ (u.1 = 1 ∧ POP f (m + n) u.2 ∧ ∀ y : Int, m ≤ y → y < m + n → tp f y = 1))) := by
    intro j
    induction j with
    | zero => intro l r V a P T hm; exfalso; omega
    | succ j ih =>
      intro l r V a P T hm
      unfold qw_X13_pullInts_2
      refine ok_if (fun C => ?_) (fun C => ?_)
      · have e : l = n := by omega
        rw [e] at P T
        exact ok_ret ⟨V, .inr ⟨rfl, P, T⟩⟩
      refine ok_sv (x_pull V P S) ?_; intro u2 P2
      refine ok_if (fun D => ?_) (fun D => ?_)
      · rcases P2.2 with q | ⟨q1, q2, q3⟩
        · exfalso; omega
        · refine ok_add (by omega) ?_; intro v3 e3
          rw [e3]
          rw [show m + l + 1 = m + (l + 1) by omega] at q1
          refine ih (l + 1) u2.2 P2.1 (by omega) q1 (fun y y1 y2 => ?_) (by omega)
          by_cases y0 : y = m + l
          · rw [y0, ← q2]; exact D
          · exact T y y1 (by omega)
      · refine ok_ret ⟨P2.1, .inl ⟨rfl, ?_⟩⟩
        rcases P2.2 with q | q
        · exact pop_nfl q.2
        · exact pop_nfl q.1
  unfold qf_X13_pullInts
  exact L nn 0 r V (by omega) (by rw [show m + 0 = m by omega]; exact P) (fun y y1 y2 => by exfalso; omega) (by omega)
theorem x_thing (V : VS_ r) {m : Int} (P : POP f m r) (S : SGT f) : Ok_ (qf_X13_pullThing nn r) (fun u => VS_ u.2 ∧ ((u.1 = 0 ∧ NFl f u.2) ∨ (u.1 = 1 ∧ POP f (m + 1) u.2 ∧ 2 ≤ tp f m))) := by
  unfold qf_X13_pullThing
  refine ok_sv (x_pull V P S) ?_; intro u2 P2
  refine ok_if (fun D => ?_) (fun D => ?_)
  · refine ok_ret ⟨P2.1, .inl ⟨rfl, ?_⟩⟩
    rcases P2.2 with q | q
    · exact pop_nfl q.2
    · exact pop_nfl q.1
  · rcases P2.2 with q | ⟨q1, q2, q3⟩
    · exfalso; omega
    · exact ok_ret ⟨P2.1, .inr ⟨rfl, q1, by omega⟩⟩
theorem x_fit (hn : 1000000 ≤ nn) (V0 : VS_ f) (S0 : SPD f) (V : VS_ r) {m t : Int} (P : POP f m r) (S : SGT f) (ht : 0 ≤ t ∧ t ≤ 2147483647) : Ok_ (qf_X13_pullFit nn t r) (fun u => VS_ u.2 ∧ ((u.1 = 0 ∧ NFl f u.2) ∨ (u.1 = 1 ∧ POP f (m + 1) u.2 ∧ GOt nn f (tp f m) t))) := by
  unfold qf_X13_pullFit
  refine ok_sv (x_pull V P S) ?_; intro u2 P2
  refine ok_if (fun D => ?_) (fun D => ?_)
  · refine ok_ret ⟨P2.1, .inl ⟨rfl, ?_⟩⟩
    rcases P2.2 with q | q
    · exact pop_nfl q.2
    · exact pop_nfl q.1
  · rcases P2.2 with q | ⟨q1, q2, q3⟩
    · exact absurd q.1 D
    have A := nfl_agd (pop_nfl q1)
    refine ok_sv (rg_goes hn P2.1 (agd_spd V0 A S0) (gts_y P2.1 (gts_c A q3)) ht) ?_; intro u4 P4
    refine ok_if (fun _ => ok_ret ⟨P2.1, .inl ⟨rfl, pop_nfl q1⟩⟩) (fun E => ok_ret ⟨P2.1, .inr ⟨rfl, q1, ?_⟩⟩)
    have := got_c (agd_sy A) (P4.2 E)
    rw [q2] at this
    exact this
theorem x_back (V : VS_ r) {m t : Int} (P : POP f m r) (S : SGT f) (ht : GTs f t) (b130 : f 160 130 ≤ 30) (b98 : f 160 98 ≤ 8) : Ok_ (qf_X13_comesBack nn t r) (fun u => VS_ u.2 ∧ ((u.1 = 0 ∧ NFl f u.2) ∨ (u.1 = 1 ∧ PS1 f m t u.2))) := by
  have p := P.2
  have e130 : r 160 130 = f 160 130 := P.1 160 130 (by decide) (by decide)
  have g131 := gF_160_131 V
  have ht' : 0 ≤ t ∧ t < 20 + 2 * f 160 98 := ht
  unfold qf_X13_comesBack
  refine ok_if (fun C => ?_) (fun C => ok_ret ⟨V, .inl ⟨rfl, pop_nfl P⟩⟩)
  refine ok_wA (by omega) ?_; intro h5 E5
  have V5 : VS_ h5 := by rw [E5]; exact wA_244 V (by omega)
  have e5 : h5 160 131 = r 160 131 := by rw [E5, up_n (by omega)]
  refine ok_add (by omega) ?_; intro v7 e7
  refine ok_xl ?_; intro h8 E8
  have V8 : VS_ h8 := by rw [E8]; exact wF_160_131 V5 (by omega)
  have ei : (r 160 131).toNat = (f 160 131 - m).toNat := by omega
  rw [ei] at E5
  refine ok_ret ⟨V8, .inr ⟨rfl, fun x j a b d => ?_, by show h8 160 131 = _; rw [E8, up_s]; omega, by omega, by omega, ?_⟩⟩
  · show h8 x j = f x j
    rw [E8, up_n (by omega), E5, up_n (by omega)]; exact P.1 x j a b
  · show h8 244 _ = t
    rw [E8, up_n (by omega), E5, up_s]
/-- what wanted leaves -/
def WQ (f : ms_M) (F : ms_M → Prop) (u : Int × ms_M) : Prop := VS_ u.2 ∧ NFl f u.2 ∧ (u.1 = 0 ∨ u.1 = 1) ∧ (¬ u.1 = 0 → (LGT u.2 ∧ SGT u.2) ∧ F u.2)
theorem wq_0 {F : ms_M → Prop} (V : VS_ r) (N : NFl f r) : Ok_ (some ((0 : Int), r)) (WQ f F) := ok_ret ⟨V, N, .inl rfl, fun y => absurd rfl y⟩
theorem wq_1 {F : ms_M → Prop} (V : VS_ r) (N : NFl f r) (T : LGT r ∧ SGT r) (y : F r) : Ok_ (some ((1 : Int), r)) (WQ f F) := ok_ret ⟨V, N, .inr rfl, fun _ => ⟨T, y⟩⟩
theorem wq_pop {F : ms_M → Prop} {m : Int} (V : VS_ r) (P : POP f m r) (L : LGT f) (S : SGT f) (y : F r) : Ok_ (some ((1 : Int), r)) (WQ f F) := wq_1 V (pop_nfl P) (pop_lgt P L S) y
/-- the last step: a value comes -/
theorem wq_b1 {F : ms_M → Prop} {m t : Int} (V : VS_ r) (P : POP f m r) (L : LGT f) (S : SGT f) (ht : GTs f t) (b130 : f 160 130 ≤ 30) (b98 : f 160 98 ≤ 8) (y : ∀ z : ms_M, PS1 f m t z → F z) : Ok_ (mx_sv (qf_X13_comesBack nn t r) fun u => if u.1 = 0 then (some (0, u.2)) else (some (1, u.2))) (WQ f F) := by
  refine ok_sv (x_back V P S ht b130 b98) ?_; intro u Q
  refine ok_if (fun C => ?_) (fun C => ?_)
  · rcases Q.2 with q | q
    · exact wq_0 Q.1 q.2
    · have := q.1; exfalso; omega
  · rcases Q.2 with q | q
    · exact absurd q.1 C
    · exact wq_1 Q.1 (ps1_nfl q.2) (ps1_lgt q.2 ht L S) (y _ q.2)
theorem wq_b2 {F : ms_M → Prop} {m t : Int} (V : VS_ r) (P : POP f m r) (L : LGT f) (S : SGT f) (ht : GTs f t) (b130 : f 160 130 ≤ 30) (b98 : f 160 98 ≤ 8) (y : ∀ z : ms_M, PS1 f m t z → F z) : Ok_ (mx_sv (qf_X13_comesBack nn t r) fun u => ck_B (u.1 = 0 ∨ u.1 = 1) <| some (u.1, u.2)) (WQ f F) := by
  refine ok_sv (x_back V P S ht b130 b98) ?_; intro u Q
  rcases Q.2 with q | q
  · refine ok_ck (.inl q.1) (ok_ret ⟨Q.1, q.2, .inl q.1, fun y => absurd q.1 y⟩)
  · refine ok_ck (.inr q.1) (ok_ret ⟨Q.1, ps1_nfl q.2, .inr q.1, fun _ => ⟨ps1_lgt q.2 ht L S, y _ q.2⟩⟩)
/-- a call: what it takes and leaves -/
def CLL (nn : Nat) (f : ms_M) (ω : Int → ms_M) (c : Int) (w : ms_M) (op i : Int) (r : ms_M) : Prop := ∃ (u b j m : Int) (L : Int → Int) (q t : Int), (MRF nn f ω c w i 1 u b j ∧ ω (b - 8) 238 (f 235 (12 * (b - 8) + j).toNat).toNat = (if op = 184 then 1 else 0)) ∧ TKV nn f c w (w 238 (pl w c i + 1 + 2).toNat) m L q t ∧ (∀ y : Int, 0 ≤ y → y < m → GOt nn f (tp f (m - 1 - y)) (L y)) ∧ ((op = 184 ∧ ((t = 0 ∧ POP f m r) ∨ (¬ t = 0 ∧ PS1 f m t r))) ∨ (¬ op = 184 ∧ GOt nn f (tp f m) (4 + 2 * u) ∧ ((t = 0 ∧ POP f (m + 1) r) ∨ (¬ t = 0 ∧ PS1 f (m + 1) t r))))
/-- what instruction op with operand i wants of f and leaves as r; rt: the type of the method's result -/
def WN (nn : Nat) (f : ms_M) (ω : Int → ms_M) (c : Int) (w : ms_M) (rt op i : Int) (r : ms_M) : Prop := ((op = 0 ∨ op = 167) ∧ POP f 0 r) ∨ (op = 1 ∧ PS1 f 0 2 r) ∨ (((2 ≤ op ∧ op ≤ 8) ∨ op = 16 ∨ op = 18) ∧ PS1 f 0 1 r) ∨ (op = 21 ∧ (i < f 160 129 ∧ f 243 i.toNat = 1) ∧ PS1 f 0 1 r) ∨ (op = 25 ∧ (i < f 160 129 ∧ 2 ≤ f 243 i.toNat) ∧ PS1 f 0 (f 243 i.toNat) r) ∨ (((op = 54 ∧ tp f 0 = 1) ∨ (op = 58 ∧ 2 ≤ tp f 0)) ∧ STO f i r) ∨ (op = 46 ∧ tp f 0 = 1 ∧ (tp f 1 = 3 ∨ tp f 1 = 2) ∧ PS1 f 2 1 r) ∨ (op = 50 ∧ tp f 0 = 1 ∧ ((tp f 1 = 2 ∧ PS1 f 2 2 r) ∨ ((4 ≤ tp f 1 ∧ tp f 1 % 2 = 1) ∧ PS1 f 2 (tp f 1 - 1) r))) ∨ (op = 79 ∧ tp f 0 = 1 ∧ tp f 1 = 1 ∧ (tp f 2 = 3 ∨ tp f 2 = 2) ∧ POP f 3 r) ∨ (op = 83 ∧ 2 ≤ tp f 0 ∧ tp f 1 = 1 ∧ (tp f 2 = 2 ∨ (4 ≤ tp f 2 ∧ tp f 2 % 2 = 1)) ∧ POP f 3 r) ∨ (op = 87 ∧ POP f 1 r) ∨ (op = 89 ∧ 1 ≤ f 160 131 ∧ PS1 f 0 (tp f 0) r) ∨ ((op = 96 ∨ op = 100 ∨ op = 104 ∨ op = 108 ∨ op = 112 ∨ op = 120 ∨ op = 122 ∨ op = 124 ∨ op = 126 ∨ op = 128 ∨ op = 130) ∧ tp f 0 = 1 ∧ tp f 1 = 1 ∧ PS1 f 2 1 r) ∨ (op = 116 ∧ tp f 0 = 1 ∧ PS1 f 1 1 r) ∨ ((op = 153 ∨ op = 154 ∨ op = 186) ∧ tp f 0 = 1 ∧ POP f 1 r) ∨ ((159 ≤ op ∧ op ≤ 164) ∧ tp f 0 = 1 ∧ tp f 1 = 1 ∧ POP f 2 r) ∨ ((op = 165 ∨ op = 166) ∧ 2 ≤ tp f 0 ∧ 2 ≤ tp f 1 ∧ POP f 2 r) ∨ (op = 172 ∧ rt = 1 ∧ tp f 0 = 1 ∧ POP f 1 r) ∨ (op = 176 ∧ 2 ≤ rt ∧ GOt nn f (tp f 0) rt ∧ POP f 1 r) ∨ (op = 177 ∧ rt = 0 ∧ POP f 0 r) ∨ (op = 180 ∧ (∃ u b j s : Int, MRF nn f ω c w i 0 u b j ∧ TKU nn f c w (w 238 (pl w c i + 1 + 2).toNat) s ∧ GOt nn f (tp f 0) (4 + 2 * u) ∧ PS1 f 1 s r)) ∨ (op = 181 ∧ (∃ u b j s : Int, MRF nn f ω c w i 0 u b j ∧ TKU nn f c w (w 238 (pl w c i + 1 + 2).toNat) s ∧ GOt nn f (tp f 0) s ∧ GOt nn f (tp f 1) (4 + 2 * u) ∧ POP f 2 r)) ∨ ((op = 182 ∨ op = 184) ∧ CLL nn f ω c w op i r) ∨ (op = 187 ∧ (∃ u : Int, ((0 ≤ u ∧ u < 8 + f 160 98) ∧ CL w c i ∧ CTv nn f c w i (4 + 2 * u)) ∧ PS1 f 0 (4 + 2 * u) r)) ∨ (op = 188 ∧ tp f 0 = 1 ∧ PS1 f 1 3 r) ∨ (op = 189 ∧ (tp f 0 = 1 ∧ ∃ u : Int, ((0 ≤ u ∧ u < 8 + f 160 98) ∧ CL w c i ∧ CTv nn f c w i (4 + 2 * u)) ∧ PS1 f 1 (5 + 2 * u) r)) ∨ (op = 190 ∧ (tp f 0 = 2 ∨ tp f 0 = 3 ∨ (4 ≤ tp f 0 ∧ tp f 0 % 2 = 1)) ∧ PS1 f 1 1 r) ∨ (op = 191 ∧ GOt nn f (tp f 0) 6 ∧ POP f 1 r) ∨ (op = 192 ∧ (2 ≤ tp f 0 ∧ ∃ u : Int, ((0 ≤ u ∧ u < 8 + f 160 98) ∧ CL w c i ∧ CTv nn f c w i (4 + 2 * u)) ∧ PS1 f 1 (4 + 2 * u) r)) ∨ (op = 193 ∧ (2 ≤ tp f 0 ∧ ∃ u : Int, ((0 ≤ u ∧ u < 8 + f 160 98) ∧ CL w c i ∧ CTv nn f c w i (4 + 2 * u)) ∧ PS1 f 1 1 r))
theorem wnt_0 {rt op i : Int} (p : (op = 0 ∨ op = 167) ∧ POP f 0 r) : WN nn f ω c w rt op i r := .inl p
theorem wnt_1 {rt op i : Int} (p : op = 1 ∧ PS1 f 0 2 r) : WN nn f ω c w rt op i r := .inr (.inl p)
theorem wnt_2 {rt op i : Int} (p : ((2 ≤ op ∧ op ≤ 8) ∨ op = 16 ∨ op = 18) ∧ PS1 f 0 1 r) : WN nn f ω c w rt op i r := .inr (.inr (.inl p))
theorem wnt_3 {rt op i : Int} (p : op = 21 ∧ (i < f 160 129 ∧ f 243 i.toNat = 1) ∧ PS1 f 0 1 r) : WN nn f ω c w rt op i r := .inr (.inr (.inr (.inl p)))
theorem wnt_4 {rt op i : Int} (p : op = 25 ∧ (i < f 160 129 ∧ 2 ≤ f 243 i.toNat) ∧ PS1 f 0 (f 243 i.toNat) r) : WN nn f ω c w rt op i r := .inr (.inr (.inr (.inr (.inl p))))
theorem wnt_5 {rt op i : Int} (p : ((op = 54 ∧ tp f 0 = 1) ∨ (op = 58 ∧ 2 ≤ tp f 0)) ∧ STO f i r) : WN nn f ω c w rt op i r := .inr (.inr (.inr (.inr (.inr (.inl p)))))
theorem wnt_6 {rt op i : Int} (p : op = 46 ∧ tp f 0 = 1 ∧ (tp f 1 = 3 ∨ tp f 1 = 2) ∧ PS1 f 2 1 r) : WN nn f ω c w rt op i r := .inr (.inr (.inr (.inr (.inr (.inr (.inl p))))))
theorem wnt_7 {rt op i : Int} (p : op = 50 ∧ tp f 0 = 1 ∧ ((tp f 1 = 2 ∧ PS1 f 2 2 r) ∨ ((4 ≤ tp f 1 ∧ tp f 1 % 2 = 1) ∧ PS1 f 2 (tp f 1 - 1) r))) : WN nn f ω c w rt op i r := .inr (.inr (.inr (.inr (.inr (.inr (.inr (.inl p)))))))
theorem wnt_8 {rt op i : Int} (p : op = 79 ∧ tp f 0 = 1 ∧ tp f 1 = 1 ∧ (tp f 2 = 3 ∨ tp f 2 = 2) ∧ POP f 3 r) : WN nn f ω c w rt op i r := .inr (.inr (.inr (.inr (.inr (.inr (.inr (.inr (.inl p))))))))
theorem wnt_9 {rt op i : Int} (p : op = 83 ∧ 2 ≤ tp f 0 ∧ tp f 1 = 1 ∧ (tp f 2 = 2 ∨ (4 ≤ tp f 2 ∧ tp f 2 % 2 = 1)) ∧ POP f 3 r) : WN nn f ω c w rt op i r := .inr (.inr (.inr (.inr (.inr (.inr (.inr (.inr (.inr (.inl p)))))))))
theorem wnt_10 {rt op i : Int} (p : op = 87 ∧ POP f 1 r) : WN nn f ω c w rt op i r := .inr (.inr (.inr (.inr (.inr (.inr (.inr (.inr (.inr (.inr (.inl p))))))))))
theorem wnt_11 {rt op i : Int} (p : op = 89 ∧ 1 ≤ f 160 131 ∧ PS1 f 0 (tp f 0) r) : WN nn f ω c w rt op i r := .inr (.inr (.inr (.inr (.inr (.inr (.inr (.inr (.inr (.inr (.inr (.inl p)))))))))))
theorem wnt_12 {rt op i : Int} (p : (op = 96 ∨ op = 100 ∨ op = 104 ∨ op = 108 ∨ op = 112 ∨ op = 120 ∨ op = 122 ∨ op = 124 ∨ op = 126 ∨ op = 128 ∨ op = 130) ∧ tp f 0 = 1 ∧ tp f 1 = 1 ∧ PS1 f 2 1 r) : WN nn f ω c w rt op i r := .inr (.inr (.inr (.inr (.inr (.inr (.inr (.inr (.inr (.inr (.inr (.inr (.inl p))))))))))))
theorem wnt_13 {rt op i : Int} (p : op = 116 ∧ tp f 0 = 1 ∧ PS1 f 1 1 r) : WN nn f ω c w rt op i r := .inr (.inr (.inr (.inr (.inr (.inr (.inr (.inr (.inr (.inr (.inr (.inr (.inr (.inl p)))))))))))))
theorem wnt_14 {rt op i : Int} (p : (op = 153 ∨ op = 154 ∨ op = 186) ∧ tp f 0 = 1 ∧ POP f 1 r) : WN nn f ω c w rt op i r := .inr (.inr (.inr (.inr (.inr (.inr (.inr (.inr (.inr (.inr (.inr (.inr (.inr (.inr (.inl p))))))))))))))
theorem wnt_15 {rt op i : Int} (p : (159 ≤ op ∧ op ≤ 164) ∧ tp f 0 = 1 ∧ tp f 1 = 1 ∧ POP f 2 r) : WN nn f ω c w rt op i r := .inr (.inr (.inr (.inr (.inr (.inr (.inr (.inr (.inr (.inr (.inr (.inr (.inr (.inr (.inr (.inl p)))))))))))))))
theorem wnt_16 {rt op i : Int} (p : (op = 165 ∨ op = 166) ∧ 2 ≤ tp f 0 ∧ 2 ≤ tp f 1 ∧ POP f 2 r) : WN nn f ω c w rt op i r := .inr (.inr (.inr (.inr (.inr (.inr (.inr (.inr (.inr (.inr (.inr (.inr (.inr (.inr (.inr (.inr (.inl p))))))))))))))))
theorem wnt_17 {rt op i : Int} (p : op = 172 ∧ rt = 1 ∧ tp f 0 = 1 ∧ POP f 1 r) : WN nn f ω c w rt op i r := .inr (.inr (.inr (.inr (.inr (.inr (.inr (.inr (.inr (.inr (.inr (.inr (.inr (.inr (.inr (.inr (.inr (.inl p)))))))))))))))))
theorem wnt_18 {rt op i : Int} (p : op = 176 ∧ 2 ≤ rt ∧ GOt nn f (tp f 0) rt ∧ POP f 1 r) : WN nn f ω c w rt op i r := .inr (.inr (.inr (.inr (.inr (.inr (.inr (.inr (.inr (.inr (.inr (.inr (.inr (.inr (.inr (.inr (.inr (.inr (.inl p))))))))))))))))))
theorem wnt_19 {rt op i : Int} (p : op = 177 ∧ rt = 0 ∧ POP f 0 r) : WN nn f ω c w rt op i r := .inr (.inr (.inr (.inr (.inr (.inr (.inr (.inr (.inr (.inr (.inr (.inr (.inr (.inr (.inr (.inr (.inr (.inr (.inr (.inl p)))))))))))))))))))
theorem wnt_20 {rt op i : Int} (p : op = 180 ∧ (∃ u b j s : Int, MRF nn f ω c w i 0 u b j ∧ TKU nn f c w (w 238 (pl w c i + 1 + 2).toNat) s ∧ GOt nn f (tp f 0) (4 + 2 * u) ∧ PS1 f 1 s r)) : WN nn f ω c w rt op i r := .inr (.inr (.inr (.inr (.inr (.inr (.inr (.inr (.inr (.inr (.inr (.inr (.inr (.inr (.inr (.inr (.inr (.inr (.inr (.inr (.inl p))))))))))))))))))))
theorem wnt_21 {rt op i : Int} (p : op = 181 ∧ (∃ u b j s : Int, MRF nn f ω c w i 0 u b j ∧ TKU nn f c w (w 238 (pl w c i + 1 + 2).toNat) s ∧ GOt nn f (tp f 0) s ∧ GOt nn f (tp f 1) (4 + 2 * u) ∧ POP f 2 r)) : WN nn f ω c w rt op i r := .inr (.inr (.inr (.inr (.inr (.inr (.inr (.inr (.inr (.inr (.inr (.inr (.inr (.inr (.inr (.inr (.inr (.inr (.inr (.inr (.inr (.inl p)))))))))))))))))))))
theorem wnt_22 {rt op i : Int} (p : (op = 182 ∨ op = 184) ∧ CLL nn f ω c w op i r) : WN nn f ω c w rt op i r := .inr (.inr (.inr (.inr (.inr (.inr (.inr (.inr (.inr (.inr (.inr (.inr (.inr (.inr (.inr (.inr (.inr (.inr (.inr (.inr (.inr (.inr (.inl p))))))))))))))))))))))
theorem wnt_23 {rt op i : Int} (p : op = 187 ∧ (∃ u : Int, ((0 ≤ u ∧ u < 8 + f 160 98) ∧ CL w c i ∧ CTv nn f c w i (4 + 2 * u)) ∧ PS1 f 0 (4 + 2 * u) r)) : WN nn f ω c w rt op i r := .inr (.inr (.inr (.inr (.inr (.inr (.inr (.inr (.inr (.inr (.inr (.inr (.inr (.inr (.inr (.inr (.inr (.inr (.inr (.inr (.inr (.inr (.inr (.inl p)))))))))))))))))))))))
theorem wnt_24 {rt op i : Int} (p : op = 188 ∧ tp f 0 = 1 ∧ PS1 f 1 3 r) : WN nn f ω c w rt op i r := .inr (.inr (.inr (.inr (.inr (.inr (.inr (.inr (.inr (.inr (.inr (.inr (.inr (.inr (.inr (.inr (.inr (.inr (.inr (.inr (.inr (.inr (.inr (.inr (.inl p))))))))))))))))))))))))
theorem wnt_25 {rt op i : Int} (p : op = 189 ∧ (tp f 0 = 1 ∧ ∃ u : Int, ((0 ≤ u ∧ u < 8 + f 160 98) ∧ CL w c i ∧ CTv nn f c w i (4 + 2 * u)) ∧ PS1 f 1 (5 + 2 * u) r)) : WN nn f ω c w rt op i r := .inr (.inr (.inr (.inr (.inr (.inr (.inr (.inr (.inr (.inr (.inr (.inr (.inr (.inr (.inr (.inr (.inr (.inr (.inr (.inr (.inr (.inr (.inr (.inr (.inr (.inl p)))))))))))))))))))))))))
theorem wnt_26 {rt op i : Int} (p : op = 190 ∧ (tp f 0 = 2 ∨ tp f 0 = 3 ∨ (4 ≤ tp f 0 ∧ tp f 0 % 2 = 1)) ∧ PS1 f 1 1 r) : WN nn f ω c w rt op i r := .inr (.inr (.inr (.inr (.inr (.inr (.inr (.inr (.inr (.inr (.inr (.inr (.inr (.inr (.inr (.inr (.inr (.inr (.inr (.inr (.inr (.inr (.inr (.inr (.inr (.inr (.inl p))))))))))))))))))))))))))
theorem wnt_27 {rt op i : Int} (p : op = 191 ∧ GOt nn f (tp f 0) 6 ∧ POP f 1 r) : WN nn f ω c w rt op i r := .inr (.inr (.inr (.inr (.inr (.inr (.inr (.inr (.inr (.inr (.inr (.inr (.inr (.inr (.inr (.inr (.inr (.inr (.inr (.inr (.inr (.inr (.inr (.inr (.inr (.inr (.inr (.inl p)))))))))))))))))))))))))))
theorem wnt_28 {rt op i : Int} (p : op = 192 ∧ (2 ≤ tp f 0 ∧ ∃ u : Int, ((0 ≤ u ∧ u < 8 + f 160 98) ∧ CL w c i ∧ CTv nn f c w i (4 + 2 * u)) ∧ PS1 f 1 (4 + 2 * u) r)) : WN nn f ω c w rt op i r := .inr (.inr (.inr (.inr (.inr (.inr (.inr (.inr (.inr (.inr (.inr (.inr (.inr (.inr (.inr (.inr (.inr (.inr (.inr (.inr (.inr (.inr (.inr (.inr (.inr (.inr (.inr (.inr (.inl p))))))))))))))))))))))))))))
theorem wnt_29 {rt op i : Int} (p : op = 193 ∧ (2 ≤ tp f 0 ∧ ∃ u : Int, ((0 ≤ u ∧ u < 8 + f 160 98) ∧ CL w c i ∧ CTv nn f c w i (4 + 2 * u)) ∧ PS1 f 1 1 r)) : WN nn f ω c w rt op i r := .inr (.inr (.inr (.inr (.inr (.inr (.inr (.inr (.inr (.inr (.inr (.inr (.inr (.inr (.inr (.inr (.inr (.inr (.inr (.inr (.inr (.inr (.inr (.inr (.inr (.inr (.inr (.inr (.inr (p)))))))))))))))))))))))))))))
end

/- RUN: THE RELATION OF BOTH MACHINES. A: the class's memory, B: the reference's -/
/-- an object's sort as the class has it -/
def sr_T (y : Int) : Int := if y = 99 then 200 else y
/-- what sorts there are -/
def STs (cnt y : Int) : Prop := (0 ≤ y ∧ y < 8 + cnt) ∨ y = 99 ∨ (100 ≤ y ∧ y < 108 + cnt)
/-- frame j -/
def FRA (Bf : Nat → Nat → Int) (nf : Nat → Nat) (cnt : Int) (A B : ms_M) (j : Nat) : Prop := (∃ k i : Nat, (B 251 j = 8 + (k : Int) ∧ B 252 j = (i : Int)) ∧ ((k : Int) < cnt ∧ (i : Int) < mc_S (Bf k) (nf k)) ∧ A 148 j = (k : Int) * 12 + (i : Int)) ∧ (A 149 j = B 253 j ∧ A 150 j = B 254 j) ∧ (∀ n : Nat, n < 30 → A 151 (30 * j + n) = B 255 (60 * j + n)) ∧ ∀ n : Nat, n < 30 → (n : Int) < B 254 j → A 152 (30 * j + n) = B 255 (60 * j + 30 + n)
/-- the heap -/
def HPA (cnt : Int) (A B : ms_M) : Prop := (A 143 4 = B 160 141 ∧ A 143 5 = B 160 142) ∧ (∀ o : Nat, 1 ≤ o → (o : Int) ≤ B 160 141 → STs cnt (B 246 o) ∧ A 145 o = sr_T (B 246 o) ∧ A 146 o = B 247 o ∧ A 146 (o + 1) = B 247 o + B 248 o) ∧ (1 ≤ B 160 141 → A 146 ((B 160 141).toNat + 1) = B 160 142) ∧ ∀ x : Nat, (x : Int) < B 160 142 → A 147 x = B 249 x
/-- the prints -/
def PRA (A B : ms_M) : Prop := A 143 7 = B 160 143 ∧ ∀ x : Nat, x < 1000 → (x : Int) < B 160 143 → A 144 x = B 250 x
/-- a run that goes on, with d frames -/
def RRd (Bf : Nat → Nat → Int) (nf : Nat → Nat) (cnt : Int) (A B : ms_M) (d : Nat) : Prop := ((A 143 1 = 1 ∧ B 160 138 = 1) ∧ (A 143 2 = -1 ∧ B 160 139 = -1) ∧ A 143 3 = B 160 140 ∧ A 143 6 = (d : Int) ∧ B 160 149 = (d : Int)) ∧ d ≤ 60 ∧ (∀ j : Nat, j < d → FRA Bf nf cnt A B j) ∧ HPA cnt A B ∧ PRA A B
/-- the class's uppermost method -/
def TPA (Bf : Nat → Nat → Int) (nf : Nat → Nat) (cnt : Int) (A B : ms_M) (t k i : Nat) : Prop := (A 143 17 = (t : Int) ∧ A 143 18 = A 60 k ∧ A 143 19 = ((ma_S (Bf k) (nf k) i + 7 : Nat) : Int)) ∧ (B 251 t = 8 + (k : Int) ∧ B 252 t = (i : Int)) ∧ (k : Int) < cnt ∧ (i : Int) < mc_S (Bf k) (nf k)
/-- what a step writes in the uppermost frame -/
def CTw (A g : ms_M) (t lo : Nat) : Prop := ∀ c j : Nat, ¬ (c = 143 ∧ j = 20) → ¬ ((c = 149 ∨ c = 150) ∧ j = t) → ¬ (c = 151 ∧ 30 * t ≤ j ∧ j < 30 * t + 30) → ¬ (c = 152 ∧ 30 * t + lo ≤ j ∧ j < 30 * t + 30) → g c j = A c j
def RTq (B r : ms_M) (t lo : Nat) : Prop := ∀ x j : Nat, ¬ (x = 160 ∧ j = 121) → ¬ ((x = 253 ∨ x = 254) ∧ j = t) → ¬ (x = 255 ∧ 60 * t ≤ j ∧ j < 60 * t + 30) → ¬ (x = 255 ∧ 60 * t + 30 + lo ≤ j ∧ j < 60 * t + 60) → r x j = B x j
/-- a value v has come at height H, the place is p -/
def CGV (A g : ms_M) (t H : Nat) (v p : Int) : Prop := CTw A g t H ∧ (g 149 t = p ∧ g 150 t = ((H + 1 : Nat) : Int)) ∧ g 152 (30 * t + H) = v ∧ g 143 20 = A 143 20 ∧ ∀ n : Nat, n < 30 → g 151 (30 * t + n) = A 151 (30 * t + n)
def RGV (B r : ms_M) (t H : Nat) (v p : Int) : Prop := RTq B r t H ∧ (r 253 t = p ∧ r 254 t = ((H + 1 : Nat) : Int)) ∧ r 255 (60 * t + 30 + H) = v ∧ ∀ n : Nat, n < 30 → r 255 (60 * t + n) = B 255 (60 * t + n)
/-- no value has come -/
def CGN (A g : ms_M) (t H : Nat) (p : Int) : Prop := CTw A g t H ∧ (g 149 t = p ∧ g 150 t = (H : Int)) ∧ g 143 20 = A 143 20 ∧ ∀ n : Nat, n < 30 → g 151 (30 * t + n) = A 151 (30 * t + n)
def RGN (B r : ms_M) (t H : Nat) (p : Int) : Prop := RTq B r t H ∧ (r 253 t = p ∧ r 254 t = (H : Int)) ∧ ∀ n : Nat, n < 30 → r 255 (60 * t + n) = B 255 (60 * t + n)
/-- values were taken -/
def CPp (A u : ms_M) (t H : Nat) : Prop := (∀ c j : Nat, ¬ (c = 150 ∧ j = t) → u c j = A c j) ∧ u 150 t = (H : Int)
def RPp (B z : ms_M) (t H : Nat) : Prop := (∀ x j : Nat, ¬ (x = 254 ∧ j = t) → z x j = B x j) ∧ z 254 t = (H : Int)
section
variable {nn : Nat} {Bf : Nat → Nat → Int} {nf : Nat → Nat} {cnt : Int} {k i t H d lo j : Nat} {A B g r u z : ms_M} {v w p : Int}
theorem fra_k (F : FRA Bf nf cnt A B j) (c8 : g 148 j = A 148 j) (c9 : g 149 j = A 149 j) (c0 : g 150 j = A 150 j) (c1 : ∀ n : Nat, n < 30 → g 151 (30 * j + n) = A 151 (30 * j + n)) (c2 : ∀ n : Nat, n < 30 → g 152 (30 * j + n) = A 152 (30 * j + n)) (r1 : r 251 j = B 251 j) (r2 : r 252 j = B 252 j) (r3 : r 253 j = B 253 j) (r4 : r 254 j = B 254 j) (r5 : ∀ n : Nat, n < 60 → r 255 (60 * j + n) = B 255 (60 * j + n)) : FRA Bf nf cnt g r j := by
  obtain ⟨⟨k, i, ⟨f1, f2⟩, f3, f4⟩, ⟨f5, f6⟩, f7, f8⟩ := F
  refine ⟨⟨k, i, ⟨r1.trans f1, r2.trans f2⟩, f3, c8.trans f4⟩, ⟨by rw [c9, r3]; exact f5, by rw [c0, r4]; exact f6⟩, fun n hn => ?_, fun n hn hl => ?_⟩
  · rw [c1 n hn, r5 n (by omega)]; exact f7 n hn
  · rw [r4] at hl
    rw [c2 n hn, show 60 * j + 30 + n = 60 * j + (30 + n) by omega, r5 (30 + n) (by omega), show 60 * j + (30 + n) = 60 * j + 30 + n by omega]; exact f8 n hn hl
theorem hpa_k (E : HPA cnt A B) (c1 : ∀ x : Nat, x = 4 ∨ x = 5 → g 143 x = A 143 x) (c2 : ∀ c x : Nat, 145 ≤ c → c ≤ 147 → g c x = A c x) (r1 : ∀ x : Nat, x = 141 ∨ x = 142 → r 160 x = B 160 x) (r2 : ∀ c x : Nat, 246 ≤ c → c ≤ 249 → r c x = B c x) : HPA cnt g r := by
  obtain ⟨⟨h1, h2⟩, h3, h4, h5⟩ := E
  refine ⟨⟨?_, ?_⟩, fun o o1 o2 => ?_, fun q => ?_, fun x hx => ?_⟩
  · rw [c1 4 (by omega), r1 141 (by omega)]; exact h1
  · rw [c1 5 (by omega), r1 142 (by omega)]; exact h2
  · rw [r1 141 (by omega)] at o2
    rw [c2 145 o (by omega) (by omega), c2 146 o (by omega) (by omega), c2 146 (o + 1) (by omega) (by omega), r2 246 o (by omega) (by omega), r2 247 o (by omega) (by omega), r2 248 o (by omega) (by omega)]
    exact h3 o o1 o2
  · rw [r1 141 (by omega)] at q ⊢
    rw [c2 146 _ (by omega) (by omega), r1 142 (by omega)]; exact h4 q
  · rw [r1 142 (by omega)] at hx
    rw [c2 147 x (by omega) (by omega), r2 249 x (by omega) (by omega)]; exact h5 x hx
theorem pra_k (E : PRA A B) (c1 : g 143 7 = A 143 7) (c2 : ∀ x : Nat, g 144 x = A 144 x) (r1 : r 160 143 = B 160 143) (r2 : ∀ x : Nat, r 250 x = B 250 x) : PRA g r := by
  refine ⟨by rw [c1, r1]; exact E.1, fun x x1 x2 => ?_⟩
  rw [r1] at x2
  rw [c2, r2]; exact E.2 x x1 x2
/-- the uppermost frame changes alike -/
theorem rr_top (R : RRd Bf nf cnt A B d) (ht : t < d) (C : CTw A g t lo) (D : RTq B r t lo) (l0 : lo = 0 ∨ (lo : Int) ≤ B 254 t) (e1 : g 149 t = r 253 t) (e2 : g 150 t = r 254 t) (L : ∀ n : Nat, n < 30 → g 151 (30 * t + n) = r 255 (60 * t + n)) (S : ∀ n : Nat, n < 30 → lo ≤ n → (n : Int) < r 254 t → g 152 (30 * t + n) = r 255 (60 * t + 30 + n)) : RRd Bf nf cnt g r d := by
  obtain ⟨⟨⟨a1, a2⟩, ⟨a3, a4⟩, a5, a6, a7⟩, d60, F, E, P⟩ := R
  have C' : ∀ c j : Nat, c < 149 → ¬ (c = 143 ∧ j = 20) → g c j = A c j := fun c j c1 c2 => C c j c2 (by omega) (by omega) (by omega)
  have D' : ∀ x j : Nat, x < 253 → ¬ (x = 160 ∧ j = 121) → r x j = B x j := fun x j c1 c2 => D x j c2 (by omega) (by omega) (by omega)
  refine ⟨⟨⟨?_, ?_⟩, ⟨?_, ?_⟩, ?_, ?_, ?_⟩, d60, fun j hj => ?_, hpa_k E (fun x q => C' 143 x (by omega) (by omega)) (fun c x q1 q2 => C' c x (by omega) (by omega)) (fun x q => D' 160 x (by omega) (by omega)) (fun c x q1 q2 => D' c x (by omega) (by omega)), pra_k P (C' 143 7 (by omega) (by omega)) (fun x => C' 144 x (by omega) (by omega)) (D' 160 143 (by omega) (by omega)) (fun x => D' 250 x (by omega) (by omega))⟩
  · rw [C' 143 1 (by omega) (by omega)]; exact a1
  · rw [D' 160 138 (by omega) (by omega)]; exact a2
  · rw [C' 143 2 (by omega) (by omega)]; exact a3
  · rw [D' 160 139 (by omega) (by omega)]; exact a4
  · rw [C' 143 3 (by omega) (by omega), D' 160 140 (by omega) (by omega)]; exact a5
  · rw [C' 143 6 (by omega) (by omega)]; exact a6
  · rw [D' 160 149 (by omega) (by omega)]; exact a7
  · by_cases jt : j = t
    · rw [jt]
      obtain ⟨⟨k, i, ⟨f1, f2⟩, f3, f4⟩, ⟨f5, f6⟩, f7, f8⟩ := F t ht
      refine ⟨⟨k, i, ⟨(D' 251 t (by omega) (by omega)).trans f1, (D' 252 t (by omega) (by omega)).trans f2⟩, f3, (C' 148 t (by omega) (by omega)).trans f4⟩, ⟨e1, e2⟩, L, fun n hn hl => ?_⟩
      by_cases nl : lo ≤ n
      · exact S n hn nl hl
      · rw [C 152 _ (by omega) (by omega) (by omega) (by omega), D 255 _ (by omega) (by omega) (by omega) (by omega)]
        exact f8 n hn (by omega)
    · exact fra_k (F j hj) (C 148 j (by omega) (by omega) (by omega) (by omega)) (C 149 j (by omega) (by omega) (by omega) (by omega)) (C 150 j (by omega) (by omega) (by omega) (by omega)) (fun n hn => C 151 _ (by omega) (by omega) (by omega) (by omega)) (fun n hn => C 152 _ (by omega) (by omega) (by omega) (by omega)) (D 251 j (by omega) (by omega) (by omega) (by omega)) (D 252 j (by omega) (by omega) (by omega) (by omega)) (D 253 j (by omega) (by omega) (by omega) (by omega)) (D 254 j (by omega) (by omega) (by omega) (by omega)) (fun n hn => D 255 _ (by omega) (by omega) (by omega) (by omega))
theorem rr_fra (R : RRd Bf nf cnt A B d) (ht : t < d) : FRA Bf nf cnt A B t := R.2.2.1 t ht
theorem jgv (R : RRd Bf nf cnt A B d) (ht : t < d) (C : CGV A g t H v p) (D : RGV B r t H v p) (l0 : (H : Int) ≤ B 254 t) : RRd Bf nf cnt g r d := by
  obtain ⟨C1, ⟨C2, C3⟩, C4, _, C5⟩ := C
  obtain ⟨D1, ⟨D2, D3⟩, D4, D5⟩ := D
  refine rr_top R ht C1 D1 (.inr l0) (C2.trans D2.symm) (C3.trans D3.symm) (fun n hn => ?_) (fun n hn n1 n2 => ?_)
  · rw [C5 n hn, D5 n hn]; exact (rr_fra R ht).2.2.1 n hn
  · rw [show n = H by omega, C4, D4]
theorem jgn (R : RRd Bf nf cnt A B d) (ht : t < d) (C : CGN A g t H p) (D : RGN B r t H p) (l0 : (H : Int) ≤ B 254 t) : RRd Bf nf cnt g r d := by
  obtain ⟨C1, ⟨C2, C3⟩, _, C5⟩ := C
  obtain ⟨D1, ⟨D2, D3⟩, D5⟩ := D
  refine rr_top R ht C1 D1 (.inr l0) (C2.trans D2.symm) (C3.trans D3.symm) (fun n hn => ?_) (fun n hn n1 n2 => ?_)
  · rw [C5 n hn, D5 n hn]; exact (rr_fra R ht).2.2.1 n hn
  · exfalso; omega
theorem jpp (R : RRd Bf nf cnt A B d) (ht : t < d) (C : CPp A u t H) (D : RPp B z t H) (l0 : (H : Int) ≤ B 254 t) : RRd Bf nf cnt u z d := by
  refine rr_top (lo := H) R ht (fun c j _ w2 _ _ => C.1 c j (by omega)) (fun x j _ w2 _ _ => D.1 x j (by omega)) (.inr l0) ?_ (C.2.trans D.2.symm) (fun n hn => ?_) (fun n hn n1 n2 => ?_)
  · rw [C.1 149 t (by omega), D.1 253 t (by omega)]; exact (rr_fra R ht).2.1.1
  · rw [C.1 151 _ (by omega), D.1 255 _ (by omega)]; exact (rr_fra R ht).2.2.1 n hn
  · have := D.2
    exfalso; omega
theorem jg0 (R : RRd Bf nf cnt A B d) (ht : t < d) (C : CGV A g t 0 v p) (D : RGV B r t 0 v p) : RRd Bf nf cnt g r d := by
  obtain ⟨C1, ⟨C2, C3⟩, C4, _, C5⟩ := C
  obtain ⟨D1, ⟨D2, D3⟩, D4, D5⟩ := D
  refine rr_top R ht C1 D1 (.inl rfl) (C2.trans D2.symm) (C3.trans D3.symm) (fun n hn => ?_) (fun n hn n1 n2 => ?_)
  · rw [C5 n hn, D5 n hn]; exact (rr_fra R ht).2.2.1 n hn
  · rw [show n = 0 by omega, C4, D4]
theorem cpp_rf (e : A 150 t = (H : Int)) : CPp A A t H := ⟨fun _ _ _ => rfl, e⟩
theorem rpp_rf (e : B 254 t = (H : Int)) : RPp B B t H := ⟨fun _ _ _ => rfl, e⟩
/-- one value is taken -/
theorem rc_pp (P : CPp A u t (H + 1)) (ht : A 143 17 = (t : Int)) (t60 : t < 60) (h30 : H < 30) : Pc (qf_X5_pop nn u) (fun y => y.1 = A 152 (30 * t + H) ∧ CPp A y.2 t H) := by
  refine pc_imp (rc_pop (t := t) (H := H) (by rw [P.1 143 17 (by omega)]; exact ht) t60 P.2 h30) (fun y ⟨q1, q2⟩ => ⟨?_, fun c j w => ?_, ?_⟩)
  · rw [q1, P.1 152 _ (by omega)]
  · rw [q2, up_n w, P.1 c j w]
  · rw [q2, up_s]
theorem rr_pp (P : RPp B z t (H + 1)) (ht : B 160 149 = (t : Int) + 1) (t60 : t < 60) (h30 : H < 30) : Pc (qf_X13_drop nn z) (fun y => y.1 = B 255 (60 * t + 30 + H) ∧ RPp B y.2 t H) := by
  refine pc_imp (rr_drop (t := t) (H := H) (by rw [P.1 160 149 (by omega)]; exact ht) t60 P.2 h30) (fun y ⟨q1, q2⟩ => ⟨?_, fun c j w => ?_, ?_⟩)
  · rw [q1, P.1 255 _ (by omega)]
  · rw [q2, up_n w, P.1 c j w]
  · rw [q2, up_s]
theorem rc_gvp (P : CPp A u t H) (ht : A 143 17 = (t : Int)) (t60 : t < 60) (h30 : H < 30) (p : 0 ≤ A 149 t ∧ A 149 t ≤ 10000) (hw : -10000 ≤ w ∧ w ≤ 10000) : Pc (qf_X5_give nn v w u) (fun g => CGV A g t H v (A 149 t + w)) := by
  have e9 : u 149 t = A 149 t := P.1 149 t (by omega)
  refine pc_imp (rc_gv (t := t) (H := H) (v := v) (w := w) (by rw [P.1 143 17 (by omega)]; exact ht) t60 P.2 h30 (by rw [e9]; exact p) hw) (fun g q => ⟨fun c j w1 w2 w3 w4 => ?_, ⟨?_, ?_⟩, ?_, ?_, fun n hn => ?_⟩)
  · rw [q, up_n (by omega), up_n (by omega), up_n (by omega), P.1 c j (by omega)]
  · rw [q, up_s, e9]
  · rw [q, up_n (by omega), up_s]
  · rw [q, up_n (by omega), up_n (by omega), up_s]
  · rw [q, up_n (by omega), up_n (by omega), up_n (by omega), P.1 143 20 (by omega)]
  · rw [q, up_n (by omega), up_n (by omega), up_n (by omega), P.1 151 _ (by omega)]
theorem rc_gop (P : CPp A u t H) (ht : A 143 17 = (t : Int)) (p : 0 ≤ A 149 t ∧ A 149 t ≤ 10000) (hw : -40000 ≤ w ∧ w ≤ 40000) : Pc (qf_X5_goOn nn w u) (fun g => CGN A g t H (A 149 t + w)) := by
  have e9 : u 149 t = A 149 t := P.1 149 t (by omega)
  unfold qf_X5_goOn
  rw [P.1 143 17 (by omega), ht]
  refine pc_rA ?_; intro _ _ v3 e3
  rw [Int.toNat_natCast, e9] at e3
  refine pc_add (by omega) ?_; intro v4 e4
  refine pc_wA ?_; intro _ _ h5 e5
  rw [Int.toNat_natCast] at e5
  refine pc_ret ⟨fun c j w1 w2 w3 w4 => ?_, ⟨?_, ?_⟩, ?_, fun n hn => ?_⟩
  · rw [e5, up_n (by omega), P.1 c j (by omega)]
  · rw [e5, up_s, e4, e3]
  · rw [e5, up_n (by omega), P.2]
  · rw [e5, up_n (by omega), P.1 143 20 (by omega)]
  · rw [e5, up_n (by omega), P.1 151 _ (by omega)]
theorem rr_gvp (P : RPp B z t H) (ht : B 160 149 = (t : Int) + 1) (t60 : t < 60) (h30 : H < 30) (p : 0 ≤ B 253 t ∧ B 253 t ≤ 10000) (hw : -10000 ≤ w ∧ w ≤ 10000) : Pc (mx_sv (qf_X13_give nn v z) fun u => qj_X13_step_1150 nn w u) (fun r => RGV B r t H v (B 253 t + w)) := by
  have e9 : z 253 t = B 253 t := P.1 253 t (by omega)
  refine pc_imp (rr_gv (t := t) (H := H) (v := v) (w := w) (by rw [P.1 160 149 (by omega)]; exact ht) t60 P.2 h30 (by rw [e9]; exact p) hw) (fun g q => ⟨fun c j w1 w2 w3 w4 => ?_, ⟨?_, ?_⟩, ?_, fun n hn => ?_⟩)
  · rw [q, up_n (by omega), up_n (by omega), up_n (by omega), P.1 c j (by omega)]
  · rw [q, up_s, e9]
  · rw [q, up_n (by omega), up_s]
  · rw [q, up_n (by omega), up_n (by omega), up_s]
  · rw [q, up_n (by omega), up_n (by omega), up_n (by omega), P.1 255 _ (by omega)]
theorem rr_gop (P : RPp B z t H) (ht : B 160 149 = (t : Int) + 1) (t60 : t < 60) (p : 0 ≤ B 253 t ∧ B 253 t ≤ 10000) (hw : -40000 ≤ w ∧ w ≤ 40000) : Pc (qf_X13_on nn w z) (fun r => RGN B r t H (B 253 t + w)) := by
  have e9 : z 253 t = B 253 t := P.1 253 t (by omega)
  unfold qf_X13_on
  rw [P.1 160 149 (by omega), ht]
  refine pc_sub (by omega) ?_; intro v3 e3
  rw [show v3 = (t : Int) by omega]
  refine pc_rA ?_; intro _ _ v4 e4
  rw [Int.toNat_natCast, e9] at e4
  refine pc_add (by omega) ?_; intro v5 e5
  refine pc_wA ?_; intro _ _ h6 e6
  rw [Int.toNat_natCast] at e6
  refine pc_ret ⟨fun c j w1 w2 w3 w4 => ?_, ⟨?_, ?_⟩, fun n hn => ?_⟩
  · rw [e6, up_n (by omega), P.1 c j (by omega)]
  · rw [e6, up_s, e5, e4]
  · rw [e6, up_n (by omega), P.2]
  · rw [e6, up_n (by omega), P.1 255 _ (by omega)]
theorem rr_on1 (P : RPp B z t H) (ht : B 160 149 = (t : Int) + 1) (t60 : t < 60) (p : 0 ≤ B 253 t ∧ B 253 t ≤ 10000) (hw : -40000 ≤ w ∧ w ≤ 40000) : Pc (qj_X13_step_1150 nn w z) (fun r => RGN B r t H (B 253 t + w)) := by
  unfold qj_X13_step_1150
  exact pc_sv (rr_gop P ht t60 p hw) (fun u q => pc_ret q)
/-- what is no number is 0 or an object -/
theorem rc_iso (e4 : u 143 4 = B 160 141) (o2 : B 160 141 ≤ 2000) (hv : v = 0 ∨ (1 ≤ v ∧ v ≤ B 160 141)) : Pc (qf_X5_isObject nn v u) (fun y => (y = 0 ∧ v = 0) ∨ (y = 1 ∧ ¬ v = 0)) := by
  unfold qf_X5_isObject
  rw [e4]
  refine pc_if (fun z => pc_ret (.inl ⟨rfl, by omega⟩)) (fun z => ?_)
  refine pc_if (fun w => absurd w (by omega)) (fun _ => ?_)
  refine pc_if (fun w => absurd w (by omega)) (fun _ => ?_)
  exact pc_ret (.inr ⟨rfl, by omega⟩)
end

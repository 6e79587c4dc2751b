section
variable {nn : Nat} {h g r z w v x f R : ms_M} {c d e k : Int} {ω : Int → ms_M}
/-- method k of image c, with what its check saw -/
def MBD (nn : Nat) (h : ms_M) (ω : Int → ms_M) (c k : Int) (g : ms_M) (N : Nat) (T U : Nat → ms_M) (m : Int) (L : Int → Int) (q t : Int) : Prop := (AGd h g ∧ VS_ g ∧ MC g c k (ω c)) ∧ INS (ω c) (g 160 134) (g 160 135) N ∧ TKV nn g c (ω c) (kdT g ω c 1 k) m L q t ∧ ((1 - flg g c k (ω c)) + m ≤ g 160 129 ∧ 0 < N) ∧ ((∀ y : Int, 0 ≤ y → y < g 160 129 → GOt nn g (ini c (1 - flg g c k (ω c)) m L y) (T 0 243 y.toNat)) ∧ T 0 160 131 = 0) ∧ (∀ u : Int, FRu g c k (ω c) u → FOK nn g c k (ω c) u ∧ BGI (ω c) (g 160 134) N (pw (ω c 238 u.toNat) (ω c 238 (u + 1).toNat))) ∧ HDK nn g c k (ω c) ∧ ∀ b : Nat, b < N → NODE nn g ω c k (ω c) t N T U b
theorem mok_b (X : MOK nn h ω c k) : ∃ (g : ms_M) (N : Nat) (T U : Nat → ms_M) (m : Int) (L : Int → Int) (q t : Int), MBD nn h ω c k g N T U m L q t := X
/-- a run's memory R over the verified space g -/
def RX (nn : Nat) (ω : Int → ms_M) (g R : ms_M) : Prop := VRC nn ω g ∧ AGe g R ∧ VS_ R ∧ SPD R
/-- frame f stands at instruction a of method k of image c; t: the type of its result; p: its check's memory -/
def ATF (nn : Nat) (g : ms_M) (ω : Int → ms_M) (R : ms_M) (f c k : Int) (N : Nat) (T U : Nat → ms_M) (t : Int) (a : Nat) (p : ms_M) : Prop := (∃ (m : Int) (L : Int → Int) (q : Int), MBD nn g ω c k p N T U m L q t) ∧ ((0 ≤ c ∧ c < g 160 98) ∧ 0 ≤ k ∧ k < g 234 c.toNat) ∧ (R 251 f.toNat = 8 + c ∧ R 252 f.toNat = k) ∧ a < N ∧ R 253 f.toNat = bp (ω c) (p 160 134) a
/-- the cells of frame f hold values of the types s -/
def CFS (nn : Nat) (g R : ms_M) (f l : Int) (s : ms_M) : Prop := (∀ y : Int, 0 ≤ y → y < l → CVt nn g R (s 243 y.toNat) (R 255 (60 * f + y).toNat)) ∧ R 254 f.toNat = s 160 131 ∧ ∀ y : Int, 0 ≤ y → y < s 160 131 → CVt nn g R (s 244 y.toNat) (R 255 (60 * f + 30 + y).toNat)
/-- the frame that runs -/
def TOPF (nn : Nat) (g : ms_M) (ω : Int → ms_M) (R : ms_M) (f t : Int) : Prop := ∃ (c k : Int) (N : Nat) (T U : Nat → ms_M) (a : Nat) (p : ms_M), ATF nn g ω R f c k N T U t a p ∧ CFS nn g R f (p 160 129) (T a)
/-- a frame that waits for a value of type u -/
def LOWF (nn : Nat) (g : ms_M) (ω : Int → ms_M) (R : ms_M) (f u t : Int) : Prop := ∃ (c k : Int) (N : Nat) (T U : Nat → ms_M) (a : Nat) (p : ms_M) (n : Int), ATF nn g ω R f c k N T U t a p ∧ ((ω c 238 (p 160 134 + bp (ω c) (p 160 134) a).toNat = 182 ∨ ω c 238 (p 160 134 + bp (ω c) (p 160 134) a).toNat = 184) ∧ ((u = 0 ∧ POP (T a) n (U a)) ∨ (¬ u = 0 ∧ PS1 (T a) n u (U a)))) ∧ (∀ y : Int, 0 ≤ y → y < p 160 129 → CVt nn g R (T a 243 y.toNat) (R 255 (60 * f + y).toNat)) ∧ R 254 f.toNat = T a 160 131 - n ∧ ∀ y : Int, 0 ≤ y → y < T a 160 131 - n → CVt nn g R (T a 244 y.toNat) (R 255 (60 * f + 30 + y).toNat)
/-- the d frames below; the lowest of them waits for u -/
def STK (nn : Nat) (g : ms_M) (ω : Int → ms_M) (R : ms_M) : Nat → Int → Prop
  | 0, _ => True
  | d + 1, u => ∃ t : Int, LOWF nn g ω R d u t ∧ STK nn g ω R d t
/-- the frames below f are kept -/
def LWK (R : ms_M) (f : Int) (r : ms_M) : Prop := (∀ i : Int, 0 ≤ i → i < f → r 251 i.toNat = R 251 i.toNat ∧ r 252 i.toNat = R 252 i.toNat ∧ r 253 i.toNat = R 253 i.toNat ∧ r 254 i.toNat = R 254 i.toNat) ∧ ∀ i : Int, 0 ≤ i → i < 60 * f → r 255 i.toNat = R 255 i.toNat
theorem lwk_rf {i : Int} : LWK R i R := ⟨fun _ _ _ => ⟨rfl, rfl, rfl, rfl⟩, fun _ _ _ => rfl⟩
theorem lwk_tr {i : Int} (a : LWK R i z) (b : LWK z i r) : LWK R i r := ⟨fun j p q => ⟨(b.1 j p q).1.trans (a.1 j p q).1, (b.1 j p q).2.1.trans (a.1 j p q).2.1, (b.1 j p q).2.2.1.trans (a.1 j p q).2.2.1, (b.1 j p q).2.2.2.trans (a.1 j p q).2.2.2⟩, fun j p q => (b.2 j p q).trans (a.2 j p q)⟩
theorem lwk_le {i j : Int} (a : LWK R i r) (le : j ≤ i) : LWK R j r := ⟨fun y p q => a.1 y p (by omega), fun y p q => a.2 y p (by omega)⟩
theorem mbd_129 {N : Nat} {T U : Nat → ms_M} {m q t : Int} {L : Int → Int} (X : MBD nn h ω c k g N T U m L q t) : g 160 129 ≤ 30 ∧ g 160 130 ≤ 30 := mc_30 X.1.2.2
theorem stk_k : ∀ (d : Nat) (u : Int), LWK R d r → HX R r → STK nn g ω R d u → STK nn g ω r d u := by
  intro d
  induction d with
  | zero => intro u _ _ _; trivial
  | succ d ih =>
    intro u A X S
    obtain ⟨t, ⟨c, k, N, T, U, a, p, n, ⟨a1, a2, ⟨a3, a4⟩, a5, a6⟩, b1, b2, b3, b4⟩, S⟩ := S
    obtain ⟨m, L, q, bd⟩ := a1
    have b30 := mbd_129 bd
    obtain ⟨q1, q2, q3, q4⟩ := A.1 (d : Int) (by omega) (by omega)
    refine ⟨t, ⟨c, k, N, T, U, a, p, n, ⟨⟨m, L, q, bd⟩, a2, ⟨by rw [q1]; exact a3, by rw [q2]; exact a4⟩, a5, by rw [q3]; exact a6⟩, b1, fun y y1 y2 => ?_, by rw [q4]; exact b3, fun y y1 y2 => ?_⟩, ih t (lwk_le A (by omega)) X S⟩
    · rw [A.2 (60 * (d : Int) + y) (by omega) (by omega)]
      exact cv_x X (b2 y y1 y2)
    · have nd := (bd.2.2.2.2.2.2.2 a a5).1
      have e131 : T a 160 131 ≤ 30 := by
        have := nd.2.2.1
        have e130 := nd.1 160 130 (by decide) (by decide)
        omega
      have n0 : 0 ≤ n := by
        rcases b1.2 with z | z
        · exact z.2.2.2.1
        · exact z.2.2.2.1.1
      rw [A.2 (60 * (d : Int) + 30 + y) (by omega) (by omega)]
      exact cv_x X (b4 y y1 y2)
/-- the fields of object o hold values of their types -/
def FLV (nn : Nat) (g : ms_M) (ω : Int → ms_M) (R : ms_M) (o : Int) : Prop := ∀ a j s t y : Int, UNd nn g (R 246 o.toNat) a → (8 ≤ a ∧ a < 8 + g 160 98) → (0 ≤ j ∧ j < g 232 (a - 8).toNat) → qf_X13_superOf nn a g = some y → FO nn g y s → TKU nn g (a - 8) (ω (a - 8)) (kdT g ω (a - 8) 0 j) t → CVt nn g R t (R 249 (R 247 o.toNat + s + j).toNat)
/-- object o is good -/
def OBJ (nn : Nat) (g : ms_M) (ω : Int → ms_M) (R : ms_M) (o : Int) : Prop := (0 ≤ R 247 o.toNat ∧ 0 ≤ R 248 o.toNat ∧ R 247 o.toNat + R 248 o.toNat ≤ R 160 142) ∧ ((R 246 o.toNat < 99 ∧ (0 ≤ R 246 o.toNat ∧ R 246 o.toNat < 8 + g 160 98) ∧ FO nn g (R 246 o.toNat) (R 248 o.toNat) ∧ FLV nn g ω R o) ∨ R 246 o.toNat = 99 ∨ ((100 ≤ R 246 o.toNat ∧ R 246 o.toNat - 100 < 8 + g 160 98) ∧ ∀ y : Int, 0 ≤ y → y < R 248 o.toNat → CVt nn g R (4 + 2 * (R 246 o.toNat - 100)) (R 249 (R 247 o.toNat + y).toNat)))
/-- the heap is good -/
def HPO (nn : Nat) (g : ms_M) (ω : Int → ms_M) (R : ms_M) : Prop := (∀ o : Int, 1 ≤ o → o ≤ R 160 141 → OBJ nn g ω R o) ∧ ∀ o i : Int, 1 ≤ o → o < i → i ≤ R 160 141 → R 247 o.toNat + R 248 o.toNat ≤ R 247 i.toNat
/-- the heap is the same -/
def HSM (R r : ms_M) : Prop := (∀ x : Nat, 246 ≤ x → x ≤ 249 → r x = R x) ∧ r 160 141 = R 160 141 ∧ r 160 142 = R 160 142
theorem hsm_rf : HSM R R := ⟨fun _ _ _ => rfl, rfl, rfl⟩
theorem hsm_tr (a : HSM R z) (b : HSM z r) : HSM R r := ⟨fun x p q => (b.1 x p q).trans (a.1 x p q), b.2.1.trans a.2.1, b.2.2.trans a.2.2⟩
theorem hsm_x (a : HSM R r) : HX R r := hx_eq a.2.1 (a.1 246 (by decide) (by decide))
theorem hpo_s (a : HSM R r) (H : HPO nn g ω R) : HPO nn g ω r := by
  have e6 := a.1 246 (by decide) (by decide)
  have e7 := a.1 247 (by decide) (by decide)
  have e8 := a.1 248 (by decide) (by decide)
  have e9 := a.1 249 (by decide) (by decide)
  have X := hsm_x a
  refine ⟨fun o o1 o2 => ?_, fun o i o1 o2 o3 => ?_⟩
  · rw [a.2.1] at o2
    obtain ⟨h1, h2⟩ := H.1 o o1 o2
    unfold OBJ FLV
    rw [e6, e7, e8, e9, a.2.2]
    refine ⟨h1, ?_⟩
    rcases h2 with ⟨p1, p2, p3, p4⟩ | p | ⟨p1, p2⟩
    · exact .inl ⟨p1, p2, p3, fun a j s t y q1 q2 q3 q4 q5 q6 => cv_x X (p4 a j s t y q1 q2 q3 q4 q5 q6)⟩
    · exact .inr (.inl p)
    · exact .inr (.inr ⟨p1, fun y y1 y2 => cv_x X (p2 y y1 y2)⟩)
  · rw [a.2.1] at o3
    rw [e7, e8]
    exact H.2 o i o1 o2 o3
/-- a run that goes on is good -/
def RUN1 (nn : Nat) (g : ms_M) (ω : Int → ms_M) (R : ms_M) : Prop := (1 ≤ R 160 149 ∧ R 160 149 ≤ 60) ∧ HPO nn g ω R ∧ ∃ t : Int, TOPF nn g ω R (R 160 149 - 1) t ∧ STK nn g ω R (R 160 149 - 1).toNat t
/-- what a step may write -/
def RFr (R r : ms_M) : Prop := ∀ x j : Nat, ¬ (246 ≤ x ∧ x ≤ 255) → ¬ (x = 160 ∧ (j = 121 ∨ (138 ≤ j ∧ j ≤ 142) ∨ (144 ≤ j ∧ j ≤ 149))) → r x j = R x j
theorem rfr_rf : RFr R R := fun _ _ _ _ => rfl
theorem rfr_tr (a : RFr R z) (b : RFr z r) : RFr R r := fun x j p q => (b x j p q).trans (a x j p q)
theorem rfr_k (a : RFr R r) : ∀ x j : Nat, 226 ≤ x → x ≤ 237 → r x j = R x j := fun x j p q => a x j (by omega) (by omega)
theorem rx_k (a : RFr R r) (V : VS_ r) (X : RX nn ω g R) : RX nn ω g r := ⟨X.1, age_tr X.2.1 (age_k (rfr_k a) (a 160 98 (by decide) (by decide))), V, spd_k X.2.2.1 (rfr_k a) (a 160 98 (by decide) (by decide)) X.2.2.2⟩
/-- what a step leaves -/
def SQ (nn : Nat) (g : ms_M) (ω : Int → ms_M) (R r : ms_M) : Prop := VS_ r ∧ RFr R r ∧ (r 160 138 = 1 → RUN1 nn g ω r)
/-- n values are taken from frame i -/
def RPO (R : ms_M) (i n : Int) (r : ms_M) : Prop := (∀ x j : Nat, ¬ (x = 254 ∧ j = i.toNat) → r x j = R x j) ∧ r 254 i.toNat = R 254 i.toNat - n ∧ (0 ≤ n ∧ n ≤ R 254 i.toNat)
/-- n values are taken from frame i, and y comes -/
def RPS (R : ms_M) (i n y : Int) (r : ms_M) : Prop := (∀ x j : Nat, ¬ (x = 254 ∧ j = i.toNat) → ¬ (x = 255 ∧ j = (60 * i + 30 + (R 254 i.toNat - n)).toNat) → r x j = R x j) ∧ r 254 i.toNat = R 254 i.toNat - n + 1 ∧ (0 ≤ n ∧ n ≤ R 254 i.toNat) ∧ r 255 (60 * i + 30 + (R 254 i.toNat - n)).toNat = y
theorem rpo_rf {i : Int} (V : VS_ R) (hi : 0 ≤ i ∧ i < 60) : RPO R i 0 R := ⟨fun _ _ _ => rfl, by omega, by omega, (gA_254 V i.toNat (by omega)).1⟩
theorem g_drop {i n : Int} (V : VS_ r) (P : RPO R i n r) (hd : R 160 149 = i + 1) (hi : 0 ≤ i ∧ i < 60) (hn1 : n < R 254 i.toNat) (h30 : R 254 i.toNat ≤ 30) : Ok_ (qf_X13_drop nn r) (fun u => VS_ u.2 ∧ RPO R i (n + 1) u.2 ∧ u.1 = R 255 (60 * i + 30 + (R 254 i.toNat - 1 - n)).toNat) := by
  have e149 : r 160 149 = i + 1 := by rw [P.1 160 149 (by omega)]; exact hd
  have p := P.2
  unfold qf_X13_drop
  rw [e149]
  refine ok_sub (by omega) ?_; intro v2 e2
  rw [show v2 = i by omega]
  refine ok_rd (by omega) (gA_254 V) ?_; intro v4 e4 _ _
  refine ok_sub (by omega) ?_; intro v5 e5
  refine ok_wA (by omega) ?_; intro h6 E6
  have V6 : VS_ h6 := by rw [E6]; exact wA_254 V (by omega)
  refine ok_mul (by omega) ?_; intro v8 e8
  refine ok_add (by omega) ?_; intro v9 e9
  refine ok_rd (by omega) (gA_254 V6) ?_; intro v11 e11 _ _
  rw [E6, up_s] at e11
  refine ok_add (by omega) ?_; intro v12 e12
  refine ok_rd (by omega) (gA_255 V6) ?_; intro v13 e13 _ _
  refine ok_ret ⟨V6, ⟨fun x j y => ?_, ?_, by omega⟩, ?_⟩
  · show h6 x j = R x j
    rw [E6, up_n (by omega)]; exact P.1 x j y
  · show h6 254 i.toNat = _
    rw [E6, up_s]; omega
  · show v13 = _
    rw [e13, E6, up_n (by omega), P.1 255 _ (by omega), show v12 = 60 * i + 30 + (R 254 i.toNat - 1 - n) by omega]
theorem g_give {i n y : Int} (V : VS_ r) (P : RPO R i n r) (hd : R 160 149 = i + 1) (hi : 0 ≤ i ∧ i < 60) (hn1 : R 254 i.toNat - n < 30) (hy : -2147483648 ≤ y ∧ y ≤ 2147483647) : Ok_ (qf_X13_give nn y r) (fun u => VS_ u ∧ RPS R i n y u) := by
  have e149 : r 160 149 = i + 1 := by rw [P.1 160 149 (by omega)]; exact hd
  have p := P.2
  unfold qf_X13_give
  rw [e149]
  refine ok_sub (by omega) ?_; intro v2 e2
  rw [show v2 = i by omega]
  refine ok_mul (by omega) ?_; intro v4 e4
  refine ok_add (by omega) ?_; intro v5 e5
  refine ok_rd (by omega) (gA_254 V) ?_; intro v7 e7 _ _
  refine ok_add (by omega) ?_; intro v8 e8
  refine ok_wA (by omega) ?_; intro h9 E9
  have V9 : VS_ h9 := by rw [E9]; exact wA_255 V hy
  refine ok_rd (by omega) (gA_254 V9) ?_; intro v11 e11 _ _
  rw [E9, up_n (by omega)] at e11
  refine ok_add (by omega) ?_; intro v12 e12
  refine ok_wA (by omega) ?_; intro h13 E13
  have V13 : VS_ h13 := by rw [E13]; exact wA_254 V9 (by omega)
  have ei : v8.toNat = (60 * i + 30 + (R 254 i.toNat - n)).toNat := by omega
  rw [ei] at E9
  refine ok_ret ⟨V13, fun x j a b => ?_, ?_, by omega, ?_⟩
  · rw [E13, up_n (by omega), E9, up_n (by omega)]; exact P.1 x j a
  · rw [E13, up_s]; omega
  · rw [E13, up_n (by omega), E9, up_s]
theorem g_on {i b : Int} (V : VS_ r) (hd : r 160 149 = i + 1) (hi : 0 ≤ i ∧ i < 60) (hb : -40000 ≤ b ∧ b ≤ 40000) (hp : 0 ≤ r 253 i.toNat ∧ r 253 i.toNat ≤ 2000) : Ok_ (qf_X13_on nn b r) (fun u => VS_ u ∧ (∀ x j : Nat, ¬ (x = 253 ∧ j = i.toNat) → u x j = r x j) ∧ u 253 i.toNat = r 253 i.toNat + b) := by
  unfold qf_X13_on
  rw [hd]
  refine ok_sub (by omega) ?_; intro v3 e3
  rw [show v3 = i by omega]
  refine ok_rd (by omega) (gA_253 V) ?_; intro v4 e4 _ _
  refine ok_add (by omega) ?_; intro v5 e5
  refine ok_wA (by omega) ?_; intro h6 E6
  exact ok_ret ⟨by rw [E6]; exact wA_253 V (by omega), fun x j y => by rw [E6, up_n y], by rw [E6, up_s]; omega⟩
theorem g_cell {i y : Int} (V : VS_ R) (hd : R 160 149 = i + 1) (hi : 0 ≤ i ∧ i < 60) (hy : 0 ≤ y ∧ y < 60) : Ok_ (qf_X13_cell nn y R) (fun u => u = R 255 (60 * i + y).toNat ∧ (-2147483648 ≤ u ∧ u ≤ 2147483647)) := by
  unfold qf_X13_cell
  rw [hd]
  refine ok_sub (by omega) ?_; intro v3 e3
  refine ok_mul (by omega) ?_; intro v4 e4
  refine ok_add (by omega) ?_; intro v5 e5
  refine ok_rd (by omega) (gA_255 V) ?_; intro v6 e6 a b
  refine ok_ret ⟨?_, a, b⟩
  rw [e6, show v5 = 60 * i + y by omega]
/-- the instruction's bytes -/
theorem g_op {i : Int} {N : Nat} {T U : Nat → ms_M} {t : Int} {a : Nat} {p : ms_M} (X : RX nn ω g R) (A : ATF nn g ω R i c k N T U t a p) (hd : R 160 149 = i + 1) (hi : 0 ≤ i ∧ i < 60) {q : Int} (hq : 0 ≤ q ∧ q ≤ p 160 135) : Ok_ (qf_X13_opAt nn q R) (fun u => u = ω c 238 (p 160 134 + q).toNat ∧ (0 ≤ u ∧ u ≤ 255)) := by
  obtain ⟨⟨⟨Vg, Sg⟩, O, C, _⟩, AE, V, S⟩ := X
  obtain ⟨⟨m, L, q0, bd⟩, ⟨c0, k0⟩, ⟨a1, a2⟩, _, _⟩ := A
  have g98 := gF_160_98 Vg
  have W := wi_e AE c0 (O c c0.1 c0.2)
  have hc : 0 ≤ c ∧ c ≤ 7 := by omega
  have M := bd.1.2.2
  have cd := mc_code M
  obtain ⟨_, _, _, _, _, _, _, _, e134⟩ := M
  have g3 := gF_160_113 W.1
  have k12 : k < 12 := (wi_mt (O c c0.1 c0.2) hc k0).1
  have e235 : R 235 (12 * c + k).toNat = p 235 (12 * c + k).toNat := by
    rw [((AE.2 c c0.1 c0.2).2.2.2 k k0.1 k12).2.1, bd.1.1.1 235 _ (by decide) (by decide)]
  unfold qf_X13_opAt
  rw [hd]
  refine ok_sub (by omega) ?_; intro v3 e3
  rw [show v3 = i by omega]
  refine ok_rd (by omega) (gA_251 V) ?_; intro v4 e4 _ _
  refine ok_sub (by omega) ?_; intro v5 e5
  rw [show v5 = c by omega]
  refine ok_sub (by omega) ?_; intro v9 e9
  rw [show v9 = i by omega]
  refine ok_rd (by omega) (gA_251 V) ?_; intro v10 e10 _ _
  refine ok_sub (by omega) ?_; intro v11 e11
  refine ok_mul (by omega) ?_; intro v12 e12
  refine ok_sub (by omega) ?_; intro v15 e15
  rw [show v15 = i by omega]
  refine ok_rd (by omega) (gA_252 V) ?_; intro v16 e16 _ _
  refine ok_add (by omega) ?_; intro v17 e17
  refine ok_rd (by omega) (gA_235 V) ?_; intro v18 e18 _ _
  rw [show v17 = 12 * c + k by omega, e235] at e18
  refine ok_add (by omega) ?_; intro v19 e19
  refine ok_add (by omega) ?_; intro v20 e20
  refine ok_sv (mv_bytew V hc W (by omega)) ?_; intro u22 P22
  rw [show v20 = p 160 134 + q by omega] at P22
  exact ok_ret P22
/-- the class that class constant j says -/
theorem ctv_cn {j u : Int} (F : CTv nn h c w j (4 + 2 * u)) : CNm nn h (6000 * c + pl w c (w 238 (pl w c j + 1).toNat) + 2) (w 238 (pl w c (w 238 (pl w c j + 1).toNat) + 1).toNat) u := by
  rcases F with ⟨a, y, b, d⟩ | ⟨a, b⟩
  · rw [show u = y by omega]; exact b
  · exfalso
    rcases b with b | b | b | b | b
    · omega
    · omega
    · omega
    · omega
    · obtain ⟨_, _, y, _, b⟩ := b
      omega
theorem g_class {α : Type} (X : RX nn ω g R) (hc : 0 ≤ c ∧ c < g 160 98) {j u : Int} (cl : CL (ω c) c j) (F : CTv nn g c (ω c) j (4 + 2 * u)) {G : Int → Option α} {Q : α → Prop} (K : Ok_ (G u) Q) : Ok_ (mx_sv (qf_X13_textOfClass nn c j R) fun u7 => mx_sv (qf_X13_classAtText nn c u7 R) fun u9 => G u9) Q := by
  obtain ⟨⟨⟨Vg, Sg⟩, O, C, _⟩, AE, V, S⟩ := X
  have g98 := gF_160_98 Vg
  have Wg := O c hc.1 hc.2
  have W := wi_e AE hc Wg
  have hc7 : 0 ≤ c ∧ c ≤ 7 := by omega
  obtain ⟨y, ey, p1, p2⟩ := rv_textOf (nn := nn) V hc7 W cl
  rw [ey, mx_svs, re_classAt V hc7 W p2.1, p1]
  rw [p1] at p2
  obtain ⟨a1, a2, a3, a4, a5⟩ := wi_tx Wg hc7 p2.1
  rw [ce_class Vg V O AE (by omega) ⟨c, hc, by omega, by omega⟩, (ctv_cn F).2, mx_svs]
  exact K
theorem g_classIn {i : Int} (X : RX nn ω g R) (hd : R 160 149 = i + 1) (hi : 0 ≤ i ∧ i < 60) (hc : 0 ≤ c ∧ c < g 160 98) (e1 : R 251 i.toNat = 8 + c) {j u : Int} (cl : CL (ω c) c j) (F : CTv nn g c (ω c) j (4 + 2 * u)) : Ok_ (qf_X13_classIn nn j R) (fun y => y = u) := by
  have V := X.2.2.1
  unfold qf_X13_classIn
  rw [hd]
  refine ok_sub (by omega) ?_; intro v3 e3
  rw [show v3 = i by omega]
  refine ok_rd (by omega) (gA_251 V) ?_; intro v4 e4 _ _
  refine ok_sub (by omega) ?_; intro v5 e5
  rw [show v5 = c by omega]
  exact g_class X hc cl F (ok_ret rfl)
theorem g_part {i : Int} (X : RX nn ω g R) (hd : R 160 149 = i + 1) (hi : 0 ≤ i ∧ i < 60) (hc : 0 ≤ c ∧ c < g 160 98) (e1 : R 251 i.toNat = 8 + c) {j y : Int} (s : SRT (ω c) c j 4) (hy : 0 ≤ y ∧ y ≤ 2) : Ok_ (qf_X13_memberPart nn j y R) (fun u => u = ω c 238 (pl (ω c) c j + 1 + y).toNat ∧ (0 ≤ u ∧ u ≤ 255)) := by
  obtain ⟨⟨⟨Vg, Sg⟩, O, C, _⟩, AE, V, S⟩ := X
  have g98 := gF_160_98 Vg
  have W := wi_e AE hc (O c hc.1 hc.2)
  have hc7 : 0 ≤ c ∧ c ≤ 7 := by omega
  have g3 := gF_160_113 W.1
  obtain ⟨a1, a2, a3, _, a5⟩ := wi_cs W hc7 s.1
  have a5 := a5 s.2
  have s1 := s.1
  unfold qf_X13_memberPart
  rw [hd]
  refine ok_sub (by omega) ?_; intro v3 e3
  rw [show v3 = i by omega]
  refine ok_rd (by omega) (gA_251 V) ?_; intro v4 e4 _ _
  refine ok_sub (by omega) ?_; intro v5 e5
  rw [show v5 = c by omega]
  refine ok_mul (by omega) ?_; intro v7 e7
  refine ok_add (by omega) ?_; intro v8 e8
  refine ok_rd (by omega) (gA_228 V) ?_; intro v9 e9 _ _
  rw [e8, e7, a2] at e9
  refine ok_add (by omega) ?_; intro v10 e10
  refine ok_add (by omega) ?_; intro v11 e11
  refine ok_sv (mv_bytew V hc7 W (by omega)) ?_; intro u13 P13
  rw [e11, e10, e9] at P13
  exact ok_ret P13
end

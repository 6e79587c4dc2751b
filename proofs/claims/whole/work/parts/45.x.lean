/- E of both sides: what is shown of each -/
/-- m bears the types that the rules left on the nodes [a, b) -/
def AN (a b : Int) (v m : ms_M) : Prop := ∀ cc x : Nat, 174 ≤ cc → cc ≤ 176 → a ≤ (x : Int) → (x : Int) < b → m cc x = v cc x
/-- the making of e does what the class has done -/
def MKC (nn : Nat) (X : BCx) (e a b : Int) (p q : Nat) (h u v : ms_M) : Prop := ∀ (d : Nat) (PB : Nat → Prop) (WL : Int → Int → Prop) (L : List (Int × Int)) (m : ms_M), MKx X PB WL L h m → AN a b v m → (0 ≤ m 160 57 ∧ m 160 57 + (b - a) < 9000) → m 160 88 + 4 * (q : Int) ≤ 2000000000 + 4 * (p : Int) → Pc ((qg_X13_work nn d).1 e m) (fun w => MKx X PB WL L u w ∧ (m 160 88 ≤ w 160 88 ∧ w 160 88 + 4 * (p : Int) ≤ m 160 88 + 4 * (q : Int)))
/-- a member of both sides: x in the class, j in the reference -/
def MBx (X : BCx) (s : Int) (x j : Int) : Prop := ∃ i k : Nat, (i < bM X ∧ k < 8) ∧ MSm (bB X) k s i ∧ j = (i : Int) ∧ x = ((12 * k + mcn_T (bB X) k s i : Nat) : Int)
/-- it is fetched (or a call) -/
def FM01 (nn : Nat) (X : BCx) (i a b : Int) (p q : Nat) (e : Int) (h u v : ms_M) : Prop := ((u 49 11 = 1 ∧ i = 0 ∧ (bT X 167 e.toNat = 26 ∨ bT X 167 e.toNat = 31) ∧ (u 49 12 = 303 → bK X q = 46 ∧ u 49 18 = (p : Int))) ∨ (u 49 11 = 0 ∧ ¬ (i = 0 ∧ (bT X 167 e.toNat = 26 ∨ bT X 167 e.toNat = 31)) ∧ ¬ u 49 12 = 303)) ∧ (i = 0 → ¬ bT X 167 e.toNat = 25 ∧ ¬ bT X 167 e.toNat = 32 ∧ (bT X 167 e.toNat = 30 → v 175 e.toNat = -1) ∨ ¬ bK X q = 51) ∧ (¬ bK X q = 51 → (u 34 3 = h 34 3 + (if u 49 12 = 303 then 0 else 1) ∧ (u 49 12 = 303 ∨ 20 < u 34 3 ∨ u 36 (u 34 3 - 1).toNat = u 49 12)) ∧ MKC nn X e a b p q h u v)
/-- a variable that is not fetched yet -/
def FM2 (X : BCx) (i : Int) (e : Int) (h u v : ms_M) : Prop := (u 49 11 = 2 ∧ i = 0 ∧ bT X 167 e.toNat = 25) ∧ (v 175 e.toNat = -1 ∧ v 176 e.toNat = u 49 14 ∧ 0 ≤ u 49 14 ∧ u 49 14 < 750 ∧ ¬ u 49 12 = 303) ∧ ∀ cc x : Nat, (RLc cc x ∨ (cc = 34 ∧ (x = 3 ∨ x = 4)) ∨ cc = 36) → u cc x = h cc x
/-- a field: its object is on the stack -/
def FM3 (nn : Nat) (X : BCx) (i a : Int) (p q : Nat) (e : Int) (h u v : ms_M) : Prop := (u 49 11 = 3 ∧ i = 0 ∧ (0 ≤ u 49 13 ∧ u 49 13 < 8 + (bn X : Int)) ∧ ¬ u 49 12 = 303) ∧ (MBx X 0 (u 49 14) (v 175 e.toNat) ∧ u 34 3 = h 34 3 + 1 ∧ u 34 1 + 20 * (p : Int) + 10 ≤ h 34 1 + 20 * (q : Int)) ∧ ((bT X 167 e.toNat = 25 ∧ u 49 13 = bo X ∧ ∀ (PB : Nat → Prop) (WL : Int → Int → Prop) (L : List (Int × Int)) (m : ms_M), MKx X PB WL L h m → Pc (qf_X13_self nn m) (fun w => MKx X PB WL L u w ∧ w 160 88 = m 160 88)) ∨ (bT X 167 e.toNat = 30 ∧ (a ≤ bT X 170 e.toNat ∧ bT X 170 e.toNat < e) ∧ v 174 (bT X 170 e.toNat).toNat = ty_T (u 49 13) ∧ MKC nn X (bT X 170 e.toNat) a e p q h u v))
/-- an element: its array and its index are on the stack -/
def FM4 (nn : Nat) (X : BCx) (i a b : Int) (p q : Nat) (e : Int) (h u v : ms_M) : Prop := (u 49 11 = 4 ∧ i = 0 ∧ bT X 167 e.toNat = 32 ∧ ¬ u 49 12 = 303) ∧ (u 34 3 = h 34 3 + 2 ∧ u 34 1 + 20 * (p : Int) + 10 ≤ h 34 1 + 20 * (q : Int)) ∧ ∃ (t : Nat) (g : ms_M), (p < t ∧ t < q) ∧ MKC nn X (bT X 170 e.toNat) a e p t h g v ∧ MKC nn X (bT X 171 e.toNat) (e + 1) b t q g u v
def FMv (nn : Nat) (X : BCx) (i a b : Int) (p q : Nat) (e : Int) (h u v : ms_M) : Prop := FM01 nn X i a b p q e h u v ∨ FM2 X i e h u v ∨ FM3 nn X i a p q e h u v ∨ FM4 nn X i a b p q e h u v
/-- what is wanted ahead of an E -/
def EPr (X : BCx) (dp : Int) (p : Nat) (h r : ms_M) : Prop := BX X h r ∧ (h 2 10 = (p : Int) ∧ p < bc X ∧ h 2 11 = 0 ∧ r 160 9 = 0) ∧ (FRc h ∧ (0 ≤ h 34 1 ∧ h 34 1 ≤ 20 * (p : Int) + 1000) ∧ 0 ≤ h 34 3 ∧ h 34 3 ≤ (p : Int)) ∧ 0 ≤ h 49 10 ∧ h 49 10 ≤ 10 * dp ∧ h 49 18 ≤ (p : Int)
def POk (nn : Nat) (X : BCx) (i a b : Int) (p q : Nat) (e : Int) (h r u : ms_M) (v : Int × ms_M) : Prop := (u 2 10 = (q : Int) ∧ q < bc X ∧ p < q ∧ u 2 11 = 0 ∧ v.2 160 9 = 0) ∧ (v.1 = ty_T (u 49 12) ∧ VTn (bn X) (u 49 12) ∧ v.2 174 e.toNat = v.1) ∧ (CFe h u ∧ RFe a b r v.2 ∧ SGb h u) ∧ (FRc u ∧ (0 ≤ u 34 1 ∧ u 34 1 + 20 * (p : Int) ≤ h 34 1 + 20 * (q : Int)) ∧ 0 ≤ u 34 3 ∧ u 34 3 + (p : Int) ≤ h 34 3 + (q : Int)) ∧ FMv nn X i a b p q e h u v.2
/-- a void call where a value is wanted: the class has told it, the reference is about to -/
def VDj (X : BCx) (i a b : Int) (p q : Nat) (e : Int) (h r u : ms_M) (v : Int × ms_M) : Prop := (u 2 11 = 6 ∧ u 2 12 = bP X (bT X 168 e.toNat).toNat ∧ 0 ≤ bT X 168 e.toNat ∧ bT X 168 e.toNat < (bc X : Int) ∧ (i = 0 → bK X q = 46 → ¬ h 49 18 = (p : Int))) ∧ (v.1 = 3 ∧ v.2 160 9 = 0 ∧ v.2 174 e.toNat = 3) ∧ RFe a b r v.2
section
variable {nn : Nat} {X : BCx} {dp i a b e : Int} {p q : Nat} {h g u r v w m : ms_M}
theorem an_s {a1 b1 : Int} {v1 : ms_M} (A : AN a b v m) (h1 : a ≤ a1 ∧ b1 ≤ b) (E : ∀ cc x : Nat, 174 ≤ cc → cc ≤ 176 → a1 ≤ (x : Int) → (x : Int) < b1 → v cc x = v1 cc x) : AN a1 b1 v1 m := fun cc x z1 z2 z3 z4 => (A cc x z1 z2 (by omega) (by omega)).trans (E cc x z1 z2 z3 z4)
theorem an_m (A : AN a b v m) (E : ∀ cc x : Nat, 174 ≤ cc → cc ≤ 176 → w cc x = m cc x) : AN a b v w := fun cc x z1 z2 z3 z4 => (E cc x z1 z2).trans (A cc x z1 z2 z3 z4)
theorem w_one {Q : Int × ms_M → Prop} (b57 : 0 ≤ r 160 57 ∧ r 160 57 ≤ 10000) (hf : r 160 9 = 0) (hl : Pc (qf_X13_isLed nn e r) (fun u => u = 0)) (R : ∀ d : Nat, Pc (qo_X13_rule nn (qg_X13_condition nn d) e r) (fun u => ∀ z : ms_M, z = up_M u.2 174 e.toNat u.1 → (z 160 9 = 0 → Q (u.1, z)) ∧ (¬ z 160 9 = 0 → Q (0, z)))) : ∀ d : Nat, Pc ((qg_X13_condition nn d).2.2.1 e r) Q := by
  intro d
  cases d with
  | zero => exact pc_none
  | succ d =>
    refine wk_one (rk_rule d) b57 hf hl ?_
    cases d with
    | zero => exact pc_none
    | succ d => exact R d
theorem m_one {Q : ms_M → Prop} (b57 : 0 ≤ m 160 57 ∧ m 160 57 ≤ 10000) (hl : Pc (qf_X13_isLedInWords nn e m) (fun u => u = 0)) (R : ∀ d : Nat, Pc (qo_X13_workOne nn (qg_X13_work nn d) e m) Q) : ∀ d : Nat, Pc ((qg_X13_work nn d).1 e m) Q := by
  intro d
  cases d with
  | zero => exact pc_none
  | succ d =>
    refine mw_one (rk_work1 d) b57 hl ?_
    cases d with
    | zero => exact pc_none
    | succ d => exact R d
theorem r_nled (k : ¬ r 167 e.toNat = 30 ∧ ¬ r 167 e.toNat = 31 ∧ ¬ r 167 e.toNat = 32 ∧ ¬ r 167 e.toNat = 37 ∧ ¬ r 167 e.toNat = 38) : Pc (qf_X13_isLed nn e r) (fun u => u = 0) := by
  obtain ⟨k1, k2, k3, k4, k5⟩ := k
  unfold qf_X13_isLed
  refine pc_rA ?_; intro _ _ v2 e2
  rw [← e2] at k1 k2 k3 k4 k5
  refine pc_if (fun z => absurd z k4) (fun _ => ?_)
  refine pc_if (fun z => absurd z k5) (fun _ => ?_)
  refine pc_if (fun z => absurd z k1) (fun _ => ?_)
  refine pc_if (fun z => absurd z k3) (fun _ => ?_)
  exact pc_if (fun _ => pc_ret rfl) (fun z => absurd k2 z)
theorem m_nled (k : ¬ m 167 e.toNat = 30 ∧ ¬ m 167 e.toNat = 31 ∧ ¬ m 167 e.toNat = 32 ∧ ¬ m 167 e.toNat = 37 ∧ ¬ m 167 e.toNat = 38) : Pc (qf_X13_isLedInWords nn e m) (fun u => u = 0) := by
  obtain ⟨k1, k2, k3, k4, k5⟩ := k
  unfold qf_X13_isLedInWords
  refine pc_rA ?_; intro _ _ v2 e2
  rw [← e2] at k1 k2 k3 k4 k5
  refine pc_if (fun z => absurd z k4) (fun _ => ?_)
  refine pc_if (fun z => absurd z k5) (fun _ => ?_)
  refine pc_if (fun z => absurd z k1) (fun _ => ?_)
  refine pc_if (fun z => absurd z k3) (fun _ => ?_)
  exact pc_if (fun _ => pc_ret rfl) (fun z => absurd k2 z)
theorem c_give {t : Int} (hl : 0 ≤ h 34 3 ∧ h 34 3 ≤ 2000000) : Pc (qf_X10_give nn t h) (fun u => ∃ g, CPu t h g ∧ u = up_M (up_M g 49 12 t) 49 11 0) := by
  unfold qf_X10_give
  refine pc_sv (c_push hl) ?_; intro u3 q3
  refine pc_xl ?_; intro h4 e4
  refine pc_xl ?_; intro h5 e5
  exact pc_ret ⟨u3, q3, by rw [e5, e4]⟩
/-- what is on top of the class's stack -/
theorem cp_top {t : Int} {g2 : ms_M} (CP : CPu t g g2) (h0 : 0 ≤ g 34 3) (u3 : u 34 3 = g 34 3 + 1) (u36 : ∀ x : Nat, u 36 x = g2 36 x) (u12 : u 49 12 = t) : u 49 12 = 303 ∨ 20 < u 34 3 ∨ u 36 (u 34 3 - 1).toNat = u 49 12 := by
  by_cases z : g 34 3 < 20
  · right; right
    rw [u3, u12, u36, show (g 34 3 + 1 - 1).toNat = (g 34 3).toNat by omega]
    exact CP.2.2.1 z
  · right; left; omega
theorem top_g {t : Int} {g2 : ms_M} (CP : CPu t g g2) (h0 : 0 ≤ g 34 3) (eu : u = up_M (up_M g2 49 12 t) 49 11 0) : u 49 12 = 303 ∨ 20 < u 34 3 ∨ u 36 (u 34 3 - 1).toNat = u 49 12 := cp_top CP h0 (by rw [eu, up_n (by omega), up_n (by omega)]; exact CP.1) (fun x => by rw [eu, up_n (by omega), up_n (by omega)]) (by rw [eu, up_n (by omega), up_s])
theorem c_valAt {K P : Nat → Int} {c t : Nat} (B : TBc K P c h) (ht : t < c) (c3 : c ≤ 3001) {x : Int} (hx : x = (t : Int)) : Pc (qf_X9_valueAt nn x h) (fun u => u = h 5 t) := by
  subst hx
  unfold qf_X9_valueAt
  have b := B.1
  refine pc_if (fun z => absurd z (by omega)) (fun _ => ?_)
  refine pc_if (fun z => absurd z (by omega)) (fun _ => ?_)
  refine pc_rA ?_; intro _ _ v3 e3
  rw [Int.toNat_natCast] at e3
  exact pc_ret e3
/-- of what MK knows, what the making of one E wants -/
theorem mk_t {PB : Nat → Prop} {WL : Int → Int → Prop} {L : List (Int × Int)} (M : MKx X PB WL L h m) : (∀ cc x : Nat, ((163 ≤ cc ∧ cc ≤ 173) ∨ cc = 177) → m cc x = bT X cc x) ∧ (∀ cc x : Nat, (178 ≤ cc ∧ cc ≤ 195) → m cc x = bB X cc x) ∧ (h 34 1 = m 160 68 ∧ h 34 3 = m 160 70 ∧ 0 ≤ h 34 1 ∧ 0 ≤ h 34 3) ∧ m 160 9 = 0 ∧ 8 + 2 * m 160 52 = ty_T (bo X) ∧ 0 ≤ m 160 52 ∧ m 160 52 ≤ 100 := by
  obtain ⟨⟨c, -, -, ⟨-, -, -, t, s⟩⟩, k⟩ := M
  exact ⟨s.2.2.2.2, t.2.2.2.2.2, ⟨c.1.1, k.1.1, c.1.2, k.1.2.2.1⟩, s.2.2.2.1, s.2.2.1.1, s.2.2.1.2.1, s.2.2.1.2.2⟩
/-- push, then the class's own fields -/
theorem mkx_give {PB : Nat → Prop} {WL : Int → Int → Prop} {L : List (Int × Int)} {t t2 : Int} (M : MKx X PB WL L h m) (A : CPu t h g) (B : RPs t2 m w) (e : TJ (bn X) t2 t) (eu : u = up_M (up_M g 49 12 t) 49 11 0) : MKx X PB WL L u w := mk_c (mk_push M A B e) (fun cc x z => by
  rw [eu, up_n (by rcases z with z | z | z <;> first | (unfold RLc at z; omega) | omega), up_n (by rcases z with z | z | z <;> first | (unfold RLc at z; omega) | omega)])
theorem mkx_c {PB : Nat → Prop} {WL : Int → Int → Prop} {L : List (Int × Int)} (M : MKx X PB WL L h m) (e1 : ∀ cc x : Nat, ¬ (cc = 2 ∧ (x = 10 ∨ x = 11 ∨ x = 12)) → ¬ cc = 49 → ¬ (50 ≤ cc ∧ cc ≤ 54) → g cc x = h cc x) : MKx X PB WL L g m := mk_c M (fun cc x z => e1 cc x (by rcases z with z | z | z <;> first | (unfold RLc at z; omega) | omega) (by rcases z with z | z | z <;> first | (unfold RLc at z; omega) | omega) (by rcases z with z | z | z <;> first | (unfold RLc at z; omega) | omega))
end

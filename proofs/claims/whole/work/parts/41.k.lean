/- VERIFY: types of both sides -/
/-- values: a type of the class, a type of the reference -/
def TYj (x y : Int) : Prop := (x = 304 ∧ y = 0) ∨ (x = 301 ∧ y = 1) ∨ (x = 300 ∧ y = 2) ∨ (x = 200 ∧ y = 3) ∨ ((0 ≤ x ∧ x < 16) ∧ y = 4 + 2 * x) ∨ ((100 ≤ x ∧ x < 116) ∧ y = 5 + 2 * (x - 100))
/-- .. whose class may not be there -/
def TYo (x y : Int) : Prop := TYj x y ∨ (x = -1 ∧ 36 ≤ y ∧ y ≤ 5000)
/-- the reference's lookup may move these alone -/
def OTH (h g : ms_M) : Prop := (∀ x k : Nat, ¬ (x = 160 ∧ (k = 117 ∨ k = 120)) → ¬ x = 240 → ¬ x = 241 → g x k = h x k) ∧ (0 ≤ h 160 117 → 0 ≤ g 160 117)
/-- a name from p to e - 1, and ; behind it -/
def NMk (B : Nat → Int) (p e : Nat) : Prop := p + 1 < e ∧ B (e - 1) = 59 ∧ nm_N (fun i => B (p + i)) (e - 1 - p) = true
/-- a kind (or V) from p to e -/
def KDs (B : Nat → Int) (p e : Nat) : Prop := ((B p = 73 ∨ B p = 90 ∨ B p = 86) ∧ e = p + 1) ∨ (B p = 91 ∧ B (p + 1) = 73 ∧ e = p + 2) ∨ (B p = 91 ∧ B (p + 1) = 76 ∧ NMk B (p + 2) e) ∨ (B p = 76 ∧ NMk B (p + 1) e)
/-- the type of the kind from p to e, the class's and the reference's -/
def KTc (Bf : Nat → Nat → Int) (nf : Nat → Nat) (cnt : Int) (B : Nat → Int) (p e : Nat) (x : Int) : Prop := ((B p = 73 ∨ B p = 90) ∧ x = 301) ∨ (B p = 86 ∧ x = 303) ∨ (B p = 91 ∧ B (p + 1) = 73 ∧ x = 200) ∨ (B p = 91 ∧ B (p + 1) = 76 ∧ ∃ v : Int, CLo Bf nf cnt (fun i => B (p + 2 + i)) (e - 1 - (p + 2)) v ∧ ((v = -1 ∧ x = -1) ∨ (¬ v = -1 ∧ x = 100 + v))) ∨ (B p = 76 ∧ CLo Bf nf cnt (fun i => B (p + 1 + i)) (e - 1 - (p + 1)) x)
def NRv (a v y : Int) : Prop := (¬ v = -1 ∧ y = a + 2 * v) ∨ (v = -1 ∧ 36 ≤ y ∧ y ≤ 5000)
def KTr (Bf : Nat → Nat → Int) (nf : Nat → Nat) (cnt : Int) (B : Nat → Int) (p e : Nat) (y : Int) : Prop := ((B p = 73 ∨ B p = 90) ∧ y = 1) ∨ (B p = 86 ∧ y = 0) ∨ (B p = 91 ∧ B (p + 1) = 73 ∧ y = 3) ∨ (B p = 91 ∧ B (p + 1) = 76 ∧ ∃ v : Int, CNo Bf nf cnt (fun i => B (p + 2 + i)) (e - 1 - (p + 2)) v ∧ NRv 5 v y) ∨ (B p = 76 ∧ ∃ v : Int, CNo Bf nf cnt (fun i => B (p + 1 + i)) (e - 1 - (p + 1)) v ∧ NRv 4 v y)
section
variable {nn : Nat} {Bf : Nat → Nat → Int} {nf : Nat → Nat} {cnt : Int} {B : Nat → Int} {n b : Nat} {M h g r : ms_M}
theorem oth_r : OTH h h := ⟨fun _ _ _ _ _ => rfl, fun z => z⟩
theorem oth_t (A : OTH h g) (C : OTH g r) : OTH h r := ⟨fun x k z1 z2 z3 => (C.1 x k z1 z2 z3).trans (A.1 x k z1 z2 z3), fun z => C.2 (A.2 z)⟩
theorem clo_rg (h8 : cnt ≤ 8) {f : Nat → Int} {m : Nat} {v : Int} (C : CLo Bf nf cnt f m v) : v = -1 ∨ (0 ≤ v ∧ v < 16) := by
  rcases C with ⟨k, h1, h2, -⟩ | ⟨⟨c, h1, h2, -⟩ | ⟨h1, -⟩, -⟩
  · omega
  · omega
  · exact .inl h1
/-- both types are the same -/
theorem kt_cr (N : NKn Bf nf cnt) (h8 : cnt ≤ 8) {p e : Nat} {x y : Int} (X : KTc Bf nf cnt B p e x) (Y : KTr Bf nf cnt B p e y) : (B p = 86 ∧ x = 303 ∧ y = 0) ∨ (¬ B p = 86 ∧ ¬ x = 303 ∧ TYo x y ∧ (x = 301 ↔ (B p = 73 ∨ B p = 90)) ∧ ¬ x = 304 ∧ ¬ x = 300) := by
  rcases X with ⟨b1, x1⟩ | ⟨b1, x1⟩ | ⟨b1, b2, x1⟩ | ⟨b1, b2, v, C, x1⟩ | ⟨b1, C⟩
  · rcases Y with ⟨c1, y1⟩ | ⟨c1, y1⟩ | ⟨c1, c2, y1⟩ | ⟨c1, c2, v, C, y1⟩ | ⟨c1, v, C, y1⟩
    · exact .inr ⟨by omega, by omega, .inl (.inr (.inl ⟨x1, y1⟩)), ⟨fun _ => b1, fun _ => x1⟩, by omega, by omega⟩
    all_goals (exfalso; (try clear C); omega)
  · rcases Y with ⟨c1, y1⟩ | ⟨c1, y1⟩ | ⟨c1, c2, y1⟩ | ⟨c1, c2, v, C, y1⟩ | ⟨c1, v, C, y1⟩
    · exfalso; omega
    · exact .inl ⟨b1, x1, y1⟩
    · exfalso; omega
    all_goals (exfalso; (try clear C); omega)
  · rcases Y with ⟨c1, y1⟩ | ⟨c1, y1⟩ | ⟨c1, c2, y1⟩ | ⟨c1, c2, v, C, y1⟩ | ⟨c1, v, C, y1⟩
    · exfalso; omega
    · exfalso; omega
    · exact .inr ⟨by omega, by omega, .inl (.inr (.inr (.inr (.inl ⟨x1, y1⟩)))), by omega, by omega, by omega⟩
    all_goals (exfalso; (try clear C); omega)
  · have rg := clo_rg h8 C
    rcases Y with ⟨c1, y1⟩ | ⟨c1, y1⟩ | ⟨c1, c2, y1⟩ | ⟨c1, c2, w, D, y1⟩ | ⟨c1, w, D, y1⟩
    · exfalso; clear C; omega
    · exfalso; clear C; omega
    · exfalso; clear C; omega
    · have e := cl_cn N C D
      clear C D
      unfold NRv at y1
      unfold TYo TYj
      exact .inr ⟨by omega, by omega, by omega, by omega, by omega, by omega⟩
    · exfalso; clear C D; omega
  · have rg := clo_rg h8 C
    rcases Y with ⟨c1, y1⟩ | ⟨c1, y1⟩ | ⟨c1, c2, y1⟩ | ⟨c1, c2, w, D, y1⟩ | ⟨c1, w, D, y1⟩
    · exfalso; clear C; omega
    · exfalso; clear C; omega
    · exfalso; clear C; omega
    · exfalso; clear C D; omega
    · have e := cl_cn N C D
      clear C D
      unfold NRv at y1
      unfold TYo TYj
      exact .inr ⟨by omega, by omega, by omega, by omega, by omega, by omega⟩
/-- the class's lookup, from the first class on -/
theorem c_look (S : ∀ k : Nat, (k : Int) < M 56 3 → IMc (M 60 k).toNat (nf k) (Bf k) M) (g3 : 0 ≤ M 56 3 ∧ M 56 3 ≤ 8) (J : sr_I M b B n) {p s : Nat} (hp : p ≤ s ∧ s ≤ n) : Pc (qf_X7_classOf nn b (p : Int) (s : Int) M) (CLo Bf nf (M 56 3) (fun i => B (p + i)) (s - p)) := by
  unfold qf_X7_classOf
  exact c_classOf S g3 J hp nn 0 (fun j hj => absurd hj (by omega)) g3.1
/-- THE CLASS'S TYPE OF A KIND -/
theorem vq_ckind (S : ∀ k : Nat, (k : Int) < M 56 3 → IMc (M 60 k).toNat (nf k) (Bf k) M) (g3 : 0 ≤ M 56 3 ∧ M 56 3 ≤ 8) (J : sr_I M b B n) {p e : Nat} (K : KDs B p e) (he : e ≤ n) : Pc (qf_X7_typeOfKind nn b (p : Int) (e : Int) M) (KTc Bf nf (M 56 3) B p e) := by
  have n6 : n ≤ 6000 := J.2.1
  have pe : p < e := by unfold KDs NMk at K; omega
  unfold qf_X7_typeOfKind
  refine pc_ck (fun _ => ?_)
  refine pc_sv (P := fun u => u = B p) (fun u eu => by rw [byteAt_in J (by omega)] at eu; exact (Option.some.inj eu).symm) ?_; intro u2 q2
  rw [q2]
  refine pc_if (fun z => pc_ret (.inl ⟨.inl z, rfl⟩)) (fun z73 => ?_)
  refine pc_if (fun z90 => ?_) (fun z => pc_ret (.inl ⟨.inr (by omega), rfl⟩))
  refine pc_if (fun z86 => ?_) (fun z => pc_ret (.inr (.inl ⟨by omega, rfl⟩)))
  refine pc_if (fun z91 => ?_) (fun z91 => ?_)
  · refine pc_add (by omega) ?_; intro v3 e3
    refine pc_sv (P := fun u => u = B (p + 1)) (fun u eu => by rw [e3, show ((p : Int) + 1) = ((p + 1 : Nat) : Int) by omega, byteAt_in J (by unfold KDs NMk at K; omega)] at eu; exact (Option.some.inj eu).symm) ?_; intro u5 q5
    rw [q5]
    refine pc_if (fun z => ?_) (fun z => pc_ret (.inr (.inr (.inl ⟨z91, by omega, rfl⟩))))
    have b1 : B (p + 1) = 76 := by unfold KDs at K; omega
    have K2 : p + 3 < e := by unfold KDs NMk at K; omega
    refine pc_add (by omega) ?_; intro v6 e6
    refine pc_sub (by omega) ?_; intro v7 e7
    rw [e6, e7, show ((p : Int) + 2) = ((p + 2 : Nat) : Int) by omega, show ((e : Int) - 1) = ((e - 1 : Nat) : Int) by omega]
    refine pc_sv (c_look S g3 J (p := p + 2) (s := e - 1) (by omega)) ?_; intro u9 C
    have rg := clo_rg g3.2 C
    refine pc_if (fun z9 => ?_) (fun z9 => ?_)
    · refine pc_add (by omega) ?_; intro v10 e10
      exact pc_ret (.inr (.inr (.inr (.inl ⟨z91, b1, u9, C, .inr ⟨z9, e10⟩⟩))))
    · exact pc_ret (.inr (.inr (.inr (.inl ⟨z91, b1, u9, C, .inl ⟨by omega, rfl⟩⟩))))
  · have b0 : B p = 76 := by unfold KDs at K; omega
    have K2 : p + 2 < e := by unfold KDs NMk at K; omega
    refine pc_add (by omega) ?_; intro v13 e13
    refine pc_sub (by omega) ?_; intro v14 e14
    rw [e13, e14, show ((p : Int) + 1) = ((p + 1 : Nat) : Int) by omega, show ((e : Int) - 1) = ((e - 1 : Nat) : Int) by omega]
    refine pc_sv (c_look S g3 J (p := p + 1) (s := e - 1) (by omega)) ?_; intro u16 C
    exact pc_ret (.inr (.inr (.inr (.inr ⟨b0, C⟩))))
end

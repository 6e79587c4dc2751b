/- a method: the making -/
/-- what the making of a method wants -/
def MPr (X : BCx) (B a b : Int) (p q : Nat) (h v m : ms_M) : Prop := PBX X B h m ∧ (0 ≤ B ∧ B ≤ 50000000) ∧ AN a b v m ∧ (m 160 9 = 0 ∧ m 160 52 = bo X ∧ 0 ≤ m 160 88 ∧ m 160 88 + 4 * (q : Int) ≤ 2000000000 + 4 * (p : Int)) ∧ ∀ cc x : Nat, ((163 ≤ cc ∧ cc ≤ 173) ∨ cc = 177) → m cc x = bT X cc x
/-- the method is MUCH -/
def TMu (u : ms_M) : Prop := ¬ (OKM u ∧ u 34 15 = 0)
def SG2 (X : BCx) (h m : ms_M) : Prop := SGV (bK X) (bV X) (bF X) (bo X) h m ∧ ((h 34 8 = m 160 72 + (bF X : Int) ∧ h 34 8 ≤ 750) ∧ h 34 7 ≤ h 34 8) ∧ ∀ s : Nat, (s : Int) < h 34 7 → VTn (bn X) (h 38 s) ∧ ¬ h 38 s = 303
section
variable {nn : Nat} {X : BCx} {B v v2 : Int} {k j i n : Nat} {h h0 g u r r0 m w hB : ms_M}
theorem bys_p (P : BYS B h m) (e : h 45 5 = 0 → v % 256 = v2 % 256) (A : CPt v h u) (C : RTl v2 m w) : BYS (B + 1) u w := by
  obtain ⟨⟨p5, p6⟩, p7⟩ := P
  obtain ⟨a1, a2, a3⟩ := A
  obtain ⟨c1, c2, c3⟩ := C
  refine ⟨⟨by omega, by omega⟩, fun o => ?_⟩
  rw [a3 45 5 (by omega) (by omega)] at o
  obtain ⟨q1, q2⟩ := p7 o
  have e3 := e o
  refine ⟨by omega, fun x hx h6 => ?_⟩
  by_cases q : (x : Int) = h 45 7
  · rw [show x = (m 160 97).toNat by omega, c2 (by omega), show (m 160 97).toNat = (h 45 7).toNat by omega, a2 (by omega), oq_and_al, oq_b_al, Int.bmod_def]
    split <;> omega
  · rw [c3 225 x (by omega) (by omega), a3 48 x (by omega) (by omega)]
    exact q2 x (by omega) h6
theorem bys_c (P : BYS B h m) (e5 : u 45 5 = 0 → h 45 5 = 0) (e7 : u 45 7 = h 45 7) (e8 : ∀ x : Nat, u 48 x = h 48 x) (f7 : w 160 97 = m 160 97) (f5 : ∀ x : Nat, w 225 x = m 225 x) : BYS B u w := by
  obtain ⟨p5, p7⟩ := P
  refine ⟨by rw [e7, f7]; exact p5, fun o => ?_⟩
  rw [e7, f7]
  obtain ⟨q1, q2⟩ := p7 (e5 o)
  exact ⟨q1, fun x hx h6 => by rw [f5 x, e8 x]; exact q2 x hx h6⟩
theorem sg2_a {t : Nat} {ty : Int} {w0 : ms_M} (S : SG2 X h m) (A : CLa (bV X t) ty h g) (R : RCm (t : Int) (ty_T ty) m w0) (ew : w = up_M w0 160 72 (if w0 160 72 < w0 160 50 then w0 160 50 else w0 160 72)) (kt : bK X t = 2) (h7 : h 34 7 < 750) (vq : VTn (bn X) ty ∧ ¬ ty = 303) : SG2 X g w := by
  obtain ⟨s1, ⟨s2, s3⟩, s4⟩ := S
  have SG := sgv_a s1 (x := 0) kt A R rfl h7
  have z1 := s1.1
  obtain ⟨a1, a2, a3, a5⟩ := A
  obtain ⟨-, b2, -, -, b5⟩ := R
  have b72 := b5 160 72 (by omega) (by omega)
  have w72 : w 160 72 = (if m 160 72 < m 160 50 + 1 then m 160 50 + 1 else m 160 72) := by rw [ew, up_s, b72, b2]
  refine ⟨sgv_k SG (fun _ _ _ => rfl) (fun cc y z => by rw [ew, up_n (by omega)]), ⟨by rw [a2, w72]; split <;> split <;> omega, by rw [a2, a1]; split <;> omega⟩, fun s hs => ?_⟩
  by_cases q : s = (h 34 7).toNat
  · rw [q, (a3 h7).2]; exact vq
  · rw [a5 38 s (by omega) (by omega)]; exact s4 s (by omega)
theorem sg2_k (S : SG2 X h m) (e1 : ∀ cc x : Nat, (cc = 34 ∧ (x = 7 ∨ x = 8)) ∨ cc = 37 ∨ cc = 38 → g cc x = h cc x) (e2 : ∀ cc x : Nat, (cc = 160 ∧ (x = 50 ∨ x = 72)) ∨ cc = 196 ∨ cc = 197 → w cc x = m cc x) : SG2 X g w := by
  obtain ⟨s1, ⟨s2, s3⟩, s4⟩ := S
  exact ⟨sgv_k s1 (fun cc x z => e1 cc x (by omega)) (fun cc x z => e2 cc x (by omega)), ⟨by rw [e1 34 8 (by omega), e2 160 72 (by omega)]; exact s2, by rw [e1 34 7 (by omega), e1 34 8 (by omega)]; exact s3⟩, fun s hs => by rw [e1 34 7 (by omega)] at hs; rw [e1 38 s (by omega)]; exact s4 s hs⟩
/-- the making's parameters -/
theorem m_pars (Y : CXs X) (M : MTm X k j) {m2 : ms_M} (S0 : SG2 X h0 m2) {Z : ms_M → Prop} (T2 : ∀ cc x : Nat, (178 ≤ cc ∧ cc ≤ 195) → m2 cc x = bB X cc x) (C : CPR (pn_X X j) (pt_X X k j) (bB X 189 j).toNat h0 g) (s7 : h0 34 7 ≤ 10) (HK : ∀ m3, SG2 X g m3 → (∀ cc y : Nat, ¬ (cc = 160 ∧ (y = 50 ∨ y = 72)) → ¬ (cc = 196 ∨ cc = 197) → m3 cc y = m2 cc y) → Pc (rd_A 800 186 (j : Int) m3 fun v127 => mx_sv (qf_X13_textOf nn v127 m3) fun u129 => mx_sv (qf_X13_kindOf nn (j : Int) u129.2) fun u131 => rd_A 800 190 (j : Int) u131.2 fun v133 => mx_sv (qf_X13_make nn v133 u131.2) fun u135 => if u135.1 = 0 then (qj_X13_makeMethod_164 nn (j : Int) u129.1 u131.1 u135.2) else (mx_sv (qf_X13_put nn 177 u135.2) fun u137 => qj_X13_makeMethod_164 nn (j : Int) u129.1 u131.1 u137)) Z) : Pc (qw_X13_makeMethod_81 nn nn (j : Int) 0 m2) Z := by
  obtain ⟨-, MB, -, -, b188, vp⟩ := mt_row Y M
  have p6 := MB.2.2.1
  obtain ⟨f, f0, f1, f2⟩ := C
  have L : ∀ (fu i : Nat) (m : ms_M), (i : Int) ≤ bB X 189 j → SG2 X (f i) m → (∀ cc y : Nat, ¬ (cc = 160 ∧ (y = 50 ∨ y = 72)) → ¬ (cc = 196 ∨ cc = 197) → m cc y = m2 cc y) → Pc (qw_X13_makeMethod_81 nn fu (j : Int) (i : Int) m) Z := by
    intro fu
    induction fu with
    | zero => intro i m hi Si E; exact fun _ z => nomatch z
    | succ fu ih =>
      intro i m hi Si E
      have T : ∀ cc x : Nat, (178 ≤ cc ∧ cc ≤ 195) → m cc x = bB X cc x := fun cc x z => by rw [E cc x (by omega) (by omega)]; exact T2 cc x z
      obtain ⟨c7, -⟩ := cpr_f i h0 (f i) ⟨f, f0, rfl, fun t ht => f2 t (by omega)⟩
      unfold qw_X13_makeMethod_81
      refine pc_rA ?_; intro _ _ v125 e125
      rw [Int.toNat_natCast, T 189 _ (by omega)] at e125
      refine pc_if (fun z => ?_) (fun z => ?_)
      · rw [show i = (bB X 189 j).toNat by omega, f1] at Si
        exact HK m Si E
      · obtain ⟨p1, ⟨p2, p3, p4⟩, p5, -⟩ := MB.2.2.2.1 i (by omega)
        refine pc_rA ?_; intro _ _ v20 e20
        rw [Int.toNat_natCast, T 188 _ (by omega)] at e20
        refine pc_add (by omega) ?_; intro v21 e21
        refine pc_rA ?_; intro _ _ v22 e22
        rw [show v21.toNat = (bB X 188 j).toNat + i by omega, T 194 _ (by omega)] at e22
        refine pc_rA ?_; intro _ _ v25 e25
        rw [Int.toNat_natCast, T 188 _ (by omega)] at e25
        refine pc_add (by omega) ?_; intro v26 e26
        refine pc_rA ?_; intro _ _ v27 e27
        rw [show v26.toNat = (bB X 188 j).toNat + i by omega, T 195 _ (by omega), p4] at e27
        rw [e22, e27]
        have A := f2 i (by omega)
        have tk := M.2.2.2.2 i (by omega)
        have ec : bB X 194 ((bB X 188 j).toNat + i) = (((bB X 194 ((bB X 188 j).toNat + i)).toNat : Nat) : Int) := by omega
        refine pc_sv (P := fun u => SG2 X (f (i + 1)) u ∧ ∀ cc y : Nat, ¬ (cc = 160 ∧ (y = 50 ∨ y = 72)) → ¬ (cc = 196 ∨ cc = 197) → u cc y = m cc y) ?_ ?_
        · unfold qf_X13_comes
          refine pc_sv r_come ?_; intro u2' RC
          rw [ec] at RC
          refine pc_xl ?_; intro v5 e5
          refine pc_xl ?_; intro h6 e6
          refine pc_ret ⟨sg2_a Si A RC (by rw [e6, e5]) tk.2 (by omega) ⟨vp i (by omega), p5⟩, fun cc y z1 z2 => ?_⟩
          rw [e6, up_n (by omega)]; exact RC.2.2.2.2 cc y (by omega) (by omega)
        · intro u150 ⟨S2, E2⟩
          refine pc_add (by omega) ?_; intro v30 e30
          rw [show v30 = ((i + 1 : Nat) : Int) by omega]
          exact ih (i + 1) u150 (by omega) S2 (fun cc y z1 z2 => by rw [E2 cc y z1 z2]; exact E cc y z1 z2)
  exact L nn 0 m2 (by omega) (by rw [f0]; exact S0) (fun _ _ _ _ => rfl)
/-- nothing is made yet -/
theorem mke_begin (Y : CXs X) (S : SG2 X hB m) (P : (PLR hB m ∧ MBd m ∧ SPL m []) ∧ TXE (bK X) (bV X) (bC X) (bW X) (bn X) (bA X) (bB X) hB m) (z1 : hB 34 1 = 0 ∧ hB 34 3 = 0 ∧ hB 34 4 = 0 ∧ hB 34 10 = 0 ∧ hB 34 14 = 0 ∧ hB 34 15 = 0) (z2 : m 160 68 = 0 ∧ m 160 70 = 0 ∧ m 160 71 = 0 ∧ m 160 78 = 0 ∧ m 160 79 = 0 ∧ m 160 84 = 0 ∧ m 160 87 = 0) (m53 : m 160 53 = 1 - (bF X : Int)) (m52 : m 160 52 = bo X) (m9 : m 160 9 = 0) (m88 : 0 ≤ m 160 88) (MT : ∀ cc x : Nat, ((163 ≤ cc ∧ cc ≤ 173) ∨ cc = 177) → m cc x = bT X cc x) : MKe X hB m := by
  obtain ⟨S1, S2, S3⟩ := S
  obtain ⟨a1, a3, a4, a10, a14, a15⟩ := z1
  obtain ⟨b68, b70, b71, b78, b79, b84, b87⟩ := z2
  have ow := Y.2.2.2.1
  have n8 := Y.2.2.1
  have F1 : bF X = 0 ∨ bF X = 1 := by
    rcases S1.2.1 with y | y
    · exact .inl y
    · exact .inr y.1
  have FC : FRc hB := ⟨⟨by omega, by omega, fun s hs => absurd hs (by omega)⟩, fun i hi => absurd hi (by omega), fun i j _ hj => absurd hj (by omega), fun s hs => absurd hs (by omega)⟩
  have FR : FRr m := ⟨by omega, fun i j hi hj _ => absurd hi (by omega)⟩
  refine ⟨⟨⟨⟨by omega, by omega⟩, fun _ _ x hx _ => absurd hx (by omega)⟩, ⟨⟨by rw [b87]; rfl, fun k hk => absurd hk (Nat.not_lt_zero _)⟩, ⟨Nat.zero_le _, fun i hi => absurd hi (Nat.not_lt_zero _), fun i j _ hj => absurd hj (Nat.not_lt_zero _), m88⟩⟩, ⟨⟨FC, FR, by omega, by omega⟩, ⟨⟨by show m 160 78 + ((0 : Nat) : Int) ≤ _; omega, by omega⟩, fun p n z => z.elim⟩, fun _ => ⟨by show m 160 79 + 51 * ((0 : Nat) : Int) ≤ _; omega, .inl ⟨a15, fun k hk => absurd hk (by omega), fun f hf => absurd hf (by omega), fun p n z => z.elim⟩⟩⟩, ⟨S1, ⟨by omega, fun _ => by omega, fun z => absurd z (by omega), fun k hk => absurd hk (by omega)⟩, P.1, P.2, ⟨⟨S2.1, S2.2, S3⟩, ?_, ⟨?_, by omega, by omega⟩, m9, MT⟩⟩⟩, ⟨by omega, by omega, by omega, by omega⟩, fun i hi => absurd hi (by omega)⟩
  · rcases F1 with f | f
    · right; exact ⟨by rw [m53, f]; decide, f⟩
    · left; exact ⟨by rw [m53, f]; decide, f⟩
  · have c := ty_c (vtn_v n8 (show VTn (bn X) (bo X) from .inr (.inr (.inr (.inr (.inr (.inl (by omega))))))))
    omega
end

/- PARSE: CLASS, PROGRAM of both sides -/
/-- n members from m on, tokens [p, q), nodes [a, b); their parameters stand below N -/
def MML (K : Nat → Int) (T : ms_M) (N : Int) : Nat → Int → Int → Int → Int → Int → Prop
  | 0, _, p, q, a, b => q = p ∧ b = a
  | n + 1, m, p, q, a, b => ¬ K p.toNat = 43 ∧ ∃ p2 a2 : Int, (p < p2 ∧ a ≤ a2) ∧ RMB K T m p p2 a a2 ∧ (0 ≤ T 188 m.toNat ∧ 0 ≤ T 189 m.toNat ∧ T 188 m.toNat + T 189 m.toNat ≤ N) ∧ MML K T N n (m + 1) p2 q a2 b
/-- class k: tokens [p, q), n members from m on -/
def CLR (K : Nat → Int) (T : ms_M) (N : Int) (k : Int) (n : Nat) (m p q a b : Int) : Prop := (K p.toNat = 13 ∧ K (p + 1).toNat = 2 ∧ T 178 k.toNat = p + 1) ∧ ∃ s e : Int, ((K (p + 2).toNat = 16 ∧ K (p + 3).toNat = 2 ∧ T 179 k.toNat = p + 3 ∧ K (p + 4).toNat = 42 ∧ s = p + 5) ∨ (¬ K (p + 2).toNat = 16 ∧ T 179 k.toNat = -1 ∧ K (p + 2).toNat = 42 ∧ s = p + 3)) ∧ MML K T N n m s e a b ∧ (∀ i : Nat, m ≤ (i : Int) → (i : Int) < m + n → T 181 i = k) ∧ K e.toNat = 43 ∧ q = e + 1
def PGM (K : Nat → Int) (T : ms_M) (N : Int) : Nat → Int → Int → Int → Int → Int → Int → Int → Prop
  | 0, _, m, mE, p, q, a, b => q = p ∧ b = a ∧ mE = m
  | j + 1, k, m, mE, p, q, a, b => ∃ (n : Nat) (p2 a2 : Int), a ≤ a2 ∧ CLR K T N k n m p p2 a a2 ∧ PGM K T N j (k + 1) (m + n) mE p2 q a2 b
section
variable {nn : Nat} {K P : Nat → Int} {c p : Nat} {h g r w u v : ms_M}
theorem mml_ab {N : Int} : ∀ (n : Nat) (m p q a b : Int), MML K r N n m p q a b → a ≤ b ∧ p ≤ q := by
  intro n
  induction n with
  | zero => intro m p q a b H; obtain ⟨h1, h2⟩ := H; omega
  | succ n ih => intro m p q a b H; obtain ⟨-, p2, a2, h1, -, -, h4⟩ := H; have := ih _ _ _ _ _ h4; omega
/-- the rows of members and nodes that are there stay -/
theorem mml_k {T2 : ms_M} {N N2 : Int} (hN : N ≤ N2) : ∀ (n : Nat) (m p q a b : Int), 0 ≤ m → (∀ c j : Nat, 181 ≤ c → c ≤ 190 → ¬ c = 187 → m ≤ (j : Int) → (j : Int) < m + n → T2 c j = r c j) → (∀ c j : Nat, 191 ≤ c → c ≤ 194 → (j : Int) < N → T2 c j = r c j) → (∀ c x : Nat, 167 ≤ c → c ≤ 177 → ¬ c = 174 → a ≤ (x : Int) → (x : Int) < b → T2 c x = r c x) → MML K r N n m p q a b → MML K T2 N2 n m p q a b := by
  intro n
  induction n with
  | zero => intro m p q a b _ _ _ _ H; exact H
  | succ n ih =>
    intro m p q a b h0 F1 F2 F3 H
    obtain ⟨h1, p2, a2, h2, h3, h4, h5⟩ := H
    have ab := mml_ab _ _ _ _ _ _ h5
    have E : ∀ c : Nat, 181 ≤ c → c ≤ 190 → ¬ c = 187 → T2 c m.toNat = r c m.toNat := fun c c1 c2 c3 => F1 c m.toNat c1 c2 c3 (by omega) (by omega)
    refine ⟨h1, p2, a2, h2, rmb_k h4.1 E (fun c j c1 c2 c3 c4 => F2 c j c1 c2 (by omega)) (fun c x c1 c2 c3 c4 c5 => F3 c x c1 c2 c3 c4 (by omega)) h3, by rw [E 188 (by decide) (by decide) (by decide), E 189 (by decide) (by decide) (by decide)]; omega, ih (m + 1) p2 q a2 b (by omega) (fun c j c1 c2 c3 c4 c5 => F1 c j c1 c2 c3 (by omega) (by omega)) F2 (fun c x c1 c2 c3 c4 c5 => F3 c x c1 c2 c3 (by omega) c5) h5⟩
/-- what members leave as it was -/
def MFn (r v : ms_M) : Prop := (r 160 22 ≤ v 160 22 ∧ ∀ c x : Nat, 167 ≤ c → c ≤ 177 → (x : Int) < r 160 22 → v c x = r c x) ∧ (r 160 39 ≤ v 160 39 ∧ ∀ c j : Nat, 191 ≤ c → c ≤ 194 → (j : Int) < r 160 39 → v c j = r c j) ∧ (∀ c j : Nat, 178 ≤ c → c ≤ 190 → ¬ (181 ≤ c ∧ r 160 28 ≤ (j : Int)) → v c j = r c j) ∧ v 160 24 = r 160 24 ∧ r 160 28 ≤ v 160 28
/-- the members of a class, to its } -/
theorem j_47 (BK : TBn K c) {qk : ms_M → Option ms_M} {Z : ms_M → ms_M → Prop} (HF : ∀ z : ms_M, ¬ z 160 9 = 0 → Pc (qk z) (fun u => FSr z u)) (HS : ∀ u V, SFj u V → Z u V) : ∀ (f k q : Nat) (h r : ms_M) (t : Int), JPp K P c q h r → 0 ≤ r 160 22 → 0 ≤ r 160 28 → 0 ≤ r 160 39 → (1 ≤ r 160 24 ∧ r 160 24 ≤ 1000) → (0 ≤ t ∧ t < (q : Int)) → (∀ (u v : ms_M) (e n : Nat), JPp K P c (e + 1) u v → q ≤ e → K e = 43 → MML K v (v 160 39) n (r 160 28) (q : Int) (e : Int) (r 160 22) (v 160 22) → (∀ i : Nat, r 160 28 ≤ (i : Int) → (i : Int) < r 160 28 + n → v 181 i = r 160 24 - 1) → v 160 28 = r 160 28 + n → MFn r v → Pc (rd_A 3008 163 (v 160 23) v fun v6 => if ¬ v6 = 5 then (qk v) else (some v)) (fun V => Z u V)) → Pc (qw_X8_readClass_47 nn f t h) (fun u => Pc (qw_X13_program_116 nn qk k r) (fun V => Z u V)) := by
  have n3 := BK.2.1
  intro f
  induction f with
  | zero => intros; exact pc_none
  | succ f ih =>
    intro k q h r t J hr hm h39 h24 ht HO
    cases k with
    | zero => exact fun _ _ => pc_none
    | succ k =>
      have J0 := J
      obtain ⟨b, d, ⟨g1, g2, g3⟩, g4, g5⟩ := J
      unfold qw_X8_readClass_47 qw_X13_program_116
      refine pc_if (fun z => absurd z (by omega)) (fun _ => ?_)
      refine pc_if (fun z => absurd g4 z) (fun _ => ?_)
      refine pc_sv (c_kind BK b g3 g1 g4) ?_; intro u7 q7
      refine pc_fl ?_
      refine pc_if (fun z => absurd g5 z) (fun _ => ?_)
      rw [g2]
      refine pc_sv (r_sgn BK d rfl (by omega) (k := 43) (by decide) (by decide)) ?_; intro u12 q12
      refine pc_fl ?_
      by_cases k43 : K q = 43
      · refine pc_if (fun _ => ?_) (fun z => absurd (by omega) z)
        refine pc_fl ?_
        refine pc_if (fun _ => ?_) (fun z => absurd (by omega) z)
        refine pc_fl ?_
        unfold qj_X8_readClass_86 qj_X13_program_143
        refine p2_sv (j_need BK J0 (k := 43) (by decide) (by decide)) ?_; intro u2 w2 q2
        refine pc_ret ?_
        rcases q2 with ⟨-, m2, J2⟩ | S
        · refine pc_if (fun z => absurd J2.2.2.2.2 z) (fun _ => ?_)
          have a2 : ∀ c x : Nat, ¬ (c = 160 ∧ x = 23) → w2 c x = r c x := fun c x z => by rw [m2]; exact up_n z
          refine HO u2 w2 q 0 J2 (by omega) k43 ⟨rfl, a2 160 22 (by omega)⟩ (fun i i1 i2 => by omega) (by rw [a2 160 28 (by omega)]; omega) ⟨⟨by rw [a2 160 22 (by omega)]; omega, fun c x c1 c2 c3 => a2 c x (by omega)⟩, ⟨by rw [a2 160 39 (by omega)]; omega, fun c x c1 c2 c3 => a2 c x (by omega)⟩, fun c j c1 c2 c3 => a2 c j (by omega), a2 160 24 (by omega), by rw [a2 160 28 (by omega)]; omega⟩
        · exact pc_if (fun _ => pc_ret (HS _ _ S)) (fun z => absurd (Decidable.not_not.1 z) (sf_r S))
      · refine pc_if (fun z => absurd z (by omega)) (fun _ => ?_)
        refine pc_fl ?_
        refine pc_if (fun z => absurd z (by omega)) (fun _ => ?_)
        refine pc_fl ?_
        refine p2_sv (j_member BK J0 hr hm h39 h24) ?_; intro u9 u14 q14
        rcases q14 with S | ⟨q1, ⟨J1, pq⟩, RM, ⟨a1, a2, a3, a4⟩, ⟨⟨b1, b2⟩, ⟨b3, b4⟩, b5, b6, b7⟩⟩
        · refine pj_sf (o := fun a => a) (q := fun b => b) S ?_ (ft_qw_X13_program_116 (fun z0 S => HF z0 S) _ _ (sf_r S)) (fun a b s => HS a b s)
          have S1 : ¬ u9 2 11 = 0 := S.1
          have F : FSc u9 u9 := fs_r
          refine pc_xl ?_; intro v10 _
          exact pc_imp (fs_qw_X8_readClass_47 _ _ _ (fs_n S1 F)) (fun _ q => fs_t F q)
        · refine pc_add (by omega) ?_; intro v10 e10
          refine ih k q1 u9 u14 v10 J1 (by omega) (by omega) (by omega) (by omega) (by omega) (fun u v e n Je qe k43e ML M1 n28 MF => ?_)
          obtain ⟨⟨c1, c2⟩, ⟨c3, c4⟩, c5, c6, c7⟩ := MF
          have E : ∀ cc : Nat, 181 ≤ cc → cc ≤ 190 → v cc (r 160 28).toNat = u14 cc (r 160 28).toNat := fun cc y1 y2 => c5 cc _ (by omega) y2 (by omega)
          have RM2 : RMB K v (r 160 28) (q : Int) (q1 : Int) (r 160 22) (u14 160 22) := rmb_k (by rw [a2]; exact h39) (fun cc y1 y2 _ => E cc y1 y2) (fun cc j y1 y2 y3 y4 => c4 cc j y1 y2 (by omega)) (fun cc x y1 y2 _ y3 y4 => c2 cc x y1 y2 y4) RM
          refine HO u v e (n + 1) Je (by omega) k43e ⟨by rw [Int.toNat_natCast]; exact k43, (q1 : Int), u14 160 22, ⟨by omega, b1⟩, RM2, by rw [E 188 (by decide) (by decide), E 189 (by decide) (by decide)]; omega, by rw [← b7]; exact ML⟩ (fun i i1 i2 => ?_) (by omega) ⟨⟨by omega, fun cc x y1 y2 y3 => by rw [c2 cc x y1 y2 (by omega)]; exact b2 cc x y1 y2 y3⟩, ⟨by omega, fun cc x y1 y2 y3 => by rw [c4 cc x y1 y2 (by omega)]; exact b4 cc x y1 y2 y3⟩, fun cc j y1 y2 y3 => by rw [c5 cc j y1 y2 (by omega)]; exact b5 cc j y1 y2 (by omega), by omega, by omega⟩
          by_cases z : (i : Int) = r 160 28
          · rw [show i = (r 160 28).toNat by omega, E 181 (by decide) (by decide)]; exact a1
          · rw [M1 i (by omega) (by omega), b6]
end

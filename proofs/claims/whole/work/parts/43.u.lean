/- PARSE: CLASS AND PROGRAM of both sides -/
/-- the tokens' places rise; 'class' and a name behind it take six bytes at least -/
def GPo (K P : Nat → Int) (c : Nat) : Prop := 0 ≤ P 0 ∧ (∀ i : Nat, i + 1 < c → P i + 1 ≤ P (i + 1) ∧ (K i = 13 → K (i + 1) = 2 → P i + 6 ≤ P (i + 1))) ∧ ∀ i : Nat, i < c → P i ≤ 3000
/-- what classes leave as it was -/
def PFg (r v : ms_M) : Prop := (r 160 22 ≤ v 160 22 ∧ ∀ c x : Nat, 167 ≤ c → c ≤ 177 → (x : Int) < r 160 22 → v c x = r c x) ∧ (r 160 39 ≤ v 160 39 ∧ ∀ c j : Nat, 191 ≤ c → c ≤ 194 → (j : Int) < r 160 39 → v c j = r c j) ∧ (r 160 24 ≤ v 160 24 ∧ ∀ c j : Nat, 178 ≤ c → c ≤ 180 → (j : Int) < r 160 24 → v c j = r c j) ∧ r 160 28 ≤ v 160 28 ∧ ∀ c j : Nat, 181 ≤ c → c ≤ 190 → (j : Int) < r 160 28 → v c j = r c j
/-- the classes from number k on -/
def JPg (K P : Nat → Int) (c k p : Nat) (h r u v : ms_M) : Prop := SFj u v ∨ ∃ (j q : Nat), (JPp K P c q u v ∧ K q = 0 ∧ p < q) ∧ PGM K v (v 160 39) j (k : Int) (r 160 28) (v 160 28) (p : Int) (q : Int) (r 160 22) (v 160 22) ∧ (1 ≤ j ∧ v 160 24 = (k : Int) + j ∧ u 11 2 = (k : Int) + j ∧ k + j ≤ 334) ∧ (∀ i : Nat, k ≤ i → i < k + j → u 15 i = v 178 i) ∧ (∀ c x : Nat, ¬ c = 2 → ¬ (c = 11 ∧ x = 2) → ¬ (c = 15 ∧ k ≤ x) → u c x = h c x) ∧ PFg r v
section
variable {nn : Nat} {K P : Nat → Int} {c p : Nat} {h g r w u v : ms_M}
theorem gpo_a (G : GPo K P c) : ∀ d i : Nat, i + d < c → P i + (d : Int) ≤ P (i + d) := by
  intro d
  induction d with
  | zero => intro i _; show P i + ((0 : Nat) : Int) ≤ P i; omega
  | succ d ih =>
    intro i hi
    have a := ih i (by omega)
    have b := (G.2.1 (i + d) (by omega)).1
    rw [show i + (d + 1) = i + d + 1 by omega]
    omega
theorem nw_2 {c k : Nat} (z : ¬ c = 2) : nw_F [] [(2, 10), (2, 11), (2, 12)] false false c k = true := by
  simp [nw_F, z]
theorem fz_47 : ∀ (k : Nat) {l1 : Int} {h : ms_M}, Fm_ (fun c _ => ¬ c = 2) h (qw_X8_readClass_47 nn k l1 h) (fun r => r) := by
  have A : ∀ {h : ms_M}, Fm_ (fun c _ => ¬ c = 2) h (qj_X8_readClass_86 nn h) (fun r => r) := by
    intro h
    unfold qj_X8_readClass_86
    refine fm_ca (fun _ _ _ => rfl) (ff_X8_need nn) (fun c k z => nw_2 z) ?_; intro u2 F_u2
    exact fm_ret F_u2
  intro k
  induction k with
  | zero => intros; exact fm_no
  | succ k ih =>
    intro l1 h
    unfold qw_X8_readClass_47
    have F_h : ∀ c k : Nat, (fun (c _ : Nat) => ¬ c = 2) c k → h c k = h c k := fun _ _ _ => rfl
    refine fm_if A (fm_if A ?_)
    refine fm_pu ?_; intro u7
    refine fm_if A ?_
    refine fm_ca F_h (ff_X8_readMember nn) (fun c k z => nw_2 z) ?_; intro u9 F_u9
    refine fm_xl ?_; intro v10
    exact fm_tl F_u9 ih (fun _ _ z => z)
theorem clr_k {T2 : ms_M} {N N2 k : Int} {n : Nat} {m p q a b : Int} (hN : N ≤ N2) (h0 : 0 ≤ m) (F0 : T2 178 k.toNat = r 178 k.toNat ∧ T2 179 k.toNat = r 179 k.toNat) (F1 : ∀ c j : Nat, 181 ≤ c → c ≤ 190 → ¬ c = 187 → m ≤ (j : Int) → (j : Int) < m + n → T2 c j = r c j) (F2 : ∀ c j : Nat, 191 ≤ c → c ≤ 194 → (j : Int) < N → T2 c j = r c j) (F3 : ∀ c x : Nat, 167 ≤ c → c ≤ 177 → ¬ c = 174 → a ≤ (x : Int) → (x : Int) < b → T2 c x = r c x) (H : CLR K r N k n m p q a b) : CLR K T2 N2 k n m p q a b := by
  obtain ⟨⟨h1, h2, h3⟩, s, e, h4, h5, h6, h7⟩ := H
  exact ⟨⟨h1, h2, by rw [F0.1]; exact h3⟩, s, e, by rw [F0.2]; exact h4, mml_k hN n m s e a b h0 F1 F2 F3 h5, fun i i1 i2 => by rw [F1 181 i (by decide) (by decide) (by decide) i1 i2]; exact h6 i i1 i2, h7⟩
theorem pfg_k {r1 : ms_M} (F : ∀ c x : Nat, ¬ (c = 160 ∧ x = 23) → r1 c x = r c x) (H : PFg r1 v) : PFg r v := by
  obtain ⟨⟨a1, a2⟩, ⟨a3, a4⟩, ⟨a5, a6⟩, a7, a8⟩ := H
  rw [F 160 22 (by omega)] at a1 a2
  rw [F 160 39 (by omega)] at a3 a4
  rw [F 160 24 (by omega)] at a5 a6
  rw [F 160 28 (by omega)] at a7 a8
  exact ⟨⟨a1, fun c x c1 c2 c3 => by rw [a2 c x c1 c2 c3]; exact F c x (by omega)⟩, ⟨a3, fun c x c1 c2 c3 => by rw [a4 c x c1 c2 c3]; exact F c x (by omega)⟩, ⟨a5, fun c x c1 c2 c3 => by rw [a6 c x c1 c2 c3]; exact F c x (by omega)⟩, a7, fun c x c1 c2 c3 => by rw [a8 c x c1 c2 c3]; exact F c x (by omega)⟩
/-- behind a class's head -/
theorem j_72c (BK : TBn K c) {qk : ms_M → Option ms_M} {Z : ms_M → ms_M → Prop} (HF : ∀ z : ms_M, ¬ z 160 9 = 0 → Pc (qk z) (fun u => FSr z u)) (HS : ∀ u V, SFj u V → Z u V) {s k : Nat} {l1 l2 : Int} (J : JPp K P c s h r) (hr : 0 ≤ r 160 22) (hm : 0 ≤ r 160 28) (h39 : 0 ≤ r 160 39) (hk : r 160 24 = (k : Int) ∧ k ≤ 333) (HO : ∀ (u v : ms_M) (e n : Nat), JPp K P c (e + 1) u v → s + 1 ≤ e → K s = 42 → K e = 43 → MML K v (v 160 39) n (r 160 28) ((s + 1 : Nat) : Int) (e : Int) (r 160 22) (v 160 22) → (∀ i : Nat, r 160 28 ≤ (i : Int) → (i : Int) < r 160 28 + n → v 181 i = (k : Int)) → v 160 28 = r 160 28 + n → (v 178 k = l1 ∧ v 179 k = l2 ∧ v 160 24 = (k : Int) + 1) → PFg r v → (∀ c x : Nat, ¬ c = 2 → u c x = h c x) → Pc (rd_A 3008 163 (v 160 23) v fun v6 => if ¬ v6 = 5 then (qk v) else (some v)) (fun V => Z u V)) : Pc (qj_X8_readClass_39 nn h) (fun u => Pc (qj_X13_program_72 nn qk l1 l2 r) (fun V => Z u V)) := by
  have n3 := BK.2.1
  have J0 := J
  obtain ⟨b, d, ⟨g1, g2, g3⟩, g4, g5⟩ := J
  unfold qj_X8_readClass_39 qj_X13_program_72
  refine pc_fl ?_
  refine pc_if (fun _ => ?_) (fun z => absurd g5 z)
  rw [hk.1]
  refine pc_wA ?_; intro i1 i2 h20 e20
  have f20 : h20 160 24 = (k : Int) := by rw [e20, up_n (by omega)]; exact hk.1
  rw [f20]
  refine pc_wA ?_; intro i3 i4 h23 e23
  have f23 : h23 160 24 = (k : Int) := by rw [e23, up_n (by omega)]; exact f20
  rw [f23]
  refine pc_add (by omega) ?_; intro v25 e25
  refine pc_xl ?_; intro h26 e26
  have A : ∀ c x : Nat, ¬ ((c = 178 ∨ c = 179) ∧ x = k) → ¬ (c = 160 ∧ x = 24) → h26 c x = r c x := fun c x z1 z2 => by rw [e26, up_n (by omega), e23, up_n (by omega), e20, up_n (by omega)]
  have A1 : h26 178 k = l1 := by rw [e26, up_n (by omega), e23, up_n (by omega), e20, Int.toNat_natCast, up_s]
  have A2 : h26 179 k = l2 := by rw [e26, up_n (by omega), e23, Int.toNat_natCast, up_s]
  have A3 : h26 160 24 = (k : Int) + 1 := by rw [e26, up_s]; exact e25
  have J26 : JPp K P c s h h26 := jp_r J0 (fun c x z => A c x (by omega) (by omega))
  refine pc_fl ?_
  refine p2_sv (R := fun u v => ((K s = 42 ∧ v = up_M h26 160 23 ((s + 1 : Nat) : Int) ∧ JPp K P c (s + 1) u v) ∨ SFj u v) ∧ ∀ cc x : Nat, ¬ cc = 2 → u cc x = h cc x) (fun u eu v ev => ⟨j_need BK J26 (k := 42) (by decide) (by decide) u eu v ev, fun cc x z => ff_X8_need nn u eu cc x (nw_2 z)⟩) ?_; intro u15 u28 q28
  obtain ⟨q28, f15⟩ := q28
  rcases q28 with ⟨k42, m28, J28⟩ | S
  · have B : ∀ c x : Nat, ¬ (c = 160 ∧ x = 23) → u28 c x = h26 c x := fun c x z => by rw [m28]; exact up_n z
    have C28 : u28 160 28 = r 160 28 := by rw [B 160 28 (by omega), A 160 28 (by omega) (by omega)]
    have C22 : u28 160 22 = r 160 22 := by rw [B 160 22 (by omega), A 160 22 (by omega) (by omega)]
    have C39 : u28 160 39 = r 160 39 := by rw [B 160 39 (by omega), A 160 39 (by omega) (by omega)]
    have C24 : u28 160 24 = (k : Int) + 1 := by rw [B 160 24 (by omega)]; exact A3
    refine (fun U eU V eV => ?_)
    refine j_47 (Z := fun u V => (∀ c x : Nat, ¬ c = 2 → u c x = u15 c x) → Z u V) BK HF (fun u V S _ => HS u V S) nn nn (s + 1) u15 u28 0 J28 (by omega) (by omega) (by omega) (by omega) (by omega) (fun u v e n Je qe k43 ML M1 n28 MF V eV fr => ?_) U eU V eV (fun cc x z => fz_47 nn U eU cc x z)
    obtain ⟨⟨c1, c2⟩, ⟨c3, c4⟩, c5, c6, c7⟩ := MF
    rw [C22] at ML c1 c2
    rw [C28] at ML M1 n28 c5 c7
    rw [C39] at c3 c4
    exact HO u v e n Je qe k42 k43 ML (fun i y1 y2 => by rw [M1 i y1 y2, C24]; omega) n28 ⟨by rw [c5 178 k (by decide) (by decide) (by omega), B 178 k (by omega)]; exact A1, by rw [c5 179 k (by decide) (by decide) (by omega), B 179 k (by omega)]; exact A2, by rw [c6]; exact C24⟩ ⟨⟨c1, fun cc x y1 y2 y3 => by rw [c2 cc x y1 y2 y3, B cc x (by omega), A cc x (by omega) (by omega)]⟩, ⟨c3, fun cc x y1 y2 y3 => by rw [c4 cc x y1 y2 y3, B cc x (by omega), A cc x (by omega) (by omega)]⟩, ⟨by omega, fun cc x y1 y2 y3 => by rw [c5 cc x y1 (by omega) (by omega), B cc x (by omega), A cc x (by omega) (by omega)]⟩, c7, fun cc x y1 y2 y3 => by rw [c5 cc x (by omega) y2 (by omega), B cc x (by omega), A cc x (by omega) (by omega)]⟩ (fun cc x z => by rw [fr cc x z, f15 cc x z]) V eV
  · exact pj_sf (o := fun a => a) (q := fun b => b) S (fs_qw_X8_readClass_47 _ _ _ S.1) (ft_qw_X13_program_116 (fun z0 S => HF z0 S) _ _ (sf_r S)) (fun a b s => HS a b s)
/-- a class of both sides -/
theorem j_class (BK : TBn K c) (GP : GPo K P c) {f : Nat} {Z : ms_M → ms_M → Prop} (HS : ∀ u V, SFj u V → Z u V) {k : Nat} (J : JPp K P c p h r) (hr : 0 ≤ r 160 22) (hm : 0 ≤ r 160 28) (h39 : 0 ≤ r 160 39) (hk : r 160 24 = (k : Int) ∧ h 11 2 = (k : Int)) (hP : 9 * (k : Int) ≤ P p) (HO : ∀ (u v : ms_M) (q n : Nat), JPp K P c q u v → p < q → CLR K v (v 160 39) (k : Int) n (r 160 28) (p : Int) (q : Int) (r 160 22) (v 160 22) → v 160 28 = r 160 28 + n → v 160 24 = (k : Int) + 1 → PFg r v → (u 11 2 = (k : Int) + 1 ∧ u 15 k = v 178 k) → (∀ c x : Nat, ¬ c = 2 → ¬ (c = 11 ∧ x = 2) → ¬ (c = 15 ∧ x = k) → u c x = h c x) → 9 * ((k : Int) + 1) ≤ P q → Pc (rd_A 3008 163 (v 160 23) v fun v6 => if ¬ v6 = 5 then (qw_X13_program_25 nn f v) else (some v)) (fun V => Z u V)) : Pc (qf_X8_readClass nn h) (fun u => Pc (qw_X13_program_25 nn (f + 1) r) (fun V => Z u V)) := by
  have n3 := BK.2.1
  have pc3 := J.2.2.1.2.2
  have k333 : k ≤ 333 := by have := GP.2.2 p pc3; omega
  unfold qf_X8_readClass qw_X13_program_25
  refine p2_sv (R := fun u v => ((K p = 13 ∧ v = up_M r 160 23 ((p + 1 : Nat) : Int) ∧ JPp K P c (p + 1) u v) ∨ SFj u v) ∧ ∀ cc x : Nat, ¬ cc = 2 → u cc x = h cc x) (fun u eu v ev => ⟨j_word BK J (k := 13) (y := 3) (by decide) (by decide) u eu v ev, fun cc x z => ff_X8_need nn u eu cc x (nw_2 z)⟩) ?_; intro u17 u31 q31
  obtain ⟨q31, f17⟩ := q31
  have HQ : ∀ z : ms_M, ¬ z 160 9 = 0 → Pc (qw_X13_program_25 nn f z) (fun u => FSr z u) := fun z S => ft_qw_X13_program_25 f z S
  rcases q31 with ⟨k13, m31, J31⟩ | S
  · have B31 : ∀ c x : Nat, ¬ (c = 160 ∧ x = 23) → u31 c x = r c x := fun c x z => by rw [m31]; exact up_n z
    have t17 := J31.2.2.1.1
    have t11 : u17 11 2 = (k : Int) := by rw [f17 11 2 (by decide)]; exact hk.2
    rw [t17]
    -- the class's row
    have AC : Pc (qf_X2_addClass nn ((p + 1 : Nat) : Int) u17) (fun u => u = up_M (up_M u17 15 k ((p + 1 : Nat) : Int)) 11 2 ((k : Int) + 1)) := by
      unfold qf_X2_addClass
      rw [t11]
      refine pc_if (fun z => absurd z (by omega)) (fun _ => ?_)
      refine pc_wA ?_; intro i1 i2 h6 e6
      have f6 : h6 11 2 = (k : Int) := by rw [e6, up_n (by omega)]; exact t11
      rw [f6]
      refine pc_add (by omega) ?_; intro v8 e8
      refine pc_xl ?_; intro h9 e9
      refine pc_ret ?_
      rw [e9, e8, e6, Int.toNat_natCast]
    refine pc_sv AC ?_; intro u22 e22
    have F22 : ∀ cc x : Nat, ¬ (cc = 15 ∧ x = k) → ¬ (cc = 11 ∧ x = 2) → u22 cc x = u17 cc x := fun cc x z1 z2 => by rw [e22, up_n z2, up_n z1]
    have G22 : u22 11 2 = (k : Int) + 1 ∧ u22 15 k = ((p + 1 : Nat) : Int) := ⟨by rw [e22, up_s], by rw [e22, up_n (by omega), up_s]⟩
    have J22 : JPp K P c (p + 1) u22 u31 := by
      obtain ⟨⟨y1, y2⟩, y3, ⟨y4, y5, y6⟩, y7, y8⟩ := J31
      exact ⟨⟨by rw [F22 2 3 (by omega) (by omega)]; exact y1, fun i hi => by rw [F22 3 i (by omega) (by omega), F22 4 i (by omega) (by omega)]; exact y2 i hi⟩, y3, ⟨by rw [F22 2 10 (by omega) (by omega)]; exact y4, y5, y6⟩, by rw [F22 2 11 (by omega) (by omega)]; exact y7, y8⟩
    refine p2_sv (R := fun u v => ((K (p + 1) = 2 ∧ v = (((p + 1 : Nat) : Int), up_M u31 160 23 ((p + 1 + 1 : Nat) : Int)) ∧ JPp K P c (p + 1 + 1) u v.2) ∨ SFj u v.2) ∧ ∀ cc x : Nat, ¬ cc = 2 → u cc x = u22 cc x) (fun u eu v ev => ⟨j_name BK J22 u eu v ev, fun cc x z => ff_X8_need nn u eu cc x (nw_2 z)⟩) ?_; intro u24 u33 q33
    obtain ⟨q33, f24⟩ := q33
    rcases q33 with ⟨k2, m33, J33⟩ | S
    · have B33 : ∀ c x : Nat, ¬ (c = 160 ∧ x = 23) → u33.2 c x = u31 c x := fun c x z => by rw [m33]; exact up_n z
      have l33 : u33.1 = ((p + 1 : Nat) : Int) := by rw [m33]
      rw [l33]
      have J33' := J33
      obtain ⟨b, d, ⟨g1, g2, g3⟩, g4, g5⟩ := J33'
      have p6 : P p + 6 ≤ P (p + 1) := (GP.2.1 p J31.2.2.1.2.2).2 k13 k2
      refine pc_fl ?_
      refine pc_if (fun z => absurd g5 z) (fun _ => ?_)
      rw [g2]
      refine pc_sv (r_wrd BK d rfl (by omega) (by decide)) ?_; intro u37 q37
      refine pc_fl ?_
      refine pc_sv (c_acc BK b g3 g1 g4) ?_; intro u26 q26
      refine pc_fl ?_
      rcases q26 with ⟨k16, m26⟩ | ⟨k16, m26⟩
      · -- extends
        refine pc_if (fun z => absurd z (by omega)) (fun _ => ?_)
        refine pc_add (by omega) ?_; intro v39 e39
        refine pc_xl ?_; intro h40 e40
        rw [show v39 = ((p + 1 + 1 + 1 : Nat) : Int) by omega] at e40
        refine pc_fl ?_
        rw [m26]
        dsimp only
        refine pc_if (fun z => absurd z (by decide)) (fun _ => ?_)
        have J40 : JPp K P c (p + 1 + 1 + 1) (up_M u24 2 10 ((p + 1 + 1 + 1 : Nat) : Int)) h40 := by rw [e40]; exact jp_up BK J33 (jp_lt BK g3 (by rw [k16]; decide))
        refine p2_sv (R := fun u v => ((K (p + 1 + 1 + 1) = 2 ∧ v = (((p + 1 + 1 + 1 : Nat) : Int), up_M h40 160 23 ((p + 1 + 1 + 1 + 1 : Nat) : Int)) ∧ JPp K P c (p + 1 + 1 + 1 + 1) u v.2) ∨ SFj u v.2) ∧ ∀ cc x : Nat, ¬ cc = 2 → u cc x = u24 cc x) (fun u eu v ev => ⟨j_name BK J40 u eu v ev, fun cc x z => (show u cc x = up_M u24 2 10 ((p + 1 + 1 + 1 : Nat) : Int) cc x from ff_X8_need nn u eu cc x (nw_2 z)).trans (up_n (by omega))⟩) ?_; intro u28 u42 q42
        obtain ⟨q42, f28⟩ := q42
        rcases q42 with ⟨k2b, m42, J42⟩ | S
        · have B42 : ∀ c x : Nat, ¬ (c = 160 ∧ x = 23) → u42.2 c x = r c x := fun c x z => by rw [m42]; dsimp only; rw [up_n z, e40, up_n z, B33 c x z, B31 c x z]
          have l42 : u42.1 = ((p + 1 + 1 + 1 : Nat) : Int) := by rw [m42]
          rw [l42]
          refine j_72c (k := k) BK HQ HS J42 (by rw [B42 160 22 (by omega)]; exact hr) (by rw [B42 160 28 (by omega)]; exact hm) (by rw [B42 160 39 (by omega)]; exact h39) ⟨by rw [B42 160 24 (by omega)]; exact hk.1, k333⟩ (fun u v e n Je se k42 k43 ML M1 n28 TT PF fr => ?_)
          rw [B42 160 28 (by omega)] at ML M1 n28
          rw [B42 160 22 (by omega)] at ML
          have qc := Je.2.2.1.2.2
          have g := gpo_a GP (e + 1 - (p + 1)) (p + 1) (by omega)
          rw [show p + 1 + (e + 1 - (p + 1)) = e + 1 by omega] at g
          refine HO u v (e + 1) n Je (by omega) ⟨⟨by rw [Int.toNat_natCast]; exact k13, by rw [show ((p : Int) + 1).toNat = p + 1 by omega]; exact k2, by rw [Int.toNat_natCast, TT.1]; omega⟩, (p : Int) + 5, (e : Int), .inl ⟨by rw [show ((p : Int) + 2).toNat = p + 1 + 1 by omega]; exact k16, by rw [show ((p : Int) + 3).toNat = p + 1 + 1 + 1 by omega]; exact k2b, by rw [Int.toNat_natCast, TT.2.1]; omega, by rw [show ((p : Int) + 4).toNat = p + 1 + 1 + 1 + 1 by omega]; exact k42, rfl⟩, by rw [show (p : Int) + 5 = ((p + 1 + 1 + 1 + 1 + 1 : Nat) : Int) by omega]; exact ML, M1, by rw [Int.toNat_natCast]; exact k43, by omega⟩ n28 TT.2.2 (pfg_k B42 PF) ⟨by rw [fr 11 2 (by decide), f28 11 2 (by decide), f24 11 2 (by decide)]; exact G22.1, by rw [fr 15 k (by decide), f28 15 k (by decide), f24 15 k (by decide), TT.1]; exact G22.2⟩ (fun cc x z1 z2 z3 => by rw [fr cc x z1, f28 cc x z1, f24 cc x z1, F22 cc x z3 z2, f17 cc x z1]) (by omega)
        · exact pj_sf (o := fun a => a) (q := fun b => b) S (fs_qj_X8_readClass_39 S.1) (ft_qj_X13_program_72 HQ (sf_r S)) (fun a b s => HS a b s)
      · refine pc_if (fun _ => ?_) (fun z => absurd (by omega) z)
        refine pc_fl ?_
        rw [m26]
        dsimp only
        refine pc_if (fun _ => ?_) (fun z => absurd rfl z)
        have B42 : ∀ c x : Nat, ¬ (c = 160 ∧ x = 23) → u33.2 c x = r c x := fun c x z => by rw [B33 c x z, B31 c x z]
        refine j_72c (k := k) BK HQ HS J33 (by rw [B42 160 22 (by omega)]; exact hr) (by rw [B42 160 28 (by omega)]; exact hm) (by rw [B42 160 39 (by omega)]; exact h39) ⟨by rw [B42 160 24 (by omega)]; exact hk.1, k333⟩ (fun u v e n Je se k42 k43 ML M1 n28 TT PF fr => ?_)
        rw [B42 160 28 (by omega)] at ML M1 n28
        rw [B42 160 22 (by omega)] at ML
        have qc := Je.2.2.1.2.2
        have g := gpo_a GP (e + 1 - (p + 1)) (p + 1) (by omega)
        rw [show p + 1 + (e + 1 - (p + 1)) = e + 1 by omega] at g
        refine HO u v (e + 1) n Je (by omega) ⟨⟨by rw [Int.toNat_natCast]; exact k13, by rw [show ((p : Int) + 1).toNat = p + 1 by omega]; exact k2, by rw [Int.toNat_natCast, TT.1]; omega⟩, (p : Int) + 3, (e : Int), .inr ⟨by rw [show ((p : Int) + 2).toNat = p + 1 + 1 by omega]; exact k16, by rw [Int.toNat_natCast]; exact TT.2.1, by rw [show ((p : Int) + 2).toNat = p + 1 + 1 by omega]; exact k42, rfl⟩, by rw [show (p : Int) + 3 = ((p + 1 + 1 + 1 : Nat) : Int) by omega]; exact ML, M1, by rw [Int.toNat_natCast]; exact k43, by omega⟩ n28 TT.2.2 (pfg_k B42 PF) ⟨by rw [fr 11 2 (by decide), f24 11 2 (by decide)]; exact G22.1, by rw [fr 15 k (by decide), f24 15 k (by decide), TT.1]; exact G22.2⟩ (fun cc x z1 z2 z3 => by rw [fr cc x z1, f24 cc x z1, F22 cc x z3 z2, f17 cc x z1]) (by omega)
    · refine pj_sf (o := fun a => a) (q := fun b => b) S ?_ ?_ (fun a b s => HS a b s)
      · have S1 : ¬ u24 2 11 = 0 := S.1
        have F : FSc u24 u24 := fs_r
        refine pc_sv (fs_qf_X8_accept (fs_n S1 F)) ?_; intro u26 Qu26
        have Fu26 : FSc u24 u26.2 := fs_t F Qu26
        refine pc_if (fun _ => ?_) (fun _ => ?_)
        · exact pc_imp (fs_qj_X8_readClass_39 (fs_n S1 Fu26)) (fun _ q => fs_t Fu26 q)
        · refine pc_sv (fs_qf_X8_need (fs_n S1 Fu26)) ?_; intro u28 Qu28
          have Fu28 : FSc u24 u28 := fs_t Fu26 Qu28
          exact pc_imp (fs_qj_X8_readClass_39 (fs_n S1 Fu28)) (fun _ q => fs_t Fu28 q)
      · have S1 : ¬ u33.2 160 9 = 0 := sf_r S
        have F : FSr u33.2 u33.2 := ft_r
        refine pc_if (fun _ => ?_) (fun _ => ?_)
        · exact pc_imp (ft_qj_X13_program_72 (fun _ S => ft_qw_X13_program_25 _ _ S) (ft_n S1 F)) (fun _ q => ft_t F q)
        · refine pc_se ?_; intro u37 _
          refine pc_if (fun _ => ?_) (fun _ => ?_)
          · exact pc_imp (ft_qj_X13_program_72 (fun _ S => ft_qw_X13_program_25 _ _ S) (ft_n S1 F)) (fun _ q => ft_t F q)
          · refine pc_xl ?_; intro v39 _
            refine pc_xl ?_; intro h40 Eh40
            have Fh40 : FSr u33.2 h40 := by rw [Eh40]; exact ft_u F (by omega)
            refine pc_sv (ft_qf_X13_name (ft_n S1 Fh40)) ?_; intro u42 Qu42
            have Fu42 : FSr u33.2 u42.2 := ft_t Fh40 Qu42
            exact pc_imp (ft_qj_X13_program_72 (fun _ S => ft_qw_X13_program_25 _ _ S) (ft_n S1 Fu42)) (fun _ q => ft_t Fu42 q)
  · refine pj_sf (o := fun a => a) (q := fun b => b) S ?_ ?_ (fun a b s => HS a b s)
    · have S1 : ¬ u17 2 11 = 0 := S.1
      have F : FSc u17 u17 := fs_r
      refine pc_sv (fs_qf_X2_addClass (fs_n S1 F)) ?_; intro u22 Qu22
      have Fu22 : FSc u17 u22 := fs_t F Qu22
      refine pc_sv (fs_qf_X8_need (fs_n S1 Fu22)) ?_; intro u24 Qu24
      have Fu24 : FSc u17 u24 := fs_t Fu22 Qu24
      refine pc_sv (fs_qf_X8_accept (fs_n S1 Fu24)) ?_; intro u26 Qu26
      have Fu26 : FSc u17 u26.2 := fs_t Fu24 Qu26
      refine pc_if (fun _ => ?_) (fun _ => ?_)
      · exact pc_imp (fs_qj_X8_readClass_39 (fs_n S1 Fu26)) (fun _ q => fs_t Fu26 q)
      · refine pc_sv (fs_qf_X8_need (fs_n S1 Fu26)) ?_; intro u28 Qu28
        have Fu28 : FSc u17 u28 := fs_t Fu26 Qu28
        exact pc_imp (fs_qj_X8_readClass_39 (fs_n S1 Fu28)) (fun _ q => fs_t Fu28 q)
    · have S1 : ¬ u31 160 9 = 0 := sf_r S
      have F : FSr u31 u31 := ft_r
      refine pc_sv (ft_qf_X13_name (ft_n S1 F)) ?_; intro u33 Qu33
      have Fu33 : FSr u31 u33.2 := ft_t F Qu33
      refine pc_if (fun _ => ?_) (fun _ => ?_)
      · exact pc_imp (ft_qj_X13_program_72 (fun _ S => ft_qw_X13_program_25 _ _ S) (ft_n S1 Fu33)) (fun _ q => ft_t Fu33 q)
      · refine pc_se ?_; intro u37 _
        refine pc_if (fun _ => ?_) (fun _ => ?_)
        · exact pc_imp (ft_qj_X13_program_72 (fun _ S => ft_qw_X13_program_25 _ _ S) (ft_n S1 Fu33)) (fun _ q => ft_t Fu33 q)
        · refine pc_xl ?_; intro v39 _
          refine pc_xl ?_; intro h40 Eh40
          have Fh40 : FSr u31 h40 := by rw [Eh40]; exact ft_u Fu33 (by omega)
          refine pc_sv (ft_qf_X13_name (ft_n S1 Fh40)) ?_; intro u42 Qu42
          have Fu42 : FSr u31 u42.2 := ft_t Fh40 Qu42
          exact pc_imp (ft_qj_X13_program_72 (fun _ S => ft_qw_X13_program_25 _ _ S) (ft_n S1 Fu42)) (fun _ q => ft_t Fu42 q)
theorem pfg_t {x : ms_M} (H : PFg r v) (G : PFg v x) : PFg r x := by
  obtain ⟨⟨a1, a2⟩, ⟨a3, a4⟩, ⟨a5, a6⟩, a7, a8⟩ := H
  obtain ⟨⟨b1, b2⟩, ⟨b3, b4⟩, ⟨b5, b6⟩, b7, b8⟩ := G
  exact ⟨⟨by omega, fun c x c1 c2 c3 => by rw [b2 c x c1 c2 (by omega)]; exact a2 c x c1 c2 c3⟩, ⟨by omega, fun c x c1 c2 c3 => by rw [b4 c x c1 c2 (by omega)]; exact a4 c x c1 c2 c3⟩, ⟨by omega, fun c x c1 c2 c3 => by rw [b6 c x c1 c2 (by omega)]; exact a6 c x c1 c2 c3⟩, by omega, fun c x c1 c2 c3 => by rw [b8 c x c1 c2 (by omega)]; exact a8 c x c1 c2 c3⟩
/-- the classes of both sides -/
theorem j_prg (BK : TBn K c) (GP : GPo K P c) : ∀ (f f2 k p : Nat) (h r : ms_M), JPp K P c p h r → 0 ≤ r 160 22 → 0 ≤ r 160 28 → 0 ≤ r 160 39 → (r 160 24 = (k : Int) ∧ h 11 2 = (k : Int)) → 9 * (k : Int) ≤ P p → Pc (qj_X8_readProgram_33 nn (qw_X8_readProgram_2 nn f) (k : Int) h) (fun u => Pc (qw_X13_program_25 nn f2 r) (fun v => JPg K P c k p h r u v)) := by
  intro f
  induction f with
  | zero =>
    intros
    unfold qj_X8_readProgram_33
    refine pc_se ?_; intro u2 _
    refine pc_xl ?_; intro v3 _
    exact pc_none
  | succ f ih =>
    intro f2 k p h r J hr hm h39 hk hP
    cases f2 with
    | zero => exact fun _ _ => pc_none
    | succ f2 =>
      have k333 : k ≤ 333 := by have := GP.2.2 p J.2.2.1.2.2; omega
      unfold qj_X8_readProgram_33
      refine pc_sv (P := fun u => Pc (qw_X13_program_25 nn (f2 + 1) r) (fun V => Pc (xl (oq_add (k : Int) 1) fun v3 => qw_X8_readProgram_2 nn (f + 1) v3 u) (fun U => JPg K P c k p h r U V))) (j_class BK GP (Z := fun u V => Pc (xl (oq_add (k : Int) 1) fun v3 => qw_X8_readProgram_2 nn (f + 1) v3 u) (fun U => JPg K P c k p h r U V)) ?_ J hr hm h39 hk hP ?_) (fun u R => pc_fl R)
      · intro u V S
        refine pc_xl ?_; intro v3 _
        exact pc_imp (fs_qw_X8_readProgram_2 _ _ _ S.1) (fun U q => .inl (sf_k S q ft_r))
      · intro u v q n Jq pq CL n28 n24 PF U1 UF Pq
        have Jq' := Jq
        obtain ⟨b, d, ⟨g1, g2, g3⟩, g4, g5⟩ := Jq'
        rw [g2]
        refine pc_rA ?_; intro _ _ v6 e6
        rw [Int.toNat_natCast] at e6
        have kd := r_kd BK d (t := q) (by omega)
        refine pc_if (fun z => ?_) (fun z => ?_)
        · have kq : ¬ K q = 0 := by omega
          refine pc_fl ?_
          refine pc_add (by omega) ?_; intro v3 e3
          unfold qw_X8_readProgram_2
          refine pc_if (fun z => absurd z (by omega)) (fun _ => ?_)
          refine pc_if (fun z => absurd g4 z) (fun _ => ?_)
          refine pc_if (fun z => absurd z (by omega)) (fun _ => ?_)
          refine pc_sv (c_kind BK b g3 g1 g4) ?_; intro u8 q8
          refine pc_if (fun z => absurd (by omega) kq) (fun _ => ?_)
          rw [show v3 = ((k + 1 : Nat) : Int) by omega]
          refine (fun U eU V eV => ?_)
          rcases ih f2 (k + 1) q u v Jq (by have := PF.1.1; omega) (by omega) (by have := PF.2.1.1; omega) ⟨by omega, by rw [U1.1]; omega⟩ (by omega) U eU V eV with S | ⟨j, q2, ⟨y1, y2, y3⟩, y4, ⟨y5, y6, y7, y8⟩, y9, y10, y11⟩
          · exact .inl S
          · have y11' := y11
            obtain ⟨⟨b1, b2⟩, ⟨b3, b4⟩, ⟨b5, b6⟩, b7, b8⟩ := y11'
            refine .inr ⟨j + 1, q2, ⟨y1, y2, by omega⟩, ⟨n, (q : Int), v 160 22, PF.1.1, clr_k b3 hm ⟨by rw [Int.toNat_natCast]; exact b6 178 k (by decide) (by decide) (by omega), by rw [Int.toNat_natCast]; exact b6 179 k (by decide) (by decide) (by omega)⟩ (fun cc x c1 c2 _ _ c3 => b8 cc x c1 c2 (by omega)) b4 (fun cc x c1 c2 _ _ c3 => b2 cc x c1 c2 c3) CL, ?_⟩, ⟨by omega, by omega, by omega, by omega⟩, fun i i1 i2 => ?_, fun cc x z1 z2 z3 => by rw [y10 cc x z1 z2 (by omega)]; exact UF cc x z1 z2 (by omega), pfg_t PF y11⟩
            · rw [← n28, show (k : Int) + 1 = ((k + 1 : Nat) : Int) by omega]; exact y4
            · by_cases ik : i = k
              · rw [ik, y10 15 k (by decide) (by omega) (by omega), U1.2, b6 178 k (by decide) (by decide) (by omega)]
              · exact y9 i (by omega) (by omega)
        · have kq : K q = 0 := by omega
          refine pc_ret ?_
          refine pc_add (by omega) ?_; intro v3 e3
          unfold qw_X8_readProgram_2
          refine pc_if (fun z => absurd z (by omega)) (fun _ => ?_)
          refine pc_if (fun z => absurd g4 z) (fun _ => ?_)
          refine pc_if (fun z => absurd z (by omega)) (fun _ => ?_)
          refine pc_sv (c_kind BK b g3 g1 g4) ?_; intro u8 q8
          refine pc_if (fun _ => ?_) (fun z => absurd (by omega) z)
          refine pc_ret ?_
          exact .inr ⟨1, q, ⟨Jq, kq, pq⟩, ⟨n, (q : Int), v 160 22, PF.1.1, CL, ⟨rfl, rfl, n28⟩⟩, ⟨by omega, by omega, by omega, by omega⟩, fun i i1 i2 => by rw [show i = k by omega]; exact U1.2, fun cc x z1 z2 z3 => UF cc x z1 z2 (by omega), PF⟩
/-- PARSE of both sides -/
theorem j_pgm (BK : TBn K c) (GP : GPo K P c) (B : TBc K P c h) (D : TBq K P c r) (h10 : h 2 10 = 0) (h11 : h 2 11 = 0) (r9 : r 160 9 = 0) (hn : h 11 2 = 0) : Pc (qf_X8_readProgram nn h) (fun u => Pc (qf_X13_program nn r) (fun v => ∃ r0 : ms_M, (r0 160 22 = 0 ∧ r0 160 28 = 0 ∧ r0 160 39 = 0 ∧ ∀ c x : Nat, ¬ c = 160 → r0 c x = r c x) ∧ JPg K P c 0 0 h r0 u v)) := by
  have n3 := BK.2.1
  unfold qf_X8_readProgram qf_X13_program
  refine pc_fl ?_
  refine pc_xl ?_; intro h45 e45
  refine pc_xl ?_; intro h46 e46
  refine pc_xl ?_; intro h47 e47
  refine pc_xl ?_; intro h48 e48
  refine pc_xl ?_; intro h49 e49
  have A : ∀ c x : Nat, ¬ (c = 160 ∧ (x = 24 ∨ x = 28 ∨ x = 39 ∨ x = 22 ∨ x = 23)) → h49 c x = r c x := fun c x z => by rw [e49, up_n (by omega), e48, up_n (by omega), e47, up_n (by omega), e46, up_n (by omega), e45, up_n (by omega)]
  have A23 : h49 160 23 = 0 := by rw [e49, up_s]
  have A22 : h49 160 22 = 0 := by rw [e49, up_n (by omega), e48, up_s]
  have A39 : h49 160 39 = 0 := by rw [e49, up_n (by omega), e48, up_n (by omega), e47, up_s]
  have A28 : h49 160 28 = 0 := by rw [e49, up_n (by omega), e48, up_n (by omega), e47, up_n (by omega), e46, up_s]
  have A24 : h49 160 24 = 0 := by rw [e49, up_n (by omega), e48, up_n (by omega), e47, up_n (by omega), e46, up_n (by omega), e45, up_s]
  have J : JPp K P c 0 h h49 := ⟨B, ⟨fun i hi => by rw [A 163 i (by omega)]; exact D.1 i hi, fun i hi => by rw [A 164 i (by omega)]; exact D.2.1 i hi, fun i i1 i2 => by rw [A 166 i (by omega)]; exact D.2.2.1 i i1 i2, fun i i1 => by rw [A 166 i (by omega)]; exact D.2.2.2 i i1⟩, ⟨h10, A23, by omega⟩, h11, by rw [A 160 9 (by omega)]; exact r9⟩
  refine pc_fl ?_
  have KEY : Pc (qw_X8_readProgram_2 nn nn 0 h) (fun u => Pc (qw_X13_program_25 nn nn h49) (fun v => JPg K P c 0 0 h h49 u v)) := by
    cases e : nn with
    | zero => exact pc_none
    | succ n =>
      rw [← e]
      have G := j_prg (nn := nn) BK GP n nn 0 0 h h49 J (by omega) (by omega) (by omega) ⟨A24, hn⟩ (by have := GP.1; omega)
      rw [show qw_X8_readProgram_2 nn nn 0 h = qj_X8_readProgram_33 nn (qw_X8_readProgram_2 nn n) 0 h by
        rw [e]
        show (if (3000 : Int) ≤ 0 then (some h) else (if ¬ (h 2 11) = 0 then (some h) else (if (0 : Int) = 0 then (qj_X8_readProgram_33 (n + 1) (qw_X8_readProgram_2 (n + 1) n) 0 h) else _))) = _
        rw [if_neg (by decide), if_neg (by omega), if_pos rfl]]
      exact G
  exact fun U eU V eV => ⟨h49, ⟨A22, A28, A39, fun c x z => A c x (by omega)⟩, KEY U eU V eV⟩
end

section
variable {nn : Nat} {h g r z t : ms_M} {c : Int}
/-- what loading may move of the fields -/
def LF (k : Nat) : Prop := k = 1 ∨ k = 98 ∨ k = 99 ∨ k = 113 ∨ k = 114 ∨ k = 115 ∨ k = 138
/-- what loading leaves -/
def NL (h r : ms_M) : Prop := ∀ x k : Nat, (x < 226 ∨ 240 ≤ x) → ¬ (x = 160 ∧ LF k) → r x k = h x k
theorem nl_rf : NL h h := fun _ _ _ _ => rfl
theorem nl_tr (a : NL h z) (b : NL z r) : NL h r := fun x k w1 w2 => (b x k w1 w2).trans (a x k w1 w2)
theorem nl_nta (a : NTa c h r) : NL h r := fun x k w1 w2 => a x k (fun w => w2 ⟨w.1, by unfold LF; omega⟩) (by omega) (by omega) (by omega)
theorem nl_n9 (a : N9 h r) : NL h r := fun x k w1 _ => a x k (by omega)
theorem nl_qi (a : QI8 c h r) : NL h r := fun x k w1 _ => a.2.1 x k (by omega) (by omega)
theorem nl_ag (a : ∀ x k : Nat, ¬ TAB c x k → r x k = h x k) : NL h r := fun x k w1 _ => a x k (by unfold TAB; omega)
theorem nl_f {v : Int} {j : Nat} (w : LF j) : NL h (up_M h 160 j v) := fun x k _ w2 => by rw [up_n (fun y => w2 ⟨y.1, by rw [y.2]; exact w⟩)]
/-- all but image c -/
def AW (c : Int) (h r : ms_M) : Prop := ∀ x k : Nat, x ≠ 160 → x ≠ 238 → x ≠ 239 → ¬ TAB c x k → ¬ (x = 226 ∧ 6000 * c ≤ (k : Int) ∧ (k : Int) < 6000 * c + 6000) → ¬ (x = 227 ∧ (k : Int) = c) → r x k = h x k
theorem aw_rf : AW c h h := fun _ _ _ _ _ _ _ _ => rfl
theorem aw_tr (a : AW c h z) (b : AW c z r) : AW c h r := fun x k w1 w2 w3 w4 w5 w6 => (b x k w1 w2 w3 w4 w5 w6).trans (a x k w1 w2 w3 w4 w5 w6)
theorem aw_nta (a : NTa c h r) : AW c h r := fun x k w1 w2 w3 w4 _ _ => by unfold TAB at w4; exact a x k (by omega) (by omega) (by omega) (by omega)
theorem aw_n9 (a : N9 h r) : AW c h r := fun x k _ _ w3 _ _ _ => a x k w3
theorem aw_qi (a : QI8 c h r) : AW c h r := fun x k _ _ _ _ w5 w6 => a.2.1 x k w5 w6
theorem aw_ag (a : ∀ x k : Nat, ¬ TAB c x k → r x k = h x k) : AW c h r := fun x k _ _ _ w4 _ _ => a x k w4
theorem aw_f {v : Int} {j : Nat} : AW c h (up_M h 160 j v) := fun x k w1 _ _ _ _ _ => by rw [up_n (fun y => w1 y.1)]
theorem aw_b {v : Int} {j : Nat} : AW c h (up_M h 238 j v) := fun x k _ w2 _ _ _ _ => by rw [up_n (fun y => w2 y.1)]
theorem img_o {d : Int} (hc : 0 ≤ c ∧ c ≤ 7) (hd : 0 ≤ d ∧ d ≤ 7) (n : d ≠ c) (V : VS_ h) (A : AW c h r) (I : IMG h d) : IMG r d := by
  have A' : ∀ x k : Nat, x ≠ 160 → x ≠ 238 → x ≠ 239 → ¬ TAB c x k → ¬ (x = 226 ∧ 6000 * c ≤ (k : Int) ∧ (k : Int) < 6000 * c + 6000) → ¬ (x = 227 ∧ (k : Int) = c) → r x k = h x k := A
  unfold TAB at A'
  exact img_eq hd I (fun i hi => A' _ _ (by decide) (by decide) (by decide) (by omega) (by omega) (by omega)) V (A' _ _ (by decide) (by decide) (by decide) (by omega) (by omega) (by omega)) (fun i _ _ => A' _ _ (by decide) (by decide) (by decide) (by omega) (by omega) (by omega)) (A' _ _ (by decide) (by decide) (by decide) (by omega) (by omega) (by omega)) (A' _ _ (by decide) (by decide) (by decide) (by omega) (by omega) (by omega)) (A' _ _ (by decide) (by decide) (by decide) (by omega) (by omega) (by omega))
/-- the space stays where its rows stay -/
def SW (h r : ms_M) : Prop := ∀ x k : Nat, x ≠ 160 → x ≠ 238 → x ≠ 239 → r x k = h x k
theorem img_s {d : Int} (hd : 0 ≤ d ∧ d ≤ 7) (V : VS_ h) (A : SW h r) (I : IMG h d) : IMG r d :=
  img_eq hd I (fun i hi => A _ _ (by decide) (by decide) (by decide)) V (A _ _ (by decide) (by decide) (by decide)) (fun i _ _ => A _ _ (by decide) (by decide) (by decide)) (A _ _ (by decide) (by decide) (by decide)) (A _ _ (by decide) (by decide) (by decide)) (A _ _ (by decide) (by decide) (by decide))
theorem spc_s (V : VS_ h) (A : SW h r) (e : r 160 98 = h 160 98) (I : SPC h) : SPC r := fun d a b => by
  have := gF_160_98 V
  exact img_s (by omega) V A (I d a (by omega))
/-- the name of what was read -/
theorem im8_name (hc : 0 ≤ c ∧ c ≤ 7) (V : VS_ r) (I : IM8 r c) : (1 ≤ r 230 c.toNat ∧ r 230 c.toNat ≤ 255) ∧ (3 ≤ pl r c (r 230 c.toNat) ∧ pl r c (r 230 c.toNat) + 2 ≤ r 160 113) ∧ (1 ≤ r 238 (pl r c (r 230 c.toNat) + 1).toNat ∧ r 238 (pl r c (r 230 c.toNat) + 1).toNat ≤ 255) ∧ (3 ≤ pl r c (r 238 (pl r c (r 230 c.toNat) + 1).toNat)) ∧ (1 ≤ r 238 (pl r c (r 238 (pl r c (r 230 c.toNat) + 1).toNat) + 1).toNat ∧ r 238 (pl r c (r 238 (pl r c (r 230 c.toNat) + 1).toNat) + 1).toNat ≤ 120) ∧ pl r c (r 238 (pl r c (r 230 c.toNat) + 1).toNat) + 2 + r 238 (pl r c (r 238 (pl r c (r 230 c.toNat) + 1).toNat) + 1).toNat ≤ r 160 113 := by
  obtain ⟨⟨_, s2, s3⟩, ⟨i1, i2⟩, _⟩ := I
  have g9 := gA_229 V c.toNat (by omega)
  obtain ⟨p0, p1⟩ := s2 _ i1.1 i1.2
  obtain ⟨j1, j2⟩ := (s3 _ i1.1 i1.2).1 i2
  obtain ⟨q0, q1⟩ := s2 _ j1.1 j1.2
  refine ⟨by omega, ⟨p0, by rcases p1 with x | x | x | x <;> omega⟩, by omega, q0, ?_⟩
  rcases q1 with x | x | x | x
  · exact ⟨x.2.1, x.2.2⟩
  · exfalso; omega
  · exfalso; omega
  · exfalso; omega
/-- what loading leaves behind -/
def QL (h : ms_M) (u : Int × ms_M) : Prop := VS_ u.2 ∧ SPC u.2 ∧ NL h u.2
theorem ld_loaded (hn : 1000000 ≤ nn) (V : VS_ h) (S : SPC h) : Ok_ (qf_X13_loaded nn h) (QL h) := by
  have g98 := gF_160_98 V
  unfold qf_X13_loaded
  refine ok_if (fun C => ?_) (fun C => ?_)
  · refine ok_sv (sq_scan hn (by omega) V) ?_; intro u4 Q
    obtain ⟨V4, N4, I4⟩ := Q
    have e98 : u4 160 98 = h 160 98 := N4 160 98 (by omega) (by omega) (by omega) (by omega)
    have S4 : SPC u4 := fun d a b => img_o (c := h 160 98) (by omega) (by omega) (by omega) V (aw_nta N4) (S d a (by omega))
    have L4 : NL h u4 := nl_nta N4
    have g114 := gF_160_114 V4
    refine ok_if (fun D => ?_) (fun _ => ?_)
    · have I := I4 D
      have g113 := gF_160_113 V4
      rw [← e98] at I
      have hc : 0 ≤ u4 160 98 ∧ u4 160 98 ≤ 7 := by omega
      generalize hcc : u4 160 98 = c at *
      obtain ⟨a1, a2, a3, a4, a5, a6⟩ := im8_name hc V4 I
      refine ok_mul (by omega) ?_; intro v8 e8
      refine ok_mul (by omega) ?_; intro v12 e12
      refine ok_rd (by omega) (gA_230 V4) ?_; intro v15 e15 _ _
      rw [← e15] at a1 a2 a3 a4 a5 a6
      refine ok_add (by omega) ?_; intro v16 e16
      refine ok_rd (by omega) (gA_228 V4) ?_; intro v17 e17 _ _
      have w17 : pl u4 c v15 = v17 := by rw [e17, e16, e12]; rfl
      rw [w17] at a2 a3 a4 a5 a6
      refine ok_add (by omega) ?_; intro v18 e18
      refine ok_rd (by omega) (gA_238 V4) ?_; intro v19 e19 _ _
      rw [← e18, ← e19] at a3 a4 a5 a6
      refine ok_add (by omega) ?_; intro v20 e20
      refine ok_rd (by omega) (gA_228 V4) ?_; intro v21 e21 _ _
      have w21 : pl u4 c v19 = v21 := by rw [e21, e20, e8]; rfl
      rw [w21] at a4 a5 a6
      refine ok_add (by omega) ?_; intro v23 e23
      refine ok_add (by omega) ?_; intro v25 e25
      refine ok_rd (by omega) (gA_238 V4) ?_; intro v26 e26 _ _
      rw [← e25, ← e26] at a5 a6
      refine ok_sv (nm_class hn (.inl ⟨rfl, rfl⟩) V4 (by omega) (by omega) S4) ?_; intro u28 _
      refine ok_if (fun _ => ?_) (fun _ => ?_)
      · refine ok_sv (nm_install hn hc V4) ?_; intro u31 Q
        obtain ⟨QI, _⟩ := Q
        have V31 := QI.1
        have n98 : u31.2 160 98 = c := by rw [QI.2.1 160 98 (by omega) (by omega)]; exact hcc
        refine ok_add (by omega) ?_; intro v33 e33
        refine ok_xl ?_; intro h34 E34
        refine ok_xl ?_; intro h35 E35
        refine ok_xl ?_; intro h36 E36
        have V34 : VS_ h34 := by rw [E34]; exact wF_160_98 V31 (by omega)
        have V35 : VS_ h35 := by rw [E35]; exact wF_160_99 V34 (by omega)
        have V36 : VS_ h36 := by rw [E36]; exact wF_160_138 V35 (by omega)
        have W : SW u31.2 h36 := fun x k a _ _ => by rw [E36, up_n (fun y => a y.1), E35, up_n (fun y => a y.1), E34, up_n (fun y => a y.1)]
        have f98 : h36 160 98 = c + 1 := by rw [E36, up_n (by omega), E35, up_n (by omega), E34, up_s]; omega
        refine ok_ret ⟨V36, fun d a b => ?_, ?_⟩
        · have b : d < c + 1 := by rw [← f98]; exact b
          refine img_s (by omega) V31 W ?_
          by_cases y : d = c
          · rw [y]; exact img_new hc V4 I QI
          · exact img_o hc (by omega) y V4 (aw_qi QI) (S4 d a (by omega))
        · show NL h h36
          refine nl_tr L4 (nl_tr (nl_qi QI) ?_)
          rw [E36, E35, E34]
          exact nl_tr (nl_f (by unfold LF; omega)) (nl_tr (nl_f (by unfold LF; omega)) (nl_f (by unfold LF; omega)))
      · unfold qj_X13_loaded_138
        exact ok_ret ⟨V4, S4, L4⟩
    · refine ok_sub (by omega) ?_; intro v39 _
      exact ok_ret ⟨V4, S4, L4⟩
  · refine ok_sv (as_aside hn (by omega) V) ?_; intro u42 Q
    obtain ⟨V42, N42, T42⟩ := Q
    refine ok_sv (sq_scan hn (by omega) V42) ?_; intro u44 Q
    obtain ⟨V44, N44, _⟩ := Q
    have T44 : TBk u44 h 7 := by
      have e : ∀ k : Nat, u44 239 k = u42 239 k := fun k => N44 239 k (by omega) (by omega) (by omega) (by omega)
      refine ⟨fun i hi => by rw [e]; exact T42.1 i hi, ?_, fun j hj => by rw [e, e, e, e]; exact T42.2.2 j hj⟩
      unfold TB2
      rw [e, e, e, e, e]; exact T42.2.1
    refine ok_sv (ag_again hn (by omega) V44 V T44) ?_; intro u47 Q
    obtain ⟨V47, A, B⟩ := Q
    have W : SW h u47 := fun x k w1 w2 w3 => by
      by_cases y : TAB 7 x k
      · exact B x k y
      · rw [A x k y, N44 x k (by omega) (fun z => y (.inl z)) (fun z => y (.inr (.inl z))) (fun z => y (.inr (.inr z)))]
        exact N42 x k w3
    have e98 : u47 160 98 = h 160 98 := by
      rw [A 160 98 (by unfold TAB; omega), N44 160 98 (by omega) (by omega) (by omega) (by omega)]
      exact N42 160 98 (by decide)
    have P : ∀ v : Int, QL h (v, u47) := fun v => ⟨V47, spc_s V W e98 S, nl_tr (nl_n9 N42) (nl_tr (nl_nta N44) (nl_ag A))⟩
    have g114 := gF_160_114 V44
    refine ok_if (fun _ => ok_ret (P _)) (fun _ => ?_)
    refine ok_sub (by omega) ?_; intro v48 _
    exact ok_ret (P _)
/-- what copying to what is read leaves -/
def NC (h r : ms_M) : Prop := ∀ x k : Nat, x ≠ 238 → ¬ (x = 160 ∧ k = 113) → r x k = h x k
theorem nc_spc (V : VS_ h) (N : NC h r) (S : SPC h) : SPC r := spc_s V (fun x k a b _ => N x k b (fun y => a y.1)) (N 160 98 (by decide) (by decide)) S
theorem nc_nl (N : NC h r) : NL h r := fun x k w1 w2 => N x k (by omega) (fun y => w2 ⟨y.1, by unfold LF; omega⟩)
theorem ld_load (hn : 1000000 ≤ nn) (V : VS_ h) (S : SPC h) : Ok_ (qf_X13_load nn h) (QL h) := by
  have g1 := gF_160_1 V
  have L : ∀ (k : Nat) (l : Int) (g : ms_M), VS_ g → NC h g → (0 ≤ l ∧ l ≤ h 160 1) → h 160 1 - l < (k : Int) → Ok_ (qw_X13_load_10 nn k l g) (QL h) := by
    intro k
    induction k with
    | zero => intro l g V N a hm; exfalso; omega
    | succ k ih =>
      intro l g V' N a hm
      have e1 : g 160 1 = h 160 1 := N 160 1 (by decide) (by decide)
      unfold qw_X13_load_10
      refine ok_if (fun C => ?_) (fun C => ?_)
      · refine ok_xl ?_; intro h2 E2
        have V2 : VS_ h2 := by rw [E2]; exact wF_160_1 V' (by omega)
        have S2 : SPC h2 := spc_s V' (fun x k a _ _ => by rw [E2, up_n (fun y => a y.1)]) (by rw [E2, up_n (by omega)]) (nc_spc V N S)
        refine ok_sv (ld_loaded hn V2 S2) ?_; intro u4 Q
        refine ok_ret ⟨Q.1, Q.2.1, nl_tr (nc_nl N) (nl_tr ?_ Q.2.2)⟩
        rw [E2]; exact nl_f (by unfold LF; omega)
      · refine ok_rd (by omega) (gA_161 V') ?_; intro v7 e7 _ _
        refine ok_wA (by omega) ?_; intro h8 E8
        refine ok_add (by omega) ?_; intro v9 e9
        exact ih v9 h8 (by rw [E8]; exact wA_238 V' (by omega)) (fun x k a b => by rw [E8, up_n (fun y => a y.1)]; exact N x k a b) (by omega) (by omega)
  unfold qf_X13_load
  refine ok_xl ?_; intro h12 E12
  exact L nn 0 h12 (by rw [E12]; exact wF_160_113 V (by omega)) (fun x k a b => by rw [E12, up_n b]) (by omega) (by omega)
theorem ld_keep (hn : 1000000 ≤ nn) (V : VS_ h) (S : SPC h) {a : Int} : Ok_ (qf_X13_keep nn a h) (QL h) := by
  have g93 := gF_160_93 V
  unfold qf_X13_keep
  refine ok_if (fun _ => ok_ret ⟨V, S, nl_rf⟩) (fun C => ?_)
  refine ok_if (fun D => ?_) (fun _ => ok_ret ⟨V, S, nl_rf⟩)
  refine ok_rd (by omega) (gA_222 V) ?_; intro v14 e14 a14 b14
  refine ok_xl ?_; intro h15 E15
  have L : ∀ (k : Nat) (l : Int) (g : ms_M), VS_ g → NC h g → g 160 113 = v14 → (0 ≤ l ∧ l ≤ v14) → v14 - l < (k : Int) → Ok_ (qw_X13_keep_26 nn k a l g) (QL h) := by
    intro k
    induction k with
    | zero => intro l g V N e a hm; exfalso; omega
    | succ k ih =>
      intro l g V' N e b hm
      unfold qw_X13_keep_26
      refine ok_if (fun C => ?_) (fun C => ?_)
      · refine ok_sv (ld_loaded hn V' (nc_spc V N S)) ?_; intro u4 Q
        exact ok_ret ⟨Q.1, Q.2.1, nl_tr (nc_nl N) Q.2.2⟩
      · refine ok_mul (by omega) ?_; intro v6 e6
        refine ok_add (by omega) ?_; intro v7 e7
        refine ok_rd (by omega) (gA_221 V') ?_; intro v8 e8 _ _
        refine ok_wA (by omega) ?_; intro h9 E9
        refine ok_add (by omega) ?_; intro v10 e10
        exact ih v10 h9 (by rw [E9]; exact wA_238 V' (by omega)) (fun x k a b => by rw [E9, up_n (fun y => a y.1)]; exact N x k a b) (by rw [E9, up_n (by omega)]; exact e) (by omega) (by omega)
  exact L nn 0 h15 (by rw [E15]; exact wF_160_113 V (by omega)) (fun x k a b => by rw [E15, up_n b]) (by rw [E15, up_s]) (by omega) (by omega)
end

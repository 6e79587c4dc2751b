section
section
variable {nn : Nat} {h g r z t : ms_M} {c : Int}
/-- the space stays, and whether it was verified and runs; or nothing runs -/
def KPT (h r : ms_M) : Prop := (r 160 99 = 0 ∧ r 160 138 = 0) ∨ (r 160 99 = h 160 99 ∧ r 160 138 = h 160 138 ∧ AGe h r)
theorem kpt_rf : KPT h h := .inr ⟨rfl, rfl, age_rf⟩
theorem kpt_tr (A : KPT h z) (B : KPT z r) : KPT h r := by
  rcases B with B | ⟨b1, b2, b3⟩
  · exact .inl B
  · rcases A with A | ⟨a1, a2, a3⟩
    · exact .inl ⟨b1.trans A.1, b2.trans A.2⟩
    · exact .inr ⟨b1.trans a1, b2.trans a2, age_tr a3 b3⟩
theorem kpt_nc (N : NC h r) : KPT h r := .inr ⟨N 160 99 (by decide) (by decide), N 160 138 (by decide) (by decide), age_k (fun x k p q => N x k (by omega) (by omega)) (N 160 98 (by decide) (by decide))⟩
theorem kpt_f {j : Nat} {y : Int} (hj : j ≠ 98 ∧ j ≠ 99 ∧ j ≠ 138) : KPT h (up_M h 160 j y) := .inr ⟨up_n (by omega), up_n (by omega), age_k (fun x k p q => up_n (by omega)) (up_n (by omega))⟩
theorem age_sw (W : SW h r) (e : r 160 98 = h 160 98) : AGe h r := age_k (fun x k p q => W x k (by omega) (by omega) (by omega)) e
theorem age_aw (W : AW c h r) (hc : h 160 98 ≤ c) (e : r 160 98 = h 160 98) : AGe h r := by
  have A' : ∀ x k : Nat, x ≠ 160 → x ≠ 238 → x ≠ 239 → ¬ TAB c x k → ¬ (x = 226 ∧ 6000 * c ≤ (k : Int) ∧ (k : Int) < 6000 * c + 6000) → ¬ (x = 227 ∧ (k : Int) = c) → r x k = h x k := W
  unfold TAB at A'
  refine ⟨e, fun d d0 d1 => ⟨fun i i0 i1 => ?_, fun i i0 i1 => ?_, ⟨?_, ?_, ?_, ?_, ?_⟩, fun j j0 j1 => ⟨?_, ?_, ?_, ?_⟩⟩⟩ <;> exact A' _ _ (by omega) (by omega) (by omega) (by omega) (by omega) (by omega)
def QLE (h : ms_M) (u : Int × ms_M) : Prop := QLD h u ∧ KPT h u.2
theorem lx_loaded (hn : 1000000 ≤ nn) (V : VS_ h) (S : SPD h) : Ok_ (qf_X13_loaded nn h) (QLE h) := by
  have g98 := gF_160_98 V
  unfold qf_X13_loaded
  refine ok_if (fun C => ?_) (fun C => ?_)
  · refine ok_sv (sr_scan hn (by omega) V) ?_; intro u4 Q
    obtain ⟨⟨V4, N4, I4⟩, I9⟩ := Q
    have e98 : u4 160 98 = h 160 98 := N4 160 98 (by omega) (by omega) (by omega) (by omega)
    have S4 : SPD u4 := fun d a b => imd_o (c := h 160 98) (by omega) (by omega) (by omega) V (aw_nta N4) (S d a (by omega))
    have L4 : NL h u4 := nl_nta N4
    have K4 : KPT h u4 := .inr ⟨N4 160 99 (by omega) (by omega) (by omega) (by omega), N4 160 138 (by omega) (by omega) (by omega) (by omega), age_aw (aw_nta N4) (by omega) e98⟩
    have g114 := gF_160_114 V4
    refine ok_if (fun D => ?_) (fun _ => ?_)
    · have I := I4 D
      have J := I9 D
      have g113 := gF_160_113 V4
      rw [← e98] at I J
      have hc : 0 ≤ u4 160 98 ∧ u4 160 98 ≤ 7 := by omega
      generalize hcc : u4 160 98 = c at *
      obtain ⟨a1, a2, a3, a4, a5, a6⟩ := im8_name hc V4 I
      refine ok_mul (by omega) ?_; intro v8 e8
      refine ok_mul (by omega) ?_; intro v12 e12
      refine ok_rd (by omega) (gA_230 V4) ?_; intro v15 e15 _ _
      rw [← e15] at a1 a2 a3 a4 a5 a6
      refine ok_add (by omega) ?_; intro v16 e16
      refine ok_rd (by omega) (gA_228 V4) ?_; intro v17 e17 _ _
      have w17 : pl u4 c v15 = v17 := by rw [e17, e16, e12]; rfl
      rw [w17] at a2 a3 a4 a5 a6
      refine ok_add (by omega) ?_; intro v18 e18
      refine ok_rd (by omega) (gA_238 V4) ?_; intro v19 e19 _ _
      rw [← e18, ← e19] at a3 a4 a5 a6
      refine ok_add (by omega) ?_; intro v20 e20
      refine ok_rd (by omega) (gA_228 V4) ?_; intro v21 e21 _ _
      have w21 : pl u4 c v19 = v21 := by rw [e21, e20, e8]; rfl
      rw [w21] at a4 a5 a6
      refine ok_add (by omega) ?_; intro v23 e23
      refine ok_add (by omega) ?_; intro v25 e25
      refine ok_rd (by omega) (gA_238 V4) ?_; intro v26 e26 _ _
      rw [← e25, ← e26] at a5 a6
      refine ok_sv (nm_class hn (.inl ⟨rfl, rfl⟩) V4 (by omega) (by omega) (spd_c S4)) ?_; intro u28 _
      refine ok_if (fun _ => ?_) (fun _ => ?_)
      · refine ok_sv (nm_install hn hc V4) ?_; intro u31 Q
        obtain ⟨QI, _⟩ := Q
        have V31 := QI.1
        have n98 : u31.2 160 98 = c := by rw [QI.2.1 160 98 (by omega) (by omega)]; exact hcc
        refine ok_add (by omega) ?_; intro v33 e33
        refine ok_xl ?_; intro h34 E34
        refine ok_xl ?_; intro h35 E35
        refine ok_xl ?_; intro h36 E36
        have V34 : VS_ h34 := by rw [E34]; exact wF_160_98 V31 (by omega)
        have V35 : VS_ h35 := by rw [E35]; exact wF_160_99 V34 (by omega)
        have V36 : VS_ h36 := by rw [E36]; exact wF_160_138 V35 (by omega)
        have W : SW u31.2 h36 := fun x k a _ _ => by rw [E36, up_n (fun y => a y.1), E35, up_n (fun y => a y.1), E34, up_n (fun y => a y.1)]
        have f98 : h36 160 98 = c + 1 := by rw [E36, up_n (by omega), E35, up_n (by omega), E34, up_s]; omega
        refine ok_ret ⟨⟨V36, fun d a b => ?_, ?_⟩, .inl ⟨by show h36 160 99 = 0; rw [E36, up_n (by omega), E35, up_s], by show h36 160 138 = 0; rw [E36, up_s]⟩⟩
        · have b : d < c + 1 := by rw [← f98]; exact b
          refine imd_s (by omega) V31 W ?_
          by_cases y : d = c
          · rw [y]; exact imd_new hc V4 I J QI
          · exact imd_o hc (by omega) y V4 (aw_qi QI) (S4 d a (by omega))
        · show NL h h36
          refine nl_tr L4 (nl_tr (nl_qi QI) ?_)
          rw [E36, E35, E34]
          exact nl_tr (nl_f (by unfold LF; omega)) (nl_tr (nl_f (by unfold LF; omega)) (nl_f (by unfold LF; omega)))
      · unfold qj_X13_loaded_138
        exact ok_ret ⟨⟨V4, S4, L4⟩, K4⟩
    · refine ok_sub (by omega) ?_; intro v39 _
      exact ok_ret ⟨⟨V4, S4, L4⟩, K4⟩
  · refine ok_sv (as_aside hn (by omega) V) ?_; intro u42 Q
    obtain ⟨V42, N42, T42⟩ := Q
    refine ok_sv (sr_scan hn (by omega) V42) ?_; intro u44 Q
    obtain ⟨⟨V44, N44, _⟩, _⟩ := Q
    have T44 : TBk u44 h 7 := by
      have e : ∀ k : Nat, u44 239 k = u42 239 k := fun k => N44 239 k (by omega) (by omega) (by omega) (by omega)
      refine ⟨fun i hi => by rw [e]; exact T42.1 i hi, ?_, fun j hj => by rw [e, e, e, e]; exact T42.2.2 j hj⟩
      unfold TB2
      rw [e, e, e, e, e]; exact T42.2.1
    refine ok_sv (ag_again hn (by omega) V44 V T44) ?_; intro u47 Q
    obtain ⟨V47, A, B⟩ := Q
    have W : SW h u47 := fun x k w1 w2 w3 => by
      by_cases y : TAB 7 x k
      · exact B x k y
      · rw [A x k y, N44 x k (by omega) (fun z => y (.inl z)) (fun z => y (.inr (.inl z))) (fun z => y (.inr (.inr z)))]
        exact N42 x k w3
    have e98 : u47 160 98 = h 160 98 := by
      rw [A 160 98 (by unfold TAB; omega), N44 160 98 (by omega) (by omega) (by omega) (by omega)]
      exact N42 160 98 (by decide)
    have q : ∀ j : Nat, j = 99 ∨ j = 138 → u47 160 j = h 160 j := fun j hj => by
      rw [A 160 j (by unfold TAB; omega), N44 160 j (by omega) (by omega) (by omega) (by omega)]
      exact N42 160 j (by decide)
    have P : ∀ v : Int, QLE h (v, u47) := fun v => ⟨⟨V47, spd_s V W e98 S, nl_tr (nl_n9 N42) (nl_tr (nl_nta N44) (nl_ag A))⟩, .inr ⟨q 99 (.inl rfl), q 138 (.inr rfl), age_sw W e98⟩⟩
    have g114 := gF_160_114 V44
    refine ok_if (fun _ => ok_ret (P _)) (fun _ => ?_)
    refine ok_sub (by omega) ?_; intro v48 _
    exact ok_ret (P _)
theorem lx_load (hn : 1000000 ≤ nn) (V : VS_ h) (S : SPD h) : Ok_ (qf_X13_load nn h) (QLE h) := by
  have g1 := gF_160_1 V
  have L : ∀ (k : Nat) (l : Int) (g : ms_M), VS_ g → NC h g → (0 ≤ l ∧ l ≤ h 160 1) → h 160 1 - l < (k : Int) → Ok_ (qw_X13_load_10 nn k l g) (QLE h) := by
    intro k
    induction k with
    | zero => intro l g V N a hm; exfalso; omega
    | succ k ih =>
      intro l g V' N a hm
      have e1 : g 160 1 = h 160 1 := N 160 1 (by decide) (by decide)
      unfold qw_X13_load_10
      refine ok_if (fun C => ?_) (fun C => ?_)
      · refine ok_xl ?_; intro h2 E2
        have V2 : VS_ h2 := by rw [E2]; exact wF_160_1 V' (by omega)
        have S2 : SPD h2 := spd_s V' (fun x k a _ _ => by rw [E2, up_n (fun y => a y.1)]) (by rw [E2, up_n (by omega)]) (nc_spd V N S)
        refine ok_sv (lx_loaded hn V2 S2) ?_; intro u4 Q
        refine ok_ret ⟨⟨Q.1.1, Q.1.2.1, nl_tr (nc_nl N) (nl_tr ?_ Q.1.2.2)⟩, kpt_tr (kpt_nc N) (kpt_tr ?_ Q.2)⟩
        · rw [E2]; exact nl_f (by unfold LF; omega)
        · rw [E2]; exact kpt_f (by decide)
      · refine ok_rd (by omega) (gA_161 V') ?_; intro v7 e7 _ _
        refine ok_wA (by omega) ?_; intro h8 E8
        refine ok_add (by omega) ?_; intro v9 e9
        exact ih v9 h8 (by rw [E8]; exact wA_238 V' (by omega)) (fun x k a b => by rw [E8, up_n (fun y => a y.1)]; exact N x k a b) (by omega) (by omega)
  unfold qf_X13_load
  refine ok_xl ?_; intro h12 E12
  exact L nn 0 h12 (by rw [E12]; exact wF_160_113 V (by omega)) (fun x k a b => by rw [E12, up_n b]) (by omega) (by omega)
theorem lx_keep (hn : 1000000 ≤ nn) (V : VS_ h) (S : SPD h) {a : Int} : Ok_ (qf_X13_keep nn a h) (QLE h) := by
  have g93 := gF_160_93 V
  unfold qf_X13_keep
  refine ok_if (fun _ => ok_ret ⟨⟨V, S, nl_rf⟩, kpt_rf⟩) (fun C => ?_)
  refine ok_if (fun D => ?_) (fun _ => ok_ret ⟨⟨V, S, nl_rf⟩, kpt_rf⟩)
  refine ok_rd (by omega) (gA_222 V) ?_; intro v14 e14 a14 b14
  refine ok_xl ?_; intro h15 E15
  have L : ∀ (k : Nat) (l : Int) (g : ms_M), VS_ g → NC h g → g 160 113 = v14 → (0 ≤ l ∧ l ≤ v14) → v14 - l < (k : Int) → Ok_ (qw_X13_keep_26 nn k a l g) (QLE h) := by
    intro k
    induction k with
    | zero => intro l g V N e a hm; exfalso; omega
    | succ k ih =>
      intro l g V' N e b hm
      unfold qw_X13_keep_26
      refine ok_if (fun C => ?_) (fun C => ?_)
      · refine ok_sv (lx_loaded hn V' (nc_spd V N S)) ?_; intro u4 Q
        exact ok_ret ⟨⟨Q.1.1, Q.1.2.1, nl_tr (nc_nl N) Q.1.2.2⟩, kpt_tr (kpt_nc N) Q.2⟩
      · refine ok_mul (by omega) ?_; intro v6 e6
        refine ok_add (by omega) ?_; intro v7 e7
        refine ok_rd (by omega) (gA_221 V') ?_; intro v8 e8 _ _
        refine ok_wA (by omega) ?_; intro h9 E9
        refine ok_add (by omega) ?_; intro v10 e10
        exact ih v10 h9 (by rw [E9]; exact wA_238 V' (by omega)) (fun x k a b => by rw [E9, up_n (fun y => a y.1)]; exact N x k a b) (by rw [E9, up_n (by omega)]; exact e) (by omega) (by omega)
  exact L nn 0 h15 (by rw [E15]; exact wF_160_113 V (by omega)) (fun x k a b => by rw [E15, up_n b]) (by rw [E15, up_s]) (by omega) (by omega)
theorem pe_235 (hn : 1000000 ≤ nn) (P : PA9 h g c) (K : g 160 99 = h 160 99 ∧ g 160 138 = h 160 138) {l : Int} (I : l ≠ 0 → IM8 g c ∧ IM9 g c) : Ok_ (qj_X13_patch_235 nn c l g) (QLE h) := by
  have g98 := gF_160_98 P.v
  have c0 := P.c0
  unfold qj_X13_patch_235
  refine ok_if (fun C => ?_) (fun C => ?_)
  · refine ok_sv (nm_install hn (by omega) P.w) ?_; intro u2 Q
    obtain ⟨QI, _⟩ := Q
    have V2 := QI.1
    refine ok_xl ?_; intro h3 E3
    refine ok_xl ?_; intro h4 E4
    have V3 : VS_ h3 := by rw [E3]; exact wF_160_99 V2 (by omega)
    have V4 : VS_ h4 := by rw [E4]; exact wF_160_138 V3 (by omega)
    have W : SW u2.2 h4 := fun x k a _ _ => by rw [E4, up_n (fun y => a y.1), E3, up_n (fun y => a y.1)]
    have f98 : h4 160 98 = h 160 98 := by rw [E4, up_n (by omega), E3, up_n (by omega), QI.2.1 160 98 (by omega) (by omega)]; exact P.f
    refine ok_ret ⟨⟨V4, fun d a b => ?_, ?_⟩, .inl ⟨by show h4 160 99 = 0; rw [E4, up_n (by omega), E3, up_s], by show h4 160 138 = 0; rw [E4, up_s]⟩⟩
    · have b : d < h 160 98 := by rw [← f98]; exact b
      refine imd_s (by omega) V2 W ?_
      by_cases y : d = c
      · rw [y]; exact imd_new (by omega) P.w (I C).1 (I C).2 QI
      · exact imd_o (by omega) (by omega) y P.v (aw_tr (pb_aw P) (aw_qi QI)) (P.s d a b)
    · show NL h h4
      refine nl_tr P.n (nl_tr (nl_qi QI) ?_)
      rw [E4, E3]
      exact nl_tr (nl_f (by unfold LF; omega)) (nl_f (by unfold LF; omega))
  · refine ok_sv (ag_again hn (by omega) P.w P.v P.tb) ?_; intro u6 Q
    obtain ⟨V6, A, B⟩ := Q
    have W : SW h u6 := fun x k w1 w2 w3 => by
      by_cases y : TAB c x k
      · exact B x k y
      · rw [A x k y]; exact P.e x k w1 w2 w3 y
    have f98 : u6 160 98 = h 160 98 := by
      rw [A 160 98 (by unfold TAB; omega)]; exact P.f
    exact ok_ret ⟨⟨V6, spd_s P.v W f98 P.s, nl_tr P.n (nl_ag A)⟩, .inr ⟨by show u6 160 99 = _; rw [A 160 99 (by unfold TAB; omega)]; exact K.1, by show u6 160 138 = _; rw [A 160 138 (by unfold TAB; omega)]; exact K.2, age_sw W f98⟩⟩
theorem pe_173 (hn : 1000000 ≤ nn) (P : PA9 h g c) (K : g 160 99 = h 160 99 ∧ g 160 138 = h 160 138) (I : IM8 g c ∧ IM9 g c) {l6 : Int} (r6 : 3 ≤ l6 ∧ l6 + 2 ≤ 6000 ∧ l6 + 2 + g 238 (l6 + 1).toNat ≤ 6000) : ∀ (k : Nat) (l5 l7 : Int), (0 ≤ l7 ∧ l7 ≤ 16) → 17 - l7 < (k : Int) → Ok_ (qw_X13_patch_173 nn k (8 + c) c l5 l6 l7 g) (QLE h) := by
  have g98 := gF_160_98 P.v
  have c0 := P.c0
  have f := P.f
  intro k
  induction k with
  | zero => intro l5 l7 a hm; exfalso; omega
  | succ k ih =>
    intro l5 l7 a hm
    have J : (0 ≤ l7 ∧ l7 < 16) → Ok_ (qj_X13_patch_222 nn (qw_X13_patch_173 nn k) (8 + c) c l6 l7 g) (QLE h) := fun a => by
      unfold qj_X13_patch_222
      refine ok_add (by omega) ?_; intro v8 e8
      exact ih 1 v8 (by omega) (by omega)
    unfold qw_X13_patch_173
    refine ok_add (by omega) ?_; intro v10 e10
    refine ok_if (fun _ => pe_235 hn P K (fun _ => I)) (fun C => ?_)
    refine ok_if (fun _ => pe_235 hn P K (fun _ => I)) (fun D => ?_)
    refine ok_if (fun _ => J (by omega)) (fun E => ?_)
    have w := P.w
    refine ok_add (by omega) ?_; intro v12 e12
    refine ok_add (by omega) ?_; intro v14 e14
    have gl := gA_238 w (l6 + 1).toNat
    refine ok_rd (by omega) (gA_238 w) ?_; intro v15 e15 _ _
    rw [e14] at e15
    refine ok_sv (nm_is hn (.inl ⟨rfl, rfl⟩) w (by omega) (by omega) (by omega) (fun y => (imd_o (c := c) (by omega) (by omega) (by omega) P.v (pb_aw P) (P.s (l7 - 8) (by omega) (by omega))).1)) ?_; intro u17 _
    refine ok_if (fun _ => ?_) (fun _ => J (by omega))
    refine ok_add (by omega) ?_; intro v18 e18
    exact ih 0 v18 (by omega) (by omega)
theorem pe_123 (hn : 1000000 ≤ nn) (P : PA9 h g c) (K : g 160 99 = h 160 99 ∧ g 160 138 = h 160 138) {s : Int} (I : s ≠ 0 → IM8 g c ∧ IM9 g c) : Ok_ (qj_X13_patch_123 nn (8 + c) c s g) (QLE h) := by
  have g98 := gF_160_98 P.v
  have c0 := P.c0
  unfold qj_X13_patch_123
  refine ok_if (fun C => pe_235 hn P K I) (fun C => ?_)
  have I := I C
  have hc : 0 ≤ c ∧ c ≤ 7 := by omega
  have V4 := P.w
  have g113 := gF_160_113 V4
  obtain ⟨a1, a2, a3, a4, a5, a6⟩ := im8_name hc V4 I.1
  refine ok_mul (by omega) ?_; intro v24 e24
  refine ok_mul (by omega) ?_; intro v27 e27
  refine ok_rd (by omega) (gA_230 V4) ?_; intro v29 e29 _ _
  rw [← e29] at a1 a2 a3 a4 a5 a6
  refine ok_add (by omega) ?_; intro v30 e30
  refine ok_rd (by omega) (gA_228 V4) ?_; intro v31 e31 _ _
  have w31 : pl g c v29 = v31 := by rw [e31, e30, e27]; rfl
  rw [w31] at a2 a3 a4 a5 a6
  refine ok_add (by omega) ?_; intro v32 e32
  refine ok_rd (by omega) (gA_238 V4) ?_; intro v33 e33 _ _
  rw [← e32, ← e33] at a3 a4 a5 a6
  refine ok_add (by omega) ?_; intro v34 e34
  refine ok_rd (by omega) (gA_228 V4) ?_; intro v35 e35 _ _
  have w35 : pl g c v33 = v35 := by rw [e35, e34, e24]; rfl
  rw [w35] at a4 a5 a6
  exact pe_173 hn P K I (by omega) nn s 0 (by omega) (by omega)
theorem lx_patch (hn : 1000000 ≤ nn) (V : VS_ h) (S : SPD h) {a b d : Int} (ra : -2147483648 ≤ a - 8 ∧ a ≤ 2147483647) : Ok_ (qf_X13_patch nn a b d h) (QLE h) := by
  have g98 := gF_160_98 V
  unfold qf_X13_patch
  refine ok_sub (by omega) ?_; intro v55 e55
  refine ok_if (fun _ => ok_ret ⟨⟨V, S, nl_rf⟩, kpt_rf⟩) (fun C => ?_)
  refine ok_if (fun _ => ok_ret ⟨⟨V, S, nl_rf⟩, kpt_rf⟩) (fun D => ?_)
  refine ok_if (fun _ => ok_ret ⟨⟨V, S, nl_rf⟩, kpt_rf⟩) (fun E => ?_)
  refine ok_rd (by omega) (gA_227 V) ?_; intro v58 e58 a58 b58
  refine ok_if (fun F => ?_) (fun _ => ok_ret ⟨⟨V, S, nl_rf⟩, kpt_rf⟩)
  refine ok_rd (by omega) (gA_227 V) ?_; intro v60 e60 a60 b60
  refine ok_xl ?_; intro h61 E61
  obtain rfl : a = 8 + v55 := by omega
  have L : ∀ (k : Nat) (l : Int) (g : ms_M), VS_ g → NC h g → g 160 113 = v60 → (0 ≤ l ∧ l ≤ v60) → v60 - l < (k : Int) → Ok_ (qw_X13_patch_51 nn k (8 + v55) b d v55 l g) (QLE h) := by
    intro k
    induction k with
    | zero => intro l g V N e a hm; exfalso; omega
    | succ k ih =>
      intro l g V' N e a hm
      unfold qw_X13_patch_51
      refine ok_if (fun G => ?_) (fun G => ?_)
      · refine ok_and (by omega) ?_; intro v39 a39 b39
        refine ok_wA (by omega) ?_; intro h40 E40
        have V40 : VS_ h40 := by rw [E40]; exact wA_238 V' (by omega)
        have N40 : NC h h40 := fun x k a b => by rw [E40, up_n (fun y => a y.1)]; exact N x k a b
        refine ok_sv (as_aside hn (by omega) V40) ?_; intro u42 Q
        obtain ⟨V42, N42, T42⟩ := Q
        refine ok_sv (sr_scan hn (by omega) V42) ?_; intro u44 Q
        obtain ⟨⟨V44, N44, I44⟩, I49⟩ := Q
        have e9 : ∀ k : Nat, u44 239 k = u42 239 k := fun k => N44 239 k (by omega) (by omega) (by omega) (by omega)
        have P : PA9 h u44 v55 := by
          refine ⟨V, S, V44, fun x k w1 w2 w3 w4 => ?_, ?_, nl_tr (nc_nl N40) (nl_tr (nl_n9 N42) (nl_nta N44)), ?_, by omega⟩
          · rw [N44 x k (by omega) (fun z => w4 (.inl z)) (fun z => w4 (.inr (.inl z))) (fun z => w4 (.inr (.inr z))), N42 x k w3]
            exact N40 x k w2 (by omega)
          · have o : ∀ x k : Nat, x ≠ 160 → x ≠ 238 → h40 x k = h x k := fun x k a b => N40 x k b (fun y => a y.1)
            refine ⟨fun i hi => ?_, ?_, fun j hj => ?_⟩
            · rw [e9, T42.1 i hi]; exact o _ _ (by decide) (by decide)
            · have T2 := T42.2.1
              unfold TB2 at T2 ⊢
              rw [e9, e9, e9, e9, e9, ← o 229 _ (by decide) (by decide), ← o 230 _ (by decide) (by decide), ← o 231 _ (by decide) (by decide), ← o 232 _ (by decide) (by decide), ← o 234 _ (by decide) (by decide)]
              exact T2
            · rw [e9, e9, e9, e9, ← o 233 _ (by decide) (by decide), ← o 235 _ (by decide) (by decide), ← o 236 _ (by decide) (by decide), ← o 237 _ (by decide) (by decide)]
              exact T42.2.2 j hj
          · rw [N44 160 98 (by omega) (by omega) (by omega) (by omega), N42 160 98 (by decide)]
            exact N40 160 98 (by decide) (by decide)
        have K : u44 160 99 = h 160 99 ∧ u44 160 138 = h 160 138 := by
          rw [N44 160 99 (by omega) (by omega) (by omega) (by omega), N44 160 138 (by omega) (by omega) (by omega) (by omega), N42 160 99 (by decide), N42 160 138 (by decide)]
          exact ⟨N40 160 99 (by decide) (by decide), N40 160 138 (by decide) (by decide)⟩
        refine ok_if (fun _ => pe_123 hn P K (fun y => absurd rfl y)) (fun y => pe_123 hn P K (fun _ => ⟨I44 (show u44 160 114 = -1 from Decidable.not_not.1 y), I49 (show u44 160 114 = -1 from Decidable.not_not.1 y)⟩))
      · refine ok_mul (by omega) ?_; intro v49 e49
        refine ok_add (by omega) ?_; intro v50 e50
        refine ok_rd (by omega) (gA_226 V') ?_; intro v51 e51 _ _
        refine ok_wA (by omega) ?_; intro h52 E52
        refine ok_add (by omega) ?_; intro v53 e53
        exact ih v53 h52 (by rw [E52]; exact wA_238 V' (by omega)) (fun x k a b => by rw [E52, up_n (fun y => a y.1)]; exact N x k a b) (by rw [E52, up_n (by omega)]; exact e) (by omega) (by omega)
  exact L nn 0 h61 (by rw [E61]; exact wF_160_113 V (by omega)) (fun x k a b => by rw [E61, up_n b]) (by rw [E61, up_s]) (by omega) (by omega)
theorem lx_patch2 (hn : 1000000 ≤ nn) (V : VS_ h) (S : SPD h) {a b d : Int} (ra : -2147483648 ≤ a ∧ a ≤ 2147483647) : Ok_ (qf_X13_patch nn a b d h) (QLE h) := by
  by_cases y : -2147483648 ≤ a - 8
  · exact lx_patch hn V S ⟨y, ra.2⟩
  · have g98 := gF_160_98 V
    have s := sub8 ra (by omega)
    unfold qf_X13_patch
    refine ok_xl ?_; intro v55 e55
    rw [← e55] at s
    refine ok_if (fun C => by exfalso; omega) (fun C => ?_)
    exact ok_if (fun _ => ok_ret ⟨⟨V, S, nl_rf⟩, kpt_rf⟩) (fun D => by exfalso; omega)
end
end
section
/-- THE CLASS'S CODE: bytes, methods and the places where instructions begin -/
theorem pc_ck {α : Type} {Q : α → Prop} {p : Prop} {d : Decidable p} {x : Option α} (h : p → Pc x Q) : Pc (ck_B p x) Q := fun r e => by
  obtain ⟨a, e⟩ := ck_i e
  exact h a r e
/-- byte p of Image b -/
def bt (h : ms_M) (b : Nat) (p : Int) : Int := if p < 0 then 0 else if h b 1 ≤ p then 0 else oq_and (h (h b 0).toNat p.toNat) 255
/-- what is told of method m -/
def mo (h : ms_M) (b : Nat) (m a : Int) : Int := if m < 0 then 0 else if h b 12 ≤ m then 0 else if 144 ≤ oq_add (oq_mul m 12) a then 0 else h (b + 6) (oq_add (oq_mul m 12) a).toNat
def tg (h : ms_M) (b : Nat) (k : Int) : Int := if k < 1 then 0 else if h b 7 < k then 0 else if 256 ≤ k then 0 else h (b + 2) k.toNat
def ta (h : ms_M) (b : Nat) (k : Int) : Int := if k < 1 then 0 else if h b 7 < k then 0 else if 256 ≤ k then 0 else h (b + 3) k.toNat
def pa (h : ms_M) (b : Nat) (k i : Int) : Int := if k < 1 then 0 else if h b 7 < k then 0 else if 256 ≤ k then 0 else bt h b (oq_add (h (b + 3) k.toNat) i)
def pr2 (h : ms_M) (b : Nat) (p : Int) : Int := oq_or (oq_shl (bt h b p) 8) (bt h b (oq_add p 1))
section
variable {nn b : Nat} {h g : ms_M}
theorem pv_byte {p : Int} : Pc (qf_X3_byteAt nn b p h) (fun u => u = bt h b p) := by
  unfold qf_X3_byteAt bt
  refine pc_if (fun c => pc_ret (by rw [if_pos c])) (fun c => ?_)
  refine pc_if (fun c2 => pc_ret (by rw [if_neg c, if_pos c2])) (fun c2 => ?_)
  refine pc_ck (fun _ => ?_)
  intro r e
  unfold rd_T at e
  split at e
  · simp only [xl_v] at e; cases e; rw [if_neg c, if_neg c2]
  · cases e
theorem pv_mo {m a : Int} : Pc (qf_X3_of nn b m a h) (fun u => u = mo h b m a) := by
  unfold qf_X3_of mo
  refine pc_xl (fun v1 e1 => ?_)
  refine pc_xl (fun v2 e2 => ?_)
  subst e1
  refine pc_if (fun c => pc_ret (by rw [if_pos c])) (fun c => ?_)
  refine pc_if (fun c2 => pc_ret (by rw [if_neg c, if_pos c2])) (fun c2 => ?_)
  refine pc_if (fun c3 => pc_ret (by rw [if_neg c, if_neg c2, ← e2, if_pos c3])) (fun c3 => ?_)
  refine pc_rA (fun _ _ v e => pc_ret ?_)
  rw [if_neg c, if_neg c2, ← e2, if_neg c3]; exact e
theorem pv_tag {k : Int} : Pc (qf_X3_tagOf nn b k h) (fun u => u = tg h b k) := by
  unfold qf_X3_tagOf tg
  refine pc_if (fun c => pc_ret (by rw [if_pos c])) (fun c => ?_)
  refine pc_if (fun c2 => pc_ret (by rw [if_neg c, if_pos c2])) (fun c2 => ?_)
  refine pc_if (fun c3 => pc_ret (by rw [if_neg c, if_neg c2, if_pos c3])) (fun c3 => ?_)
  refine pc_rA (fun _ _ v e => pc_ret ?_)
  rw [if_neg c, if_neg c2, if_neg c3]; exact e
theorem pv_textAt {k : Int} : Pc (qf_X3_textAt nn b k h) (fun u => u = ta h b k) := by
  unfold qf_X3_textAt ta
  refine pc_if (fun c => pc_ret (by rw [if_pos c])) (fun c => ?_)
  refine pc_if (fun c2 => pc_ret (by rw [if_neg c, if_pos c2])) (fun c2 => ?_)
  refine pc_if (fun c3 => pc_ret (by rw [if_neg c, if_neg c2, if_pos c3])) (fun c3 => ?_)
  refine pc_rA (fun _ _ v e => pc_ret ?_)
  rw [if_neg c, if_neg c2, if_neg c3]; exact e
theorem pv_part {k i : Int} : Pc (qf_X3_partOf nn b k i h) (fun u => u = pa h b k i) := by
  unfold qf_X3_partOf pa
  refine pc_if (fun c => pc_ret (by rw [if_pos c])) (fun c => ?_)
  refine pc_if (fun c2 => pc_ret (by rw [if_neg c, if_pos c2])) (fun c2 => ?_)
  refine pc_if (fun c3 => pc_ret (by rw [if_neg c, if_neg c2, if_pos c3])) (fun c3 => ?_)
  refine pc_rA (fun _ _ v e => ?_)
  refine pc_xl (fun v6 e6 => ?_)
  refine pc_sv pv_byte (fun u e8 => pc_ret ?_)
  rw [if_neg c, if_neg c2, if_neg c3, e8, e6, e]
theorem pv_pair {p : Int} : Pc (qf_X3_pairAt nn b p h) (fun u => u = pr2 h b p) := by
  unfold qf_X3_pairAt pr2
  refine pc_sv pv_byte (fun u2 e2 => ?_)
  refine pc_xl (fun v3 e3 => ?_)
  refine pc_xl (fun v4 e4 => ?_)
  refine pc_sv pv_byte (fun u6 e6 => ?_)
  refine pc_xl (fun v7 e7 => pc_ret ?_)
  rw [e7, e6, e3, e2, e4]
/-- Image b is the same in both -/
def IMQ (h g : ms_M) (b : Nat) : Prop := (∀ i k, (i ≤ 6 ∧ i ≠ 1) → g (b + i) k = h (b + i) k) ∧ ∀ k, g (h b 0).toNat k = h (h b 0).toNat k
theorem imq_refl : IMQ h h b := ⟨fun _ _ _ => rfl, fun _ => rfl⟩
theorem imq_tr {z : ms_M} (A : IMQ h g b) (B : IMQ g z b) : IMQ h z b := by
  have e : g b 0 = h b 0 := A.1 0 0 (by omega)
  refine ⟨fun i k q => by rw [B.1 i k q, A.1 i k q], fun k => ?_⟩
  have := B.2 k
  rw [e] at this
  rw [this, A.2 k]
theorem bt_q (A : IMQ h g b) (p : Int) : bt g b p = bt h b p := by
  unfold bt
  rw [show g b 1 = h b 1 from A.1 0 1 (by omega), show g b 0 = h b 0 from A.1 0 0 (by omega), A.2]
theorem mo_q (A : IMQ h g b) (m a : Int) : mo g b m a = mo h b m a := by
  unfold mo
  rw [show g b 12 = h b 12 from A.1 0 12 (by omega), A.1 6 _ (by omega)]
theorem tg_q (A : IMQ h g b) (k : Int) : tg g b k = tg h b k := by
  unfold tg
  rw [show g b 7 = h b 7 from A.1 0 7 (by omega), A.1 2 _ (by omega)]
theorem ta_q (A : IMQ h g b) (k : Int) : ta g b k = ta h b k := by
  unfold ta
  rw [show g b 7 = h b 7 from A.1 0 7 (by omega), A.1 3 _ (by omega)]
theorem pa_q (A : IMQ h g b) (k i : Int) : pa g b k i = pa h b k i := by
  unfold pa
  rw [show g b 7 = h b 7 from A.1 0 7 (by omega), A.1 3 _ (by omega), bt_q A]
theorem pr2_q (A : IMQ h g b) (p : Int) : pr2 g b p = pr2 h b p := by
  unfold pr2
  rw [bt_q A, bt_q A]
/-- Image b, and its bytes are a byte row -/
def VBb (h : ms_M) (b : Nat) : Prop := kc_O b = 3 ∧ ly_T (h b 0).toNat = 1
theorem vbb_of (V : VS_ h) (hb : kc_O b = 3) : VBb h b := ⟨hb, (V.2.2.1 b hb).1.2.2⟩
theorem vbb_q (A : IMQ h g b) (B : VBb h b) : VBb g b := ⟨B.1, by rw [show g b 0 = h b 0 from A.1 0 0 (by omega)]; exact B.2⟩
theorem is_I6 {b i : Nat} (hb : kc_O b = 3) (hi : i ≤ 6) : is_I (b + i) = true := by
  have h1 := List.all_eq_true.mp I_is b (List.mem_range.mpr (kc_lt hb (by decide)))
  rw [hb] at h1
  simp only [Nat.beq, Bool.not_true, Bool.false_or, Bool.and_eq_true] at h1
  obtain ⟨q0, q1, q2, q3, q4, q5, q6⟩ := h1
  rcases (by omega : i = 0 ∨ i = 1 ∨ i = 2 ∨ i = 3 ∨ i = 4 ∨ i = 5 ∨ i = 6) with z | z | z | z | z | z | z <;> subst z <;> assumption
theorem imq_fr {L : List Nat} {LF : List (Nat × Nat)} (B : VBb h b) (F : ∀ c k, nw_F L LF false false c k = true → g c k = h c k) (hc : (L.all (fun x => !(is_I x) && !(Nat.beq (ly_T x) 1)) && LF.all (fun q => !(is_I q.1) && !(Nat.beq (ly_T q.1) 1))) = true) : IMQ h g b := by
  rw [Bool.and_eq_true] at hc
  have K : ∀ c k, (is_I c = true ∨ ly_T c = 1) → g c k = h c k := by
    intro c k z
    refine F c k ?_
    have bad : ∀ x : Nat, x = c → (!(is_I x) && !(Nat.beq (ly_T x) 1)) = true → False := by
      rintro x rfl w
      rw [Bool.and_eq_true] at w
      rcases z with z | z
      · rw [z] at w; cases w.1
      · rw [z] at w; cases w.2
    unfold nw_F
    simp only [Bool.and_eq_true]
    refine ⟨?_, ?_, rfl, rfl⟩
    · cases hq : L.contains c with
      | false => rfl
      | true => exact (bad c rfl (List.all_eq_true.mp hc.1 c (List.contains_iff_mem.mp hq))).elim
    · cases hq : LF.contains (c, k) with
      | false => rfl
      | true => exact (bad c rfl (List.all_eq_true.mp hc.2 _ (List.contains_iff_mem.mp hq))).elim
  exact ⟨fun i k q => K _ k (.inl (is_I6 B.1 q.1)), fun k => K _ k (.inr B.2)⟩
theorem imq_up {c k : Nat} {v : Int} (B : VBb h b) (hc : (!(is_I c) && !(Nat.beq (ly_T c) 1)) = true) : IMQ h (up_M h c k v) b := by
  rw [Bool.and_eq_true] at hc
  refine ⟨fun i j q => up_n ?_, fun j => up_n ?_⟩
  · rintro ⟨rfl, -⟩
    have := is_I6 B.1 q.1
    rw [this] at hc; cases hc.1
  · rintro ⟨z, -⟩
    have := B.2
    rw [z] at this
    rw [this] at hc; cases hc.2
end
/-- kinds of instructions -/
def JMP (o : Int) : Prop := o = 153 ∨ o = 154 ∨ (159 ≤ o ∧ o ≤ 167)
def ARI (o : Int) : Prop := o = 96 ∨ o = 100 ∨ o = 104 ∨ o = 108 ∨ o = 112 ∨ o = 120 ∨ o = 122 ∨ o = 124 ∨ o = 126 ∨ o = 128 ∨ o = 130
def BAR (o : Int) : Prop := o = 46 ∨ o = 50 ∨ o = 79 ∨ o = 83 ∨ o = 87 ∨ o = 89 ∨ o = 116 ∨ o = 172 ∨ o = 176 ∨ o = 177 ∨ o = 186 ∨ o = 190 ∨ o = 191 ∨ ARI o
def TWO (o : Int) : Prop := o = 16 ∨ o = 18 ∨ o = 21 ∨ o = 25 ∨ o = 54 ∨ o = 58 ∨ o = 180 ∨ o = 181 ∨ o = 182 ∨ o = 184 ∨ o = 187 ∨ o = 188 ∨ o = 189 ∨ o = 192 ∨ o = 193
def LST (o : Int) : Prop := o = 167 ∨ o = 172 ∨ o = 176 ∨ o = 177 ∨ o = 191
/-- instruction o has w bytes -/
def WIo (o w : Int) : Prop := (w = 1 ∧ (o ≤ 8 ∨ BAR o)) ∨ (w = 3 ∧ JMP o) ∨ (w = 2 ∧ TWO o)
theorem wio_det {o v w : Int} (a : WIo o v) (b : WIo o w) : v = w := by
  unfold WIo BAR ARI JMP TWO at *; omega
section
variable {nn b : Nat} {h g : ms_M} {o : Int}
theorem pv_arith : Pc (qf_X11_isArithmetic nn o h) (fun u => (u = 1 ∧ ARI o) ∨ (u = 0 ∧ ¬ ARI o)) := by
  unfold qf_X11_isArithmetic qj_X11_isArithmetic_156 qj_X11_isArithmetic_158
  iterate 11 refine pc_if (fun c => pc_ret (by unfold ARI; omega)) (fun _ => ?_)
  exact pc_ret (by unfold ARI; omega)
theorem pv_jump : Pc (qf_X11_isJump nn o h) (fun u => (u = 1 ∧ JMP o) ∨ (u = 0 ∧ ¬ JMP o)) := by
  unfold qf_X11_isJump
  iterate 4 refine pc_if (fun c => pc_ret (by unfold JMP; omega)) (fun _ => ?_)
  exact pc_ret (by unfold JMP; omega)
theorem pv_last : Pc (qf_X11_isLast nn o h) (fun u => (u = 1 ∧ LST o) ∨ (u = 0 ∧ ¬ LST o)) := by
  unfold qf_X11_isLast
  iterate 5 refine pc_if (fun c => pc_ret (by unfold LST; omega)) (fun _ => ?_)
  exact pc_ret (by unfold LST; omega)
theorem pv_bare : Pc (qf_X11_isBare nn o h) (fun u => (u = 1 ∧ BAR o) ∨ (u = 0 ∧ ¬ BAR o)) := by
  unfold qf_X11_isBare qj_X11_isBare_116
  iterate 13 refine pc_if (fun c => pc_ret (by unfold BAR; omega)) (fun _ => ?_)
  refine pc_sv pv_arith (fun u q => ?_)
  refine pc_ck (fun _ => pc_ret ?_)
  rcases q with q | q
  · exact .inl ⟨q.1, by have := q.2; unfold BAR; unfold ARI at *; omega⟩
  · exact .inr ⟨q.1, by have := q.2; unfold BAR; unfold ARI at *; omega⟩
theorem pv_width : Pc (qf_X11_widthOf nn o h) (fun u => u = 0 ∨ WIo o u) := by
  unfold qf_X11_widthOf qj_X11_widthOf_156
  refine pc_if (fun c => pc_ret (.inr (.inl ⟨rfl, .inl c⟩))) (fun c => ?_)
  refine pc_sv pv_bare (fun u1 q1 => ?_)
  refine pc_if (fun z1 => ?_) (fun z1 => pc_ret (.inr (.inl ⟨rfl, .inr (q1.elim (fun q => q.2) (fun q => absurd q.1 z1))⟩)))
  refine pc_sv pv_jump (fun u2 q2 => ?_)
  refine pc_if (fun z2 => ?_) (fun z2 => pc_ret (.inr (.inr (.inl ⟨rfl, q2.elim (fun q => q.2) (fun q => absurd q.1 z2)⟩))))
  iterate 15 refine pc_if (fun c => pc_ret (.inr (.inr (.inr ⟨rfl, by unfold TWO; omega⟩)))) (fun _ => ?_)
  exact pc_ret (.inl rfl)
/-- byte p of the code that is being verified -/
def oc (h : ms_M) (p : Int) : Int := bt h (h 127 5).toNat (oq_add (mo h (h 127 5).toNat (h 127 6) 6) p)
/-- an instruction begins at p -/
def BGm (h : ms_M) (p : Int) : Prop := (0 ≤ p ∧ p < h 127 16) ∧ ¬ h 132 p.toNat = -2
def AIMv (h : ms_M) (p : Int) : Int := oq_add p (oq_s (oq_or (oq_shl (oc h (oq_add p 1)) 8) (oc h (oq_add p 2))))
theorem pv_info {a : Int} : Pc (qf_X11_info nn a h) (fun u => u = mo h (h 127 5).toNat (h 127 6) a) := by
  unfold qf_X11_info
  refine pc_ck (fun _ => pc_ck (fun _ => ?_))
  exact pc_sv pv_mo (fun u e => pc_ret e)
theorem pv_code {p : Int} : Pc (qf_X11_codeAt nn p h) (fun u => u = oc h p) := by
  unfold qf_X11_codeAt
  refine pc_ck (fun _ => pc_sv pv_info (fun u3 e3 => ?_))
  refine pc_xl (fun v4 e4 => pc_ck (fun _ => ?_))
  refine pc_sv pv_byte (fun u e => pc_ret ?_)
  rw [e, e4, e3]; rfl
theorem pv_aim {p : Int} : Pc (qf_X11_aimOf nn p h) (fun u => u = AIMv h p) := by
  unfold qf_X11_aimOf AIMv
  refine pc_xl (fun v1 e1 => pc_sv pv_code (fun u3 e3 => ?_))
  refine pc_xl (fun v4 e4 => pc_xl (fun v5 e5 => pc_sv pv_code (fun u7 e7 => ?_)))
  refine pc_xl (fun v8 e8 => pc_xl (fun v9 e9 => pc_xl (fun v10 e10 => pc_ret ?_)))
  rw [e10, e9, e8, e7, e5, e4, e3, e1]
theorem pv_begins {p : Int} : Pc (qf_X11_begins nn p h) (fun u => (u = 1 ∧ BGm h p) ∨ (u = 0 ∧ ¬ BGm h p)) := by
  unfold qf_X11_begins BGm
  refine pc_if (fun c => pc_ret (.inr ⟨rfl, by omega⟩)) (fun c => ?_)
  refine pc_if (fun c2 => pc_ret (.inr ⟨rfl, by omega⟩)) (fun c2 => ?_)
  refine pc_rA (fun _ _ v e => ?_)
  rw [← e]
  exact pc_if (fun c3 => pc_ret (.inr ⟨rfl, by omega⟩)) (fun c3 => pc_ret (.inl ⟨rfl, by omega⟩))
theorem pv_frameAt {p : Int} : Pc (qf_X11_frameAt nn p h) (fun u => u = -1 ∨ BGm h p) := by
  unfold qf_X11_frameAt
  refine pc_sv pv_begins (fun u e => ?_)
  refine pc_if (fun c => pc_ret (.inl rfl)) (fun c => ?_)
  have B : BGm h p := by
    rcases e with e | e
    · exact e.2
    · exact absurd e.1 c
  exact pc_rA (fun _ _ v e => pc_ret (.inr B))
/-- the same Image and method are being verified -/
def SAV (h g : ms_M) : Prop := (g 127 5 = h 127 5 ∧ g 127 6 = h 127 6 ∧ g 127 16 = h 127 16) ∧ IMQ h g (h 127 5).toNat
def VBv (h : ms_M) : Prop := VBb h (h 127 5).toNat
theorem vbv_of (V : VS_ h) : VBv h := vbb_of V (vi_r V).2.1.2
theorem vbv_q (A : SAV h g) (B : VBv h) : VBv g := by
  unfold VBv
  rw [A.1.1]; exact vbb_q A.2 B
theorem sav_refl : SAV h h := ⟨⟨rfl, rfl, rfl⟩, imq_refl⟩
theorem sav_tr {z : ms_M} (A : SAV h g) (B : SAV g z) : SAV h z := by
  refine ⟨⟨B.1.1.trans A.1.1, B.1.2.1.trans A.1.2.1, B.1.2.2.trans A.1.2.2⟩, imq_tr A.2 ?_⟩
  have := B.2
  rw [A.1.1] at this; exact this
theorem oc_q (A : SAV h g) (p : Int) : oc g p = oc h p := by
  unfold oc
  rw [A.1.1, A.1.2.1, mo_q A.2, bt_q A.2]
theorem aim_q (A : SAV h g) (p : Int) : AIMv g p = AIMv h p := by
  unfold AIMv
  rw [oc_q A, oc_q A]
theorem bgm_q (A : SAV h g) (hm : ∀ k, g 132 k = h 132 k) (p : Int) : BGm g p ↔ BGm h p := by
  unfold BGm
  rw [A.1.2.2, hm]
theorem sav_fr {L : List Nat} {LF : List (Nat × Nat)} (B : VBv h) (F : ∀ c k, nw_F L LF false false c k = true → g c k = h c k) (hc : ((L.all (fun x => !(is_I x) && !(Nat.beq (ly_T x) 1)) && LF.all (fun q => !(is_I q.1) && !(Nat.beq (ly_T q.1) 1))) && (nw_F L LF false false 127 5 && (nw_F L LF false false 127 6 && nw_F L LF false false 127 16))) = true) : SAV h g := by
  rw [Bool.and_eq_true, Bool.and_eq_true (nw_F L LF false false 127 5), Bool.and_eq_true (nw_F L LF false false 127 6)] at hc
  exact ⟨⟨F _ _ hc.2.1, F _ _ hc.2.2.1, F _ _ hc.2.2.2⟩, imq_fr B F hc.1⟩
theorem sav_up {c k : Nat} {v : Int} (B : VBv h) (hc : ((!(is_I c) && !(Nat.beq (ly_T c) 1)) && !(Nat.beq c 127)) = true) : SAV h (up_M h c k v) := by
  rw [Bool.and_eq_true] at hc
  have n : ∀ j : Nat, ¬ (127 = c ∧ j = k) := by
    rintro j ⟨rfl, -⟩; cases hc.2
  exact ⟨⟨up_n (n 5), up_n (n 6), up_n (n 16)⟩, imq_up B hc.1⟩
end
end
section
/- WHAT THE VERIFIER OF THE CLASS TELLS OF THE CODE OF A METHOD -/
section
variable {nn : Nat} {h g : ms_M}
/-- the instructions below pc follow each other -/
def CHn2 (h : ms_M) (pc : Int) : Prop := (∀ q, BGm h q → q < pc ∧ ∃ w, WIo (oc h q) w ∧ q + w ≤ pc ∧ (q + w = pc ∨ BGm h (q + w)) ∧ ∀ r, q < r → r < q + w → ¬ BGm h r) ∧ (pc = 0 ∨ BGm h 0)
theorem wio_r {o w : Int} (a : WIo o w) : 1 ≤ w ∧ w ≤ 3 := by
  unfold WIo at a; rcases a with ⟨a, -⟩ | ⟨a, -⟩ | ⟨a, -⟩ <;> omega
theorem chn2_st {pc w : Int} (V : VBv h) (C : CHn2 h pc) (h0 : 0 ≤ pc) (hL : pc < h 127 16) (hw : WIo (oc h pc) w) : CHn2 (up_M h 132 pc.toNat (-1)) (pc + w) := by
  have S : SAV h (up_M h 132 pc.toNat (-1)) := sav_up V rfl
  have hr := wio_r hw
  have B : ∀ q, BGm (up_M h 132 pc.toNat (-1)) q ↔ (BGm h q ∨ q = pc) := by
    intro q
    unfold BGm
    rw [S.1.2.2]
    by_cases e : q = pc
    · subst e
      rw [up_s]
      exact ⟨fun _ => .inr rfl, fun _ => ⟨⟨h0, hL⟩, by decide⟩⟩
    · constructor
      · rintro ⟨a, b⟩
        rw [up_n (by rintro ⟨-, z⟩; exact e (by omega))] at b
        exact .inl ⟨a, b⟩
      · rintro (⟨a, b⟩ | z)
        · exact ⟨a, by rw [up_n (by rintro ⟨-, z⟩; exact e (by omega))]; exact b⟩
        · exact absurd z e
  refine ⟨fun q hq => ?_, .inr ?_⟩
  · rw [oc_q S]
    rcases (B q).1 hq with z | z
    · obtain ⟨c1, v, c2, c3, c4, c5⟩ := C.1 q z
      refine ⟨by omega, v, c2, by omega, .inr ((B _).2 ?_), fun r r1 r2 k => ?_⟩
      · rcases c4 with c4 | c4
        · exact .inr c4
        · exact .inl c4
      · rcases (B r).1 k with k | k
        · exact c5 r r1 r2 k
        · omega
    · subst z
      refine ⟨by omega, w, hw, by omega, .inl rfl, fun r r1 r2 k => ?_⟩
      rcases (B r).1 k with k | k
      · have := (C.1 r k).1; omega
      · omega
  · rcases C.2 with z | z
    · exact (B 0).2 (.inr z.symm)
    · exact (B 0).2 (.inl z)
theorem pi_33 : ∀ (k : Nat) (pc : Int) {h : ms_M}, VBv h → CHn2 h pc → (0 ≤ pc ∧ pc ≤ 1500) → (pc ≤ h 127 16 ∨ pc = 0) → h 127 16 ≤ 1500 → Pc (qw_X11_proveInstructions_33 nn k pc h) (fun r => r.1 = 0 → VBv r.2 ∧ r.2 127 16 ≤ 1500 ∧ (r.2 127 16 ≤ 0 ∨ CHn2 r.2 (r.2 127 16))) := by
  intro k
  induction k with
  | zero => intro pc h V C r0 hL h5; exact pc_none
  | succ k ih =>
    intro pc h V C r0 hL h5
    have bad : Pc (qj_X11_proveInstructions_64 nn pc h) (fun r => r.1 = 0 → VBv r.2 ∧ r.2 127 16 ≤ 1500 ∧ (r.2 127 16 ≤ 0 ∨ CHn2 r.2 (r.2 127 16))) := by
      intro r e z
      unfold qj_X11_proveInstructions_64 qf_X11_at at e
      rw [xl_eq] at e
      obtain ⟨u, e1, e⟩ := sv_i e
      cases e1; cases e
      exact absurd z (show ¬ (6 : Int) = 0 by decide)
    unfold qw_X11_proveInstructions_33
    refine pc_if (fun c => pc_ret (fun _ => ⟨V, h5, ?_⟩)) (fun c => ?_)
    · rcases hL with z | z
      · right
        show CHn2 h (h 127 16)
        rw [show h 127 16 = pc by omega]; exact C
      · left; show h 127 16 ≤ 0; omega
    refine pc_sv pv_code (fun u5 e5 => ?_)
    refine pc_sv pv_width (fun u6 e6 => ?_)
    refine pc_if (fun _ => bad) (fun c6 => ?_)
    have hw : WIo (oc h pc) u6 := by rw [← e5]; exact e6.resolve_left c6
    have hr := wio_r hw
    refine pc_add (by omega) (fun v7 e7 => ?_)
    refine pc_if (fun c7 => ?_) (fun _ => bad)
    refine pc_wA (fun _ _ h10 e10 => ?_)
    refine pc_add (by omega) (fun v11 e11 => ?_)
    have S : SAV h h10 := by rw [e10]; exact sav_up V rfl
    refine ih v11 (vbv_q S V) ?_ (by omega) (.inl (by rw [S.1.2.2]; omega)) (by rw [S.1.2.2]; exact h5)
    rw [e10, e11]
    exact chn2_st V C (by omega) (by omega) hw
/-- a method's chain -/
def PIr (h : ms_M) : Prop := VBv h ∧ h 127 16 ≤ 1500 ∧ (h 127 16 ≤ 0 ∨ CHn2 h (h 127 16))
theorem pi_all (V : VBv h) : Pc (qf_X11_proveInstructions nn h) (fun r => r.1 = 0 → PIr r.2) := by
  unfold qf_X11_proveInstructions
  refine pc_se (fun u16 e16 => ?_)
  refine pc_xl (fun v19 e19 => ?_)
  refine pc_xl (fun h20 e20 => ?_)
  refine pc_se (fun u23 e23 => ?_)
  have b : v19 ≤ 1500 := by rw [e19]; split <;> omega
  have l20 : h20 127 16 = v19 := by rw [e20, up_s]
  have A : IMQ h h20 (h 127 5).toNat := by rw [e20]; exact imq_up V rfl
  have V20 : VBv h20 := by
    unfold VBv
    rw [show h20 127 5 = h 127 5 by rw [e20]; exact up_n (by omega)]
    exact vbb_q A V
  have F := (ff_J7_fill_fda19 nn) _ e23
  have S : SAV h20 u23 := by
    refine ⟨⟨F 127 5 (show 127 ≠ 132 by decide), F 127 6 (show 127 ≠ 132 by decide), F 127 16 (show 127 ≠ 132 by decide)⟩, fun i k q => F _ _ ?_, fun k => F _ _ ?_⟩
    · intro z
      have := is_I6 V20.1 q.1
      rw [z] at this; cases this
    · intro z
      have := V20.2
      rw [z] at this; cases this
  have V23 := vbv_q S V20
  have l23 : u23 127 16 = v19 := S.1.2.2.trans l20
  have M := fr_v (show h20 127 16 ≤ 100000 by omega) e23
  have N : ∀ q, ¬ BGm u23 q := by
    rintro q ⟨⟨q0, q1⟩, q2⟩
    exact q2 (M q.toNat (by omega))
  refine pc_imp (pi_33 nn 0 V23 ⟨fun q hq => absurd hq (N q), .inl rfl⟩ (by omega) (.inr rfl) (by omega)) (fun r q => q)
/-- the aims of jumps begin an instruction -/
def JOK (h : ms_M) : Prop := ∀ q, BGm h q → JMP (oc h q) → BGm h (AIMv h q)
theorem pj_2 : ∀ (k : Nat) (pc : Int), 0 ≤ pc → h 127 16 ≤ 1500 → (∀ q, q < pc → BGm h q → JMP (oc h q) → BGm h (AIMv h q)) → Pc (qw_X11_proveJumps_2 nn k pc h) (fun r => r.1 = 0 → r.2 = h ∧ JOK h) := by
  intro k
  induction k with
  | zero => intro pc h0 h5 C; exact pc_none
  | succ k ih =>
    intro pc h0 h5 C
    unfold qw_X11_proveJumps_2
    refine pc_if (fun c => pc_ret (fun _ => ⟨rfl, fun q hq => C q (by have := hq.1.2; omega) hq⟩)) (fun c => ?_)
    have nx : (BGm h pc → JMP (oc h pc) → BGm h (AIMv h pc)) → Pc (xl (oq_add pc 1) fun v4 => qw_X11_proveJumps_2 nn k v4 h) (fun r => r.1 = 0 → r.2 = h ∧ JOK h) := by
      intro z
      refine pc_add (by omega) (fun v e => ih v (by omega) h5 (fun q hq => ?_))
      by_cases q2 : q = pc
      · subst q2; exact z
      · exact C q (by omega)
    refine pc_sv pv_begins (fun u3 e3 => ?_)
    refine pc_if (fun z => nx (fun b => absurd b ?_)) (fun z => ?_)
    · rcases e3 with e | e
      · omega
      · exact e.2
    refine pc_sv pv_code (fun u6 e6 => pc_sv pv_jump (fun u7 e7 => ?_))
    rw [e6] at e7
    refine pc_if (fun z2 => nx (fun _ b => absurd b ?_)) (fun z2 => ?_)
    · rcases e7 with e | e
      · omega
      · exact e.2
    refine pc_sv pv_aim (fun u10 e10 => pc_sv pv_begins (fun u12 e12 => ?_))
    refine pc_if (fun z3 => nx (fun _ _ => ?_)) (fun z3 => ?_)
    · rw [← e10]
      rcases e12 with e | e
      · exact e.2
      · exact absurd e.1 z3
    · intro r e z4
      unfold qf_X11_at at e
      rw [xl_eq] at e
      obtain ⟨u, e1, e⟩ := sv_i e
      cases e1; cases e
      exact absurd z4 (show ¬ (7 : Int) = 0 by decide)
theorem pj_all (h5 : h 127 16 ≤ 1500) : Pc (qf_X11_proveJumps nn h) (fun r => r.1 = 0 → r.2 = h ∧ JOK h) :=
  pj_2 nn 0 (by omega) h5 (fun q z b => by have := b.1.1; omega)
/-- the FRAMES leave where instructions begin -/
def TFR (h g : ms_M) : Prop := SAV h g ∧ ∀ q, BGm g q ↔ BGm h q
theorem tfr_refl : TFR h h := ⟨sav_refl, fun _ => Iff.rfl⟩
theorem tfr_tr {z : ms_M} (A : TFR h g) (B : TFR g z) : TFR h z := ⟨sav_tr A.1 B.1, fun q => (B.2 q).trans (A.2 q)⟩
theorem tfr_fr {L : List Nat} {LF : List (Nat × Nat)} (B : VBv h) (F : ∀ c k, nw_F L LF false false c k = true → g c k = h c k) (hc : ((L.all (fun x => !(is_I x) && !(Nat.beq (ly_T x) 1)) && LF.all (fun q => !(is_I q.1) && !(Nat.beq (ly_T q.1) 1))) && (nw_F L LF false false 127 5 && (nw_F L LF false false 127 6 && nw_F L LF false false 127 16))) = true) (hm : (!(L.contains 132) && (LF.all (fun q => !(Nat.beq q.1 132)) && ((!false || !(is_I 132)) && (!false || !(Nat.beq (ly_T 132) 1))))) = true) : TFR h g := by
  have S := sav_fr B F hc
  exact ⟨S, bgm_q S (fun k => F _ _ (nw_ar hm k))⟩
theorem tfr_up {c k : Nat} {v : Int} (B : VBv h) (hc : (((!(is_I c) && !(Nat.beq (ly_T c) 1)) && !(Nat.beq c 127)) && !(Nat.beq c 132)) = true) : TFR h (up_M h c k v) := by
  rw [Bool.and_eq_true] at hc
  have S : SAV h (up_M h c k v) := sav_up B hc.1
  refine ⟨S, bgm_q S (fun j => up_n ?_)⟩
  rintro ⟨rfl, -⟩; cases hc.2
theorem tfr_m {j v : Int} (B : VBv h) (hj : 0 ≤ j) (h1 : h 132 j.toNat = -1) (hv : ¬ v = -2) : TFR h (up_M h 132 j.toNat v) := by
  have S : SAV h (up_M h 132 j.toNat v) := sav_up B rfl
  refine ⟨S, fun q => ?_⟩
  unfold BGm
  rw [S.1.2.2]
  by_cases e : q.toNat = j.toNat
  · rw [e, up_s, h1]
    exact ⟨fun z => ⟨z.1, by decide⟩, fun z => ⟨z.1, hv⟩⟩
  · rw [up_n (by omega)]
theorem tf_9m {l1 : Int} : ∀ (k : Nat) (l2 l3 : Int) {h : ms_M}, VBv h → 0 ≤ l3 → l3 ≤ 3000 → Pc (qw_X11_takeFrames_9 nn k l1 l2 l3 h) (fun r => TFR h r) := by
  intro k
  induction k with
  | zero => intro l2 l3 h V r3 r4; exact pc_none
  | succ k ih =>
    intro l2 l3 h V r3 r4
    unfold qw_X11_takeFrames_9
    refine pc_se (fun u2 e2 => ?_)
    refine pc_if (fun _ => pc_ret tfr_refl) (fun c2 => ?_)
    refine pc_if (fun _ => pc_ret tfr_refl) (fun c3 => ?_)
    refine pc_xl (fun v3 e3 => pc_ck (fun _ => pc_ck (fun _ => ?_)))
    refine pc_se (fun u6 e6 => ?_)
    refine pc_wA (fun q1 q2 h8 e8 => ?_)
    have l3b : l3 < 2999 := by
      by_cases z : l3 < 2999
      · exact z
      · exfalso
        rw [e3, oq_mul_eq (by omega) (by omega) (by omega)] at q2; omega
    have T8 : TFR h h8 := by rw [e8]; exact tfr_up V rfl
    have V8 := vbv_q T8.1 V
    refine pc_xl (fun v10 e10 => pc_ck (fun _ => pc_xl (fun v12 e12 => pc_ck (fun _ => pc_se (fun u14 e14 => ?_)))))
    refine pc_wA (fun _ _ h15 e15 => ?_)
    have T15 : TFR h8 h15 := by rw [e15]; exact tfr_up V8 rfl
    have V15 := vbv_q T15.1 V8
    refine pc_xl (fun v16 e16 => pc_xl (fun v17 e17 => pc_se (fun u19 e19 => ?_)))
    have T19 : TFR h15 u19.2 := tfr_fr V15 (fun c k w => (ff_X11_takeTypes nn) _ e19 c k w) rfl rfl
    have V19 := vbv_q T19.1 V15
    refine pc_xl (fun v21 e21 => pc_ck (fun _ => pc_ck (fun _ => pc_se (fun u24 e24 => ?_))))
    refine pc_wA (fun _ _ h25 e25 => ?_)
    have T25 : TFR u19.2 h25 := by rw [e25]; exact tfr_up V19 rfl
    have V25 := vbv_q T25.1 V19
    refine pc_xl (fun v26 e26 => pc_se (fun u28 e28 => ?_))
    have T28 : TFR h25 u28.2 := tfr_fr V25 (fun c k w => (ff_X11_takeTypes nn) _ e28 c k w) rfl rfl
    have V28 := vbv_q T28.1 V25
    have T : TFR h u28.2 := tfr_tr T8 (tfr_tr T15 (tfr_tr T19 (tfr_tr T25 T28)))
    refine pc_se (fun u30 e30 => ?_)
    refine pc_if (fun _ => ?_) (fun c30 => ?_)
    · exact pc_add (by omega) (fun v e => pc_imp (ih _ v V28 (by omega) (by omega)) (fun r q => tfr_tr T q))
    refine pc_rA (fun j0 j1 v33 e33 => ?_)
    refine pc_if (fun _ => ?_) (fun c33 => ?_)
    · exact pc_add (by omega) (fun v e => pc_imp (ih _ v V28 (by omega) (by omega)) (fun r q => tfr_tr T q))
    refine pc_wA (fun _ _ h36 e36 => ?_)
    have T36 : TFR u28.2 h36 := by rw [e36]; exact tfr_m V28 j0 (by omega) (by omega)
    exact pc_add (by omega) (fun v e => pc_imp (ih _ v (vbv_q T36.1 V28) (by omega) (by omega)) (fun r q => tfr_tr T (tfr_tr T36 q)))
theorem tf_m {a1 : Int} (V : VBv h) : Pc (qf_X11_takeFrames nn a1 h) (fun r => TFR h r) := by
  unfold qf_X11_takeFrames
  exact pc_se (fun u e => tf_9m nn _ 0 V (by omega) (by omega))
/-- handler x is at .. -/
def HDv (h : ms_M) (b : Nat) (m x : Int) : Int := pr2 h b (oq_add (oq_add (mo h b m 8) (oq_mul x 7)) 4)
def HOK (h : ms_M) : Prop := ∀ x : Int, 0 ≤ x → x < mo h (h 127 5).toNat (h 127 6) 7 → BGm h (HDv h (h 127 5).toNat (h 127 6) x)
theorem pv_handler {x : Int} : Pc (qf_X11_handler nn x 4 h) (fun u => u = HDv h (h 127 5).toNat (h 127 6) x) := by
  unfold qf_X11_handler HDv
  refine pc_ck (fun _ => pc_sv pv_info (fun u3 e3 => ?_))
  refine pc_xl (fun v4 e4 => pc_xl (fun v5 e5 => pc_xl (fun v6 e6 => pc_ck (fun _ => pc_sv pv_pair (fun u8 e8 => pc_ret ?_)))))
  rw [e8, e6, e5, e4, e3]
theorem ph_2 : ∀ (k : Nat) (x : Int), 0 ≤ x → x ≤ 100000 → (∀ y : Int, 0 ≤ y → y < x → BGm h (HDv h (h 127 5).toNat (h 127 6) y)) → Pc (qw_X11_proveHandlers_2 nn k x h) (fun r => mo h (h 127 5).toNat (h 127 6) 7 ≤ 20 → r.1 = 0 → r.2 = h ∧ HOK h) := by
  intro k
  induction k with
  | zero => intro x h0 h5 C; exact pc_none
  | succ k ih =>
    intro x h0 h5 C
    have bad : Pc (qj_X11_proveHandlers_100 nn x h) (fun r => mo h (h 127 5).toNat (h 127 6) 7 ≤ 20 → r.1 = 0 → r.2 = h ∧ HOK h) := by
      intro r e _ z
      unfold qj_X11_proveHandlers_100 qf_X11_at at e
      rw [xl_eq] at e
      obtain ⟨u, e1, e⟩ := sv_i e
      cases e1; cases e
      exact absurd z (show ¬ (8 : Int) = 0 by decide)
    have j68 : ∀ s a : Int, a = HDv h (h 127 5).toNat (h 127 6) x → x < mo h (h 127 5).toNat (h 127 6) 7 → Pc (qj_X11_proveHandlers_68 nn (qw_X11_proveHandlers_2 nn k) x a s h) (fun r => mo h (h 127 5).toNat (h 127 6) 7 ≤ 20 → r.1 = 0 → r.2 = h ∧ HOK h) := by
      intro s a ea hx
      unfold qj_X11_proveHandlers_68
      refine pc_if (fun _ => bad) (fun _ => ?_)
      refine pc_sv pv_frameAt (fun u4 e4 => ?_)
      refine pc_if (fun _ => bad) (fun c4 => ?_)
      have B : BGm h a := e4.resolve_left (by omega)
      refine pc_se (fun u7 _ => pc_se (fun u9 _ => ?_))
      refine pc_if (fun _ => ?_) (fun _ => bad)
      by_cases hm : mo h (h 127 5).toNat (h 127 6) 7 ≤ 20
      · refine pc_add (by omega) (fun v e => ih v (by omega) (by omega) (fun y y0 y1 => ?_))
        by_cases z : y = x
        · rw [z, ← ea]; exact B
        · exact C y y0 (by omega)
      · intro r _ z; exact absurd z hm
    have j67 : ∀ a : Int, Pc (qj_X11_proveHandlers_67 nn (qw_X11_proveHandlers_2 nn k) x a h) (fun r => mo h (h 127 5).toNat (h 127 6) 7 ≤ 20 → r.1 = 0 → r.2 = h ∧ HOK h) := by
      intro a
      unfold qj_X11_proveHandlers_67 qj_X11_proveHandlers_68
      exact pc_if (fun _ => bad) (fun z => absurd rfl z)
    have j58 : ∀ f t a : Int, a = HDv h (h 127 5).toNat (h 127 6) x → x < mo h (h 127 5).toNat (h 127 6) 7 → Pc (qj_X11_proveHandlers_58 nn (qw_X11_proveHandlers_2 nn k) x f t a h) (fun r => mo h (h 127 5).toNat (h 127 6) 7 ≤ 20 → r.1 = 0 → r.2 = h ∧ HOK h) := by
      intro f t a ea hx
      unfold qj_X11_proveHandlers_58
      exact pc_if (fun _ => j67 a) (fun _ => j68 1 a ea hx)
    unfold qw_X11_proveHandlers_2
    refine pc_sv pv_info (fun u16 e16 => ?_)
    refine pc_if (fun c => pc_ret (fun _ _ => ⟨rfl, fun y y0 y1 => C y y0 (by omega)⟩)) (fun c => ?_)
    have hx : x < mo h (h 127 5).toNat (h 127 6) 7 := by omega
    refine pc_se (fun u18 _ => pc_se (fun u20 _ => pc_sv pv_handler (fun u22 e22 => pc_se (fun u24 _ => ?_))))
    refine pc_if (fun _ => j67 u22) (fun _ => pc_se (fun u26 _ => ?_))
    refine pc_if (fun _ => j58 _ _ _ e22 hx) (fun _ => ?_)
    exact pc_if (fun _ => j67 u22) (fun _ => j58 _ _ _ e22 hx)
theorem ph_all : Pc (qf_X11_proveHandlers nn h) (fun r => mo h (h 127 5).toNat (h 127 6) 7 ≤ 20 → r.1 = 0 → r.2 = h ∧ HOK h) :=
  ph_2 nn 0 (by omega) (by omega) (fun y a b => by omega)
end
end
section
/- WHAT THE VERIFIER OF THE CLASS TELLS OF THE STATES, AND OF ALL METHODS -/
section
variable {nn : Nat} {h g : ms_M}
/-- constant k of Image b is a field's MEMBER -/
def CRf (h : ms_M) (b : Nat) (k : Int) : Prop := tg h b k = 4 ∧ ¬ bt h b (ta h b (pa h b k 2)) = 40
theorem crf_q {b : Nat} {k : Int} (A : IMQ h g b) : CRf g b k ↔ CRf h b k := by
  unfold CRf
  rw [tg_q A, bt_q A, ta_q A, pa_q A]
theorem pv_memberRight {o k : Int} (ho : o = 180 ∨ o = 181) : Pc (qf_X11_isMemberRight nn o k h) (fun u => ¬ u = 0 → CRf h (h 127 5).toNat k) := by
  have j56 : ∀ l3 s : Int, Pc (qj_X11_isMemberRight_56 nn o l3 s h) (fun u => ¬ u = 0 → l3 = 0 ∧ ¬ s = -1) := by
    intro l3 s
    unfold qj_X11_isMemberRight_56
    refine pc_se (fun u12 e12 => ?_)
    refine pc_if (fun _ => pc_ret (fun z => absurd rfl z)) (fun c => ?_)
    have hs : ¬ s = -1 := by
      intro z
      rw [z] at e12
      unfold qf_X7_imageOfMember at e12
      rw [if_pos (by decide)] at e12
      cases e12
      exact c (by decide)
    refine pc_if (fun _ => ?_) (fun c2 => by omega)
    unfold qj_X11_isMemberRight_87
    refine pc_if (fun z => ?_) (fun _ => pc_ret (fun z => absurd rfl z))
    exact fun r _ _ => ⟨z, hs⟩
  have j33 : ∀ l3 : Int, Pc (qj_X11_isMemberRight_33 nn o k l3 h) (fun u => ¬ u = 0 → l3 = 0 ∧ tg h (h 127 5).toNat k = 4) := by
    intro l3
    unfold qj_X11_isMemberRight_33
    refine pc_ck (fun _ => pc_ck (fun _ => pc_sv pv_tag (fun u18 e18 => ?_)))
    refine pc_if (fun _ => pc_imp (j56 l3 (-1)) (fun u q z => absurd rfl (q z).2)) (fun c => ?_)
    refine pc_rA (fun _ _ v20 _ => pc_imp (j56 l3 v20) (fun u q z => ⟨(q z).1, ?_⟩))
    rw [← e18]; exact Decidable.not_not.1 c
  unfold qf_X11_isMemberRight
  refine pc_ck (fun _ => pc_ck (fun _ => pc_ck (fun _ => pc_ck (fun _ => pc_sv pv_part (fun u26 e26 => pc_sv pv_textAt (fun u28 e28 => pc_sv pv_byte (fun u30 e30 => ?_)))))))
  refine pc_if (fun c => ?_) (fun c => ?_)
  · exact pc_imp (j33 0) (fun u q z => ⟨(q z).2, by rw [← e26, ← e28, ← e30]; exact c⟩)
  · exact pc_imp (j33 1) (fun u q z => absurd (q z).1 (by decide))
theorem pv_constRight {o k : Int} : Pc (qf_X11_isConstantRight nn o k h) (fun u => ¬ u = 0 → (o = 180 ∨ o = 181) → CRf h (h 127 5).toNat k) := by
  have j : (o = 180 ∨ o = 181) → Pc (qj_X11_isConstantRight_152 nn o k h) (fun u => ¬ u = 0 → (o = 180 ∨ o = 181) → CRf h (h 127 5).toNat k) := by
    intro ho
    unfold qj_X11_isConstantRight_152
    exact pc_sv (pv_memberRight ho) (fun u q => pc_ck (fun _ => pc_ret (fun z _ => q z)))
  unfold qf_X11_isConstantRight
  refine pc_if (fun c => fun r _ _ z => by omega) (fun _ => ?_)
  refine pc_if (fun c => j (.inl c)) (fun c1 => ?_)
  refine pc_if (fun c => j (.inr c)) (fun c2 => ?_)
  exact fun r _ _ z => by omega
theorem pv_state {pc o re : Int} (V : VBv h) : Pc (qf_X11_proveState nn pc o re h) (fun r => r.1 = 0 → (o = 180 ∨ o = 181) → CRf h (h 127 5).toNat (oc h (oq_add pc 1))) := by
  have j46 : ∀ {z : ms_M}, SAV h z → Pc (qj_X11_proveState_46 nn pc o z) (fun r => r.1 = 0 → (o = 180 ∨ o = 181) → CRf h (h 127 5).toNat (oc h (oq_add pc 1))) := by
    intro z S
    unfold qj_X11_proveState_46
    refine pc_se (fun u6 _ => ?_)
    refine pc_if (fun _ => ?_) (fun _ => pc_ret (fun z => absurd z (show ¬ (12 : Int) = 0 by decide)))
    refine pc_xl (fun v7 e7 => pc_sv pv_code (fun u9 e9 => pc_sv pv_constRight (fun u11 q11 => ?_)))
    refine pc_if (fun c => ?_) (fun _ => pc_ret (fun z => absurd z (show ¬ (11 : Int) = 0 by decide)))
    intro r _ _ ho
    have q := q11 c ho
    rw [e9, e7, oc_q S, S.1.1] at q
    exact (crf_q S.2).1 q
  have j40 : ∀ l4 : Int, Pc (qj_X11_proveState_40 nn pc o l4 h) (fun r => r.1 = 0 → (o = 180 ∨ o = 181) → CRf h (h 127 5).toNat (oc h (oq_add pc 1))) := by
    intro l4
    unfold qj_X11_proveState_40
    exact pc_se (fun u30 e30 => j46 (sav_fr V (fun c k w => (ff_X11_takeFrame nn) _ e30 c k w) rfl))
  have j19 : ∀ l4 : Int, Pc (qj_X11_proveState_19 nn pc o re l4 h) (fun r => r.1 = 0 → (o = 180 ∨ o = 181) → CRf h (h 127 5).toNat (oc h (oq_add pc 1))) := by
    intro l4
    unfold qj_X11_proveState_19
    refine pc_if (fun _ => j46 sav_refl) (fun _ => ?_)
    refine pc_if (fun _ => j40 l4) (fun _ => pc_se (fun u _ => ?_))
    exact pc_if (fun _ => j40 l4) (fun _ => pc_ret (fun z => absurd z (show ¬ (12 : Int) = 0 by decide)))
  unfold qf_X11_proveState
  refine pc_se (fun u _ => ?_)
  refine pc_if (fun _ => j19 u) (fun _ => ?_)
  exact pc_if (fun _ => j19 u) (fun _ => pc_ret (fun z => absurd z (show ¬ (10 : Int) = 0 by decide)))
theorem pv_width0 {o w : Int} : Pc (qf_X11_widthOf nn o h) (fun u => u = 0 → ¬ WIo o w) := by
  unfold qf_X11_widthOf qj_X11_widthOf_156
  refine pc_if (fun c => pc_ret (fun z => absurd z (by decide))) (fun c => ?_)
  refine pc_sv pv_bare (fun u1 q1 => ?_)
  refine pc_if (fun z1 => ?_) (fun z1 => pc_ret (fun z => absurd z (by decide)))
  refine pc_sv pv_jump (fun u2 q2 => ?_)
  refine pc_if (fun z2 => ?_) (fun z2 => pc_ret (fun z => absurd z (by decide)))
  iterate 15 refine pc_if (fun c => pc_ret (fun z => absurd z (by decide))) (fun _ => ?_)
  refine pc_ret (fun _ k => ?_)
  rcases k with ⟨-, k | k⟩ | ⟨-, k⟩ | ⟨-, k⟩
  · omega
  · rcases q1 with q | q
    · omega
    · exact q.2 k
  · rcases q2 with q | q
    · omega
    · exact q.2 k
  · unfold TWO at k; omega
/-- what the states tell -/
def STv (h : ms_M) : Prop := 0 < h 127 16 ∧ ∀ q, BGm h q → ((oc h q = 180 ∨ oc h q = 181) → CRf h (h 127 5).toNat (oc h (q + 1))) ∧ ∀ w, WIo (oc h q) w → q + w = h 127 16 → LST (oc h q)
def STi (h : ms_M) (pc re : Int) : Prop := (∀ q, BGm h q → q < pc → ((oc h q = 180 ∨ oc h q = 181) → CRf h (h 127 5).toNat (oc h (q + 1))) ∧ ∀ w, WIo (oc h q) w → q + w = pc → re = 0 → LST (oc h q)) ∧ (re = 0 → 0 < pc)
theorem sti_q {pc re : Int} (T : TFR h g) (S : STi h pc re) : STi g pc re := by
  refine ⟨fun q hq hl => ?_, S.2⟩
  rw [oc_q T.1, T.1.1.1, oc_q T.1, crf_q T.1.2]
  exact S.1 q ((T.2 q).1 hq) hl
theorem chn2_q {pc : Int} (T : TFR h g) (C : CHn2 h pc) : CHn2 g pc := by
  refine ⟨fun q hq => ?_, ?_⟩
  · rw [oc_q T.1]
    obtain ⟨c1, w, c2, c3, c4, c5⟩ := C.1 q ((T.2 q).1 hq)
    refine ⟨c1, w, c2, c3, c4.imp id (fun z => (T.2 _).2 z), fun r r1 r2 z => c5 r r1 r2 ((T.2 r).1 z)⟩
  · exact C.2.imp id (fun z => (T.2 _).2 z)
theorem stv_q (T : TFR h g) (S : STv h) : STv g := by
  refine ⟨by rw [T.1.1.2.2]; exact S.1, fun q hq => ?_⟩
  rw [oc_q T.1, T.1.1.1, oc_q T.1, crf_q T.1.2, T.1.1.2.2]
  exact S.2 q ((T.2 q).1 hq)
theorem ps_4 : ∀ (k : Nat) (re pc : Int) {h : ms_M}, VBv h → h 127 16 ≤ 1500 → (h 127 16 ≤ 0 ∨ CHn2 h (h 127 16)) → STi h pc re → 0 ≤ pc → (pc = 0 ∨ pc = h 127 16 ∨ BGm h pc) → Pc (qw_X11_proveStates_4 nn k re pc h) (fun r => r.1 = 0 → TFR h r.2 ∧ STv r.2) := by
  intro k
  induction k with
  | zero => intro re pc h V h5 C S h0 hp; exact pc_none
  | succ k ih =>
    intro re pc h V h5 C S h0 hp
    unfold qw_X11_proveStates_4
    refine pc_if (fun c => ?_) (fun c => ?_)
    · refine pc_if (fun z => pc_ret (fun _ => ⟨tfr_refl, ?_⟩)) (fun z => ?_)
      · have p0 := S.2 z
        have e : pc = h 127 16 := by
          rcases hp with q | q | q
          · omega
          · exact q
          · have := q.1.2; omega
        show STv h
        refine ⟨by omega, fun q hq => ?_⟩
        obtain ⟨s1, s2⟩ := S.1 q hq (by have := hq.1.2; omega)
        exact ⟨s1, fun w hw hl => s2 w hw (by omega) z⟩
      · intro r e z2
        unfold qf_X11_at at e
        rw [xl_eq] at e
        obtain ⟨u, e1, e⟩ := sv_i e
        cases e1; cases e
        exact absurd z2 (show ¬ (10 : Int) = 0 by decide)
    have C := C.resolve_left (by omega)
    have B : BGm h pc := by
      rcases hp with q | q | q
      · rw [q]; exact C.2.resolve_left (by omega)
      · omega
      · exact q
    obtain ⟨b1, w, b2, b3, b4, b5⟩ := C.1 pc B
    have wr := wio_r b2
    refine pc_sv pv_code (fun u10 e10 => ?_)
    refine pc_se (fun u12 e12 => ?_)
    have T : TFR h u12.2 := tfr_fr V (fun c k w => (ff_X11_proveState nn) _ e12 c k w) rfl rfl
    have Q := pv_state V _ e12
    refine pc_if (fun c12 => ?_) (fun c12 => ?_)
    · have Q := Q c12
      rw [oq_add_eq (by omega) (by omega) (by omega), e10] at Q
      have nx : ∀ s : Int, (s = 0 → LST (oc h pc)) → Pc (qj_X11_proveStates_52 nn (qw_X11_proveStates_4 nn k) pc u10 s u12.2) (fun r => r.1 = 0 → TFR h r.2 ∧ STv r.2) := by
        intro s hs
        unfold qj_X11_proveStates_52
        refine pc_se (fun u1 e0 => ?_)
        have e1 := pv_width _ e0
        refine pc_xl (fun v2 e2 => ?_)
        have ew : v2 = w ∨ u1 = 0 := by
          rcases e1 with z | z
          · exact .inr z
          · rw [e10] at z
            have := wio_det z b2
            left
            rw [e2]; split <;> omega
        have z0 : ¬ u1 = 0 := fun z => pv_width0 (w := w) _ e0 z (by rw [e10]; exact b2)
        have ew := ew.resolve_right z0
        refine pc_add (by omega) (fun v3 e3 => ?_)
        have D : STi h v3 s := by
          refine ⟨fun q hq hl => ?_, fun _ => by omega⟩
          by_cases z : q = pc
          · rw [z]
            exact ⟨Q, fun _ _ _ => hs⟩
          · by_cases z2 : q < pc
            · obtain ⟨s1, s2⟩ := S.1 q hq z2
              refine ⟨s1, fun w2 hw hl2 => ?_⟩
              exfalso
              obtain ⟨d1, w3, d2, d3, d4, d5⟩ := C.1 q hq
              have := wio_det hw d2
              exact d5 pc z2 (by omega) B
            · exact absurd hq (b5 q (by omega) (by omega))
        refine pc_imp (ih s v3 (vbv_q T.1 V) (by rw [T.1.1.2.2]; exact h5) (.inr ?_) (sti_q T D) (by omega) (.inr ?_)) (fun r q z => ?_)
        · rw [T.1.1.2.2]; exact chn2_q T C
        · rw [T.1.1.2.2, e3, ew]
          exact b4.imp id (fun z => (T.2 _).2 z)
        · obtain ⟨q1, q2⟩ := q z
          exact ⟨tfr_tr T q1, q2⟩
      refine pc_sv pv_last (fun u13 e13 => ?_)
      rw [e10] at e13
      refine pc_if (fun z => nx 0 (fun _ => ?_)) (fun z => nx 1 (fun z => absurd z (by decide)))
      rcases e13 with e | e
      · exact e.2
      · exact absurd e.1 z
    · intro r e z2
      unfold qf_X11_at at e
      rw [xl_eq] at e
      obtain ⟨u, e1, e⟩ := sv_i e
      cases e1; cases e
      exact absurd z2 c12
theorem ps_all (V : VBv h) (h5 : h 127 16 ≤ 1500) (C : h 127 16 ≤ 0 ∨ CHn2 h (h 127 16)) : Pc (qf_X11_proveStates nn h) (fun r => r.1 = 0 → TFR h r.2 ∧ STv r.2) :=
  ps_4 nn 1 0 V h5 C ⟨fun q hq z => by have := hq.1.1; omega, fun z => absurd z (by decide)⟩ (by omega) (.inl rfl)
/-- byte p of the code of method m of Image b -/
def ocb (h : ms_M) (b : Nat) (m p : Int) : Int := bt h b (oq_add (mo h b m 6) p)
def AIMb (h : ms_M) (b : Nat) (m p : Int) : Int := oq_add p (oq_s (oq_or (oq_shl (ocb h b m (oq_add p 1)) 8) (ocb h b m (oq_add p 2))))
/-- the code of method m of Image b goes well from the places B -/
def BGo (h : ms_M) (b : Nat) (m : Int) (B : Int → Prop) : Prop := B 0 ∧ (∀ p, B p → 0 ≤ p ∧ p < 1500) ∧ (∀ p, B p → ¬ LST (ocb h b m p) → ∃ w, WIo (ocb h b m p) w ∧ B (p + w)) ∧ (∀ p, B p → JMP (ocb h b m p) → B (AIMb h b m p)) ∧ (∀ p, B p → (ocb h b m p = 180 ∨ ocb h b m p = 181) → CRf h b (ocb h b m (p + 1))) ∧ ∀ x : Int, 0 ≤ x → x < mo h b m 7 → B (HDv h b m x)
section
variable {b : Nat} {m : Int} {B : Int → Prop}
theorem BGo.z (G : BGo h b m B) : B 0 := G.1
theorem BGo.r (G : BGo h b m B) : ∀ p, B p → 0 ≤ p ∧ p < 1500 := G.2.1
theorem BGo.n (G : BGo h b m B) : ∀ p, B p → ¬ LST (ocb h b m p) → ∃ w, WIo (ocb h b m p) w ∧ B (p + w) := G.2.2.1
theorem BGo.j (G : BGo h b m B) : ∀ p, B p → JMP (ocb h b m p) → B (AIMb h b m p) := G.2.2.2.1
theorem BGo.c (G : BGo h b m B) : ∀ p, B p → (ocb h b m p = 180 ∨ ocb h b m p = 181) → CRf h b (ocb h b m (p + 1)) := G.2.2.2.2.1
theorem BGo.a (G : BGo h b m B) : ∀ x : Int, 0 ≤ x → x < mo h b m 7 → B (HDv h b m x) := G.2.2.2.2.2
end
theorem ocb_q {b : Nat} {m : Int} (A : IMQ h g b) (p : Int) : ocb g b m p = ocb h b m p := by
  unfold ocb
  rw [mo_q A, bt_q A]
theorem hdv_q {b : Nat} {m : Int} (A : IMQ h g b) (x : Int) : HDv g b m x = HDv h b m x := by
  unfold HDv
  rw [mo_q A, pr2_q A]
theorem bgo_q {b : Nat} {m : Int} {B : Int → Prop} (A : IMQ h g b) (G : BGo h b m B) : BGo g b m B := by
  refine ⟨G.z, G.r, fun p hp hl => ?_, fun p hp hj => ?_, fun p hp hc => ?_, fun x x0 x1 => ?_⟩
  · rw [ocb_q A] at hl ⊢; exact G.n p hp hl
  · rw [ocb_q A] at hj
    have := G.j p hp hj
    unfold AIMb at this ⊢
    rw [ocb_q A, ocb_q A]; exact this
  · rw [ocb_q A] at hc ⊢
    exact (crf_q A).2 (G.c p hp hc)
  · rw [mo_q A] at x1
    rw [hdv_q A]; exact G.a x x0 x1
/-- every method below m of Image b goes well -/
def MGo (h : ms_M) (b : Nat) (m : Int) : Prop := ∀ i : Int, 0 ≤ i → i < m → ∃ B, BGo h b i B
theorem mgo_q {b : Nat} {m : Int} (A : IMQ h g b) (G : MGo h b m) : MGo g b m := fun i i0 i1 => by
  obtain ⟨B, z⟩ := G i i0 i1
  exact ⟨B, bgo_q A z⟩
theorem bgo_of (P : PIr h) (J : JOK h) (H : HOK h) (S : STv h) : BGo h (h 127 5).toNat (h 127 6) (BGm h) := by
  have l0 := S.1
  refine ⟨((P.2.2.resolve_left (by omega)).2).resolve_left (by omega), fun p hp => by have := hp.1; have := P.2.1; omega, fun p hp hl => ?_, fun p hp hj => J p hp hj, fun p hp hc => (S.2 p hp).1 hc, H⟩
  obtain ⟨c1, w, c2, c3, c4, c5⟩ := (P.2.2.resolve_left (by omega)).1 p hp
  exact ⟨w, c2, c4.resolve_left (fun z => hl ((S.2 p hp).2 w c2 z))⟩
end
end
section
/- ALL METHODS OF THE SPACE -/
section
variable {nn : Nat} {h g : ms_M}
/-- the space and all Images are the same in both -/
def SPF (h g : ms_M) : Prop := (∀ k, g 60 k = h 60 k) ∧ g 56 3 = h 56 3 ∧ ∀ b, VBb h b → IMQ h g b
theorem spf_refl : SPF h h := ⟨fun _ => rfl, rfl, fun _ _ => imq_refl⟩
theorem spf_tr {z : ms_M} (A : SPF h g) (B : SPF g z) : SPF h z :=
  ⟨fun k => (B.1 k).trans (A.1 k), B.2.1.trans A.2.1, fun b V => imq_tr (A.2.2 b V) (B.2.2 b (vbb_q (A.2.2 b V) V))⟩
theorem spf_fr {L : List Nat} {LF : List (Nat × Nat)} (F : ∀ c k, nw_F L LF false false c k = true → g c k = h c k) (hc : ((L.all (fun x => !(is_I x) && !(Nat.beq (ly_T x) 1)) && LF.all (fun q => !(is_I q.1) && !(Nat.beq (ly_T q.1) 1))) && (nw_F L LF false false 56 3 && (!(L.contains 60) && LF.all (fun q => !(Nat.beq q.1 60))))) = true) : SPF h g := by
  rw [Bool.and_eq_true, Bool.and_eq_true (nw_F L LF false false 56 3)] at hc
  refine ⟨fun k => F _ _ (nw_ar ?_ k), F _ _ hc.2.1, fun b V => imq_fr V F hc.1⟩
  have z := hc.2.2
  rw [Bool.and_eq_true] at z
  simp only [Bool.and_eq_true]
  exact ⟨z.1, z.2, rfl, rfl⟩
theorem spf_up {c k : Nat} {v : Int} (hc : ((!(is_I c) && !(Nat.beq (ly_T c) 1)) && !(Nat.beq c 60)) = true) (h3 : ¬ (c = 56 ∧ k = 3)) : SPF h (up_M h c k v) := by
  rw [Bool.and_eq_true] at hc
  refine ⟨fun j => up_n ?_, up_n (by omega), fun b V => imq_up V hc.1⟩
  rintro ⟨rfl, -⟩; cases hc.2
theorem imq_sy {b : Nat} (A : IMQ h g b) : IMQ g h b := by
  refine ⟨fun i k q => (A.1 i k q).symm, fun k => ?_⟩
  rw [show g b 0 = h b 0 from A.1 0 0 (by omega)]
  exact (A.2 k).symm
section
variable {q3 : Int → ms_M → Option (Int × ms_M)} {q28 : Int → Int → ms_M → Option (Int × ms_M)} {l1 l2 : Int} {Q : Int × ms_M → Prop}
theorem ne_118 (hQ : ∀ r : Int × ms_M, ¬ r.1 = 0 → Q r) {s0 : Int} (hs : ¬ s0 = 0) : Pc (qj_X11_proveMethods_118 nn q3 q28 l1 l2 s0 h) Q := by
  unfold qj_X11_proveMethods_118
  refine pc_if (fun z => absurd z hs) (fun _ => ?_)
  intro r e
  unfold qf_X11_tellNumber at e
  simp only [xl_v] at e
  obtain ⟨u, e1, e⟩ := sv_i e
  cases e1; cases e
  exact hQ _ hs
theorem ne_100 (hQ : ∀ r : Int × ms_M, ¬ r.1 = 0 → Q r) {s0 : Int} (hs : ¬ s0 = 0) : Pc (qj_X11_proveMethods_100 nn q3 q28 l1 l2 s0 h) Q := by
  unfold qj_X11_proveMethods_100
  exact pc_se (fun u _ => pc_if (fun z => absurd z hs) (fun _ => ne_118 hQ hs))
theorem ne_87 (hQ : ∀ r : Int × ms_M, ¬ r.1 = 0 → Q r) {s0 : Int} (hs : ¬ s0 = 0) : Pc (qj_X11_proveMethods_87 nn q3 q28 l1 l2 s0 h) Q := by
  unfold qj_X11_proveMethods_87
  exact pc_if (fun z => absurd z hs) (fun _ => ne_100 hQ hs)
theorem ne_61 (hQ : ∀ r : Int × ms_M, ¬ r.1 = 0 → Q r) {s0 : Int} (hs : ¬ s0 = 0) : Pc (qj_X11_proveMethods_61 nn q3 q28 l1 l2 s0 h) Q := by
  unfold qj_X11_proveMethods_61
  refine pc_if (fun _ => ?_) (fun z => absurd hs z)
  unfold qj_X11_proveMethods_72
  exact pc_se (fun u _ => pc_if (fun z => absurd z hs) (fun _ => ne_87 hQ hs))
/-- a method whose check gives 0 goes well -/
theorem pm_61 (hQ : ∀ r : Int × ms_M, ¬ r.1 = 0 → Q r) (V : VBv h) (P : PIr h) (J : JOK h) (hh : mo h (h 127 5).toNat (h 127 6) 7 ≤ 20) (hk : ∀ g : ms_M, SPF h g → g 127 5 = h 127 5 → BGo h (h 127 5).toNat (h 127 6) (BGm h) → Pc (xl (oq_add l2 1) fun v1 => q28 l1 v1 g) Q) : Pc (qj_X11_proveMethods_61 nn q3 q28 l1 l2 0 h) Q := by
  unfold qj_X11_proveMethods_61
  refine pc_if (fun z => absurd rfl z) (fun _ => ?_)
  unfold qj_X11_proveMethods_72
  refine pc_se (fun u15 e15 => ?_)
  have T15 : TFR h u15 := tf_m V _ e15
  have F15 : SPF h u15 := spf_fr (fun c k w => (ff_X11_takeFrames nn) _ e15 c k w) rfl
  have V15 := vbv_q T15.1 V
  have hh15 : mo u15 (u15 127 5).toNat (u15 127 6) 7 ≤ 20 := by rw [T15.1.1.1, T15.1.1.2.1, mo_q T15.1.2]; exact hh
  refine pc_if (fun _ => ?_) (fun z => absurd rfl z)
  refine pc_se (fun u17 e17 => ?_)
  have H17 := ph_all _ e17 hh15
  by_cases z17 : ¬ u17.1 = 0
  · exact ne_87 hQ z17
  have z17 := Decidable.not_not.1 z17
  obtain ⟨H0, H⟩ := H17 z17
  rw [z17, H0]
  unfold qj_X11_proveMethods_87
  refine pc_if (fun _ => ?_) (fun z => absurd rfl z)
  refine pc_se (fun u12 e12 => ?_)
  have T12 : TFR u15 u12.2 := tfr_fr V15 (fun c k w => (ff_X11_proveFrames nn) _ e12 c k w) rfl rfl
  have F12 : SPF u15 u12.2 := spf_fr (fun c k w => (ff_X11_proveFrames nn) _ e12 c k w) rfl
  have V12 := vbv_q T12.1 V15
  by_cases z12 : ¬ u12.1 = 0
  · exact ne_100 hQ z12
  have z12 := Decidable.not_not.1 z12
  rw [z12]
  unfold qj_X11_proveMethods_100
  refine pc_se (fun u7 e7 => ?_)
  have T7 : TFR u12.2 u7 := tfr_fr V12 (fun c k w => (ff_X11_beginState nn) _ e7 c k w) rfl rfl
  have F7 : SPF u12.2 u7 := spf_fr (fun c k w => (ff_X11_beginState nn) _ e7 c k w) rfl
  have V7 := vbv_q T7.1 V12
  refine pc_if (fun _ => ?_) (fun z => absurd rfl z)
  refine pc_se (fun u9 e9 => ?_)
  have T : TFR h u7 := tfr_tr T15 (tfr_tr T12 T7)
  have L : u7 127 16 = h 127 16 := T.1.1.2.2
  have Q9 := ps_all V7 (by rw [L]; exact P.2.1) (by rw [L]; exact P.2.2.imp id (fun z => chn2_q T z)) _ e9
  by_cases z9 : ¬ u9.1 = 0
  · exact ne_118 hQ z9
  have z9 := Decidable.not_not.1 z9
  obtain ⟨T9, S9⟩ := Q9 z9
  have F9 : SPF u7 u9.2 := spf_fr (fun c k w => (ff_X11_proveStates nn) _ e9 c k w) rfl
  have TT : TFR h u9.2 := tfr_tr T T9
  have Tb : TFR u9.2 h := by
    refine ⟨⟨⟨TT.1.1.1.symm, TT.1.1.2.1.symm, TT.1.1.2.2.symm⟩, ?_⟩, fun q => (TT.2 q).symm⟩
    rw [TT.1.1.1]; exact imq_sy TT.1.2
  have S : STv h := stv_q Tb S9
  have Hh : HOK h := by
    intro x x0 x1
    have := H x x0 (by rw [T15.1.1.1, T15.1.1.2.1, mo_q T15.1.2]; exact x1)
    rw [T15.1.1.1, T15.1.1.2.1, hdv_q T15.1.2] at this
    exact (T15.2 _).1 this
  rw [z9]
  unfold qj_X11_proveMethods_118
  refine pc_if (fun _ => ?_) (fun z => absurd rfl z)
  exact hk u9.2 (spf_tr F15 (spf_tr F12 (spf_tr F7 F9))) TT.1.1.1 (bgo_of P J Hh S)
end
/-- every method of the first n classes goes well -/
def SPo (h : ms_M) (n : Int) : Prop := ∀ k : Nat, (k : Int) < n → MGo h (h 60 k).toNat (h (h 60 k).toNat 12)
theorem pm_28 {h0 : ms_M} {b : Nat} {q3 : Int → ms_M → Option (Int × ms_M)} {l1 : Int} {Q : Int × ms_M → Prop} (hQ : ∀ r : Int × ms_M, ¬ r.1 = 0 → Q r) (V0 : VBb h0 b) (hm : ∀ m : Int, mo h0 b m 7 ≤ 20) (h12 : h0 b 12 ≤ 12) (hk : ∀ g : ms_M, SPF h0 g → MGo h0 b (h0 b 12) → Pc (xl (oq_add l1 1) fun v22 => q3 v22 g) Q) : ∀ (k : Nat) (l2 : Int) {h : ms_M}, SPF h0 h → (h 127 5).toNat = b → 0 ≤ l2 → MGo h0 b l2 → Pc (qw_X11_proveMethods_28 nn q3 k l1 l2 h) Q := by
  intro k
  induction k with
  | zero => intro l2 h F e r0 G; exact pc_none
  | succ k ih =>
    intro l2 h F e r0 G
    have A : IMQ h0 h b := F.2.2 b V0
    unfold qw_X11_proveMethods_28
    refine pc_ck (fun _ => pc_ck (fun _ => ?_))
    refine pc_if (fun c => ?_) (fun c => ?_)
    · refine hk h F (fun i i0 i1 => G i i0 ?_)
      rw [e, show h b 12 = h0 b 12 from A.1 0 12 (by omega)] at c
      omega
    · have hc : l2 < 12 := by
        rw [e, show h b 12 = h0 b 12 from A.1 0 12 (by omega)] at c; omega
      refine pc_xl (fun h23 e23 => ?_)
      have F23 : SPF h h23 := by rw [e23]; exact spf_up rfl (by omega)
      have b23 : (h23 127 5).toNat = b := by rw [e23, up_n (by omega)]; exact e
      have m23 : h23 127 6 = l2 := by rw [e23]; exact up_s
      have A23 : IMQ h0 h23 b := (spf_tr F F23).2.2 b V0
      have V23 : VBv h23 := by unfold VBv; rw [b23]; exact vbb_q A23 V0
      refine pc_se (fun u25 e25 => ?_)
      have P := pi_all V23 _ e25
      have F25 : SPF h23 u25.2 := spf_fr (fun c k w => (ff_X11_proveInstructions nn) _ e25 c k w) rfl
      refine pc_if (fun z25 => ?_) (fun z25 => ne_61 hQ z25)
      have P := P z25
      refine pc_se (fun u27 e27 => ?_)
      by_cases z27 : ¬ u27.1 = 0
      · exact ne_61 hQ z27
      have z27 := Decidable.not_not.1 z27
      obtain ⟨J0, J⟩ := pj_all P.2.1 _ e27 z27
      rw [z27, J0]
      have e5 : u25.2 127 5 = h23 127 5 := (ff_X11_proveInstructions nn) _ e25 127 5 rfl
      have e6 : u25.2 127 6 = h23 127 6 := (ff_X11_proveInstructions nn) _ e25 127 6 rfl
      have F0 : SPF h0 u25.2 := spf_tr F (spf_tr F23 F25)
      have A25 : IMQ h0 u25.2 b := F0.2.2 b V0
      refine pm_61 hQ P.1 P J (by rw [e5, b23, mo_q A25]; exact hm _) (fun g Fg eg K => ?_)
      rw [e5, b23, e6, m23] at K
      refine pc_add (by omega) (fun v ev => ih v (spf_tr F0 Fg) (by rw [eg, e5, b23]) (by omega) (fun i i0 i1 => ?_))
      by_cases z : i = l2
      · rw [z]; exact ⟨_, bgo_q (imq_sy A25) K⟩
      · exact G i i0 (by omega)
theorem pm_3 {h0 : ms_M} (V : ∀ k : Nat, k < 8 → VBb h0 (h0 60 k).toNat) (hm : ∀ k : Nat, k < 8 → (∀ m : Int, mo h0 (h0 60 k).toNat m 7 ≤ 20) ∧ h0 (h0 60 k).toNat 12 ≤ 12) (h3 : h0 56 3 ≤ 8) (hn : ∀ k : Nat, k < 8 → 0 ≤ h0 60 k) : ∀ (k : Nat) (l1 : Int) {h : ms_M}, SPF h0 h → 8 ≤ l1 → SPo h0 (l1 - 8) → Pc (qw_X11_proveMethods_3 nn k l1 h) (fun r => r.1 = 0 → SPo h0 (h0 56 3)) := by
  intro k
  induction k with
  | zero => intro l1 h F r1 G; exact pc_none
  | succ k ih =>
    intro l1 h F r1 G
    unfold qw_X11_proveMethods_3
    have f3 := F.2.1
    by_cases hneg : h 56 3 < -2000000000
    · intro r _ _ i hi; omega
    refine pc_add (by omega) (fun v e => ?_)
    refine pc_if (fun c => pc_ret (fun _ i hi => G i (by omega))) (fun c => ?_)
    refine pc_se (fun u34 e34 => pc_se (fun u36 e36 => ?_))
    have T : u34 = up_M h 127 5 (h 60 (l1 - 8).toNat) := by
      have k0 := hn (l1 - 8).toNat (by omega)
      rw [← F.1] at k0
      unfold qf_X11_takeImage qf_X7_imageOf at e34
      rw [if_neg (by omega), xl_eq, oq_add_eq (by omega) (by omega) (by omega), if_neg (by omega), xl_eq, oq_sub_eq (by omega) (by omega) (by omega)] at e34
      unfold rd_A at e34
      rw [if_pos (by omega), mx_svs, if_neg (by omega)] at e34
      unfold wr_R at e34
      split at e34
      · have e34 := Option.some.inj e34
        rw [← e34, Int.toNat_of_nonneg k0]
      · cases e34
    have F34 : SPF h u34 := by rw [T]; exact spf_up rfl (by omega)
    have F36 : SPF u34 u36 := spf_fr (fun c k w => (ff_X11_takeConstants nn) _ e36 c k w) rfl
    have b36 : (u36 127 5).toNat = (h0 60 (l1 - 8).toNat).toNat := by
      rw [show u36 127 5 = u34 127 5 from (ff_X11_takeConstants nn) _ e36 127 5 rfl, T, up_s, F.1]
    have kk := hm (l1 - 8).toNat (by omega)
    refine pm_28 (fun r z w => absurd w z) (V _ (by omega)) kk.1 kk.2 (fun g Fg K => ?_) nn 0 (spf_tr F (spf_tr F34 F36)) b36 (by omega) (fun i i0 i1 => by omega)
    refine pc_add (by omega) (fun v ev => ih v Fg (by omega) (fun i hi => ?_))
    by_cases z : i = (l1 - 8).toNat
    · rw [z]; exact K
    · exact G i (by omega)
theorem mo7_le {b : Nat} {m : Int} (V : VS_ h) (hb : kc_O b = 3) (I : IG_ h b) : mo h b m 7 ≤ 20 := by
  have g2 := gI_12 V hb
  unfold mo
  split
  · omega
  · split
    · omega
    · split
      · omega
      · have := (I m.toNat (by omega)).2.2.1
        rw [oq_mul_eq (by omega) (by omega) (by omega), oq_add_eq (by omega) (by omega) (by omega), show (m * 12 + 7).toNat = 12 * m.toNat + 7 by omega]
        omega
/-- proveMethods that gives 0 tells that all code goes well -/
theorem pm_all (V : VS_ h) (S : SI_ h) : Pc (qf_X11_proveMethods nn h) (fun r => SPF h r.2 ∧ (r.1 = 0 → SPo h (h 56 3))) := by
  intro r e
  refine ⟨spf_fr (fun c k w => (ff_X11_proveMethods nn) _ e c k w) rfl, ?_⟩
  have I : ∀ k : Nat, k < 8 → 0 ≤ h 60 k ∧ kc_O (h 60 k).toNat = 3 := V.2.2.2.2.1
  have g3 := gF_56_3 V
  exact pm_3 (fun k hk => vbb_of V (I k hk).2) (fun k hk => ⟨fun m => mo7_le V (I k hk).2 (S.1 k hk), (gI_12 V (I k hk).2).2⟩) (by omega) (fun k hk => (I k hk).1) nn 8 spf_refl (by omega) (fun i hi => by omega) r e
end
end
section
/- LINKS OF FIELDS ARE SMALL; A VERIFIED SPACE GOES WELL -/
section
variable {nn : Nat} {h g : ms_M}
theorem okp {x : Option Int} {lo hi a : Int} (e : x = some a) (k : Ok_ x (QP_ lo hi)) : lo ≤ a ∧ a ≤ hi := by
  have q : QP_ lo hi a := okof k e
  exact q
theorem tg_r {b : Nat} {k : Int} (e : tg h b k = 4) : 1 ≤ k ∧ k ≤ h b 7 ∧ k < 256 := by
  unfold tg at e
  split at e
  · omega
  · split at e
    · omega
    · split at e <;> omega
theorem pv_linkOf (hn : 1000000 ≤ nn) {b : Nat} {i : Int} (V : VS_ h) (hb : kc_O b = 3) (r : 1 ≤ i ∧ i ≤ 255) : Pc (qf_X7_linkOf nn b i h) (fun u => CRf h b i → u ≤ 2000000000) := by
  unfold qf_X7_linkOf
  refine pc_ck (fun _ => pc_sv pv_tag (fun u2 e2 => ?_))
  refine pc_if (fun _ => ?_) (fun c => fun r _ K => by have := K.1; omega)
  refine pc_if (fun _ => ?_) (fun c => fun r _ K => by have := K.1; omega)
  refine pc_if (fun _ => ?_) (fun c => fun r _ K => by have := K.1; omega)
  refine pc_se (fun u4 e4 => pc_se (fun u6 e6 => ?_))
  have p4 : 0 ≤ u4 ∧ u4 ≤ 255 := okp e4 (vf_X3_partOf hn hb (by omega) (by omega) (by omega) (by omega) V)
  have p6 : -1 ≤ u6 ∧ u6 ≤ 303 := okp e6 (vf_X7_typeOfClass hn hb (by omega) (by omega) V)
  refine pc_sv pv_part (fun u8 e8 => pc_sv pv_textAt (fun u10 e10 => pc_sv pv_byte (fun u12 e12 => ?_)))
  refine pc_if (fun _ => ?_) (fun c => fun r _ K => absurd K.2 (fun z => z ?_))
  · refine pc_se (fun u14 e14 => pc_se (fun u16 e16 => ?_))
    have p14 : 0 ≤ u14 ∧ u14 ≤ 255 := okp e14 (vf_X3_partOf hn hb (by omega) (by omega) (by omega) (by omega) V)
    have p16 : -1 ≤ u16 ∧ u16 ≤ 95 := okp e16 (vf_X7_fieldOf hn (by omega) (by omega) hb (by omega) (by omega) V)
    refine pc_if (fun c16 => ?_) (fun _ => pc_ret (fun _ => by omega))
    have t1 : Int.tdiv u16 12 = u16 / 12 := Int.tdiv_eq_ediv_of_nonneg (by omega)
    have t2 : Int.tmod u16 12 = u16 % 12 := Int.tmod_eq_emod_of_nonneg (by omega)
    refine pc_xl (fun v17 e17 => pc_xl (fun v18 e18 => ?_))
    rw [e17, t1, oq_add_eq (by omega) (by omega) (by omega)] at e18
    refine pc_se (fun u21 e21 => pc_se (fun u23 e23 => ?_))
    have p21 : -1 ≤ u21 ∧ u21 ≤ 341 := okp e21 (vf_X4_above hn rfl (by omega) (by omega) V)
    have p23 : 0 ≤ u23 ∧ u23 ≤ 192 := okp e23 (vf_X7_cellsAbove hn (by omega) (by omega) V)
    refine pc_xl (fun v24 e24 => pc_xl (fun v25 e25 => pc_ret (fun _ => ?_)))
    rw [e25, e24, t2, oq_add_eq (by omega) (by omega) (by omega)]
    omega
  · rw [← e8, ← e10, ← e12]; exact Decidable.not_not.1 c
/-- links of the fields' constants of the classes before (n, l) -/
def LNb (h g : ms_M) (n l : Int) : Prop := ∀ k : Nat, ∀ c : Int, ((k : Int) < n ∨ ((k : Int) = n ∧ c < l)) → CRf h (h 60 k).toNat c → g 68 ((k : Int) * 256 + c).toNat ≤ 2000000000
theorem lk_42 (hn : 1000000 ≤ nn) {h0 : ms_M} {q32 : Int → ms_M → Option ms_M} {l1 : Int} {Q : ms_M → Prop} (r1 : 0 ≤ l1 ∧ l1 ≤ 7) (I : ∀ k : Nat, k < 8 → VBb h0 (h0 60 k).toNat) (hk : ∀ g, VS_ g → SPF h0 g → LNb h0 g (l1 + 1) 1 → Pc (q32 (l1 + 1) g) Q) : ∀ (k : Nat) (l2 : Int) {h : ms_M}, VS_ h → SPF h0 h → LNb h0 h l1 l2 → 1 ≤ l2 → Pc (qw_X7_linkAll_42 nn q32 k l1 l2 h) Q := by
  intro k
  induction k with
  | zero => intro l2 h V F L r2; exact pc_none
  | succ k ih =>
    intro l2 h V F L r2
    have B := I l1.toNat (by omega)
    have A : IMQ h0 h (h0 60 l1.toNat).toNat := F.2.2 _ B
    have g7 := gI_7 V B.1
    have s7 : h (h0 60 l1.toNat).toNat 7 = h0 (h0 60 l1.toNat).toNat 7 := A.1 0 7 (by omega)
    unfold qw_X7_linkAll_42
    refine pc_rA (fun _ _ v2 e2 => pc_ck (fun _ => pc_ck (fun _ => ?_)))
    rw [F.1] at e2
    rw [e2]
    refine pc_if (fun c => ?_) (fun c => ?_)
    · refine pc_se (fun u6 e6 => ?_)
      have V6 := okof (vf_X7_linkMethods hn (by omega) (by omega) V) e6
      have F6 : SPF h u6 := spf_fr (fun c k w => (ff_X7_linkMethods nn) _ e6 c k w) rfl
      refine pc_add (by omega) (fun v ev => ?_)
      rw [ev]
      refine hk u6 V6 (spf_tr F F6) (fun j c2 hj K => ?_)
      rw [show u6 68 ((j : Int) * 256 + c2).toNat = h 68 ((j : Int) * 256 + c2).toNat from (ff_X7_linkMethods nn) _ e6 68 _ (nw_ar rfl _)]
      have t := tg_r K.1
      refine L j c2 ?_ K
      by_cases z : (j : Int) = l1
      · right
        refine ⟨z, ?_⟩
        rw [show j = l1.toNat by omega] at t
        omega
      · omega
    · refine pc_xl (fun v9 e9 => pc_xl (fun v10 e10 => ?_))
      have e10 : v10 = l1 * 256 + l2 := by rw [e10, e9, oq_mul_eq (by omega) (by omega) (by omega), oq_add_eq (by omega) (by omega) (by omega)]
      refine pc_rA (fun _ _ v12 e12 => pc_ck (fun _ => pc_se (fun u15 e15 => ?_)))
      rw [F.1] at e12
      rw [e12] at e15
      have b15 : -2147483648 ≤ u15 ∧ u15 ≤ 2147483647 := okp e15 (vf_X7_linkOf hn B.1 (by omega) (by omega) V)
      have K15 := pv_linkOf hn V B.1 (by omega) _ e15
      refine pc_wA (fun _ _ h16 e16 => ?_)
      have V16 : VS_ h16 := by rw [e16]; exact wA_68 V b15
      have F16 : SPF h h16 := by rw [e16]; exact spf_up rfl (by omega)
      refine pc_add (by omega) (fun v ev => ih v V16 (spf_tr F F16) (fun j c2 hj K => ?_) (by omega))
      have t := tg_r K.1
      rw [e16]
      by_cases z : (j : Int) = l1 ∧ c2 = l2
      · have ej : j = l1.toNat := by omega
        rw [z.1, z.2, e10, up_s]
        refine K15 ((crf_q A).2 ?_)
        rw [ej, z.2] at K
        exact K
      · rw [up_n (by rintro ⟨-, y⟩; omega)]
        exact L j c2 (by omega) K
theorem lk_32 (hn : 1000000 ≤ nn) {h0 : ms_M} (I : ∀ k : Nat, k < 8 → VBb h0 (h0 60 k).toNat) (h3 : h0 56 3 ≤ 8) : ∀ (k : Nat) (l1 : Int) {h : ms_M}, VS_ h → SPF h0 h → LNb h0 h l1 1 → 0 ≤ l1 → Pc (qw_X7_linkAll_32 nn k l1 h) (fun r => SPF h0 r ∧ LNb h0 r (h0 56 3) 1) := by
  intro k
  induction k with
  | zero => intro l1 h V F L r; exact pc_none
  | succ k ih =>
    intro l1 h V F L r
    have f3 := F.2.1
    unfold qw_X7_linkAll_32
    refine pc_if (fun c => pc_ret ⟨F, fun j c2 hj K => ?_⟩) (fun c => ?_)
    · have t := tg_r K.1
      exact L j c2 (by omega) K
    · exact lk_42 hn (by omega) I (fun g Vg Fg Lg => ih _ Vg Fg Lg (by omega)) nn 1 V F L (by omega)
theorem lk_2 (hn : 1000000 ≤ nn) {h0 : ms_M} (I : ∀ k : Nat, k < 8 → VBb h0 (h0 60 k).toNat) (h3 : h0 56 3 ≤ 8) : ∀ (k : Nat) (l1 : Int) {h : ms_M}, VS_ h → SPF h0 h → 0 ≤ l1 → Pc (qw_X7_linkAll_2 nn k l1 h) (fun r => SPF h0 r ∧ LNb h0 r (h0 56 3) 1) := by
  intro k
  induction k with
  | zero => intro l1 h V F r; exact pc_none
  | succ k ih =>
    intro l1 h V F r
    have f3 := F.2.1
    have g3 := gF_56_3 V
    unfold qw_X7_linkAll_2
    refine pc_add (by omega) (fun v22 e22 => ?_)
    refine pc_if (fun c => lk_32 hn I h3 nn 0 V F (fun j c2 hj K => ?_) (by omega)) (fun c => ?_)
    · have t := tg_r K.1
      omega
    · refine pc_se (fun u25 e25 => ?_)
      have p25 : 0 ≤ u25 ∧ u25 ≤ 192 := okp e25 (vf_X7_cellsAbove hn (by omega) (by omega) V)
      refine pc_wA (fun _ _ h26 e26 => ?_)
      have V26 : VS_ h26 := by rw [e26]; exact wA_69 V p25
      have F26 : SPF h h26 := by rw [e26]; exact spf_up rfl (by omega)
      exact pc_add (by omega) (fun v ev => ih v V26 (spf_tr F F26) (by omega))
/-- a space that goes well: its code, and the links of its fields -/
def SGo (h : ms_M) : Prop := SPo h (h 56 3) ∧ LNb h h (h 56 3) 1
theorem sgo_q (I : ∀ k : Nat, k < 8 → VBb h (h 60 k).toNat) (h3 : h 56 3 ≤ 8) (F : SPF h g) (hl : ∀ k, g 68 k = h 68 k) (S : SGo h) : SGo g := by
  refine ⟨fun k hk => ?_, fun k c hk K => ?_⟩
  · rw [F.2.1] at hk
    have A := F.2.2 _ (I k (by omega))
    rw [F.1, show g (h 60 k).toNat 12 = h (h 60 k).toNat 12 from A.1 0 12 (by omega)]
    exact mgo_q A (S.1 k hk)
  · rw [F.2.1] at hk
    have t := tg_r K.1
    rw [hl]
    refine S.2 k c hk ?_
    rw [F.1] at K
    by_cases z : k < 8
    · exact (crf_q (F.2.2 _ (I k z))).1 K
    · omega
theorem pv_verify (hn : 1000000 ≤ nn) (V : VS_ h) (S : SI_ h) : Pc (qf_X12_verify nn h) (fun r => SPF h r.2 ∧ ((r.2 56 4 = 0 ∧ ∀ k, r.2 68 k = h 68 k) ∨ SGo r.2)) := by
  intro r e
  have F : SPF h r.2 := spf_fr (fun c k w => (ff_X12_verify nn) _ e c k w) rfl
  refine ⟨F, ?_⟩
  have I : ∀ k : Nat, k < 8 → VBb h (h 60 k).toNat := fun k hk => vbb_of V (V.2.2.2.2.1 k hk).2
  have g3 := gF_56_3 V
  unfold qf_X12_verify at e
  obtain ⟨u13, e13, e⟩ := sv_i e
  have z33 : ∀ {l1 : Int} {z : ms_M}, VS_ z → SPF h z → SPo h (h 56 3) → qj_X12_verify_33 nn l1 1 z = some r → (r.2 56 4 = 0 ∧ ∀ k, r.2 68 k = h 68 k) ∨ SGo r.2 := by
    intro l1 z Vz Fz Z e
    unfold qj_X12_verify_33 at e
    obtain ⟨-, e⟩ := ck_i e
    rw [xl_eq] at e
    rw [if_neg (by rw [up_s]; decide)] at e
    obtain ⟨u7, e7, e⟩ := sv_i e
    cases e
    right
    have V2 : VS_ (up_M z 56 4 1) := wF_56_4 Vz (by omega)
    have F2 : SPF z (up_M z 56 4 1) := spf_up rfl (by omega)
    have L := lk_2 hn I (by omega) nn 0 V2 (spf_tr Fz F2) (by omega) _ e7
    refine ⟨fun k hk => ?_, fun k c hk K => ?_⟩
    · have Fr : SPF h u7 := L.1
      have hk : (k : Int) < h 56 3 := by rw [← Fr.2.1]; exact hk
      have A := Fr.2.2 _ (I k (by omega))
      show MGo u7 (u7 60 k).toNat (u7 (u7 60 k).toNat 12)
      rw [Fr.1, show u7 (h 60 k).toNat 12 = h (h 60 k).toNat 12 from A.1 0 12 (by omega)]
      exact mgo_q A (Z k hk)
    · have Fr : SPF h u7 := L.1
      have hk : (k : Int) < h 56 3 ∨ ((k : Int) = h 56 3 ∧ c < 1) := by rw [← Fr.2.1]; exact hk
      have K : CRf u7 (u7 60 k).toNat c := K
      have t := tg_r K.1
      refine L.2 k c hk ?_
      rw [Fr.1] at K
      exact (crf_q (Fr.2.2 _ (I k (by omega)))).1 K
  have z0 : ∀ {l1 : Int} {z : ms_M}, (∀ k, z 68 k = h 68 k) → qj_X12_verify_33 nn l1 0 z = some r → (r.2 56 4 = 0 ∧ ∀ k, r.2 68 k = h 68 k) ∨ SGo r.2 := by
    intro l1 z h68 e
    unfold qj_X12_verify_33 at e
    obtain ⟨-, e⟩ := ck_i e
    rw [xl_eq] at e
    rw [if_pos up_s] at e
    cases e
    left
    refine ⟨show up_M z 56 4 0 56 4 = 0 from up_s, fun k => ?_⟩
    show up_M z 56 4 0 68 k = h 68 k
    rw [up_n (by omega)]; exact h68 k
  split at e
  · unfold qj_X12_verify_20 at e
    rename_i c
    rw [if_pos c] at e
    exact z0 (fun k => (ff_X11_proveHeads nn) _ e13 68 k (nw_ar rfl k)) e
  · obtain ⟨u16, e16, e⟩ := sv_i e
    rename_i c
    have Q13 := okof (vf_X11_proveHeads hn V) e13
    have F13 : SPF h u13.2 := spf_fr (fun c k w => (ff_X11_proveHeads nn) _ e13 c k w) rfl
    have S13 : SI_ u13.2 := si_fr V S (fun c k w => (ff_X11_proveHeads nn) _ e13 c k w) rfl
    have P := pm_all Q13.1 S13 _ e16
    have V16 := (okof (vf_X11_proveMethods hn Q13.1 S13) e16).1
    unfold qj_X12_verify_20 at e
    split at e
    · exact z0 (fun k => by rw [show u16.2 68 k = u13.2 68 k from (ff_X11_proveMethods nn) _ e16 68 k (nw_ar rfl k)]; exact (ff_X11_proveHeads nn) _ e13 68 k (nw_ar rfl k)) e
    · rename_i c2
      refine z33 V16 (spf_tr F13 P.1) (fun k hk => ?_) e
      have Z := P.2 (Decidable.not_not.1 c2)
      have A := F13.2.2 _ (I k (by omega))
      have := Z k (by rw [F13.2.1]; exact hk)
      rw [F13.1, show u13.2 (h 60 k).toNat 12 = h (h 60 k).toNat 12 from A.1 0 12 (by omega)] at this
      exact mgo_q (imq_sy A) this
end
end
section
/- THE MACHINE OF THE CLASS STAYS WHERE INSTRUCTIONS BEGIN -/
section
variable {nn : Nat} {h g z : ms_M}
theorem oq_as {a b c : Int} : oq_add (oq_add a b) c = oq_add a (oq_add b c) := by
  show (Int32.ofInt (Int32.ofInt a + Int32.ofInt b).toInt + Int32.ofInt c).toInt = (Int32.ofInt a + Int32.ofInt (Int32.ofInt b + Int32.ofInt c).toInt).toInt
  rw [Int32.ofInt_toInt, Int32.ofInt_toInt, Int32.add_assoc]
theorem oq_back {p a : Int} (ha : -2147483648 ≤ a ∧ a ≤ 2147483647) : oq_add p (oq_sub a p) = a := by
  show (Int32.ofInt p + Int32.ofInt (Int32.ofInt a - Int32.ofInt p).toInt).toInt = a
  rw [Int32.ofInt_toInt, Int32.add_comm, Int32.sub_add_cancel, Int32.toInt_ofInt_of_le (by omega) (by omega)]
/-- method number n is a class's of the space -/
def NVa (h : ms_M) (n : Int) : Prop := 0 ≤ n ∧ n < h 56 3 * 12
def bN (h : ms_M) (n : Int) : Nat := (h 60 (n / 12).toNat).toNat
/-- place p of method n goes well -/
def PGo (h : ms_M) (n p : Int) : Prop := ∃ B, BGo h (bN h n) (n % 12) B ∧ B p
def LOk (h : ms_M) (i : Nat) : Prop := NVa h (h 148 i) ∧ PGo h (h 148 i) (h 149 i + 2)
def TOk (h : ms_M) (t : Nat) : Prop := NVa h (h 148 t) ∧ (h 143 18).toNat = bN h (h 148 t) ∧ h 143 19 = mo h (bN h (h 148 t)) (h 148 t % 12) 6 ∧ (PGo h (h 148 t) (h 149 t) ∨ (h (bN h (h 148 t)) 12 ≤ h 148 t % 12 ∧ h 149 t = 0))
def J74 (h : ms_M) : Prop := ∀ k : Nat, (k : Int) < h 56 3 → bt h (h 60 k).toNat 0 = 74
def FRS (h : ms_M) : Prop := (1 ≤ h 143 6 ∧ h 143 6 ≤ 60) ∧ h 143 17 = h 143 6 - 1 ∧ TOk h (h 143 6 - 1).toNat ∧ ∀ i : Nat, (i : Int) < h 143 6 - 1 → LOk h i
/-- the space is sound -/
def STC (h : ms_M) : Prop := SGo h ∧ J74 h ∧ (∀ k : Nat, k < 8 → 0 ≤ h 60 k ∧ VBb h (h 60 k).toNat) ∧ (0 ≤ h 56 3 ∧ h 56 3 ≤ 8)
theorem stc_q (F : SPF h g) (hl : ∀ k, g 68 k = h 68 k) (S : STC h) : STC g := by
  refine ⟨sgo_q (fun k hk => (S.2.2.1 k hk).2) S.2.2.2.2 F hl S.1, fun k hk => ?_, fun k hk => ?_, by rw [F.2.1]; exact S.2.2.2⟩
  · rw [F.2.1] at hk
    have := S.2.2.2.2
    rw [F.1, bt_q (F.2.2 _ (S.2.2.1 k (by omega)).2)]
    exact S.2.1 k hk
  · rw [F.1]
    exact ⟨(S.2.2.1 k hk).1, vbb_q (F.2.2 _ (S.2.2.1 k hk).2) (S.2.2.1 k hk).2⟩
theorem nva_vb {n : Int} (S : STC h) (N : NVa h n) : VBb h (bN h n) := (S.2.2.1 (n / 12).toNat (by have := S.2.2.2; have := N.1; have := N.2; omega)).2
theorem bN_q {n : Int} (F : SPF h g) : bN g n = bN h n := by unfold bN; rw [F.1]
theorem nva_q {n : Int} (F : SPF h g) (N : NVa h n) : NVa g n := by unfold NVa; rw [F.2.1]; exact N
theorem pgo_q {n p : Int} (S : STC h) (N : NVa h n) (F : SPF h g) (P : PGo h n p) : PGo g n p := by
  obtain ⟨B, G, b⟩ := P
  refine ⟨B, ?_, b⟩
  rw [bN_q F]
  exact bgo_q (F.2.2 _ (nva_vb S N)) G
/-- nothing of the frames has changed -/
def MV0 (h g : ms_M) : Prop := SPF h g ∧ (∀ k, g 68 k = h 68 k) ∧ (∀ k, g 148 k = h 148 k) ∧ (g 143 6 = h 143 6 ∧ g 143 17 = h 143 17 ∧ g 143 18 = h 143 18 ∧ g 143 19 = h 143 19) ∧ ∀ k, g 149 k = h 149 k
/-- .. but the uppermost place, that may have gone on by w -/
def MVW (h g : ms_M) (w : Int) : Prop := SPF h g ∧ (∀ k, g 68 k = h 68 k) ∧ (∀ k, g 148 k = h 148 k) ∧ (g 143 6 = h 143 6 ∧ g 143 17 = h 143 17 ∧ g 143 18 = h 143 18 ∧ g 143 19 = h 143 19) ∧ ∀ k : Nat, g 149 k = h 149 k ∨ (k = (h 143 17).toNat ∧ g 149 k = oq_add (h 149 k) w)
theorem mv0_refl : MV0 h h := ⟨spf_refl, fun _ => rfl, fun _ => rfl, ⟨rfl, rfl, rfl, rfl⟩, fun _ => rfl⟩
theorem mv0_tr (A : MV0 h g) (B : MV0 g z) : MV0 h z := by
  obtain ⟨a1, a2, a3, ⟨a4, a5, a6, a7⟩, a8⟩ := A
  obtain ⟨b1, b2, b3, ⟨b4, b5, b6, b7⟩, b8⟩ := B
  exact ⟨spf_tr a1 b1, fun k => (b2 k).trans (a2 k), fun k => (b3 k).trans (a3 k), ⟨b4.trans a4, b5.trans a5, b6.trans a6, b7.trans a7⟩, fun k => (b8 k).trans (a8 k)⟩
theorem mvw_of {w : Int} (A : MV0 h g) : MVW h g w := ⟨A.1, A.2.1, A.2.2.1, A.2.2.2.1, fun k => .inl (A.2.2.2.2 k)⟩
theorem mvw_l {w : Int} (A : MV0 h g) (B : MVW g z w) : MVW h z w := by
  obtain ⟨a1, a2, a3, ⟨a4, a5, a6, a7⟩, a8⟩ := A
  obtain ⟨b1, b2, b3, ⟨b4, b5, b6, b7⟩, b8⟩ := B
  refine ⟨spf_tr a1 b1, fun k => (b2 k).trans (a2 k), fun k => (b3 k).trans (a3 k), ⟨b4.trans a4, b5.trans a5, b6.trans a6, b7.trans a7⟩, fun k => ?_⟩
  have := b8 k
  rw [a8, a5] at this; exact this
theorem mvw_r {w : Int} (A : MVW h g w) (B : MV0 g z) : MVW h z w := by
  obtain ⟨a1, a2, a3, ⟨a4, a5, a6, a7⟩, a8⟩ := A
  obtain ⟨b1, b2, b3, ⟨b4, b5, b6, b7⟩, b8⟩ := B
  refine ⟨spf_tr a1 b1, fun k => (b2 k).trans (a2 k), fun k => (b3 k).trans (a3 k), ⟨b4.trans a4, b5.trans a5, b6.trans a6, b7.trans a7⟩, fun k => ?_⟩
  rw [b8]; exact a8 k
theorem mv0_fr {L : List Nat} {LF : List (Nat × Nat)} (F : ∀ c k, nw_F L LF false false c k = true → g c k = h c k) (hc : ((L.all (fun x => !(is_I x) && !(Nat.beq (ly_T x) 1)) && LF.all (fun q => !(is_I q.1) && !(Nat.beq (ly_T q.1) 1))) && (nw_F L LF false false 56 3 && (!(L.contains 60) && LF.all (fun q => !(Nat.beq q.1 60))))) = true) (h2 : ((!(L.contains 68) && LF.all (fun q => !(Nat.beq q.1 68))) && ((!(L.contains 148) && LF.all (fun q => !(Nat.beq q.1 148))) && (!(L.contains 149) && LF.all (fun q => !(Nat.beq q.1 149))))) = true) (h3 : (nw_F L LF false false 143 6 && (nw_F L LF false false 143 17 && (nw_F L LF false false 143 18 && nw_F L LF false false 143 19))) = true) : MV0 h g := by
  rw [Bool.and_eq_true, Bool.and_eq_true (!(L.contains 148) && _), Bool.and_eq_true (!(L.contains 68)), Bool.and_eq_true (!(L.contains 148)), Bool.and_eq_true (!(L.contains 149))] at h2
  rw [Bool.and_eq_true, Bool.and_eq_true (nw_F L LF false false 143 17), Bool.and_eq_true (nw_F L LF false false 143 18)] at h3
  obtain ⟨⟨x1, x2⟩, ⟨y1, y2⟩, z1, z2⟩ := h2
  refine ⟨spf_fr F hc, fun k => F _ _ (nw_ar ?_ k), fun k => F _ _ (nw_ar ?_ k), ⟨F _ _ h3.1, F _ _ h3.2.1, F _ _ h3.2.2.1, F _ _ h3.2.2.2⟩, fun k => F _ _ (nw_ar ?_ k)⟩
  · simp only [Bool.and_eq_true]; exact ⟨x1, x2, rfl, rfl⟩
  · simp only [Bool.and_eq_true]; exact ⟨y1, y2, rfl, rfl⟩
  · simp only [Bool.and_eq_true]; exact ⟨z1, z2, rfl, rfl⟩
theorem mv0_up {c k : Nat} {v : Int} (hc : ((!(is_I c) && !(Nat.beq (ly_T c) 1)) && !(Nat.beq c 60)) = true) (h3 : ¬ (c = 56 ∧ k = 3)) (h4 : c ≠ 68 ∧ c ≠ 148 ∧ c ≠ 149 ∧ (c ≠ 143 ∨ (k ≠ 6 ∧ k ≠ 17 ∧ k ≠ 18 ∧ k ≠ 19))) : MV0 h (up_M h c k v) :=
  ⟨spf_up hc h3, fun j => up_n (by omega), fun j => up_n (by omega), ⟨up_n (by omega), up_n (by omega), up_n (by omega), up_n (by omega)⟩, fun j => up_n (by omega)⟩
theorem pl_goOn {w : Int} : Pc (qf_X5_goOn nn w h) (fun g => MVW h g w) := by
  unfold qf_X5_goOn
  refine pc_rA (fun j0 j1 v3 e3 => pc_xl (fun v4 e4 => pc_wA (fun _ _ h5 e5 => pc_ret ?_)))
  rw [e5]
  refine ⟨spf_up rfl (by omega), fun k => up_n (by omega), fun k => up_n (by omega), ⟨up_n (by omega), up_n (by omega), up_n (by omega), up_n (by omega)⟩, fun k => ?_⟩
  by_cases q : k = (h 143 17).toNat
  · right
    refine ⟨q, ?_⟩
    rw [q, up_s, e4, e3]
  · left; exact up_n (by omega)
theorem pl_push {v : Int} : Pc (qf_X5_push nn v h) (fun g => MV0 h g) := fun r e => mv0_fr (fun c k w => (ff_X5_push nn) _ e c k w) rfl rfl rfl
theorem pl_pop : Pc (qf_X5_pop nn h) (fun r => MV0 h r.2) := fun r e => mv0_fr (fun c k w => (ff_X5_pop nn) _ e c k w) rfl rfl rfl
theorem pl_make {a b : Int} : Pc (qf_X5_make nn a b h) (fun r => MV0 h r.2) := fun r e => mv0_fr (fun c k w => (ff_X5_make nn) _ e c k w) rfl rfl rfl
theorem pl_cellOf {a b : Int} : Pc (qf_X5_cellOf nn a b h) (fun r => MV0 h r.2) := fun r e => mv0_fr (fun c k w => (ff_X5_cellOf nn) _ e c k w) rfl rfl rfl
theorem pl_give {v w : Int} : Pc (qf_X5_give nn v w h) (fun g => MVW h g w) := by
  unfold qf_X5_give
  exact pc_sv pl_push (fun u M => pc_sv pl_goOn (fun u4 W => pc_ret (mvw_l M W)))
theorem pl_give_ {v w : Int} : Pc (mx_sv (qf_X5_give nn v w h) fun u4 => some u4) (fun g => MVW h g w) := pc_sv pl_give (fun u W => pc_ret W)
theorem pl_goOn_ {w : Int} : Pc (mx_sv (qf_X5_goOn nn w h) fun u4 => some u4) (fun g => MVW h g w) := pc_sv pl_goOn (fun u W => pc_ret W)
theorem mv_thr {v : Int} : MV0 h (up_M h 143 20 v) := mv0_up rfl (by omega) (by omega)
theorem mv_st {v : Int} : MV0 h (up_M h 143 1 v) := mv0_up rfl (by omega) (by omega)
theorem pl_local {o n : Int} : Pc (qf_X5_stepLocal nn o n h) (fun g => MVW h g 2) := by
  have j : ∀ l, Pc (qj_X5_stepLocal_37 nn l h) (fun g => MVW h g 2) := fun l => by
    unfold qj_X5_stepLocal_37
    exact pc_rA (fun _ _ v e => pl_give_)
  unfold qf_X5_stepLocal
  refine pc_xl (fun v6 e6 => pc_xl (fun v7 e7 => ?_))
  refine pc_if (fun _ => pc_if (fun _ => j _) (fun _ => pc_if (fun _ => ?_) (fun _ => j _))) (fun _ => pc_xl (fun h16 e16 => pc_ret (by rw [e16]; exact mvw_of mv_st)))
  refine pc_sv pl_pop (fun u10 M => pc_wA (fun _ _ h11 e11 => ?_))
  refine pc_imp pl_goOn_ (fun g W => mvw_l (mv0_tr M ?_) W)
  rw [e11]; exact mv0_up rfl (by omega) (by omega)
theorem pl_arith {o : Int} : Pc (qf_X5_stepArithmetic nn o h) (fun g => MVW h g 1) := by
  have j : ∀ {z : ms_M} (a b : Int), MV0 h z → Pc (qj_X5_stepArithmetic_35 nn o a b z) (fun g => MVW h g 1) := fun a b M => by
    unfold qj_X5_stepArithmetic_35
    exact pc_se (fun u _ => pc_imp pl_give_ (fun g W => mvw_l M W))
  have t : ∀ {z : ms_M}, MV0 h z → Pc (qj_X5_stepArithmetic_26 nn z) (fun g => MVW h g 1) := fun M => by
    unfold qj_X5_stepArithmetic_26
    exact pc_xl (fun h4 e => pc_ret (by rw [e]; exact mvw_of (mv0_tr M mv_thr)))
  unfold qf_X5_stepArithmetic
  refine pc_sv pl_pop (fun u6 M6 => pc_sv pl_pop (fun u8 M8 => ?_))
  have M := mv0_tr M6 M8
  exact pc_if (fun _ => j _ _ M) (fun _ => pc_if (fun _ => t M) (fun _ => pc_if (fun _ => j _ _ M) (fun _ => t M)))
theorem pl_element : Pc (qf_X5_stepElement nn h) (fun g => MVW h g 1) := by
  unfold qf_X5_stepElement
  refine pc_sv pl_pop (fun u2 M2 => pc_sv pl_pop (fun u4 M4 => pc_sv pl_cellOf (fun u6 M6 => ?_)))
  have M := mv0_tr M2 (mv0_tr M4 M6)
  exact pc_if (fun _ => pc_ret (mvw_of M)) (fun _ => pc_if (fun _ => pc_ret (mvw_of M)) (fun _ => pc_rA (fun _ _ v e => pc_imp pl_give_ (fun g W => mvw_l M W))))
theorem pl_giveElement {o : Int} : Pc (qf_X5_stepGiveElement nn o h) (fun g => MVW h g 1) := by
  have j : ∀ {z : ms_M} (a b : Int), MV0 h z → Pc (qj_X5_stepGiveElement_89 nn a b z) (fun g => MVW h g 1) := fun a b M => by
    unfold qj_X5_stepGiveElement_89
    refine pc_wA (fun _ _ h2 e => pc_imp pl_goOn_ (fun g W => mvw_l (mv0_tr M ?_) W))
    rw [e]; exact mv0_up rfl (by omega) (by omega)
  unfold qf_X5_stepGiveElement
  refine pc_sv pl_pop (fun u6 M6 => pc_sv pl_pop (fun u8 M8 => pc_sv pl_pop (fun u10 M10 => pc_sv pl_cellOf (fun u12 M12 => ?_))))
  have M := mv0_tr M6 (mv0_tr M8 (mv0_tr M10 M12))
  refine pc_if (fun _ => pc_ret (mvw_of M)) (fun _ => pc_if (fun _ => ?_) (fun _ => pc_ret (mvw_of M)))
  refine pc_if (fun _ => j _ _ M) (fun _ => pc_se (fun u14 _ => pc_if (fun _ => j _ _ M) (fun _ => ?_)))
  refine pc_rA (fun _ _ v18 _ => pc_rA (fun _ _ v20 _ => pc_se (fun u21 _ => pc_se (fun u23 _ => ?_))))
  exact pc_if (fun _ => j _ _ M) (fun _ => pc_xl (fun h24 e => pc_ret (by rw [e]; exact mvw_of (mv0_tr M mv_thr))))
theorem pl_field {a : Int} : Pc (qf_X5_stepField nn a h) (fun g => MVW h g 2) := by
  unfold qf_X5_stepField
  refine pc_sv pl_pop (fun u2 M => pc_se (fun u4 _ => pc_se (fun u6 _ => ?_)))
  exact pc_if (fun _ => pc_rA (fun _ _ v e => pc_imp pl_give_ (fun g W => mvw_l M W))) (fun _ => pc_xl (fun h24 e => pc_ret (by rw [e]; exact mvw_of (mv0_tr M mv_thr))))
theorem pl_giveField {a : Int} : Pc (qf_X5_stepGiveField nn a h) (fun g => MVW h g 2) := by
  unfold qf_X5_stepGiveField
  refine pc_sv pl_pop (fun u2 M2 => pc_sv pl_pop (fun u4 M4 => pc_se (fun u6 _ => pc_se (fun u8 _ => ?_))))
  have M := mv0_tr M2 M4
  refine pc_if (fun _ => pc_wA (fun _ _ h10 e => pc_imp pl_goOn_ (fun g W => mvw_l (mv0_tr M ?_) W))) (fun _ => pc_xl (fun h24 e => pc_ret (by rw [e]; exact mvw_of (mv0_tr M mv_thr))))
  rw [e]; exact mv0_up rfl (by omega) (by omega)
theorem pl_print : Pc (qf_X5_stepPrint nn h) (fun g => MVW h g 1) := by
  have j : ∀ {z : ms_M}, MV0 h z → Pc (qj_X5_stepPrint_25 nn z) (fun g => MVW h g 1) := fun M => by
    unfold qj_X5_stepPrint_25
    refine pc_xl (fun v2 _ => pc_xl (fun h3 e => pc_imp pl_goOn_ (fun g W => mvw_l (mv0_tr M ?_) W)))
    rw [e]; exact mv0_up rfl (by omega) (by omega)
  unfold qf_X5_stepPrint
  refine pc_sv pl_pop (fun u7 M => pc_if (fun _ => j M) (fun _ => pc_wA (fun _ _ h11 e => j (mv0_tr M ?_))))
  rw [e]; exact mv0_up rfl (by omega) (by omega)
theorem pl_giveNew {a b : Int} : Pc (qf_X5_giveNew nn a b h) (fun g => MVW h g 2) := by
  unfold qf_X5_giveNew
  exact pc_sv pl_make (fun u2 M => pc_if (fun _ => pc_ret (mvw_of M)) (fun _ => pc_imp pl_give_ (fun g W => mvw_l M W)))
theorem pl_newArray {a : Int} : Pc (qf_X5_stepNewArray nn a h) (fun g => MVW h g 2) := by
  unfold qf_X5_stepNewArray
  exact pc_sv pl_pop (fun u2 M => pc_if (fun _ => pc_sv pl_giveNew (fun u W => pc_ret (mvw_l M W))) (fun _ => pc_xl (fun h24 e => pc_ret (by rw [e]; exact mvw_of (mv0_tr M mv_thr)))))
theorem pl_length : Pc (qf_X5_stepLength nn h) (fun g => MVW h g 1) := by
  unfold qf_X5_stepLength
  refine pc_sv pl_pop (fun u2 M => pc_se (fun u4 _ => pc_if (fun _ => pc_xl (fun h24 e => pc_ret (by rw [e]; exact mvw_of (mv0_tr M mv_thr)))) (fun _ => ?_)))
  exact pc_xl (fun v7 _ => pc_rA (fun _ _ v8 _ => pc_rA (fun _ _ v10 _ => pc_xl (fun v11 _ => pc_imp pl_give_ (fun g W => mvw_l M W)))))
theorem pl_kin {o c : Int} : Pc (qf_X5_stepKin nn o c h) (fun g => MVW h g 2) := by
  have j : ∀ {z : ms_M} (a b : Int), MV0 h z → Pc (qj_X5_stepKin_38 nn o a b z) (fun g => MVW h g 2) := fun a b M => by
    unfold qj_X5_stepKin_38 qj_X5_stepKin_74 qj_X5_stepKin_58
    have k : ∀ v, Pc (mx_sv (qf_X5_give nn v 2 _) fun u2 => some u2) (fun g => MVW h g 2) := fun v => pc_imp pl_give_ (fun g W => mvw_l M W)
    exact pc_if (fun _ => pc_if (fun _ => k _) (fun _ => pc_if (fun _ => pc_xl (fun h24 e => pc_ret (by rw [e]; exact mvw_of (mv0_tr M mv_thr)))) (fun _ => k _))) (fun _ => pc_if (fun _ => k _) (fun _ => k _))
  have j7 : ∀ {z : ms_M} (a : Int), MV0 h z → Pc (qj_X5_stepKin_37 nn o a z) (fun g => MVW h g 2) := fun a M => by
    unfold qj_X5_stepKin_37
    exact j a 0 M
  unfold qf_X5_stepKin
  refine pc_sv pl_pop (fun u11 M => pc_se (fun u13 _ => pc_if (fun _ => j7 _ M) (fun _ => ?_)))
  exact pc_rA (fun _ _ v17 _ => pc_se (fun u19 _ => pc_if (fun _ => j7 _ M) (fun _ => j _ _ M)))
theorem pl_throw : Pc (qf_X5_stepThrow nn h) (fun g => MV0 h g) := by
  unfold qf_X5_stepThrow
  exact pc_sv pl_pop (fun u2 M => pc_if (fun _ => pc_xl (fun h24 e => pc_ret (by rw [e]; exact (mv0_tr M mv_thr)))) (fun _ => pc_xl (fun h24 e => pc_ret (by rw [e]; exact (mv0_tr M mv_thr)))))
/-- how far a jump at p goes -/
def JOF (h : ms_M) (p : Int) : Int := oq_s (pr2 h (h 143 18).toNat (oq_add (oq_add (h 143 19) p) 1))
theorem jof_q {p : Int} (V : VBb h (h 143 18).toNat) (M : MV0 h g) : JOF g p = JOF h p := by
  unfold JOF
  rw [M.2.2.2.1.2.2.1, M.2.2.2.1.2.2.2, pr2_q (M.1.2.2 _ V)]
theorem pl_jump {o p : Int} (V : VBb h (h 143 18).toNat) : Pc (qf_X5_stepJump nn o p h) (fun g => (MVW h g 3 ∧ ¬ o = 167) ∨ MVW h g (JOF h p)) := by
  have j : ∀ {z : ms_M} (s : Int), (s = 0 → ¬ o = 167) → MV0 h z → Pc (qj_X5_stepJump_76 nn p s z) (fun g => (MVW h g 3 ∧ ¬ o = 167) ∨ MVW h g (JOF h p)) := fun {z} s hs M => by
    unfold qj_X5_stepJump_76
    refine pc_if (fun c => pc_imp pl_goOn_ (fun g W => .inl ⟨mvw_l M W, hs c⟩)) (fun _ => ?_)
    refine pc_ck (fun _ => pc_xl (fun v5 e5 => pc_xl (fun v6 e6 => pc_ck (fun _ => pc_sv pv_pair (fun u8 e8 => pc_xl (fun v9 e9 => pc_imp pl_goOn_ (fun g W => .inr (mvw_l M ?_))))))))
    have : v9 = JOF z p := by rw [e9, e8, e6, e5]; rfl
    rw [← jof_q V M, ← this]; exact W
  unfold qf_X5_stepJump qj_X5_stepJump_44 qj_X5_stepJump_21
  refine pc_if (fun c1 => pc_if (fun c2 => ?_) (fun c2 => ?_)) (fun c1 => ?_)
  · refine pc_if (fun _ => j 1 (fun z => absurd z (by decide)) mv0_refl) (fun c3 => ?_)
    exact pc_sv pl_pop (fun u14 M14 => pc_sv pl_pop (fun u16 M16 => pc_se (fun u17 _ => j _ (fun _ => c3) (mv0_tr M14 M16))))
  · exact pc_sv pl_pop (fun u M => pc_if (fun _ => j _ (fun _ => by omega) M) (fun _ => j _ (fun _ => by omega) M))
  · exact pc_sv pl_pop (fun u M => pc_if (fun _ => j _ (fun _ => by omega) M) (fun _ => j _ (fun _ => by omega) M))
end
end
section
/- A STEP OF THE MACHINE KEEPS THE FRAMES GOOD -/
section
variable {nn : Nat} {h g z : ms_M}
theorem lok_mv {w : Int} {i : Nat} (S : STC h) (M : MVW h g w) (hi : i ≠ (h 143 17).toNat) (L : LOk h i) : LOk g i := by
  have e : g 149 i = h 149 i := (M.2.2.2.2 i).resolve_right (fun z => hi z.1)
  refine ⟨by rw [M.2.2.1]; exact nva_q M.1 L.1, ?_⟩
  rw [M.2.2.1, e]; exact pgo_q S L.1 M.1 L.2
theorem frs_mv {w : Int} (S : STC h) (F : FRS h) (M : MVW h g w) (hp : g 149 (h 143 6 - 1).toNat = oq_add (h 149 (h 143 6 - 1).toNat) w → PGo h (h 148 (h 143 6 - 1).toNat) (oq_add (h 149 (h 143 6 - 1).toNat) w)) : STC g ∧ FRS g := by
  refine ⟨stc_q M.1 M.2.1 S, ?_⟩
  obtain ⟨f1, f2, ⟨t1, t2, t3, t4⟩, f4⟩ := F
  obtain ⟨m6, m17, m18, m19⟩ := M.2.2.2.1
  refine ⟨by rw [m6]; exact f1, by rw [m17, m6]; exact f2, ?_, fun i hi => lok_mv S M (by omega) (f4 i (by rw [m6] at hi; exact hi))⟩
  rw [m6]
  have A := M.1.2.2 _ (nva_vb S t1)
  refine ⟨by rw [M.2.2.1]; exact nva_q M.1 t1, ?_, ?_, ?_⟩
  · rw [M.2.2.1, m18, bN_q M.1]; exact t2
  · rw [M.2.2.1, m19, bN_q M.1, mo_q A]; exact t3
  · rw [M.2.2.1, bN_q M.1, show g (bN h (h 148 (h 143 6 - 1).toNat)) 12 = h (bN h (h 148 (h 143 6 - 1).toNat)) 12 from A.1 0 12 (by omega)]
    rcases M.2.2.2.2 (h 143 6 - 1).toNat with e | ⟨-, e⟩
    · rw [e]
      exact t4.imp (fun z => pgo_q S t1 M.1 z) id
    · have q := hp e
      left
      rw [e]; exact pgo_q S t1 M.1 q
/-- the instruction that is to be done -/
def OPt (h : ms_M) : Int := bt h (h 143 18).toNat (oq_add (h 143 19) (h 149 (h 143 17).toNat))
theorem opt_c (S : STC h) (F : FRS h) : (∃ B, BGo h (bN h (h 148 (h 143 17).toNat)) (h 148 (h 143 17).toNat % 12) B ∧ B (h 149 (h 143 17).toNat) ∧ OPt h = ocb h (bN h (h 148 (h 143 17).toNat)) (h 148 (h 143 17).toNat % 12) (h 149 (h 143 17).toNat)) ∨ OPt h = 74 := by
  obtain ⟨f1, f2, ⟨t1, t2, t3, t4⟩, f4⟩ := F
  rw [← f2] at t1 t2 t3 t4
  rcases t4 with ⟨B, G, b⟩ | ⟨c1, c2⟩
  · refine .inl ⟨B, G, b, ?_⟩
    unfold OPt ocb
    rw [t2, t3]
  · right
    have hm : mo h (bN h (h 148 (h 143 17).toNat)) (h 148 (h 143 17).toNat % 12) 6 = 0 := by
      unfold mo
      rw [if_neg (by have := t1.1; omega), if_pos c1]
    unfold OPt
    rw [t2, t3, hm, c2]
    exact S.2.1 (h 148 (h 143 17).toNat / 12).toNat (by have := t1.1; have := t1.2; omega)
theorem frs_w {w : Int} (S : STC h) (F : FRS h) (M : MVW h g w) (hw : WIo (OPt h) w) (hl : ¬ LST (OPt h)) : STC g ∧ FRS g := by
  refine frs_mv S F M (fun _ => ?_)
  rw [← F.2.1]
  rcases opt_c S F with ⟨B, G, b, e⟩ | e
  · rw [e] at hw hl
    obtain ⟨v, v1, v2⟩ := G.n _ b hl
    have := wio_det v1 hw
    have r := G.r _ b
    have r2 := wio_r hw
    refine ⟨B, G, ?_⟩
    rw [oq_add_eq (by omega) (by omega) (by omega), ← this]; exact v2
  · rw [e] at hw
    unfold WIo BAR ARI JMP TWO at hw; omega
theorem frs_j (S : STC h) (F : FRS h) (M : MVW h g (JOF h (h 149 (h 143 17).toNat))) (hj : JMP (OPt h)) : STC g ∧ FRS g := by
  refine frs_mv S F M (fun _ => ?_)
  rw [← F.2.1]
  have t2 := F.2.2.1.2.1
  have t3 := F.2.2.1.2.2.1
  rw [← F.2.1] at t2 t3
  rcases opt_c S F with ⟨B, G, b, e⟩ | e
  · rw [e] at hj
    refine ⟨B, G, ?_⟩
    have := G.j _ b hj
    have k : JOF h (h 149 (h 143 17).toNat) = oq_s (oq_or (oq_shl (ocb h (bN h (h 148 (h 143 17).toNat)) (h 148 (h 143 17).toNat % 12) (oq_add (h 149 (h 143 17).toNat) 1)) 8) (ocb h (bN h (h 148 (h 143 17).toNat)) (h 148 (h 143 17).toNat % 12) (oq_add (h 149 (h 143 17).toNat) 2))) := by
      unfold JOF pr2 ocb
      rw [t2, t3, oq_as, oq_as, oq_as, show oq_add 1 1 = 2 from rfl]
    rw [k]; exact this
  · rw [e] at hj
    unfold JMP at hj; omega
/-- taking the uppermost method -/
def TTp (h g : ms_M) : Prop := SPF h g ∧ (∀ k, g 68 k = h 68 k) ∧ (∀ k, g 148 k = h 148 k) ∧ (∀ k, g 149 k = h 149 k) ∧ g 143 6 = h 143 6 ∧ g 143 17 = h 143 6 - 1 ∧ (NVa h (h 148 (h 143 6 - 1).toNat) → (g 143 18).toNat = bN h (h 148 (h 143 6 - 1).toNat) ∧ g 143 19 = mo h (bN h (h 148 (h 143 6 - 1).toNat)) (h 148 (h 143 6 - 1).toNat % 12) 6) ∧ (g 143 1 = h 143 1 ∨ g 143 1 = 6) ∧ (¬ NVa h (h 148 (h 143 6 - 1).toNat) → g 143 1 = 6)
theorem pl_top (S : STC h) (hd : 1 ≤ h 143 6 ∧ h 143 6 ≤ 60) : Pc (qf_X5_takeTop nn h) (fun g => TTp h g) := by
  have c3 := S.2.2.2
  unfold qf_X5_takeTop
  refine pc_xl (fun v2 e2 => pc_xl (fun v3 e3 => pc_xl (fun h4 e4 => ?_)))
  rw [oq_sub_eq (by omega) (by omega) (by omega)] at e2
  have e3 : v3 = h 143 6 - 1 := by rw [e3]; split <;> omega
  have t4 : h4 143 17 = h 143 6 - 1 := by rw [e4, up_s]; exact e3
  have n4 : ∀ c k, ¬ (c = 143 ∧ k = 17) → h4 c k = h c k := fun c k q => by rw [e4]; exact up_n q
  have F4 : SPF h h4 := by rw [e4]; exact spf_up rfl (by omega)
  refine pc_rA (fun _ _ v8 e8 => ?_)
  rw [t4, n4 _ _ (by omega)] at e8
  refine pc_se (fun u10 e10 => ?_)
  have i10 : (NVa h v8 ∧ u10 = h 60 (v8 / 12).toNat) ∨ (¬ NVa h v8 ∧ u10 = -1) := by
    unfold qf_X7_imageOfMember at e10
    unfold NVa
    split at e10
    · cases e10; right; exact ⟨by omega, rfl⟩
    · rw [n4 _ _ (by omega), xl_eq, oq_mul_eq (by omega) (by omega) (by omega)] at e10
      split at e10
      · cases e10; right; exact ⟨by omega, rfl⟩
      · rw [xl_eq] at e10
        have e10 := rd_i e10
        cases e10
        left
        refine ⟨by omega, ?_⟩
        rw [n4 _ _ (by omega), Int.tdiv_eq_ediv_of_nonneg (by omega)]
  refine pc_if (fun c => ?_) (fun c => ?_)
  · refine pc_xl (fun h13 e13 => pc_ret ?_)
    have nv : ¬ NVa h v8 := by
      rcases i10 with ⟨a, b⟩ | ⟨a, b⟩
      · have := (S.2.2.1 (v8 / 12).toNat (by have := a.1; have := a.2; omega)).1
        omega
      · exact a
    have n13 : ∀ c k, ¬ (c = 143 ∧ k = 1) → h13 c k = h4 c k := fun c k q => by rw [e13]; exact up_n q
    rw [e8] at nv
    refine ⟨spf_tr F4 (by rw [e13]; exact spf_up rfl (by omega)), fun k => ?_, fun k => ?_, fun k => ?_, ?_, ?_, fun q => absurd q nv, .inr (by rw [e13]; exact up_s), fun _ => by rw [e13]; exact up_s⟩
    · rw [n13 _ _ (by omega), n4 _ _ (by omega)]
    · rw [n13 _ _ (by omega), n4 _ _ (by omega)]
    · rw [n13 _ _ (by omega), n4 _ _ (by omega)]
    · rw [n13 _ _ (by omega), n4 _ _ (by omega)]
    · rw [n13 _ _ (by omega), t4]
  · have nv : NVa h v8 ∧ u10 = h 60 (v8 / 12).toNat := by
      rcases i10 with q | ⟨a, b⟩
      · exact q
      · omega
    have nv2 := nv.1
    rw [e8] at nv2
    have hbn : (u10.toNat : Int) = h 60 (v8 / 12).toNat := by
      rw [nv.2]
      exact Int.toNat_of_nonneg (S.2.2.1 (v8 / 12).toNat (by have := nv.1.1; have := nv.1.2; omega)).1
    have W : ∀ {a : Int} {G : ms_M → Option ms_M} {Q : ms_M → Prop}, (∀ z, z = up_M h4 143 18 a → Pc (G z) Q) → Pc (wr_R 143 18 a h4 G) Q := by
      intro a G Q k r e
      unfold wr_R at e
      split at e
      · exact k _ rfl r e
      · cases e
    refine W (fun h14 e14 => ?_)
    have n14 : ∀ c k, ¬ (c = 143 ∧ k = 18) → h14 c k = h4 c k := fun c k q => by rw [e14]; exact up_n q
    have F14 : SPF h4 h14 := by rw [e14]; exact spf_up rfl (by omega)
    have s14 : (h14 143 18).toNat = bN h v8 := by
      rw [e14, up_s, hbn]; rfl
    refine pc_ck (fun _ => pc_rA (fun _ _ v18 e18 => pc_xl (fun v19 e19 => pc_ck (fun _ => pc_sv pv_mo (fun u21 e21 => pc_xl (fun h22 e22 => pc_ret ?_))))))
    rw [n14 148 _ (by omega), n14 143 17 (by omega), t4, n4 148 _ (by omega), ← e8] at e18
    rw [s14, e19, e18, Int.tmod_eq_emod_of_nonneg nv.1.1, mo_q ((spf_tr F4 F14).2.2 _ (nva_vb S nv.1))] at e21
    have n22 : ∀ c k, ¬ (c = 143 ∧ k = 19) → h22 c k = h14 c k := fun c k q => by rw [e22]; exact up_n q
    refine ⟨spf_tr F4 (spf_tr F14 (by rw [e22]; exact spf_up rfl (by omega))), fun k => ?_, fun k => ?_, fun k => ?_, ?_, ?_, fun _ => ⟨?_, ?_⟩, .inl ?_, fun q => absurd nv2 q⟩
    · rw [n22 _ _ (by omega), n14 _ _ (by omega), n4 _ _ (by omega)]
    · rw [n22 _ _ (by omega), n14 _ _ (by omega), n4 _ _ (by omega)]
    · rw [n22 _ _ (by omega), n14 _ _ (by omega), n4 _ _ (by omega)]
    · rw [n22 _ _ (by omega), n14 _ _ (by omega), n4 _ _ (by omega)]
    · rw [n22 _ _ (by omega), n14 _ _ (by omega), t4]
    · rw [n22 _ _ (by omega), s14, e8]
    · rw [e22, up_s, e21, e8]
    · rw [n22 _ _ (by omega), n14 _ _ (by omega), n4 _ _ (by omega)]
end
end

section
variable {nn : Nat} {h g r z t : ms_M} {c : Int}
/-- the space stays, and whether it was verified and runs; or nothing runs -/
def KPT (h r : ms_M) : Prop := (r 160 99 = 0 ∧ r 160 138 = 0) ∨ (r 160 99 = h 160 99 ∧ r 160 138 = h 160 138 ∧ AGe h r)
theorem kpt_rf : KPT h h := .inr ⟨rfl, rfl, age_rf⟩
theorem kpt_tr (A : KPT h z) (B : KPT z r) : KPT h r := by
  rcases B with B | ⟨b1, b2, b3⟩
  · exact .inl B
  · rcases A with A | ⟨a1, a2, a3⟩
    · exact .inl ⟨b1.trans A.1, b2.trans A.2⟩
    · exact .inr ⟨b1.trans a1, b2.trans a2, age_tr a3 b3⟩
theorem kpt_nc (N : NC h r) : KPT h r := .inr ⟨N 160 99 (by decide) (by decide), N 160 138 (by decide) (by decide), age_k (fun x k p q => N x k (by omega) (by omega)) (N 160 98 (by decide) (by decide))⟩
theorem kpt_f {j : Nat} {y : Int} (hj : j ≠ 98 ∧ j ≠ 99 ∧ j ≠ 138) : KPT h (up_M h 160 j y) := .inr ⟨up_n (by omega), up_n (by omega), age_k (fun x k p q => up_n (by omega)) (up_n (by omega))⟩
theorem age_sw (W : SW h r) (e : r 160 98 = h 160 98) : AGe h r := age_k (fun x k p q => W x k (by omega) (by omega) (by omega)) e
theorem age_aw (W : AW c h r) (hc : h 160 98 ≤ c) (e : r 160 98 = h 160 98) : AGe h r := by
  have A' : ∀ x k : Nat, x ≠ 160 → x ≠ 238 → x ≠ 239 → ¬ TAB c x k → ¬ (x = 226 ∧ 6000 * c ≤ (k : Int) ∧ (k : Int) < 6000 * c + 6000) → ¬ (x = 227 ∧ (k : Int) = c) → r x k = h x k := W
  unfold TAB at A'
  refine ⟨e, fun d d0 d1 => ⟨fun i i0 i1 => ?_, fun i i0 i1 => ?_, ⟨?_, ?_, ?_, ?_, ?_⟩, fun j j0 j1 => ⟨?_, ?_, ?_, ?_⟩⟩⟩ <;> exact A' _ _ (by omega) (by omega) (by omega) (by omega) (by omega) (by omega)
def QLE (h : ms_M) (u : Int × ms_M) : Prop := QLD h u ∧ KPT h u.2
theorem lx_loaded (hn : 1000000 ≤ nn) (V : VS_ h) (S : SPD h) : Ok_ (qf_X13_loaded nn h) (QLE h) := by
  have g98 := gF_160_98 V
  unfold qf_X13_loaded
  refine ok_if (fun C => ?_) (fun C => ?_)
  · refine ok_sv (sr_scan hn (by omega) V) ?_; intro u4 Q
    obtain ⟨⟨V4, N4, I4⟩, I9⟩ := Q
    have e98 : u4 160 98 = h 160 98 := N4 160 98 (by omega) (by omega) (by omega) (by omega)
    have S4 : SPD u4 := fun d a b => imd_o (c := h 160 98) (by omega) (by omega) (by omega) V (aw_nta N4) (S d a (by omega))
    have L4 : NL h u4 := nl_nta N4
    have K4 : KPT h u4 := .inr ⟨N4 160 99 (by omega) (by omega) (by omega) (by omega), N4 160 138 (by omega) (by omega) (by omega) (by omega), age_aw (aw_nta N4) (by omega) e98⟩
    have g114 := gF_160_114 V4
    refine ok_if (fun D => ?_) (fun _ => ?_)
    · have I := I4 D
      have J := I9 D
      have g113 := gF_160_113 V4
      rw [← e98] at I J
      have hc : 0 ≤ u4 160 98 ∧ u4 160 98 ≤ 7 := by omega
      generalize hcc : u4 160 98 = c at *
      obtain ⟨a1, a2, a3, a4, a5, a6⟩ := im8_name hc V4 I
      refine ok_mul (by omega) ?_; intro v8 e8
      refine ok_mul (by omega) ?_; intro v12 e12
      refine ok_rd (by omega) (gA_230 V4) ?_; intro v15 e15 _ _
      rw [← e15] at a1 a2 a3 a4 a5 a6
      refine ok_add (by omega) ?_; intro v16 e16
      refine ok_rd (by omega) (gA_228 V4) ?_; intro v17 e17 _ _
      have w17 : pl u4 c v15 = v17 := by rw [e17, e16, e12]; rfl
      rw [w17] at a2 a3 a4 a5 a6
      refine ok_add (by omega) ?_; intro v18 e18
      refine ok_rd (by omega) (gA_238 V4) ?_; intro v19 e19 _ _
      rw [← e18, ← e19] at a3 a4 a5 a6
      refine ok_add (by omega) ?_; intro v20 e20
      refine ok_rd (by omega) (gA_228 V4) ?_; intro v21 e21 _ _
      have w21 : pl u4 c v19 = v21 := by rw [e21, e20, e8]; rfl
      rw [w21] at a4 a5 a6
      refine ok_add (by omega) ?_; intro v23 e23
      refine ok_add (by omega) ?_; intro v25 e25
      refine ok_rd (by omega) (gA_238 V4) ?_; intro v26 e26 _ _
      rw [← e25, ← e26] at a5 a6
      refine ok_sv (nm_class hn (.inl ⟨rfl, rfl⟩) V4 (by omega) (by omega) (spd_c S4)) ?_; intro u28 _
      refine ok_if (fun _ => ?_) (fun _ => ?_)
      · refine ok_sv (nm_install hn hc V4) ?_; intro u31 Q
        obtain ⟨QI, _⟩ := Q
        have V31 := QI.1
        have n98 : u31.2 160 98 = c := by rw [QI.2.1 160 98 (by omega) (by omega)]; exact hcc
        refine ok_add (by omega) ?_; intro v33 e33
        refine ok_xl ?_; intro h34 E34
        refine ok_xl ?_; intro h35 E35
        refine ok_xl ?_; intro h36 E36
        have V34 : VS_ h34 := by rw [E34]; exact wF_160_98 V31 (by omega)
        have V35 : VS_ h35 := by rw [E35]; exact wF_160_99 V34 (by omega)
        have V36 : VS_ h36 := by rw [E36]; exact wF_160_138 V35 (by omega)
        have W : SW u31.2 h36 := fun x k a _ _ => by rw [E36, up_n (fun y => a y.1), E35, up_n (fun y => a y.1), E34, up_n (fun y => a y.1)]
        have f98 : h36 160 98 = c + 1 := by rw [E36, up_n (by omega), E35, up_n (by omega), E34, up_s]; omega
        refine ok_ret ⟨⟨V36, fun d a b => ?_, ?_⟩, .inl ⟨by show h36 160 99 = 0; rw [E36, up_n (by omega), E35, up_s], by show h36 160 138 = 0; rw [E36, up_s]⟩⟩
        · have b : d < c + 1 := by rw [← f98]; exact b
          refine imd_s (by omega) V31 W ?_
          by_cases y : d = c
          · rw [y]; exact imd_new hc V4 I J QI
          · exact imd_o hc (by omega) y V4 (aw_qi QI) (S4 d a (by omega))
        · show NL h h36
          refine nl_tr L4 (nl_tr (nl_qi QI) ?_)
          rw [E36, E35, E34]
          exact nl_tr (nl_f (by unfold LF; omega)) (nl_tr (nl_f (by unfold LF; omega)) (nl_f (by unfold LF; omega)))
      · unfold qj_X13_loaded_138
        exact ok_ret ⟨⟨V4, S4, L4⟩, K4⟩
    · refine ok_sub (by omega) ?_; intro v39 _
      exact ok_ret ⟨⟨V4, S4, L4⟩, K4⟩
  · refine ok_sv (as_aside hn (by omega) V) ?_; intro u42 Q
    obtain ⟨V42, N42, T42⟩ := Q
    refine ok_sv (sr_scan hn (by omega) V42) ?_; intro u44 Q
    obtain ⟨⟨V44, N44, _⟩, _⟩ := Q
    have T44 : TBk u44 h 7 := by
      have e : ∀ k : Nat, u44 239 k = u42 239 k := fun k => N44 239 k (by omega) (by omega) (by omega) (by omega)
      refine ⟨fun i hi => by rw [e]; exact T42.1 i hi, ?_, fun j hj => by rw [e, e, e, e]; exact T42.2.2 j hj⟩
      unfold TB2
      rw [e, e, e, e, e]; exact T42.2.1
    refine ok_sv (ag_again hn (by omega) V44 V T44) ?_; intro u47 Q
    obtain ⟨V47, A, B⟩ := Q
    have W : SW h u47 := fun x k w1 w2 w3 => by
      by_cases y : TAB 7 x k
      · exact B x k y
      · rw [A x k y, N44 x k (by omega) (fun z => y (.inl z)) (fun z => y (.inr (.inl z))) (fun z => y (.inr (.inr z)))]
        exact N42 x k w3
    have e98 : u47 160 98 = h 160 98 := by
      rw [A 160 98 (by unfold TAB; omega), N44 160 98 (by omega) (by omega) (by omega) (by omega)]
      exact N42 160 98 (by decide)
    have q : ∀ j : Nat, j = 99 ∨ j = 138 → u47 160 j = h 160 j := fun j hj => by
      rw [A 160 j (by unfold TAB; omega), N44 160 j (by omega) (by omega) (by omega) (by omega)]
      exact N42 160 j (by decide)
    have P : ∀ v : Int, QLE h (v, u47) := fun v => ⟨⟨V47, spd_s V W e98 S, nl_tr (nl_n9 N42) (nl_tr (nl_nta N44) (nl_ag A))⟩, .inr ⟨q 99 (.inl rfl), q 138 (.inr rfl), age_sw W e98⟩⟩
    have g114 := gF_160_114 V44
    refine ok_if (fun _ => ok_ret (P _)) (fun _ => ?_)
    refine ok_sub (by omega) ?_; intro v48 _
    exact ok_ret (P _)
theorem lx_load (hn : 1000000 ≤ nn) (V : VS_ h) (S : SPD h) : Ok_ (qf_X13_load nn h) (QLE h) := by
  have g1 := gF_160_1 V
  have L : ∀ (k : Nat) (l : Int) (g : ms_M), VS_ g → NC h g → (0 ≤ l ∧ l ≤ h 160 1) → h 160 1 - l < (k : Int) → Ok_ (qw_X13_load_10 nn k l g) (QLE h) := by
    intro k
    induction k with
    | zero => intro l g V N a hm; exfalso; omega
    | succ k ih =>
      intro l g V' N a hm
      have e1 : g 160 1 = h 160 1 := N 160 1 (by decide) (by decide)
      unfold qw_X13_load_10
      refine ok_if (fun C => ?_) (fun C => ?_)
      · refine ok_xl ?_; intro h2 E2
        have V2 : VS_ h2 := by rw [E2]; exact wF_160_1 V' (by omega)
        have S2 : SPD h2 := spd_s V' (fun x k a _ _ => by rw [E2, up_n (fun y => a y.1)]) (by rw [E2, up_n (by omega)]) (nc_spd V N S)
        refine ok_sv (lx_loaded hn V2 S2) ?_; intro u4 Q
        refine ok_ret ⟨⟨Q.1.1, Q.1.2.1, nl_tr (nc_nl N) (nl_tr ?_ Q.1.2.2)⟩, kpt_tr (kpt_nc N) (kpt_tr ?_ Q.2)⟩
        · rw [E2]; exact nl_f (by unfold LF; omega)
        · rw [E2]; exact kpt_f (by decide)
      · refine ok_rd (by omega) (gA_161 V') ?_; intro v7 e7 _ _
        refine ok_wA (by omega) ?_; intro h8 E8
        refine ok_add (by omega) ?_; intro v9 e9
        exact ih v9 h8 (by rw [E8]; exact wA_238 V' (by omega)) (fun x k a b => by rw [E8, up_n (fun y => a y.1)]; exact N x k a b) (by omega) (by omega)
  unfold qf_X13_load
  refine ok_xl ?_; intro h12 E12
  exact L nn 0 h12 (by rw [E12]; exact wF_160_113 V (by omega)) (fun x k a b => by rw [E12, up_n b]) (by omega) (by omega)
theorem lx_keep (hn : 1000000 ≤ nn) (V : VS_ h) (S : SPD h) {a : Int} : Ok_ (qf_X13_keep nn a h) (QLE h) := by
  have g93 := gF_160_93 V
  unfold qf_X13_keep
  refine ok_if (fun _ => ok_ret ⟨⟨V, S, nl_rf⟩, kpt_rf⟩) (fun C => ?_)
  refine ok_if (fun D => ?_) (fun _ => ok_ret ⟨⟨V, S, nl_rf⟩, kpt_rf⟩)
  refine ok_rd (by omega) (gA_222 V) ?_; intro v14 e14 a14 b14
  refine ok_xl ?_; intro h15 E15
  have L : ∀ (k : Nat) (l : Int) (g : ms_M), VS_ g → NC h g → g 160 113 = v14 → (0 ≤ l ∧ l ≤ v14) → v14 - l < (k : Int) → Ok_ (qw_X13_keep_26 nn k a l g) (QLE h) := by
    intro k
    induction k with
    | zero => intro l g V N e a hm; exfalso; omega
    | succ k ih =>
      intro l g V' N e b hm
      unfold qw_X13_keep_26
      refine ok_if (fun C => ?_) (fun C => ?_)
      · refine ok_sv (lx_loaded hn V' (nc_spd V N S)) ?_; intro u4 Q
        exact ok_ret ⟨⟨Q.1.1, Q.1.2.1, nl_tr (nc_nl N) Q.1.2.2⟩, kpt_tr (kpt_nc N) Q.2⟩
      · refine ok_mul (by omega) ?_; intro v6 e6
        refine ok_add (by omega) ?_; intro v7 e7
        refine ok_rd (by omega) (gA_221 V') ?_; intro v8 e8 _ _
        refine ok_wA (by omega) ?_; intro h9 E9
        refine ok_add (by omega) ?_; intro v10 e10
        exact ih v10 h9 (by rw [E9]; exact wA_238 V' (by omega)) (fun x k a b => by rw [E9, up_n (fun y => a y.1)]; exact N x k a b) (by rw [E9, up_n (by omega)]; exact e) (by omega) (by omega)
  exact L nn 0 h15 (by rw [E15]; exact wF_160_113 V (by omega)) (fun x k a b => by rw [E15, up_n b]) (by rw [E15, up_s]) (by omega) (by omega)
theorem pe_235 (hn : 1000000 ≤ nn) (P : PA9 h g c) (K : g 160 99 = h 160 99 ∧ g 160 138 = h 160 138) {l : Int} (I : l ≠ 0 → IM8 g c ∧ IM9 g c) : Ok_ (qj_X13_patch_235 nn c l g) (QLE h) := by
  have g98 := gF_160_98 P.v
  have c0 := P.c0
  unfold qj_X13_patch_235
  refine ok_if (fun C => ?_) (fun C => ?_)
  · refine ok_sv (nm_install hn (by omega) P.w) ?_; intro u2 Q
    obtain ⟨QI, _⟩ := Q
    have V2 := QI.1
    refine ok_xl ?_; intro h3 E3
    refine ok_xl ?_; intro h4 E4
    have V3 : VS_ h3 := by rw [E3]; exact wF_160_99 V2 (by omega)
    have V4 : VS_ h4 := by rw [E4]; exact wF_160_138 V3 (by omega)
    have W : SW u2.2 h4 := fun x k a _ _ => by rw [E4, up_n (fun y => a y.1), E3, up_n (fun y => a y.1)]
    have f98 : h4 160 98 = h 160 98 := by rw [E4, up_n (by omega), E3, up_n (by omega), QI.2.1 160 98 (by omega) (by omega)]; exact P.f
    refine ok_ret ⟨⟨V4, fun d a b => ?_, ?_⟩, .inl ⟨by show h4 160 99 = 0; rw [E4, up_n (by omega), E3, up_s], by show h4 160 138 = 0; rw [E4, up_s]⟩⟩
    · have b : d < h 160 98 := by rw [← f98]; exact b
      refine imd_s (by omega) V2 W ?_
      by_cases y : d = c
      · rw [y]; exact imd_new (by omega) P.w (I C).1 (I C).2 QI
      · exact imd_o (by omega) (by omega) y P.v (aw_tr (pb_aw P) (aw_qi QI)) (P.s d a b)
    · show NL h h4
      refine nl_tr P.n (nl_tr (nl_qi QI) ?_)
      rw [E4, E3]
      exact nl_tr (nl_f (by unfold LF; omega)) (nl_f (by unfold LF; omega))
  · refine ok_sv (ag_again hn (by omega) P.w P.v P.tb) ?_; intro u6 Q
    obtain ⟨V6, A, B⟩ := Q
    have W : SW h u6 := fun x k w1 w2 w3 => by
      by_cases y : TAB c x k
      · exact B x k y
      · rw [A x k y]; exact P.e x k w1 w2 w3 y
    have f98 : u6 160 98 = h 160 98 := by
      rw [A 160 98 (by unfold TAB; omega)]; exact P.f
    exact ok_ret ⟨⟨V6, spd_s P.v W f98 P.s, nl_tr P.n (nl_ag A)⟩, .inr ⟨by show u6 160 99 = _; rw [A 160 99 (by unfold TAB; omega)]; exact K.1, by show u6 160 138 = _; rw [A 160 138 (by unfold TAB; omega)]; exact K.2, age_sw W f98⟩⟩
theorem pe_173 (hn : 1000000 ≤ nn) (P : PA9 h g c) (K : g 160 99 = h 160 99 ∧ g 160 138 = h 160 138) (I : IM8 g c ∧ IM9 g c) {l6 : Int} (r6 : 3 ≤ l6 ∧ l6 + 2 ≤ 6000 ∧ l6 + 2 + g 238 (l6 + 1).toNat ≤ 6000) : ∀ (k : Nat) (l5 l7 : Int), (0 ≤ l7 ∧ l7 ≤ 16) → 17 - l7 < (k : Int) → Ok_ (qw_X13_patch_173 nn k (8 + c) c l5 l6 l7 g) (QLE h) := by
  have g98 := gF_160_98 P.v
  have c0 := P.c0
  have f := P.f
  intro k
  induction k with
  | zero => intro l5 l7 a hm; exfalso; omega
  | succ k ih =>
    intro l5 l7 a hm
    have J : (0 ≤ l7 ∧ l7 < 16) → Ok_ (qj_X13_patch_222 nn (qw_X13_patch_173 nn k) (8 + c) c l6 l7 g) (QLE h) := fun a => by
      unfold qj_X13_patch_222
      refine ok_add (by omega) ?_; intro v8 e8
      exact ih 1 v8 (by omega) (by omega)
    unfold qw_X13_patch_173
    refine ok_add (by omega) ?_; intro v10 e10
    refine ok_if (fun _ => pe_235 hn P K (fun _ => I)) (fun C => ?_)
    refine ok_if (fun _ => pe_235 hn P K (fun _ => I)) (fun D => ?_)
    refine ok_if (fun _ => J (by omega)) (fun E => ?_)
    have w := P.w
    refine ok_add (by omega) ?_; intro v12 e12
    refine ok_add (by omega) ?_; intro v14 e14
    have gl := gA_238 w (l6 + 1).toNat
    refine ok_rd (by omega) (gA_238 w) ?_; intro v15 e15 _ _
    rw [e14] at e15
    refine ok_sv (nm_is hn (.inl ⟨rfl, rfl⟩) w (by omega) (by omega) (by omega) (fun y => (imd_o (c := c) (by omega) (by omega) (by omega) P.v (pb_aw P) (P.s (l7 - 8) (by omega) (by omega))).1)) ?_; intro u17 _
    refine ok_if (fun _ => ?_) (fun _ => J (by omega))
    refine ok_add (by omega) ?_; intro v18 e18
    exact ih 0 v18 (by omega) (by omega)
theorem pe_123 (hn : 1000000 ≤ nn) (P : PA9 h g c) (K : g 160 99 = h 160 99 ∧ g 160 138 = h 160 138) {s : Int} (I : s ≠ 0 → IM8 g c ∧ IM9 g c) : Ok_ (qj_X13_patch_123 nn (8 + c) c s g) (QLE h) := by
  have g98 := gF_160_98 P.v
  have c0 := P.c0
  unfold qj_X13_patch_123
  refine ok_if (fun C => pe_235 hn P K I) (fun C => ?_)
  have I := I C
  have hc : 0 ≤ c ∧ c ≤ 7 := by omega
  have V4 := P.w
  have g113 := gF_160_113 V4
  obtain ⟨a1, a2, a3, a4, a5, a6⟩ := im8_name hc V4 I.1
  refine ok_mul (by omega) ?_; intro v24 e24
  refine ok_mul (by omega) ?_; intro v27 e27
  refine ok_rd (by omega) (gA_230 V4) ?_; intro v29 e29 _ _
  rw [← e29] at a1 a2 a3 a4 a5 a6
  refine ok_add (by omega) ?_; intro v30 e30
  refine ok_rd (by omega) (gA_228 V4) ?_; intro v31 e31 _ _
  have w31 : pl g c v29 = v31 := by rw [e31, e30, e27]; rfl
  rw [w31] at a2 a3 a4 a5 a6
  refine ok_add (by omega) ?_; intro v32 e32
  refine ok_rd (by omega) (gA_238 V4) ?_; intro v33 e33 _ _
  rw [← e32, ← e33] at a3 a4 a5 a6
  refine ok_add (by omega) ?_; intro v34 e34
  refine ok_rd (by omega) (gA_228 V4) ?_; intro v35 e35 _ _
  have w35 : pl g c v33 = v35 := by rw [e35, e34, e24]; rfl
  rw [w35] at a4 a5 a6
  exact pe_173 hn P K I (by omega) nn s 0 (by omega) (by omega)
theorem lx_patch (hn : 1000000 ≤ nn) (V : VS_ h) (S : SPD h) {a b d : Int} (ra : -2147483648 ≤ a - 8 ∧ a ≤ 2147483647) : Ok_ (qf_X13_patch nn a b d h) (QLE h) := by
  have g98 := gF_160_98 V
  unfold qf_X13_patch
  refine ok_sub (by omega) ?_; intro v55 e55
  refine ok_if (fun _ => ok_ret ⟨⟨V, S, nl_rf⟩, kpt_rf⟩) (fun C => ?_)
  refine ok_if (fun _ => ok_ret ⟨⟨V, S, nl_rf⟩, kpt_rf⟩) (fun D => ?_)
  refine ok_if (fun _ => ok_ret ⟨⟨V, S, nl_rf⟩, kpt_rf⟩) (fun E => ?_)
  refine ok_rd (by omega) (gA_227 V) ?_; intro v58 e58 a58 b58
  refine ok_if (fun F => ?_) (fun _ => ok_ret ⟨⟨V, S, nl_rf⟩, kpt_rf⟩)
  refine ok_rd (by omega) (gA_227 V) ?_; intro v60 e60 a60 b60
  refine ok_xl ?_; intro h61 E61
  obtain rfl : a = 8 + v55 := by omega
  have L : ∀ (k : Nat) (l : Int) (g : ms_M), VS_ g → NC h g → g 160 113 = v60 → (0 ≤ l ∧ l ≤ v60) → v60 - l < (k : Int) → Ok_ (qw_X13_patch_51 nn k (8 + v55) b d v55 l g) (QLE h) := by
    intro k
    induction k with
    | zero => intro l g V N e a hm; exfalso; omega
    | succ k ih =>
      intro l g V' N e a hm
      unfold qw_X13_patch_51
      refine ok_if (fun G => ?_) (fun G => ?_)
      · refine ok_and (by omega) ?_; intro v39 a39 b39
        refine ok_wA (by omega) ?_; intro h40 E40
        have V40 : VS_ h40 := by rw [E40]; exact wA_238 V' (by omega)
        have N40 : NC h h40 := fun x k a b => by rw [E40, up_n (fun y => a y.1)]; exact N x k a b
        refine ok_sv (as_aside hn (by omega) V40) ?_; intro u42 Q
        obtain ⟨V42, N42, T42⟩ := Q
        refine ok_sv (sr_scan hn (by omega) V42) ?_; intro u44 Q
        obtain ⟨⟨V44, N44, I44⟩, I49⟩ := Q
        have e9 : ∀ k : Nat, u44 239 k = u42 239 k := fun k => N44 239 k (by omega) (by omega) (by omega) (by omega)
        have P : PA9 h u44 v55 := by
          refine ⟨V, S, V44, fun x k w1 w2 w3 w4 => ?_, ?_, nl_tr (nc_nl N40) (nl_tr (nl_n9 N42) (nl_nta N44)), ?_, by omega⟩
          · rw [N44 x k (by omega) (fun z => w4 (.inl z)) (fun z => w4 (.inr (.inl z))) (fun z => w4 (.inr (.inr z))), N42 x k w3]
            exact N40 x k w2 (by omega)
          · have o : ∀ x k : Nat, x ≠ 160 → x ≠ 238 → h40 x k = h x k := fun x k a b => N40 x k b (fun y => a y.1)
            refine ⟨fun i hi => ?_, ?_, fun j hj => ?_⟩
            · rw [e9, T42.1 i hi]; exact o _ _ (by decide) (by decide)
            · have T2 := T42.2.1
              unfold TB2 at T2 ⊢
              rw [e9, e9, e9, e9, e9, ← o 229 _ (by decide) (by decide), ← o 230 _ (by decide) (by decide), ← o 231 _ (by decide) (by decide), ← o 232 _ (by decide) (by decide), ← o 234 _ (by decide) (by decide)]
              exact T2
            · rw [e9, e9, e9, e9, ← o 233 _ (by decide) (by decide), ← o 235 _ (by decide) (by decide), ← o 236 _ (by decide) (by decide), ← o 237 _ (by decide) (by decide)]
              exact T42.2.2 j hj
          · rw [N44 160 98 (by omega) (by omega) (by omega) (by omega), N42 160 98 (by decide)]
            exact N40 160 98 (by decide) (by decide)
        have K : u44 160 99 = h 160 99 ∧ u44 160 138 = h 160 138 := by
          rw [N44 160 99 (by omega) (by omega) (by omega) (by omega), N44 160 138 (by omega) (by omega) (by omega) (by omega), N42 160 99 (by decide), N42 160 138 (by decide)]
          exact ⟨N40 160 99 (by decide) (by decide), N40 160 138 (by decide) (by decide)⟩
        refine ok_if (fun _ => pe_123 hn P K (fun y => absurd rfl y)) (fun y => pe_123 hn P K (fun _ => ⟨I44 (show u44 160 114 = -1 from Decidable.not_not.1 y), I49 (show u44 160 114 = -1 from Decidable.not_not.1 y)⟩))
      · refine ok_mul (by omega) ?_; intro v49 e49
        refine ok_add (by omega) ?_; intro v50 e50
        refine ok_rd (by omega) (gA_226 V') ?_; intro v51 e51 _ _
        refine ok_wA (by omega) ?_; intro h52 E52
        refine ok_add (by omega) ?_; intro v53 e53
        exact ih v53 h52 (by rw [E52]; exact wA_238 V' (by omega)) (fun x k a b => by rw [E52, up_n (fun y => a y.1)]; exact N x k a b) (by rw [E52, up_n (by omega)]; exact e) (by omega) (by omega)
  exact L nn 0 h61 (by rw [E61]; exact wF_160_113 V (by omega)) (fun x k a b => by rw [E61, up_n b]) (by rw [E61, up_s]) (by omega) (by omega)
theorem lx_patch2 (hn : 1000000 ≤ nn) (V : VS_ h) (S : SPD h) {a b d : Int} (ra : -2147483648 ≤ a ∧ a ≤ 2147483647) : Ok_ (qf_X13_patch nn a b d h) (QLE h) := by
  by_cases y : -2147483648 ≤ a - 8
  · exact lx_patch hn V S ⟨y, ra.2⟩
  · have g98 := gF_160_98 V
    have s := sub8 ra (by omega)
    unfold qf_X13_patch
    refine ok_xl ?_; intro v55 e55
    rw [← e55] at s
    refine ok_if (fun C => by exfalso; omega) (fun C => ?_)
    exact ok_if (fun _ => ok_ret ⟨⟨V, S, nl_rf⟩, kpt_rf⟩) (fun D => by exfalso; omega)
end

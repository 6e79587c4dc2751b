/- a class: its head, making and class side by side -/
section
variable {nn : Nat} {X : BCx} {B v v2 : Int} {k j i n : Nat} {h g u r m m0 w : ms_M}
/-- a constant, then its number told -/
theorem pb_ct {u15 : Int × ms_M} {u17 : ms_M} {e : Option (Int × ms_M)} (P : PBX X B h m) (bB0 : B ≤ 900000000) (A17 : CPt u15.1 u15.2 u17) (J : Pc e (fun w => PCo h m u15 w ∧ SPL w.2 [])) : Pc (mx_sv e fun u57 => qf_X13_tell nn u57.1 u57.2) (fun w => PBX X (B + 1) u17 w ∧ WFr m w) := by
  refine pc_sv J ?_; intro w ⟨C, S⟩
  have P2 := pbx_c P C S
  have b := P2.2.2.1.2
  refine pc_imp (r_tellb (v := w.1) (by omega)) (fun w2 T => ⟨pbx_p P2 (fun o => ?_) A17 T, wfr_t (fun cc y z1 z2 z3 => C.2.2.2.2.1 cc y (by omega) (by omega)) (wfr_p T)⟩)
  obtain ⟨c1, c2, c3⟩ := C.2.1 o
  rw [c1]
/-- the making's fields -/
theorem m_flds (Y : CXs X) (k8 : k < 8) (C : CFL nn X k (mcn_T (bB X) k 0 (bM X)) g u) (m9 : m0 160 9 = 0) (m28 : m0 160 28 = (bM X : Int)) (M8 : bM X ≤ 100000) (B0 : 0 ≤ B ∧ B ≤ 100000) (P0 : PBX X B g m0) {qkk : Int → Int → ms_M → Option ms_M} : ∀ fuel : Nat, Pc (qw_X13_makeClass_143 nn qkk fuel (k : Int) 0 0 m0) (fun y => ∃ w, PBX X (B + 2 * (mcn_T (bB X) k 0 (bM X) : Nat)) u w ∧ WFr m0 w ∧ qkk (k : Int) 1 w = some y) := by
  obtain ⟨-, -, n8, -, -, -, HD, s0', TF, -⟩ := Y
  have MT := HD.2.2.1
  obtain ⟨F, F0, F1, F2⟩ := C
  rw [← F1]
  rw [← F0] at P0
  have L12 := (MT.1 k k8).2.1
  suffices H : ∀ (fuel j : Nat) (w : ms_M), j ≤ bM X → PBX X (B + 2 * (mcn_T (bB X) k 0 j : Nat)) (F (mcn_T (bB X) k 0 j)) w → WFr m0 w → Pc (qw_X13_makeClass_143 nn qkk fuel (k : Int) 0 (j : Int) w) (fun y => ∃ w, PBX X (B + 2 * (mcn_T (bB X) k 0 (bM X) : Nat)) (F (mcn_T (bB X) k 0 (bM X))) w ∧ WFr m0 w ∧ qkk (k : Int) 1 w = some y) from fun fuel => H fuel 0 m0 (Nat.zero_le _) (by show PBX X (B + 2 * ((0 : Nat) : Int)) (F 0) m0; rw [show B + 2 * ((0 : Nat) : Int) = B by omega]; exact P0) wfr_r
  intro fuel
  induction fuel with
  | zero => intro j w hj P W; exact fun _ z => nomatch z
  | succ f ih =>
    intro j w hj P W
    have T := P.2.1.2.2.2.2.2
    have w28 : w 160 28 = (bM X : Int) := by rw [W 160 28 (by omega) (by omega) (by omega)]; exact m28
    have w9 : w 160 9 = 0 := by rw [W 160 9 (by omega) (by omega) (by omega)]; exact m9
    unfold qw_X13_makeClass_143
    refine pc_if (fun z => ?_) (fun z => ?_)
    · refine pc_add (by omega) ?_; intro v73 e73
      rw [show v73 = 1 by omega]
      rw [show j = bM X by omega] at P
      exact fun y ey => ⟨w, P, W, ey⟩
    refine pc_if (fun z9 => absurd w9 z9) (fun _ => ?_)
    have SK : ¬ MSm (bB X) k 0 j → ∀ v, v = (j : Int) + 1 → Pc (qw_X13_makeClass_143 nn qkk f (k : Int) 0 v w) (fun y => ∃ w, PBX X (B + 2 * (mcn_T (bB X) k 0 (bM X) : Nat)) (F (mcn_T (bB X) k 0 (bM X))) w ∧ WFr m0 w ∧ qkk (k : Int) 1 w = some y) := fun q v ev => by
      rw [show v = ((j + 1 : Nat) : Int) by omega]
      rw [← mcn_n q] at P
      exact ih (j + 1) w (by omega) P W
    refine pc_rA ?_; intro _ _ v77 e77
    rw [Int.toNat_natCast, T 181 _ (by omega)] at e77
    refine pc_if (fun z1 => ?_) (fun z1 => ?_)
    · refine pc_add (by omega) ?_; intro v78 e78
      exact SK (fun q => z1 (by rw [e77]; exact q.1)) v78 e78
    have e1 : bB X 181 j = (k : Int) := by rw [← e77]; exact Classical.byContradiction z1
    refine pc_rA ?_; intro _ _ v80 e80
    rw [Int.toNat_natCast, T 182 _ (by omega)] at e80
    have C195 : ∀ s0 : Int, (s0 = 0 ∧ bB X 182 j ≤ 0) ∨ (s0 = 1 ∧ 0 < bB X 182 j) → Pc (qj_X13_makeClass_185 nn qkk (qw_X13_makeClass_143 nn qkk f) (k : Int) 0 (j : Int) s0 w) (fun y => ∃ w, PBX X (B + 2 * (mcn_T (bB X) k 0 (bM X) : Nat)) (F (mcn_T (bB X) k 0 (bM X))) w ∧ WFr m0 w ∧ qkk (k : Int) 1 w = some y) := fun s0 hs => by
      unfold qj_X13_makeClass_185
      refine pc_if (fun _ => ?_) (fun z => absurd (show ¬ (0 : Int) = 1 by decide) z)
      unfold qj_X13_makeClass_195
      refine pc_if (fun z0 => ?_) (fun z0 => ?_)
      · refine pc_if (fun _ => ?_) (fun z => absurd (show ¬ (0 : Int) = 1 by decide) z)
        have ms : MSm (bB X) k 0 j := ⟨e1, by omega⟩
        have hj2 : j < bM X := by omega
        obtain ⟨i1, i2⟩ := mb_ix MT hj2 k8 (.inl rfl) ms
        have b182 : bB X 182 j = 0 := by have := s0' j hj2; omega
        obtain ⟨f1, f2, f3, f4⟩ := MT.2.1 j k hj2 k8 ms
        have d2 := HD.2.2.2.2.1 j hj2
        have c17 := (MT.1 k k8).1.1
        have vt := TF j k hj2 k8 ms
        have P' := P
        have FD := F2 _ i1
        rw [← mcn_s ms] at FD
        have eS := mcn_s ms
        generalize ec : mcn_T (bB X) k 0 j = cn at *
        have x96 : 12 * k + cn < 96 := by omega
        have hx : (((12 * k + cn) % 12 : Nat) : Int) < bA X 17 ((12 * k + cn) / 12) := by
          rw [show (12 * k + cn) / 12 = k by omega, show (12 * k + cn) % 12 = cn by omega, c17]; omega
        obtain ⟨u15, u17, u22, e15, A17, e22, A24⟩ := FD
        refine pc_rA ?_; intro _ _ v55 e55
        rw [Int.toNat_natCast, T 186 _ (by omega)] at e55
        rw [e55, show bB X 186 j = (((bB X 186 j).toNat : Nat) : Int) by omega]
        rw [f1] at e15
        have S1 := pb_ct (nn := nn) P' (by omega) A17 (j_tok P'.2.1 P'.1.2.2 P'.1.1 P'.1.2.1 d2.2 u15 e15)
        refine pc_se ?_; intro u57 g57
        refine pc_se ?_; intro u59 g59
        obtain ⟨P3, W3⟩ := S1 u59 (by rw [g57]; exact g59)
        refine pc_se ?_; intro u61 g61
        refine pc_se ?_; intro u63 g63
        have S2 := pb_ct (nn := nn) P3 (by omega) A24 (j_kindF n8 P3.2.1 P3.1.2.2 P3.1.1 P3.1.2.1 x96 hx b182 ⟨vt, f2.2.1⟩ f2.2.2 u22 e22)
        obtain ⟨P4, W4⟩ := S2 u63 (by rw [g61]; exact g63)
        show Pc (xl (oq_add (j : Int) 1) fun v64 => qw_X13_makeClass_143 nn qkk f (k : Int) 0 v64 u63) _
        refine pc_add (by omega) ?_; intro v64 e64
        rw [show v64 = ((j + 1 : Nat) : Int) by omega]
        refine ih (j + 1) u63 (by omega) ?_ (wfr_t W (wfr_t W3 W4))
        rw [show B + 2 * ((mcn_T (bB X) k 0 (j + 1) : Nat) : Int) = B + 2 * (cn : Int) + 1 + 1 by omega]
        exact P4
      · refine pc_add (by omega) ?_; intro v78 e78
        exact SK (fun q => by have := q.2; omega) v78 e78
    exact pc_if (fun y => C195 0 (.inl ⟨rfl, by omega⟩)) (fun y => C195 1 (.inr ⟨rfl, by omega⟩))
/-- the head of a class -/
theorem j_begC (Y : CXs X) (kn : k < bn X) (J : JBw X h r) (M8 : bM X ≤ 100000) : Pc (qf_X0_beginClass nn (k : Int) h) (fun u => (∀ cc y : Nat, ¬ (cc = 45 ∧ (y = 4 ∨ y = 5 ∨ y = 7)) → ¬ (46 ≤ cc ∧ cc ≤ 48) → u cc y = h cc y) ∧ ∀ m, BAm X h m → Pc (qf_X13_makeClass nn (k : Int) m) (fun y => ∃ (f : Nat) (w : ms_M), PBX X 100 u w ∧ MCf m w ∧ w 160 52 = 8 + (k : Int) ∧ qw_X13_makeClass_143 nn (qw_X13_makeClass_68 nn f) nn (k : Int) 1 0 w = some y)) := by
  have Y0 := Y
  obtain ⟨-, S2, n8, -, -, -, HD, s0, TF, -⟩ := Y0
  have k8 : k < 8 := by omega
  have MT := HD.2.2.1
  obtain ⟨⟨c17, c21⟩, L0, L1⟩ := MT.1 k k8
  have G := J.2.2.2.2.2
  have T := J.2.2.2.2.1
  have K13 := J.1.2.1.2.2.2.1 (8 + k) (by omega)
  rw [if_neg (by omega), if_pos (by omega), show 8 + k - 8 = k by omega, T 180 _ (by omega)] at K13
  have up := HD.2.1.2.1 k kn
  have ub := upk_b S2 kn up
  have un := (HD.2.1.2.2.1 k kn).2.1
  generalize eU : bB X 180 k = U at *
  have VU : (0 ≤ U ∧ U < 8 + (bn X : Int)) ∨ (100 ≤ U ∧ U < 108 + (bn X : Int)) ∨ U = 200 := by omega
  have V8 : (0 ≤ 8 + (k : Int) ∧ 8 + (k : Int) < 8 + (bn X : Int)) ∨ (100 ≤ 8 + (k : Int) ∧ 8 + (k : Int) < 108 + (bn X : Int)) ∨ 8 + (k : Int) = 200 := by omega
  have t8 : ty_T (8 + (k : Int)) = 8 + 2 * (8 + (k : Int)) := by unfold ty_T; repeat (first | rw [if_neg (by omega)] | rw [if_pos (by omega)])
  have tU : ty_T U = 8 + 2 * U := by unfold ty_T; repeat (first | rw [if_neg (by omega)] | rw [if_pos (by omega)])
  unfold qf_X0_beginClass qf_X6_beginClass
  refine pc_sv (P := fun u => (∀ cc y : Nat, ¬ (cc = 45 ∧ (y = 4 ∨ y = 5 ∨ y = 7)) → ¬ (46 ≤ cc ∧ cc ≤ 48) → u cc y = h cc y) ∧ ∀ m, BAm X h m → Pc (qf_X13_makeClass nn (k : Int) m) (fun y => ∃ (f : Nat) (w : ms_M), PBX X 100 u w ∧ MCf m w ∧ w 160 52 = 8 + (k : Int) ∧ qw_X13_makeClass_143 nn (qw_X13_makeClass_68 nn f) nn (k : Int) 1 0 w = some y)) ?_ (fun u hu => pc_ret hu)
  refine pc_xl ?_; intro h27 e27
  refine pc_xl ?_; intro h28 e28
  refine pc_xl ?_; intro h29 e29
  have E29 : ∀ cc y : Nat, ¬ (cc = 45 ∧ (y = 4 ∨ y = 5 ∨ y = 7)) → h29 cc y = h cc y := fun cc y z => by rw [e29, up_n (by omega), e28, up_n (by omega), e27, up_n (by omega)]
  have z4 : h29 45 4 = 0 := by rw [e29, up_n (by omega), e28, up_n (by omega), e27, up_s]
  have z5 : h29 45 5 = 0 := by rw [e29, up_n (by omega), e28, up_s]
  have z7 : h29 45 7 = 0 := by rw [e29, up_s]
  refine pc_add (by omega) ?_; intro v30 e30
  rw [e30]
  -- the class's own name
  refine pc_se ?_; intro u32 g32
  refine pc_se ?_; intro u34 g34
  obtain ⟨⟨W1, -⟩, l1⟩ := j_cls (nn := nn) (X := X) (B := 0) (m0 := h29) Y (h := h29) (t := 8 + (k : Int)) (by omega) (by omega) V8 u34 (by rw [g32]; exact g34)
  refine pc_se ?_; intro u38 g38
  have q38 : u38 = U := by
    have A : Pc (qf_X4_above nn 12 (8 + (k : Int)) u34) (fun y => y = U) := by
      unfold qf_X4_above
      refine pc_sv c_isCl ?_; intro u1 q1
      refine pc_if (fun z => absurd z (by omega)) (fun _ => ?_)
      refine pc_rA ?_; intro _ _ v3 e3
      refine pc_ret ?_
      rw [e3, show (8 + (k : Int)).toNat = 8 + k by omega, W1.2 (12 + 1) _ (by omega) (by omega), E29 _ _ (by omega)]
      exact K13
    exact A u38 g38
  rw [q38]
  refine pc_se ?_; intro u40 g40
  refine pc_se ?_; intro u42 g42
  obtain ⟨⟨W2, -⟩, l2⟩ := j_cls (nn := nn) (X := X) (B := 1) (m0 := h29) Y (h := u34) (t := U) (by omega) (by omega) VU u42 (by rw [g40]; exact g42)
  have E42 : ∀ cc y : Nat, ¬ (cc = 45 ∧ (y = 4 ∨ y = 5 ∨ y = 7)) → ¬ (46 ≤ cc ∧ cc ≤ 48) → u42 cc y = h cc y := fun cc y z1 z2 => by rw [W2.2 cc y z1 z2, W1.2 cc y z1 z2]; exact E29 cc y z1
  refine pc_se ?_; intro u45 g45
  have q45 : u45 = ((mcn_T (bB X) k 0 (bM X) : Nat) : Int) := by
    have A : Pc (qf_X2_fieldsOf nn (k : Int) u42) (fun y => y = ((mcn_T (bB X) k 0 (bM X) : Nat) : Int)) := by
      unfold qf_X2_fieldsOf qf_X2_isOwn
      refine pc_add (by omega) ?_; intro v1 e1
      refine pc_sv (P := fun y => y = 1) (pc_if (fun z => absurd z (by omega)) (fun _ => pc_if (fun z => absurd z (by omega)) (fun _ => pc_ret rfl))) ?_; intro u2 q2
      refine pc_if (fun z => absurd z (by omega)) (fun _ => ?_)
      refine pc_rA ?_; intro _ _ v4 e4
      rw [Int.toNat_natCast, E42 17 _ (by omega) (by omega), G 17 _ (by omega), c17] at e4
      exact pc_ret e4
    exact A u45 g45
  refine pc_se ?_; intro u47 g47
  have A47 := c_put (by omega) u47 g47
  have l47 := A47.1
  have E47 : ∀ cc y : Nat, ¬ (cc = 45 ∧ (y = 4 ∨ y = 5 ∨ y = 7)) → ¬ (46 ≤ cc ∧ cc ≤ 48) → u47 cc y = h cc y := fun cc y z1 z2 => by rw [A47.2.2 cc y (by omega) (by omega)]; exact E42 cc y z1 z2
  show Pc (qw_X6_beginClass_62 nn nn (k : Int) 0 u47) _
  refine c_flds (n := mcn_T (bB X) k 0 (bM X)) (g := u47) (fun cc x z z2 => by rw [E47 cc x (by omega) (by omega)]; exact G cc x z) k8 L0 c17 (by omega) (fun uF C => ?_) nn 0 u47 (Nat.zero_le _) cfl_0
  obtain ⟨WF, lF⟩ := cfl_f _ _ _ C
  have EF : ∀ cc y : Nat, ¬ (cc = 45 ∧ (y = 4 ∨ y = 5 ∨ y = 7)) → ¬ (46 ≤ cc ∧ cc ≤ 48) → uF cc y = h cc y := fun cc y z1 z2 => by rw [WF.2 cc y z1 z2]; exact E47 cc y z1 z2
  refine pc_sv (P := fun y => y = ((mcn_T (bB X) k 1 (bM X) : Nat) : Int)) ?_ ?_
  · unfold qf_X2_methodsOf qf_X2_isOwn
    refine pc_add (by omega) ?_; intro v1 e1
    refine pc_sv (P := fun y => y = 1) (pc_if (fun z => absurd z (by omega)) (fun _ => pc_if (fun z => absurd z (by omega)) (fun _ => pc_ret rfl))) ?_; intro u2 q2
    refine pc_if (fun z => absurd z (by omega)) (fun _ => ?_)
    refine pc_rA ?_; intro _ _ v4 e4
    rw [Int.toNat_natCast, EF 21 _ (by omega) (by omega), G 21 _ (by omega), c21] at e4
    exact pc_ret e4
  intro u6 q6
  rw [q6]
  refine pc_sv (c_put (by omega)) ?_; intro u A
  refine pc_ret ⟨fun cc y z1 z2 => by rw [A.2.2 cc y (by omega) (by omega)]; exact EF cc y z1 z2, fun m BA => ?_⟩
  obtain ⟨TX, ⟨m9, m24, m28⟩, MT2⟩ := BA
  unfold qf_X13_makeClass
  refine pc_xl ?_; intro h104 e104
  refine pc_xl ?_; intro h105 e105
  refine pc_xl ?_; intro h106 e106
  refine pc_xl ?_; intro h107 e107
  refine pc_add (by omega) ?_; intro v108 e108
  refine pc_xl ?_; intro h109 e109
  have f62 : h109 160 62 = 0 := by rw [e109, up_n (by omega), e107, up_n (by omega), e106, up_n (by omega), e105, up_n (by omega), e104, up_s]
  have f64 : h109 160 64 = 0 := by rw [e109, up_n (by omega), e107, up_n (by omega), e106, up_n (by omega), e105, up_s]
  have f66 : h109 160 66 = 0 := by rw [e109, up_n (by omega), e107, up_n (by omega), e106, up_s]
  have f97 : h109 160 97 = 0 := by rw [e109, up_n (by omega), e107, up_s]
  have f52 : h109 160 52 = 8 + (k : Int) := by rw [e109, up_s]; omega
  have F109 : ∀ cc y : Nat, ¬ (cc = 160 ∧ (y = 52 ∨ y = 62 ∨ y = 64 ∨ y = 66 ∨ y = 97)) → h109 cc y = m cc y := fun cc y z => by rw [e109, up_n (by omega), e107, up_n (by omega), e106, up_n (by omega), e105, up_n (by omega), e104, up_n (by omega)]
  have P0 : PBX X 0 h29 h109 := by
    refine ⟨⟨.inl ⟨z5, ⟨by omega, by omega⟩, 0, z4, f62, by omega, fun k k1 k2 => absurd k2 (by omega)⟩, ⟨by omega, by omega⟩, ⟨f66, by show 0 ≤ 200; omega, lr_0⟩, fun k hk => absurd hk (by show ¬ k < 0; omega)⟩, txe_k TX (fun cc y z => E29 cc y (by omega)) (fun cc y z => F109 cc y (by omega)), ⟨by omega, by omega⟩, fun _ => ⟨by omega, fun x hx => absurd hx (by omega)⟩⟩
  rw [f52]
  refine pc_xl ?_; intro v111 e111
  rw [oq_mul_eq (by omega) (by omega) (by omega)] at e111
  refine pc_add (by omega) ?_; intro v112 e112
  rw [show v112 = ty_T (8 + (k : Int)) by rw [t8]; omega]
  refine pc_se ?_; intro u114 g114
  refine pc_se ?_; intro u116 g116
  obtain ⟨P1, V1⟩ := (j_cls (nn := nn) (X := X) (B := 0) (m0 := h109) Y (h := h29) (t := 8 + (k : Int)) (by omega) (by omega) V8 u34 (by rw [g32]; exact g34)).1.2 h109 wfr_r P0 u116 (by show mx_sv (qf_X13_classConstant nn (ty_T (8 + (k : Int))) h109) _ = _; rw [g114]; exact g116)
  have f52' : u116 160 52 = 8 + (k : Int) := by rw [V1 160 52 (by omega) (by omega) (by omega)]; exact f52
  rw [f52']
  refine pc_se ?_; intro u119 g119
  have q119 : u119 = U := by
    rw [r_up (by omega) u119 g119]
    unfold uq_T
    rw [if_neg (by omega), if_neg (by omega), if_pos (by omega), show (8 + (k : Int) - 8).toNat = k by omega, P1.2.1.2.2.2.2.2 180 _ (by omega)]
    exact eU
  rw [q119]
  show Pc (xl (oq_mul 2 U) fun v120 => xl (oq_add 8 v120) fun v121 => mx_sv (qf_X13_classConstant nn v121 u116) fun u123 => mx_sv (qf_X13_tell nn u123.1 u123.2) fun u125 => qw_X13_makeClass_68 nn nn (k : Int) 0 u125) _
  refine pc_xl ?_; intro v120 e120
  rw [oq_mul_eq (by omega) (by omega) (by omega)] at e120
  refine pc_add (by omega) ?_; intro v121 e121
  rw [show v121 = ty_T U by rw [tU]; omega]
  refine pc_se ?_; intro u123 g123
  refine pc_se ?_; intro u125 g125
  obtain ⟨P2, V2⟩ := (j_cls (nn := nn) (X := X) (B := 0 + 1) (m0 := h109) Y (h := u34) (t := U) (by omega) (by omega) VU u42 (by rw [g40]; exact g42)).1.2 u116 V1 P1 u125 (by show mx_sv (qf_X13_classConstant nn (ty_T U) u116) _ = _; rw [g123]; exact g125)
  show Pc (qw_X13_makeClass_68 nn nn (k : Int) 0 u125) _
  have TT : ∀ {B : Int} {g w : ms_M}, PBX X B g w → ∀ cc x : Nat, (178 ≤ cc ∧ cc ≤ 195) → w cc x = bB X cc x := fun P => P.2.1.2.2.2.2.2
  -- fields, then methods
  have N0 : ∀ fuel : Nat, Pc (qw_X13_makeClass_68 nn fuel (k : Int) 0 u125) (fun y => ∃ (f : Nat) (w : ms_M), PBX X 100 u w ∧ MCf m w ∧ w 160 52 = 8 + (k : Int) ∧ qw_X13_makeClass_143 nn (qw_X13_makeClass_68 nn f) nn (k : Int) 1 0 w = some y) := fun fuel => by
    cases fuel with
    | zero => exact fun _ z => nomatch z
    | succ f1 =>
      unfold qw_X13_makeClass_68
      refine pc_if (fun z => absurd z (by omega)) (fun _ => ?_)
      refine r_w78 (s := 0) (.inl rfl) (by rw [V2 160 28 (by omega) (by omega) (by omega), F109 160 28 (by omega)]; exact m28) (TT P2) M8 ?_ nn 0 (Nat.zero_le _)
      refine pc_sv (r_tellb (v := ((mcn_T (bB X) k 0 (bM X) : Nat) : Int)) (by have := P2.2.2.1.2; omega)) ?_; intro u92 T92
      have P3 : PBX X (0 + 1 + 1 + 1) u47 u92 := pbx_p P2 (fun _ => by rw [q45]) A47 T92
      have V3 : WFr h109 u92 := wfr_t V2 (wfr_p T92)
      have MF := m_flds Y k8 C (by rw [V3 160 9 (by omega) (by omega) (by omega), F109 160 9 (by omega)]; exact m9) (by rw [V3 160 28 (by omega) (by omega) (by omega), F109 160 28 (by omega)]; exact m28) M8 (by omega) P3 (qkk := qw_X13_makeClass_68 nn f1) nn
      refine fun y ey0 => ?_
      obtain ⟨w4, P4, V4, ey⟩ := MF y ey0
      clear ey0
      have V5 : WFr h109 w4 := wfr_t V3 V4
      revert y
      show Pc (qw_X13_makeClass_68 nn f1 (k : Int) 1 w4) _
      cases f1 with
      | zero => exact fun _ z => nomatch z
      | succ f2 =>
        unfold qw_X13_makeClass_68
        refine pc_if (fun z => absurd z (by omega)) (fun _ => ?_)
        refine r_w78 (s := 1) (.inr rfl) (by rw [V5 160 28 (by omega) (by omega) (by omega), F109 160 28 (by omega)]; exact m28) (TT P4) M8 ?_ nn 0 (Nat.zero_le _)
        refine pc_sv (r_tellb (v := ((mcn_T (bB X) k 1 (bM X) : Nat) : Int)) (by have := P4.2.2.1.2; omega)) ?_; intro w5 T5
        have P5 := pbx_p P4 (fun _ => rfl) A T5
        have V6 : WFr h109 w5 := wfr_t V5 (wfr_p T5)
        intro y ey
        refine ⟨f2, w5, ⟨P5.1, P5.2.1, ⟨by have := P5.2.2.1; omega, by have := P5.2.2.1; omega⟩, P5.2.2.2⟩, fun cc y z1 z2 z3 => ?_, ?_, ey⟩
        · rw [V6 cc y (by omega) z2 z3]; exact F109 cc y z1
        · rw [V6 160 52 (by omega) (by omega) (by omega)]; exact f52
  exact N0 nn
end

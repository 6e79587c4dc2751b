/- compile, whole: classes and methods, both sides -/
/-- class, rules and their members so far -/
def INV (X : BCx) (a b : Nat → Int) (R0 : ms_M) (k1 k j : Nat) (h r : ms_M) : Prop := JBw X h r ∧ (∀ cc x : Nat, ¬ (cc = 160 ∧ (x = 10 ∨ x = 50 ∨ x = 51 ∨ x = 52 ∨ x = 53 ∨ x = 54 ∨ x = 57)) → ¬ (174 ≤ cc ∧ cc ≤ 176) → ¬ (196 ≤ cc ∧ cc ≤ 199) → r cc x = R0 cc x) ∧ (∀ i : Nat, j ≤ i → i < bM X → 0 < bB X 182 i → UNr X (a i) (b i) r) ∧ j ≤ bM X ∧ (∀ i : Nat, i < j → bB X 181 i < (k1 : Int)) ∧ ∀ i : Nat, j ≤ i → i < bM X → (k : Int) ≤ bB X 181 i
section
variable {nn : Nat} {X : BCx} {a b : Nat → Int} {p q : Nat → Nat} {L0 : Int} {k j i n : Nat} {h g u r v m m0 w y R0 : ms_M}
/-- the end of both sides -/
theorem g_end (Y : CXs X) (R0f : R0F X R0) (V : INV X a b R0 (bn X) (bn X) j h r) (R : RSB nn X a b p L0 R0 (bn X) j h r) {c s : Nat} : Pc (qj_X12_compile_175 nn h c s) (fun A => ∀ g : Nat, Pc (qw_X13_bodies_2 nn g (j : Int) r) (fun y => Pc (qw_X13_compile_110 nn nn 0 y) (fun B => FNL (bn X) A B))) := by
  obtain ⟨J, RF, -, hj, -, hk⟩ := V
  have n8 := Y.2.2.1
  have HD := Y.2.2.2.2.2.2.1
  have jM : j = bM X := Classical.byContradiction fun z => by
    have a1 := hk j (Nat.le_refl _) (by omega)
    have a2 := (HD.2.2.2.2.2.1 j (by omega)).2
    omega
  have h11 : h 11 2 = (bn X : Int) := J.1.1.1.2.2.1
  have r28 : r 160 28 = (bM X : Int) := J.1.2.2.2.1
  have RU : ∀ {A : Int × ms_M × Nat × Nat} (g : Nat), (Pc (qw_X13_compile_110 nn nn 0 r) (fun B => FNL (bn X) A B)) → Pc (qw_X13_bodies_2 nn g (j : Int) r) (fun y => Pc (qw_X13_compile_110 nn nn 0 y) (fun B => FNL (bn X) A B)) := fun {A} g H => by
    cases g with
    | zero => exact fun _ z => nomatch z
    | succ g =>
      unfold qw_X13_bodies_2
      exact pc_if (fun _ => pc_ret H) (fun z => absurd (show r 160 28 ≤ (j : Int) by omega) z)
  have FI : FIN X a b R0 j r r := ⟨RF, fun _ _ _ _ _ _ _ _ _ _ => rfl⟩
  obtain ⟨-, y24, -⟩ := fin_28 FI R0f
  unfold qj_X12_compile_175 qf_X0_closeProgram
  by_cases z7 : h 33 7 = -1
  · refine pc_sv (P := fun u => u = h) (pc_if (fun _ => pc_ret rfl) (fun z => absurd z7 z)) ?_; intro u3 q3
    rw [q3]
    refine pc_if (fun z => absurd J.2.1.1 z) (fun _ => ?_)
    refine pc_sv (c_take h11 n8) ?_; intro u7 ⟨t1, t2, t3, t4⟩
    refine pc_ret (fun g => RU g (fun B eB => ?_))
    rcases R.2 r B FI eB with T | ⟨-, f, w, ⟨⟨w9, -⟩, -, W4, W5⟩, e2⟩
    · exact absurd z7 T.1.1
    have w24 : w 160 24 = (bn X : Int) := by rw [W4 160 24 (by omega)]; exact y24
    have EN : ∀ f : Nat, Pc (qw_X13_compile_110 nn f ((bn X : Nat) : Int) w) (fun B => T147 (bn X) w B) := fun f => by
      cases f with
      | zero => exact fun _ z => nomatch z
      | succ f =>
        unfold qw_X13_compile_110
        refine pc_if (fun _ => ?_) (fun z => absurd (show w 160 24 ≤ ((bn X : Nat) : Int) by omega) z)
        unfold qj_X13_compile_136
        refine pc_if (fun _ => ?_) (fun z => absurd w9 z)
        exact r_147 n8 w24 (fun c hc => by obtain ⟨id, -, -, -, i4, -⟩ := W5 c hc; exact i4) nn 0 w (Nat.zero_le _) ⟨fun c2 h2 => absurd h2 (by omega), fun _ _ _ _ => rfl⟩
    obtain ⟨B1, B2, B3, B4⟩ := EN f B e2
    refine .inr ⟨⟨t1, B1⟩, ⟨?_, ?_⟩, ⟨t2, B2, n8⟩, fun c hc => ?_⟩
    · show u7.2 2 11 = 0
      rw [t4 2 11 (by omega) (by omega)]; exact J.2.1.1
    · rw [B4 160 9 (by omega) (by omega) (by omega)]; exact w9
    · show ∃ id : Nat, u7.2 55 c = (id : Int) ∧ (256 ≤ id ∧ id < cn_M u7.2 ∧ id < 900000) ∧ ln_I u7.2 id = B.2 222 c ∧ (0 ≤ B.2 222 c ∧ B.2 222 c ≤ 6000) ∧ ∀ x : Nat, (x : Int) < B.2 222 c → B.2 221 (6000 * c + x) = u7.2 id x % 256
      obtain ⟨id, i1, i2, i3, i4, i5⟩ := W5 c hc
      obtain ⟨b1, b2⟩ := B3 c hc
      refine ⟨id, by rw [t3 c hc]; exact i1, ⟨i2.1, ?_, i2.2.2⟩, ?_, by rw [b1]; exact i4, fun x hx => ?_⟩
      · have := i2.2.1
        unfold cn_M at *
        rw [t4 900000 0 (by omega) (by omega)]; exact this
      · rw [b1, ← i3]; unfold ln_I; rw [if_neg (by omega), if_neg (by omega)]; exact t4 900001 id (by omega) (by omega)
      · rw [b1] at hx
        rw [b2 x hx, t4 id x (by omega) (by omega)]; exact i5 x hx
  · have R1 : 0 ≤ h 33 7 ∧ (h 33 7).toNat < bc X := by
      rcases R.1 with z | z
      · exact absurd z z7
      · exact z
    refine pc_sv (P := fun u => u 2 11 = 11 ∧ u 2 12 = bP X (h 33 7).toNat) ?_ ?_
    · refine pc_if (fun z => absurd z z7) (fun _ => ?_)
      refine pc_sv (c_tell J.1.1.1.1 J.2.1.1 (t := (h 33 7).toNat) R1.2 (by omega)) ?_; intro u5 ⟨s1, _⟩
      exact pc_ret s1
    intro u3 ⟨s1, s2⟩
    refine pc_if (fun _ => ?_) (fun z => absurd (show ¬ u3 2 11 = 0 by omega) z)
    refine pc_ret (fun g => RU g (fun B eB => ?_))
    rcases R.2 r B FI eB with ⟨-, T1, T2, T3⟩ | ⟨z, -⟩
    · exact .inl ⟨rfl, T1, sf_mk (c := 11) (pl := bP X (h 33 7).toNat) (by decide) s1 s2 T2 T3⟩
    · exact absurd z z7
/-- behind a FAULT, both sides end -/
theorem c_F124 (hf : ¬ h 2 11 = 0) {f93 : Nat} {l2 : Int} {c s : Nat} : ∀ (f : Nat) (l3 : Int), Pc (qw_X12_compile_124 nn (qw_X12_compile_93 nn f93) f l2 l3 h c s) (fun A => A.1 = -1 ∧ FSc h A.2.1) := by
  have E : Pc (qj_X12_compile_161 nn (qw_X12_compile_93 nn f93) l2 h c s) (fun A => A.1 = -1 ∧ FSc h A.2.1) := by
    unfold qj_X12_compile_161 qf_X0_closeClass
    refine pc_sv (P := fun A => FSc h A.1) ?_ ?_
    · refine pc_se ?_; intro u3 _
      refine pc_se ?_; intro u6 _
      refine pc_sv (fs_qf_X0_noteMuch hf) ?_; intro u8 F
      exact pc_if (fun _ => pc_ret F) (fun z => absurd (fs_n hf F) z)
    intro u11 F
    refine pc_xl ?_; intro v12 _
    exact pc_imp (c_F93 (fs_n hf F) f93 v12 _ _) (fun A y => ⟨y.1, fs_t F y.2⟩)
  intro f l3
  cases f with
  | zero => exact fun _ z => nomatch z
  | succ f =>
    unfold qw_X12_compile_124
    refine pc_se ?_; intro u15 _
    exact pc_if (fun _ => E) (fun _ => pc_if (fun _ => E) (fun z => absurd hf z))
theorem r_stop (hf : ¬ v 160 9 = 0) {l : Int} : ∀ g : Nat, Pc (qw_X13_bodies_2 nn g l v) (fun y => y = v) := fun g => by
  cases g with
  | zero => exact fun _ z => nomatch z
  | succ g =>
    unfold qw_X13_bodies_2
    exact pc_if (fun _ => pc_ret rfl) (fun _ => pc_if (fun _ => pc_ret rfl) (fun z => absurd hf z))
/-- the rules pass a field by -/
theorem r_fld (J : JBw X h r) (hj : j < bM X) (b182 : bB X 182 j = 0) {Z : ms_M → Prop} (H : ∀ g : Nat, Pc (qw_X13_bodies_2 nn g ((j + 1 : Nat) : Int) r) Z) : ∀ g : Nat, Pc (qw_X13_bodies_2 nn g (j : Int) r) Z := fun g => by
  have r28 : r 160 28 = (bM X : Int) := J.1.2.2.2.1
  cases g with
  | zero => exact fun _ z => nomatch z
  | succ g =>
    unfold qw_X13_bodies_2
    refine pc_if (fun z => absurd z (by omega)) (fun _ => pc_if (fun z => absurd J.2.1.2 z) (fun _ => ?_))
    refine pc_rA ?_; intro _ j8 v40 e40
    rw [Int.toNat_natCast, J.2.2.2.2.1 182 _ (by omega)] at e40
    refine pc_if (fun z => absurd (show v40 = 0 by omega) z) (fun _ => ?_)
    refine pc_add (by omega) ?_; intro v49 e49
    rw [show v49 = ((j + 1 : Nat) : Int) by omega]
    exact H g
/-- the methods of class k -/
theorem g_124 (Y : CXs X) (Wb : BRw X) (R0f : R0F X R0) (L1 : L0 ≤ 1600000000) (MB : MBO X a b p q) (kn : k < bn X) {f93 : Nat} (IH : ∀ (j : Nat) (h r : ms_M) (c s : Nat), INV X a b R0 (k + 1) (k + 1) j h r → RSB nn X a b p L0 R0 (k + 1) j h r → Pc (qw_X12_compile_93 nn f93 ((k + 1 : Nat) : Int) h c s) (fun A => ∀ g : Nat, Pc (qw_X13_bodies_2 nn g (j : Int) r) (fun y => Pc (qw_X13_compile_110 nn nn 0 y) (fun B => FNL (bn X) A B)))) : ∀ (f d j : Nat) (h r : ms_M) (c s : Nat), j + d = bM X → INV X a b R0 (k + 1) k j h r → RST nn X a b p L0 R0 k j h r → Pc (qw_X12_compile_124 nn (qw_X12_compile_93 nn f93) f (k : Int) ((mcn_T (bB X) k 1 j : Nat) : Int) h c s) (fun A => ∀ g : Nat, Pc (qw_X13_bodies_2 nn g (j : Int) r) (fun y => Pc (qw_X13_compile_110 nn nn 0 y) (fun B => FNL (bn X) A B))) := by
  have n8 := Y.2.2.1
  have k8 : k < 8 := by omega
  have HD := Y.2.2.2.2.2.2.1
  have s0 := Y.2.2.2.2.2.2.2.1
  obtain ⟨⟨-, c21⟩, -, L12⟩ := HD.2.2.1.1 k k8
  intro f
  induction f with
  | zero => intro d j h r c s _ _ _; exact fun _ z => nomatch z
  | succ f ihf =>
    have MO : ∀ h : ms_M, (∀ cc x : Nat, (17 ≤ cc ∧ cc ≤ 29) → h cc x = bA X cc x) → Pc (qf_X2_methodsOf nn (k : Int) h) (fun y => y = ((mcn_T (bB X) k 1 (bM X) : Nat) : Int)) := fun h G => by
      unfold qf_X2_methodsOf qf_X2_isOwn
      refine pc_add (by omega) ?_; intro v1 e1
      refine pc_sv (P := fun y => y = 1) (pc_if (fun z => absurd z (by omega)) (fun _ => pc_if (fun z => absurd z (by omega)) (fun _ => pc_ret rfl))) ?_; intro u2 q2
      refine pc_if (fun z => absurd z (by omega)) (fun _ => ?_)
      refine pc_rA ?_; intro _ _ v4 e4
      rw [Int.toNat_natCast, G 21 _ (by omega), c21] at e4
      exact pc_ret e4
    -- no member of the class is left
    have CL : ∀ (j : Nat) (h r : ms_M) (c s : Nat), INV X a b R0 (k + 1) k j h r → RST nn X a b p L0 R0 k j h r → (∀ i : Nat, j ≤ i → i < bM X → ¬ bB X 181 i = (k : Int)) → Pc (qw_X12_compile_124 nn (qw_X12_compile_93 nn f93) (f + 1) (k : Int) ((mcn_T (bB X) k 1 j : Nat) : Int) h c s) (fun A => ∀ g : Nat, Pc (qw_X13_bodies_2 nn g (j : Int) r) (fun y => Pc (qw_X13_compile_110 nn nn 0 y) (fun B => FNL (bn X) A B))) := fun j h r c s V R z => by
      have V0 := V
      obtain ⟨J, RF, UN, hj, lo, hi⟩ := V
      have zN : ∀ i : Nat, j ≤ i → i < bM X → ¬ MSm (bB X) k 1 i := fun i h1 h2 q => z i h1 h2 q.1
      have mE : ∀ d : Nat, j + d ≤ bM X → mcn_T (bB X) k 1 (j + d) = mcn_T (bB X) k 1 j := by
        intro d
        induction d with
        | zero => intro _; rfl
        | succ d ih => intro hd; rw [show j + (d + 1) = j + d + 1 from rfl, mcn_n (zN (j + d) (by omega) (by omega))]; exact ih (by omega)
      have mB := mE (bM X - j) (by omega)
      rw [show j + (bM X - j) = bM X by omega] at mB
      unfold qw_X12_compile_124
      refine pc_sv (MO h J.2.2.2.2.2) ?_; intro u15 q15
      refine pc_if (fun _ => ?_) (fun y => absurd (show u15 ≤ ((mcn_T (bB X) k 1 j : Nat) : Int) by omega) y)
      unfold qj_X12_compile_161
      refine pc_sv (rs_close Y kn R0f J hj zN R) ?_; intro u11 ⟨RB, JA⟩
      refine pc_add (by omega) ?_; intro v12 e12
      rw [show v12 = ((k + 1 : Nat) : Int) by omega]
      refine IH j u11.1 r _ _ ⟨JA, RF, UN, hj, lo, fun i h1 h2 => ?_⟩ RB
      have a1 := hi i h1 h2
      have a2 := z i h1 h2
      omega
    intro d
    induction d with
    | zero =>
      intro j h r c s hd V R
      exact CL j h r c s V R (fun i h1 h2 => absurd h2 (by omega))
    | succ d ihd =>
      intro j h r c s hd V R
      have V0 := V
      obtain ⟨J, RF, UN, hj, lo, hi⟩ := V
      have hj2 : j < bM X := by omega
      by_cases c1 : bB X 181 j = (k : Int)
      · have LO : ∀ i : Nat, i < j + 1 → bB X 181 i < ((k + 1 : Nat) : Int) := fun i h1 => by
          by_cases q : i = j
          · rw [q, c1]; omega
          · exact lo i (by omega)
        by_cases ms : MSm (bB X) k 1 j
        · -- a method
          have b182 : 0 < bB X 182 j := by
            rcases ms.2 with ⟨z, z2⟩ | ⟨-, z2⟩
            · omega
            · exact absurd z2 (by decide)
          obtain ⟨LK, A1, P1, b2, e23, PR⟩ := MB.1 j hj2 b182
          obtain ⟨i1, i2⟩ := mb_ix HD.2.2.1 hj2 k8 (.inr rfl) ms
          have Y' : CXs (xm_X X k j) := ⟨Y.1, Y.2.1, Y.2.2.1, ⟨by show (8 : Int) ≤ 8 + (k : Int); omega, by show 8 + (k : Int) < 8 + (bn X : Int); omega⟩, Y.2.2.2.2⟩
          have M' : MTm (xm_X X k j) k j := by
            refine ⟨⟨hj2, k8⟩, ms, rfl, ?_, PR⟩
            by_cases q1 : bB X 182 j = 1
            · exact .inl ⟨q1, by show (if bB X 182 j = 1 then 1 else 0) = 1; rw [if_pos q1]⟩
            · exact .inr ⟨by show bB X 182 j = 2; omega, by show (if bB X 182 j = 1 then 1 else 0) = 0; rw [if_neg q1]⟩
          unfold qw_X12_compile_124
          refine pc_sv (MO h J.2.2.2.2.2) ?_; intro u15 q15
          refine pc_if (fun z => absurd z (by omega)) (fun _ => ?_)
          refine pc_if (fun z => absurd J.2.1.1 z) (fun _ => ?_)
          intro A eA g
          obtain ⟨u20, e20, eF⟩ := sv_i eA
          cases g with
          | zero => exact fun _ z => nomatch z
          | succ g =>
            have JM := j_meth (nn := nn) (X := xm_X X k j) (h := h) (r := r) (fuel := g) (Z := fun u y => Pc (xl (oq_add ((mcn_T (bB X) k 1 j : Nat) : Int) 1) fun v21 => qw_X12_compile_124 nn (qw_X12_compile_93 nn f93) f (k : Int) v21 u c s) (fun A => Pc (qw_X13_compile_110 nn nn 0 y) (fun B => FNL (bn X) A B))) Y' Wb M' LK A1.2.2 (e23 k k8 ms) J (UN j (Nat.le_refl _) hj2 b182) (fun u v eu hs => ?_)
            · exact pc_imp (JM u20 e20) (fun y hy => hy A eF)
            rcases hs with S | JR
            · refine pc_imp (r_stop (sf_r S) g) (fun y hy => ?_)
              rw [hy]
              refine pc_xl ?_; intro v21 _
              refine pc_imp (c_F124 S.1 f v21) (fun A y2 => ?_)
              refine pc_imp (r_F110 (sf_r S) nn 0) (fun B y3 => ?_)
              exact .inl ⟨y2.1, y3.1, by rw [y3.2]; exact sf_c S y2.2⟩
            · have R2 := rs_meth Y k8 R0f L1 MB hj2 ms eu JR R
              obtain ⟨J2, RF2, -⟩ := JR
              have V2 : INV X a b R0 (k + 1) k (j + 1) u v := by
                refine ⟨J2, fun cc x z1 z2 z3 => by rw [RF2 cc x (by omega) (by omega) (by omega) (by omega)]; exact RF cc x z1 z2 z3, fun i h1 h2 h3 x x1 x2 => ?_, by omega, LO, fun i h1 h2 => hi i (by omega) h2⟩
                have o := (MB.2 j i (by omega) h2 b182 h3).1
                rw [RF2 175 x (by omega) (by omega) (by omega) (by omega), RF2 176 x (by omega) (by omega) (by omega) (by omega)]
                exact UN i (by omega) h2 h3 x x1 x2
              refine pc_fl ?_
              refine pc_add (by omega) ?_; intro v21 e21
              have e : v21 = ((mcn_T (bB X) k 1 (j + 1) : Nat) : Int) := by rw [mcn_s ms]; omega
              rw [e]
              exact pc_imp (ihf d (j + 1) u v c s (by omega) V2 R2) (fun A hA => hA g)
        · -- a field
          have b182 : bB X 182 j = 0 := by
            have a1 := s0 j hj2
            rcases msm_c (r := bB X) c1 with z | z
            · rcases z.2 with ⟨-, z2⟩ | ⟨z2, -⟩
              · exact absurd z2 (by decide)
              · omega
            · exact absurd z ms
          have W := ihd (j + 1) h r c s (by omega) ⟨J, RF, fun i h1 => UN i (by omega), by omega, LO, fun i h1 h2 => hi i (by omega) h2⟩ (rs_skip R0f hj2 ms R)
          rw [mcn_n ms] at W
          exact pc_imp W (fun A hA => r_fld J hj2 b182 hA)
      · refine CL j h r c s V0 R (fun i h1 h2 => ?_)
        have a1 := hi j (Nat.le_refl _) hj2
        by_cases q : i = j
        · rw [q]; exact c1
        · have a2 := HD.2.2.2.2.2.2 j i (by omega) h2
          omega
/-- all classes -/
theorem g_93 (Y : CXs X) (Wb : BRw X) (R0f : R0F X R0) (L1 : L0 ≤ 1600000000) (M8 : bM X ≤ 100000) (MB : MBO X a b p q) : ∀ (f k j : Nat) (h r : ms_M) (c s : Nat), k ≤ bn X → INV X a b R0 k k j h r → RSB nn X a b p L0 R0 k j h r → Pc (qw_X12_compile_93 nn f (k : Int) h c s) (fun A => ∀ g : Nat, Pc (qw_X13_bodies_2 nn g (j : Int) r) (fun y => Pc (qw_X13_compile_110 nn nn 0 y) (fun B => FNL (bn X) A B))) := by
  intro f
  induction f with
  | zero => intro k j h r c s _ _ _; exact fun _ z => nomatch z
  | succ f ih =>
    intro k j h r c s hk V R
    have V0 := V
    obtain ⟨J, RF, UN, hj, lo, hi⟩ := V
    have h11 : h 11 2 = (bn X : Int) := J.1.1.1.2.2.1
    rw [show qw_X12_compile_93 nn (f + 1) (k : Int) h c s = (if (h 11 2) ≤ (k : Int) then (qj_X12_compile_175 nn h c s) else (if ¬ (h 2 11) = 0 then (qj_X12_compile_175 nn h c s) else (mx_sv (qf_X0_beginClass nn (k : Int) h) fun u30 => qw_X12_compile_124 nn (qw_X12_compile_93 nn f) nn (k : Int) 0 u30 c s))) from rfl]
    refine pc_if (fun z => ?_) (fun z => ?_)
    · have e : k = bn X := by omega
      rw [e] at V0 R
      exact g_end Y R0f V0 R
    refine pc_if (fun z => absurd J.2.1.1 z) (fun _ => ?_)
    have kn : k < bn X := by omega
    have z0 : ∀ i : Nat, i < j → ¬ MSm (bB X) k 1 i := fun i h1 q => by
      have a1 := lo i h1
      have a2 := q.1
      omega
    have mc0 : ∀ i : Nat, i ≤ j → mcn_T (bB X) k 1 i = 0 := by
      intro i
      induction i with
      | zero => intro _; rfl
      | succ i ih => intro hi; rw [mcn_n (z0 i (by omega))]; exact ih (by omega)
    intro A eA
    obtain ⟨u30, e30, eF⟩ := sv_i eA
    obtain ⟨R2, J2⟩ := rs_begin Y kn M8 R0f J hj z0 R u30 e30
    have G := g_124 Y Wb R0f L1 MB kn (f93 := f) (fun j h r c s V R => ih (k + 1) j h r c s (by omega) V R) nn (bM X - j) j u30 r c s (by omega) ⟨J2, RF, UN, hj, fun i h1 => by have := lo i h1; omega, hi⟩ R2
    rw [mc0 j (Nat.le_refl _)] at G
    exact G A eF
end

/- KINDS as texts: the class -/
/-- the row of kind bytes holds L -/
def BUF (g : ms_M) (L : List Int) : Prop := (g 11 20 = (L.length : Int) ∧ L.length ≤ 128) ∧ ∀ k : Nat, k < L.length → g 31 k = L.getD k 0
/-- name x is the text L -/
def NMz (h : ms_M) (x : Int) (L : List Int) : Prop := (0 ≤ x ∧ x < h 2 9) ∧ NMt h x.toNat (L.length : Int) (fun k => L.getD k 0)
/-- the text of a kind; W: the classes' names -/
def kd_L (W : Nat → List Int) (t : Int) : List Int := if t = 301 then [73] else if t = 302 then [90] else if t = 303 then [86] else if t = 200 then [91, 73] else if t < 100 then (76 :: W t.toNat) ++ [59] else (91 :: 76 :: W (t - 100).toNat) ++ [59]
/-- the texts of k kinds, one behind the other -/
def kz_L (W : Nat → List Int) (f : Nat → Int) : Nat → List Int
  | 0 => []
  | k + 1 => kz_L W f k ++ kd_L W (f k)
/-- all but the row of kind bytes and its size -/
def AKb (g u : ms_M) : Prop := ∀ cc y : Nat, ¬ cc = 31 → ¬ (cc = 11 ∧ y = 20) → u cc y = g cc y
section
variable {nn : Nat} {K P V U : Nat → Int} {C : Nat → Nat} {c n N mt : Nat} {q : Int} {h g r w u v h0 r0 : ms_M} {L : List Int} {W : Nat → List Int}
theorem gd_a : ∀ (A B : List Int) (k : Nat), (A ++ B).getD k 0 = if k < A.length then A.getD k 0 else B.getD (k - A.length) 0 := by
  intro A
  induction A with
  | nil =>
    intro B k
    show B.getD k 0 = if k < 0 then _ else B.getD k 0
    rw [if_neg (Nat.not_lt_zero k)]
  | cons a A ih =>
    intro B k
    cases k with
    | zero =>
      show a = if 0 < A.length + 1 then a else _
      rw [if_pos (Nat.succ_pos _)]
    | succ k =>
      show (A ++ B).getD k 0 = if k + 1 < A.length + 1 then A.getD k 0 else B.getD (k + 1 - (A.length + 1)) 0
      rw [ih B k]
      by_cases z : k < A.length
      · rw [if_pos z, if_pos (Nat.succ_lt_succ z)]
      · rw [if_neg z, if_neg (fun y => z (Nat.lt_of_succ_lt_succ y)), Nat.add_sub_add_right]
theorem pc_wB {α : Type} {Q : α → Prop} {M : ms_M} {m : Int} {c : Nat} {j x : Int} {G : ms_M → Option α} (k : 0 ≤ j → j < m → ∀ z, z = up_M M c j.toNat (oq_b x) → Pc (G z) Q) : Pc (wr_B m c j x M G) Q := by
  unfold wr_B
  exact pc_if (fun y => k y.1 y.2 _ rfl) (fun _ => pc_none)
theorem akb_t (A : AKb g u) (B : AKb u v) : AKb g v := fun cc y z1 z2 => by rw [B cc y z1 z2]; exact A cc y z1 z2
theorem c_akb {x : Int} (hx : 0 ≤ x ∧ x ≤ 127) (B : BUF g L) (l8 : L.length + 1 ≤ 128) : Pc (qf_X2_addKindByte nn x g) (fun u => BUF u (L ++ [x]) ∧ AKb g u) := by
  obtain ⟨⟨b1, b2⟩, b3⟩ := B
  unfold qf_X2_addKindByte
  refine pc_if (fun z => absurd z (by omega)) (fun _ => ?_)
  refine pc_xl ?_; intro v6 e6
  rw [oq_b_id (by omega)] at e6
  refine pc_wB ?_; intro _ _ h7 e7
  rw [e6, oq_b_id (by omega), b1, Int.toNat_natCast] at e7
  have e9 : h7 11 20 = (L.length : Int) := by rw [e7, up_n (by omega)]; exact b1
  rw [e9]
  refine pc_add (by omega) ?_; intro v9 e9'
  refine pc_xl ?_; intro h10 e10
  refine pc_ret ⟨⟨⟨?_, ?_⟩, fun k hk => ?_⟩, fun cc y z1 z2 => ?_⟩
  · rw [e10, up_s, List.length_append]; show v9 = ((L.length + 1 : Nat) : Int); omega
  · rw [List.length_append]; exact l8
  · rw [List.length_append] at hk
    have hk2 : k < L.length + 1 := hk
    rw [e10, up_n (by omega), gd_a]
    by_cases z : k < L.length
    · rw [if_pos z, e7, up_n (by omega)]; exact b3 k z
    · have ek : k = L.length := by omega
      rw [if_neg z, ek, e7, up_s, Nat.sub_self]; rfl
  · rw [e10, up_n z2, e7, up_n (by omega)]
theorem c_nameLen (T : NTB g) {x : Int} (hx : 0 ≤ x ∧ x < g 2 9) {l : Int} {t : Nat → Int} (M : NMt g x.toNat l t) : Pc (qf_X9_nameLength nn x g) (fun u => u = l) := by
  have t0 := T.1
  unfold qf_X9_nameLength
  refine pc_if (fun z => absurd z (by omega)) (fun _ => ?_)
  refine pc_if (fun z => absurd z (by omega)) (fun _ => ?_)
  refine pc_add (by omega) ?_; intro v3 e3
  refine pc_rA ?_; intro _ _ v4 e4
  refine pc_rA ?_; intro _ _ v6 e6
  rw [show v3.toNat = x.toNat + 1 by omega] at e4
  have m1 := M.1
  unfold ln_T at m1
  have a := ntb_7 T x.toNat (x.toNat + 1) (by omega) (by omega)
  have b := ntb_7 T (x.toNat + 1) (g 2 9).toNat (by omega) (by omega)
  refine pc_sub (by omega) ?_; intro v7 e7
  exact pc_ret (by omega)
theorem c_copyN (T : NTB g) {x : Int} {A : List Int} (M : NMz g x A) (B : BUF g L) (l8 : L.length + A.length ≤ 128) : Pc (qf_X9_copyName nn x 31 (g 11 20) g) (fun u => (∀ k : Nat, k < L.length + A.length → u 31 k = (L ++ A).getD k 0) ∧ ∀ cc y : Nat, ¬ cc = 31 → u cc y = g cc y) := by
  obtain ⟨⟨b1, b2⟩, b3⟩ := B
  obtain ⟨m1, m2⟩ := M
  have G : ∀ k : Nat, k < L.length → g 31 k = (L ++ A).getD k 0 := fun k hk => by rw [gd_a, if_pos hk]; exact b3 k hk
  unfold qf_X9_copyName
  refine pc_sv (c_nameLen T m1 m2) ?_; intro u2 q2
  rw [b1]
  refine pc_if (fun z => absurd z (by omega)) (fun _ => ?_)
  refine pc_add (by omega) ?_; intro v3 e3
  refine pc_lS ?_; intro v4 e4
  have v128 : v4 = 128 := e4
  refine pc_if (fun z => absurd z (by omega)) (fun _ => ?_)
  refine pc_if (fun z => ?_) (fun z => ?_)
  · refine pc_ret ⟨fun k hk => G k (by omega), fun _ _ _ => rfl⟩
  · refine pc_rA ?_; intro _ _ v7 e7
    refine pc_cpS ?_; intro h8 e8
    refine pc_ret ⟨fun k hk => ?_, fun cc y z1 => by rw [e8, cp_ne z1]⟩
    rw [e8]
    show (if 31 = 31 ∧ ((L.length : Int)).toNat ≤ k ∧ k < ((L.length : Int)).toNat + u2.toNat then g 6 (v7.toNat + (k - ((L.length : Int)).toNat)) else g 31 k) = _
    rw [Int.toNat_natCast]
    by_cases z2 : k < L.length
    · rw [if_neg (by omega)]; exact G k z2
    · rw [if_pos ⟨rfl, by omega, by omega⟩, gd_a, if_neg z2, e7]
      exact m2.2 (k - L.length) (by omega)
theorem ntb_o (T : NTB g) (A : AKb g u) : NTB u := by
  have e7 : ∀ i, u 7 i = g 7 i := fun i => A 7 i (by omega) (by omega)
  have e6 : ∀ i, u 6 i = g 6 i := fun i => A 6 i (by omega) (by omega)
  have e9 : u 2 9 = g 2 9 := A 2 9 (by omega) (by omega)
  have nm : ∀ i l t, NMt u i l t → NMt g i l t := fun i l t M => ⟨by have := M.1; unfold ln_T at this ⊢; rw [← e7, ← e7]; exact this, fun k hk => by have := M.2 k hk; rw [e7, e6] at this; exact this⟩
  have bn : ∀ i, bn_T u i = bn_T g i := fun i => by unfold bn_T ln_T; rw [e7, e7, e6, e6]
  obtain ⟨t1, ⟨t2, t3⟩, t4, t5, t6⟩ := T
  refine ⟨by rw [e9, e7]; exact t1, ⟨by rw [e7]; exact t2, fun i hi => by rw [e7, e7]; exact t3 i (by omega)⟩, fun b hb => ?_, fun i hi => ?_, fun i j l t ij hj M1 M2 => t6 i j l t ij (by omega) (nm i l t M1) (nm j l t M2)⟩
  · rw [A 9 b (by omega) (by omega), e9, pv_e (γ := bn_T g) _ (fun i _ => bn i)]; exact t4 b hb
  · rw [A 8 i (by omega) (by omega), bn i, pv_e (γ := bn_T g) _ (fun j _ => bn j)]; exact t5 i (by omega)
theorem nml_o {x : Int} {A : List Int} (M : NMz g x A) (B : AKb g u) : NMz u x A := by
  refine ⟨by rw [B 2 9 (by omega) (by omega)]; exact M.1, ?_, fun k hk => ?_⟩
  · have := M.2.1; unfold ln_T at this ⊢; rw [B 7 _ (by omega) (by omega), B 7 _ (by omega) (by omega)]; exact this
  · rw [B 6 _ (by omega) (by omega), B 7 _ (by omega) (by omega)]; exact M.2.2 k hk
theorem kd_len {t : Int} (ht : VTy t ∧ ¬ t = 300) (HW : ∀ k : Nat, k < 16 → (W k).length ≤ 12) : (kd_L W t).length ≤ 15 := by
  unfold kd_L
  unfold VTy at ht
  by_cases a : t = 301
  · rw [if_pos a]; decide
  · rw [if_neg a]
    by_cases b : t = 302
    · rw [if_pos b]; decide
    · rw [if_neg b]
      by_cases d : t = 303
      · rw [if_pos d]; decide
      · rw [if_neg d]
        by_cases e : t = 200
        · rw [if_pos e]; decide
        · rw [if_neg e]
          by_cases f : t < 100
          · rw [if_pos f, List.length_append]
            have := HW t.toNat (by omega)
            show (W t.toNat).length + 1 + 1 ≤ 15
            omega
          · rw [if_neg f, List.length_append]
            have := HW (t - 100).toNat (by omega)
            show (W (t - 100).toNat).length + 1 + 1 + 1 ≤ 15
            omega
/-- one kind is added -/
theorem c_addKind (T : NTB g) {t : Int} (ht : VTy t ∧ ¬ t = 300) (HN : ∀ k : Nat, (t = (k : Int) ∨ t = 100 + (k : Int)) → k < 16 → NMz g (g 30 k) (W k)) (B : BUF g L) (l8 : L.length + (kd_L W t).length ≤ 128) : Pc (qf_X2_addKind nn t g) (fun u => BUF u (L ++ kd_L W t) ∧ AKb g u) := by
  have vt := ht.1
  unfold VTy at vt
  -- L, name, ;
  have CL : ∀ (g2 : ms_M) (L2 : List Int) (k : Nat), k < 16 → NTB g2 → NMz g2 (g2 30 k) (W k) → BUF g2 L2 → L2.length + ((W k).length + 2) ≤ 128 → Pc (qj_X2_addKind_20 nn (k : Int) g2) (fun u => BUF u (L2 ++ ((76 :: W k) ++ [59])) ∧ AKb g2 u) := by
    intro g2 L2 k hk T2 M2 B2 l2
    unfold qj_X2_addKind_20 qf_X4_isClass
    refine pc_sv (P := fun y => y = 1) ?_ ?_
    · refine pc_if (fun y => absurd y (by omega)) (fun _ => ?_)
      exact pc_if (fun y => absurd y (by omega)) (fun _ => pc_ret rfl)
    · intro u1 e1
      refine pc_if (fun _ => ?_) (fun y => absurd (fun y2 => by omega) y)
      refine pc_sv (c_akb (x := 76) (by decide) B2 (by omega)) ?_; intro u3 q3
      refine pc_rA ?_; intro _ _ v5 e5
      rw [Int.toNat_natCast, q3.2 30 k (by omega) (by omega)] at e5
      have T3 := ntb_o T2 q3.2
      have M3 : NMz u3 v5 (W k) := by rw [e5]; exact nml_o M2 q3.2
      have l3 : (L2 ++ [76]).length = L2.length + 1 := by rw [List.length_append]; rfl
      refine pc_sv (c_copyN T3 M3 q3.1 (by omega)) ?_; intro u10 q10
      have A10 : AKb u3 u10 := fun cc y z1 z2 => q10.2 cc y z1
      refine pc_sv (c_nameLen (ntb_o T3 A10) (nml_o M3 A10).1 (nml_o M3 A10).2) ?_; intro u14 q14
      have e20 : u10 11 20 = ((L2.length + 1 : Nat) : Int) := by rw [q10.2 11 20 (by omega), q3.1.1.1, l3]
      rw [e20]
      refine pc_add (by omega) ?_; intro v15 e15
      refine pc_xl ?_; intro v18 e18
      rw [if_neg (by omega)] at e18
      refine pc_xl ?_; intro h19 e19
      have l4 : (L2 ++ [76] ++ W k).length = L2.length + 1 + (W k).length := by rw [List.length_append, l3]
      have B9 : BUF h19 (L2 ++ [76] ++ W k) := by
        refine ⟨⟨by rw [e19, up_s, l4]; omega, by omega⟩, fun i hi => ?_⟩
        rw [e19, up_n (by omega)]
        exact q10.1 i (by omega)
      refine pc_sv (c_akb (x := 59) (by decide) B9 (by omega)) ?_; intro u21 q21
      refine pc_ret ⟨?_, ?_⟩
      · have e : L2 ++ ((76 :: W k) ++ [59]) = L2 ++ [76] ++ W k ++ [59] := by
          rw [List.append_assoc, List.append_assoc]; rfl
        rw [e]; exact q21.1
      · refine akb_t (akb_t (akb_t q3.2 A10) (fun cc y z1 z2 => ?_)) q21.2
        rw [e19, up_n z2]
  unfold qf_X2_addKind qf_X4_isArray
  by_cases a1 : 100 ≤ t ∧ t ≤ 200
  · refine pc_sv (P := fun y => y = 1) ?_ ?_
    · refine pc_if (fun y => absurd y (by omega)) (fun _ => ?_)
      exact pc_if (fun y => absurd y (by omega)) (fun _ => pc_ret rfl)
    · intro u31 e31
      refine pc_if (fun y => absurd y (by omega)) (fun _ => ?_)
      have K0 : 1 ≤ (kd_L W t).length := by
        unfold kd_L
        rw [if_neg (by omega), if_neg (by omega), if_neg (by omega)]
        by_cases e : t = 200
        · rw [if_pos e]; decide
        · rw [if_neg e, if_neg (by omega)]; exact Nat.succ_pos _
      refine pc_sv (c_akb (x := 91) (by decide) B (by omega)) ?_; intro u33 q33
      have l3 : (L ++ [91]).length = L.length + 1 := by rw [List.length_append]; rfl
      unfold qf_X4_elementOf
      by_cases t2 : t = 200
      · refine pc_sv (P := fun y => y = 301) ?_ ?_
        · exact pc_if (fun y => absurd t2 y) (fun _ => pc_ret rfl)
        · intro u34 e34
          rw [e34]
          unfold qj_X2_addKind_20 qf_X4_isClass
          refine pc_sv (P := fun y => y = 0) ?_ ?_
          · refine pc_if (fun y => absurd y (by decide)) (fun _ => ?_)
            exact pc_if (fun _ => pc_ret rfl) (fun y => absurd (by decide) y)
          · intro u1 e1
            refine pc_if (fun y => absurd e1 y) (fun _ => ?_)
            refine pc_if (fun y => absurd rfl y) (fun _ => ?_)
            have kl : kd_L W t = [91, 73] := by unfold kd_L; rw [if_neg (by omega), if_neg (by omega), if_neg (by omega), if_pos t2]
            rw [kl] at l8 ⊢
            refine pc_sv (c_akb (x := 73) (by decide) q33.1 (by rw [l3]; exact l8)) ?_; intro u28 q28
            refine pc_ret ⟨?_, akb_t q33.2 q28.2⟩
            have e : L ++ [91, 73] = L ++ [91] ++ [73] := by rw [List.append_assoc]; rfl
            rw [e]; exact q28.1
      · obtain ⟨k, tk⟩ : ∃ k : Nat, t = 100 + (k : Int) := ⟨(t - 100).toNat, by omega⟩
        have k16 : k < 16 := by omega
        refine pc_sv (P := fun y => y = (k : Int)) ?_ ?_
        · refine pc_if (fun _ => ?_) (fun y => absurd t2 y)
          refine pc_if (fun y => absurd y (by omega)) (fun _ => ?_)
          refine pc_if (fun y => absurd y (by omega)) (fun _ => ?_)
          refine pc_sub (by omega) ?_; intro v1 e1
          exact pc_ret (by omega)
        · intro u34 e34
          rw [e34]
          have kl : kd_L W t = 91 :: ((76 :: W k) ++ [59]) := by
            unfold kd_L
            rw [if_neg (by omega), if_neg (by omega), if_neg (by omega), if_neg (by omega), if_neg (by omega), show (t - 100).toNat = k by omega]
            rfl
          have kn : (kd_L W t).length = (W k).length + 3 := by
            rw [kl]
            show ((76 :: W k) ++ [59]).length + 1 = _
            rw [List.length_append]; rfl
          refine pc_imp (CL u33 (L ++ [91]) k k16 (ntb_o T q33.2) ?_ q33.1 (by omega)) (fun u x => ⟨?_, akb_t q33.2 x.2⟩)
          · rw [q33.2 30 k (by omega) (by omega)]; exact nml_o (HN k (.inr tk) k16) q33.2
          · have e : L ++ kd_L W t = L ++ [91] ++ ((76 :: W k) ++ [59]) := by rw [kl, List.append_assoc]; rfl
            rw [e]; exact x.1
  · refine pc_sv (P := fun y => y = 0) ?_ ?_
    · refine pc_if (fun _ => pc_ret rfl) (fun y => ?_)
      exact pc_if (fun _ => pc_ret rfl) (fun y2 => absurd ⟨by omega, by omega⟩ a1)
    · intro u31 e31
      refine pc_if (fun _ => ?_) (fun y => absurd e31 y)
      by_cases tc : t < 100
      · obtain ⟨k, tk⟩ : ∃ k : Nat, t = (k : Int) := ⟨t.toNat, by omega⟩
        have k16 : k < 16 := by omega
        have kl : kd_L W t = (76 :: W k) ++ [59] := by
          unfold kd_L
          rw [if_neg (by omega), if_neg (by omega), if_neg (by omega), if_neg (by omega), if_pos tc, show t.toNat = k by omega]
        have kn : (kd_L W t).length = (W k).length + 2 := by rw [kl, List.length_append]; rfl
        rw [kl, tk]
        exact CL g L k k16 T (HN k (.inl tk) k16) B (by omega)
      · unfold qj_X2_addKind_20 qf_X4_isClass
        refine pc_sv (P := fun y => y = 0) ?_ ?_
        · refine pc_if (fun _ => pc_ret rfl) (fun _ => ?_)
          exact pc_if (fun _ => pc_ret rfl) (fun y => absurd (by omega) y)
        · intro u1 e1
          refine pc_if (fun y => absurd e1 y) (fun _ => ?_)
          refine pc_if (fun y1 => ?_) (fun y1 => ?_)
          · refine pc_if (fun y2 => ?_) (fun y2 => ?_)
            · have t3 : t = 303 := by omega
              have kl : kd_L W t = [86] := by unfold kd_L; rw [if_neg y1, if_neg y2, if_pos t3]
              rw [kl] at l8 ⊢
              refine pc_sv (c_akb (x := 86) (by decide) B l8) ?_; intro u23 q23
              exact pc_ret q23
            · have t3 : t = 302 := Classical.byContradiction y2
              have kl : kd_L W t = [90] := by unfold kd_L; rw [if_neg y1, if_pos t3]
              rw [kl] at l8 ⊢
              refine pc_sv (c_akb (x := 90) (by decide) B l8) ?_; intro u25 q25
              exact pc_ret q25
          · have t3 : t = 301 := Classical.byContradiction y1
            have kl : kd_L W t = [73] := by unfold kd_L; rw [if_pos t3]
            rw [kl] at l8 ⊢
            refine pc_sv (c_akb (x := 73) (by decide) B l8) ?_; intro u28 q28
            exact pc_ret q28
end

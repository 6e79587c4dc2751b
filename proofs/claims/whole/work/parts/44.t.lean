/- KINDS as texts: nameKinds of the class, its loops -/
/-- what nameKinds leaves -/
def NKD (W : Nat → List Int) (n : Nat) (a u : ms_M) : Prop := (NTB u ∧ NXt a u ∧ AKn a u) ∧ NKc W (8 + n) u ∧ NKf W a 96 u ∧ NKm W a 96 u
section
variable {nn : Nat} {K P V U D : Nat → Int} {C : Nat → Nat} {c n N mt : Nat} {q : Int} {h g r w u v a b : ms_M} {L : List Int} {W : Nat → List Int}
theorem nkc_x {k : Nat} (T : NTB g) (X : NXt g u) (e : ∀ y, u 30 y = g 30 y) (M : NKc W k g) : NKc W k u := fun i hi => by rw [e, e]; exact ⟨nmz_x T X (M i hi).1, nmz_x T X (M i hi).2⟩
theorem nkf_x {k : Nat} (T : NTB g) (X : NXt g u) (e : ∀ y, u 20 y = g 20 y) (M : NKf W a k g) : NKf W a k u := fun i hi z => by rw [e]; exact nmz_x T X (M i hi z)
theorem nkm_x {k : Nat} (T : NTB g) (X : NXt g u) (e : ∀ y, u 26 y = g 26 y) (M : NKm W a k g) : NKm W a k u := fun i hi z => by rw [e]; exact nmz_x T X (M i hi z)
/-- a row is written -/
theorem nst_w {X k v : Int} {cc y : Nat} (S : NST a g X k) (hc : cc = 20 ∨ cc = 26 ∨ cc = 30) (E : u = up_M g cc y v) : NST a u X k ∧ (∀ x A, NMz g x A → NMz u x A) ∧ NTB u := by
  have F : ∀ c2 k2 : Nat, ¬ c2 = cc → u c2 k2 = g c2 k2 := fun c2 k2 z => by rw [E, up_n (by omega)]
  have nm : ∀ i l t, NMt u i l t ↔ NMt g i l t := fun i l t => by
    unfold NMt ln_T
    rw [F 7 (i + 1) (by omega), F 7 i (by omega)]
    refine ⟨fun z => ⟨z.1, fun k hk => by have := z.2 k hk; rw [F 6 _ (by omega)] at this; exact this⟩, fun z => ⟨z.1, fun k hk => by rw [F 6 _ (by omega)]; exact z.2 k hk⟩⟩
  have bn : ∀ i, bn_T u i = bn_T g i := fun i => by unfold bn_T ln_T; rw [F 7 _ (by omega), F 7 _ (by omega), F 6 _ (by omega), F 6 _ (by omega)]
  obtain ⟨⟨t1, ⟨t2, t3⟩, t4, t5, t6⟩, ⟨x1, x2, x3, x4⟩, s3, s4⟩ := S
  have T : NTB u := by
    refine ⟨by rw [F 2 9 (by omega), F 7 _ (by omega)]; exact t1, ⟨by rw [F 7 _ (by omega)]; exact t2, fun i hi => by rw [F 7 _ (by omega), F 7 _ (by omega)]; exact t3 i (by rw [F 2 9 (by omega)] at hi; exact hi)⟩, fun b hb => ?_, fun i hi => ?_, fun i j l t ij hj M1 M2 => t6 i j l t ij (by rw [F 2 9 (by omega)] at hj; exact hj) ((nm i l t).mp M1) ((nm j l t).mp M2)⟩
    · rw [F 9 b (by omega), F 2 9 (by omega), pv_e (γ := bn_T g) _ (fun i _ => bn i)]; exact t4 b hb
    · rw [F 8 i (by omega), bn i, pv_e (γ := bn_T g) _ (fun j _ => bn j)]; exact t5 i (by rw [F 2 9 (by omega)] at hi; exact hi)
  refine ⟨⟨T, ⟨by rw [F 2 9 (by omega)]; exact x1, fun i hi => by rw [F 7 _ (by omega)]; exact x2 i hi, fun k hk => by rw [F 6 _ (by omega)]; exact x3 k hk, fun i hi => by rw [F 8 _ (by omega)]; exact x4 i hi⟩, by rw [F 2 9 (by omega)]; exact s3, by rw [F 2 9 (by omega), F 7 _ (by omega)]; exact s4⟩, fun x A M => ⟨by rw [F 2 9 (by omega)]; exact M.1, (nm _ _ _).mpr M.2⟩, T⟩
theorem tys_n (S : CKd K V C n N) (n8 : n ≤ 8) {p bs rw t : Int} (kp : bs = 3 → K p.toNat = 2) (H : TYS V C n p bs rw t) : VTn n t ∧ ¬ t = 300 := by
  rcases H with ⟨a1, a2⟩ | ⟨a1, a2, a3⟩ | ⟨a1, a2, a3⟩ | ⟨a1, a2⟩ | ⟨a1, x, a2, a3, a4⟩
  · exact ⟨.inr (.inl a2), by omega⟩
  · exact ⟨.inl a3, by omega⟩
  · exact ⟨.inr (.inr (.inr (.inr (.inl a3)))), by omega⟩
  · exact ⟨.inr (.inr (.inl a2)), by omega⟩
  · have b := cls_b a2 (S.2.2 _ (kp a1)).1
    have s1 := S.1
    rcases a4 with ⟨d1, d2⟩ | ⟨d1, d2⟩
    · exact ⟨.inr (.inr (.inr (.inr (.inr (.inl (by omega)))))), by omega⟩
    · exact ⟨.inr (.inr (.inr (.inr (.inr (.inr (by omega)))))), by omega⟩
/-- the methods' kinds -/
theorem nk_144 (n8 : n ≤ 8) (Ta : NTB a) (af : a 2 11 = 0) (M : MTB V C n mt q a b) (HW : ∀ k : Nat, k < 16 → (W k).length ≤ 12) (HT : ∀ j k : Nat, j < mt → k < 8 → MSm b k 1 j → VTn n (a 24 (12 * k + mcn_T b k 1 j)) ∧ ∀ i : Nat, (i : Int) < b 189 j → VTn n (a 29 (6 * (12 * k + mcn_T b k 1 j) + i))) {X0 : Int} (XB : X0 + (su_T (ml_T W a b mt) 96 : Int) ≤ 3214) : ∀ (f m : Nat) (g : ms_M), m ≤ 96 → NST a g (X0 + (su_T (ml_T W a b mt) m : Int)) (112 + (m : Int)) → AKn a g → NKc W (8 + n) g → NKf W a 96 g → NKm W a m g → Pc (qw_X2_nameKinds_144 nn f (m : Int) g) (fun u => NKD W n a u) := by
  intro f
  induction f with
  | zero => intros; exact pc_none
  | succ f ih =>
    intro m g hm S A Kc Kf Km
    unfold qw_X2_nameKinds_144
    refine pc_if (fun z => ?_) (fun z => ?_)
    · have e : m = 96 := by omega
      rw [e] at Km
      exact pc_ret ⟨⟨S.1, S.2.1, A⟩, Kc, Kf, Km⟩
    · refine pc_if (fun y => absurd (by rw [A 2 11 (by omega) (by omega) (by omega) (by omega) (by omega) (by omega) (by omega)]; exact af) y) (fun _ => ?_)
      have a21 : ∀ y, g 21 y = a 21 y := fun y => A 21 y (by omega) (by omega) (by omega) (by omega) (by omega) (by omega) (by omega)
      have c0 := M.1 (m / 12) (by omega)
      have em := su_m (f := ml_T W a b mt) (96 - m) m
      rw [show m + (96 - m) = 96 by omega] at em
      have es : su_T (ml_T W a b mt) (m + 1) = su_T (ml_T W a b mt) m + ml_T W a b mt m := rfl
      have em1 := su_m (f := ml_T W a b mt) (96 - (m + 1)) (m + 1)
      rw [show m + 1 + (96 - (m + 1)) = 96 by omega] at em1
      refine pc_sv (c_isM (h := g) (by omega)) ?_; intro u6 q6
      rw [a21] at q6
      refine pc_if (fun y => ?_) (fun y => ?_)
      · have no : ¬ ((m % 12 : Nat) : Int) < a 21 (m / 12) := by
          rcases q6 with ⟨w1, w2⟩ | ⟨w1, w2⟩
          · omega
          · exact w2
        have l0 : ml_T W a b mt m = 0 := by unfold ml_T; rw [if_neg (by rw [c0.1.2] at no; omega)]
        refine pc_add (by omega) ?_; intro v7 e7
        rw [show v7 = ((m + 1 : Nat) : Int) by omega]
        refine ih (m + 1) g (by omega) ?_ A Kc Kf (fun i hi hz => ?_)
        · obtain ⟨s1, s2, s3, s4⟩ := S
          exact ⟨s1, s2, by omega, by rw [es, l0]; omega⟩
        · by_cases im : i = m
          · rw [im] at hz; exact absurd hz no
          · exact Km i (by omega) hz
      · have yes : ((m % 12 : Nat) : Int) < a 21 (m / 12) := by
          rcases q6 with ⟨w1, w2⟩ | ⟨w1, w2⟩
          · exact w2
          · exact absurd w1 y
        obtain ⟨j, j1, j2, j3⟩ := mcn_sur (r := b) (k := ((m / 12 : Nat) : Int)) (s := 1) mt (m % 12) (by rw [c0.1.2] at yes; omega)
        have mb := M.2.2.1 j (m / 12) j1 (by omega) j2
        have ht := HT j (m / 12) j1 (by omega) j2
        rw [j3, show 12 * (m / 12) + m % 12 = m by omega] at mb ht
        have b9 := mb.2.2.1
        have lm : ml_T W a b mt m = (mk_L W a m).length := by unfold ml_T; rw [if_pos (by rw [c0.1.2] at yes; omega)]
        obtain ⟨pn, epn⟩ : ∃ pn : Nat, b 189 j = (pn : Int) := ⟨(b 189 j).toNat, by omega⟩
        refine pc_sv (c_nameMK (W := W) Ta S A (x := m) (pn := pn) (by omega) yes (by omega) (by omega) ⟨mb.1.2.1, mb.1.2.2.1⟩ (fun i hi => by have := (mb.2.2.2.1 i (by omega)).2.1; exact ⟨this.1, this.2.1⟩) HW (fun t k ty tk k16 => ?_) (by omega) (by omega)) ?_
        · have vt : VTn n t := by
            rcases ty with e | ⟨i, i1, e⟩
            · rw [e]; exact ht.1
            · rw [e]; exact ht.2 i (by omega)
          unfold VTn at vt
          exact (Kc k (by omega)).1
        · intro u10 q10
          obtain ⟨q1, q2, q3, q4, q5⟩ := q10
          refine pc_wA ?_; intro _ _ h11 e11
          rw [Int.toNat_natCast] at e11
          refine pc_add (by omega) ?_; intro v12 e12
          rw [show v12 = ((m + 1 : Nat) : Int) by omega]
          obtain ⟨w1, w2, w3⟩ := nst_w q2 (.inr (.inl rfl)) e11
          have F : ∀ cc y : Nat, ¬ cc = 26 → h11 cc y = u10.2 cc y := fun cc y z => by rw [e11, up_n (by omega)]
          refine ih (m + 1) h11 (by omega) ?_ (fun cc y z1 z2 z3 z4 z5 z6 z7 => by rw [F cc y z5]; exact q4 cc y z1 z2 z3 z4 z5 z6 z7) (fun i hi => ?_) (fun i hi hz => ?_) (fun i hi hz => ?_)
          · obtain ⟨s1, s2, s3, s4⟩ := w1
            exact ⟨s1, s2, by omega, by rw [es, lm]; omega⟩
          · have x := nkc_x S.1 q3 (fun y => q5 30 y (by omega)) Kc i hi
            rw [F 30 _ (by omega), F 30 _ (by omega)]
            exact ⟨w2 _ _ x.1, w2 _ _ x.2⟩
          · have x := nkf_x S.1 q3 (fun y => q5 20 y (by omega)) Kf i hi hz
            rw [F 20 _ (by omega)]
            exact w2 _ _ x
          · by_cases im : i = m
            · rw [im, e11, up_s]
              have := w2 _ _ q1
              rw [← e11]; exact this
            · have x := nkm_x S.1 q3 (fun y => q5 26 y (by omega)) Km i (by omega) hz
              rw [e11, up_n (by omega), ← e11]
              exact w2 _ _ x
/-- the fields' kinds -/
theorem nk_85 (n8 : n ≤ 8) (Ta : NTB a) (af : a 2 11 = 0) (M : MTB V C n mt q a b) (HW : ∀ k : Nat, k < 16 → (W k).length ≤ 12) (HT : ∀ j k : Nat, j < mt → k < 8 → MSm b k 1 j → VTn n (a 24 (12 * k + mcn_T b k 1 j)) ∧ ∀ i : Nat, (i : Int) < b 189 j → VTn n (a 29 (6 * (12 * k + mcn_T b k 1 j) + i))) (HF : ∀ j k : Nat, j < mt → k < 8 → MSm b k 0 j → VTn n (a 19 (12 * k + mcn_T b k 0 j))) {X0 : Int} (XB : X0 + (su_T (fl_T W a b mt) 96 : Int) + (su_T (ml_T W a b mt) 96 : Int) ≤ 3214) : ∀ (f m : Nat) (g : ms_M), m ≤ 96 → NST a g (X0 + (su_T (fl_T W a b mt) m : Int)) (16 + (m : Int)) → AKn a g → NKc W (8 + n) g → NKf W a m g → Pc (qw_X2_nameKinds_85 nn f (m : Int) g) (fun u => NKD W n a u) := by
  intro f
  induction f with
  | zero => intros; exact pc_none
  | succ f ih =>
    intro m g hm S A Kc Kf
    unfold qw_X2_nameKinds_85
    refine pc_if (fun z => ?_) (fun z => ?_)
    · have e : m = 96 := by omega
      rw [e] at Kf S
      refine nk_144 n8 Ta af M HW HT (X0 := X0 + (su_T (fl_T W a b mt) 96 : Int)) XB nn 0 g (by omega) ?_ A Kc Kf (fun i hi => absurd hi (by omega))
      obtain ⟨s1, s2, s3, s4⟩ := S
      exact ⟨s1, s2, by omega, by show _ ≤ 3186 + (X0 + (su_T (fl_T W a b mt) 96 : Int) + ((0 : Nat) : Int)); omega⟩
    · refine pc_if (fun y => absurd (by rw [A 2 11 (by omega) (by omega) (by omega) (by omega) (by omega) (by omega) (by omega)]; exact af) y) (fun _ => ?_)
      have a17 : ∀ y, g 17 y = a 17 y := fun y => A 17 y (by omega) (by omega) (by omega) (by omega) (by omega) (by omega) (by omega)
      have a19 : ∀ y, g 19 y = a 19 y := fun y => A 19 y (by omega) (by omega) (by omega) (by omega) (by omega) (by omega) (by omega)
      have c0 := M.1 (m / 12) (by omega)
      have es : su_T (fl_T W a b mt) (m + 1) = su_T (fl_T W a b mt) m + fl_T W a b mt m := rfl
      have em1 := su_m (f := fl_T W a b mt) (96 - (m + 1)) (m + 1)
      rw [show m + 1 + (96 - (m + 1)) = 96 by omega] at em1
      refine pc_mod (by omega) ?_; intro v20 e20
      refine pc_div (by omega) ?_; intro v22 e22
      refine pc_rA ?_; intro _ _ v23 e23
      rw [show v22.toNat = m / 12 by omega, a17] at e23
      refine pc_if (fun y => ?_) (fun y => ?_)
      · have no : ¬ ((m % 12 : Nat) : Int) < a 17 (m / 12) := by omega
        have l0 : fl_T W a b mt m = 0 := by unfold fl_T; rw [if_neg (by rw [c0.1.1] at no; omega)]
        refine pc_add (by omega) ?_; intro v24 e24
        rw [show v24 = ((m + 1 : Nat) : Int) by omega]
        refine ih (m + 1) g (by omega) ?_ A Kc (fun i hi hz => ?_)
        · obtain ⟨s1, s2, s3, s4⟩ := S
          exact ⟨s1, s2, by omega, by rw [es, l0]; omega⟩
        · by_cases im : i = m
          · rw [im] at hz; exact absurd hz no
          · exact Kf i (by omega) hz
      · have yes : ((m % 12 : Nat) : Int) < a 17 (m / 12) := by omega
        obtain ⟨j, j1, j2, j3⟩ := mcn_sur (r := b) (k := ((m / 12 : Nat) : Int)) (s := 0) mt (m % 12) (by rw [c0.1.1] at yes; omega)
        have mb := M.2.1 j (m / 12) j1 (by omega) j2
        have ht := HF j (m / 12) j1 (by omega) j2
        rw [j3, show 12 * (m / 12) + m % 12 = m by omega] at mb ht
        have lm : fl_T W a b mt m = (kd_L W (a 19 m)).length := by unfold fl_T; rw [if_pos (by rw [c0.1.1] at yes; omega)]
        refine pc_rA ?_; intro _ _ v27 e27
        rw [Int.toNat_natCast, a19] at e27
        rw [e27]
        refine pc_sv (c_nameKind (W := W) Ta S A (t := a 19 m) ⟨mb.2.1.1, mb.2.1.2.1⟩ HW (fun k tk k16 => ?_) (by omega) (by omega)) ?_
        · unfold VTn at ht
          exact (Kc k (by omega)).1
        · intro u29 q29
          obtain ⟨q1, q2, q3, q4, q5⟩ := q29
          refine pc_wA ?_; intro _ _ h30 e30
          rw [Int.toNat_natCast] at e30
          refine pc_add (by omega) ?_; intro v31 e31
          rw [show v31 = ((m + 1 : Nat) : Int) by omega]
          obtain ⟨w1, w2, w3⟩ := nst_w q2 (.inl rfl) e30
          have F : ∀ cc y : Nat, ¬ cc = 20 → h30 cc y = u29.2 cc y := fun cc y z => by rw [e30, up_n (by omega)]
          refine ih (m + 1) h30 (by omega) ?_ (fun cc y z1 z2 z3 z4 z5 z6 z7 => by rw [F cc y z4]; exact q4 cc y z1 z2 z3 z4 z5 z6 z7) (fun i hi => ?_) (fun i hi hz => ?_)
          · obtain ⟨s1, s2, s3, s4⟩ := w1
            exact ⟨s1, s2, by omega, by rw [es, lm]; omega⟩
          · have x := nkc_x S.1 q3 (fun y => q5 30 y (by omega)) Kc i hi
            rw [F 30 _ (by omega), F 30 _ (by omega)]
            exact ⟨w2 _ _ x.1, w2 _ _ x.2⟩
          · by_cases im : i = m
            · rw [im, e30, up_s, ← e30]
              exact w2 _ _ q1
            · have x := nkf_x S.1 q3 (fun y => q5 20 y (by omega)) Kf i (by omega) hz
              rw [e30, up_n (by omega), ← e30]
              exact w2 _ _ x
theorem su_8 {f : Nat → Nat} : ∀ m : Nat, su_T f (8 + m) = su_T f 8 + su_T (fun k => f (8 + k)) m := by
  intro m
  induction m with
  | zero => rfl
  | succ m ih =>
    show su_T f (8 + m) + f (8 + m) = su_T f 8 + (su_T (fun k => f (8 + k)) m + f (8 + m))
    rw [ih]; omega
/-- nameKinds of the class -/
theorem c_kinds (BK : TBn K c) (Sk : CKd K V C n N) (n8 : n ≤ 8) (Ta : NTB a) (B : TBc K P c a) (LV : VLc K V c a) (a9 : a 2 9 ≤ 1532) (a7 : a 7 (a 2 9).toNat ≤ 3186) (af : a 2 11 = 0) (e11 : a 11 2 = (n : Int)) (e15 : ∀ k : Nat, k < n → a 15 k = (C k : Int)) (M : MTB V C n mt q a b) (HW : ∀ k : Nat, k < 16 → (W k).length ≤ 12) (W8 : ∀ k : Nat, k < 8 → NMz a (k : Int) (W k)) (WC : ∀ k : Nat, k < n → NMz a (V (C k)) (W (8 + k))) (HT : ∀ j k : Nat, j < mt → k < 8 → MSm b k 1 j → VTn n (a 24 (12 * k + mcn_T b k 1 j)) ∧ ∀ i : Nat, (i : Int) < b 189 j → VTn n (a 29 (6 * (12 * k + mcn_T b k 1 j) + i))) (HF : ∀ j k : Nat, j < mt → k < 8 → MSm b k 0 j → VTn n (a 19 (12 * k + mcn_T b k 0 j))) (XB : (su_T (fun i => (W i).length + 3) (8 + n) : Int) + (su_T (fl_T W a b mt) 96 : Int) + (su_T (ml_T W a b mt) 96 : Int) ≤ 3214) : Pc (qf_X2_nameKinds nn a) (fun u => NKD W n a u) := by
  have s1' := Sk.1
  have LOOP : ∀ (f m : Nat) (g : ms_M), m ≤ 8 + n → NST a g (su_T (fun i => (W i).length + 3) m : Int) (m : Int) → AKn a g → NKc W m g → Pc (qw_X2_nameKinds_2 nn f (m : Int) g) (fun u => NKD W n a u) := by
    intro f
    induction f with
    | zero => intros; exact pc_none
    | succ f ih =>
      intro m g hm S A Kc
      have e2 : g 11 2 = (n : Int) := by rw [A 11 2 (by omega) (by omega) (by omega) (by omega) (by omega) (by omega) (by omega)]; exact e11
      have G85 : m = 8 + n → Pc (qw_X2_nameKinds_85 nn nn 0 g) (fun u => NKD W n a u) := fun e => by
        rw [e] at S Kc
        refine nk_85 n8 Ta af M HW HT HF (X0 := (su_T (fun i => (W i).length + 3) (8 + n) : Int)) XB nn 0 g (by omega) ?_ A Kc (fun i hi => absurd hi (by omega))
        obtain ⟨s1, s2, s3, s4⟩ := S
        exact ⟨s1, s2, by omega, by show _ ≤ 3186 + ((su_T (fun i => (W i).length + 3) (8 + n) : Int) + ((0 : Nat) : Int)); omega⟩
      unfold qw_X2_nameKinds_2
      rw [e2]
      refine pc_add (by omega) ?_; intro v44 e44
      refine pc_if (fun z => G85 (by omega)) (fun z => ?_)
      refine pc_if (fun z => absurd z (by omega)) (fun _ => ?_)
      refine pc_if (fun y => absurd (by rw [A 2 11 (by omega) (by omega) (by omega) (by omega) (by omega) (by omega) (by omega)]; exact af) y) (fun _ => ?_)
      have es : su_T (fun i => (W i).length + 3) (m + 1) = su_T (fun i => (W i).length + 3) m + ((W m).length + 3) := rfl
      have em1 := su_m (f := fun i => (W i).length + 3) (8 + n - (m + 1)) (m + 1)
      rw [show m + 1 + (8 + n - (m + 1)) = 8 + n by omega] at em1
      -- the row of class m
      have G59 : ∀ x : Int, NMz g x (W m) → Pc (qj_X2_nameKinds_59 nn (qw_X2_nameKinds_2 nn f) (m : Int) x (m : Int) g) (fun u => NKD W n a u) := fun x hx => by
        unfold qj_X2_nameKinds_59
        refine pc_wA ?_; intro _ _ h35 e35
        rw [Int.toNat_natCast] at e35
        obtain ⟨w1, w2, w3⟩ := nst_w S (.inr (.inr rfl)) e35
        have F : ∀ cc y : Nat, ¬ (cc = 30 ∧ y = m) → h35 cc y = g cc y := fun cc y z => by rw [e35, up_n z]
        have A35 : AKn a h35 := fun cc y z1 z2 z3 z4 z5 z6 z7 => by rw [F cc y (by omega)]; exact A cc y z1 z2 z3 z4 z5 z6 z7
        have m35 : NMz h35 (h35 30 m) (W m) := by
          have := w2 _ _ hx
          rw [show h35 30 m = x by rw [e35, up_s]]; exact this
        refine pc_add (by omega) ?_; intro v37 e37
        refine pc_add (by omega) ?_; intro v38 e38
        rw [e38]
        have kl : (kd_L W (100 + (m : Int))).length = (W m).length + 3 := by
          unfold kd_L
          rw [if_neg (by omega), if_neg (by omega), if_neg (by omega), if_neg (by omega), if_neg (by omega), List.length_append, show (100 + (m : Int) - 100).toNat = m by omega]; rfl
        refine pc_sv (c_nameKind (W := W) Ta w1 A35 (t := 100 + (m : Int)) ⟨.inr (.inr (.inr (.inr (.inr (.inr (by omega)))))), by omega⟩ HW (fun k tk k16 => ?_) (by omega) (by rw [kl]; omega)) ?_
        · rw [show k = m by omega]; exact m35
        · intro u40 q40
          obtain ⟨q1, q2, q3, q4, q5⟩ := q40
          refine pc_wA ?_; intro _ _ h41 e41
          rw [show v37.toNat = 16 + m by omega] at e41
          refine pc_add (by omega) ?_; intro v42 e42
          rw [show v42 = ((m + 1 : Nat) : Int) by omega]
          obtain ⟨y1, y2, y3⟩ := nst_w q2 (.inr (.inr rfl)) e41
          have F2 : ∀ cc y : Nat, ¬ (cc = 30 ∧ y = 16 + m) → h41 cc y = u40.2 cc y := fun cc y z => by rw [e41, up_n z]
          refine ih (m + 1) h41 (by omega) ?_ (fun cc y z1 z2 z3 z4 z5 z6 z7 => by rw [F2 cc y (by omega)]; exact q4 cc y z1 z2 z3 z4 z5 z6 z7) (fun i hi => ?_)
          · obtain ⟨s1, s2, s3, s4⟩ := y1
            rw [kl] at s4
            exact ⟨s1, s2, by omega, by rw [es]; omega⟩
          · have old : ∀ x A, NMz h35 x A → NMz h41 x A := fun x A z => y2 _ _ (nmz_x w3 q3 z)
            by_cases im : i = m
            · rw [im, F2 30 m (by omega), q5 30 m (by omega)]
              refine ⟨old _ _ m35, ?_⟩
              rw [show h41 30 (16 + m) = u40.1 by rw [e41, up_s]]
              exact y2 _ _ q1
            · have x := Kc i (by omega)
              rw [F2 30 i (by omega), F2 30 (16 + i) (by omega), q5 30 i (by omega), q5 30 (16 + i) (by omega), F 30 i (by omega), F 30 (16 + i) (by omega)]
              exact ⟨old _ _ (w2 _ _ x.1), old _ _ (w2 _ _ x.2)⟩
      refine pc_if (fun z8 => ?_) (fun z8 => ?_)
      · obtain ⟨k, mk⟩ : ∃ k : Nat, m = 8 + k := ⟨m - 8, by omega⟩
        have kn : k < n := by omega
        refine pc_sub (by omega) ?_; intro v49 e49
        have kk := (Sk.2.1 k kn).1
        have tok : Pc (qf_X2_tokenOfClass nn v49 g) (fun y => y = (C k : Int)) := by
          unfold qf_X2_tokenOfClass
          rw [e2]
          refine pc_if (fun y => absurd y (by omega)) (fun _ => ?_)
          refine pc_if (fun y => absurd y (by omega)) (fun _ => ?_)
          refine pc_rA ?_; intro _ _ v3 e3
          rw [show v49.toNat = k by omega, A 15 k (by omega) (by omega) (by omega) (by omega) (by omega) (by omega) (by omega), e15 k kn] at e3
          exact pc_ret e3
        refine pc_sv tok ?_; intro u51 q51
        refine pc_sv (c_valueAt (V := V) BK (tbc_k B (fun cc y z => A cc y (by omega) (by omega) (by omega) (by omega) (by omega) (by omega) (by omega))) (fun i hi ki => by rw [A 5 i (by omega) (by omega) (by omega) (by omega) (by omega) (by omega) (by omega)]; exact LV i hi ki) kk q51) ?_; intro u53 q53
        rw [q53]
        refine G59 _ ?_
        rw [mk]; exact nmz_x Ta S.2.1 (WC k kn)
      · refine G59 _ ?_
        exact nmz_x Ta S.2.1 (W8 m (by omega))
  unfold qf_X2_nameKinds
  refine LOOP nn 0 a (by omega) ⟨Ta, nx_r, by omega, by show _ ≤ 3186 + ((0 : Nat) : Int); omega⟩ (fun _ _ _ _ _ _ _ _ _ => rfl) (fun i hi => absurd hi (by omega))
end

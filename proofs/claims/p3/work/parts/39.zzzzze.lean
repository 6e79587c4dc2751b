section
variable {nn : Nat} {h g r z w v x f R : ms_M} {c d e k : Int} {ω : Int → ms_M}
/-- a name: isName says so -/
theorem rn_isName (hn : 1000000 ≤ nn) (V : VS_ R) {a n : Int} (ra : 0 ≤ a ∧ a + n ≤ 48000) (rn : 1 ≤ n ∧ n ≤ 12) (N : NMl (R 226) a n) : Ok_ (qf_X13_isName nn 226 a n R) (fun u => u = 1) := by
  have Rw : RW_ 226 48000 := .inr ⟨rfl, rfl⟩
  have L : ∀ (k : Nat) (l4 : Int), (0 ≤ l4 ∧ l4 ≤ n) → n - l4 < (k : Int) → Ok_ (qw_X13_isName_20 nn k 226 a n 1 l4 R) (fun u => u = 1) := by
    intro k
    induction k with
    | zero => intro l4 b hm; exfalso; omega
    | succ k ih =>
      intro l4 b hm
      unfold qw_X13_isName_20
      refine ok_if (fun _ => ok_ck (.inr rfl) (ok_ret rfl)) (fun C => ?_)
      refine ok_if (fun y => absurd y (by decide)) (fun _ => ?_)
      refine ok_add (by omega) ?_; intro v5 e5
      refine ok_rS Rw V (by omega) ?_; intro v6 e6 a6 b6
      have J : ∀ s0 : Int, s0 = (if l4 = 0 then 1 else 0) → Ok_ (qj_X13_isName_46 nn (qw_X13_isName_20 nn k) 226 a n l4 s0 v6 R) (fun u => u = 1) := fun s0 es => by
        unfold qj_X13_isName_46
        have q := N l4 b.1 (by omega)
        rw [← es, show a + l4 = v5 by omega, ← e6, ← nm_part (nn := nn) (M := R)] at q
        rw [q, mx_svs]
        refine ok_add (by omega) ?_; intro v2 e2
        exact ih v2 (by omega) (by omega)
      refine ok_if (fun y => J 0 (by rw [if_neg y])) (fun y => J 1 (by rw [if_pos (Decidable.not_not.1 y)]))
  unfold qf_X13_isName
  rw [if_neg (by omega), if_neg (by omega)]
  exact L nn 0 (by omega) (by omega)
/-- how long the kind from a on is -/
theorem rn_kindBytes (hn : 1000000 ≤ nn) (V : VS_ R) {a e l : Int} (ra : 0 ≤ a ∧ e ≤ l ∧ l ≤ 48000) (K : KD (R 226) a e) : Ok_ (qf_X13_kindBytes nn 226 a l R) (fun u => u = e - a) := by
  have Rw : RW_ 226 48000 := .inr ⟨rfl, rfl⟩
  have lt := kd_lt K
  have J : ∀ p : Int, (p = a ∨ p = a + 1) → KK (R 226) p e → Ok_ (qj_X13_kindBytes_33 nn 226 a l p R) (fun u => u = e - a) := fun p hp K => by
    have lk := kk_lt K
    unfold qj_X13_kindBytes_33
    rw [if_neg (show ¬ l ≤ p by omega)]
    refine ok_rS Rw V (by omega) ?_; intro v17 e17 _ _
    rcases K with K | K
    · rw [if_neg (show ¬ ¬ v17 = 73 by omega)]
      refine ok_add (by omega) ?_; intro v18 e18
      refine ok_sub (by omega) ?_; intro v19 e19
      exact ok_ret (by omega)
    · obtain ⟨k1, ⟨k2, kn⟩, k3, k4⟩ := K
      rw [if_pos (show ¬ v17 = 73 by omega)]
      unfold qj_X13_kindBytes_52
      rw [if_neg (show ¬ l ≤ p by omega)]
      refine ok_rS Rw V (by omega) ?_; intro v13 e13 _ _
      rw [if_pos (show v13 = 76 by omega)]
      refine ok_add (by omega) ?_; intro v14 e14
      have L : ∀ (j : Nat) (i : Int), p < i → i ≤ e - 1 → e - i < (j : Int) → Ok_ (qw_X13_kindBytes_72 nn j 226 a l p i R) (fun u => u = e - a) := by
        intro j
        induction j with
        | zero => intro i b1 b2 hm; exfalso; omega
        | succ j ih =>
          intro i b1 b2 hm
          unfold qw_X13_kindBytes_72
          rw [if_neg (show ¬ l ≤ i by omega)]
          refine ok_rS Rw V (by omega) ?_; intro v9 e9 _ _
          refine ok_if (fun C => ?_) (fun C => ?_)
          · have ei : i = e - 1 := by
              by_cases y : i < e - 1
              · exact absurd (e9.symm.trans C) (k4 i b1 y)
              · omega
            unfold qj_X13_kindBytes_93
            rw [if_neg (show ¬ l ≤ i by omega)]
            refine ok_add (by omega) ?_; intro v1 e1
            refine ok_sub (by omega) ?_; intro v2 e2
            refine ok_sub (by omega) ?_; intro v3 e3
            rw [e1, show v3 = e - p - 2 by omega]
            refine ok_sv (rn_isName hn V (by omega) (by omega) kn) ?_; intro u4 P4
            rw [if_neg (show ¬ u4 = 0 by omega)]
            refine ok_add (by omega) ?_; intro v5 e5
            refine ok_sub (by omega) ?_; intro v6 e6
            exact ok_ret (by omega)
          · have ei : i < e - 1 := by
              by_cases y : i < e - 1
              · exact y
              · exfalso
                have : i = e - 1 := by omega
                rw [this] at e9
                exact C (e9.trans k3)
            refine ok_add (by omega) ?_; intro v10 e10
            rw [e10]
            exact ih (i + 1) (by omega) (by omega) (by omega)
      exact L nn v14 (by omega) (by omega) (by omega)
  unfold qf_X13_kindBytes
  rw [if_neg (show ¬ l ≤ a by omega)]
  refine ok_rS Rw V (by omega) ?_; intro v26 e26 _ _
  rcases K with K | ⟨K1, K2⟩ | ⟨K1, K2⟩
  · rw [if_neg (show ¬ ¬ v26 = 90 by omega)]
    exact ok_ret (by omega)
  · have n90 : ¬ v26 = 90 := by
      rcases K2 with q | q
      · omega
      · have := q.1; omega
    rw [if_pos n90]
    unfold qj_X13_kindBytes_17
    rw [if_neg (show ¬ l ≤ a by omega)]
    refine ok_rS Rw V (by omega) ?_; intro v22 e22 _ _
    rw [if_pos (show ¬ v22 = 91 by omega)]
    exact J a (.inl rfl) K2
  · rw [if_pos (show ¬ v26 = 90 by omega)]
    unfold qj_X13_kindBytes_17
    rw [if_neg (show ¬ l ≤ a by omega)]
    refine ok_rS Rw V (by omega) ?_; intro v22 e22 _ _
    rw [if_neg (show ¬ ¬ v22 = 91 by omega)]
    refine ok_add (by omega) ?_; intro v23 e23
    rw [e23]
    exact J (a + 1) (.inr rfl) K2
/-- how many parameters a method's kind has -/
theorem rn_pars (hn : 1000000 ≤ nn) (V : VS_ R) {a l : Int} {m : Nat} (ra : 0 ≤ a ∧ a + l ≤ 48000) (K : MKn (R 226) m a (a + l)) : Ok_ (qf_X13_parametersIn nn 226 a l R) (fun u => u = m) := by
  have Rw : RW_ 226 48000 := .inr ⟨rfl, rfl⟩
  obtain ⟨k0, q, pr, k41, rt⟩ := K
  have lq := pr_le _ _ _ pr
  have lt : q + 1 < a + l := by
    rcases rt with y | y
    · omega
    · have := kd_lt y; omega
  have L : ∀ (n : Nat) (j : Nat) (p l5 : Int), 0 ≤ p → PRn (R 226) n p q → (0 ≤ l5 ∧ l5 ≤ 48000) → l5 + n = m → n < j → Ok_ (qw_X13_parametersIn_27 nn j 226 (a + l) p l5 R) (fun u => u = m) := by
    intro n
    induction n with
    | zero =>
      intro j p l5 p0 Y b em hm
      have Y : p = q := Y
      cases j with
      | zero => exfalso; omega
      | succ j =>
        unfold qw_X13_parametersIn_27
        rw [if_neg (show ¬ a + l ≤ p by omega)]
        refine ok_rS Rw V (by omega) ?_; intro v11 e11 _ _
        rw [if_pos (show v11 = 41 by rw [e11, Y]; exact k41)]
        unfold qj_X13_parametersIn_71
        rw [if_pos (show p < a + l by omega)]
        refine ok_add (by omega) ?_; intro v5 e5
        refine ok_add (by omega) ?_; intro v6 e6
        have yes : Ok_ (qj_X13_parametersIn_112 nn l5 R) (fun u => u = m) := by
          unfold qj_X13_parametersIn_112 qj_X13_parametersIn_117
          rw [if_neg (by decide)]
          exact ok_ret (by omega)
        have fk : KD (R 226) (q + 1) (a + l) → Ok_ (qj_X13_parametersIn_99 nn 226 (a + l) v5 l5 R) (fun u => u = m) := fun kd => by
          unfold qj_X13_parametersIn_99
          refine ok_sub (by omega) ?_; intro v2 e2
          have fkind : Ok_ (qf_X13_isFieldKind nn 226 v5 v2 R) (fun u => u = 1) := by
            unfold qf_X13_isFieldKind
            rw [if_neg (show ¬ v2 ≤ 0 by omega)]
            refine ok_add (by omega) ?_; intro v1 e1
            rw [show v1 = a + l by omega, show v5 = q + 1 by omega]
            refine ok_sv (rn_kindBytes hn V (by omega) kd) ?_; intro u2 P2
            rw [if_neg (show ¬ ¬ u2 = v2 by omega)]
            exact ok_ret rfl
          refine ok_sv fkind ?_; intro u3 P3
          rw [if_neg (show ¬ u3 = 0 by omega)]
          exact yes
        refine ok_if (fun C => ?_) (fun C => ?_)
        · rcases rt with y | y
          · exfalso; omega
          · exact fk y
        · refine ok_rS Rw V (by omega) ?_; intro v7 e7 _ _
          refine ok_if (fun _ => yes) (fun C2 => ?_)
          rcases rt with y | y
          · exfalso
            rw [show v5 = q + 1 by omega] at e7
            exact C2 (e7.trans y.1)
          · exact fk y
    | succ n ih =>
      intro j p l5 p0 Y b em hm
      obtain ⟨e, y1, y2⟩ := Y
      have lq := pr_le _ _ _ y2
      have lk := kd_lt y1
      cases j with
      | zero => exfalso; omega
      | succ j =>
        unfold qw_X13_parametersIn_27
        rw [if_neg (show ¬ a + l ≤ p by omega)]
        refine ok_rS Rw V (by omega) ?_; intro v11 e11 _ _
        rw [if_neg (show ¬ v11 = 41 by rw [e11]; exact kd_no y1)]
        refine ok_sv (rn_kindBytes hn V (by omega) y1) ?_; intro u12 P12
        rw [if_pos (show ¬ u12 = 0 by omega)]
        refine ok_add (by omega) ?_; intro v13 e13
        refine ok_add (by omega) ?_; intro v14 e14
        rw [show v13 = e by omega, e14]
        exact ih j e (l5 + 1) (by omega) y2 (by omega) (by omega) (by omega)
  unfold qf_X13_parametersIn
  refine ok_add (by omega) ?_; intro v18 e18
  rw [if_neg (show ¬ l < 3 by omega)]
  refine ok_rS Rw V (by omega) ?_; intro v19 e19 _ _
  rw [if_pos (show v19 = 40 by omega)]
  refine ok_add (by omega) ?_; intro v20 e20
  rw [e18, e20]
  exact L m nn (a + 1) 0 (by omega) pr (by omega) (by omega) (by have := pr_le _ _ _ pr; omega)
/-- the members of one image are looked up alike -/
theorem hsn_e (hn : 1000000 ≤ nn) (X : VRC nn ω g) (A : AGe g R) (VR : VS_ R) {i s : Int} : ∀ (m : Nat) (k u j : Int), (-1 ≤ k ∧ k < 8 + g 160 98) → HSn nn R ω w c i s m k u j → HSn nn g ω w c i s m k u j := by
  obtain ⟨⟨V, S⟩, O, C, _⟩ := X
  have g98 := gF_160_98 V
  have EM : ∀ d : Int, 0 ≤ d → d < g 160 98 → mem R d s = mem g d s := fun d d0 d1 => by
    obtain ⟨_, _, ⟨_, _, _, e2, e4⟩, _⟩ := A.2 d d0 d1
    unfold mem
    rw [e2, e4]
  have M12 : ∀ d : Int, 0 ≤ d → d < g 160 98 → mem g d s ≤ 12 := fun d d0 d1 => by
    have W := O d d0 d1
    unfold mem
    by_cases y : s = 0
    · rw [if_pos y]; exact W.2.2.2.2.2.2.1.1
    · rw [if_neg y]; exact W.2.2.2.2.2.2.2.1
  have ET : ∀ d l : Int, 0 ≤ d → d < g 160 98 → 0 ≤ l → l < mem g d s → (MTc R ω w c i s d l ↔ MTc g ω w c i s d l) := fun d l d0 d1 l0 l1 => by
    have := M12 d d0 d1
    obtain ⟨e3, e5, _, _⟩ := (A.2 d d0 d1).2.2.2 l l0 (by omega)
    unfold MTc nmT
    rw [e3, e5]
  intro m
  induction m with
  | zero => intro k u j _ a; exact a
  | succ m ih =>
    intro k u j hk a
    rcases a with a | ⟨a1, a2⟩
    · exact .inl a
    · rcases a2 with ⟨p1, p2, p3, p4, p5⟩ | ⟨p1, y, p2, p3⟩
      · rw [EM (k - 8) (by omega) (by omega)] at p3
        refine .inr ⟨a1, .inl ⟨p1, p2, p3, (ET _ _ (by omega) (by omega) p3.1 p3.2).1 p4, fun l l1 l2 q => p5 l l1 l2 ((ET _ _ (by omega) (by omega) l1 (by omega)).2 q)⟩⟩
      · rw [ce_super V VR O A (by omega)] at p2
        obtain ⟨y', e, p⟩ := su_rg hn V S (k := k) (by omega)
        rw [← Option.some.inj (p2.symm.trans e)] at p
        refine .inr ⟨a1, .inr ⟨fun b l l1 l2 q => ?_, y, p2, ih _ _ _ p p3⟩⟩
        exact p1 b l l1 (by rw [EM (k - 8) (by omega) (by omega)]; exact l2) ((ET _ _ (by omega) (by omega) l1 l2).2 q)
/-- more steps than the chain has change nothing -/
theorem hsn_s {i s : Int} : ∀ (m : Nat) (k u j : Int), CHn nn g m k → HSn nn g ω w c i s m k u j → HSn nn g ω w c i s (m + 1) k u j := by
  intro m
  induction m with
  | zero => intro k u j C a; exact .inl ⟨C, a⟩
  | succ m ih =>
    intro k u j C a
    rcases a with a | ⟨a1, a2⟩
    · exact .inl a
    · rcases a2 with a2 | ⟨p1, y, p2, p3⟩
      · exact .inr ⟨a1, .inl a2⟩
      · have C2 : CHn nn g m y := by
          rcases C with q | ⟨_, y', q, q2⟩
          · exact absurd q a1
          · rw [Option.some.inj (p2.symm.trans q)]; exact q2
        exact .inr ⟨a1, .inr ⟨p1, y, p2, ih _ _ _ C2 p3⟩⟩
/-- what is found stands above -/
theorem hsn_up {i s : Int} : ∀ (m : Nat) (k u j : Int), HSn nn g ω w c i s m k u j → ¬ u = -1 → ∃ n : Nat, UPn nn g n k u := by
  intro m
  induction m with
  | zero => intro k u j a y; exact absurd a y
  | succ m ih =>
    intro k u j a y
    rcases a with a | ⟨a1, a2⟩
    · exact absurd a.2 y
    · rcases a2 with ⟨p1, p2, _⟩ | ⟨p1, z, p2, p3⟩
      · exact ⟨0, p2.symm⟩
      · obtain ⟨n, q⟩ := ih _ _ _ p3 y
        exact ⟨n + 1, a1, z, p2, q⟩
/-- a method that is found from below a class goes with the one that is found from the class -/
theorem hsn_ov (hn : 1000000 ≤ nn) (X : VRC nn ω g) {i u b j : Int} (R1 : HSn nn g ω w c i 1 17 u b j) (hb : 8 ≤ b ∧ b < 8 + g 160 98) (hj : 0 ≤ j ∧ j < mem g (b - 8) 1) (st : ω (b - 8) 238 (g 235 (12 * (b - 8) + j).toNat).toNat = 0) : ∀ (n : Nat) (k : Int), (0 ≤ k ∧ k < 8 + g 160 98) → UPn nn g n k u → ∃ b2 j2 : Int, HSn nn g ω w c i 1 17 k b2 j2 ∧ ((8 ≤ b2 ∧ b2 < 8 + g 160 98) ∧ (0 ≤ j2 ∧ j2 < mem g (b2 - 8) 1)) ∧ EQT (ω (b2 - 8)) (b2 - 8) (kdT g ω (b2 - 8) 1 j2) (ω (b - 8)) (b - 8) (kdT g ω (b - 8) 1 j) ∧ ω (b2 - 8) 238 (g 235 (12 * (b2 - 8) + j2).toNat).toNat = 0 := by
  obtain ⟨⟨V, S⟩, O, C, _⟩ := X
  have g98 := gF_160_98 V
  intro n
  induction n with
  | zero =>
    intro k hk y
    have y : k = u := y
    rw [y]
    exact ⟨b, j, R1, ⟨hb, hj⟩, eqt_rf, st⟩
  | succ n ih =>
    intro k hk y
    obtain ⟨k1, y, sy, up⟩ := y
    obtain ⟨y', e, p⟩ := su_rg hn V S (k := k) (by omega)
    rw [← Option.some.inj (sy.symm.trans e)] at p
    have un : ¬ u = -1 := fun z => by
      rw [z] at R1
      rcases R1 with q | q
      · have := q.2; omega
      · exact q.1 rfl
    have y0 : ¬ y = -1 := fun z => by
      rw [z] at up
      cases n with
      | zero => have up : (-1 : Int) = u := up; exact un up.symm
      | succ n => exact up.1 rfl
    obtain ⟨b2, j2, q1, q2, q3, q4⟩ := ih y (by omega) up
    have ck := chn_a C hk
    have cy : CHn nn g 16 y := by
      rcases ck with q | ⟨_, y2, q, q2⟩
      · exact absurd q k1
      · rw [Option.some.inj (sy.symm.trans q)]; exact q2
    -- from y within 16 steps
    have q16 : HSn nn g ω w c i 1 16 y b2 j2 := by
      have L : ∀ (m : Nat) (k u j : Int), CHn nn g m k → HSn nn g ω w c i 1 (m + 1) k u j → HSn nn g ω w c i 1 m k u j := by
        intro m
        induction m with
        | zero =>
          intro k u j C a
          have C : k = -1 := C
          rcases a with a | a
          · exact a.2
          · exact absurd C a.1
        | succ m ihm =>
          intro k u j C a
          rcases a with a | ⟨a1, a2⟩
          · exact .inl a
          · rcases a2 with a2 | ⟨p1, y, p2, p3⟩
            · exact .inr ⟨a1, .inl a2⟩
            · have C2 : CHn nn g m y := by
                rcases C with q | ⟨_, y', q, q2⟩
                · exact absurd q a1
                · rw [Option.some.inj (p2.symm.trans q)]; exact q2
              exact .inr ⟨a1, .inr ⟨p1, y, p2, ihm _ _ _ C2 p3⟩⟩
      exact L 16 y b2 j2 cy q1
    by_cases has : 8 ≤ k ∧ ∃ l : Int, 0 ≤ l ∧ l < mem g (k - 8) 1 ∧ MTc g ω w c i 1 (k - 8) l
    · -- the first of them
      obtain ⟨k8, l0, l1, l2, l3⟩ := has
      have F : ∀ (n : Nat) (l : Int), l.toNat = n → 0 ≤ l → l < mem g (k - 8) 1 → MTc g ω w c i 1 (k - 8) l → ∃ l : Int, (0 ≤ l ∧ l < mem g (k - 8) 1) ∧ MTc g ω w c i 1 (k - 8) l ∧ ∀ m : Int, 0 ≤ m → m < l → ¬ MTc g ω w c i 1 (k - 8) m := by
        intro n
        induction n using Nat.strongRecOn with
        | _ n ihn =>
          intro l el a0 a1 a2
          by_cases y : ∃ m : Int, 0 ≤ m ∧ m < l ∧ MTc g ω w c i 1 (k - 8) m
          · obtain ⟨m, m0, m1, m2⟩ := y
            exact ihn m.toNat (by omega) m rfl m0 (by omega) m2
          · exact ⟨l, ⟨a0, a1⟩, a2, fun m m0 m1 m2 => y ⟨m, m0, m1, m2⟩⟩
      obtain ⟨l, lb, lm, lf⟩ := F _ l0 rfl l1 l2 l3
      refine ⟨k, l, .inr ⟨k1, .inl ⟨k8, rfl, lb, lm, lf⟩⟩, ⟨⟨k8, hk.2⟩, lb⟩, ?_⟩
      have ov := (C k k8 hk.2).2.2.2 l lb.1 lb.2 y b2 j2 sy (hsn_eq (eqt_sy lm) _ _ _ _ q1) (by omega)
      refine ⟨eqt_tr (eqt_sy ov.1) q3, ?_⟩
      have W := O (k - 8) (by omega) (by omega)
      obtain ⟨_, b3, mt⟩ := wi_mt W (by omega) (k := l) lb
      obtain ⟨q, _, mt⟩ := mt
      have f1 : ω (k - 8) 238 (g 235 (12 * (k - 8) + l).toNat).toNat ≤ 1 := mt.1
      have f0 := (gA_238 W.1 (g 235 (12 * (k - 8) + l).toNat).toNat (by have := gA_235 V (12 * (k - 8) + l).toNat (by omega); omega)).1
      have := ov.2.2
      omega
    · exact ⟨b2, j2, .inr ⟨k1, .inr ⟨fun k8 l l0 l1 l2 => has ⟨k8, l, l0, l1, l2⟩, y, sy, q16⟩⟩, q2, q3, q4⟩
end

/- THE REFERENCE LOADS AN IMAGE -/
section
variable {nn : Nat} {h r g M M2 : ms_M} {c : Int} {B : Nat → Int} {n : Nat}
theorem tb_k (hc : 0 ≤ c ∧ c ≤ 7) (A : ∀ x k : Nat, TAB c x k → M2 x k = M x k) (e6 : ∀ k : Nat, 6000 * c ≤ (k : Int) → (k : Int) < 6000 * c + 6000 → M2 226 k = M 226 k) (e7 : M2 227 c.toNat = M 227 c.toNat) (X : TBr c n B M) : TBr c n B M2 := by
  unfold TAB at A
  obtain ⟨⟨s1, s2, s3, s4⟩, ⟨x1, x2, x3, x4⟩, p, q, zk, y, ⟨e30, e31⟩, ⟨e32, F⟩, e34, G⟩ := X
  have b12 : B (p + 2) ≤ 12 := by
    have z := y.2.2.1
    unfold fs_S at z
    obtain ⟨w, hw, -⟩ := bd_inr z
    exact (up_Tt (by_le hw).2.2).2
  have q12 : B q ≤ 12 := by
    have z := y.2.2.2
    unfold mm_S at z
    obtain ⟨w, hw, -⟩ := bd_inr z
    exact (up_Tt (by_le hw).2.2).2
  refine ⟨⟨by rw [e7]; exact s1, s2, fun i hi => by rw [e6 _ (by omega) (by omega)]; exact s3 i hi, s4⟩, ⟨by rw [A _ _ (by omega)]; exact x1, x2, fun k k1 k2 => by rw [A _ _ (by omega)]; exact x3 k k1 k2, x4⟩, p, q, zk, y, ⟨by rw [A _ _ (by omega)]; exact e30, by rw [A _ _ (by omega)]; exact e31⟩, ⟨by rw [A _ _ (by omega)]; exact e32, fun j j1 j2 => by rw [A _ _ (by omega)]; exact F j j1 j2⟩, by rw [A _ _ (by omega)]; exact e34, fun i hi => ?_⟩
  obtain ⟨a1, a2, a3, a4, a5, a6, a7, a8, a9⟩ := G i hi
  exact ⟨a1, a2, a3, a4, a5, a6, by rw [A _ _ (by omega)]; exact a7, by rw [A _ _ (by omega)]; exact a8, by rw [A _ _ (by omega)]; exact a9⟩
theorem im_tb (X : IMr c n B M) (e7 : M 227 c.toNat = (n : Int)) (e6 : ∀ i, i < n → M 226 (6000 * c.toNat + i) = B i) : TBr c n B M := by
  obtain ⟨⟨t1, t2, t3, t4, t5⟩, y⟩ := X
  exact ⟨⟨e7, t1.2.2.2.1, e6, t1.2.2.2.2.2.2⟩, ⟨t2, t3, t4, t5⟩, y⟩
theorem al_at {p : Nat → Bool} : ∀ (m i : Nat), al_N p i m = true → ∀ j, i ≤ j → j < i + m → p j = true := by
  intro m
  induction m with
  | zero => intro i _ j h1 h2; omega
  | succ m ih =>
    intro i e j h1 h2
    unfold al_N at e
    rw [Bool.and_eq_true] at e
    by_cases q : j = i
    · rw [q]; exact e.1
    · exact ih (i + 1) e.2 j (by omega) (by omega)
theorem np_32 {j : Nat} {x : Int} (e : np_N j x = true) : ¬ x = 32 := by
  intro z
  rw [z] at e
  unfold np_N lt_N at e
  rw [Bool.or_eq_true, Bool.and_eq_true] at e
  rcases e with e | e
  · exact absurd e (by decide)
  · exact absurd e.2 (by decide)
theorem nm_32 {f : Nat → Int} {m : Nat} (e : nm_N f m = true) : ∀ i, i < m → ¬ f i = 32 := by
  unfold nm_N at e
  rw [Bool.and_eq_true] at e
  intro i hi
  exact np_32 (al_at m 0 e.2 i (Nat.zero_le _) (by omega))
/-- rows 226, 227 and the numbers of the space may change -/
theorem imr_z (F : ∀ x k, x ≠ 160 → x ≠ 226 ∧ x ≠ 227 → M2 x k = M x k) (F0 : ∀ k, k ≠ 98 ∧ k ≠ 99 ∧ k ≠ 138 → M2 160 k = M 160 k) (X : IMr c n B M) : IMr c n B M2 := by
  obtain ⟨⟨t1, t2, t3, t4, t5⟩, p, q, zk, y, ⟨e30, e31⟩, ⟨e32, FA⟩, e34, G⟩ := X
  refine ⟨⟨er_k (F0 _ (by decide)) (F0 _ (by decide)) (fun i => F _ _ (by decide) (by decide)) (F _ _ (by decide) (by decide)) t1, by rw [F _ _ (by decide) (by decide)]; exact t2, t3, fun k k1 k2 => by rw [F _ _ (by decide) (by decide)]; exact t4 k k1 k2, t5⟩, p, q, zk, y, ⟨by rw [F _ _ (by decide) (by decide)]; exact e30, by rw [F _ _ (by decide) (by decide)]; exact e31⟩, ⟨by rw [F _ _ (by decide) (by decide)]; exact e32, fun j j1 j2 => by rw [F _ _ (by decide) (by decide)]; exact FA j j1 j2⟩, by rw [F _ _ (by decide) (by decide)]; exact e34, fun i hi => ?_⟩
  obtain ⟨a1, a2, a3, a4, a5, a6, a7, a8, a9⟩ := G i hi
  exact ⟨a1, a2, a3, a4, a5, a6, by rw [F _ _ (by decide) (by decide)]; exact a7, by rw [F _ _ (by decide) (by decide)]; exact a8, by rw [F _ _ (by decide) (by decide)]; exact a9⟩
/-- its tables of the space are as they were -/
def KPs (Bf : Nat → Nat → Int) (nf : Nat → Nat) (h r : ms_M) : Prop := r 160 98 = h 160 98 ∧ r 160 99 = h 160 99 ∧ r 160 138 = h 160 138 ∧ ∀ k : Nat, (k : Int) < h 160 98 → TBr (k : Int) (nf k) (Bf k) r
/-- THE REFERENCE'S LOADED -/
theorem r_loaded (hn : 1000000 ≤ nn) {Bf : Nat → Nat → Int} {nf : Nat → Nat} (V : VS_ h) (hs : h 160 113 = (n : Int) ∧ n ≤ 6000) (h8 : ∀ i, h 238 i = B i) (hB : ∀ i, i < n → 0 ≤ B i ∧ B i ≤ 255) (S : ∀ k : Nat, (k : Int) < h 160 98 → TBr (k : Int) (nf k) (Bf k) h) : Pc (qf_X13_loaded nn h) (fun u => (∀ e, rdi_S B n = .inl e → u.1 = -2 - (e : Int) ∧ KPs Bf nf h u.2) ∧ ∀ q, rdi_S B n = .inr q → (h 160 98 = 8 → u.1 = -1 ∧ KPs Bf nf h u.2) ∧ (h 160 98 < 8 → ∃ v, CNo Bf nf (h 160 98) (fun i => B (na_S B n (own_S B n) + i)) (tl_S B n (own_S B n)) v ∧ (¬ v = -1 → u.1 = -1 ∧ KPs Bf nf h u.2) ∧ (v = -1 → u.1 = 8 + h 160 98 ∧ u.2 160 98 = h 160 98 + 1 ∧ u.2 160 99 = 0 ∧ u.2 160 138 = 0 ∧ TBr (h 160 98) n B u.2 ∧ ∀ k : Nat, (k : Int) < h 160 98 → TBr (k : Int) (nf k) (Bf k) u.2))) := by
  have g98 := gF_160_98 V
  have c256 := vi_c V
  unfold qf_X13_loaded
  refine pc_if (fun C => ?_) (fun C => ?_)
  · refine pc_se ?_; intro u4 e4
    have RF := r_scan (B := B) (n := n) hn (c := h 160 98) (by omega) hs h8 (by omega) hB _ e4
    obtain ⟨⟨V4, N4, -⟩, -⟩ := okof (sr_scan hn (c := h 160 98) (by omega) V) e4
    have e98 : u4 160 98 = h 160 98 := N4 160 98 (by omega) (by omega) (by omega) (by omega)
    have S4 : ∀ k : Nat, (k : Int) < h 160 98 → TBr (k : Int) (nf k) (Bf k) u4 := fun k hk => by
      refine tb_k (by omega) (fun x j T => ?_) (fun j j1 j2 => N4 _ _ (by omega) (by omega) (by omega) (by omega)) (N4 _ _ (by omega) (by omega) (by omega) (by omega)) (S k hk)
      unfold TAB at T
      exact N4 _ _ (by omega) (by omega) (by omega) (by omega)
    have K4 : KPs Bf nf h u4 := ⟨e98, N4 160 99 (by omega) (by omega) (by omega) (by omega), N4 160 138 (by omega) (by omega) (by omega) (by omega), S4⟩
    have g114 := gF_160_114 V4
    refine pc_if (fun D => ?_) (fun D => ?_)
    · have good : ∃ q, rdi_S B n = .inr q := by
        cases z : rdi_S B n with
        | inl e =>
          have := RF.1; rw [z] at this
          exact absurd D (rs_l this)
        | inr q => exact ⟨q, rfl⟩
      obtain ⟨q0, z0⟩ := good
      have X := RF.2 q0 z0
      have nol : ∀ {P : Prop} {e : Nat}, rdi_S B n = .inl e → P := fun he => by rw [z0] at he; cases he
      -- the name
      have X2 := X
      obtain ⟨⟨t1, t2, t3, t4, t5⟩, p, q, zk, ⟨y1, y2, -, -⟩, ⟨e30, e31⟩, -⟩ := X2
      have a1 := by_le y1
      have n1 : own_S B n = pt_S B n (B p) 0 := by unfold own_S; rw [zk]
      have w1 := pc_tx (p := p) zk t3.1 a1.2.2
      rw [← n1] at w1
      have c1 : tg_S B n (B p) = 3 := by
        have z := a1.2.2; unfold pc_S cl_S at z; rw [Bool.and_eq_true, decide_eq_true_iff] at z; exact z.1
      have k1 := tg_in (B := B) (n := n) (k := B p) (by omega)
      have k2 := tg_in (B := B) (n := n) (k := own_S B n) (by omega)
      have kv1 := t5 (B p) k1.1 k1.2.1
      have kv1b := kv1.2.2.1 (by omega)
      have kv2 := t5 (own_S B n) k2.1 k2.2.1
      have kv2b := kv2.2.1 (by omega)
      have L : ∀ i, u4 238 i = B i := t1.2.2.2.2.1
      rw [e98]
      have hc : 0 ≤ h 160 98 ∧ h 160 98 ≤ 7 := by omega
      refine pc_xl ?_; intro v8 e8
      rw [oq_mul_eq (by omega) (by omega) (by omega)] at e8
      refine pc_xl ?_; intro v12 e12
      rw [oq_mul_eq (by omega) (by omega) (by omega)] at e12
      refine pc_rA ?_; intro i1 i2 v15 e15
      rw [e30] at e15
      refine pc_add (by omega) ?_; intro v16 e16
      refine pc_rA ?_; intro j1 j2 v17 e17
      have e17 : v17 = (pl_S B n (B p) : Int) := by
        rw [e17, show v16.toNat = (256 * h 160 98 + B p).toNat by omega]; exact t4 _ k1.1 k1.2.1
      refine pc_add (by omega) ?_; intro v18 e18
      refine pc_rA ?_; intro l1 l2 v19 e19
      have e19 : v19 = own_S B n := by
        rw [e19, L, n1]; unfold pt_S; congr 1; omega
      refine pc_add (by omega) ?_; intro v20 e20
      refine pc_rA ?_; intro m1 m2 v21 e21
      have e21 : v21 = (pl_S B n (own_S B n) : Int) := by
        rw [e21, show v20.toNat = (256 * h 160 98 + own_S B n).toNat by omega]; exact t4 _ k2.1 k2.2.1
      refine pc_add (by omega) ?_; intro v23 e23
      refine pc_add (by omega) ?_; intro v25 e25
      refine pc_rA ?_; intro o1 o2 v26 e26
      have e26 : v26 = (tl_S B n (own_S B n) : Int) := by
        rw [e26, L, show v25.toNat = pl_S B n (own_S B n) + 1 by omega]; exact kv2b.2.2.2
      rw [e26, show v23 = ((na_S B n (own_S B n) : Nat) : Int) by unfold na_S; omega]
      have RW : RWt u4 238 ((na_S B n (own_S B n) : Nat) : Int) (tl_S B n (own_S B n)) (fun i => B (na_S B n (own_S B n) + i)) := by
        refine ⟨by omega, by unfold na_S; omega, by omega, fun i hi => ?_⟩
        rw [Int.toNat_natCast]; exact L _
      have nm : nm_N (fun i => B (na_S B n (own_S B n) + i)) (tl_S B n (own_S B n)) = true := by
        have z := w1.2; unfold nm_S at z; rw [Bool.and_eq_true] at z; exact z.2
      refine pc_sv (P := CNo Bf nf (h 160 98) (fun i => B (na_S B n (own_S B n) + i)) (tl_S B n (own_S B n))) ?_ ?_
      · unfold qf_X13_classNamed
        have w := r_classNamed (nn := nn) (M := u4) (fun k hk => S4 k (by omega)) (by omega) RW (nm_32 nm) nn 0 (fun j _ hj => absurd hj (Nat.not_lt_zero j)) (fun j hj => absurd hj (Nat.not_lt_zero _)) (by omega)
        rw [e98] at w
        exact w
      · intro u28 q28
        refine pc_if (fun y => ?_) (fun y => ?_)
        · refine pc_se ?_; intro u31 e31b
          obtain ⟨QI, a31⟩ := okof (nm_install hn hc V4) e31b
          obtain ⟨qi1, qi2, qi3, qi4⟩ := QI
          refine pc_xl ?_; intro v33 e33
          refine pc_xl ?_; intro h34 e34
          refine pc_xl ?_; intro h35 e35
          refine pc_xl ?_; intro h36 e36
          have W : ∀ x k, x ≠ 160 → h36 x k = u31.2 x k := fun x k a => by rw [e36, up_n (fun y => a y.1), e35, up_n (fun y => a y.1), e34, up_n (fun y => a y.1)]
          have n98 : u31.2 160 98 = h 160 98 := by rw [qi2 160 98 (by omega) (by omega)]; exact e98
          rw [n98, oq_add_eq (by omega) (by omega) (by omega)] at e33
          refine pc_ret ⟨fun e he => nol he, fun q hq => ⟨fun h8 => absurd h8 C, fun lt => ⟨u28, q28, fun z => absurd y z, fun _ => ⟨a31, ?_, ?_, ?_, ?_, fun k hk => ?_⟩⟩⟩⟩
          · show h36 160 98 = _
            rw [e36, up_n (by omega), e35, up_n (by omega), e34, up_s]; exact e33
          · show h36 160 99 = 0
            rw [e36, up_n (by omega), e35, up_s]
          · show h36 160 138 = 0
            rw [e36, up_s]
          · refine im_tb (M := h36) ?_ ?_ (fun i hi => ?_)
            · have ez : ∀ x k : Nat, x ≠ 160 → ¬ (x = 226 ∧ 6000 * h 160 98 ≤ (k : Int) ∧ (k : Int) < 6000 * h 160 98 + 6000) → ¬ (x = 227 ∧ (k : Int) = h 160 98) → h36 x k = u4 x k := fun x k a b d => by rw [W x k a]; exact qi2 x k b d
              refine imr_z (fun x k a b => ?_) (fun k a => ?_) X
              · exact ez x k a (by omega) (by omega)
              · rw [e36, up_n (by omega), e35, up_n (by omega), e34, up_n (by omega)]; exact qi2 160 k (by omega) (by omega)
            · try dsimp only
              rw [W _ _ (by decide), qi4, t1.2.2.1]
            · try dsimp only
              rw [W _ _ (by decide), qi3 i (by rw [t1.2.2.1]; omega), L]
          · refine tb_k (by omega) (fun x j T => ?_) (fun j j1 j2 => ?_) ?_ (S4 k hk)
            · unfold TAB at T
              try dsimp only
              rw [W _ _ (by omega)]; exact qi2 _ _ (by omega) (by omega)
            · try dsimp only
              rw [W _ _ (by decide)]; exact qi2 _ _ (by omega) (by omega)
            · try dsimp only
              rw [W _ _ (by decide)]; exact qi2 _ _ (by omega) (by omega)
        · unfold qj_X13_loaded_138
          exact pc_ret ⟨fun e he => nol he, fun q hq => ⟨fun h8 => absurd h8 C, fun lt => ⟨u28, q28, fun _ => ⟨rfl, K4⟩, fun z => absurd z y⟩⟩⟩
    · refine pc_sub (by omega) ?_; intro v39 e39
      have bad : ∃ e, rdi_S B n = .inl e := by
        cases z : rdi_S B n with
        | inl e => exact ⟨e, rfl⟩
        | inr q =>
          have := RF.1; rw [z] at this
          exact absurd this D
      obtain ⟨e0, z0⟩ := bad
      have w := RF.1
      rw [z0] at w
      have w : u4 160 114 = (e0 : Int) := w
      refine pc_ret ⟨fun e he => ?_, fun q hq => by rw [z0] at hq; cases hq⟩
      rw [z0] at he; cases he
      exact ⟨by show v39 = _; omega, K4⟩
  · have C : h 160 98 = 8 := Decidable.not_not.1 C
    refine pc_se ?_; intro u42 e42
    obtain ⟨V42, N42, T42⟩ := okof (as_aside hn (c := 7) (by omega) V) e42
    refine pc_se ?_; intro u44 e44
    have RF := r_scan (B := B) (n := n) hn (c := 7) (M := u42) (by omega) ⟨by rw [N42 _ _ (by decide)]; exact hs.1, hs.2⟩ (fun i => by rw [N42 _ _ (by decide)]; exact h8 i) (by have := vi_c V42; omega) hB _ e44
    obtain ⟨⟨V44, N44, -⟩, -⟩ := okof (sr_scan hn (c := 7) (by omega) V42) e44
    have T44 : TBk u44 h 7 := by
      have e : ∀ k : Nat, u44 239 k = u42 239 k := fun k => N44 239 k (by omega) (by omega) (by omega) (by omega)
      refine ⟨fun i hi => by rw [e]; exact T42.1 i hi, ?_, fun j hj => by rw [e, e, e, e]; exact T42.2.2 j hj⟩
      unfold TB2
      rw [e, e, e, e, e]; exact T42.2.1
    refine pc_se ?_; intro u47 e47
    obtain ⟨V47, A, B7⟩ := okof (ag_again hn (c := 7) (by omega) V44 V T44) e47
    have W : SW h u47 := fun x k w1 w2 w3 => by
      by_cases y : TAB 7 x k
      · exact B7 x k y
      · rw [A x k y, N44 x k (by omega) (fun z => y (.inl z)) (fun z => y (.inr (.inl z))) (fun z => y (.inr (.inr z)))]
        exact N42 x k w3
    have q : ∀ j : Nat, j = 98 ∨ j = 99 ∨ j = 138 → u47 160 j = h 160 j := fun j hj => by
      rw [A 160 j (by unfold TAB; omega), N44 160 j (by omega) (by omega) (by omega) (by omega)]
      exact N42 160 j (by decide)
    have K : KPs Bf nf h u47 := ⟨q 98 (by omega), q 99 (by omega), q 138 (by omega), fun k hk => tb_k (by omega) (fun x j T => W x j (by unfold TAB at T; omega) (by unfold TAB at T; omega) (by unfold TAB at T; omega)) (fun j _ _ => W _ _ (by decide) (by decide) (by decide)) (W _ _ (by decide) (by decide) (by decide)) (S k hk)⟩
    have g114 := gF_160_114 V44
    refine pc_if (fun D => pc_ret ⟨fun e he => ?_, fun x hx => ⟨fun _ => ⟨rfl, K⟩, fun lt => by omega⟩⟩) (fun D => ?_)
    · have := RF.1; rw [he] at this
      exact absurd D (rs_l this)
    · refine pc_sub (by omega) ?_; intro v48 e48
      refine pc_ret ⟨fun e he => ?_, fun x hx => ?_⟩
      · have w := RF.1; rw [he] at w
        have w : u44 160 114 = (e : Int) := w
        exact ⟨by show v48 = _; omega, K⟩
      · have w := RF.1; rw [hx] at w
        exact absurd w D
end

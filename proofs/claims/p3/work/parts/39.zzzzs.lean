section
variable {nn : Nat} {h g r z w v x : ms_M} {c d e k : Int} {ω : Int → ms_M}
theorem rt_name (V : VS_ h) (hc : 0 ≤ c ∧ c ≤ 7) (W : WI h c (ω c)) {k s : Int} (hk : 0 ≤ k ∧ k < mem h c s) : Ok_ (qf_X13_nameText nn c k s h) (fun u => u = nmT h ω c s k ∧ TS 0 (ω c) c u) := by
  refine ok_im (ok_both (P := fun u => u = nmT h ω c s k) ?_ (rv_name V hc W hk)) (fun _ q => q)
  unfold qf_X13_nameText
  refine ok_if (fun C => ?_) (fun C => ?_)
  · rw [show mem h c s = h 232 c.toNat from if_pos C] at hk
    obtain ⟨k12, e, p, t0, t1⟩ := wi_fd W hc hk
    have g3 := gF_160_113 W.1
    refine ok_mul (by omega) ?_; intro v2 e2
    refine ok_add (by omega) ?_; intro v3 e3
    refine ok_rd (by omega) (gA_233 V) ?_; intro v4 e4 _ _
    rw [e3, e2] at e4
    rw [← e4] at p
    refine ok_sv (rv_byte V hc (by omega)) ?_; intro u6 P6
    refine ok_ret ?_
    rw [nmT, if_pos C, P6.1, W.2.2.1 v4 (by omega) (by omega), e4]
  · rw [show mem h c s = h 234 c.toNat from if_neg C] at hk
    obtain ⟨k12, b, m⟩ := wi_mt W hc hk
    refine ok_mul (by omega) ?_; intro v8 e8
    refine ok_add (by omega) ?_; intro v9 e9
    refine ok_rd (by omega) (gA_235 V) ?_; intro v10 e10 _ _
    rw [e9, e8] at e10
    rw [← e10] at b
    refine ok_add (by omega) ?_; intro v11 e11
    refine ok_sv (rv_byte V hc (by omega)) ?_; intro u13 P13
    refine ok_ret ?_
    rw [nmT, if_neg C, P13.1, W.2.2.1 v11 (by omega) (by omega), e11, e10]
theorem rt_kind (V : VS_ h) (hc : 0 ≤ c ∧ c ≤ 7) (W : WI h c (ω c)) {k s : Int} (hk : 0 ≤ k ∧ k < mem h c s) : Ok_ (qf_X13_kindText nn c k s h) (fun u => u = kdT h ω c s k ∧ (s = 0 → TS 1 (ω c) c u) ∧ (¬ s = 0 → TS 2 (ω c) c u)) := by
  refine ok_im (ok_both (rv_kindv V hc W hk) (rv_kind V hc W hk)) (fun u q => ⟨?_, q.2⟩)
  by_cases C : s = 0
  · rw [kdT, if_pos C]; exact q.1.1 C
  · rw [kdT, if_neg C]; exact q.1.2 C
theorem hsn_det {i s : Int} : ∀ (m : Nat) (k u j u2 j2 : Int), HSn nn h ω w c i s m k u j → HSn nn h ω w c i s m k u2 j2 → u = u2 ∧ (¬ u = -1 → j = j2) := by
  intro m
  induction m with
  | zero => intro k u j u2 j2 a b; have a : u = -1 := a; have b : u2 = -1 := b; exact ⟨by omega, fun y => absurd a y⟩
  | succ m ih =>
    intro k u j u2 j2 a b
    rcases a with ⟨a1, a2⟩ | ⟨a1, a2⟩ <;> rcases b with ⟨b1, b2⟩ | ⟨b1, b2⟩
    · exact ⟨by omega, fun y => absurd a2 y⟩
    · exact absurd a1 b1
    · exact absurd b1 a1
    · rcases a2 with ⟨p1, p2, p3, p4, p5⟩ | ⟨p1, y, p2, p3⟩ <;> rcases b2 with ⟨q1, q2, q3, q4, q5⟩ | ⟨q1, y2, q2, q3⟩
      · refine ⟨by omega, fun _ => ?_⟩
        by_cases l1 : j < j2
        · exact absurd p4 (q5 j p3.1 l1)
        · by_cases l2 : j2 < j
          · exact absurd q4 (p5 j2 q3.1 l2)
          · omega
      · exact absurd p4 (q1 p1 j p3.1 p3.2)
      · exact absurd q4 (p1 q1 j2 q3.1 q3.2)
      · rw [Option.some.inj (p2.symm.trans q2)] at p3
        exact ih _ _ _ _ _ p3 q3
/-- another text alike: found in the same place -/
theorem hsn_eq {i s i2 : Int} (E : EQT w c i v d i2) : ∀ (m : Nat) (k u j : Int), HSn nn h ω w c i s m k u j → HSn nn h ω v d i2 s m k u j := by
  intro m
  induction m with
  | zero => intro k u j a; exact a
  | succ m ih =>
    intro k u j a
    rcases a with a | ⟨a1, a2⟩
    · exact .inl a
    · rcases a2 with ⟨p1, p2, p3, p4, p5⟩ | ⟨p1, y, p2, p3⟩
      · exact .inr ⟨a1, .inl ⟨p1, p2, p3, eqt_tr p4 E, fun l l1 l2 q => p5 l l1 l2 (eqt_tr q (eqt_sy E))⟩⟩
      · exact .inr ⟨a1, .inr ⟨fun b l l1 l2 q => p1 b l l1 l2 (eqt_tr q (eqt_sy E)), y, p2, ih _ _ _ p3⟩⟩
theorem nmT_c (A : AGd h g) {s j : Int} : nmT g ω d s j = nmT h ω d s j := by
  unfold nmT
  rw [agd_f A (x := 233) (by decide) (by decide), agd_f A (x := 235) (by decide) (by decide)]
theorem kdT_c (A : AGd h g) {s j : Int} : kdT g ω d s j = kdT h ω d s j := by
  unfold kdT
  rw [agd_f A (x := 233) (by decide) (by decide), agd_f A (x := 235) (by decide) (by decide)]
theorem mem_c (A : AGd h g) {s : Int} : mem g d s = mem h d s := by
  unfold mem
  rw [agd_f A (x := 232) (by decide) (by decide), agd_f A (x := 234) (by decide) (by decide)]
theorem mtc_c (A : AGd h g) {i s j : Int} : MTc g ω w c i s d j = MTc h ω w c i s d j := by
  unfold MTc
  rw [nmT_c A]
theorem hsn_c (A : AGd h g) {i s : Int} : ∀ (m : Nat) (k u j : Int), HSn nn h ω w c i s m k u j → HSn nn g ω w c i s m k u j := by
  intro m
  induction m with
  | zero => intro k u j a; exact a
  | succ m ih =>
    intro k u j a
    rcases a with a | ⟨a1, a2⟩
    · exact .inl a
    · rcases a2 with ⟨p1, p2, p3, p4, p5⟩ | ⟨p1, y, p2, p3⟩
      · exact .inr ⟨a1, .inl ⟨p1, p2, by rw [mem_c A]; exact p3, by rw [mtc_c A]; exact p4, fun l l1 l2 => by rw [mtc_c A]; exact p5 l l1 l2⟩⟩
      · exact .inr ⟨a1, .inr ⟨fun b l l1 l2 => by rw [mtc_c A]; rw [mem_c A] at l2; exact p1 b l l1 l2, y, by rw [cd_super A]; exact p2, ih _ _ _ p3⟩⟩
/-- going up from k ends within n steps -/
def CHn (nn : Nat) (h : ms_M) : Nat → Int → Prop
  | 0, k => k = -1
  | n + 1, k => k = -1 ∨ (¬ k = -1 ∧ ∃ y : Int, qf_X13_superOf nn k h = some y ∧ CHn nn h n y)
theorem chn_c (A : AGd h g) : ∀ (n : Nat) (k : Int), CHn nn h n k → CHn nn g n k := by
  intro n
  induction n with
  | zero => intro k a; exact a
  | succ n ih =>
    intro k a
    rcases a with a | ⟨a, y, b, d⟩
    · exact .inl a
    · exact .inr ⟨a, y, by rw [cd_super A]; exact b, ih _ d⟩
/-- method m of class k goes with what it overrides -/
def OVR (nn : Nat) (h : ms_M) (ω : Int → ms_M) (k m : Int) : Prop := ∀ y u j : Int, qf_X13_superOf nn k h = some y → HSn nn h ω (ω (k - 8)) (k - 8) (nmT h ω (k - 8) 1 m) 1 17 y u j → ¬ u = -1 → EQT (ω (u - 8)) (u - 8) (kdT h ω (u - 8) 1 j) (ω (k - 8)) (k - 8) (kdT h ω (k - 8) 1 m) ∧ ¬ ω (u - 8) 238 (h 235 (12 * (u - 8) + j).toNat).toNat = 1 ∧ ¬ ω (k - 8) 238 (h 235 (12 * (k - 8) + m).toNat).toNat = 1
theorem ovr_c (A : AGd h g) {m : Int} (O : OVR nn h ω k m) : OVR nn g ω k m := fun y u j a b d => by
  rw [cd_super A] at a
  rw [nmT_c A] at b
  rw [kdT_c A, kdT_c A, agd_f A (x := 235) (by decide) (by decide)]
  exact O y u j a (hsn_c (agd_sy A) _ _ _ _ b) d
theorem kaf_c (A : AGd h g) (K : KAF nn h c w) : KAF nn g c w := ⟨fun j a b => by
    rw [agd_f A (x := 232) (by decide) (by decide)] at b
    rw [agd_f A (x := 233) (by decide) (by decide)]
    exact kf_c (agd_c A) (K.1 j a b), fun j a b => by
    rw [agd_f A (x := 234) (by decide) (by decide)] at b
    rw [agd_f A (x := 235) (by decide) (by decide)]
    exact mkf_c (agd_c A) (K.2 j a b)⟩
/-- class k is good -/
def CLK (nn : Nat) (h : ms_M) (ω : Int → ms_M) (k : Int) : Prop := (∃ y : Int, qf_X13_superOf nn k h = some y ∧ (0 ≤ y ∧ y < 8 + h 160 98)) ∧ CHn nn h 17 k ∧ KAF nn h (k - 8) (ω (k - 8)) ∧ ∀ m : Int, 0 ≤ m → m < h 234 (k - 8).toNat → OVR nn h ω k m
theorem clk_c (A : AGd h g) (C : CLK nn h ω k) : CLK nn g ω k := by
  obtain ⟨⟨y, a1, a2⟩, b, d, e⟩ := C
  refine ⟨⟨y, by rw [cd_super A]; exact a1, by rw [A.2.1]; exact a2⟩, chn_c A _ _ b, kaf_c A d, fun m m1 m2 => ovr_c A (e m m1 ?_)⟩
  rw [agd_f A (x := 234) (by decide) (by decide)] at m2
  exact m2
theorem agd_nz (N : NZ h g) : AGd h g := ⟨nz_k N, N 160 98 (by decide) (by decide) (by decide), N 900000 0 (by omega) (by decide) (by decide)⟩
theorem ct_204 (hn : 1000000 ≤ nn) (V : VS_ h) (S : SPD h) (OW : OM h ω) {k : Int} (hk : 8 ≤ k ∧ k < 8 + h 160 98) : ∀ (j : Nat) (l4 : Int) (g : ms_M), GC h g → (0 ≤ l4 ∧ l4 ≤ 255) → 256 - l4 < (j : Int) → Ok_ (qw_X13_classFits_204 nn j k (k - 8) l4 g) (fun u => CQ h u ∧ (¬ u.1 = 0 → ∀ m : Int, l4 ≤ m → m < h 234 (k - 8).toNat → OVR nn h ω k m)) := by
  have g98 := gF_160_98 V
  have hc : 0 ≤ k - 8 ∧ k - 8 ≤ 7 := by omega
  intro j
  induction j with
  | zero => intro l4 g G a hm; exfalso; omega
  | succ j ih =>
    intro l4 g G a hm
    obtain ⟨Vg, Ng, Og, e117⟩ := G
    have Ag : AGd h g := agd_nz Ng
    have OWg : OM g ω := om_k Ag OW
    have Wg : WI g (k - 8) (ω (k - 8)) := OWg (k - 8) (by omega) (by rw [Ag.2.1]; omega)
    have Sg : SPD g := nz_spd V Ng S
    have f98 : g 160 98 = h 160 98 := Ng 160 98 (by omega) (by decide) (by decide)
    unfold qw_X13_classFits_204
    refine ok_rd (by omega) (gA_234 Vg) ?_; intro v5 e5 _ _
    rw [Ag.1 234 _ (by decide) (by decide)] at e5
    refine ok_if (fun D => ok_ret ⟨⟨Vg, Ng, Og, .inl ⟨rfl, e117⟩⟩, fun _ m m1 m2 => by exfalso; omega⟩) (fun C => ?_)
    have lm : 0 ≤ l4 ∧ l4 < mem g (k - 8) 1 := by rw [show mem g (k - 8) 1 = g 234 (k - 8).toNat from rfl, Ag.1 234 _ (by decide) (by decide)]; omega
    obtain ⟨k12, bb, mm⟩ := wi_mt Wg hc (k := l4) lm
    obtain ⟨u7, E7, P7⟩ := rv_super hn Vg Sg (k := k) (by omega)
    rw [E7, mx_svs]
    refine ok_sv (rt_name Vg hc Wg (s := 1) (k := l4) lm) ?_; intro u9 P9
    refine ok_sv (rt_holder hn Vg Sg OWg hc Wg (s := 1) P7 P9.2.1) ?_; intro u11 P11
    obtain ⟨y, hs, P11⟩ := P11
    have tell : ∀ P : Prop, (∀ y2 u j : Int, y2 = u7 → HSn nn h ω (ω (k - 8)) (k - 8) (nmT h ω (k - 8) 1 l4) 1 17 y2 u j → u = u11.1 ∧ (¬ u = -1 → j = y)) := fun _ y2 u j q1 q2 => by
      rw [q1] at q2
      have hs2 := hsn_c (agd_sy Ag) _ _ _ _ hs
      rw [P9.1, nmT_c Ag] at hs2
      exact hsn_det _ _ _ _ _ _ q2 hs2
    rw [cd_super Ag] at E7
    have nxt : ∀ (u : Int × ms_M), OVR nn h ω k l4 → (CQ h u ∧ (¬ u.1 = 0 → ∀ m : Int, l4 + 1 ≤ m → m < h 234 (k - 8).toNat → OVR nn h ω k m)) → (CQ h u ∧ (¬ u.1 = 0 → ∀ m : Int, l4 ≤ m → m < h 234 (k - 8).toNat → OVR nn h ω k m)) := fun u o P => ⟨P.1, fun q m m1 m2 => by
      by_cases q0 : m = l4
      · rw [q0]; exact o
      · exact P.2 q m (by omega) m2⟩
    rcases P11 with ⟨p1, p2⟩ | ⟨p1, p2, p3⟩
    · rw [if_neg (show ¬ ¬ u11.1 = -1 by omega), p2]
      refine ok_add (by omega) ?_; intro v37 e37
      rw [e37]
      refine ok_im (ih (l4 + 1) g ⟨Vg, Ng, Og, e117⟩ (by omega) (by omega)) (fun u P => nxt u (fun y2 u2 j2 q1 q2 q3 => ?_) P)
      have := (tell True y2 u2 j2 (Option.some.inj (q1.symm.trans E7)) q2).1
      exfalso; omega
    · rw [if_pos (show ¬ u11.1 = -1 by omega)]
      refine ok_sub (by omega) ?_; intro v12 e12
      rw [← e12] at p2
      have hd : 0 ≤ v12 ∧ v12 ≤ 7 := by omega
      have X := OWg v12 (by omega) (by omega)
      have m12 : y < 12 := (wi_mt X hd (k := y) p2).1
      have V11 : VS_ u11.2 := by rw [p3]; exact wF_160_121 Vg (by omega)
      have N11 : NZ g u11.2 := fun x k w1 w2 w3 => by rw [p3, up_n (by omega)]
      have O11 : OI u11.2 := by rw [p3]; exact oi_f (by decide) Og
      have f117 : u11.2 160 117 = g 160 117 := by rw [p3, up_n (by omega)]
      have f121 : u11.2 160 121 = y := by rw [p3, up_s]
      have A1 : AGd h u11.2 := agd_tr Ag (agd_nz N11)
      have X11 : WI u11.2 v12 (ω v12) := wi_k (nz_k N11) X
      have W11 : WI u11.2 (k - 8) (ω (k - 8)) := wi_k (nz_k N11) Wg
      have p2' : 0 ≤ y ∧ y < mem u11.2 v12 1 := by rw [mem_c (agd_nz N11)]; exact p2
      have lm' : 0 ≤ l4 ∧ l4 < mem u11.2 (k - 8) 1 := by rw [mem_c (agd_nz N11)]; exact lm
      have bad : Ok_ (qj_X13_classFits_331 nn k u11.2) (fun u => CQ h u ∧ (¬ u.1 = 0 → ∀ m : Int, l4 ≤ m → m < h 234 (k - 8).toNat → OVR nn h ω k m)) := by
        unfold qj_X13_classFits_331
        refine ok_sv (rv_bad V11 O11 (by omega) (by omega) (by omega) (by omega)) ?_; intro u P
        exact ok_ck (.inl P.1) (ok_ret ⟨⟨P.2.1, nz_tr (nz_tr Ng N11) P.2.2.1, P.2.2.2.1, .inr ⟨P.1, by have := P.2.2.2.2; show u.2 160 117 ≤ _; omega⟩⟩, fun q => absurd P.1 q⟩)
      rw [f121]
      refine ok_sv (rt_kind V11 hd X11 (s := 1) (k := y) p2') ?_; intro u15 P15
      refine ok_sv (rt_kind V11 hc W11 (s := 1) (k := l4) lm') ?_; intro u17 P17
      refine ok_sv (rt_same hn V11 hd hc X11 W11 (P15.2.2 (by decide)).1 (P17.2.2 (by decide)).1) ?_; intro u19 P19
      refine ok_if (fun _ => bad) (fun ne => ?_)
      have eq : EQT (ω v12) v12 (kdT h ω v12 1 y) (ω (k - 8)) (k - 8) (kdT h ω (k - 8) 1 l4) := by
        rcases P19 with P | P
        · have q := P.2
          rw [P15.1, P17.1, kdT_c A1, kdT_c A1] at q
          exact q
        · exact absurd P.1 ne
      obtain ⟨_, b2, _⟩ := wi_mt X11 hd (k := y) p2'
      refine ok_mul (by omega) ?_; intro v21 e21
      refine ok_add (by omega) ?_; intro v23 e23
      refine ok_rd (by omega) (gA_235 V11) ?_; intro v24 e24 _ _
      rw [e23, e21] at e24
      rw [← e24] at b2
      refine ok_sv (mv_bytew V11 hd X11 (by omega)) ?_; intro u26 P26
      refine ok_if (fun _ => bad) (fun s1 => ?_)
      obtain ⟨_, b3, _⟩ := wi_mt W11 hc (k := l4) lm'
      refine ok_mul (by omega) ?_; intro v28 e28
      refine ok_add (by omega) ?_; intro v29 e29
      refine ok_rd (by omega) (gA_235 V11) ?_; intro v30 e30 _ _
      rw [e29, e28] at e30
      rw [← e30] at b3
      refine ok_sv (mv_bytew V11 hc W11 (by omega)) ?_; intro u32 P32
      refine ok_if (fun s2 => ?_) (fun _ => bad)
      refine ok_add (by omega) ?_; intro v33 e33
      rw [e33]
      refine ok_im (ih (l4 + 1) u11.2 ⟨V11, nz_tr Ng N11, O11, f117.trans e117⟩ (by omega) (by omega)) (fun u P => nxt u (fun y2 u2 j2 q1 q2 q3 => ?_) P)
      obtain ⟨t1, t2⟩ := tell True y2 u2 j2 (Option.some.inj (q1.symm.trans E7)) q2
      rw [t2 q3, show u2 - 8 = v12 by omega]
      refine ⟨eq, ?_, ?_⟩
      · rw [← A1.1 235 _ (by decide) (by decide), ← e24, ← P26.1]; exact s1
      · rw [← A1.1 235 _ (by decide) (by decide), ← e30, ← P32.1]; exact s2
theorem ct_77 (hn : 1000000 ≤ nn) (V : VS_ h) (S : SPD h) (OW : OM h ω) {k : Int} (hk : 8 ≤ k ∧ k < 8 + h 160 98) (G : GC h g) : ∀ (j : Nat) (l4 : Int), (0 ≤ l4 ∧ l4 ≤ 2) → 3 - l4 < (j : Int) → Ok_ (qw_X13_classFits_77 nn j k (k - 8) l4 g) (fun u => CQ h u ∧ (¬ u.1 = 0 → ∀ m : Int, 0 ≤ m → m < h 234 (k - 8).toNat → OVR nn h ω k m)) := by
  have g98 := gF_160_98 V
  have hc : 0 ≤ k - 8 ∧ k - 8 ≤ 7 := by omega
  have G0 := G
  obtain ⟨Vg, Ng, Og, e117⟩ := G
  have Wg : WI g (k - 8) (ω (k - 8)) := wi_k (nz_k Ng) (OW (k - 8) (by omega) (by omega))
  intro j
  induction j with
  | zero => intro l4 a hm; exfalso; omega
  | succ j ih =>
    intro l4 a hm
    unfold qw_X13_classFits_77
    refine ok_if (fun _ => ct_204 hn V S OW hk nn 0 g G0 (by omega) (by omega)) (fun C => ?_)
    have M : ∀ (s : Int), s = (if ¬ l4 = 1 then 0 else 1) → ∀ (l5 : Int), l5 = mem g (k - 8) s → l5 ≤ 12 → ∀ (m : Nat) (l6 : Int), (0 ≤ l6 ∧ l6 ≤ 255) → 256 - l6 < (m : Int) → Ok_ (qw_X13_classFits_109 nn (qw_X13_classFits_77 nn j) m k (k - 8) l4 l5 l6 g) (fun u => CQ h u ∧ (¬ u.1 = 0 → ∀ m : Int, 0 ≤ m → m < h 234 (k - 8).toNat → OVR nn h ω k m)) := by
      intro s es l5 p p12 m
      induction m with
      | zero => intro l6 q hm2; exfalso; omega
      | succ m ih2 =>
        intro l6 q hm2
        unfold qw_X13_classFits_109
        refine ok_if (fun _ => ?_) (fun D => ?_)
        · refine ok_add (by omega) ?_; intro v55 e55
          exact ih v55 (by omega) (by omega)
        · refine ok_add (by omega) ?_; intro v56 e56
          have I : ∀ (n : Nat) (l7 : Int), (0 ≤ l7 ∧ l7 ≤ 300) → 301 - l7 < (n : Int) → Ok_ (qw_X13_classFits_122 nn (qw_X13_classFits_77 nn j) (qw_X13_classFits_109 nn (qw_X13_classFits_77 nn j) m) n k (k - 8) l4 l5 l6 l7 g) (fun u => CQ h u ∧ (¬ u.1 = 0 → ∀ m : Int, 0 ≤ m → m < h 234 (k - 8).toNat → OVR nn h ω k m)) := by
            intro n
            induction n with
            | zero => intro l7 q2 hm3; exfalso; omega
            | succ n ih3 =>
              intro l7 q2 hm3
              unfold qw_X13_classFits_122
              refine ok_if (fun _ => ?_) (fun E => ?_)
              · refine ok_add (by omega) ?_; intro v52 e52
                exact ih2 v52 (by omega) (by omega)
              · have T : ∀ u50 : Int, TX (ω (k - 8)) (k - 8) u50 → Ok_ (qj_X13_classFits_165 nn (qw_X13_classFits_77 nn j) (qw_X13_classFits_109 nn (qw_X13_classFits_77 nn j) m) (qw_X13_classFits_122 nn (qw_X13_classFits_77 nn j) (qw_X13_classFits_109 nn (qw_X13_classFits_77 nn j) m) n) k (k - 8) l4 l5 l6 l7 s l7 (k - 8) (k - 8) u50 (k - 8) g) (fun u => CQ h u ∧ (¬ u.1 = 0 → ∀ m : Int, 0 ≤ m → m < h 234 (k - 8).toNat → OVR nn h ω k m)) := fun u50 t50 => by
                  unfold qj_X13_classFits_165
                  refine ok_sv (rv_name Vg hc Wg (s := s) (k := l7) (by omega)) ?_; intro u41 P41
                  refine ok_sv (rv_same hn Vg hc hc Wg Wg t50 P41.1) ?_; intro u43 _
                  refine ok_if (fun _ => ?_) (fun _ => ?_)
                  · refine ok_add (by omega) ?_; intro v44 e44
                    exact ih3 v44 (by omega) (by omega)
                  · refine ok_sv (rv_bad Vg Og (by omega) (by omega) (by omega) (by omega)) ?_; intro u P
                    exact ok_ck (.inl P.1) (ok_ret ⟨⟨P.2.1, nz_tr Ng P.2.2.1, P.2.2.2.1, .inr ⟨P.1, by have := P.2.2.2.2; show u.2 160 117 ≤ _; omega⟩⟩, fun q => absurd P.1 q⟩)
                have T2 : Ok_ (qj_X13_classFits_146 nn (qw_X13_classFits_77 nn j) (qw_X13_classFits_109 nn (qw_X13_classFits_77 nn j) m) (qw_X13_classFits_122 nn (qw_X13_classFits_77 nn j) (qw_X13_classFits_109 nn (qw_X13_classFits_77 nn j) m) n) k (k - 8) l4 l5 l6 l7 s l6 (k - 8) (k - 8) g) (fun u => CQ h u ∧ (¬ u.1 = 0 → ∀ m : Int, 0 ≤ m → m < h 234 (k - 8).toNat → OVR nn h ω k m)) := by
                  unfold qj_X13_classFits_146
                  refine ok_sv (rv_name Vg hc Wg (s := s) (k := l6) (by omega)) ?_; intro u50 P50
                  refine ok_if (fun y => ?_) (fun y => ?_)
                  · rw [if_pos y] at es
                    rw [es] at T; exact T u50 P50.1
                  · rw [if_neg y] at es
                    rw [es] at T; exact T u50 P50.1
                refine ok_if (fun y => ?_) (fun y => ?_)
                · rw [if_pos y] at es
                  rw [es] at T2; exact T2
                · rw [if_neg y] at es
                  rw [es] at T2; exact T2
          exact I nn v56 (by omega) (by omega)
    have F := Wg.2.2.2.2.2.2.1.1
    have Mm := Wg.2.2.2.2.2.2.2.1
    refine ok_if (fun y => ?_) (fun y => ?_)
    · refine ok_rd (by omega) (gA_232 Vg) ?_; intro v59 e59 _ _
      exact M 0 (if_pos y).symm v59 (by rw [e59]; rfl) (by omega) nn 0 (by omega) (by omega)
    · refine ok_rd (by omega) (gA_234 Vg) ?_; intro v59 e59 _ _
      exact M 1 (if_neg y).symm v59 (by rw [e59]; rfl) (by omega) nn 0 (by omega) (by omega)
/-- a class's own check is safe, and tells -/
theorem cu_class (hn : 1000000 ≤ nn) (V : VS_ h) (S : SPD h) (OW : OM h ω) (O : OI h) (room : h 160 117 ≤ 2090) {k : Int} (hk : 8 ≤ k ∧ k < 8 + h 160 98) : Ok_ (qf_X13_classFits nn k h) (fun u => CQ h u ∧ (¬ u.1 = 0 → CLK nn h ω k)) := by
  have g98 := gF_160_98 V
  have hc : 0 ≤ k - 8 ∧ k - 8 ≤ 7 := by omega
  have W := OW (k - 8) (by omega) (by omega)
  unfold qf_X13_classFits
  refine ok_sub (by omega) ?_; intro v76 e76
  rw [e76]
  obtain ⟨u78, E78, P78⟩ := rv_super hn V S (k := k) (by omega)
  rw [E78, mx_svs]
  refine ok_if (fun _ => ?_) (fun ns => ?_)
  · unfold qj_X13_classFits_22
    refine ok_sv (rv_bad V O (by omega) (by omega) (by omega) (by omega)) ?_; intro u P
    exact ok_ck (.inl P.1) (ok_ret ⟨⟨P.2.1, P.2.2.1, P.2.2.2.1, .inr ⟨P.1, by have := P.2.2.2.2; show u.2 160 117 ≤ _; omega⟩⟩, fun q => absurd P.1 q⟩)
  refine ok_sv (ks_kinds hn V S O room hc W) ?_; intro u80 P80
  obtain ⟨P80, K80⟩ := P80
  refine ok_if (fun y => ?_) (fun _ => ?_)
  · obtain ⟨G1, e117⟩ := gk_1 P80 y
    have G : GC h u80.2 := ⟨G1.1, nz_ny G1.2.1, G1.2.2.1, e117⟩
    have S8 : SPD u80.2 := ny_spd V G1.2.1 S
    have A8 : AGd h u80.2 := agd_ny G1.2.1
    have f98 : u80.2 160 98 = h 160 98 := G1.2.1 160 98 (by decide) (by decide) (by decide)
    have L : ∀ (j : Nat) (n : Nat) (l3 l4 : Int), (-1 ≤ l3 ∧ l3 < 8 + u80.2 160 98) → 0 ≤ l4 → l4 + n = 17 → (n : Int) < j → Ok_ (qw_X13_classFits_36 nn j k (k - 8) l3 l4 u80.2) (fun u => CQ h u ∧ (¬ u.1 = 0 → CHn nn h n l3 ∧ ∀ m : Int, 0 ≤ m → m < h 234 (k - 8).toNat → OVR nn h ω k m)) := by
      intro j
      induction j with
      | zero => intro n l3 l4 a b b2 hm; exfalso; omega
      | succ j ih =>
        intro n l3 l4 a b b2 hm
        have J : Ok_ (qj_X13_classFits_60 nn k (k - 8) l3 u80.2) (fun u => CQ h u ∧ (¬ u.1 = 0 → l3 = -1 ∧ ∀ m : Int, 0 ≤ m → m < h 234 (k - 8).toNat → OVR nn h ω k m)) := by
          unfold qj_X13_classFits_60
          refine ok_if (fun q => ok_im (ct_77 hn V S OW hk G nn 0 (by omega) (by omega)) (fun u P => ⟨P.1, fun y => ⟨q, P.2 y⟩⟩)) (fun _ => ?_)
          refine ok_sv (rv_bad G.1 G.2.2.1 (by omega) (by omega) (by omega) (by omega)) ?_; intro u P
          exact ok_ck (.inl P.1) (ok_ret ⟨⟨P.2.1, nz_tr G.2.1 P.2.2.1, P.2.2.2.1, .inr ⟨P.1, by have := P.2.2.2.2; show u.2 160 117 ≤ _; omega⟩⟩, fun q => absurd P.1 q⟩)
        have J0 : l3 = -1 ∨ n = 0 → Ok_ (qj_X13_classFits_60 nn k (k - 8) l3 u80.2) (fun u => CQ h u ∧ (¬ u.1 = 0 → CHn nn h n l3 ∧ ∀ m : Int, 0 ≤ m → m < h 234 (k - 8).toNat → OVR nn h ω k m)) := fun q => ok_im J (fun u P => ⟨P.1, fun y => ⟨by
          cases n with
          | zero => exact (P.2 y).1
          | succ n => exact .inl (P.2 y).1, (P.2 y).2⟩⟩)
        unfold qw_X13_classFits_36
        refine ok_if (fun q => J0 (.inr (by omega))) (fun A => ?_)
        refine ok_if (fun q => J0 (.inl q)) (fun B => ?_)
        obtain ⟨u69, E69, P69⟩ := rv_super hn G1.1 S8 (k := l3) (by omega)
        rw [E69, mx_svs]
        refine ok_add (by omega) ?_; intro v70 e70
        cases n with
        | zero => exfalso; omega
        | succ n =>
        refine ok_im (ih n u69 v70 P69 (by omega) (by omega) (by omega)) (fun u P => ⟨P.1, fun y => ⟨.inr ⟨B, u69, ?_, (P.2 y).1⟩, (P.2 y).2⟩⟩)
        rw [← cd_super A8]; exact E69
    refine ok_im (L nn 17 k 0 (by omega) (by omega) (by omega) (by omega)) (fun u P => ⟨P.1, fun q => ⟨⟨u78, E78, by omega⟩, (P.2 q).1, K80 y, (P.2 q).2⟩⟩)
  · unfold qj_X13_classFits_22
    refine ok_sv (rv_bad P80.1 P80.2.2.1 (by omega) (by omega) (by omega) (by omega)) ?_; intro u P
    refine ok_ck (.inl P.1) (ok_ret ⟨⟨P.2.1, nz_tr (nz_ny P80.2.1) P.2.2.1, P.2.2.2.1, .inr ⟨P.1, ?_⟩⟩, fun q => absurd P.1 q⟩)
    have := P80.2.2.2
    have := P.2.2.2.2
    show u.2 160 117 ≤ _
    omega
end

section
section
variable {nn : Nat} {h g r z w v x : ms_M} {c d e k : Int} {ω : Int → ms_M}
theorem rt_name (V : VS_ h) (hc : 0 ≤ c ∧ c ≤ 7) (W : WI h c (ω c)) {k s : Int} (hk : 0 ≤ k ∧ k < mem h c s) : Ok_ (qf_X13_nameText nn c k s h) (fun u => u = nmT h ω c s k ∧ TS 0 (ω c) c u) := by
  refine ok_im (ok_both (P := fun u => u = nmT h ω c s k) ?_ (rv_name V hc W hk)) (fun _ q => q)
  unfold qf_X13_nameText
  refine ok_if (fun C => ?_) (fun C => ?_)
  · rw [show mem h c s = h 232 c.toNat from if_pos C] at hk
    obtain ⟨k12, e, p, t0, t1⟩ := wi_fd W hc hk
    have g3 := gF_160_113 W.1
    refine ok_mul (by omega) ?_; intro v2 e2
    refine ok_add (by omega) ?_; intro v3 e3
    refine ok_rd (by omega) (gA_233 V) ?_; intro v4 e4 _ _
    rw [e3, e2] at e4
    rw [← e4] at p
    refine ok_sv (rv_byte V hc (by omega)) ?_; intro u6 P6
    refine ok_ret ?_
    rw [nmT, if_pos C, P6.1, W.2.2.1 v4 (by omega) (by omega), e4]
  · rw [show mem h c s = h 234 c.toNat from if_neg C] at hk
    obtain ⟨k12, b, m⟩ := wi_mt W hc hk
    refine ok_mul (by omega) ?_; intro v8 e8
    refine ok_add (by omega) ?_; intro v9 e9
    refine ok_rd (by omega) (gA_235 V) ?_; intro v10 e10 _ _
    rw [e9, e8] at e10
    rw [← e10] at b
    refine ok_add (by omega) ?_; intro v11 e11
    refine ok_sv (rv_byte V hc (by omega)) ?_; intro u13 P13
    refine ok_ret ?_
    rw [nmT, if_neg C, P13.1, W.2.2.1 v11 (by omega) (by omega), e11, e10]
theorem rt_kind (V : VS_ h) (hc : 0 ≤ c ∧ c ≤ 7) (W : WI h c (ω c)) {k s : Int} (hk : 0 ≤ k ∧ k < mem h c s) : Ok_ (qf_X13_kindText nn c k s h) (fun u => u = kdT h ω c s k ∧ (s = 0 → TS 1 (ω c) c u) ∧ (¬ s = 0 → TS 2 (ω c) c u)) := by
  refine ok_im (ok_both (rv_kindv V hc W hk) (rv_kind V hc W hk)) (fun u q => ⟨?_, q.2⟩)
  by_cases C : s = 0
  · rw [kdT, if_pos C]; exact q.1.1 C
  · rw [kdT, if_neg C]; exact q.1.2 C
theorem hsn_det {i s : Int} : ∀ (m : Nat) (k u j u2 j2 : Int), HSn nn h ω w c i s m k u j → HSn nn h ω w c i s m k u2 j2 → u = u2 ∧ (¬ u = -1 → j = j2) := by
  intro m
  induction m with
  | zero => intro k u j u2 j2 a b; have a : u = -1 := a; have b : u2 = -1 := b; exact ⟨by omega, fun y => absurd a y⟩
  | succ m ih =>
    intro k u j u2 j2 a b
    rcases a with ⟨a1, a2⟩ | ⟨a1, a2⟩ <;> rcases b with ⟨b1, b2⟩ | ⟨b1, b2⟩
    · exact ⟨by omega, fun y => absurd a2 y⟩
    · exact absurd a1 b1
    · exact absurd b1 a1
    · rcases a2 with ⟨p1, p2, p3, p4, p5⟩ | ⟨p1, y, p2, p3⟩ <;> rcases b2 with ⟨q1, q2, q3, q4, q5⟩ | ⟨q1, y2, q2, q3⟩
      · refine ⟨by omega, fun _ => ?_⟩
        by_cases l1 : j < j2
        · exact absurd p4 (q5 j p3.1 l1)
        · by_cases l2 : j2 < j
          · exact absurd q4 (p5 j2 q3.1 l2)
          · omega
      · exact absurd p4 (q1 p1 j p3.1 p3.2)
      · exact absurd q4 (p1 q1 j2 q3.1 q3.2)
      · rw [Option.some.inj (p2.symm.trans q2)] at p3
        exact ih _ _ _ _ _ p3 q3
/-- another text alike: found in the same place -/
theorem hsn_eq {i s i2 : Int} (E : EQT w c i v d i2) : ∀ (m : Nat) (k u j : Int), HSn nn h ω w c i s m k u j → HSn nn h ω v d i2 s m k u j := by
  intro m
  induction m with
  | zero => intro k u j a; exact a
  | succ m ih =>
    intro k u j a
    rcases a with a | ⟨a1, a2⟩
    · exact .inl a
    · rcases a2 with ⟨p1, p2, p3, p4, p5⟩ | ⟨p1, y, p2, p3⟩
      · exact .inr ⟨a1, .inl ⟨p1, p2, p3, eqt_tr p4 E, fun l l1 l2 q => p5 l l1 l2 (eqt_tr q (eqt_sy E))⟩⟩
      · exact .inr ⟨a1, .inr ⟨fun b l l1 l2 q => p1 b l l1 l2 (eqt_tr q (eqt_sy E)), y, p2, ih _ _ _ p3⟩⟩
theorem nmT_c (A : AGd h g) {s j : Int} : nmT g ω d s j = nmT h ω d s j := by
  unfold nmT
  rw [agd_f A (x := 233) (by decide) (by decide), agd_f A (x := 235) (by decide) (by decide)]
theorem kdT_c (A : AGd h g) {s j : Int} : kdT g ω d s j = kdT h ω d s j := by
  unfold kdT
  rw [agd_f A (x := 233) (by decide) (by decide), agd_f A (x := 235) (by decide) (by decide)]
theorem mem_c (A : AGd h g) {s : Int} : mem g d s = mem h d s := by
  unfold mem
  rw [agd_f A (x := 232) (by decide) (by decide), agd_f A (x := 234) (by decide) (by decide)]
theorem mtc_c (A : AGd h g) {i s j : Int} : MTc g ω w c i s d j = MTc h ω w c i s d j := by
  unfold MTc
  rw [nmT_c A]
theorem hsn_c (A : AGd h g) {i s : Int} : ∀ (m : Nat) (k u j : Int), HSn nn h ω w c i s m k u j → HSn nn g ω w c i s m k u j := by
  intro m
  induction m with
  | zero => intro k u j a; exact a
  | succ m ih =>
    intro k u j a
    rcases a with a | ⟨a1, a2⟩
    · exact .inl a
    · rcases a2 with ⟨p1, p2, p3, p4, p5⟩ | ⟨p1, y, p2, p3⟩
      · exact .inr ⟨a1, .inl ⟨p1, p2, by rw [mem_c A]; exact p3, by rw [mtc_c A]; exact p4, fun l l1 l2 => by rw [mtc_c A]; exact p5 l l1 l2⟩⟩
      · exact .inr ⟨a1, .inr ⟨fun b l l1 l2 => by rw [mtc_c A]; rw [mem_c A] at l2; exact p1 b l l1 l2, y, by rw [cd_super A]; exact p2, ih _ _ _ p3⟩⟩
/-- going up from k ends within n steps -/
def CHn (nn : Nat) (h : ms_M) : Nat → Int → Prop
  | 0, k => k = -1
  | n + 1, k => k = -1 ∨ (¬ k = -1 ∧ ∃ y : Int, qf_X13_superOf nn k h = some y ∧ CHn nn h n y)
theorem chn_c (A : AGd h g) : ∀ (n : Nat) (k : Int), CHn nn h n k → CHn nn g n k := by
  intro n
  induction n with
  | zero => intro k a; exact a
  | succ n ih =>
    intro k a
    rcases a with a | ⟨a, y, b, d⟩
    · exact .inl a
    · exact .inr ⟨a, y, by rw [cd_super A]; exact b, ih _ d⟩
/-- method m of class k goes with what it overrides -/
def OVR (nn : Nat) (h : ms_M) (ω : Int → ms_M) (k m : Int) : Prop := ∀ y u j : Int, qf_X13_superOf nn k h = some y → HSn nn h ω (ω (k - 8)) (k - 8) (nmT h ω (k - 8) 1 m) 1 17 y u j → ¬ u = -1 → EQT (ω (u - 8)) (u - 8) (kdT h ω (u - 8) 1 j) (ω (k - 8)) (k - 8) (kdT h ω (k - 8) 1 m) ∧ ¬ ω (u - 8) 238 (h 235 (12 * (u - 8) + j).toNat).toNat = 1 ∧ ¬ ω (k - 8) 238 (h 235 (12 * (k - 8) + m).toNat).toNat = 1
theorem ovr_c (A : AGd h g) {m : Int} (O : OVR nn h ω k m) : OVR nn g ω k m := fun y u j a b d => by
  rw [cd_super A] at a
  rw [nmT_c A] at b
  rw [kdT_c A, kdT_c A, agd_f A (x := 235) (by decide) (by decide)]
  exact O y u j a (hsn_c (agd_sy A) _ _ _ _ b) d
theorem kaf_c (A : AGd h g) (K : KAF nn h c w) : KAF nn g c w := ⟨fun j a b => by
    rw [agd_f A (x := 232) (by decide) (by decide)] at b
    rw [agd_f A (x := 233) (by decide) (by decide)]
    exact kf_c (agd_c A) (K.1 j a b), fun j a b => by
    rw [agd_f A (x := 234) (by decide) (by decide)] at b
    rw [agd_f A (x := 235) (by decide) (by decide)]
    exact mkf_c (agd_c A) (K.2 j a b)⟩
/-- class k is good -/
def CLK (nn : Nat) (h : ms_M) (ω : Int → ms_M) (k : Int) : Prop := (∃ y : Int, qf_X13_superOf nn k h = some y ∧ (0 ≤ y ∧ y < 8 + h 160 98)) ∧ CHn nn h 17 k ∧ KAF nn h (k - 8) (ω (k - 8)) ∧ ∀ m : Int, 0 ≤ m → m < h 234 (k - 8).toNat → OVR nn h ω k m
theorem clk_c (A : AGd h g) (C : CLK nn h ω k) : CLK nn g ω k := by
  obtain ⟨⟨y, a1, a2⟩, b, d, e⟩ := C
  refine ⟨⟨y, by rw [cd_super A]; exact a1, by rw [A.2.1]; exact a2⟩, chn_c A _ _ b, kaf_c A d, fun m m1 m2 => ovr_c A (e m m1 ?_)⟩
  rw [agd_f A (x := 234) (by decide) (by decide)] at m2
  exact m2
theorem agd_nz (N : NZ h g) : AGd h g := ⟨nz_k N, N 160 98 (by decide) (by decide) (by decide), N 900000 0 (by omega) (by decide) (by decide)⟩
theorem ct_204 (hn : 1000000 ≤ nn) (V : VS_ h) (S : SPD h) (OW : OM h ω) {k : Int} (hk : 8 ≤ k ∧ k < 8 + h 160 98) : ∀ (j : Nat) (l4 : Int) (g : ms_M), GC h g → (0 ≤ l4 ∧ l4 ≤ 255) → 256 - l4 < (j : Int) → Ok_ (qw_X13_classFits_204 nn j k (k - 8) l4 g) (fun u => CQ h u ∧ (¬ u.1 = 0 → ∀ m : Int, l4 ≤ m → m < h 234 (k - 8).toNat → OVR nn h ω k m)) := by
  have g98 := gF_160_98 V
  have hc : 0 ≤ k - 8 ∧ k - 8 ≤ 7 := by omega
  intro j
  induction j with
  | zero => intro l4 g G a hm; exfalso; omega
  | succ j ih =>
    intro l4 g G a hm
    obtain ⟨Vg, Ng, Og, e117⟩ := G
    have Ag : AGd h g := agd_nz Ng
    have OWg : OM g ω := om_k Ag OW
    have Wg : WI g (k - 8) (ω (k - 8)) := OWg (k - 8) (by omega) (by rw [Ag.2.1]; omega)
    have Sg : SPD g := nz_spd V Ng S
    have f98 : g 160 98 = h 160 98 := Ng 160 98 (by omega) (by decide) (by decide)
    unfold qw_X13_classFits_204
    refine ok_rd (by omega) (gA_234 Vg) ?_; intro v5 e5 _ _
    rw [Ag.1 234 _ (by decide) (by decide)] at e5
    refine ok_if (fun D => ok_ret ⟨⟨Vg, Ng, Og, .inl ⟨rfl, e117⟩⟩, fun _ m m1 m2 => by exfalso; omega⟩) (fun C => ?_)
    have lm : 0 ≤ l4 ∧ l4 < mem g (k - 8) 1 := by rw [show mem g (k - 8) 1 = g 234 (k - 8).toNat from rfl, Ag.1 234 _ (by decide) (by decide)]; omega
    obtain ⟨k12, bb, mm⟩ := wi_mt Wg hc (k := l4) lm
    obtain ⟨u7, E7, P7⟩ := rv_super hn Vg Sg (k := k) (by omega)
    rw [E7, mx_svs]
    refine ok_sv (rt_name Vg hc Wg (s := 1) (k := l4) lm) ?_; intro u9 P9
    refine ok_sv (rt_holder hn Vg Sg OWg hc Wg (s := 1) P7 P9.2.1) ?_; intro u11 P11
    obtain ⟨y, hs, P11⟩ := P11
    have tell : ∀ P : Prop, (∀ y2 u j : Int, y2 = u7 → HSn nn h ω (ω (k - 8)) (k - 8) (nmT h ω (k - 8) 1 l4) 1 17 y2 u j → u = u11.1 ∧ (¬ u = -1 → j = y)) := fun _ y2 u j q1 q2 => by
      rw [q1] at q2
      have hs2 := hsn_c (agd_sy Ag) _ _ _ _ hs
      rw [P9.1, nmT_c Ag] at hs2
      exact hsn_det _ _ _ _ _ _ q2 hs2
    rw [cd_super Ag] at E7
    have nxt : ∀ (u : Int × ms_M), OVR nn h ω k l4 → (CQ h u ∧ (¬ u.1 = 0 → ∀ m : Int, l4 + 1 ≤ m → m < h 234 (k - 8).toNat → OVR nn h ω k m)) → (CQ h u ∧ (¬ u.1 = 0 → ∀ m : Int, l4 ≤ m → m < h 234 (k - 8).toNat → OVR nn h ω k m)) := fun u o P => ⟨P.1, fun q m m1 m2 => by
      by_cases q0 : m = l4
      · rw [q0]; exact o
      · exact P.2 q m (by omega) m2⟩
    rcases P11 with ⟨p1, p2⟩ | ⟨p1, p2, p3⟩
    · rw [if_neg (show ¬ ¬ u11.1 = -1 by omega), p2]
      refine ok_add (by omega) ?_; intro v37 e37
      rw [e37]
      refine ok_im (ih (l4 + 1) g ⟨Vg, Ng, Og, e117⟩ (by omega) (by omega)) (fun u P => nxt u (fun y2 u2 j2 q1 q2 q3 => ?_) P)
      have := (tell True y2 u2 j2 (Option.some.inj (q1.symm.trans E7)) q2).1
      exfalso; omega
    · rw [if_pos (show ¬ u11.1 = -1 by omega)]
      refine ok_sub (by omega) ?_; intro v12 e12
      rw [← e12] at p2
      have hd : 0 ≤ v12 ∧ v12 ≤ 7 := by omega
      have X := OWg v12 (by omega) (by omega)
      have m12 : y < 12 := (wi_mt X hd (k := y) p2).1
      have V11 : VS_ u11.2 := by rw [p3]; exact wF_160_121 Vg (by omega)
      have N11 : NZ g u11.2 := fun x k w1 w2 w3 => by rw [p3, up_n (by omega)]
      have O11 : OI u11.2 := by rw [p3]; exact oi_f (by decide) Og
      have f117 : u11.2 160 117 = g 160 117 := by rw [p3, up_n (by omega)]
      have f121 : u11.2 160 121 = y := by rw [p3, up_s]
      have A1 : AGd h u11.2 := agd_tr Ag (agd_nz N11)
      have X11 : WI u11.2 v12 (ω v12) := wi_k (nz_k N11) X
      have W11 : WI u11.2 (k - 8) (ω (k - 8)) := wi_k (nz_k N11) Wg
      have p2' : 0 ≤ y ∧ y < mem u11.2 v12 1 := by rw [mem_c (agd_nz N11)]; exact p2
      have lm' : 0 ≤ l4 ∧ l4 < mem u11.2 (k - 8) 1 := by rw [mem_c (agd_nz N11)]; exact lm
      have bad : Ok_ (qj_X13_classFits_331 nn k u11.2) (fun u => CQ h u ∧ (¬ u.1 = 0 → ∀ m : Int, l4 ≤ m → m < h 234 (k - 8).toNat → OVR nn h ω k m)) := by
        unfold qj_X13_classFits_331
        refine ok_sv (rv_bad V11 O11 (by omega) (by omega) (by omega) (by omega)) ?_; intro u P
        exact ok_ck (.inl P.1) (ok_ret ⟨⟨P.2.1, nz_tr (nz_tr Ng N11) P.2.2.1, P.2.2.2.1, .inr ⟨P.1, by have := P.2.2.2.2; show u.2 160 117 ≤ _; omega⟩⟩, fun q => absurd P.1 q⟩)
      rw [f121]
      refine ok_sv (rt_kind V11 hd X11 (s := 1) (k := y) p2') ?_; intro u15 P15
      refine ok_sv (rt_kind V11 hc W11 (s := 1) (k := l4) lm') ?_; intro u17 P17
      refine ok_sv (rt_same hn V11 hd hc X11 W11 (P15.2.2 (by decide)).1 (P17.2.2 (by decide)).1) ?_; intro u19 P19
      refine ok_if (fun _ => bad) (fun ne => ?_)
      have eq : EQT (ω v12) v12 (kdT h ω v12 1 y) (ω (k - 8)) (k - 8) (kdT h ω (k - 8) 1 l4) := by
        rcases P19 with P | P
        · have q := P.2
          rw [P15.1, P17.1, kdT_c A1, kdT_c A1] at q
          exact q
        · exact absurd P.1 ne
      obtain ⟨_, b2, _⟩ := wi_mt X11 hd (k := y) p2'
      refine ok_mul (by omega) ?_; intro v21 e21
      refine ok_add (by omega) ?_; intro v23 e23
      refine ok_rd (by omega) (gA_235 V11) ?_; intro v24 e24 _ _
      rw [e23, e21] at e24
      rw [← e24] at b2
      refine ok_sv (mv_bytew V11 hd X11 (by omega)) ?_; intro u26 P26
      refine ok_if (fun _ => bad) (fun s1 => ?_)
      obtain ⟨_, b3, _⟩ := wi_mt W11 hc (k := l4) lm'
      refine ok_mul (by omega) ?_; intro v28 e28
      refine ok_add (by omega) ?_; intro v29 e29
      refine ok_rd (by omega) (gA_235 V11) ?_; intro v30 e30 _ _
      rw [e29, e28] at e30
      rw [← e30] at b3
      refine ok_sv (mv_bytew V11 hc W11 (by omega)) ?_; intro u32 P32
      refine ok_if (fun s2 => ?_) (fun _ => bad)
      refine ok_add (by omega) ?_; intro v33 e33
      rw [e33]
      refine ok_im (ih (l4 + 1) u11.2 ⟨V11, nz_tr Ng N11, O11, f117.trans e117⟩ (by omega) (by omega)) (fun u P => nxt u (fun y2 u2 j2 q1 q2 q3 => ?_) P)
      obtain ⟨t1, t2⟩ := tell True y2 u2 j2 (Option.some.inj (q1.symm.trans E7)) q2
      rw [t2 q3, show u2 - 8 = v12 by omega]
      refine ⟨eq, ?_, ?_⟩
      · rw [← A1.1 235 _ (by decide) (by decide), ← e24, ← P26.1]; exact s1
      · rw [← A1.1 235 _ (by decide) (by decide), ← e30, ← P32.1]; exact s2
theorem ct_77 (hn : 1000000 ≤ nn) (V : VS_ h) (S : SPD h) (OW : OM h ω) {k : Int} (hk : 8 ≤ k ∧ k < 8 + h 160 98) (G : GC h g) : ∀ (j : Nat) (l4 : Int), (0 ≤ l4 ∧ l4 ≤ 2) → 3 - l4 < (j : Int) → Ok_ (qw_X13_classFits_77 nn j k (k - 8) l4 g) (fun u => CQ h u ∧ (¬ u.1 = 0 → ∀ m : Int, 0 ≤ m → m < h 234 (k - 8).toNat → OVR nn h ω k m)) := by
  have g98 := gF_160_98 V
  have hc : 0 ≤ k - 8 ∧ k - 8 ≤ 7 := by omega
  have G0 := G
  obtain ⟨Vg, Ng, Og, e117⟩ := G
  have Wg : WI g (k - 8) (ω (k - 8)) := wi_k (nz_k Ng) (OW (k - 8) (by omega) (by omega))
  intro j
  induction j with
  | zero => intro l4 a hm; exfalso; omega
  | succ j ih =>
    intro l4 a hm
    unfold qw_X13_classFits_77
    refine ok_if (fun _ => ct_204 hn V S OW hk nn 0 g G0 (by omega) (by omega)) (fun C => ?_)
    have M : ∀ (s : Int), s = (if ¬ l4 = 1 then 0 else 1) → ∀ (l5 : Int), l5 = mem g (k - 8) s → l5 ≤ 12 → ∀ (m : Nat) (l6 : Int), (0 ≤ l6 ∧ l6 ≤ 255) → 256 - l6 < (m : Int) → Ok_ (qw_X13_classFits_109 nn (qw_X13_classFits_77 nn j) m k (k - 8) l4 l5 l6 g) (fun u => CQ h u ∧ (¬ u.1 = 0 → ∀ m : Int, 0 ≤ m → m < h 234 (k - 8).toNat → OVR nn h ω k m)) := by
      intro s es l5 p p12 m
      induction m with
      | zero => intro l6 q hm2; exfalso; omega
      | succ m ih2 =>
        intro l6 q hm2
        unfold qw_X13_classFits_109
        refine ok_if (fun _ => ?_) (fun D => ?_)
        · refine ok_add (by omega) ?_; intro v55 e55
          exact ih v55 (by omega) (by omega)
        · refine ok_add (by omega) ?_; intro v56 e56
          have I : ∀ (n : Nat) (l7 : Int), (0 ≤ l7 ∧ l7 ≤ 300) → 301 - l7 < (n : Int) → Ok_ (qw_X13_classFits_122 nn (qw_X13_classFits_77 nn j) (qw_X13_classFits_109 nn (qw_X13_classFits_77 nn j) m) n k (k - 8) l4 l5 l6 l7 g) (fun u => CQ h u ∧ (¬ u.1 = 0 → ∀ m : Int, 0 ≤ m → m < h 234 (k - 8).toNat → OVR nn h ω k m)) := by
            intro n
            induction n with
            | zero => intro l7 q2 hm3; exfalso; omega
            | succ n ih3 =>
              intro l7 q2 hm3
              unfold qw_X13_classFits_122
              refine ok_if (fun _ => ?_) (fun E => ?_)
              · refine ok_add (by omega) ?_; intro v52 e52
                exact ih2 v52 (by omega) (by omega)
              · have T : ∀ u50 : Int, TX (ω (k - 8)) (k - 8) u50 → Ok_ (qj_X13_classFits_165 nn (qw_X13_classFits_77 nn j) (qw_X13_classFits_109 nn (qw_X13_classFits_77 nn j) m) (qw_X13_classFits_122 nn (qw_X13_classFits_77 nn j) (qw_X13_classFits_109 nn (qw_X13_classFits_77 nn j) m) n) k (k - 8) l4 l5 l6 l7 s l7 (k - 8) (k - 8) u50 (k - 8) g) (fun u => CQ h u ∧ (¬ u.1 = 0 → ∀ m : Int, 0 ≤ m → m < h 234 (k - 8).toNat → OVR nn h ω k m)) := fun u50 t50 => by
                  unfold qj_X13_classFits_165
                  refine ok_sv (rv_name Vg hc Wg (s := s) (k := l7) (by omega)) ?_; intro u41 P41
                  refine ok_sv (rv_same hn Vg hc hc Wg Wg t50 P41.1) ?_; intro u43 _
                  refine ok_if (fun _ => ?_) (fun _ => ?_)
                  · refine ok_add (by omega) ?_; intro v44 e44
                    exact ih3 v44 (by omega) (by omega)
                  · refine ok_sv (rv_bad Vg Og (by omega) (by omega) (by omega) (by omega)) ?_; intro u P
                    exact ok_ck (.inl P.1) (ok_ret ⟨⟨P.2.1, nz_tr Ng P.2.2.1, P.2.2.2.1, .inr ⟨P.1, by have := P.2.2.2.2; show u.2 160 117 ≤ _; omega⟩⟩, fun q => absurd P.1 q⟩)
                have T2 : Ok_ (qj_X13_classFits_146 nn (qw_X13_classFits_77 nn j) (qw_X13_classFits_109 nn (qw_X13_classFits_77 nn j) m) (qw_X13_classFits_122 nn (qw_X13_classFits_77 nn j) (qw_X13_classFits_109 nn (qw_X13_classFits_77 nn j) m) n) k (k - 8) l4 l5 l6 l7 s l6 (k - 8) (k - 8) g) (fun u => CQ h u ∧ (¬ u.1 = 0 → ∀ m : Int, 0 ≤ m → m < h 234 (k - 8).toNat → OVR nn h ω k m)) := by
                  unfold qj_X13_classFits_146
                  refine ok_sv (rv_name Vg hc Wg (s := s) (k := l6) (by omega)) ?_; intro u50 P50
                  refine ok_if (fun y => ?_) (fun y => ?_)
                  · rw [if_pos y] at es
                    rw [es] at T; exact T u50 P50.1
                  · rw [if_neg y] at es
                    rw [es] at T; exact T u50 P50.1
                refine ok_if (fun y => ?_) (fun y => ?_)
                · rw [if_pos y] at es
                  rw [es] at T2; exact T2
                · rw [if_neg y] at es
                  rw [es] at T2; exact T2
          exact I nn v56 (by omega) (by omega)
    have F := Wg.2.2.2.2.2.2.1.1
    have Mm := Wg.2.2.2.2.2.2.2.1
    refine ok_if (fun y => ?_) (fun y => ?_)
    · refine ok_rd (by omega) (gA_232 Vg) ?_; intro v59 e59 _ _
      exact M 0 (if_pos y).symm v59 (by rw [e59]; rfl) (by omega) nn 0 (by omega) (by omega)
    · refine ok_rd (by omega) (gA_234 Vg) ?_; intro v59 e59 _ _
      exact M 1 (if_neg y).symm v59 (by rw [e59]; rfl) (by omega) nn 0 (by omega) (by omega)
/-- a class's own check is safe, and tells -/
theorem cu_class (hn : 1000000 ≤ nn) (V : VS_ h) (S : SPD h) (OW : OM h ω) (O : OI h) (room : h 160 117 ≤ 2090) {k : Int} (hk : 8 ≤ k ∧ k < 8 + h 160 98) : Ok_ (qf_X13_classFits nn k h) (fun u => CQ h u ∧ (¬ u.1 = 0 → CLK nn h ω k)) := by
  have g98 := gF_160_98 V
  have hc : 0 ≤ k - 8 ∧ k - 8 ≤ 7 := by omega
  have W := OW (k - 8) (by omega) (by omega)
  unfold qf_X13_classFits
  refine ok_sub (by omega) ?_; intro v76 e76
  rw [e76]
  obtain ⟨u78, E78, P78⟩ := rv_super hn V S (k := k) (by omega)
  rw [E78, mx_svs]
  refine ok_if (fun _ => ?_) (fun ns => ?_)
  · unfold qj_X13_classFits_22
    refine ok_sv (rv_bad V O (by omega) (by omega) (by omega) (by omega)) ?_; intro u P
    exact ok_ck (.inl P.1) (ok_ret ⟨⟨P.2.1, P.2.2.1, P.2.2.2.1, .inr ⟨P.1, by have := P.2.2.2.2; show u.2 160 117 ≤ _; omega⟩⟩, fun q => absurd P.1 q⟩)
  refine ok_sv (ks_kinds hn V S O room hc W) ?_; intro u80 P80
  obtain ⟨P80, K80⟩ := P80
  refine ok_if (fun y => ?_) (fun _ => ?_)
  · obtain ⟨G1, e117⟩ := gk_1 P80 y
    have G : GC h u80.2 := ⟨G1.1, nz_ny G1.2.1, G1.2.2.1, e117⟩
    have S8 : SPD u80.2 := ny_spd V G1.2.1 S
    have A8 : AGd h u80.2 := agd_ny G1.2.1
    have f98 : u80.2 160 98 = h 160 98 := G1.2.1 160 98 (by decide) (by decide) (by decide)
    have L : ∀ (j : Nat) (n : Nat) (l3 l4 : Int), (-1 ≤ l3 ∧ l3 < 8 + u80.2 160 98) → 0 ≤ l4 → l4 + n = 17 → (n : Int) < j → Ok_ (qw_X13_classFits_36 nn j k (k - 8) l3 l4 u80.2) (fun u => CQ h u ∧ (¬ u.1 = 0 → CHn nn h n l3 ∧ ∀ m : Int, 0 ≤ m → m < h 234 (k - 8).toNat → OVR nn h ω k m)) := by
      intro j
      induction j with
      | zero => intro n l3 l4 a b b2 hm; exfalso; omega
      | succ j ih =>
        intro n l3 l4 a b b2 hm
        have J : Ok_ (qj_X13_classFits_60 nn k (k - 8) l3 u80.2) (fun u => CQ h u ∧ (¬ u.1 = 0 → l3 = -1 ∧ ∀ m : Int, 0 ≤ m → m < h 234 (k - 8).toNat → OVR nn h ω k m)) := by
          unfold qj_X13_classFits_60
          refine ok_if (fun q => ok_im (ct_77 hn V S OW hk G nn 0 (by omega) (by omega)) (fun u P => ⟨P.1, fun y => ⟨q, P.2 y⟩⟩)) (fun _ => ?_)
          refine ok_sv (rv_bad G.1 G.2.2.1 (by omega) (by omega) (by omega) (by omega)) ?_; intro u P
          exact ok_ck (.inl P.1) (ok_ret ⟨⟨P.2.1, nz_tr G.2.1 P.2.2.1, P.2.2.2.1, .inr ⟨P.1, by have := P.2.2.2.2; show u.2 160 117 ≤ _; omega⟩⟩, fun q => absurd P.1 q⟩)
        have J0 : l3 = -1 ∨ n = 0 → Ok_ (qj_X13_classFits_60 nn k (k - 8) l3 u80.2) (fun u => CQ h u ∧ (¬ u.1 = 0 → CHn nn h n l3 ∧ ∀ m : Int, 0 ≤ m → m < h 234 (k - 8).toNat → OVR nn h ω k m)) := fun q => ok_im J (fun u P => ⟨P.1, fun y => ⟨by
          cases n with
          | zero => exact (P.2 y).1
          | succ n => exact .inl (P.2 y).1, (P.2 y).2⟩⟩)
        unfold qw_X13_classFits_36
        refine ok_if (fun q => J0 (.inr (by omega))) (fun A => ?_)
        refine ok_if (fun q => J0 (.inl q)) (fun B => ?_)
        obtain ⟨u69, E69, P69⟩ := rv_super hn G1.1 S8 (k := l3) (by omega)
        rw [E69, mx_svs]
        refine ok_add (by omega) ?_; intro v70 e70
        cases n with
        | zero => exfalso; omega
        | succ n =>
        refine ok_im (ih n u69 v70 P69 (by omega) (by omega) (by omega)) (fun u P => ⟨P.1, fun y => ⟨.inr ⟨B, u69, ?_, (P.2 y).1⟩, (P.2 y).2⟩⟩)
        rw [← cd_super A8]; exact E69
    refine ok_im (L nn 17 k 0 (by omega) (by omega) (by omega) (by omega)) (fun u P => ⟨P.1, fun q => ⟨⟨u78, E78, by omega⟩, (P.2 q).1, K80 y, (P.2 q).2⟩⟩)
  · unfold qj_X13_classFits_22
    refine ok_sv (rv_bad P80.1 P80.2.2.1 (by omega) (by omega) (by omega) (by omega)) ?_; intro u P
    refine ok_ck (.inl P.1) (ok_ret ⟨⟨P.2.1, nz_tr (nz_ny P80.2.1) P.2.2.1, P.2.2.2.1, .inr ⟨P.1, ?_⟩⟩, fun q => absurd P.1 q⟩)
    have := P80.2.2.2
    have := P.2.2.2.2
    show u.2 160 117 ≤ _
    omega
end
end
section
section
variable {nn : Nat} {h g r z w v x : ms_M} {c d e k : Int} {ω : Int → ms_M}
/-- an instruction's width -/
def WD (a : Int) : Int := (qf_X13_widthOf 0 a (fun _ _ => 0)).getD 0
theorem mw_width {a : Int} : Ok_ (qf_X13_widthOf nn a h) (fun u => u = WD a ∧ (0 ≤ u ∧ u ≤ 3)) := by
  obtain ⟨u, e, b⟩ := mv_width (nn := nn) (h := h) (a := a)
  refine ⟨u, e, ?_, b⟩
  have q : qf_X13_widthOf 0 a (fun _ _ => 0) = qf_X13_widthOf nn a h := rfl
  unfold WD
  rw [q, e]
  rfl
theorem wd_rg {a : Int} : 0 ≤ WD a ∧ WD a ≤ 3 := by
  obtain ⟨u, e, b⟩ := mw_width (nn := 0) (h := fun _ _ => 0) (a := a)
  rw [← b.1]; exact b.2
theorem wd_jump {a : Int} (j : 153 ≤ a ∧ a ≤ 167) (p : 1 ≤ WD a) : WD a = 3 := by
  have q : a = 153 ∨ a = 154 ∨ a = 155 ∨ a = 156 ∨ a = 157 ∨ a = 158 ∨ a = 159 ∨ a = 160 ∨ a = 161 ∨ a = 162 ∨ a = 163 ∨ a = 164 ∨ a = 165 ∨ a = 166 ∨ a = 167 := by omega
  revert p
  rcases q with q | q | q | q | q | q | q | q | q | q | q | q | q | q | q <;> rw [q] <;> decide
/-- where the instructions begin -/
def bp (w : ms_M) (A : Int) : Nat → Int
  | 0 => 0
  | n + 1 => bp w A n + WD (w 238 (A + bp w A n).toNat)
/-- the code of Z bytes has N instructions -/
def INS (w : ms_M) (A Z : Int) (N : Nat) : Prop := bp w A N = Z ∧ ∀ m : Nat, m < N → (0 ≤ bp w A m ∧ bp w A m < Z) ∧ 1 ≤ WD (w 238 (A + bp w A m).toNat) ∧ bp w A (m + 1) ≤ Z
/-- an instruction begins at q -/
def BGI (w : ms_M) (A : Int) (N : Nat) (q : Int) : Prop := ∃ m : Nat, m < N ∧ bp w A m = q
/-- where the jump at p goes -/
def AIM (w : ms_M) (A p : Int) : Int := p + oq_s (pw (w 238 (A + (p + 1)).toNat) (w 238 (A + (p + 2)).toNat))
theorem mv_aim (V : VS_ h) (M : MC h c k w) {p : Int} (hp : 0 ≤ p ∧ p + 2 ≤ h 160 135) : Ok_ (qf_X13_aimOf nn p h) (fun u => u = AIM w (h 160 134) p) := by
  have cd := mc_code M
  unfold qf_X13_aimOf
  refine ok_add (by omega) ?_; intro v1 e1
  refine ok_sv (mv_code V M (by omega)) ?_; intro u3 P3
  refine ok_shl8 P3.2 ?_; intro v4 e4
  refine ok_add (by omega) ?_; intro v5 e5
  refine ok_sv (mv_code V M (by omega)) ?_; intro u7 P7
  refine ok_xl ?_; intro v8 e8
  refine ok_xl ?_; intro v9 e9
  have b9 := oq_s_rg (v := v8)
  rw [← e9] at b9
  refine ok_add (by omega) ?_; intro v10 e10
  refine ok_ret ?_
  unfold AIM pw
  rw [e10, e9, e8, e4, P3.1, P7.1, e1, e5]
/-- frame number n of those from p on lies at u -/
def FRi (w : ms_M) (c : Int) : Nat → Int → Int → Prop
  | 0, p, u => u = p
  | n + 1, p, u => ∃ a b : Int, TYr w c (p + 2) a ∧ TYr w c a b ∧ FRi w c n b u
theorem fri_det : ∀ (n : Nat) (p u u2 : Int), FRi w c n p u → FRi w c n p u2 → u = u2 := by
  intro n
  induction n with
  | zero => intro p u u2 a b; have a : u = p := a; have b : u2 = p := b; omega
  | succ n ih =>
    intro p u u2 a b
    obtain ⟨a1, a2, a3, a4, a5⟩ := a
    obtain ⟨b1, b2, b3, b4, b5⟩ := b
    rw [ty_det _ _ _ _ b3 a3] at b4
    rw [ty_det _ _ _ _ b4 a4] at b5
    exact ih _ _ _ a5 b5
theorem fri_frm : ∀ (n : Nat) (p u : Int), FRm w c n p u → ∃ f : Nat, f < n ∧ FRi w c f p u := by
  intro n
  induction n with
  | zero => intro p u a; exact absurd a id
  | succ n ih =>
    intro p u a
    rcases a with a | ⟨a1, a2, a3, a4, a5⟩
    · exact ⟨0, by omega, a⟩
    · obtain ⟨f, f1, f2⟩ := ih _ _ a5
      exact ⟨f + 1, by omega, a1, a2, a3, a4, f2⟩
/-- the place of frame f, told by its number -/
theorem mw_frameAt (hn : 1000000 ≤ nn) (V : VS_ h) (M : MC h c k w) {f : Int} (hf : 0 ≤ f ∧ f < w 238 (h 237 (12 * c + k).toNat).toNat) : Ok_ (qf_X13_frameAt nn f h) (fun u => FRa w c u ∧ FRi w c f.toNat (h 237 (12 * c + k).toNat + 1) u) := by
  obtain ⟨hc, hk, W, e2, e3, _⟩ := M
  have g3 := gF_160_113 W.1
  obtain ⟨k12, _, m⟩ := wi_mt W hc hk
  obtain ⟨_, _, _, f1, f2, q, q1, fr⟩ := mth_fr m
  have L : ∀ (j : Nat) (n i : Nat) (l2 l3 : Int), 0 ≤ l2 → (0 ≤ l3 ∧ l3 ≤ f) → f - l3 = i → i < n → FRn w c n l2 q → f - l3 < j → Ok_ (qw_X13_frameAt_22 nn j f l2 l3 h) (fun u => FRa w c u ∧ FRi w c i l2 u) := by
    intro j
    induction j with
    | zero => intro n i l2 l3 a b ei e1 y hm; exfalso; omega
    | succ j ih =>
      intro n i l2 l3 a b ei e1 y hm
      cases n with
      | zero => exfalso; omega
      | succ n =>
        obtain ⟨x, y1, z1, z2, z3⟩ := y
        have l1 := ty_le _ _ _ z1
        have l2' := ty_le _ _ _ z2
        have l3' := fr_le _ _ _ z3
        unfold qw_X13_frameAt_22
        cases i with
        | zero =>
          rw [if_pos (show f ≤ l3 by omega)]
          exact ok_ret ⟨⟨a, x, y1, z1, z2, by omega⟩, rfl⟩
        | succ i =>
        rw [if_neg (show ¬ f ≤ l3 by omega)]
        refine ok_add (by omega) ?_; intro v5 e5
        refine ok_sv (mv_ends hn V hc W e2 (q := x) (by omega) (by omega) (by rw [e5]; exact z1)) ?_; intro u7 P7
        refine ok_sv (mv_ends hn V hc W e2 (q := y1) (by omega) (by omega) (by rw [P7]; exact z2)) ?_; intro u9 P9
        refine ok_add (by omega) ?_; intro v10 e10
        refine ok_im (ih n i u9 v10 (by omega) (by omega) (by omega) (by omega) (by rw [P9]; exact z3) (by omega)) (fun u P => ?_)
        rw [P9] at P
        exact ⟨P.1, x, y1, z1, z2, P.2⟩
  unfold qf_X13_frameAt
  rw [e2, e3]
  refine ok_mul (by omega) ?_; intro v15 e15
  refine ok_add (by omega) ?_; intro v17 e17
  refine ok_rd (by omega) (gA_237 V) ?_; intro v18 e18 a18 _
  rw [e17, e15] at e18
  refine ok_add (by omega) ?_; intro v19 e19
  refine ok_im (L nn (w 238 (h 237 (12 * c + k).toNat).toNat).toNat f.toNat v19 0 (by omega) (by omega) (by omega) (by omega) (by rw [e19, e18]; exact fr) (by omega)) (fun u P => ?_)
  rw [e19, e18] at P
  exact P
/-- the first of n frames from p on that has the place t lies at u -/
def FFn (w : ms_M) (c : Int) : Nat → Int → Int → Int → Prop
  | 0, _, _, _ => False
  | n + 1, p, t, u => (pw (w 238 p.toNat) (w 238 (p + 1).toNat) = t ∧ u = p) ∨ (¬ pw (w 238 p.toNat) (w 238 (p + 1).toNat) = t ∧ ∃ a b : Int, TYr w c (p + 2) a ∧ TYr w c a b ∧ FFn w c n b t u)
theorem ffn_det : ∀ (n : Nat) (p t u u2 : Int), FFn w c n p t u → FFn w c n p t u2 → u = u2 := by
  intro n
  induction n with
  | zero => intro p t u u2 a b; exact absurd a id
  | succ n ih =>
    intro p t u u2 a b
    rcases a with ⟨a1, a2⟩ | ⟨a1, a2, a3, a4, a5, a6⟩ <;> rcases b with ⟨b1, b2⟩ | ⟨b1, b2, b3, b4, b5, b6⟩
    · omega
    · exact absurd a1 b1
    · exact absurd b1 a1
    · rw [ty_det _ _ _ _ b4 a4] at b5
      rw [ty_det _ _ _ _ b5 a5] at b6
      exact ih _ _ _ _ a6 b6
theorem ffn_frm : ∀ (n : Nat) (p t u : Int), FFn w c n p t u → FRm w c n p u ∧ pw (w 238 u.toNat) (w 238 (u + 1).toNat) = t := by
  intro n
  induction n with
  | zero => intro p t u a; exact absurd a id
  | succ n ih =>
    intro p t u a
    rcases a with ⟨a1, a2⟩ | ⟨a1, a2, a3, a4, a5, a6⟩
    · exact ⟨.inl a2, by rw [a2]; exact a1⟩
    · exact ⟨.inr ⟨a2, a3, a4, a5, (ih _ _ _ a6).1⟩, (ih _ _ _ a6).2⟩
theorem ffn_of : ∀ (n : Nat) (p t : Int), FRp w c n p t → ∃ u : Int, FFn w c n p t u := by
  intro n
  induction n with
  | zero => intro p t a; exact absurd a id
  | succ n ih =>
    intro p t a
    by_cases y : pw (w 238 p.toNat) (w 238 (p + 1).toNat) = t
    · exact ⟨p, .inl ⟨y, rfl⟩⟩
    · rcases a with a | ⟨a2, a3, a4, a5, a6⟩
      · exact absurd a y
      · obtain ⟨u, q⟩ := ih _ _ a6
        exact ⟨u, .inr ⟨y, a2, a3, a4, a5, q⟩⟩
theorem ffn_frp : ∀ (n : Nat) (p t u : Int), FFn w c n p t u → FRp w c n p t := by
  intro n
  induction n with
  | zero => intro p t u a; exact a
  | succ n ih =>
    intro p t u a
    rcases a with ⟨a1, a2⟩ | ⟨a1, a2, a3, a4, a5, a6⟩
    · exact .inl a1
    · exact .inr ⟨a2, a3, a4, a5, ih _ _ _ a6⟩
/-- the method's frame for place t lies at u -/
def FFr (h : ms_M) (c k : Int) (w : ms_M) (t u : Int) : Prop := FFn w c (w 238 (h 237 (12 * c + k).toNat).toNat).toNat (h 237 (12 * c + k).toNat + 1) t u
/-- u is one of the method's frames -/
def FRu (h : ms_M) (c k : Int) (w : ms_M) (u : Int) : Prop := FRm w c (w 238 (h 237 (12 * c + k).toNat).toNat).toNat (h 237 (12 * c + k).toNat + 1) u
theorem frm_a : ∀ (n : Nat) (p q u : Int), 0 ≤ p → q ≤ w 160 113 → FRn w c n p q → FRm w c n p u → FRa w c u := by
  intro n
  induction n with
  | zero => intro p q u a b d y; exact absurd y id
  | succ n ih =>
    intro p q u a b d y
    obtain ⟨a1, a2, a3, a4, a5⟩ := d
    have := ty_le _ _ _ a3
    have := ty_le _ _ _ a4
    have := fr_le _ _ _ a5
    rcases y with y | ⟨b1, b2, b3, b4, b5⟩
    · rw [y]; exact ⟨a, a1, a2, a3, a4, by omega⟩
    · rw [ty_det _ _ _ _ b3 a3] at b4
      rw [ty_det _ _ _ _ b4 a4] at b5
      exact ih _ _ _ (by omega) b a5 b5
theorem mv_for3 (hn : 1000000 ≤ nn) (V : VS_ h) (M : MC h c k w) {t : Int} : Ok_ (qf_X13_frameFor nn t h) (fun u => (u = -1 ∧ ¬ HFr h c k w t) ∨ ((FRa w c u ∧ FRu h c k w u) ∧ FFr h c k w t u)) := by
  have M0 := M
  obtain ⟨hc, hk, W, e2, e3, _⟩ := M
  have g3 := gF_160_113 W.1
  obtain ⟨k12, _, m⟩ := wi_mt W hc hk
  obtain ⟨_, _, _, f1, f2, q, q1, fr⟩ := mth_fr m
  have L : ∀ (j : Nat) (n : Nat) (l2 l3 : Int), 0 ≤ l2 → (0 ≤ l3 ∧ l3 ≤ 255) → w 238 (h 237 (12 * c + k).toNat).toNat - l3 = n → FRn w c n l2 q → (n : Int) < j → Ok_ (qw_X13_frameFor_22 nn j t l2 l3 h) (fun u => (u = -1 ∧ ¬ FRp w c n l2 t) ∨ FFn w c n l2 t u) := by
    intro j
    induction j with
    | zero => intro n l2 l3 a b e1 y hm; exfalso; omega
    | succ j ih =>
      intro n l2 l3 a b e1 y hm
      unfold qw_X13_frameFor_22
      refine ok_sv (mv_many V M0) ?_; intro u2 P2
      cases n with
      | zero =>
        rw [if_pos (show u2 ≤ l3 by have := P2.1; omega)]
        exact ok_ret (.inl ⟨rfl, fun y => y⟩)
      | succ n =>
        rw [if_neg (show ¬ u2 ≤ l3 by have := P2.1; omega)]
        obtain ⟨x, y1, z1, z2, z3⟩ := y
        have l1 := ty_le _ _ _ z1
        have l2' := ty_le _ _ _ z2
        have l3' := fr_le _ _ _ z3
        refine ok_sv (mv_pairw V hc W e2 (by omega)) ?_; intro u4 P4
        refine ok_if (fun D => ?_) (fun D => ok_ret (.inr (.inl ⟨P4.2.symm.trans (Decidable.not_not.1 D), rfl⟩)))
        have D2 : ¬ pw (w 238 l2.toNat) (w 238 (l2 + 1).toNat) = t := fun y => D (P4.2.trans y)
        refine ok_add (by omega) ?_; intro v5 e5
        refine ok_sv (mv_ends hn V hc W e2 (q := x) (by omega) (by omega) (by rw [e5]; exact z1)) ?_; intro u7 P7
        refine ok_sv (mv_ends hn V hc W e2 (q := y1) (by omega) (by omega) (by rw [P7]; exact z2)) ?_; intro u9 P9
        refine ok_add (by omega) ?_; intro v10 e10
        refine ok_im (ih n u9 v10 (by omega) (by omega) (by omega) (by rw [P9]; exact z3) (by omega)) (fun u P => ?_)
        rw [P9] at P
        rcases P with P | P
        · refine .inl ⟨P.1, fun y => ?_⟩
          rcases y with y | ⟨x2, y2, w1, w2, w3⟩
          · exact D2 y
          · have ex : x2 = x := ty_det _ _ _ _ w1 z1
            rw [ex] at w2
            have ey : y2 = y1 := ty_det _ _ _ _ w2 z2
            rw [ey] at w3
            exact P.2 w3
        · exact .inr (.inr ⟨D2, x, y1, z1, z2, P⟩)
  have p0 : 0 ≤ h 237 (12 * c + k).toNat := (gA_237 V _ (by omega)).1
  unfold HFr FFr FRu
  unfold qf_X13_frameFor
  rw [e2, e3]
  refine ok_mul (by omega) ?_; intro v15 e15
  refine ok_add (by omega) ?_; intro v17 e17
  refine ok_rd (by omega) (gA_237 V) ?_; intro v18 e18 a18 _
  rw [e17, e15] at e18
  refine ok_add (by omega) ?_; intro v19 e19
  have b0 : 0 ≤ w 238 (h 237 (12 * c + k).toNat).toNat := (gA_238 W.1 _ (by omega)).1
  refine ok_im (L nn (w 238 (h 237 (12 * c + k).toNat).toNat).toNat v19 0 (by omega) (by omega) (by omega) (by rw [e19, e18]; exact fr) (by omega)) (fun u P => ?_)
  rw [e19, e18] at P
  rcases P with P | P
  · exact .inl P
  · have fm := (ffn_frm _ _ _ _ P).1
    exact .inr ⟨⟨frm_a _ _ _ _ (by omega) q1 fr fm, fm⟩, P⟩
/-- the type at p of a frame -/
def FV (nn : Nat) (h : ms_M) (c : Int) (w : ms_M) (p t : Int) : Prop := (w 238 p.toNat ≤ 2 ∧ t = w 238 p.toNat) ∨ (w 238 p.toNat = 3 ∧ CTv nn h c w (w 238 (p + 1).toNat) t)
/-- n types of a frame from p to q: L from i on -/
def FTn (nn : Nat) (h : ms_M) (c : Int) (w : ms_M) (L : Int → Int) : Nat → Int → Int → Int → Prop
  | 0, _, p, q => p = q
  | n + 1, i, p, q => FV nn h c w p (L i) ∧ ((w 238 p.toNat ≤ 2 ∧ FTn nn h c w L n (i + 1) (p + 1) q) ∨ (w 238 p.toNat = 3 ∧ CL w c (w 238 (p + 1).toNat) ∧ FTn nn h c w L n (i + 1) (p + 2) q))
theorem fv_c (A : AGc h g) {p t : Int} (F : FV nn h c w p t) : FV nn g c w p t := by
  rcases F with F | F
  · exact .inl F
  · exact .inr ⟨F.1, ctv_c A F.2⟩
theorem fv_det {p t t2 : Int} (F : FV nn h c w p t) (G : FV nn h c w p t2) : t = t2 := by
  rcases F with F | F <;> rcases G with G | G
  · omega
  · exfalso; omega
  · exfalso; omega
  · exact ctv_det F.2 G.2
theorem ftn_c {L : Int → Int} (A : AGc h g) : ∀ (n : Nat) (i p q : Int), FTn nn h c w L n i p q → FTn nn g c w L n i p q := by
  intro n
  induction n with
  | zero => intro i p q a; exact a
  | succ n ih =>
    intro i p q a
    refine ⟨fv_c A a.1, ?_⟩
    rcases a.2 with b | b
    · exact .inl ⟨b.1, ih _ _ _ b.2⟩
    · exact .inr ⟨b.1, b.2.1, ih _ _ _ b.2.2⟩
theorem ftn_ext {L K : Int → Int} : ∀ (n : Nat) (i p q : Int), (∀ x : Int, i ≤ x → L x = K x) → FTn nn h c w L n i p q → FTn nn h c w K n i p q := by
  intro n
  induction n with
  | zero => intro i p q y a; exact a
  | succ n ih =>
    intro i p q y a
    refine ⟨by rw [← y i (by omega)]; exact a.1, ?_⟩
    rcases a.2 with b | b
    · exact .inl ⟨b.1, ih _ _ _ (fun x hx => y x (by omega)) b.2⟩
    · exact .inr ⟨b.1, b.2.1, ih _ _ _ (fun x hx => y x (by omega)) b.2.2⟩
theorem ftn_ty {L : Int → Int} : ∀ (n : Nat) (i p q : Int), FTn nn h c w L n i p q → TYn w c n p q := by
  intro n
  induction n with
  | zero => intro i p q a; exact a
  | succ n ih =>
    intro i p q a
    rcases a.2 with b | b
    · exact .inl ⟨b.1, ih _ _ _ b.2⟩
    · exact .inr ⟨b.1, b.2.1, ih _ _ _ b.2.2⟩
theorem ftn_of (hc : 0 ≤ c ∧ c ≤ 7) (W : WI h c w) : ∀ (n : Nat) (i p q : Int), TYf nn h c w n p q → ∃ L : Int → Int, FTn nn h c w L n i p q := by
  intro n
  induction n with
  | zero => intro i p q a; exact ⟨fun _ => 0, a⟩
  | succ n ih =>
    intro i p q a
    rcases a with ⟨a1, a2⟩ | ⟨a1, a2, a3⟩
    · obtain ⟨L, y⟩ := ih (i + 1) _ _ a2
      refine ⟨fun x => if x = i then w 238 p.toNat else L x, ?_, .inl ⟨a1, ftn_ext _ _ _ _ (fun x hx => ?_) y⟩⟩
      · show FV nn h c w p (if i = i then w 238 p.toNat else L i)
        rw [if_pos rfl]; exact .inl ⟨a1, rfl⟩
      · rw [if_neg (show ¬ x = i by omega)]
    · obtain ⟨L, y⟩ := ih (i + 1) _ _ a3
      obtain ⟨t, ct⟩ := ctv_ex hc W a2.1 a2.2
      refine ⟨fun x => if x = i then t else L x, ?_, .inr ⟨a1, a2.1, ftn_ext _ _ _ _ (fun x hx => ?_) y⟩⟩
      · show FV nn h c w p (if i = i then t else L i)
        rw [if_pos rfl]; exact .inr ⟨a1, ct⟩
      · rw [if_neg (show ¬ x = i by omega)]
theorem ftn_det {L K : Int → Int} : ∀ (n : Nat) (i p q q2 : Int), FTn nn h c w L n i p q → FTn nn h c w K n i p q2 → ∀ x : Int, i ≤ x → x < i + n → L x = K x := by
  intro n
  induction n with
  | zero => intro i p q q2 a b x x1 x2; exfalso; omega
  | succ n ih =>
    intro i p q q2 a b x x1 x2
    by_cases y : x = i
    · rw [y]; exact fv_det a.1 b.1
    · rcases a.2 with a2 | a2 <;> rcases b.2 with b2 | b2
      · exact ih _ _ _ _ a2.2 b2.2 x (by omega) (by omega)
      · exfalso; omega
      · exfalso; omega
      · exact ih _ _ _ _ a2.2.2 b2.2.2 x (by omega) (by omega)
/-- the frame at u: n locals L, m values K -/
def FRT (nn : Nat) (h : ms_M) (c : Int) (w : ms_M) (u n : Int) (L : Int → Int) (m : Int) (K : Int → Int) : Prop := (0 ≤ u ∧ n = w 238 (u + 2).toNat) ∧ ∃ a b : Int, FTn nn h c w L n.toNat 0 (u + 3) a ∧ m = w 238 a.toNat ∧ FTn nn h c w K m.toNat 0 (a + 1) b ∧ b ≤ w 160 113
theorem frt_c {u n m : Int} {L K : Int → Int} (A : AGc h g) (F : FRT nn h c w u n L m K) : FRT nn g c w u n L m K := by
  obtain ⟨a0, a, b, a1, a2, a3, a4⟩ := F
  exact ⟨a0, a, b, ftn_c A _ _ _ _ a1, a2, ftn_c A _ _ _ _ a3, a4⟩
theorem frt_det {u n m n2 m2 : Int} {L K L2 K2 : Int → Int} (V : VS_ w) (F : FRT nn h c w u n L m K) (G : FRT nn h c w u n2 L2 m2 K2) : n = n2 ∧ m = m2 ∧ (∀ x : Int, 0 ≤ x → x < n → L x = L2 x) ∧ (∀ x : Int, 0 ≤ x → x < m → K x = K2 x) := by
  obtain ⟨a0, a, b, a1, a2, a3, a4⟩ := F
  obtain ⟨b0, d, e, b1, b2, b3, b4⟩ := G
  have en : n = n2 := by omega
  rw [← en] at b1
  have ea : a = d := ty_det _ _ _ _ (ftn_ty _ _ _ _ a1) (ftn_ty _ _ _ _ b1)
  rw [← ea] at b2 b3
  have em : m = m2 := by omega
  rw [← em] at b3
  exact ⟨en, em, fun x x1 x2 => ftn_det _ _ _ _ _ a1 b1 x x1 (by omega), fun x x1 x2 => ftn_det _ _ _ _ _ a3 b3 x x1 (by omega)⟩
theorem frt_of (hc : 0 ≤ c ∧ c ≤ 7) (W : WI h c w) {k u : Int} (hu : 0 ≤ u) (F : FOK nn h c k w u) : ∃ (n : Int) (L : Int → Int) (m : Int) (K : Int → Int), FRT nn h c w u n L m K ∧ n ≤ h 160 129 ∧ m ≤ h 160 130 := by
  obtain ⟨a, b, ⟨a1, a2⟩, ⟨b1, b2⟩, b3⟩ := F
  obtain ⟨L, y1⟩ := ftn_of hc W _ 0 _ _ a2
  obtain ⟨K, y2⟩ := ftn_of hc W _ 0 _ _ b2
  exact ⟨_, L, _, K, ⟨⟨hu, rfl⟩, a, b, y1, rfl, y2, b3⟩, a1, b1⟩
/-- the type at p of a frame is read -/
theorem mg_framed (hn : 1000000 ≤ nn) (V : VS_ h) (hc : 0 ≤ c ∧ c ≤ 7) (W : WI h c w) (e1 : h 160 132 = c) {p t : Int} (hp : 0 ≤ p ∧ p < w 160 113) (cl : w 238 p.toNat = 3 → p + 1 < w 160 113 ∧ CL w c (w 238 (p + 1).toNat)) (F : FV nn h c w p t) : Ok_ (qf_X13_framed nn p h) (fun u => TF2 h u ∧ u.1 = t) := by
  have g3 := gF_160_113 W.1
  have g98 := gF_160_98 V
  unfold qf_X13_framed
  rw [e1]
  refine ok_sv (mv_bytew V hc W hp) ?_; intro u3 P3
  have q3 := P3.1
  have b3 := P3.2
  rcases F with ⟨F1, F2⟩ | ⟨F1, F2⟩
  · rw [if_neg (show ¬ 3 ≤ u3 by omega)]
    refine ok_sv (mv_bytew V hc W hp) ?_; intro u13 P13
    have q13 := P13.1
    exact ok_ret ⟨⟨V, fun _ _ _ => rfl, by show 0 ≤ u13 ∧ u13 < _; omega⟩, by show u13 = _; omega⟩
  · rw [if_pos (show 3 ≤ u3 by omega)]
    obtain ⟨p1, cl⟩ := cl F1
    refine ok_add (by omega) ?_; intro v6 e6
    refine ok_sv (mv_bytew V hc W (by omega)) ?_; intro u8 P8
    have q8 := P8.1
    rw [e6] at q8
    rw [← q8] at cl F2
    refine ok_sv (rg_typeOf hn V hc W cl F2) ?_; intro u10 P10
    exact ok_ret ⟨⟨P10.1.1, P10.1.2.1, P10.1.2.2⟩, P10.2⟩
end
end
section
section
variable {nn : Nat} {h g r z w v x : ms_M} {c d e k : Int} {ω : Int → ms_M}
theorem mc_v (A : ∀ x j : Nat, ¬ (x = 160 ∧ (j < 129 ∨ 135 < j ∨ j = 131)) → x < 238 → r x j = h x j) (M : MC h c k w) : MC r c k w := by
  obtain ⟨hc, hk, W, e1, e2, e3, e4, e5, e6⟩ := M
  refine ⟨hc, ?_, wi_k (fun x j _ _ => A x j (by omega) (by omega)) W, ?_, ?_, ?_, ?_, ?_, ?_⟩
  · rw [A 234 _ (by omega) (by decide)]; exact hk
  · rw [A 160 132 (by omega) (by decide)]; exact e1
  · rw [A 160 133 (by omega) (by decide)]; exact e2
  · rw [A 160 130 (by omega) (by decide), A 235 _ (by omega) (by decide)]; exact e3
  · rw [A 160 129 (by omega) (by decide), A 235 _ (by omega) (by decide)]; exact e4
  · rw [A 160 135 (by omega) (by decide), A 235 _ (by omega) (by decide)]; exact e5
  · rw [A 160 134 (by omega) (by decide), A 235 _ (by omega) (by decide)]; exact e6
theorem mc_30 (M : MC h c k w) : h 160 129 ≤ 30 ∧ h 160 130 ≤ 30 := by
  obtain ⟨hc, hk, W, _, _, e3, e4, _, _⟩ := M
  obtain ⟨_, _, m⟩ := wi_mt W hc hk
  obtain ⟨q, _, m⟩ := m
  unfold XM XI XG XE XD XC at m
  rw [e3, e4]
  exact ⟨m.2.2.2.2.1, m.2.2.2.1⟩
/-- what a good step of the flow leaves -/
def NFl (h r : ms_M) : Prop := ∀ x j : Nat, ¬ (x = 160 ∧ (j = 120 ∨ j = 121 ∨ j = 131)) → ¬ (243 ≤ x ∧ x ≤ 245) → r x j = h x j
theorem nfl_rf : NFl h h := fun _ _ _ _ => rfl
theorem nfl_tr (a : NFl h z) (b : NFl z r) : NFl h r := fun x j p q => (b x j p q).trans (a x j p q)
theorem nfl_12 (a : N12 h r) : NFl h r := fun x j p _ => a x j (by omega)
theorem nfl_agd (a : NFl h r) : AGd h r := ⟨fun x j p q => a x j (by omega) (by omega), a 160 98 (by decide) (by decide), a 900000 0 (by omega) (by omega)⟩
theorem nfl_mc (a : NFl h r) (M : MC h c k w) : MC r c k w := mc_v (fun x j p q => a x j (by omega) (by omega)) M
theorem nfl_oi (a : NFl h r) (O : OI h) : OI r := fun j hj => by
  rw [a 240 _ (by omega) (by omega), a 241 _ (by omega) (by omega)]
  exact O j (by rw [a 160 117 (by decide) (by decide)] at hj; exact hj)
theorem n12_agd (N : N12 h r) : AGd h r := nfl_agd (nfl_12 N)
/-- a value of type a may stand where b is wanted -/
def GOt (nn : Nat) (h : ms_M) (a b : Int) : Prop := qf_X13_goes nn a b h = some 1
theorem got_c (A : AGd h g) {a b : Int} (G : GOt nn h a b) : GOt nn g a b := by
  unfold GOt
  rw [cd_goes A]; exact G
theorem got_rf {a : Int} : GOt nn h a a := by
  unfold GOt qf_X13_goes
  by_cases y : a = 0
  · rw [if_pos y]
  · rw [if_neg y, if_neg (show ¬ ¬ a = a from fun z => z rfl)]
theorem got_0 {a : Int} : GOt nn h a 0 := by
  unfold GOt qf_X13_goes
  rw [if_pos rfl]
theorem rg_goes (hn : 1000000 ≤ nn) (V : VS_ h) (S : SPD h) {a b : Int} (ga : GTy h a) (gb : 0 ≤ b ∧ b ≤ 2147483647) : Ok_ (qf_X13_goes nn a b h) (fun u => (u = 0 ∨ u = 1) ∧ (¬ u = 0 → GOt nn h a b)) := by
  obtain ⟨u, e, b⟩ := rv_goes hn V S ga gb
  refine ⟨u, e, b, fun y => ?_⟩
  unfold GOt
  rw [e, show u = 1 by omega]
theorem gty_c (A : AGd h g) {t : Int} (G : GTy h t) : GTy g t := by
  unfold GTy at G ⊢
  rw [A.2.1]; exact G
theorem fv_rg {p t : Int} (V : VS_ h) (W : VS_ w) (hp : 0 ≤ p ∧ p < 6000) (F : FV nn h c w p t) : 0 ≤ t ∧ t < 20 + 2 * h 160 98 := by
  have g98 := gF_160_98 V
  rcases F with ⟨a, b⟩ | ⟨a, b⟩
  · have := gA_238 W p.toNat (by omega)
    omega
  · exact ctv_rg V b
/-- the locals and the stack hold good types -/
def GTs (h : ms_M) (t : Int) : Prop := 0 ≤ t ∧ t < 20 + 2 * h 160 98
theorem gts_y {t : Int} (V : VS_ h) (G : GTs h t) : GTy h t := ⟨⟨G.1, by have := gF_160_98 V; have := G.2; omega⟩, .inl G.2⟩
theorem gts_c (A : AGd h g) {t : Int} (G : GTs h t) : GTs g t := by
  unfold GTs at G ⊢
  rw [A.2.1]; exact G
def LGT (h : ms_M) : Prop := ∀ x : Int, 0 ≤ x → x < h 160 129 → GTs h (h 243 x.toNat)
def SGT (h : ms_M) : Prop := h 160 131 ≤ h 160 130 ∧ ∀ x : Int, 0 ≤ x → x < h 160 131 → GTs h (h 244 x.toNat)
theorem lgt_12 (N : N12 h r) (L : LGT h) : LGT r := fun x a b => by
  rw [N 243 _ (by omega)]
  rw [N 160 129 (by decide)] at b
  exact gts_c (n12_agd N) (L x a b)
theorem sgt_12 (N : N12 h r) (L : SGT h) : SGT r := by
  unfold SGT
  rw [N 160 131 (by decide), N 160 130 (by decide)]
  refine ⟨L.1, fun x a b => ?_⟩
  rw [N 244 _ (by omega)]
  exact gts_c (n12_agd N) (L.2 x a b)
/-- rows of types against rows of types -/
theorem ml_loop {row : Nat} {Z : Int} {LP : Nat → Int → Int → Int → ms_M → Option (Int × ms_M)} (hn : 1000000 ≤ nn) (V : VS_ h) (S : SPD h) (M : MC h c k w) {n a : Int} {L : Int → Int} (hrow : ¬ row = 160) (hZ : n ≤ Z) (ha : a ≤ w 160 113) (GT : ∀ x : Int, 0 ≤ x → x < n → GTy h (h row x.toNat)) (lp : ∀ (j : Nat) (l2 l3 l4 : Int) (f : ms_M), LP (j + 1) l2 l3 l4 f = if l3 ≤ l4 then (some (1, f)) else (rd_A Z row l4 f fun v4 => mx_sv (qf_X13_framed nn l2 f) fun u6 => mx_sv (qf_X13_goes nn v4 u6.1 u6.2) fun u8 => if ¬ u8 = 0 then (mx_sv (qf_X13_byteAt nn (u6.2 160 132) l2 u6.2) fun u11 => if ¬ u11 = 3 then (xl (oq_add l2 1) fun v1 => xl (oq_add l4 1) fun v2 => LP j v1 l3 v2 u6.2) else (xl (oq_add l2 2) fun v1 => xl (oq_add l4 1) fun v2 => LP j v1 l3 v2 u6.2)) else (some (0, u6.2)))) (hb : ∀ f : ms_M, VS_ f → ∀ q : Nat, (q : Int) < Z → -2147483648 ≤ f row q ∧ f row q ≤ 2147483647) : ∀ (j : Nat) (m : Nat) (i l2 : Int) (f : ms_M), VS_ f → N12 h f → 0 ≤ l2 → 0 ≤ i → i + m = n → n ≤ 255 → FTn nn h c w L m i l2 a → m < j → Ok_ (LP j l2 n i f) (fun x => VS_ x.2 ∧ N12 h x.2 ∧ (x.1 = 0 ∨ x.1 = 1) ∧ (¬ x.1 = 0 → ∀ y : Int, i ≤ y → y < n → GOt nn h (h row y.toNat) (L y))) := by
  have g3 := gF_160_113 M.2.2.1.1
  have hc := M.1
  intro j
  induction j with
  | zero => intro m i l2 f Vf N a1 a2 a3 a4 a5 hm; exfalso; omega
  | succ j ih =>
    intro m i l2 f Vf N a1 a2 a3 a4 F hm
    rw [lp]
    cases m with
    | zero =>
      rw [if_pos (show n ≤ i by omega)]
      exact ok_ret ⟨Vf, N, .inr rfl, fun _ y y1 y2 => by exfalso; omega⟩
    | succ m =>
      have le := ty_le _ _ _ (ftn_ty _ _ _ _ F)
      rw [if_neg (show ¬ n ≤ i by omega)]
      refine ok_rd (by omega) (hb f Vf) ?_; intro v4 e4 _ _
      rw [N row _ (by omega)] at e4
      have Mf : MC f c k w := nfl_mc (nfl_12 N) M
      have Af := n12_agd N
      have cl : w 238 l2.toNat = 3 → l2 + 1 < w 160 113 ∧ CL w c (w 238 (l2 + 1).toNat) := fun y => by
        rcases F.2 with b | b
        · exfalso; omega
        · have := ty_le _ _ _ (ftn_ty _ _ _ _ b.2.2)
          exact ⟨by omega, b.2.1⟩
      refine ok_sv (mg_framed hn Vf hc Mf.2.2.1 Mf.2.2.2.1 (by omega) cl (fv_c (agd_c Af) F.1)) ?_; intro u6 P6
      obtain ⟨⟨V6, N6, b6⟩, q6⟩ := P6
      have N6' := n12_tr N N6
      have A6 := n12_agd N6'
      have g98 := gF_160_98 Vf
      have gt : GTy u6.2 v4 := by rw [e4]; exact gty_c A6 (GT i a2 (by omega))
      refine ok_sv (rg_goes hn V6 (agd_spd V A6 S) gt (by omega)) ?_; intro u8 P8
      refine ok_if (fun y => ?_) (fun y => ok_ret ⟨V6, N6', .inl rfl, fun y => absurd rfl y⟩)
      have go : GOt nn h (h row i.toNat) (L i) := by
        have := got_c (agd_sy A6) (P8.2 y)
        rw [e4, q6] at this
        exact this
      have M6 : MC u6.2 c k w := nfl_mc (nfl_12 N6') M
      rw [M6.2.2.2.1]
      refine ok_sv (mv_bytew V6 hc M6.2.2.1 (by omega)) ?_; intro u11 P11
      have q11 := P11.1
      have fin : ∀ (l : Int), FTn nn h c w L m (i + 1) l a → 0 ≤ l → Ok_ (LP j l n (i + 1) u6.2) (fun x => VS_ x.2 ∧ N12 h x.2 ∧ (x.1 = 0 ∨ x.1 = 1) ∧ (¬ x.1 = 0 → ∀ y : Int, i ≤ y → y < n → GOt nn h (h row y.toNat) (L y))) := fun l fl l0 => ok_im (ih m (i + 1) l u6.2 V6 N6' l0 (by omega) (by omega) a4 fl (by omega)) (fun x P => ⟨P.1, P.2.1, P.2.2.1, fun q y y1 y2 => by
        by_cases y0 : y = i
        · rw [y0]; exact go
        · exact P.2.2.2 q y (by omega) y2⟩)
      rcases F.2 with b | b
      · rw [if_pos (show ¬ u11 = 3 by omega)]
        refine ok_add (by omega) ?_; intro v1 e1
        refine ok_add (by omega) ?_; intro v2 e2
        rw [e1, e2]
        exact fin _ b.2 (by omega)
      · rw [if_neg (show ¬ ¬ u11 = 3 by omega)]
        refine ok_add (by omega) ?_; intro v1 e1
        refine ok_add (by omega) ?_; intro v2 e2
        rw [e1, e2]
        exact fin _ b.2.2 (by omega)
theorem ml_locals (hn : 1000000 ≤ nn) (V : VS_ h) (S : SPD h) (M : MC h c k w) (LG : LGT h) {u n m : Int} {L K : Int → Int} (F : FRT nn h c w u n L m K) (nl : n ≤ h 160 129) : Ok_ (qf_X13_localsFit nn u h) (fun x => VS_ x.2 ∧ N12 h x.2 ∧ (x.1 = 0 ∨ x.1 = 1) ∧ (¬ x.1 = 0 → ∀ y : Int, 0 ≤ y → y < n → GOt nn h (h 243 y.toNat) (L y))) := by
  have g3 := gF_160_113 M.2.2.1.1
  have hc := M.1
  have m30 := mc_30 M
  obtain ⟨⟨u0, en⟩, a, b, t1, em, t2, lb⟩ := F
  have l1 := ty_le _ _ _ (ftn_ty _ _ _ _ t1)
  have l2 := ty_le _ _ _ (ftn_ty _ _ _ _ t2)
  have b2 := gA_238 M.2.2.1.1 (u + 2).toNat (by omega)
  unfold qf_X13_localsFit
  rw [M.2.2.2.1]
  refine ok_add (by omega) ?_; intro v15 e15
  refine ok_sv (mv_bytew V hc M.2.2.1 (by omega)) ?_; intro u18 P18
  have q18 := P18.1
  rw [e15] at q18
  refine ok_add (by omega) ?_; intro v19 e19
  rw [show v19 = u + 3 by omega, show u18 = n by omega]
  exact ml_loop (LP := qw_X13_localsFit_20 nn) (row := 243) (Z := 30) hn V S M (by decide) (by omega) (by omega) (fun x x1 x2 => gts_y V (LG x x1 (by omega))) (fun j l2 l3 l4 f => rfl) (fun f Vf q hq => by have := gA_243 Vf q hq; omega) nn n.toNat 0 (u + 3) h V (fun _ _ _ => rfl) (by omega) (by omega) (by omega) (by omega) t1 (by omega)
theorem ml_stack (hn : 1000000 ≤ nn) (V : VS_ h) (S : SPD h) (M : MC h c k w) (SG : SGT h) {u n m : Int} {L K : Int → Int} (F : FRT nn h c w u n L m K) : Ok_ (qf_X13_stackFits nn u h) (fun x => VS_ x.2 ∧ N12 h x.2 ∧ (x.1 = 0 ∨ x.1 = 1) ∧ (¬ x.1 = 0 → m = h 160 131 ∧ ∀ y : Int, 0 ≤ y → y < m → GOt nn h (h 244 y.toNat) (K y))) := by
  have g3 := gF_160_113 M.2.2.1.1
  have hc := M.1
  have m30 := mc_30 M
  obtain ⟨⟨u0, en⟩, a, b, t1, em, t2, lb⟩ := F
  have l1 := ty_le _ _ _ (ftn_ty _ _ _ _ t1)
  have l2 := ty_le _ _ _ (ftn_ty _ _ _ _ t2)
  have ba := gA_238 M.2.2.1.1 a.toNat (by omega)
  have tr : TYr w c (u + 2) a := by
    unfold TYr
    rw [← en, show u + 2 + 1 = u + 3 by omega]
    exact ftn_ty _ _ _ _ t1
  unfold qf_X13_stackFits
  rw [M.2.2.2.1]
  refine ok_add (by omega) ?_; intro v15 e15
  refine ok_sv (mv_ends hn V hc M.2.2.1 M.2.2.2.1 (q := a) (by omega) (by omega) (by rw [e15]; exact tr)) ?_; intro u17 P17
  rw [P17]
  refine ok_sv (mv_bytew V hc M.2.2.1 (by omega)) ?_; intro u20 P20
  have q20 := P20.1
  refine ok_add (by omega) ?_; intro v21 e21
  refine ok_if (fun y => ?_) (fun y => ok_ret ⟨V, fun _ _ _ => rfl, .inl rfl, fun y => absurd rfl y⟩)
  rw [show v21 = a + 1 by omega, show u20 = m by omega]
  have sg := SG.1
  refine ok_im (ml_loop (LP := qw_X13_stackFits_34 nn) (row := 244) (Z := 31) hn V S M (by decide) (by omega) lb (fun x x1 x2 => gts_y V (SG.2 x x1 (by omega))) (fun j l2 l3 l4 f => rfl) (fun f Vf q hq => gA_244 Vf q hq) nn m.toNat 0 (a + 1) h V (fun _ _ _ => rfl) (by omega) (by omega) (by omega) (by omega) t2 (by omega)) (fun x P => ⟨P.1, P.2.1, P.2.2.1, fun q => ⟨by omega, P.2.2.2 q⟩⟩)
/-- the state becomes the frame's -/
def BCM (h : ms_M) (n : Int) (L : Int → Int) (m : Int) (K : Int → Int) (r : ms_M) : Prop := (∀ y : Int, 0 ≤ y → y < n → r 243 y.toNat = L y) ∧ (∀ y : Int, n ≤ y → 0 ≤ y → y < h 160 129 → r 243 y.toNat = 0) ∧ r 160 131 = m ∧ (∀ y : Int, 0 ≤ y → y < m → r 244 y.toNat = K y)
theorem mb_114 (hn : 1000000 ≤ nn) (V : VS_ h) (M : MC h c k w) {m b : Int} {K : Int → Int} (hb : b ≤ w 160 113) (m31 : m ≤ 30) : ∀ (j : Nat) (q : Nat) (i l2 : Int) (f : ms_M), VS_ f → NFl h f → 0 ≤ l2 → 0 ≤ i → i + q = m → FTn nn h c w K q i l2 b → (∀ y : Int, 0 ≤ y → y < i → f 244 y.toNat = K y) → q < j → Ok_ (qw_X13_becomes_114 nn j l2 m i f) (fun r => VS_ r ∧ NFl h r ∧ r 160 131 = f 160 131 ∧ r 243 = f 243 ∧ ∀ y : Int, 0 ≤ y → y < m → r 244 y.toNat = K y) := by
  have g3 := gF_160_113 M.2.2.1.1
  have hc := M.1
  intro j
  induction j with
  | zero => intro q i l2 f Vf N a1 a2 a3 F D hm; exfalso; omega
  | succ j ih =>
    intro q i l2 f Vf N a1 a2 a3 F D hm
    unfold qw_X13_becomes_114
    cases q with
    | zero =>
      rw [if_pos (show m ≤ i by omega)]
      exact ok_ret ⟨Vf, N, rfl, rfl, fun y y1 y2 => D y y1 (by omega)⟩
    | succ q =>
      have le := ty_le _ _ _ (ftn_ty _ _ _ _ F)
      rw [if_neg (show ¬ m ≤ i by omega)]
      have Mf : MC f c k w := nfl_mc N M
      have cl : w 238 l2.toNat = 3 → l2 + 1 < w 160 113 ∧ CL w c (w 238 (l2 + 1).toNat) := fun y => by
        rcases F.2 with b | b
        · exfalso; omega
        · have := ty_le _ _ _ (ftn_ty _ _ _ _ b.2.2)
          exact ⟨by omega, b.2.1⟩
      refine ok_sv (mg_framed hn Vf hc Mf.2.2.1 Mf.2.2.2.1 (by omega) cl (fv_c (agd_c (nfl_agd N)) F.1)) ?_; intro u5 P5
      obtain ⟨⟨V5, N5, b5⟩, q5⟩ := P5
      have g98 := gF_160_98 Vf
      refine ok_wA (by omega) ?_; intro h6 E6
      have V6 : VS_ h6 := by rw [E6]; exact wA_244 V5 (by omega)
      have N56 : NFl u5.2 h6 := fun x j p q => by rw [E6, up_n (by omega)]
      have N6 : NFl h h6 := nfl_tr N (nfl_tr (nfl_12 N5) N56)
      have M6 : MC h6 c k w := nfl_mc N6 M
      have f131 : h6 160 131 = f 160 131 := by rw [E6, up_n (by omega), N5 160 131 (by decide)]
      have f243 : h6 243 = f 243 := funext fun y => by rw [E6, up_n (by omega), N5 243 _ (by omega)]
      have D6 : ∀ y : Int, 0 ≤ y → y < i + 1 → h6 244 y.toNat = K y := fun y y1 y2 => by
        by_cases y0 : y = i
        · rw [y0, E6, up_s, q5]
        · rw [E6, up_n (by omega), N5 244 _ (by omega)]
          exact D y y1 (by omega)
      rw [M6.2.2.2.1]
      refine ok_sv (mv_bytew V6 hc M6.2.2.1 (by omega)) ?_; intro u9 P9
      have q9 := P9.1
      rcases F.2 with b | b
      · rw [if_pos (show ¬ u9 = 3 by omega)]
        unfold qj_X13_becomes_151
        refine ok_add (by omega) ?_; intro v1 e1
        refine ok_add (by omega) ?_; intro v2 e2
        rw [e1, e2]
        refine ok_im (ih q (i + 1) (l2 + 1) h6 V6 N6 (by omega) (by omega) (by omega) b.2 D6 (by omega)) (fun r P => ?_)
        rw [f131, f243] at P
        exact P
      · rw [if_neg (show ¬ ¬ u9 = 3 by omega)]
        unfold qj_X13_becomes_151
        refine ok_add (by omega) ?_; intro v1 e1
        refine ok_add (by omega) ?_; intro v2 e2
        rw [e1, e2]
        refine ok_im (ih q (i + 1) (l2 + 2) h6 V6 N6 (by omega) (by omega) (by omega) b.2.2 D6 (by omega)) (fun r P => ?_)
        rw [f131, f243] at P
        exact P
theorem ml_becomes (hn : 1000000 ≤ nn) (V : VS_ h) (M : MC h c k w) {u n m : Int} {L K : Int → Int} (F : FRT nn h c w u n L m K) (nl : n ≤ h 160 129) (ml : m ≤ h 160 130) : Ok_ (qf_X13_becomes nn u h) (fun r => VS_ r ∧ NFl h r ∧ BCM h n L m K r) := by
  have g3 := gF_160_113 M.2.2.1.1
  have hc := M.1
  have m30 := mc_30 M
  obtain ⟨⟨u0, en⟩, a, b, t1, em, t2, lb⟩ := F
  have l1 := ty_le _ _ _ (ftn_ty _ _ _ _ t1)
  have l2 := ty_le _ _ _ (ftn_ty _ _ _ _ t2)
  have b2 := gA_238 M.2.2.1.1 (u + 2).toNat (by omega)
  have ba := gA_238 M.2.2.1.1 a.toNat (by omega)
  have tr : TYr w c (u + 2) a := by
    unfold TYr
    rw [← en, show u + 2 + 1 = u + 3 by omega]
    exact ftn_ty _ _ _ _ t1
  have T : ∀ (j : Nat) (i l2 : Int) (f : ms_M), VS_ f → NFl h f → 0 ≤ l2 → (0 ≤ i ∧ i ≤ h 160 129) → (i ≤ n → FTn nn h c w L (n - i).toNat i l2 a) → (∀ y : Int, 0 ≤ y → y < i → (y < n → f 243 y.toNat = L y) ∧ (n ≤ y → f 243 y.toNat = 0)) → h 160 129 - i < (j : Int) → Ok_ (qw_X13_becomes_20 nn j u l2 n i f) (fun r => VS_ r ∧ NFl h r ∧ BCM h n L m K r) := by
    intro j
    induction j with
    | zero => intro i l2 f Vf N a1 a2 F D hm; exfalso; omega
    | succ j ih =>
      intro i l2 f Vf N a1 a2 F D hm
      have Mf : MC f c k w := nfl_mc N M
      unfold qw_X13_becomes_20
      rw [N 160 129 (by decide) (by decide)]
      refine ok_if (fun C => ?_) (fun C => ?_)
      · refine ok_add (by omega) ?_; intro v15 e15
        refine ok_sv (mv_ends hn Vf hc Mf.2.2.1 Mf.2.2.2.1 (q := a) (by omega) (by omega) (by rw [e15]; exact tr)) ?_; intro u17 P17
        rw [P17, Mf.2.2.2.1]
        refine ok_sv (mv_bytew Vf hc Mf.2.2.1 (by omega)) ?_; intro u20 P20
        have q20 := P20.1
        refine ok_add (by omega) ?_; intro v21 e21
        refine ok_xl ?_; intro h22 E22
        have V22 : VS_ h22 := by rw [E22]; exact wF_160_131 Vf (by omega)
        have N22 : NFl h h22 := nfl_tr N (fun x j p q => by rw [E22, up_n (by omega)])
        have f131 : h22 160 131 = u20 := by rw [E22, up_s]
        rw [show v21 = a + 1 by omega, show u20 = m by omega]
        refine ok_im (mb_114 hn V M lb (by omega) nn m.toNat 0 (a + 1) h22 V22 N22 (by omega) (by omega) (by omega) t2 (fun y y1 y2 => by exfalso; omega) (by omega)) (fun r P => ?_)
        obtain ⟨p1, p2, p3, p4, p5⟩ := P
        have e243 : ∀ y : Nat, r 243 y = f 243 y := fun y => by rw [p4, E22, up_n (by omega)]
        refine ⟨p1, p2, fun y y1 y2 => ?_, fun y y1 y2 y3 => ?_, by omega, p5⟩
        · rw [e243]; exact (D y y1 (by omega)).1 y2
        · rw [e243]; exact (D y y2 (by omega)).2 y1
      · refine ok_wA (by omega) ?_; intro h24 E24
        have V24 : VS_ h24 := by rw [E24]; exact wA_243 Vf (by omega)
        have N24 : NFl h h24 := nfl_tr N (fun x j p q => by rw [E24, up_n (by omega)])
        refine ok_if (fun Y => ?_) (fun Y => ?_)
        · obtain ⟨q, eq⟩ : ∃ q : Nat, (n - i).toNat = q + 1 := ⟨(n - i).toNat - 1, by omega⟩
          have F0 := F (by omega)
          rw [eq] at F0
          have le := ty_le _ _ _ (ftn_ty _ _ _ _ F0)
          have M24 : MC h24 c k w := nfl_mc N24 M
          have cl : w 238 l2.toNat = 3 → l2 + 1 < w 160 113 ∧ CL w c (w 238 (l2 + 1).toNat) := fun y => by
            rcases F0.2 with b | b
            · exfalso; omega
            · have := ty_le _ _ _ (ftn_ty _ _ _ _ b.2.2)
              exact ⟨by omega, b.2.1⟩
          refine ok_sv (mg_framed hn V24 hc M24.2.2.1 M24.2.2.2.1 (by omega) cl (fv_c (agd_c (nfl_agd N24)) F0.1)) ?_; intro u27 P27
          obtain ⟨⟨V27, N27, b27⟩, q27⟩ := P27
          have g98 := gF_160_98 V24
          refine ok_wA (by omega) ?_; intro h28 E28
          have V28 : VS_ h28 := by rw [E28]; exact wA_243 V27 (by omega)
          have N28 : NFl h h28 := nfl_tr N24 (nfl_tr (nfl_12 N27) (fun x j p q => by rw [E28, up_n (by omega)]))
          have M28 : MC h28 c k w := nfl_mc N28 M
          have D28 : ∀ y : Int, 0 ≤ y → y < i + 1 → (y < n → h28 243 y.toNat = L y) ∧ (n ≤ y → h28 243 y.toNat = 0) := fun y y1 y2 => by
            by_cases y0 : y = i
            · rw [y0, E28, up_s]
              exact ⟨fun _ => q27, fun z => by exfalso; omega⟩
            · rw [E28, up_n (by omega), N27 243 _ (by omega), E24, up_n (by omega)]
              exact D y y1 (by omega)
          rw [M28.2.2.2.1]
          refine ok_sv (mv_bytew V28 hc M28.2.2.1 (by omega)) ?_; intro u31 P31
          have q31 := P31.1
          rcases F0.2 with b | b
          · rw [if_pos (show ¬ u31 = 3 by omega)]
            unfold qj_X13_becomes_77
            refine ok_add (by omega) ?_; intro v12 e12
            refine ok_add (by omega) ?_; intro v13 e13
            rw [e12, e13]
            exact ih (i + 1) (l2 + 1) h28 V28 N28 (by omega) (by omega) (fun _ => by rw [show (n - (i + 1)).toNat = q by omega]; exact b.2) D28 (by omega)
          · rw [if_neg (show ¬ ¬ u31 = 3 by omega)]
            unfold qj_X13_becomes_77
            refine ok_add (by omega) ?_; intro v12 e12
            refine ok_add (by omega) ?_; intro v13 e13
            rw [e12, e13]
            exact ih (i + 1) (l2 + 2) h28 V28 N28 (by omega) (by omega) (fun _ => by rw [show (n - (i + 1)).toNat = q by omega]; exact b.2.2) D28 (by omega)
        · refine ok_add (by omega) ?_; intro v33 e33
          rw [e33]
          refine ih (i + 1) l2 h24 V24 N24 a1 (by omega) (fun z => by exfalso; omega) (fun y y1 y2 => ?_) (by omega)
          by_cases y0 : y = i
          · rw [y0, E24, up_s]
            exact ⟨fun z => by exfalso; omega, fun _ => rfl⟩
          · rw [E24, up_n (by omega)]
            exact D y y1 (by omega)
  unfold qf_X13_becomes
  rw [M.2.2.2.1]
  refine ok_add (by omega) ?_; intro v36 e36
  refine ok_sv (mv_bytew V hc M.2.2.1 (by omega)) ?_; intro u39 P39
  have q39 := P39.1
  rw [e36] at q39
  refine ok_add (by omega) ?_; intro v40 e40
  rw [show v40 = u + 3 by omega, show u39 = n by omega]
  exact T nn 0 (u + 3) h V nfl_rf (by omega) (by omega) (fun _ => by rw [show n - 0 = n by omega]; exact t1) (fun y y1 y2 => by exfalso; omega) (by omega)
/-- the places of handler i -/
def hpl (h : ms_M) (c k i : Int) : Int := h 236 (12 * c + k).toNat + 1 + 7 * i
/-- all handlers around q fit -/
def HDO (nn : Nat) (h : ms_M) (c k : Int) (w : ms_M) (q : Int) (r : ms_M) : Prop := ∀ i : Int, 0 ≤ i → i < w 238 (h 236 (12 * c + k).toNat).toNat → pw (w 238 (hpl h c k i).toNat) (w 238 (hpl h c k i + 1).toNat) ≤ q → q < pw (w 238 (hpl h c k i + 2).toNat) (w 238 (hpl h c k i + 3).toNat) → ∃ (u n : Int) (L : Int → Int) (m : Int) (K : Int → Int) (t : Int), FFr h c k w (pw (w 238 (hpl h c k i + 4).toNat) (w 238 (hpl h c k i + 5).toNat)) u ∧ (FRT nn h c w u n L m K ∧ n ≤ h 160 129 ∧ m = 1) ∧ (∀ y : Int, 0 ≤ y → y < n → GOt nn h (r 243 y.toNat) (L y)) ∧ CTv nn h c w (w 238 (hpl h c k i + 6).toNat) t ∧ GOt nn h t (K 0)
/-- what the handlers' check told -/
def HDK (nn : Nat) (h : ms_M) (c k : Int) (w : ms_M) : Prop := ∀ i : Int, 0 ≤ i → i < w 238 (h 236 (12 * c + k).toNat).toNat → CFd nn h c w (w 238 (hpl h c k i + 6).toNat) ∧ HFr h c k w (pw (w 238 (hpl h c k i + 4).toNat) (w 238 (hpl h c k i + 5).toNat)) ∧ ∃ u : Int, (0 ≤ u ∧ u < 8 + h 160 98) ∧ CTv nn h c w (w 238 (hpl h c k i + 6).toNat) (4 + 2 * u)
theorem ml_handled (hn : 1000000 ≤ nn) (V : VS_ h) (S : SPD h) (M : MC h c k w) (LG : LGT h) (HK : HDK nn h c k w) (FK : ∀ u : Int, FRu h c k w u → FOK nn h c k w u) {q : Int} : Ok_ (qf_X13_handled nn q h) (fun x => VS_ x.2 ∧ N12 h x.2 ∧ (x.1 = 0 ∨ x.1 = 1) ∧ (¬ x.1 = 0 → HDO nn h c k w q h)) := by
  have M0 := M
  have g3 := gF_160_113 M.2.2.1.1
  obtain ⟨hc, hk, W, e2, e3, _⟩ := M
  obtain ⟨k12, _, mt⟩ := wi_mt W hc hk
  obtain ⟨⟨f1, f2⟩, f3, f4, f5, _⟩ := mth_fr mt
  have p0 := gA_236 V (12 * c + k).toNat (by omega)
  have b6 := gA_238 W.1 (h 236 (12 * c + k).toNat).toNat (by omega)
  have T : ∀ (j : Nat) (i : Int) (f : ms_M), VS_ f → N12 h f → (0 ≤ i ∧ i ≤ w 238 (h 236 (12 * c + k).toNat).toNat) → w 238 (h 236 (12 * c + k).toNat).toNat - i < (j : Int) → Ok_ (qw_X13_handled_20 nn j q (h 236 (12 * c + k).toNat) i f) (fun x => VS_ x.2 ∧ N12 h x.2 ∧ (x.1 = 0 ∨ x.1 = 1) ∧ (¬ x.1 = 0 → ∀ y : Int, i ≤ y → y < w 238 (h 236 (12 * c + k).toNat).toNat → pw (w 238 (hpl h c k y).toNat) (w 238 (hpl h c k y + 1).toNat) ≤ q → q < pw (w 238 (hpl h c k y + 2).toNat) (w 238 (hpl h c k y + 3).toNat) → ∃ (u n : Int) (L : Int → Int) (m : Int) (K : Int → Int) (t : Int), FFr h c k w (pw (w 238 (hpl h c k y + 4).toNat) (w 238 (hpl h c k y + 5).toNat)) u ∧ (FRT nn h c w u n L m K ∧ n ≤ h 160 129 ∧ m = 1) ∧ (∀ y : Int, 0 ≤ y → y < n → GOt nn h (h 243 y.toNat) (L y)) ∧ CTv nn h c w (w 238 (hpl h c k y + 6).toNat) t ∧ GOt nn h t (K 0))) := by
    intro j
    induction j with
    | zero => intro i f Vf N a hm; exfalso; omega
    | succ j ih =>
      intro i f Vf N a hm
      have Mf : MC f c k w := nfl_mc (nfl_12 N) M0
      have Af := n12_agd N
      unfold qw_X13_handled_20
      rw [Mf.2.2.2.1]
      refine ok_sv (mv_bytew Vf hc Mf.2.2.1 (by omega)) ?_; intro u3 P3
      have q3 := P3.1
      refine ok_if (fun C => ok_ret ⟨Vf, N, .inr rfl, fun _ y y1 y2 => by exfalso; omega⟩) (fun C => ?_)
      refine ok_add (by omega) ?_; intro v4 e4
      refine ok_mul (by omega) ?_; intro v5 e5
      refine ok_add (by omega) ?_; intro v6 e6
      have e6' : v6 = hpl h c k i := by unfold hpl; omega
      have lim : 0 ≤ v6 ∧ v6 + 7 < w 160 113 := by omega
      have nxt : ∀ (f2 : ms_M), VS_ f2 → N12 h f2 → (pw (w 238 (hpl h c k i).toNat) (w 238 (hpl h c k i + 1).toNat) ≤ q → q < pw (w 238 (hpl h c k i + 2).toNat) (w 238 (hpl h c k i + 3).toNat) → ∃ (u n : Int) (L : Int → Int) (m : Int) (K : Int → Int) (t : Int), FFr h c k w (pw (w 238 (hpl h c k i + 4).toNat) (w 238 (hpl h c k i + 5).toNat)) u ∧ (FRT nn h c w u n L m K ∧ n ≤ h 160 129 ∧ m = 1) ∧ (∀ y : Int, 0 ≤ y → y < n → GOt nn h (h 243 y.toNat) (L y)) ∧ CTv nn h c w (w 238 (hpl h c k i + 6).toNat) t ∧ GOt nn h t (K 0)) → Ok_ (qw_X13_handled_20 nn j q (h 236 (12 * c + k).toNat) (i + 1) f2) (fun x => VS_ x.2 ∧ N12 h x.2 ∧ (x.1 = 0 ∨ x.1 = 1) ∧ (¬ x.1 = 0 → ∀ y : Int, i ≤ y → y < w 238 (h 236 (12 * c + k).toNat).toNat → pw (w 238 (hpl h c k y).toNat) (w 238 (hpl h c k y + 1).toNat) ≤ q → q < pw (w 238 (hpl h c k y + 2).toNat) (w 238 (hpl h c k y + 3).toNat) → ∃ (u n : Int) (L : Int → Int) (m : Int) (K : Int → Int) (t : Int), FFr h c k w (pw (w 238 (hpl h c k y + 4).toNat) (w 238 (hpl h c k y + 5).toNat)) u ∧ (FRT nn h c w u n L m K ∧ n ≤ h 160 129 ∧ m = 1) ∧ (∀ y : Int, 0 ≤ y → y < n → GOt nn h (h 243 y.toNat) (L y)) ∧ CTv nn h c w (w 238 (hpl h c k y + 6).toNat) t ∧ GOt nn h t (K 0))) := fun f2 V2 N2 o => ok_im (ih (i + 1) f2 V2 N2 (by omega) (by omega)) (fun x P => ⟨P.1, P.2.1, P.2.2.1, fun z y y1 y2 => by
          by_cases y0 : y = i
          · rw [y0]; exact o
          · exact P.2.2.2 z y (by omega) y2⟩)
      refine ok_sv (mv_pairw Vf hc Mf.2.2.1 Mf.2.2.2.1 (by omega)) ?_; intro u8 P8
      have q8 := P8.2
      rw [e6'] at q8
      refine ok_if (fun D => ?_) (fun D => ?_)
      · refine ok_add (by omega) ?_; intro v9 e9
        rw [e9]
        exact nxt f Vf N (fun z _ => by exfalso; omega)
      refine ok_add (by omega) ?_; intro v10 e10
      refine ok_sv (mv_pairw Vf hc Mf.2.2.1 Mf.2.2.2.1 (by omega)) ?_; intro u12 P12
      have q12 := P12.2
      rw [e10, e6', show hpl h c k i + 2 + 1 = hpl h c k i + 3 by omega] at q12
      refine ok_if (fun E => ?_) (fun E => ?_)
      · refine ok_add (by omega) ?_; intro v13 e13
        refine ok_sv (mv_pairw Vf hc Mf.2.2.1 Mf.2.2.2.1 (by omega)) ?_; intro u15 P15
        have q15 := P15.2
        rw [e13, e6', show hpl h c k i + 4 + 1 = hpl h c k i + 5 by omega] at q15
        obtain ⟨cf, hf, _⟩ := HK i a.1 (by omega)
        refine ok_sv (mv_for3 hn Vf Mf) ?_; intro u17 P17
        have ff : FRa w c u17 ∧ FRu h c k w u17 ∧ FFr h c k w (pw (w 238 (hpl h c k i + 4).toNat) (w 238 (hpl h c k i + 5).toNat)) u17 := by
          rw [q15] at P17
          rcases P17 with P | ⟨⟨P1, P2⟩, P3⟩
          · have nf := P.2
            unfold HFr at nf hf
            rw [N 237 _ (by omega)] at nf
            exact absurd hf nf
          · unfold FRu at P2 ⊢
            unfold FFr at P3 ⊢
            rw [N 237 _ (by omega)] at P2 P3
            exact ⟨P1, P2, P3⟩
        have fk := FK u17 ff.2.1
        obtain ⟨n, L, m, K, F, fn, fm⟩ := frt_of hc W ff.1.1 fk
        have Ff := frt_c (agd_c Af) F
        refine ok_sv (ml_locals hn Vf (agd_spd V Af S) Mf (lgt_12 N LG) Ff (by rw [N 160 129 (by decide)]; exact fn)) ?_; intro u19 P19
        obtain ⟨V19, N19, _, lf⟩ := P19
        have N19' := n12_tr N N19
        refine ok_if (fun Y => ?_) (fun Y => ok_ret ⟨V19, N19', .inl rfl, fun y => absurd rfl y⟩)
        have lf2 : ∀ y : Int, 0 ≤ y → y < n → GOt nn h (h 243 y.toNat) (L y) := fun y y1 y2 => by
          have := got_c (agd_sy Af) (lf Y y y1 y2)
          rw [N 243 _ (by omega)] at this
          exact this
        have M19 : MC u19.2 c k w := nfl_mc (nfl_12 N19') M0
        have A19 := n12_agd N19'
        obtain ⟨⟨u0, en⟩, aa, bb, t1, em, t2, lb⟩ := F
        have l1 := ty_le _ _ _ (ftn_ty _ _ _ _ t1)
        have l2 := ty_le _ _ _ (ftn_ty _ _ _ _ t2)
        have tr : TYr w c (u17 + 2) aa := by
          unfold TYr
          rw [← en, show u17 + 2 + 1 = u17 + 3 by omega]
          exact ftn_ty _ _ _ _ t1
        refine ok_add (by omega) ?_; intro v20 e20
        refine ok_sv (mv_ends hn V19 hc M19.2.2.1 M19.2.2.2.1 (q := aa) (by omega) (by omega) (by rw [e20]; exact tr)) ?_; intro u22 P22
        rw [P22, M19.2.2.2.1]
        refine ok_sv (mv_bytew V19 hc M19.2.2.1 (by omega)) ?_; intro u25 P25
        have q25 := P25.1
        refine ok_if (fun Y2 => ok_ret ⟨V19, N19', .inl rfl, fun y => absurd rfl y⟩) (fun Y2 => ?_)
        have m1 : m = 1 := by omega
        refine ok_add (by omega) ?_; intro v28 e28
        refine ok_sv (mv_bytew V19 hc M19.2.2.1 (by omega)) ?_; intro u30 P30
        have q30 := P30.1
        rw [e28, e6'] at q30
        have cl := f3 i a.1 (by omega)
        rw [show h 236 (12 * c + k).toNat + 1 + 7 * i + 6 = hpl h c k i + 6 from rfl] at cl
        obtain ⟨t, ct⟩ := ctv_ex hc W cl cf
        refine ok_sv (rg_typeOf hn V19 hc M19.2.2.1 (i := u30) (t := t) (by rw [q30]; exact cl) (by rw [q30]; exact ctv_c (agd_c A19) ct)) ?_; intro u32 P32
        obtain ⟨⟨V32, N32, b32⟩, q32⟩ := P32
        have N32' := n12_tr N19' N32
        have A32 := n12_agd N32'
        have M32 : MC u32.2 c k w := nfl_mc (nfl_12 N32') M0
        refine ok_add (by omega) ?_; intro v33 e33
        have t2' : FTn nn h c w K 1 0 (aa + 1) bb := by rw [show (1 : Nat) = m.toNat by omega]; exact t2
        have cl2 : w 238 v33.toNat = 3 → v33 + 1 < w 160 113 ∧ CL w c (w 238 (v33 + 1).toNat) := fun y => by
          rw [e33] at y ⊢
          rcases t2'.2 with b | b
          · exfalso; omega
          · have := ty_le _ _ _ (ftn_ty _ _ _ _ b.2.2)
            exact ⟨by omega, b.2.1⟩
        refine ok_sv (mg_framed hn V32 hc M32.2.2.1 M32.2.2.2.1 (t := K 0) (by omega) cl2 (by rw [e33]; exact fv_c (agd_c A32) t2'.1)) ?_; intro u35 P35
        obtain ⟨⟨V35, N35, b35⟩, q35⟩ := P35
        have N35' := n12_tr N32' N35
        have A35 := n12_agd N35'
        have g98 := gF_160_98 V19
        have f98 : u32.2 160 98 = u19.2 160 98 := N32 160 98 (by decide)
        have f98' : u35.2 160 98 = u32.2 160 98 := N35 160 98 (by decide)
        refine ok_sv (rg_goes hn V35 (agd_spd V A35 S) (a := u32.1) (b := u35.1) ⟨by omega, by omega⟩ (by omega)) ?_; intro u37 P37
        refine ok_if (fun Y3 => ?_) (fun Y3 => ok_ret ⟨V35, N35', .inl rfl, fun y => absurd rfl y⟩)
        refine ok_add (by omega) ?_; intro v38 e38
        rw [e38]
        refine nxt u35.2 V35 N35' (fun _ _ => ⟨u17, n, L, m, K, t, ff.2.2, ⟨⟨⟨u0, en⟩, aa, bb, t1, em, t2, lb⟩, fn, m1⟩, lf2, ct, ?_⟩)
        have := got_c (agd_sy A35) (P37.2 Y3)
        rw [q32, q35] at this
        exact this
      · refine ok_add (by omega) ?_; intro v42 e42
        rw [e42]
        exact nxt f Vf N (fun _ z => by exfalso; omega)
  unfold qf_X13_handled
  rw [e2, e3]
  refine ok_mul (by omega) ?_; intro v48 e48
  refine ok_add (by omega) ?_; intro v50 e50
  refine ok_rd (by omega) (gA_236 V) ?_; intro v51 e51 _ _
  rw [e50, e48] at e51
  rw [e51]
  exact T nn 0 h V (fun _ _ _ => rfl) (by omega) (by omega)
end
end
section
section
variable {nn : Nat} {h g r z w v x : ms_M} {c d e k : Int} {ω : Int → ms_M}
theorem mr_row {t : Int} (ht : 0 ≤ t) : Ok_ (qf_X13_isRow nn t h) (fun u => (u = 1 ∧ (t = 3 ∨ (4 ≤ t ∧ t % 2 = 1))) ∨ (u = 0 ∧ ¬ (t = 3 ∨ (4 ≤ t ∧ t % 2 = 1)))) := by
  unfold qf_X13_isRow
  refine ok_if (fun y => ok_ret (.inl ⟨rfl, .inl y⟩)) (fun C => ?_)
  refine ok_if (fun _ => ok_ret (.inr ⟨rfl, by omega⟩)) (fun D => ?_)
  refine ok_xl ?_; intro v1 e1
  have e : v1 = t % 2 := by rw [e1]; exact Int.tmod_eq_emod_of_nonneg (by omega)
  exact ok_if (fun E => ok_ret (.inr ⟨rfl, by omega⟩)) (fun E => ok_ret (.inl ⟨rfl, by omega⟩))
/-- the type of a class constant; below 36 it is told -/
theorem rq_typeOf (hn : 1000000 ≤ nn) (V : VS_ h) (S : SPD h) (O : OI h) (room : h 160 117 ≤ 2099) (hc : 0 ≤ c ∧ c ≤ 7) (W : WI h c w) {i : Int} (t : CL w c i) : Ok_ (qf_X13_typeOfClass nn c i h) (fun u => TR h u ∧ (u.1 < 36 → N12 h u.2 ∧ CFd nn h c w i ∧ CTv nn h c w i u.1)) := by
  obtain ⟨u, e, P, F⟩ := ro_typeOf hn V S O room hc W t
  refine ⟨u, e, P, fun y => ?_⟩
  have cf := F y
  obtain ⟨s, ct⟩ := ctv_ex hc W t cf
  obtain ⟨x, ex, Px, qx⟩ := rg_typeOf hn V hc W t ct
  have ux : u = x := Option.some.inj (e.symm.trans ex)
  rw [ux]
  exact ⟨Px.2.1, cf, by rw [qx]; exact ct⟩
/-- a class constant's type that is no row -/
theorem ctv_nr {i t : Int} (F : CTv nn h c w i t) (n : ¬ (t = 3 ∨ (4 ≤ t ∧ t % 2 = 1))) : ∃ u : Int, (0 ≤ u ∧ u < 8 + h 160 98) ∧ t = 4 + 2 * u := by
  rcases F with ⟨a, u, b, d⟩ | ⟨a, b⟩
  · exact ⟨u, b.1, d⟩
  · exfalso
    rcases b with b | b | b | b | b
    · omega
    · omega
    · omega
    · omega
    · obtain ⟨_, _, u, y, z⟩ := b
      have := y.1
      omega
/-- constant i of the image is of sort s -/
def SRT (w : ms_M) (c i s : Int) : Prop := (1 ≤ i ∧ i ≤ w 229 c.toNat) ∧ w 238 (pl w c i).toNat = s
theorem wi_cs (W : WI h c w) (hc : 0 ≤ c ∧ c ≤ 7) {i : Int} (hi : 1 ≤ i ∧ i ≤ w 229 c.toNat) : i ≤ 255 ∧ h 228 (256 * c + i).toNat = pl w c i ∧ (0 ≤ pl w c i ∧ pl w c i + 2 ≤ w 160 113) ∧ (w 238 (pl w c i).toNat = 2 → pl w c i + 5 ≤ w 160 113) ∧ (w 238 (pl w c i).toNat = 4 → pl w c i + 4 ≤ w 160 113) := by
  obtain ⟨Vw, S9, b1, b2, b3, b4, b5, b6⟩ := W
  have g9 := gA_229 Vw c.toNat (by omega)
  have g3 := gF_160_113 Vw
  obtain ⟨c0, c1⟩ := S9.2.1 i hi.1 hi.2
  have : (0 ≤ pl w c i ∧ pl w c i + 2 ≤ w 160 113) ∧ (w 238 (pl w c i).toNat = 2 → pl w c i + 5 ≤ w 160 113) ∧ (w 238 (pl w c i).toNat = 4 → pl w c i + 4 ≤ w 160 113) := by
    rcases c1 with x | x | x | x <;> refine ⟨by omega, fun y => by omega, fun y => by omega⟩
  exact ⟨by omega, b2 i (by omega) (by omega), this⟩
theorem mr_sort (V : VS_ h) (M : MC h c k w) {i : Int} (hi : 0 ≤ i ∧ i ≤ 255) : Ok_ (qf_X13_sortOf nn i h) (fun u => (0 ≤ u ∧ u ≤ 255) ∧ (¬ u = 0 → SRT w c i u)) := by
  obtain ⟨hc, hk, W, e1, _⟩ := M
  unfold qf_X13_sortOf
  rw [e1]
  refine ok_if (fun _ => ok_ret ⟨by omega, fun y => absurd rfl y⟩) (fun C => ?_)
  refine ok_rd (by omega) (gA_229 V) ?_; intro v3 e3 _ _
  rw [W.2.2.2.2.1] at e3
  refine ok_if (fun _ => ok_ret ⟨by omega, fun y => absurd rfl y⟩) (fun D => ?_)
  obtain ⟨a1, a2, a3, _⟩ := wi_cs W hc (i := i) (by omega)
  refine ok_mul (by omega) ?_; intro v7 e7
  refine ok_add (by omega) ?_; intro v8 e8
  refine ok_rd (by omega) (gA_228 V) ?_; intro v9 e9 _ _
  rw [e8, e7, a2] at e9
  refine ok_sv (mv_bytew V hc W (by omega)) ?_; intro u11 P11
  exact ok_ret ⟨P11.2, fun _ => ⟨by omega, by rw [P11.1, e9]⟩⟩
theorem mr_part (V : VS_ h) (M : MC h c k w) {i j : Int} (s : SRT w c i 4) (hj : 0 ≤ j ∧ j ≤ 2) : Ok_ (qf_X13_partOf nn i j h) (fun u => u = w 238 (pl w c i + 1 + j).toNat ∧ (0 ≤ u ∧ u ≤ 255)) := by
  obtain ⟨hc, hk, W, e1, _⟩ := M
  have g3 := gF_160_113 W.1
  obtain ⟨a1, a2, a3, _, a5⟩ := wi_cs W hc s.1
  have a5 := a5 s.2
  unfold qf_X13_partOf
  rw [e1]
  refine ok_mul (by omega) ?_; intro v4 e4
  refine ok_add (by have := s.1; omega) ?_; intro v5 e5
  refine ok_rd (by have := s.1; omega) (gA_228 V) ?_; intro v6 e6 _ _
  rw [e5, e4, a2] at e6
  refine ok_add (by omega) ?_; intro v7 e7
  refine ok_add (by omega) ?_; intro v8 e8
  refine ok_sv (mv_bytew V hc W (by omega)) ?_; intro u10 P10
  rw [e8, e7, e6] at P10
  exact ok_ret P10
/-- what a member's constant leads to: class u, found in class b as member j, of sort s (0 field, 1 method) -/
def MRF (nn : Nat) (h : ms_M) (ω : Int → ms_M) (c : Int) (w : ms_M) (i s u b j : Int) : Prop := SRT w c i 4 ∧ ((0 ≤ u ∧ u < 8 + h 160 98) ∧ CTv nn h c w (w 238 (pl w c i + 1 + 0).toNat) (4 + 2 * u)) ∧ HSn nn h ω w c (w 238 (pl w c i + 1 + 1).toNat) s 17 u b j ∧ (8 ≤ b ∧ b < 8 + h 160 98) ∧ (0 ≤ j ∧ j < mem h (b - 8) s) ∧ EQT (ω (b - 8)) (b - 8) (kdT h ω (b - 8) s j) w c (w 238 (pl w c i + 1 + 2).toNat)
/-- the constant that instruction op with operand i uses is right -/
def RGT (nn : Nat) (h : ms_M) (ω : Int → ms_M) (c : Int) (w : ms_M) (op i : Int) : Prop := (op = 18 → SRT w c i 2) ∧ ((op = 187 ∨ op = 189 ∨ op = 192 ∨ op = 193) → CL w c i ∧ ∃ u : Int, (0 ≤ u ∧ u < 8 + h 160 98) ∧ CTv nn h c w i (4 + 2 * u)) ∧ ((op = 180 ∨ op = 181) → ∃ u b j : Int, MRF nn h ω c w i 0 u b j) ∧ ((op = 182 ∨ op = 184) → ∃ u b j : Int, MRF nn h ω c w i 1 u b j ∧ ω (b - 8) 238 (h 235 (12 * (b - 8) + j).toNat).toNat = (if op = 184 then 1 else 0))
/-- what right leaves -/
def RQ (h : ms_M) (F : Prop) (u : Int × ms_M) : Prop := VS_ u.2 ∧ NZ h u.2 ∧ OI u.2 ∧ ((u.1 = 1 ∧ (∀ x j : Nat, ¬ (x = 160 ∧ (j = 120 ∨ j = 121)) → u.2 x j = h x j) ∧ F) ∨ (u.1 = 0 ∧ u.2 160 117 ≤ h 160 117 + 1))
theorem rq_0 {F : Prop} (V : VS_ r) (N : NZ h r) (O : OI r) (e : r 160 117 ≤ h 160 117 + 1) : Ok_ (some ((0 : Int), r)) (RQ h F) := ok_ret ⟨V, N, O, .inr ⟨rfl, e⟩⟩
theorem mr_131 (hn : 1000000 ≤ nn) (V : VS_ h) (S : SPD h) (O : OI h) (room : h 160 117 ≤ 2090) (M : MC h c k w) {i : Int} (hi : 0 ≤ i ∧ i ≤ 255) : Ok_ (qj_X13_right_131 nn i h) (RQ h (CL w c i ∧ ∃ u : Int, (0 ≤ u ∧ u < 8 + h 160 98) ∧ CTv nn h c w i (4 + 2 * u))) := by
  have M0 := M
  obtain ⟨hc, hk, W, e1, _⟩ := M
  have g98 := gF_160_98 V
  unfold qj_X13_right_131
  rw [e1]
  refine ok_sv (mr_sort V M0 hi) ?_; intro u43 P43
  refine ok_if (fun C => ?_) (fun C => rq_0 V nz_rf O (by omega))
  have cl : CL w c i := by
    have := P43.2 (by omega)
    rw [C] at this
    exact this
  refine ok_sv (rq_typeOf hn V S O (by omega) hc W cl) ?_; intro u46 P46
  obtain ⟨tr, F⟩ := P46
  have b46 := tr_rg V tr
  have t4 := tr.2.2.2
  refine ok_sv (rv_there b46) ?_; intro u47 P47
  refine ok_if (fun _ => rq_0 tr.1 (nz_ny tr.2.1) tr.2.2.1 (by omega)) (fun D => ?_)
  refine ok_sv (mr_row b46.1) ?_; intro u48 P48
  refine ok_if (fun _ => rq_0 tr.1 (nz_ny tr.2.1) tr.2.2.1 (by omega)) (fun E => ?_)
  obtain ⟨N, cf, ct⟩ := F (by omega)
  have nr : ¬ (u46.1 = 3 ∨ (4 ≤ u46.1 ∧ u46.1 % 2 = 1)) := by
    rcases P48 with P | P
    · exfalso; omega
    · exact P.2
  obtain ⟨u, ub, eu⟩ := ctv_nr ct nr
  exact ok_ret ⟨tr.1, nz_ny tr.2.1, tr.2.2.1, .inl ⟨rfl, fun x j y => N x j (by omega), cl, u, ub, by rw [← eu]; exact ct⟩⟩
theorem mr_187 (hn : 1000000 ≤ nn) (V : VS_ h) (S : SPD h) (OW : OM h ω) (O : OI h) (room : h 160 117 ≤ 2090) (M : MC h c k w) {i op : Int} (hi : 0 ≤ i ∧ i ≤ 255) : Ok_ (qj_X13_right_187 nn op i h) (RQ h ((op ≤ 181 → ∃ u b j : Int, MRF nn h ω c w i 0 u b j) ∧ (181 < op → ∃ u b j : Int, MRF nn h ω c w i 1 u b j ∧ ω (b - 8) 238 (h 235 (12 * (b - 8) + j).toNat).toNat = (if op = 184 then 1 else 0)))) := by
  have M0 := M
  obtain ⟨hc, hk, W, e1, _⟩ := M
  have g98 := gF_160_98 V
  unfold qj_X13_right_187
  rw [e1]
  refine ok_sv (mr_sort V M0 hi) ?_; intro u30 P30
  refine ok_if (fun C => ?_) (fun C => rq_0 V nz_rf O (by omega))
  have st : SRT w c i 4 := by
    have := P30.2 (by omega)
    rw [C] at this
    exact this
  have ck := (W.2.1.2.2 i st.1.1 st.1.2).2 st.2
  refine ok_sv (mr_part V M0 st (by omega)) ?_; intro u33 P33
  have q33 := P33.1
  have cl : CL w c u33 := by rw [q33, show pl w c i + 1 + 0 = pl w c i + 1 by omega]; exact ck.1
  refine ok_sv (rq_typeOf hn V S O (by omega) hc W cl) ?_; intro u35 P35
  obtain ⟨tr, F⟩ := P35
  have b35 := tr_rg V tr
  have t4 := tr.2.2.2
  have no : Ok_ (some ((0 : Int), u35.2)) (RQ h ((op ≤ 181 → ∃ u b j : Int, MRF nn h ω c w i 0 u b j) ∧ (181 < op → ∃ u b j : Int, MRF nn h ω c w i 1 u b j ∧ ω (b - 8) 238 (h 235 (12 * (b - 8) + j).toNat).toNat = (if op = 184 then 1 else 0)))) := rq_0 tr.1 (nz_ny tr.2.1) tr.2.2.1 (by omega)
  refine ok_sv (mr_row b35.1) ?_; intro u36 P36
  refine ok_if (fun _ => no) (fun D => ?_)
  refine ok_sv (rv_there b35) ?_; intro u37 P37
  refine ok_if (fun E => ?_) (fun _ => no)
  obtain ⟨N, cf, ct⟩ := F (by omega)
  have nr : ¬ (u35.1 = 3 ∨ (4 ≤ u35.1 ∧ u35.1 % 2 = 1)) := by
    rcases P36 with P | P
    · exfalso; omega
    · exact P.2
  obtain ⟨u, ub, eu⟩ := ctv_nr ct nr
  rw [q33, eu] at ct
  have A := n12_agd N
  have V3 := tr.1
  have M3 : MC u35.2 c k w := nfl_mc (nfl_12 N) M0
  have f117 : u35.2 160 117 = h 160 117 := N 160 117 (by decide)
  have f98 : u35.2 160 98 = h 160 98 := N 160 98 (by decide)
  have OW3 := om_k A OW
  have J : ∀ s : Int, (s = 0 ∨ s = 1) → (s = 0 ↔ op ≤ 181) → Ok_ (qj_X13_right_244 nn op i u35.1 s u35.2) (RQ h ((op ≤ 181 → ∃ u b j : Int, MRF nn h ω c w i 0 u b j) ∧ (181 < op → ∃ u b j : Int, MRF nn h ω c w i 1 u b j ∧ ω (b - 8) 238 (h 235 (12 * (b - 8) + j).toNat).toNat = (if op = 184 then 1 else 0)))) := fun s hs so => by
    unfold qj_X13_right_244
    rw [M3.2.2.2.1]
    refine ok_sub (by omega) ?_; intro v2 e2
    refine ok_xl ?_; intro v3 e3
    have ev : v3 = u := by
      rw [e3, Int.tdiv_eq_ediv_of_nonneg (show 0 ≤ v2 by omega)]
      omega
    rw [ev]
    refine ok_sv (mr_part V3 M3 st (by omega)) ?_; intro u6 P6
    have q6 := P6.1
    have t6 : TX w c u6 := by rw [q6, show pl w c i + 1 + 1 = pl w c i + 2 by omega]; exact ck.2.1.1
    refine ok_sv (rt_holder hn V3 (agd_spd V A S) OW3 hc M3.2.2.1 (s := s) (by omega) t6) ?_; intro u8 P8
    obtain ⟨j, hs8, P8⟩ := P8
    rcases P8 with ⟨p1, p2⟩ | ⟨p1, p2, p3⟩
    · rw [if_neg (show ¬ ¬ u8.1 = -1 by omega), p2]
      exact no
    rw [if_pos (show ¬ u8.1 = -1 by omega)]
    refine ok_sub (by omega) ?_; intro v9 e9
    rw [← e9] at p2
    have hd : 0 ≤ v9 ∧ v9 ≤ 7 := by omega
    have X := OW3 v9 (by omega) (by omega)
    have V8 : VS_ u8.2 := by
      have j12 : j < 12 := by
        rcases hs with q | q
        · rw [q] at p2
          exact (wi_fd X hd p2).1
        · rw [q] at p2
          exact (wi_mt X hd p2).1
      rw [p3]; exact wF_160_121 V3 (by omega)
    have N8 : ∀ x y : Nat, ¬ (x = 160 ∧ (y = 120 ∨ y = 121)) → u8.2 x y = h x y := fun x y p => by rw [p3, up_n (by omega)]; exact N x y (by omega)
    have B8 : NFl h u8.2 := fun x y p _ => N8 x y (by omega)
    have Z8 : NZ h u8.2 := fun x y p _ _ => N8 x y (by omega)
    have A8 := nfl_agd B8
    have O8 : OI u8.2 := nfl_oi B8 O
    have f121 : u8.2 160 121 = j := by rw [p3, up_s]
    have M8 : MC u8.2 c k w := nfl_mc B8 M0
    have OW8 := om_k A8 OW
    have X8 := OW8 v9 (by omega) (by rw [A8.2.1]; omega)
    have e117 : u8.2 160 117 ≤ h 160 117 + 1 := by have := N8 160 117 (by decide); omega
    have no8 : Ok_ (some ((0 : Int), u8.2)) (RQ h ((op ≤ 181 → ∃ u b j : Int, MRF nn h ω c w i 0 u b j) ∧ (181 < op → ∃ u b j : Int, MRF nn h ω c w i 1 u b j ∧ ω (b - 8) 238 (h 235 (12 * (b - 8) + j).toNat).toNat = (if op = 184 then 1 else 0)))) := rq_0 V8 Z8 O8 e117
    have m8 : mem u8.2 v9 s = mem u35.2 v9 s := by rw [mem_c A8, mem_c A]
    rw [f121, M8.2.2.2.1]
    refine ok_sv (rt_kind V8 hd X8 (s := s) (k := j) (by rw [m8]; exact p2)) ?_; intro u12 P12
    refine ok_sv (mr_part V8 M8 st (by omega)) ?_; intro u15 P15
    have q15 := P15.1
    have t15 : TX w c u15 := by rw [q15, show pl w c i + 1 + 2 = pl w c i + 3 by omega]; exact ck.2.2.1
    have t12 : TX (ω v9) v9 u12 := by
      rcases hs with q | q
      · exact (P12.2.1 q).1
      · exact (P12.2.2 (by omega)).1
    refine ok_sv (rt_same hn V8 hd hc X8 M8.2.2.1 t12 t15) ?_; intro u17 P17
    refine ok_if (fun Y => ?_) (fun _ => no8)
    have eq : EQT (ω v9) v9 (kdT h ω v9 s j) w c (w 238 (pl w c i + 1 + 2).toNat) := by
      rcases P17 with P | P
      · have q := P.2
        rw [P12.1, kdT_c A8, q15] at q
        exact q
      · exact absurd P.1 Y
    have mr : MRF nn h ω c w i s u u8.1 j := by
      refine ⟨st, ⟨ub, ct⟩, ?_, by omega, ?_, ?_⟩
      · have := hsn_c (agd_sy A) _ _ _ _ hs8
        rw [q6] at this
        exact this
      · rw [← e9, ← mem_c A]; exact p2
      · rw [← e9]; exact eq
    refine ok_if (fun s0 => ok_ret ⟨V8, Z8, O8, .inl ⟨rfl, N8, fun _ => ⟨u, u8.1, j, by rw [← s0]; exact mr⟩, fun y => by exfalso; omega⟩⟩) (fun s0 => ?_)
    have s1 : s = 1 := by omega
    rw [s1] at p2 mr
    have p2' : 0 ≤ j ∧ j < u8.2 234 v9.toNat := by rw [A8.1 234 _ (by decide) (by decide), ← A.1 234 _ (by decide) (by decide)]; exact p2
    obtain ⟨j12, b2, _⟩ := wi_mt X8 hd (k := j) p2'
    refine ok_mul (by omega) ?_; intro v19 e19
    refine ok_add (by omega) ?_; intro v21 e21
    refine ok_rd (by omega) (gA_235 V8) ?_; intro v22 e22 _ _
    rw [e21, e19] at e22
    rw [← e22] at b2
    refine ok_sv (mv_bytew V8 hd X8 (by omega)) ?_; intro u24 P24
    have q24 : u24 = ω v9 238 (h 235 (12 * v9 + j).toNat).toNat := by rw [P24.1, e22, A8.1 235 _ (by decide) (by decide)]
    rw [e9] at q24
    have fin : ∀ y : Int, y = (if op = 184 then 1 else 0) → Ok_ (qj_X13_right_356 nn y u24 u8.2) (RQ h ((op ≤ 181 → ∃ u b j : Int, MRF nn h ω c w i 0 u b j) ∧ (181 < op → ∃ u b j : Int, MRF nn h ω c w i 1 u b j ∧ ω (b - 8) 238 (h 235 (12 * (b - 8) + j).toNat).toNat = (if op = 184 then 1 else 0)))) := fun y ey => by
      unfold qj_X13_right_356
      refine ok_if (fun _ => no8) (fun z => ok_ret ⟨V8, Z8, O8, .inl ⟨rfl, N8, fun y => by exfalso; omega, fun _ => ⟨u, u8.1, j, mr, ?_⟩⟩⟩)
      rw [← q24, ← ey]; exact Decidable.not_not.1 z
    refine ok_if (fun y => fin 0 ?_) (fun y => fin 1 ?_)
    · rw [if_neg y]
    · rw [if_pos (Decidable.not_not.1 y)]
  refine ok_if (fun y => J 0 (.inl rfl) ⟨fun _ => y, fun _ => rfl⟩) (fun y => J 1 (.inr rfl) ⟨fun z => by exfalso; omega, fun z => absurd z y⟩)
/-- right is safe, and tells -/
theorem mr_right (hn : 1000000 ≤ nn) (V : VS_ h) (S : SPD h) (OW : OM h ω) (O : OI h) (room : h 160 117 ≤ 2090) (M : MC h c k w) {q : Int} (hq : 0 ≤ q) (hw : q + WD (w 238 (h 160 134 + q).toNat) ≤ h 160 135) (hw1 : 1 ≤ WD (w 238 (h 160 134 + q).toNat)) : Ok_ (qf_X13_right nn q h) (RQ h (RGT nn h ω c w (w 238 (h 160 134 + q).toNat) (if WD (w 238 (h 160 134 + q).toNat) = 2 then w 238 (h 160 134 + (q + 1)).toNat else 0))) := by
  have cd := mc_code M
  have J : ∀ op i : Int, (0 ≤ i ∧ i ≤ 255) → Ok_ (qj_X13_right_25 nn op i h) (RQ h (RGT nn h ω c w op i)) := fun op i hi => by
    have yes : ¬ op = 18 → ¬ (op = 187 ∨ op = 189 ∨ op = 192 ∨ op = 193) → ¬ (op = 180 ∨ op = 181) → ¬ (op = 182 ∨ op = 184) → Ok_ (some ((1 : Int), h)) (RQ h (RGT nn h ω c w op i)) := fun a b d e => ok_ret ⟨V, nz_rf, O, .inl ⟨rfl, fun _ _ _ => rfl, fun y => absurd y a, fun y => absurd y b, fun y => absurd y d, fun y => absurd y e⟩⟩
    have c1 : (op = 187 ∨ op = 189 ∨ op = 192 ∨ op = 193) → Ok_ (qj_X13_right_131 nn i h) (RQ h (RGT nn h ω c w op i)) := fun y => ok_im (mr_131 hn V S O room M hi) (fun u P => ⟨P.1, P.2.1, P.2.2.1, by
      rcases P.2.2.2 with ⟨a, b, d⟩ | P
      · exact .inl ⟨a, b, fun z => by exfalso; omega, fun _ => d, fun z => by exfalso; omega, fun z => by exfalso; omega⟩
      · exact .inr P⟩)
    have c2 : (op = 180 ∨ op = 181 ∨ op = 182 ∨ op = 184) → Ok_ (qj_X13_right_187 nn op i h) (RQ h (RGT nn h ω c w op i)) := fun y => ok_im (mr_187 hn V S OW O room M hi) (fun u P => ⟨P.1, P.2.1, P.2.2.1, by
      rcases P.2.2.2 with ⟨a, b, d1, d2⟩ | P
      · exact .inl ⟨a, b, fun z => by clear d1 d2; exfalso; omega, fun z => by clear d1 d2; exfalso; omega, fun z => d1 (by clear d1 d2; omega), fun z => d2 (by clear d1 d2; omega)⟩
      · exact .inr P⟩)
    unfold qj_X13_right_25
    refine ok_if (fun y => ?_) (fun n18 => ?_)
    · refine ok_sv (mr_sort V M hi) ?_; intro u53 P53
      refine ok_if (fun _ => rq_0 V nz_rf O (by omega)) (fun z => ok_ret ⟨V, nz_rf, O, .inl ⟨rfl, fun _ _ _ => rfl, fun _ => ?_, fun z => by exfalso; omega, fun z => by exfalso; omega, fun z => by exfalso; omega⟩⟩)
      have z : u53 = 2 := Decidable.not_not.1 z
      have := P53.2 (by omega)
      rw [z] at this
      exact this
    refine ok_if (fun y => c2 (by omega)) (fun n0 => ?_)
    refine ok_if (fun y => c2 (by omega)) (fun n1 => ?_)
    refine ok_if (fun y => c2 (by omega)) (fun n2 => ?_)
    refine ok_if (fun y => c2 (by omega)) (fun n4 => ?_)
    refine ok_if (fun y => c1 (by omega)) (fun n7 => ?_)
    refine ok_if (fun y => ?_) (fun n8 => ?_)
    · exact ok_if (fun _ => rq_0 V nz_rf O (by omega)) (fun _ => yes (by omega) (by omega) (by omega) (by omega))
    refine ok_if (fun y => c1 (by omega)) (fun n9 => ?_)
    refine ok_if (fun y => c1 (by omega)) (fun n92 => ?_)
    refine ok_if (fun y => c1 (by omega)) (fun n93 => ?_)
    exact yes (by omega) (by omega) (by omega) (by omega)
  unfold qf_X13_right
  refine ok_sv (mv_code V M (by omega)) ?_; intro u57 P57
  rw [← P57.1] at hw hw1 ⊢
  refine ok_sv mw_width ?_; intro u58 P58
  have q58 := P58.1
  refine ok_if (fun y => ?_) (fun y => ?_)
  · rw [if_neg (show ¬ WD u57 = 2 by omega)]
    exact J u57 0 (by omega)
  · rw [if_pos (show WD u57 = 2 by omega)]
    refine ok_add (by omega) ?_; intro v59 e59
    refine ok_sv (mv_code V M (by omega)) ?_; intro u61 P61
    rw [e59] at P61
    rw [← P61.1]
    exact J u57 u61 P61.2
end
end
section
section
variable {nn : Nat} {h g r z w v x : ms_M} {c d e k : Int} {ω : Int → ms_M}
/-- n bytes alike -/
def EB (f l : Nat → Int) (a b n : Int) : Prop := ∀ m : Int, 0 ≤ m → m < n → f (a + m).toNat = l (b + m).toNat
theorem kn_p {f l : Nat → Int} {a b n m q : Int} (E : EB f l a b n) (m0 : 0 ≤ m) (q0 : q ≤ n) (K : KN f (a + m) (a + q)) : KN l (b + m) (b + q) := by
  obtain ⟨k1, k2, k3, k4⟩ := K
  refine ⟨by rw [← E m m0 (by omega)]; exact k1, ⟨by omega, fun i i1 i2 => ?_⟩, ?_, fun i i1 i2 => ?_⟩
  · have y := k2.2 i i1 (by omega)
    rw [show a + m + 1 + i = a + (m + 1 + i) by omega, E (m + 1 + i) (by omega) (by omega)] at y
    rw [show b + m + 1 + i = b + (m + 1 + i) by omega]; exact y
  · rw [show b + q - 1 = b + (q - 1) by omega, ← E (q - 1) (by omega) (by omega), show a + (q - 1) = a + q - 1 by omega]; exact k3
  · have y := k4 (a + (i - b)) (by omega) (by omega)
    rw [E (i - b) (by omega) (by omega), show b + (i - b) = i by omega] at y
    exact y
theorem kk_p {f l : Nat → Int} {a b n m q : Int} (E : EB f l a b n) (m0 : 0 ≤ m) (q0 : q ≤ n) (K : KK f (a + m) (a + q)) : KK l (b + m) (b + q) := by
  rcases K with K | K
  · exact .inl ⟨by rw [← E m m0 (by omega)]; exact K.1, by omega⟩
  · exact .inr (kn_p E m0 q0 K)
theorem kd_p {f l : Nat → Int} {a b n m q : Int} (E : EB f l a b n) (m0 : 0 ≤ m) (q0 : q ≤ n) (K : KD f (a + m) (a + q)) : KD l (b + m) (b + q) := by
  have lt := kd_lt K
  have e0 := E m m0 (by omega)
  rcases K with K | K | K
  · exact .inl ⟨by rw [← e0]; exact K.1, by omega⟩
  · exact .inr (.inl ⟨by rw [← e0]; exact K.1, kk_p E m0 q0 K.2⟩)
  · refine .inr (.inr ⟨by rw [← e0]; exact K.1, ?_⟩)
    have y := K.2
    rw [show a + m + 1 = a + (m + 1) by omega] at y
    rw [show b + m + 1 = b + (m + 1) by omega]
    exact kk_p E (by omega) q0 y
theorem rtk_p {f l : Nat → Int} {a b n m q : Int} (E : EB f l a b n) (m0 : 0 ≤ m) (q0 : q ≤ n) (K : RTk f (a + m) (a + q)) : RTk l (b + m) (b + q) := by
  rcases K with K | K
  · exact .inl ⟨by rw [← E m m0 (by omega)]; exact K.1, by omega⟩
  · exact .inr (kd_p E m0 q0 K)
/-- the bytes of an image in the space -/
theorem eb_sb (X : WI h d v) (W : WI h c w) (hd : 0 ≤ d ∧ d ≤ 7) (hc : 0 ≤ c ∧ c ≤ 7) {a b n m l : Int} (E : EB (v 238) (w 238) a b n) (a0 : 0 ≤ a ∧ a + n ≤ v 160 113) (b0 : 0 ≤ b ∧ b + n ≤ w 160 113) (hm : 0 ≤ m ∧ m + l ≤ n) (hl : 0 ≤ l ∧ l ≤ 255) : SB h (6000 * d + (a + m)) (6000 * c + (b + m)) l := by
  have g1 := gF_160_113 X.1
  have g2 := gF_160_113 W.1
  refine ⟨by omega, by omega, hl, fun i i1 i2 => ?_⟩
  rw [show 6000 * d + (a + m) + i = 6000 * d + (a + m + i) by omega, show 6000 * c + (b + m) + i = 6000 * c + (b + m + i) by omega, X.2.2.1 _ (by omega) (by omega), W.2.2.1 _ (by omega) (by omega)]
  have y := E (m + i) (by omega) (by omega)
  rw [show a + (m + i) = a + m + i by omega, show b + (m + i) = b + m + i by omega] at y
  exact y
theorem ktv_p (X : WI h d v) (W : WI h c w) (hd : 0 ≤ d ∧ d ≤ 7) (hc : 0 ≤ c ∧ c ≤ 7) {a b n m q t : Int} (E : EB (v 238) (w 238) a b n) (a0 : 0 ≤ a ∧ a + n ≤ v 160 113) (b0 : 0 ≤ b ∧ b + n ≤ w 160 113) (m0 : 0 ≤ m) (q0 : q ≤ n) (R : RTk (v 238) (a + m) (a + q)) (K : KTv nn h d (v 238) (a + m) (a + q) t) : KTv nn h c (w 238) (b + m) (b + q) t := by
  have lt : m < q := by
    rcases R with R | R
    · omega
    · have := kd_lt R; omega
  have e0 := E m m0 (by omega)
  rcases K with K | K | ⟨k1, u, k2, k3⟩ | ⟨k1, k2, k3⟩ | ⟨k1, k2, u, k3, k4⟩
  · exact .inl ⟨by rw [← e0]; exact K.1, K.2⟩
  · exact .inr (.inl ⟨by rw [← e0]; exact K.1, K.2⟩)
  · have kn : KN (v 238) (a + m) (a + q) := by
      rcases R with R | R | ⟨_, R⟩ | R
      · exfalso; omega
      · exfalso; omega
      · rcases R with R | R
        · exfalso; omega
        · exact R
      · exfalso; omega
    have b3 := kn.2.1
    refine .inr (.inr (.inl ⟨by rw [← e0]; exact k1, u, ?_, k3⟩))
    have s := eb_sb X W hd hc E a0 b0 (m := m + 1) (l := q - m - 2) (by omega) (by omega)
    rw [show 6000 * d + (a + (m + 1)) = 6000 * d + (a + m) + 1 by omega, show 6000 * c + (b + (m + 1)) = 6000 * c + (b + m) + 1 by omega] at s
    rw [show a + q - (a + m) - 2 = q - m - 2 by omega] at k2
    rw [show b + q - (b + m) - 2 = q - m - 2 by omega]
    exact cn_p s k2
  · have : m + 1 < n := by
      rcases R with R | R | ⟨_, R⟩ | R
      · exfalso; omega
      · exfalso; omega
      · rcases R with R | R
        · exfalso; omega
        · have := R.1; exfalso; omega
      · have := kk_lt R.2; omega
    refine .inr (.inr (.inr (.inl ⟨by rw [← e0]; exact k1, ?_, k3⟩)))
    rw [show b + m + 1 = b + (m + 1) by omega, ← E (m + 1) (by omega) (by omega), show a + (m + 1) = a + m + 1 by omega]; exact k2
  · have kn : KN (v 238) (a + m + 1) (a + q) := by
      rcases R with R | R | ⟨_, R⟩ | R
      · exfalso; omega
      · exfalso; omega
      · rcases R with R | R
        · exfalso; omega
        · have := R.1; exfalso; omega
      · rcases R.2 with R | R
        · exfalso; omega
        · exact R
    have b3 := kn.2.1
    refine .inr (.inr (.inr (.inr ⟨by rw [← e0]; exact k1, ?_, u, ?_, k4⟩)))
    · rw [show b + m + 1 = b + (m + 1) by omega, ← E (m + 1) (by omega) (by omega), show a + (m + 1) = a + m + 1 by omega]; exact k2
    have s := eb_sb X W hd hc E a0 b0 (m := m + 2) (l := q - m - 3) (by omega) (by omega)
    rw [show 6000 * d + (a + (m + 2)) = 6000 * d + (a + m) + 2 by omega, show 6000 * c + (b + (m + 2)) = 6000 * c + (b + m) + 2 by omega] at s
    rw [show a + q - (a + m) - 3 = q - m - 3 by omega] at k3
    rw [show b + q - (b + m) - 3 = q - m - 3 by omega]
    exact cn_p s k3
/-- n parameters from p to q: their types are L from i on -/
def PVn (nn : Nat) (h : ms_M) (c : Int) (f : Nat → Int) (L : Int → Int) : Nat → Int → Int → Int → Prop
  | 0, _, p, q => p = q
  | n + 1, i, p, q => ∃ e : Int, (KD f p e ∧ KTv nn h c f p e (L i)) ∧ PVn nn h c f L n (i + 1) e q
/-- a method's kind from a to e: m parameters of types L, result t (at q + 1) -/
def MKV (nn : Nat) (h : ms_M) (c : Int) (f : Nat → Int) (a e m : Int) (L : Int → Int) (q t : Int) : Prop := (0 ≤ m ∧ m ≤ 6) ∧ PVn nn h c f L m.toNat 0 (a + 1) q ∧ f q.toNat = 41 ∧ RTk f (q + 1) e ∧ KTv nn h c f (q + 1) e t
theorem pv_lt {f : Nat → Int} {L : Int → Int} : ∀ (n : Nat) (i p q : Int), PVn nn h c f L n i p q → p + n ≤ q := by
  intro n
  induction n with
  | zero => intro i p q a; have a : p = q := a; omega
  | succ n ih =>
    intro i p q a
    obtain ⟨e, ⟨b, _⟩, d⟩ := a
    have := kd_lt b
    have := ih _ _ _ d
    omega
theorem pv_c {f : Nat → Int} {L : Int → Int} (A : AGc h g) : ∀ (n : Nat) (i p q : Int), PVn nn h c f L n i p q → PVn nn g c f L n i p q := by
  intro n
  induction n with
  | zero => intro i p q a; exact a
  | succ n ih =>
    intro i p q a
    obtain ⟨e, ⟨b, b2⟩, d⟩ := a
    exact ⟨e, ⟨b, ktv_c A b2⟩, ih _ _ _ d⟩
theorem mkv_c {f : Nat → Int} {L : Int → Int} {a e m q t : Int} (A : AGc h g) (K : MKV nn h c f a e m L q t) : MKV nn g c f a e m L q t := ⟨K.1, pv_c A _ _ _ _ K.2.1, K.2.2.1, K.2.2.2.1, ktv_c A K.2.2.2.2⟩
theorem pv_ext {f : Nat → Int} {L K : Int → Int} : ∀ (n : Nat) (i p q : Int), (∀ x : Int, i ≤ x → L x = K x) → PVn nn h c f L n i p q → PVn nn h c f K n i p q := by
  intro n
  induction n with
  | zero => intro i p q y a; exact a
  | succ n ih =>
    intro i p q y a
    obtain ⟨e, ⟨b, b2⟩, d⟩ := a
    exact ⟨e, ⟨b, by rw [← y i (by omega)]; exact b2⟩, ih _ _ _ (fun x hx => y x (by omega)) d⟩
theorem pv_of {f : Nat → Int} : ∀ (n : Nat) (i p q : Int), PFn nn h c f n p q → ∃ L : Int → Int, PVn nn h c f L n i p q := by
  intro n
  induction n with
  | zero => intro i p q a; exact ⟨fun _ => 0, a⟩
  | succ n ih =>
    intro i p q a
    obtain ⟨e, ⟨b, b2⟩, d⟩ := a
    obtain ⟨L, y⟩ := ih (i + 1) _ _ d
    obtain ⟨t, kt⟩ := ktv_ex (.inr b) b2
    refine ⟨fun x => if x = i then t else L x, e, ⟨b, ?_⟩, pv_ext _ _ _ _ (fun x hx => ?_) y⟩
    · show KTv nn h c f p e (if i = i then t else L i)
      rw [if_pos rfl]; exact kt
    · rw [if_neg (show ¬ x = i by omega)]
theorem mkv_of {f : Nat → Int} {a e : Int} (K : MKF nn h c f a e) : ∃ (m : Int) (L : Int → Int) (q t : Int), MKV nn h c f a e m L q t := by
  obtain ⟨m, q, m6, pf, f41, rt, kf⟩ := K
  obtain ⟨L, y⟩ := pv_of _ 0 _ _ pf
  obtain ⟨t, kt⟩ := ktv_ex rt kf
  exact ⟨m, L, q, t, by omega, by rw [show ((m : Int)).toNat = m by omega]; exact y, f41, rt, kt⟩
theorem kd_41 {f : Nat → Int} {p e : Int} (K : KD f p e) : ¬ f p.toNat = 41 := by
  rcases K with K | ⟨_, K⟩ | K
  · omega
  · rcases K with K | K
    · omega
    · have := K.1; omega
  · omega
theorem kn_det {f : Nat → Int} {p e e2 : Int} (K : KN f p e) (J : KN f p e2) : e = e2 := by
  obtain ⟨k1, k2, k3, k4⟩ := K
  obtain ⟨j1, j2, j3, j4⟩ := J
  by_cases y : e < e2
  · exact absurd k3 (j4 (e - 1) (by omega) (by omega))
  · by_cases y2 : e2 < e
    · exact absurd j3 (k4 (e2 - 1) (by omega) (by omega))
    · omega
theorem kk_det {f : Nat → Int} {p e e2 : Int} (K : KK f p e) (J : KK f p e2) : e = e2 := by
  rcases K with K | K <;> rcases J with J | J
  · omega
  · have := J.1; omega
  · have := K.1; omega
  · exact kn_det K J
theorem kd_det {f : Nat → Int} {p e e2 : Int} (K : KD f p e) (J : KD f p e2) : e = e2 := by
  rcases K with K | ⟨K, K2⟩ | ⟨K, K2⟩ <;> rcases J with J | ⟨J, J2⟩ | ⟨J, J2⟩
  · omega
  · rcases J2 with J2 | J2
    · omega
    · have := J2.1; omega
  · omega
  · rcases K2 with K2 | K2
    · omega
    · have := K2.1; omega
  · exact kk_det K2 J2
  · exact absurd J K
  · omega
  · exact absurd K J
  · exact kk_det K2 J2
theorem pr_41 {f : Nat → Int} : ∀ (n m : Nat) (p q q2 : Int), PRn f n p q → PRn f m p q2 → f q.toNat = 41 → f q2.toNat = 41 → n = m ∧ q = q2 := by
  intro n
  induction n with
  | zero =>
    intro m p q q2 a b f1 f2
    have a : p = q := a
    cases m with
    | zero => have b : p = q2 := b; exact ⟨rfl, by omega⟩
    | succ m =>
      obtain ⟨e, b1, _⟩ := b
      rw [← a] at f1
      exact absurd f1 (kd_41 b1)
  | succ n ih =>
    intro m p q q2 a b f1 f2
    obtain ⟨e, a1, a2⟩ := a
    cases m with
    | zero =>
      have b : p = q2 := b
      rw [← b] at f2
      exact absurd f2 (kd_41 a1)
    | succ m =>
      obtain ⟨e2, b1, b2⟩ := b
      rw [kd_det b1 a1] at b2
      obtain ⟨y1, y2⟩ := ih m _ _ _ a2 b2 f1 f2
      exact ⟨by omega, y2⟩
theorem pv_pr {f : Nat → Int} {L : Int → Int} : ∀ (n : Nat) (i p q : Int), PVn nn h c f L n i p q → PRn f n p q := by
  intro n
  induction n with
  | zero => intro i p q a; exact a
  | succ n ih =>
    intro i p q a
    obtain ⟨e, ⟨b, _⟩, d⟩ := a
    exact ⟨e, b, ih _ _ _ d⟩
theorem pv_det {f : Nat → Int} {L K : Int → Int} : ∀ (n : Nat) (i p q q2 : Int), PVn nn h c f L n i p q → PVn nn h c f K n i p q2 → ∀ x : Int, i ≤ x → x < i + n → L x = K x := by
  intro n
  induction n with
  | zero => intro i p q q2 a b x x1 x2; exfalso; omega
  | succ n ih =>
    intro i p q q2 a b x x1 x2
    obtain ⟨e, ⟨a1, a2⟩, a3⟩ := a
    obtain ⟨e2, ⟨b1, b2⟩, b3⟩ := b
    rw [kd_det b1 a1] at b2 b3
    by_cases y : x = i
    · rw [y]; exact ktv_det a2 b2
    · exact ih _ _ _ _ a3 b3 x (by omega) (by omega)
theorem mkv_det {f : Nat → Int} {L K : Int → Int} {a e m m2 q q2 t t2 : Int} (A : MKV nn h c f a e m L q t) (B : MKV nn h c f a e m2 K q2 t2) : m = m2 ∧ (∀ x : Int, 0 ≤ x → x < m → L x = K x) ∧ q = q2 ∧ t = t2 := by
  obtain ⟨a0, a1, a2, a3, a4⟩ := A
  obtain ⟨b0, b1, b2, b3, b4⟩ := B
  obtain ⟨y1, y2⟩ := pr_41 _ _ _ _ _ (pv_pr _ _ _ _ a1) (pv_pr _ _ _ _ b1) a2 b2
  rw [← y2] at b4
  rw [← y1] at b1
  exact ⟨by omega, fun x x1 x2 => pv_det _ _ _ _ _ a1 b1 x x1 (by omega), y2, ktv_det a4 b4⟩
theorem pv_p (X : WI h d v) (W : WI h c w) (hd : 0 ≤ d ∧ d ≤ 7) (hc : 0 ≤ c ∧ c ≤ 7) {a b n : Int} {L : Int → Int} (E : EB (v 238) (w 238) a b n) (a0 : 0 ≤ a ∧ a + n ≤ v 160 113) (b0 : 0 ≤ b ∧ b + n ≤ w 160 113) : ∀ (l : Nat) (i m q : Int), 0 ≤ m → q ≤ n → PVn nn h d (v 238) L l i (a + m) (a + q) → PVn nn h c (w 238) L l i (b + m) (b + q) := by
  intro l
  induction l with
  | zero => intro i m q m0 q0 y; have y : a + m = a + q := y; show b + m = b + q; omega
  | succ l ih =>
    intro i m q m0 q0 y
    obtain ⟨e, ⟨y1, y2⟩, y3⟩ := y
    have lt := kd_lt y1
    have le := pv_lt _ _ _ _ y3
    obtain ⟨e', ee⟩ : ∃ e' : Int, e = a + e' := ⟨e - a, by omega⟩
    rw [ee] at y1 y2 y3
    exact ⟨b + e', ⟨kd_p E m0 (by omega) y1, ktv_p X W hd hc E a0 b0 m0 (by omega) (.inr y1) y2⟩, ih _ _ _ (by omega) q0 y3⟩
theorem mkv_p (X : WI h d v) (W : WI h c w) (hd : 0 ≤ d ∧ d ≤ 7) (hc : 0 ≤ c ∧ c ≤ 7) {a b n m q t : Int} {L : Int → Int} (E : EB (v 238) (w 238) a b n) (a0 : 0 ≤ a ∧ a + n ≤ v 160 113) (b0 : 0 ≤ b ∧ b + n ≤ w 160 113) (K : MKV nn h d (v 238) a (a + n) m L q t) : MKV nn h c (w 238) b (b + n) m L (b + (q - a)) t := by
  obtain ⟨k0, k1, k2, k3, k4⟩ := K
  have le := pv_lt _ _ _ _ k1
  have lt : q + 1 < a + n := by
    rcases k3 with R | R
    · omega
    · have := kd_lt R; omega
  obtain ⟨q', eq⟩ : ∃ q' : Int, q = a + q' := ⟨q - a, by omega⟩
  rw [eq] at k1 k2 k3 k4
  rw [show b + (q - a) = b + q' by omega]
  rw [show a + q' + 1 = a + (q' + 1) by omega] at k3 k4
  refine ⟨k0, pv_p X W hd hc E a0 b0 _ _ _ _ (by omega) (by omega) k1, ?_, ?_, ?_⟩
  · rw [← E q' (by omega) (by omega)]; exact k2
  · rw [show b + q' + 1 = b + (q' + 1) by omega]; exact rtk_p E (by omega) (by omega) k3
  · rw [show b + q' + 1 = b + (q' + 1) by omega]; exact ktv_p X W hd hc E a0 b0 (by omega) (by omega) k3 k4
/-- text i of image c as a method's kind -/
def TKV (nn : Nat) (h : ms_M) (c : Int) (w : ms_M) (i m : Int) (L : Int → Int) (q t : Int) : Prop := MKV nn h c (w 238) (pl w c i + 2) (pl w c i + 2 + w 238 (pl w c i + 1).toNat) m L q t
/-- text i of image c as a field's kind -/
def TKU (nn : Nat) (h : ms_M) (c : Int) (w : ms_M) (i t : Int) : Prop := KD (w 238) (pl w c i + 2) (pl w c i + 2 + w 238 (pl w c i + 1).toNat) ∧ KTv nn h c (w 238) (pl w c i + 2) (pl w c i + 2 + w 238 (pl w c i + 1).toNat) t
theorem eqt_eb {i j : Int} (E : EQT v d i w c j) : EB (v 238) (w 238) (pl v d i + 2) (pl w c j + 2) (v 238 (pl v d i + 1).toNat) := fun m a b => E.2 m a b
theorem tkv_p (X : WI h d v) (W : WI h c w) (hd : 0 ≤ d ∧ d ≤ 7) (hc : 0 ≤ c ∧ c ≤ 7) {i j m q t : Int} {L : Int → Int} (ti : TX v d i) (tj : TX w c j) (E : EQT v d i w c j) (K : TKV nn h d v i m L q t) : ∃ q2 : Int, TKV nn h c w j m L q2 t := by
  obtain ⟨_, _, a3, a4, _⟩ := wi_tx X hd ti
  obtain ⟨_, _, b3, b4, _⟩ := wi_tx W hc tj
  have e1 := E.1
  refine ⟨pl w c j + 2 + (q - (pl v d i + 2)), ?_⟩
  unfold TKV
  rw [← e1]
  exact mkv_p X W hd hc (eqt_eb E) (by omega) (by omega) K
theorem tku_p (X : WI h d v) (W : WI h c w) (hd : 0 ≤ d ∧ d ≤ 7) (hc : 0 ≤ c ∧ c ≤ 7) {i j t : Int} (ti : TX v d i) (tj : TX w c j) (E : EQT v d i w c j) (K : TKU nn h d v i t) : TKU nn h c w j t := by
  obtain ⟨_, _, a3, a4, _⟩ := wi_tx X hd ti
  obtain ⟨_, _, b3, b4, _⟩ := wi_tx W hc tj
  have e1 := E.1
  unfold TKU
  rw [← e1]
  have k1 := K.1
  have k2 := K.2
  have z : ∀ y : Int, y = y + 0 := fun y => by omega
  rw [z (pl v d i + 2)] at k1 k2
  rw [z (pl w c j + 2)]
  rw [show pl v d i + 2 + 0 + v 238 (pl v d i + 1).toNat = pl v d i + 2 + v 238 (pl v d i + 1).toNat by omega] at k1 k2
  rw [show pl w c j + 2 + 0 + v 238 (pl v d i + 1).toNat = pl w c j + 2 + v 238 (pl v d i + 1).toNat by omega]
  exact ⟨kd_p (eqt_eb E) (by omega) (by omega) k1, ktv_p X W hd hc (eqt_eb E) (by omega) (by omega) (by omega) (by omega) (.inr k1) k2⟩
end
end

section
variable {nn : Nat} {h g r z : ms_M} {c : Int}
theorem sr_check (hn : 1000000 ≤ nn) (V : VS_ h) (hc : h 160 115 = c) (S : CSn h c (h 229 c.toNat)) {p : Int} (P : CP h p) : Ok_ (qf_X13_checkConstant nn p h) (fun r => VS_ r ∧ NB h r ∧ (Live r → Live h ∧ CK9 h c p)) := by
  have g113 := gF_160_113 V
  obtain ⟨P0, P⟩ := P
  have pn : p + 2 ≤ h 160 113 := by
    rcases P with P | P | P | P <;> omega
  -- the end: the member's kind
  have J105 : ∀ g : ms_M, VS_ g → NB h g → h 238 p.toNat = 4 → (Live g → Live h ∧ CL h c (h 238 (p + 1).toNat) ∧ TS 0 h c (h 238 (p + 2).toNat)) → Ok_ (qj_X13_checkConstant_105 nn p g) (fun r => VS_ r ∧ NB h r ∧ (Live r → Live h ∧ CK9 h c p)) := fun g Vg N k4 lg => by
    have pn4 : p + 4 ≤ h 160 113 := by
      rcases P with P | P | P | P
      · exfalso; omega
      · exfalso; omega
      · exfalso; omega
      · exact P.2
    have K : KE8 h g c := ke_nb N
    unfold qj_X13_checkConstant_105
    refine ok_add (by omega) ?_; intro v2 e2
    refine ok_rd (by omega) (gA_238 Vg) ?_; intro v3 e3 _ _
    rw [e2, N 238 _ (by omega)] at e3
    refine ok_sv (sk_text hn Vg (c := c) (by rw [K.2.2.1]; exact hc) (by rw [K.2.2.2]; exact cs_ke K S)) ?_; intro u5 P5
    refine ok_if (fun F => ?_) (fun F => ?_)
    · refine ok_ret ⟨Vg, N, fun y => ?_⟩
      obtain ⟨y1, y2, y3⟩ := lg y
      have t := ts_ke K (P5.2 F)
      rw [e3] at t
      exact ⟨y1, fun k => by exfalso; omega, fun _ => ⟨y2, y3, t⟩⟩
    · refine ok_add (by omega) ?_; intro v6 e6
      refine ok_sv (sq_unfit Vg (by omega)) ?_; intro u8 P8
      exact ok_ret ⟨P8.1, nb_tr N P8.2.1, fun y => absurd y P8.2.2⟩
  have J82 : ∀ g : ms_M, VS_ g → NB h g → h 238 p.toNat = 4 → (Live g → Live h ∧ CL h c (h 238 (p + 1).toNat)) → Ok_ (qj_X13_checkConstant_82 nn p g) (fun r => VS_ r ∧ NB h r ∧ (Live r → Live h ∧ CK9 h c p)) := fun g Vg N k4 lg => by
    have pn4 : p + 4 ≤ h 160 113 := by
      rcases P with P | P | P | P
      · exfalso; omega
      · exfalso; omega
      · exfalso; omega
      · exact P.2
    have K : KE8 h g c := ke_nb N
    unfold qj_X13_checkConstant_82
    refine ok_add (by omega) ?_; intro v2 e2
    refine ok_rd (by omega) (gA_238 Vg) ?_; intro v3 e3 _ _
    rw [e2, N 238 _ (by omega)] at e3
    refine ok_sv (sk_text hn Vg (c := c) (by rw [K.2.2.1]; exact hc) (by rw [K.2.2.2]; exact cs_ke K S)) ?_; intro u5 P5
    refine ok_if (fun F => ?_) (fun F => ?_)
    · refine J105 g Vg N k4 (fun y => ?_)
      obtain ⟨y1, y2⟩ := lg y
      have t := ts_ke K (P5.2 F)
      rw [e3] at t
      exact ⟨y1, y2, t⟩
    · refine ok_add (by omega) ?_; intro v6 e6
      refine ok_sv (sq_unfit Vg (by omega)) ?_; intro u8 P8
      exact J105 u8 P8.1 (nb_tr N P8.2.1) k4 (fun y => absurd y P8.2.2)
  have J75 : ∀ g : ms_M, VS_ g → NB h g → h 238 p.toNat = 4 → Ok_ (qj_X13_checkConstant_75 nn p g) (fun r => VS_ r ∧ NB h r ∧ (Live r → Live h ∧ CK9 h c p)) := fun g Vg N k4 => by
    unfold qj_X13_checkConstant_75
    refine ok_add (by omega) ?_; intro v6 e6
    refine ok_sv (sq_unfit Vg (by omega)) ?_; intro u8 P8
    exact J82 u8 P8.1 (nb_tr N P8.2.1) k4 (fun y => absurd y P8.2.2)
  have J33 : ∀ g : ms_M, VS_ g → NB h g → (Live g → Live h ∧ (h 238 p.toNat = 3 → TS 4 h c (h 238 (p + 1).toNat))) → Ok_ (qj_X13_checkConstant_33 nn p g) (fun r => VS_ r ∧ NB h r ∧ (Live r → Live h ∧ CK9 h c p)) := fun g Vg N lg => by
    have K : KE8 h g c := ke_nb N
    unfold qj_X13_checkConstant_33
    refine ok_rd (by omega) (gA_238 Vg) ?_; intro v23 e23 _ _
    rw [N 238 _ (by omega)] at e23
    refine ok_if (fun F => ?_) (fun F => ok_ret ⟨Vg, N, fun y => ⟨(lg y).1, (lg y).2, fun k => by exfalso; omega⟩⟩)
    have k4 : h 238 p.toNat = 4 := by omega
    refine ok_add (by omega) ?_; intro v26 e26
    refine ok_rd (by omega) (gA_238 Vg) ?_; intro v27 e27 _ _
    rw [e26, N 238 _ (by omega)] at e27
    have g115 := gF_160_115 Vg
    refine ok_sv (sq_const Vg (c := g 160 115) (by omega)) ?_; intro u29 P29
    refine ok_if (fun _ => J75 g Vg N k4) (fun D => ?_)
    rcases P29 with P29 | ⟨P29, P30, P31, P32⟩
    · exfalso; omega
    have ec : g 160 115 = c := by rw [K.2.2.1]; exact hc
    rw [ec] at P29 P30
    rw [K.2.2.2] at P29
    have s := S v27 P29.1 P29.2
    rw [← pl_ke K, ← P30] at s
    have sb : u29 < h 160 113 := by
      obtain ⟨s0, s⟩ := s
      rcases s with s | s | s | s <;> omega
    refine ok_rd (by omega) (gA_238 Vg) ?_; intro v31 e31 _ _
    refine ok_if (fun E => ?_) (fun _ => J75 g Vg N k4)
    refine J82 g Vg N k4 (fun y => ⟨(lg y).1, ?_⟩)
    rw [← e27]
    exact ⟨P29, by rw [← pl_ke K, ← P30, ← N 238 _ (by omega)]; omega⟩
  unfold qf_X13_checkConstant
  refine ok_rd (by omega) (gA_238 V) ?_; intro v36 e36 _ _
  refine ok_if (fun F => J33 h V nb_rf (fun y => ⟨y, fun k => by exfalso; omega⟩)) (fun F => ?_)
  refine ok_add (by omega) ?_; intro v38 e38
  refine ok_rd (by omega) (gA_238 V) ?_; intro v39 e39 _ _
  rw [e38] at e39
  refine ok_sv (sk_text hn V hc S) ?_; intro u41 P41
  refine ok_if (fun G => ?_) (fun G => ?_)
  · refine J33 h V nb_rf (fun y => ⟨y, fun _ => ?_⟩)
    rw [← e39]; exact P41.2 G
  · refine ok_add (by omega) ?_; intro v42 e42
    refine ok_sv (sq_unfit V (by omega)) ?_; intro u44 P44
    exact J33 u44 P44.1 P44.2.1 (fun y => absurd y P44.2.2)
theorem sr_210 (hn : 1000000 ≤ nn) (V0 : VS_ h) (hc : 0 ≤ c ∧ c ≤ 7) (B : Live h → SI9 h c) {l3 : Int} (S : ST8 h g c) (a : 3 ≤ l3 ∧ l3 ≤ 6300) (l : Live g → CL h c (h 238 l3.toNat)) : Ok_ (qj_X13_scan_210 nn c l3 g) (QR9 c h) := by
  have g113 := gF_160_113 V0
  have K := S.2.1
  unfold qj_X13_scan_210
  refine ok_add (by omega) ?_; intro v48 e48
  refine ok_sv (st8_byte S) ?_; intro u50 P
  obtain ⟨S50, P⟩ := P
  rcases P with ⟨p1, p2, p3, p4⟩ | ⟨p1, p2⟩
  · rw [if_neg (show ¬ u50.1 = 0 by omega), p2]
    have Bh := B (S.2.2.2 p3)
    refine ok_add (by omega) ?_; intro v52 e52
    refine ok_rd (by omega) (gA_238 S.1) ?_; intro v53 e53 _ _
    rw [e52, (K.1 _).1] at e53
    refine ok_sv (st8_class S (si9_8 Bh)) ?_; intro u55 P55
    refine ok_if (fun F => sr_243 hn V0 hc B S a (fun y => ⟨l y, by rw [← e53]; exact P55.2 F⟩)) (fun _ => ?_)
    refine ok_add (by omega) ?_; intro v56 e56
    refine ok_sv (st8_unfit S (by omega)) ?_; intro u58 P58
    exact sr_243 hn V0 hc B P58.1 a (fun y => absurd y P58.2)
  · rw [if_pos p1]
    exact sr_243 hn V0 hc B S50 a (fun y => absurd y p2)
theorem sr_183 (hn : 1000000 ≤ nn) (V0 : VS_ h) (hc : 0 ≤ c ∧ c ≤ 7) (B : Live h → SI9 h c) {l3 : Int} (a : 3 ≤ l3 ∧ l3 ≤ 6300) : Ok_ (qj_X13_scan_183 nn c l3 h) (QR9 c h) := by
  have g113 := gF_160_113 V0
  have S : ST8 h h c := st8_0 V0
  unfold qj_X13_scan_183
  refine ok_sv (st8_byte S) ?_; intro u62 P
  obtain ⟨S62, P⟩ := P
  rcases P with ⟨p1, p2, p3, p4⟩ | ⟨p1, p2⟩
  · rw [if_neg (show ¬ u62.1 = 0 by omega), p2]
    have Bh := B p3
    refine ok_rd (by omega) (gA_238 S.1) ?_; intro v64 e64 _ _
    refine ok_sv (st8_class S (si9_8 Bh)) ?_; intro u66 P66
    refine ok_if (fun F => sr_210 hn V0 hc B S a (fun _ => by rw [← e64]; exact P66.2 F)) (fun _ => ?_)
    refine ok_sv (st8_unfit S (by omega)) ?_; intro u68 P68
    exact sr_210 hn V0 hc B P68.1 a (fun y => absurd y P68.2)
  · rw [if_pos p1]
    exact sr_210 hn V0 hc B S62 a (fun y => absurd y p2)
/-- all constants name what is there -/
theorem sr_146 (hn : 1000000 ≤ nn) (V0 : VS_ h) (hc : 0 ≤ c ∧ c ≤ 7) {l2 l3 : Int} (h2 : 0 ≤ l2 ∧ l2 ≤ 255) (a : 3 ≤ l3 ∧ l3 ≤ 6300) (B : Live h → h 160 115 = c ∧ CSn h c (h 229 c.toNat) ∧ h 229 c.toNat = l2) : ∀ (k : Nat) (l4 : Int) (g : ms_M), VS_ g → NB h g → (Live g → Live h ∧ ∀ i : Int, 1 ≤ i → i < l4 → CK9 h c (pl h c i)) → (1 ≤ l4 ∧ l4 ≤ l2 + 1) → l2 + 1 - l4 < (k : Int) → Ok_ (qw_X13_scan_146 nn k c l2 l3 l4 g) (QR9 c h) := by
  intro k
  induction k with
  | zero => intro l4 g V N l b hm; exfalso; omega
  | succ k ih =>
    intro l4 g V N l b hm
    have K : KE8 h g c := ke_nb N
    have E : (Live g → SI9 g c) → Ok_ (qj_X13_scan_183 nn c l3 g) (QR9 c h) := fun w => ok_im (sr_183 hn V hc w a) (fun r q => ⟨⟨q.1.1, nta_tr (nta_8 (nt8_nb N)) q.1.2.1, q.1.2.2⟩, q.2⟩)
    unfold qw_X13_scan_146
    refine ok_if (fun C => E (fun y => ?_)) (fun C => ?_)
    · obtain ⟨y1, y2⟩ := l y
      obtain ⟨b1, b2, b3⟩ := B y1
      exact si9_ke K ⟨b1, b2, fun i i1 i2 => y2 i i1 (by omega)⟩
    · refine ok_if (fun D => E (fun y => absurd y D)) (fun D => ?_)
      have D : Live g := Classical.not_not.1 D
      obtain ⟨y1, y2⟩ := l D
      obtain ⟨b1, b2, b3⟩ := B y1
      refine ok_mul (by omega) ?_; intro v73 e73
      refine ok_add (by omega) ?_; intro v74 e74
      refine ok_rd (by omega) (gA_228 V) ?_; intro v75 e75 _ _
      have ep : v75 = pl g c l4 := by rw [e75, e74, e73]; rfl
      have cp := b2 l4 (by omega) (by omega)
      refine ok_sv (sr_check hn V (c := c) (by rw [K.2.2.1]; exact b1) (by rw [K.2.2.2]; exact cs_ke K b2) (by rw [ep, pl_ke K]; exact cp_ke K cp)) ?_; intro u77 P77
      obtain ⟨V77, N77, P77⟩ := P77
      refine ok_add (by omega) ?_; intro v78 e78
      refine ih v78 u77 V77 (nb_tr N N77) (fun y => ⟨y1, fun i i1 i2 => ?_⟩) (by omega) (by omega)
      by_cases q : i = l4
      · have ck := (P77 y).2
        rw [q]
        have kk : KE8 g h c := ⟨fun k => ⟨((K.1 k).1).symm, ((K.1 k).2).symm⟩, K.2.1.symm, K.2.2.1.symm, K.2.2.2.symm⟩
        rw [ep, pl_ke K] at ck
        exact ck9_ke kk ck
      · exact y2 i i1 (by omega)
/-- the constants, one behind the other -/
theorem sr_86 (hn : 1000000 ≤ nn) (hc : 0 ≤ c ∧ c ≤ 7) {l2 : Int} (h2 : 0 ≤ l2 ∧ l2 ≤ 255) : ∀ (k : Nat) (l3 l4 : Int) (g : ms_M), VS_ g → g 160 115 = c → (3 ≤ l3 ∧ l3 ≤ 6300) → (Live g → CSn g c (g 229 c.toNat) ∧ g 229 c.toNat = l4 - 1 ∧ l3 ≤ g 160 113) → (1 ≤ l4 ∧ l4 ≤ l2 + 1) → l2 + 1 - l4 < (k : Int) → Ok_ (qw_X13_scan_86 nn k c l2 l3 l4 g) (QR9 c g) := by
  intro k
  induction k with
  | zero => intro l3 l4 g V e a l b hm; exfalso; omega
  | succ k ih =>
    intro l3 l4 g V e5 a l b hm
    have g113 := gF_160_113 V
    unfold qw_X13_scan_86
    refine ok_if (fun C => ?_) (fun C => ?_)
    · exact sr_146 hn V hc h2 a (fun y => ⟨e5, (l y).1, by have := (l y).2.1; omega⟩) nn 1 g V nb_rf (fun y => ⟨y, fun i i1 i2 => by exfalso; omega⟩) (by omega) (by omega)
    · refine ok_if (fun D => ?_) (fun D => ?_)
      · exact sr_146 hn V hc h2 a (fun y => absurd y D) nn 1 g V nb_rf (fun y => absurd y D) (by omega) (by omega)
      · have D : Live g := Classical.not_not.1 D
        obtain ⟨s1, s2, s3⟩ := l D
        refine ok_sv (sq_byte V) ?_; intro u83 P
        obtain ⟨V83, N83, P⟩ := P
        rcases P with ⟨p1, p2, p3, p4⟩ | ⟨p1, p2⟩
        · rw [if_pos (show ¬ u83.1 = 0 by omega), p2]
          refine ok_mul (by omega) ?_; intro v85 e85
          refine ok_add (by omega) ?_; intro v86 e86
          refine ok_wA (by omega) ?_; intro h87 E87
          have V87 : VS_ h87 := by rw [E87]; exact wA_228 V (by omega)
          refine ok_wA (by omega) ?_; intro h89 E89
          have V89 : VS_ h89 := by rw [E89]; exact wA_229 V87 (by omega)
          have f : ∀ x k : Nat, ¬ (x = 228 ∧ k = v86.toNat) → ¬ (x = 229 ∧ k = c.toNat) → h89 x k = g x k := fun x k w1 w2 => by rw [E89, up_n w2, E87, up_n w1]
          have f1 : h89 228 v86.toNat = l3 := by rw [E89, up_n (by omega), E87, up_s]
          have f2 : h89 229 c.toNat = l4 := by rw [E89, up_s]
          have f3 : h89 160 113 = g 160 113 := f 160 113 (by omega) (by omega)
          refine ok_sv (sq_scanC hn V89 (by omega)) ?_; intro u91 P91
          obtain ⟨V91, N91, b91, P91⟩ := P91
          have f4 : u91.2 160 113 = g 160 113 := (N91 160 113 (by decide)).trans f3
          have f5 : u91.2 229 c.toNat = l4 := (N91 229 _ (by omega)).trans f2
          have f6 : u91.2 160 115 = c := (N91 160 115 (by decide)).trans ((f 160 115 (by omega) (by omega)).trans e5)
          refine ok_add (by omega) ?_; intro v92 e92
          have Nf : NTa c g u91.2 := fun x k w1 w2 w3 w4 => by rw [N91 x k (by omega), f x k (by omega) (by omega)]
          have go : ∀ w : Int, (3 ≤ w ∧ w ≤ 6300) → (Live u91.2 → w = u91.1) → Ok_ (qw_X13_scan_86 nn k c l2 w v92 u91.2) (QR9 c g) := fun w hw ew => by
            refine ok_im (ih w v92 u91.2 V91 f6 hw (fun y => ?_) (by omega) (by omega)) (fun r q => ⟨⟨q.1.1, nta_tr Nf q.1.2.1, q.1.2.2⟩, q.2⟩)
            obtain ⟨_, c1, c2, c3⟩ := P91 y
            have := ew y
            refine ⟨fun i i1 i2 => ?_, by omega, by omega⟩
            rw [f5] at i2
            refine cp_nb N91 ?_
            have ei : pl u91.2 c i = pl h89 c i := N91 228 _ (by omega)
            rw [ei]
            by_cases q : i = l4
            · have : pl h89 c i = l3 := by
                unfold pl
                rw [q, show 256 * c + l4 = v86 by omega]; exact f1
              rw [this]; exact c1
            · have e2 : pl h89 c i = pl g c i := f 228 _ (by omega) (by omega)
              rw [e2]
              have cp := s1 i i1 (by omega)
              unfold CP at cp ⊢
              rw [f 238 _ (by omega) (by omega), f 238 _ (by omega) (by omega), f3]; exact cp
          exact go u91.1 (by omega) (fun _ => rfl)
        · rw [if_neg (show ¬ ¬ u83.1 = 0 by omega)]
          exact ok_ret ⟨⟨V83, nta_8 (nt8_nb N83), fun y => absurd y p2⟩, fun y => absurd y p2⟩
theorem sr_65b (hn : 1000000 ≤ nn) (hc : 0 ≤ c ∧ c ≤ 7) (V : VS_ h) (e5 : h 160 115 = c) (e9 : h 229 c.toNat = 0) : Ok_ (qj_X13_scan_65 nn c h) (QR9 c h) := by
  have g113 := gF_160_113 V
  unfold qj_X13_scan_65
  refine ok_sv (sq_byte V) ?_; intro u97 P
  obtain ⟨V97, N97, P⟩ := P
  rcases P with ⟨p1, p2, p3, p4⟩ | ⟨p1, p2⟩
  · rw [if_pos (show ¬ u97.1 = 0 by omega), p2]
    refine ok_rd (by omega) (gA_238 V) ?_; intro v99 _ a99 b99
    exact sr_86 hn hc ⟨a99, b99⟩ nn 3 1 h V e5 (by omega) (fun _ => ⟨fun i i1 i2 => by exfalso; omega, by omega, by omega⟩) (by omega) (by omega)
  · rw [if_neg (show ¬ ¬ u97.1 = 0 by omega)]
    exact ok_ret ⟨⟨V97, nta_8 (nt8_nb N97), fun y => absurd y p2⟩, fun y => absurd y p2⟩
theorem qr9_nb {f : ms_M} (N : NB h f) (q : QR9 c f r) : QR9 c h r := ⟨⟨q.1.1, nta_tr (nta_8 (nt8_nb N)) q.1.2.1, q.1.2.2⟩, q.2⟩
theorem sr_41b (hn : 1000000 ≤ nn) (hc : 0 ≤ c ∧ c ≤ 7) (V : VS_ h) (e5 : h 160 115 = c) (e9 : h 229 c.toNat = 0) : Ok_ (qj_X13_scan_41 nn c h) (QR9 c h) := by
  have g113 := gF_160_113 V
  unfold qj_X13_scan_41
  refine ok_sv (sq_byte V) ?_; intro u102 P
  obtain ⟨V2, N2, P⟩ := P
  have J : ∀ f : ms_M, VS_ f → NB h f → Ok_ (qj_X13_scan_65 nn c f) (QR9 c h) := fun f Vf Nf => ok_im (sr_65b hn hc Vf (by rw [Nf 160 115 (by decide)]; exact e5) (by rw [Nf 229 _ (by omega)]; exact e9)) (fun r q => qr9_nb Nf q)
  refine ok_if (fun F => J u102.2 V2 N2) (fun F => ?_)
  rcases P with ⟨p1, p2, p3, p4⟩ | ⟨p1, p2⟩
  · rw [p2]
    refine ok_rd (by omega) (gA_238 V) ?_; intro v104 _ _ _
    refine ok_if (fun _ => J h V nb_rf) (fun _ => ?_)
    refine ok_sv (sq_unfit V (by omega)) ?_; intro u106 P6
    exact J u106 P6.1 P6.2.1
  · exact absurd p1 F
/-- an image is read -/
theorem sr_scan (hn : 1000000 ≤ nn) (hc : 0 ≤ c ∧ c ≤ 7) (V : VS_ h) : Ok_ (qf_X13_scan nn c h) (QR9 c h) := by
  unfold qf_X13_scan
  refine ok_xl ?_; intro h109 E109
  have V109 : VS_ h109 := by rw [E109]; exact wF_160_115 V (by omega)
  refine ok_xl ?_; intro h110 E110
  have V110 : VS_ h110 := by rw [E110]; exact wF_160_114 V109 (by omega)
  refine ok_wA (by omega) ?_; intro h112 E112
  have V112 : VS_ h112 := by rw [E112]; exact wA_229 V110 (by omega)
  have N : NTa c h h112 := fun x k w1 w2 w3 w4 => by rw [E112, up_n (by omega), E110, up_n (by omega), E109, up_n (by omega)]
  have e5 : h112 160 115 = c := by rw [E112, up_n (by omega), E110, up_n (by decide), E109, up_s]
  have e9 : h112 229 c.toNat = 0 := by rw [E112, up_s]
  have g113 := gF_160_113 V112
  have J : ∀ f : ms_M, VS_ f → NB h112 f → Ok_ (qj_X13_scan_41 nn c f) (QR9 c h) := fun f Vf Nf => ok_im (sr_41b hn hc Vf (by rw [Nf 160 115 (by decide)]; exact e5) (by rw [Nf 229 _ (by omega)]; exact e9)) (fun r q => ⟨⟨q.1.1, nta_tr N (qr9_nb Nf q).1.2.1, q.1.2.2⟩, q.2⟩)
  refine ok_sv (sq_byte V112) ?_; intro u114 P
  obtain ⟨V2, N2, P⟩ := P
  refine ok_if (fun F => J u114.2 V2 N2) (fun F => ?_)
  rcases P with ⟨p1, p2, p3, p4⟩ | ⟨p1, p2⟩
  · rw [p2]
    refine ok_rd (by omega) (gA_238 V112) ?_; intro v116 _ _ _
    refine ok_if (fun _ => J h112 V112 nb_rf) (fun _ => ?_)
    refine ok_sv (sq_unfit V112 (by omega)) ?_; intro u118 P6
    exact J u118 P6.1 P6.2.1
  · exact absurd p1 F
end

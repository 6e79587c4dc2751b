section
section
variable {nn : Nat} {h g r z : ms_M} {c : Int}
theorem sr_check (hn : 1000000 ≤ nn) (V : VS_ h) (hc : h 160 115 = c) (S : CSn h c (h 229 c.toNat)) {p : Int} (P : CP h p) : Ok_ (qf_X13_checkConstant nn p h) (fun r => VS_ r ∧ NB h r ∧ (Live r → Live h ∧ CK9 h c p)) := by
  have g113 := gF_160_113 V
  obtain ⟨P0, P⟩ := P
  have pn : p + 2 ≤ h 160 113 := by
    rcases P with P | P | P | P <;> omega
  -- the end: the member's kind
  have J105 : ∀ g : ms_M, VS_ g → NB h g → h 238 p.toNat = 4 → (Live g → Live h ∧ CL h c (h 238 (p + 1).toNat) ∧ TS 0 h c (h 238 (p + 2).toNat)) → Ok_ (qj_X13_checkConstant_105 nn p g) (fun r => VS_ r ∧ NB h r ∧ (Live r → Live h ∧ CK9 h c p)) := fun g Vg N k4 lg => by
    have pn4 : p + 4 ≤ h 160 113 := by
      rcases P with P | P | P | P
      · exfalso; omega
      · exfalso; omega
      · exfalso; omega
      · exact P.2
    have K : KE8 h g c := ke_nb N
    unfold qj_X13_checkConstant_105
    refine ok_add (by omega) ?_; intro v2 e2
    refine ok_rd (by omega) (gA_238 Vg) ?_; intro v3 e3 _ _
    rw [e2, N 238 _ (by omega)] at e3
    refine ok_sv (sk_text hn Vg (c := c) (by rw [K.2.2.1]; exact hc) (by rw [K.2.2.2]; exact cs_ke K S)) ?_; intro u5 P5
    refine ok_if (fun F => ?_) (fun F => ?_)
    · refine ok_ret ⟨Vg, N, fun y => ?_⟩
      obtain ⟨y1, y2, y3⟩ := lg y
      have t := ts_ke K (P5.2 F)
      rw [e3] at t
      exact ⟨y1, fun k => by exfalso; omega, fun _ => ⟨y2, y3, t⟩⟩
    · refine ok_add (by omega) ?_; intro v6 e6
      refine ok_sv (sq_unfit Vg (by omega)) ?_; intro u8 P8
      exact ok_ret ⟨P8.1, nb_tr N P8.2.1, fun y => absurd y P8.2.2⟩
  have J82 : ∀ g : ms_M, VS_ g → NB h g → h 238 p.toNat = 4 → (Live g → Live h ∧ CL h c (h 238 (p + 1).toNat)) → Ok_ (qj_X13_checkConstant_82 nn p g) (fun r => VS_ r ∧ NB h r ∧ (Live r → Live h ∧ CK9 h c p)) := fun g Vg N k4 lg => by
    have pn4 : p + 4 ≤ h 160 113 := by
      rcases P with P | P | P | P
      · exfalso; omega
      · exfalso; omega
      · exfalso; omega
      · exact P.2
    have K : KE8 h g c := ke_nb N
    unfold qj_X13_checkConstant_82
    refine ok_add (by omega) ?_; intro v2 e2
    refine ok_rd (by omega) (gA_238 Vg) ?_; intro v3 e3 _ _
    rw [e2, N 238 _ (by omega)] at e3
    refine ok_sv (sk_text hn Vg (c := c) (by rw [K.2.2.1]; exact hc) (by rw [K.2.2.2]; exact cs_ke K S)) ?_; intro u5 P5
    refine ok_if (fun F => ?_) (fun F => ?_)
    · refine J105 g Vg N k4 (fun y => ?_)
      obtain ⟨y1, y2⟩ := lg y
      have t := ts_ke K (P5.2 F)
      rw [e3] at t
      exact ⟨y1, y2, t⟩
    · refine ok_add (by omega) ?_; intro v6 e6
      refine ok_sv (sq_unfit Vg (by omega)) ?_; intro u8 P8
      exact J105 u8 P8.1 (nb_tr N P8.2.1) k4 (fun y => absurd y P8.2.2)
  have J75 : ∀ g : ms_M, VS_ g → NB h g → h 238 p.toNat = 4 → Ok_ (qj_X13_checkConstant_75 nn p g) (fun r => VS_ r ∧ NB h r ∧ (Live r → Live h ∧ CK9 h c p)) := fun g Vg N k4 => by
    unfold qj_X13_checkConstant_75
    refine ok_add (by omega) ?_; intro v6 e6
    refine ok_sv (sq_unfit Vg (by omega)) ?_; intro u8 P8
    exact J82 u8 P8.1 (nb_tr N P8.2.1) k4 (fun y => absurd y P8.2.2)
  have J33 : ∀ g : ms_M, VS_ g → NB h g → (Live g → Live h ∧ (h 238 p.toNat = 3 → TS 4 h c (h 238 (p + 1).toNat))) → Ok_ (qj_X13_checkConstant_33 nn p g) (fun r => VS_ r ∧ NB h r ∧ (Live r → Live h ∧ CK9 h c p)) := fun g Vg N lg => by
    have K : KE8 h g c := ke_nb N
    unfold qj_X13_checkConstant_33
    refine ok_rd (by omega) (gA_238 Vg) ?_; intro v23 e23 _ _
    rw [N 238 _ (by omega)] at e23
    refine ok_if (fun F => ?_) (fun F => ok_ret ⟨Vg, N, fun y => ⟨(lg y).1, (lg y).2, fun k => by exfalso; omega⟩⟩)
    have k4 : h 238 p.toNat = 4 := by omega
    refine ok_add (by omega) ?_; intro v26 e26
    refine ok_rd (by omega) (gA_238 Vg) ?_; intro v27 e27 _ _
    rw [e26, N 238 _ (by omega)] at e27
    have g115 := gF_160_115 Vg
    refine ok_sv (sq_const Vg (c := g 160 115) (by omega)) ?_; intro u29 P29
    refine ok_if (fun _ => J75 g Vg N k4) (fun D => ?_)
    rcases P29 with P29 | ⟨P29, P30, P31, P32⟩
    · exfalso; omega
    have ec : g 160 115 = c := by rw [K.2.2.1]; exact hc
    rw [ec] at P29 P30
    rw [K.2.2.2] at P29
    have s := S v27 P29.1 P29.2
    rw [← pl_ke K, ← P30] at s
    have sb : u29 < h 160 113 := by
      obtain ⟨s0, s⟩ := s
      rcases s with s | s | s | s <;> omega
    refine ok_rd (by omega) (gA_238 Vg) ?_; intro v31 e31 _ _
    refine ok_if (fun E => ?_) (fun _ => J75 g Vg N k4)
    refine J82 g Vg N k4 (fun y => ⟨(lg y).1, ?_⟩)
    rw [← e27]
    exact ⟨P29, by rw [← pl_ke K, ← P30, ← N 238 _ (by omega)]; omega⟩
  unfold qf_X13_checkConstant
  refine ok_rd (by omega) (gA_238 V) ?_; intro v36 e36 _ _
  refine ok_if (fun F => J33 h V nb_rf (fun y => ⟨y, fun k => by exfalso; omega⟩)) (fun F => ?_)
  refine ok_add (by omega) ?_; intro v38 e38
  refine ok_rd (by omega) (gA_238 V) ?_; intro v39 e39 _ _
  rw [e38] at e39
  refine ok_sv (sk_text hn V hc S) ?_; intro u41 P41
  refine ok_if (fun G => ?_) (fun G => ?_)
  · refine J33 h V nb_rf (fun y => ⟨y, fun _ => ?_⟩)
    rw [← e39]; exact P41.2 G
  · refine ok_add (by omega) ?_; intro v42 e42
    refine ok_sv (sq_unfit V (by omega)) ?_; intro u44 P44
    exact J33 u44 P44.1 P44.2.1 (fun y => absurd y P44.2.2)
theorem sr_210 (hn : 1000000 ≤ nn) (V0 : VS_ h) (hc : 0 ≤ c ∧ c ≤ 7) (B : Live h → SI9 h c) {l3 : Int} (S : ST8 h g c) (a : 3 ≤ l3 ∧ l3 ≤ 6300) (l : Live g → CL h c (h 238 l3.toNat)) : Ok_ (qj_X13_scan_210 nn c l3 g) (QR9 c h) := by
  have g113 := gF_160_113 V0
  have K := S.2.1
  unfold qj_X13_scan_210
  refine ok_add (by omega) ?_; intro v48 e48
  refine ok_sv (st8_byte S) ?_; intro u50 P
  obtain ⟨S50, P⟩ := P
  rcases P with ⟨p1, p2, p3, p4⟩ | ⟨p1, p2⟩
  · rw [if_neg (show ¬ u50.1 = 0 by omega), p2]
    have Bh := B (S.2.2.2 p3)
    refine ok_add (by omega) ?_; intro v52 e52
    refine ok_rd (by omega) (gA_238 S.1) ?_; intro v53 e53 _ _
    rw [e52, (K.1 _).1] at e53
    refine ok_sv (st8_class S (si9_8 Bh)) ?_; intro u55 P55
    refine ok_if (fun F => sr_243 hn V0 hc B S a (fun y => ⟨l y, by rw [← e53]; exact P55.2 F⟩)) (fun _ => ?_)
    refine ok_add (by omega) ?_; intro v56 e56
    refine ok_sv (st8_unfit S (by omega)) ?_; intro u58 P58
    exact sr_243 hn V0 hc B P58.1 a (fun y => absurd y P58.2)
  · rw [if_pos p1]
    exact sr_243 hn V0 hc B S50 a (fun y => absurd y p2)
theorem sr_183 (hn : 1000000 ≤ nn) (V0 : VS_ h) (hc : 0 ≤ c ∧ c ≤ 7) (B : Live h → SI9 h c) {l3 : Int} (a : 3 ≤ l3 ∧ l3 ≤ 6300) : Ok_ (qj_X13_scan_183 nn c l3 h) (QR9 c h) := by
  have g113 := gF_160_113 V0
  have S : ST8 h h c := st8_0 V0
  unfold qj_X13_scan_183
  refine ok_sv (st8_byte S) ?_; intro u62 P
  obtain ⟨S62, P⟩ := P
  rcases P with ⟨p1, p2, p3, p4⟩ | ⟨p1, p2⟩
  · rw [if_neg (show ¬ u62.1 = 0 by omega), p2]
    have Bh := B p3
    refine ok_rd (by omega) (gA_238 S.1) ?_; intro v64 e64 _ _
    refine ok_sv (st8_class S (si9_8 Bh)) ?_; intro u66 P66
    refine ok_if (fun F => sr_210 hn V0 hc B S a (fun _ => by rw [← e64]; exact P66.2 F)) (fun _ => ?_)
    refine ok_sv (st8_unfit S (by omega)) ?_; intro u68 P68
    exact sr_210 hn V0 hc B P68.1 a (fun y => absurd y P68.2)
  · rw [if_pos p1]
    exact sr_210 hn V0 hc B S62 a (fun y => absurd y p2)
/-- all constants name what is there -/
theorem sr_146 (hn : 1000000 ≤ nn) (V0 : VS_ h) (hc : 0 ≤ c ∧ c ≤ 7) {l2 l3 : Int} (h2 : 0 ≤ l2 ∧ l2 ≤ 255) (a : 3 ≤ l3 ∧ l3 ≤ 6300) (B : Live h → h 160 115 = c ∧ CSn h c (h 229 c.toNat) ∧ h 229 c.toNat = l2) : ∀ (k : Nat) (l4 : Int) (g : ms_M), VS_ g → NB h g → (Live g → Live h ∧ ∀ i : Int, 1 ≤ i → i < l4 → CK9 h c (pl h c i)) → (1 ≤ l4 ∧ l4 ≤ l2 + 1) → l2 + 1 - l4 < (k : Int) → Ok_ (qw_X13_scan_146 nn k c l2 l3 l4 g) (QR9 c h) := by
  intro k
  induction k with
  | zero => intro l4 g V N l b hm; exfalso; omega
  | succ k ih =>
    intro l4 g V N l b hm
    have K : KE8 h g c := ke_nb N
    have E : (Live g → SI9 g c) → Ok_ (qj_X13_scan_183 nn c l3 g) (QR9 c h) := fun w => ok_im (sr_183 hn V hc w a) (fun r q => ⟨⟨q.1.1, nta_tr (nta_8 (nt8_nb N)) q.1.2.1, q.1.2.2⟩, q.2⟩)
    unfold qw_X13_scan_146
    refine ok_if (fun C => E (fun y => ?_)) (fun C => ?_)
    · obtain ⟨y1, y2⟩ := l y
      obtain ⟨b1, b2, b3⟩ := B y1
      exact si9_ke K ⟨b1, b2, fun i i1 i2 => y2 i i1 (by omega)⟩
    · refine ok_if (fun D => E (fun y => absurd y D)) (fun D => ?_)
      have D : Live g := Classical.not_not.1 D
      obtain ⟨y1, y2⟩ := l D
      obtain ⟨b1, b2, b3⟩ := B y1
      refine ok_mul (by omega) ?_; intro v73 e73
      refine ok_add (by omega) ?_; intro v74 e74
      refine ok_rd (by omega) (gA_228 V) ?_; intro v75 e75 _ _
      have ep : v75 = pl g c l4 := by rw [e75, e74, e73]; rfl
      have cp := b2 l4 (by omega) (by omega)
      refine ok_sv (sr_check hn V (c := c) (by rw [K.2.2.1]; exact b1) (by rw [K.2.2.2]; exact cs_ke K b2) (by rw [ep, pl_ke K]; exact cp_ke K cp)) ?_; intro u77 P77
      obtain ⟨V77, N77, P77⟩ := P77
      refine ok_add (by omega) ?_; intro v78 e78
      refine ih v78 u77 V77 (nb_tr N N77) (fun y => ⟨y1, fun i i1 i2 => ?_⟩) (by omega) (by omega)
      by_cases q : i = l4
      · have ck := (P77 y).2
        rw [q]
        have kk : KE8 g h c := ⟨fun k => ⟨((K.1 k).1).symm, ((K.1 k).2).symm⟩, K.2.1.symm, K.2.2.1.symm, K.2.2.2.symm⟩
        rw [ep, pl_ke K] at ck
        exact ck9_ke kk ck
      · exact y2 i i1 (by omega)
/-- the constants, one behind the other -/
theorem sr_86 (hn : 1000000 ≤ nn) (hc : 0 ≤ c ∧ c ≤ 7) {l2 : Int} (h2 : 0 ≤ l2 ∧ l2 ≤ 255) : ∀ (k : Nat) (l3 l4 : Int) (g : ms_M), VS_ g → g 160 115 = c → (3 ≤ l3 ∧ l3 ≤ 6300) → (Live g → CSn g c (g 229 c.toNat) ∧ g 229 c.toNat = l4 - 1 ∧ l3 ≤ g 160 113) → (1 ≤ l4 ∧ l4 ≤ l2 + 1) → l2 + 1 - l4 < (k : Int) → Ok_ (qw_X13_scan_86 nn k c l2 l3 l4 g) (QR9 c g) := by
  intro k
  induction k with
  | zero => intro l3 l4 g V e a l b hm; exfalso; omega
  | succ k ih =>
    intro l3 l4 g V e5 a l b hm
    have g113 := gF_160_113 V
    unfold qw_X13_scan_86
    refine ok_if (fun C => ?_) (fun C => ?_)
    · exact sr_146 hn V hc h2 a (fun y => ⟨e5, (l y).1, by have := (l y).2.1; omega⟩) nn 1 g V nb_rf (fun y => ⟨y, fun i i1 i2 => by exfalso; omega⟩) (by omega) (by omega)
    · refine ok_if (fun D => ?_) (fun D => ?_)
      · exact sr_146 hn V hc h2 a (fun y => absurd y D) nn 1 g V nb_rf (fun y => absurd y D) (by omega) (by omega)
      · have D : Live g := Classical.not_not.1 D
        obtain ⟨s1, s2, s3⟩ := l D
        refine ok_sv (sq_byte V) ?_; intro u83 P
        obtain ⟨V83, N83, P⟩ := P
        rcases P with ⟨p1, p2, p3, p4⟩ | ⟨p1, p2⟩
        · rw [if_pos (show ¬ u83.1 = 0 by omega), p2]
          refine ok_mul (by omega) ?_; intro v85 e85
          refine ok_add (by omega) ?_; intro v86 e86
          refine ok_wA (by omega) ?_; intro h87 E87
          have V87 : VS_ h87 := by rw [E87]; exact wA_228 V (by omega)
          refine ok_wA (by omega) ?_; intro h89 E89
          have V89 : VS_ h89 := by rw [E89]; exact wA_229 V87 (by omega)
          have f : ∀ x k : Nat, ¬ (x = 228 ∧ k = v86.toNat) → ¬ (x = 229 ∧ k = c.toNat) → h89 x k = g x k := fun x k w1 w2 => by rw [E89, up_n w2, E87, up_n w1]
          have f1 : h89 228 v86.toNat = l3 := by rw [E89, up_n (by omega), E87, up_s]
          have f2 : h89 229 c.toNat = l4 := by rw [E89, up_s]
          have f3 : h89 160 113 = g 160 113 := f 160 113 (by omega) (by omega)
          refine ok_sv (sq_scanC hn V89 (by omega)) ?_; intro u91 P91
          obtain ⟨V91, N91, b91, P91⟩ := P91
          have f4 : u91.2 160 113 = g 160 113 := (N91 160 113 (by decide)).trans f3
          have f5 : u91.2 229 c.toNat = l4 := (N91 229 _ (by omega)).trans f2
          have f6 : u91.2 160 115 = c := (N91 160 115 (by decide)).trans ((f 160 115 (by omega) (by omega)).trans e5)
          refine ok_add (by omega) ?_; intro v92 e92
          have Nf : NTa c g u91.2 := fun x k w1 w2 w3 w4 => by rw [N91 x k (by omega), f x k (by omega) (by omega)]
          have go : ∀ w : Int, (3 ≤ w ∧ w ≤ 6300) → (Live u91.2 → w = u91.1) → Ok_ (qw_X13_scan_86 nn k c l2 w v92 u91.2) (QR9 c g) := fun w hw ew => by
            refine ok_im (ih w v92 u91.2 V91 f6 hw (fun y => ?_) (by omega) (by omega)) (fun r q => ⟨⟨q.1.1, nta_tr Nf q.1.2.1, q.1.2.2⟩, q.2⟩)
            obtain ⟨_, c1, c2, c3⟩ := P91 y
            have := ew y
            refine ⟨fun i i1 i2 => ?_, by omega, by omega⟩
            rw [f5] at i2
            refine cp_nb N91 ?_
            have ei : pl u91.2 c i = pl h89 c i := N91 228 _ (by omega)
            rw [ei]
            by_cases q : i = l4
            · have : pl h89 c i = l3 := by
                unfold pl
                rw [q, show 256 * c + l4 = v86 by omega]; exact f1
              rw [this]; exact c1
            · have e2 : pl h89 c i = pl g c i := f 228 _ (by omega) (by omega)
              rw [e2]
              have cp := s1 i i1 (by omega)
              unfold CP at cp ⊢
              rw [f 238 _ (by omega) (by omega), f 238 _ (by omega) (by omega), f3]; exact cp
          exact go u91.1 (by omega) (fun _ => rfl)
        · rw [if_neg (show ¬ ¬ u83.1 = 0 by omega)]
          exact ok_ret ⟨⟨V83, nta_8 (nt8_nb N83), fun y => absurd y p2⟩, fun y => absurd y p2⟩
theorem sr_65b (hn : 1000000 ≤ nn) (hc : 0 ≤ c ∧ c ≤ 7) (V : VS_ h) (e5 : h 160 115 = c) (e9 : h 229 c.toNat = 0) : Ok_ (qj_X13_scan_65 nn c h) (QR9 c h) := by
  have g113 := gF_160_113 V
  unfold qj_X13_scan_65
  refine ok_sv (sq_byte V) ?_; intro u97 P
  obtain ⟨V97, N97, P⟩ := P
  rcases P with ⟨p1, p2, p3, p4⟩ | ⟨p1, p2⟩
  · rw [if_pos (show ¬ u97.1 = 0 by omega), p2]
    refine ok_rd (by omega) (gA_238 V) ?_; intro v99 _ a99 b99
    exact sr_86 hn hc ⟨a99, b99⟩ nn 3 1 h V e5 (by omega) (fun _ => ⟨fun i i1 i2 => by exfalso; omega, by omega, by omega⟩) (by omega) (by omega)
  · rw [if_neg (show ¬ ¬ u97.1 = 0 by omega)]
    exact ok_ret ⟨⟨V97, nta_8 (nt8_nb N97), fun y => absurd y p2⟩, fun y => absurd y p2⟩
theorem qr9_nb {f : ms_M} (N : NB h f) (q : QR9 c f r) : QR9 c h r := ⟨⟨q.1.1, nta_tr (nta_8 (nt8_nb N)) q.1.2.1, q.1.2.2⟩, q.2⟩
theorem sr_41b (hn : 1000000 ≤ nn) (hc : 0 ≤ c ∧ c ≤ 7) (V : VS_ h) (e5 : h 160 115 = c) (e9 : h 229 c.toNat = 0) : Ok_ (qj_X13_scan_41 nn c h) (QR9 c h) := by
  have g113 := gF_160_113 V
  unfold qj_X13_scan_41
  refine ok_sv (sq_byte V) ?_; intro u102 P
  obtain ⟨V2, N2, P⟩ := P
  have J : ∀ f : ms_M, VS_ f → NB h f → Ok_ (qj_X13_scan_65 nn c f) (QR9 c h) := fun f Vf Nf => ok_im (sr_65b hn hc Vf (by rw [Nf 160 115 (by decide)]; exact e5) (by rw [Nf 229 _ (by omega)]; exact e9)) (fun r q => qr9_nb Nf q)
  refine ok_if (fun F => J u102.2 V2 N2) (fun F => ?_)
  rcases P with ⟨p1, p2, p3, p4⟩ | ⟨p1, p2⟩
  · rw [p2]
    refine ok_rd (by omega) (gA_238 V) ?_; intro v104 _ _ _
    refine ok_if (fun _ => J h V nb_rf) (fun _ => ?_)
    refine ok_sv (sq_unfit V (by omega)) ?_; intro u106 P6
    exact J u106 P6.1 P6.2.1
  · exact absurd p1 F
/-- an image is read -/
theorem sr_scan (hn : 1000000 ≤ nn) (hc : 0 ≤ c ∧ c ≤ 7) (V : VS_ h) : Ok_ (qf_X13_scan nn c h) (QR9 c h) := by
  unfold qf_X13_scan
  refine ok_xl ?_; intro h109 E109
  have V109 : VS_ h109 := by rw [E109]; exact wF_160_115 V (by omega)
  refine ok_xl ?_; intro h110 E110
  have V110 : VS_ h110 := by rw [E110]; exact wF_160_114 V109 (by omega)
  refine ok_wA (by omega) ?_; intro h112 E112
  have V112 : VS_ h112 := by rw [E112]; exact wA_229 V110 (by omega)
  have N : NTa c h h112 := fun x k w1 w2 w3 w4 => by rw [E112, up_n (by omega), E110, up_n (by omega), E109, up_n (by omega)]
  have e5 : h112 160 115 = c := by rw [E112, up_n (by omega), E110, up_n (by decide), E109, up_s]
  have e9 : h112 229 c.toNat = 0 := by rw [E112, up_s]
  have g113 := gF_160_113 V112
  have J : ∀ f : ms_M, VS_ f → NB h112 f → Ok_ (qj_X13_scan_41 nn c f) (QR9 c h) := fun f Vf Nf => ok_im (sr_41b hn hc Vf (by rw [Nf 160 115 (by decide)]; exact e5) (by rw [Nf 229 _ (by omega)]; exact e9)) (fun r q => ⟨⟨q.1.1, nta_tr N (qr9_nb Nf q).1.2.1, q.1.2.2⟩, q.2⟩)
  refine ok_sv (sq_byte V112) ?_; intro u114 P
  obtain ⟨V2, N2, P⟩ := P
  refine ok_if (fun F => J u114.2 V2 N2) (fun F => ?_)
  rcases P with ⟨p1, p2, p3, p4⟩ | ⟨p1, p2⟩
  · rw [p2]
    refine ok_rd (by omega) (gA_238 V112) ?_; intro v116 _ _ _
    refine ok_if (fun _ => J h112 V112 nb_rf) (fun _ => ?_)
    refine ok_sv (sq_unfit V112 (by omega)) ?_; intro u118 P6
    exact J u118 P6.1 P6.2.1
  · exact absurd p1 F
end
end
section
section
variable {nn : Nat} {h g r z t : ms_M} {c : Int}
/-- image c of the space is the one that r read -/
def AGR (h r : ms_M) (c : Int) : Prop := (∀ i : Nat, (i : Int) < r 160 113 → h 226 (6000 * c.toNat + i) = r 238 i) ∧ h 227 c.toNat = r 160 113 ∧ ∀ x k : Nat, TAB c x k → h x k = r x k
def IMW (h : ms_M) (c : Int) : Prop := ∃ r : ms_M, VS_ r ∧ IM9 r c ∧ AGR h r c
def IMD (h : ms_M) (c : Int) : Prop := IMG h c ∧ IMW h c
/-- the space: each of its images was read without FORM -/
def SPD (h : ms_M) : Prop := ∀ c : Int, 0 ≤ c → c < h 160 98 → IMD h c
theorem spd_c (S : SPD h) : SPC h := fun c a b => (S c a b).1
theorem imw_o {d : Int} (hc : 0 ≤ c ∧ c ≤ 7) (hd : 0 ≤ d ∧ d ≤ 7) (n : d ≠ c) (A : AW c h r) (I : IMW h d) : IMW r d := by
  obtain ⟨w, V, I9, a1, a2, a3⟩ := I
  have g113 := gF_160_113 V
  have A' : ∀ x k : Nat, x ≠ 160 → x ≠ 238 → x ≠ 239 → ¬ TAB c x k → ¬ (x = 226 ∧ 6000 * c ≤ (k : Int) ∧ (k : Int) < 6000 * c + 6000) → ¬ (x = 227 ∧ (k : Int) = c) → r x k = h x k := A
  unfold TAB at A'
  refine ⟨w, V, I9, fun i hi => ?_, ?_, fun x k y => ?_⟩
  · rw [A' 226 _ (by decide) (by decide) (by decide) (by omega) (by omega) (by omega)]; exact a1 i hi
  · rw [A' 227 _ (by decide) (by decide) (by decide) (by omega) (by omega) (by omega)]; exact a2
  · have y2 := y
    unfold TAB at y2
    rw [A' x k (by omega) (by omega) (by omega) (by omega) (by omega) (by omega)]; exact a3 x k y
theorem imd_o {d : Int} (hc : 0 ≤ c ∧ c ≤ 7) (hd : 0 ≤ d ∧ d ≤ 7) (n : d ≠ c) (V : VS_ h) (A : AW c h r) (I : IMD h d) : IMD r d := ⟨img_o hc hd n V A I.1, imw_o hc hd n A I.2⟩
theorem imd_s {d : Int} (hd : 0 ≤ d ∧ d ≤ 7) (V : VS_ h) (A : SW h r) (I : IMD h d) : IMD r d := by
  refine ⟨img_s hd V A I.1, ?_⟩
  obtain ⟨w, V, I9, a1, a2, a3⟩ := I.2
  refine ⟨w, V, I9, fun i hi => ?_, ?_, fun x k y => ?_⟩
  · rw [A 226 _ (by decide) (by decide) (by decide)]; exact a1 i hi
  · rw [A 227 _ (by decide) (by decide) (by decide)]; exact a2
  · have y2 := y
    unfold TAB at y2
    rw [A x k (by omega) (by omega) (by omega)]; exact a3 x k y
theorem spd_s (V : VS_ h) (A : SW h r) (e : r 160 98 = h 160 98) (I : SPD h) : SPD r := fun d a b => by
  have := gF_160_98 V
  exact imd_s (by omega) V A (I d a (by omega))
theorem imd_new (hc : 0 ≤ c ∧ c ≤ 7) (V : VS_ h) (I : IM8 h c) (J : IM9 h c) (Q : QI8 c h r) : IMD r c := by
  refine ⟨img_new hc V I Q, h, V, J, Q.2.2.1, Q.2.2.2, fun x k y => ?_⟩
  unfold TAB at y
  exact Q.2.1 x k (by omega) (by omega)
/-- what loading leaves behind -/
def QLD (h : ms_M) (u : Int × ms_M) : Prop := VS_ u.2 ∧ SPD u.2 ∧ NL h u.2
theorem lw_loaded (hn : 1000000 ≤ nn) (V : VS_ h) (S : SPD h) : Ok_ (qf_X13_loaded nn h) (QLD h) := by
  have g98 := gF_160_98 V
  unfold qf_X13_loaded
  refine ok_if (fun C => ?_) (fun C => ?_)
  · refine ok_sv (sr_scan hn (by omega) V) ?_; intro u4 Q
    obtain ⟨⟨V4, N4, I4⟩, I9⟩ := Q
    have e98 : u4 160 98 = h 160 98 := N4 160 98 (by omega) (by omega) (by omega) (by omega)
    have S4 : SPD u4 := fun d a b => imd_o (c := h 160 98) (by omega) (by omega) (by omega) V (aw_nta N4) (S d a (by omega))
    have L4 : NL h u4 := nl_nta N4
    have g114 := gF_160_114 V4
    refine ok_if (fun D => ?_) (fun _ => ?_)
    · have I := I4 D
      have J := I9 D
      have g113 := gF_160_113 V4
      rw [← e98] at I J
      have hc : 0 ≤ u4 160 98 ∧ u4 160 98 ≤ 7 := by omega
      generalize hcc : u4 160 98 = c at *
      obtain ⟨a1, a2, a3, a4, a5, a6⟩ := im8_name hc V4 I
      refine ok_mul (by omega) ?_; intro v8 e8
      refine ok_mul (by omega) ?_; intro v12 e12
      refine ok_rd (by omega) (gA_230 V4) ?_; intro v15 e15 _ _
      rw [← e15] at a1 a2 a3 a4 a5 a6
      refine ok_add (by omega) ?_; intro v16 e16
      refine ok_rd (by omega) (gA_228 V4) ?_; intro v17 e17 _ _
      have w17 : pl u4 c v15 = v17 := by rw [e17, e16, e12]; rfl
      rw [w17] at a2 a3 a4 a5 a6
      refine ok_add (by omega) ?_; intro v18 e18
      refine ok_rd (by omega) (gA_238 V4) ?_; intro v19 e19 _ _
      rw [← e18, ← e19] at a3 a4 a5 a6
      refine ok_add (by omega) ?_; intro v20 e20
      refine ok_rd (by omega) (gA_228 V4) ?_; intro v21 e21 _ _
      have w21 : pl u4 c v19 = v21 := by rw [e21, e20, e8]; rfl
      rw [w21] at a4 a5 a6
      refine ok_add (by omega) ?_; intro v23 e23
      refine ok_add (by omega) ?_; intro v25 e25
      refine ok_rd (by omega) (gA_238 V4) ?_; intro v26 e26 _ _
      rw [← e25, ← e26] at a5 a6
      refine ok_sv (nm_class hn (.inl ⟨rfl, rfl⟩) V4 (by omega) (by omega) (spd_c S4)) ?_; intro u28 _
      refine ok_if (fun _ => ?_) (fun _ => ?_)
      · refine ok_sv (nm_install hn hc V4) ?_; intro u31 Q
        obtain ⟨QI, _⟩ := Q
        have V31 := QI.1
        have n98 : u31.2 160 98 = c := by rw [QI.2.1 160 98 (by omega) (by omega)]; exact hcc
        refine ok_add (by omega) ?_; intro v33 e33
        refine ok_xl ?_; intro h34 E34
        refine ok_xl ?_; intro h35 E35
        refine ok_xl ?_; intro h36 E36
        have V34 : VS_ h34 := by rw [E34]; exact wF_160_98 V31 (by omega)
        have V35 : VS_ h35 := by rw [E35]; exact wF_160_99 V34 (by omega)
        have V36 : VS_ h36 := by rw [E36]; exact wF_160_138 V35 (by omega)
        have W : SW u31.2 h36 := fun x k a _ _ => by rw [E36, up_n (fun y => a y.1), E35, up_n (fun y => a y.1), E34, up_n (fun y => a y.1)]
        have f98 : h36 160 98 = c + 1 := by rw [E36, up_n (by omega), E35, up_n (by omega), E34, up_s]; omega
        refine ok_ret ⟨V36, fun d a b => ?_, ?_⟩
        · have b : d < c + 1 := by rw [← f98]; exact b
          refine imd_s (by omega) V31 W ?_
          by_cases y : d = c
          · rw [y]; exact imd_new hc V4 I J QI
          · exact imd_o hc (by omega) y V4 (aw_qi QI) (S4 d a (by omega))
        · show NL h h36
          refine nl_tr L4 (nl_tr (nl_qi QI) ?_)
          rw [E36, E35, E34]
          exact nl_tr (nl_f (by unfold LF; omega)) (nl_tr (nl_f (by unfold LF; omega)) (nl_f (by unfold LF; omega)))
      · unfold qj_X13_loaded_138
        exact ok_ret ⟨V4, S4, L4⟩
    · refine ok_sub (by omega) ?_; intro v39 _
      exact ok_ret ⟨V4, S4, L4⟩
  · refine ok_sv (as_aside hn (by omega) V) ?_; intro u42 Q
    obtain ⟨V42, N42, T42⟩ := Q
    refine ok_sv (sr_scan hn (by omega) V42) ?_; intro u44 Q
    obtain ⟨⟨V44, N44, _⟩, _⟩ := Q
    have T44 : TBk u44 h 7 := by
      have e : ∀ k : Nat, u44 239 k = u42 239 k := fun k => N44 239 k (by omega) (by omega) (by omega) (by omega)
      refine ⟨fun i hi => by rw [e]; exact T42.1 i hi, ?_, fun j hj => by rw [e, e, e, e]; exact T42.2.2 j hj⟩
      unfold TB2
      rw [e, e, e, e, e]; exact T42.2.1
    refine ok_sv (ag_again hn (by omega) V44 V T44) ?_; intro u47 Q
    obtain ⟨V47, A, B⟩ := Q
    have W : SW h u47 := fun x k w1 w2 w3 => by
      by_cases y : TAB 7 x k
      · exact B x k y
      · rw [A x k y, N44 x k (by omega) (fun z => y (.inl z)) (fun z => y (.inr (.inl z))) (fun z => y (.inr (.inr z)))]
        exact N42 x k w3
    have e98 : u47 160 98 = h 160 98 := by
      rw [A 160 98 (by unfold TAB; omega), N44 160 98 (by omega) (by omega) (by omega) (by omega)]
      exact N42 160 98 (by decide)
    have P : ∀ v : Int, QLD h (v, u47) := fun v => ⟨V47, spd_s V W e98 S, nl_tr (nl_n9 N42) (nl_tr (nl_nta N44) (nl_ag A))⟩
    have g114 := gF_160_114 V44
    refine ok_if (fun _ => ok_ret (P _)) (fun _ => ?_)
    refine ok_sub (by omega) ?_; intro v48 _
    exact ok_ret (P _)
theorem nc_spd (V : VS_ h) (N : NC h r) (S : SPD h) : SPD r := spd_s V (fun x k a b _ => N x k b (fun y => a y.1)) (N 160 98 (by decide) (by decide)) S
theorem lw_load (hn : 1000000 ≤ nn) (V : VS_ h) (S : SPD h) : Ok_ (qf_X13_load nn h) (QLD h) := by
  have g1 := gF_160_1 V
  have L : ∀ (k : Nat) (l : Int) (g : ms_M), VS_ g → NC h g → (0 ≤ l ∧ l ≤ h 160 1) → h 160 1 - l < (k : Int) → Ok_ (qw_X13_load_10 nn k l g) (QLD h) := by
    intro k
    induction k with
    | zero => intro l g V N a hm; exfalso; omega
    | succ k ih =>
      intro l g V' N a hm
      have e1 : g 160 1 = h 160 1 := N 160 1 (by decide) (by decide)
      unfold qw_X13_load_10
      refine ok_if (fun C => ?_) (fun C => ?_)
      · refine ok_xl ?_; intro h2 E2
        have V2 : VS_ h2 := by rw [E2]; exact wF_160_1 V' (by omega)
        have S2 : SPD h2 := spd_s V' (fun x k a _ _ => by rw [E2, up_n (fun y => a y.1)]) (by rw [E2, up_n (by omega)]) (nc_spd V N S)
        refine ok_sv (lw_loaded hn V2 S2) ?_; intro u4 Q
        refine ok_ret ⟨Q.1, Q.2.1, nl_tr (nc_nl N) (nl_tr ?_ Q.2.2)⟩
        rw [E2]; exact nl_f (by unfold LF; omega)
      · refine ok_rd (by omega) (gA_161 V') ?_; intro v7 e7 _ _
        refine ok_wA (by omega) ?_; intro h8 E8
        refine ok_add (by omega) ?_; intro v9 e9
        exact ih v9 h8 (by rw [E8]; exact wA_238 V' (by omega)) (fun x k a b => by rw [E8, up_n (fun y => a y.1)]; exact N x k a b) (by omega) (by omega)
  unfold qf_X13_load
  refine ok_xl ?_; intro h12 E12
  exact L nn 0 h12 (by rw [E12]; exact wF_160_113 V (by omega)) (fun x k a b => by rw [E12, up_n b]) (by omega) (by omega)
theorem lw_keep (hn : 1000000 ≤ nn) (V : VS_ h) (S : SPD h) {a : Int} : Ok_ (qf_X13_keep nn a h) (QLD h) := by
  have g93 := gF_160_93 V
  unfold qf_X13_keep
  refine ok_if (fun _ => ok_ret ⟨V, S, nl_rf⟩) (fun C => ?_)
  refine ok_if (fun D => ?_) (fun _ => ok_ret ⟨V, S, nl_rf⟩)
  refine ok_rd (by omega) (gA_222 V) ?_; intro v14 e14 a14 b14
  refine ok_xl ?_; intro h15 E15
  have L : ∀ (k : Nat) (l : Int) (g : ms_M), VS_ g → NC h g → g 160 113 = v14 → (0 ≤ l ∧ l ≤ v14) → v14 - l < (k : Int) → Ok_ (qw_X13_keep_26 nn k a l g) (QLD h) := by
    intro k
    induction k with
    | zero => intro l g V N e a hm; exfalso; omega
    | succ k ih =>
      intro l g V' N e b hm
      unfold qw_X13_keep_26
      refine ok_if (fun C => ?_) (fun C => ?_)
      · refine ok_sv (lw_loaded hn V' (nc_spd V N S)) ?_; intro u4 Q
        exact ok_ret ⟨Q.1, Q.2.1, nl_tr (nc_nl N) Q.2.2⟩
      · refine ok_mul (by omega) ?_; intro v6 e6
        refine ok_add (by omega) ?_; intro v7 e7
        refine ok_rd (by omega) (gA_221 V') ?_; intro v8 e8 _ _
        refine ok_wA (by omega) ?_; intro h9 E9
        refine ok_add (by omega) ?_; intro v10 e10
        exact ih v10 h9 (by rw [E9]; exact wA_238 V' (by omega)) (fun x k a b => by rw [E9, up_n (fun y => a y.1)]; exact N x k a b) (by rw [E9, up_n (by omega)]; exact e) (by omega) (by omega)
  exact L nn 0 h15 (by rw [E15]; exact wF_160_113 V (by omega)) (fun x k a b => by rw [E15, up_n b]) (by rw [E15, up_s]) (by omega) (by omega)
/-- image c was read again, its rows lie aside -/
def PA9 (h g : ms_M) (c : Int) : Prop := VS_ h ∧ SPD h ∧ VS_ g ∧ (∀ x k : Nat, x ≠ 160 → x ≠ 238 → x ≠ 239 → ¬ TAB c x k → g x k = h x k) ∧ TBk g h c ∧ NL h g ∧ g 160 98 = h 160 98 ∧ (0 ≤ c ∧ c < h 160 98)
theorem PA9.v (P : PA9 h g c) : VS_ h := P.1
theorem PA9.s (P : PA9 h g c) : SPD h := P.2.1
theorem PA9.w (P : PA9 h g c) : VS_ g := P.2.2.1
theorem PA9.e (P : PA9 h g c) : ∀ x k : Nat, x ≠ 160 → x ≠ 238 → x ≠ 239 → ¬ TAB c x k → g x k = h x k := P.2.2.2.1
theorem PA9.tb (P : PA9 h g c) : TBk g h c := P.2.2.2.2.1
theorem PA9.n (P : PA9 h g c) : NL h g := P.2.2.2.2.2.1
theorem PA9.f (P : PA9 h g c) : g 160 98 = h 160 98 := P.2.2.2.2.2.2.1
theorem PA9.c0 (P : PA9 h g c) : 0 ≤ c ∧ c < h 160 98 := P.2.2.2.2.2.2.2
theorem pb_aw (P : PA9 h g c) : AW c h g := fun x k w1 w2 w3 w4 _ _ => P.e x k w1 w2 w3 w4
theorem pb_235 (hn : 1000000 ≤ nn) (P : PA9 h g c) {l : Int} (I : l ≠ 0 → IM8 g c ∧ IM9 g c) : Ok_ (qj_X13_patch_235 nn c l g) (QLD h) := by
  have g98 := gF_160_98 P.v
  have c0 := P.c0
  unfold qj_X13_patch_235
  refine ok_if (fun C => ?_) (fun C => ?_)
  · refine ok_sv (nm_install hn (by omega) P.w) ?_; intro u2 Q
    obtain ⟨QI, _⟩ := Q
    have V2 := QI.1
    refine ok_xl ?_; intro h3 E3
    refine ok_xl ?_; intro h4 E4
    have V3 : VS_ h3 := by rw [E3]; exact wF_160_99 V2 (by omega)
    have V4 : VS_ h4 := by rw [E4]; exact wF_160_138 V3 (by omega)
    have W : SW u2.2 h4 := fun x k a _ _ => by rw [E4, up_n (fun y => a y.1), E3, up_n (fun y => a y.1)]
    have f98 : h4 160 98 = h 160 98 := by rw [E4, up_n (by omega), E3, up_n (by omega), QI.2.1 160 98 (by omega) (by omega)]; exact P.f
    refine ok_ret ⟨V4, fun d a b => ?_, ?_⟩
    · have b : d < h 160 98 := by rw [← f98]; exact b
      refine imd_s (by omega) V2 W ?_
      by_cases y : d = c
      · rw [y]; exact imd_new (by omega) P.w (I C).1 (I C).2 QI
      · exact imd_o (by omega) (by omega) y P.v (aw_tr (pb_aw P) (aw_qi QI)) (P.s d a b)
    · show NL h h4
      refine nl_tr P.n (nl_tr (nl_qi QI) ?_)
      rw [E4, E3]
      exact nl_tr (nl_f (by unfold LF; omega)) (nl_f (by unfold LF; omega))
  · refine ok_sv (ag_again hn (by omega) P.w P.v P.tb) ?_; intro u6 Q
    obtain ⟨V6, A, B⟩ := Q
    have W : SW h u6 := fun x k w1 w2 w3 => by
      by_cases y : TAB c x k
      · exact B x k y
      · rw [A x k y]; exact P.e x k w1 w2 w3 y
    have f98 : u6 160 98 = h 160 98 := by
      rw [A 160 98 (by unfold TAB; omega)]; exact P.f
    exact ok_ret ⟨V6, spd_s P.v W f98 P.s, nl_tr P.n (nl_ag A)⟩
theorem pb_173 (hn : 1000000 ≤ nn) (P : PA9 h g c) (I : IM8 g c ∧ IM9 g c) {l6 : Int} (r6 : 3 ≤ l6 ∧ l6 + 2 ≤ 6000 ∧ l6 + 2 + g 238 (l6 + 1).toNat ≤ 6000) : ∀ (k : Nat) (l5 l7 : Int), (0 ≤ l7 ∧ l7 ≤ 16) → 17 - l7 < (k : Int) → Ok_ (qw_X13_patch_173 nn k (8 + c) c l5 l6 l7 g) (QLD h) := by
  have g98 := gF_160_98 P.v
  have c0 := P.c0
  have f := P.f
  intro k
  induction k with
  | zero => intro l5 l7 a hm; exfalso; omega
  | succ k ih =>
    intro l5 l7 a hm
    have J : (0 ≤ l7 ∧ l7 < 16) → Ok_ (qj_X13_patch_222 nn (qw_X13_patch_173 nn k) (8 + c) c l6 l7 g) (QLD h) := fun a => by
      unfold qj_X13_patch_222
      refine ok_add (by omega) ?_; intro v8 e8
      exact ih 1 v8 (by omega) (by omega)
    unfold qw_X13_patch_173
    refine ok_add (by omega) ?_; intro v10 e10
    refine ok_if (fun _ => pb_235 hn P (fun _ => I)) (fun C => ?_)
    refine ok_if (fun _ => pb_235 hn P (fun _ => I)) (fun D => ?_)
    refine ok_if (fun _ => J (by omega)) (fun E => ?_)
    have w := P.w
    refine ok_add (by omega) ?_; intro v12 e12
    refine ok_add (by omega) ?_; intro v14 e14
    have gl := gA_238 w (l6 + 1).toNat
    refine ok_rd (by omega) (gA_238 w) ?_; intro v15 e15 _ _
    rw [e14] at e15
    refine ok_sv (nm_is hn (.inl ⟨rfl, rfl⟩) w (by omega) (by omega) (by omega) (fun y => (imd_o (c := c) (by omega) (by omega) (by omega) P.v (pb_aw P) (P.s (l7 - 8) (by omega) (by omega))).1)) ?_; intro u17 _
    refine ok_if (fun _ => ?_) (fun _ => J (by omega))
    refine ok_add (by omega) ?_; intro v18 e18
    exact ih 0 v18 (by omega) (by omega)
theorem pb_123 (hn : 1000000 ≤ nn) (P : PA9 h g c) {s : Int} (I : s ≠ 0 → IM8 g c ∧ IM9 g c) : Ok_ (qj_X13_patch_123 nn (8 + c) c s g) (QLD h) := by
  have g98 := gF_160_98 P.v
  have c0 := P.c0
  unfold qj_X13_patch_123
  refine ok_if (fun C => pb_235 hn P I) (fun C => ?_)
  have I := I C
  have hc : 0 ≤ c ∧ c ≤ 7 := by omega
  have V4 := P.w
  have g113 := gF_160_113 V4
  obtain ⟨a1, a2, a3, a4, a5, a6⟩ := im8_name hc V4 I.1
  refine ok_mul (by omega) ?_; intro v24 e24
  refine ok_mul (by omega) ?_; intro v27 e27
  refine ok_rd (by omega) (gA_230 V4) ?_; intro v29 e29 _ _
  rw [← e29] at a1 a2 a3 a4 a5 a6
  refine ok_add (by omega) ?_; intro v30 e30
  refine ok_rd (by omega) (gA_228 V4) ?_; intro v31 e31 _ _
  have w31 : pl g c v29 = v31 := by rw [e31, e30, e27]; rfl
  rw [w31] at a2 a3 a4 a5 a6
  refine ok_add (by omega) ?_; intro v32 e32
  refine ok_rd (by omega) (gA_238 V4) ?_; intro v33 e33 _ _
  rw [← e32, ← e33] at a3 a4 a5 a6
  refine ok_add (by omega) ?_; intro v34 e34
  refine ok_rd (by omega) (gA_228 V4) ?_; intro v35 e35 _ _
  have w35 : pl g c v33 = v35 := by rw [e35, e34, e24]; rfl
  rw [w35] at a4 a5 a6
  exact pb_173 hn P I (by omega) nn s 0 (by omega) (by omega)
theorem lw_patch (hn : 1000000 ≤ nn) (V : VS_ h) (S : SPD h) {a b d : Int} (ra : -2147483648 ≤ a - 8 ∧ a ≤ 2147483647) : Ok_ (qf_X13_patch nn a b d h) (QLD h) := by
  have g98 := gF_160_98 V
  unfold qf_X13_patch
  refine ok_sub (by omega) ?_; intro v55 e55
  refine ok_if (fun _ => ok_ret ⟨V, S, nl_rf⟩) (fun C => ?_)
  refine ok_if (fun _ => ok_ret ⟨V, S, nl_rf⟩) (fun D => ?_)
  refine ok_if (fun _ => ok_ret ⟨V, S, nl_rf⟩) (fun E => ?_)
  refine ok_rd (by omega) (gA_227 V) ?_; intro v58 e58 a58 b58
  refine ok_if (fun F => ?_) (fun _ => ok_ret ⟨V, S, nl_rf⟩)
  refine ok_rd (by omega) (gA_227 V) ?_; intro v60 e60 a60 b60
  refine ok_xl ?_; intro h61 E61
  obtain rfl : a = 8 + v55 := by omega
  have L : ∀ (k : Nat) (l : Int) (g : ms_M), VS_ g → NC h g → g 160 113 = v60 → (0 ≤ l ∧ l ≤ v60) → v60 - l < (k : Int) → Ok_ (qw_X13_patch_51 nn k (8 + v55) b d v55 l g) (QLD h) := by
    intro k
    induction k with
    | zero => intro l g V N e a hm; exfalso; omega
    | succ k ih =>
      intro l g V' N e a hm
      unfold qw_X13_patch_51
      refine ok_if (fun G => ?_) (fun G => ?_)
      · refine ok_and (by omega) ?_; intro v39 a39 b39
        refine ok_wA (by omega) ?_; intro h40 E40
        have V40 : VS_ h40 := by rw [E40]; exact wA_238 V' (by omega)
        have N40 : NC h h40 := fun x k a b => by rw [E40, up_n (fun y => a y.1)]; exact N x k a b
        refine ok_sv (as_aside hn (by omega) V40) ?_; intro u42 Q
        obtain ⟨V42, N42, T42⟩ := Q
        refine ok_sv (sr_scan hn (by omega) V42) ?_; intro u44 Q
        obtain ⟨⟨V44, N44, I44⟩, I49⟩ := Q
        have e9 : ∀ k : Nat, u44 239 k = u42 239 k := fun k => N44 239 k (by omega) (by omega) (by omega) (by omega)
        have P : PA9 h u44 v55 := by
          refine ⟨V, S, V44, fun x k w1 w2 w3 w4 => ?_, ?_, nl_tr (nc_nl N40) (nl_tr (nl_n9 N42) (nl_nta N44)), ?_, by omega⟩
          · rw [N44 x k (by omega) (fun z => w4 (.inl z)) (fun z => w4 (.inr (.inl z))) (fun z => w4 (.inr (.inr z))), N42 x k w3]
            exact N40 x k w2 (by omega)
          · have o : ∀ x k : Nat, x ≠ 160 → x ≠ 238 → h40 x k = h x k := fun x k a b => N40 x k b (fun y => a y.1)
            refine ⟨fun i hi => ?_, ?_, fun j hj => ?_⟩
            · rw [e9, T42.1 i hi]; exact o _ _ (by decide) (by decide)
            · have T2 := T42.2.1
              unfold TB2 at T2 ⊢
              rw [e9, e9, e9, e9, e9, ← o 229 _ (by decide) (by decide), ← o 230 _ (by decide) (by decide), ← o 231 _ (by decide) (by decide), ← o 232 _ (by decide) (by decide), ← o 234 _ (by decide) (by decide)]
              exact T2
            · rw [e9, e9, e9, e9, ← o 233 _ (by decide) (by decide), ← o 235 _ (by decide) (by decide), ← o 236 _ (by decide) (by decide), ← o 237 _ (by decide) (by decide)]
              exact T42.2.2 j hj
          · rw [N44 160 98 (by omega) (by omega) (by omega) (by omega), N42 160 98 (by decide)]
            exact N40 160 98 (by decide) (by decide)
        refine ok_if (fun _ => pb_123 hn P (fun y => absurd rfl y)) (fun y => pb_123 hn P (fun _ => ⟨I44 (show u44 160 114 = -1 from Decidable.not_not.1 y), I49 (show u44 160 114 = -1 from Decidable.not_not.1 y)⟩))
      · refine ok_mul (by omega) ?_; intro v49 e49
        refine ok_add (by omega) ?_; intro v50 e50
        refine ok_rd (by omega) (gA_226 V') ?_; intro v51 e51 _ _
        refine ok_wA (by omega) ?_; intro h52 E52
        refine ok_add (by omega) ?_; intro v53 e53
        exact ih v53 h52 (by rw [E52]; exact wA_238 V' (by omega)) (fun x k a b => by rw [E52, up_n (fun y => a y.1)]; exact N x k a b) (by rw [E52, up_n (by omega)]; exact e) (by omega) (by omega)
  exact L nn 0 h61 (by rw [E61]; exact wF_160_113 V (by omega)) (fun x k a b => by rw [E61, up_n b]) (by rw [E61, up_s]) (by omega) (by omega)
end
end
section
section
variable {nn : Nat} {h g r z w v : ms_M} {c d : Int}
/-- image c of the space, as w read it -/
def WI (h : ms_M) (c : Int) (w : ms_M) : Prop := VS_ w ∧ SI9 w c ∧ (∀ i : Int, 0 ≤ i → i < w 160 113 → h 226 (6000 * c + i).toNat = w 238 i.toNat) ∧ (∀ i : Int, 0 ≤ i → i ≤ 255 → h 228 (256 * c + i).toNat = pl w c i) ∧ h 229 c.toNat = w 229 c.toNat ∧ (CL w c (h 230 c.toNat) ∧ CL w c (h 231 c.toNat)) ∧ FLDS w c h ∧ MTHS w c h
theorem wi_of (hc : 0 ≤ c ∧ c ≤ 7) (I : IMW h c) : ∃ w : ms_M, WI h c w := by
  obtain ⟨r, Vr, ⟨w, Vw, K, S9, C, F, M⟩, a1, a2, a3⟩ := I
  have T : ∀ x k : Nat, TAB c x k → h x k = r x k := a3
  unfold TAB at T
  have e113 := K.2.1
  refine ⟨w, Vw, S9, fun i i1 i2 => ?_, fun i i1 i2 => ?_, ?_, ?_, ?_, ?_⟩
  · rw [show (6000 * c + i).toNat = 6000 * c.toNat + i.toNat by omega, a1 i.toNat (by omega)]
    exact (K.1 _).1
  · rw [T 228 _ (by omega)]; exact pl_ke K
  · rw [T 229 _ (by omega)]; exact K.2.2.2
  · rw [T 230 _ (by omega), T 231 _ (by omega)]; exact C
  · unfold FLDS FLD at F ⊢
    have e2 := T 232 c.toNat (by omega)
    rw [e2]
    refine ⟨F.1, fun j j1 j2 => ?_⟩
    rw [T 233 _ (by omega)]; exact F.2 j j1 j2
  · have e4 := T 234 c.toNat (by omega)
    refine ⟨by rw [e4]; exact M.1, fun j j1 j2 => ?_⟩
    rw [e4] at j2
    have m12 := M.1
    obtain ⟨q, q1, q2⟩ := M.2 j j1 j2
    refine ⟨q, q1, ?_⟩
    rw [T 235 _ (by omega)]
    exact xm_eq q2 (T 236 _ (by omega)) (T 237 _ (by omega))
/-- a text of the image: where it lies -/
theorem wi_tx (W : WI h c w) (hc : 0 ≤ c ∧ c ≤ 7) {i : Int} (t : TX w c i) : (1 ≤ i ∧ i ≤ 255) ∧ h 228 (256 * c + i).toNat = pl w c i ∧ (3 ≤ pl w c i ∧ pl w c i + 2 + w 238 (pl w c i + 1).toNat ≤ w 160 113 ∧ w 160 113 ≤ 6000) ∧ (1 ≤ w 238 (pl w c i + 1).toNat ∧ w 238 (pl w c i + 1).toNat ≤ 120) ∧ h 226 (6000 * c + pl w c i + 1).toNat = w 238 (pl w c i + 1).toNat := by
  obtain ⟨Vw, S9, b1, b2, b3, b4, b5, b6⟩ := W
  have g9 := gA_229 Vw c.toNat (by omega)
  have g3 := gF_160_113 Vw
  obtain ⟨t1, t2⟩ := t
  obtain ⟨c0, c1⟩ := S9.2.1 i t1.1 t1.2
  have c2 : (1 ≤ w 238 (pl w c i + 1).toNat ∧ w 238 (pl w c i + 1).toNat ≤ 120) ∧ pl w c i + 2 + w 238 (pl w c i + 1).toNat ≤ w 160 113 := by
    rcases c1 with x | x | x | x
    · exact x.2
    · exfalso; omega
    · exfalso; omega
    · exfalso; omega
  refine ⟨by omega, b2 i (by omega) (by omega), by omega, c2.1, ?_⟩
  have := b1 (pl w c i + 1) (by omega) (by omega)
  rw [← this, show 6000 * c + (pl w c i + 1) = 6000 * c + pl w c i + 1 by omega]
theorem wi_cl (W : WI h c w) (hc : 0 ≤ c ∧ c ≤ 7) {i : Int} (t : CL w c i) : (1 ≤ i ∧ i ≤ 255) ∧ h 228 (256 * c + i).toNat = pl w c i ∧ (3 ≤ pl w c i ∧ pl w c i + 2 ≤ 6000) ∧ h 226 (6000 * c + (pl w c i + 1)).toNat = w 238 (pl w c i + 1).toNat ∧ TS 4 w c (w 238 (pl w c i + 1).toNat) := by
  obtain ⟨Vw, S9, b1, b2, b3, b4, b5, b6⟩ := W
  have g9 := gA_229 Vw c.toNat (by omega)
  have g3 := gF_160_113 Vw
  obtain ⟨t1, t2⟩ := t
  obtain ⟨c0, c1⟩ := S9.2.1 i t1.1 t1.2
  have c2 : pl w c i + 2 ≤ w 160 113 := by
    rcases c1 with x | x | x | x <;> omega
  exact ⟨by omega, b2 i (by omega) (by omega), by omega, b1 (pl w c i + 1) (by omega) (by omega), (S9.2.2 i t1.1 t1.2).1 t2⟩
theorem rv_byte (V : VS_ h) (hc : 0 ≤ c ∧ c ≤ 7) {p : Int} (hp : 0 ≤ p ∧ p < 6000) : Ok_ (qf_X13_byteAt nn c p h) (fun u => u = h 226 (6000 * c + p).toNat ∧ (0 ≤ u ∧ u ≤ 255)) := by
  unfold qf_X13_byteAt
  refine ok_mul (by omega) ?_; intro v2 e2
  refine ok_add (by omega) ?_; intro v3 e3
  refine ok_rd (by omega) (gA_226 V) ?_; intro v4 e4 a4 b4
  exact ok_ret ⟨by rw [e4, e3, e2], a4, b4⟩
theorem rv_textOf (V : VS_ h) (hc : 0 ≤ c ∧ c ≤ 7) (W : WI h c w) {i : Int} (t : CL w c i) : Ok_ (qf_X13_textOfClass nn c i h) (fun u => u = w 238 (pl w c i + 1).toNat ∧ TS 4 w c u) := by
  obtain ⟨a1, a2, a3, a4, a5⟩ := wi_cl W hc t
  unfold qf_X13_textOfClass
  refine ok_mul (by omega) ?_; intro v2 e2
  refine ok_add (by omega) ?_; intro v3 e3
  refine ok_rd (by omega) (gA_228 V) ?_; intro v4 e4 _ _
  rw [e3, e2, a2] at e4
  refine ok_add (by omega) ?_; intro v5 e5
  refine ok_sv (rv_byte V hc (by omega)) ?_; intro u7 P7
  have e : u7 = w 238 (pl w c i + 1).toNat := by rw [P7.1, e5, e4]; exact a4
  exact ok_ret ⟨e, by rw [e]; exact a5⟩
theorem rv_classAt (hn : 1000000 ≤ nn) (V : VS_ h) (S : SPD h) (hc : 0 ≤ c ∧ c ≤ 7) (W : WI h c w) {i : Int} (t : TX w c i) : Ok_ (qf_X13_classAtText nn c i h) (fun u => -1 ≤ u ∧ u < 8 + h 160 98) := by
  obtain ⟨a1, a2, a3, a4, a5⟩ := wi_tx W hc t
  unfold qf_X13_classAtText
  refine ok_mul (by omega) ?_; intro v1 e1
  refine ok_mul (by omega) ?_; intro v3 e3
  refine ok_add (by omega) ?_; intro v4 e4
  refine ok_rd (by omega) (gA_228 V) ?_; intro v5 e5 _ _
  rw [e4, e3, a2] at e5
  refine ok_add (by omega) ?_; intro v6 e6
  refine ok_add (by omega) ?_; intro v8 e8
  refine ok_add (by omega) ?_; intro v10 e10
  refine ok_rd (by omega) (gA_226 V) ?_; intro v11 e11 _ _
  rw [show v10 = 6000 * c + pl w c i + 1 by omega, a5] at e11
  refine ok_sv (nm_class hn (.inr ⟨rfl, rfl⟩) V (by omega) (by omega) (spd_c S)) ?_; intro u13 P13
  exact ok_ret P13
theorem rv_super (hn : 1000000 ≤ nn) (V : VS_ h) (S : SPD h) {k : Int} (hk : 0 ≤ k ∧ k < 8 + h 160 98) : Ok_ (qf_X13_superOf nn k h) (fun u => -1 ≤ u ∧ u < 8 + h 160 98) := by
  have g98 := gF_160_98 V
  unfold qf_X13_superOf
  refine ok_if (fun C => ?_) (fun C => ?_)
  · refine ok_sub (by omega) ?_; intro v1 e1
    refine ok_sub (by omega) ?_; intro v2 e2
    refine ok_sub (by omega) ?_; intro v4 e4
    rw [show v4 = v1 by omega, show v2 = v1 by omega]
    have hc : 0 ≤ v1 ∧ v1 ≤ 7 := by omega
    obtain ⟨w, W⟩ := wi_of hc (S v1 (by omega) (by omega)).2
    refine ok_rd (by omega) (gA_231 V) ?_; intro v5 e5 _ _
    have t := W.2.2.2.2.2.1.2
    rw [← e5] at t
    refine ok_sv (rv_textOf V hc W t) ?_; intro u7 P7
    refine ok_sv (rv_classAt hn V S hc W P7.2.1) ?_; intro u9 P9
    exact ok_ret P9
  · refine ok_if (fun _ => ?_) (fun _ => ok_ret (by omega))
    exact ok_if (fun _ => ok_ret (by omega)) (fun _ => ok_ret (by omega))
theorem rv_under (hn : 1000000 ≤ nn) (V : VS_ h) (S : SPD h) {k t : Int} (hk : -1 ≤ k ∧ k < 8 + h 160 98) : Ok_ (qf_X13_isUnder nn k t h) (fun u => u = 0 ∨ u = 1) := by
  have L : ∀ (m : Nat) (l3 l4 : Int), (-1 ≤ l3 ∧ l3 < 8 + h 160 98) → (0 ≤ l4 ∧ l4 ≤ 17) → 18 - l4 < (m : Int) → Ok_ (qw_X13_isUnder_5 nn m t l3 l4 h) (fun u => u = 0 ∨ u = 1) := by
    intro m
    induction m with
    | zero => intro l3 l4 a b hm; exfalso; omega
    | succ m ih =>
      intro l3 l4 a b hm
      unfold qw_X13_isUnder_5
      refine ok_if (fun _ => ok_ret (.inl rfl)) (fun C => ?_)
      refine ok_if (fun _ => ok_ret (.inl rfl)) (fun D => ?_)
      refine ok_if (fun _ => ?_) (fun _ => ok_ret (.inr rfl))
      refine ok_sv (rv_super hn V S (by omega)) ?_; intro u2 P2
      refine ok_add (by omega) ?_; intro v3 e3
      exact ih u2 v3 P2 (by omega) (by omega)
  unfold qf_X13_isUnder
  exact L nn k 0 hk (by omega) (by omega)
theorem rv_same (hn : 1000000 ≤ nn) (V : VS_ h) (hc : 0 ≤ c ∧ c ≤ 7) (hd : 0 ≤ d ∧ d ≤ 7) (W : WI h c w) (X : WI h d v) {i j : Int} (t : TX w c i) (s : TX v d j) : Ok_ (qf_X13_sameText nn c i d j h) (fun u => u = 0 ∨ u = 1) := by
  obtain ⟨a1, a2, a3, a4, a5⟩ := wi_tx W hc t
  obtain ⟨b1, b2, b3, b4, b5⟩ := wi_tx X hd s
  have L : ∀ (l5 l6 n : Int), (0 ≤ l5 ∧ l5 + 2 + n ≤ 48000) → (1 ≤ n ∧ n ≤ 120) → h 226 (l5 + 1).toNat = n → (0 ≤ l6) → ∀ (m : Nat) (l7 l8 : Int), (l7 = 0 ∨ (l7 = 1 ∧ l6 + 2 + n ≤ 48000)) → (0 ≤ l8 ∧ l8 ≤ n) → n - l8 < (m : Int) → Ok_ (qw_X13_sameText_72 nn m l5 l6 l7 l8 h) (fun u => u = 0 ∨ u = 1) := by
    intro l5 l6 n p1 p2 p3 p4 m
    induction m with
    | zero => intro l7 l8 a b hm; exfalso; omega
    | succ m ih =>
      intro l7 l8 a b hm
      have a' : l7 = 0 ∨ l7 = 1 := by omega
      unfold qw_X13_sameText_72
      refine ok_add (by omega) ?_; intro v2 e2
      refine ok_rd (by omega) (gA_226 V) ?_; intro v3 e3 _ _
      rw [e2, p3] at e3
      refine ok_if (fun _ => ok_ck a' (ok_ret a')) (fun C => ?_)
      refine ok_if (fun _ => ok_ck a' (ok_ret a')) (fun D => ?_)
      refine ok_add (by omega) ?_; intro v7 e7
      refine ok_add (by omega) ?_; intro v8 e8
      refine ok_rd (by omega) (gA_226 V) ?_; intro v9 _ _ _
      refine ok_add (by omega) ?_; intro v11 e11
      refine ok_add (by omega) ?_; intro v12 e12
      refine ok_rd (by omega) (gA_226 V) ?_; intro v13 _ _ _
      refine ok_if (fun _ => ?_) (fun _ => ?_)
      · refine ok_add (by omega) ?_; intro v14 e14
        exact ih 0 v14 (.inl rfl) (by omega) (by omega)
      · refine ok_add (by omega) ?_; intro v15 e15
        exact ih 1 v15 (.inr ⟨rfl, by omega⟩) (by omega) (by omega)
  unfold qf_X13_sameText
  refine ok_mul (by omega) ?_; intro v19 e19
  refine ok_mul (by omega) ?_; intro v21 e21
  refine ok_add (by omega) ?_; intro v22 e22
  refine ok_rd (by omega) (gA_228 V) ?_; intro v23 e23 _ _
  rw [e22, e21, a2] at e23
  refine ok_add (by omega) ?_; intro v24 e24
  refine ok_mul (by omega) ?_; intro v25 e25
  refine ok_mul (by omega) ?_; intro v27 e27
  refine ok_add (by omega) ?_; intro v28 e28
  refine ok_rd (by omega) (gA_228 V) ?_; intro v29 e29 _ _
  rw [e28, e27, b2] at e29
  refine ok_add (by omega) ?_; intro v30 e30
  refine ok_add (by omega) ?_; intro v32 e32
  refine ok_rd (by omega) (gA_226 V) ?_; intro v33 e33 _ _
  rw [show v32 = 6000 * c + pl w c i + 1 by omega, a5] at e33
  refine ok_add (by omega) ?_; intro v35 e35
  refine ok_rd (by omega) (gA_226 V) ?_; intro v36 e36 _ _
  rw [show v35 = 6000 * d + pl v d j + 1 by omega, b5] at e36
  have p3 : h 226 (v24 + 1).toNat = v33 := by rw [show v24 + 1 = 6000 * c + pl w c i + 1 by omega, a5, e33]
  refine ok_if (fun _ => L v24 v30 v33 (by omega) (by omega) p3 (by omega) nn 0 0 (.inl rfl) (by omega) (by omega)) (fun D => ?_)
  have D : v33 = v36 := Decidable.not_not.1 D
  exact L v24 v30 v33 (by omega) (by omega) p3 (by omega) nn 1 0 (.inr ⟨rfl, by omega⟩) (by omega) (by omega)
/-- a method's head: its bytes are there -/
theorem wi_mt (W : WI h c w) (hc : 0 ≤ c ∧ c ≤ 7) {k : Int} (hk : 0 ≤ k ∧ k < h 234 c.toNat) : k < 12 ∧ (h 235 (12 * c + k).toNat + 7 ≤ w 160 113 ∧ w 160 113 ≤ 6000) ∧ MTH w c h k := by
  have M := W.2.2.2.2.2.2.2
  have g3 := gF_160_113 W.1
  have m := M.2 k hk.1 hk.2
  have m12 := M.1
  refine ⟨by omega, ?_, m⟩
  obtain ⟨q, q1, q2⟩ := m
  unfold XM XI XG XE XD XC XR XH XF FRM at q2
  obtain ⟨_, _, _, _, _, _, n1, _, hp, _⟩ := q2
  omega
end
end
section
section
variable {nn : Nat} {h g r z w v : ms_M} {c d : Int}
theorem sub8 {a : Int} (r : -2147483648 ≤ a ∧ a ≤ 2147483647) (y : a - 8 < -2147483648) : 2147483640 ≤ oq_sub a 8 := by
  unfold oq_sub
  rw [Int32.toInt_sub, to_of r, to_of (by omega)]
  unfold Int.bmod
  dsimp only
  split <;> omega
theorem lw_patch2 (hn : 1000000 ≤ nn) (V : VS_ h) (S : SPD h) {a b d : Int} (ra : -2147483648 ≤ a ∧ a ≤ 2147483647) : Ok_ (qf_X13_patch nn a b d h) (QLD h) := by
  by_cases y : -2147483648 ≤ a - 8
  · exact lw_patch hn V S ⟨y, ra.2⟩
  · have g98 := gF_160_98 V
    have s := sub8 ra (by omega)
    unfold qf_X13_patch
    refine ok_xl ?_; intro v55 e55
    rw [← e55] at s
    refine ok_if (fun C => by exfalso; omega) (fun C => ?_)
    exact ok_if (fun _ => ok_ret ⟨V, S, nl_rf⟩) (fun D => by exfalso; omega)
theorem mkn_len {f : Nat → Int} {m : Nat} {a e : Int} (k : MKn f m a e) : a + 3 ≤ e := by
  obtain ⟨_, q, p, _, t⟩ := k
  have := pr_le _ _ _ p
  rcases t with t | t
  · omega
  · have := kd_lt t; omega
/-- a method's own texts -/
theorem mth_tx {k : Int} (m : MTH w c h k) : TS 0 w c (w 238 (h 235 (12 * c + k).toNat + 1).toNat) ∧ TS 2 w c (w 238 (h 235 (12 * c + k).toNat + 2).toNat) := by
  obtain ⟨q, _, m⟩ := m
  unfold XM XI XG at m
  exact ⟨m.2.1, m.2.2.1⟩
theorem wi_fd (W : WI h c w) (hc : 0 ≤ c ∧ c ≤ 7) {k : Int} (hk : 0 ≤ k ∧ k < h 232 c.toNat) : k < 12 ∧ FLD w c h k (h 233 (12 * c + k).toNat) := by
  have F := W.2.2.2.2.2.2.1
  have f12 := F.1
  obtain ⟨p, P⟩ := F.2 k hk.1 hk.2
  refine ⟨by omega, ?_⟩
  have e := P.1
  rw [e]; exact P
/-- which members there are, by sort -/
def mem (h : ms_M) (c s : Int) : Int := if s = 0 then h 232 c.toNat else h 234 c.toNat
theorem rv_name (V : VS_ h) (hc : 0 ≤ c ∧ c ≤ 7) (W : WI h c w) {k s : Int} (hk : 0 ≤ k ∧ k < mem h c s) : Ok_ (qf_X13_nameText nn c k s h) (TS 0 w c) := by
  unfold qf_X13_nameText
  refine ok_if (fun C => ?_) (fun C => ?_)
  · rw [show mem h c s = h 232 c.toNat from if_pos C] at hk
    obtain ⟨k12, e, p, t0, t1⟩ := wi_fd W hc hk
    have g3 := gF_160_113 W.1
    refine ok_mul (by omega) ?_; intro v2 e2
    refine ok_add (by omega) ?_; intro v3 e3
    refine ok_rd (by omega) (gA_233 V) ?_; intro v4 e4 _ _
    rw [e3, e2] at e4
    rw [← e4] at p t0 t1
    refine ok_sv (rv_byte V hc (by omega)) ?_; intro u6 P6
    refine ok_ret ?_
    rw [P6.1, W.2.2.1 v4 (by omega) (by omega)]; exact t0
  · rw [show mem h c s = h 234 c.toNat from if_neg C] at hk
    obtain ⟨k12, b, m⟩ := wi_mt W hc hk
    have t := (mth_tx m).1
    refine ok_mul (by omega) ?_; intro v8 e8
    refine ok_add (by omega) ?_; intro v9 e9
    refine ok_rd (by omega) (gA_235 V) ?_; intro v10 e10 _ _
    rw [e9, e8] at e10
    rw [← e10] at b t
    refine ok_add (by omega) ?_; intro v11 e11
    refine ok_sv (rv_byte V hc (by omega)) ?_; intro u13 P13
    refine ok_ret ?_
    rw [P13.1, W.2.2.1 v11 (by omega) (by omega), e11]; exact t
theorem rv_kind (V : VS_ h) (hc : 0 ≤ c ∧ c ≤ 7) (W : WI h c w) {k s : Int} (hk : 0 ≤ k ∧ k < mem h c s) : Ok_ (qf_X13_kindText nn c k s h) (fun u => (s = 0 → TS 1 w c u) ∧ (¬ s = 0 → TS 2 w c u)) := by
  unfold qf_X13_kindText
  refine ok_if (fun C => ?_) (fun C => ?_)
  · rw [show mem h c s = h 232 c.toNat from if_pos C] at hk
    obtain ⟨k12, e, p, t0, t1⟩ := wi_fd W hc hk
    have g3 := gF_160_113 W.1
    refine ok_mul (by omega) ?_; intro v2 e2
    refine ok_add (by omega) ?_; intro v3 e3
    refine ok_rd (by omega) (gA_233 V) ?_; intro v4 e4 _ _
    rw [e3, e2] at e4
    rw [← e4] at p t0 t1
    refine ok_add (by omega) ?_; intro v5 e5
    refine ok_sv (rv_byte V hc (by omega)) ?_; intro u6 P6
    refine ok_ret ⟨fun _ => ?_, fun y => absurd C y⟩
    rw [P6.1, W.2.2.1 v5 (by omega) (by omega), e5]; exact t1
  · rw [show mem h c s = h 234 c.toNat from if_neg C] at hk
    obtain ⟨k12, b, m⟩ := wi_mt W hc hk
    have t := (mth_tx m).2
    refine ok_mul (by omega) ?_; intro v8 e8
    refine ok_add (by omega) ?_; intro v9 e9
    refine ok_rd (by omega) (gA_235 V) ?_; intro v10 e10 _ _
    rw [e9, e8] at e10
    rw [← e10] at b t
    refine ok_add (by omega) ?_; intro v11 e11
    refine ok_sv (rv_byte V hc (by omega)) ?_; intro u13 P13
    refine ok_ret ⟨fun y => absurd y C, fun _ => ?_⟩
    rw [P13.1, W.2.2.1 v11 (by omega) (by omega), e11]; exact t
theorem rv_type (hn : 1000000 ≤ nn) (V : VS_ h) (S : SPD h) {a b : Int} (ra : -2147483648 ≤ a ∧ a ≤ 2147483647) : Ok_ (qf_X13_type_ nn a b h) (fun _ => True) := by
  have g98 := gF_160_98 V
  unfold qf_X13_type_
  refine ok_if (fun _ => ok_ret trivial) (fun A => ?_)
  refine ok_add (by omega) ?_; intro v2 e2
  refine ok_if (fun _ => ok_ret trivial) (fun B => ?_)
  refine ok_if (fun _ => ok_ret trivial) (fun C => ?_)
  refine ok_if (fun D => ?_) (fun _ => ok_ret trivial)
  refine ok_if (fun E => ?_) (fun _ => ?_)
  · refine ok_sub (by omega) ?_; intro v3 e3
    refine ok_if (fun F => ?_) (fun _ => ok_ret trivial)
    refine ok_if (fun _ => ?_) (fun _ => ?_)
    · refine ok_rd (by omega) (gA_232 V) ?_; intro v7 _ _ _; exact ok_ret trivial
    refine ok_if (fun _ => ?_) (fun _ => ?_)
    · refine ok_rd (by omega) (gA_234 V) ?_; intro v7 _ _ _; exact ok_ret trivial
    refine ok_if (fun _ => ?_) (fun _ => ?_)
    · refine ok_rd (by omega) (gA_227 V) ?_; intro v7 _ _ _; exact ok_ret trivial
    · refine ok_rd (by omega) (gA_229 V) ?_; intro v7 _ _ _; exact ok_ret trivial
  · refine ok_sv (rv_super hn V S (by omega)) ?_; intro u14 _
    exact ok_ret trivial
/-- what the machine's own calls leave -/
def NMc (h r : ms_M) : Prop := ∀ x k : Nat, x < 246 → ¬ (x = 160 ∧ 138 ≤ k) → r x k = h x k
theorem rn_enter (hn : 1000000 ≤ nn) (V : VS_ h) {a b : Int} (ra : -1 ≤ a ∧ a ≤ 2117) (rb : 0 ≤ b ∧ b ≤ 254) (hd : h 160 149 ≤ 59) : Ok_ (qf_X13_enter nn a b h) (fun r => VS_ r ∧ (∀ x k : Nat, x < 251 → ¬ (x = 160 ∧ k = 149) → r x k = h x k) ∧ r 160 149 = h 160 149 + 1) := by
  have g149 := gF_160_149 V
  have L : ∀ (k : Nat) (l : Int) (g : ms_M), VS_ g → (∀ x k : Nat, x < 251 → g x k = h x k) → (0 ≤ l ∧ l ≤ 60) → 61 - l < (k : Int) → Ok_ (qw_X13_enter_42 nn k l g) (fun r => VS_ r ∧ (∀ x k : Nat, x < 251 → ¬ (x = 160 ∧ k = 149) → r x k = h x k) ∧ r 160 149 = h 160 149 + 1) := by
    intro k
    induction k with
    | zero => intro l g V N a hm; exfalso; omega
    | succ k ih =>
      intro l g V' N a hm
      have e := N 160 149 (by decide)
      unfold qw_X13_enter_42
      refine ok_if (fun _ => ?_) (fun C => ?_)
      · refine ok_add (by omega) ?_; intro v2 e2
        refine ok_xl ?_; intro h3 E3
        exact ok_ret ⟨by rw [E3]; exact wF_160_149 V' (by omega), fun x k w1 w2 => by rw [E3, up_n w2]; exact N x k w1, by rw [E3, up_s]; omega⟩
      · refine ok_mul (by omega) ?_; intro v6 e6
        refine ok_add (by omega) ?_; intro v7 e7
        refine ok_wA (by omega) ?_; intro h8 E8
        refine ok_add (by omega) ?_; intro v9 e9
        exact ih v9 h8 (by rw [E8]; exact wA_255 V' (by omega)) (fun x k w => by rw [E8, up_n (by omega)]; exact N x k w) (by omega) (by omega)
  unfold qf_X13_enter
  refine ok_wA (by omega) ?_; intro h13 E13
  have V13 : VS_ h13 := by rw [E13]; exact wA_251 V ra
  have N13 : ∀ x k : Nat, x < 251 → h13 x k = h x k := fun x k w => by rw [E13, up_n (by omega)]
  have e13 := N13 160 149 (by decide)
  refine ok_wA (by omega) ?_; intro h16 E16
  have V16 : VS_ h16 := by rw [E16]; exact wA_252 V13 rb
  have N16 : ∀ x k : Nat, x < 251 → h16 x k = h x k := fun x k w => by rw [E16, up_n (by omega)]; exact N13 x k w
  have e16 := N16 160 149 (by decide)
  refine ok_wA (by omega) ?_; intro h19 E19
  have V19 : VS_ h19 := by rw [E19]; exact wA_253 V16 (by omega)
  have N19 : ∀ x k : Nat, x < 251 → h19 x k = h x k := fun x k w => by rw [E19, up_n (by omega)]; exact N16 x k w
  have e19 := N19 160 149 (by decide)
  refine ok_wA (by omega) ?_; intro h22 E22
  have V22 : VS_ h22 := by rw [E22]; exact wA_254 V19 (by omega)
  have N22 : ∀ x k : Nat, x < 251 → h22 x k = h x k := fun x k w => by rw [E22, up_n (by omega)]; exact N19 x k w
  exact L nn 0 h22 V22 N22 (by omega) (by omega)
/-- start is safe -/
theorem rn_start (hn : 1000000 ≤ nn) (V : VS_ h) (S : SPD h) {a b : Int} (ra : -2147483648 ≤ a ∧ a ≤ 2147483647) : Ok_ (qf_X13_start nn a b h) (fun u => VS_ u.2 ∧ NMc h u.2 ∧ (u.2 = h ∨ (u.1 = 1 ∧ u.2 160 149 = 1))) := by
  have g98 := gF_160_98 V
  have Z : ∀ y : Int, Ok_ (some (y, h)) (fun u : Int × ms_M => VS_ u.2 ∧ NMc h u.2 ∧ (u.2 = h ∨ (u.1 = 1 ∧ u.2 160 149 = 1))) := fun y => ok_ret ⟨V, fun _ _ _ _ => rfl, .inl rfl⟩
  unfold qf_X13_start
  refine ok_xl ?_; intro v4 e4
  refine ok_if (fun _ => Z 0) (fun _ => ?_)
  refine ok_if (fun _ => Z 0) (fun A => ?_)
  refine ok_if (fun _ => Z 0) (fun B => ?_)
  have ea : v4 = a - 8 := by
    by_cases y : -2147483648 ≤ a - 8
    · rw [e4]; exact oq_sub_eq ra (by omega) (by omega)
    · have s := sub8 ra (by omega)
      exfalso; omega
  have hc : 0 ≤ v4 ∧ v4 ≤ 7 := by omega
  obtain ⟨w, W⟩ := wi_of hc (S v4 (by omega) (by omega)).2
  refine ok_if (fun _ => Z 0) (fun C => ?_)
  refine ok_rd (by omega) (gA_234 V) ?_; intro v8 e8 _ _
  refine ok_if (fun D => ?_) (fun _ => Z 0)
  obtain ⟨k12, bb, m⟩ := wi_mt W hc (k := b) (by omega)
  refine ok_mul (by omega) ?_; intro v9 e9
  refine ok_mul (by omega) ?_; intro v11 e11
  refine ok_sv (rv_kind V hc W (s := 1) (k := b) (by rw [show mem h v4 1 = h 234 v4.toNat from rfl]; omega)) ?_; intro u13 P13
  have t := P13.2 (by decide)
  obtain ⟨a1, a2, a3, a4, a5⟩ := wi_tx W hc t.1
  have l3 : 3 ≤ w 238 (pl w v4 u13 + 1).toNat := by
    obtain ⟨m, _, k⟩ := t.2.2.2.1 rfl
    have := mkn_len k
    omega
  refine ok_add (by omega) ?_; intro v14 e14
  refine ok_rd (by omega) (gA_228 V) ?_; intro v15 e15 _ _
  rw [e14, e11, a2] at e15
  refine ok_add (by omega) ?_; intro v16 e16
  refine ok_add (by omega) ?_; intro v17 e17
  refine ok_mul (by omega) ?_; intro v19 e19
  refine ok_add (by omega) ?_; intro v20 e20
  refine ok_rd (by omega) (gA_235 V) ?_; intro v21 e21 _ _
  rw [e20, e19] at e21
  rw [← e21] at bb
  refine ok_sv (rv_byte V hc (by omega)) ?_; intro u23 _
  refine ok_if (fun _ => Z 0) (fun _ => ?_)
  refine ok_add (by omega) ?_; intro v25 e25
  refine ok_rd (by omega) (gA_226 V) ?_; intro v26 _ _ _
  refine ok_if (fun _ => ?_) (fun _ => Z 0)
  refine ok_xl ?_; intro h27 E27
  have V27 : VS_ h27 := by rw [E27]; exact wF_160_138 V (by omega)
  refine ok_xl ?_; intro h28 E28
  have V28 : VS_ h28 := by rw [E28]; exact wF_160_139 V27 (by omega)
  refine ok_xl ?_; intro h29 E29
  have V29 : VS_ h29 := by rw [E29]; exact wF_160_140 V28 (by omega)
  refine ok_xl ?_; intro h30 E30
  have V30 : VS_ h30 := by rw [E30]; exact wF_160_141 V29 (by omega)
  refine ok_xl ?_; intro h31 E31
  have V31 : VS_ h31 := by rw [E31]; exact wF_160_142 V30 (by omega)
  refine ok_xl ?_; intro h32 E32
  have V32 : VS_ h32 := by rw [E32]; exact wF_160_143 V31 (by omega)
  have N32 : ∀ x k : Nat, ¬ (x = 160 ∧ 138 ≤ k) → h32 x k = h x k := fun x k y => by
    rw [E32, up_n (by omega), E31, up_n (by omega), E30, up_n (by omega), E29, up_n (by omega), E28, up_n (by omega), E27, up_n (by omega)]
  unfold qj_X13_start_133
  refine ok_xl ?_; intro h1 E1
  have V1 : VS_ h1 := by rw [E1]; exact wF_160_149 V32 (by omega)
  have f1 : h1 160 149 = 0 := by rw [E1, up_s]
  refine ok_sv (rn_enter hn V1 (by omega) (by omega) (by omega)) ?_; intro u3 P3
  refine ok_ret ⟨P3.1, fun x k w1 w2 => ?_, .inr ⟨rfl, ?_⟩⟩
  · show u3 x k = h x k
    rw [P3.2.1 x k (by omega) (by omega), E1, up_n (by omega)]; exact N32 x k w2
  · show u3 160 149 = 1
    rw [P3.2.2, f1]; rfl
theorem nmc_spd (V : VS_ h) (N : NMc h r) (S : SPD h) : SPD r := by
  have e : ∀ x k : Nat, 226 ≤ x → x ≤ 237 → r x k = h x k := fun x k a b => N x k (by omega) (by omega)
  have e98 : r 160 98 = h 160 98 := N 160 98 (by decide) (by omega)
  have g98 := gF_160_98 V
  intro d a b
  have I := S d a (by omega)
  have A : ∀ x k : Nat, 226 ≤ x → x ≤ 237 → r x k = h x k := e
  refine ⟨img_eq (by omega) I.1 (fun i hi => A _ _ (by decide) (by decide)) V (A _ _ (by decide) (by decide)) (fun i _ _ => A _ _ (by decide) (by decide)) (A _ _ (by decide) (by decide)) (A _ _ (by decide) (by decide)) (A _ _ (by decide) (by decide)), ?_⟩
  obtain ⟨w, Vw, I9, a1, a2, a3⟩ := I.2
  refine ⟨w, Vw, I9, fun i hi => ?_, ?_, fun x k y => ?_⟩
  · rw [A 226 _ (by decide) (by decide)]; exact a1 i hi
  · rw [A 227 _ (by decide) (by decide)]; exact a2
  · have y2 := y
    unfold TAB at y2
    rw [A x k (by omega) (by omega)]; exact a3 x k y
end
end
section
section
variable {nn : Nat} {h g r z w v : ms_M} {c d : Int}
theorem spd_k (V : VS_ h) (A : ∀ x k : Nat, 226 ≤ x → x ≤ 237 → r x k = h x k) (e98 : r 160 98 = h 160 98) (S : SPD h) : SPD r := by
  have g98 := gF_160_98 V
  intro d a b
  have I := S d a (by omega)
  refine ⟨img_eq (by omega) I.1 (fun i hi => A _ _ (by decide) (by decide)) V (A _ _ (by decide) (by decide)) (fun i _ _ => A _ _ (by decide) (by decide)) (A _ _ (by decide) (by decide)) (A _ _ (by decide) (by decide)) (A _ _ (by decide) (by decide)), ?_⟩
  obtain ⟨w, Vw, I9, a1, a2, a3⟩ := I.2
  refine ⟨w, Vw, I9, fun i hi => ?_, ?_, fun x k y => ?_⟩
  · rw [A 226 _ (by decide) (by decide)]; exact a1 i hi
  · rw [A 227 _ (by decide) (by decide)]; exact a2
  · have y2 := y
    unfold TAB at y2
    rw [A x k (by omega) (by omega)]; exact a3 x k y
theorem wi_k (A : ∀ x k : Nat, 226 ≤ x → x ≤ 237 → r x k = h x k) (W : WI h c w) : WI r c w := by
  obtain ⟨b0, b1, b2, b3, b4, b5, b6, b7⟩ := W
  refine ⟨b0, b1, fun i i1 i2 => ?_, fun i i1 i2 => ?_, ?_, ?_, ?_, ?_⟩
  · rw [A 226 _ (by decide) (by decide)]; exact b2 i i1 i2
  · rw [A 228 _ (by decide) (by decide)]; exact b3 i i1 i2
  · rw [A 229 _ (by decide) (by decide)]; exact b4
  · rw [A 230 _ (by decide) (by decide), A 231 _ (by decide) (by decide)]; exact b5
  · unfold FLDS FLD at b6 ⊢
    rw [A 232 _ (by decide) (by decide)]
    refine ⟨b6.1, fun j j1 j2 => ?_⟩
    rw [A 233 _ (by decide) (by decide)]; exact b6.2 j j1 j2
  · refine ⟨by rw [A 234 _ (by decide) (by decide)]; exact b7.1, fun j j1 j2 => ?_⟩
    rw [A 234 _ (by decide) (by decide)] at j2
    obtain ⟨q, q1, q2⟩ := b7.2 j j1 j2
    refine ⟨q, q1, ?_⟩
    rw [A 235 _ (by decide) (by decide)]
    exact xm_eq q2 (A 236 _ (by decide) (by decide)) (A 237 _ (by decide) (by decide))
/-- names that no class has: where they lie -/
def OI (h : ms_M) : Prop := ∀ k : Nat, (k : Int) < h 160 117 → 0 ≤ h 240 k ∧ h 240 k + h 241 k ≤ 48000
/-- what naming a type leaves -/
def NY (h r : ms_M) : Prop := ∀ x k : Nat, ¬ (x = 160 ∧ (k = 117 ∨ k = 120)) → x ≠ 240 → x ≠ 241 → r x k = h x k
theorem ny_rf : NY h h := fun _ _ _ _ _ => rfl
theorem ny_tr (a : NY h z) (b : NY z r) : NY h r := fun x k w1 w2 w3 => (b x k w1 w2 w3).trans (a x k w1 w2 w3)
theorem ny_k (N : NY h r) : ∀ x k : Nat, 226 ≤ x → x ≤ 237 → r x k = h x k := fun x k _ _ => N x k (by omega) (by omega) (by omega)
theorem ny_spd (V : VS_ h) (N : NY h r) (S : SPD h) : SPD r := spd_k V (ny_k N) (N 160 98 (by decide) (by decide) (by decide)) S
def NNm (h : ms_M) (u : Int × ms_M) : Prop := VS_ u.2 ∧ NY h u.2 ∧ OI u.2 ∧ u.2 160 120 = h 160 120 ∧ ((0 ≤ u.1 ∧ u.1 < 8 + h 160 98 ∧ u.2 160 117 = h 160 117) ∨ (16 ≤ u.1 ∧ u.1 ≤ 2115 ∧ u.2 160 117 ≤ h 160 117 + 1))
def NN2 (h : ms_M) (u : Int × ms_M) : Prop := NNm h u ∧ 16 ≤ u.1
theorem rv_num21 (V : VS_ h) (O : OI h) (room : h 160 117 ≤ 2099) (hn : 1000000 ≤ nn) {a n : Int} (ra : 0 ≤ a ∧ a + n ≤ 48000) (rn : 0 ≤ n ∧ n ≤ 255) : Ok_ (qw_X13_nameNumber_21 nn nn a n 0 h) (NN2 h) := by
  have g117 := gF_160_117 V
  have L : ∀ (k : Nat) (l4 : Int), (0 ≤ l4 ∧ l4 ≤ h 160 117) → h 160 117 - l4 < (k : Int) → Ok_ (qw_X13_nameNumber_21 nn k a n l4 h) (NN2 h) := by
    intro k
    induction k with
    | zero => intro l4 b hm; exfalso; omega
    | succ k ih =>
      intro l4 b hm
      unfold qw_X13_nameNumber_21
      refine ok_if (fun C => ?_) (fun C => ?_)
      · refine ok_wA (by omega) ?_; intro h20 E20
        have V20 : VS_ h20 := by rw [E20]; exact wA_240 V (by omega)
        have e20 : h20 160 117 = h 160 117 := by rw [E20, up_n (by omega)]
        refine ok_wA (by omega) ?_; intro h23 E23
        have V23 : VS_ h23 := by rw [E23]; exact wA_241 V20 (by omega)
        have e23 : h23 160 117 = h 160 117 := by rw [E23, up_n (by omega)]; exact e20
        refine ok_add (by omega) ?_; intro v25 e25
        refine ok_xl ?_; intro h26 E26
        have V26 : VS_ h26 := by rw [E26]; exact wF_160_117 V23 (by omega)
        have e26 : h26 160 117 = h 160 117 + 1 := by rw [E26, up_s]; omega
        refine ok_add (by omega) ?_; intro v28 e28
        refine ok_sub (by omega) ?_; intro v29 e29
        rw [e20] at E23
        refine ok_ret ⟨⟨V26, fun x k w1 w2 w3 => ?_, fun j hj => ?_, ?_, .inr ⟨by show 16 ≤ v29; omega, by show v29 ≤ 2115; omega, by show h26 160 117 ≤ _; omega⟩⟩, by show 16 ≤ v29; omega⟩
        · show h26 x k = h x k
          rw [E26, up_n (by omega), E23, up_n (by omega), E20, up_n (by omega)]
        · have hj : (j : Int) < h 160 117 + 1 := by rw [← e26]; exact hj
          show 0 ≤ h26 240 j ∧ h26 240 j + h26 241 j ≤ 48000
          by_cases q : j = (h 160 117).toNat
          · have q0 : h26 240 j = a := by rw [E26, up_n (by omega), E23, up_n (by omega), E20, q, up_s]
            have q1 : h26 241 j = n := by rw [E26, up_n (by omega), E23, q, up_s]
            omega
          · have q0 : h26 240 j = h 240 j := by rw [E26, up_n (by omega), E23, up_n (by omega), E20, up_n (by omega)]
            have q1 : h26 241 j = h 241 j := by rw [E26, up_n (by omega), E23, up_n (by omega), E20, up_n (by omega)]
            rw [q0, q1]; exact O j (by omega)
        · show h26 160 120 = h 160 120
          rw [E26, up_n (by omega), E23, up_n (by omega), E20, up_n (by omega)]
      · have o := O l4.toNat (by omega)
        have I : ∀ (m : Nat) (l5 l6 : Int), (l5 = 0 ∨ (l5 = 1 ∧ h 241 l4.toNat = n)) → (0 ≤ l6 ∧ l6 ≤ n) → n - l6 < (m : Int) → Ok_ (qw_X13_nameNumber_51 nn (qw_X13_nameNumber_21 nn k) m a n l4 l5 l6 h) (NN2 h) := by
          intro m
          induction m with
          | zero => intro l5 l6 p q hm2; exfalso; omega
          | succ m ih2 =>
            intro l5 l6 p q hm2
            have E : Ok_ (qj_X13_nameNumber_102 nn (qw_X13_nameNumber_21 nn k) a n l4 l5 h) (NN2 h) := by
              unfold qj_X13_nameNumber_102
              refine ok_if (fun _ => ?_) (fun _ => ?_)
              · refine ok_add (by omega) ?_; intro v1 e1
                exact ih v1 (by omega) (by omega)
              · refine ok_add (by omega) ?_; intro v2 e2
                exact ok_ret ⟨⟨V, ny_rf, O, rfl, .inr ⟨by show 16 ≤ v2; omega, by show v2 ≤ 2115; omega, by show h 160 117 ≤ _; omega⟩⟩, by show 16 ≤ v2; omega⟩
            unfold qw_X13_nameNumber_51
            refine ok_if (fun _ => E) (fun D => ?_)
            refine ok_if (fun _ => E) (fun F => ?_)
            refine ok_rd (by omega) (gA_240 V) ?_; intro v6 e6 _ _
            refine ok_add (by omega) ?_; intro v7 e7
            refine ok_rd (by omega) (gA_226 V) ?_; intro v8 _ _ _
            refine ok_add (by omega) ?_; intro v10 e10
            refine ok_rd (by omega) (gA_226 V) ?_; intro v11 _ _ _
            refine ok_if (fun _ => ?_) (fun _ => ?_)
            · refine ok_add (by omega) ?_; intro v12 e12
              exact ih2 0 v12 (.inl rfl) (by omega) (by omega)
            · refine ok_add (by omega) ?_; intro v13 e13
              exact ih2 1 v13 (.inr ⟨rfl, by omega⟩) (by omega) (by omega)
        refine ok_rd (by omega) (gA_241 V) ?_; intro v31 e31 _ _
        refine ok_if (fun _ => I nn 0 0 (.inl rfl) (by omega) (by omega)) (fun D => ?_)
        exact I nn 1 0 (.inr ⟨rfl, by rw [← e31]; exact Decidable.not_not.1 D⟩) (by omega) (by omega)
  exact L nn 0 (by omega) (by omega)
theorem rv_number (hn : 1000000 ≤ nn) (V : VS_ h) (S : SPD h) (O : OI h) (room : h 160 117 ≤ 2099) {a n : Int} (ra : 0 ≤ a ∧ a + n ≤ 48000) (rn : 0 ≤ n ∧ n ≤ 255) : Ok_ (qf_X13_nameNumber nn a n h) (NNm h) := by
  have g98 := gF_160_98 V
  have g117 := gF_160_117 V
  unfold qf_X13_nameNumber
  refine ok_sv (nm_class hn (.inr ⟨rfl, rfl⟩) V (by omega) rn (spd_c S)) ?_; intro u36 P
  refine ok_if (fun _ => ok_im (rv_num21 V O room hn ra rn) (fun _ q => q.1)) (fun D => ?_)
  exact ok_ret ⟨V, ny_rf, O, rfl, .inl ⟨by show 0 ≤ u36; omega, by show u36 < _; omega, rfl⟩⟩
/-- what reading a type leaves: e the place behind it -/
def TQ (h : ms_M) (e : Int) (u : Int × ms_M) : Prop := VS_ u.2 ∧ NY h u.2 ∧ OI u.2 ∧ u.2 160 120 = e ∧ ((0 ≤ u.1 ∧ u.1 < 20 + 2 * h 160 98 ∧ u.2 160 117 = h 160 117) ∨ (36 ≤ u.1 ∧ u.1 ≤ 4235 ∧ u.2 160 117 ≤ h 160 117 + 1))
theorem rv_type75 (hn : 1000000 ≤ nn) (V : VS_ h) (S : SPD h) (O : OI h) (room : h 160 117 ≤ 2099) (hc : 0 ≤ c ∧ c ≤ 7) (W : WI h c w) {l2 p e : Int} (hp : 0 ≤ p) (he : e ≤ w 160 113) (K : KN (w 238) p e) : ∀ (k : Nat) (i : Int), p < i → i < e → e - i < (k : Int) → Ok_ (qw_X13_typeAt_75 nn k l2 (6000 * c + p) (6000 * c + i) h) (TQ h (6000 * c + e)) := by
  have g3 := gF_160_113 W.1
  have g98 := gF_160_98 V
  obtain ⟨k1, k2, k3, k4⟩ := K
  intro k
  induction k with
  | zero => intro i a b hm; exfalso; omega
  | succ k ih =>
    intro i a b hm
    unfold qw_X13_typeAt_75
    refine ok_rd (by omega) (gA_226 V) ?_; intro v2 e2 _ _
    rw [W.2.2.1 i (by omega) (by omega)] at e2
    refine ok_if (fun C => ?_) (fun C => ?_)
    · have ei : i = e - 1 := by
        by_cases y : i < e - 1
        · exact absurd (e2.symm.trans C) (k4 i a y)
        · omega
      refine ok_add (by omega) ?_; intro v3 e3
      refine ok_xl ?_; intro h4 E4
      have V4 : VS_ h4 := by rw [E4]; exact wF_160_120 V (by omega)
      have N4 : NY h h4 := fun x k w1 w2 w3 => by rw [E4, up_n (by omega)]
      have f117 : h4 160 117 = h 160 117 := by rw [E4, up_n (by omega)]
      have f98 : h4 160 98 = h 160 98 := by rw [E4, up_n (by omega)]
      have f120 : h4 160 120 = v3 := by rw [E4, up_s]
      have O4 : OI h4 := fun j hj => by
        rw [f117] at hj
        rw [E4, up_n (by omega), up_n (by omega)]; exact O j hj
      refine ok_add (by omega) ?_; intro v5 e5
      refine ok_sub (by omega) ?_; intro v6 e6
      refine ok_sub (by omega) ?_; intro v7 e7
      refine ok_sv (rv_number hn V4 (ny_spd V N4 S) O4 (by omega) (by omega) (by omega)) ?_; intro u9 P9
      obtain ⟨q1, q2, q3, q4, q5⟩ := P9
      refine ok_mul (by omega) ?_; intro v10 e10
      refine ok_add (by omega) ?_; intro v11 e11
      refine ok_if (fun _ => ?_) (fun _ => ?_)
      · refine ok_add (by omega) ?_; intro v12 e12
        exact ok_ret ⟨q1, ny_tr N4 q2, q3, by show u9.2 160 120 = _; omega, by show (0 ≤ v12 ∧ v12 < 20 + 2 * h 160 98 ∧ u9.2 160 117 = h 160 117) ∨ (36 ≤ v12 ∧ v12 ≤ 4235 ∧ u9.2 160 117 ≤ h 160 117 + 1); omega⟩
      · refine ok_add (by omega) ?_; intro v12 e12
        exact ok_ret ⟨q1, ny_tr N4 q2, q3, by show u9.2 160 120 = _; omega, by show (0 ≤ v12 ∧ v12 < 20 + 2 * h 160 98 ∧ u9.2 160 117 = h 160 117) ∨ (36 ≤ v12 ∧ v12 ≤ 4235 ∧ u9.2 160 117 ≤ h 160 117 + 1); omega⟩
    · have ei : i < e - 1 := by
        by_cases y : i < e - 1
        · exact y
        · exfalso
          have : i = e - 1 := by omega
          rw [this] at e2
          exact C (e2.trans k3)
      refine ok_add (by omega) ?_; intro v15 e15
      rw [show v15 = 6000 * c + (i + 1) by omega]
      exact ih (i + 1) (by omega) (by omega) (by omega)
theorem rv_type49 (hn : 1000000 ≤ nn) (V : VS_ h) (S : SPD h) (O : OI h) (room : h 160 117 ≤ 2099) (hc : 0 ≤ c ∧ c ≤ 7) (W : WI h c w) {l2 p e : Int} (hp : 0 ≤ p) (he : e ≤ w 160 113) (K : KK (w 238) p e) : Ok_ (qj_X13_typeAt_49 nn l2 (6000 * c + p) h) (TQ h (6000 * c + e)) := by
  have g3 := gF_160_113 W.1
  have g98 := gF_160_98 V
  have lt := kk_lt K
  unfold qj_X13_typeAt_49
  refine ok_rd (by omega) (gA_226 V) ?_; intro v18 e18 _ _
  rw [W.2.2.1 p (by omega) (by omega)] at e18
  refine ok_if (fun C => ?_) (fun C => ?_)
  · rcases K with K | K
    · exact absurd (e18.trans K.1) C
    · refine ok_add (by omega) ?_; intro v19 e19
      rw [show v19 = 6000 * c + (p + 1) by omega]
      exact rv_type75 hn V S O room hc W hp he K nn (p + 1) (by omega) (by have := K.2.1; omega) (by omega)
  · have C : v18 = 73 := Decidable.not_not.1 C
    rcases K with K | K
    · refine ok_add (by omega) ?_; intro v20 e20
      refine ok_xl ?_; intro h21 E21
      have f117 : h21 160 117 = h 160 117 := by rw [E21, up_n (by omega)]
      refine ok_ret ⟨by rw [E21]; exact wF_160_120 V (by omega), fun x k w1 w2 w3 => by show h21 x k = h x k; rw [E21, up_n (by omega)], fun j hj => ?_, by show h21 160 120 = _; rw [E21, up_s]; omega, .inl ⟨show (0 : Int) ≤ 3 by decide, show (3 : Int) < _ by omega, f117⟩⟩
      have hj : (j : Int) < h 160 117 := by rw [← f117]; exact hj
      show 0 ≤ h21 240 j ∧ h21 240 j + h21 241 j ≤ 48000
      rw [E21, up_n (by omega), up_n (by omega)]; exact O j hj
    · have := K.1; exfalso; omega
/-- a kind's type -/
theorem rv_typeAt (hn : 1000000 ≤ nn) (V : VS_ h) (S : SPD h) (O : OI h) (room : h 160 117 ≤ 2099) (hc : 0 ≤ c ∧ c ≤ 7) (W : WI h c w) {p e : Int} (hp : 0 ≤ p) (he : e ≤ w 160 113) (K : RTk (w 238) p e) : Ok_ (qf_X13_typeAt nn (6000 * c + p) h) (TQ h (6000 * c + e)) := by
  have g3 := gF_160_113 W.1
  have g98 := gF_160_98 V
  have lt : p < e := by
    rcases K with K | K
    · omega
    · have := kd_lt K; omega
  unfold qf_X13_typeAt
  refine ok_rd (by omega) (gA_226 V) ?_; intro v24 e24 _ _
  rw [W.2.2.1 p (by omega) (by omega)] at e24
  refine ok_add (by omega) ?_; intro v25 e25
  refine ok_xl ?_; intro h26 E26
  have V26 : VS_ h26 := by rw [E26]; exact wF_160_120 V (by omega)
  have N26 : NY h h26 := fun x k w1 w2 w3 => by rw [E26, up_n (by omega)]
  have f117 : h26 160 117 = h 160 117 := by rw [E26, up_n (by omega)]
  have f120 : h26 160 120 = v25 := by rw [E26, up_s]
  have O26 : OI h26 := fun j hj => by
    rw [f117] at hj
    rw [E26, up_n (by omega), up_n (by omega)]; exact O j hj
  have W26 : WI h26 c w := wi_k (ny_k N26) W
  have S26 := ny_spd V N26 S
  have f98 : h26 160 98 = h 160 98 := by rw [E26, up_n (by omega)]
  have one : ∀ t : Int, (0 ≤ t ∧ t < 20 + 2 * h 160 98) → e = p + 1 → Ok_ (some (t, h26)) (TQ h (6000 * c + e)) := fun t ht y => ok_ret ⟨V26, N26, O26, by show h26 160 120 = _; omega, .inl ⟨ht.1, ht.2, f117⟩⟩
  have con : ∀ u, TQ h26 (6000 * c + e) u → TQ h (6000 * c + e) u := fun u q => ⟨q.1, ny_tr N26 q.2.1, q.2.2.1, q.2.2.2.1, by have := q.2.2.2.2; rw [f117, f98] at this; exact this⟩
  have sort : (v24 = 86 ∧ e = p + 1) ∨ (v24 = 90 ∧ e = p + 1) ∨ (v24 = 73 ∧ e = p + 1) ∨ (v24 = 76 ∧ KK (w 238) p e) ∨ (v24 = 91 ∧ KK (w 238) (p + 1) e) := by
    rw [e24]
    rcases K with K | K | ⟨_, K⟩ | K
    · exact .inl K
    · exact .inr (.inl K)
    · rcases K with K | K
      · exact .inr (.inr (.inl K))
      · exact .inr (.inr (.inr (.inl ⟨K.1, .inr K⟩)))
    · exact .inr (.inr (.inr (.inr K)))
  rcases sort with ⟨s, y⟩ | ⟨s, y⟩ | ⟨s, y⟩ | ⟨s, y⟩ | ⟨s, y⟩
  · rw [if_neg (show ¬ v24 = 73 by omega), if_pos (show ¬ v24 = 90 by omega), if_neg (show ¬ ¬ v24 = 86 by omega)]
    exact one 0 (by omega) y
  · rw [if_neg (show ¬ v24 = 73 by omega), if_neg (show ¬ ¬ v24 = 90 by omega)]
    exact one 1 (by omega) y
  · rw [if_pos s]
    exact one 1 (by omega) y
  · rw [if_neg (show ¬ v24 = 73 by omega), if_pos (show ¬ v24 = 90 by omega), if_pos (show ¬ v24 = 86 by omega), if_pos (show ¬ v24 = 91 by omega)]
    exact ok_im (rv_type49 hn V26 S26 O26 (by omega) hc W26 hp he y) con
  · rw [if_neg (show ¬ v24 = 73 by omega), if_pos (show ¬ v24 = 90 by omega), if_pos (show ¬ v24 = 86 by omega), if_neg (show ¬ ¬ v24 = 91 by omega)]
    refine ok_add (by omega) ?_; intro v27 e27
    rw [show v27 = 6000 * c + (p + 1) by omega]
    exact ok_im (rv_type49 hn V26 S26 O26 (by omega) hc W26 (by omega) he y) con
end
end
section
section
variable {nn : Nat} {h g r z w v : ms_M} {c d : Int}
/-- what a type's reading leaves -/
def TR (h : ms_M) (u : Int × ms_M) : Prop := VS_ u.2 ∧ NY h u.2 ∧ OI u.2 ∧ ((0 ≤ u.1 ∧ u.1 < 20 + 2 * h 160 98 ∧ u.2 160 117 = h 160 117) ∨ (36 ≤ u.1 ∧ u.1 ≤ 4235 ∧ u.2 160 117 ≤ h 160 117 + 1))
theorem tr_q {e : Int} {u : Int × ms_M} (q : TQ h e u) : TR h u := ⟨q.1, q.2.1, q.2.2.1, q.2.2.2.2⟩
theorem rv_typeOf (hn : 1000000 ≤ nn) (V : VS_ h) (S : SPD h) (O : OI h) (room : h 160 117 ≤ 2099) (hc : 0 ≤ c ∧ c ≤ 7) (W : WI h c w) {i : Int} (t : CL w c i) : Ok_ (qf_X13_typeOfClass nn c i h) (TR h) := by
  have g98 := gF_160_98 V
  unfold qf_X13_typeOfClass
  refine ok_sv (rv_textOf V hc W t) ?_; intro u2 P2
  obtain ⟨_, t1, t2⟩ := P2
  obtain ⟨a1, a2, a3, a4, a5⟩ := wi_tx W hc t1
  have ct := t2.2.2.2.2 rfl
  refine ok_mul (by omega) ?_; intro v3 e3
  refine ok_mul (by omega) ?_; intro v5 e5
  refine ok_add (by omega) ?_; intro v6 e6
  refine ok_rd (by omega) (gA_228 V) ?_; intro v7 e7 _ _
  rw [e6, e5, a2] at e7
  refine ok_add (by omega) ?_; intro v8 e8
  refine ok_add (by omega) ?_; intro v10 e10
  refine ok_rd (by omega) (gA_226 V) ?_; intro v11 e11 _ _
  rw [show v10 = 6000 * c + (pl w c u2 + 2) by omega, W.2.2.1 _ (by omega) (by omega)] at e11
  refine ok_if (fun C => ?_) (fun C => ?_)
  · refine ok_add (by omega) ?_; intro v12 e12
    refine ok_add (by omega) ?_; intro v14 e14
    refine ok_rd (by omega) (gA_226 V) ?_; intro v15 e15 _ _
    rw [show v14 = 6000 * c + pl w c u2 + 1 by omega, a5] at e15
    refine ok_sv (rv_number hn V S O room (by omega) (by omega)) ?_; intro u17 P17
    obtain ⟨q1, q2, q3, q4, q5⟩ := P17
    refine ok_mul (by omega) ?_; intro v18 e18
    refine ok_add (by omega) ?_; intro v19 e19
    exact ok_ret ⟨q1, q2, q3, by show (0 ≤ v19 ∧ v19 < 20 + 2 * h 160 98 ∧ u17.2 160 117 = h 160 117) ∨ (36 ≤ v19 ∧ v19 ≤ 4235 ∧ u17.2 160 117 ≤ h 160 117 + 1); omega⟩
  · have C : v11 = 91 := Decidable.not_not.1 C
    refine ok_add (by omega) ?_; intro v20 e20
    rw [show v20 = 6000 * c + (pl w c u2 + 2) by omega]
    have kd : KD (w 238) (pl w c u2 + 2) (pl w c u2 + 2 + w 238 (pl w c u2 + 1).toNat) := by
      rcases ct with y | y
      · exact y.2
      · exact absurd (e11.symm.trans C) y.1
    refine ok_sv (rv_typeAt hn V S O room hc W (by omega) (by omega) (.inr kd)) ?_; intro u22 P22
    exact ok_ret (tr_q P22)
theorem rv_kindType (hn : 1000000 ≤ nn) (V : VS_ h) (S : SPD h) (O : OI h) (room : h 160 117 ≤ 2099) (hc : 0 ≤ c ∧ c ≤ 7) (W : WI h c w) {i : Int} (t : TX w c i) (k : KD (w 238) (pl w c i + 2) (pl w c i + 2 + w 238 (pl w c i + 1).toNat)) : Ok_ (qf_X13_kindType nn c i h) (TR h) := by
  obtain ⟨a1, a2, a3, a4, a5⟩ := wi_tx W hc t
  unfold qf_X13_kindType
  refine ok_mul (by omega) ?_; intro v1 e1
  refine ok_mul (by omega) ?_; intro v3 e3
  refine ok_add (by omega) ?_; intro v4 e4
  refine ok_rd (by omega) (gA_228 V) ?_; intro v5 e5 _ _
  rw [e4, e3, a2] at e5
  refine ok_add (by omega) ?_; intro v6 e6
  refine ok_add (by omega) ?_; intro v7 e7
  rw [show v7 = 6000 * c + (pl w c i + 2) by omega]
  refine ok_sv (rv_typeAt hn V S O room hc W (by omega) (by omega) (.inr k)) ?_; intro u9 P9
  exact ok_ret (tr_q P9)
theorem rv_there {t : Int} (ht : 0 ≤ t ∧ t ≤ 4235) : Ok_ (qf_X13_isThere nn t h) (fun u => (u = 1 ∧ t < 36) ∨ (u = 0 ∧ 36 ≤ t)) := by
  unfold qf_X13_isThere
  refine ok_if (fun _ => ok_ret (.inl ⟨rfl, by omega⟩)) (fun C => ?_)
  refine ok_sub (by omega) ?_; intro v1 e1
  refine ok_xl ?_; intro v2 e2
  have e : v2 = v1 / 2 := by rw [e2]; exact Int.tdiv_eq_ediv_of_nonneg (by omega)
  exact ok_if (fun _ => ok_ret (.inr ⟨rfl, by omega⟩)) (fun _ => ok_ret (.inl ⟨rfl, by omega⟩))
theorem rv_row {t : Int} (ht : 0 ≤ t) : Ok_ (qf_X13_isRow nn t h) (fun u => (u = 0 ∨ u = 1) ∧ (¬ u = 0 → t = 3 ∨ (4 ≤ t ∧ t % 2 = 1))) := by
  unfold qf_X13_isRow
  refine ok_if (fun y => ok_ret ⟨.inr rfl, fun _ => .inl y⟩) (fun C => ?_)
  refine ok_if (fun _ => ok_ret ⟨.inl rfl, fun y => absurd rfl y⟩) (fun D => ?_)
  refine ok_xl ?_; intro v1 e1
  have e : v1 = t % 2 := by rw [e1]; exact Int.tmod_eq_emod_of_nonneg (by omega)
  exact ok_if (fun _ => ok_ret ⟨.inl rfl, fun y => absurd rfl y⟩) (fun E => ok_ret ⟨.inr rfl, fun _ => .inr ⟨by omega, by omega⟩⟩)
/-- a type whose class, if it has a number below 16, is there -/
def GTy (h : ms_M) (t : Int) : Prop := (0 ≤ t ∧ t ≤ 2147483647) ∧ (t < 20 + 2 * h 160 98 ∨ 36 ≤ t)
theorem rv_goes (hn : 1000000 ≤ nn) (V : VS_ h) (S : SPD h) {a b : Int} (ga : GTy h a) (gb : 0 ≤ b ∧ b ≤ 2147483647) : Ok_ (qf_X13_goes nn a b h) (fun u => u = 0 ∨ u = 1) := by
  have g98 := gF_160_98 V
  obtain ⟨g1, g2⟩ := ga
  have J : Ok_ (qj_X13_goes_53 nn a b h) (fun u => u = 0 ∨ u = 1) := by
    unfold qj_X13_goes_53
    refine ok_if (fun _ => ok_ret (.inl rfl)) (fun A => ?_)
    refine ok_if (fun _ => ok_ret (.inl rfl)) (fun B => ?_)
    refine ok_xl ?_; intro v1 _
    refine ok_xl ?_; intro v2 _
    refine ok_if (fun _ => ?_) (fun _ => ok_ret (.inl rfl))
    refine ok_sub (by omega) ?_; intro v3 e3
    refine ok_xl ?_; intro v4 e4
    have e : v4 = v3 / 2 := by rw [e4]; exact Int.tdiv_eq_ediv_of_nonneg (by omega)
    refine ok_sub (by omega) ?_; intro v5 e5
    refine ok_xl ?_; intro v6 e6
    refine ok_if (fun _ => ok_ret (.inl rfl)) (fun C => ?_)
    refine ok_if (fun _ => ok_ret (.inl rfl)) (fun D => ?_)
    refine ok_sv (rv_under hn V S (by omega)) ?_; intro u8 _
    exact ok_if (fun _ => ok_ret (.inl rfl)) (fun _ => ok_ret (.inr rfl))
  unfold qf_X13_goes
  refine ok_if (fun _ => ok_ret (.inr rfl)) (fun _ => ?_)
  refine ok_if (fun _ => ?_) (fun _ => ok_ret (.inr rfl))
  refine ok_if (fun _ => ok_ret (.inl rfl)) (fun _ => ?_)
  refine ok_if (fun _ => ok_ret (.inl rfl)) (fun _ => ?_)
  refine ok_if (fun _ => ok_ret (.inl rfl)) (fun _ => ?_)
  refine ok_if (fun _ => ?_) (fun _ => ok_ret (.inl rfl))
  refine ok_if (fun _ => ?_) (fun _ => ok_ret (.inr rfl))
  refine ok_sv (rv_row (by omega)) ?_; intro u15 _
  refine ok_if (fun _ => J) (fun _ => ?_)
  exact ok_if (fun _ => J) (fun _ => ok_ret (.inr rfl))
/-- where a member is found -/
def QH9 (h : ms_M) (s : Int) (u : Int × ms_M) : Prop := (u.1 = -1 ∧ u.2 = h) ∨ ((8 ≤ u.1 ∧ u.1 < 8 + h 160 98) ∧ ∃ k : Int, (0 ≤ k ∧ k < mem h (u.1 - 8) s) ∧ u.2 = up_M h 160 121 k)
theorem rv_holder (hn : 1000000 ≤ nn) (V : VS_ h) (S : SPD h) (hc : 0 ≤ c ∧ c ≤ 7) (W : WI h c w) {f i s : Int} (hf : -1 ≤ f ∧ f < 8 + h 160 98) (t : TX w c i) : Ok_ (qf_X13_holder nn f c i s h) (QH9 h s) := by
  have g98 := gF_160_98 V
  have L : ∀ (k : Nat) (l5 l6 : Int), (-1 ≤ l5 ∧ l5 < 8 + h 160 98) → (0 ≤ l6 ∧ l6 ≤ 17) → 18 - l6 < (k : Int) → Ok_ (qw_X13_holder_6 nn k c i s l5 l6 h) (QH9 h s) := by
    intro k
    induction k with
    | zero => intro l5 l6 a b hm; exfalso; omega
    | succ k ih =>
      intro l5 l6 a b hm
      unfold qw_X13_holder_6
      refine ok_if (fun _ => ok_ret (.inl ⟨rfl, rfl⟩)) (fun A => ?_)
      refine ok_if (fun _ => ok_ret (.inl ⟨rfl, rfl⟩)) (fun B => ?_)
      have J : Ok_ (qj_X13_holder_148 nn (qw_X13_holder_6 nn k) c i s l5 l6 h) (QH9 h s) := by
        unfold qj_X13_holder_148
        refine ok_sv (rv_super hn V S (by omega)) ?_; intro u2 P2
        refine ok_add (by omega) ?_; intro v3 e3
        exact ih u2 v3 P2 (by omega) (by omega)
      refine ok_if (fun _ => J) (fun C => ?_)
      refine ok_sub (by omega) ?_; intro v24 e24
      have hd : 0 ≤ v24 ∧ v24 ≤ 7 := by omega
      obtain ⟨x, X⟩ := wi_of hd (S v24 (by omega) (by omega)).2
      have M : ∀ (m : Nat) (l8 l9 : Int), l8 = mem h v24 s → (0 ≤ l9 ∧ l9 ≤ 255) → 256 - l9 < (m : Int) → Ok_ (qw_X13_holder_60 nn (qw_X13_holder_6 nn k) m c i s l5 l6 v24 l8 l9 h) (QH9 h s) := by
        intro m
        induction m with
        | zero => intro l8 l9 p q hm2; exfalso; omega
        | succ m ih2 =>
          intro l8 l9 p q hm2
          unfold qw_X13_holder_60
          refine ok_if (fun _ => J) (fun D => ?_)
          have T : ∀ y : Int, TS 0 x v24 y → l9 < 12 → Ok_ (qj_X13_holder_115 nn (qw_X13_holder_6 nn k) (qw_X13_holder_60 nn (qw_X13_holder_6 nn k) m) c i s l5 l6 v24 l8 l9 y h) (QH9 h s) := fun y ty l12 => by
            unfold qj_X13_holder_115
            refine ok_sv (rv_same hn V hd hc X W ty.1 t) ?_; intro u5 _
            refine ok_if (fun _ => ?_) (fun _ => ?_)
            · refine ok_xl ?_; intro h6 E6
              exact ok_ret (.inr ⟨by show 8 ≤ l5 ∧ l5 < _; omega, l9, by show 0 ≤ l9 ∧ l9 < mem h (l5 - 8) s; rw [← e24, ← p]; omega, E6⟩)
            · refine ok_add (by omega) ?_; intro v7 e7
              exact ih2 l8 v7 p (by omega) (by omega)
          refine ok_if (fun E => ?_) (fun E => ?_)
          · have p2 : l8 = h 232 v24.toNat := p.trans (if_pos E)
            obtain ⟨k12, e, pb, t0, t1⟩ := wi_fd X hd (k := l9) (by omega)
            have g3 := gF_160_113 X.1
            refine ok_mul (by omega) ?_; intro v10 e10
            refine ok_add (by omega) ?_; intro v11 e11
            refine ok_rd (by omega) (gA_233 V) ?_; intro v12 e12 _ _
            rw [e11, e10] at e12
            rw [← e12] at pb t0
            refine ok_sv (rv_byte V hd (by omega)) ?_; intro u14 P14
            refine T u14 ?_ k12
            rw [P14.1, X.2.2.1 v12 (by omega) (by omega)]; exact t0
          · have p2 : l8 = h 234 v24.toNat := p.trans (if_neg E)
            obtain ⟨k12, bb, mm⟩ := wi_mt X hd (k := l9) (by omega)
            have t0 := (mth_tx mm).1
            refine ok_mul (by omega) ?_; intro v10 e10
            refine ok_add (by omega) ?_; intro v11 e11
            refine ok_rd (by omega) (gA_235 V) ?_; intro v12 e12 _ _
            rw [e11, e10] at e12
            rw [← e12] at bb t0
            refine ok_add (by omega) ?_; intro v19 e19
            refine ok_sv (rv_byte V hd (by omega)) ?_; intro u14 P14
            refine T u14 ?_ k12
            rw [P14.1, X.2.2.1 v19 (by omega) (by omega), e19]; exact t0
      refine ok_if (fun E => ?_) (fun E => ?_)
      · refine ok_rd (by omega) (gA_232 V) ?_; intro v26 e26 _ _
        exact M nn v26 0 (by rw [e26]; exact (if_pos E).symm) (by omega) (by omega)
      · refine ok_rd (by omega) (gA_234 V) ?_; intro v26 e26 _ _
        exact M nn v26 0 (by rw [e26]; exact (if_neg E).symm) (by omega) (by omega)
  unfold qf_X13_holder
  exact L nn f 0 hf (by omega) (by omega)
end
end
section
section
variable {nn : Nat} {h g r z w v : ms_M} {c d : Int}
/-- good so far (l = 1: no name without a class was met) -/
def GK (h : ms_M) (l : Int) (g : ms_M) : Prop := VS_ g ∧ NY h g ∧ OI g ∧ ((l = 1 ∧ g 160 117 = h 160 117) ∨ (l = 0 ∧ g 160 117 ≤ h 160 117 + 1))
theorem gk_ty {u : Int × ms_M} {t : Int} (G : GK h 1 g) (q : TR g u) (T : (t = 1 ∧ u.1 < 36) ∨ (t = 0 ∧ 36 ≤ u.1)) : GK h t u.2 := by
  obtain ⟨a1, a2, a3, a4⟩ := G
  obtain ⟨b1, b2, b3, b4⟩ := q
  have g98 := gF_160_98 a1
  refine ⟨b1, ny_tr a2 b2, b3, ?_⟩
  omega
theorem gk_01 {l : Int} (G : GK h l g) : l = 0 ∨ l = 1 := by have := G.2.2.2; omega
theorem gk_1 {l : Int} (G : GK h l g) (n : ¬ l = 0) : GK h 1 g ∧ g 160 117 = h 160 117 := by
  obtain ⟨a1, a2, a3, a4⟩ := G
  exact ⟨⟨a1, a2, a3, by omega⟩, by omega⟩
theorem tr_rg {u : Int × ms_M} (V : VS_ h) (q : TR h u) : 0 ≤ u.1 ∧ u.1 ≤ 4235 := by
  have g98 := gF_160_98 V
  have := q.2.2.2
  omega
theorem kr_42 (hn : 1000000 ≤ nn) (V : VS_ h) (S : SPD h) (room : h 160 117 ≤ 2090) (hc : 0 ≤ c ∧ c ≤ 7) (W : WI h c w) : ∀ (k : Nat) (l2 l3 : Int) (g : ms_M), GK h l2 g → (0 ≤ l3 ∧ l3 ≤ 255) → 256 - l3 < (k : Int) → Ok_ (qw_X13_kindsAreThere_42 nn k c l2 l3 g) (fun u => GK h u.1 u.2) := by
  intro k
  induction k with
  | zero => intro l2 l3 g G a hm; exfalso; omega
  | succ k ih =>
    intro l2 l3 g G a hm
    have g01 := gk_01 G
    have Vg := G.1
    have Ng := G.2.1
    have Wg : WI g c w := wi_k (ny_k Ng) W
    unfold qw_X13_kindsAreThere_42
    refine ok_rd (by omega) (gA_234 Vg) ?_; intro v18 e18 _ _
    refine ok_if (fun _ => ok_ck g01 (ok_ret G)) (fun C => ?_)
    refine ok_if (fun _ => ok_ck g01 (ok_ret G)) (fun D => ?_)
    obtain ⟨k12, bb, mm⟩ := wi_mt Wg hc (k := l3) (by omega)
    refine ok_mul (by omega) ?_; intro v21 e21
    refine ok_mul (by omega) ?_; intro v23 e23
    refine ok_sv (rv_kind Vg hc Wg (s := 1) (k := l3) (by rw [show mem g c 1 = g 234 c.toNat from rfl]; omega)) ?_; intro u25 P25
    have t := P25.2 (by decide)
    obtain ⟨a1, a2, a3, a4, a5⟩ := wi_tx Wg hc t.1
    obtain ⟨m, m6, _, q, pr, fq, rt⟩ := t.2.2.2.1 rfl
    refine ok_add (by omega) ?_; intro v26 e26
    refine ok_rd (by omega) (gA_228 Vg) ?_; intro v27 e27 _ _
    rw [e26, e23, a2] at e27
    refine ok_add (by omega) ?_; intro v28 e28
    refine ok_add (by omega) ?_; intro v29 e29
    have ql : q + 2 ≤ pl w c u25 + 2 + w 238 (pl w c u25 + 1).toNat := by
      rcases rt with y | y
      · omega
      · have := kd_lt y; omega
    have J141 : ∀ f : ms_M, GK h 0 f → Ok_ (qj_X13_kindsAreThere_141 nn (qw_X13_kindsAreThere_42 nn k) c l3 f) (fun u => GK h u.1 u.2) := fun f Gf => by
      unfold qj_X13_kindsAreThere_141
      refine ok_add (by omega) ?_; intro v1 e1
      exact ih 0 v1 f Gf (by omega) (by omega)
    have L : ∀ (j : Nat) (x : Int) (n : Nat) (p : Int) (f : ms_M), GK h x f → 0 ≤ p → PRn (w 238) n p q → (n : Int) < j → Ok_ (qw_X13_kindsAreThere_84 nn (qw_X13_kindsAreThere_42 nn k) j c x l3 (6000 * c + p) f) (fun u => GK h u.1 u.2) := by
      intro j
      induction j with
      | zero => intro x n p f Gf p0 pr hm2; exfalso; omega
      | succ j ih2 =>
        intro x n p f Gf p0 pr hm2
        have Vf := Gf.1
        have Wf : WI f c w := wi_k (ny_k Gf.2.1) W
        have Sf : SPD f := ny_spd V Gf.2.1 S
        have le := pr_le _ _ _ pr
        unfold qw_X13_kindsAreThere_84
        refine ok_rd (by omega) (gA_226 Vf) ?_; intro v10 e10 _ _
        rw [Wf.2.2.1 p (by omega) (by omega)] at e10
        have J119 : (¬ x = 0 → p = q) → Ok_ (qj_X13_kindsAreThere_119 nn (qw_X13_kindsAreThere_42 nn k) c x l3 (6000 * c + p) f) (fun u => GK h u.1 u.2) := fun pq => by
          unfold qj_X13_kindsAreThere_119
          refine ok_if (fun y => J141 f (by rw [← y]; exact Gf)) (fun y => ?_)
          obtain ⟨G1, e117⟩ := gk_1 Gf y
          have pq := pq y
          refine ok_add (by omega) ?_; intro v2 e2
          rw [show v2 = 6000 * c + (q + 1) by omega]
          refine ok_sv (rv_typeAt hn Vf Sf Gf.2.2.1 (by omega) hc Wf (by omega) (by omega) rt) ?_; intro u4 P4
          have tr := tr_q P4
          refine ok_sv (rv_there (tr_rg Vf tr)) ?_; intro u5 P5
          refine ok_if (fun z => J141 u4.2 (gk_ty G1 tr (by omega))) (fun z => ?_)
          refine ok_add (by omega) ?_; intro v6 e6
          exact ih 1 v6 u4.2 (gk_ty G1 tr (by omega)) (by omega) (by omega)
        cases n with
        | zero =>
          have pr : p = q := pr
          have e41 : v10 = 41 := by rw [e10, pr]; exact fq
          rw [if_pos e41]
          exact J119 (fun _ => pr)
        | succ n =>
          obtain ⟨e1, kd, pr2⟩ := pr
          have n41 := kd_no kd
          have lt := kd_lt kd
          have le2 := pr_le _ _ _ pr2
          rw [if_neg (show ¬ v10 = 41 by rw [e10]; exact n41)]
          refine ok_if (fun y => J119 (fun z => absurd y z)) (fun y => ?_)
          obtain ⟨G1, e117⟩ := gk_1 Gf y
          refine ok_sv (rv_typeAt hn Vf Sf Gf.2.2.1 (by omega) hc Wf p0 (by omega) (.inr kd)) ?_; intro u12 P12
          have tr := tr_q P12
          refine ok_sv (rv_there (tr_rg Vf tr)) ?_; intro u13 P13
          rw [P12.2.2.2.1]
          exact ih2 u13 n e1 u12.2 (gk_ty G1 tr (by omega)) (by omega) pr2 (by omega)
    rw [show v29 = 6000 * c + (pl w c u25 + 2 + 1) by omega]
    exact L nn l2 m _ g G (by omega) pr (by omega)
theorem kr_kinds (hn : 1000000 ≤ nn) (V : VS_ h) (S : SPD h) (O : OI h) (room : h 160 117 ≤ 2090) (hc : 0 ≤ c ∧ c ≤ 7) (W : WI h c w) : Ok_ (qf_X13_kindsAreThere nn c h) (fun u => GK h u.1 u.2) := by
  have L : ∀ (k : Nat) (l2 l3 : Int) (g : ms_M), GK h l2 g → (0 ≤ l3 ∧ l3 ≤ 255) → 256 - l3 < (k : Int) → Ok_ (qw_X13_kindsAreThere_4 nn k c l2 l3 g) (fun u => GK h u.1 u.2) := by
    intro k
    induction k with
    | zero => intro l2 l3 g G a hm; exfalso; omega
    | succ k ih =>
      intro l2 l3 g G a hm
      have Vg := G.1
      have Wg : WI g c w := wi_k (ny_k G.2.1) W
      have Sg : SPD g := ny_spd V G.2.1 S
      unfold qw_X13_kindsAreThere_4
      refine ok_rd (by omega) (gA_232 Vg) ?_; intro v33 e33 _ _
      refine ok_if (fun _ => kr_42 hn V S room hc W nn l2 0 g G (by omega) (by omega)) (fun C => ?_)
      refine ok_if (fun _ => kr_42 hn V S room hc W nn l2 0 g G (by omega) (by omega)) (fun D => ?_)
      obtain ⟨G1, e117⟩ := gk_1 G D
      have k12 := (wi_fd Wg hc (k := l3) (by omega)).1
      refine ok_sv (rv_kind Vg hc Wg (s := 0) (k := l3) (by rw [show mem g c 0 = g 232 c.toNat from rfl]; omega)) ?_; intro u35 P35
      have t := P35.1 rfl
      refine ok_sv (rv_kindType hn Vg Sg G.2.2.1 (by omega) hc Wg t.1 (t.2.2.1 rfl)) ?_; intro u37 P37
      refine ok_sv (rv_there (tr_rg Vg P37)) ?_; intro u38 P38
      refine ok_add (by omega) ?_; intro v39 e39
      exact ih u38 v39 u37.2 (gk_ty G1 P37 P38) (by omega) (by omega)
  unfold qf_X13_kindsAreThere
  exact L nn 1 0 h ⟨V, ny_rf, O, .inl ⟨rfl, rfl⟩⟩ (by omega) (by omega)
end
end
section
section
variable {nn : Nat} {h g r z w v : ms_M} {c d : Int}
/-- what verifying leaves of all but its own fields and rows -/
def NZ (h r : ms_M) : Prop := ∀ x k : Nat, ¬ (x = 160 ∧ 117 ≤ k ∧ k ≤ 125) → x ≠ 240 → x ≠ 241 → r x k = h x k
theorem nz_rf : NZ h h := fun _ _ _ _ _ => rfl
theorem nz_tr (a : NZ h z) (b : NZ z r) : NZ h r := fun x k w1 w2 w3 => (b x k w1 w2 w3).trans (a x k w1 w2 w3)
theorem nz_ny (a : NY h r) : NZ h r := fun x k w1 w2 w3 => a x k (by omega) w2 w3
theorem nz_k (N : NZ h r) : ∀ x k : Nat, 226 ≤ x → x ≤ 237 → r x k = h x k := fun x k _ _ => N x k (by omega) (by omega) (by omega)
theorem nz_spd (V : VS_ h) (N : NZ h r) (S : SPD h) : SPD r := spd_k V (nz_k N) (N 160 98 (by decide) (by decide) (by decide)) S
theorem oi_f {j : Nat} {y : Int} (hj : j ≠ 117) (O : OI h) : OI (up_M h 160 j y) := fun k hk => by
  rw [up_n (by omega)] at hk
  rw [up_n (by omega), up_n (by omega)]; exact O k hk
theorem rv_bad (V : VS_ h) (O : OI h) {a k m p : Int} (ra : 0 ≤ a ∧ a ≤ 12) (rk : -1 ≤ k ∧ k ≤ 15) (rm : -1 ≤ m ∧ m ≤ 254) (rp : -2147483648 ≤ p ∧ p ≤ 65535) : Ok_ (qf_X13_bad nn a k m p h) (fun u => u.1 = 0 ∧ VS_ u.2 ∧ NZ h u.2 ∧ OI u.2 ∧ u.2 160 117 = h 160 117) := by
  unfold qf_X13_bad
  refine ok_xl ?_; intro h1 E1
  refine ok_xl ?_; intro h2 E2
  refine ok_xl ?_; intro h3 E3
  refine ok_xl ?_; intro h4 E4
  refine ok_ret ⟨rfl, ?_, fun x j w1 w2 w3 => ?_, ?_, ?_⟩
  · show VS_ h4
    rw [E4, E3, E2, E1]
    exact wF_160_125 (wF_160_124 (wF_160_123 (wF_160_122 V ra) rk) rm) rp
  · show h4 x j = h x j
    rw [E4, up_n (by omega), E3, up_n (by omega), E2, up_n (by omega), E1, up_n (by omega)]
  · show OI h4
    rw [E4, E3, E2, E1]
    exact oi_f (by decide) (oi_f (by decide) (oi_f (by decide) (oi_f (by decide) O)))
  · show h4 160 117 = _
    rw [E4, up_n (by omega), E3, up_n (by omega), E2, up_n (by omega), E1, up_n (by omega)]
/-- all was good until here -/
def GC (h g : ms_M) : Prop := VS_ g ∧ NZ h g ∧ OI g ∧ g 160 117 = h 160 117
/-- what a check leaves -/
def CQ (h : ms_M) (u : Int × ms_M) : Prop := VS_ u.2 ∧ NZ h u.2 ∧ OI u.2 ∧ ((u.1 = 1 ∧ u.2 160 117 = h 160 117) ∨ (u.1 = 0 ∧ u.2 160 117 ≤ h 160 117 + 1))
theorem cq_bad (N : NZ h g) (O : OI g) (V : VS_ g) (e : g 160 117 ≤ h 160 117 + 1) {a k m p : Int} (ra : 0 ≤ a ∧ a ≤ 12) (rk : -1 ≤ k ∧ k ≤ 15) (rm : -1 ≤ m ∧ m ≤ 254) (rp : -2147483648 ≤ p ∧ p ≤ 65535) : Ok_ (mx_sv (qf_X13_bad nn a k m p g) fun u2 => ck_B (u2.1 = 0 ∨ u2.1 = 1) <| some (u2.1, u2.2)) (CQ h) := by
  refine ok_sv (rv_bad V O ra rk rm rp) ?_; intro u P
  exact ok_ck (.inl P.1) (ok_ret ⟨P.2.1, nz_tr N P.2.2.1, P.2.2.2.1, .inr ⟨P.1, by have := P.2.2.2.2; show u.2 160 117 ≤ _; omega⟩⟩)
theorem cf_204 (hn : 1000000 ≤ nn) (V : VS_ h) (S : SPD h) {k : Int} (hk : 8 ≤ k ∧ k < 8 + h 160 98) (W : WI h (k - 8) w) : ∀ (j : Nat) (l4 : Int) (g : ms_M), GC h g → (0 ≤ l4 ∧ l4 ≤ 255) → 256 - l4 < (j : Int) → Ok_ (qw_X13_classFits_204 nn j k (k - 8) l4 g) (CQ h) := by
  have g98 := gF_160_98 V
  have hc : 0 ≤ k - 8 ∧ k - 8 ≤ 7 := by omega
  intro j
  induction j with
  | zero => intro l4 g G a hm; exfalso; omega
  | succ j ih =>
    intro l4 g G a hm
    obtain ⟨Vg, Ng, Og, e117⟩ := G
    have Wg : WI g (k - 8) w := wi_k (nz_k Ng) W
    have Sg : SPD g := nz_spd V Ng S
    have f98 : g 160 98 = h 160 98 := Ng 160 98 (by omega) (by decide) (by decide)
    unfold qw_X13_classFits_204
    refine ok_rd (by omega) (gA_234 Vg) ?_; intro v5 e5 _ _
    refine ok_if (fun _ => ok_ret ⟨Vg, Ng, Og, .inl ⟨rfl, e117⟩⟩) (fun C => ?_)
    obtain ⟨k12, bb, mm⟩ := wi_mt Wg hc (k := l4) (by omega)
    refine ok_sv (rv_super hn Vg Sg (by omega)) ?_; intro u7 P7
    refine ok_sv (rv_name Vg hc Wg (s := 1) (k := l4) (by rw [show mem g (k - 8) 1 = g 234 (k - 8).toNat from rfl]; omega)) ?_; intro u9 P9
    refine ok_sv (rv_holder hn Vg Sg hc Wg (s := 1) P7 P9.1) ?_; intro u11 P11
    rcases P11 with ⟨p1, p2⟩ | ⟨p1, y, p2, p3⟩
    · rw [if_neg (show ¬ ¬ u11.1 = -1 by omega), p2]
      refine ok_add (by omega) ?_; intro v37 e37
      exact ih v37 g ⟨Vg, Ng, Og, e117⟩ (by omega) (by omega)
    · rw [if_pos (show ¬ u11.1 = -1 by omega)]
      refine ok_sub (by omega) ?_; intro v12 e12
      rw [← e12] at p2
      have hd : 0 ≤ v12 ∧ v12 ≤ 7 := by omega
      obtain ⟨x, X⟩ := wi_of hd (Sg v12 (by omega) (by omega)).2
      have m12 : y < 12 := (wi_mt X hd (k := y) p2).1
      have V11 : VS_ u11.2 := by rw [p3]; exact wF_160_121 Vg (by omega)
      have N11 : NZ g u11.2 := fun x k w1 w2 w3 => by rw [p3, up_n (by omega)]
      have O11 : OI u11.2 := by rw [p3]; exact oi_f (by decide) Og
      have f117 : u11.2 160 117 = g 160 117 := by rw [p3, up_n (by omega)]
      have f121 : u11.2 160 121 = y := by rw [p3, up_s]
      have X11 : WI u11.2 v12 x := wi_k (nz_k N11) X
      have W11 : WI u11.2 (k - 8) w := wi_k (nz_k N11) Wg
      have f234 : ∀ q : Nat, u11.2 234 q = g 234 q := fun q => N11 234 q (by omega) (by decide) (by decide)
      have p2' : 0 ≤ y ∧ y < u11.2 234 v12.toNat := by rw [f234]; exact p2
      have bad : Ok_ (qj_X13_classFits_331 nn k u11.2) (CQ h) := by
        unfold qj_X13_classFits_331
        exact cq_bad (nz_tr Ng N11) O11 V11 (by omega) (by omega) (by omega) (by omega) (by omega)
      refine ok_sv (rv_kind V11 hd X11 (s := 1) (k := u11.2 160 121) (by rw [f121]; exact p2')) ?_; intro u15 P15
      refine ok_sv (rv_kind V11 hc W11 (s := 1) (k := l4) (by rw [show mem u11.2 (k - 8) 1 = u11.2 234 (k - 8).toNat from rfl, f234]; omega)) ?_; intro u17 P17
      refine ok_sv (rv_same hn V11 hd hc X11 W11 (P15.2 (by decide)).1 (P17.2 (by decide)).1) ?_; intro u19 _
      refine ok_if (fun _ => bad) (fun _ => ?_)
      obtain ⟨_, b2, _⟩ := wi_mt X11 hd (k := y) p2'
      refine ok_mul (by omega) ?_; intro v21 e21
      refine ok_add (by omega) ?_; intro v23 e23
      refine ok_rd (by omega) (gA_235 V11) ?_; intro v24 e24 _ _
      rw [e23, e21, f121] at e24
      rw [← e24] at b2
      refine ok_sv (rv_byte V11 hd (by omega)) ?_; intro u26 _
      refine ok_if (fun _ => bad) (fun _ => ?_)
      obtain ⟨_, b3, _⟩ := wi_mt W11 hc (k := l4) (by rw [f234]; omega)
      refine ok_mul (by omega) ?_; intro v28 e28
      refine ok_add (by omega) ?_; intro v29 e29
      refine ok_rd (by omega) (gA_235 V11) ?_; intro v30 e30 _ _
      rw [e29, e28] at e30
      rw [← e30] at b3
      refine ok_sv (rv_byte V11 hc (by omega)) ?_; intro u32 _
      refine ok_if (fun _ => ?_) (fun _ => bad)
      refine ok_add (by omega) ?_; intro v33 e33
      exact ih v33 u11.2 ⟨V11, nz_tr Ng N11, O11, f117.trans e117⟩ (by omega) (by omega)
theorem cf_77 (hn : 1000000 ≤ nn) (V : VS_ h) (S : SPD h) {k : Int} (hk : 8 ≤ k ∧ k < 8 + h 160 98) (W : WI h (k - 8) w) (G : GC h g) : ∀ (j : Nat) (l4 : Int), (0 ≤ l4 ∧ l4 ≤ 2) → 3 - l4 < (j : Int) → Ok_ (qw_X13_classFits_77 nn j k (k - 8) l4 g) (CQ h) := by
  have g98 := gF_160_98 V
  have hc : 0 ≤ k - 8 ∧ k - 8 ≤ 7 := by omega
  have G0 := G
  obtain ⟨Vg, Ng, Og, e117⟩ := G
  have Wg : WI g (k - 8) w := wi_k (nz_k Ng) W
  intro j
  induction j with
  | zero => intro l4 a hm; exfalso; omega
  | succ j ih =>
    intro l4 a hm
    unfold qw_X13_classFits_77
    refine ok_if (fun _ => cf_204 hn V S hk W nn 0 g G0 (by omega) (by omega)) (fun C => ?_)
    have M : ∀ (s : Int), s = (if ¬ l4 = 1 then 0 else 1) → ∀ (l5 : Int), l5 = mem g (k - 8) s → l5 ≤ 12 → ∀ (m : Nat) (l6 : Int), (0 ≤ l6 ∧ l6 ≤ 255) → 256 - l6 < (m : Int) → Ok_ (qw_X13_classFits_109 nn (qw_X13_classFits_77 nn j) m k (k - 8) l4 l5 l6 g) (CQ h) := by
      intro s es l5 p p12 m
      induction m with
      | zero => intro l6 q hm2; exfalso; omega
      | succ m ih2 =>
        intro l6 q hm2
        unfold qw_X13_classFits_109
        refine ok_if (fun _ => ?_) (fun D => ?_)
        · refine ok_add (by omega) ?_; intro v55 e55
          exact ih v55 (by omega) (by omega)
        · refine ok_add (by omega) ?_; intro v56 e56
          have I : ∀ (n : Nat) (l7 : Int), (0 ≤ l7 ∧ l7 ≤ 300) → 301 - l7 < (n : Int) → Ok_ (qw_X13_classFits_122 nn (qw_X13_classFits_77 nn j) (qw_X13_classFits_109 nn (qw_X13_classFits_77 nn j) m) n k (k - 8) l4 l5 l6 l7 g) (CQ h) := by
            intro n
            induction n with
            | zero => intro l7 q2 hm3; exfalso; omega
            | succ n ih3 =>
              intro l7 q2 hm3
              unfold qw_X13_classFits_122
              refine ok_if (fun _ => ?_) (fun E => ?_)
              · refine ok_add (by omega) ?_; intro v52 e52
                exact ih2 v52 (by omega) (by omega)
              · have T : ∀ u50 : Int, TX w (k - 8) u50 → Ok_ (qj_X13_classFits_165 nn (qw_X13_classFits_77 nn j) (qw_X13_classFits_109 nn (qw_X13_classFits_77 nn j) m) (qw_X13_classFits_122 nn (qw_X13_classFits_77 nn j) (qw_X13_classFits_109 nn (qw_X13_classFits_77 nn j) m) n) k (k - 8) l4 l5 l6 l7 s l7 (k - 8) (k - 8) u50 (k - 8) g) (CQ h) := fun u50 t50 => by
                  unfold qj_X13_classFits_165
                  refine ok_sv (rv_name Vg hc Wg (s := s) (k := l7) (by omega)) ?_; intro u41 P41
                  refine ok_sv (rv_same hn Vg hc hc Wg Wg t50 P41.1) ?_; intro u43 _
                  refine ok_if (fun _ => ?_) (fun _ => ?_)
                  · refine ok_add (by omega) ?_; intro v44 e44
                    exact ih3 v44 (by omega) (by omega)
                  · exact cq_bad Ng Og Vg (by omega) (by omega) (by omega) (by omega) (by omega)
                have T2 : Ok_ (qj_X13_classFits_146 nn (qw_X13_classFits_77 nn j) (qw_X13_classFits_109 nn (qw_X13_classFits_77 nn j) m) (qw_X13_classFits_122 nn (qw_X13_classFits_77 nn j) (qw_X13_classFits_109 nn (qw_X13_classFits_77 nn j) m) n) k (k - 8) l4 l5 l6 l7 s l6 (k - 8) (k - 8) g) (CQ h) := by
                  unfold qj_X13_classFits_146
                  refine ok_sv (rv_name Vg hc Wg (s := s) (k := l6) (by omega)) ?_; intro u50 P50
                  refine ok_if (fun y => ?_) (fun y => ?_)
                  · rw [if_pos y] at es
                    rw [es] at T; exact T u50 P50.1
                  · rw [if_neg y] at es
                    rw [es] at T; exact T u50 P50.1
                refine ok_if (fun y => ?_) (fun y => ?_)
                · rw [if_pos y] at es
                  rw [es] at T2; exact T2
                · rw [if_neg y] at es
                  rw [es] at T2; exact T2
          exact I nn v56 (by omega) (by omega)
    have F := Wg.2.2.2.2.2.2.1.1
    have Mm := Wg.2.2.2.2.2.2.2.1
    refine ok_if (fun y => ?_) (fun y => ?_)
    · refine ok_rd (by omega) (gA_232 Vg) ?_; intro v59 e59 _ _
      exact M 0 (if_pos y).symm v59 (by rw [e59]; rfl) (by omega) nn 0 (by omega) (by omega)
    · refine ok_rd (by omega) (gA_234 Vg) ?_; intro v59 e59 _ _
      exact M 1 (if_neg y).symm v59 (by rw [e59]; rfl) (by omega) nn 0 (by omega) (by omega)
/-- a class's own check is safe -/
theorem cf_class (hn : 1000000 ≤ nn) (V : VS_ h) (S : SPD h) (O : OI h) (room : h 160 117 ≤ 2090) {k : Int} (hk : 8 ≤ k ∧ k < 8 + h 160 98) : Ok_ (qf_X13_classFits nn k h) (CQ h) := by
  have g98 := gF_160_98 V
  have hc : 0 ≤ k - 8 ∧ k - 8 ≤ 7 := by omega
  obtain ⟨w, W⟩ := wi_of hc (S (k - 8) (by omega) (by omega)).2
  unfold qf_X13_classFits
  refine ok_sub (by omega) ?_; intro v76 e76
  rw [e76]
  refine ok_sv (rv_super hn V S (by omega)) ?_; intro u78 _
  refine ok_if (fun _ => ?_) (fun _ => ?_)
  · unfold qj_X13_classFits_22
    exact cq_bad nz_rf O V (by omega) (by omega) (by omega) (by omega) (by omega)
  refine ok_sv (kr_kinds hn V S O room hc W) ?_; intro u80 P80
  refine ok_if (fun y => ?_) (fun _ => ?_)
  · obtain ⟨G1, e117⟩ := gk_1 P80 y
    have G : GC h u80.2 := ⟨G1.1, nz_ny G1.2.1, G1.2.2.1, e117⟩
    have S8 : SPD u80.2 := ny_spd V G1.2.1 S
    have f98 : u80.2 160 98 = h 160 98 := G1.2.1 160 98 (by decide) (by decide) (by decide)
    have L : ∀ (j : Nat) (l3 l4 : Int), (-1 ≤ l3 ∧ l3 < 8 + u80.2 160 98) → (0 ≤ l4 ∧ l4 ≤ 17) → 18 - l4 < (j : Int) → Ok_ (qw_X13_classFits_36 nn j k (k - 8) l3 l4 u80.2) (CQ h) := by
      intro j
      induction j with
      | zero => intro l3 l4 a b hm; exfalso; omega
      | succ j ih =>
        intro l3 l4 a b hm
        have J : Ok_ (qj_X13_classFits_60 nn k (k - 8) l3 u80.2) (CQ h) := by
          unfold qj_X13_classFits_60
          refine ok_if (fun _ => cf_77 hn V S hk W G nn 0 (by omega) (by omega)) (fun _ => ?_)
          exact cq_bad G.2.1 G.2.2.1 G.1 (by omega) (by omega) (by omega) (by omega) (by omega)
        unfold qw_X13_classFits_36
        refine ok_if (fun _ => J) (fun A => ?_)
        refine ok_if (fun _ => J) (fun B => ?_)
        refine ok_sv (rv_super hn G1.1 S8 (by omega)) ?_; intro u69 P69
        refine ok_add (by omega) ?_; intro v70 e70
        exact ih u69 v70 P69 (by omega) (by omega)
    exact L nn k 0 (by omega) (by omega) (by omega)
  · unfold qj_X13_classFits_22
    refine cq_bad (nz_ny P80.2.1) P80.2.2.1 P80.1 ?_ (by omega) (by omega) (by omega) (by omega)
    have := P80.2.2.2
    omega
end
end
section
section
variable {nn : Nat} {h g r z w v : ms_M} {c d : Int}
/-- two memories with the same images -/
def AGc (h g : ms_M) : Prop := g 226 = h 226 ∧ g 228 = h 228 ∧ g 230 = h 230 ∧ g 160 98 = h 160 98 ∧ g 900000 0 = h 900000 0
theorem rdA_c {α : Type} {n j : Int} {x : Nat} {G : Int → Option α} (e : g x = h x) : rd_A n x j g G = rd_A n x j h G := by unfold rd_A; rw [e]
theorem rdS_c {α : Type} {j : Int} {G : Int → Option α} (A : AGc h g) : rd_S 226 j g G = rd_S 226 j h G := by
  have l : ln_I g 226 = ln_I h 226 := by rw [ln_I, ln_I, if_pos (by decide), if_pos (by decide)]
  have k : cn_M g = cn_M h := by unfold cn_M; rw [A.2.2.2.2]
  unfold rd_S
  rw [l, k, A.1]
theorem ca_184 (A : AGc h g) {l3 l4 l5 : Int} : ∀ (k : Nat) (l6 l7 : Int), qw_X13_isNamed_184 nn k 226 l3 l4 l5 l6 l7 g = qw_X13_isNamed_184 nn k 226 l3 l4 l5 l6 l7 h := by
  intro k
  induction k with
  | zero => intro l6 l7; rfl
  | succ k ih =>
    intro l6 l7
    unfold qw_X13_isNamed_184
    simp only [rdA_c A.1, rdS_c A, ih]
theorem ca_97 (A : AGc h g) {l3 l4 l6 : Int} : ∀ (k : Nat) (l7 l8 : Int), qw_X13_isNamed_97 nn k 226 l3 l4 l6 l7 l8 g = qw_X13_isNamed_97 nn k 226 l3 l4 l6 l7 l8 h := by
  intro k
  induction k with
  | zero => intro l7 l8; rfl
  | succ k ih =>
    intro l7 l8
    unfold qw_X13_isNamed_97
    simp only [rdS_c A, ih]
theorem ca_12 (A : AGc h g) {l1 l3 l4 : Int} : ∀ (k : Nat) (l5 l6 : Int), qw_X13_isNamed_12 nn k l1 226 l3 l4 l5 l6 g = qw_X13_isNamed_12 nn k l1 226 l3 l4 l5 l6 h := by
  intro k
  induction k with
  | zero => intro l5 l6; rfl
  | succ k ih =>
    intro l5 l6
    unfold qw_X13_isNamed_12 qj_X13_isNamed_91
    simp only [ca_97 A, ih]
theorem ca_nameAt (A : AGc h g) {a : Int} : qf_X13_nameAt nn a g = qf_X13_nameAt nn a h := by
  unfold qf_X13_nameAt
  simp only [rdA_c A.1, rdA_c A.2.1, rdA_c A.2.2.1]
theorem ca_isNamed (A : AGc h g) {a p n : Int} : qf_X13_isNamed nn a 226 p n g = qf_X13_isNamed nn a 226 p n h := by
  unfold qf_X13_isNamed
  simp only [ca_nameAt A, rdA_c A.1, ca_184 A, ca_12 A]
theorem ca_classNamed (A : AGc h g) {p n : Int} : qf_X13_classNamed nn 226 p n g = qf_X13_classNamed nn 226 p n h := by
  have L : ∀ (k : Nat) (l : Int), qw_X13_classNamed_3 nn k 226 p n l g = qw_X13_classNamed_3 nn k 226 p n l h := by
    intro k
    induction k with
    | zero => intro l; rfl
    | succ k ih =>
      intro l
      unfold qw_X13_classNamed_3
      simp only [ca_isNamed A, ih, A.2.2.2.1]
  unfold qf_X13_classNamed
  exact L nn 0
/-- the name from a, n long, is a class's -/
def FNm (nn : Nat) (h : ms_M) (a n : Int) : Prop := ∃ u : Int, (0 ≤ u ∧ u < 8 + h 160 98) ∧ qf_X13_classNamed nn 226 a n h = some u
theorem fn_c (A : AGc h g) {a n : Int} (F : FNm nn h a n) : FNm nn g a n := by
  obtain ⟨u, b, e⟩ := F
  exact ⟨u, by rw [A.2.2.2.1]; exact b, by rw [ca_classNamed A]; exact e⟩
theorem nz_ag (N : NZ h g) : AGc h g := ⟨funext fun k => N 226 k (by omega) (by decide) (by decide), funext fun k => N 228 k (by omega) (by decide) (by decide), funext fun k => N 230 k (by omega) (by decide) (by decide), N 160 98 (by omega) (by decide) (by decide), N 900000 0 (by omega) (by decide) (by decide)⟩
/-- a class's name is numbered without a new row -/
theorem fn_number {a n : Int} (F : FNm nn h a n) : Ok_ (qf_X13_nameNumber nn a n h) (fun u => u.2 = h ∧ (0 ≤ u.1 ∧ u.1 < 8 + h 160 98)) := by
  obtain ⟨u, b, e⟩ := F
  unfold qf_X13_nameNumber
  rw [e, mx_svs]
  exact ok_if (fun y => by exfalso; omega) (fun _ => ok_ret ⟨rfl, b⟩)
/-- a name that has a class's number is a class's -/
theorem fn_of (hn : 1000000 ≤ nn) (V : VS_ h) (S : SPD h) (O : OI h) (room : h 160 117 ≤ 2099) {a n : Int} (ra : 0 ≤ a ∧ a + n ≤ 48000) (rn : 0 ≤ n ∧ n ≤ 255) : Ok_ (qf_X13_nameNumber nn a n h) (fun u => NNm h u ∧ (u.1 < 16 → FNm nn h a n)) := by
  obtain ⟨u, e, P⟩ := rv_number hn V S O room ra rn
  obtain ⟨y, ey, Q⟩ := nm_class hn (.inr ⟨rfl, rfl⟩) V (l3 := a) (l4 := n) (by omega) rn (spd_c S)
  refine ⟨u, e, P, fun lt => ?_⟩
  by_cases q : y = -1
  · exfalso
    unfold qf_X13_nameNumber at e
    rw [ey, mx_svs, if_pos q] at e
    obtain ⟨t, et, T⟩ := rv_num21 V O room hn ra rn
    rw [e] at et
    cases et
    have := T.2
    omega
  · exact ⟨y, by omega, ey⟩
end
end

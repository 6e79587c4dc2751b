section
variable {nn : Nat} {h g r z : ms_M} {c : Int}
/-- where reading ends, from h on -/
def QE8 (h : ms_M) (c : Int) (g r : ms_M) : Prop := ST8 h r c ∧ (Live r → Live g)
theorem sq_379 {l3 : Int} (V0 : VS_ h) (S : ST8 h g c) (a : 0 ≤ l3) : Ok_ (qj_X13_scan_379 nn l3 g) (QE8 h c g) := by
  have g113 := gF_160_113 S.1
  unfold qj_X13_scan_379
  refine ok_if (fun D => ok_ret ⟨S, id⟩) (fun _ => ?_)
  refine ok_if (fun _ => ok_ret ⟨S, id⟩) (fun _ => ?_)
  refine ok_sv (st8_unfit S (by omega)) ?_; intro u4 P4
  exact ok_ret ⟨P4.1, fun y => absurd y P4.2⟩
theorem sq_332 (hn : 1000000 ≤ nn) (V0 : VS_ h) (hc : 0 ≤ c ∧ c ≤ 7) (B : Live h → SI8 h c) : ∀ (k : Nat) (l3 l4 : Int) (g : ms_M), ST8 h g c → (0 ≤ l3 ∧ l3 ≤ 80000) → (Live g → l3 ≤ h 160 113 ∧ g 234 c.toNat ≤ 12) → (0 ≤ l4 ∧ l4 ≤ 255) → 256 - l4 < (k : Int) → Ok_ (qw_X13_scan_332 nn k c l3 l4 g) (QE8 h c g) := by
  have g113 := gF_160_113 V0
  intro k
  induction k with
  | zero => intro l3 l4 g S a l b hm; exfalso; omega
  | succ k ih =>
    intro l3 l4 g S a l b hm
    have g234 := gA_234 S.1 c.toNat (by omega)
    unfold qw_X13_scan_332
    refine ok_if (fun D => sq_379 V0 S a.1) (fun D => ?_)
    have D : Live g := Classical.not_not.1 D
    have l := l D
    refine ok_rd (by omega) (gA_234 S.1) ?_; intro v9 e9 _ _
    refine ok_if (fun _ => sq_379 V0 S a.1) (fun C => ?_)
    refine ok_mul (by omega) ?_; intro v11 e11
    refine ok_add (by omega) ?_; intro v12 e12
    refine ok_wA (by omega) ?_; intro h13 E13
    have V13 : VS_ h13 := by rw [E13]; exact wA_235 S.1 (by omega)
    obtain ⟨S13, L13⟩ := st8_up S E13 V13 (by decide) (.inr ⟨by decide, by omega, by omega⟩)
    obtain ⟨u15, e15, P15⟩ := sq_method hn V0 hc B (l2 := l4) (l4 := l3) (by omega) S13 (by omega)
    rw [e15, mx_svs]
    have f : u15.2 234 c.toNat = h13 234 c.toNat := (ff_X13_scanMethod nn) _ e15 234 _ (nw_ar rfl _)
    have f2 : h13 234 c.toNat = g 234 c.toNat := by rw [E13, up_n (by omega)]
    refine ok_add (by omega) ?_; intro v16 e16
    refine ok_im (ih u15.1 v16 u15.2 P15.1 P15.2.1 (fun y => ⟨(P15.2.2 y).2, by omega⟩) (by omega) (by omega)) (fun r w => ⟨w.1, fun y => L13 (P15.2.2 (w.2 y)).1⟩)
theorem sq_314 (hn : 1000000 ≤ nn) (V0 : VS_ h) (hc : 0 ≤ c ∧ c ≤ 7) (B : Live h → SI8 h c) {l3 : Int} (S : ST8 h g c) (a : 0 ≤ l3 ∧ l3 < h 160 113) (l : Live g → h 238 l3.toNat ≤ 12) : Ok_ (qj_X13_scan_314 nn c l3 g) (QE8 h c g) := by
  have g113 := gF_160_113 V0
  have K := S.2.1
  unfold qj_X13_scan_314
  refine ok_rd (by omega) (gA_238 S.1) ?_; intro v21 e21 a21 b21
  rw [(K.1 _).1] at e21
  refine ok_wA (by omega) ?_; intro h22 E22
  have V22 : VS_ h22 := by rw [E22]; exact wA_234 S.1 (by omega)
  obtain ⟨S22, L22⟩ := st8_up S E22 V22 (by decide) (.inl ⟨by decide, by omega⟩)
  have f : h22 234 c.toNat = v21 := by rw [E22, up_s]
  refine ok_add (by omega) ?_; intro v23 e23
  exact ok_im (sq_332 hn V0 hc B nn v23 0 h22 S22 (by omega) (fun y => ⟨by omega, by have := l (L22 y); omega⟩) (by omega) (by omega)) (fun r w => ⟨w.1, fun y => L22 (w.2 y)⟩)
/-- what reading leaves of all else, from begin to end -/
def NTa (c : Int) (h r : ms_M) : Prop := ∀ x k : Nat, ¬ (x = 160 ∧ (k = 114 ∨ k = 115)) → ¬ (x = 228 ∧ 256 * c ≤ (k : Int) ∧ (k : Int) < 256 * c + 256) → ¬ ((x = 229 ∨ x = 230 ∨ x = 231 ∨ x = 232 ∨ x = 234) ∧ (k : Int) = c) → ¬ ((x = 233 ∨ x = 235 ∨ x = 236 ∨ x = 237) ∧ 12 * c ≤ (k : Int) ∧ (k : Int) < 12 * c + 12) → r x k = h x k
theorem nta_rf : NTa c h h := fun _ _ _ _ _ _ => rfl
theorem nta_tr (a : NTa c h z) (b : NTa c z r) : NTa c h r := fun x k w1 w2 w3 w4 => (b x k w1 w2 w3 w4).trans (a x k w1 w2 w3 w4)
theorem nta_8 (a : NT8 c h r) : NTa c h r := fun x k w1 w2 w3 w4 => a x k (by omega) w2 (by omega) w4
/-- an image that was read without FORM -/
def IM8 (r : ms_M) (c : Int) : Prop := SI8 r c ∧ CL r c (r 230 c.toNat) ∧ CL r c (r 231 c.toNat)
def QR8 (c : Int) (h r : ms_M) : Prop := VS_ r ∧ NTa c h r ∧ (Live r → IM8 r c)
theorem sq_243 (hn : 1000000 ≤ nn) (V0 : VS_ h) (hc : 0 ≤ c ∧ c ≤ 7) (B : Live h → SI8 h c) {l3 : Int} (S : ST8 h g c) (a : 3 ≤ l3 ∧ l3 ≤ 6300) (l : Live g → CL h c (h 238 l3.toNat) ∧ CL h c (h 238 (l3 + 1).toNat)) : Ok_ (qj_X13_scan_243 nn c l3 g) (QR8 c h) := by
  have g113 := gF_160_113 V0
  have K := S.2.1
  unfold qj_X13_scan_243
  refine ok_add (by omega) ?_; intro v24 e24
  refine ok_sv (st8_byte S) ?_; intro u26 P
  obtain ⟨S26, P⟩ := P
  rcases P with ⟨p1, p2, p3, p4⟩ | ⟨p1, p2⟩
  · rw [if_pos (show ¬ u26.1 = 0 by omega), p2]
    have Bh := B (S.2.2.2 p3)
    obtain ⟨c1, c2⟩ := l p3
    refine ok_rd (by omega) (gA_238 S.1) ?_; intro v29 e29 a29 b29
    rw [(K.1 _).1] at e29
    refine ok_wA (by omega) ?_; intro h30 E30
    have V30 : VS_ h30 := by rw [E30]; exact wA_230 S.1 (by omega)
    refine ok_add (by omega) ?_; intro v33 e33
    refine ok_rd (by omega) (gA_238 V30) ?_; intro v34 e34 a34 b34
    rw [e33, E30, up_n (by omega), (K.1 _).1] at e34
    refine ok_wA (by omega) ?_; intro h35 E35
    have V35 : VS_ h35 := by rw [E35]; exact wA_231 V30 (by omega)
    -- from here the base is h35
    have K35 : KE8 h h35 c := ke8_tr K (ke8_tr (ke8_up E30 (by decide)) (ke8_up E35 (by decide)))
    have q0 : h35 230 c.toNat = v29 := by rw [E35, up_n (by omega), E30, up_s]
    have q1 : h35 231 c.toNat = v34 := by rw [E35, up_s]
    have I35 : IM8 h35 c := by
      refine ⟨si8_ke K35 Bh, ?_, ?_⟩
      · rw [q0, e29]; exact cl_ke K35 c1
      · rw [q1, e34]; exact cl_ke K35 c2
    have N35 : NTa c h h35 := nta_tr (nta_8 S.2.2.1) (fun x k w1 w2 w3 w4 => by rw [E35, up_n (by omega), E30, up_n (by omega)])
    have e113 : h35 160 113 = h 160 113 := K35.2.1
    have S35 : ST8 h35 h35 c := st8_0 V35
    have fin : ∀ r : ms_M, ST8 h35 r c → QR8 c h r := fun r Sr => by
      have K8 := Sr.2.1
      have w0 : r 230 c.toNat = h35 230 c.toNat := Sr.2.2.1 230 _ (by omega) (by omega) (by omega) (by omega)
      have w1 : r 231 c.toNat = h35 231 c.toNat := Sr.2.2.1 231 _ (by omega) (by omega) (by omega) (by omega)
      exact ⟨Sr.1, nta_tr N35 (nta_8 Sr.2.2.1), fun _ => ⟨si8_ke K8 I35.1, by rw [w0]; exact cl_ke K8 I35.2.1, by rw [w1]; exact cl_ke K8 I35.2.2⟩⟩
    refine ok_add (by omega) ?_; intro v36 e36
    refine ok_sv (sq_fields hn V35 hc (fun _ => I35.1) (by omega) S35) ?_; intro u38 P38
    refine ok_sv (st8_byte P38.1) ?_; intro u40 P40
    obtain ⟨S40, P40⟩ := P40
    rcases P40 with ⟨r1, r2, r3, r4⟩ | ⟨r1, r2⟩
    · rw [if_pos (show ¬ u40.1 = 0 by omega), r2]
      have b38 := P38.2.1
      have K38 := P38.1.2.1
      refine ok_rd (by omega) (gA_238 P38.1.1) ?_; intro v42 e42 _ _
      rw [(K38.1 _).1] at e42
      refine ok_if (fun F => ?_) (fun _ => ?_)
      · exact ok_im (sq_314 hn V35 hc (fun _ => I35.1) P38.1 (by omega) (fun _ => by omega)) (fun r w => fin r w.1)
      · refine ok_sv (st8_unfit P38.1 (by omega)) ?_; intro u44 P44
        exact ok_im (sq_314 hn V35 hc (fun _ => I35.1) P44.1 (by omega) (fun y => absurd y P44.2)) (fun r w => fin r w.1)
    · rw [if_neg (show ¬ ¬ u40.1 = 0 by omega)]
      exact ok_ret (fin u40.2 S40)
  · rw [if_neg (show ¬ ¬ u26.1 = 0 by omega)]
    exact ok_ret ⟨S26.1, nta_8 S26.2.2.1, fun y => absurd y p2⟩
theorem sq_210 (hn : 1000000 ≤ nn) (V0 : VS_ h) (hc : 0 ≤ c ∧ c ≤ 7) (B : Live h → SI8 h c) {l3 : Int} (S : ST8 h g c) (a : 3 ≤ l3 ∧ l3 ≤ 6300) (l : Live g → CL h c (h 238 l3.toNat)) : Ok_ (qj_X13_scan_210 nn c l3 g) (QR8 c h) := by
  have g113 := gF_160_113 V0
  have K := S.2.1
  unfold qj_X13_scan_210
  refine ok_add (by omega) ?_; intro v48 e48
  refine ok_sv (st8_byte S) ?_; intro u50 P
  obtain ⟨S50, P⟩ := P
  rcases P with ⟨p1, p2, p3, p4⟩ | ⟨p1, p2⟩
  · rw [if_neg (show ¬ u50.1 = 0 by omega), p2]
    have Bh := B (S.2.2.2 p3)
    refine ok_add (by omega) ?_; intro v52 e52
    refine ok_rd (by omega) (gA_238 S.1) ?_; intro v53 e53 _ _
    rw [e52, (K.1 _).1] at e53
    refine ok_sv (st8_class S Bh) ?_; intro u55 P55
    refine ok_if (fun F => sq_243 hn V0 hc B S a (fun y => ⟨l y, by rw [← e53]; exact P55.2 F⟩)) (fun _ => ?_)
    refine ok_add (by omega) ?_; intro v56 e56
    refine ok_sv (st8_unfit S (by omega)) ?_; intro u58 P58
    exact sq_243 hn V0 hc B P58.1 a (fun y => absurd y P58.2)
  · rw [if_pos p1]
    exact sq_243 hn V0 hc B S50 a (fun y => absurd y p2)
theorem sq_183 (hn : 1000000 ≤ nn) (V0 : VS_ h) (hc : 0 ≤ c ∧ c ≤ 7) (B : Live h → SI8 h c) {l3 : Int} (a : 3 ≤ l3 ∧ l3 ≤ 6300) : Ok_ (qj_X13_scan_183 nn c l3 h) (QR8 c h) := by
  have g113 := gF_160_113 V0
  have S : ST8 h h c := st8_0 V0
  unfold qj_X13_scan_183
  refine ok_sv (st8_byte S) ?_; intro u62 P
  obtain ⟨S62, P⟩ := P
  rcases P with ⟨p1, p2, p3, p4⟩ | ⟨p1, p2⟩
  · rw [if_neg (show ¬ u62.1 = 0 by omega), p2]
    have Bh := B p3
    refine ok_rd (by omega) (gA_238 S.1) ?_; intro v64 e64 _ _
    refine ok_sv (st8_class S Bh) ?_; intro u66 P66
    refine ok_if (fun F => sq_210 hn V0 hc B S a (fun _ => by rw [← e64]; exact P66.2 F)) (fun _ => ?_)
    refine ok_sv (st8_unfit S (by omega)) ?_; intro u68 P68
    exact sq_210 hn V0 hc B P68.1 a (fun y => absurd y P68.2)
  · rw [if_pos p1]
    exact sq_210 hn V0 hc B S62 a (fun y => absurd y p2)
/-- all constants name what is there -/
theorem sq_146 (hn : 1000000 ≤ nn) (V0 : VS_ h) (hc : 0 ≤ c ∧ c ≤ 7) {l2 l3 : Int} (h2 : 0 ≤ l2 ∧ l2 ≤ 255) (a : 3 ≤ l3 ∧ l3 ≤ 6300) (B : Live h → h 160 115 = c ∧ CSn h c (h 229 c.toNat) ∧ h 229 c.toNat = l2) : ∀ (k : Nat) (l4 : Int) (g : ms_M), VS_ g → NB h g → (Live g → Live h ∧ ∀ i : Int, 1 ≤ i → i < l4 → CK8 h c (pl h c i)) → (1 ≤ l4 ∧ l4 ≤ l2 + 1) → l2 + 1 - l4 < (k : Int) → Ok_ (qw_X13_scan_146 nn k c l2 l3 l4 g) (QR8 c h) := by
  intro k
  induction k with
  | zero => intro l4 g V N l b hm; exfalso; omega
  | succ k ih =>
    intro l4 g V N l b hm
    have K : KE8 h g c := ke_nb N
    have E : (Live g → SI8 g c) → Ok_ (qj_X13_scan_183 nn c l3 g) (QR8 c h) := fun w => ok_im (sq_183 hn V hc w a) (fun r q => ⟨q.1, nta_tr (nta_8 (nt8_nb N)) q.2.1, q.2.2⟩)
    unfold qw_X13_scan_146
    refine ok_if (fun C => E (fun y => ?_)) (fun C => ?_)
    · obtain ⟨y1, y2⟩ := l y
      obtain ⟨b1, b2, b3⟩ := B y1
      exact si8_ke K ⟨b1, b2, fun i i1 i2 => y2 i i1 (by omega)⟩
    · refine ok_if (fun D => E (fun y => absurd y D)) (fun D => ?_)
      have D : Live g := Classical.not_not.1 D
      obtain ⟨y1, y2⟩ := l D
      obtain ⟨b1, b2, b3⟩ := B y1
      refine ok_mul (by omega) ?_; intro v73 e73
      refine ok_add (by omega) ?_; intro v74 e74
      refine ok_rd (by omega) (gA_228 V) ?_; intro v75 e75 _ _
      have ep : v75 = pl g c l4 := by rw [e75, e74, e73]; rfl
      have cp := b2 l4 (by omega) (by omega)
      refine ok_sv (sq_check hn V (c := c) (by rw [K.2.2.1]; exact b1) (by rw [K.2.2.2]; exact cs_ke K b2) (by rw [ep, pl_ke K]; exact cp_ke K cp)) ?_; intro u77 P77
      obtain ⟨V77, N77, P77⟩ := P77
      refine ok_add (by omega) ?_; intro v78 e78
      refine ih v78 u77 V77 (nb_tr N N77) (fun y => ⟨y1, fun i i1 i2 => ?_⟩) (by omega) (by omega)
      by_cases q : i = l4
      · have ck := (P77 y).2
        rw [q]
        have kk : KE8 g h c := ⟨fun k => ⟨((K.1 k).1).symm, ((K.1 k).2).symm⟩, K.2.1.symm, K.2.2.1.symm, K.2.2.2.symm⟩
        rw [ep, pl_ke K] at ck
        exact ck_ke kk ck
      · exact y2 i i1 (by omega)
/-- the constants, one behind the other -/
theorem sq_86 (hn : 1000000 ≤ nn) (hc : 0 ≤ c ∧ c ≤ 7) {l2 : Int} (h2 : 0 ≤ l2 ∧ l2 ≤ 255) : ∀ (k : Nat) (l3 l4 : Int) (g : ms_M), VS_ g → g 160 115 = c → (3 ≤ l3 ∧ l3 ≤ 6300) → (Live g → CSn g c (g 229 c.toNat) ∧ g 229 c.toNat = l4 - 1 ∧ l3 ≤ g 160 113) → (1 ≤ l4 ∧ l4 ≤ l2 + 1) → l2 + 1 - l4 < (k : Int) → Ok_ (qw_X13_scan_86 nn k c l2 l3 l4 g) (QR8 c g) := by
  intro k
  induction k with
  | zero => intro l3 l4 g V e a l b hm; exfalso; omega
  | succ k ih =>
    intro l3 l4 g V e5 a l b hm
    have g113 := gF_160_113 V
    unfold qw_X13_scan_86
    refine ok_if (fun C => ?_) (fun C => ?_)
    · exact sq_146 hn V hc h2 a (fun y => ⟨e5, (l y).1, by have := (l y).2.1; omega⟩) nn 1 g V nb_rf (fun y => ⟨y, fun i i1 i2 => by exfalso; omega⟩) (by omega) (by omega)
    · refine ok_if (fun D => ?_) (fun D => ?_)
      · exact sq_146 hn V hc h2 a (fun y => absurd y D) nn 1 g V nb_rf (fun y => absurd y D) (by omega) (by omega)
      · have D : Live g := Classical.not_not.1 D
        obtain ⟨s1, s2, s3⟩ := l D
        refine ok_sv (sq_byte V) ?_; intro u83 P
        obtain ⟨V83, N83, P⟩ := P
        rcases P with ⟨p1, p2, p3, p4⟩ | ⟨p1, p2⟩
        · rw [if_pos (show ¬ u83.1 = 0 by omega), p2]
          refine ok_mul (by omega) ?_; intro v85 e85
          refine ok_add (by omega) ?_; intro v86 e86
          refine ok_wA (by omega) ?_; intro h87 E87
          have V87 : VS_ h87 := by rw [E87]; exact wA_228 V (by omega)
          refine ok_wA (by omega) ?_; intro h89 E89
          have V89 : VS_ h89 := by rw [E89]; exact wA_229 V87 (by omega)
          have f : ∀ x k : Nat, ¬ (x = 228 ∧ k = v86.toNat) → ¬ (x = 229 ∧ k = c.toNat) → h89 x k = g x k := fun x k w1 w2 => by rw [E89, up_n w2, E87, up_n w1]
          have f1 : h89 228 v86.toNat = l3 := by rw [E89, up_n (by omega), E87, up_s]
          have f2 : h89 229 c.toNat = l4 := by rw [E89, up_s]
          have f3 : h89 160 113 = g 160 113 := f 160 113 (by omega) (by omega)
          refine ok_sv (sq_scanC hn V89 (by omega)) ?_; intro u91 P91
          obtain ⟨V91, N91, b91, P91⟩ := P91
          have f4 : u91.2 160 113 = g 160 113 := (N91 160 113 (by decide)).trans f3
          have f5 : u91.2 229 c.toNat = l4 := (N91 229 _ (by omega)).trans f2
          have f6 : u91.2 160 115 = c := (N91 160 115 (by decide)).trans ((f 160 115 (by omega) (by omega)).trans e5)
          refine ok_add (by omega) ?_; intro v92 e92
          have Nf : NTa c g u91.2 := fun x k w1 w2 w3 w4 => by rw [N91 x k (by omega), f x k (by omega) (by omega)]
          have go : ∀ w : Int, (3 ≤ w ∧ w ≤ 6300) → (Live u91.2 → w = u91.1) → Ok_ (qw_X13_scan_86 nn k c l2 w v92 u91.2) (QR8 c g) := fun w hw ew => by
            refine ok_im (ih w v92 u91.2 V91 f6 hw (fun y => ?_) (by omega) (by omega)) (fun r q => ⟨q.1, nta_tr Nf q.2.1, q.2.2⟩)
            obtain ⟨_, c1, c2, c3⟩ := P91 y
            have := ew y
            refine ⟨fun i i1 i2 => ?_, by omega, by omega⟩
            rw [f5] at i2
            refine cp_nb N91 ?_
            have ei : pl u91.2 c i = pl h89 c i := N91 228 _ (by omega)
            rw [ei]
            by_cases q : i = l4
            · have : pl h89 c i = l3 := by
                unfold pl
                rw [q, show 256 * c + l4 = v86 by omega]; exact f1
              rw [this]; exact c1
            · have e2 : pl h89 c i = pl g c i := f 228 _ (by omega) (by omega)
              rw [e2]
              have cp := s1 i i1 (by omega)
              unfold CP at cp ⊢
              rw [f 238 _ (by omega) (by omega), f 238 _ (by omega) (by omega), f3]; exact cp
          exact go u91.1 (by omega) (fun _ => rfl)
        · rw [if_neg (show ¬ ¬ u83.1 = 0 by omega)]
          exact ok_ret ⟨V83, nta_8 (nt8_nb N83), fun y => absurd y p2⟩
theorem sq_65b (hn : 1000000 ≤ nn) (hc : 0 ≤ c ∧ c ≤ 7) (V : VS_ h) (e5 : h 160 115 = c) (e9 : h 229 c.toNat = 0) : Ok_ (qj_X13_scan_65 nn c h) (QR8 c h) := by
  have g113 := gF_160_113 V
  unfold qj_X13_scan_65
  refine ok_sv (sq_byte V) ?_; intro u97 P
  obtain ⟨V97, N97, P⟩ := P
  rcases P with ⟨p1, p2, p3, p4⟩ | ⟨p1, p2⟩
  · rw [if_pos (show ¬ u97.1 = 0 by omega), p2]
    refine ok_rd (by omega) (gA_238 V) ?_; intro v99 _ a99 b99
    exact sq_86 hn hc ⟨a99, b99⟩ nn 3 1 h V e5 (by omega) (fun _ => ⟨fun i i1 i2 => by exfalso; omega, by omega, by omega⟩) (by omega) (by omega)
  · rw [if_neg (show ¬ ¬ u97.1 = 0 by omega)]
    exact ok_ret ⟨V97, nta_8 (nt8_nb N97), fun y => absurd y p2⟩
theorem qr_nb {f : ms_M} (N : NB h f) (q : QR8 c f r) : QR8 c h r := ⟨q.1, nta_tr (nta_8 (nt8_nb N)) q.2.1, q.2.2⟩
theorem sq_41b (hn : 1000000 ≤ nn) (hc : 0 ≤ c ∧ c ≤ 7) (V : VS_ h) (e5 : h 160 115 = c) (e9 : h 229 c.toNat = 0) : Ok_ (qj_X13_scan_41 nn c h) (QR8 c h) := by
  have g113 := gF_160_113 V
  unfold qj_X13_scan_41
  refine ok_sv (sq_byte V) ?_; intro u102 P
  obtain ⟨V2, N2, P⟩ := P
  have J : ∀ f : ms_M, VS_ f → NB h f → Ok_ (qj_X13_scan_65 nn c f) (QR8 c h) := fun f Vf Nf => ok_im (sq_65b hn hc Vf (by rw [Nf 160 115 (by decide)]; exact e5) (by rw [Nf 229 _ (by omega)]; exact e9)) (fun r q => qr_nb Nf q)
  refine ok_if (fun F => J u102.2 V2 N2) (fun F => ?_)
  rcases P with ⟨p1, p2, p3, p4⟩ | ⟨p1, p2⟩
  · rw [p2]
    refine ok_rd (by omega) (gA_238 V) ?_; intro v104 _ _ _
    refine ok_if (fun _ => J h V nb_rf) (fun _ => ?_)
    refine ok_sv (sq_unfit V (by omega)) ?_; intro u106 P6
    exact J u106 P6.1 P6.2.1
  · exact absurd p1 F
/-- an image is read -/
theorem sq_scan (hn : 1000000 ≤ nn) (hc : 0 ≤ c ∧ c ≤ 7) (V : VS_ h) : Ok_ (qf_X13_scan nn c h) (QR8 c h) := by
  unfold qf_X13_scan
  refine ok_xl ?_; intro h109 E109
  have V109 : VS_ h109 := by rw [E109]; exact wF_160_115 V (by omega)
  refine ok_xl ?_; intro h110 E110
  have V110 : VS_ h110 := by rw [E110]; exact wF_160_114 V109 (by omega)
  refine ok_wA (by omega) ?_; intro h112 E112
  have V112 : VS_ h112 := by rw [E112]; exact wA_229 V110 (by omega)
  have N : NTa c h h112 := fun x k w1 w2 w3 w4 => by rw [E112, up_n (by omega), E110, up_n (by omega), E109, up_n (by omega)]
  have e5 : h112 160 115 = c := by rw [E112, up_n (by omega), E110, up_n (by decide), E109, up_s]
  have e9 : h112 229 c.toNat = 0 := by rw [E112, up_s]
  have g113 := gF_160_113 V112
  have J : ∀ f : ms_M, VS_ f → NB h112 f → Ok_ (qj_X13_scan_41 nn c f) (QR8 c h) := fun f Vf Nf => ok_im (sq_41b hn hc Vf (by rw [Nf 160 115 (by decide)]; exact e5) (by rw [Nf 229 _ (by omega)]; exact e9)) (fun r q => ⟨q.1, nta_tr N (qr_nb Nf q).2.1, q.2.2⟩)
  refine ok_sv (sq_byte V112) ?_; intro u114 P
  obtain ⟨V2, N2, P⟩ := P
  refine ok_if (fun F => J u114.2 V2 N2) (fun F => ?_)
  rcases P with ⟨p1, p2, p3, p4⟩ | ⟨p1, p2⟩
  · rw [p2]
    refine ok_rd (by omega) (gA_238 V112) ?_; intro v116 _ _ _
    refine ok_if (fun _ => J h112 V112 nb_rf) (fun _ => ?_)
    refine ok_sv (sq_unfit V112 (by omega)) ?_; intro u118 P6
    exact J u118 P6.1 P6.2.1
  · exact absurd p1 F
end

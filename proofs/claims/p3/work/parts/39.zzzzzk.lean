section
variable {nn : Nat} {h g r z w v x f R p : ms_M} {c d e k : Int} {ω : Int → ms_M} {N : Nat} {T U : Nat → ms_M} {i t : Int} {a : Nat}
theorem tku_det {y u s : Int} (A : TKU nn h c w y u) (B : TKU nn h c w y s) : u = s := ktv_det A.2 B.2
theorem tku_c {y u : Int} (A : AGc h g) (K : TKU nn h c w y u) : TKU nn g c w y u := ⟨K.1, ktv_c A K.2⟩
theorem tkv_c {y m q u : Int} {L : Int → Int} (A : AGc h g) (K : TKV nn h c w y m L q u) : TKV nn g c w y m L q u := mkv_c A K
/-- the space as instruction a's check saw it -/
theorem RTP.at (X : RTP nn g ω R i c k N T U t a p) : AGd (T a) g := agd_sy (agd_tr X.ag (nfl_agd X.nd.1.1))
/-- a value that goes -/
theorem rtp_go (hn : 1000000 ≤ nn) (X : RTP nn g ω R i c k N T U t a p) {y ty : Int} (y0 : 0 ≤ y) (y1 : y < R 254 i.toNat) (G : GOt nn (T a) (tp (T a) y) ty) (gt : GTs g ty) : CVt nn g R ty (R 255 (60 * i + 30 + (R 254 i.toNat - 1 - y)).toNat) := by
  have s := X.s
  exact cv_goes hn X.rx.1 (gts_c X.at (X.nd.1.2.2.2 (T a 160 131 - 1 - y) (by omega) (by omega))) gt (got_c X.at G) (X.tp y0 y1)
/-- fields, and how long a row is -/
theorem st_field (hn : 1000000 ≤ nn) (X : RTP nn g ω R i c k N T U t a p) {op o : Int} (eo : op = ω c 238 (p 160 134 + bp (ω c) (p 160 134) a).toNat) (W : WN nn (T a) ω c (ω c) t op o (U a)) (ho : op = 180 ∨ op = 181 ∨ op = 190) {b : Int} (hb : b = WD (ω c 238 (p 160 134 + bp (ω c) (p 160 134) a).toNat)) : Ok_ (mx_sv (qf_X13_fieldOf nn op o b R) fun u26 => some u26) (SQ nn g ω R) := by
  have V := X.vs
  have hi := X.hi
  have hd := X.hd
  have s := X.s
  have H := X.hp
  have XV := X.rx.1
  have XV0 := XV
  obtain ⟨⟨Vg, Sg⟩, O, CA, _⟩ := XV
  have g98 := gF_160_98 Vg
  have g141 := gF_160_141 V
  have g142 := gF_160_142 V
  have ck := X.ck
  have e1 := X.e1
  have hc7 : 0 ≤ c ∧ c ≤ 7 := by omega
  have P0 := rpo_rf V hi
  have At := X.at
  have nt : ¬ (ω c 238 (p 160 134 + bp (ω c) (p 160 134) a).toNat = 167 ∨ ω c 238 (p 160 134 + bp (ω c) (p 160 134) a).toNat = 172 ∨ ω c 238 (p 160 134 + bp (ω c) (p 160 134) a).toNat = 176 ∨ ω c 238 (p 160 134 + bp (ω c) (p 160 134) a).toNat = 177 ∨ ω c 238 (p 160 134 + bp (ω c) (p 160 134) a).toNat = 191) := by rw [← eo]; omega
  have sv : ∀ y : Option ms_M, (mx_sv y fun u => some u) = y := fun y => by cases y <;> rfl
  have B : ∀ (n q : Int) (r : ms_M), VS_ r → RPO R i n r → (0 ≤ n ∧ n + 1 ≤ R 254 i.toNat) → (op = 190 → n = 0 ∧ (tp (T a) 0 = 2 ∨ tp (T a) 0 = 3 ∨ (4 ≤ tp (T a) 0 ∧ tp (T a) 0 % 2 = 1)) ∧ PS1 (T a) 1 1 (U a)) → (¬ op = 190 → ∃ u b j ty : Int, MRF nn g ω c (ω c) o 0 u b j ∧ TKU nn g c (ω c) (ω c 238 (pl (ω c) c o + 1 + 2).toNat) ty ∧ CVt nn g R (4 + 2 * u) (R 255 (60 * i + 30 + (R 254 i.toNat - 1 - n)).toNat) ∧ ((op = 180 ∧ n = 0 ∧ PS1 (T a) 1 ty (U a)) ∨ (¬ op = 180 ∧ n = 1 ∧ POP (T a) 2 (U a) ∧ (-2147483648 ≤ q ∧ q ≤ 2147483647) ∧ CVt nn g R ty q))) → Ok_ (mx_sv (qj_X13_fieldOf_15 nn op o b q r) fun u26 => some u26) (SQ nn g ω R) := fun n q r Vr P hn1 h190 hm => by
    rw [sv]
    unfold qj_X13_fieldOf_15
    refine ok_sv (g_drop Vr P hd hi (by omega) (by omega)) ?_; intro u4 P4
    obtain ⟨V4, Q4, q4⟩ := P4
    obtain ⟨⟨k1, k2, k3⟩, k4, k5⟩ := rpo_k hi.1 Q4
    have hx0 : ∀ x j : Nat, x ≤ 253 → u4.2 x j = R x j := fun x j q => Q4.1 x j (by omega)
    have X4 := rx_k k1 V4 X.rx
    have e4 := Q4.2.1
    refine ok_if (fun o0 => ?_) (fun _ => end_fails hn X V4 Q4 (by decide))
    refine ok_if (fun n190 => ?_) (fun y190 => ?_)
    · obtain ⟨u, bb, j, ty, mr, tk, cv, rest⟩ := hm n190
      rw [← q4] at cv
      obtain ⟨st4, ⟨ub, ct⟩, hs, hbb, hj, eqt⟩ := mr
      have Wg := O c ck.1.1 ck.1.2
      have ckk := (Wg.2.1.2.2 o st4.1.1 st4.1.2).2 st4.2
      have cl : CL (ω c) c (ω c 238 (pl (ω c) c o + 1 + 0).toNat) := by rw [show pl (ω c) c o + 1 + 0 = pl (ω c) c o + 1 by omega]; exact ckk.1
      have tx : TX (ω c) c (ω c 238 (pl (ω c) c o + 1 + 1).toNat) := by rw [show pl (ω c) c o + 1 + 1 = pl (ω c) c o + 2 by omega]; exact ckk.2.1.1
      have d4 : u4.2 160 149 = i + 1 := by rw [k4]; exact hd
      have e251 : u4.2 251 i.toNat = 8 + c := by rw [k5.1]; exact e1.1
      refine ok_sv (g_part X4 d4 hi ck.1 e251 st4 (by decide)) ?_; intro u6 P6
      rw [P6.1]
      refine ok_sv (g_classIn X4 d4 hi ck.1 e251 cl ct) ?_; intro u8 P8
      rw [P8, d4]
      refine ok_sub (by omega) ?_; intro v11 e11
      rw [show v11 = i by omega]
      refine ok_rd (by omega) (gA_251 V4) ?_; intro v12 e12 _ _
      refine ok_sub (by omega) ?_; intro v13 e13
      rw [show v13 = c by omega]
      refine ok_sv (g_part X4 d4 hi ck.1 e251 st4 (by decide)) ?_; intro u15 P15
      rw [P15.1]
      have W4 := wi_e X4.2.1 ck.1 Wg
      refine ok_sv (rt_holder hn V4 X4.2.2.2 (om_e X4.2.1 O) hc7 W4 (f := u) (s := 0) (by rw [X4.2.1.1]; omega) tx) ?_; intro u17 P17
      obtain ⟨j2, hs2, P17⟩ := P17
      have hs3 := hsn_e hn XV0 X4.2.1 V4 _ _ _ _ (by omega) hs2
      obtain ⟨eb, ej⟩ := hsn_det _ _ _ _ _ _ hs hs3
      have ej := ej (by omega)
      have p17 : u17.2 = up_M u4.2 160 121 j2 := by
        rcases P17 with z | z
        · exfalso; omega
        · exact z.2.2
      have j12 : j < 12 := (wi_fd (O (bb - 8) (by omega) (by omega)) (by omega) hj).1
      have V17 : VS_ u17.2 := by rw [p17]; exact wF_160_121 V4 (by omega)
      have N17 : ∀ x y : Nat, ¬ (x = 160 ∧ y = 121) → u17.2 x y = u4.2 x y := fun x y z => by rw [p17, up_n z]
      have f121 : u17.2 160 121 = j := by rw [p17, up_s]; omega
      have F17 : RFr u4.2 u17.2 := fun x y z1 z2 => N17 x y (by omega)
      have X17 := rx_k F17 V17 X4
      -- the object
      have un : (1 ≤ u4.1 ∧ u4.1 ≤ R 160 141) ∧ R 246 u4.1.toNat < 99 ∧ UNd nn g (R 246 u4.1.toNat) u := by
        rcases cv with z | z | z | ⟨z0, z⟩
        · exfalso; omega
        · exfalso; omega
        · exact absurd z o0
        · refine ⟨z0, ?_⟩
          rcases z with z | ⟨y, y0, z1, z2⟩ | ⟨y, y0, z1, z2⟩
          · exfalso; omega
          · rw [show y = u by omega] at z2
            rcases z2 with z2 | z2
            · exfalso
              obtain ⟨m, up⟩ := hsn_up _ _ _ _ hs (by omega)
              rw [z2.2] at up
              have := und_0 ⟨show ¬ bb = -1 by omega, m, up⟩
              omega
            · exact z2
          · exfalso; omega
      obtain ⟨ob, so, un⟩ := un
      obtain ⟨m, up⟩ := hsn_up _ _ _ _ hs (by omega)
      have unb : UNd nn g (R 246 u4.1.toNat) bb := und_tr un ⟨by omega, m, up⟩
      obtain ⟨o1, o2⟩ := H.1 u4.1 ob.1 ob.2
      obtain ⟨w1, w2, w3⟩ : (0 ≤ R 246 u4.1.toNat ∧ R 246 u4.1.toNat < 8 + g 160 98) ∧ FO nn g (R 246 u4.1.toNat) (R 248 u4.1.toNat) ∧ FLV nn g ω R u4.1 := by
        rcases o2 with z | z | z
        · exact z.2
        · exfalso; omega
        · exfalso; omega
      refine ok_rd (by omega) (gA_247 V17) ?_; intro v19 e19 _ _
      rw [N17 247 _ (by omega), hx0 247 _ (by omega)] at e19
      rw [← eb]
      obtain ⟨sy, esy, psy⟩ := su_rg hn Vg Sg (k := bb) (by omega)
      rw [ce_super Vg V17 O X17.2.1 (by omega), esy, mx_svs]
      refine ok_sv (rt_fields hn XV0 X17.2.1 V17 psy) ?_; intro u23 P23
      have rg := flv_rg hn XV0 w1 unb w2 hbb hj esy P23.1
      refine ok_add (by omega) ?_; intro v24 e24
      rw [f121]
      refine ok_add (by omega) ?_; intro v26 e26
      obtain ⟨tyy, tk1, tk2, _⟩ := mrf_u Vg O CA hc7 Wg ⟨st4, ⟨ub, ct⟩, hs, hbb, hj, eqt⟩
      have ety := tku_det tk2 tk
      rw [ety] at tk1
      have e17 : ∀ x y : Nat, x ≤ 253 → ¬ (x = 160 ∧ y = 121) → u17.2 x y = R x y := fun x y z1 z2 => by rw [N17 x y z2]; exact hx0 x y z1
      unfold qj_X13_fieldOf_147
      refine ok_if (fun n180 => ?_) (fun y180 => ?_)
      · obtain ⟨_, n1, po, qb, cq⟩ : ¬ op = 180 ∧ n = 1 ∧ POP (T a) 2 (U a) ∧ (-2147483648 ≤ q ∧ q ≤ 2147483647) ∧ CVt nn g R ty q := by
          rcases rest with z | z
          · exact absurd z.1 n180
          · exact z
        refine ok_wA (by omega) ?_; intro h28 E28
        have V28 : VS_ h28 := by rw [E28]; exact wA_249 V17 qb
        rw [show v26.toNat = (R 247 u4.1.toNat + (u23 + j)).toNat by omega] at E28
        have HH := hpo_w hn XV0 H (r := h28) (y := u23 + j) (u := q) ob (by omega) (fun x l y1 y2 y3 y4 => by
          rw [E28, up_n (by omega)]
          exact e17 x l (by omega) (fun z => by have := y2 z.1; omega)) (by rw [E28, up_s]) (fun z => by exfalso; omega) (fun _ a' j' s' t' q' z1 z2 z3 z4 z5 z6 z7 => by
            obtain ⟨ea, ej'⟩ := flv_inj hn XV0 w1 w2 z1 unb z2 hbb z3 hj z4 esy z5 P23.1 z7
            rw [ea, ej'] at z6
            rw [tku_det z6 tk1]
            exact cq)
        refine end_hp hn X po V28 (fun x l y1 y2 y3 => ?_) ?_ HH nt hb
        · rw [E28, up_n (by omega), N17 x l (by omega)]; exact Q4.1 x l (by omega)
        · rw [E28, up_n (by omega), N17 254 _ (by omega), e4]; omega
      · obtain ⟨_, n0, ps⟩ : op = 180 ∧ n = 0 ∧ PS1 (T a) 1 ty (U a) := by
          rcases rest with z | z
          · exact z
          · exact absurd z.1 y180
        refine ok_rd (by omega) (gA_249 V17) ?_; intro v30 e30 b1 b2
        rw [e17 249 _ (by omega) (by omega), e26, e24, e19] at e30
        have cvv := w3 bb j u23 ty sy unb hbb hj esy P23.1 tk1
        rw [← e30] at cvv
        have s17 : u17.2 254 i.toNat = R 254 i.toNat - 1 := by rw [N17 254 _ (by omega), e4]; omega
        have q1 := ps.2.2.2.1
        refine ok_sv (g_give V17 (rpo_rf V17 hi) (by rw [N17 160 149 (by omega)]; exact d4) hi (by rw [s17]; omega) ⟨b1, b2⟩) ?_; intro u32 P32
        obtain ⟨V32, g1, g2, _, g4⟩ := P32
        rw [s17] at g1 g2 g4
        rw [show R 254 i.toNat - 1 - 0 = R 254 i.toNat - 1 by omega] at g1 g2 g4
        have Nn : ∀ x l : Nat, ¬ (x = 160 ∧ l = 121) → ¬ (x = 254 ∧ l = i.toNat) → ¬ (x = 255 ∧ l = (60 * i + 30 + (R 254 i.toNat - 1)).toNat) → u32 x l = R x l := fun x l y1 y2 y3 => by rw [g1 x l y2 y3, N17 x l y1]; exact Q4.1 x l y2
        have K : HSM R u32 := ⟨fun x y1 y2 => funext fun l => Nn x l (by omega) (by omega) (by omega), Nn 160 141 (by omega) (by omega) (by omega), Nn 160 142 (by omega) (by omega) (by omega)⟩
        exact end_h hn X ps V32 (fun x l y1 y2 y3 y4 => Nn x l (by omega) y3 y4) g2 g4 ⟨hsm_x K, hpo_s K H⟩ (cv_x (hsm_x K) cvv) nt hb
    · have y190 : op = 190 := Decidable.not_not.1 y190
      obtain ⟨n0, tt, ps⟩ := h190 y190
      have cv := X.tp (y := 0) (by omega) (by omega)
      rw [n0] at q4 Q4
      rw [← q4] at cv
      have ob := cv_ref (by omega) cv o0
      refine ok_rd (by omega) (gA_248 V4) ?_; intro v35 e35 b1 b2
      unfold qj_X13_fieldOf_147
      exact end_give hn X ps V4 Q4 ⟨by omega, by omega⟩ cv_i nt hb
  unfold qf_X13_fieldOf
  have conv : ∀ u b j : Int, MRF nn (T a) ω c (ω c) o 0 u b j → MRF nn g ω c (ω c) o 0 u b j := fun u b j m => mrf_c At m
  rcases ho with q | q | q
  · rw [if_pos (show ¬ op = 181 by omega)]
    obtain ⟨u, bb, j, ty, m1, m2, m3, m4⟩ := wnx_20 W q
    have ln := m4.2.2.1
    have mg := conv _ _ _ m1
    exact B 0 0 R V P0 (by omega) (fun z => by exfalso; omega) (fun _ => ⟨u, bb, j, ty, mg, tku_c (agd_c At) m2, rtp_go hn X (by omega) (by omega) m3 ⟨by have := mg.2.1.1; omega, by have := mg.2.1.1; omega⟩, .inl ⟨q, rfl, m4⟩⟩)
  · rw [if_neg (show ¬ ¬ op = 181 by omega), sv]
    obtain ⟨u, bb, j, ty, m1, m2, m3, m4, m5⟩ := wnx_21 W q
    have ln := m5.2.2
    have mg := conv _ _ _ m1
    refine ok_sv (g_drop V P0 hd hi (by omega) (by omega)) ?_; intro u43 P43
    have bq := gA_255 V (60 * i + 30 + (R 254 i.toNat - 1 - 0)).toNat (by omega)
    have tkg := tku_c (agd_c At) m2
    have cvq := rtp_go hn X (y := 0) (by omega) (by omega) m3 (ktv_rg Vg tkg.2)
    rw [← P43.2.2] at bq cvq
    have := B 1 u43.1 u43.2 P43.1 P43.2.1 (by omega) (fun z => by exfalso; omega) (fun _ => ⟨u, bb, j, ty, mg, tkg, rtp_go hn X (by omega) (by omega) m4 ⟨by have := mg.2.1.1; omega, by have := mg.2.1.1; omega⟩, .inr ⟨by omega, rfl, m5, bq, cvq⟩⟩)
    rw [sv] at this
    exact this
  · rw [if_pos (show ¬ op = 181 by omega)]
    obtain ⟨m1, m2⟩ := wnx_26 W q
    have ln := m2.2.2.1
    exact B 0 0 R V P0 (by omega) (fun _ => ⟨rfl, m1, m2⟩) (fun z => absurd q z)
/-- a new object comes to the stack -/
theorem end_new (hn : 1000000 ≤ nn) (X : RTP nn g ω R i c k N T U t a p) {n y m ty : Int} (PS : PS1 (T a) n ty (U a)) (V : VS_ r) (P : RPO R i n r) (hy : (y < 99 ∧ (0 ≤ y ∧ y < 8 + g 160 98) ∧ FO nn g y m) ∨ y = 99 ∨ (100 ≤ y ∧ y - 100 < 8 + g 160 98)) (hm : 0 ≤ m ∧ m ≤ 2147483647) (ht : (ty = 3 ∧ y = 99) ∨ (y < 99 ∧ ty = 4 + 2 * y) ∨ (100 ≤ y ∧ ty = 5 + 2 * (y - 100))) (nt : ¬ (ω c 238 (p 160 134 + bp (ω c) (p 160 134) a).toNat = 167 ∨ ω c 238 (p 160 134 + bp (ω c) (p 160 134) a).toNat = 172 ∨ ω c 238 (p 160 134 + bp (ω c) (p 160 134) a).toNat = 176 ∨ ω c 238 (p 160 134 + bp (ω c) (p 160 134) a).toNat = 177 ∨ ω c 238 (p 160 134 + bp (ω c) (p 160 134) a).toNat = 191)) (hb : (2 : Int) = WD (ω c 238 (p 160 134 + bp (ω c) (p 160 134) a).toNat)) : Ok_ (mx_sv (qf_X13_make_ nn y m r) fun u13 => qj_X13_fresh__89 nn u13.1 u13.2) (SQ nn g ω R) := by
  have hi := X.hi
  have s := X.s
  obtain ⟨⟨k1, k2, k3⟩, k4, k5⟩ := rpo_k hi.1 P
  have e2 := P.2.1
  refine ok_sv (g_make hn (rx_k k1 V X.rx) (hpo_s k2 X.hp) hy hm) ?_; intro u13 P13
  obtain ⟨V13, P13⟩ := P13
  unfold qj_X13_fresh__89
  rcases P13 with ⟨p1, p2, p3⟩ | ⟨⟨p1, p2, p3, p3'⟩, p4, ⟨p5, p6⟩, p7⟩
  · rw [if_neg (show ¬ ¬ u13.1 = 0 by omega)]
    exact ok_ret ⟨V13, fun x j q1 q2 => by rw [p2 x j (by omega)]; exact k1 x j q1 q2, fun q => by rw [p3] at q; exact absurd q (by decide)⟩
  · rw [if_pos (show ¬ u13.1 = 0 by omega)]
    have s13 : u13.2 254 i.toNat = R 254 i.toNat - n := by rw [p7 254 _ (by omega) (by omega)]; exact e2
    have q4 := PS.2.2
    refine ok_sv (g_give V13 (rpo_rf V13 hi) (by rw [p7 160 149 (by omega) (by omega), k4]; exact X.hd) hi (by rw [s13]; omega) (by omega)) ?_; intro u2 P2
    obtain ⟨V2, g1, g2, _, g4⟩ := P2
    rw [s13] at g1 g2 g4
    rw [show R 254 i.toNat - n - 0 = R 254 i.toNat - n by omega] at g1 g2 g4
    have K : HSM u13.2 u2 := ⟨fun x y1 y2 => funext fun l => g1 x l (by omega) (by omega), g1 160 141 (by omega) (by omega), g1 160 142 (by omega) (by omega)⟩
    have hx : HX R u2 := hx_tr (hsm_x k2) (hx_tr p5 (hsm_x K))
    refine end_h hn X PS V2 (fun x l y1 y2 y3 y4 => ?_) g2 g4 ⟨hx, hpo_s K p6⟩ ?_ nt hb
    · rw [g1 x l y3 y4, p7 x l y1 (by omega)]; exact P.1 x l y3
    · have e246 : u2 246 u13.1.toNat = y := by rw [K.1 246 (by decide) (by decide)]; exact p4
      have e141 : u2 160 141 = R 160 141 + 1 := by rw [K.2.1, p2, k2.2.1]
      refine .inr (.inr (.inr ⟨by rw [e141, p1, k2.2.1]; have := (gF_160_141 X.vs).1; omega, ?_⟩))
      rw [e246]
      rcases ht with z | z | z
      · exact .inl z
      · refine .inr (.inl ⟨y, by omega, z.2, .inr ⟨z.1, und_rf (by omega)⟩⟩)
      · exact .inr (.inr ⟨y - 100, by omega, z.2, z.1, und_rf (by omega)⟩)
theorem st_fresh (hn : 1000000 ≤ nn) (X : RTP nn g ω R i c k N T U t a p) {op o : Int} (eo : op = ω c 238 (p 160 134 + bp (ω c) (p 160 134) a).toNat) (W : WN nn (T a) ω c (ω c) t op o (U a)) (ho : op = 187 ∨ op = 188 ∨ op = 189) : Ok_ (mx_sv (qf_X13_fresh_ nn op o R) fun u19 => some u19) (SQ nn g ω R) := by
  have V := X.vs
  have hi := X.hi
  have hd := X.hd
  have s := X.s
  have XV := X.rx.1
  have XV0 := XV
  obtain ⟨⟨Vg, Sg⟩, O, CA, _⟩ := XV
  have g98 := gF_160_98 Vg
  have ck := X.ck
  have e1 := X.e1
  have P0 := rpo_rf V hi
  have At := X.at
  have nt : ¬ (ω c 238 (p 160 134 + bp (ω c) (p 160 134) a).toNat = 167 ∨ ω c 238 (p 160 134 + bp (ω c) (p 160 134) a).toNat = 172 ∨ ω c 238 (p 160 134 + bp (ω c) (p 160 134) a).toNat = 176 ∨ ω c 238 (p 160 134 + bp (ω c) (p 160 134) a).toNat = 177 ∨ ω c 238 (p 160 134 + bp (ω c) (p 160 134) a).toNat = 191) := by rw [← eo]; omega
  have hb : (2 : Int) = WD (ω c 238 (p 160 134 + bp (ω c) (p 160 134) a).toNat) := by
    rw [← eo]
    rcases ho with q | q | q <;> rw [q] <;> decide
  have sv : ∀ y : Option ms_M, (mx_sv y fun u => some u) = y := fun y => by cases y <;> rfl
  rw [sv]
  unfold qf_X13_fresh_
  rcases ho with q | q | q
  · obtain ⟨u, ⟨ub, cl, ct⟩, ps⟩ := wnx_23 W q
    rw [if_neg (show ¬ ¬ op = 187 by omega)]
    unfold qj_X13_fresh__15 qj_X13_fresh__43
    rw [if_pos (by decide), if_pos (show ¬ op = 188 by omega)]
    refine ok_sv (g_classIn X.rx hd hi ck.1 e1.1 cl (ctv_c (agd_c At) ct)) ?_; intro u16 P16
    rw [P16, if_neg (show ¬ ¬ op = 187 by omega)]
    have ub' : 0 ≤ u ∧ u < 8 + g 160 98 := by rw [At.2.1]; exact ub
    refine ok_sv (rt_fields hn XV0 X.rx.2.1 V (k := u) (by omega)) ?_; intro u11 P11
    exact end_new hn X ps V P0 (.inl ⟨by omega, ub', P11.1⟩) (by have := P11.2; omega) (.inr (.inl ⟨by omega, rfl⟩)) nt hb
  · obtain ⟨i0, ps⟩ := wnx_24 W q
    have ln := ps.2.2.1
    rw [if_pos (show ¬ op = 187 by omega)]
    refine ok_sv (g_drop V P0 hd hi (by omega) (by omega)) ?_; intro u22 P22
    obtain ⟨V2, Q2, q2⟩ := P22
    rw [show (0 : Int) + 1 = 1 by omega] at Q2
    have bq := gA_255 V (60 * i + 30 + (R 254 i.toNat - 1 - 0)).toNat (by omega)
    rw [← q2] at bq
    unfold qj_X13_fresh__15 qj_X13_fresh__43 qj_X13_fresh__85
    refine ok_if (fun n0 => ?_) (fun _ => end_fails hn X V2 Q2 (by decide))
    rw [if_neg (show ¬ ¬ op = 188 by omega), if_pos (show ¬ op = 187 by omega), if_neg (show ¬ ¬ op = 188 by omega)]
    exact end_new hn X ps V2 Q2 (.inr (.inl rfl)) (by omega) (.inl ⟨rfl, rfl⟩) nt hb
  · obtain ⟨i0, u, ⟨ub, cl, ct⟩, ps⟩ := wnx_25 W q
    have ln := ps.2.2.1
    rw [if_pos (show ¬ op = 187 by omega)]
    refine ok_sv (g_drop V P0 hd hi (by omega) (by omega)) ?_; intro u22 P22
    obtain ⟨V2, Q2, q2⟩ := P22
    rw [show (0 : Int) + 1 = 1 by omega] at Q2
    have bq := gA_255 V (60 * i + 30 + (R 254 i.toNat - 1 - 0)).toNat (by omega)
    rw [← q2] at bq
    obtain ⟨⟨k1, k2, k3⟩, k4, k5⟩ := rpo_k hi.1 Q2
    unfold qj_X13_fresh__15 qj_X13_fresh__43 qj_X13_fresh__85
    refine ok_if (fun n0 => ?_) (fun _ => end_fails hn X V2 Q2 (by decide))
    rw [if_pos (show ¬ op = 188 by omega)]
    refine ok_sv (g_classIn (rx_k k1 V2 X.rx) (by rw [k4]; exact hd) hi ck.1 (by rw [k5.1]; exact e1.1) cl (ctv_c (agd_c At) ct)) ?_; intro u16 P16
    have ub' : 0 ≤ u ∧ u < 8 + g 160 98 := by rw [At.2.1]; exact ub
    rw [P16, if_pos (show ¬ op = 187 by omega), if_pos (show ¬ op = 188 by omega)]
    refine ok_add (by omega) ?_; intro v8 e8
    exact end_new hn X ps V2 Q2 (.inr (.inr (by omega))) (by omega) (.inr (.inr ⟨by omega, by omega⟩)) nt hb
/-- casts and questions -/
theorem st_is (hn : 1000000 ≤ nn) (X : RTP nn g ω R i c k N T U t a p) {op o : Int} (eo : op = ω c 238 (p 160 134 + bp (ω c) (p 160 134) a).toNat) (W : WN nn (T a) ω c (ω c) t op o (U a)) (ho : op = 192 ∨ op = 193) {b : Int} (hb : b = WD (ω c 238 (p 160 134 + bp (ω c) (p 160 134) a).toNat)) : Ok_ (qj_X13_step_1111 nn op b o R) (SQ nn g ω R) := by
  have V := X.vs
  have hi := X.hi
  have hd := X.hd
  have s := X.s
  have H := X.hp
  have XV := X.rx.1
  have XV0 := XV
  obtain ⟨⟨Vg, Sg⟩, O, CA, _⟩ := XV
  have g98 := gF_160_98 Vg
  have g141 := gF_160_141 V
  have ck := X.ck
  have e1 := X.e1
  have P0 := rpo_rf V hi
  have At := X.at
  have nt : ¬ (ω c 238 (p 160 134 + bp (ω c) (p 160 134) a).toNat = 167 ∨ ω c 238 (p 160 134 + bp (ω c) (p 160 134) a).toNat = 172 ∨ ω c 238 (p 160 134 + bp (ω c) (p 160 134) a).toNat = 176 ∨ ω c 238 (p 160 134 + bp (ω c) (p 160 134) a).toNat = 177 ∨ ω c 238 (p 160 134 + bp (ω c) (p 160 134) a).toNat = 191) := by rw [← eo]; omega
  obtain ⟨t2, u, ub, cl, ct, ln, ps⟩ : 2 ≤ tp (T a) 0 ∧ ∃ u : Int, (0 ≤ u ∧ u < 8 + (T a) 160 98) ∧ CL (ω c) c o ∧ CTv nn (T a) c (ω c) o (4 + 2 * u) ∧ 1 ≤ R 254 i.toNat ∧ ((op = 192 ∧ PS1 (T a) 1 (4 + 2 * u) (U a)) ∨ (op = 193 ∧ PS1 (T a) 1 1 (U a))) := by
    rcases ho with q | q
    · obtain ⟨a1, u, ⟨a2, a3, a4⟩, a5⟩ := wnx_28 W q
      exact ⟨a1, u, a2, a3, a4, by have := a5.2.2.1; omega, .inl ⟨q, a5⟩⟩
    · obtain ⟨a1, u, ⟨a2, a3, a4⟩, a5⟩ := wnx_29 W q
      exact ⟨a1, u, a2, a3, a4, by have := a5.2.2.1; omega, .inr ⟨q, a5⟩⟩
  have ub' : 0 ≤ u ∧ u < 8 + g 160 98 := by rw [At.2.1]; exact ub
  unfold qj_X13_step_1111 qf_X13_is qj_X13_step_1150
  obtain ⟨u14, E14, V14, Q14, q14⟩ := g_drop (nn := nn) V P0 hd hi (by omega) (by omega)
  rw [E14, mx_svs]
  rw [show (0 : Int) + 1 = 1 by omega] at Q14
  have cv := X.tp (y := 0) (by omega) (by omega)
  have bq := gA_255 V (60 * i + 30 + (R 254 i.toNat - 1 - 0)).toNat (by omega)
  rw [← q14] at cv bq
  obtain ⟨⟨k1, k2, k3⟩, k4, k5⟩ := rpo_k hi.1 Q14
  have fin : ∀ s0 : Int, (¬ u14.1 = 0 → (¬ s0 = 0 → CVt nn g R (4 + 2 * u) u14.1)) → Ok_ (mx_sv (qj_X13_is_27 nn op u14.1 s0 u14.2) fun u16 => if ¬ u16.1 = 0 then (mx_sv (qf_X13_on nn b u16.2) fun u2 => some u2) else (some u16.2)) (SQ nn g ω R) := fun s0 hs => by
    unfold qj_X13_is_27 qj_X13_is_68
    rcases ps with ⟨q, ps⟩ | ⟨q, ps⟩
    · rw [if_pos (show ¬ op = 193 by omega)]
      have gv : CVt nn g R (4 + 2 * u) u14.1 → Ok_ (mx_sv (mx_sv (qf_X13_give nn u14.1 u14.2) fun u2 => some ((1 : Int), u2)) fun u16 => if ¬ u16.1 = 0 then (mx_sv (qf_X13_on nn b u16.2) fun u2 => some u2) else (some u16.2)) (SQ nn g ω R) := fun cvv => by
        have q4 := ps.2.2.2.1
        obtain ⟨y, ey, Vy, Py⟩ := g_give (nn := nn) V14 Q14 hd hi (y := u14.1) (by omega) bq
        rw [ey, mx_svs, mx_svs, if_pos (show ¬ (1 : Int) = 0 by decide)]
        exact end_ps hn X ps Vy Py cvv nt hb
      by_cases z : u14.1 = 0
      · rw [if_pos z]
        exact gv (by rw [z]; exact cv_0)
      · rw [if_neg z]
        by_cases z2 : s0 = 0
        · rw [if_neg (fun q => q z2)]
          obtain ⟨y, ey, Py⟩ := end_fails hn X V14 Q14 (o := 5) (by decide)
          have sv : ∀ y : Option ms_M, (mx_sv y fun u => some u) = y := fun y => by cases y <;> rfl
          rw [sv] at ey
          rw [ey, mx_svs, mx_svs, if_neg (show ¬ ¬ (0 : Int) = 0 by decide)]
          exact ok_ret Py
        · rw [if_pos z2]
          exact gv (hs z z2)
    · rw [if_neg (show ¬ ¬ op = 193 by omega)]
      have q4 := ps.2.2.2.1
      by_cases z2 : s0 = 0
      · rw [if_pos z2]
        obtain ⟨y, ey, Vy, Py⟩ := g_give (nn := nn) V14 Q14 hd hi (y := 0) (by omega) (by omega)
        rw [ey, mx_svs, mx_svs, if_pos (show ¬ (1 : Int) = 0 by decide)]
        exact end_ps hn X ps Vy Py cv_i nt hb
      · rw [if_neg z2]
        obtain ⟨y, ey, Vy, Py⟩ := g_give (nn := nn) V14 Q14 hd hi (y := 1) (by omega) (by omega)
        rw [ey, mx_svs, mx_svs, if_pos (show ¬ (1 : Int) = 0 by decide)]
        exact end_ps hn X ps Vy Py cv_i nt hb
  by_cases z : u14.1 = 0
  · rw [if_pos z]
    exact fin 0 (fun y => absurd z y)
  · rw [if_neg z]
    obtain ⟨y16, e16, p16⟩ := g_classIn (rx_k k1 V14 X.rx) (by rw [k4]; exact hd) hi ck.1 (by rw [k5.1]; exact e1.1) cl (ctv_c (agd_c At) ct)
    rw [e16, mx_svs, p16]
    have ob := cv_ref t2 cv z
    have e246 : u14.2 246 u14.1.toNat = R 246 u14.1.toNat := Q14.1 246 _ (by omega)
    obtain ⟨y18, e18, p18⟩ := rt_isOne hn XV0 (rx_k k1 V14 X.rx).2.1 V14 (o := u14.1) (t := u) (by omega) (by
      rw [e246]
      intro y
      rcases (H.1 u14.1 ob.1 ob.2).2 with z1 | z1 | z1
      · exact z1.2.1
      · exfalso; omega
      · exfalso; omega) (by omega)
    rw [e246] at p18
    rw [e18, mx_svs]
    by_cases y0 : y18 = 0
    · rw [if_pos y0]
      exact fin 0 (fun _ y => absurd rfl y)
    · rw [if_neg y0]
      refine fin 1 (fun _ _ => .inr (.inr (.inr ⟨ob, .inr (.inl ⟨u, ub.1, rfl, ?_⟩)⟩)))
      rcases p18 with q | q
      · exact q.2
      · exact absurd q.1 y0
end

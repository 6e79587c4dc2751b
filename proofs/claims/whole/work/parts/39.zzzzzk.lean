section
section
variable {nn : Nat} {h g r z w v x f R p : ms_M} {c d e k : Int} {ω : Int → ms_M} {N : Nat} {T U : Nat → ms_M} {i t : Int} {a : Nat}
theorem tku_det {y u s : Int} (A : TKU nn h c w y u) (B : TKU nn h c w y s) : u = s := ktv_det A.2 B.2
theorem tku_c {y u : Int} (A : AGc h g) (K : TKU nn h c w y u) : TKU nn g c w y u := ⟨K.1, ktv_c A K.2⟩
theorem tkv_c {y m q u : Int} {L : Int → Int} (A : AGc h g) (K : TKV nn h c w y m L q u) : TKV nn g c w y m L q u := mkv_c A K
/-- the space as instruction a's check saw it -/
theorem RTP.at (X : RTP nn g ω R i c k N T U t a p) : AGd (T a) g := agd_sy (agd_tr X.ag (nfl_agd X.nd.1.1))
/-- a value that goes -/
theorem rtp_go (hn : 1000000 ≤ nn) (X : RTP nn g ω R i c k N T U t a p) {y ty : Int} (y0 : 0 ≤ y) (y1 : y < R 254 i.toNat) (G : GOt nn (T a) (tp (T a) y) ty) (gt : GTs g ty) : CVt nn g R ty (R 255 (60 * i + 30 + (R 254 i.toNat - 1 - y)).toNat) := by
  have s := X.s
  exact cv_goes hn X.rx.1 (gts_c X.at (X.nd.1.2.2.2 (T a 160 131 - 1 - y) (by omega) (by omega))) gt (got_c X.at G) (X.tp y0 y1)
/-- fields, and how long a row is -/
theorem st_field (hn : 1000000 ≤ nn) (X : RTP nn g ω R i c k N T U t a p) {op o : Int} (eo : op = ω c 238 (p 160 134 + bp (ω c) (p 160 134) a).toNat) (W : WN nn (T a) ω c (ω c) t op o (U a)) (ho : op = 180 ∨ op = 181 ∨ op = 190) {b : Int} (hb : b = WD (ω c 238 (p 160 134 + bp (ω c) (p 160 134) a).toNat)) : Ok_ (mx_sv (qf_X13_fieldOf nn op o b R) fun u26 => some u26) (SQ nn g ω R) := by
  have V := X.vs
  have hi := X.hi
  have hd := X.hd
  have s := X.s
  have H := X.hp
  have XV := X.rx.1
  have XV0 := XV
  obtain ⟨⟨Vg, Sg⟩, O, CA, _⟩ := XV
  have g98 := gF_160_98 Vg
  have g141 := gF_160_141 V
  have g142 := gF_160_142 V
  have ck := X.ck
  have e1 := X.e1
  have hc7 : 0 ≤ c ∧ c ≤ 7 := by omega
  have P0 := rpo_rf V hi
  have At := X.at
  have nt : ¬ (ω c 238 (p 160 134 + bp (ω c) (p 160 134) a).toNat = 167 ∨ ω c 238 (p 160 134 + bp (ω c) (p 160 134) a).toNat = 172 ∨ ω c 238 (p 160 134 + bp (ω c) (p 160 134) a).toNat = 176 ∨ ω c 238 (p 160 134 + bp (ω c) (p 160 134) a).toNat = 177 ∨ ω c 238 (p 160 134 + bp (ω c) (p 160 134) a).toNat = 191) := by rw [← eo]; omega
  have sv : ∀ y : Option ms_M, (mx_sv y fun u => some u) = y := fun y => by cases y <;> rfl
  have B : ∀ (n q : Int) (r : ms_M), VS_ r → RPO R i n r → (0 ≤ n ∧ n + 1 ≤ R 254 i.toNat) → (op = 190 → n = 0 ∧ (tp (T a) 0 = 2 ∨ tp (T a) 0 = 3 ∨ (4 ≤ tp (T a) 0 ∧ tp (T a) 0 % 2 = 1)) ∧ PS1 (T a) 1 1 (U a)) → (¬ op = 190 → ∃ u b j ty : Int, MRF nn g ω c (ω c) o 0 u b j ∧ TKU nn g c (ω c) (ω c 238 (pl (ω c) c o + 1 + 2).toNat) ty ∧ CVt nn g R (4 + 2 * u) (R 255 (60 * i + 30 + (R 254 i.toNat - 1 - n)).toNat) ∧ ((op = 180 ∧ n = 0 ∧ PS1 (T a) 1 ty (U a)) ∨ (¬ op = 180 ∧ n = 1 ∧ POP (T a) 2 (U a) ∧ (-2147483648 ≤ q ∧ q ≤ 2147483647) ∧ CVt nn g R ty q))) → Ok_ (mx_sv (qj_X13_fieldOf_15 nn op o b q r) fun u26 => some u26) (SQ nn g ω R) := fun n q r Vr P hn1 h190 hm => by
    rw [sv]
    unfold qj_X13_fieldOf_15
    refine ok_sv (g_drop Vr P hd hi (by omega) (by omega)) ?_; intro u4 P4
    obtain ⟨V4, Q4, q4⟩ := P4
    obtain ⟨⟨k1, k2, k3⟩, k4, k5⟩ := rpo_k hi.1 Q4
    have hx0 : ∀ x j : Nat, x ≤ 253 → u4.2 x j = R x j := fun x j q => Q4.1 x j (by omega)
    have X4 := rx_k k1 V4 X.rx
    have e4 := Q4.2.1
    refine ok_if (fun o0 => ?_) (fun _ => end_fails hn X V4 Q4 (by decide))
    refine ok_if (fun n190 => ?_) (fun y190 => ?_)
    · obtain ⟨u, bb, j, ty, mr, tk, cv, rest⟩ := hm n190
      rw [← q4] at cv
      obtain ⟨st4, ⟨ub, ct⟩, hs, hbb, hj, eqt⟩ := mr
      have Wg := O c ck.1.1 ck.1.2
      have ckk := (Wg.2.1.2.2 o st4.1.1 st4.1.2).2 st4.2
      have cl : CL (ω c) c (ω c 238 (pl (ω c) c o + 1 + 0).toNat) := by rw [show pl (ω c) c o + 1 + 0 = pl (ω c) c o + 1 by omega]; exact ckk.1
      have tx : TX (ω c) c (ω c 238 (pl (ω c) c o + 1 + 1).toNat) := by rw [show pl (ω c) c o + 1 + 1 = pl (ω c) c o + 2 by omega]; exact ckk.2.1.1
      have d4 : u4.2 160 149 = i + 1 := by rw [k4]; exact hd
      have e251 : u4.2 251 i.toNat = 8 + c := by rw [k5.1]; exact e1.1
      refine ok_sv (g_part X4 d4 hi ck.1 e251 st4 (by decide)) ?_; intro u6 P6
      rw [P6.1]
      refine ok_sv (g_classIn X4 d4 hi ck.1 e251 cl ct) ?_; intro u8 P8
      rw [P8, d4]
      refine ok_sub (by omega) ?_; intro v11 e11
      rw [show v11 = i by omega]
      refine ok_rd (by omega) (gA_251 V4) ?_; intro v12 e12 _ _
      refine ok_sub (by omega) ?_; intro v13 e13
      rw [show v13 = c by omega]
      refine ok_sv (g_part X4 d4 hi ck.1 e251 st4 (by decide)) ?_; intro u15 P15
      rw [P15.1]
      have W4 := wi_e X4.2.1 ck.1 Wg
      refine ok_sv (rt_holder hn V4 X4.2.2.2 (om_e X4.2.1 O) hc7 W4 (f := u) (s := 0) (by rw [X4.2.1.1]; omega) tx) ?_; intro u17 P17
      obtain ⟨j2, hs2, P17⟩ := P17
      have hs3 := hsn_e hn XV0 X4.2.1 V4 _ _ _ _ (by omega) hs2
      obtain ⟨eb, ej⟩ := hsn_det _ _ _ _ _ _ hs hs3
      have ej := ej (by omega)
      have p17 : u17.2 = up_M u4.2 160 121 j2 := by
        rcases P17 with z | z
        · exfalso; omega
        · exact z.2.2
      have j12 : j < 12 := (wi_fd (O (bb - 8) (by omega) (by omega)) (by omega) hj).1
      have V17 : VS_ u17.2 := by rw [p17]; exact wF_160_121 V4 (by omega)
      have N17 : ∀ x y : Nat, ¬ (x = 160 ∧ y = 121) → u17.2 x y = u4.2 x y := fun x y z => by rw [p17, up_n z]
      have f121 : u17.2 160 121 = j := by rw [p17, up_s]; omega
      have F17 : RFr u4.2 u17.2 := fun x y z1 z2 => N17 x y (by omega)
      have X17 := rx_k F17 V17 X4
      -- the object
      have un : (1 ≤ u4.1 ∧ u4.1 ≤ R 160 141) ∧ R 246 u4.1.toNat < 99 ∧ UNd nn g (R 246 u4.1.toNat) u := by
        rcases cv with z | z | z | ⟨z0, z⟩
        · exfalso; omega
        · exfalso; omega
        · exact absurd z o0
        · refine ⟨z0, ?_⟩
          rcases z with z | ⟨y, y0, z1, z2⟩ | ⟨y, y0, z1, z2⟩
          · exfalso; omega
          · rw [show y = u by omega] at z2
            rcases z2 with z2 | z2
            · exfalso
              obtain ⟨m, up⟩ := hsn_up _ _ _ _ hs (by omega)
              rw [z2.2] at up
              have := und_0 ⟨show ¬ bb = -1 by omega, m, up⟩
              omega
            · exact z2
          · exfalso; omega
      obtain ⟨ob, so, un⟩ := un
      obtain ⟨m, up⟩ := hsn_up _ _ _ _ hs (by omega)
      have unb : UNd nn g (R 246 u4.1.toNat) bb := und_tr un ⟨by omega, m, up⟩
      obtain ⟨o1, o2⟩ := H.1 u4.1 ob.1 ob.2
      obtain ⟨w1, w2, w3⟩ : (0 ≤ R 246 u4.1.toNat ∧ R 246 u4.1.toNat < 8 + g 160 98) ∧ FO nn g (R 246 u4.1.toNat) (R 248 u4.1.toNat) ∧ FLV nn g ω R u4.1 := by
        rcases o2 with z | z | z
        · exact z.2
        · exfalso; omega
        · exfalso; omega
      refine ok_rd (by omega) (gA_247 V17) ?_; intro v19 e19 _ _
      rw [N17 247 _ (by omega), hx0 247 _ (by omega)] at e19
      rw [← eb]
      obtain ⟨sy, esy, psy⟩ := su_rg hn Vg Sg (k := bb) (by omega)
      rw [ce_super Vg V17 O X17.2.1 (by omega), esy, mx_svs]
      refine ok_sv (rt_fields hn XV0 X17.2.1 V17 psy) ?_; intro u23 P23
      have rg := flv_rg hn XV0 w1 unb w2 hbb hj esy P23.1
      refine ok_add (by omega) ?_; intro v24 e24
      rw [f121]
      refine ok_add (by omega) ?_; intro v26 e26
      obtain ⟨tyy, tk1, tk2, _⟩ := mrf_u Vg O CA hc7 Wg ⟨st4, ⟨ub, ct⟩, hs, hbb, hj, eqt⟩
      have ety := tku_det tk2 tk
      rw [ety] at tk1
      have e17 : ∀ x y : Nat, x ≤ 253 → ¬ (x = 160 ∧ y = 121) → u17.2 x y = R x y := fun x y z1 z2 => by rw [N17 x y z2]; exact hx0 x y z1
      unfold qj_X13_fieldOf_147
      refine ok_if (fun n180 => ?_) (fun y180 => ?_)
      · obtain ⟨_, n1, po, qb, cq⟩ : ¬ op = 180 ∧ n = 1 ∧ POP (T a) 2 (U a) ∧ (-2147483648 ≤ q ∧ q ≤ 2147483647) ∧ CVt nn g R ty q := by
          rcases rest with z | z
          · exact absurd z.1 n180
          · exact z
        refine ok_wA (by omega) ?_; intro h28 E28
        have V28 : VS_ h28 := by rw [E28]; exact wA_249 V17 qb
        rw [show v26.toNat = (R 247 u4.1.toNat + (u23 + j)).toNat by omega] at E28
        have HH := hpo_w hn XV0 H (r := h28) (y := u23 + j) (u := q) ob (by omega) (fun x l y1 y2 y3 y4 => by
          rw [E28, up_n (by omega)]
          exact e17 x l (by omega) (fun z => by have := y2 z.1; omega)) (by rw [E28, up_s]) (fun z => by exfalso; omega) (fun _ a' j' s' t' q' z1 z2 z3 z4 z5 z6 z7 => by
            obtain ⟨ea, ej'⟩ := flv_inj hn XV0 w1 w2 z1 unb z2 hbb z3 hj z4 esy z5 P23.1 z7
            rw [ea, ej'] at z6
            rw [tku_det z6 tk1]
            exact cq)
        refine end_hp hn X po V28 (fun x l y1 y2 y3 => ?_) ?_ HH nt hb
        · rw [E28, up_n (by omega), N17 x l (by omega)]; exact Q4.1 x l (by omega)
        · rw [E28, up_n (by omega), N17 254 _ (by omega), e4]; omega
      · obtain ⟨_, n0, ps⟩ : op = 180 ∧ n = 0 ∧ PS1 (T a) 1 ty (U a) := by
          rcases rest with z | z
          · exact z
          · exact absurd z.1 y180
        refine ok_rd (by omega) (gA_249 V17) ?_; intro v30 e30 b1 b2
        rw [e17 249 _ (by omega) (by omega), e26, e24, e19] at e30
        have cvv := w3 bb j u23 ty sy unb hbb hj esy P23.1 tk1
        rw [← e30] at cvv
        have s17 : u17.2 254 i.toNat = R 254 i.toNat - 1 := by rw [N17 254 _ (by omega), e4]; omega
        have q1 := ps.2.2.2.1
        refine ok_sv (g_give V17 (rpo_rf V17 hi) (by rw [N17 160 149 (by omega)]; exact d4) hi (by rw [s17]; omega) ⟨b1, b2⟩) ?_; intro u32 P32
        obtain ⟨V32, g1, g2, _, g4⟩ := P32
        rw [s17] at g1 g2 g4
        rw [show R 254 i.toNat - 1 - 0 = R 254 i.toNat - 1 by omega] at g1 g2 g4
        have Nn : ∀ x l : Nat, ¬ (x = 160 ∧ l = 121) → ¬ (x = 254 ∧ l = i.toNat) → ¬ (x = 255 ∧ l = (60 * i + 30 + (R 254 i.toNat - 1)).toNat) → u32 x l = R x l := fun x l y1 y2 y3 => by rw [g1 x l y2 y3, N17 x l y1]; exact Q4.1 x l y2
        have K : HSM R u32 := ⟨fun x y1 y2 => funext fun l => Nn x l (by omega) (by omega) (by omega), Nn 160 141 (by omega) (by omega) (by omega), Nn 160 142 (by omega) (by omega) (by omega)⟩
        exact end_h hn X ps V32 (fun x l y1 y2 y3 y4 => Nn x l (by omega) y3 y4) g2 g4 ⟨hsm_x K, hpo_s K H⟩ (cv_x (hsm_x K) cvv) nt hb
    · have y190 : op = 190 := Decidable.not_not.1 y190
      obtain ⟨n0, tt, ps⟩ := h190 y190
      have cv := X.tp (y := 0) (by omega) (by omega)
      rw [n0] at q4 Q4
      rw [← q4] at cv
      have ob := cv_ref (by omega) cv o0
      refine ok_rd (by omega) (gA_248 V4) ?_; intro v35 e35 b1 b2
      unfold qj_X13_fieldOf_147
      exact end_give hn X ps V4 Q4 ⟨by omega, by omega⟩ cv_i nt hb
  unfold qf_X13_fieldOf
  have conv : ∀ u b j : Int, MRF nn (T a) ω c (ω c) o 0 u b j → MRF nn g ω c (ω c) o 0 u b j := fun u b j m => mrf_c At m
  rcases ho with q | q | q
  · rw [if_pos (show ¬ op = 181 by omega)]
    obtain ⟨u, bb, j, ty, m1, m2, m3, m4⟩ := wnx_20 W q
    have ln := m4.2.2.1
    have mg := conv _ _ _ m1
    exact B 0 0 R V P0 (by omega) (fun z => by exfalso; omega) (fun _ => ⟨u, bb, j, ty, mg, tku_c (agd_c At) m2, rtp_go hn X (by omega) (by omega) m3 ⟨by have := mg.2.1.1; omega, by have := mg.2.1.1; omega⟩, .inl ⟨q, rfl, m4⟩⟩)
  · rw [if_neg (show ¬ ¬ op = 181 by omega), sv]
    obtain ⟨u, bb, j, ty, m1, m2, m3, m4, m5⟩ := wnx_21 W q
    have ln := m5.2.2
    have mg := conv _ _ _ m1
    refine ok_sv (g_drop V P0 hd hi (by omega) (by omega)) ?_; intro u43 P43
    have bq := gA_255 V (60 * i + 30 + (R 254 i.toNat - 1 - 0)).toNat (by omega)
    have tkg := tku_c (agd_c At) m2
    have cvq := rtp_go hn X (y := 0) (by omega) (by omega) m3 (ktv_rg Vg tkg.2)
    rw [← P43.2.2] at bq cvq
    have := B 1 u43.1 u43.2 P43.1 P43.2.1 (by omega) (fun z => by exfalso; omega) (fun _ => ⟨u, bb, j, ty, mg, tkg, rtp_go hn X (by omega) (by omega) m4 ⟨by have := mg.2.1.1; omega, by have := mg.2.1.1; omega⟩, .inr ⟨by omega, rfl, m5, bq, cvq⟩⟩)
    rw [sv] at this
    exact this
  · rw [if_pos (show ¬ op = 181 by omega)]
    obtain ⟨m1, m2⟩ := wnx_26 W q
    have ln := m2.2.2.1
    exact B 0 0 R V P0 (by omega) (fun _ => ⟨rfl, m1, m2⟩) (fun z => absurd q z)
/-- a new object comes to the stack -/
theorem end_new (hn : 1000000 ≤ nn) (X : RTP nn g ω R i c k N T U t a p) {n y m ty : Int} (PS : PS1 (T a) n ty (U a)) (V : VS_ r) (P : RPO R i n r) (hy : (y < 99 ∧ (0 ≤ y ∧ y < 8 + g 160 98) ∧ FO nn g y m) ∨ y = 99 ∨ (100 ≤ y ∧ y - 100 < 8 + g 160 98)) (hm : 0 ≤ m ∧ m ≤ 2147483647) (ht : (ty = 3 ∧ y = 99) ∨ (y < 99 ∧ ty = 4 + 2 * y) ∨ (100 ≤ y ∧ ty = 5 + 2 * (y - 100))) (nt : ¬ (ω c 238 (p 160 134 + bp (ω c) (p 160 134) a).toNat = 167 ∨ ω c 238 (p 160 134 + bp (ω c) (p 160 134) a).toNat = 172 ∨ ω c 238 (p 160 134 + bp (ω c) (p 160 134) a).toNat = 176 ∨ ω c 238 (p 160 134 + bp (ω c) (p 160 134) a).toNat = 177 ∨ ω c 238 (p 160 134 + bp (ω c) (p 160 134) a).toNat = 191)) (hb : (2 : Int) = WD (ω c 238 (p 160 134 + bp (ω c) (p 160 134) a).toNat)) : Ok_ (mx_sv (qf_X13_make_ nn y m r) fun u13 => qj_X13_fresh__89 nn u13.1 u13.2) (SQ nn g ω R) := by
  have hi := X.hi
  have s := X.s
  obtain ⟨⟨k1, k2, k3⟩, k4, k5⟩ := rpo_k hi.1 P
  have e2 := P.2.1
  refine ok_sv (g_make hn (rx_k k1 V X.rx) (hpo_s k2 X.hp) hy hm) ?_; intro u13 P13
  obtain ⟨V13, P13⟩ := P13
  unfold qj_X13_fresh__89
  rcases P13 with ⟨p1, p2, p3⟩ | ⟨⟨p1, p2, p3, p3'⟩, p4, ⟨p5, p6⟩, p7⟩
  · rw [if_neg (show ¬ ¬ u13.1 = 0 by omega)]
    exact ok_ret ⟨V13, fun x j q1 q2 => by rw [p2 x j (by omega)]; exact k1 x j q1 q2, fun q => by rw [p3] at q; exact absurd q (by decide)⟩
  · rw [if_pos (show ¬ u13.1 = 0 by omega)]
    have s13 : u13.2 254 i.toNat = R 254 i.toNat - n := by rw [p7 254 _ (by omega) (by omega)]; exact e2
    have q4 := PS.2.2
    refine ok_sv (g_give V13 (rpo_rf V13 hi) (by rw [p7 160 149 (by omega) (by omega), k4]; exact X.hd) hi (by rw [s13]; omega) (by omega)) ?_; intro u2 P2
    obtain ⟨V2, g1, g2, _, g4⟩ := P2
    rw [s13] at g1 g2 g4
    rw [show R 254 i.toNat - n - 0 = R 254 i.toNat - n by omega] at g1 g2 g4
    have K : HSM u13.2 u2 := ⟨fun x y1 y2 => funext fun l => g1 x l (by omega) (by omega), g1 160 141 (by omega) (by omega), g1 160 142 (by omega) (by omega)⟩
    have hx : HX R u2 := hx_tr (hsm_x k2) (hx_tr p5 (hsm_x K))
    refine end_h hn X PS V2 (fun x l y1 y2 y3 y4 => ?_) g2 g4 ⟨hx, hpo_s K p6⟩ ?_ nt hb
    · rw [g1 x l y3 y4, p7 x l y1 (by omega)]; exact P.1 x l y3
    · have e246 : u2 246 u13.1.toNat = y := by rw [K.1 246 (by decide) (by decide)]; exact p4
      have e141 : u2 160 141 = R 160 141 + 1 := by rw [K.2.1, p2, k2.2.1]
      refine .inr (.inr (.inr ⟨by rw [e141, p1, k2.2.1]; have := (gF_160_141 X.vs).1; omega, ?_⟩))
      rw [e246]
      rcases ht with z | z | z
      · exact .inl z
      · refine .inr (.inl ⟨y, by omega, z.2, .inr ⟨z.1, und_rf (by omega)⟩⟩)
      · exact .inr (.inr ⟨y - 100, by omega, z.2, z.1, und_rf (by omega)⟩)
theorem st_fresh (hn : 1000000 ≤ nn) (X : RTP nn g ω R i c k N T U t a p) {op o : Int} (eo : op = ω c 238 (p 160 134 + bp (ω c) (p 160 134) a).toNat) (W : WN nn (T a) ω c (ω c) t op o (U a)) (ho : op = 187 ∨ op = 188 ∨ op = 189) : Ok_ (mx_sv (qf_X13_fresh_ nn op o R) fun u19 => some u19) (SQ nn g ω R) := by
  have V := X.vs
  have hi := X.hi
  have hd := X.hd
  have s := X.s
  have XV := X.rx.1
  have XV0 := XV
  obtain ⟨⟨Vg, Sg⟩, O, CA, _⟩ := XV
  have g98 := gF_160_98 Vg
  have ck := X.ck
  have e1 := X.e1
  have P0 := rpo_rf V hi
  have At := X.at
  have nt : ¬ (ω c 238 (p 160 134 + bp (ω c) (p 160 134) a).toNat = 167 ∨ ω c 238 (p 160 134 + bp (ω c) (p 160 134) a).toNat = 172 ∨ ω c 238 (p 160 134 + bp (ω c) (p 160 134) a).toNat = 176 ∨ ω c 238 (p 160 134 + bp (ω c) (p 160 134) a).toNat = 177 ∨ ω c 238 (p 160 134 + bp (ω c) (p 160 134) a).toNat = 191) := by rw [← eo]; omega
  have hb : (2 : Int) = WD (ω c 238 (p 160 134 + bp (ω c) (p 160 134) a).toNat) := by
    rw [← eo]
    rcases ho with q | q | q <;> rw [q] <;> decide
  have sv : ∀ y : Option ms_M, (mx_sv y fun u => some u) = y := fun y => by cases y <;> rfl
  rw [sv]
  unfold qf_X13_fresh_
  rcases ho with q | q | q
  · obtain ⟨u, ⟨ub, cl, ct⟩, ps⟩ := wnx_23 W q
    rw [if_neg (show ¬ ¬ op = 187 by omega)]
    unfold qj_X13_fresh__15 qj_X13_fresh__43
    rw [if_pos (by decide), if_pos (show ¬ op = 188 by omega)]
    refine ok_sv (g_classIn X.rx hd hi ck.1 e1.1 cl (ctv_c (agd_c At) ct)) ?_; intro u16 P16
    rw [P16, if_neg (show ¬ ¬ op = 187 by omega)]
    have ub' : 0 ≤ u ∧ u < 8 + g 160 98 := by rw [At.2.1]; exact ub
    refine ok_sv (rt_fields hn XV0 X.rx.2.1 V (k := u) (by omega)) ?_; intro u11 P11
    exact end_new hn X ps V P0 (.inl ⟨by omega, ub', P11.1⟩) (by have := P11.2; omega) (.inr (.inl ⟨by omega, rfl⟩)) nt hb
  · obtain ⟨i0, ps⟩ := wnx_24 W q
    have ln := ps.2.2.1
    rw [if_pos (show ¬ op = 187 by omega)]
    refine ok_sv (g_drop V P0 hd hi (by omega) (by omega)) ?_; intro u22 P22
    obtain ⟨V2, Q2, q2⟩ := P22
    rw [show (0 : Int) + 1 = 1 by omega] at Q2
    have bq := gA_255 V (60 * i + 30 + (R 254 i.toNat - 1 - 0)).toNat (by omega)
    rw [← q2] at bq
    unfold qj_X13_fresh__15 qj_X13_fresh__43 qj_X13_fresh__85
    refine ok_if (fun n0 => ?_) (fun _ => end_fails hn X V2 Q2 (by decide))
    rw [if_neg (show ¬ ¬ op = 188 by omega), if_pos (show ¬ op = 187 by omega), if_neg (show ¬ ¬ op = 188 by omega)]
    exact end_new hn X ps V2 Q2 (.inr (.inl rfl)) (by omega) (.inl ⟨rfl, rfl⟩) nt hb
  · obtain ⟨i0, u, ⟨ub, cl, ct⟩, ps⟩ := wnx_25 W q
    have ln := ps.2.2.1
    rw [if_pos (show ¬ op = 187 by omega)]
    refine ok_sv (g_drop V P0 hd hi (by omega) (by omega)) ?_; intro u22 P22
    obtain ⟨V2, Q2, q2⟩ := P22
    rw [show (0 : Int) + 1 = 1 by omega] at Q2
    have bq := gA_255 V (60 * i + 30 + (R 254 i.toNat - 1 - 0)).toNat (by omega)
    rw [← q2] at bq
    obtain ⟨⟨k1, k2, k3⟩, k4, k5⟩ := rpo_k hi.1 Q2
    unfold qj_X13_fresh__15 qj_X13_fresh__43 qj_X13_fresh__85
    refine ok_if (fun n0 => ?_) (fun _ => end_fails hn X V2 Q2 (by decide))
    rw [if_pos (show ¬ op = 188 by omega)]
    refine ok_sv (g_classIn (rx_k k1 V2 X.rx) (by rw [k4]; exact hd) hi ck.1 (by rw [k5.1]; exact e1.1) cl (ctv_c (agd_c At) ct)) ?_; intro u16 P16
    have ub' : 0 ≤ u ∧ u < 8 + g 160 98 := by rw [At.2.1]; exact ub
    rw [P16, if_pos (show ¬ op = 187 by omega), if_pos (show ¬ op = 188 by omega)]
    refine ok_add (by omega) ?_; intro v8 e8
    exact end_new hn X ps V2 Q2 (.inr (.inr (by omega))) (by omega) (.inr (.inr ⟨by omega, by omega⟩)) nt hb
/-- casts and questions -/
theorem st_is (hn : 1000000 ≤ nn) (X : RTP nn g ω R i c k N T U t a p) {op o : Int} (eo : op = ω c 238 (p 160 134 + bp (ω c) (p 160 134) a).toNat) (W : WN nn (T a) ω c (ω c) t op o (U a)) (ho : op = 192 ∨ op = 193) {b : Int} (hb : b = WD (ω c 238 (p 160 134 + bp (ω c) (p 160 134) a).toNat)) : Ok_ (qj_X13_step_1111 nn op b o R) (SQ nn g ω R) := by
  have V := X.vs
  have hi := X.hi
  have hd := X.hd
  have s := X.s
  have H := X.hp
  have XV := X.rx.1
  have XV0 := XV
  obtain ⟨⟨Vg, Sg⟩, O, CA, _⟩ := XV
  have g98 := gF_160_98 Vg
  have g141 := gF_160_141 V
  have ck := X.ck
  have e1 := X.e1
  have P0 := rpo_rf V hi
  have At := X.at
  have nt : ¬ (ω c 238 (p 160 134 + bp (ω c) (p 160 134) a).toNat = 167 ∨ ω c 238 (p 160 134 + bp (ω c) (p 160 134) a).toNat = 172 ∨ ω c 238 (p 160 134 + bp (ω c) (p 160 134) a).toNat = 176 ∨ ω c 238 (p 160 134 + bp (ω c) (p 160 134) a).toNat = 177 ∨ ω c 238 (p 160 134 + bp (ω c) (p 160 134) a).toNat = 191) := by rw [← eo]; omega
  obtain ⟨t2, u, ub, cl, ct, ln, ps⟩ : 2 ≤ tp (T a) 0 ∧ ∃ u : Int, (0 ≤ u ∧ u < 8 + (T a) 160 98) ∧ CL (ω c) c o ∧ CTv nn (T a) c (ω c) o (4 + 2 * u) ∧ 1 ≤ R 254 i.toNat ∧ ((op = 192 ∧ PS1 (T a) 1 (4 + 2 * u) (U a)) ∨ (op = 193 ∧ PS1 (T a) 1 1 (U a))) := by
    rcases ho with q | q
    · obtain ⟨a1, u, ⟨a2, a3, a4⟩, a5⟩ := wnx_28 W q
      exact ⟨a1, u, a2, a3, a4, by have := a5.2.2.1; omega, .inl ⟨q, a5⟩⟩
    · obtain ⟨a1, u, ⟨a2, a3, a4⟩, a5⟩ := wnx_29 W q
      exact ⟨a1, u, a2, a3, a4, by have := a5.2.2.1; omega, .inr ⟨q, a5⟩⟩
  have ub' : 0 ≤ u ∧ u < 8 + g 160 98 := by rw [At.2.1]; exact ub
  unfold qj_X13_step_1111 qf_X13_is qj_X13_step_1150
  obtain ⟨u14, E14, V14, Q14, q14⟩ := g_drop (nn := nn) V P0 hd hi (by omega) (by omega)
  rw [E14, mx_svs]
  rw [show (0 : Int) + 1 = 1 by omega] at Q14
  have cv := X.tp (y := 0) (by omega) (by omega)
  have bq := gA_255 V (60 * i + 30 + (R 254 i.toNat - 1 - 0)).toNat (by omega)
  rw [← q14] at cv bq
  obtain ⟨⟨k1, k2, k3⟩, k4, k5⟩ := rpo_k hi.1 Q14
  have fin : ∀ s0 : Int, (¬ u14.1 = 0 → (¬ s0 = 0 → CVt nn g R (4 + 2 * u) u14.1)) → Ok_ (mx_sv (qj_X13_is_27 nn op u14.1 s0 u14.2) fun u16 => if ¬ u16.1 = 0 then (mx_sv (qf_X13_on nn b u16.2) fun u2 => some u2) else (some u16.2)) (SQ nn g ω R) := fun s0 hs => by
    unfold qj_X13_is_27 qj_X13_is_68
    rcases ps with ⟨q, ps⟩ | ⟨q, ps⟩
    · rw [if_pos (show ¬ op = 193 by omega)]
      have gv : CVt nn g R (4 + 2 * u) u14.1 → Ok_ (mx_sv (mx_sv (qf_X13_give nn u14.1 u14.2) fun u2 => some ((1 : Int), u2)) fun u16 => if ¬ u16.1 = 0 then (mx_sv (qf_X13_on nn b u16.2) fun u2 => some u2) else (some u16.2)) (SQ nn g ω R) := fun cvv => by
        have q4 := ps.2.2.2.1
        obtain ⟨y, ey, Vy, Py⟩ := g_give (nn := nn) V14 Q14 hd hi (y := u14.1) (by omega) bq
        rw [ey, mx_svs, mx_svs, if_pos (show ¬ (1 : Int) = 0 by decide)]
        exact end_ps hn X ps Vy Py cvv nt hb
      by_cases z : u14.1 = 0
      · rw [if_pos z]
        exact gv (by rw [z]; exact cv_0)
      · rw [if_neg z]
        by_cases z2 : s0 = 0
        · rw [if_neg (fun q => q z2)]
          obtain ⟨y, ey, Py⟩ := end_fails hn X V14 Q14 (o := 5) (by decide)
          have sv : ∀ y : Option ms_M, (mx_sv y fun u => some u) = y := fun y => by cases y <;> rfl
          rw [sv] at ey
          rw [ey, mx_svs, mx_svs, if_neg (show ¬ ¬ (0 : Int) = 0 by decide)]
          exact ok_ret Py
        · rw [if_pos z2]
          exact gv (hs z z2)
    · rw [if_neg (show ¬ ¬ op = 193 by omega)]
      have q4 := ps.2.2.2.1
      by_cases z2 : s0 = 0
      · rw [if_pos z2]
        obtain ⟨y, ey, Vy, Py⟩ := g_give (nn := nn) V14 Q14 hd hi (y := 0) (by omega) (by omega)
        rw [ey, mx_svs, mx_svs, if_pos (show ¬ (1 : Int) = 0 by decide)]
        exact end_ps hn X ps Vy Py cv_i nt hb
      · rw [if_neg z2]
        obtain ⟨y, ey, Vy, Py⟩ := g_give (nn := nn) V14 Q14 hd hi (y := 1) (by omega) (by omega)
        rw [ey, mx_svs, mx_svs, if_pos (show ¬ (1 : Int) = 0 by decide)]
        exact end_ps hn X ps Vy Py cv_i nt hb
  by_cases z : u14.1 = 0
  · rw [if_pos z]
    exact fin 0 (fun y => absurd z y)
  · rw [if_neg z]
    obtain ⟨y16, e16, p16⟩ := g_classIn (rx_k k1 V14 X.rx) (by rw [k4]; exact hd) hi ck.1 (by rw [k5.1]; exact e1.1) cl (ctv_c (agd_c At) ct)
    rw [e16, mx_svs, p16]
    have ob := cv_ref t2 cv z
    have e246 : u14.2 246 u14.1.toNat = R 246 u14.1.toNat := Q14.1 246 _ (by omega)
    obtain ⟨y18, e18, p18⟩ := rt_isOne hn XV0 (rx_k k1 V14 X.rx).2.1 V14 (o := u14.1) (t := u) (by omega) (by
      rw [e246]
      intro y
      rcases (H.1 u14.1 ob.1 ob.2).2 with z1 | z1 | z1
      · exact z1.2.1
      · exfalso; omega
      · exfalso; omega) (by omega)
    rw [e246] at p18
    rw [e18, mx_svs]
    by_cases y0 : y18 = 0
    · rw [if_pos y0]
      exact fin 0 (fun _ y => absurd rfl y)
    · rw [if_neg y0]
      refine fin 1 (fun _ _ => .inr (.inr (.inr ⟨ob, .inr (.inl ⟨u, ub.1, rfl, ?_⟩)⟩)))
      rcases p18 with q | q
      · exact q.2
      · exact absurd q.1 y0
end
end
section
section
variable {nn : Nat} {h g r z w v x f R p : ms_M} {c d e k : Int} {ω : Int → ms_M} {N : Nat} {T U : Nat → ms_M} {i t : Int} {a : Nat}
theorem prn_p {f l : Nat → Int} {a b n : Int} (E : EB f l a b n) : ∀ (j : Nat) (m q : Int), 0 ≤ m → q ≤ n → PRn f j (a + m) (a + q) → PRn l j (b + m) (b + q) := by
  intro j
  induction j with
  | zero => intro m q m0 q0 y; have y : a + m = a + q := y; show b + m = b + q; omega
  | succ j ih =>
    intro m q m0 q0 y
    obtain ⟨e, y1, y2⟩ := y
    have lt := kd_lt y1
    have le := pr_le _ _ _ y2
    obtain ⟨e', ee⟩ : ∃ e' : Int, e = a + e' := ⟨e - a, by omega⟩
    rw [ee] at y1 y2
    exact ⟨b + e', kd_p E m0 (by omega) y1, ih _ _ (by omega) q0 y2⟩
theorem mkn_p {f l : Nat → Int} {a b n : Int} {m : Nat} (E : EB f l a b n) (K : MKn f m a (a + n)) : MKn l m b (b + n) := by
  obtain ⟨k0, q, k1, k2, k3⟩ := K
  have le := pr_le _ _ _ k1
  have lt : q + 1 < a + n := by
    rcases k3 with y | y
    · omega
    · have := kd_lt y; omega
  obtain ⟨q', eq⟩ : ∃ q' : Int, q = a + q' := ⟨q - a, by omega⟩
  rw [eq] at k1 k2 k3
  rw [show a + q' + 1 = a + (q' + 1) by omega] at k3
  refine ⟨?_, b + q', prn_p E _ _ _ (by omega) (by omega) k1, ?_, ?_⟩
  · have := E 0 (by omega) (by omega)
    rw [show a + 0 = a by omega, show b + 0 = b by omega] at this
    rw [← this]; exact k0
  · rw [← E q' (by omega) (by omega)]; exact k2
  · rw [show b + q' + 1 = b + (q' + 1) by omega]; exact rtk_p E (by omega) (by omega) k3
theorem got_f0 {b : Int} (G : GOt nn h 0 b) : b = 0 := by
  unfold GOt qf_X13_goes at G
  by_cases y : b = 0
  · exact y
  · rw [if_neg y, if_pos (show ¬ (0 : Int) = b by omega), if_pos rfl] at G
    cases G
/-- a new frame is entered -/
theorem g_enter (hn : 1000000 ≤ nn) (V : VS_ r) {b j : Int} (rb : -1 ≤ b ∧ b ≤ 2117) (rj : 0 ≤ j ∧ j ≤ 254) (hd : 0 ≤ r 160 149 ∧ r 160 149 < 60) : Ok_ (qf_X13_enter nn b j r) (fun u => VS_ u ∧ (∀ x y : Nat, ¬ (x = 160 ∧ y = 149) → ¬ ((x = 251 ∨ x = 252 ∨ x = 253 ∨ x = 254) ∧ y = (r 160 149).toNat) → ¬ (x = 255 ∧ 60 * r 160 149 ≤ (y : Int) ∧ (y : Int) < 60 * r 160 149 + 60) → u x y = r x y) ∧ u 160 149 = r 160 149 + 1 ∧ (u 251 (r 160 149).toNat = b ∧ u 252 (r 160 149).toNat = j ∧ u 253 (r 160 149).toNat = 0 ∧ u 254 (r 160 149).toNat = 0) ∧ ∀ y : Int, 0 ≤ y → y < 60 → u 255 (60 * r 160 149 + y).toNat = 0) := by
  unfold qf_X13_enter
  refine ok_wA (by omega) ?_; intro h13 E13
  have V13 : VS_ h13 := by rw [E13]; exact wA_251 V rb
  have d13 : h13 160 149 = r 160 149 := by rw [E13, up_n (by omega)]
  rw [d13]
  refine ok_wA (by omega) ?_; intro h16 E16
  have V16 : VS_ h16 := by rw [E16]; exact wA_252 V13 rj
  have d16 : h16 160 149 = r 160 149 := by rw [E16, up_n (by omega)]; exact d13
  rw [d16]
  refine ok_wA (by omega) ?_; intro h19 E19
  have V19 : VS_ h19 := by rw [E19]; exact wA_253 V16 (by omega)
  have d19 : h19 160 149 = r 160 149 := by rw [E19, up_n (by omega)]; exact d16
  rw [d19]
  refine ok_wA (by omega) ?_; intro h22 E22
  have V22 : VS_ h22 := by rw [E22]; exact wA_254 V19 (by omega)
  have N22 : ∀ x y : Nat, ¬ ((x = 251 ∨ x = 252 ∨ x = 253 ∨ x = 254) ∧ y = (r 160 149).toNat) → h22 x y = r x y := fun x y q => by rw [E22, up_n (by omega), E19, up_n (by omega), E16, up_n (by omega), E13, up_n (by omega)]
  have v22 : h22 251 (r 160 149).toNat = b ∧ h22 252 (r 160 149).toNat = j ∧ h22 253 (r 160 149).toNat = 0 ∧ h22 254 (r 160 149).toNat = 0 := by
    refine ⟨?_, ?_, ?_, ?_⟩
    · rw [E22, up_n (by omega), E19, up_n (by omega), E16, up_n (by omega), E13, up_s]
    · rw [E22, up_n (by omega), E19, up_n (by omega), E16, up_s]
    · rw [E22, up_n (by omega), E19, up_s]
    · rw [E22, up_s]
  have L : ∀ (l : Nat) (y : Int) (f : ms_M), VS_ f → (∀ x q : Nat, ¬ (x = 255 ∧ 60 * r 160 149 ≤ (q : Int) ∧ (q : Int) < 60 * r 160 149 + 60) → f x q = h22 x q) → (0 ≤ y ∧ y ≤ 60) → (∀ q : Int, 0 ≤ q → q < y → f 255 (60 * r 160 149 + q).toNat = 0) → 60 - y < (l : Int) → Ok_ (qw_X13_enter_42 nn l y f) (fun u => VS_ u ∧ (∀ x y : Nat, ¬ (x = 160 ∧ y = 149) → ¬ ((x = 251 ∨ x = 252 ∨ x = 253 ∨ x = 254) ∧ y = (r 160 149).toNat) → ¬ (x = 255 ∧ 60 * r 160 149 ≤ (y : Int) ∧ (y : Int) < 60 * r 160 149 + 60) → u x y = r x y) ∧ u 160 149 = r 160 149 + 1 ∧ (u 251 (r 160 149).toNat = b ∧ u 252 (r 160 149).toNat = j ∧ u 253 (r 160 149).toNat = 0 ∧ u 254 (r 160 149).toNat = 0) ∧ ∀ y : Int, 0 ≤ y → y < 60 → u 255 (60 * r 160 149 + y).toNat = 0) := by
    intro l
    induction l with
    | zero => intro y f Vf Nf hy D hm; exfalso; omega
    | succ l ih =>
      intro y f Vf Nf hy D hm
      have df : f 160 149 = r 160 149 := by rw [Nf 160 149 (by omega), N22 160 149 (by omega)]
      unfold qw_X13_enter_42
      rw [df]
      refine ok_if (fun C => ?_) (fun C => ?_)
      · refine ok_add (by omega) ?_; intro v2 e2
        refine ok_xl ?_; intro h3 E3
        have V3 : VS_ h3 := by rw [E3]; exact wF_160_149 Vf (by omega)
        refine ok_ret ⟨V3, fun x q q1 q2 q3 => ?_, by rw [E3, up_s]; omega, ?_, fun q q1 q2 => ?_⟩
        · rw [E3, up_n (by omega), Nf x q q3]; exact N22 x q q2
        · rw [E3, up_n (by omega), up_n (by omega), up_n (by omega), up_n (by omega), Nf 251 _ (by omega), Nf 252 _ (by omega), Nf 253 _ (by omega), Nf 254 _ (by omega)]
          exact v22
        · rw [E3, up_n (by omega)]; exact D q q1 (by omega)
      · refine ok_mul (by omega) ?_; intro v6 e6
        refine ok_add (by omega) ?_; intro v7 e7
        refine ok_wA (by omega) ?_; intro h8 E8
        refine ok_add (by omega) ?_; intro v9 e9
        rw [e9]
        refine ih (y + 1) h8 (by rw [E8]; exact wA_255 Vf (by omega)) (fun x q q1 => ?_) (by omega) (fun q q1 q2 => ?_) (by omega)
        · rw [E8, up_n (by omega)]; exact Nf x q q1
        · by_cases q0 : q = y
          · rw [q0, show 60 * r 160 149 + y = v7 by omega, E8, up_s]
          · rw [E8, up_n (by omega)]; exact D q q1 (by omega)
  exact L nn 0 h22 V22 (fun _ _ _ => rfl) (by omega) (fun q q1 q2 => by exfalso; omega) (by omega)
/-- a frame gets its value and goes on -/
theorem run_ret (hn : 1000000 ≤ nn) (X : RX nn ω g R) (H : HPO nn g ω R) {u : Int} (hi : 0 ≤ i ∧ i < 60) (hd : R 160 149 = i + 1) (L : LOWF nn g ω R i u t) (S : STK nn g ω R i.toNat t) {y : Int} (hy : -2147483648 ≤ y ∧ y ≤ 2147483647) (cv : CVt nn g R u y) (u0 : ¬ u = 0) : Ok_ (mx_sv (qf_X13_give nn y R) fun u16 => mx_sv (qf_X13_on nn 2 u16) fun u2 => some u2) (fun r => SQ nn g ω R r) := by
  have V := X.2.2.1
  obtain ⟨c, k, N, T, U, a, p, n, A, ⟨o1, o2⟩, loc, s1, stk⟩ := L
  obtain ⟨⟨m, L', q, bd⟩, ck, e1, aN, e3⟩ := A
  have nd := (bd.2.2.2.2.2.2.2 a aN).1
  have m30 := mbd_129 bd
  have e130 := nd.1 160 130 (by decide) (by decide)
  have s131 := nd.2.2.1
  have ins := bd.2.1.2 a aN
  have cd := mc_code bd.1.2.2
  have ps : PS1 (T a) n u (U a) := by
    rcases o2 with z | z
    · exact absurd z.1 u0
    · exact z.2
  have q4 := ps.2
  have wd : WD (ω c 238 (p 160 134 + bp (ω c) (p 160 134) a).toNat) = 2 := by
    rcases o1 with z | z <;> rw [z] <;> decide
  refine ok_sv (g_give V (rpo_rf V hi) hd hi (by omega) hy) ?_; intro r P
  obtain ⟨Vr, P⟩ := P
  obtain ⟨⟨k1, k2, k3⟩, k4, k5⟩ := rps_k hi.1 P
  obtain ⟨N1, p2, p3, p4⟩ := P
  refine ok_sv (g_on Vr (by rw [k4]; exact hd) hi (by decide) (by rw [k5.2.2, e3]; omega)) ?_; intro r2 P2
  obtain ⟨V2, N2, e2⟩ := P2
  have F2 : RFr R r2 := rfr_tr k1 (fun x j y1 y2 => N2 x j (by omega))
  have K2 : HSM R r2 := hsm_tr k2 ⟨fun x y1 y2 => funext fun j => N2 x j (by omega), N2 160 141 (by omega), N2 160 142 (by omega)⟩
  have L2 : LWK R i r2 := lwk_tr k3 ⟨fun y y1 y2 => ⟨N2 251 _ (by omega), N2 252 _ (by omega), N2 253 _ (by omega), N2 254 _ (by omega)⟩, fun y y1 y2 => N2 255 _ (by omega)⟩
  have hx := hsm_x K2
  refine ok_ret ⟨V2, F2, fun _ => ?_⟩
  refine run_adv hn (rx_k F2 V2 X) bd ck ⟨by rw [N2 251 _ (by omega), k5.1]; exact e1.1, by rw [N2 252 _ (by omega), k5.2.1]; exact e1.2⟩ aN (by omega) ?_ ⟨fun y y1 y2 => ?_, ?_, fun y y1 y2 => ?_⟩ (hpo_s K2 H) (by rw [N2 160 149 (by omega), k4]; exact hd) hi (stk_k _ _ (by rw [show ((i.toNat : Nat) : Int) = i by omega]; exact L2) hx S)
  · rw [e2, k5.2.2, e3]
    show _ = bp (ω c) (p 160 134) a + WD _
    rw [wd]
  · rw [N2 255 _ (by omega), N1 255 _ (by omega) (by omega), ps.1 243 _ (by omega) (by decide) (by omega)]
    exact cv_x hx (loc y y1 y2)
  · rw [N2 254 _ (by omega), p2]; omega
  · rw [N2 255 _ (by omega)]
    by_cases y0 : y = T a 160 131 - n
    · rw [y0, q4.2.2.2, show 60 * i + 30 + (T a 160 131 - n) = 60 * i + 30 + (R 254 i.toNat - 0) by omega, p4]
      exact cv_x hx cv
    · rw [N1 255 _ (by omega) (by omega), ps.1 244 _ (by omega) (by decide) (by omega)]
      exact cv_x hx (stk y y1 (by omega))
theorem run_ret0 (hn : 1000000 ≤ nn) (X : RX nn ω g R) (H : HPO nn g ω R) (hi : 0 ≤ i ∧ i < 60) (hd : R 160 149 = i + 1) (L : LOWF nn g ω R i 0 t) (S : STK nn g ω R i.toNat t) : Ok_ (mx_sv (qf_X13_on nn 2 R) fun u2 => some u2) (fun r => SQ nn g ω R r) := by
  have V := X.2.2.1
  obtain ⟨c, k, N, T, U, a, p, n, A, ⟨o1, o2⟩, loc, s1, stk⟩ := L
  obtain ⟨⟨m, L', q, bd⟩, ck, e1, aN, e3⟩ := A
  have nd := (bd.2.2.2.2.2.2.2 a aN).1
  have ins := bd.2.1.2 a aN
  have cd := mc_code bd.1.2.2
  have po : POP (T a) n (U a) := by
    rcases o2 with z | z
    · exact z.2
    · exact absurd rfl z.1
  have q4 := po.2
  have wd : WD (ω c 238 (p 160 134 + bp (ω c) (p 160 134) a).toNat) = 2 := by
    rcases o1 with z | z <;> rw [z] <;> decide
  refine ok_sv (g_on V hd hi (by decide) (by rw [e3]; omega)) ?_; intro r2 P2
  obtain ⟨V2, N2, e2⟩ := P2
  have F2 : RFr R r2 := fun x j y1 y2 => N2 x j (by omega)
  have K2 : HSM R r2 := ⟨fun x y1 y2 => funext fun j => N2 x j (by omega), N2 160 141 (by omega), N2 160 142 (by omega)⟩
  have L2 : LWK R i r2 := ⟨fun y y1 y2 => ⟨N2 251 _ (by omega), N2 252 _ (by omega), N2 253 _ (by omega), N2 254 _ (by omega)⟩, fun y y1 y2 => N2 255 _ (by omega)⟩
  have hx := hsm_x K2
  refine ok_ret ⟨V2, F2, fun _ => ?_⟩
  refine run_adv hn (rx_k F2 V2 X) bd ck ⟨by rw [N2 251 _ (by omega)]; exact e1.1, by rw [N2 252 _ (by omega)]; exact e1.2⟩ aN (by omega) ?_ ⟨fun y y1 y2 => ?_, ?_, fun y y1 y2 => ?_⟩ (hpo_s K2 H) (by rw [N2 160 149 (by omega)]; exact hd) hi (stk_k _ _ (by rw [show ((i.toNat : Nat) : Int) = i by omega]; exact L2) hx S)
  · rw [e2, e3]
    show _ = bp (ω c) (p 160 134) a + WD _
    rw [wd]
  · rw [N2 255 _ (by omega), po.1 243 _ (by omega) (by decide)]
    exact cv_x hx (loc y y1 y2)
  · rw [N2 254 _ (by omega)]; omega
  · rw [N2 255 _ (by omega), po.1 244 _ (by omega) (by decide)]
    exact cv_x hx (stk y y1 (by omega))
/-- a method ends -/
theorem st_back (hn : 1000000 ≤ nn) (X : RTP nn g ω R i c k N T U t a p) {op o : Int} (W : WN nn (T a) ω c (ω c) t op o (U a)) (ho : op = 172 ∨ op = 176 ∨ op = 177) : Ok_ (mx_sv (qf_X13_back nn op R) fun u28 => some u28) (SQ nn g ω R) := by
  have V := X.vs
  have hi := X.hi
  have hd := X.hd
  have s := X.s
  have H := X.hp
  have P0 := rpo_rf V hi
  have g98 := gF_160_98 X.rx.1.1.1
  have g141 := gF_160_141 V
  have sv : ∀ y : Option ms_M, (mx_sv y fun u => some u) = y := fun y => by cases y <;> rfl
  rw [sv]
  have B : ∀ (q n : Int) (r : ms_M), VS_ r → RPO R i n r → (-2147483648 ≤ q ∧ q ≤ 2147483647) → (op = 177 → t = 0) → (¬ op = 177 → ¬ t = 0 ∧ CVt nn g R t q) → (op = 176 → ¬ q = 0 → 1 ≤ q ∧ q ≤ R 160 141) → Ok_ (qj_X13_back_15 nn op q r) (SQ nn g ω R) := fun q n r Vr P hq h7 hv h6 => by
    obtain ⟨⟨k1, k2, k3⟩, k4, k5⟩ := rpo_k hi.1 P
    have N0 := P.1
    unfold qj_X13_back_15 qj_X13_back_45
    rw [k4, hd]
    refine ok_sub (by omega) ?_; intro v4 e4
    refine ok_xl ?_; intro h5 E5
    have V5 : VS_ h5 := by rw [E5]; exact wF_160_149 Vr (by omega)
    have d5 : h5 160 149 = i := by rw [E5, up_s]; omega
    have N5 : ∀ x j : Nat, ¬ (x = 160 ∧ j = 149) → ¬ (x = 254 ∧ j = i.toNat) → h5 x j = R x j := fun x j y1 y2 => by rw [E5, up_n y1]; exact N0 x j y2
    have F5 : RFr R h5 := fun x j y1 y2 => N5 x j (by omega) (by omega)
    have K5 : HSM R h5 := ⟨fun x y1 y2 => funext fun j => N5 x j (by omega) (by omega), N5 160 141 (by omega) (by omega), N5 160 142 (by omega) (by omega)⟩
    rw [d5]
    refine ok_if (fun i0 => ?_) (fun i0 => ?_)
    · refine ok_xl ?_; intro h7' E7
      have V7 : VS_ h7' := by rw [E7]; exact wF_160_138 V5 (by omega)
      have F7 : RFr R h7' := rfr_tr F5 (fun x j y1 y2 => by rw [E7, up_n (by omega)])
      have s7 : h7' 160 138 = 2 := by rw [E7, up_s]
      refine ok_if (fun n172 => ?_) (fun n172 => ?_)
      · refine ok_if (fun _ => ok_ret ⟨V7, F7, fun z => by rw [s7] at z; exact absurd z (by decide)⟩) (fun y176 => ?_)
        refine ok_if (fun _ => ok_ret ⟨V7, F7, fun z => by rw [s7] at z; exact absurd z (by decide)⟩) (fun q0 => ?_)
        have qb := h6 (Decidable.not_not.1 y176) q0
        have told : Ok_ (qf_X13_told nn q h7') (fun u => -1 ≤ u ∧ u ≤ 200) := by
          unfold qf_X13_told
          refine ok_rd (by omega) (gA_246 V7) ?_; intro v2 e2 _ _
          refine ok_if (fun _ => ?_) (fun _ => ok_ret (by decide))
          refine ok_rd (by omega) (gA_246 V7) ?_; intro v4 e4 b1 b2
          exact ok_ret (by omega)
        refine ok_sv told ?_; intro u9 P9
        refine ok_xl ?_; intro h10 E10
        refine ok_ret ⟨by rw [E10]; exact wF_160_139 V7 (by omega), rfr_tr F7 (fun x j y1 y2 => by rw [E10, up_n (by omega)]), fun z => ?_⟩
        rw [E10, up_n (by omega), s7] at z
        exact absurd z (by decide)
      · refine ok_xl ?_; intro h13 E13
        refine ok_ret ⟨by rw [E13]; exact wF_160_139 V7 (by omega), rfr_tr F7 (fun x j y1 y2 => by rw [E13, up_n (by omega)]), fun z => ?_⟩
        rw [E13, up_n (by omega), s7] at z
        exact absurd z (by decide)
    · have X5 := rx_k F5 V5 X.rx
      have H5 := hpo_s K5 H
      have L5 : LWK R i h5 := ⟨fun y y1 y2 => ⟨N5 251 _ (by omega) (by omega), N5 252 _ (by omega) (by omega), N5 253 _ (by omega) (by omega), N5 254 _ (by omega) (by omega)⟩, fun y y1 y2 => N5 255 _ (by omega) (by omega)⟩
      obtain ⟨dd, edd⟩ : ∃ dd : Nat, i.toNat = dd + 1 := ⟨i.toNat - 1, by omega⟩
      have st := X.st
      rw [edd] at st
      have st5 := stk_k (nn := nn) (g := g) (ω := ω) (R := R) (r := h5) (dd + 1) t (lwk_le L5 (by omega)) (hsm_x K5) st
      obtain ⟨t2, lw, st2⟩ := st5
      have ei : ((dd : Nat) : Int) = i - 1 := by omega
      rw [ei] at lw
      have st3 : STK nn g ω h5 (i - 1).toNat t2 := by rw [show (i - 1).toNat = dd by omega]; exact st2
      refine ok_if (fun y177 => ?_) (fun n177 => ?_)
      · rw [h7 y177] at lw
        exact ok_im (run_ret0 hn X5 H5 (i := i - 1) (by omega) (by omega) lw st3) (fun r2 Q => ⟨Q.1, rfr_tr F5 Q.2.1, Q.2.2⟩)
      · obtain ⟨t0, cv⟩ := hv n177
        exact ok_im (run_ret hn X5 H5 (i := i - 1) (by omega) (by omega) lw st3 hq (cv_x (hsm_x K5) cv) t0) (fun r2 Q => ⟨Q.1, rfr_tr F5 Q.2.1, Q.2.2⟩)
  unfold qf_X13_back
  rcases ho with q | q | q
  · obtain ⟨w1, w2, w3⟩ := wnx_17 W q
    have ln := w3.2.2
    rw [if_pos (show ¬ op = 177 by omega)]
    refine ok_sv (g_drop V P0 hd hi (by omega) (by omega)) ?_; intro u20 P20
    have bq := gA_255 V (60 * i + 30 + (R 254 i.toNat - 1 - 0)).toNat (by omega)
    rw [← P20.2.2] at bq
    exact B u20.1 _ u20.2 P20.1 P20.2.1 bq (fun z => by exfalso; omega) (fun _ => ⟨by omega, by rw [w1]; exact cv_i⟩) (fun z => by exfalso; omega)
  · obtain ⟨w1, w2, w3⟩ := wnx_18 W q
    have ln := w3.2.2
    rw [if_pos (show ¬ op = 177 by omega)]
    refine ok_sv (g_drop V P0 hd hi (by omega) (by omega)) ?_; intro u20 P20
    have bq := gA_255 V (60 * i + 30 + (R 254 i.toNat - 1 - 0)).toNat (by omega)
    have gt : GTs g t := by
      obtain ⟨⟨m, L, q', bd⟩, _⟩ := X.2.1
      have := ktv_rg bd.1.2.1 bd.2.2.1.2.2.2.2
      exact gts_c (agd_sy bd.1.1) this
    have cv := rtp_go hn X (y := 0) (by omega) (by omega) w2 gt
    rw [← P20.2.2] at bq cv
    exact B u20.1 _ u20.2 P20.1 P20.2.1 bq (fun z => by exfalso; omega) (fun _ => ⟨by omega, cv⟩) (fun _ z => cv_ref w1 cv z)
  · obtain ⟨w1, w2⟩ := wnx_19 W q
    rw [if_neg (show ¬ ¬ op = 177 by omega)]
    exact B 0 0 R V P0 (by decide) (fun _ => w1) (fun z => absurd q z) (fun z => by exfalso; omega)
end
end
section
section
variable {nn : Nat} {h g r z w v x f R p : ms_M} {c d e k : Int} {ω : Int → ms_M} {N : Nat} {T U : Nat → ms_M} {i t : Int} {a : Nat}
/-- the frame of a called method: how it begins -/
theorem run_call (hn : 1000000 ≤ nn) (X : RTP nn g ω R i c k N T U t a p) {op n m b2 j2 y tc : Int} {L : Int → Int} {q : Int} (eo : op = ω c 238 (p 160 134 + bp (ω c) (p 160 134) a).toNat) (hop : op = 182 ∨ op = 184) (en : n = m + (if op = 184 then 0 else 1)) (ln : n ≤ T a 160 131) (hb2 : (8 ≤ b2 ∧ b2 < 8 + g 160 98) ∧ (0 ≤ j2 ∧ j2 < g 234 (b2 - 8).toNat)) (fl : ω (b2 - 8) 238 (g 235 (12 * (b2 - 8) + j2).toNat).toNat = (if op = 184 then 1 else 0)) (tx : TX (ω c) c y) (eq : EQT (ω (b2 - 8)) (b2 - 8) (kdT g ω (b2 - 8) 1 j2) (ω c) c y) (tk : TKV nn g c (ω c) y m L q tc) (ar : ∀ y : Int, 0 ≤ y → y < m → GOt nn (T a) (tp (T a) (m - 1 - y)) (L y)) (rc : ¬ op = 184 → CVt nn g R (4 + 2 * b2) (R 255 (60 * i + 30 + (R 254 i.toNat - 1 - m)).toNat)) (us : (tc = 0 ∧ POP (T a) n (U a)) ∨ (¬ tc = 0 ∧ PS1 (T a) n tc (U a))) (V : VS_ r) (F : RFr R r) (Nr : ∀ x l : Nat, ¬ (x = 160 ∧ l = 121) → r x l = R x l) (i59 : i < 59) : Ok_ (rd_A 60 254 i r fun v19 => xl (oq_sub v19 n) fun v20 => wr_A 60 254 i v20 r fun h21 => mx_sv (qf_X13_enter nn b2 j2 h21) fun u23 => qw_X13_call_228 nn nn n (60 * i + 30 + R 254 i.toNat - n) 0 u23) (SQ nn g ω R) := by
  have hi := X.hi
  have hd := X.hd
  have s := X.s
  have H := X.hp
  have XV := X.rx.1
  have XV0 := XV
  obtain ⟨⟨Vg, Sg⟩, O, CA, MO⟩ := XV
  have g98 := gF_160_98 Vg
  have At := X.at
  have m6 := tk.1
  have n01 : n = m ∨ n = m + 1 := by
    rcases hop with z | z
    · rw [z, if_neg (by decide)] at en; exact .inr en
    · rw [z, if_pos rfl] at en; exact .inl (by omega)
  have n7 : n ≤ 7 := by omega
  obtain ⟨p2, N2, T2, U2, m2, L2, q2, t2, bd2⟩ := mok_b (MO (b2 - 8) j2 (by omega) (by omega) hb2.2.1 hb2.2.2)
  have hc2 : 0 ≤ b2 - 8 ∧ b2 - 8 ≤ 7 := by omega
  have ck := X.ck
  have hc7 : 0 ≤ c ∧ c ≤ 7 := by omega
  have W2 := O (b2 - 8) (by omega) (by omega)
  have Wc := O c ck.1.1 ck.1.2
  have A2 := bd2.1.1
  have j12 : j2 < 12 := (wi_mt W2 hc2 hb2.2).1
  -- the kinds are alike
  have tkg : TKV nn g (b2 - 8) (ω (b2 - 8)) (kdT g ω (b2 - 8) 1 j2) m2 L2 q2 t2 := by
    have := bd2.2.2.1
    rw [kdT_c A2] at this
    exact tkv_c (agd_c (agd_sy A2)) this
  have tx2 : TX (ω (b2 - 8)) (b2 - 8) (kdT g ω (b2 - 8) 1 j2) := by
    obtain ⟨_, _, mt⟩ := wi_mt W2 hc2 hb2.2
    exact (mth_tx mt).2.1
  obtain ⟨q3, tk3⟩ := tkv_p W2 Wc hc2 hc7 tx2 tx eq tkg
  obtain ⟨em, eL, _, et⟩ := mkv_det tk tk3
  have efl : flg p2 (b2 - 8) j2 (ω (b2 - 8)) = (if op = 184 then 1 else 0) := by
    unfold flg
    rw [A2.1 235 _ (by decide) (by decide)]; exact fl
  have s01 : 1 - flg p2 (b2 - 8) j2 (ω (b2 - 8)) = n - m := by
    rw [efl]
    rcases hop with z | z
    · rw [z, if_neg (by decide)] at en ⊢; omega
    · rw [z, if_pos rfl] at en ⊢; omega
  refine ok_rd (by omega) (gA_254 V) ?_; intro v19 e19 _ _
  rw [Nr 254 _ (by omega)] at e19
  refine ok_sub (by omega) ?_; intro v20 e20
  refine ok_wA (by omega) ?_; intro h21 E21
  have V21 : VS_ h21 := by rw [E21]; exact wA_254 V (by omega)
  have N21 : ∀ x l : Nat, ¬ (x = 160 ∧ l = 121) → ¬ (x = 254 ∧ l = i.toNat) → h21 x l = R x l := fun x l y1 y2 => by rw [E21, up_n y2]; exact Nr x l y1
  have d21 : h21 160 149 = i + 1 := by rw [N21 160 149 (by omega) (by omega)]; exact hd
  refine ok_sv (g_enter hn V21 (b := b2) (j := j2) (by omega) (by omega) (by omega)) ?_; intro u23 P23
  obtain ⟨V23, N23, d23, ⟨f1, f2, f3, f4⟩, z23⟩ := P23
  rw [d21] at N23 d23 f1 f2 f3 f4 z23
  have NN : ∀ x l : Nat, ¬ (x = 160 ∧ (l = 121 ∨ l = 149)) → ¬ (x = 254 ∧ l = i.toNat) → ¬ ((x = 251 ∨ x = 252 ∨ x = 253 ∨ x = 254) ∧ l = (i + 1).toNat) → ¬ (x = 255 ∧ 60 * (i + 1) ≤ (l : Int) ∧ (l : Int) < 60 * (i + 1) + 60) → u23 x l = R x l := fun x l y1 y2 y3 y4 => by rw [N23 x l (by omega) y3 y4]; exact N21 x l (by omega) y2
  have e254 : u23 254 i.toNat = R 254 i.toNat - n := by rw [N23 254 _ (by omega) (by omega) (by omega), E21, up_s]; omega
  -- the arguments
  have Q : ∀ (jj : Nat) (l : Int) (f : ms_M), VS_ f → (∀ x y : Nat, ¬ (x = 255 ∧ 60 * (i + 1) ≤ (y : Int) ∧ (y : Int) < 60 * (i + 1) + 60) → f x y = u23 x y) → (0 ≤ l ∧ l ≤ n) → (∀ y : Int, 0 ≤ y → y < l → f 255 (60 * (i + 1) + y).toNat = R 255 (60 * i + 30 + R 254 i.toNat - n + y).toNat) → (∀ y : Int, n ≤ y → y < 60 → 0 ≤ y → f 255 (60 * (i + 1) + y).toNat = 0) → n - l < (jj : Int) → Ok_ (qw_X13_call_228 nn jj n (60 * i + 30 + R 254 i.toNat - n) l f) (SQ nn g ω R) := by
    intro jj
    induction jj with
    | zero => intro l f Vf Nf hl D Z hm; exfalso; omega
    | succ jj ih =>
      intro l f Vf Nf hl D Z hm
      unfold qw_X13_call_228
      refine ok_if (fun C => ?_) (fun C => ?_)
      · -- the new frame stands
        have Nall : ∀ x l : Nat, ¬ (x = 160 ∧ (l = 121 ∨ l = 149)) → ¬ (x = 254 ∧ l = i.toNat) → ¬ ((x = 251 ∨ x = 252 ∨ x = 253 ∨ x = 254) ∧ l = (i + 1).toNat) → ¬ (x = 255 ∧ 60 * (i + 1) ≤ (l : Int) ∧ (l : Int) < 60 * (i + 1) + 60) → f x l = R x l := fun x l y1 y2 y3 y4 => by rw [Nf x l y4]; exact NN x l y1 y2 y3 y4
        have Ff : RFr R f := fun x l y1 y2 => Nall x l (by omega) (by omega) (by omega) (by omega)
        have K : HSM R f := ⟨fun x y1 y2 => funext fun l => Nall x l (by omega) (by omega) (by omega) (by omega), Nall 160 141 (by omega) (by omega) (by omega) (by omega), Nall 160 142 (by omega) (by omega) (by omega) (by omega)⟩
        have hx := hsm_x K
        have Lk : LWK R i f := ⟨fun y y1 y2 => ⟨Nall 251 _ (by omega) (by omega) (by omega) (by omega), Nall 252 _ (by omega) (by omega) (by omega) (by omega), Nall 253 _ (by omega) (by omega) (by omega) (by omega), Nall 254 _ (by omega) (by omega) (by omega) (by omega)⟩, fun y y1 y2 => Nall 255 _ (by omega) (by omega) (by omega) (by omega)⟩
        have df : f 160 149 = i + 2 := by rw [Nf 160 149 (by omega), d23]; omega
        refine ok_ret ⟨Vf, Ff, fun _ => ⟨by omega, hpo_s K H, t2, ?_, ?_⟩⟩
        · rw [df, show i + 2 - 1 = i + 1 by omega]
          have nd0 := (bd2.2.2.2.2.2.2.2 0 bd2.2.2.2.1.2).1
          have ini0 := bd2.2.2.2.2.1
          have loc2 := bd2.2.2.2.1.1
          have A3 := agd_sy (agd_tr A2 (nfl_agd nd0.1))
          have e129 : T2 0 160 129 = p2 160 129 := nd0.1 160 129 (by decide) (by decide)
          have m30 := mbd_129 bd2
          refine ⟨b2 - 8, j2, N2, T2, U2, 0, p2, ⟨⟨m2, L2, q2, bd2⟩, ⟨by omega, hb2.2⟩, ⟨?_, ?_⟩, bd2.2.2.2.1.2, ?_⟩, fun y y1 y2 => ?_, ?_, fun y y1 y2 => ?_⟩
          · rw [Nf 251 _ (by omega), f1]; omega
          · rw [Nf 252 _ (by omega), f2]
          · rw [Nf 253 _ (by omega), f3]; rfl
          · have gl := gts_c A3 (nd0.2.1 y y1 (by omega))
            have go := got_c (agd_sy A2) (ini0.1 y y1 y2)
            rw [s01] at go
            refine cv_x hx ?_
            unfold ini at go
            by_cases ys : y < n - m
            · rw [if_pos ys] at go
              rw [D y y1 (by omega)]
              have o2 : ¬ op = 184 := fun z => by rw [z, if_pos rfl] at en; omega
              have rr := rc o2
              rw [show 60 * i + 30 + R 254 i.toNat - n + y = 60 * i + 30 + (R 254 i.toNat - 1 - m) by omega]
              rw [show 8 + (b2 - 8) = b2 by omega] at go
              exact cv_goes hn XV0 ⟨by omega, by omega⟩ gl go rr
            · rw [if_neg ys] at go
              by_cases ym : y < n - m + m2
              · rw [if_pos ym] at go
                rw [D y y1 (by omega)]
                have yy : 0 ≤ y - (n - m) ∧ y - (n - m) < m := by omega
                rw [← eL (y - (n - m)) yy.1 yy.2] at go
                have gL : GTs g (L (y - (n - m))) := by
                  have RL : ∀ (l : Nat) (i' p' q' : Int), PVn nn g c (ω c 238) L l i' p' q' → ∀ u : Int, i' ≤ u → u < i' + l → GTs g (L u) := by
                    intro l
                    induction l with
                    | zero => intro i' p' q' _ u u1 u2; exfalso; omega
                    | succ l ihl =>
                      intro i' p' q' Y u u1 u2
                      obtain ⟨e', ⟨x1, x2⟩, x3⟩ := Y
                      by_cases u0 : u = i'
                      · rw [u0]; exact ktv_rg Vg x2
                      · exact ihl _ _ _ x3 u (by omega) (by omega)
                  exact RL _ 0 _ _ tk.2.1 _ yy.1 (by omega)
                have cvv := rtp_go hn X (y := m - 1 - (y - (n - m))) (by omega) (by omega) (ar _ yy.1 yy.2) gL
                rw [show 60 * i + 30 + (R 254 i.toNat - 1 - (m - 1 - (y - (n - m)))) = 60 * i + 30 + R 254 i.toNat - n + y by omega] at cvv
                exact cv_goes hn XV0 gL gl go cvv
              · rw [if_neg ym] at go
                rw [got_f0 go]
                exact cv_t
          · rw [Nf 254 _ (by omega), f4, ini0.2]
          · rw [ini0.2] at y2; exfalso; omega
        · rw [df, show (i + 2 - 1).toNat = i.toNat + 1 by omega]
          refine ⟨t, ⟨c, k, N, T, U, a, p, n, ?_, ⟨by rw [← eo]; exact hop, by rw [← et]; exact us⟩, fun y y1 y2 => ?_, ?_, fun y y1 y2 => ?_⟩, stk_k _ _ (by rw [show ((i.toNat : Nat) : Int) = i by omega]; exact Lk) hx X.st⟩
          · rw [show ((i.toNat : Nat) : Int) = i by omega]
            obtain ⟨b1, b2', b3, b4, b5⟩ := X.2.1
            exact ⟨b1, b2', ⟨by rw [Nall 251 _ (by omega) (by omega) (by omega) (by omega)]; exact b3.1, by rw [Nall 252 _ (by omega) (by omega) (by omega) (by omega)]; exact b3.2⟩, b4, by rw [Nall 253 _ (by omega) (by omega) (by omega) (by omega)]; exact b5⟩
          · rw [show ((i.toNat : Nat) : Int) = i by omega, Nall 255 _ (by omega) (by omega) (by omega) (by omega)]
            exact cv_x hx (X.cf.1 y y1 y2)
          · rw [show ((i.toNat : Nat) : Int) = i by omega, Nf 254 _ (by omega), e254]; omega
          · rw [show ((i.toNat : Nat) : Int) = i by omega, Nall 255 _ (by omega) (by omega) (by omega) (by omega)]
            exact cv_x hx (X.cf.2.2 y y1 (by omega))
      · have df : f 160 149 = i + 2 := by rw [Nf 160 149 (by omega), d23]; omega
        rw [df]
        refine ok_sub (by omega) ?_; intro v3 e3
        refine ok_mul (by omega) ?_; intro v4 e4
        refine ok_add (by omega) ?_; intro v5 e5
        refine ok_add (by omega) ?_; intro v7 e7
        refine ok_rd (by omega) (gA_255 Vf) ?_; intro v8 e8 b1 b2
        refine ok_wA (by omega) ?_; intro h9 E9
        refine ok_add (by omega) ?_; intro v10 e10
        rw [e10]
        have e8' : v8 = R 255 (60 * i + 30 + R 254 i.toNat - n + l).toNat := by
          rw [e8, Nf 255 _ (by omega), NN 255 _ (by omega) (by omega) (by omega) (by omega), show v7 = 60 * i + 30 + R 254 i.toNat - n + l by omega]
        refine ih (l + 1) h9 (by rw [E9]; exact wA_255 Vf ⟨b1, b2⟩) (fun x y y1 => ?_) (by omega) (fun y y1 y2 => ?_) (fun y y1 y2 y3 => ?_) (by omega)
        · rw [E9, up_n (by omega)]; exact Nf x y y1
        · by_cases y0 : y = l
          · rw [y0, show 60 * (i + 1) + l = v5 by omega, E9, up_s]; exact e8'
          · rw [E9, up_n (by omega)]; exact D y y1 (by omega)
        · rw [E9, up_n (by omega)]; exact Z y y1 y2 y3
  exact Q nn 0 u23 V23 (fun _ _ _ => rfl) (by omega) (fun y y1 y2 => by exfalso; omega) (fun y y1 y2 y3 => z23 y y3 y2) (by omega)
/-- calls -/
theorem st_call (hn : 1000000 ≤ nn) (X : RTP nn g ω R i c k N T U t a p) {op o : Int} (eo : op = ω c 238 (p 160 134 + bp (ω c) (p 160 134) a).toNat) (W : WN nn (T a) ω c (ω c) t op o (U a)) (ho : op = 182 ∨ op = 184) : Ok_ (mx_sv (qf_X13_call nn op o R) fun u24 => some u24) (SQ nn g ω R) := by
  have V := X.vs
  have hi := X.hi
  have hd := X.hd
  have s := X.s
  have H := X.hp
  have XV := X.rx.1
  have XV0 := XV
  have AE := X.rx.2.1
  obtain ⟨⟨Vg, Sg⟩, O, CA, MO⟩ := XV
  have g98 := gF_160_98 Vg
  have g141 := gF_160_141 V
  have ck := X.ck
  have e1 := X.e1
  have hc7 : 0 ≤ c ∧ c ≤ 7 := by omega
  have P0 := rpo_rf V hi
  have At := X.at
  have Wg := O c ck.1.1 ck.1.2
  have WR := wi_e AE ck.1 Wg
  have g3 := gF_160_113 Wg.1
  have sv : ∀ y : Option ms_M, (mx_sv y fun u => some u) = y := fun y => by cases y <;> rfl
  rw [sv]
  obtain ⟨u, bb, j, m, L, q, tc, ⟨mr0, fl0⟩, tk0, ar, us⟩ := wnx_22 W ho
  have mr := mrf_c At mr0
  have tk := tkv_c (agd_c At) tk0
  have fl : ω (bb - 8) 238 (g 235 (12 * (bb - 8) + j).toNat).toNat = (if op = 184 then 1 else 0) := by rw [agd_f At (x := 235) (by decide) (by decide)]; exact fl0
  have mrr := mr
  obtain ⟨st4, ⟨ub, ct⟩, hs, hbb, hj, eqt⟩ := mr
  have ckk := (Wg.2.1.2.2 o st4.1.1 st4.1.2).2 st4.2
  have cl : CL (ω c) c (ω c 238 (pl (ω c) c o + 1 + 0).toNat) := by rw [show pl (ω c) c o + 1 + 0 = pl (ω c) c o + 1 by omega]; exact ckk.1
  have tx1 : TX (ω c) c (ω c 238 (pl (ω c) c o + 1 + 1).toNat) := by rw [show pl (ω c) c o + 1 + 1 = pl (ω c) c o + 2 by omega]; exact ckk.2.1.1
  have tx2 : TX (ω c) c (ω c 238 (pl (ω c) c o + 1 + 2).toNat) := by rw [show pl (ω c) c o + 1 + 2 = pl (ω c) c o + 3 by omega]; exact ckk.2.2.1
  obtain ⟨a1, a2, a3, a4, a5⟩ := wi_tx WR hc7 tx2
  -- how many parameters
  have Wb := O (bb - 8) (by omega) (by omega)
  have mkn : MKn (ω c 238) m.toNat (pl (ω c) c (ω c 238 (pl (ω c) c o + 1 + 2).toNat) + 2) (pl (ω c) c (ω c 238 (pl (ω c) c o + 1 + 2).toNat) + 2 + ω c 238 (pl (ω c) c (ω c 238 (pl (ω c) c o + 1 + 2).toNat) + 1).toNat) := by
    refine ⟨?_, q, pv_pr _ _ _ _ tk.2.1, tk.2.2.1, tk.2.2.2.1⟩
    obtain ⟨_, _, mt⟩ := wi_mt Wb (by omega) hj
    obtain ⟨mm, _, k40, _⟩ := (mth_tx mt).2.2.2.2.1 rfl
    have e0 := eqt.2 0 (by omega) (by
      obtain ⟨_, _, _, b4, _⟩ := wi_tx Wb (by omega) (mth_tx mt).2.1
      have : kdT g ω (bb - 8) 1 j = ω (bb - 8) 238 (g 235 (12 * (bb - 8) + j).toNat + 2).toNat := rfl
      rw [this]; omega)
    have ek : kdT g ω (bb - 8) 1 j = ω (bb - 8) 238 (g 235 (12 * (bb - 8) + j).toNat + 2).toNat := rfl
    rw [ek] at e0
    rw [show pl (ω c) c (ω c 238 (pl (ω c) c o + 1 + 2).toNat) + 2 + 0 = pl (ω c) c (ω c 238 (pl (ω c) c o + 1 + 2).toNat) + 2 by omega, show pl (ω (bb - 8)) (bb - 8) (ω (bb - 8) 238 (g 235 (12 * (bb - 8) + j).toNat + 2).toNat) + 2 + 0 = pl (ω (bb - 8)) (bb - 8) (ω (bb - 8) 238 (g 235 (12 * (bb - 8) + j).toNat + 2).toNat) + 2 by omega] at e0
    rw [← e0]; exact k40
  have eb : EB (ω c 238) (R 226) (pl (ω c) c (ω c 238 (pl (ω c) c o + 1 + 2).toNat) + 2) (6000 * c + (pl (ω c) c (ω c 238 (pl (ω c) c o + 1 + 2).toNat) + 2)) (ω c 238 (pl (ω c) c (ω c 238 (pl (ω c) c o + 1 + 2).toNat) + 1).toNat) := fun l l0 l1 => by
    rw [show 6000 * c + (pl (ω c) c (ω c 238 (pl (ω c) c o + 1 + 2).toNat) + 2) + l = 6000 * c + (pl (ω c) c (ω c 238 (pl (ω c) c o + 1 + 2).toNat) + 2 + l) by omega, WR.2.2.1 _ (by omega) (by omega)]
  have mkR := mkn_p eb mkn
  have m6 := tk.1
  unfold qf_X13_call
  rw [hd]
  refine ok_sub (by omega) ?_; intro v52 e52
  rw [show v52 = i by omega]
  refine ok_rd (by omega) (gA_251 V) ?_; intro v53 e53 _ _
  refine ok_sub (by omega) ?_; intro v54 e54
  rw [show v54 = c by omega]
  refine ok_mul (by omega) ?_; intro v55 e55
  refine ok_mul (by omega) ?_; intro v57 e57
  refine ok_sv (g_part X.rx hd hi ck.1 e1.1 st4 (by decide)) ?_; intro u59 P59
  rw [P59.1]
  refine ok_add (by omega) ?_; intro v60 e60
  refine ok_rd (by omega) (gA_228 V) ?_; intro v61 e61 _ _
  rw [e60, e57, a2] at e61
  refine ok_add (by omega) ?_; intro v62 e62
  refine ok_add (by omega) ?_; intro v64 e64
  refine ok_add (by omega) ?_; intro v66 e66
  refine ok_rd (by omega) (gA_226 V) ?_; intro v67 e67 _ _
  rw [show v66 = 6000 * c + pl (ω c) c (ω c 238 (pl (ω c) c o + 1 + 2).toNat) + 1 by omega, a5] at e67
  rw [show v64 = 6000 * c + (pl (ω c) c (ω c 238 (pl (ω c) c o + 1 + 2).toNat) + 2) by omega, e67]
  refine ok_sv (rn_pars hn V (by omega) mkR) ?_; intro u68 P68
  have q68 : u68 = m := by rw [P68]; omega
  rw [q68]
  -- the rest: n values
  have C72 : ∀ s0 : Int, s0 = (if op = 184 then 0 else 1) → Ok_ (qj_X13_call_72 nn op o c s0 m R) (SQ nn g ω R) := fun s0 es => by
    have usn : ∃ n : Int, n = m + s0 ∧ n ≤ T a 160 131 ∧ ((tc = 0 ∧ POP (T a) n (U a)) ∨ (¬ tc = 0 ∧ PS1 (T a) n tc (U a))) ∧ (¬ op = 184 → GOt nn (T a) (tp (T a) m) (4 + 2 * u)) := by
      rcases us with ⟨z1, z2⟩ | ⟨z1, z2, z3⟩
      · rw [if_pos z1] at es
        refine ⟨m, by omega, ?_, z2, fun z => absurd z1 z⟩
        rcases z2 with z2 | z2
        · exact z2.2.2.2.2
        · exact z2.2.2.2.1.2
      · rw [if_neg z1] at es
        refine ⟨m + 1, by omega, ?_, z3, fun _ => z2⟩
        rcases z3 with z3 | z3
        · exact z3.2.2.2.2
        · exact z3.2.2.2.1.2
    obtain ⟨n, en, ln, usn, gou⟩ := usn
    have s1 : s0 = 0 ∨ s0 = 1 := by
      rw [es]
      by_cases z : op = 184
      · rw [if_pos z]; exact .inl rfl
      · rw [if_neg z]; exact .inr rfl
    unfold qj_X13_call_72
    rw [hd]
    refine ok_add (by omega) ?_; intro v26 e26
    refine ok_sub (by omega) ?_; intro v28 e28
    rw [show v28 = i by omega, show v26 = n by omega]
    refine ok_mul (by omega) ?_; intro v29 e29
    refine ok_add (by omega) ?_; intro v30 e30
    refine ok_rd (by omega) (gA_254 V) ?_; intro v32 e32 _ _
    refine ok_add (by omega) ?_; intro v33 e33
    refine ok_sub (by omega) ?_; intro v34 e34
    rw [show v34 = 60 * i + 30 + R 254 i.toNat - n by omega]
    refine ok_sv (g_part X.rx hd hi ck.1 e1.1 st4 (by decide)) ?_; intro u36 P36
    rw [P36.1]
    refine ok_sv (g_classIn X.rx hd hi ck.1 e1.1 cl ct) ?_; intro u38 P38
    rw [P38]
    have C168 : ∀ D b2 j2 : Int, (0 ≤ D ∧ D < 8 + g 160 98) → HSn nn g ω (ω c) c (ω c 238 (pl (ω c) c o + 1 + 1).toNat) 1 17 D b2 j2 → ((8 ≤ b2 ∧ b2 < 8 + g 160 98) ∧ (0 ≤ j2 ∧ j2 < mem g (b2 - 8) 1)) → EQT (ω (b2 - 8)) (b2 - 8) (kdT g ω (b2 - 8) 1 j2) (ω (bb - 8)) (bb - 8) (kdT g ω (bb - 8) 1 j) → ω (b2 - 8) 238 (g 235 (12 * (b2 - 8) + j2).toNat).toNat = (if op = 184 then 1 else 0) → (¬ op = 184 → CVt nn g R (4 + 2 * b2) (R 255 (60 * i + 30 + (R 254 i.toNat - 1 - m)).toNat)) → Ok_ (qj_X13_call_168 nn o c n i (60 * i + 30 + R 254 i.toNat - n) D R) (SQ nn g ω R) := fun D b2 j2 hD hs2 hb2 eq2 fl2 rc => by
      unfold qj_X13_call_168
      refine ok_sv (g_part X.rx hd hi ck.1 e1.1 st4 (by decide)) ?_; intro u13 P13
      rw [P13.1]
      refine ok_sv (rt_holder hn V X.rx.2.2.2 (om_e AE O) hc7 WR (f := D) (s := 1) (by rw [AE.1]; omega) tx1) ?_; intro u15 P15
      obtain ⟨j3, hs3, P15⟩ := P15
      have hs4 := hsn_e hn XV0 AE V _ _ _ _ (by omega) hs3
      obtain ⟨eb2, ej2⟩ := hsn_det _ _ _ _ _ _ hs2 hs4
      have ej2 := ej2 (by omega)
      have p15 : u15.2 = up_M R 160 121 j3 := by
        rcases P15 with z | z
        · exfalso; omega
        · exact z.2.2
      have j12 : j2 < 12 := (wi_mt (O (b2 - 8) (by omega) (by omega)) (by omega) hb2.2).1
      have V15 : VS_ u15.2 := by rw [p15]; exact wF_160_121 V (by omega)
      have N15 : ∀ x y : Nat, ¬ (x = 160 ∧ y = 121) → u15.2 x y = R x y := fun x y z => by rw [p15, up_n z]
      have f121 : u15.2 160 121 = j2 := by rw [p15, up_s]; omega
      have F15 : RFr R u15.2 := fun x y z1 z2 => N15 x y (by omega)
      rw [N15 160 149 (by omega), hd, f121, ← eb2]
      refine ok_if (fun d60 => ?_) (fun d60 => ?_)
      · exact run_call hn X eo ho (n := n) (by rw [en, es]) ln hb2 fl2 tx2 (eqt_tr eq2 eqt) tk ar rc usn V15 F15 N15 (by omega)
      · refine ok_xl ?_; intro h24 E24
        refine ok_ret ⟨by rw [E24]; exact wF_160_138 V15 (by omega), rfr_tr F15 (fun x l y1 y2 => by rw [E24, up_n (by omega)]), fun z => ?_⟩
        rw [E24, up_s] at z
        exact absurd z (by decide)
    refine ok_if (fun n182 => ?_) (fun y182 => ?_)
    · have o4 : op = 184 := by omega
      exact C168 u bb j (by omega) hs ⟨hbb, hj⟩ eqt_rf fl (fun z => absurd o4 z)
    · have y182 : op = 182 := Decidable.not_not.1 y182
      have n4 : ¬ op = 184 := by omega
      rw [if_neg n4] at es fl
      refine ok_rd (by omega) (gA_255 V) ?_; intro v40 e40 _ _
      have cv := rtp_go hn X (y := m) (by omega) (by omega) (gou n4) ⟨by omega, by omega⟩
      rw [show 60 * i + 30 + R 254 i.toNat - n = 60 * i + 30 + (R 254 i.toNat - 1 - m) by omega] at e40
      rw [← e40] at cv
      refine ok_if (fun o0 => ?_) (fun _ => end_fails hn X V P0 (by decide))
      have un : (1 ≤ v40 ∧ v40 ≤ R 160 141) ∧ R 246 v40.toNat < 99 ∧ UNd nn g (R 246 v40.toNat) u := by
        rcases cv with z | z | z | ⟨z0, z⟩
        · exfalso; omega
        · exfalso; omega
        · exact absurd z o0
        · refine ⟨z0, ?_⟩
          rcases z with z | ⟨y, y0, z1, z2⟩ | ⟨y, y0, z1, z2⟩
          · exfalso; omega
          · rw [show y = u by omega] at z2
            rcases z2 with z2 | z2
            · exfalso
              obtain ⟨ml, up⟩ := hsn_up _ _ _ _ hs (by omega)
              rw [z2.2] at up
              have := und_0 ⟨show ¬ bb = -1 by omega, ml, up⟩
              omega
            · exact z2
          · exfalso; omega
      obtain ⟨ob, so, _, nl, up⟩ := un
      have sr : 0 ≤ R 246 v40.toNat ∧ R 246 v40.toNat < 8 + g 160 98 := by
        rcases (H.1 v40 ob.1 ob.2).2 with z | z | z
        · exact z.2.1
        · exfalso; omega
        · exfalso; omega
      obtain ⟨b2, j2, hs2, hb2, eq2, fl2⟩ := hsn_ov hn XV0 hs hbb hj fl nl (R 246 v40.toNat) sr up
      refine ok_rd (by omega) (gA_246 V) ?_; intro v42 e42 _ _
      refine ok_if (fun _ => ?_) (fun z => by exfalso; omega)
      refine ok_rd (by omega) (gA_246 V) ?_; intro v44 e44 _ _
      unfold qj_X13_call_166
      rw [e44]
      refine C168 _ b2 j2 sr hs2 hb2 eq2 (by rw [if_neg n4]; exact fl2) (fun _ => ?_)
      rw [← e40]
      obtain ⟨nl2, up2⟩ := hsn_up _ _ _ _ hs2 (by omega)
      exact .inr (.inr (.inr ⟨ob, .inr (.inl ⟨b2, by omega, rfl, .inr ⟨so, by omega, nl2, up2⟩⟩)⟩))
  rcases ho with q | q
  · rw [if_neg (show ¬ ¬ op = 182 by omega)]
    exact C72 1 (by rw [if_neg (by omega)])
  · rw [if_pos (show ¬ op = 182 by omega)]
    exact C72 0 (by rw [if_pos q])
end
end
section
section
variable {nn : Nat} {h g r z w v x f R p : ms_M} {c d e k : Int} {ω : Int → ms_M} {N : Nat} {T U : Nat → ms_M} {i t : Int} {a : Nat}
theorem st_intOf (X : RTP nn g ω R i c k N T U t a p) {o : Int} (s : SRT (ω c) c o 2) : Ok_ (qf_X13_intOf nn o R) (fun u => -2147483648 ≤ u ∧ u ≤ 2147483647) := by
  have V := X.vs
  have hi := X.hi
  have AE := X.rx.2.1
  obtain ⟨⟨Vg, Sg⟩, O, CA, _⟩ := X.rx.1
  have g98 := gF_160_98 Vg
  have ck := X.ck
  have e1 := X.e1
  have hc7 : 0 ≤ c ∧ c ≤ 7 := by omega
  have W := wi_e AE ck.1 (O c ck.1.1 ck.1.2)
  have g3 := gF_160_113 W.1
  obtain ⟨a1, a2, a3, a4, _⟩ := wi_cs W hc7 s.1
  have a4 := a4 s.2
  have s1 := s.1
  unfold qf_X13_intOf
  rw [X.hd]
  refine ok_sub (by omega) ?_; intro v3 e3
  rw [show v3 = i by omega]
  refine ok_rd (by omega) (gA_251 V) ?_; intro v4 e4 _ _
  refine ok_sub (by omega) ?_; intro v5 e5
  rw [show v5 = c by omega]
  refine ok_mul (by omega) ?_; intro v7 e7
  refine ok_add (by omega) ?_; intro v8 e8
  refine ok_rd (by omega) (gA_228 V) ?_; intro v9 e9 _ _
  rw [e8, e7, a2] at e9
  refine ok_add (by omega) ?_; intro v10 e10
  refine ok_sv (mv_bytew V hc7 W (by omega)) ?_; intro u12 _
  refine ok_xl ?_; intro v13 _
  refine ok_add (by omega) ?_; intro v14 e14
  refine ok_sv (mv_bytew V hc7 W (by omega)) ?_; intro u16 _
  refine ok_xl ?_; intro v17 _
  refine ok_xl ?_; intro v18 _
  refine ok_add (by omega) ?_; intro v19 e19
  refine ok_sv (mv_bytew V hc7 W (by omega)) ?_; intro u21 _
  refine ok_xl ?_; intro v22 _
  refine ok_xl ?_; intro v23 _
  refine ok_add (by omega) ?_; intro v24 e24
  refine ok_sv (mv_bytew V hc7 W (by omega)) ?_; intro u26 _
  refine ok_xl ?_; intro v27 e27
  rw [e27]
  exact ok_ret int_rg
/-- a jump, or not -/
theorem st_jmp (hn : 1000000 ≤ nn) (X : RTP nn g ω R i c k N T U t a p) {op o : Int} (eo : op = ω c 238 (p 160 134 + bp (ω c) (p 160 134) a).toNat) (W : WN nn (T a) ω c (ω c) t op o (U a)) (ho : op = 153 ∨ op = 154 ∨ (159 ≤ op ∧ op ≤ 167)) {b : Int} (hb : b = WD (ω c 238 (p 160 134 + bp (ω c) (p 160 134) a).toNat)) : Ok_ (qj_X13_step_1122 nn (bp (ω c) (p 160 134) a) op b R) (SQ nn g ω R) := by
  have V := X.vs
  have hi := X.hi
  have hd := X.hd
  have s := X.s
  have P0 := rpo_rf V hi
  have ins := X.ins
  have cd := mc_code X.mc
  have w3 : WD (ω c 238 (p 160 134 + bp (ω c) (p 160 134) a).toNat) = 3 := by
    rw [← eo] at ins ⊢
    exact wd_jump (by omega) ins.2.1
  obtain ⟨n, po⟩ : ∃ n : Int, (op = 167 ∧ n = 0 ∨ (op = 153 ∨ op = 154) ∧ n = 1 ∨ (159 ≤ op ∧ op ≤ 166) ∧ n = 2) ∧ POP (T a) n (U a) := by
    by_cases z : op = 167
    · exact ⟨0, .inl ⟨z, rfl⟩, wnx_0 W (.inr z)⟩
    · by_cases z1 : op = 153 ∨ op = 154
      · exact ⟨1, .inr (.inl ⟨z1, rfl⟩), (wnx_14 W (by omega)).2⟩
      · by_cases z2 : op ≤ 164
        · exact ⟨2, .inr (.inr ⟨by omega, rfl⟩), (wnx_15 W (by omega)).2.2⟩
        · exact ⟨2, .inr (.inr ⟨by omega, rfl⟩), (wnx_16 W (by omega)).2.2⟩
  obtain ⟨on, po⟩ := po
  have ln := po.2.2
  -- the question
  have J : Ok_ (qf_X13_jumps nn op R) (fun u => VS_ u.2 ∧ RPO R i n u.2 ∧ (u.1 = 0 → ¬ op = 167)) := by
    unfold qf_X13_jumps qj_X13_jumps_100 qj_X13_jumps_111 qj_X13_jumps_155
    refine ok_if (fun n167 => ?_) (fun y167 => ?_)
    · refine ok_sv (g_drop V P0 hd hi (by omega) (by omega)) ?_; intro u5 P5
      refine ok_if (fun n153 => ?_) (fun y153 => ?_)
      · refine ok_if (fun n154 => ?_) (fun y154 => ?_)
        · refine ok_sv (g_drop P5.1 P5.2.1 hd hi (by omega) (by omega)) ?_; intro u7 P7
          have e2 : n = 0 + 1 + 1 := by omega
          have fin : ∀ y : Int, Ok_ (some (y, u7.2)) (fun u => VS_ u.2 ∧ RPO R i n u.2 ∧ (u.1 = 0 → ¬ op = 167)) := fun y => ok_ret ⟨P7.1, by rw [e2]; exact P7.2.1, fun _ => n167⟩
          refine ok_if (fun _ => ok_if (fun _ => fin _) (fun _ => fin _)) (fun _ => ?_)
          refine ok_if (fun _ => ok_if (fun _ => fin _) (fun _ => fin _)) (fun _ => ?_)
          refine ok_if (fun _ => ok_if (fun _ => fin _) (fun _ => fin _)) (fun _ => ?_)
          refine ok_if (fun _ => ok_if (fun _ => fin _) (fun _ => fin _)) (fun _ => ?_)
          refine ok_if (fun _ => ok_if (fun _ => fin _) (fun _ => fin _)) (fun _ => ?_)
          refine ok_if (fun _ => ok_if (fun _ => fin _) (fun _ => fin _)) (fun _ => ?_)
          refine ok_if (fun _ => ok_if (fun _ => fin _) (fun _ => fin _)) (fun _ => ?_)
          exact ok_if (fun _ => fin _) (fun _ => fin _)
        · have e2 : n = 0 + 1 := by omega
          have fin : ∀ y : Int, Ok_ (some (y, u5.2)) (fun u => VS_ u.2 ∧ RPO R i n u.2 ∧ (u.1 = 0 → ¬ op = 167)) := fun y => ok_ret ⟨P5.1, by rw [e2]; exact P5.2.1, fun _ => n167⟩
          exact ok_if (fun _ => fin _) (fun _ => fin _)
      · have e2 : n = 0 + 1 := by omega
        have fin : ∀ y : Int, Ok_ (some (y, u5.2)) (fun u => VS_ u.2 ∧ RPO R i n u.2 ∧ (u.1 = 0 → ¬ op = 167)) := fun y => ok_ret ⟨P5.1, by rw [e2]; exact P5.2.1, fun _ => n167⟩
        exact ok_if (fun _ => fin _) (fun _ => fin _)
    · have e2 : n = 0 := by omega
      exact ok_ret ⟨V, by rw [e2]; exact P0, fun z => absurd (show (1 : Int) = 0 from z) (by decide)⟩
  unfold qj_X13_step_1122 qj_X13_step_1150
  refine ok_sv J ?_; intro u4 P4
  obtain ⟨V4, Q4, q4⟩ := P4
  obtain ⟨⟨k1, k2, k3⟩, k4, k5⟩ := rpo_k hi.1 Q4
  refine ok_if (fun z => ?_) (fun z => ?_)
  · have := q4 z
    exact end_po hn X po V4 Q4 (by rw [← eo]; omega) hb
  · have X4 := rx_k k1 V4 X.rx
    have A4 : ATF nn g ω u4.2 i c k N T U t a p := by
      obtain ⟨b1, b2, b3, b4, b5⟩ := X.2.1
      exact ⟨b1, b2, ⟨by rw [k5.1]; exact b3.1, by rw [k5.2.1]; exact b3.2⟩, b4, by rw [k5.2.2]; exact b5⟩
    have d4 : u4.2 160 149 = i + 1 := by rw [k4]; exact hd
    have il : bp (ω c) (p 160 134) a + WD (ω c 238 (p 160 134 + bp (ω c) (p 160 134) a).toNat) ≤ p 160 135 := ins.2.2
    refine ok_add (by omega) ?_; intro v5 e5
    refine ok_sv (g_op X4 A4 d4 hi (q := v5) (by omega)) ?_; intro u7 P7
    refine ok_shl8 P7.2 ?_; intro v8 e8
    refine ok_add (by omega) ?_; intro v9 e9
    refine ok_sv (g_op X4 A4 d4 hi (q := v9) (by omega)) ?_; intro u11 P11
    refine ok_xl ?_; intro v12 e12
    refine ok_xl ?_; intro v13 e13
    have b13 := oq_s_rg (v := v12)
    rw [← e13] at b13
    refine ok_sv (g_on V4 d4 hi (by omega) (by rw [k5.2.2, X.e3]; omega)) ?_; intro r P
    obtain ⟨Vr, Nr, er⟩ := P
    have Fr : RFr R r := rfr_tr k1 (fun x j y1 y2 => Nr x j (by omega))
    refine ok_ret ⟨Vr, Fr, fun _ => ?_⟩
    have K : HSM R r := hsm_tr k2 ⟨fun x y1 y2 => funext fun j => Nr x j (by omega), Nr 160 141 (by omega), Nr 160 142 (by omega)⟩
    have Lr : LWK R i r := lwk_tr k3 ⟨fun y y1 y2 => ⟨Nr 251 _ (by omega), Nr 252 _ (by omega), Nr 253 _ (by omega), Nr 254 _ (by omega)⟩, fun y y1 y2 => Nr 255 _ (by omega)⟩
    have pl : r 253 i.toNat = AIM (ω c) (p 160 134) (bp (ω c) (p 160 134) a) := by
      unfold AIM pw
      rw [er, k5.2.2, X.e3, e13, e12, e8, P7.1, P11.1, e5, e9]
    obtain ⟨n1, n2, n3, n4, n5, n6, n7, n8⟩ := X.nd
    obtain ⟨u', m1, L1, m2, K1, ff, ft, fit⟩ := n7 (by rw [← eo]; omega)
    obtain ⟨⟨m, L, q, bd⟩, ck, e1', aN, e3⟩ := X.2.1
    have CU : CFS nn g r i (p 160 129) (U a) := by
      have C4 := cfs_po X.s.2.2.1.2 X.hi.1 X.cf po Q4
      have hx : HX u4.2 r := ⟨by rw [Nr 160 141 (by omega)]; omega, fun o _ _ => Nr 246 _ (by omega)⟩
      exact ⟨fun y y1 y2 => by rw [Nr 255 _ (by omega)]; exact cv_x hx (C4.1 y y1 y2), by rw [Nr 254 _ (by omega)]; exact C4.2.1, fun y y1 y2 => by rw [Nr 255 _ (by omega)]; exact cv_x hx (C4.2.2 y y1 y2)⟩
    refine run_frame hn (rx_k Fr Vr X.rx) bd ck ⟨by rw [Nr 251 _ (by omega), k5.1]; exact e1'.1, by rw [Nr 252 _ (by omega), k5.2.1]; exact e1'.2⟩ ff ft pl (fun b' hb' B LS NF => cfs_fit hn X.rx.1 bd.1.1 n6.1 n6.2 NF LS (fit_f fit B) CU) (hpo_s K X.hp) (by rw [Nr 160 149 (by omega)]; exact d4) hi (stk_k _ _ (by rw [show ((i.toNat : Nat) : Int) = i by omega]; exact Lr) (hsm_x K) X.st)
/-- what a step leaves: at most one print more -/
def SPr (nn : Nat) (g : ms_M) (ω : Int → ms_M) (R r : ms_M) : Prop := VS_ r ∧ (∀ x j : Nat, ¬ (246 ≤ x ∧ x ≤ 255) → ¬ (x = 160 ∧ (j = 121 ∨ (138 ≤ j ∧ j ≤ 149))) → r x j = R x j) ∧ (r 160 143 = R 160 143 ∨ r 160 143 = R 160 143 + 1) ∧ (r 160 138 = 1 → RUN1 nn g ω r)
theorem spq {y : Option ms_M} (Y : Ok_ y (SQ nn g ω R)) : Ok_ y (SPr nn g ω R) := ok_im Y (fun r Q => ⟨Q.1, fun x j y1 y2 => Q.2.1 x j y1 (by omega), .inl (Q.2.1 160 143 (by decide) (by decide)), Q.2.2⟩)
theorem rtp_p {R1 : ms_M} (X : RTP nn g ω R i c k N T U t a p) (V1 : VS_ R1) (N1 : ∀ x l : Nat, ¬ (x = 250) → ¬ (x = 160 ∧ l = 143) → R1 x l = R x l) : RTP nn g ω R1 i c k N T U t a p := by
  have hi := X.hi
  have K : HSM R R1 := ⟨fun x y1 y2 => funext fun l => N1 x l (by omega) (by omega), N1 160 141 (by omega) (by omega), N1 160 142 (by omega) (by omega)⟩
  have hx := hsm_x K
  have A : ∀ x j : Nat, 226 ≤ x → x ≤ 237 → R1 x j = R x j := fun x j y1 y2 => N1 x j (by omega) (by omega)
  have e98 := N1 160 98 (by omega) (by omega)
  obtain ⟨b1, b2, b3, b4, b5⟩ := X.2.1
  refine ⟨⟨⟨X.rx.1, age_tr X.rx.2.1 (age_k A e98), V1, spd_k X.vs A e98 X.rx.2.2.2⟩, hpo_s K X.hp, by rw [N1 160 149 (by omega) (by omega)]; exact X.hd, hi⟩, ⟨b1, b2, ⟨by rw [N1 251 _ (by omega) (by omega)]; exact b3.1, by rw [N1 252 _ (by omega) (by omega)]; exact b3.2⟩, b4, by rw [N1 253 _ (by omega) (by omega)]; exact b5⟩, ⟨fun y y1 y2 => ?_, ?_, fun y y1 y2 => ?_⟩, stk_k _ _ ⟨fun y y1 y2 => ⟨N1 251 _ (by omega) (by omega), N1 252 _ (by omega) (by omega), N1 253 _ (by omega) (by omega), N1 254 _ (by omega) (by omega)⟩, fun y y1 y2 => N1 255 _ (by omega) (by omega)⟩ hx X.st⟩
  · rw [N1 255 _ (by omega) (by omega)]; exact cv_x hx (X.cf.1 y y1 y2)
  · rw [N1 254 _ (by omega) (by omega)]; exact X.cf.2.1
  · rw [N1 255 _ (by omega) (by omega)]; exact cv_x hx (X.cf.2.2 y y1 y2)
/-- one step -/
theorem st_39 (hn : 1000000 ≤ nn) (X : RTP nn g ω R i c k N T U t a p) {op o b : Int} (eo : op = ω c 238 (p 160 134 + bp (ω c) (p 160 134) a).toNat) (h1 : 1 ≤ WD op) (ho : 0 ≤ op ∧ op ≤ 255) (hi2 : 0 ≤ o ∧ o ≤ 255) (hb : b = WD op) (RG : RGT nn p ω c (ω c) op o) (W : WN nn (T a) ω c (ω c) t op o (U a)) (pr : 0 ≤ R 160 143 ∧ R 160 143 ≤ 2000000000) : Ok_ (qj_X13_step_39 nn (bp (ω c) (p 160 134) a) op b o R) (SPr nn g ω R) := by
  have V := X.vs
  have hi := X.hi
  have hd := X.hd
  have s := X.s
  have P0 := rpo_rf V hi
  have m30 := s.2.2.1
  have hb' : b = WD (ω c 238 (p 160 134 + bp (ω c) (p 160 134) a).toNat) := by rw [← eo]; exact hb
  have nt : ¬ (op = 167 ∨ op = 172 ∨ op = 176 ∨ op = 177 ∨ op = 191) → ¬ (ω c 238 (p 160 134 + bp (ω c) (p 160 134) a).toNat = 167 ∨ ω c 238 (p 160 134 + bp (ω c) (p 160 134) a).toNat = 172 ∨ ω c 238 (p 160 134 + bp (ω c) (p 160 134) a).toNat = 176 ∨ ω c 238 (p 160 134 + bp (ω c) (p 160 134) a).toNat = 177 ∨ ω c 238 (p 160 134 + bp (ω c) (p 160 134) a).toNat = 191) := fun z => by rw [← eo]; exact z
  have val : ∀ y : Int, 0 ≤ y → y < R 254 i.toNat → -2147483648 ≤ R 255 (60 * i + 30 + (R 254 i.toNat - 1 - y)).toNat ∧ R 255 (60 * i + 30 + (R 254 i.toNat - 1 - y)).toNat ≤ 2147483647 := fun y y0 y1 => gA_255 V _ (by omega)
  have z843 : (2 ≤ op ∧ op ≤ 8) → Ok_ (qj_X13_step_843 nn op b R) (SQ nn g ω R) := fun y => by
    unfold qj_X13_step_843 qj_X13_step_1150
    refine ok_sub (by omega) ?_; intro v55 e55
    exact end_give hn X (wnx_2 W (.inl y)) V P0 (by omega) cv_i (nt (by omega)) hb'
  have z876 : (op = 21 ∨ op = 25) → Ok_ (qj_X13_step_876 nn b o R) (SQ nn g ω R) := fun y => by
    unfold qj_X13_step_876 qj_X13_step_1150
    rcases y with y | y
    · obtain ⟨⟨w1, w2⟩, w3⟩ := wnx_3 W y
      have e129 := X.nd.1.1 160 129 (by decide) (by decide)
      refine ok_sv (g_cell V hd hi (by omega)) ?_; intro u52 P52
      exact end_give hn X w3 V P0 P52.2 cv_i (nt (by omega)) hb'
    · obtain ⟨⟨w1, w2⟩, w3⟩ := wnx_4 W y
      have e129 := X.nd.1.1 160 129 (by decide) (by decide)
      refine ok_sv (g_cell V hd hi (by omega)) ?_; intro u52 P52
      exact end_give hn X w3 V P0 P52.2 (by rw [P52.1]; exact X.cf.1 o (by omega) (by omega)) (nt (by omega)) hb'
  have z889 : (op = 54 ∨ op = 58) → Ok_ (qj_X13_step_889 nn b o R) (SQ nn g ω R) := fun y => by
    obtain ⟨_, w1, w2, w3, w4, w5⟩ := wnx_5 W y
    have e129 := X.nd.1.1 160 129 (by decide) (by decide)
    unfold qj_X13_step_889 qj_X13_step_1150
    refine ok_sv (g_drop V P0 hd hi (by omega) (by omega)) ?_; intro u44 P44
    obtain ⟨V4, Q4, q4⟩ := P44
    obtain ⟨⟨k1, k2, k3⟩, k4, k5⟩ := rpo_k hi.1 Q4
    have e4 := Q4.2.1
    rw [k4, hd]
    refine ok_sub (by omega) ?_; intro v47 e47
    refine ok_mul (by omega) ?_; intro v48 e48
    refine ok_add (by omega) ?_; intro v49 e49
    refine ok_wA (by omega) ?_; intro h50 E50
    have bq := val 0 (by omega) (by omega)
    have cv := X.tp (y := 0) (by omega) (by omega)
    rw [← q4] at bq cv
    have V50 : VS_ h50 := by rw [E50]; exact wA_255 V4 bq
    rw [show v49.toNat = (60 * i + o).toNat by omega] at E50
    have N5 : ∀ x l : Nat, ¬ (x = 254 ∧ l = i.toNat) → ¬ (x = 255 ∧ l = (60 * i + o).toNat) → h50 x l = R x l := fun x l y1 y2 => by rw [E50, up_n y2]; exact Q4.1 x l y1
    have K : HSM R h50 := ⟨fun x y1 y2 => funext fun l => N5 x l (by omega) (by omega), N5 160 141 (by omega) (by omega), N5 160 142 (by omega) (by omega)⟩
    have hx := hsm_x K
    refine end_x hn X V50 (fun x l y1 y2 => N5 x l (by omega) (by omega)) (hpo_s K X.hp) hx ⟨fun y y1 y2 => ⟨N5 251 _ (by omega) (by omega), N5 252 _ (by omega) (by omega), N5 253 _ (by omega) (by omega), N5 254 _ (by omega) (by omega)⟩, fun y y1 y2 => N5 255 _ (by omega) (by omega)⟩ (by rw [N5 160 149 (by omega) (by omega)]; exact hd) ⟨N5 251 _ (by omega) (by omega), N5 252 _ (by omega) (by omega), N5 253 _ (by omega) (by omega)⟩ ⟨fun y y1 y2 => ?_, ?_, fun y y1 y2 => ?_⟩ (nt (by omega)) hb'
    · by_cases y0 : y = o
      · have e5 : h50 255 (60 * i + o).toNat = u44.1 := by rw [E50, up_s]
        rw [y0, w5, e5]; exact cv_x hx cv
      · rw [N5 255 _ (by omega) (by omega), w1 243 _ (by omega) (by omega)]
        exact cv_x hx (X.cf.1 y y1 y2)
    · rw [E50, up_n (by omega), e4]; omega
    · rw [N5 255 _ (by omega) (by omega), w1 244 _ (by omega) (by omega)]
      exact cv_x hx (X.cf.2.2 y y1 (by omega))
  have z964 : (op = 96 ∨ op = 100 ∨ op = 104 ∨ op = 108 ∨ op = 112 ∨ op = 120 ∨ op = 122 ∨ op = 124 ∨ op = 126 ∨ op = 128 ∨ op = 130) → Ok_ (qj_X13_step_964 nn op b R) (SQ nn g ω R) := fun y => by
    obtain ⟨w1, w2, w3⟩ := wnx_12 W y
    have ln := w3.2.2.1
    unfold qj_X13_step_964
    refine ok_sv (g_drop V P0 hd hi (by omega) (by omega)) ?_; intro u35 P35
    refine ok_sv (g_drop P35.1 P35.2.1 hd hi (by omega) (by omega)) ?_; intro u37 P37
    obtain ⟨V7, Q7, q7⟩ := P37
    have Q7' : RPO R i 2 u37.2 := Q7
    have rk : ¬ (u35.1 = 0 ∧ (op = 108 ∨ op = 112)) → Ok_ (qj_X13_step_999 nn op b u37.1 u35.1 u37.2) (SQ nn g ω R) := fun z => by
      unfold qj_X13_step_999 qj_X13_step_1150
      refine ok_sv (rk_reckon z) ?_; intro u29 P29
      exact end_give hn X w3 V7 Q7' P29 cv_i (nt (by omega)) hb'
    have fl : Ok_ (qj_X13_step_993 nn u37.2) (SQ nn g ω R) := end_fails hn X V7 Q7' (by decide)
    refine ok_if (fun z => rk (by omega)) (fun z => ?_)
    refine ok_if (fun _ => fl) (fun z2 => ?_)
    exact ok_if (fun z3 => rk (by omega)) (fun _ => fl)
  unfold qj_X13_step_39

  refine ok_ifN (fun y => ?_) (fun n0 => ?_)
  · refine spq ?_
    exact end_po hn X (wnx_0 W (.inl y)) V P0 (nt (by omega)) hb'
  refine ok_ifN (fun y => ?_) (fun n1 => ?_)
  · refine spq ?_
    exact end_give hn X (wnx_1 W y) V P0 (by decide) cv_0 (nt (by omega)) hb'
  refine ok_ifN (fun y => ?_) (fun n2 => ?_)
  · refine spq ?_
    exact z843 (by omega)
  refine ok_ifN (fun y => ?_) (fun n3 => ?_)
  · refine spq ?_
    exact end_give hn X (wnx_2 W (by omega)) V P0 (by decide) cv_0 (nt (by omega)) hb'
  refine ok_ifN (fun y => ?_) (fun n4 => ?_)
  · refine spq ?_
    exact z843 (by omega)
  refine ok_ifN (fun y => ?_) (fun n5 => ?_)
  · refine spq ?_
    exact z843 (by omega)
  refine ok_ifN (fun y => ?_) (fun n6 => ?_)
  · refine spq ?_
    exact z843 (by omega)
  refine ok_ifN (fun y => ?_) (fun n7 => ?_)
  · refine spq ?_
    exact z843 (by omega)
  refine ok_ifN (fun y => ?_) (fun n8 => ?_)
  · refine spq ?_
    exact z843 (by omega)
  refine ok_ifN (fun y => ?_) (fun n16 => ?_)
  · refine spq ?_
    refine ok_b ?_; intro v60 b1 b2
    exact end_give hn X (wnx_2 W (by omega)) V P0 (by omega) cv_i (nt (by omega)) hb'
  refine ok_ifN (fun y => ?_) (fun n18 => ?_)
  · refine spq ?_
    refine ok_sv (st_intOf X (RG.1 y)) ?_; intro u64 P64
    exact end_give hn X (wnx_2 W (by omega)) V P0 P64 cv_i (nt (by omega)) hb'
  refine ok_ifN (fun y => ?_) (fun n21 => ?_)
  · refine spq ?_
    exact z876 (by omega)
  refine ok_ifN (fun y => ?_) (fun n25 => ?_)
  · refine spq ?_
    exact z876 (by omega)
  refine ok_ifN (fun y => ?_) (fun n46 => ?_)
  · refine spq ?_
    exact st_element hn X eo W (by omega)
  refine ok_ifN (fun y => ?_) (fun n50 => ?_)
  · refine spq ?_
    exact st_element hn X eo W (by omega)
  refine ok_ifN (fun y => ?_) (fun n54 => ?_)
  · refine spq ?_
    exact z889 (by omega)
  refine ok_ifN (fun y => ?_) (fun n58 => ?_)
  · refine spq ?_
    exact z889 (by omega)
  refine ok_ifN (fun y => ?_) (fun n79 => ?_)
  · refine spq ?_
    exact st_element hn X eo W (by omega)
  refine ok_ifN (fun y => ?_) (fun n83 => ?_)
  · refine spq ?_
    exact st_element hn X eo W (by omega)
  refine ok_ifN (fun y => ?_) (fun n87 => ?_)
  · refine spq ?_
    have w1 := wnx_10 W y
    have ln := w1.2.2
    refine ok_sv (g_drop V P0 hd hi (by omega) (by omega)) ?_; intro u68 P68
    exact end_po hn X w1 P68.1 P68.2.1 (nt (by omega)) hb'
  refine ok_ifN (fun y => ?_) (fun n89 => ?_)
  · refine spq ?_
    obtain ⟨w1, w2⟩ := wnx_11 W y
    have q4 := w2.2.2.2.1
    refine ok_sv (g_drop V P0 hd hi (by omega) (by omega)) ?_; intro u70 P70
    obtain ⟨V7, Q7, q7⟩ := P70
    have bq := val 0 (by omega) (by omega)
    have cv := X.tp (y := 0) (by omega) (by omega)
    rw [← q7] at bq cv
    have e7 := Q7.2.1
    refine ok_sv (g_give V7 Q7 hd hi (by omega) bq) ?_; intro u72 P72
    obtain ⟨V2, N2, e2, _, e3⟩ := P72
    have N0 : ∀ x l : Nat, u72 x l = R x l := fun x l => by
      by_cases y1 : x = 254 ∧ l = i.toNat
      · rw [y1.1, y1.2, e2]; omega
      · by_cases y2 : x = 255 ∧ l = (60 * i + 30 + (R 254 i.toNat - (0 + 1))).toNat
        · rw [y2.1, y2.2, e3, q7, show R 254 i.toNat - (0 + 1) = R 254 i.toNat - 1 - 0 by omega]
        · exact N2 x l y1 y2
    have P2 : RPO R i 0 u72 := ⟨fun x l _ => N0 x l, by rw [N0]; omega, by omega⟩
    refine ok_sv (g_give V2 P2 hd hi (by omega) bq) ?_; intro u74 P74
    exact end_ps hn X w2 P74.1 P74.2 cv (nt (by omega)) hb'
  refine ok_ifN (fun y => ?_) (fun n96 => ?_)
  · refine spq ?_
    exact z964 (by omega)
  refine ok_ifN (fun y => ?_) (fun n100 => ?_)
  · refine spq ?_
    exact z964 (by omega)
  refine ok_ifN (fun y => ?_) (fun n104 => ?_)
  · refine spq ?_
    exact z964 (by omega)
  refine ok_ifN (fun y => ?_) (fun n108 => ?_)
  · refine spq ?_
    exact z964 (by omega)
  refine ok_ifN (fun y => ?_) (fun n112 => ?_)
  · refine spq ?_
    exact z964 (by omega)
  refine ok_ifN (fun y => ?_) (fun n116 => ?_)
  · refine spq ?_
    obtain ⟨w1, w2⟩ := wnx_13 W y
    have ln := w2.2.2.1
    refine ok_sv (g_drop V P0 hd hi (by omega) (by omega)) ?_; intro u76 P76
    refine ok_xl ?_; intro v77 e77
    have b7 : -2147483648 ≤ v77 ∧ v77 ≤ 2147483647 := by rw [e77]; exact int_rg
    exact end_give hn X w2 P76.1 P76.2.1 b7 cv_i (nt (by omega)) hb'
  refine ok_ifN (fun y => ?_) (fun n120 => ?_)
  · refine spq ?_
    exact z964 (by omega)
  refine ok_ifN (fun y => ?_) (fun n122 => ?_)
  · refine spq ?_
    exact z964 (by omega)
  refine ok_ifN (fun y => ?_) (fun n124 => ?_)
  · refine spq ?_
    exact z964 (by omega)
  refine ok_ifN (fun y => ?_) (fun n126 => ?_)
  · refine spq ?_
    exact z964 (by omega)
  refine ok_ifN (fun y => ?_) (fun n128 => ?_)
  · refine spq ?_
    exact z964 (by omega)
  refine ok_ifN (fun y => ?_) (fun n130 => ?_)
  · refine spq ?_
    exact z964 (by omega)
  refine ok_ifN (fun y => ?_) (fun n172 => ?_)
  · refine spq ?_
    exact st_back hn X W (by omega)
  refine ok_ifN (fun y => ?_) (fun n176 => ?_)
  · refine spq ?_
    exact st_back hn X W (by omega)
  refine ok_ifN (fun y => ?_) (fun n177 => ?_)
  · refine spq ?_
    exact st_back hn X W (by omega)
  refine ok_ifN (fun y => ?_) (fun n180 => ?_)
  · refine spq ?_
    exact st_field hn X eo W (by omega) hb'
  refine ok_ifN (fun y => ?_) (fun n181 => ?_)
  · refine spq ?_
    exact st_field hn X eo W (by omega) hb'
  refine ok_ifN (fun y => ?_) (fun n182 => ?_)
  · refine spq ?_
    exact st_call hn X eo W (by omega)
  refine ok_ifN (fun y => ?_) (fun n184 => ?_)
  · refine spq ?_
    exact st_call hn X eo W (by omega)
  refine ok_ifN (fun y => ?_) (fun n186 => ?_)
  · obtain ⟨w1, w2⟩ := wnx_14 W (by omega)
    have ln := w2.2.2
    refine ok_sv (g_drop V P0 hd hi (by omega) (by omega)) ?_; intro u81 P81
    obtain ⟨V8, Q8, q8⟩ := P81
    have Q8' : RPO R i 1 u81.2 := Q8
    have e8 := Q8'.2.1
    have bq := val 0 (by omega) (by omega)
    rw [← q8] at bq
    have pm : u81.2 160 143 = R 160 143 := Q8'.1 160 143 (by omega)
    have fin : ∀ f : ms_M, VS_ f → (∀ x l : Nat, ¬ (x = 250) → f x l = u81.2 x l) → Ok_ (qj_X13_step_1064 nn b f) (SPr nn g ω R) := fun f Vf Nf => by
      unfold qj_X13_step_1064 qj_X13_step_1150
      have fm : f 160 143 = R 160 143 := by rw [Nf 160 143 (by decide)]; exact pm
      rw [fm]
      refine ok_add (by omega) ?_; intro v21 e21
      refine ok_xl ?_; intro h22 E22
      have V22 : VS_ h22 := by rw [E22]; exact wF_160_143 Vf (by omega)
      have N22 : ∀ x l : Nat, ¬ (x = 250) → ¬ (x = 160 ∧ l = 143) → ¬ (x = 254 ∧ l = i.toNat) → h22 x l = R x l := fun x l y1 y2 y3 => by rw [E22, up_n y2, Nf x l y1]; exact Q8'.1 x l y3
      have e254 : h22 254 i.toNat = R 254 i.toNat - 1 := by rw [E22, up_n (by omega), Nf 254 _ (by decide)]; exact e8
      have X1 : RTP nn g ω (up_M h22 254 i.toNat (R 254 i.toNat)) i c k N T U t a p := rtp_p X (wA_254 V22 (by omega)) (fun x l y1 y2 => by
        by_cases y3 : x = 254 ∧ l = i.toNat
        · rw [y3.1, y3.2, up_s]
        · rw [up_n y3]; exact N22 x l y1 y2 y3)
      have RP : RPO (up_M h22 254 i.toNat (R 254 i.toNat)) i 1 h22 := ⟨fun x l y => by rw [up_n y], by rw [up_s]; exact e254, by rw [up_s]; omega⟩
      refine ok_im (end_po hn X1 w2 V22 RP (nt (by omega)) hb') (fun r Q => ⟨Q.1, fun x l y1 y2 => ?_, .inr ?_, Q.2.2⟩)
      · rw [Q.2.1 x l y1 (by omega), up_n (by omega)]; exact N22 x l (by omega) (by omega) (by omega)
      · rw [Q.2.1 160 143 (by decide) (by decide), up_n (by omega), E22, up_s]; exact e21
    refine ok_if (fun _ => fin u81.2 V8 (fun _ _ _ => rfl)) (fun z => ?_)
    refine ok_wA (by omega) ?_; intro h85 E85
    exact fin h85 (by rw [E85]; exact wA_250 V8 bq) (fun x l y1 => by rw [E85, up_n (by omega)])
  refine ok_ifN (fun y => ?_) (fun n187 => ?_)
  · refine spq ?_
    exact st_fresh hn X eo W (by omega)
  refine ok_ifN (fun y => ?_) (fun n188 => ?_)
  · refine spq ?_
    exact st_fresh hn X eo W (by omega)
  refine ok_ifN (fun y => ?_) (fun n189 => ?_)
  · refine spq ?_
    exact st_fresh hn X eo W (by omega)
  refine ok_ifN (fun y => ?_) (fun n190 => ?_)
  · refine spq ?_
    exact st_field hn X eo W (by omega) hb'
  refine ok_ifN (fun y => ?_) (fun n191 => ?_)
  · refine spq ?_
    obtain ⟨w1, w2⟩ := wnx_27 W y
    have ln := w2.2.2
    have g98 := gF_160_98 X.rx.1.1.1
    refine ok_sv (g_drop V P0 hd hi (by omega) (by omega)) ?_; intro u88 P88
    obtain ⟨V8, Q8, q8⟩ := P88
    have cv := rtp_go hn X (y := 0) (by omega) (by omega) w1 ⟨by omega, by omega⟩
    rw [← q8] at cv
    refine ok_if (fun o0 => ?_) (fun _ => end_fails hn X V8 Q8 (by decide))
    have ob := cv_ref (by decide) cv o0
    obtain ⟨⟨k1, k2, k3⟩, k4, k5⟩ := rpo_k hi.1 Q8
    have d8 : u88.2 160 149 = i + 1 := by rw [k4]; exact hd
    have hx := hsm_x k2
    unfold qf_X13_thrown
    have th : Ok_ (qw_X13_thrown_0 nn nn u88.1 u88.2) (fun r => SQ nn g ω u88.2 r) := by
      refine g_thrown hn nn u88.2 (rx_k k1 V8 X.rx) (hpo_s k2 X.hp) (by rw [k2.2.1]; exact ob) (by omega) (fun _ => ⟨t, ?_, ?_⟩) (by omega)
      · rw [d8, show i + 1 - 1 = i by omega]
        obtain ⟨b1, b2, b3, b4, b5⟩ := X.2.1
        refine ⟨c, k, N, T, U, a, p, ⟨b1, b2, ⟨by rw [k5.1]; exact b3.1, by rw [k5.2.1]; exact b3.2⟩, b4, by rw [k5.2.2]; exact b5⟩, fun y y1 y2 => ?_⟩
        rw [Q8.1 255 _ (by omega)]; exact cv_x hx (X.cf.1 y y1 y2)
      · rw [d8, show i + 1 - 1 = i by omega]
        exact stk_k _ _ (by rw [show ((i.toNat : Nat) : Int) = i by omega]; exact k3) hx X.st
    refine ok_sv th ?_; intro u90 P90
    exact ok_ret ⟨P90.1, rfr_tr k1 P90.2.1, P90.2.2⟩
  refine ok_ifN (fun y => ?_) (fun n192 => ?_)
  · refine spq ?_
    exact st_is hn X eo W (by omega) hb'
  refine ok_ifN (fun y => ?_) (fun n193 => ?_)
  · refine spq ?_
    exact st_is hn X eo W (by omega) hb'
  have y : op = 153 ∨ op = 154 ∨ (159 ≤ op ∧ op ≤ 167) := by
    have kn := wd_known h1
    unfold NoT at *
    omega
  exact spq (st_jmp hn X eo W y hb')
end
end
section
section
variable {nn : Nat} {h g r z w v x f R p : ms_M} {c d e k : Int} {ω : Int → ms_M} {N : Nat} {T U : Nat → ms_M} {i t : Int} {a : Nat}
/-- a step of a good run -/
theorem s_step (hn : 1000000 ≤ nn) (X : RX nn ω g R) (Q : RUN1 nn g ω R) (pr : 0 ≤ R 160 143 ∧ R 160 143 ≤ 2000000000) : Ok_ (qf_X13_step nn R) (SPr nn g ω R) := by
  have V := X.2.2.1
  obtain ⟨hd, H, t, ⟨c, k, N, T, U, a, p, A, C⟩, S⟩ := Q
  have Y : RTP nn g ω R (R 160 149 - 1) c k N T U t a p := ⟨⟨X, H, by omega, by omega, by omega⟩, A, C, S⟩
  have e3 := Y.e3
  have ins := Y.ins
  have il : bp (ω c) (p 160 134) a + WD (ω c 238 (p 160 134 + bp (ω c) (p 160 134) a).toNat) ≤ p 160 135 := ins.2.2
  have cd := mc_code Y.mc
  obtain ⟨n1, n2, n3, RG, W, _⟩ := Y.nd
  unfold qf_X13_step
  refine ok_sub (by omega) ?_; intro v96 e96
  rw [show v96 = R 160 149 - 1 by omega]
  refine ok_rd (by omega) (gA_253 V) ?_; intro v97 e97 _ _
  rw [e97, e3]
  refine ok_sv (g_op X A Y.hd Y.hi (by omega)) ?_; intro u99 P99
  refine ok_sv mw_width ?_; intro u100 P100
  have q100 := P100.1
  have q99 := P99.1
  have w1 : 1 ≤ WD u99 := by rw [q99]; exact ins.2.1
  unfold opd at RG W
  rw [← q99] at RG W
  refine ok_if (fun l => ?_) (fun l => ?_)
  · rw [if_pos (show WD u99 ≤ 1 by omega)] at RG W
    exact st_39 hn Y q99 w1 P99.2 (by decide) q100 RG W pr
  · rw [if_neg (show ¬ WD u99 ≤ 1 by omega)] at RG W
    rw [← q99] at il
    refine ok_add (by omega) ?_; intro v101 e101
    refine ok_sv (g_op X A Y.hd Y.hi (q := v101) (by omega)) ?_; intro u103 P103
    have q103 := P103.1
    rw [e101] at q103
    rw [← q103] at RG W
    exact st_39 hn Y q99 w1 P99.2 P103.2 q100 RG W pr
/-- the run of h is good -/
def RGO (nn : Nat) (h : ms_M) : Prop := ∃ (ω : Int → ms_M) (g : ms_M), RX nn ω g h ∧ RUN1 nn g ω h
/-- what run leaves -/
def NRn (h r : ms_M) : Prop := ∀ x j : Nat, ¬ (246 ≤ x ∧ x ≤ 255) → ¬ (x = 160 ∧ (j = 121 ∨ (138 ≤ j ∧ j ≤ 149))) → r x j = h x j
theorem nrn_tr (a : NRn h z) (b : NRn z r) : NRn h r := fun x j p q => (b x j p q).trans (a x j p q)
theorem rx_n (A : NRn R r) (V : VS_ r) (X : RX nn ω g R) : RX nn ω g r := by
  have B : ∀ x j : Nat, 226 ≤ x → x ≤ 237 → r x j = R x j := fun x j p q => A x j (by omega) (by omega)
  have e98 := A 160 98 (by decide) (by decide)
  exact ⟨X.1, age_tr X.2.1 (age_k B e98), V, spd_k X.2.2.1 B e98 X.2.2.2⟩
theorem s_run (hn : 1000000 ≤ nn) (V : VS_ h) {P y : Int} (G : h 160 138 = 1 → RGO nn h) (hp : 0 ≤ h 160 143 ∧ h 160 143 ≤ P) (hP : P ≤ 1900000000) : Ok_ (qf_X13_run nn y h) (fun u => VS_ u.2 ∧ NRn h u.2 ∧ (u.2 160 138 = 1 → RGO nn u.2) ∧ (0 ≤ u.2 160 143 ∧ u.2 160 143 ≤ P + 20000)) := by
  have fin : ∀ (l : Int) (f : ms_M), VS_ f → NRn h f → (f 160 138 = 1 → RGO nn f) → (0 ≤ f 160 143 ∧ f 160 143 ≤ P + 20000) → Ok_ (qj_X13_run_39 nn l f) (fun u => VS_ u.2 ∧ NRn h u.2 ∧ (u.2 160 138 = 1 → RGO nn u.2) ∧ (0 ≤ u.2 160 143 ∧ u.2 160 143 ≤ P + 20000)) := fun l f Vf Nf Gf bf => by
    unfold qj_X13_run_39
    refine ok_xl ?_; intro v2 e2
    refine ok_xl ?_; intro h3 E3
    have V3 : VS_ h3 := by rw [E3]; exact wF_160_140 Vf (by rw [e2]; exact int_rg)
    have N3 : ∀ x j : Nat, ¬ (x = 160 ∧ j = 140) → h3 x j = f x j := fun x j y => by rw [E3, up_n y]
    refine ok_ret ⟨V3, nrn_tr Nf (fun x j p q => N3 x j (by omega)), fun q => ?_, by show 0 ≤ h3 160 143 ∧ h3 160 143 ≤ _; rw [N3 160 143 (by decide)]; exact bf⟩
    have q : h3 160 138 = 1 := q
    rw [N3 160 138 (by decide)] at q
    obtain ⟨ω, g, X, hd, H, t, ⟨c, k, N, T, U, a, p, ⟨b1, b2, b3, b4, b5⟩, C⟩, S⟩ := Gf q
    have K : HSM f h3 := ⟨fun x y1 y2 => funext fun j => N3 x j (by omega), N3 160 141 (by decide), N3 160 142 (by decide)⟩
    have hx := hsm_x K
    have d3 : h3 160 149 = f 160 149 := N3 160 149 (by decide)
    have L3 : ∀ i : Int, LWK f i h3 := fun i => ⟨fun y _ _ => ⟨N3 251 _ (by omega), N3 252 _ (by omega), N3 253 _ (by omega), N3 254 _ (by omega)⟩, fun y _ _ => N3 255 _ (by omega)⟩
    refine ⟨ω, g, rx_n (fun x j p q => N3 x j (by omega)) V3 X, ?_⟩
    show RUN1 nn g ω h3
    unfold RUN1
    rw [d3]
    refine ⟨hd, hpo_s K H, t, ⟨c, k, N, T, U, a, p, ⟨b1, b2, ⟨by rw [N3 251 _ (by omega)]; exact b3.1, by rw [N3 252 _ (by omega)]; exact b3.2⟩, b4, by rw [N3 253 _ (by omega)]; exact b5⟩, ⟨fun y y1 y2 => ?_, ?_, fun y y1 y2 => ?_⟩⟩, stk_k _ _ (L3 _) hx S⟩
    · rw [N3 255 _ (by omega)]; exact cv_x hx (C.1 y y1 y2)
    · rw [N3 254 _ (by omega)]; exact C.2.1
    · rw [N3 255 _ (by omega)]; exact cv_x hx (C.2.2 y y1 y2)
  have L : ∀ (j : Nat) (l : Int) (f : ms_M), VS_ f → NRn h f → (f 160 138 = 1 → RGO nn f) → (0 ≤ l ∧ l ≤ y) → y ≤ 20000 → (0 ≤ f 160 143 ∧ f 160 143 ≤ P + l) → y - l < (j : Int) → Ok_ (qw_X13_run_16 nn j y l f) (fun u => VS_ u.2 ∧ NRn h u.2 ∧ (u.2 160 138 = 1 → RGO nn u.2) ∧ (0 ≤ u.2 160 143 ∧ u.2 160 143 ≤ P + 20000)) := by
    intro j
    induction j with
    | zero => intro l f Vf Nf Gf b yb bf hm; exfalso; omega
    | succ j ih =>
      intro l f Vf Nf Gf b yb bf hm
      unfold qw_X13_run_16
      refine ok_if (fun _ => fin l f Vf Nf Gf (by omega)) (fun C => ?_)
      refine ok_if (fun _ => fin l f Vf Nf Gf (by omega)) (fun D => ?_)
      obtain ⟨ω, g, X, Q⟩ := Gf (Decidable.not_not.1 D)
      refine ok_sv (s_step hn X Q (by omega)) ?_; intro u6 P6
      obtain ⟨V6, N6, p6, R6⟩ := P6
      refine ok_add (by omega) ?_; intro v7 e7
      exact ih v7 u6 V6 (nrn_tr Nf N6) (fun q => ⟨ω, g, rx_n N6 V6 X, R6 q⟩) (by omega) yb (by omega) (by omega)
  unfold qf_X13_run
  refine ok_if (fun _ => ok_ret ⟨V, fun _ _ _ _ => rfl, G, by show 0 ≤ h 160 143 ∧ h 160 143 ≤ _; omega⟩) (fun C => ?_)
  refine ok_if (fun D => ?_) (fun _ => ok_ret ⟨V, fun _ _ _ _ => rfl, G, by show 0 ≤ h 160 143 ∧ h 160 143 ≤ _; omega⟩)
  exact L nn 0 h V (fun _ _ _ _ => rfl) G (by omega) D (by omega) (by omega)
/-- start: the run begins well -/
theorem s_start (hn : 1000000 ≤ nn) (V : VS_ h) (S : SPD h) (D : ¬ h 160 99 = 0 → VRD nn h) {y u : Int} (ry : -2147483648 ≤ y ∧ y ≤ 2147483647) : Ok_ (qf_X13_start nn y u h) (fun v => VS_ v.2 ∧ NMc h v.2 ∧ (v.2 = h ∨ (v.2 160 143 = 0 ∧ RGO nn v.2))) := by
  have g98 := gF_160_98 V
  have Z : ∀ o : Int, Ok_ (some (o, h)) (fun v : Int × ms_M => VS_ v.2 ∧ NMc h v.2 ∧ (v.2 = h ∨ (v.2 160 143 = 0 ∧ RGO nn v.2))) := fun o => ok_ret ⟨V, fun _ _ _ _ => rfl, .inl rfl⟩
  unfold qf_X13_start
  refine ok_xl ?_; intro v4 e4
  refine ok_if (fun _ => Z 0) (fun n99 => ?_)
  refine ok_if (fun _ => Z 0) (fun A => ?_)
  refine ok_if (fun _ => Z 0) (fun B => ?_)
  have ea : v4 = y - 8 := by
    by_cases q : -2147483648 ≤ y - 8
    · rw [e4]; exact oq_sub_eq ry (by omega) (by omega)
    · have s := sub8 ry (by omega)
      exfalso; omega
  obtain ⟨ω, g, XV, AE⟩ := D n99
  have XV0 := XV
  obtain ⟨⟨Vg, Sg⟩, O, CA, MO⟩ := XV
  have hc : 0 ≤ v4 ∧ v4 ≤ 7 := by omega
  have hcg : 0 ≤ v4 ∧ v4 < g 160 98 := by rw [← AE.1]; omega
  have Wg := O v4 hcg.1 hcg.2
  have W := wi_e AE hcg Wg
  refine ok_if (fun _ => Z 0) (fun C => ?_)
  refine ok_rd (by omega) (gA_234 V) ?_; intro v8 e8 _ _
  rw [(AE.2 v4 hcg.1 hcg.2).2.2.1.2.2.2.2] at e8
  refine ok_if (fun Dd => ?_) (fun _ => Z 0)
  have hk : 0 ≤ u ∧ u < g 234 v4.toNat := by omega
  obtain ⟨k12, bb, _⟩ := wi_mt Wg hc hk
  have e235 := ((AE.2 v4 hcg.1 hcg.2).2.2.2 u hk.1 k12).2.1
  obtain ⟨p, N, T, U, m, L, q, t, bd⟩ := mok_b (MO v4 u hcg.1 hcg.2 hk.1 hk.2)
  have A2 := bd.1.1
  have tkg : TKV nn g v4 (ω v4) (kdT g ω v4 1 u) m L q t := by
    have := bd.2.2.1
    rw [kdT_c A2] at this
    exact tkv_c (agd_c (agd_sy A2)) this
  refine ok_mul (by omega) ?_; intro v9 e9
  refine ok_mul (by omega) ?_; intro v11 e11
  refine ok_sv (rt_kind (ω := ω) V hc W (s := 1) (k := u) (by rw [show mem h v4 1 = h 234 v4.toNat from rfl, (AE.2 v4 hcg.1 hcg.2).2.2.1.2.2.2.2]; exact hk)) ?_; intro u13 P13
  have t13 := P13.2.2 (by decide)
  have k13 : u13 = kdT g ω v4 1 u := by
    rw [P13.1]
    unfold kdT
    rw [if_neg (by decide), if_neg (by decide), e235]
  rw [← k13] at tkg
  obtain ⟨a1, a2, a3, a4, a5⟩ := wi_tx W hc t13.1
  refine ok_add (by omega) ?_; intro v14 e14
  refine ok_rd (by omega) (gA_228 V) ?_; intro v15 e15 _ _
  rw [e14, e11, a2] at e15
  refine ok_add (by omega) ?_; intro v16 e16
  refine ok_add (by omega) ?_; intro v17 e17
  refine ok_mul (by omega) ?_; intro v19 e19
  refine ok_add (by omega) ?_; intro v20 e20
  refine ok_rd (by omega) (gA_235 V) ?_; intro v21 e21 _ _
  rw [e20, e19, e235] at e21
  rw [← e21] at bb
  refine ok_sv (mv_bytew V hc W (by omega)) ?_; intro u23 P23
  refine ok_if (fun _ => Z 0) (fun s1 => ?_)
  have l3 : 3 ≤ ω v4 238 (pl (ω v4) v4 u13 + 1).toNat := by
    obtain ⟨mm, _, kk⟩ := t13.2.2.2.1 rfl
    have := mkn_len kk
    omega
  refine ok_add (by omega) ?_; intro v25 e25
  refine ok_rd (by omega) (gA_226 V) ?_; intro v26 e26 _ _
  rw [show v25 = 6000 * v4 + (pl (ω v4) v4 u13 + 2 + 1) by omega, W.2.2.1 _ (by omega) (by omega)] at e26
  refine ok_if (fun c41 => ?_) (fun _ => Z 0)
  -- a method without parameters, with no object
  have m0 : m = 0 := by
    have pv := tkg.2.1
    by_cases z : m = 0
    · exact z
    · exfalso
      obtain ⟨j, ej⟩ : ∃ j : Nat, m.toNat = j + 1 := ⟨m.toNat - 1, by have := tkg.1; omega⟩
      rw [ej] at pv
      obtain ⟨e', ⟨x1, _⟩, _⟩ := pv
      exact kd_41 x1 (e26.symm.trans c41)
  have fl1 : flg p v4 u (ω v4) = 1 := by
    unfold flg
    rw [A2.1 235 _ (by decide) (by decide), ← e21]
    have f1 := (mc_xd bd.1.2.2).1
    rw [A2.1 235 _ (by decide) (by decide), ← e21] at f1
    have := P23.1
    have := P23.2
    omega
  refine ok_xl ?_; intro h27 E27
  have V27 : VS_ h27 := by rw [E27]; exact wF_160_138 V (by omega)
  refine ok_xl ?_; intro h28 E28
  have V28 : VS_ h28 := by rw [E28]; exact wF_160_139 V27 (by omega)
  refine ok_xl ?_; intro h29 E29
  have V29 : VS_ h29 := by rw [E29]; exact wF_160_140 V28 (by omega)
  refine ok_xl ?_; intro h30 E30
  have V30 : VS_ h30 := by rw [E30]; exact wF_160_141 V29 (by omega)
  refine ok_xl ?_; intro h31 E31
  have V31 : VS_ h31 := by rw [E31]; exact wF_160_142 V30 (by omega)
  refine ok_xl ?_; intro h32 E32
  have V32 : VS_ h32 := by rw [E32]; exact wF_160_143 V31 (by omega)
  unfold qj_X13_start_133
  refine ok_xl ?_; intro h1 E1
  have V1 : VS_ h1 := by rw [E1]; exact wF_160_149 V32 (by omega)
  have N1 : ∀ x l : Nat, ¬ (x = 160 ∧ (138 ≤ l ∧ l ≤ 149)) → h1 x l = h x l := fun x l z => by rw [E1, up_n (by omega), E32, up_n (by omega), E31, up_n (by omega), E30, up_n (by omega), E29, up_n (by omega), E28, up_n (by omega), E27, up_n (by omega)]
  have d1 : h1 160 149 = 0 := by rw [E1, up_s]
  have o1 : h1 160 141 = 0 := by rw [E1, up_n (by omega), E32, up_n (by omega), E31, up_n (by omega), E30, up_s]
  have p1 : h1 160 143 = 0 := by rw [E1, up_n (by omega), E32, up_s]
  refine ok_sv (g_enter hn V1 (b := y) (j := u) (by omega) (by omega) (by omega)) ?_; intro u3 P3
  obtain ⟨V3, N3, d3, ⟨f1, f2, f3, f4⟩, z3⟩ := P3
  rw [d1] at N3 d3 f1 f2 f3 f4 z3
  have NN : NMc h u3 := fun x l z1 z2 => by rw [N3 x l (by omega) (by omega) (by omega)]; exact N1 x l (by omega)
  have RN : NRn h u3 := fun x l z1 z2 => by rw [N3 x l (by omega) (by omega) (by omega)]; exact N1 x l (by omega)
  have o3 : u3 160 141 = 0 := by rw [N3 160 141 (by omega) (by omega) (by omega)]; exact o1
  have X3 : RX nn ω g u3 := rx_n RN V3 ⟨XV0, AE, V, S⟩
  refine ok_ret ⟨V3, NN, .inr ⟨by show u3 160 143 = 0; rw [N3 160 143 (by omega) (by omega) (by omega)]; exact p1, ω, g, X3, by show 1 ≤ u3 160 149 ∧ u3 160 149 ≤ 60; omega, ⟨fun o z1 z2 => ?_, fun o l z1 z2 z3 => ?_⟩, t, ?_, ?_⟩⟩
  · have z2 : o ≤ u3 160 141 := z2
    exfalso; omega
  · have z3 : l ≤ u3 160 141 := z3
    exfalso; omega
  · show TOPF nn g ω u3 (u3 160 149 - 1) t
    rw [d3, show (0 : Int) + 1 - 1 = 0 by decide]
    have ini0 := bd.2.2.2.2.1
    refine ⟨v4, u, N, T, U, 0, p, ⟨⟨m, L, q, bd⟩, ⟨hcg, hk⟩, ⟨by rw [f1]; omega, f2⟩, bd.2.2.2.1.2, by rw [f3]; rfl⟩, fun l l1 l2 => ?_, by rw [f4, ini0.2], fun l l1 l2 => by rw [ini0.2] at l2; exfalso; omega⟩
    have go := ini0.1 l l1 l2
    unfold ini at go
    rw [fl1, m0, if_neg (by omega), if_neg (by omega)] at go
    rw [got_f0 go]
    exact cv_t
  · show STK nn g ω u3 (u3 160 149 - 1).toNat t
    rw [d3]
    exact trivial
end
end

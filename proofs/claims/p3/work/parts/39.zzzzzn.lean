section
variable {nn : Nat} {h g r z w v x f R p : ms_M} {c d e k : Int} {ω : Int → ms_M} {N : Nat} {T U : Nat → ms_M} {i t : Int} {a : Nat}
theorem st_intOf (X : RTP nn g ω R i c k N T U t a p) {o : Int} (s : SRT (ω c) c o 2) : Ok_ (qf_X13_intOf nn o R) (fun u => -2147483648 ≤ u ∧ u ≤ 2147483647) := by
  have V := X.vs
  have hi := X.hi
  have AE := X.rx.2.1
  obtain ⟨⟨Vg, Sg⟩, O, CA, _⟩ := X.rx.1
  have g98 := gF_160_98 Vg
  have ck := X.ck
  have e1 := X.e1
  have hc7 : 0 ≤ c ∧ c ≤ 7 := by omega
  have W := wi_e AE ck.1 (O c ck.1.1 ck.1.2)
  have g3 := gF_160_113 W.1
  obtain ⟨a1, a2, a3, a4, _⟩ := wi_cs W hc7 s.1
  have a4 := a4 s.2
  have s1 := s.1
  unfold qf_X13_intOf
  rw [X.hd]
  refine ok_sub (by omega) ?_; intro v3 e3
  rw [show v3 = i by omega]
  refine ok_rd (by omega) (gA_251 V) ?_; intro v4 e4 _ _
  refine ok_sub (by omega) ?_; intro v5 e5
  rw [show v5 = c by omega]
  refine ok_mul (by omega) ?_; intro v7 e7
  refine ok_add (by omega) ?_; intro v8 e8
  refine ok_rd (by omega) (gA_228 V) ?_; intro v9 e9 _ _
  rw [e8, e7, a2] at e9
  refine ok_add (by omega) ?_; intro v10 e10
  refine ok_sv (mv_bytew V hc7 W (by omega)) ?_; intro u12 _
  refine ok_xl ?_; intro v13 _
  refine ok_add (by omega) ?_; intro v14 e14
  refine ok_sv (mv_bytew V hc7 W (by omega)) ?_; intro u16 _
  refine ok_xl ?_; intro v17 _
  refine ok_xl ?_; intro v18 _
  refine ok_add (by omega) ?_; intro v19 e19
  refine ok_sv (mv_bytew V hc7 W (by omega)) ?_; intro u21 _
  refine ok_xl ?_; intro v22 _
  refine ok_xl ?_; intro v23 _
  refine ok_add (by omega) ?_; intro v24 e24
  refine ok_sv (mv_bytew V hc7 W (by omega)) ?_; intro u26 _
  refine ok_xl ?_; intro v27 e27
  rw [e27]
  exact ok_ret int_rg
/-- a jump, or not -/
theorem st_jmp (hn : 1000000 ≤ nn) (X : RTP nn g ω R i c k N T U t a p) {op o : Int} (eo : op = ω c 238 (p 160 134 + bp (ω c) (p 160 134) a).toNat) (W : WN nn (T a) ω c (ω c) t op o (U a)) (ho : op = 153 ∨ op = 154 ∨ (159 ≤ op ∧ op ≤ 167)) {b : Int} (hb : b = WD (ω c 238 (p 160 134 + bp (ω c) (p 160 134) a).toNat)) : Ok_ (qj_X13_step_1122 nn (bp (ω c) (p 160 134) a) op b R) (SQ nn g ω R) := by
  have V := X.vs
  have hi := X.hi
  have hd := X.hd
  have s := X.s
  have P0 := rpo_rf V hi
  have ins := X.ins
  have cd := mc_code X.mc
  have w3 : WD (ω c 238 (p 160 134 + bp (ω c) (p 160 134) a).toNat) = 3 := by
    rw [← eo] at ins ⊢
    exact wd_jump (by omega) ins.2.1
  obtain ⟨n, po⟩ : ∃ n : Int, (op = 167 ∧ n = 0 ∨ (op = 153 ∨ op = 154) ∧ n = 1 ∨ (159 ≤ op ∧ op ≤ 166) ∧ n = 2) ∧ POP (T a) n (U a) := by
    by_cases z : op = 167
    · exact ⟨0, .inl ⟨z, rfl⟩, wnx_0 W (.inr z)⟩
    · by_cases z1 : op = 153 ∨ op = 154
      · exact ⟨1, .inr (.inl ⟨z1, rfl⟩), (wnx_14 W (by omega)).2⟩
      · by_cases z2 : op ≤ 164
        · exact ⟨2, .inr (.inr ⟨by omega, rfl⟩), (wnx_15 W (by omega)).2.2⟩
        · exact ⟨2, .inr (.inr ⟨by omega, rfl⟩), (wnx_16 W (by omega)).2.2⟩
  obtain ⟨on, po⟩ := po
  have ln := po.2.2
  -- the question
  have J : Ok_ (qf_X13_jumps nn op R) (fun u => VS_ u.2 ∧ RPO R i n u.2 ∧ (u.1 = 0 → ¬ op = 167)) := by
    unfold qf_X13_jumps qj_X13_jumps_100 qj_X13_jumps_111 qj_X13_jumps_155
    refine ok_if (fun n167 => ?_) (fun y167 => ?_)
    · refine ok_sv (g_drop V P0 hd hi (by omega) (by omega)) ?_; intro u5 P5
      refine ok_if (fun n153 => ?_) (fun y153 => ?_)
      · refine ok_if (fun n154 => ?_) (fun y154 => ?_)
        · refine ok_sv (g_drop P5.1 P5.2.1 hd hi (by omega) (by omega)) ?_; intro u7 P7
          have e2 : n = 0 + 1 + 1 := by omega
          have fin : ∀ y : Int, Ok_ (some (y, u7.2)) (fun u => VS_ u.2 ∧ RPO R i n u.2 ∧ (u.1 = 0 → ¬ op = 167)) := fun y => ok_ret ⟨P7.1, by rw [e2]; exact P7.2.1, fun _ => n167⟩
          refine ok_if (fun _ => ok_if (fun _ => fin _) (fun _ => fin _)) (fun _ => ?_)
          refine ok_if (fun _ => ok_if (fun _ => fin _) (fun _ => fin _)) (fun _ => ?_)
          refine ok_if (fun _ => ok_if (fun _ => fin _) (fun _ => fin _)) (fun _ => ?_)
          refine ok_if (fun _ => ok_if (fun _ => fin _) (fun _ => fin _)) (fun _ => ?_)
          refine ok_if (fun _ => ok_if (fun _ => fin _) (fun _ => fin _)) (fun _ => ?_)
          refine ok_if (fun _ => ok_if (fun _ => fin _) (fun _ => fin _)) (fun _ => ?_)
          refine ok_if (fun _ => ok_if (fun _ => fin _) (fun _ => fin _)) (fun _ => ?_)
          exact ok_if (fun _ => fin _) (fun _ => fin _)
        · have e2 : n = 0 + 1 := by omega
          have fin : ∀ y : Int, Ok_ (some (y, u5.2)) (fun u => VS_ u.2 ∧ RPO R i n u.2 ∧ (u.1 = 0 → ¬ op = 167)) := fun y => ok_ret ⟨P5.1, by rw [e2]; exact P5.2.1, fun _ => n167⟩
          exact ok_if (fun _ => fin _) (fun _ => fin _)
      · have e2 : n = 0 + 1 := by omega
        have fin : ∀ y : Int, Ok_ (some (y, u5.2)) (fun u => VS_ u.2 ∧ RPO R i n u.2 ∧ (u.1 = 0 → ¬ op = 167)) := fun y => ok_ret ⟨P5.1, by rw [e2]; exact P5.2.1, fun _ => n167⟩
        exact ok_if (fun _ => fin _) (fun _ => fin _)
    · have e2 : n = 0 := by omega
      exact ok_ret ⟨V, by rw [e2]; exact P0, fun z => absurd (show (1 : Int) = 0 from z) (by decide)⟩
  unfold qj_X13_step_1122 qj_X13_step_1150
  refine ok_sv J ?_; intro u4 P4
  obtain ⟨V4, Q4, q4⟩ := P4
  obtain ⟨⟨k1, k2, k3⟩, k4, k5⟩ := rpo_k hi.1 Q4
  refine ok_if (fun z => ?_) (fun z => ?_)
  · have := q4 z
    exact end_po hn X po V4 Q4 (by rw [← eo]; omega) hb
  · have X4 := rx_k k1 V4 X.rx
    have A4 : ATF nn g ω u4.2 i c k N T U t a p := by
      obtain ⟨b1, b2, b3, b4, b5⟩ := X.2.1
      exact ⟨b1, b2, ⟨by rw [k5.1]; exact b3.1, by rw [k5.2.1]; exact b3.2⟩, b4, by rw [k5.2.2]; exact b5⟩
    have d4 : u4.2 160 149 = i + 1 := by rw [k4]; exact hd
    have il : bp (ω c) (p 160 134) a + WD (ω c 238 (p 160 134 + bp (ω c) (p 160 134) a).toNat) ≤ p 160 135 := ins.2.2
    refine ok_add (by omega) ?_; intro v5 e5
    refine ok_sv (g_op X4 A4 d4 hi (q := v5) (by omega)) ?_; intro u7 P7
    refine ok_shl8 P7.2 ?_; intro v8 e8
    refine ok_add (by omega) ?_; intro v9 e9
    refine ok_sv (g_op X4 A4 d4 hi (q := v9) (by omega)) ?_; intro u11 P11
    refine ok_xl ?_; intro v12 e12
    refine ok_xl ?_; intro v13 e13
    have b13 := oq_s_rg (v := v12)
    rw [← e13] at b13
    refine ok_sv (g_on V4 d4 hi (by omega) (by rw [k5.2.2, X.e3]; omega)) ?_; intro r P
    obtain ⟨Vr, Nr, er⟩ := P
    have Fr : RFr R r := rfr_tr k1 (fun x j y1 y2 => Nr x j (by omega))
    refine ok_ret ⟨Vr, Fr, fun _ => ?_⟩
    have K : HSM R r := hsm_tr k2 ⟨fun x y1 y2 => funext fun j => Nr x j (by omega), Nr 160 141 (by omega), Nr 160 142 (by omega)⟩
    have Lr : LWK R i r := lwk_tr k3 ⟨fun y y1 y2 => ⟨Nr 251 _ (by omega), Nr 252 _ (by omega), Nr 253 _ (by omega), Nr 254 _ (by omega)⟩, fun y y1 y2 => Nr 255 _ (by omega)⟩
    have pl : r 253 i.toNat = AIM (ω c) (p 160 134) (bp (ω c) (p 160 134) a) := by
      unfold AIM pw
      rw [er, k5.2.2, X.e3, e13, e12, e8, P7.1, P11.1, e5, e9]
    obtain ⟨n1, n2, n3, n4, n5, n6, n7, n8⟩ := X.nd
    obtain ⟨u', m1, L1, m2, K1, ff, ft, fit⟩ := n7 (by rw [← eo]; omega)
    obtain ⟨⟨m, L, q, bd⟩, ck, e1', aN, e3⟩ := X.2.1
    have CU : CFS nn g r i (p 160 129) (U a) := by
      have C4 := cfs_po X.s.2.2.1.2 X.hi.1 X.cf po Q4
      have hx : HX u4.2 r := ⟨by rw [Nr 160 141 (by omega)]; omega, fun o _ _ => Nr 246 _ (by omega)⟩
      exact ⟨fun y y1 y2 => by rw [Nr 255 _ (by omega)]; exact cv_x hx (C4.1 y y1 y2), by rw [Nr 254 _ (by omega)]; exact C4.2.1, fun y y1 y2 => by rw [Nr 255 _ (by omega)]; exact cv_x hx (C4.2.2 y y1 y2)⟩
    refine run_frame hn (rx_k Fr Vr X.rx) bd ck ⟨by rw [Nr 251 _ (by omega), k5.1]; exact e1'.1, by rw [Nr 252 _ (by omega), k5.2.1]; exact e1'.2⟩ ff ft pl (fun b' hb' B LS NF => cfs_fit hn X.rx.1 bd.1.1 n6.1 n6.2 NF LS (fit_f fit B) CU) (hpo_s K X.hp) (by rw [Nr 160 149 (by omega)]; exact d4) hi (stk_k _ _ (by rw [show ((i.toNat : Nat) : Int) = i by omega]; exact Lr) (hsm_x K) X.st)
/-- what a step leaves: at most one print more -/
def SPr (nn : Nat) (g : ms_M) (ω : Int → ms_M) (R r : ms_M) : Prop := VS_ r ∧ (∀ x j : Nat, ¬ (246 ≤ x ∧ x ≤ 255) → ¬ (x = 160 ∧ (j = 121 ∨ (138 ≤ j ∧ j ≤ 149))) → r x j = R x j) ∧ (r 160 143 = R 160 143 ∨ r 160 143 = R 160 143 + 1) ∧ (r 160 138 = 1 → RUN1 nn g ω r)
theorem spq {y : Option ms_M} (Y : Ok_ y (SQ nn g ω R)) : Ok_ y (SPr nn g ω R) := ok_im Y (fun r Q => ⟨Q.1, fun x j y1 y2 => Q.2.1 x j y1 (by omega), .inl (Q.2.1 160 143 (by decide) (by decide)), Q.2.2⟩)
theorem rtp_p {R1 : ms_M} (X : RTP nn g ω R i c k N T U t a p) (V1 : VS_ R1) (N1 : ∀ x l : Nat, ¬ (x = 250) → ¬ (x = 160 ∧ l = 143) → R1 x l = R x l) : RTP nn g ω R1 i c k N T U t a p := by
  have hi := X.hi
  have K : HSM R R1 := ⟨fun x y1 y2 => funext fun l => N1 x l (by omega) (by omega), N1 160 141 (by omega) (by omega), N1 160 142 (by omega) (by omega)⟩
  have hx := hsm_x K
  have A : ∀ x j : Nat, 226 ≤ x → x ≤ 237 → R1 x j = R x j := fun x j y1 y2 => N1 x j (by omega) (by omega)
  have e98 := N1 160 98 (by omega) (by omega)
  obtain ⟨b1, b2, b3, b4, b5⟩ := X.2.1
  refine ⟨⟨⟨X.rx.1, age_tr X.rx.2.1 (age_k A e98), V1, spd_k X.vs A e98 X.rx.2.2.2⟩, hpo_s K X.hp, by rw [N1 160 149 (by omega) (by omega)]; exact X.hd, hi⟩, ⟨b1, b2, ⟨by rw [N1 251 _ (by omega) (by omega)]; exact b3.1, by rw [N1 252 _ (by omega) (by omega)]; exact b3.2⟩, b4, by rw [N1 253 _ (by omega) (by omega)]; exact b5⟩, ⟨fun y y1 y2 => ?_, ?_, fun y y1 y2 => ?_⟩, stk_k _ _ ⟨fun y y1 y2 => ⟨N1 251 _ (by omega) (by omega), N1 252 _ (by omega) (by omega), N1 253 _ (by omega) (by omega), N1 254 _ (by omega) (by omega)⟩, fun y y1 y2 => N1 255 _ (by omega) (by omega)⟩ hx X.st⟩
  · rw [N1 255 _ (by omega) (by omega)]; exact cv_x hx (X.cf.1 y y1 y2)
  · rw [N1 254 _ (by omega) (by omega)]; exact X.cf.2.1
  · rw [N1 255 _ (by omega) (by omega)]; exact cv_x hx (X.cf.2.2 y y1 y2)
/-- one step -/
theorem st_39 (hn : 1000000 ≤ nn) (X : RTP nn g ω R i c k N T U t a p) {op o b : Int} (eo : op = ω c 238 (p 160 134 + bp (ω c) (p 160 134) a).toNat) (h1 : 1 ≤ WD op) (ho : 0 ≤ op ∧ op ≤ 255) (hi2 : 0 ≤ o ∧ o ≤ 255) (hb : b = WD op) (RG : RGT nn p ω c (ω c) op o) (W : WN nn (T a) ω c (ω c) t op o (U a)) (pr : 0 ≤ R 160 143 ∧ R 160 143 ≤ 2000000000) : Ok_ (qj_X13_step_39 nn (bp (ω c) (p 160 134) a) op b o R) (SPr nn g ω R) := by
  have V := X.vs
  have hi := X.hi
  have hd := X.hd
  have s := X.s
  have P0 := rpo_rf V hi
  have m30 := s.2.2.1
  have hb' : b = WD (ω c 238 (p 160 134 + bp (ω c) (p 160 134) a).toNat) := by rw [← eo]; exact hb
  have nt : ¬ (op = 167 ∨ op = 172 ∨ op = 176 ∨ op = 177 ∨ op = 191) → ¬ (ω c 238 (p 160 134 + bp (ω c) (p 160 134) a).toNat = 167 ∨ ω c 238 (p 160 134 + bp (ω c) (p 160 134) a).toNat = 172 ∨ ω c 238 (p 160 134 + bp (ω c) (p 160 134) a).toNat = 176 ∨ ω c 238 (p 160 134 + bp (ω c) (p 160 134) a).toNat = 177 ∨ ω c 238 (p 160 134 + bp (ω c) (p 160 134) a).toNat = 191) := fun z => by rw [← eo]; exact z
  have val : ∀ y : Int, 0 ≤ y → y < R 254 i.toNat → -2147483648 ≤ R 255 (60 * i + 30 + (R 254 i.toNat - 1 - y)).toNat ∧ R 255 (60 * i + 30 + (R 254 i.toNat - 1 - y)).toNat ≤ 2147483647 := fun y y0 y1 => gA_255 V _ (by omega)
  have z843 : (2 ≤ op ∧ op ≤ 8) → Ok_ (qj_X13_step_843 nn op b R) (SQ nn g ω R) := fun y => by
    unfold qj_X13_step_843 qj_X13_step_1150
    refine ok_sub (by omega) ?_; intro v55 e55
    exact end_give hn X (wnx_2 W (.inl y)) V P0 (by omega) cv_i (nt (by omega)) hb'
  have z876 : (op = 21 ∨ op = 25) → Ok_ (qj_X13_step_876 nn b o R) (SQ nn g ω R) := fun y => by
    unfold qj_X13_step_876 qj_X13_step_1150
    rcases y with y | y
    · obtain ⟨⟨w1, w2⟩, w3⟩ := wnx_3 W y
      have e129 := X.nd.1.1 160 129 (by decide) (by decide)
      refine ok_sv (g_cell V hd hi (by omega)) ?_; intro u52 P52
      exact end_give hn X w3 V P0 P52.2 cv_i (nt (by omega)) hb'
    · obtain ⟨⟨w1, w2⟩, w3⟩ := wnx_4 W y
      have e129 := X.nd.1.1 160 129 (by decide) (by decide)
      refine ok_sv (g_cell V hd hi (by omega)) ?_; intro u52 P52
      exact end_give hn X w3 V P0 P52.2 (by rw [P52.1]; exact X.cf.1 o (by omega) (by omega)) (nt (by omega)) hb'
  have z889 : (op = 54 ∨ op = 58) → Ok_ (qj_X13_step_889 nn b o R) (SQ nn g ω R) := fun y => by
    obtain ⟨_, w1, w2, w3, w4, w5⟩ := wnx_5 W y
    have e129 := X.nd.1.1 160 129 (by decide) (by decide)
    unfold qj_X13_step_889 qj_X13_step_1150
    refine ok_sv (g_drop V P0 hd hi (by omega) (by omega)) ?_; intro u44 P44
    obtain ⟨V4, Q4, q4⟩ := P44
    obtain ⟨⟨k1, k2, k3⟩, k4, k5⟩ := rpo_k hi.1 Q4
    have e4 := Q4.2.1
    rw [k4, hd]
    refine ok_sub (by omega) ?_; intro v47 e47
    refine ok_mul (by omega) ?_; intro v48 e48
    refine ok_add (by omega) ?_; intro v49 e49
    refine ok_wA (by omega) ?_; intro h50 E50
    have bq := val 0 (by omega) (by omega)
    have cv := X.tp (y := 0) (by omega) (by omega)
    rw [← q4] at bq cv
    have V50 : VS_ h50 := by rw [E50]; exact wA_255 V4 bq
    rw [show v49.toNat = (60 * i + o).toNat by omega] at E50
    have N5 : ∀ x l : Nat, ¬ (x = 254 ∧ l = i.toNat) → ¬ (x = 255 ∧ l = (60 * i + o).toNat) → h50 x l = R x l := fun x l y1 y2 => by rw [E50, up_n y2]; exact Q4.1 x l y1
    have K : HSM R h50 := ⟨fun x y1 y2 => funext fun l => N5 x l (by omega) (by omega), N5 160 141 (by omega) (by omega), N5 160 142 (by omega) (by omega)⟩
    have hx := hsm_x K
    refine end_x hn X V50 (fun x l y1 y2 => N5 x l (by omega) (by omega)) (hpo_s K X.hp) hx ⟨fun y y1 y2 => ⟨N5 251 _ (by omega) (by omega), N5 252 _ (by omega) (by omega), N5 253 _ (by omega) (by omega), N5 254 _ (by omega) (by omega)⟩, fun y y1 y2 => N5 255 _ (by omega) (by omega)⟩ (by rw [N5 160 149 (by omega) (by omega)]; exact hd) ⟨N5 251 _ (by omega) (by omega), N5 252 _ (by omega) (by omega), N5 253 _ (by omega) (by omega)⟩ ⟨fun y y1 y2 => ?_, ?_, fun y y1 y2 => ?_⟩ (nt (by omega)) hb'
    · by_cases y0 : y = o
      · have e5 : h50 255 (60 * i + o).toNat = u44.1 := by rw [E50, up_s]
        rw [y0, w5, e5]; exact cv_x hx cv
      · rw [N5 255 _ (by omega) (by omega), w1 243 _ (by omega) (by omega)]
        exact cv_x hx (X.cf.1 y y1 y2)
    · rw [E50, up_n (by omega), e4]; omega
    · rw [N5 255 _ (by omega) (by omega), w1 244 _ (by omega) (by omega)]
      exact cv_x hx (X.cf.2.2 y y1 (by omega))
  have z964 : (op = 96 ∨ op = 100 ∨ op = 104 ∨ op = 108 ∨ op = 112 ∨ op = 120 ∨ op = 122 ∨ op = 124 ∨ op = 126 ∨ op = 128 ∨ op = 130) → Ok_ (qj_X13_step_964 nn op b R) (SQ nn g ω R) := fun y => by
    obtain ⟨w1, w2, w3⟩ := wnx_12 W y
    have ln := w3.2.2.1
    unfold qj_X13_step_964
    refine ok_sv (g_drop V P0 hd hi (by omega) (by omega)) ?_; intro u35 P35
    refine ok_sv (g_drop P35.1 P35.2.1 hd hi (by omega) (by omega)) ?_; intro u37 P37
    obtain ⟨V7, Q7, q7⟩ := P37
    have Q7' : RPO R i 2 u37.2 := Q7
    have rk : ¬ (u35.1 = 0 ∧ (op = 108 ∨ op = 112)) → Ok_ (qj_X13_step_999 nn op b u37.1 u35.1 u37.2) (SQ nn g ω R) := fun z => by
      unfold qj_X13_step_999 qj_X13_step_1150
      refine ok_sv (rk_reckon z) ?_; intro u29 P29
      exact end_give hn X w3 V7 Q7' P29 cv_i (nt (by omega)) hb'
    have fl : Ok_ (qj_X13_step_993 nn u37.2) (SQ nn g ω R) := end_fails hn X V7 Q7' (by decide)
    refine ok_if (fun z => rk (by omega)) (fun z => ?_)
    refine ok_if (fun _ => fl) (fun z2 => ?_)
    exact ok_if (fun z3 => rk (by omega)) (fun _ => fl)
  unfold qj_X13_step_39

  refine ok_ifN (fun y => ?_) (fun n0 => ?_)
  · refine spq ?_
    exact end_po hn X (wnx_0 W (.inl y)) V P0 (nt (by omega)) hb'
  refine ok_ifN (fun y => ?_) (fun n1 => ?_)
  · refine spq ?_
    exact end_give hn X (wnx_1 W y) V P0 (by decide) cv_0 (nt (by omega)) hb'
  refine ok_ifN (fun y => ?_) (fun n2 => ?_)
  · refine spq ?_
    exact z843 (by omega)
  refine ok_ifN (fun y => ?_) (fun n3 => ?_)
  · refine spq ?_
    exact end_give hn X (wnx_2 W (by omega)) V P0 (by decide) cv_0 (nt (by omega)) hb'
  refine ok_ifN (fun y => ?_) (fun n4 => ?_)
  · refine spq ?_
    exact z843 (by omega)
  refine ok_ifN (fun y => ?_) (fun n5 => ?_)
  · refine spq ?_
    exact z843 (by omega)
  refine ok_ifN (fun y => ?_) (fun n6 => ?_)
  · refine spq ?_
    exact z843 (by omega)
  refine ok_ifN (fun y => ?_) (fun n7 => ?_)
  · refine spq ?_
    exact z843 (by omega)
  refine ok_ifN (fun y => ?_) (fun n8 => ?_)
  · refine spq ?_
    exact z843 (by omega)
  refine ok_ifN (fun y => ?_) (fun n16 => ?_)
  · refine spq ?_
    refine ok_b ?_; intro v60 b1 b2
    exact end_give hn X (wnx_2 W (by omega)) V P0 (by omega) cv_i (nt (by omega)) hb'
  refine ok_ifN (fun y => ?_) (fun n18 => ?_)
  · refine spq ?_
    refine ok_sv (st_intOf X (RG.1 y)) ?_; intro u64 P64
    exact end_give hn X (wnx_2 W (by omega)) V P0 P64 cv_i (nt (by omega)) hb'
  refine ok_ifN (fun y => ?_) (fun n21 => ?_)
  · refine spq ?_
    exact z876 (by omega)
  refine ok_ifN (fun y => ?_) (fun n25 => ?_)
  · refine spq ?_
    exact z876 (by omega)
  refine ok_ifN (fun y => ?_) (fun n46 => ?_)
  · refine spq ?_
    exact st_element hn X eo W (by omega)
  refine ok_ifN (fun y => ?_) (fun n50 => ?_)
  · refine spq ?_
    exact st_element hn X eo W (by omega)
  refine ok_ifN (fun y => ?_) (fun n54 => ?_)
  · refine spq ?_
    exact z889 (by omega)
  refine ok_ifN (fun y => ?_) (fun n58 => ?_)
  · refine spq ?_
    exact z889 (by omega)
  refine ok_ifN (fun y => ?_) (fun n79 => ?_)
  · refine spq ?_
    exact st_element hn X eo W (by omega)
  refine ok_ifN (fun y => ?_) (fun n83 => ?_)
  · refine spq ?_
    exact st_element hn X eo W (by omega)
  refine ok_ifN (fun y => ?_) (fun n87 => ?_)
  · refine spq ?_
    have w1 := wnx_10 W y
    have ln := w1.2.2
    refine ok_sv (g_drop V P0 hd hi (by omega) (by omega)) ?_; intro u68 P68
    exact end_po hn X w1 P68.1 P68.2.1 (nt (by omega)) hb'
  refine ok_ifN (fun y => ?_) (fun n89 => ?_)
  · refine spq ?_
    obtain ⟨w1, w2⟩ := wnx_11 W y
    have q4 := w2.2.2.2.1
    refine ok_sv (g_drop V P0 hd hi (by omega) (by omega)) ?_; intro u70 P70
    obtain ⟨V7, Q7, q7⟩ := P70
    have bq := val 0 (by omega) (by omega)
    have cv := X.tp (y := 0) (by omega) (by omega)
    rw [← q7] at bq cv
    have e7 := Q7.2.1
    refine ok_sv (g_give V7 Q7 hd hi (by omega) bq) ?_; intro u72 P72
    obtain ⟨V2, N2, e2, _, e3⟩ := P72
    have N0 : ∀ x l : Nat, u72 x l = R x l := fun x l => by
      by_cases y1 : x = 254 ∧ l = i.toNat
      · rw [y1.1, y1.2, e2]; omega
      · by_cases y2 : x = 255 ∧ l = (60 * i + 30 + (R 254 i.toNat - (0 + 1))).toNat
        · rw [y2.1, y2.2, e3, q7, show R 254 i.toNat - (0 + 1) = R 254 i.toNat - 1 - 0 by omega]
        · exact N2 x l y1 y2
    have P2 : RPO R i 0 u72 := ⟨fun x l _ => N0 x l, by rw [N0]; omega, by omega⟩
    refine ok_sv (g_give V2 P2 hd hi (by omega) bq) ?_; intro u74 P74
    exact end_ps hn X w2 P74.1 P74.2 cv (nt (by omega)) hb'
  refine ok_ifN (fun y => ?_) (fun n96 => ?_)
  · refine spq ?_
    exact z964 (by omega)
  refine ok_ifN (fun y => ?_) (fun n100 => ?_)
  · refine spq ?_
    exact z964 (by omega)
  refine ok_ifN (fun y => ?_) (fun n104 => ?_)
  · refine spq ?_
    exact z964 (by omega)
  refine ok_ifN (fun y => ?_) (fun n108 => ?_)
  · refine spq ?_
    exact z964 (by omega)
  refine ok_ifN (fun y => ?_) (fun n112 => ?_)
  · refine spq ?_
    exact z964 (by omega)
  refine ok_ifN (fun y => ?_) (fun n116 => ?_)
  · refine spq ?_
    obtain ⟨w1, w2⟩ := wnx_13 W y
    have ln := w2.2.2.1
    refine ok_sv (g_drop V P0 hd hi (by omega) (by omega)) ?_; intro u76 P76
    refine ok_xl ?_; intro v77 e77
    have b7 : -2147483648 ≤ v77 ∧ v77 ≤ 2147483647 := by rw [e77]; exact int_rg
    exact end_give hn X w2 P76.1 P76.2.1 b7 cv_i (nt (by omega)) hb'
  refine ok_ifN (fun y => ?_) (fun n120 => ?_)
  · refine spq ?_
    exact z964 (by omega)
  refine ok_ifN (fun y => ?_) (fun n122 => ?_)
  · refine spq ?_
    exact z964 (by omega)
  refine ok_ifN (fun y => ?_) (fun n124 => ?_)
  · refine spq ?_
    exact z964 (by omega)
  refine ok_ifN (fun y => ?_) (fun n126 => ?_)
  · refine spq ?_
    exact z964 (by omega)
  refine ok_ifN (fun y => ?_) (fun n128 => ?_)
  · refine spq ?_
    exact z964 (by omega)
  refine ok_ifN (fun y => ?_) (fun n130 => ?_)
  · refine spq ?_
    exact z964 (by omega)
  refine ok_ifN (fun y => ?_) (fun n172 => ?_)
  · refine spq ?_
    exact st_back hn X W (by omega)
  refine ok_ifN (fun y => ?_) (fun n176 => ?_)
  · refine spq ?_
    exact st_back hn X W (by omega)
  refine ok_ifN (fun y => ?_) (fun n177 => ?_)
  · refine spq ?_
    exact st_back hn X W (by omega)
  refine ok_ifN (fun y => ?_) (fun n180 => ?_)
  · refine spq ?_
    exact st_field hn X eo W (by omega) hb'
  refine ok_ifN (fun y => ?_) (fun n181 => ?_)
  · refine spq ?_
    exact st_field hn X eo W (by omega) hb'
  refine ok_ifN (fun y => ?_) (fun n182 => ?_)
  · refine spq ?_
    exact st_call hn X eo W (by omega)
  refine ok_ifN (fun y => ?_) (fun n184 => ?_)
  · refine spq ?_
    exact st_call hn X eo W (by omega)
  refine ok_ifN (fun y => ?_) (fun n186 => ?_)
  · obtain ⟨w1, w2⟩ := wnx_14 W (by omega)
    have ln := w2.2.2
    refine ok_sv (g_drop V P0 hd hi (by omega) (by omega)) ?_; intro u81 P81
    obtain ⟨V8, Q8, q8⟩ := P81
    have Q8' : RPO R i 1 u81.2 := Q8
    have e8 := Q8'.2.1
    have bq := val 0 (by omega) (by omega)
    rw [← q8] at bq
    have pm : u81.2 160 143 = R 160 143 := Q8'.1 160 143 (by omega)
    have fin : ∀ f : ms_M, VS_ f → (∀ x l : Nat, ¬ (x = 250) → f x l = u81.2 x l) → Ok_ (qj_X13_step_1064 nn b f) (SPr nn g ω R) := fun f Vf Nf => by
      unfold qj_X13_step_1064 qj_X13_step_1150
      have fm : f 160 143 = R 160 143 := by rw [Nf 160 143 (by decide)]; exact pm
      rw [fm]
      refine ok_add (by omega) ?_; intro v21 e21
      refine ok_xl ?_; intro h22 E22
      have V22 : VS_ h22 := by rw [E22]; exact wF_160_143 Vf (by omega)
      have N22 : ∀ x l : Nat, ¬ (x = 250) → ¬ (x = 160 ∧ l = 143) → ¬ (x = 254 ∧ l = i.toNat) → h22 x l = R x l := fun x l y1 y2 y3 => by rw [E22, up_n y2, Nf x l y1]; exact Q8'.1 x l y3
      have e254 : h22 254 i.toNat = R 254 i.toNat - 1 := by rw [E22, up_n (by omega), Nf 254 _ (by decide)]; exact e8
      have X1 : RTP nn g ω (up_M h22 254 i.toNat (R 254 i.toNat)) i c k N T U t a p := rtp_p X (wA_254 V22 (by omega)) (fun x l y1 y2 => by
        by_cases y3 : x = 254 ∧ l = i.toNat
        · rw [y3.1, y3.2, up_s]
        · rw [up_n y3]; exact N22 x l y1 y2 y3)
      have RP : RPO (up_M h22 254 i.toNat (R 254 i.toNat)) i 1 h22 := ⟨fun x l y => by rw [up_n y], by rw [up_s]; exact e254, by rw [up_s]; omega⟩
      refine ok_im (end_po hn X1 w2 V22 RP (nt (by omega)) hb') (fun r Q => ⟨Q.1, fun x l y1 y2 => ?_, .inr ?_, Q.2.2⟩)
      · rw [Q.2.1 x l y1 (by omega), up_n (by omega)]; exact N22 x l (by omega) (by omega) (by omega)
      · rw [Q.2.1 160 143 (by decide) (by decide), up_n (by omega), E22, up_s]; exact e21
    refine ok_if (fun _ => fin u81.2 V8 (fun _ _ _ => rfl)) (fun z => ?_)
    refine ok_wA (by omega) ?_; intro h85 E85
    exact fin h85 (by rw [E85]; exact wA_250 V8 bq) (fun x l y1 => by rw [E85, up_n (by omega)])
  refine ok_ifN (fun y => ?_) (fun n187 => ?_)
  · refine spq ?_
    exact st_fresh hn X eo W (by omega)
  refine ok_ifN (fun y => ?_) (fun n188 => ?_)
  · refine spq ?_
    exact st_fresh hn X eo W (by omega)
  refine ok_ifN (fun y => ?_) (fun n189 => ?_)
  · refine spq ?_
    exact st_fresh hn X eo W (by omega)
  refine ok_ifN (fun y => ?_) (fun n190 => ?_)
  · refine spq ?_
    exact st_field hn X eo W (by omega) hb'
  refine ok_ifN (fun y => ?_) (fun n191 => ?_)
  · refine spq ?_
    obtain ⟨w1, w2⟩ := wnx_27 W y
    have ln := w2.2.2
    have g98 := gF_160_98 X.rx.1.1.1
    refine ok_sv (g_drop V P0 hd hi (by omega) (by omega)) ?_; intro u88 P88
    obtain ⟨V8, Q8, q8⟩ := P88
    have cv := rtp_go hn X (y := 0) (by omega) (by omega) w1 ⟨by omega, by omega⟩
    rw [← q8] at cv
    refine ok_if (fun o0 => ?_) (fun _ => end_fails hn X V8 Q8 (by decide))
    have ob := cv_ref (by decide) cv o0
    obtain ⟨⟨k1, k2, k3⟩, k4, k5⟩ := rpo_k hi.1 Q8
    have d8 : u88.2 160 149 = i + 1 := by rw [k4]; exact hd
    have hx := hsm_x k2
    unfold qf_X13_thrown
    have th : Ok_ (qw_X13_thrown_0 nn nn u88.1 u88.2) (fun r => SQ nn g ω u88.2 r) := by
      refine g_thrown hn nn u88.2 (rx_k k1 V8 X.rx) (hpo_s k2 X.hp) (by rw [k2.2.1]; exact ob) (by omega) (fun _ => ⟨t, ?_, ?_⟩) (by omega)
      · rw [d8, show i + 1 - 1 = i by omega]
        obtain ⟨b1, b2, b3, b4, b5⟩ := X.2.1
        refine ⟨c, k, N, T, U, a, p, ⟨b1, b2, ⟨by rw [k5.1]; exact b3.1, by rw [k5.2.1]; exact b3.2⟩, b4, by rw [k5.2.2]; exact b5⟩, fun y y1 y2 => ?_⟩
        rw [Q8.1 255 _ (by omega)]; exact cv_x hx (X.cf.1 y y1 y2)
      · rw [d8, show i + 1 - 1 = i by omega]
        exact stk_k _ _ (by rw [show ((i.toNat : Nat) : Int) = i by omega]; exact k3) hx X.st
    refine ok_sv th ?_; intro u90 P90
    exact ok_ret ⟨P90.1, rfr_tr k1 P90.2.1, P90.2.2⟩
  refine ok_ifN (fun y => ?_) (fun n192 => ?_)
  · refine spq ?_
    exact st_is hn X eo W (by omega) hb'
  refine ok_ifN (fun y => ?_) (fun n193 => ?_)
  · refine spq ?_
    exact st_is hn X eo W (by omega) hb'
  have y : op = 153 ∨ op = 154 ∨ (159 ≤ op ∧ op ≤ 167) := by
    have kn := wd_known h1
    unfold NoT at *
    omega
  exact spq (st_jmp hn X eo W y hb')
end

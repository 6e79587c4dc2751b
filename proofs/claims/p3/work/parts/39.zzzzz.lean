section
variable {nn : Nat} {h g r z w v x f : ms_M} {c d e k : Int} {ω : Int → ms_M}
/-- what a method's check may write -/
def NV (h r : ms_M) : Prop := ∀ x j : Nat, ¬ (x = 160 ∧ ((117 ≤ j ∧ j ≤ 125) ∨ j = 131 ∨ j = 136)) → ¬ (240 ≤ x ∧ x ≤ 245) → r x j = h x j
theorem nv_rf : NV h h := fun _ _ _ _ => rfl
theorem nv_tr (a : NV h z) (b : NV z r) : NV h r := fun x j p q => (b x j p q).trans (a x j p q)
theorem nv_nfl (a : NFl h r) : NV h r := fun x j p q => a x j (by omega) (by omega)
theorem nv_nz (a : NZ h r) : NV h r := fun x j p q => a x j (by omega) (by omega) (by omega)
/-- the state r fits the frame's -/
def FITF (nn : Nat) (h r : ms_M) (n : Int) (L : Int → Int) (m : Int) (K : Int → Int) : Prop := (∀ y : Int, 0 ≤ y → y < n → GOt nn h (r 243 y.toNat) (L y)) ∧ m = r 160 131 ∧ ∀ y : Int, 0 ≤ y → y < m → GOt nn h (r 244 y.toNat) (K y)
/-- the state r fits the state s -/
def FIT (nn : Nat) (h r s : ms_M) : Prop := (∀ y : Int, 0 ≤ y → y < h 160 129 → GOt nn h (r 243 y.toNat) (s 243 y.toNat)) ∧ r 160 131 = s 160 131 ∧ ∀ y : Int, 0 ≤ y → y < s 160 131 → GOt nn h (r 244 y.toNat) (s 244 y.toNat)
theorem fit_rf : FIT nn h r r := ⟨fun _ _ _ => got_rf, rfl, fun _ _ _ => got_rf⟩
theorem fit_f {n m : Int} {L K : Int → Int} {s : ms_M} (F : FITF nn h r n L m K) (B : BCM h n L m K s) : FIT nn h r s := by
  obtain ⟨f1, f2, f3⟩ := F
  obtain ⟨b1, b2, b3, b4⟩ := B
  refine ⟨fun y y1 y2 => ?_, by omega, fun y y1 y2 => ?_⟩
  · by_cases q : y < n
    · rw [b1 y y1 q]; exact f1 y y1 q
    · rw [b2 y (by omega) y1 y2]; exact got_0
  · rw [b4 y y1 (by omega)]; exact f3 y y1 (by omega)
/-- the same types -/
def SAM (r s : ms_M) : Prop := s 243 = r 243 ∧ s 244 = r 244 ∧ s 160 131 = r 160 131
theorem sam_rf : SAM r r := ⟨rfl, rfl, rfl⟩
theorem sam_tr (a : SAM r z) (b : SAM z v) : SAM r v := ⟨b.1.trans a.1, b.2.1.trans a.2.1, b.2.2.trans a.2.2⟩
theorem sam_12 (N : ∀ x j : Nat, ¬ (x = 160 ∧ (j = 120 ∨ j = 121)) → z x j = r x j) : SAM r z := ⟨funext fun j => N 243 j (by omega), funext fun j => N 244 j (by omega), N 160 131 (by decide)⟩
theorem sam_n (N : N12 r z) : SAM r z := sam_12 (fun x j y => N x j (by omega))
theorem fit_s {s t : ms_M} (F : FIT nn h r s) (S : SAM s t) : FIT nn h r t := by
  obtain ⟨f1, f2, f3⟩ := F
  obtain ⟨s1, s2, s3⟩ := S
  exact ⟨fun y y1 y2 => by rw [s1]; exact f1 y y1 y2, by omega, fun y y1 y2 => by rw [s2]; exact f3 y y1 (by omega)⟩
theorem fit_r {s t : ms_M} (F : FIT nn h t s) (S : SAM r t) : FIT nn h r s := by
  obtain ⟨f1, f2, f3⟩ := F
  obtain ⟨s1, s2, s3⟩ := S
  exact ⟨fun y y1 y2 => by rw [← s1]; exact f1 y y1 y2, by omega, fun y y1 y2 => by rw [← s2]; exact f3 y y1 y2⟩
theorem bcm_s {n m : Int} {L K : Int → Int} {s t : ms_M} (B : BCM h n L m K s) (S : SAM s t) : BCM h n L m K t := by
  obtain ⟨b1, b2, b3, b4⟩ := B
  obtain ⟨s1, s2, s3⟩ := S
  exact ⟨fun y y1 y2 => by rw [s1]; exact b1 y y1 y2, fun y y1 y2 y3 => by rw [s1]; exact b2 y y1 y2 y3, by omega, fun y y1 y2 => by rw [s2]; exact b4 y y1 y2⟩
theorem lgt_s (N : ∀ x j : Nat, ¬ (x = 160 ∧ (j = 120 ∨ j = 121)) → z x j = r x j) (L : LGT r ∧ SGT r) : LGT z ∧ SGT z := by
  have A : AGd r z := ⟨fun x j p q => N x j (by omega), N 160 98 (by decide), N 900000 0 (by omega)⟩
  refine ⟨fun x a b => ?_, ?_⟩
  · rw [N 243 _ (by omega)]
    rw [N 160 129 (by decide)] at b
    exact gts_c A (L.1 x a b)
  · unfold SGT
    rw [N 160 131 (by decide), N 160 130 (by decide)]
    refine ⟨L.2.1, fun x a b => ?_⟩
    rw [N 244 _ (by omega)]
    exact gts_c A (L.2.2 x a b)
/-- the operand of the instruction at q -/
def opd (w : ms_M) (A q : Int) : Int := if WD (w 238 (A + q).toNat) ≤ 1 then 0 else w 238 (A + (q + 1)).toNat
/-- instruction a of the method, as its check saw it: T before, U behind it -/
def NODE (nn : Nat) (h : ms_M) (ω : Int → ms_M) (c k : Int) (w : ms_M) (rt : Int) (N : Nat) (T U : Nat → ms_M) (a : Nat) : Prop := (NFl h (T a) ∧ LGT (T a) ∧ SGT (T a)) ∧ (∀ (u n : Int) (L : Int → Int) (m : Int) (K : Int → Int), FFr h c k w (bp w (h 160 134) a) u → FRT nn h c w u n L m K → BCM h n L m K (T a)) ∧ HDO nn h c k w (bp w (h 160 134) a) (T a) ∧ RGT nn h ω c w (w 238 (h 160 134 + bp w (h 160 134) a).toNat) (opd w (h 160 134) (bp w (h 160 134) a)) ∧ WN nn (T a) ω c w rt (w 238 (h 160 134 + bp w (h 160 134) a).toNat) (opd w (h 160 134) (bp w (h 160 134) a)) (U a) ∧ (NFl h (U a) ∧ LGT (U a) ∧ SGT (U a)) ∧ ((153 ≤ w 238 (h 160 134 + bp w (h 160 134) a).toNat ∧ w 238 (h 160 134 + bp w (h 160 134) a).toNat ≤ 167) → ∃ (u n : Int) (L : Int → Int) (m : Int) (K : Int → Int), FFr h c k w (AIM w (h 160 134) (bp w (h 160 134) a)) u ∧ FRT nn h c w u n L m K ∧ FITF nn h (U a) n L m K) ∧ (¬ (w 238 (h 160 134 + bp w (h 160 134) a).toNat = 167 ∨ w 238 (h 160 134 + bp w (h 160 134) a).toNat = 172 ∨ w 238 (h 160 134 + bp w (h 160 134) a).toNat = 176 ∨ w 238 (h 160 134 + bp w (h 160 134) a).toNat = 177 ∨ w 238 (h 160 134 + bp w (h 160 134) a).toNat = 191) → a + 1 < N ∧ FIT nn h (U a) (T (a + 1)))
theorem node_ext {rt : Int} {N : Nat} {T U T2 U2 : Nat → ms_M} {a : Nat} (e1 : T2 a = T a) (e2 : U2 a = U a) (e3 : T2 (a + 1) = T (a + 1)) (X : NODE nn h ω c k w rt N T U a) : NODE nn h ω c k w rt N T2 U2 a := by
  unfold NODE at X ⊢
  rw [e1, e2, e3]
  exact X
/-- what a method's check leaves -/
def FQ (h : ms_M) (u : Int × ms_M) : Prop := VS_ u.2 ∧ NV h u.2 ∧ OI u.2 ∧ ((u.1 = 1 ∧ u.2 160 117 = h 160 117) ∨ (u.1 = 0 ∧ u.2 160 117 ≤ h 160 117 + 1))
theorem bad_118 {a b d e : Int} : Pc (qf_X13_bad nn a b d e r) (fun u => ∀ x j : Nat, ¬ (x = 160 ∧ 122 ≤ j ∧ j ≤ 125) → u.2 x j = r x j) := by
  unfold qf_X13_bad
  refine pc_xl ?_; intro h1 E1
  refine pc_xl ?_; intro h2 E2
  refine pc_xl ?_; intro h3 E3
  refine pc_xl ?_; intro h4 E4
  exact pc_ret (fun x j y => by show h4 x j = r x j; rw [E4, up_n (by omega), E3, up_n (by omega), E2, up_n (by omega), E1, up_n (by omega)])
theorem fq_bad {F : Prop} (V : VS_ r) (N : NV h r) (O : OI r) (e : r 160 117 ≤ h 160 117 + 1) {a b m p : Int} (ra : 0 ≤ a ∧ a ≤ 12) (rk : -1 ≤ b ∧ b ≤ 15) (rm : -1 ≤ m ∧ m ≤ 254) (rp : -2147483648 ≤ p ∧ p ≤ 65535) : Ok_ (mx_sv (qf_X13_bad nn a b m p r) fun u2 => ck_B (u2.1 = 0 ∨ u2.1 = 1) <| some (u2.1, u2.2)) (fun u => FQ h u ∧ (¬ u.1 = 0 → F)) := by
  refine ok_sv (ok_pc (rv_bad V O ra rk rm rp) bad_118) ?_; intro u P
  obtain ⟨P, Q⟩ := P
  refine ok_ck (.inl P.1) (ok_ret ⟨⟨P.2.1, nv_tr N (fun x j p q => Q x j (by omega)), P.2.2.2.1, .inr ⟨P.1, by have := P.2.2.2.2; show u.2 160 117 ≤ _; omega⟩⟩, fun q => absurd P.1 q⟩)
/-- the frames and handlers of the method are there -/
def FHK (nn : Nat) (h : ms_M) (c k : Int) (w : ms_M) : Prop := (∀ u : Int, FRu h c k w u → FOK nn h c k w u) ∧ HDK nn h c k w
theorem fok_c (A : AGd h g) (e1 : g 160 129 = h 160 129) (e2 : g 160 130 = h 160 130) {u : Int} (F : FOK nn h c k w u) : FOK nn g c k w u := by
  obtain ⟨a, b, ⟨a1, a2⟩, ⟨b1, b2⟩, b3⟩ := F
  exact ⟨a, b, ⟨by rw [e1]; exact a1, tyf_c (agd_c A) _ _ _ a2⟩, ⟨by rw [e2]; exact b1, tyf_c (agd_c A) _ _ _ b2⟩, b3⟩
theorem hpl_c (A : AGd h g) {i : Int} : hpl g c k i = hpl h c k i := by
  unfold hpl
  rw [agd_f A (x := 236) (by decide) (by decide)]
theorem ffr_c (A : AGd h g) {t u : Int} : FFr g c k w t u = FFr h c k w t u := by
  unfold FFr
  rw [agd_f A (x := 237) (by decide) (by decide)]
theorem hfr_c (A : AGd h g) {t : Int} : HFr g c k w t = HFr h c k w t := by
  unfold HFr
  rw [agd_f A (x := 237) (by decide) (by decide)]
theorem fru_c (A : AGd h g) {u : Int} : FRu g c k w u = FRu h c k w u := by
  unfold FRu
  rw [agd_f A (x := 237) (by decide) (by decide)]
theorem hdk_c (A : AGd h g) (H : HDK nn h c k w) : HDK nn g c k w := fun i a b => by
  rw [agd_f A (x := 236) (by decide) (by decide)] at b
  rw [hpl_c A, hfr_c A]
  obtain ⟨q1, q2, u, q3, q4⟩ := H i a b
  exact ⟨cfd_c (agd_c A) q1, q2, u, by rw [A.2.1]; exact q3, ctv_c (agd_c A) q4⟩
theorem fhk_c (A : AGd h g) (e1 : g 160 129 = h 160 129) (e2 : g 160 130 = h 160 130) (H : FHK nn h c k w) : FHK nn g c k w := ⟨fun u y => fok_c A e1 e2 (H.1 u (by rw [fru_c A] at y; exact y)), hdk_c A H.2⟩
theorem hdo_c (A : AGd h g) (e1 : g 160 129 = h 160 129) {q : Int} (H : HDO nn g c k w q r) : HDO nn h c k w q r := fun i a b d e => by
  have b' : i < w 238 (g 236 (12 * c + k).toNat).toNat := by rw [agd_f A (x := 236) (by decide) (by decide)]; exact b
  obtain ⟨u, n, L, m, K, t, p1, ⟨p2, p3, p4⟩, p5, p6, p7⟩ := H i a b' (by rw [hpl_c A]; exact d) (by rw [hpl_c A]; exact e)
  rw [hpl_c A, ffr_c A] at p1
  rw [hpl_c A] at p6
  exact ⟨u, n, L, m, K, t, p1, ⟨frt_c (agd_c (agd_sy A)) p2, by rw [← e1]; exact p3, p4⟩, fun y y1 y2 => got_c (agd_sy A) (p5 y y1 y2), ctv_c (agd_c (agd_sy A)) p6, got_c (agd_sy A) p7⟩
theorem hdo_s {q : Int} {s : ms_M} (H : HDO nn h c k w q r) (S : s 243 = r 243) : HDO nn h c k w q s := fun i a b d e => by
  obtain ⟨u, n, L, m, K, t, p1, p2, p5, p6, p7⟩ := H i a b d e
  exact ⟨u, n, L, m, K, t, p1, p2, fun y y1 y2 => by rw [S]; exact p5 y y1 y2, p6, p7⟩
theorem rgt_c (A : AGd h g) {op i : Int} (R : RGT nn g ω c w op i) : RGT nn h ω c w op i := by
  have B := agd_sy A
  refine ⟨R.1, fun y => ?_, fun y => ?_, fun y => ?_⟩
  · obtain ⟨a, u, b, d⟩ := R.2.1 y
    exact ⟨a, u, by rw [B.2.1]; exact b, ctv_c (agd_c B) d⟩
  · obtain ⟨u, b, j, d⟩ := R.2.2.1 y
    exact ⟨u, b, j, mrf_c B d⟩
  · obtain ⟨u, b, j, d, e⟩ := R.2.2.2 y
    exact ⟨u, b, j, mrf_c B d, by rw [agd_f A (x := 235) (by decide) (by decide)] at e; exact e⟩
/-- the flow: what it tells from instruction a on -/
def FLT (nn : Nat) (h : ms_M) (ω : Int → ms_M) (c k : Int) (w : ms_M) (rt : Int) (N a : Nat) (l : Int) (f : ms_M) : Prop := ∃ T U : Nat → ms_M, (¬ l = 0 → a < N ∧ FIT nn h f (T a)) ∧ ∀ b : Nat, a ≤ b → b < N → NODE nn h ω c k w rt N T U b
theorem f_240 {N : Nat} {rt p136 e136 : Int} (hn : 1000000 ≤ nn) (V : VS_ h) (S : SPD h) (OW : OM h ω) (CA : CLA nn h ω) (O : OI h) (room : h 160 117 ≤ 2090) (M : MC h c k w) (FH : FHK nn h c k w) (IN : INS w (h 160 134) (h 160 135) N) (r1 : h 160 136 = 6000 * c + p136) (r2 : 0 ≤ p136 ∧ e136 ≤ w 160 113) (r3 : RTk (w 238) p136 e136) (r4 : KTv nn h c (w 238) p136 e136 rt) {a : Nat} (ha : a < N) {C : Int → Int → Int → Int → ms_M → Option (Int × ms_M)} (HC : ∀ (l : Int) (f : ms_M), (l = 0 ∨ l = 1) → VS_ f → NFl h f → LGT f → SGT f → Ok_ (C (8 + c) k l (bp w (h 160 134) (a + 1)) f) (fun u => FQ h u ∧ (¬ u.1 = 0 → FLT nn h ω c k w rt N (a + 1) l f))) (Vf : VS_ f) (Nf : NFl h f) (LG : LGT f) (SG : SGT f) (FB : ∀ (u n : Int) (L : Int → Int) (m : Int) (K : Int → Int), FFr h c k w (bp w (h 160 134) a) u → FRT nn h c w u n L m K → BCM h n L m K f) : Ok_ (qj_X13_flows_240 nn C (8 + c) k (bp w (h 160 134) a) f) (fun u => FQ h u ∧ (¬ u.1 = 0 → ∃ T U : Nat → ms_M, SAM f (T a) ∧ ∀ b : Nat, a ≤ b → b < N → NODE nn h ω c k w rt N T U b)) := by
  have hc := M.1
  have hk12 : k < 12 := (wi_mt M.2.2.1 M.1 M.2.1).1
  have hk0 := M.2.1.1
  have cd := mc_code M
  obtain ⟨iq, iw, il⟩ := IN.2 a ha
  have il' : bp w (h 160 134) a + WD (w 238 (h 160 134 + bp w (h 160 134) a).toNat) ≤ h 160 135 := il
  have Af := nfl_agd Nf
  have Mf : MC f c k w := nfl_mc Nf M
  have Sf := agd_spd V Af S
  have e129 : f 160 129 = h 160 129 := Nf 160 129 (by decide) (by decide)
  have e130 : f 160 130 = h 160 130 := Nf 160 130 (by decide) (by decide)
  have FHf := fhk_c Af e129 e130 FH
  unfold qj_X13_flows_240
  refine ok_sv (ml_handled hn Vf Sf Mf LG FHf.2 FHf.1) ?_; intro u14 P14
  obtain ⟨V14, N14, _, H14⟩ := P14
  have Nh14 : NFl h u14.2 := nfl_tr Nf (nfl_12 N14)
  have O14 : OI u14.2 := nfl_oi Nh14 O
  have e14 : u14.2 160 117 = h 160 117 := Nh14 160 117 (by decide) (by decide)
  refine ok_if (fun y14 => ?_) (fun _ => fq_bad V14 (nv_nfl Nh14) O14 (by omega) (by omega) (by omega) (by omega) (by omega))
  have hdo := hdo_c Af e129 (H14 y14)
  have M14 : MC u14.2 c k w := nfl_mc Nh14 M
  have A14 := nfl_agd Nh14
  have c14 : u14.2 160 134 = h 160 134 := Nh14 160 134 (by decide) (by decide)
  have d14 : u14.2 160 135 = h 160 135 := Nh14 160 135 (by decide) (by decide)
  refine ok_sv (mr_right hn V14 (agd_spd V A14 S) (om_k A14 OW) O14 (by omega) M14 (q := bp w (h 160 134) a) (by omega) (by rw [c14, d14]; exact il') (by rw [c14]; exact iw)) ?_; intro u16 P16
  obtain ⟨V16, Z16, O16, P16⟩ := P16
  rcases P16 with ⟨y16, N16, R16⟩ | ⟨y16, e16⟩
  case inr =>
    rw [if_neg (show ¬ ¬ u16.1 = 0 by omega)]
    exact fq_bad V16 (nv_tr (nv_nfl Nh14) (nv_nz Z16)) O16 (by omega) (by omega) (by omega) (by omega) (by omega)
  rw [if_pos (show ¬ u16.1 = 0 by omega)]
  have Nh16 : NFl h u16.2 := nfl_tr Nh14 (fun x j p q => N16 x j (by omega))
  have A16 := nfl_agd Nh16
  have M16 : MC u16.2 c k w := nfl_mc Nh16 M
  have c16 : u16.2 160 134 = h 160 134 := Nh16 160 134 (by decide) (by decide)
  have d16 : u16.2 160 135 = h 160 135 := Nh16 160 135 (by decide) (by decide)
  have S16 : SAM f u16.2 := sam_tr (sam_n N14) (sam_12 N16)
  have LS14 : LGT u14.2 ∧ SGT u14.2 := ⟨lgt_12 N14 LG, sgt_12 N14 SG⟩
  have LS16 := lgt_s N16 LS14
  rw [c14] at R16
  have RG := rgt_c A14 R16
  have RS : RSP nn u16.2 c w rt := ⟨p136, e136, by rw [Nh16 160 136 (by decide) (by decide)]; exact r1, r2, r3, ktv_c (agd_c A16) r4⟩
  refine ok_sv (y_wanted hn V16 (agd_spd V A16 S) (om_k A16 OW) (cla_c A16 CA) M16 LS16.1 LS16.2 (q := bp w (h 160 134) a) (by omega) (by rw [c16]; exact iw) (by rw [c16, d16]; exact il') RS (by rw [c16]; exact rgt_c (agd_sy A16) RG)) ?_; intro u18 P18
  obtain ⟨V18, N18, _, W18⟩ := P18
  have Nh18 : NFl h u18.2 := nfl_tr Nh16 N18
  have O18 : OI u18.2 := nfl_oi Nh18 O
  have e18 : u18.2 160 117 = h 160 117 := Nh18 160 117 (by decide) (by decide)
  refine ok_if (fun y18 => ?_) (fun _ => fq_bad V18 (nv_nfl Nh18) O18 (by omega) (by omega) (by omega) (by omega) (by omega))
  obtain ⟨LS18, wn⟩ := W18 y18
  rw [c16] at wn
  have M18 : MC u18.2 c k w := nfl_mc Nh18 M
  have A18 := nfl_agd Nh18
  have c18 : u18.2 160 134 = h 160 134 := Nh18 160 134 (by decide) (by decide)
  have d18 : u18.2 160 135 = h 160 135 := Nh18 160 135 (by decide) (by decide)
  have FH18 := fhk_c A18 (Nh18 160 129 (by decide) (by decide)) (Nh18 160 130 (by decide) (by decide)) FH
  have RGo : RGT nn h ω c w (w 238 (h 160 134 + bp w (h 160 134) a).toNat) (opd w (h 160 134) (bp w (h 160 134) a)) := by
    unfold opd
    by_cases z : WD (w 238 (h 160 134 + bp w (h 160 134) a).toNat) = 2
    · rw [if_pos z] at RG
      rw [if_neg (by omega)]; exact RG
    · by_cases z1 : WD (w 238 (h 160 134 + bp w (h 160 134) a).toNat) ≤ 1
      · rw [if_neg z] at RG
        rw [if_pos z1]; exact RG
      · have := wd_rg (a := w 238 (h 160 134 + bp w (h 160 134) a).toNat)
        exact rgt_3 (i := 0) (wd_3 (by omega))
  refine ok_sv (mv_code V18 M18 (by omega)) ?_; intro u20 P20
  rw [c18] at P20
  have q20 := P20.1
  -- the end of the turn
  have fin : ∀ (f2 : ms_M), VS_ f2 → N12 u18.2 f2 → ((153 ≤ u20 ∧ u20 ≤ 167) → ∃ (u n : Int) (L : Int → Int) (m : Int) (K : Int → Int), FFr h c k w (AIM w (h 160 134) (bp w (h 160 134) a)) u ∧ FRT nn h c w u n L m K ∧ FITF nn h u18.2 n L m K) → Ok_ (qj_X13_flows_363 nn C (8 + c) k (bp w (h 160 134) a) u20 f2) (fun u => FQ h u ∧ (¬ u.1 = 0 → ∃ T U : Nat → ms_M, SAM f (T a) ∧ ∀ b : Nat, a ≤ b → b < N → NODE nn h ω c k w rt N T U b)) := fun f2 V2 N2 J => by
    have Nh2 : NFl h f2 := nfl_tr Nh18 (nfl_12 N2)
    have M2 : MC f2 c k w := nfl_mc Nh2 M
    have c2 : f2 160 134 = h 160 134 := Nh2 160 134 (by decide) (by decide)
    have go : ∀ l : Int, (l = 0 ∨ l = 1) → (l = 0 → (u20 = 167 ∨ u20 = 172 ∨ u20 = 176 ∨ u20 = 177 ∨ u20 = 191)) → Ok_ (qj_X13_flows_408 nn C (8 + c) k (bp w (h 160 134) a) l f2) (fun u => FQ h u ∧ (¬ u.1 = 0 → ∃ T U : Nat → ms_M, SAM f (T a) ∧ ∀ b : Nat, a ≤ b → b < N → NODE nn h ω c k w rt N T U b)) := fun l hl lo => by
      unfold qj_X13_flows_408
      refine ok_sv (mv_code V2 M2 (by rw [Nh2 160 135 (by decide) (by decide)]; omega)) ?_; intro u2 P2
      rw [c2] at P2
      refine ok_sv mw_width ?_; intro u3 P3
      have q3 := P3.1
      rw [P2.1] at q3
      refine ok_add (by omega) ?_; intro v4 e4
      rw [show v4 = bp w (h 160 134) (a + 1) from by rw [e4, q3]; rfl]
      refine ok_im (HC l f2 hl V2 Nh2 (lgt_12 N2 LS18.1) (sgt_12 N2 LS18.2)) (fun u P => ⟨P.1, fun y => ?_⟩)
      obtain ⟨T, U, X1, X2⟩ := P.2 y
      refine ⟨fun b => if b = a then u16.2 else T b, fun b => if b = a then u18.2 else U b, ?_, fun b b1 b2 => ?_⟩
      · show SAM f (if a = a then u16.2 else T a)
        rw [if_pos rfl]; exact S16
      · by_cases y0 : b = a
        · rw [y0]
          unfold NODE
          simp only [if_true, if_neg (show ¬ a + 1 = a by omega)]
          refine ⟨⟨Nh16, LS16⟩, fun u n L m K q1 q2 => bcm_s (FB u n L m K q1 q2) S16, hdo_s hdo (by rw [S16.1]), RGo, wn, ⟨Nh18, LS18⟩, ?_, fun q => ?_⟩
          · rw [← q20]; exact J
          · rw [← q20] at q
            have ln : ¬ l = 0 := fun z => q (lo z)
            exact ⟨(X1 ln).1, fit_r (X1 ln).2 (sam_n N2)⟩
        · exact node_ext (by show (if b = a then u16.2 else T b) = T b; rw [if_neg y0]) (by show (if b = a then u18.2 else U b) = U b; rw [if_neg y0]) (by show (if b + 1 = a then u16.2 else T (b + 1)) = T (b + 1); rw [if_neg (by omega)]) (X2 b (by omega) b2)
    unfold qj_X13_flows_363 qj_X13_flows_407
    refine ok_if (fun y => go 0 (.inl rfl) (fun _ => by omega)) (fun n1 => ?_)
    refine ok_if (fun y => go 0 (.inl rfl) (fun _ => by omega)) (fun n2 => ?_)
    refine ok_if (fun y => go 0 (.inl rfl) (fun _ => by omega)) (fun n3 => ?_)
    refine ok_if (fun y => go 0 (.inl rfl) (fun _ => by omega)) (fun n4 => ?_)
    refine ok_if (fun y => go 0 (.inl rfl) (fun _ => by omega)) (fun n5 => ?_)
    exact go 1 (.inr rfl) (fun z => by exfalso; omega)
  have bad : ∀ (f2 : ms_M), VS_ f2 → NFl h f2 → Ok_ (qj_X13_flows_352 nn (8 + c) k (bp w (h 160 134) a) f2) (fun u => FQ h u ∧ (¬ u.1 = 0 → ∃ T U : Nat → ms_M, SAM f (T a) ∧ ∀ b : Nat, a ≤ b → b < N → NODE nn h ω c k w rt N T U b)) := fun f2 V2 N2 => by
    unfold qj_X13_flows_352
    refine fq_bad V2 (nv_nfl N2) (nfl_oi N2 O) ?_ (by omega) (by omega) (by omega) (by omega)
    rw [N2 160 117 (by decide) (by decide)]; omega
  refine ok_sv mv_jump ?_; intro u21 P21
  refine ok_if (fun y21 => ?_) (fun y21 => ?_)
  · exact fin u18.2 V18 (fun _ _ _ => rfl) (fun z => by exfalso; omega)
  have jr : 153 ≤ u20 ∧ u20 ≤ 167 := by omega
  have w3 : WD (w 238 (h 160 134 + bp w (h 160 134) a).toNat) = 3 := by rw [← q20] at iw ⊢; exact wd_jump jr iw
  refine ok_sv (mv_aim V18 M18 (p := bp w (h 160 134) a) (by rw [d18]; omega)) ?_; intro u23 P23
  rw [c18] at P23
  refine ok_sv (mv_for3 hn V18 M18) ?_; intro u25 P25
  refine ok_if (fun _ => bad u18.2 V18 Nh18) (fun n25 => ?_)
  obtain ⟨⟨fa, fu⟩, ff⟩ : (FRa w c u25 ∧ FRu u18.2 c k w u25) ∧ FFr u18.2 c k w u23 u25 := by
    rcases P25 with p | p
    · exact absurd p.1 n25
    · exact p
  obtain ⟨n, L, m, K, F, fn, fm⟩ := frt_of hc M18.2.2.1 fa.1 (FH18.1 u25 fu)
  refine ok_sv (ml_locals hn V18 (agd_spd V A18 S) M18 LS18.1 F fn) ?_; intro u27 P27
  obtain ⟨V27, N27, _, L27⟩ := P27
  have Nh27 := nfl_tr Nh18 (nfl_12 N27)
  have A27 := nfl_agd Nh27
  refine ok_if (fun _ => bad u27.2 V27 Nh27) (fun y27 => ?_)
  refine ok_sv (ml_stack hn V27 (agd_spd V A27 S) (nfl_mc Nh27 M) (sgt_12 N27 LS18.2) (frt_c (agd_c (n12_agd N27)) F)) ?_; intro u29 P29
  obtain ⟨V29, N29, _, L29⟩ := P29
  refine ok_if (fun y29 => ?_) (fun _ => bad u29.2 V29 (nfl_tr Nh27 (nfl_12 N29)))
  refine fin u29.2 V29 (n12_tr N27 N29) (fun _ => ⟨u25, n, L, m, K, ?_, frt_c (agd_c (agd_sy A18)) F, fun y y1 y2 => got_c (agd_sy A18) (L27 y27 y y1 y2), ?_, fun y y1 y2 => ?_⟩)
  · rw [ffr_c A18, P23] at ff
    exact ff
  · rw [← N27 160 131 (by decide)]; exact (L29 y29).1
  · have := got_c (agd_sy A27) ((L29 y29).2 y y1 y2)
    rw [N27 244 _ (by omega)] at this
    exact this
end

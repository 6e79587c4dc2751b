section
variable {nn : Nat} {h g r z w v x f : ms_M} {c d e k : Int} {ω : Int → ms_M}
theorem bcm_d {n m n2 m2 : Int} {L K L2 K2 : Int → Int} (B : BCM h n L m K f) (D : n = n2 ∧ m = m2 ∧ (∀ x : Int, 0 ≤ x → x < n → L x = L2 x) ∧ (∀ x : Int, 0 ≤ x → x < m → K x = K2 x)) : BCM h n2 L2 m2 K2 f := by
  obtain ⟨b1, b2, b3, b4⟩ := B
  obtain ⟨d1, d2, d3, d4⟩ := D
  exact ⟨fun y y1 y2 => by rw [← d3 y y1 (by omega)]; exact b1 y y1 (by omega), fun y y1 y2 y3 => b2 y (by omega) y2 y3, by omega, fun y y1 y2 => by rw [← d4 y y1 (by omega)]; exact b4 y y1 (by omega)⟩
theorem ffr_hfr {t u : Int} (F : FFr h c k w t u) : HFr h c k w t := ffn_frp _ _ _ _ F
theorem f_155 {N : Nat} {rt p136 e136 : Int} (hn : 1000000 ≤ nn) (V : VS_ h) (S : SPD h) (OW : OM h ω) (CA : CLA nn h ω) (O : OI h) (room : h 160 117 ≤ 2090) (M : MC h c k w) (FH : FHK nn h c k w) (IN : INS w (h 160 134) (h 160 135) N) (r1 : h 160 136 = 6000 * c + p136) (r2 : 0 ≤ p136 ∧ e136 ≤ w 160 113) (r3 : RTk (w 238) p136 e136) (r4 : KTv nn h c (w 238) p136 e136 rt) : ∀ (j : Nat) (a : Nat) (l : Int) (f : ms_M), a ≤ N → (l = 0 ∨ l = 1) → VS_ f → NFl h f → LGT f → SGT f → N - a < j → Ok_ (qw_X13_flows_155 nn j (8 + c) k l (bp w (h 160 134) a) f) (fun u => FQ h u ∧ (¬ u.1 = 0 → FLT nn h ω c k w rt N a l f)) := by
  have hc := M.1
  have hk12 : k < 12 := (wi_mt M.2.2.1 M.1 M.2.1).1
  have hk0 := M.2.1.1
  have cd := mc_code M
  intro j
  induction j with
  | zero => intro a l f aN hl Vf Nf LG SG hm; exfalso; omega
  | succ j ih =>
    intro a l f aN hl Vf Nf LG SG hm
    have Af := nfl_agd Nf
    have Mf : MC f c k w := nfl_mc Nf M
    have Of : OI f := nfl_oi Nf O
    have Sf := agd_spd V Af S
    have e117 : f 160 117 = h 160 117 := Nf 160 117 (by decide) (by decide)
    have e129 : f 160 129 = h 160 129 := Nf 160 129 (by decide) (by decide)
    have e130 : f 160 130 = h 160 130 := Nf 160 130 (by decide) (by decide)
    have FHf := fhk_c Af e129 e130 FH
    unfold qw_X13_flows_155
    rw [Nf 160 135 (by decide) (by decide)]
    refine ok_if (fun C => ?_) (fun C => ?_)
    · have eN : a = N := by
        by_cases y : a < N
        · have := (IN.2 a y).1; exfalso; omega
        · omega
      refine ok_if (fun y => ok_ret ⟨⟨Vf, nv_nfl Nf, Of, .inl ⟨rfl, e117⟩⟩, fun _ => ⟨fun _ => f, fun _ => f, fun z => absurd y z, fun b b1 b2 => by exfalso; omega⟩⟩) (fun _ => fq_bad Vf (nv_nfl Nf) Of (by omega) (by omega) (by omega) (by omega) (by omega))
    have aN2 : a < N := by
      by_cases y : a = N
      · rw [y, IN.1] at C; exfalso; omega
      · omega
    obtain ⟨iq, _⟩ := IN.2 a aN2
    have bad : ∀ (f2 : ms_M), VS_ f2 → NFl h f2 → Ok_ (qj_X13_flows_223 nn (8 + c) k (bp w (h 160 134) a) f2) (fun u => FQ h u ∧ (¬ u.1 = 0 → FLT nn h ω c k w rt N a l f)) := fun f2 V2 N2 => by
      unfold qj_X13_flows_223
      refine fq_bad V2 (nv_nfl N2) (nfl_oi N2 O) ?_ (by omega) (by omega) (by omega) (by omega)
      rw [N2 160 117 (by decide) (by decide)]; omega
    have K240 : ∀ (f2 : ms_M), VS_ f2 → NFl h f2 → LGT f2 → SGT f2 → (∀ (u n : Int) (L : Int → Int) (m : Int) (K : Int → Int), FFr h c k w (bp w (h 160 134) a) u → FRT nn h c w u n L m K → BCM h n L m K f2) → (¬ l = 0 → FIT nn h f f2) → Ok_ (qj_X13_flows_240 nn (qw_X13_flows_155 nn j) (8 + c) k (bp w (h 160 134) a) f2) (fun u => FQ h u ∧ (¬ u.1 = 0 → FLT nn h ω c k w rt N a l f)) := fun f2 V2 N2 L2 S2 B2 F2 => by
      refine ok_im (f_240 hn V S OW CA O room M FH IN r1 r2 r3 r4 aN2 (C := qw_X13_flows_155 nn j) (fun l2 f3 hl2 V3 N3 L3 S3 => ih (a + 1) l2 f3 (by omega) hl2 V3 N3 L3 S3 (by omega)) V2 N2 L2 S2 B2) (fun u P => ⟨P.1, fun y => ?_⟩)
      obtain ⟨T, U, X1, X2⟩ := P.2 y
      exact ⟨T, U, fun z => ⟨aN2, fit_s (F2 z) X1⟩, X2⟩
    have K194 : ∀ u7 : Int, ((u7 = -1 ∧ ¬ HFr f c k w (bp w (h 160 134) a)) ∨ ((FRa w c u7 ∧ FRu f c k w u7) ∧ FFr f c k w (bp w (h 160 134) a) u7)) → (¬ l = 0 ∨ ¬ u7 = -1) → Ok_ (qj_X13_flows_194 nn (qw_X13_flows_155 nn j) (8 + c) k l (bp w (h 160 134) a) u7 f) (fun u => FQ h u ∧ (¬ u.1 = 0 → FLT nn h ω c k w rt N a l f)) := fun u7 P7 ln => by
      unfold qj_X13_flows_194
      refine ok_if (fun y => ?_) (fun y => ?_)
      · have nf : ¬ HFr h c k w (bp w (h 160 134) a) := by
          rcases P7 with p | p
          · rw [← hfr_c Af]; exact p.2
          · have := p.1.1.1; exfalso; omega
        exact K240 f Vf Nf LG SG (fun u n L m K q1 _ => absurd (ffr_hfr q1) nf) (fun _ => fit_rf)
      obtain ⟨⟨fa, fu⟩, ff⟩ : (FRa w c u7 ∧ FRu f c k w u7) ∧ FFr f c k w (bp w (h 160 134) a) u7 := by
        rcases P7 with p | p
        · exact absurd p.1 y
        · exact p
      rw [fru_c Af] at fu
      rw [ffr_c Af] at ff
      obtain ⟨n, L, m, K, F, fn, fm⟩ := frt_of hc M.2.2.1 fa.1 (FH.1 u7 fu)
      have frg : (∀ q : Int, 0 ≤ q → q < n → 0 ≤ L q ∧ L q < 20 + 2 * h 160 98) ∧ (∀ q : Int, 0 ≤ q → q < m → 0 ≤ K q ∧ K q < 20 + 2 * h 160 98) := by
        obtain ⟨⟨u0, en⟩, aa, bb, t1, em, t2, lb⟩ := F
        have g3 := gF_160_113 M.2.2.1.1
        have l1 := ty_le _ _ _ (ftn_ty _ _ _ _ t1)
        have l2 := ty_le _ _ _ (ftn_ty _ _ _ _ t2)
        have R : ∀ (L : Int → Int) (n : Nat) (i p q : Int), 0 ≤ p → q ≤ w 160 113 → FTn nn h c w L n i p q → ∀ y : Int, i ≤ y → y < i + n → 0 ≤ L y ∧ L y < 20 + 2 * h 160 98 := by
          intro L n
          induction n with
          | zero => intro i p q _ _ _ y y1 y2; exfalso; omega
          | succ n ihn =>
            intro i p q p0 q0 X y y1 y2
            have le := ty_le _ _ _ (ftn_ty _ _ _ _ X)
            by_cases y0 : y = i
            · rw [y0]; exact fv_rg V M.2.2.1.1 (by omega) X.1
            · rcases X.2 with b | b
              · exact ihn _ _ _ (by omega) q0 b.2 y (by omega) (by omega)
              · exact ihn _ _ _ (by omega) q0 b.2.2 y (by omega) (by omega)
        exact ⟨fun q q1 q2 => R L _ 0 _ _ (by omega) (by omega) t1 q q1 (by omega), fun q q1 q2 => R K _ 0 _ _ (by omega) lb t2 q q1 (by omega)⟩
      have K234 : ∀ (f2 : ms_M), VS_ f2 → N12 f f2 → (¬ l = 0 → FITF nn h f n L m K) → Ok_ (qj_X13_flows_234 nn (qw_X13_flows_155 nn j) (8 + c) k (bp w (h 160 134) a) u7 f2) (fun u => FQ h u ∧ (¬ u.1 = 0 → FLT nn h ω c k w rt N a l f)) := fun f2 V2 N2 FF => by
        have Nh2 := nfl_tr Nf (nfl_12 N2)
        have A2 := nfl_agd Nh2
        unfold qj_X13_flows_234
        have e2 : f2 160 129 = h 160 129 := Nh2 160 129 (by decide) (by decide)
        refine ok_sv (ml_becomes hn V2 (nfl_mc Nh2 M) (frt_c (agd_c A2) F) (by rw [e2]; exact fn) (by rw [Nh2 160 130 (by decide) (by decide)]; exact fm)) ?_; intro u47 P47
        obtain ⟨V4, N4, B4⟩ := P47
        have Nh4 := nfl_tr Nh2 N4
        have A4 := nfl_agd Nh4
        have B4h : BCM h n L m K u47 := ⟨B4.1, fun y y1 y2 y3 => B4.2.1 y y1 y2 (by rw [e2]; exact y3), B4.2.2⟩
        refine K240 u47 V4 Nh4 (fun q q1 q2 => ?_) ⟨?_, fun q q1 q2 => ?_⟩ (fun u n2 L2 m2 K2 q1 q2 => ?_) (fun z => fit_f (FF z) B4h)
        · rw [Nh4 160 129 (by decide) (by decide)] at q2
          refine gts_c A4 ?_
          by_cases y : q < n
          · rw [B4h.1 q q1 y]; exact frg.1 q q1 y
          · rw [B4h.2.1 q (by omega) q1 q2]; exact ⟨by decide, by have := gF_160_98 V; omega⟩
        · rw [Nh4 160 130 (by decide) (by decide), B4h.2.2.1]; exact fm
        · rw [B4h.2.2.1] at q2
          rw [B4h.2.2.2 q q1 q2]
          exact gts_c A4 (frg.2 q q1 q2)
        · have eu : u = u7 := ffn_det _ _ _ _ _ q1 ff
          rw [eu] at q2
          exact bcm_d B4h (frt_det M.2.2.1.1 F q2)
      refine ok_if (fun y => K234 f Vf (fun _ _ _ => rfl) (fun z => absurd y z)) (fun y => ?_)
      refine ok_sv (ml_locals hn Vf Sf Mf LG (frt_c (agd_c Af) F) (by rw [e129]; exact fn)) ?_; intro u52 P52
      obtain ⟨V5, N5, _, L5⟩ := P52
      refine ok_if (fun _ => bad u52.2 V5 (nfl_tr Nf (nfl_12 N5))) (fun y5 => ?_)
      have Nh5 := nfl_tr Nf (nfl_12 N5)
      have A5 := nfl_agd Nh5
      refine ok_sv (ml_stack hn V5 (agd_spd V A5 S) (nfl_mc Nh5 M) (sgt_12 N5 SG) (frt_c (agd_c A5) F)) ?_; intro u54 P54
      obtain ⟨V6, N6, _, L6⟩ := P54
      refine ok_if (fun y6 => ?_) (fun _ => bad u54.2 V6 (nfl_tr Nh5 (nfl_12 N6)))
      refine K234 u54.2 V6 (n12_tr N5 N6) (fun _ => ⟨fun q q1 q2 => got_c (agd_sy Af) (L5 y5 q q1 q2), ?_, fun q q1 q2 => ?_⟩)
      · rw [← N5 160 131 (by decide)]; exact (L6 y6).1
      · have := got_c (agd_sy A5) ((L6 y6).2 q q1 q2)
        rw [N5 244 _ (by omega)] at this
        exact this
    refine ok_sv (mv_for3 hn Vf Mf) ?_; intro u66 P66
    refine ok_if (fun y => K194 u66 P66 (.inl y)) (fun y => ?_)
    refine ok_if (fun y2 => K194 u66 P66 (.inr y2)) (fun _ => fq_bad Vf (nv_nfl Nf) Of (by omega) (by omega) (by omega) (by omega) (by omega))
/-- the types that the locals begin with: s = 1 where the method has its object -/
def ini (c s m : Int) (L : Int → Int) (y : Int) : Int := if y < s then 4 + 2 * (8 + c) else if y < s + m then L (y - s) else 0
/-- the flag of method k: static or not -/
def flg (h : ms_M) (c k : Int) (w : ms_M) : Int := w 238 (h 235 (12 * c + k).toNat).toNat
/-- method k of image c is good -/
def MOK (nn : Nat) (h : ms_M) (ω : Int → ms_M) (c k : Int) : Prop := ∃ (g : ms_M) (N : Nat) (T U : Nat → ms_M) (m : Int) (L : Int → Int) (q t : Int), (AGd h g ∧ VS_ g ∧ MC g c k (ω c)) ∧ INS (ω c) (g 160 134) (g 160 135) N ∧ TKV nn g c (ω c) (kdT g ω c 1 k) m L q t ∧ ((1 - flg g c k (ω c)) + m ≤ g 160 129 ∧ 0 < N) ∧ ((∀ y : Int, 0 ≤ y → y < g 160 129 → GOt nn g (ini c (1 - flg g c k (ω c)) m L y) (T 0 243 y.toNat)) ∧ T 0 160 131 = 0) ∧ (∀ u : Int, FRu g c k (ω c) u → FOK nn g c k (ω c) u ∧ BGI (ω c) (g 160 134) N (pw (ω c 238 u.toNat) (ω c 238 (u + 1).toNat))) ∧ HDK nn g c k (ω c) ∧ ∀ b : Nat, b < N → NODE nn g ω c k (ω c) t N T U b
theorem mok_c {h2 : ms_M} (A : AGd h h2) (X : MOK nn h ω c k) : MOK nn h2 ω c k := by
  obtain ⟨g, N, T, U, m, L, q, t, ⟨a, b, d⟩, r⟩ := X
  exact ⟨g, N, T, U, m, L, q, t, ⟨agd_tr (agd_sy A) a, b, d⟩, r⟩
theorem mc_xd (M : MC h c k w) : (w 238 (h 235 (12 * c + k).toNat).toNat ≤ 1) ∧ TS 2 w c (w 238 (h 235 (12 * c + k).toNat + 2).toNat) ∧ ∃ m : Nat, m ≤ 6 ∧ MKn (w 238) m (pl w c (w 238 (h 235 (12 * c + k).toNat + 2).toNat) + 2) (pl w c (w 238 (h 235 (12 * c + k).toNat + 2).toNat) + 2 + w 238 (pl w c (w 238 (h 235 (12 * c + k).toNat + 2).toNat) + 1).toNat) ∧ (m : Int) + 1 ≤ h 160 129 + w 238 (h 235 (12 * c + k).toNat).toNat := by
  obtain ⟨hc, hk, W, _, _, _, e4, _, _⟩ := M
  obtain ⟨_, _, m⟩ := wi_mt W hc hk
  obtain ⟨q, _, m⟩ := m
  unfold XM XI XG XE XD at m
  rw [e4]
  exact ⟨m.1, m.2.2.1, m.2.2.2.2.2.1⟩
theorem ins_le {A Z : Int} {N : Nat} (IN : INS w A Z N) : (N : Int) ≤ Z := by
  have L : ∀ m : Nat, m ≤ N → (m : Int) ≤ bp w A m := by
    intro m
    induction m with
    | zero => intro _; exact Int.le_refl 0
    | succ m ih =>
      intro hm
      have a := ih (by omega)
      have b := (IN.2 m (by omega)).2.1
      show ((m + 1 : Nat) : Int) ≤ bp w A m + WD _
      omega
  have := L N (Nat.le_refl N)
  rw [IN.1] at this
  exact this
theorem f_flows {N : Nat} (hn : 1000000 ≤ nn) (V : VS_ h) (S : SPD h) (OW : OM h ω) (CA : CLA nn h ω) (O : OI h) (room : h 160 117 ≤ 2090) (M : MC h c k (ω c)) (c98 : c < h 160 98) (FK : ∀ u : Int, FRu h c k (ω c) u → FOK nn h c k (ω c) u ∧ BGI (ω c) (h 160 134) N (pw (ω c 238 u.toNat) (ω c 238 (u + 1).toNat))) (HK : HDK nn h c k (ω c)) (IN : INS (ω c) (h 160 134) (h 160 135) N) : Ok_ (qf_X13_flows nn (8 + c) k h) (fun u => FQ h u ∧ (¬ u.1 = 0 → MOK nn h ω c k)) := by
  have hc := M.1
  have W := M.2.2.1
  have m30 := mc_30 M
  have hk := M.2.1
  obtain ⟨hk12, mb, _⟩ := wi_mt W hc hk
  have g98 := gF_160_98 V
  have g129 := gF_160_129 V
  have g3 := gF_160_113 W.1
  have g235 := gA_235 V (12 * c + k).toNat (by omega)
  obtain ⟨f1, ts, m0, m06, ⟨_, q0, pr0, f410, _⟩, ml0⟩ := mc_xd M
  have e0 : kdT h ω c 1 k = ω c 238 (h 235 (12 * c + k).toNat + 2).toNat := rfl
  have kf := (CA (8 + c) (by omega) (by omega)).2.2.1.2 k hk.1 (by rw [show 8 + c - 8 = c by omega]; exact hk.2)
  rw [show 8 + c - 8 = c by omega] at kf
  obtain ⟨m, L, q, t, kv⟩ := mkv_of kf
  have kv0 := kv
  obtain ⟨m6, pv, f41, rt, kt⟩ := kv
  obtain ⟨em, eq⟩ := pr_41 _ _ _ _ _ (pv_pr _ _ _ _ pv) pr0 f41 f410
  have le := pv_lt _ _ _ _ pv
  obtain ⟨a1, a2, a3, a4, a5⟩ := wi_tx W hc ts.1
  have lt : q + 1 < pl (ω c) c (ω c 238 (h 235 (12 * c + k).toNat + 2).toNat) + 2 + ω c 238 (pl (ω c) c (ω c 238 (h 235 (12 * c + k).toNat + 2).toNat) + 1).toNat := by
    rcases rt with y | y
    · omega
    · have := kd_lt y; omega
  have fl0 := gA_238 W.1 (h 235 (12 * c + k).toNat).toNat (by omega)
  have efl : flg h c k (ω c) = ω c 238 (h 235 (12 * c + k).toNat).toNat := rfl
  have np : 0 < N := by
    by_cases y : N = 0
    · have := IN.1
      rw [y] at this
      have cd := mc_code M
      have : (0 : Int) = h 160 135 := this
      exfalso; omega
    · omega
  -- the parameters
  have T105 : ∀ (j : Nat) (l : Nat) (i p : Int) (f : ms_M), VS_ f → NFl h f → 0 ≤ p → (0 ≤ i ∧ i + l = m) → f 160 131 = 0 → PVn nn h c (ω c 238) L l i p q → (∀ y : Int, 0 ≤ y → y < h 160 129 → f 243 y.toNat = ini c (1 - flg h c k (ω c)) i L y) → l < j → Ok_ (qw_X13_flows_105 nn j (8 + c) k (1 - flg h c k (ω c) + i) (6000 * c + p) f) (fun u => FQ h u ∧ (¬ u.1 = 0 → MOK nn h ω c k)) := by
    intro j
    induction j with
    | zero => intro l i p f Vf Nf p0 a z Y D hm; exfalso; omega
    | succ j ih =>
      intro l i p f Vf Nf p0 a z Y D hm
      have Af := nfl_agd Nf
      have Mf : MC f c k (ω c) := nfl_mc Nf M
      have lq := pv_lt _ _ _ _ Y
      unfold qw_X13_flows_105
      refine ok_rd (by omega) (gA_226 Vf) ?_; intro v74 e74 _ _
      rw [Mf.2.2.1.2.2.1 p (by omega) (by omega)] at e74
      cases l with
      | zero =>
        have Y : p = q := Y
        rw [if_pos (show v74 = 41 by rw [e74, Y]; exact f41)]
        refine ok_add (by omega) ?_; intro v75 e75
        refine ok_xl ?_; intro h76 E76
        have V76 : VS_ h76 := by rw [E76]; exact wF_160_136 Vf (by omega)
        have Nv : NV h h76 := nv_tr (nv_nfl Nf) (fun x j p q => by rw [E76, up_n (by omega)])
        have A76 : AGd h h76 := ⟨fun x j p q => Nv x j (by omega) (by omega), Nv 160 98 (by decide) (by decide), Nv 900000 0 (by omega) (by omega)⟩
        have M76 : MC h76 c k (ω c) := mc_v (fun x j p q => Nv x j (by omega) (by omega)) M
        have e117 : h76 160 117 = h 160 117 := by rw [E76, up_n (by omega)]; exact Nf 160 117 (by decide) (by decide)
        have O76 : OI h76 := fun y hy => by
          rw [E76, up_n (by omega), up_n (by omega)]
          exact nfl_oi Nf O y (by rw [E76, up_n (by omega)] at hy; exact hy)
        have c134 : h76 160 134 = h 160 134 := Nv 160 134 (by decide) (by decide)
        have c135 : h76 160 135 = h 160 135 := Nv 160 135 (by decide) (by decide)
        have c129 : h76 160 129 = h 160 129 := Nv 160 129 (by decide) (by decide)
        have c130 : h76 160 130 = h 160 130 := Nv 160 130 (by decide) (by decide)
        have cfl : flg h76 c k (ω c) = flg h c k (ω c) := by unfold flg; rw [A76.1 235 _ (by decide) (by decide)]
        have i0 : i = m := by omega
        rw [i0] at D
        have D76 : ∀ y : Int, 0 ≤ y → y < h 160 129 → h76 243 y.toNat = ini c (1 - flg h c k (ω c)) m L y := fun y y1 y2 => by rw [E76, up_n (by omega)]; exact D y y1 y2
        have rgL : ∀ y : Int, 0 ≤ y → y < m → GTs h (L y) := by
          have R : ∀ (n : Nat) (i p q : Int), PVn nn h c (ω c 238) L n i p q → ∀ y : Int, i ≤ y → y < i + n → GTs h (L y) := by
            intro n
            induction n with
            | zero => intro i p q _ y y1 y2; exfalso; omega
            | succ n ihn =>
              intro i p q X y y1 y2
              obtain ⟨e, ⟨x1, x2⟩, x3⟩ := X
              by_cases y0 : y = i
              · rw [y0]; exact ktv_rg V x2
              · exact ihn _ _ _ x3 y (by omega) (by omega)
          exact fun y y1 y2 => R _ 0 _ _ pv y y1 (by omega)
        have z76 : h76 160 131 = 0 := by rw [E76, up_n (by omega)]; exact z
        have LG : LGT h76 := fun y y1 y2 => by
          rw [c129] at y2
          rw [D76 y y1 y2]
          refine gts_c A76 ?_
          unfold ini
          by_cases q1 : y < 1 - flg h c k (ω c)
          · rw [if_pos q1]; exact ⟨by omega, by omega⟩
          · rw [if_neg q1]
            by_cases q2 : y < 1 - flg h c k (ω c) + m
            · rw [if_pos q2]; exact rgL _ (by omega) (by omega)
            · rw [if_neg q2]; exact ⟨by omega, by omega⟩
        have SG : SGT h76 := ⟨by rw [z76, c130]; exact (gF_160_130 V).1, fun y y1 y2 => by exfalso; omega⟩
        have FH76 : FHK nn h76 c k (ω c) := fhk_c A76 c129 c130 ⟨fun u y => (FK u y).1, HK⟩
        have KT : KTv nn h76 c (ω c 238) (q + 1) (pl (ω c) c (ω c 238 (h 235 (12 * c + k).toNat + 2).toNat) + 2 + ω c 238 (pl (ω c) c (ω c 238 (h 235 (12 * c + k).toNat + 2).toNat) + 1).toNat) t := ktv_c (agd_c A76) kt
        refine ok_im (f_155 hn V76 (agd_spd V A76 S) (om_k A76 OW) (cla_c A76 CA) O76 (by omega) M76 FH76 (N := N) (by rw [c134, c135]; exact IN) (p136 := q + 1) (by rw [E76, up_s]; omega) (by omega) rt KT nn 0 1 h76 (by omega) (.inr rfl) V76 nfl_rf LG SG (by have := ins_le IN; have := mc_code M; omega)) (fun u P => ⟨?_, fun y => ?_⟩)
        · obtain ⟨⟨p1, p2, p3, p4⟩, _⟩ := P
          exact ⟨p1, nv_tr Nv p2, p3, by rw [e117] at p4; exact p4⟩
        · obtain ⟨T, U, X1, X2⟩ := P.2 y
          obtain ⟨X0, X1⟩ := X1 (by decide)
          refine ⟨h76, N, T, U, m, L, q, t, ⟨A76, V76, M76⟩, by rw [c134, c135]; exact IN, ?_, ⟨by rw [cfl, c129]; omega, X0⟩, ⟨fun y y1 y2 => ?_, ?_⟩, fun u y => ?_, FH76.2, fun b hb => X2 b (by omega) hb⟩
          · rw [kdT_c A76, e0]
            exact mkv_c (agd_c A76) kv0
          · have := X1.1 y y1 y2
            rw [c129] at y2
            rw [D76 y y1 y2] at this
            rw [cfl]; exact this
          · rw [← X1.2.1]; exact z76
          · rw [fru_c A76] at y
            rw [c134]
            exact ⟨fok_c A76 c129 c130 (FK u y).1, (FK u y).2⟩
      | succ l =>
        obtain ⟨e, ⟨y1, y2⟩, y3⟩ := Y
        have le3 := pv_lt _ _ _ _ y3
        have lt3 := kd_lt y1
        rw [if_neg (show ¬ v74 = 41 by rw [e74]; exact kd_41 y1)]
        refine ok_sv (rg_typeAt hn Vf hc Mf.2.2.1 p0 (by omega) (.inr y1) (ktv_c (agd_c Af) y2)) ?_; intro u79 P79
        obtain ⟨⟨V79, N79, e120, b79⟩, q79⟩ := P79
        have f98 : f 160 98 = h 160 98 := Af.2.1
        refine ok_wA (by omega) ?_; intro h80 E80
        have V80 : VS_ h80 := by rw [E80]; exact wA_243 V79 (by omega)
        have N80 : NFl h h80 := nfl_tr Nf (nfl_tr (nfl_12 N79) (fun x j p q => by rw [E80, up_n (by omega)]))
        have e120' : h80 160 120 = 6000 * c + e := by rw [E80, up_n (by omega)]; exact e120
        refine ok_add (by omega) ?_; intro v81 e81
        rw [show v81 = 1 - flg h c k (ω c) + (i + 1) by omega, e120']
        refine ih l (i + 1) e h80 V80 N80 (by omega) (by omega) (by rw [E80, up_n (by omega), N79 160 131 (by decide)]; exact z) y3 (fun y z1 z2 => ?_) (by omega)
        by_cases y0 : y = 1 - flg h c k (ω c) + i
        · rw [y0, E80, up_s, q79]
          unfold ini
          rw [if_neg (by omega), if_pos (by omega), show 1 - flg h c k (ω c) + i - (1 - flg h c k (ω c)) = i by omega]
        · rw [E80, up_n (by omega), N79 243 _ (by omega), D y z1 z2]
          unfold ini
          by_cases q1 : y < 1 - flg h c k (ω c)
          · rw [if_pos q1, if_pos q1]
          · rw [if_neg q1, if_neg q1]
            by_cases q2 : y < 1 - flg h c k (ω c) + i
            · rw [if_pos q2, if_pos (by omega)]
            · rw [if_neg q2, if_neg (by omega)]
  have T68 : ∀ (f : ms_M), VS_ f → NFl h f → f 160 131 = 0 → (∀ y : Int, 0 ≤ y → y < h 160 129 → f 243 y.toNat = ini c (1 - flg h c k (ω c)) 0 L y) → Ok_ (qj_X13_flows_68 nn (8 + c) k (1 - flg h c k (ω c)) f) (fun u => FQ h u ∧ (¬ u.1 = 0 → MOK nn h ω c k)) := fun f Vf Nf z D => by
    have Af := nfl_agd Nf
    have Mf : MC f c k (ω c) := nfl_mc Nf M
    unfold qj_X13_flows_68
    rw [Mf.2.2.2.1]
    refine ok_mul (by omega) ?_; intro v85 e85
    refine ok_mul (by omega) ?_; intro v88 e88
    refine ok_sv (rt_kind Vf hc Mf.2.2.1 (s := 1) (k := k) Mf.2.1) ?_; intro u91 P91
    have q91 : u91 = ω c 238 (h 235 (12 * c + k).toNat + 2).toNat := by rw [P91.1, kdT_c Af]; rfl
    rw [q91]
    refine ok_add (by omega) ?_; intro v92 e92
    refine ok_rd (by omega) (gA_228 Vf) ?_; intro v93 e93 _ _
    rw [e92, e88, Af.1 228 _ (by decide) (by decide), a2] at e93
    refine ok_add (by omega) ?_; intro v94 e94
    refine ok_add (by omega) ?_; intro v95 e95
    rw [show v95 = 6000 * c + (pl (ω c) c (ω c 238 (h 235 (12 * c + k).toNat + 2).toNat) + 2 + 1) by omega]
    have := T105 nn m.toNat 0 _ f Vf Nf (by omega) (by omega) z pv D (by omega)
    rw [show 1 - flg h c k (ω c) + 0 = 1 - flg h c k (ω c) by omega] at this
    exact this
  -- the locals are cleared
  have T2 : ∀ (j : Nat) (i : Int) (f : ms_M), VS_ f → NFl h f → (0 ≤ i ∧ i ≤ h 160 129) → (∀ y : Int, 0 ≤ y → y < i → f 243 y.toNat = 0) → h 160 129 - i < (j : Int) → Ok_ (qw_X13_flows_2 nn j (8 + c) k i f) (fun u => FQ h u ∧ (¬ u.1 = 0 → MOK nn h ω c k)) := by
    intro j
    induction j with
    | zero => intro i f Vf Nf a D hm; exfalso; omega
    | succ j ih =>
      intro i f Vf Nf a D hm
      unfold qw_X13_flows_2
      rw [Nf 160 129 (by decide) (by decide)]
      refine ok_if (fun C => ?_) (fun C => ?_)
      · refine ok_xl ?_; intro h97 E97
        have V97 : VS_ h97 := by rw [E97]; exact wF_160_131 Vf (by omega)
        have N97 : NFl h h97 := nfl_tr Nf (fun x j p q => by rw [E97, up_n (by omega)])
        have A97 := nfl_agd N97
        have M97 : MC h97 c k (ω c) := nfl_mc N97 M
        have z97 : h97 160 131 = 0 := by rw [E97, up_s]
        have D97 : ∀ y : Int, 0 ≤ y → y < h 160 129 → h97 243 y.toNat = 0 := fun y y1 y2 => by rw [E97, up_n (by omega)]; exact D y y1 (by omega)
        rw [M97.2.2.2.1]
        refine ok_mul (by omega) ?_; intro v101 e101
        refine ok_add (by omega) ?_; intro v102 e102
        refine ok_rd (by omega) (gA_235 V97) ?_; intro v103 e103 _ _
        rw [e102, e101, A97.1 235 _ (by decide) (by decide)] at e103
        refine ok_sv (mv_bytew V97 hc M97.2.2.1 (by omega)) ?_; intro u105 P105
        have q105 : u105 = flg h c k (ω c) := by rw [P105.1, e103]; rfl
        refine ok_if (fun Y => ?_) (fun Y => ?_)
        · have e1 : 1 - flg h c k (ω c) = 0 := by omega
          have := T68 h97 V97 N97 z97 (fun y y1 y2 => by
            rw [D97 y y1 y2]
            unfold ini
            rw [if_neg (by omega), if_neg (by omega)])
          rw [e1] at this
          exact this
        · have e1 : 1 - flg h c k (ω c) = 1 := by omega
          refine ok_mul (by omega) ?_; intro v107 e107
          refine ok_add (by omega) ?_; intro v108 e108
          refine ok_wA (by omega) ?_; intro h109 E109
          have V109 : VS_ h109 := by rw [E109]; exact wA_243 V97 (by omega)
          have N109 : NFl h h109 := nfl_tr N97 (fun x j p q => by rw [E109, up_n (by omega)])
          have := T68 h109 V109 N109 (by rw [E109, up_n (by omega)]; exact z97) (fun y y1 y2 => by
            unfold ini
            by_cases y0 : y = 0
            · rw [y0, if_pos (by omega), E109, up_s]; omega
            · rw [if_neg (by omega), if_neg (by omega), E109, up_n (by omega)]
              exact D97 y y1 y2)
          rw [e1] at this
          exact this
      · refine ok_wA (by omega) ?_; intro h112 E112
        refine ok_add (by omega) ?_; intro v113 e113
        rw [e113]
        refine ih (i + 1) h112 (by rw [E112]; exact wA_243 Vf (by omega)) (nfl_tr Nf (fun x j p q => by rw [E112, up_n (by omega)])) (by omega) (fun y y1 y2 => ?_) (by omega)
        by_cases y0 : y = i
        · rw [y0, E112, up_s]
        · rw [E112, up_n (by omega)]; exact D y y1 (by omega)
  unfold qf_X13_flows
  exact T2 nn 0 h V nfl_rf (by omega) (fun y y1 y2 => by exfalso; omega) (by omega)
end

section
variable {nn : Nat} {h g r z w v x f R p s s2 : ms_M} {c d e k : Int} {ω : Int → ms_M}
theorem cfs_fit (hn : 1000000 ≤ nn) (X : VRC nn ω g) (A : AGd g p) (N1 : NFl p s) (L1 : LGT s ∧ SGT s) (N2 : NFl p s2) (L2 : LGT s2 ∧ SGT s2) (F : FIT nn p s s2) {i : Int} (C : CFS nn g R i (p 160 129) s) : CFS nn g R i (p 160 129) s2 := by
  have A1 := agd_sy (agd_tr A (nfl_agd N1))
  have A2 := agd_sy (agd_tr A (nfl_agd N2))
  have e1 : s 160 129 = p 160 129 := N1 160 129 (by decide) (by decide)
  have e2 : s2 160 129 = p 160 129 := N2 160 129 (by decide) (by decide)
  have f2 := F.2.1
  refine ⟨fun y y1 y2 => cv_goes hn X (gts_c A1 (L1.1 y y1 (by omega))) (gts_c A2 (L2.1 y y1 (by omega))) (got_c (agd_sy A) (F.1 y y1 y2)) (C.1 y y1 y2), C.2.1.trans f2, fun y y1 y2 => cv_goes hn X (gts_c A1 (L1.2.2 y y1 (by omega))) (gts_c A2 (L2.2.2 y y1 y2)) (got_c (agd_sy A) (F.2.2 y y1 y2)) (C.2.2 y y1 (by omega))⟩
/-- the run goes on behind instruction a -/
theorem run_adv {N : Nat} {T U : Nat → ms_M} {m q t i : Int} {L : Int → Int} {a : Nat} (hn : 1000000 ≤ nn) (X : RX nn ω g r) (bd : MBD nn g ω c k p N T U m L q t) (ck : (0 ≤ c ∧ c < g 160 98) ∧ 0 ≤ k ∧ k < g 234 c.toNat) (e1 : r 251 i.toNat = 8 + c ∧ r 252 i.toNat = k) (ha : a < N) (nt : ¬ (ω c 238 (p 160 134 + bp (ω c) (p 160 134) a).toNat = 167 ∨ ω c 238 (p 160 134 + bp (ω c) (p 160 134) a).toNat = 172 ∨ ω c 238 (p 160 134 + bp (ω c) (p 160 134) a).toNat = 176 ∨ ω c 238 (p 160 134 + bp (ω c) (p 160 134) a).toNat = 177 ∨ ω c 238 (p 160 134 + bp (ω c) (p 160 134) a).toNat = 191)) (e3 : r 253 i.toNat = bp (ω c) (p 160 134) (a + 1)) (C : CFS nn g r i (p 160 129) (U a)) (H : HPO nn g ω r) (hd : r 160 149 = i + 1) (hi : 0 ≤ i ∧ i < 60) (S : STK nn g ω r i.toNat t) : RUN1 nn g ω r := by
  obtain ⟨n1, n2, n3, n4, n5, n6, n7, n8⟩ := bd.2.2.2.2.2.2.2 a ha
  obtain ⟨a1, F⟩ := n8 nt
  have nd := (bd.2.2.2.2.2.2.2 (a + 1) a1).1
  refine ⟨by omega, H, t, ?_, ?_⟩
  · rw [hd, show i + 1 - 1 = i by omega]
    exact ⟨c, k, N, T, U, a + 1, p, ⟨⟨m, L, q, bd⟩, ck, e1, a1, e3⟩, cfs_fit hn X.1 bd.1.1 n6.1 n6.2 nd.1 nd.2 F C⟩
  · rw [hd, show i + 1 - 1 = i by omega]; exact S
/-- the run goes on at the place that a frame stands for -/
theorem run_frame {N : Nat} {T U : Nat → ms_M} {m q t i u n1 m1 pl : Int} {L L1 K1 : Int → Int} (hn : 1000000 ≤ nn) (X : RX nn ω g r) (bd : MBD nn g ω c k p N T U m L q t) (ck : (0 ≤ c ∧ c < g 160 98) ∧ 0 ≤ k ∧ k < g 234 c.toNat) (e1 : r 251 i.toNat = 8 + c ∧ r 252 i.toNat = k) (FF : FFr p c k (ω c) pl u) (FT : FRT nn p c (ω c) u n1 L1 m1 K1) (e3 : r 253 i.toNat = pl) (C : ∀ b : Nat, b < N → BCM p n1 L1 m1 K1 (T b) → (LGT (T b) ∧ SGT (T b)) → NFl p (T b) → CFS nn g r i (p 160 129) (T b)) (H : HPO nn g ω r) (hd : r 160 149 = i + 1) (hi : 0 ≤ i ∧ i < 60) (S : STK nn g ω r i.toNat t) : RUN1 nn g ω r := by
  obtain ⟨fm, fp⟩ := ffn_frm _ _ _ _ FF
  obtain ⟨b, b1, b2⟩ := (bd.2.2.2.2.2.1 u fm).2
  rw [fp] at b2
  obtain ⟨x1, x2, _⟩ := bd.2.2.2.2.2.2.2 b b1
  have B := x2 u n1 L1 m1 K1 (by rw [b2]; exact FF) FT
  refine ⟨by omega, H, t, ?_, ?_⟩
  · rw [hd, show i + 1 - 1 = i by omega]
    exact ⟨c, k, N, T, U, b, p, ⟨⟨m, L, q, bd⟩, ck, e1, b1, by rw [e3]; exact b2.symm⟩, C b b1 B x1.2 x1.1⟩
  · rw [hd, show i + 1 - 1 = i by omega]; exact S
/-- where a field of an object lies -/
theorem flv_rg (hn : 1000000 ≤ nn) (X : VRC nn ω g) {a j s y n : Int} (hk : 0 ≤ k ∧ k < 8 + g 160 98) (un : UNd nn g k a) (F : FO nn g k n) (ha : 8 ≤ a ∧ a < 8 + g 160 98) (hj : 0 ≤ j ∧ j < g 232 (a - 8).toNat) (sy : qf_X13_superOf nn a g = some y) (Fy : FO nn g y s) : 0 ≤ s ∧ s + j < n := by
  obtain ⟨⟨V, S⟩, O, C, _⟩ := X
  obtain ⟨_, m, up⟩ := un
  obtain ⟨t, t1, t2, _⟩ := fo_up hn V S O m k a n (by omega) up F
  have fs := fo_su t1 (by omega) sy
  have e := fo_det Fy fs
  have fe : fm g a = g 232 (a - 8).toNat := by unfold fm; rw [if_pos ha.1]
  obtain ⟨ys, e2, p2⟩ := su_rg hn V S (k := a) (by omega)
  rw [← Option.some.inj (sy.symm.trans e2)] at p2
  obtain ⟨l, Fl⟩ := Fy
  have := fo_nn hn V S O l y s p2 Fl
  omega
theorem fo_b (hk : 0 ≤ k ∧ k < 8) : FO nn g k 0 := by
  have f0 : ∀ y : Int, y < 8 → fm g y = 0 := fun y hy => by unfold fm; rw [if_neg (by omega)]
  have c0 : FOn nn g 1 0 0 := .inr ⟨by decide, -1, 0, su_0, ⟨rfl, rfl⟩, by rw [f0 0 (by decide)]; rfl⟩
  have c1 : FOn nn g 2 1 0 := .inr ⟨by decide, 0, 0, su_1, c0, by rw [f0 1 (by decide)]; rfl⟩
  by_cases y0 : k = 0
  · rw [y0]; exact ⟨1, c0⟩
  · by_cases y1 : k = 1
    · rw [y1]; exact ⟨2, c1⟩
    · exact ⟨3, .inr ⟨by omega, 1, 0, su_b (by omega), c1, by rw [f0 k (by omega)]; rfl⟩⟩
/-- a new object -/
theorem g_make (hn : 1000000 ≤ nn) (X : RX nn ω g R) (H : HPO nn g ω R) {y n : Int} (hy : (y < 99 ∧ (0 ≤ y ∧ y < 8 + g 160 98) ∧ FO nn g y n) ∨ y = 99 ∨ (100 ≤ y ∧ y - 100 < 8 + g 160 98)) (hn0 : 0 ≤ n ∧ n ≤ 2147483647) : Ok_ (qf_X13_make_ nn y n R) (fun u => VS_ u.2 ∧ ((u.1 = 0 ∧ (∀ x j : Nat, ¬ (x = 160 ∧ j = 138) → u.2 x j = R x j) ∧ u.2 160 138 = 4) ∨ ((u.1 = R 160 141 + 1 ∧ u.2 160 141 = R 160 141 + 1 ∧ u.1 ≤ 2000 ∧ 1 ≤ u.1) ∧ u.2 246 u.1.toNat = y ∧ (HX R u.2 ∧ HPO nn g ω u.2) ∧ ∀ x j : Nat, ¬ (246 ≤ x ∧ x ≤ 249) → ¬ (x = 160 ∧ (j = 141 ∨ j = 142)) → u.2 x j = R x j))) := by
  have X0 := X
  obtain ⟨XV, AE, V, S⟩ := X
  have g98 := gF_160_98 XV.1.1
  have g141 := gF_160_141 V
  have g142 := gF_160_142 V
  have room : Ok_ (qj_X13_make__22 nn R) (fun u => VS_ u.2 ∧ ((u.1 = 0 ∧ (∀ x j : Nat, ¬ (x = 160 ∧ j = 138) → u.2 x j = R x j) ∧ u.2 160 138 = 4) ∨ ((u.1 = R 160 141 + 1 ∧ u.2 160 141 = R 160 141 + 1 ∧ u.1 ≤ 2000 ∧ 1 ≤ u.1) ∧ u.2 246 u.1.toNat = y ∧ (HX R u.2 ∧ HPO nn g ω u.2) ∧ ∀ x j : Nat, ¬ (246 ≤ x ∧ x ≤ 249) → ¬ (x = 160 ∧ (j = 141 ∨ j = 142)) → u.2 x j = R x j))) := by
    unfold qj_X13_make__22
    refine ok_xl ?_; intro h11 E11
    exact ok_ret ⟨by rw [E11]; exact wF_160_138 V (by omega), .inl ⟨rfl, fun x j q => by show h11 x j = _; rw [E11, up_n q], by show h11 160 138 = 4; rw [E11, up_s]⟩⟩
  unfold qf_X13_make_
  refine ok_if (fun _ => room) (fun n2 => ?_)
  refine ok_sub (by omega) ?_; intro v14 e14
  refine ok_if (fun le => ?_) (fun _ => room)
  refine ok_add (by omega) ?_; intro v16 e16
  refine ok_xl ?_; intro h17 E17
  have V17 : VS_ h17 := by rw [E17]; exact wF_160_141 V (by omega)
  have a17 : h17 160 141 = R 160 141 + 1 := by rw [E17, up_s]; omega
  rw [a17]
  refine ok_wA (by omega) ?_; intro h20 E20
  have V20 : VS_ h20 := by rw [E20]; exact wA_246 V17 (by omega)
  have a20 : h20 160 141 = R 160 141 + 1 := by rw [E20, up_n (by omega)]; exact a17
  have b20 : h20 160 142 = R 160 142 := by rw [E20, up_n (by omega), E17, up_n (by omega)]
  rw [a20, b20]
  refine ok_wA (by omega) ?_; intro h24 E24
  have V24 : VS_ h24 := by rw [E24]; exact wA_247 V20 (by omega)
  have a24 : h24 160 141 = R 160 141 + 1 := by rw [E24, up_n (by omega)]; exact a20
  rw [a24]
  refine ok_wA (by omega) ?_; intro h27 E27
  have V27 : VS_ h27 := by rw [E27]; exact wA_248 V24 (by omega)
  have a27 : h27 160 141 = R 160 141 + 1 := by rw [E27, up_n (by omega)]; exact a24
  have b27 : h27 160 142 = R 160 142 := by rw [E27, up_n (by omega), E24, up_n (by omega)]; exact b20
  have N27 : ∀ x j : Nat, ¬ ((x = 246 ∨ x = 247 ∨ x = 248) ∧ j = (R 160 141 + 1).toNat) → ¬ (x = 160 ∧ j = 141) → h27 x j = R x j := fun x j q1 q2 => by rw [E27, up_n (by omega), E24, up_n (by omega), E20, up_n (by omega), E17, up_n (by omega)]
  have s27 : h27 246 (R 160 141 + 1).toNat = y ∧ h27 247 (R 160 141 + 1).toNat = R 160 142 ∧ h27 248 (R 160 141 + 1).toNat = n := by
    refine ⟨?_, ?_, ?_⟩
    · rw [E27, up_n (by omega), E24, up_n (by omega), E20, up_s]
    · rw [E27, up_n (by omega), E24, up_s]
    · rw [E27, up_s]
  have L : ∀ (j : Nat) (l : Int) (f : ms_M), VS_ f → (∀ x i : Nat, ¬ (x = 249 ∧ (R 160 142 : Int) ≤ i) → f x i = h27 x i) → (0 ≤ l ∧ l ≤ n) → (∀ i : Int, 0 ≤ i → i < l → f 249 (R 160 142 + i).toNat = 0) → n - l < (j : Int) → Ok_ (qw_X13_make__74 nn j n l f) (fun u => VS_ u.2 ∧ ((u.1 = 0 ∧ (∀ x j : Nat, ¬ (x = 160 ∧ j = 138) → u.2 x j = R x j) ∧ u.2 160 138 = 4) ∨ ((u.1 = R 160 141 + 1 ∧ u.2 160 141 = R 160 141 + 1 ∧ u.1 ≤ 2000 ∧ 1 ≤ u.1) ∧ u.2 246 u.1.toNat = y ∧ (HX R u.2 ∧ HPO nn g ω u.2) ∧ ∀ x j : Nat, ¬ (246 ≤ x ∧ x ≤ 249) → ¬ (x = 160 ∧ (j = 141 ∨ j = 142)) → u.2 x j = R x j))) := by
    intro j
    induction j with
    | zero => intro l f Vf Nf b D hm; exfalso; omega
    | succ j ih =>
      intro l f Vf Nf b D hm
      have b142 : f 160 142 = R 160 142 := by rw [Nf 160 142 (by omega)]; exact b27
      unfold qw_X13_make__74
      rw [b142]
      refine ok_if (fun Cc => ?_) (fun Cc => ?_)
      · refine ok_add (by omega) ?_; intro v2 e2
        refine ok_xl ?_; intro h3 E3
        have V3 : VS_ h3 := by rw [E3]; exact wF_160_142 Vf (by omega)
        have N3 : ∀ x i : Nat, ¬ (x = 249 ∧ (R 160 142 : Int) ≤ i) → ¬ (x = 160 ∧ i = 142) → h3 x i = h27 x i := fun x i q1 q2 => by rw [E3, up_n (by omega)]; exact Nf x i q1
        have a3 : h3 160 141 = R 160 141 + 1 := by rw [N3 160 141 (by omega) (by omega)]; exact a27
        have b3 : h3 160 142 = R 160 142 + n := by rw [E3, up_s]; omega
        have old : ∀ o : Int, 1 ≤ o → o ≤ R 160 141 → h3 246 o.toNat = R 246 o.toNat ∧ h3 247 o.toNat = R 247 o.toNat ∧ h3 248 o.toNat = R 248 o.toNat := fun o o1 o2 => by
          rw [N3 246 _ (by omega) (by omega), N3 247 _ (by omega) (by omega), N3 248 _ (by omega) (by omega), N27 246 _ (by omega) (by omega), N27 247 _ (by omega) (by omega), N27 248 _ (by omega) (by omega)]
          exact ⟨rfl, rfl, rfl⟩
        have hx : HX R h3 := ⟨by omega, fun o o1 o2 => (old o o1 o2).1⟩
        have vals : ∀ i : Int, 0 ≤ i → i < R 160 142 → h3 249 i.toNat = R 249 i.toNat := fun i i1 i2 => by rw [N3 249 _ (by omega) (by omega), N27 249 _ (by omega) (by omega)]
        have zer : ∀ i : Int, 0 ≤ i → i < n → h3 249 (R 160 142 + i).toNat = 0 := fun i i1 i2 => by rw [E3, up_n (by omega)]; exact D i i1 (by omega)
        have new : h3 246 (R 160 141 + 1).toNat = y ∧ h3 247 (R 160 141 + 1).toNat = R 160 142 ∧ h3 248 (R 160 141 + 1).toNat = n := by
          rw [N3 246 _ (by omega) (by omega), N3 247 _ (by omega) (by omega), N3 248 _ (by omega) (by omega)]
          exact s27
        have hp : HPO nn g ω h3 := by
          refine ⟨fun o o1 o2 => ?_, fun o i o1 o2 o3 => ?_⟩
          · by_cases on : o = R 160 141 + 1
            · rw [on]
              unfold OBJ
              rw [new.1, new.2.1, new.2.2]
              refine ⟨by omega, ?_⟩
              rcases hy with ⟨y1, y2, y3⟩ | y1 | y1
              · refine .inl ⟨y1, y2, y3, fun a j s t u q1 q2 q3 q4 q5 q6 => ?_⟩
                rw [new.1] at q1
                have rg := flv_rg hn XV y2 q1 y3 q2 q3 q4 q5
                rw [new.2.1, show R 160 142 + s + j = R 160 142 + (s + j) by omega, zer (s + j) (by omega) (by omega)]
                exact cv_0
              · exact .inr (.inl y1)
              · refine .inr (.inr ⟨y1, fun u u1 u2 => ?_⟩)
                rw [zer u u1 u2]
                exact cv_0
            · obtain ⟨e6, e7, e8⟩ := old o o1 (by omega)
              obtain ⟨h1, h2⟩ := H.1 o o1 (by omega)
              unfold OBJ FLV
              rw [e6, e7, e8]
              refine ⟨by omega, ?_⟩
              rcases h2 with ⟨p1, p2, p3, p4⟩ | p | ⟨p1, p2⟩
              · refine .inl ⟨p1, p2, p3, fun a j s t u q1 q2 q3 q4 q5 q6 => ?_⟩
                have rg := flv_rg hn XV p2 q1 p3 q2 q3 q4 q5
                rw [vals (R 247 o.toNat + s + j) (by omega) (by omega)]
                exact cv_x hx (p4 a j s t u q1 q2 q3 q4 q5 q6)
              · exact .inr (.inl p)
              · refine .inr (.inr ⟨p1, fun u u1 u2 => ?_⟩)
                rw [vals (R 247 o.toNat + u) (by omega) (by omega)]
                exact cv_x hx (p2 u u1 u2)
          · obtain ⟨_, e7, e8⟩ := old o o1 (by omega)
            rw [e7, e8]
            by_cases on : i = R 160 141 + 1
            · rw [on, new.2.1]
              exact (H.1 o o1 (by omega)).1.2.2
            · rw [(old i (by omega) (by omega)).2.1]
              exact H.2 o i o1 o2 (by omega)
        rw [a3]
        refine ok_ret ⟨V3, .inr ⟨⟨rfl, a3, by show R 160 141 + 1 ≤ 2000; omega, by show 1 ≤ R 160 141 + 1; omega⟩, new.1, ⟨hx, hp⟩, fun x j q1 q2 => ?_⟩⟩
        show h3 x j = R x j
        rw [N3 x j (by omega) (by omega)]
        exact N27 x j (by omega) (by omega)
      · refine ok_add (by omega) ?_; intro v7 e7
        refine ok_wA (by omega) ?_; intro h8 E8
        refine ok_add (by omega) ?_; intro v9 e9
        rw [e9]
        refine ih (l + 1) h8 (by rw [E8]; exact wA_249 Vf (by omega)) (fun x i q => ?_) (by omega) (fun i i1 i2 => ?_) (by omega)
        · rw [E8, up_n (by omega)]; exact Nf x i q
        · by_cases i0 : i = l
          · rw [i0, show R 160 142 + l = v7 by omega, E8, up_s]
          · rw [E8, up_n (by omega)]; exact D i i1 (by omega)
  exact L nn 0 h27 V27 (fun _ _ _ => rfl) (by omega) (fun i i1 i2 => by exfalso; omega) (by omega)
/-- frame i stands somewhere, its locals are good -/
def FRL (nn : Nat) (g : ms_M) (ω : Int → ms_M) (R : ms_M) (i t : Int) : Prop := ∃ (c k : Int) (N : Nat) (T U : Nat → ms_M) (a : Nat) (p : ms_M), ATF nn g ω R i c k N T U t a p ∧ ∀ y : Int, 0 ≤ y → y < p 160 129 → CVt nn g R (T a 243 y.toNat) (R 255 (60 * i + y).toNat)
theorem frl_t {i t : Int} (X : TOPF nn g ω R i t) : FRL nn g ω R i t := by
  obtain ⟨c, k, N, T, U, a, p, A, C⟩ := X
  exact ⟨c, k, N, T, U, a, p, A, C.1⟩
theorem frl_l {i u t : Int} (X : LOWF nn g ω R i u t) : FRL nn g ω R i t := by
  obtain ⟨c, k, N, T, U, a, p, n, A, _, C, _⟩ := X
  exact ⟨c, k, N, T, U, a, p, A, C⟩
/-- a fault is thrown -/
theorem g_thrown (hn : 1000000 ≤ nn) {o : Int} : ∀ (j : Nat) (R : ms_M), RX nn ω g R → HPO nn g ω R → (1 ≤ o ∧ o ≤ R 160 141) → (0 ≤ R 160 149 ∧ R 160 149 ≤ 60) → (1 ≤ R 160 149 → ∃ t : Int, FRL nn g ω R (R 160 149 - 1) t ∧ STK nn g ω R (R 160 149 - 1).toNat t) → R 160 149 < (j : Int) → Ok_ (qw_X13_thrown_0 nn j o R) (fun r => SQ nn g ω R r) := by
  intro j
  induction j with
  | zero => intro R X H ho hd F hm; exfalso; omega
  | succ j ih =>
    intro R X H ho hd F hm
    have X0 := X
    obtain ⟨XV, AE, V, S⟩ := X
    have XV0 := XV
    obtain ⟨⟨Vg, Sg⟩, O, CA, _⟩ := XV
    have g98 := gF_160_98 Vg
    have g141 := gF_160_141 V
    unfold qw_X13_thrown_0
    refine ok_if (fun Y => ?_) (fun Y => ?_)
    · refine ok_xl ?_; intro h59 E59
      have V59 : VS_ h59 := by rw [E59]; exact wF_160_138 V (by omega)
      refine ok_rd (by omega) (gA_246 V59) ?_; intro v61 e61 b1 b2
      refine ok_xl ?_; intro h62 E62
      refine ok_ret ⟨by rw [E62]; exact wF_160_139 V59 (by omega), fun x j q1 q2 => by rw [E62, up_n (by omega), E59, up_n (by omega)], fun q => ?_⟩
      exfalso
      rw [E62, up_n (by omega), E59, up_s] at q
      exact absurd q (by decide)
    obtain ⟨t, ⟨c, k, N, T, U, a, p, A, loc⟩, ST⟩ := F (by omega)
    have A0 := A
    obtain ⟨⟨m, L, q, bd⟩, ck, ⟨a1, a2⟩, aN, a3⟩ := A
    have ck0 := ck
    obtain ⟨c0, k0⟩ := ck
    have hc : 0 ≤ c ∧ c ≤ 7 := by omega
    have Wg := O c c0.1 c0.2
    have W := wi_e AE c0 Wg
    have g3 := gF_160_113 W.1
    obtain ⟨k12, _, mt⟩ := wi_mt Wg hc k0
    obtain ⟨⟨f1, f2⟩, f3, f4, f5, _⟩ := mth_fr mt
    have e236 : R 236 (12 * c + k).toNat = g 236 (12 * c + k).toNat := ((AE.2 c c0.1 c0.2).2.2.2 k k0.1 k12).2.2.1
    have p236 : p 236 (12 * c + k).toNat = g 236 (12 * c + k).toNat := bd.1.1.1 236 _ (by decide) (by decide)
    have p0 := gA_236 Vg (12 * c + k).toNat (by omega)
    have M := bd.1.2.2
    have cd := mc_code M
    have ins := bd.2.1.2 a aN
    refine ok_sub (by omega) ?_; intro v64 e64
    rw [show v64 = R 160 149 - 1 by omega]
    refine ok_rd (by omega) (gA_251 V) ?_; intro v66 e66 _ _
    refine ok_sub (by omega) ?_; intro v67 e67
    rw [show v67 = c by omega]
    refine ok_mul (by omega) ?_; intro v69 e69
    refine ok_rd (by omega) (gA_252 V) ?_; intro v71 e71 _ _
    refine ok_add (by omega) ?_; intro v72 e72
    refine ok_rd (by omega) (gA_236 V) ?_; intro v73 e73 _ _
    rw [show v72 = 12 * c + k by omega, e236] at e73
    rw [e73]
    have b6 := gA_238 W.1 (g 236 (12 * c + k).toNat).toNat (by omega)
    have I : ∀ (l : Nat) (i : Int), (0 ≤ i ∧ i ≤ 255) → 256 - i < (l : Int) → Ok_ (qw_X13_thrown_45 nn (qw_X13_thrown_0 nn j) l o (R 160 149 - 1) c (g 236 (12 * c + k).toNat) i R) (fun r => SQ nn g ω R r) := by
      intro l
      induction l with
      | zero => intro i bi hm; exfalso; omega
      | succ l ihl =>
        intro i bi hm
        unfold qw_X13_thrown_45
        refine ok_sv (mv_bytew V hc W (by omega)) ?_; intro u6 P6
        have q6 := P6.1
        refine ok_if (fun Y2 => ?_) (fun Y2 => ?_)
        · refine ok_sub (by omega) ?_; intro v8 e8
          refine ok_xl ?_; intro h9 E9
          have V9 : VS_ h9 := by rw [E9]; exact wF_160_149 V (by omega)
          have N9 : ∀ x j : Nat, ¬ (x = 160 ∧ j = 149) → h9 x j = R x j := fun x j q => by rw [E9, up_n q]
          have d9 : h9 160 149 = R 160 149 - 1 := by rw [E9, up_s]; omega
          have F9 : RFr R h9 := fun x j q1 q2 => N9 x j (by omega)
          have K9 : HSM R h9 := ⟨fun x q1 q2 => funext fun j => N9 x j (by omega), N9 160 141 (by decide), N9 160 142 (by decide)⟩
          have W9 : ∀ i : Int, LWK R i h9 := fun i => ⟨fun y _ _ => ⟨N9 251 _ (by omega), N9 252 _ (by omega), N9 253 _ (by omega), N9 254 _ (by omega)⟩, fun y _ _ => N9 255 _ (by omega)⟩
          refine ok_im (ih h9 (rx_k F9 V9 X0) (hpo_s K9 H) (by rw [K9.2.1]; exact ho) (by omega) (fun q => ?_) (by omega)) (fun r Q => ⟨Q.1, rfr_tr F9 Q.2.1, Q.2.2⟩)
          rw [d9] at q ⊢
          obtain ⟨dd, edd⟩ : ∃ dd : Nat, (R 160 149 - 1).toNat = dd + 1 := ⟨(R 160 149 - 1).toNat - 1, by omega⟩
          rw [edd] at ST
          obtain ⟨t2, lw, st2⟩ := ST
          have lw2 := stk_k (nn := nn) (g := g) (ω := ω) (R := R) (r := h9) (dd + 1) t (W9 _) (hsm_x K9) ⟨t2, lw, st2⟩
          obtain ⟨t3, lw3, st3⟩ := lw2
          refine ⟨t3, ?_, ?_⟩
          · rw [show R 160 149 - 1 - 1 = (dd : Int) by omega]; exact frl_l lw3
          · rw [show (R 160 149 - 1 - 1).toNat = dd by omega]; exact st3
        have i20 : i < 20 := by omega
        refine ok_add (by omega) ?_; intro v10 e10
        refine ok_mul (by omega) ?_; intro v11 e11
        refine ok_add (by omega) ?_; intro v12 e12
        have eh : v12 = hpl p c k i := by unfold hpl; rw [p236]; omega
        have lim : 0 ≤ v12 ∧ v12 + 7 < ω c 160 113 := by omega
        have nxt : Ok_ (qw_X13_thrown_45 nn (qw_X13_thrown_0 nn j) l o (R 160 149 - 1) c (g 236 (12 * c + k).toNat) (i + 1) R) (fun r => SQ nn g ω R r) := ihl (i + 1) (by omega) (by omega)
        refine ok_sv (mv_bytew V hc W (by omega)) ?_; intro u14 P14
        refine ok_shl8 P14.2 ?_; intro v15 e15
        refine ok_add (by omega) ?_; intro v16 e16
        refine ok_sv (mv_bytew V hc W (by omega)) ?_; intro u18 P18
        refine ok_xl ?_; intro v19 e19
        have q19 : v19 = pw (ω c 238 (hpl p c k i).toNat) (ω c 238 (hpl p c k i + 1).toNat) := by unfold pw; rw [e19, e15, P14.1, P18.1, e16, eh]
        refine ok_add (by omega) ?_; intro v20 e20
        refine ok_sv (mv_bytew V hc W (by omega)) ?_; intro u22 P22
        refine ok_shl8 P22.2 ?_; intro v23 e23
        refine ok_add (by omega) ?_; intro v24 e24
        refine ok_sv (mv_bytew V hc W (by omega)) ?_; intro u26 P26
        refine ok_xl ?_; intro v27 e27
        have q27 : v27 = pw (ω c 238 (hpl p c k i + 2).toNat) (ω c 238 (hpl p c k i + 3).toNat) := by unfold pw; rw [e27, e23, P22.1, P26.1, e20, e24, eh]
        refine ok_rd (by omega) (gA_253 V) ?_; intro v29 e29 _ _
        refine ok_if (fun _ => ?_) (fun Y3 => ?_)
        · refine ok_add (by omega) ?_; intro v30 e30
          rw [e30]; exact nxt
        refine ok_rd (by omega) (gA_253 V) ?_; intro v32 e32 _ _
        refine ok_if (fun _ => ?_) (fun Y4 => ?_)
        · refine ok_add (by omega) ?_; intro v33 e33
          rw [e33]; exact nxt
        refine ok_add (by omega) ?_; intro v34 e34
        refine ok_sv (mv_bytew V hc W (by omega)) ?_; intro u36 P36
        have q36 : u36 = ω c 238 (hpl p c k i + 6).toNat := by rw [P36.1, e34, eh]
        have hp236 : i < ω c 238 (p 236 (12 * c + k).toNat).toNat := by rw [p236]; omega
        obtain ⟨_, _, u, ub, ct⟩ := bd.2.2.2.2.2.2.1 i bi.1 hp236
        have Apg := agd_sy bd.1.1
        rw [Apg.2.1.symm] at ub
        have cl := f3 i bi.1 (by omega)
        rw [show g 236 (12 * c + k).toNat + 1 + 7 * i + 6 = hpl p c k i + 6 by unfold hpl; rw [p236]] at cl
        have ctg : CTv nn g c (ω c) (ω c 238 (hpl p c k i + 6).toNat) (4 + 2 * u) := ctv_c (agd_c Apg) ct
        rw [q36]
        refine g_class X0 c0 cl ctg ?_
        have so : R 246 o.toNat < 99 → 0 ≤ R 246 o.toNat ∧ R 246 o.toNat < 8 + g 160 98 := fun y => by
          rcases (H.1 o ho.1 ho.2).2 with z | z | z
          · exact z.2.1
          · exfalso; omega
          · exfalso; omega
        refine ok_sv (rt_isOne hn XV0 AE V (o := o) (t := u) (by omega) so (by omega)) ?_; intro u42 P42
        refine ok_if (fun Y5 => ?_) (fun Y5 => ?_)
        · refine ok_add (by omega) ?_; intro v44 e44
          refine ok_sv (mv_bytew V hc W (by omega)) ?_; intro u46 P46
          refine ok_shl8 P46.2 ?_; intro v47 e47
          refine ok_add (by omega) ?_; intro v48 e48
          refine ok_sv (mv_bytew V hc W (by omega)) ?_; intro u50 P50
          refine ok_xl ?_; intro v51 e51
          have q51 : v51 = pw (ω c 238 (hpl p c k i + 4).toNat) (ω c 238 (hpl p c k i + 5).toNat) := by unfold pw; rw [e51, e47, P46.1, P50.1, e44, e48, eh]
          have b46 := P46.2
          have b50 := P50.2
          have b51 := oq_or_rg (x := v47) (y := u50) (by omega) (by omega)
          rw [← e51] at b51
          refine ok_wA (by omega) ?_; intro h52 E52
          have V52 : VS_ h52 := by rw [E52]; exact wA_253 V (by omega)
          unfold qj_X13_thrown_196
          refine ok_wA (by omega) ?_; intro h2 E2
          have V2 : VS_ h2 := by rw [E2]; exact wA_254 V52 (by omega)
          have d2 : h2 160 149 = R 160 149 - 1 + 1 := by rw [E2, up_n (by omega), E52, up_n (by omega)]; omega
          have s2 : h2 254 (R 160 149 - 1).toNat = 0 := by rw [E2, up_s]
          refine ok_sv (g_give V2 (rpo_rf V2 (i := R 160 149 - 1) (by omega)) d2 (by omega) (by rw [s2]; decide) (by omega)) ?_; intro u4 P4
          obtain ⟨V4, g1, g2, _, g4⟩ := P4
          rw [s2] at g1 g2 g4
          have N4 : ∀ x j : Nat, ¬ ((x = 253 ∨ x = 254) ∧ j = (R 160 149 - 1).toNat) → ¬ (x = 255 ∧ j = (60 * (R 160 149 - 1) + 30).toNat) → u4 x j = R x j := fun x j y1 y2 => by rw [g1 x j (by omega) (by omega), E2, up_n (by omega), E52, up_n (by omega)]
          have F4 : RFr R u4 := fun x j y1 y2 => N4 x j (by omega) (by omega)
          have K4 : HSM R u4 := ⟨fun x y1 y2 => funext fun j => N4 x j (by omega) (by omega), N4 160 141 (by omega) (by omega), N4 160 142 (by omega) (by omega)⟩
          have L4 : LWK R (R 160 149 - 1) u4 := ⟨fun y y1 y2 => ⟨N4 251 _ (by omega) (by omega), N4 252 _ (by omega) (by omega), N4 253 _ (by omega) (by omega), N4 254 _ (by omega) (by omega)⟩, fun y y1 y2 => N4 255 _ (by omega) (by omega)⟩
          have p4 : u4 253 (R 160 149 - 1).toNat = v51 := by rw [g1 253 _ (by omega) (by omega), E2, up_n (by omega), E52, up_s]
          have X4 := rx_k F4 V4 X0
          have isone : CVt nn g R (4 + 2 * u) o := by
            refine .inr (.inr (.inr ⟨ho, .inr (.inl ⟨u, ub.1, rfl, ?_⟩)⟩))
            rcases P42 with P | P
            · exact P.2
            · exact absurd P.1 Y5
          refine ok_ret ⟨V4, F4, fun _ => ?_⟩
          obtain ⟨u', n1, L1, m1, K1, t', hf, ⟨ht, hn1, hm1⟩, hl, hct, hgo⟩ := (bd.2.2.2.2.2.2.2 a aN).2.2.1 i bi.1 hp236 (by rw [← q19]; omega) (by rw [← q27]; omega)
          have tt := ctv_det hct ct
          rw [tt] at hgo
          have nda := (bd.2.2.2.2.2.2.2 a aN).1
          refine run_frame hn X4 bd ck0 ⟨by rw [N4 251 _ (by omega) (by omega)]; exact a1, by rw [N4 252 _ (by omega) (by omega)]; exact a2⟩ hf ht (by rw [p4]; exact q51) (fun b hb B LS NF => ?_) (hpo_s K4 H) (by rw [N4 160 149 (by omega) (by omega)]; omega) (by omega) (stk_k _ _ (by rw [show (((R 160 149 - 1).toNat : Nat) : Int) = R 160 149 - 1 by omega]; exact L4) (hsm_x K4) ST)
          have A1 := agd_sy (agd_tr bd.1.1 (nfl_agd nda.1))
          have A2 := agd_sy (agd_tr bd.1.1 (nfl_agd NF))
          have ea : T a 160 129 = p 160 129 := nda.1 160 129 (by decide) (by decide)
          have eb : T b 160 129 = p 160 129 := NF 160 129 (by decide) (by decide)
          have p30 := (mbd_129 bd).1
          refine ⟨fun y y1 y2 => ?_, ?_, fun y y1 y2 => ?_⟩
          · rw [N4 255 _ (by omega) (by omega)]
            refine cv_x (hsm_x K4) ?_
            by_cases yn : y < n1
            · have gl := LS.1 y y1 (by omega)
              rw [B.1 y y1 yn] at gl ⊢
              exact cv_goes hn XV0 (gts_c A1 (nda.2.1 y y1 (by omega))) (gts_c A2 gl) (got_c Apg (hl y y1 yn)) (loc y y1 y2)
            · rw [B.2.1 y (by omega) y1 y2]
              exact cv_t
          · rw [g2, B.2.2.1, hm1]; decide
          · have y0 : y = 0 := by rw [B.2.2.1, hm1] at y2; omega
            rw [y0]
            have gl := LS.2.2 0 (by decide) (by rw [B.2.2.1, hm1]; decide)
            rw [B.2.2.2 0 (by decide) (by rw [hm1]; decide)] at gl ⊢
            rw [show 60 * (R 160 149 - 1) + 30 + (0 : Int) = 60 * (R 160 149 - 1) + 30 + (0 - 0) by omega, g4]
            exact cv_x (hsm_x K4) (cv_goes hn XV0 ⟨by omega, by omega⟩ (gts_c A2 gl) (got_c Apg hgo) isone)
        · refine ok_add (by omega) ?_; intro v53 e53
          rw [e53]; exact nxt
    exact I nn 0 (by omega) (by omega)
/-- a built-in fault -/
theorem g_fails (hn : 1000000 ≤ nn) {o : Int} (X : RX nn ω g R) (H : HPO nn g ω R) (ho : 0 ≤ o ∧ o < 8) (hd : 1 ≤ R 160 149 ∧ R 160 149 ≤ 60) {t : Int} (F : FRL nn g ω R (R 160 149 - 1) t) (ST : STK nn g ω R (R 160 149 - 1).toNat t) : Ok_ (qf_X13_fails nn o R) (fun r => SQ nn g ω R r) := by
  have g98 := gF_160_98 X.1.1.1
  unfold qf_X13_fails
  refine ok_sv (g_make hn X H (y := o) (n := 0) (.inl ⟨by omega, by omega, fo_b (by omega)⟩) (by omega)) ?_; intro u2 P2
  obtain ⟨V2, P2⟩ := P2
  rcases P2 with ⟨p1, p2, p3⟩ | ⟨⟨p1, p2, p3, p3'⟩, p4, ⟨p5, p6⟩, p7⟩
  · rw [if_pos (show u2.1 ≤ 0 by omega)]
    exact ok_ret ⟨V2, fun x j q1 q2 => p2 x j (by omega), fun q => by rw [p3] at q; exact absurd q (by decide)⟩
  · rw [if_neg (show ¬ u2.1 ≤ 0 by omega)]
    have F2 : RFr R u2.2 := fun x j q1 q2 => p7 x j (by omega) (by omega)
    have d2 : u2.2 160 149 = R 160 149 := p7 160 149 (by omega) (by omega)
    have L2 : ∀ i : Int, LWK R i u2.2 := fun i => ⟨fun y y1 y2 => ⟨p7 251 _ (by omega) (by omega), p7 252 _ (by omega) (by omega), p7 253 _ (by omega) (by omega), p7 254 _ (by omega) (by omega)⟩, fun y y1 y2 => p7 255 _ (by omega) (by omega)⟩
    have g141 := gF_160_141 V2
    unfold qf_X13_thrown
    have th : Ok_ (qw_X13_thrown_0 nn nn u2.1 u2.2) (fun r => SQ nn g ω u2.2 r) := by
      refine g_thrown hn nn u2.2 (rx_k F2 V2 X) p6 (by omega) (by omega) (fun _ => ⟨t, ?_, ?_⟩) (by omega)
      · rw [d2]
        obtain ⟨c, k, N, T, U, a, p, ⟨a1, a2, ⟨a3, a4⟩, a5, a6⟩, loc⟩ := F
        refine ⟨c, k, N, T, U, a, p, ⟨a1, a2, ⟨?_, ?_⟩, a5, ?_⟩, fun y y1 y2 => ?_⟩
        · rw [p7 251 _ (by omega) (by omega)]; exact a3
        · rw [p7 252 _ (by omega) (by omega)]; exact a4
        · rw [p7 253 _ (by omega) (by omega)]; exact a6
        · rw [p7 255 _ (by omega) (by omega)]; exact cv_x p5 (loc y y1 y2)
      · rw [d2]; exact stk_k _ _ (L2 _) p5 ST
    refine ok_sv th ?_; intro u4 P4
    exact ok_ret ⟨P4.1, rfr_tr F2 P4.2.1, P4.2.2⟩
end

section
section
variable {nn : Nat} {h g r z w v x f R p s s2 : ms_M} {c d e k : Int} {ω : Int → ms_M}
theorem cfs_fit (hn : 1000000 ≤ nn) (X : VRC nn ω g) (A : AGd g p) (N1 : NFl p s) (L1 : LGT s ∧ SGT s) (N2 : NFl p s2) (L2 : LGT s2 ∧ SGT s2) (F : FIT nn p s s2) {i : Int} (C : CFS nn g R i (p 160 129) s) : CFS nn g R i (p 160 129) s2 := by
  have A1 := agd_sy (agd_tr A (nfl_agd N1))
  have A2 := agd_sy (agd_tr A (nfl_agd N2))
  have e1 : s 160 129 = p 160 129 := N1 160 129 (by decide) (by decide)
  have e2 : s2 160 129 = p 160 129 := N2 160 129 (by decide) (by decide)
  have f2 := F.2.1
  refine ⟨fun y y1 y2 => cv_goes hn X (gts_c A1 (L1.1 y y1 (by omega))) (gts_c A2 (L2.1 y y1 (by omega))) (got_c (agd_sy A) (F.1 y y1 y2)) (C.1 y y1 y2), C.2.1.trans f2, fun y y1 y2 => cv_goes hn X (gts_c A1 (L1.2.2 y y1 (by omega))) (gts_c A2 (L2.2.2 y y1 y2)) (got_c (agd_sy A) (F.2.2 y y1 y2)) (C.2.2 y y1 (by omega))⟩
/-- the run goes on behind instruction a -/
theorem run_adv {N : Nat} {T U : Nat → ms_M} {m q t i : Int} {L : Int → Int} {a : Nat} (hn : 1000000 ≤ nn) (X : RX nn ω g r) (bd : MBD nn g ω c k p N T U m L q t) (ck : (0 ≤ c ∧ c < g 160 98) ∧ 0 ≤ k ∧ k < g 234 c.toNat) (e1 : r 251 i.toNat = 8 + c ∧ r 252 i.toNat = k) (ha : a < N) (nt : ¬ (ω c 238 (p 160 134 + bp (ω c) (p 160 134) a).toNat = 167 ∨ ω c 238 (p 160 134 + bp (ω c) (p 160 134) a).toNat = 172 ∨ ω c 238 (p 160 134 + bp (ω c) (p 160 134) a).toNat = 176 ∨ ω c 238 (p 160 134 + bp (ω c) (p 160 134) a).toNat = 177 ∨ ω c 238 (p 160 134 + bp (ω c) (p 160 134) a).toNat = 191)) (e3 : r 253 i.toNat = bp (ω c) (p 160 134) (a + 1)) (C : CFS nn g r i (p 160 129) (U a)) (H : HPO nn g ω r) (hd : r 160 149 = i + 1) (hi : 0 ≤ i ∧ i < 60) (S : STK nn g ω r i.toNat t) : RUN1 nn g ω r := by
  obtain ⟨n1, n2, n3, n4, n5, n6, n7, n8⟩ := bd.2.2.2.2.2.2.2 a ha
  obtain ⟨a1, F⟩ := n8 nt
  have nd := (bd.2.2.2.2.2.2.2 (a + 1) a1).1
  refine ⟨by omega, H, t, ?_, ?_⟩
  · rw [hd, show i + 1 - 1 = i by omega]
    exact ⟨c, k, N, T, U, a + 1, p, ⟨⟨m, L, q, bd⟩, ck, e1, a1, e3⟩, cfs_fit hn X.1 bd.1.1 n6.1 n6.2 nd.1 nd.2 F C⟩
  · rw [hd, show i + 1 - 1 = i by omega]; exact S
/-- the run goes on at the place that a frame stands for -/
theorem run_frame {N : Nat} {T U : Nat → ms_M} {m q t i u n1 m1 pl : Int} {L L1 K1 : Int → Int} (hn : 1000000 ≤ nn) (X : RX nn ω g r) (bd : MBD nn g ω c k p N T U m L q t) (ck : (0 ≤ c ∧ c < g 160 98) ∧ 0 ≤ k ∧ k < g 234 c.toNat) (e1 : r 251 i.toNat = 8 + c ∧ r 252 i.toNat = k) (FF : FFr p c k (ω c) pl u) (FT : FRT nn p c (ω c) u n1 L1 m1 K1) (e3 : r 253 i.toNat = pl) (C : ∀ b : Nat, b < N → BCM p n1 L1 m1 K1 (T b) → (LGT (T b) ∧ SGT (T b)) → NFl p (T b) → CFS nn g r i (p 160 129) (T b)) (H : HPO nn g ω r) (hd : r 160 149 = i + 1) (hi : 0 ≤ i ∧ i < 60) (S : STK nn g ω r i.toNat t) : RUN1 nn g ω r := by
  obtain ⟨fm, fp⟩ := ffn_frm _ _ _ _ FF
  obtain ⟨b, b1, b2⟩ := (bd.2.2.2.2.2.1 u fm).2
  rw [fp] at b2
  obtain ⟨x1, x2, _⟩ := bd.2.2.2.2.2.2.2 b b1
  have B := x2 u n1 L1 m1 K1 (by rw [b2]; exact FF) FT
  refine ⟨by omega, H, t, ?_, ?_⟩
  · rw [hd, show i + 1 - 1 = i by omega]
    exact ⟨c, k, N, T, U, b, p, ⟨⟨m, L, q, bd⟩, ck, e1, b1, by rw [e3]; exact b2.symm⟩, C b b1 B x1.2 x1.1⟩
  · rw [hd, show i + 1 - 1 = i by omega]; exact S
/-- where a field of an object lies -/
theorem flv_rg (hn : 1000000 ≤ nn) (X : VRC nn ω g) {a j s y n : Int} (hk : 0 ≤ k ∧ k < 8 + g 160 98) (un : UNd nn g k a) (F : FO nn g k n) (ha : 8 ≤ a ∧ a < 8 + g 160 98) (hj : 0 ≤ j ∧ j < g 232 (a - 8).toNat) (sy : qf_X13_superOf nn a g = some y) (Fy : FO nn g y s) : 0 ≤ s ∧ s + j < n := by
  obtain ⟨⟨V, S⟩, O, C, _⟩ := X
  obtain ⟨_, m, up⟩ := un
  obtain ⟨t, t1, t2, _⟩ := fo_up hn V S O m k a n (by omega) up F
  have fs := fo_su t1 (by omega) sy
  have e := fo_det Fy fs
  have fe : fm g a = g 232 (a - 8).toNat := by unfold fm; rw [if_pos ha.1]
  obtain ⟨ys, e2, p2⟩ := su_rg hn V S (k := a) (by omega)
  rw [← Option.some.inj (sy.symm.trans e2)] at p2
  obtain ⟨l, Fl⟩ := Fy
  have := fo_nn hn V S O l y s p2 Fl
  omega
theorem fo_b (hk : 0 ≤ k ∧ k < 8) : FO nn g k 0 := by
  have f0 : ∀ y : Int, y < 8 → fm g y = 0 := fun y hy => by unfold fm; rw [if_neg (by omega)]
  have c0 : FOn nn g 1 0 0 := .inr ⟨by decide, -1, 0, su_0, ⟨rfl, rfl⟩, by rw [f0 0 (by decide)]; rfl⟩
  have c1 : FOn nn g 2 1 0 := .inr ⟨by decide, 0, 0, su_1, c0, by rw [f0 1 (by decide)]; rfl⟩
  by_cases y0 : k = 0
  · rw [y0]; exact ⟨1, c0⟩
  · by_cases y1 : k = 1
    · rw [y1]; exact ⟨2, c1⟩
    · exact ⟨3, .inr ⟨by omega, 1, 0, su_b (by omega), c1, by rw [f0 k (by omega)]; rfl⟩⟩
/-- a new object -/
theorem g_make (hn : 1000000 ≤ nn) (X : RX nn ω g R) (H : HPO nn g ω R) {y n : Int} (hy : (y < 99 ∧ (0 ≤ y ∧ y < 8 + g 160 98) ∧ FO nn g y n) ∨ y = 99 ∨ (100 ≤ y ∧ y - 100 < 8 + g 160 98)) (hn0 : 0 ≤ n ∧ n ≤ 2147483647) : Ok_ (qf_X13_make_ nn y n R) (fun u => VS_ u.2 ∧ ((u.1 = 0 ∧ (∀ x j : Nat, ¬ (x = 160 ∧ j = 138) → u.2 x j = R x j) ∧ u.2 160 138 = 4) ∨ ((u.1 = R 160 141 + 1 ∧ u.2 160 141 = R 160 141 + 1 ∧ u.1 ≤ 2000 ∧ 1 ≤ u.1) ∧ u.2 246 u.1.toNat = y ∧ (HX R u.2 ∧ HPO nn g ω u.2) ∧ ∀ x j : Nat, ¬ (246 ≤ x ∧ x ≤ 249) → ¬ (x = 160 ∧ (j = 141 ∨ j = 142)) → u.2 x j = R x j))) := by
  have X0 := X
  obtain ⟨XV, AE, V, S⟩ := X
  have g98 := gF_160_98 XV.1.1
  have g141 := gF_160_141 V
  have g142 := gF_160_142 V
  have room : Ok_ (qj_X13_make__22 nn R) (fun u => VS_ u.2 ∧ ((u.1 = 0 ∧ (∀ x j : Nat, ¬ (x = 160 ∧ j = 138) → u.2 x j = R x j) ∧ u.2 160 138 = 4) ∨ ((u.1 = R 160 141 + 1 ∧ u.2 160 141 = R 160 141 + 1 ∧ u.1 ≤ 2000 ∧ 1 ≤ u.1) ∧ u.2 246 u.1.toNat = y ∧ (HX R u.2 ∧ HPO nn g ω u.2) ∧ ∀ x j : Nat, ¬ (246 ≤ x ∧ x ≤ 249) → ¬ (x = 160 ∧ (j = 141 ∨ j = 142)) → u.2 x j = R x j))) := by
    unfold qj_X13_make__22
    refine ok_xl ?_; intro h11 E11
    exact ok_ret ⟨by rw [E11]; exact wF_160_138 V (by omega), .inl ⟨rfl, fun x j q => by show h11 x j = _; rw [E11, up_n q], by show h11 160 138 = 4; rw [E11, up_s]⟩⟩
  unfold qf_X13_make_
  refine ok_if (fun _ => room) (fun n2 => ?_)
  refine ok_sub (by omega) ?_; intro v14 e14
  refine ok_if (fun le => ?_) (fun _ => room)
  refine ok_add (by omega) ?_; intro v16 e16
  refine ok_xl ?_; intro h17 E17
  have V17 : VS_ h17 := by rw [E17]; exact wF_160_141 V (by omega)
  have a17 : h17 160 141 = R 160 141 + 1 := by rw [E17, up_s]; omega
  rw [a17]
  refine ok_wA (by omega) ?_; intro h20 E20
  have V20 : VS_ h20 := by rw [E20]; exact wA_246 V17 (by omega)
  have a20 : h20 160 141 = R 160 141 + 1 := by rw [E20, up_n (by omega)]; exact a17
  have b20 : h20 160 142 = R 160 142 := by rw [E20, up_n (by omega), E17, up_n (by omega)]
  rw [a20, b20]
  refine ok_wA (by omega) ?_; intro h24 E24
  have V24 : VS_ h24 := by rw [E24]; exact wA_247 V20 (by omega)
  have a24 : h24 160 141 = R 160 141 + 1 := by rw [E24, up_n (by omega)]; exact a20
  rw [a24]
  refine ok_wA (by omega) ?_; intro h27 E27
  have V27 : VS_ h27 := by rw [E27]; exact wA_248 V24 (by omega)
  have a27 : h27 160 141 = R 160 141 + 1 := by rw [E27, up_n (by omega)]; exact a24
  have b27 : h27 160 142 = R 160 142 := by rw [E27, up_n (by omega), E24, up_n (by omega)]; exact b20
  have N27 : ∀ x j : Nat, ¬ ((x = 246 ∨ x = 247 ∨ x = 248) ∧ j = (R 160 141 + 1).toNat) → ¬ (x = 160 ∧ j = 141) → h27 x j = R x j := fun x j q1 q2 => by rw [E27, up_n (by omega), E24, up_n (by omega), E20, up_n (by omega), E17, up_n (by omega)]
  have s27 : h27 246 (R 160 141 + 1).toNat = y ∧ h27 247 (R 160 141 + 1).toNat = R 160 142 ∧ h27 248 (R 160 141 + 1).toNat = n := by
    refine ⟨?_, ?_, ?_⟩
    · rw [E27, up_n (by omega), E24, up_n (by omega), E20, up_s]
    · rw [E27, up_n (by omega), E24, up_s]
    · rw [E27, up_s]
  have L : ∀ (j : Nat) (l : Int) (f : ms_M), VS_ f → (∀ x i : Nat, ¬ (x = 249 ∧ (R 160 142 : Int) ≤ i) → f x i = h27 x i) → (0 ≤ l ∧ l ≤ n) → (∀ i : Int, 0 ≤ i → i < l → f 249 (R 160 142 + i).toNat = 0) → n - l < (j : Int) → Ok_ (qw_X13_make__74 nn j n l f) (fun u => VS_ u.2 ∧ ((u.1 = 0 ∧ (∀ x j : Nat, ¬ (x = 160 ∧ j = 138) → u.2 x j = R x j) ∧ u.2 160 138 = 4) ∨ ((u.1 = R 160 141 + 1 ∧ u.2 160 141 = R 160 141 + 1 ∧ u.1 ≤ 2000 ∧ 1 ≤ u.1) ∧ u.2 246 u.1.toNat = y ∧ (HX R u.2 ∧ HPO nn g ω u.2) ∧ ∀ x j : Nat, ¬ (246 ≤ x ∧ x ≤ 249) → ¬ (x = 160 ∧ (j = 141 ∨ j = 142)) → u.2 x j = R x j))) := by
    intro j
    induction j with
    | zero => intro l f Vf Nf b D hm; exfalso; omega
    | succ j ih =>
      intro l f Vf Nf b D hm
      have b142 : f 160 142 = R 160 142 := by rw [Nf 160 142 (by omega)]; exact b27
      unfold qw_X13_make__74
      rw [b142]
      refine ok_if (fun Cc => ?_) (fun Cc => ?_)
      · refine ok_add (by omega) ?_; intro v2 e2
        refine ok_xl ?_; intro h3 E3
        have V3 : VS_ h3 := by rw [E3]; exact wF_160_142 Vf (by omega)
        have N3 : ∀ x i : Nat, ¬ (x = 249 ∧ (R 160 142 : Int) ≤ i) → ¬ (x = 160 ∧ i = 142) → h3 x i = h27 x i := fun x i q1 q2 => by rw [E3, up_n (by omega)]; exact Nf x i q1
        have a3 : h3 160 141 = R 160 141 + 1 := by rw [N3 160 141 (by omega) (by omega)]; exact a27
        have b3 : h3 160 142 = R 160 142 + n := by rw [E3, up_s]; omega
        have old : ∀ o : Int, 1 ≤ o → o ≤ R 160 141 → h3 246 o.toNat = R 246 o.toNat ∧ h3 247 o.toNat = R 247 o.toNat ∧ h3 248 o.toNat = R 248 o.toNat := fun o o1 o2 => by
          rw [N3 246 _ (by omega) (by omega), N3 247 _ (by omega) (by omega), N3 248 _ (by omega) (by omega), N27 246 _ (by omega) (by omega), N27 247 _ (by omega) (by omega), N27 248 _ (by omega) (by omega)]
          exact ⟨rfl, rfl, rfl⟩
        have hx : HX R h3 := ⟨by omega, fun o o1 o2 => (old o o1 o2).1⟩
        have vals : ∀ i : Int, 0 ≤ i → i < R 160 142 → h3 249 i.toNat = R 249 i.toNat := fun i i1 i2 => by rw [N3 249 _ (by omega) (by omega), N27 249 _ (by omega) (by omega)]
        have zer : ∀ i : Int, 0 ≤ i → i < n → h3 249 (R 160 142 + i).toNat = 0 := fun i i1 i2 => by rw [E3, up_n (by omega)]; exact D i i1 (by omega)
        have new : h3 246 (R 160 141 + 1).toNat = y ∧ h3 247 (R 160 141 + 1).toNat = R 160 142 ∧ h3 248 (R 160 141 + 1).toNat = n := by
          rw [N3 246 _ (by omega) (by omega), N3 247 _ (by omega) (by omega), N3 248 _ (by omega) (by omega)]
          exact s27
        have hp : HPO nn g ω h3 := by
          refine ⟨fun o o1 o2 => ?_, fun o i o1 o2 o3 => ?_⟩
          · by_cases on : o = R 160 141 + 1
            · rw [on]
              unfold OBJ
              rw [new.1, new.2.1, new.2.2]
              refine ⟨by omega, ?_⟩
              rcases hy with ⟨y1, y2, y3⟩ | y1 | y1
              · refine .inl ⟨y1, y2, y3, fun a j s t u q1 q2 q3 q4 q5 q6 => ?_⟩
                rw [new.1] at q1
                have rg := flv_rg hn XV y2 q1 y3 q2 q3 q4 q5
                rw [new.2.1, show R 160 142 + s + j = R 160 142 + (s + j) by omega, zer (s + j) (by omega) (by omega)]
                exact cv_0
              · exact .inr (.inl y1)
              · refine .inr (.inr ⟨y1, fun u u1 u2 => ?_⟩)
                rw [zer u u1 u2]
                exact cv_0
            · obtain ⟨e6, e7, e8⟩ := old o o1 (by omega)
              obtain ⟨h1, h2⟩ := H.1 o o1 (by omega)
              unfold OBJ FLV
              rw [e6, e7, e8]
              refine ⟨by omega, ?_⟩
              rcases h2 with ⟨p1, p2, p3, p4⟩ | p | ⟨p1, p2⟩
              · refine .inl ⟨p1, p2, p3, fun a j s t u q1 q2 q3 q4 q5 q6 => ?_⟩
                have rg := flv_rg hn XV p2 q1 p3 q2 q3 q4 q5
                rw [vals (R 247 o.toNat + s + j) (by omega) (by omega)]
                exact cv_x hx (p4 a j s t u q1 q2 q3 q4 q5 q6)
              · exact .inr (.inl p)
              · refine .inr (.inr ⟨p1, fun u u1 u2 => ?_⟩)
                rw [vals (R 247 o.toNat + u) (by omega) (by omega)]
                exact cv_x hx (p2 u u1 u2)
          · obtain ⟨_, e7, e8⟩ := old o o1 (by omega)
            rw [e7, e8]
            by_cases on : i = R 160 141 + 1
            · rw [on, new.2.1]
              exact (H.1 o o1 (by omega)).1.2.2
            · rw [(old i (by omega) (by omega)).2.1]
              exact H.2 o i o1 o2 (by omega)
        rw [a3]
        refine ok_ret ⟨V3, .inr ⟨⟨rfl, a3, by show R 160 141 + 1 ≤ 2000; omega, by show 1 ≤ R 160 141 + 1; omega⟩, new.1, ⟨hx, hp⟩, fun x j q1 q2 => ?_⟩⟩
        show h3 x j = R x j
        rw [N3 x j (by omega) (by omega)]
        exact N27 x j (by omega) (by omega)
      · refine ok_add (by omega) ?_; intro v7 e7
        refine ok_wA (by omega) ?_; intro h8 E8
        refine ok_add (by omega) ?_; intro v9 e9
        rw [e9]
        refine ih (l + 1) h8 (by rw [E8]; exact wA_249 Vf (by omega)) (fun x i q => ?_) (by omega) (fun i i1 i2 => ?_) (by omega)
        · rw [E8, up_n (by omega)]; exact Nf x i q
        · by_cases i0 : i = l
          · rw [i0, show R 160 142 + l = v7 by omega, E8, up_s]
          · rw [E8, up_n (by omega)]; exact D i i1 (by omega)
  exact L nn 0 h27 V27 (fun _ _ _ => rfl) (by omega) (fun i i1 i2 => by exfalso; omega) (by omega)
/-- frame i stands somewhere, its locals are good -/
def FRL (nn : Nat) (g : ms_M) (ω : Int → ms_M) (R : ms_M) (i t : Int) : Prop := ∃ (c k : Int) (N : Nat) (T U : Nat → ms_M) (a : Nat) (p : ms_M), ATF nn g ω R i c k N T U t a p ∧ ∀ y : Int, 0 ≤ y → y < p 160 129 → CVt nn g R (T a 243 y.toNat) (R 255 (60 * i + y).toNat)
theorem frl_t {i t : Int} (X : TOPF nn g ω R i t) : FRL nn g ω R i t := by
  obtain ⟨c, k, N, T, U, a, p, A, C⟩ := X
  exact ⟨c, k, N, T, U, a, p, A, C.1⟩
theorem frl_l {i u t : Int} (X : LOWF nn g ω R i u t) : FRL nn g ω R i t := by
  obtain ⟨c, k, N, T, U, a, p, n, A, _, C, _⟩ := X
  exact ⟨c, k, N, T, U, a, p, A, C⟩
/-- a fault is thrown -/
theorem g_thrown (hn : 1000000 ≤ nn) {o : Int} : ∀ (j : Nat) (R : ms_M), RX nn ω g R → HPO nn g ω R → (1 ≤ o ∧ o ≤ R 160 141) → (0 ≤ R 160 149 ∧ R 160 149 ≤ 60) → (1 ≤ R 160 149 → ∃ t : Int, FRL nn g ω R (R 160 149 - 1) t ∧ STK nn g ω R (R 160 149 - 1).toNat t) → R 160 149 < (j : Int) → Ok_ (qw_X13_thrown_0 nn j o R) (fun r => SQ nn g ω R r) := by
  intro j
  induction j with
  | zero => intro R X H ho hd F hm; exfalso; omega
  | succ j ih =>
    intro R X H ho hd F hm
    have X0 := X
    obtain ⟨XV, AE, V, S⟩ := X
    have XV0 := XV
    obtain ⟨⟨Vg, Sg⟩, O, CA, _⟩ := XV
    have g98 := gF_160_98 Vg
    have g141 := gF_160_141 V
    unfold qw_X13_thrown_0
    refine ok_if (fun Y => ?_) (fun Y => ?_)
    · refine ok_xl ?_; intro h59 E59
      have V59 : VS_ h59 := by rw [E59]; exact wF_160_138 V (by omega)
      refine ok_rd (by omega) (gA_246 V59) ?_; intro v61 e61 b1 b2
      refine ok_xl ?_; intro h62 E62
      refine ok_ret ⟨by rw [E62]; exact wF_160_139 V59 (by omega), fun x j q1 q2 => by rw [E62, up_n (by omega), E59, up_n (by omega)], fun q => ?_⟩
      exfalso
      rw [E62, up_n (by omega), E59, up_s] at q
      exact absurd q (by decide)
    obtain ⟨t, ⟨c, k, N, T, U, a, p, A, loc⟩, ST⟩ := F (by omega)
    have A0 := A
    obtain ⟨⟨m, L, q, bd⟩, ck, ⟨a1, a2⟩, aN, a3⟩ := A
    have ck0 := ck
    obtain ⟨c0, k0⟩ := ck
    have hc : 0 ≤ c ∧ c ≤ 7 := by omega
    have Wg := O c c0.1 c0.2
    have W := wi_e AE c0 Wg
    have g3 := gF_160_113 W.1
    obtain ⟨k12, _, mt⟩ := wi_mt Wg hc k0
    obtain ⟨⟨f1, f2⟩, f3, f4, f5, _⟩ := mth_fr mt
    have e236 : R 236 (12 * c + k).toNat = g 236 (12 * c + k).toNat := ((AE.2 c c0.1 c0.2).2.2.2 k k0.1 k12).2.2.1
    have p236 : p 236 (12 * c + k).toNat = g 236 (12 * c + k).toNat := bd.1.1.1 236 _ (by decide) (by decide)
    have p0 := gA_236 Vg (12 * c + k).toNat (by omega)
    have M := bd.1.2.2
    have cd := mc_code M
    have ins := bd.2.1.2 a aN
    refine ok_sub (by omega) ?_; intro v64 e64
    rw [show v64 = R 160 149 - 1 by omega]
    refine ok_rd (by omega) (gA_251 V) ?_; intro v66 e66 _ _
    refine ok_sub (by omega) ?_; intro v67 e67
    rw [show v67 = c by omega]
    refine ok_mul (by omega) ?_; intro v69 e69
    refine ok_rd (by omega) (gA_252 V) ?_; intro v71 e71 _ _
    refine ok_add (by omega) ?_; intro v72 e72
    refine ok_rd (by omega) (gA_236 V) ?_; intro v73 e73 _ _
    rw [show v72 = 12 * c + k by omega, e236] at e73
    rw [e73]
    have b6 := gA_238 W.1 (g 236 (12 * c + k).toNat).toNat (by omega)
    have I : ∀ (l : Nat) (i : Int), (0 ≤ i ∧ i ≤ 255) → 256 - i < (l : Int) → Ok_ (qw_X13_thrown_45 nn (qw_X13_thrown_0 nn j) l o (R 160 149 - 1) c (g 236 (12 * c + k).toNat) i R) (fun r => SQ nn g ω R r) := by
      intro l
      induction l with
      | zero => intro i bi hm; exfalso; omega
      | succ l ihl =>
        intro i bi hm
        unfold qw_X13_thrown_45
        refine ok_sv (mv_bytew V hc W (by omega)) ?_; intro u6 P6
        have q6 := P6.1
        refine ok_if (fun Y2 => ?_) (fun Y2 => ?_)
        · refine ok_sub (by omega) ?_; intro v8 e8
          refine ok_xl ?_; intro h9 E9
          have V9 : VS_ h9 := by rw [E9]; exact wF_160_149 V (by omega)
          have N9 : ∀ x j : Nat, ¬ (x = 160 ∧ j = 149) → h9 x j = R x j := fun x j q => by rw [E9, up_n q]
          have d9 : h9 160 149 = R 160 149 - 1 := by rw [E9, up_s]; omega
          have F9 : RFr R h9 := fun x j q1 q2 => N9 x j (by omega)
          have K9 : HSM R h9 := ⟨fun x q1 q2 => funext fun j => N9 x j (by omega), N9 160 141 (by decide), N9 160 142 (by decide)⟩
          have W9 : ∀ i : Int, LWK R i h9 := fun i => ⟨fun y _ _ => ⟨N9 251 _ (by omega), N9 252 _ (by omega), N9 253 _ (by omega), N9 254 _ (by omega)⟩, fun y _ _ => N9 255 _ (by omega)⟩
          refine ok_im (ih h9 (rx_k F9 V9 X0) (hpo_s K9 H) (by rw [K9.2.1]; exact ho) (by omega) (fun q => ?_) (by omega)) (fun r Q => ⟨Q.1, rfr_tr F9 Q.2.1, Q.2.2⟩)
          rw [d9] at q ⊢
          obtain ⟨dd, edd⟩ : ∃ dd : Nat, (R 160 149 - 1).toNat = dd + 1 := ⟨(R 160 149 - 1).toNat - 1, by omega⟩
          rw [edd] at ST
          obtain ⟨t2, lw, st2⟩ := ST
          have lw2 := stk_k (nn := nn) (g := g) (ω := ω) (R := R) (r := h9) (dd + 1) t (W9 _) (hsm_x K9) ⟨t2, lw, st2⟩
          obtain ⟨t3, lw3, st3⟩ := lw2
          refine ⟨t3, ?_, ?_⟩
          · rw [show R 160 149 - 1 - 1 = (dd : Int) by omega]; exact frl_l lw3
          · rw [show (R 160 149 - 1 - 1).toNat = dd by omega]; exact st3
        have i20 : i < 20 := by omega
        refine ok_add (by omega) ?_; intro v10 e10
        refine ok_mul (by omega) ?_; intro v11 e11
        refine ok_add (by omega) ?_; intro v12 e12
        have eh : v12 = hpl p c k i := by unfold hpl; rw [p236]; omega
        have lim : 0 ≤ v12 ∧ v12 + 7 < ω c 160 113 := by omega
        have nxt : Ok_ (qw_X13_thrown_45 nn (qw_X13_thrown_0 nn j) l o (R 160 149 - 1) c (g 236 (12 * c + k).toNat) (i + 1) R) (fun r => SQ nn g ω R r) := ihl (i + 1) (by omega) (by omega)
        refine ok_sv (mv_bytew V hc W (by omega)) ?_; intro u14 P14
        refine ok_shl8 P14.2 ?_; intro v15 e15
        refine ok_add (by omega) ?_; intro v16 e16
        refine ok_sv (mv_bytew V hc W (by omega)) ?_; intro u18 P18
        refine ok_xl ?_; intro v19 e19
        have q19 : v19 = pw (ω c 238 (hpl p c k i).toNat) (ω c 238 (hpl p c k i + 1).toNat) := by unfold pw; rw [e19, e15, P14.1, P18.1, e16, eh]
        refine ok_add (by omega) ?_; intro v20 e20
        refine ok_sv (mv_bytew V hc W (by omega)) ?_; intro u22 P22
        refine ok_shl8 P22.2 ?_; intro v23 e23
        refine ok_add (by omega) ?_; intro v24 e24
        refine ok_sv (mv_bytew V hc W (by omega)) ?_; intro u26 P26
        refine ok_xl ?_; intro v27 e27
        have q27 : v27 = pw (ω c 238 (hpl p c k i + 2).toNat) (ω c 238 (hpl p c k i + 3).toNat) := by unfold pw; rw [e27, e23, P22.1, P26.1, e20, e24, eh]
        refine ok_rd (by omega) (gA_253 V) ?_; intro v29 e29 _ _
        refine ok_if (fun _ => ?_) (fun Y3 => ?_)
        · refine ok_add (by omega) ?_; intro v30 e30
          rw [e30]; exact nxt
        refine ok_rd (by omega) (gA_253 V) ?_; intro v32 e32 _ _
        refine ok_if (fun _ => ?_) (fun Y4 => ?_)
        · refine ok_add (by omega) ?_; intro v33 e33
          rw [e33]; exact nxt
        refine ok_add (by omega) ?_; intro v34 e34
        refine ok_sv (mv_bytew V hc W (by omega)) ?_; intro u36 P36
        have q36 : u36 = ω c 238 (hpl p c k i + 6).toNat := by rw [P36.1, e34, eh]
        have hp236 : i < ω c 238 (p 236 (12 * c + k).toNat).toNat := by rw [p236]; omega
        obtain ⟨_, _, u, ub, ct⟩ := bd.2.2.2.2.2.2.1 i bi.1 hp236
        have Apg := agd_sy bd.1.1
        rw [Apg.2.1.symm] at ub
        have cl := f3 i bi.1 (by omega)
        rw [show g 236 (12 * c + k).toNat + 1 + 7 * i + 6 = hpl p c k i + 6 by unfold hpl; rw [p236]] at cl
        have ctg : CTv nn g c (ω c) (ω c 238 (hpl p c k i + 6).toNat) (4 + 2 * u) := ctv_c (agd_c Apg) ct
        rw [q36]
        refine g_class X0 c0 cl ctg ?_
        have so : R 246 o.toNat < 99 → 0 ≤ R 246 o.toNat ∧ R 246 o.toNat < 8 + g 160 98 := fun y => by
          rcases (H.1 o ho.1 ho.2).2 with z | z | z
          · exact z.2.1
          · exfalso; omega
          · exfalso; omega
        refine ok_sv (rt_isOne hn XV0 AE V (o := o) (t := u) (by omega) so (by omega)) ?_; intro u42 P42
        refine ok_if (fun Y5 => ?_) (fun Y5 => ?_)
        · refine ok_add (by omega) ?_; intro v44 e44
          refine ok_sv (mv_bytew V hc W (by omega)) ?_; intro u46 P46
          refine ok_shl8 P46.2 ?_; intro v47 e47
          refine ok_add (by omega) ?_; intro v48 e48
          refine ok_sv (mv_bytew V hc W (by omega)) ?_; intro u50 P50
          refine ok_xl ?_; intro v51 e51
          have q51 : v51 = pw (ω c 238 (hpl p c k i + 4).toNat) (ω c 238 (hpl p c k i + 5).toNat) := by unfold pw; rw [e51, e47, P46.1, P50.1, e44, e48, eh]
          have b46 := P46.2
          have b50 := P50.2
          have b51 := oq_or_rg (x := v47) (y := u50) (by omega) (by omega)
          rw [← e51] at b51
          refine ok_wA (by omega) ?_; intro h52 E52
          have V52 : VS_ h52 := by rw [E52]; exact wA_253 V (by omega)
          unfold qj_X13_thrown_196
          refine ok_wA (by omega) ?_; intro h2 E2
          have V2 : VS_ h2 := by rw [E2]; exact wA_254 V52 (by omega)
          have d2 : h2 160 149 = R 160 149 - 1 + 1 := by rw [E2, up_n (by omega), E52, up_n (by omega)]; omega
          have s2 : h2 254 (R 160 149 - 1).toNat = 0 := by rw [E2, up_s]
          refine ok_sv (g_give V2 (rpo_rf V2 (i := R 160 149 - 1) (by omega)) d2 (by omega) (by rw [s2]; decide) (by omega)) ?_; intro u4 P4
          obtain ⟨V4, g1, g2, _, g4⟩ := P4
          rw [s2] at g1 g2 g4
          have N4 : ∀ x j : Nat, ¬ ((x = 253 ∨ x = 254) ∧ j = (R 160 149 - 1).toNat) → ¬ (x = 255 ∧ j = (60 * (R 160 149 - 1) + 30).toNat) → u4 x j = R x j := fun x j y1 y2 => by rw [g1 x j (by omega) (by omega), E2, up_n (by omega), E52, up_n (by omega)]
          have F4 : RFr R u4 := fun x j y1 y2 => N4 x j (by omega) (by omega)
          have K4 : HSM R u4 := ⟨fun x y1 y2 => funext fun j => N4 x j (by omega) (by omega), N4 160 141 (by omega) (by omega), N4 160 142 (by omega) (by omega)⟩
          have L4 : LWK R (R 160 149 - 1) u4 := ⟨fun y y1 y2 => ⟨N4 251 _ (by omega) (by omega), N4 252 _ (by omega) (by omega), N4 253 _ (by omega) (by omega), N4 254 _ (by omega) (by omega)⟩, fun y y1 y2 => N4 255 _ (by omega) (by omega)⟩
          have p4 : u4 253 (R 160 149 - 1).toNat = v51 := by rw [g1 253 _ (by omega) (by omega), E2, up_n (by omega), E52, up_s]
          have X4 := rx_k F4 V4 X0
          have isone : CVt nn g R (4 + 2 * u) o := by
            refine .inr (.inr (.inr ⟨ho, .inr (.inl ⟨u, ub.1, rfl, ?_⟩)⟩))
            rcases P42 with P | P
            · exact P.2
            · exact absurd P.1 Y5
          refine ok_ret ⟨V4, F4, fun _ => ?_⟩
          obtain ⟨u', n1, L1, m1, K1, t', hf, ⟨ht, hn1, hm1⟩, hl, hct, hgo⟩ := (bd.2.2.2.2.2.2.2 a aN).2.2.1 i bi.1 hp236 (by rw [← q19]; omega) (by rw [← q27]; omega)
          have tt := ctv_det hct ct
          rw [tt] at hgo
          have nda := (bd.2.2.2.2.2.2.2 a aN).1
          refine run_frame hn X4 bd ck0 ⟨by rw [N4 251 _ (by omega) (by omega)]; exact a1, by rw [N4 252 _ (by omega) (by omega)]; exact a2⟩ hf ht (by rw [p4]; exact q51) (fun b hb B LS NF => ?_) (hpo_s K4 H) (by rw [N4 160 149 (by omega) (by omega)]; omega) (by omega) (stk_k _ _ (by rw [show (((R 160 149 - 1).toNat : Nat) : Int) = R 160 149 - 1 by omega]; exact L4) (hsm_x K4) ST)
          have A1 := agd_sy (agd_tr bd.1.1 (nfl_agd nda.1))
          have A2 := agd_sy (agd_tr bd.1.1 (nfl_agd NF))
          have ea : T a 160 129 = p 160 129 := nda.1 160 129 (by decide) (by decide)
          have eb : T b 160 129 = p 160 129 := NF 160 129 (by decide) (by decide)
          have p30 := (mbd_129 bd).1
          refine ⟨fun y y1 y2 => ?_, ?_, fun y y1 y2 => ?_⟩
          · rw [N4 255 _ (by omega) (by omega)]
            refine cv_x (hsm_x K4) ?_
            by_cases yn : y < n1
            · have gl := LS.1 y y1 (by omega)
              rw [B.1 y y1 yn] at gl ⊢
              exact cv_goes hn XV0 (gts_c A1 (nda.2.1 y y1 (by omega))) (gts_c A2 gl) (got_c Apg (hl y y1 yn)) (loc y y1 y2)
            · rw [B.2.1 y (by omega) y1 y2]
              exact cv_t
          · rw [g2, B.2.2.1, hm1]; decide
          · have y0 : y = 0 := by rw [B.2.2.1, hm1] at y2; omega
            rw [y0]
            have gl := LS.2.2 0 (by decide) (by rw [B.2.2.1, hm1]; decide)
            rw [B.2.2.2 0 (by decide) (by rw [hm1]; decide)] at gl ⊢
            rw [show 60 * (R 160 149 - 1) + 30 + (0 : Int) = 60 * (R 160 149 - 1) + 30 + (0 - 0) by omega, g4]
            exact cv_x (hsm_x K4) (cv_goes hn XV0 ⟨by omega, by omega⟩ (gts_c A2 gl) (got_c Apg hgo) isone)
        · refine ok_add (by omega) ?_; intro v53 e53
          rw [e53]; exact nxt
    exact I nn 0 (by omega) (by omega)
/-- a built-in fault -/
theorem g_fails (hn : 1000000 ≤ nn) {o : Int} (X : RX nn ω g R) (H : HPO nn g ω R) (ho : 0 ≤ o ∧ o < 8) (hd : 1 ≤ R 160 149 ∧ R 160 149 ≤ 60) {t : Int} (F : FRL nn g ω R (R 160 149 - 1) t) (ST : STK nn g ω R (R 160 149 - 1).toNat t) : Ok_ (qf_X13_fails nn o R) (fun r => SQ nn g ω R r) := by
  have g98 := gF_160_98 X.1.1.1
  unfold qf_X13_fails
  refine ok_sv (g_make hn X H (y := o) (n := 0) (.inl ⟨by omega, by omega, fo_b (by omega)⟩) (by omega)) ?_; intro u2 P2
  obtain ⟨V2, P2⟩ := P2
  rcases P2 with ⟨p1, p2, p3⟩ | ⟨⟨p1, p2, p3, p3'⟩, p4, ⟨p5, p6⟩, p7⟩
  · rw [if_pos (show u2.1 ≤ 0 by omega)]
    exact ok_ret ⟨V2, fun x j q1 q2 => p2 x j (by omega), fun q => by rw [p3] at q; exact absurd q (by decide)⟩
  · rw [if_neg (show ¬ u2.1 ≤ 0 by omega)]
    have F2 : RFr R u2.2 := fun x j q1 q2 => p7 x j (by omega) (by omega)
    have d2 : u2.2 160 149 = R 160 149 := p7 160 149 (by omega) (by omega)
    have L2 : ∀ i : Int, LWK R i u2.2 := fun i => ⟨fun y y1 y2 => ⟨p7 251 _ (by omega) (by omega), p7 252 _ (by omega) (by omega), p7 253 _ (by omega) (by omega), p7 254 _ (by omega) (by omega)⟩, fun y y1 y2 => p7 255 _ (by omega) (by omega)⟩
    have g141 := gF_160_141 V2
    unfold qf_X13_thrown
    have th : Ok_ (qw_X13_thrown_0 nn nn u2.1 u2.2) (fun r => SQ nn g ω u2.2 r) := by
      refine g_thrown hn nn u2.2 (rx_k F2 V2 X) p6 (by omega) (by omega) (fun _ => ⟨t, ?_, ?_⟩) (by omega)
      · rw [d2]
        obtain ⟨c, k, N, T, U, a, p, ⟨a1, a2, ⟨a3, a4⟩, a5, a6⟩, loc⟩ := F
        refine ⟨c, k, N, T, U, a, p, ⟨a1, a2, ⟨?_, ?_⟩, a5, ?_⟩, fun y y1 y2 => ?_⟩
        · rw [p7 251 _ (by omega) (by omega)]; exact a3
        · rw [p7 252 _ (by omega) (by omega)]; exact a4
        · rw [p7 253 _ (by omega) (by omega)]; exact a6
        · rw [p7 255 _ (by omega) (by omega)]; exact cv_x p5 (loc y y1 y2)
      · rw [d2]; exact stk_k _ _ (L2 _) p5 ST
    refine ok_sv th ?_; intro u4 P4
    exact ok_ret ⟨P4.1, rfr_tr F2 P4.2.1, P4.2.2⟩
end
end
section
section
variable {nn : Nat} {r w f : ms_M} {c : Int} {ω : Int → ms_M}
theorem wnx_0 {rt op i : Int} (W : WN nn f ω c w rt op i r) (o : (op = 0 ∨ op = 167)) : POP f 0 r := by
  rcases W with p0 | p1 | p2 | p3 | p4 | p5 | p6 | p7 | p8 | p9 | p10 | p11 | p12 | p13 | p14 | p15 | p16 | p17 | p18 | p19 | p20 | p21 | p22 | p23 | p24 | p25 | p26 | p27 | p28 | p29
  · exact p0.2
  · have := p1.1; exfalso; omega
  · have := p2.1; exfalso; omega
  · have := p3.1; exfalso; omega
  · have := p4.1; exfalso; omega
  · have := p5.1; exfalso; omega
  · have := p6.1; exfalso; omega
  · have := p7.1; exfalso; omega
  · have := p8.1; exfalso; omega
  · have := p9.1; exfalso; omega
  · have := p10.1; exfalso; omega
  · have := p11.1; exfalso; omega
  · have := p12.1; exfalso; omega
  · have := p13.1; exfalso; omega
  · have := p14.1; exfalso; omega
  · have := p15.1; exfalso; omega
  · have := p16.1; exfalso; omega
  · have := p17.1; exfalso; omega
  · have := p18.1; exfalso; omega
  · have := p19.1; exfalso; omega
  · have := p20.1; exfalso; omega
  · have := p21.1; exfalso; omega
  · have := p22.1; exfalso; omega
  · have := p23.1; exfalso; omega
  · have := p24.1; exfalso; omega
  · have := p25.1; exfalso; omega
  · have := p26.1; exfalso; omega
  · have := p27.1; exfalso; omega
  · have := p28.1; exfalso; omega
  · have := p29.1; exfalso; omega
theorem wnx_1 {rt op i : Int} (W : WN nn f ω c w rt op i r) (o : op = 1) : PS1 f 0 2 r := by
  rcases W with p0 | p1 | p2 | p3 | p4 | p5 | p6 | p7 | p8 | p9 | p10 | p11 | p12 | p13 | p14 | p15 | p16 | p17 | p18 | p19 | p20 | p21 | p22 | p23 | p24 | p25 | p26 | p27 | p28 | p29
  · have := p0.1; exfalso; omega
  · exact p1.2
  · have := p2.1; exfalso; omega
  · have := p3.1; exfalso; omega
  · have := p4.1; exfalso; omega
  · have := p5.1; exfalso; omega
  · have := p6.1; exfalso; omega
  · have := p7.1; exfalso; omega
  · have := p8.1; exfalso; omega
  · have := p9.1; exfalso; omega
  · have := p10.1; exfalso; omega
  · have := p11.1; exfalso; omega
  · have := p12.1; exfalso; omega
  · have := p13.1; exfalso; omega
  · have := p14.1; exfalso; omega
  · have := p15.1; exfalso; omega
  · have := p16.1; exfalso; omega
  · have := p17.1; exfalso; omega
  · have := p18.1; exfalso; omega
  · have := p19.1; exfalso; omega
  · have := p20.1; exfalso; omega
  · have := p21.1; exfalso; omega
  · have := p22.1; exfalso; omega
  · have := p23.1; exfalso; omega
  · have := p24.1; exfalso; omega
  · have := p25.1; exfalso; omega
  · have := p26.1; exfalso; omega
  · have := p27.1; exfalso; omega
  · have := p28.1; exfalso; omega
  · have := p29.1; exfalso; omega
theorem wnx_2 {rt op i : Int} (W : WN nn f ω c w rt op i r) (o : ((2 ≤ op ∧ op ≤ 8) ∨ op = 16 ∨ op = 18)) : PS1 f 0 1 r := by
  rcases W with p0 | p1 | p2 | p3 | p4 | p5 | p6 | p7 | p8 | p9 | p10 | p11 | p12 | p13 | p14 | p15 | p16 | p17 | p18 | p19 | p20 | p21 | p22 | p23 | p24 | p25 | p26 | p27 | p28 | p29
  · have := p0.1; exfalso; omega
  · have := p1.1; exfalso; omega
  · exact p2.2
  · have := p3.1; exfalso; omega
  · have := p4.1; exfalso; omega
  · have := p5.1; exfalso; omega
  · have := p6.1; exfalso; omega
  · have := p7.1; exfalso; omega
  · have := p8.1; exfalso; omega
  · have := p9.1; exfalso; omega
  · have := p10.1; exfalso; omega
  · have := p11.1; exfalso; omega
  · have := p12.1; exfalso; omega
  · have := p13.1; exfalso; omega
  · have := p14.1; exfalso; omega
  · have := p15.1; exfalso; omega
  · have := p16.1; exfalso; omega
  · have := p17.1; exfalso; omega
  · have := p18.1; exfalso; omega
  · have := p19.1; exfalso; omega
  · have := p20.1; exfalso; omega
  · have := p21.1; exfalso; omega
  · have := p22.1; exfalso; omega
  · have := p23.1; exfalso; omega
  · have := p24.1; exfalso; omega
  · have := p25.1; exfalso; omega
  · have := p26.1; exfalso; omega
  · have := p27.1; exfalso; omega
  · have := p28.1; exfalso; omega
  · have := p29.1; exfalso; omega
theorem wnx_3 {rt op i : Int} (W : WN nn f ω c w rt op i r) (o : op = 21) : (i < f 160 129 ∧ f 243 i.toNat = 1) ∧ PS1 f 0 1 r := by
  rcases W with p0 | p1 | p2 | p3 | p4 | p5 | p6 | p7 | p8 | p9 | p10 | p11 | p12 | p13 | p14 | p15 | p16 | p17 | p18 | p19 | p20 | p21 | p22 | p23 | p24 | p25 | p26 | p27 | p28 | p29
  · have := p0.1; exfalso; omega
  · have := p1.1; exfalso; omega
  · have := p2.1; exfalso; omega
  · exact p3.2
  · have := p4.1; exfalso; omega
  · have := p5.1; exfalso; omega
  · have := p6.1; exfalso; omega
  · have := p7.1; exfalso; omega
  · have := p8.1; exfalso; omega
  · have := p9.1; exfalso; omega
  · have := p10.1; exfalso; omega
  · have := p11.1; exfalso; omega
  · have := p12.1; exfalso; omega
  · have := p13.1; exfalso; omega
  · have := p14.1; exfalso; omega
  · have := p15.1; exfalso; omega
  · have := p16.1; exfalso; omega
  · have := p17.1; exfalso; omega
  · have := p18.1; exfalso; omega
  · have := p19.1; exfalso; omega
  · have := p20.1; exfalso; omega
  · have := p21.1; exfalso; omega
  · have := p22.1; exfalso; omega
  · have := p23.1; exfalso; omega
  · have := p24.1; exfalso; omega
  · have := p25.1; exfalso; omega
  · have := p26.1; exfalso; omega
  · have := p27.1; exfalso; omega
  · have := p28.1; exfalso; omega
  · have := p29.1; exfalso; omega
theorem wnx_4 {rt op i : Int} (W : WN nn f ω c w rt op i r) (o : op = 25) : (i < f 160 129 ∧ 2 ≤ f 243 i.toNat) ∧ PS1 f 0 (f 243 i.toNat) r := by
  rcases W with p0 | p1 | p2 | p3 | p4 | p5 | p6 | p7 | p8 | p9 | p10 | p11 | p12 | p13 | p14 | p15 | p16 | p17 | p18 | p19 | p20 | p21 | p22 | p23 | p24 | p25 | p26 | p27 | p28 | p29
  · have := p0.1; exfalso; omega
  · have := p1.1; exfalso; omega
  · have := p2.1; exfalso; omega
  · have := p3.1; exfalso; omega
  · exact p4.2
  · have := p5.1; exfalso; omega
  · have := p6.1; exfalso; omega
  · have := p7.1; exfalso; omega
  · have := p8.1; exfalso; omega
  · have := p9.1; exfalso; omega
  · have := p10.1; exfalso; omega
  · have := p11.1; exfalso; omega
  · have := p12.1; exfalso; omega
  · have := p13.1; exfalso; omega
  · have := p14.1; exfalso; omega
  · have := p15.1; exfalso; omega
  · have := p16.1; exfalso; omega
  · have := p17.1; exfalso; omega
  · have := p18.1; exfalso; omega
  · have := p19.1; exfalso; omega
  · have := p20.1; exfalso; omega
  · have := p21.1; exfalso; omega
  · have := p22.1; exfalso; omega
  · have := p23.1; exfalso; omega
  · have := p24.1; exfalso; omega
  · have := p25.1; exfalso; omega
  · have := p26.1; exfalso; omega
  · have := p27.1; exfalso; omega
  · have := p28.1; exfalso; omega
  · have := p29.1; exfalso; omega
theorem wnx_5 {rt op i : Int} (W : WN nn f ω c w rt op i r) (o : (op = 54 ∨ op = 58)) : (((op = 54 ∧ tp f 0 = 1) ∨ (op = 58 ∧ 2 ≤ tp f 0)) ∧ STO f i r) := by
  rcases W with p0 | p1 | p2 | p3 | p4 | p5 | p6 | p7 | p8 | p9 | p10 | p11 | p12 | p13 | p14 | p15 | p16 | p17 | p18 | p19 | p20 | p21 | p22 | p23 | p24 | p25 | p26 | p27 | p28 | p29
  · have := p0.1; exfalso; omega
  · have := p1.1; exfalso; omega
  · have := p2.1; exfalso; omega
  · have := p3.1; exfalso; omega
  · have := p4.1; exfalso; omega
  · exact p5
  · have := p6.1; exfalso; omega
  · have := p7.1; exfalso; omega
  · have := p8.1; exfalso; omega
  · have := p9.1; exfalso; omega
  · have := p10.1; exfalso; omega
  · have := p11.1; exfalso; omega
  · have := p12.1; exfalso; omega
  · have := p13.1; exfalso; omega
  · have := p14.1; exfalso; omega
  · have := p15.1; exfalso; omega
  · have := p16.1; exfalso; omega
  · have := p17.1; exfalso; omega
  · have := p18.1; exfalso; omega
  · have := p19.1; exfalso; omega
  · have := p20.1; exfalso; omega
  · have := p21.1; exfalso; omega
  · have := p22.1; exfalso; omega
  · have := p23.1; exfalso; omega
  · have := p24.1; exfalso; omega
  · have := p25.1; exfalso; omega
  · have := p26.1; exfalso; omega
  · have := p27.1; exfalso; omega
  · have := p28.1; exfalso; omega
  · have := p29.1; exfalso; omega
theorem wnx_6 {rt op i : Int} (W : WN nn f ω c w rt op i r) (o : op = 46) : tp f 0 = 1 ∧ (tp f 1 = 3 ∨ tp f 1 = 2) ∧ PS1 f 2 1 r := by
  rcases W with p0 | p1 | p2 | p3 | p4 | p5 | p6 | p7 | p8 | p9 | p10 | p11 | p12 | p13 | p14 | p15 | p16 | p17 | p18 | p19 | p20 | p21 | p22 | p23 | p24 | p25 | p26 | p27 | p28 | p29
  · have := p0.1; exfalso; omega
  · have := p1.1; exfalso; omega
  · have := p2.1; exfalso; omega
  · have := p3.1; exfalso; omega
  · have := p4.1; exfalso; omega
  · have := p5.1; exfalso; omega
  · exact p6.2
  · have := p7.1; exfalso; omega
  · have := p8.1; exfalso; omega
  · have := p9.1; exfalso; omega
  · have := p10.1; exfalso; omega
  · have := p11.1; exfalso; omega
  · have := p12.1; exfalso; omega
  · have := p13.1; exfalso; omega
  · have := p14.1; exfalso; omega
  · have := p15.1; exfalso; omega
  · have := p16.1; exfalso; omega
  · have := p17.1; exfalso; omega
  · have := p18.1; exfalso; omega
  · have := p19.1; exfalso; omega
  · have := p20.1; exfalso; omega
  · have := p21.1; exfalso; omega
  · have := p22.1; exfalso; omega
  · have := p23.1; exfalso; omega
  · have := p24.1; exfalso; omega
  · have := p25.1; exfalso; omega
  · have := p26.1; exfalso; omega
  · have := p27.1; exfalso; omega
  · have := p28.1; exfalso; omega
  · have := p29.1; exfalso; omega
theorem wnx_7 {rt op i : Int} (W : WN nn f ω c w rt op i r) (o : op = 50) : tp f 0 = 1 ∧ ((tp f 1 = 2 ∧ PS1 f 2 2 r) ∨ ((4 ≤ tp f 1 ∧ tp f 1 % 2 = 1) ∧ PS1 f 2 (tp f 1 - 1) r)) := by
  rcases W with p0 | p1 | p2 | p3 | p4 | p5 | p6 | p7 | p8 | p9 | p10 | p11 | p12 | p13 | p14 | p15 | p16 | p17 | p18 | p19 | p20 | p21 | p22 | p23 | p24 | p25 | p26 | p27 | p28 | p29
  · have := p0.1; exfalso; omega
  · have := p1.1; exfalso; omega
  · have := p2.1; exfalso; omega
  · have := p3.1; exfalso; omega
  · have := p4.1; exfalso; omega
  · have := p5.1; exfalso; omega
  · have := p6.1; exfalso; omega
  · exact p7.2
  · have := p8.1; exfalso; omega
  · have := p9.1; exfalso; omega
  · have := p10.1; exfalso; omega
  · have := p11.1; exfalso; omega
  · have := p12.1; exfalso; omega
  · have := p13.1; exfalso; omega
  · have := p14.1; exfalso; omega
  · have := p15.1; exfalso; omega
  · have := p16.1; exfalso; omega
  · have := p17.1; exfalso; omega
  · have := p18.1; exfalso; omega
  · have := p19.1; exfalso; omega
  · have := p20.1; exfalso; omega
  · have := p21.1; exfalso; omega
  · have := p22.1; exfalso; omega
  · have := p23.1; exfalso; omega
  · have := p24.1; exfalso; omega
  · have := p25.1; exfalso; omega
  · have := p26.1; exfalso; omega
  · have := p27.1; exfalso; omega
  · have := p28.1; exfalso; omega
  · have := p29.1; exfalso; omega
theorem wnx_8 {rt op i : Int} (W : WN nn f ω c w rt op i r) (o : op = 79) : tp f 0 = 1 ∧ tp f 1 = 1 ∧ (tp f 2 = 3 ∨ tp f 2 = 2) ∧ POP f 3 r := by
  rcases W with p0 | p1 | p2 | p3 | p4 | p5 | p6 | p7 | p8 | p9 | p10 | p11 | p12 | p13 | p14 | p15 | p16 | p17 | p18 | p19 | p20 | p21 | p22 | p23 | p24 | p25 | p26 | p27 | p28 | p29
  · have := p0.1; exfalso; omega
  · have := p1.1; exfalso; omega
  · have := p2.1; exfalso; omega
  · have := p3.1; exfalso; omega
  · have := p4.1; exfalso; omega
  · have := p5.1; exfalso; omega
  · have := p6.1; exfalso; omega
  · have := p7.1; exfalso; omega
  · exact p8.2
  · have := p9.1; exfalso; omega
  · have := p10.1; exfalso; omega
  · have := p11.1; exfalso; omega
  · have := p12.1; exfalso; omega
  · have := p13.1; exfalso; omega
  · have := p14.1; exfalso; omega
  · have := p15.1; exfalso; omega
  · have := p16.1; exfalso; omega
  · have := p17.1; exfalso; omega
  · have := p18.1; exfalso; omega
  · have := p19.1; exfalso; omega
  · have := p20.1; exfalso; omega
  · have := p21.1; exfalso; omega
  · have := p22.1; exfalso; omega
  · have := p23.1; exfalso; omega
  · have := p24.1; exfalso; omega
  · have := p25.1; exfalso; omega
  · have := p26.1; exfalso; omega
  · have := p27.1; exfalso; omega
  · have := p28.1; exfalso; omega
  · have := p29.1; exfalso; omega
theorem wnx_9 {rt op i : Int} (W : WN nn f ω c w rt op i r) (o : op = 83) : 2 ≤ tp f 0 ∧ tp f 1 = 1 ∧ (tp f 2 = 2 ∨ (4 ≤ tp f 2 ∧ tp f 2 % 2 = 1)) ∧ POP f 3 r := by
  rcases W with p0 | p1 | p2 | p3 | p4 | p5 | p6 | p7 | p8 | p9 | p10 | p11 | p12 | p13 | p14 | p15 | p16 | p17 | p18 | p19 | p20 | p21 | p22 | p23 | p24 | p25 | p26 | p27 | p28 | p29
  · have := p0.1; exfalso; omega
  · have := p1.1; exfalso; omega
  · have := p2.1; exfalso; omega
  · have := p3.1; exfalso; omega
  · have := p4.1; exfalso; omega
  · have := p5.1; exfalso; omega
  · have := p6.1; exfalso; omega
  · have := p7.1; exfalso; omega
  · have := p8.1; exfalso; omega
  · exact p9.2
  · have := p10.1; exfalso; omega
  · have := p11.1; exfalso; omega
  · have := p12.1; exfalso; omega
  · have := p13.1; exfalso; omega
  · have := p14.1; exfalso; omega
  · have := p15.1; exfalso; omega
  · have := p16.1; exfalso; omega
  · have := p17.1; exfalso; omega
  · have := p18.1; exfalso; omega
  · have := p19.1; exfalso; omega
  · have := p20.1; exfalso; omega
  · have := p21.1; exfalso; omega
  · have := p22.1; exfalso; omega
  · have := p23.1; exfalso; omega
  · have := p24.1; exfalso; omega
  · have := p25.1; exfalso; omega
  · have := p26.1; exfalso; omega
  · have := p27.1; exfalso; omega
  · have := p28.1; exfalso; omega
  · have := p29.1; exfalso; omega
theorem wnx_10 {rt op i : Int} (W : WN nn f ω c w rt op i r) (o : op = 87) : POP f 1 r := by
  rcases W with p0 | p1 | p2 | p3 | p4 | p5 | p6 | p7 | p8 | p9 | p10 | p11 | p12 | p13 | p14 | p15 | p16 | p17 | p18 | p19 | p20 | p21 | p22 | p23 | p24 | p25 | p26 | p27 | p28 | p29
  · have := p0.1; exfalso; omega
  · have := p1.1; exfalso; omega
  · have := p2.1; exfalso; omega
  · have := p3.1; exfalso; omega
  · have := p4.1; exfalso; omega
  · have := p5.1; exfalso; omega
  · have := p6.1; exfalso; omega
  · have := p7.1; exfalso; omega
  · have := p8.1; exfalso; omega
  · have := p9.1; exfalso; omega
  · exact p10.2
  · have := p11.1; exfalso; omega
  · have := p12.1; exfalso; omega
  · have := p13.1; exfalso; omega
  · have := p14.1; exfalso; omega
  · have := p15.1; exfalso; omega
  · have := p16.1; exfalso; omega
  · have := p17.1; exfalso; omega
  · have := p18.1; exfalso; omega
  · have := p19.1; exfalso; omega
  · have := p20.1; exfalso; omega
  · have := p21.1; exfalso; omega
  · have := p22.1; exfalso; omega
  · have := p23.1; exfalso; omega
  · have := p24.1; exfalso; omega
  · have := p25.1; exfalso; omega
  · have := p26.1; exfalso; omega
  · have := p27.1; exfalso; omega
  · have := p28.1; exfalso; omega
  · have := p29.1; exfalso; omega
theorem wnx_11 {rt op i : Int} (W : WN nn f ω c w rt op i r) (o : op = 89) : 1 ≤ f 160 131 ∧ PS1 f 0 (tp f 0) r := by
  rcases W with p0 | p1 | p2 | p3 | p4 | p5 | p6 | p7 | p8 | p9 | p10 | p11 | p12 | p13 | p14 | p15 | p16 | p17 | p18 | p19 | p20 | p21 | p22 | p23 | p24 | p25 | p26 | p27 | p28 | p29
  · have := p0.1; exfalso; omega
  · have := p1.1; exfalso; omega
  · have := p2.1; exfalso; omega
  · have := p3.1; exfalso; omega
  · have := p4.1; exfalso; omega
  · have := p5.1; exfalso; omega
  · have := p6.1; exfalso; omega
  · have := p7.1; exfalso; omega
  · have := p8.1; exfalso; omega
  · have := p9.1; exfalso; omega
  · have := p10.1; exfalso; omega
  · exact p11.2
  · have := p12.1; exfalso; omega
  · have := p13.1; exfalso; omega
  · have := p14.1; exfalso; omega
  · have := p15.1; exfalso; omega
  · have := p16.1; exfalso; omega
  · have := p17.1; exfalso; omega
  · have := p18.1; exfalso; omega
  · have := p19.1; exfalso; omega
  · have := p20.1; exfalso; omega
  · have := p21.1; exfalso; omega
  · have := p22.1; exfalso; omega
  · have := p23.1; exfalso; omega
  · have := p24.1; exfalso; omega
  · have := p25.1; exfalso; omega
  · have := p26.1; exfalso; omega
  · have := p27.1; exfalso; omega
  · have := p28.1; exfalso; omega
  · have := p29.1; exfalso; omega
theorem wnx_12 {rt op i : Int} (W : WN nn f ω c w rt op i r) (o : (op = 96 ∨ op = 100 ∨ op = 104 ∨ op = 108 ∨ op = 112 ∨ op = 120 ∨ op = 122 ∨ op = 124 ∨ op = 126 ∨ op = 128 ∨ op = 130)) : tp f 0 = 1 ∧ tp f 1 = 1 ∧ PS1 f 2 1 r := by
  rcases W with p0 | p1 | p2 | p3 | p4 | p5 | p6 | p7 | p8 | p9 | p10 | p11 | p12 | p13 | p14 | p15 | p16 | p17 | p18 | p19 | p20 | p21 | p22 | p23 | p24 | p25 | p26 | p27 | p28 | p29
  · have := p0.1; exfalso; omega
  · have := p1.1; exfalso; omega
  · have := p2.1; exfalso; omega
  · have := p3.1; exfalso; omega
  · have := p4.1; exfalso; omega
  · have := p5.1; exfalso; omega
  · have := p6.1; exfalso; omega
  · have := p7.1; exfalso; omega
  · have := p8.1; exfalso; omega
  · have := p9.1; exfalso; omega
  · have := p10.1; exfalso; omega
  · have := p11.1; exfalso; omega
  · exact p12.2
  · have := p13.1; exfalso; omega
  · have := p14.1; exfalso; omega
  · have := p15.1; exfalso; omega
  · have := p16.1; exfalso; omega
  · have := p17.1; exfalso; omega
  · have := p18.1; exfalso; omega
  · have := p19.1; exfalso; omega
  · have := p20.1; exfalso; omega
  · have := p21.1; exfalso; omega
  · have := p22.1; exfalso; omega
  · have := p23.1; exfalso; omega
  · have := p24.1; exfalso; omega
  · have := p25.1; exfalso; omega
  · have := p26.1; exfalso; omega
  · have := p27.1; exfalso; omega
  · have := p28.1; exfalso; omega
  · have := p29.1; exfalso; omega
theorem wnx_13 {rt op i : Int} (W : WN nn f ω c w rt op i r) (o : op = 116) : tp f 0 = 1 ∧ PS1 f 1 1 r := by
  rcases W with p0 | p1 | p2 | p3 | p4 | p5 | p6 | p7 | p8 | p9 | p10 | p11 | p12 | p13 | p14 | p15 | p16 | p17 | p18 | p19 | p20 | p21 | p22 | p23 | p24 | p25 | p26 | p27 | p28 | p29
  · have := p0.1; exfalso; omega
  · have := p1.1; exfalso; omega
  · have := p2.1; exfalso; omega
  · have := p3.1; exfalso; omega
  · have := p4.1; exfalso; omega
  · have := p5.1; exfalso; omega
  · have := p6.1; exfalso; omega
  · have := p7.1; exfalso; omega
  · have := p8.1; exfalso; omega
  · have := p9.1; exfalso; omega
  · have := p10.1; exfalso; omega
  · have := p11.1; exfalso; omega
  · have := p12.1; exfalso; omega
  · exact p13.2
  · have := p14.1; exfalso; omega
  · have := p15.1; exfalso; omega
  · have := p16.1; exfalso; omega
  · have := p17.1; exfalso; omega
  · have := p18.1; exfalso; omega
  · have := p19.1; exfalso; omega
  · have := p20.1; exfalso; omega
  · have := p21.1; exfalso; omega
  · have := p22.1; exfalso; omega
  · have := p23.1; exfalso; omega
  · have := p24.1; exfalso; omega
  · have := p25.1; exfalso; omega
  · have := p26.1; exfalso; omega
  · have := p27.1; exfalso; omega
  · have := p28.1; exfalso; omega
  · have := p29.1; exfalso; omega
theorem wnx_14 {rt op i : Int} (W : WN nn f ω c w rt op i r) (o : (op = 153 ∨ op = 154 ∨ op = 186)) : tp f 0 = 1 ∧ POP f 1 r := by
  rcases W with p0 | p1 | p2 | p3 | p4 | p5 | p6 | p7 | p8 | p9 | p10 | p11 | p12 | p13 | p14 | p15 | p16 | p17 | p18 | p19 | p20 | p21 | p22 | p23 | p24 | p25 | p26 | p27 | p28 | p29
  · have := p0.1; exfalso; omega
  · have := p1.1; exfalso; omega
  · have := p2.1; exfalso; omega
  · have := p3.1; exfalso; omega
  · have := p4.1; exfalso; omega
  · have := p5.1; exfalso; omega
  · have := p6.1; exfalso; omega
  · have := p7.1; exfalso; omega
  · have := p8.1; exfalso; omega
  · have := p9.1; exfalso; omega
  · have := p10.1; exfalso; omega
  · have := p11.1; exfalso; omega
  · have := p12.1; exfalso; omega
  · have := p13.1; exfalso; omega
  · exact p14.2
  · have := p15.1; exfalso; omega
  · have := p16.1; exfalso; omega
  · have := p17.1; exfalso; omega
  · have := p18.1; exfalso; omega
  · have := p19.1; exfalso; omega
  · have := p20.1; exfalso; omega
  · have := p21.1; exfalso; omega
  · have := p22.1; exfalso; omega
  · have := p23.1; exfalso; omega
  · have := p24.1; exfalso; omega
  · have := p25.1; exfalso; omega
  · have := p26.1; exfalso; omega
  · have := p27.1; exfalso; omega
  · have := p28.1; exfalso; omega
  · have := p29.1; exfalso; omega
theorem wnx_15 {rt op i : Int} (W : WN nn f ω c w rt op i r) (o : (159 ≤ op ∧ op ≤ 164)) : tp f 0 = 1 ∧ tp f 1 = 1 ∧ POP f 2 r := by
  rcases W with p0 | p1 | p2 | p3 | p4 | p5 | p6 | p7 | p8 | p9 | p10 | p11 | p12 | p13 | p14 | p15 | p16 | p17 | p18 | p19 | p20 | p21 | p22 | p23 | p24 | p25 | p26 | p27 | p28 | p29
  · have := p0.1; exfalso; omega
  · have := p1.1; exfalso; omega
  · have := p2.1; exfalso; omega
  · have := p3.1; exfalso; omega
  · have := p4.1; exfalso; omega
  · have := p5.1; exfalso; omega
  · have := p6.1; exfalso; omega
  · have := p7.1; exfalso; omega
  · have := p8.1; exfalso; omega
  · have := p9.1; exfalso; omega
  · have := p10.1; exfalso; omega
  · have := p11.1; exfalso; omega
  · have := p12.1; exfalso; omega
  · have := p13.1; exfalso; omega
  · have := p14.1; exfalso; omega
  · exact p15.2
  · have := p16.1; exfalso; omega
  · have := p17.1; exfalso; omega
  · have := p18.1; exfalso; omega
  · have := p19.1; exfalso; omega
  · have := p20.1; exfalso; omega
  · have := p21.1; exfalso; omega
  · have := p22.1; exfalso; omega
  · have := p23.1; exfalso; omega
  · have := p24.1; exfalso; omega
  · have := p25.1; exfalso; omega
  · have := p26.1; exfalso; omega
  · have := p27.1; exfalso; omega
  · have := p28.1; exfalso; omega
  · have := p29.1; exfalso; omega
theorem wnx_16 {rt op i : Int} (W : WN nn f ω c w rt op i r) (o : (op = 165 ∨ op = 166)) : 2 ≤ tp f 0 ∧ 2 ≤ tp f 1 ∧ POP f 2 r := by
  rcases W with p0 | p1 | p2 | p3 | p4 | p5 | p6 | p7 | p8 | p9 | p10 | p11 | p12 | p13 | p14 | p15 | p16 | p17 | p18 | p19 | p20 | p21 | p22 | p23 | p24 | p25 | p26 | p27 | p28 | p29
  · have := p0.1; exfalso; omega
  · have := p1.1; exfalso; omega
  · have := p2.1; exfalso; omega
  · have := p3.1; exfalso; omega
  · have := p4.1; exfalso; omega
  · have := p5.1; exfalso; omega
  · have := p6.1; exfalso; omega
  · have := p7.1; exfalso; omega
  · have := p8.1; exfalso; omega
  · have := p9.1; exfalso; omega
  · have := p10.1; exfalso; omega
  · have := p11.1; exfalso; omega
  · have := p12.1; exfalso; omega
  · have := p13.1; exfalso; omega
  · have := p14.1; exfalso; omega
  · have := p15.1; exfalso; omega
  · exact p16.2
  · have := p17.1; exfalso; omega
  · have := p18.1; exfalso; omega
  · have := p19.1; exfalso; omega
  · have := p20.1; exfalso; omega
  · have := p21.1; exfalso; omega
  · have := p22.1; exfalso; omega
  · have := p23.1; exfalso; omega
  · have := p24.1; exfalso; omega
  · have := p25.1; exfalso; omega
  · have := p26.1; exfalso; omega
  · have := p27.1; exfalso; omega
  · have := p28.1; exfalso; omega
  · have := p29.1; exfalso; omega
theorem wnx_17 {rt op i : Int} (W : WN nn f ω c w rt op i r) (o : op = 172) : rt = 1 ∧ tp f 0 = 1 ∧ POP f 1 r := by
  rcases W with p0 | p1 | p2 | p3 | p4 | p5 | p6 | p7 | p8 | p9 | p10 | p11 | p12 | p13 | p14 | p15 | p16 | p17 | p18 | p19 | p20 | p21 | p22 | p23 | p24 | p25 | p26 | p27 | p28 | p29
  · have := p0.1; exfalso; omega
  · have := p1.1; exfalso; omega
  · have := p2.1; exfalso; omega
  · have := p3.1; exfalso; omega
  · have := p4.1; exfalso; omega
  · have := p5.1; exfalso; omega
  · have := p6.1; exfalso; omega
  · have := p7.1; exfalso; omega
  · have := p8.1; exfalso; omega
  · have := p9.1; exfalso; omega
  · have := p10.1; exfalso; omega
  · have := p11.1; exfalso; omega
  · have := p12.1; exfalso; omega
  · have := p13.1; exfalso; omega
  · have := p14.1; exfalso; omega
  · have := p15.1; exfalso; omega
  · have := p16.1; exfalso; omega
  · exact p17.2
  · have := p18.1; exfalso; omega
  · have := p19.1; exfalso; omega
  · have := p20.1; exfalso; omega
  · have := p21.1; exfalso; omega
  · have := p22.1; exfalso; omega
  · have := p23.1; exfalso; omega
  · have := p24.1; exfalso; omega
  · have := p25.1; exfalso; omega
  · have := p26.1; exfalso; omega
  · have := p27.1; exfalso; omega
  · have := p28.1; exfalso; omega
  · have := p29.1; exfalso; omega
theorem wnx_18 {rt op i : Int} (W : WN nn f ω c w rt op i r) (o : op = 176) : 2 ≤ rt ∧ GOt nn f (tp f 0) rt ∧ POP f 1 r := by
  rcases W with p0 | p1 | p2 | p3 | p4 | p5 | p6 | p7 | p8 | p9 | p10 | p11 | p12 | p13 | p14 | p15 | p16 | p17 | p18 | p19 | p20 | p21 | p22 | p23 | p24 | p25 | p26 | p27 | p28 | p29
  · have := p0.1; exfalso; omega
  · have := p1.1; exfalso; omega
  · have := p2.1; exfalso; omega
  · have := p3.1; exfalso; omega
  · have := p4.1; exfalso; omega
  · have := p5.1; exfalso; omega
  · have := p6.1; exfalso; omega
  · have := p7.1; exfalso; omega
  · have := p8.1; exfalso; omega
  · have := p9.1; exfalso; omega
  · have := p10.1; exfalso; omega
  · have := p11.1; exfalso; omega
  · have := p12.1; exfalso; omega
  · have := p13.1; exfalso; omega
  · have := p14.1; exfalso; omega
  · have := p15.1; exfalso; omega
  · have := p16.1; exfalso; omega
  · have := p17.1; exfalso; omega
  · exact p18.2
  · have := p19.1; exfalso; omega
  · have := p20.1; exfalso; omega
  · have := p21.1; exfalso; omega
  · have := p22.1; exfalso; omega
  · have := p23.1; exfalso; omega
  · have := p24.1; exfalso; omega
  · have := p25.1; exfalso; omega
  · have := p26.1; exfalso; omega
  · have := p27.1; exfalso; omega
  · have := p28.1; exfalso; omega
  · have := p29.1; exfalso; omega
theorem wnx_19 {rt op i : Int} (W : WN nn f ω c w rt op i r) (o : op = 177) : rt = 0 ∧ POP f 0 r := by
  rcases W with p0 | p1 | p2 | p3 | p4 | p5 | p6 | p7 | p8 | p9 | p10 | p11 | p12 | p13 | p14 | p15 | p16 | p17 | p18 | p19 | p20 | p21 | p22 | p23 | p24 | p25 | p26 | p27 | p28 | p29
  · have := p0.1; exfalso; omega
  · have := p1.1; exfalso; omega
  · have := p2.1; exfalso; omega
  · have := p3.1; exfalso; omega
  · have := p4.1; exfalso; omega
  · have := p5.1; exfalso; omega
  · have := p6.1; exfalso; omega
  · have := p7.1; exfalso; omega
  · have := p8.1; exfalso; omega
  · have := p9.1; exfalso; omega
  · have := p10.1; exfalso; omega
  · have := p11.1; exfalso; omega
  · have := p12.1; exfalso; omega
  · have := p13.1; exfalso; omega
  · have := p14.1; exfalso; omega
  · have := p15.1; exfalso; omega
  · have := p16.1; exfalso; omega
  · have := p17.1; exfalso; omega
  · have := p18.1; exfalso; omega
  · exact p19.2
  · have := p20.1; exfalso; omega
  · have := p21.1; exfalso; omega
  · have := p22.1; exfalso; omega
  · have := p23.1; exfalso; omega
  · have := p24.1; exfalso; omega
  · have := p25.1; exfalso; omega
  · have := p26.1; exfalso; omega
  · have := p27.1; exfalso; omega
  · have := p28.1; exfalso; omega
  · have := p29.1; exfalso; omega
theorem wnx_20 {rt op i : Int} (W : WN nn f ω c w rt op i r) (o : op = 180) : ∃ u b j s : Int, MRF nn f ω c w i 0 u b j ∧ TKU nn f c w (w 238 (pl w c i + 1 + 2).toNat) s ∧ GOt nn f (tp f 0) (4 + 2 * u) ∧ PS1 f 1 s r := by
  rcases W with p0 | p1 | p2 | p3 | p4 | p5 | p6 | p7 | p8 | p9 | p10 | p11 | p12 | p13 | p14 | p15 | p16 | p17 | p18 | p19 | p20 | p21 | p22 | p23 | p24 | p25 | p26 | p27 | p28 | p29
  · have := p0.1; exfalso; omega
  · have := p1.1; exfalso; omega
  · have := p2.1; exfalso; omega
  · have := p3.1; exfalso; omega
  · have := p4.1; exfalso; omega
  · have := p5.1; exfalso; omega
  · have := p6.1; exfalso; omega
  · have := p7.1; exfalso; omega
  · have := p8.1; exfalso; omega
  · have := p9.1; exfalso; omega
  · have := p10.1; exfalso; omega
  · have := p11.1; exfalso; omega
  · have := p12.1; exfalso; omega
  · have := p13.1; exfalso; omega
  · have := p14.1; exfalso; omega
  · have := p15.1; exfalso; omega
  · have := p16.1; exfalso; omega
  · have := p17.1; exfalso; omega
  · have := p18.1; exfalso; omega
  · have := p19.1; exfalso; omega
  · exact p20.2
  · have := p21.1; exfalso; omega
  · have := p22.1; exfalso; omega
  · have := p23.1; exfalso; omega
  · have := p24.1; exfalso; omega
  · have := p25.1; exfalso; omega
  · have := p26.1; exfalso; omega
  · have := p27.1; exfalso; omega
  · have := p28.1; exfalso; omega
  · have := p29.1; exfalso; omega
theorem wnx_21 {rt op i : Int} (W : WN nn f ω c w rt op i r) (o : op = 181) : ∃ u b j s : Int, MRF nn f ω c w i 0 u b j ∧ TKU nn f c w (w 238 (pl w c i + 1 + 2).toNat) s ∧ GOt nn f (tp f 0) s ∧ GOt nn f (tp f 1) (4 + 2 * u) ∧ POP f 2 r := by
  rcases W with p0 | p1 | p2 | p3 | p4 | p5 | p6 | p7 | p8 | p9 | p10 | p11 | p12 | p13 | p14 | p15 | p16 | p17 | p18 | p19 | p20 | p21 | p22 | p23 | p24 | p25 | p26 | p27 | p28 | p29
  · have := p0.1; exfalso; omega
  · have := p1.1; exfalso; omega
  · have := p2.1; exfalso; omega
  · have := p3.1; exfalso; omega
  · have := p4.1; exfalso; omega
  · have := p5.1; exfalso; omega
  · have := p6.1; exfalso; omega
  · have := p7.1; exfalso; omega
  · have := p8.1; exfalso; omega
  · have := p9.1; exfalso; omega
  · have := p10.1; exfalso; omega
  · have := p11.1; exfalso; omega
  · have := p12.1; exfalso; omega
  · have := p13.1; exfalso; omega
  · have := p14.1; exfalso; omega
  · have := p15.1; exfalso; omega
  · have := p16.1; exfalso; omega
  · have := p17.1; exfalso; omega
  · have := p18.1; exfalso; omega
  · have := p19.1; exfalso; omega
  · have := p20.1; exfalso; omega
  · exact p21.2
  · have := p22.1; exfalso; omega
  · have := p23.1; exfalso; omega
  · have := p24.1; exfalso; omega
  · have := p25.1; exfalso; omega
  · have := p26.1; exfalso; omega
  · have := p27.1; exfalso; omega
  · have := p28.1; exfalso; omega
  · have := p29.1; exfalso; omega
theorem wnx_22 {rt op i : Int} (W : WN nn f ω c w rt op i r) (o : (op = 182 ∨ op = 184)) : CLL nn f ω c w op i r := by
  rcases W with p0 | p1 | p2 | p3 | p4 | p5 | p6 | p7 | p8 | p9 | p10 | p11 | p12 | p13 | p14 | p15 | p16 | p17 | p18 | p19 | p20 | p21 | p22 | p23 | p24 | p25 | p26 | p27 | p28 | p29
  · have := p0.1; exfalso; omega
  · have := p1.1; exfalso; omega
  · have := p2.1; exfalso; omega
  · have := p3.1; exfalso; omega
  · have := p4.1; exfalso; omega
  · have := p5.1; exfalso; omega
  · have := p6.1; exfalso; omega
  · have := p7.1; exfalso; omega
  · have := p8.1; exfalso; omega
  · have := p9.1; exfalso; omega
  · have := p10.1; exfalso; omega
  · have := p11.1; exfalso; omega
  · have := p12.1; exfalso; omega
  · have := p13.1; exfalso; omega
  · have := p14.1; exfalso; omega
  · have := p15.1; exfalso; omega
  · have := p16.1; exfalso; omega
  · have := p17.1; exfalso; omega
  · have := p18.1; exfalso; omega
  · have := p19.1; exfalso; omega
  · have := p20.1; exfalso; omega
  · have := p21.1; exfalso; omega
  · exact p22.2
  · have := p23.1; exfalso; omega
  · have := p24.1; exfalso; omega
  · have := p25.1; exfalso; omega
  · have := p26.1; exfalso; omega
  · have := p27.1; exfalso; omega
  · have := p28.1; exfalso; omega
  · have := p29.1; exfalso; omega
theorem wnx_23 {rt op i : Int} (W : WN nn f ω c w rt op i r) (o : op = 187) : ∃ u : Int, ((0 ≤ u ∧ u < 8 + f 160 98) ∧ CL w c i ∧ CTv nn f c w i (4 + 2 * u)) ∧ PS1 f 0 (4 + 2 * u) r := by
  rcases W with p0 | p1 | p2 | p3 | p4 | p5 | p6 | p7 | p8 | p9 | p10 | p11 | p12 | p13 | p14 | p15 | p16 | p17 | p18 | p19 | p20 | p21 | p22 | p23 | p24 | p25 | p26 | p27 | p28 | p29
  · have := p0.1; exfalso; omega
  · have := p1.1; exfalso; omega
  · have := p2.1; exfalso; omega
  · have := p3.1; exfalso; omega
  · have := p4.1; exfalso; omega
  · have := p5.1; exfalso; omega
  · have := p6.1; exfalso; omega
  · have := p7.1; exfalso; omega
  · have := p8.1; exfalso; omega
  · have := p9.1; exfalso; omega
  · have := p10.1; exfalso; omega
  · have := p11.1; exfalso; omega
  · have := p12.1; exfalso; omega
  · have := p13.1; exfalso; omega
  · have := p14.1; exfalso; omega
  · have := p15.1; exfalso; omega
  · have := p16.1; exfalso; omega
  · have := p17.1; exfalso; omega
  · have := p18.1; exfalso; omega
  · have := p19.1; exfalso; omega
  · have := p20.1; exfalso; omega
  · have := p21.1; exfalso; omega
  · have := p22.1; exfalso; omega
  · exact p23.2
  · have := p24.1; exfalso; omega
  · have := p25.1; exfalso; omega
  · have := p26.1; exfalso; omega
  · have := p27.1; exfalso; omega
  · have := p28.1; exfalso; omega
  · have := p29.1; exfalso; omega
theorem wnx_24 {rt op i : Int} (W : WN nn f ω c w rt op i r) (o : op = 188) : tp f 0 = 1 ∧ PS1 f 1 3 r := by
  rcases W with p0 | p1 | p2 | p3 | p4 | p5 | p6 | p7 | p8 | p9 | p10 | p11 | p12 | p13 | p14 | p15 | p16 | p17 | p18 | p19 | p20 | p21 | p22 | p23 | p24 | p25 | p26 | p27 | p28 | p29
  · have := p0.1; exfalso; omega
  · have := p1.1; exfalso; omega
  · have := p2.1; exfalso; omega
  · have := p3.1; exfalso; omega
  · have := p4.1; exfalso; omega
  · have := p5.1; exfalso; omega
  · have := p6.1; exfalso; omega
  · have := p7.1; exfalso; omega
  · have := p8.1; exfalso; omega
  · have := p9.1; exfalso; omega
  · have := p10.1; exfalso; omega
  · have := p11.1; exfalso; omega
  · have := p12.1; exfalso; omega
  · have := p13.1; exfalso; omega
  · have := p14.1; exfalso; omega
  · have := p15.1; exfalso; omega
  · have := p16.1; exfalso; omega
  · have := p17.1; exfalso; omega
  · have := p18.1; exfalso; omega
  · have := p19.1; exfalso; omega
  · have := p20.1; exfalso; omega
  · have := p21.1; exfalso; omega
  · have := p22.1; exfalso; omega
  · have := p23.1; exfalso; omega
  · exact p24.2
  · have := p25.1; exfalso; omega
  · have := p26.1; exfalso; omega
  · have := p27.1; exfalso; omega
  · have := p28.1; exfalso; omega
  · have := p29.1; exfalso; omega
theorem wnx_25 {rt op i : Int} (W : WN nn f ω c w rt op i r) (o : op = 189) : tp f 0 = 1 ∧ ∃ u : Int, ((0 ≤ u ∧ u < 8 + f 160 98) ∧ CL w c i ∧ CTv nn f c w i (4 + 2 * u)) ∧ PS1 f 1 (5 + 2 * u) r := by
  rcases W with p0 | p1 | p2 | p3 | p4 | p5 | p6 | p7 | p8 | p9 | p10 | p11 | p12 | p13 | p14 | p15 | p16 | p17 | p18 | p19 | p20 | p21 | p22 | p23 | p24 | p25 | p26 | p27 | p28 | p29
  · have := p0.1; exfalso; omega
  · have := p1.1; exfalso; omega
  · have := p2.1; exfalso; omega
  · have := p3.1; exfalso; omega
  · have := p4.1; exfalso; omega
  · have := p5.1; exfalso; omega
  · have := p6.1; exfalso; omega
  · have := p7.1; exfalso; omega
  · have := p8.1; exfalso; omega
  · have := p9.1; exfalso; omega
  · have := p10.1; exfalso; omega
  · have := p11.1; exfalso; omega
  · have := p12.1; exfalso; omega
  · have := p13.1; exfalso; omega
  · have := p14.1; exfalso; omega
  · have := p15.1; exfalso; omega
  · have := p16.1; exfalso; omega
  · have := p17.1; exfalso; omega
  · have := p18.1; exfalso; omega
  · have := p19.1; exfalso; omega
  · have := p20.1; exfalso; omega
  · have := p21.1; exfalso; omega
  · have := p22.1; exfalso; omega
  · have := p23.1; exfalso; omega
  · have := p24.1; exfalso; omega
  · exact p25.2
  · have := p26.1; exfalso; omega
  · have := p27.1; exfalso; omega
  · have := p28.1; exfalso; omega
  · have := p29.1; exfalso; omega
theorem wnx_26 {rt op i : Int} (W : WN nn f ω c w rt op i r) (o : op = 190) : (tp f 0 = 2 ∨ tp f 0 = 3 ∨ (4 ≤ tp f 0 ∧ tp f 0 % 2 = 1)) ∧ PS1 f 1 1 r := by
  rcases W with p0 | p1 | p2 | p3 | p4 | p5 | p6 | p7 | p8 | p9 | p10 | p11 | p12 | p13 | p14 | p15 | p16 | p17 | p18 | p19 | p20 | p21 | p22 | p23 | p24 | p25 | p26 | p27 | p28 | p29
  · have := p0.1; exfalso; omega
  · have := p1.1; exfalso; omega
  · have := p2.1; exfalso; omega
  · have := p3.1; exfalso; omega
  · have := p4.1; exfalso; omega
  · have := p5.1; exfalso; omega
  · have := p6.1; exfalso; omega
  · have := p7.1; exfalso; omega
  · have := p8.1; exfalso; omega
  · have := p9.1; exfalso; omega
  · have := p10.1; exfalso; omega
  · have := p11.1; exfalso; omega
  · have := p12.1; exfalso; omega
  · have := p13.1; exfalso; omega
  · have := p14.1; exfalso; omega
  · have := p15.1; exfalso; omega
  · have := p16.1; exfalso; omega
  · have := p17.1; exfalso; omega
  · have := p18.1; exfalso; omega
  · have := p19.1; exfalso; omega
  · have := p20.1; exfalso; omega
  · have := p21.1; exfalso; omega
  · have := p22.1; exfalso; omega
  · have := p23.1; exfalso; omega
  · have := p24.1; exfalso; omega
  · have := p25.1; exfalso; omega
  · exact p26.2
  · have := p27.1; exfalso; omega
  · have := p28.1; exfalso; omega
  · have := p29.1; exfalso; omega
theorem wnx_27 {rt op i : Int} (W : WN nn f ω c w rt op i r) (o : op = 191) : GOt nn f (tp f 0) 6 ∧ POP f 1 r := by
  rcases W with p0 | p1 | p2 | p3 | p4 | p5 | p6 | p7 | p8 | p9 | p10 | p11 | p12 | p13 | p14 | p15 | p16 | p17 | p18 | p19 | p20 | p21 | p22 | p23 | p24 | p25 | p26 | p27 | p28 | p29
  · have := p0.1; exfalso; omega
  · have := p1.1; exfalso; omega
  · have := p2.1; exfalso; omega
  · have := p3.1; exfalso; omega
  · have := p4.1; exfalso; omega
  · have := p5.1; exfalso; omega
  · have := p6.1; exfalso; omega
  · have := p7.1; exfalso; omega
  · have := p8.1; exfalso; omega
  · have := p9.1; exfalso; omega
  · have := p10.1; exfalso; omega
  · have := p11.1; exfalso; omega
  · have := p12.1; exfalso; omega
  · have := p13.1; exfalso; omega
  · have := p14.1; exfalso; omega
  · have := p15.1; exfalso; omega
  · have := p16.1; exfalso; omega
  · have := p17.1; exfalso; omega
  · have := p18.1; exfalso; omega
  · have := p19.1; exfalso; omega
  · have := p20.1; exfalso; omega
  · have := p21.1; exfalso; omega
  · have := p22.1; exfalso; omega
  · have := p23.1; exfalso; omega
  · have := p24.1; exfalso; omega
  · have := p25.1; exfalso; omega
  · have := p26.1; exfalso; omega
  · exact p27.2
  · have := p28.1; exfalso; omega
  · have := p29.1; exfalso; omega
theorem wnx_28 {rt op i : Int} (W : WN nn f ω c w rt op i r) (o : op = 192) : 2 ≤ tp f 0 ∧ ∃ u : Int, ((0 ≤ u ∧ u < 8 + f 160 98) ∧ CL w c i ∧ CTv nn f c w i (4 + 2 * u)) ∧ PS1 f 1 (4 + 2 * u) r := by
  rcases W with p0 | p1 | p2 | p3 | p4 | p5 | p6 | p7 | p8 | p9 | p10 | p11 | p12 | p13 | p14 | p15 | p16 | p17 | p18 | p19 | p20 | p21 | p22 | p23 | p24 | p25 | p26 | p27 | p28 | p29
  · have := p0.1; exfalso; omega
  · have := p1.1; exfalso; omega
  · have := p2.1; exfalso; omega
  · have := p3.1; exfalso; omega
  · have := p4.1; exfalso; omega
  · have := p5.1; exfalso; omega
  · have := p6.1; exfalso; omega
  · have := p7.1; exfalso; omega
  · have := p8.1; exfalso; omega
  · have := p9.1; exfalso; omega
  · have := p10.1; exfalso; omega
  · have := p11.1; exfalso; omega
  · have := p12.1; exfalso; omega
  · have := p13.1; exfalso; omega
  · have := p14.1; exfalso; omega
  · have := p15.1; exfalso; omega
  · have := p16.1; exfalso; omega
  · have := p17.1; exfalso; omega
  · have := p18.1; exfalso; omega
  · have := p19.1; exfalso; omega
  · have := p20.1; exfalso; omega
  · have := p21.1; exfalso; omega
  · have := p22.1; exfalso; omega
  · have := p23.1; exfalso; omega
  · have := p24.1; exfalso; omega
  · have := p25.1; exfalso; omega
  · have := p26.1; exfalso; omega
  · have := p27.1; exfalso; omega
  · exact p28.2
  · have := p29.1; exfalso; omega
theorem wnx_29 {rt op i : Int} (W : WN nn f ω c w rt op i r) (o : op = 193) : 2 ≤ tp f 0 ∧ ∃ u : Int, ((0 ≤ u ∧ u < 8 + f 160 98) ∧ CL w c i ∧ CTv nn f c w i (4 + 2 * u)) ∧ PS1 f 1 1 r := by
  rcases W with p0 | p1 | p2 | p3 | p4 | p5 | p6 | p7 | p8 | p9 | p10 | p11 | p12 | p13 | p14 | p15 | p16 | p17 | p18 | p19 | p20 | p21 | p22 | p23 | p24 | p25 | p26 | p27 | p28 | p29
  · have := p0.1; exfalso; omega
  · have := p1.1; exfalso; omega
  · have := p2.1; exfalso; omega
  · have := p3.1; exfalso; omega
  · have := p4.1; exfalso; omega
  · have := p5.1; exfalso; omega
  · have := p6.1; exfalso; omega
  · have := p7.1; exfalso; omega
  · have := p8.1; exfalso; omega
  · have := p9.1; exfalso; omega
  · have := p10.1; exfalso; omega
  · have := p11.1; exfalso; omega
  · have := p12.1; exfalso; omega
  · have := p13.1; exfalso; omega
  · have := p14.1; exfalso; omega
  · have := p15.1; exfalso; omega
  · have := p16.1; exfalso; omega
  · have := p17.1; exfalso; omega
  · have := p18.1; exfalso; omega
  · have := p19.1; exfalso; omega
  · have := p20.1; exfalso; omega
  · have := p21.1; exfalso; omega
  · have := p22.1; exfalso; omega
  · have := p23.1; exfalso; omega
  · have := p24.1; exfalso; omega
  · have := p25.1; exfalso; omega
  · have := p26.1; exfalso; omega
  · have := p27.1; exfalso; omega
  · have := p28.1; exfalso; omega
  · exact p29.2
end
end
section
section
variable {nn : Nat} {h g r z w v x f R p : ms_M} {c d e k : Int} {ω : Int → ms_M}
/-- the run stands at instruction a of frame i -/
def RTP (nn : Nat) (g : ms_M) (ω : Int → ms_M) (R : ms_M) (i c k : Int) (N : Nat) (T U : Nat → ms_M) (t : Int) (a : Nat) (p : ms_M) : Prop := (RX nn ω g R ∧ HPO nn g ω R ∧ (R 160 149 = i + 1 ∧ 0 ≤ i ∧ i < 60)) ∧ ATF nn g ω R i c k N T U t a p ∧ CFS nn g R i (p 160 129) (T a) ∧ STK nn g ω R i.toNat t
variable {N : Nat} {T U : Nat → ms_M} {i t : Int} {a : Nat}
theorem RTP.rx (X : RTP nn g ω R i c k N T U t a p) : RX nn ω g R := X.1.1
theorem RTP.vs (X : RTP nn g ω R i c k N T U t a p) : VS_ R := X.1.1.2.2.1
theorem RTP.hp (X : RTP nn g ω R i c k N T U t a p) : HPO nn g ω R := X.1.2.1
theorem RTP.hd (X : RTP nn g ω R i c k N T U t a p) : R 160 149 = i + 1 := X.1.2.2.1
theorem RTP.hi (X : RTP nn g ω R i c k N T U t a p) : 0 ≤ i ∧ i < 60 := X.1.2.2.2
theorem RTP.cf (X : RTP nn g ω R i c k N T U t a p) : CFS nn g R i (p 160 129) (T a) := X.2.2.1
theorem RTP.st (X : RTP nn g ω R i c k N T U t a p) : STK nn g ω R i.toNat t := X.2.2.2
theorem RTP.ck (X : RTP nn g ω R i c k N T U t a p) : (0 ≤ c ∧ c < g 160 98) ∧ 0 ≤ k ∧ k < g 234 c.toNat := X.2.1.2.1
theorem RTP.e1 (X : RTP nn g ω R i c k N T U t a p) : R 251 i.toNat = 8 + c ∧ R 252 i.toNat = k := X.2.1.2.2.1
theorem RTP.an (X : RTP nn g ω R i c k N T U t a p) : a < N := X.2.1.2.2.2.1
theorem RTP.e3 (X : RTP nn g ω R i c k N T U t a p) : R 253 i.toNat = bp (ω c) (p 160 134) a := X.2.1.2.2.2.2
theorem RTP.nd (X : RTP nn g ω R i c k N T U t a p) : NODE nn p ω c k (ω c) t N T U a := by
  obtain ⟨⟨m, L, q, bd⟩, _, _, aN, _⟩ := X.2.1
  exact bd.2.2.2.2.2.2.2 a aN
theorem RTP.ag (X : RTP nn g ω R i c k N T U t a p) : AGd g p := by
  obtain ⟨⟨m, L, q, bd⟩, _⟩ := X.2.1
  exact bd.1.1
theorem RTP.mc (X : RTP nn g ω R i c k N T U t a p) : MC p c k (ω c) := by
  obtain ⟨⟨m, L, q, bd⟩, _⟩ := X.2.1
  exact bd.1.2.2
theorem RTP.ins (X : RTP nn g ω R i c k N T U t a p) : (0 ≤ bp (ω c) (p 160 134) a ∧ bp (ω c) (p 160 134) a < p 160 135) ∧ 1 ≤ WD (ω c 238 (p 160 134 + bp (ω c) (p 160 134) a).toNat) ∧ bp (ω c) (p 160 134) (a + 1) ≤ p 160 135 := by
  obtain ⟨⟨m, L, q, bd⟩, _, _, aN, _⟩ := X.2.1
  exact bd.2.1.2 a aN
/-- how much stands on the stack -/
theorem RTP.s (X : RTP nn g ω R i c k N T U t a p) : R 254 i.toNat = T a 160 131 ∧ T a 160 131 ≤ p 160 130 ∧ (p 160 130 ≤ 30 ∧ p 160 129 ≤ 30) ∧ T a 160 130 = p 160 130 ∧ 0 ≤ T a 160 131 := by
  have nd := X.nd.1
  have e := nd.1 160 130 (by decide) (by decide)
  have s1 := nd.2.2.1
  have m := mc_30 X.mc
  have c2 := X.cf.2.1
  have hi := X.hi
  have v := (gA_254 X.vs i.toNat (by omega)).1
  exact ⟨c2, by omega, by omega, e, by omega⟩
/-- the value y below the top -/
theorem RTP.tp (X : RTP nn g ω R i c k N T U t a p) {y : Int} (y0 : 0 ≤ y) (y1 : y < R 254 i.toNat) : CVt nn g R (tp (T a) y) (R 255 (60 * i + 30 + (R 254 i.toNat - 1 - y)).toNat) := by
  have s := X.s
  have := X.cf.2.2 (T a 160 131 - 1 - y) (by omega) (by omega)
  rw [s.1]
  exact this
theorem ip_op (o : Int) : -2147483648 ≤ o ∧ o ≤ 2147483647 → True := fun _ => trivial
/-- the step's end: the place moves on -/
theorem end_x (hn : 1000000 ≤ nn) (X : RTP nn g ω R i c k N T U t a p) (V : VS_ r) (F : RFr R r) (H : HPO nn g ω r) (hx : HX R r) (L : LWK R i r) (hd : r 160 149 = i + 1) (e1 : r 251 i.toNat = R 251 i.toNat ∧ r 252 i.toNat = R 252 i.toNat ∧ r 253 i.toNat = R 253 i.toNat) (C : CFS nn g r i (p 160 129) (U a)) (nt : ¬ (ω c 238 (p 160 134 + bp (ω c) (p 160 134) a).toNat = 167 ∨ ω c 238 (p 160 134 + bp (ω c) (p 160 134) a).toNat = 172 ∨ ω c 238 (p 160 134 + bp (ω c) (p 160 134) a).toNat = 176 ∨ ω c 238 (p 160 134 + bp (ω c) (p 160 134) a).toNat = 177 ∨ ω c 238 (p 160 134 + bp (ω c) (p 160 134) a).toNat = 191)) {b : Int} (hb : b = WD (ω c 238 (p 160 134 + bp (ω c) (p 160 134) a).toNat)) : Ok_ (mx_sv (qf_X13_on nn b r) fun u2 => some u2) (SQ nn g ω R) := by
  have hi := X.hi
  have wr := wd_rg (a := ω c 238 (p 160 134 + bp (ω c) (p 160 134) a).toNat)
  have ins := X.ins
  have cd := mc_code X.mc
  have q3 := X.e3
  refine ok_sv (g_on V hd hi (by omega) (by rw [e1.2.2, q3]; omega)) ?_; intro u P
  obtain ⟨Vu, Nu, eu⟩ := P
  have Fu : RFr R u := rfr_tr F (fun x j y1 y2 => Nu x j (by omega))
  refine ok_ret ⟨Vu, Fu, fun _ => ?_⟩
  have K : HSM r u := ⟨fun x y1 y2 => funext fun j => Nu x j (by omega), Nu 160 141 (by omega), Nu 160 142 (by omega)⟩
  have Lu : LWK R i u := lwk_tr L ⟨fun y y1 y2 => ⟨Nu 251 _ (by omega), Nu 252 _ (by omega), Nu 253 _ (by omega), Nu 254 _ (by omega)⟩, fun y y1 y2 => Nu 255 _ (by omega)⟩
  obtain ⟨⟨m, L', q, bd⟩, ck, e1', aN, e3⟩ := X.2.1
  refine run_adv hn (rx_k Fu Vu X.rx) bd ck ⟨by rw [Nu 251 _ (by omega), e1.1]; exact e1'.1, by rw [Nu 252 _ (by omega), e1.2.1]; exact e1'.2⟩ aN nt ?_ ⟨fun y y1 y2 => ?_, ?_, fun y y1 y2 => ?_⟩ (hpo_s K H) (by rw [Nu 160 149 (by omega)]; exact hd) hi (stk_k _ _ (by rw [show ((i.toNat : Nat) : Int) = i by omega]; exact Lu) (hx_tr hx (hsm_x K)) X.st)
  · rw [eu, e1.2.2, q3, hb]; rfl
  · rw [Nu 255 _ (by omega)]; exact cv_x (hsm_x K) (C.1 y y1 y2)
  · rw [Nu 254 _ (by omega)]; exact C.2.1
  · rw [Nu 255 _ (by omega)]; exact cv_x (hsm_x K) (C.2.2 y y1 y2)
theorem rpo_k {n : Int} (hi : 0 ≤ i) (P : RPO R i n r) : (RFr R r ∧ HSM R r ∧ LWK R i r) ∧ r 160 149 = R 160 149 ∧ (r 251 i.toNat = R 251 i.toNat ∧ r 252 i.toNat = R 252 i.toNat ∧ r 253 i.toNat = R 253 i.toNat) := by
  have N := P.1
  exact ⟨⟨fun x j y1 y2 => N x j (by omega), ⟨fun x y1 y2 => funext fun j => N x j (by omega), N 160 141 (by omega), N 160 142 (by omega)⟩, fun y y1 y2 => ⟨N 251 _ (by omega), N 252 _ (by omega), N 253 _ (by omega), N 254 _ (by omega)⟩, fun y y1 y2 => N 255 _ (by omega)⟩, N 160 149 (by omega), N 251 _ (by omega), N 252 _ (by omega), N 253 _ (by omega)⟩
theorem rps_k {n y : Int} (hi : 0 ≤ i) (P : RPS R i n y r) : (RFr R r ∧ HSM R r ∧ LWK R i r) ∧ r 160 149 = R 160 149 ∧ (r 251 i.toNat = R 251 i.toNat ∧ r 252 i.toNat = R 252 i.toNat ∧ r 253 i.toNat = R 253 i.toNat) := by
  have N := P.1
  have b := P.2.2.1
  exact ⟨⟨fun x j y1 y2 => N x j (by omega) (by omega), ⟨fun x y1 y2 => funext fun j => N x j (by omega) (by omega), N 160 141 (by omega) (by omega), N 160 142 (by omega) (by omega)⟩, fun y y1 y2 => ⟨N 251 _ (by omega) (by omega), N 252 _ (by omega) (by omega), N 253 _ (by omega) (by omega), N 254 _ (by omega) (by omega)⟩, fun y y1 y2 => N 255 _ (by omega) (by omega)⟩, N 160 149 (by omega) (by omega), N 251 _ (by omega) (by omega), N 252 _ (by omega) (by omega), N 253 _ (by omega) (by omega)⟩
theorem cfs_po {n l : Int} {s s2 : ms_M} (hl : l ≤ 30) (hi : 0 ≤ i) (C : CFS nn g R i l s) (PO : POP s n s2) (P : RPO R i n r) : CFS nn g r i l s2 := by
  have hx := hsm_x (rpo_k hi P).1.2.1
  have N := P.1
  have e := PO.2
  have c2 := C.2.1
  have p2 := P.2.1
  refine ⟨fun y y1 y2 => ?_, by omega, fun y y1 y2 => ?_⟩
  · rw [N 255 _ (by omega), PO.1 243 _ (by omega) (by decide)]
    exact cv_x hx (C.1 y y1 y2)
  · rw [N 255 _ (by omega), PO.1 244 _ (by omega) (by decide)]
    exact cv_x hx (C.2.2 y y1 (by omega))
theorem cfs_ps {n l y ty : Int} {s s2 : ms_M} (hl : l ≤ 30) (hi : 0 ≤ i) (C : CFS nn g R i l s) (PS : PS1 s n ty s2) (P : RPS R i n y r) (cv : CVt nn g R ty y) : CFS nn g r i l s2 := by
  have hx := hsm_x (rps_k hi P).1.2.1
  obtain ⟨N, p2, p3, p4⟩ := P
  obtain ⟨q1, q2, q3, q4, q5⟩ := PS
  have c2 := C.2.1
  refine ⟨fun u u1 u2 => ?_, by omega, fun u u1 u2 => ?_⟩
  · rw [N 255 _ (by omega) (by omega), q1 243 _ (by omega) (by decide) (by omega)]
    exact cv_x hx (C.1 u u1 u2)
  · by_cases u0 : u = s 160 131 - n
    · rw [u0, q5, ← c2, p4]
      exact cv_x hx cv
    · rw [N 255 _ (by omega) (by omega), q1 244 _ (by omega) (by decide) (by omega)]
      exact cv_x hx (C.2.2 u u1 (by omega))
/-- n values are taken, y of type ty has come -/
theorem end_ps (hn : 1000000 ≤ nn) (X : RTP nn g ω R i c k N T U t a p) {n y ty : Int} (PS : PS1 (T a) n ty (U a)) (V : VS_ r) (P : RPS R i n y r) (cv : CVt nn g R ty y) (nt : ¬ (ω c 238 (p 160 134 + bp (ω c) (p 160 134) a).toNat = 167 ∨ ω c 238 (p 160 134 + bp (ω c) (p 160 134) a).toNat = 172 ∨ ω c 238 (p 160 134 + bp (ω c) (p 160 134) a).toNat = 176 ∨ ω c 238 (p 160 134 + bp (ω c) (p 160 134) a).toNat = 177 ∨ ω c 238 (p 160 134 + bp (ω c) (p 160 134) a).toNat = 191)) {b : Int} (hb : b = WD (ω c 238 (p 160 134 + bp (ω c) (p 160 134) a).toNat)) : Ok_ (mx_sv (qf_X13_on nn b r) fun u2 => some u2) (SQ nn g ω R) := by
  obtain ⟨⟨k1, k2, k3⟩, k4, k5⟩ := rps_k X.hi.1 P
  exact end_x hn X V k1 (hpo_s k2 X.hp) (hsm_x k2) k3 (by rw [k4]; exact X.hd) k5 (cfs_ps X.s.2.2.1.2 X.hi.1 X.cf PS P cv) nt hb
theorem end_po (hn : 1000000 ≤ nn) (X : RTP nn g ω R i c k N T U t a p) {n : Int} (PO : POP (T a) n (U a)) (V : VS_ r) (P : RPO R i n r) (nt : ¬ (ω c 238 (p 160 134 + bp (ω c) (p 160 134) a).toNat = 167 ∨ ω c 238 (p 160 134 + bp (ω c) (p 160 134) a).toNat = 172 ∨ ω c 238 (p 160 134 + bp (ω c) (p 160 134) a).toNat = 176 ∨ ω c 238 (p 160 134 + bp (ω c) (p 160 134) a).toNat = 177 ∨ ω c 238 (p 160 134 + bp (ω c) (p 160 134) a).toNat = 191)) {b : Int} (hb : b = WD (ω c 238 (p 160 134 + bp (ω c) (p 160 134) a).toNat)) : Ok_ (mx_sv (qf_X13_on nn b r) fun u2 => some u2) (SQ nn g ω R) := by
  obtain ⟨⟨k1, k2, k3⟩, k4, k5⟩ := rpo_k X.hi.1 P
  exact end_x hn X V k1 (hpo_s k2 X.hp) (hsm_x k2) k3 (by rw [k4]; exact X.hd) k5 (cfs_po X.s.2.2.1.2 X.hi.1 X.cf PO P) nt hb
/-- a value is pushed, and on -/
theorem end_give (hn : 1000000 ≤ nn) (X : RTP nn g ω R i c k N T U t a p) {n y ty : Int} (PS : PS1 (T a) n ty (U a)) (V : VS_ r) (P : RPO R i n r) (hy : -2147483648 ≤ y ∧ y ≤ 2147483647) (cv : CVt nn g R ty y) (nt : ¬ (ω c 238 (p 160 134 + bp (ω c) (p 160 134) a).toNat = 167 ∨ ω c 238 (p 160 134 + bp (ω c) (p 160 134) a).toNat = 172 ∨ ω c 238 (p 160 134 + bp (ω c) (p 160 134) a).toNat = 176 ∨ ω c 238 (p 160 134 + bp (ω c) (p 160 134) a).toNat = 177 ∨ ω c 238 (p 160 134 + bp (ω c) (p 160 134) a).toNat = 191)) {b : Int} (hb : b = WD (ω c 238 (p 160 134 + bp (ω c) (p 160 134) a).toNat)) : Ok_ (mx_sv (qf_X13_give nn y r) fun u => mx_sv (qf_X13_on nn b u) fun u2 => some u2) (SQ nn g ω R) := by
  have s := X.s
  have q4 := PS.2.2.2.1
  refine ok_sv (g_give V P X.hd X.hi (by omega) hy) ?_; intro u Q
  exact end_ps hn X PS Q.1 Q.2 cv nt hb
theorem int_rg {y : Int32} : -2147483648 ≤ y.toInt ∧ y.toInt ≤ 2147483647 := ⟨Int32.le_toInt y, by have := Int32.toInt_lt y; omega⟩
theorem rk_reckon {o y u : Int} (hy : ¬ (u = 0 ∧ (o = 108 ∨ o = 112))) : Ok_ (qf_X13_reckon nn o y u R) (fun v => -2147483648 ≤ v ∧ v ≤ 2147483647) := by
  unfold qf_X13_reckon qj_X13_reckon_188
  refine ok_if (fun _ => ?_) (fun _ => ?_)
  · refine ok_xl ?_; intro v e; rw [e]; exact ok_ret int_rg
  refine ok_if (fun _ => ?_) (fun _ => ?_)
  · refine ok_xl ?_; intro v e; rw [e]; exact ok_ret int_rg
  refine ok_if (fun _ => ?_) (fun _ => ?_)
  · refine ok_xl ?_; intro v e; rw [e]; exact ok_ret int_rg
  refine ok_if (fun o1 => ?_) (fun _ => ?_)
  · rw [if_neg (fun z => hy ⟨z, .inl o1⟩)]
    refine ok_xl ?_; intro v e; rw [e]; exact ok_ret int_rg
  refine ok_if (fun o1 => ?_) (fun _ => ?_)
  · rw [if_neg (fun z => hy ⟨z, .inr o1⟩)]
    refine ok_xl ?_; intro v e; rw [e]; exact ok_ret int_rg
  refine ok_if (fun _ => ?_) (fun _ => ?_)
  · refine ok_xl ?_; intro v e; rw [e]; exact ok_ret int_rg
  refine ok_if (fun _ => ?_) (fun _ => ?_)
  · refine ok_xl ?_; intro v e; rw [e]; exact ok_ret int_rg
  refine ok_if (fun _ => ?_) (fun _ => ?_)
  · refine ok_xl ?_; intro v e; rw [e]; exact ok_ret int_rg
  refine ok_if (fun _ => ?_) (fun _ => ?_)
  · refine ok_xl ?_; intro v e; rw [e]; exact ok_ret int_rg
  refine ok_if (fun _ => ?_) (fun _ => ?_)
  · refine ok_xl ?_; intro v e; rw [e]; exact ok_ret int_rg
  · refine ok_xl ?_; intro v e; rw [e]; exact ok_ret int_rg
/-- a fault of the machine at this instruction, after n values were taken -/
theorem end_fails (hn : 1000000 ≤ nn) (X : RTP nn g ω R i c k N T U t a p) {n o : Int} (V : VS_ r) (P : RPO R i n r) (ho : 0 ≤ o ∧ o < 8) : Ok_ (mx_sv (qf_X13_fails nn o r) fun u => some u) (SQ nn g ω R) := by
  obtain ⟨⟨k1, k2, k3⟩, k4, k5⟩ := rpo_k X.hi.1 P
  have hi := X.hi
  have hd := X.hd
  have d : r 160 149 = i + 1 := by rw [k4]; exact X.hd
  have hx := hsm_x k2
  have s := X.s
  obtain ⟨a1, a2, a3, a4, a5⟩ := X.2.1
  have f : FRL nn g ω r (r 160 149 - 1) t := by
    rw [d, show i + 1 - 1 = i by omega]
    refine ⟨c, k, N, T, U, a, p, ⟨a1, a2, ⟨by rw [k5.1]; exact a3.1, by rw [k5.2.1]; exact a3.2⟩, a4, by rw [k5.2.2]; exact a5⟩, fun y y1 y2 => ?_⟩
    rw [P.1 255 _ (by omega)]
    exact cv_x hx (X.cf.1 y y1 y2)
  refine ok_sv (g_fails hn (rx_k k1 V X.rx) (hpo_s k2 X.hp) ho (by omega) f ?_) ?_
  · rw [d, show i + 1 - 1 = i by omega]
    exact stk_k _ _ (by rw [show ((i.toNat : Nat) : Int) = i by omega]; exact k3) hx X.st
  · intro u Q
    exact ok_ret ⟨Q.1, rfr_tr k1 Q.2.1, Q.2.2⟩
end
end
section
section
variable {nn : Nat} {h g r z w v x f R p : ms_M} {c d e k : Int} {ω : Int → ms_M} {N : Nat} {T U : Nat → ms_M} {i t : Int} {a : Nat}
theorem upn_sub : ∀ (n m : Nat) (k a b : Int), UPn nn g n k a → UPn nn g (n + m) k b → UPn nn g m a b := by
  intro n
  induction n with
  | zero => intro m k a b p q; have p : k = a := p; rw [← p]; rw [Nat.zero_add] at q; exact q
  | succ n ih =>
    intro m k a b p q
    obtain ⟨_, y, p2, p3⟩ := p
    rw [show n + 1 + m = (n + m) + 1 by omega] at q
    obtain ⟨_, y2, q2, q3⟩ := q
    rw [← Option.some.inj (p2.symm.trans q2)] at q3
    exact ih m _ _ _ p3 q3
/-- two fields of one object lie apart -/
theorem flv_inj (hn : 1000000 ≤ nn) (X : VRC nn ω g) {a b j l s y u q n : Int} (hk : 0 ≤ k ∧ k < 8 + g 160 98) (F : FO nn g k n) (ua : UNd nn g k a) (ub : UNd nn g k b) (ha : 8 ≤ a ∧ a < 8 + g 160 98) (hb : 8 ≤ b ∧ b < 8 + g 160 98) (hj : 0 ≤ j ∧ j < g 232 (a - 8).toNat) (hl : 0 ≤ l ∧ l < g 232 (b - 8).toNat) (sa : qf_X13_superOf nn a g = some y) (sb : qf_X13_superOf nn b g = some q) (Fa : FO nn g y s) (Fb : FO nn g q u) (e : s + j = u + l) : a = b ∧ j = l := by
  have X0 := X
  obtain ⟨⟨V, S⟩, O, C, _⟩ := X
  obtain ⟨_, n1, u1⟩ := ua
  obtain ⟨_, n2, u2⟩ := ub
  have W : ∀ (a b j l s u y q : Int) (m : Nat), UPn nn g m a b → (8 ≤ a ∧ a < 8 + g 160 98) → (8 ≤ b ∧ b < 8 + g 160 98) → 0 ≤ j → (0 ≤ l ∧ l < g 232 (b - 8).toNat) → qf_X13_superOf nn a g = some y → qf_X13_superOf nn b g = some q → FO nn g y s → FO nn g q u → s + j = u + l → m = 0 := fun a b j l s u y q m up ha hb j0 hl sa sb Fa Fb e => by
    by_cases m0 : m = 0
    · exact m0
    exfalso
    obtain ⟨fa, fa1, _⟩ := fo_ex hn V S O 17 a (by omega) (chn_a C (by omega))
    obtain ⟨tb, t1, t2, t3⟩ := fo_up hn V S O m a b fa (by omega) up ⟨17, fa1⟩
    obtain ⟨y', u', p1, p2, p3⟩ := t3 m0
    rw [← Option.some.inj (sa.symm.trans p1)] at p2
    have e1 := fo_det Fa p2
    have e2 := fo_det Fb (fo_su t1 (by omega) sb)
    have fe : fm g b = g 232 (b - 8).toNat := by unfold fm; rw [if_pos hb.1]
    omega
  by_cases le : n1 ≤ n2
  · obtain ⟨m, em⟩ : ∃ m : Nat, n2 = n1 + m := ⟨n2 - n1, by omega⟩
    rw [em] at u2
    have up := upn_sub n1 m k a b u1 u2
    have m0 := W a b j l s u y q m up ha hb hj.1 hl sa sb Fa Fb e
    rw [m0] at up
    have ab : a = b := up
    rw [ab] at sa
    rw [Option.some.inj (sa.symm.trans sb)] at Fa
    have := fo_det Fa Fb
    exact ⟨ab, by omega⟩
  · obtain ⟨m, em⟩ : ∃ m : Nat, n1 = n2 + m := ⟨n1 - n2, by omega⟩
    rw [em] at u1
    have up := upn_sub n2 m k b a u2 u1
    have m0 := W b a l j u s q y m up hb ha hl.1 hj sb sa Fb Fa e.symm
    rw [m0] at up
    have ab : b = a := up
    rw [ab] at sb
    rw [Option.some.inj (sb.symm.trans sa)] at Fb
    have := fo_det Fa Fb
    exact ⟨ab.symm, by omega⟩
/-- one value of the heap is written -/
theorem hpo_w (hn : 1000000 ≤ nn) (X : VRC nn ω g) (H : HPO nn g ω R) {o y u : Int} (ho : 1 ≤ o ∧ o ≤ R 160 141) (hy : 0 ≤ y ∧ y < R 248 o.toNat) (Nr : ∀ x j : Nat, ¬ (x = 249 ∧ j = (R 247 o.toNat + y).toNat) → (x = 160 → j = 141 ∨ j = 142) → 246 ≤ x ∨ x = 160 → x ≤ 249 → r x j = R x j) (e : r 249 (R 247 o.toNat + y).toNat = u) (ok1 : 100 ≤ R 246 o.toNat → CVt nn g R (4 + 2 * (R 246 o.toNat - 100)) u) (ok2 : R 246 o.toNat < 99 → ∀ a j s t q : Int, UNd nn g (R 246 o.toNat) a → (8 ≤ a ∧ a < 8 + g 160 98) → (0 ≤ j ∧ j < g 232 (a - 8).toNat) → qf_X13_superOf nn a g = some q → FO nn g q s → TKU nn g (a - 8) (ω (a - 8)) (kdT g ω (a - 8) 0 j) t → s + j = y → CVt nn g R t u) : HX R r ∧ HPO nn g ω r := by
  have e141 : r 160 141 = R 160 141 := Nr 160 141 (by omega) (fun _ => .inl rfl) (.inr rfl) (by omega)
  have e142 : r 160 142 = R 160 142 := Nr 160 142 (by omega) (fun _ => .inr rfl) (.inr rfl) (by omega)
  have e6 : ∀ j : Nat, r 246 j = R 246 j := fun j => Nr 246 j (by omega) (by omega) (by omega) (by omega)
  have e7 : ∀ j : Nat, r 247 j = R 247 j := fun j => Nr 247 j (by omega) (by omega) (by omega) (by omega)
  have e8 : ∀ j : Nat, r 248 j = R 248 j := fun j => Nr 248 j (by omega) (by omega) (by omega) (by omega)
  have hx : HX R r := ⟨by omega, fun q _ _ => e6 _⟩
  have val : ∀ q l : Int, 1 ≤ q → q ≤ R 160 141 → 0 ≤ l → l < R 248 q.toNat → ¬ (q = o ∧ l = y) → r 249 (R 247 q.toNat + l).toNat = R 249 (R 247 q.toNat + l).toNat := fun q l q1 q2 l1 l2 ne => by
    have a1 := (H.1 q q1 q2).1
    have a2 := (H.1 o ho.1 ho.2).1
    refine Nr 249 _ (fun z => ?_) (by omega) (by omega) (by omega)
    have z2 := z.2
    by_cases lt : q < o
    · have := H.2 q o q1 lt ho.2; omega
    · by_cases gt : o < q
      · have := H.2 o q ho.1 gt q2; omega
      · have : q = o := by omega
        rw [this] at z2
        exact ne ⟨this, by omega⟩
  refine ⟨hx, fun q q1 q2 => ?_, fun q l q1 q2 q3 => ?_⟩
  · rw [e141] at q2
    obtain ⟨h1, h2⟩ := H.1 q q1 q2
    unfold OBJ FLV
    rw [e6, e7, e8, e142]
    refine ⟨h1, ?_⟩
    rcases h2 with ⟨p1, p2, p3, p4⟩ | p | ⟨p1, p2⟩
    · refine .inl ⟨p1, p2, p3, fun a j s t y2 z1 z2 z3 z4 z5 z6 => ?_⟩
      have rg := flv_rg hn X p2 z1 p3 z2 z3 z4 z5
      by_cases ne : q = o ∧ s + j = y
      · rw [ne.1, show R 247 o.toNat + s + j = R 247 o.toNat + y by omega, e]
        rw [ne.1] at z1 p1
        exact cv_x hx (ok2 p1 a j s t y2 z1 z2 z3 z4 z5 z6 ne.2)
      · rw [show R 247 q.toNat + s + j = R 247 q.toNat + (s + j) by omega, val q (s + j) q1 q2 (by omega) (by omega) ne, show R 247 q.toNat + (s + j) = R 247 q.toNat + s + j by omega]
        exact cv_x hx (p4 a j s t y2 z1 z2 z3 z4 z5 z6)
    · exact .inr (.inl p)
    · refine .inr (.inr ⟨p1, fun l l1 l2 => ?_⟩)
      by_cases ne : q = o ∧ l = y
      · rw [ne.1, ne.2, e]
        rw [ne.1] at p1
        exact cv_x hx (ok1 p1.1)
      · rw [val q l q1 q2 l1 l2 ne]
        exact cv_x hx (p2 l l1 l2)
  · rw [e141] at q3
    rw [e7, e8, e7]
    exact H.2 q l q1 q2 q3
/-- the end of a step that changed the heap: a value has come -/
theorem end_h (hn : 1000000 ≤ nn) (X : RTP nn g ω R i c k N T U t a p) {n y ty : Int} (PS : PS1 (T a) n ty (U a)) (V : VS_ r) (Nr : ∀ x j : Nat, ¬ (246 ≤ x ∧ x ≤ 249) → ¬ (x = 160 ∧ (j = 121 ∨ j = 141 ∨ j = 142)) → ¬ (x = 254 ∧ j = i.toNat) → ¬ (x = 255 ∧ j = (60 * i + 30 + (R 254 i.toNat - n)).toNat) → r x j = R x j) (e1 : r 254 i.toNat = R 254 i.toNat - n + 1) (e2 : r 255 (60 * i + 30 + (R 254 i.toNat - n)).toNat = y) (H : HX R r ∧ HPO nn g ω r) (cv : CVt nn g r ty y) (nt : ¬ (ω c 238 (p 160 134 + bp (ω c) (p 160 134) a).toNat = 167 ∨ ω c 238 (p 160 134 + bp (ω c) (p 160 134) a).toNat = 172 ∨ ω c 238 (p 160 134 + bp (ω c) (p 160 134) a).toNat = 176 ∨ ω c 238 (p 160 134 + bp (ω c) (p 160 134) a).toNat = 177 ∨ ω c 238 (p 160 134 + bp (ω c) (p 160 134) a).toNat = 191)) {b : Int} (hb : b = WD (ω c 238 (p 160 134 + bp (ω c) (p 160 134) a).toNat)) : Ok_ (mx_sv (qf_X13_on nn b r) fun u2 => some u2) (SQ nn g ω R) := by
  have hi := X.hi
  have s := X.s
  have q := PS.2
  have hx := H.1
  refine end_x hn X V (fun x j y1 y2 => Nr x j (by omega) (by omega) (by omega) (by omega)) H.2 hx ⟨fun y y1 y2 => ⟨Nr 251 _ (by omega) (by omega) (by omega) (by omega), Nr 252 _ (by omega) (by omega) (by omega) (by omega), Nr 253 _ (by omega) (by omega) (by omega) (by omega), Nr 254 _ (by omega) (by omega) (by omega) (by omega)⟩, fun y y1 y2 => Nr 255 _ (by omega) (by omega) (by omega) (by omega)⟩ (by rw [Nr 160 149 (by omega) (by omega) (by omega) (by omega)]; exact X.hd) ⟨Nr 251 _ (by omega) (by omega) (by omega) (by omega), Nr 252 _ (by omega) (by omega) (by omega) (by omega), Nr 253 _ (by omega) (by omega) (by omega) (by omega)⟩ ⟨fun u u1 u2 => ?_, by omega, fun u u1 u2 => ?_⟩ nt hb
  · rw [Nr 255 _ (by omega) (by omega) (by omega) (by omega), PS.1 243 _ (by omega) (by decide) (by omega)]
    exact cv_x hx (X.cf.1 u u1 u2)
  · by_cases u0 : u = T a 160 131 - n
    · rw [u0, q.2.2.2, ← s.1, e2]
      exact cv
    · rw [Nr 255 _ (by omega) (by omega) (by omega) (by omega), PS.1 244 _ (by omega) (by decide) (by omega)]
      exact cv_x hx (X.cf.2.2 u u1 (by omega))
/-- the same: no value comes -/
theorem end_hp (hn : 1000000 ≤ nn) (X : RTP nn g ω R i c k N T U t a p) {n : Int} (PO : POP (T a) n (U a)) (V : VS_ r) (Nr : ∀ x j : Nat, ¬ (246 ≤ x ∧ x ≤ 249) → ¬ (x = 160 ∧ (j = 121 ∨ j = 141 ∨ j = 142)) → ¬ (x = 254 ∧ j = i.toNat) → r x j = R x j) (e1 : r 254 i.toNat = R 254 i.toNat - n) (H : HX R r ∧ HPO nn g ω r) (nt : ¬ (ω c 238 (p 160 134 + bp (ω c) (p 160 134) a).toNat = 167 ∨ ω c 238 (p 160 134 + bp (ω c) (p 160 134) a).toNat = 172 ∨ ω c 238 (p 160 134 + bp (ω c) (p 160 134) a).toNat = 176 ∨ ω c 238 (p 160 134 + bp (ω c) (p 160 134) a).toNat = 177 ∨ ω c 238 (p 160 134 + bp (ω c) (p 160 134) a).toNat = 191)) {b : Int} (hb : b = WD (ω c 238 (p 160 134 + bp (ω c) (p 160 134) a).toNat)) : Ok_ (mx_sv (qf_X13_on nn b r) fun u2 => some u2) (SQ nn g ω R) := by
  have hi := X.hi
  have s := X.s
  have q := PO.2
  have hx := H.1
  refine end_x hn X V (fun x j y1 y2 => Nr x j (by omega) (by omega) (by omega)) H.2 hx ⟨fun y y1 y2 => ⟨Nr 251 _ (by omega) (by omega) (by omega), Nr 252 _ (by omega) (by omega) (by omega), Nr 253 _ (by omega) (by omega) (by omega), Nr 254 _ (by omega) (by omega) (by omega)⟩, fun y y1 y2 => Nr 255 _ (by omega) (by omega) (by omega)⟩ (by rw [Nr 160 149 (by omega) (by omega) (by omega)]; exact X.hd) ⟨Nr 251 _ (by omega) (by omega) (by omega), Nr 252 _ (by omega) (by omega) (by omega), Nr 253 _ (by omega) (by omega) (by omega)⟩ ⟨fun u u1 u2 => ?_, by omega, fun u u1 u2 => ?_⟩ nt hb
  · rw [Nr 255 _ (by omega) (by omega) (by omega), PO.1 243 _ (by omega) (by decide)]
    exact cv_x hx (X.cf.1 u u1 u2)
  · rw [Nr 255 _ (by omega) (by omega) (by omega), PO.1 244 _ (by omega) (by decide)]
    exact cv_x hx (X.cf.2.2 u u1 (by omega))
theorem cv_sub {e u y : Int} (hu : 0 ≤ u) (un : UNd nn g e u) (he : 0 ≤ e) (C : CVt nn g R (4 + 2 * e) y) : CVt nn g R (4 + 2 * u) y := by
  rcases C with C | C | C | ⟨C, D⟩
  · exfalso; omega
  · exfalso; omega
  · exact .inr (.inr (.inl C))
  · refine .inr (.inr (.inr ⟨C, .inr (.inl ⟨u, hu, rfl, ?_⟩)⟩))
    rcases D with D | ⟨q, q0, D1, D2⟩ | ⟨q, q0, D1, D2, D3⟩
    · exfalso; omega
    · have eq : q = e := by omega
      rw [eq] at D2
      rcases D2 with D2 | D2
      · rw [D2.2] at un
        exact .inl ⟨D2.1, und_0 un⟩
      · exact .inr ⟨D2.1, und_tr D2.2 un⟩
    · exfalso; omega
/-- a value of a reference's type -/
theorem cv_ref {ty y : Int} (h2 : 2 ≤ ty) (C : CVt nn g R ty y) (y0 : ¬ y = 0) : 1 ≤ y ∧ y ≤ R 160 141 := by
  rcases C with C | C | C | C
  · exfalso; omega
  · exfalso; omega
  · exact absurd C y0
  · exact C.1
/-- rows: reading and writing -/
theorem st_element (hn : 1000000 ≤ nn) (X : RTP nn g ω R i c k N T U t a p) {op o : Int} (eo : op = ω c 238 (p 160 134 + bp (ω c) (p 160 134) a).toNat) (W : WN nn (T a) ω c (ω c) t op o (U a)) (ho : op = 46 ∨ op = 50 ∨ op = 79 ∨ op = 83) : Ok_ (mx_sv (qf_X13_element nn op R) fun u42 => some u42) (SQ nn g ω R) := by
  have V := X.vs
  have hi := X.hi
  have hd := X.hd
  have s := X.s
  have H := X.hp
  have XV := X.rx.1
  have AE := X.rx.2.1
  have g98 := gF_160_98 XV.1.1
  have g141 := gF_160_141 V
  have P0 := rpo_rf V hi
  have nt : ¬ (ω c 238 (p 160 134 + bp (ω c) (p 160 134) a).toNat = 167 ∨ ω c 238 (p 160 134 + bp (ω c) (p 160 134) a).toNat = 172 ∨ ω c 238 (p 160 134 + bp (ω c) (p 160 134) a).toNat = 176 ∨ ω c 238 (p 160 134 + bp (ω c) (p 160 134) a).toNat = 177 ∨ ω c 238 (p 160 134 + bp (ω c) (p 160 134) a).toNat = 191) := by rw [← eo]; omega
  have hb : (1 : Int) = WD (ω c 238 (p 160 134 + bp (ω c) (p 160 134) a).toNat) := by
    rw [← eo]
    rcases ho with q | q | q | q <;> rw [q] <;> decide
  have sv : ∀ y : Option ms_M, (mx_sv y fun u => some u) = y := fun y => by cases y <;> rfl
  -- n: how many values came before the index; q: what is to be stored
  have B : ∀ (n q : Int) (r : ms_M), VS_ r → RPO R i n r → (n = 0 ∨ n = 1) → n + 2 ≤ R 254 i.toNat → (op ≤ 50 → n = 0 ∧ ((op = 46 ∧ (tp (T a) 1 = 3 ∨ tp (T a) 1 = 2) ∧ PS1 (T a) 2 1 (U a)) ∨ (op = 50 ∧ ((tp (T a) 1 = 2 ∧ PS1 (T a) 2 2 (U a)) ∨ ((4 ≤ tp (T a) 1 ∧ tp (T a) 1 % 2 = 1) ∧ PS1 (T a) 2 (tp (T a) 1 - 1) (U a)))))) → (50 < op → n = 1 ∧ POP (T a) 3 (U a) ∧ (-2147483648 ≤ q ∧ q ≤ 2147483647) ∧ ((op = 79 ∧ (tp (T a) 2 = 3 ∨ tp (T a) 2 = 2)) ∨ (op = 83 ∧ (tp (T a) 2 = 2 ∨ (4 ≤ tp (T a) 2 ∧ tp (T a) 2 % 2 = 1)) ∧ (q = 0 ∨ (1 ≤ q ∧ q ≤ R 160 141))))) → Ok_ (mx_sv (qj_X13_element_14 nn op q r) fun u42 => some u42) (SQ nn g ω R) := fun n q r Vr P hn1 hs rd wt => by
    rw [sv]
    unfold qj_X13_element_14
    refine ok_sv (g_drop Vr P hd hi (by omega) (by omega)) ?_; intro u19 P19
    refine ok_sv (g_drop P19.1 P19.2.1 hd hi (by omega) (by omega)) ?_; intro u21 P21
    obtain ⟨V21, Q21, q21⟩ := P21
    have cv := X.tp (y := n + 1) (by omega) (by omega)
    rw [← q21] at cv
    have fl : ∀ m : Int, (0 ≤ m ∧ m < 8) → Ok_ (mx_sv (qf_X13_fails nn m u21.2) fun u => some u) (SQ nn g ω R) := fun m hm => end_fails hn X V21 Q21 hm
    have N21 := Q21.1
    have e21 := Q21.2.1
    refine ok_if (fun o0 => ?_) (fun _ => fl 2 (by decide))
    have tpo : 2 ≤ tp (T a) (n + 1) ∧ ¬ tp (T a) (n + 1) = 2 ∨ tp (T a) (n + 1) = 2 := by
      by_cases l : op ≤ 50
      · obtain ⟨n0, y⟩ := rd l
        rw [n0, show (0 : Int) + 1 = 1 by omega]
        omega
      · obtain ⟨n0, _, _, y⟩ := wt (by omega)
        rw [n0, show (1 : Int) + 1 = 2 by omega]
        omega
    have n2 : ¬ tp (T a) (n + 1) = 2 := fun z => by
      rw [z] at cv
      rcases cv with y | y | y | ⟨_, y⟩
      · omega
      · omega
      · exact o0 y
      · rcases y with y | ⟨u, u0, y, _⟩ | ⟨u, u0, y, _⟩ <;> omega
    have ob := cv_ref (by omega) cv o0
    have hx0 : ∀ x j : Nat, x ≤ 249 → u21.2 x j = R x j := fun x j q => N21 x j (by omega)
    refine ok_if (fun _ => fl 3 (by decide)) (fun id0 => ?_)
    refine ok_rd (by omega) (gA_248 V21) ?_; intro v23 e23 _ _
    rw [hx0 248 _ (by omega)] at e23
    refine ok_if (fun id1 => ?_) (fun _ => fl 3 (by decide))
    obtain ⟨o1, o2⟩ := H.1 u21.1 ob.1 ob.2
    have g142 := gF_160_142 V
    have K99 : (50 < op → 100 ≤ R 246 u21.1.toNat → CVt nn g R (4 + 2 * (R 246 u21.1.toNat - 100)) q) → (50 < op → 99 ≤ R 246 u21.1.toNat) → Ok_ (qj_X13_element_99 nn op q u19.1 u21.1 u21.2) (SQ nn g ω R) := fun okv sr => by
      unfold qj_X13_element_99
      refine ok_if (fun l => ?_) (fun l => ?_)
      · obtain ⟨n0, y⟩ := rd l
        rw [n0, show (0 : Int) + 1 = 1 by omega] at cv
        refine ok_rd (by omega) (gA_247 V21) ?_; intro v5 e5 _ _
        rw [hx0 247 _ (by omega)] at e5
        refine ok_add (by omega) ?_; intro v6 e6
        refine ok_rd (by omega) (gA_249 V21) ?_; intro v7 e7 b1 b2
        rw [hx0 249 _ (by omega)] at e7
        rw [n0, show (0 : Int) + 1 + 1 = 2 by omega] at Q21
        unfold qj_X13_element_141
        rcases y with ⟨oo, tt, ps⟩ | ⟨oo, tt⟩
        · exact end_give hn X ps V21 Q21 ⟨b1, b2⟩ cv_i nt hb
        · rcases tt with ⟨t1, _⟩ | ⟨t1, ps⟩
          · rw [n0, show (0 : Int) + 1 = 1 by omega] at n2; exact absurd t1 n2
          refine end_give hn X ps V21 Q21 ⟨b1, b2⟩ ?_ nt hb
          rcases cv with y | y | y | ⟨_, y⟩
          · exfalso; omega
          · exfalso; omega
          · exact absurd y o0
          · rcases y with y | ⟨u, u0, y, _⟩ | ⟨u, u0, y, z1, z2⟩
            · exfalso; omega
            · exfalso; omega
            · rw [show tp (T a) 1 - 1 = 4 + 2 * u by omega]
              rcases o2 with o2 | o2 | o2
              · exfalso; omega
              · exfalso; omega
              · refine cv_sub u0 z2 (by omega) ?_
                rw [e7, e6, e5]
                exact o2.2 u19.1 (by omega) (by omega)
      · obtain ⟨n0, po, qb, _⟩ := wt (by omega)
        rw [n0, show (1 : Int) + 1 + 1 = 3 by omega] at Q21
        have e21 := Q21.2.1
        refine ok_rd (by omega) (gA_247 V21) ?_; intro v12 e12 _ _
        rw [hx0 247 _ (by omega)] at e12
        refine ok_add (by omega) ?_; intro v13 e13
        refine ok_wA (by omega) ?_; intro h14 E14
        have V14 : VS_ h14 := by rw [E14]; exact wA_249 V21 qb
        rw [show v13.toNat = (R 247 u21.1.toNat + u19.1).toNat by omega] at E14
        have HH := hpo_w hn XV H (r := h14) (y := u19.1) (u := q) ob (by omega) (fun x j y1 y2 y3 y4 => by rw [E14, up_n (by omega)]; exact hx0 x j y4) (by rw [E14, up_s]) (okv (by omega)) (fun z => by have := sr (by omega); exfalso; omega)
        unfold qj_X13_element_141
        exact end_hp hn X po V14 (fun x j y1 y2 y3 => by rw [E14, up_n (by omega)]; exact Q21.1 x j (by omega)) (by rw [E14, up_n (by omega)]; exact e21) HH nt hb
    have sr : 50 < op → 99 ≤ R 246 u21.1.toNat := fun l => by
      obtain ⟨n0, _, _, y⟩ := wt l
      rw [n0, show (1 : Int) + 1 = 2 by omega] at cv n2
      rcases cv with z | z | z | ⟨_, z⟩
      · exfalso; omega
      · exfalso; omega
      · exact absurd z o0
      · rcases z with z | ⟨u, u0, z, _⟩ | ⟨u, u0, z, z1, z2⟩ <;> omega
    refine ok_if (fun o83 => K99 (fun l z => ?_) sr) (fun o83 => ?_)
    · -- 79: a row of ints
      obtain ⟨n0, _, _, y⟩ := wt l
      rw [n0, show (1 : Int) + 1 = 2 by omega] at cv n2
      exfalso
      rcases cv with z2 | z2 | z2 | ⟨_, z2⟩
      · omega
      · omega
      · exact o0 z2
      · rcases z2 with z2 | ⟨u, u0, z2, _⟩ | ⟨u, u0, z2, z3, z4⟩ <;> omega
    have o83 : op = 83 := Decidable.not_not.1 o83
    refine ok_if (fun q0 => K99 (fun _ _ => by rw [q0]; exact cv_0) sr) (fun q0 => ?_)
    obtain ⟨n0, _, _, y⟩ := wt (by omega)
    have qr : 1 ≤ q ∧ q ≤ R 160 141 := by omega
    rw [n0, show (1 : Int) + 1 = 2 by omega] at cv n2
    have s100 : 100 ≤ R 246 u21.1.toNat := by
      rcases cv with z | z | z | ⟨_, z⟩
      · exfalso; omega
      · exfalso; omega
      · exact absurd z o0
      · rcases z with z | ⟨u, u0, z, _⟩ | ⟨u, u0, z, z1, z2⟩ <;> omega
    have s98 : R 246 u21.1.toNat - 100 < 8 + g 160 98 := by
      rcases o2 with o2 | o2 | o2
      · exfalso; omega
      · exfalso; omega
      · exact o2.1.2
    refine ok_rd (by omega) (gA_246 V21) ?_; intro v25 e25 _ _
    rw [hx0 246 _ (by omega)] at e25
    refine ok_sub (by omega) ?_; intro v26 e26
    have AE21 : AGe g u21.2 := (rx_k (rpo_k hi.1 Q21).1.1 V21 X.rx).2.1
    have e246 : u21.2 246 q.toNat = R 246 q.toNat := hx0 246 _ (by omega)
    have ones : Ok_ (qf_X13_storesIn nn q v26 u21.2) (fun u => (u = 1 ∧ ((99 ≤ R 246 q.toNat ∧ v26 = 0) ∨ (R 246 q.toNat < 99 ∧ UNd nn g (R 246 q.toNat) v26))) ∨ u = 0) := by
      unfold qf_X13_storesIn
      refine ok_sv (rt_isOne hn XV AE21 V21 (o := q) (t := v26) (by omega) (by
        rw [e246]
        intro z
        rcases (H.1 q qr.1 qr.2).2 with z1 | z1 | z1
        · exact z1.2.1
        · exfalso; omega
        · exfalso; omega) (by omega)) ?_
      intro u2 P2
      rw [e246] at P2
      refine ok_ck (by omega) (ok_ret ?_)
      rcases P2 with P | P
      · exact .inl P
      · exact .inr P.1
    refine ok_sv ones ?_; intro u28 P28
    refine ok_if (fun n28 => K99 (fun _ _ => ?_) sr) (fun _ => fl 7 (by decide))
    rcases P28 with P | P
    · refine .inr (.inr (.inr ⟨qr, .inr (.inl ⟨R 246 u21.1.toNat - 100, by omega, rfl, ?_⟩)⟩))
      have := P.2
      rw [show v26 = R 246 u21.1.toNat - 100 by omega] at this
      exact this
    · exact absurd P n28
  unfold qf_X13_element
  by_cases l : op ≤ 50
  · rw [if_pos l]
    rcases ho with q | q | q | q
    · obtain ⟨w1, w2, w3⟩ := wnx_6 W q
      exact B 0 0 R V P0 (.inl rfl) (by have := w3.2.2.1; omega) (fun _ => ⟨rfl, .inl ⟨q, w2, w3⟩⟩) (fun z => by exfalso; omega)
    · obtain ⟨w1, w2⟩ := wnx_7 W q
      have ln : 2 ≤ R 254 i.toNat := by
        rcases w2 with w2 | w2
        · have := w2.2.2.2.1; omega
        · have := w2.2.2.2.1; omega
      exact B 0 0 R V P0 (.inl rfl) (by omega) (fun _ => ⟨rfl, .inr ⟨q, w2⟩⟩) (fun z => by exfalso; omega)
    · exfalso; omega
    · exfalso; omega
  · rw [if_neg l]
    rcases ho with q | q | q | q
    · exfalso; omega
    · exfalso; omega
    · obtain ⟨w1, w2, w3, w4⟩ := wnx_8 W q
      have ln := w4.2.2
      rw [sv]
      refine ok_sv (g_drop V P0 hd hi (by omega) (by omega)) ?_; intro u40 P40
      have bq := gA_255 V (60 * i + 30 + (R 254 i.toNat - 1 - 0)).toNat (by omega)
      rw [← P40.2.2] at bq
      have := B 1 u40.1 u40.2 P40.1 P40.2.1 (.inr rfl) (by omega) (fun z => by exfalso; omega) (fun _ => ⟨rfl, w4, bq, .inl ⟨q, w3⟩⟩)
      rw [sv] at this
      exact this
    · obtain ⟨w1, w2, w3, w4⟩ := wnx_9 W q
      have ln := w4.2.2
      rw [sv]
      refine ok_sv (g_drop V P0 hd hi (by omega) (by omega)) ?_; intro u40 P40
      have bq := gA_255 V (60 * i + 30 + (R 254 i.toNat - 1 - 0)).toNat (by omega)
      have cv := X.tp (y := 0) (by omega) (by omega)
      rw [← P40.2.2] at bq cv
      have := B 1 u40.1 u40.2 P40.1 P40.2.1 (.inr rfl) (by omega) (fun z => by exfalso; omega) (fun _ => ⟨rfl, w4, bq, .inr ⟨q, w3, by
        by_cases z : u40.1 = 0
        · exact .inl z
        · exact .inr (cv_ref w1 cv z)⟩⟩)
      rw [sv] at this
      exact this
end
end

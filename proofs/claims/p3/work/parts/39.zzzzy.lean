section
variable {nn : Nat} {h g r z w v x f : ms_M} {c d e k : Int} {ω : Int → ms_M}
theorem wd_3 {a : Int} (p : WD a = 3) : 153 ≤ a ∧ a ≤ 167 := by
  have L : Ok_ (qf_X13_widthOf 0 a (fun _ _ => 0)) (fun u => u = 3 → 153 ≤ a ∧ a ≤ 167) := by
    unfold qf_X13_widthOf qj_X13_widthOf_736 qj_X13_widthOf_738 qj_X13_widthOf_740 qj_X13_widthOf_742
    repeat' (first | exact ok_ret (fun _ => by omega) | exact ok_ret (fun q => absurd q (by decide)) | (refine ok_if (fun _ => ?_) (fun _ => ?_)))
  obtain ⟨u, e, P⟩ := L
  unfold WD at p
  rw [e] at p
  exact P p
/-- all classes are good -/
def CLA (nn : Nat) (h : ms_M) (ω : Int → ms_M) : Prop := ∀ k : Int, 8 ≤ k → k < 8 + h 160 98 → CLK nn h ω k
theorem cla_c (A : AGd h g) (C : CLA nn h ω) : CLA nn g ω := fun k a b => clk_c A (C k a (by rw [A.2.1] at b; exact b))
theorem mrf_c (A : AGd h g) {i s u b j : Int} (R : MRF nn h ω c w i s u b j) : MRF nn g ω c w i s u b j := by
  obtain ⟨r1, ⟨r2, r3⟩, r4, r5, r6, r7⟩ := R
  exact ⟨r1, ⟨by rw [A.2.1]; exact r2, ctv_c (agd_c A) r3⟩, hsn_c A _ _ _ _ r4, by rw [A.2.1]; exact r5, by rw [mem_c A]; exact r6, by rw [kdT_c A]; exact r7⟩
/-- the kind that a member's constant says is the holder's: a field's -/
theorem mrf_u (V : VS_ f) (OW : OM f ω) (CA : CLA nn f ω) (hc : 0 ≤ c ∧ c ≤ 7) (W : WI f c w) {i u b j : Int} (R : MRF nn f ω c w i 0 u b j) : ∃ t : Int, TKU nn f (b - 8) (ω (b - 8)) (kdT f ω (b - 8) 0 j) t ∧ TKU nn f c w (w 238 (pl w c i + 1 + 2).toNat) t ∧ TX w c (w 238 (pl w c i + 1 + 2).toNat) := by
  have g98 := gF_160_98 V
  obtain ⟨st, _, _, rb, rj, eq⟩ := R
  have X := OW (b - 8) (by omega) (by omega)
  have hd : 0 ≤ b - 8 ∧ b - 8 ≤ 7 := by omega
  have ck := (W.2.1.2.2 i st.1.1 st.1.2).2 st.2
  have tx : TX w c (w 238 (pl w c i + 1 + 2).toNat) := by rw [show pl w c i + 1 + 2 = pl w c i + 3 by omega]; exact ck.2.2.1
  obtain ⟨j12, _, _, _, t1⟩ := wi_fd X hd (k := j) rj
  have e0 : kdT f ω (b - 8) 0 j = ω (b - 8) 238 (f 233 (12 * (b - 8) + j).toNat + 1).toNat := rfl
  rw [← e0] at t1
  have kd := t1.2.2.1 rfl
  have kf := (CA b rb.1 rb.2).2.2.1.1 j rj.1 rj.2
  rw [← e0] at kf
  obtain ⟨t, kt⟩ := ktv_ex (.inr kd) kf
  exact ⟨t, ⟨kd, kt⟩, tku_p X W hd hc t1.1 tx eq ⟨kd, kt⟩, tx⟩
/-- the same of a method's -/
theorem mrf_v (V : VS_ f) (OW : OM f ω) (CA : CLA nn f ω) (hc : 0 ≤ c ∧ c ≤ 7) (W : WI f c w) {i u b j : Int} (R : MRF nn f ω c w i 1 u b j) : ∃ (m : Int) (L : Int → Int) (q t q2 : Int), TKV nn f (b - 8) (ω (b - 8)) (kdT f ω (b - 8) 1 j) m L q t ∧ TKV nn f c w (w 238 (pl w c i + 1 + 2).toNat) m L q2 t ∧ TX w c (w 238 (pl w c i + 1 + 2).toNat) := by
  have g98 := gF_160_98 V
  obtain ⟨st, _, _, rb, rj, eq⟩ := R
  have X := OW (b - 8) (by omega) (by omega)
  have hd : 0 ≤ b - 8 ∧ b - 8 ≤ 7 := by omega
  have ck := (W.2.1.2.2 i st.1.1 st.1.2).2 st.2
  have tx : TX w c (w 238 (pl w c i + 1 + 2).toNat) := by rw [show pl w c i + 1 + 2 = pl w c i + 3 by omega]; exact ck.2.2.1
  obtain ⟨j12, _, mt⟩ := wi_mt X hd (k := j) rj
  have t1 := (mth_tx mt).2
  have e0 : kdT f ω (b - 8) 1 j = ω (b - 8) 238 (f 235 (12 * (b - 8) + j).toNat + 2).toNat := rfl
  rw [← e0] at t1
  have kf := (CA b rb.1 rb.2).2.2.1.2 j rj.1 rj.2
  rw [← e0] at kf
  obtain ⟨m, L, q, t, kt⟩ := mkv_of kf
  obtain ⟨q2, k2⟩ := tkv_p X W hd hc t1.1 tx eq (m := m) (L := L) (q := q) (t := t) kt
  exact ⟨m, L, q, t, q2, kt, k2, tx⟩
theorem fit_245 {t : Int} : Pc (qf_X13_pullFit nn t r) (fun u => ∀ y : Nat, u.2 245 y = r 245 y) := by
  unfold qf_X13_pullFit
  refine pc_sv (P := fun u => ∀ y : Nat, u.2 245 y = r 245 y) ?_ ?_
  · unfold qf_X13_pull
    refine pc_if (fun _ => ?_) (fun _ => pc_ret (fun _ => rfl))
    refine pc_xl ?_; intro v3 _
    refine pc_xl ?_; intro h4 E4
    refine pc_rA ?_; intro _ _ v7 _
    exact pc_ret (fun y => by show h4 245 y = r 245 y; rw [E4, up_n (by omega)])
  · intro u2 P2
    refine pc_if (fun _ => pc_ret P2) (fun _ => ?_)
    refine pc_se ?_; intro u4 _
    exact pc_if (fun _ => pc_ret P2) (fun _ => pc_ret P2)
theorem y_129 (hn : 1000000 ≤ nn) (V0 : VS_ f) (M : MC f c k w) (LG : LGT f) (SG : SGT f) {n q e t : Int} {F : ms_M → Prop} (hq : 0 ≤ q) (he : e ≤ w 160 113) (R : RTk (w 238) (q + 1) e) (K : KTv nn f c (w 238) (q + 1) e t) (V : VS_ r) (P : POP f n r) (F0 : ∀ z : ms_M, (t = 0 ∧ POP f n z) ∨ (¬ t = 0 ∧ PS1 f n t z) → F z) : Ok_ (qj_X13_calls_129 nn (6000 * c + q) r) (WQ f F) := by
  have hc := M.1
  have g3 := gF_160_113 M.2.2.1.1
  have g98 := gF_160_98 V0
  have A := nfl_agd (pop_nfl P)
  have Mr : MC r c k w := nfl_mc (pop_nfl P) M
  have lt : q + 1 < e := by
    rcases R with R | R
    · omega
    · have := kd_lt R; omega
  unfold qj_X13_calls_129
  refine ok_add (by omega) ?_; intro v1 e1
  rw [show v1 = 6000 * c + (q + 1) by omega]
  refine ok_sv (rg_typeAt hn V hc Mr.2.2.1 (by omega) he R (ktv_c (agd_c A) K)) ?_; intro u3 P3
  obtain ⟨⟨V3, N3, _, b3⟩, q3⟩ := P3
  have P3 := pop_12 P N3
  refine ok_if (fun C => wq_pop V3 P3 LG SG (F0 _ (.inl ⟨by omega, P3⟩))) (fun C => ?_)
  rw [q3]
  exact wq_b1 V3 P3 LG SG (ktv_rg V0 K) (mc_30 M).2 (by omega) (fun z Z => F0 z (.inr ⟨by omega, Z⟩))
theorem y_calls (hn : 1000000 ≤ nn) (V0 : VS_ f) (S0 : SPD f) (OW : OM f ω) (CA : CLA nn f ω) (M : MC f c k w) (LG : LGT f) (SG : SGT f) {op i st u b j : Int} (hs : (st = 1 ∧ op = 184) ∨ (st = 0 ∧ ¬ op = 184)) (R : MRF nn f ω c w i 1 u b j) (R2 : ω (b - 8) 238 (f 235 (12 * (b - 8) + j).toNat).toNat = (if op = 184 then 1 else 0)) : Ok_ (qf_X13_calls nn i st f) (WQ f (CLL nn f ω c w op i)) := by
  have hc := M.1
  have W := M.2.2.1
  have g3 := gF_160_113 W.1
  have g98 := gF_160_98 V0
  obtain ⟨m, L, _, t, q, _, kv, tx⟩ := mrf_v V0 OW CA hc W R
  have st4 := R.1
  have hcl := R.2.1
  obtain ⟨a1, a2, a3, a4, a5⟩ := wi_tx W hc tx
  have ck := (W.2.1.2.2 i st4.1.1 st4.1.2).2 st4.2
  have cl : CL w c (w 238 (pl w c i + 1 + 0).toNat) := by rw [show pl w c i + 1 + 0 = pl w c i + 1 by omega]; exact ck.1
  have kv0 := kv
  obtain ⟨m6, pv, f41, rt, kt⟩ := kv
  have le := pv_lt _ _ _ _ pv
  have lt : q + 1 < pl w c (w 238 (pl w c i + 1 + 2).toNat) + 2 + w 238 (pl w c (w 238 (pl w c i + 1 + 2).toNat) + 1).toNat := by
    rcases rt with y | y
    · omega
    · have := kd_lt y; omega
  -- the second loop
  have T2 : ∀ (jj : Nat) (l5 : Int) (r : ms_M), VS_ r → (-1 ≤ l5 ∧ l5 < m) → POP f (m - 1 - l5) r → (∀ y : Int, 0 ≤ y → y < m → r 245 y.toNat = L y) → (∀ y : Int, l5 < y → y < m → GOt nn f (tp f (m - 1 - y)) (L y)) → l5 + 1 < (jj : Int) → Ok_ (qw_X13_calls_75 nn jj i st (6000 * c + q) l5 r) (WQ f (CLL nn f ω c w op i)) := by
    intro jj
    induction jj with
    | zero => intro l5 r V a P D T hm; exfalso; omega
    | succ jj ih =>
      intro l5 r V a P D T hm
      have A := nfl_agd (pop_nfl P)
      have Mr : MC r c k w := nfl_mc (pop_nfl P) M
      unfold qw_X13_calls_75
      refine ok_if (fun C => ?_) (fun C => ?_)
      · have e5 : m - 1 - l5 = m := by omega
        rw [e5] at P
        have TT : ∀ y : Int, 0 ≤ y → y < m → GOt nn f (tp f (m - 1 - y)) (L y) := fun y y1 y2 => T y (by omega) y2
        refine ok_if (fun s1 => ?_) (fun s1 => ?_)
        · have o4 : op = 184 := by omega
          exact y_129 hn V0 M LG SG (by omega) (by omega) rt kt V P (fun z Z => ⟨u, b, j, m, L, q, t, ⟨R, R2⟩, kv0, TT, .inl ⟨o4, Z⟩⟩)
        · have o4 : ¬ op = 184 := by omega
          refine ok_sv (mr_part V Mr st4 (by omega)) ?_; intro u10 P10
          rw [Mr.2.2.2.1, P10.1]
          refine ok_sv (rg_typeOf hn V hc Mr.2.2.1 cl (ctv_c (agd_c A) hcl.2)) ?_; intro u12 P12
          obtain ⟨⟨V12, N12', b12⟩, q12⟩ := P12
          rw [q12]
          refine ok_sv (x_fit hn V0 S0 V12 (pop_12 P N12') SG (by omega)) ?_; intro u14 P14
          refine ok_if (fun y => ?_) (fun y => ?_)
          · rcases P14.2 with p | p
            · exact absurd p.1 y
            · exact y_129 hn V0 M LG SG (by omega) (by omega) rt kt P14.1 p.2.1 (fun z Z => ⟨u, b, j, m, L, q, t, ⟨R, R2⟩, kv0, TT, .inr ⟨o4, p.2.2, Z⟩⟩)
          · rcases P14.2 with p | p
            · exact wq_0 P14.1 p.2
            · exact wq_0 P14.1 (pop_nfl p.2.1)
      · refine ok_rd (by omega) (gA_245 V) ?_; intro v18 e18 b1 b2
        rw [D l5 (by omega) (by omega)] at e18
        refine ok_sv (ok_pc (x_fit hn V0 S0 V P SG (by omega)) fit_245) ?_; intro u20 P20
        obtain ⟨P20, w20⟩ := P20
        refine ok_if (fun y => ?_) (fun y => ?_)
        · rcases P20.2 with p | p
          · exact absurd p.1 y
          refine ok_add (by omega) ?_; intro v21 e21
          rw [show v21 = l5 - 1 by omega]
          have pp := p.2.1
          rw [show m - 1 - l5 + 1 = m - 1 - (l5 - 1) by omega] at pp
          refine ih (l5 - 1) u20.2 P20.1 (by omega) pp (fun y y1 y2 => ?_) (fun y y1 y2 => ?_) (by omega)
          · rw [w20]; exact D y y1 y2
          · by_cases y0 : y = l5
            · rw [y0, ← e18]; exact p.2.2
            · exact T y (by omega) y2
        · rcases P20.2 with p | p
          · exact wq_0 P20.1 p.2
          · exact wq_0 P20.1 (pop_nfl p.2.1)
  -- the first loop
  have T1 : ∀ (jj : Nat) (l : Nat) (n p : Int) (r : ms_M), VS_ r → POP f 0 r → 0 ≤ p → (0 ≤ n ∧ n + l = m) → PVn nn f c (w 238) L l n p q → (∀ y : Int, 0 ≤ y → y < n → r 245 y.toNat = L y) → l < jj → Ok_ (qw_X13_calls_35 nn jj i st (6000 * c + p) n r) (WQ f (CLL nn f ω c w op i)) := by
    intro jj
    induction jj with
    | zero => intro l n p r V P a b Y D hm; exfalso; omega
    | succ jj ih =>
      intro l n p r V P a b Y D hm
      have A := nfl_agd (pop_nfl P)
      have Mr : MC r c k w := nfl_mc (pop_nfl P) M
      have lq := pv_lt _ _ _ _ Y
      unfold qw_X13_calls_35
      refine ok_rd (by omega) (gA_226 V) ?_; intro v25 e25 _ _
      rw [Mr.2.2.1.2.2.1 p (by omega) (by omega)] at e25
      cases l with
      | zero =>
        have Y : p = q := Y
        rw [if_pos (show v25 = 41 by rw [e25, Y]; exact f41)]
        refine ok_sub (by omega) ?_; intro v26 e26
        rw [Y, show v26 = m - 1 by omega]
        exact T2 nn (m - 1) r V (by omega) (by rw [show m - 1 - (m - 1) = 0 by omega]; exact P) (fun y y1 y2 => D y y1 (by omega)) (fun y y1 y2 => by exfalso; omega) (by omega)
      | succ l =>
        obtain ⟨e, ⟨y1, y2⟩, y3⟩ := Y
        have le3 := pv_lt _ _ _ _ y3
        have lt3 := kd_lt y1
        rw [if_neg (show ¬ v25 = 41 by rw [e25]; exact kd_41 y1)]
        refine ok_sv (rg_typeAt hn V hc Mr.2.2.1 (by omega) (by omega) (.inr y1) (ktv_c (agd_c A) y2)) ?_; intro u29 P29
        obtain ⟨⟨V29, N29, e120, b29⟩, q29⟩ := P29
        have f98 : r 160 98 = f 160 98 := A.2.1
        refine ok_wA (by omega) ?_; intro h30 E30
        have V30 : VS_ h30 := by rw [E30]; exact wA_245 V29 (by omega)
        have P29 := pop_12 P N29
        have P30 : POP f 0 h30 := ⟨fun x j a b => by rw [E30, up_n (by omega)]; exact P29.1 x j a b, by rw [E30, up_n (by omega)]; exact P29.2.1, P29.2.2⟩
        have e120' : h30 160 120 = 6000 * c + e := by rw [E30, up_n (by omega)]; exact e120
        refine ok_add (by omega) ?_; intro v31 e31
        rw [e31, e120']
        refine ih l (n + 1) e h30 V30 P30 (by omega) (by omega) y3 (fun y z1 z2 => ?_) (by omega)
        by_cases y0 : y = n
        · rw [y0, E30, up_s]; exact q29
        · rw [E30, up_n (by omega), N29 245 _ (by omega)]; exact D y z1 (by omega)
  unfold qf_X13_calls
  rw [M.2.2.2.1]
  refine ok_mul (by omega) ?_; intro v35 e35
  refine ok_mul (by omega) ?_; intro v38 e38
  refine ok_sv (mr_part V0 M st4 (by omega)) ?_; intro u40 P40
  rw [P40.1]
  refine ok_add (by omega) ?_; intro v41 e41
  refine ok_rd (by omega) (gA_228 V0) ?_; intro v42 e42 _ _
  rw [e41, e38, a2] at e42
  refine ok_add (by omega) ?_; intro v43 e43
  refine ok_add (by omega) ?_; intro v44 e44
  rw [show v44 = 6000 * c + (pl w c (w 238 (pl w c i + 1 + 2).toNat) + 2 + 1) by omega]
  exact T1 nn m.toNat 0 _ f V0 (pop_rf V0) (by omega) (by omega) pv (fun y y1 y2 => by exfalso; omega) (by omega)
/-- not so, hidden from omega -/
def NoT (c : Prop) : Prop := ¬ c
theorem ok_ifN {α : Type} {Q : α → Prop} {c : Prop} {d : Decidable c} {x y : Option α} (h1 : c → Ok_ x Q) (h2 : NoT c → Ok_ y Q) : Ok_ (if c then x else y) Q := ok_if h1 h2
/-- the result of the method under check is of type t; it stands at 160.136 -/
def RSP (nn : Nat) (f : ms_M) (c : Int) (w : ms_M) (t : Int) : Prop := ∃ p e : Int, f 160 136 = 6000 * c + p ∧ (0 ≤ p ∧ e ≤ w 160 113) ∧ RTk (w 238) p e ∧ KTv nn f c (w 238) p e t
theorem rgt_3 {op i j : Int} (j3 : 153 ≤ op ∧ op ≤ 167) : RGT nn f ω c w op j := ⟨fun y => by exfalso; omega, fun y => by exfalso; omega, fun y => by exfalso; omega, fun y => by exfalso; omega⟩
theorem y_pull2 (V : VS_ f) (S : SGT f) : Ok_ (qf_X13_pull nn f) (fun u => VS_ u.2 ∧ NFl f u.2 ∧ (¬ u.1 = -1 → (∀ x j : Nat, ¬ (x = 160 ∧ j = 131) → u.2 x j = f x j) ∧ 1 ≤ f 160 131 ∧ u.2 160 131 = f 160 131 - 1 ∧ u.1 = tp f 0)) := by
  have g131 := gF_160_131 V
  unfold qf_X13_pull
  refine ok_if (fun C => ?_) (fun C => ok_ret ⟨V, nfl_rf, fun y => absurd rfl y⟩)
  refine ok_sub (by omega) ?_; intro v3 e3
  refine ok_xl ?_; intro h4 E4
  have V4 : VS_ h4 := by rw [E4]; exact wF_160_131 V (by omega)
  have f131 : h4 160 131 = v3 := by rw [E4, up_s]
  rw [f131]
  refine ok_rd (by omega) (gA_244 V4) ?_; intro v7 e7 _ _
  have N : ∀ x j : Nat, ¬ (x = 160 ∧ j = 131) → h4 x j = f x j := fun x j a => by rw [E4, up_n (by omega)]
  refine ok_ret ⟨V4, fun x j a b => N x j (by omega), fun _ => ⟨N, by omega, by show h4 160 131 = _; omega, ?_⟩⟩
  show v7 = tp f 0
  unfold tp
  rw [e7, N 244 _ (by omega), show v3 = f 160 131 - 1 - 0 by omega]
theorem y_25 (hn : 1000000 ≤ nn) (V : VS_ f) (S : SPD f) (OW : OM f ω) (CA : CLA nn f ω) (M : MC f c k w) (LG : LGT f) (SG : SGT f) {op i rt : Int} (h1 : 1 ≤ WD op) (ho : 0 ≤ op ∧ op ≤ 255) (hi : 0 ≤ i ∧ i ≤ 255) (RS : RSP nn f c w rt) (RG : RGT nn f ω c w op i) : Ok_ (qj_X13_wanted_25 nn op i f) (WQ f (WN nn f ω c w rt op i)) := by
  have hc := M.1
  have W := M.2.2.1
  have e132 := M.2.2.2.1
  have b30 := mc_30 M
  have g98 := gF_160_98 V
  have g131 := gF_160_131 V
  have g129 := gF_160_129 V
  have P0 := pop_rf V
  have t1 : GTs f 1 := ⟨by decide, by omega⟩
  have t2 : GTs f 2 := ⟨by decide, by omega⟩
  have t3 : GTs f 3 := ⟨by decide, by omega⟩
  have z820 : ((2 ≤ op ∧ op ≤ 8) ∨ op = 16 ∨ op = 18) → Ok_ (qj_X13_wanted_820 nn f) (WQ f (WN nn f ω c w rt op i)) := fun y => wq_b2 V P0 LG SG t1 b30.2 g98.2 (fun z Z => wnt_2 ⟨y, Z⟩)
  have z1183 : (op = 96 ∨ op = 100 ∨ op = 104 ∨ op = 108 ∨ op = 112 ∨ op = 120 ∨ op = 122 ∨ op = 124 ∨ op = 126 ∨ op = 128 ∨ op = 130) → Ok_ (qj_X13_wanted_1183 nn f) (WQ f (WN nn f ω c w rt op i)) := fun y => by
    unfold qj_X13_wanted_1183
    refine ok_sv (x_ints V hn (n := 2) (by omega) P0 SG) ?_; intro u P
    refine ok_if (fun C => ?_) (fun C => ?_)
    · rcases P.2 with p | p
      · exact wq_0 P.1 p.2
      · exact wq_0 P.1 (pop_nfl p.2.1)
    · rcases P.2 with p | p
      · exact absurd p.1 C
      · exact wq_b1 P.1 p.2.1 LG SG t1 b30.2 g98.2 (fun z Z => wnt_12 ⟨y, p.2.2 0 (by omega) (by omega), p.2.2 1 (by omega) (by omega), Z⟩)
  have z1227 : (op = 153 ∨ op = 154 ∨ op = 186) → Ok_ (qj_X13_wanted_1227 nn f) (WQ f (WN nn f ω c w rt op i)) := fun y => by
    unfold qj_X13_wanted_1227
    refine ok_sv (x_ints V hn (n := 1) (by omega) P0 SG) ?_; intro u P
    rcases P.2 with p | p
    · exact ok_ck (.inl p.1) (ok_ret ⟨P.1, p.2, .inl p.1, fun z => absurd p.1 z⟩)
    · exact ok_ck (.inr p.1) (ok_ret ⟨P.1, pop_nfl p.2.1, .inr p.1, fun _ => ⟨pop_lgt p.2.1 LG SG, wnt_14 ⟨y, p.2.2 0 (by omega) (by omega), p.2.1⟩⟩⟩)
  have z1233 : (159 ≤ op ∧ op ≤ 164) → Ok_ (qj_X13_wanted_1233 nn f) (WQ f (WN nn f ω c w rt op i)) := fun y => by
    unfold qj_X13_wanted_1233
    refine ok_sv (x_ints V hn (n := 2) (by omega) P0 SG) ?_; intro u P
    rcases P.2 with p | p
    · exact ok_ck (.inl p.1) (ok_ret ⟨P.1, p.2, .inl p.1, fun z => absurd p.1 z⟩)
    · exact ok_ck (.inr p.1) (ok_ret ⟨P.1, pop_nfl p.2.1, .inr p.1, fun _ => ⟨pop_lgt p.2.1 LG SG, wnt_15 ⟨y, p.2.2 0 (by omega) (by omega), p.2.2 1 (by omega) (by omega), p.2.1⟩⟩⟩)
  have z1239 : (op = 165 ∨ op = 166) → Ok_ (qj_X13_wanted_1239 nn f) (WQ f (WN nn f ω c w rt op i)) := fun y => by
    unfold qj_X13_wanted_1239
    refine ok_sv (x_thing V P0 SG) ?_; intro u P
    refine ok_if (fun C => ?_) (fun C => ?_)
    · rcases P.2 with p | p
      · exact wq_0 P.1 p.2
      · exact wq_0 P.1 (pop_nfl p.2.1)
    · rcases P.2 with p | p
      · exact absurd p.1 C
      refine ok_sv (x_thing P.1 p.2.1 SG) ?_; intro u2 P2
      refine ok_if (fun C => ?_) (fun C => ?_)
      · rcases P2.2 with p | p
        · exact wq_0 P2.1 p.2
        · exact wq_0 P2.1 (pop_nfl p.2.1)
      · rcases P2.2 with p2 | p2
        · exact absurd p2.1 C
        · exact wq_pop P2.1 p2.2.1 LG SG (wnt_16 ⟨y, p.2.2, p2.2.2, p2.2.1⟩)
  have z1480 : (op = 182 ∨ op = 184) → Ok_ (qj_X13_wanted_1480 nn op i f) (WQ f (WN nn f ω c w rt op i)) := fun y => by
    obtain ⟨u, b, j, R, R2⟩ := RG.2.2.2 y
    unfold qj_X13_wanted_1480
    refine ok_if (fun C => ?_) (fun C => ?_)
    · refine ok_sv (y_calls hn V S OW CA M LG SG (op := op) (st := 0) (.inr ⟨rfl, C⟩) R R2) ?_; intro u P
      exact ok_ck P.2.2.1 (ok_ret ⟨P.1, P.2.1, P.2.2.1, fun q => ⟨(P.2.2.2 q).1, wnt_22 ⟨y, (P.2.2.2 q).2⟩⟩⟩)
    · refine ok_sv (y_calls hn V S OW CA M LG SG (op := op) (st := 1) (.inl ⟨rfl, Decidable.not_not.1 C⟩) R R2) ?_; intro u P
      exact ok_ck P.2.2.1 (ok_ret ⟨P.1, P.2.1, P.2.2.1, fun q => ⟨(P.2.2.2 q).1, wnt_22 ⟨y, (P.2.2.2 q).2⟩⟩⟩)
  have pop0 : ∀ {r : ms_M} {m : Int} {F : ms_M → Prop}, VS_ r → ((∃ q : Int, q = -1 ∧ POP f m r) ∨ POP f (m + 1) r) → Ok_ (some ((0 : Int), r)) (WQ f F) := fun V P => by
    rcases P with ⟨_, _, p⟩ | p
    · exact wq_0 V (pop_nfl p)
    · exact wq_0 V (pop_nfl p)
  have pl0 : ∀ {u : Int × ms_M} {m : Int}, ((u.1 = -1 ∧ POP f m u.2) ∨ (POP f (m + 1) u.2 ∧ u.1 = tp f m ∧ GTs f u.1)) → NFl f u.2 := fun P => by
    rcases P with p | p
    · exact pop_nfl p.2
    · exact pop_nfl p.1
  have cls : ∀ {r : ms_M} {m u : Int}, VS_ r → POP f m r → CL w c i → CTv nn f c w i (4 + 2 * u) → Ok_ (qf_X13_typeOfClass nn (r 160 132) i r) (fun x => VS_ x.2 ∧ POP f m x.2 ∧ x.1 = 4 + 2 * u) := fun {r m u} Vr P cl ct => by
    have A := nfl_agd (pop_nfl P)
    have Mr : MC r c k w := nfl_mc (pop_nfl P) M
    rw [Mr.2.2.2.1]
    exact ok_im (rg_typeOf hn Vr hc Mr.2.2.1 cl (ctv_c (agd_c A) ct)) (fun x X => ⟨X.1.1, pop_12 P X.1.2.1, X.2⟩)
  unfold qj_X13_wanted_25
  refine ok_ifN (fun y => ?_) (fun n0 => ?_)
  · exact wq_pop V P0 LG SG (wnt_0 ⟨.inl y, P0⟩)
  refine ok_ifN (fun y => ?_) (fun n1 => ?_)
  · exact wq_b2 V P0 LG SG t2 b30.2 g98.2 (fun z Z => wnt_1 ⟨y, Z⟩)
  refine ok_ifN (fun y => ?_) (fun n2 => ?_)
  · exact z820 (by omega)
  refine ok_ifN (fun y => ?_) (fun n3 => ?_)
  · exact z820 (by omega)
  refine ok_ifN (fun y => ?_) (fun n4 => ?_)
  · exact z820 (by omega)
  refine ok_ifN (fun y => ?_) (fun n5 => ?_)
  · exact z820 (by omega)
  refine ok_ifN (fun y => ?_) (fun n6 => ?_)
  · exact z820 (by omega)
  refine ok_ifN (fun y => ?_) (fun n7 => ?_)
  · exact z820 (by omega)
  refine ok_ifN (fun y => ?_) (fun n8 => ?_)
  · exact z820 (by omega)
  refine ok_ifN (fun y => ?_) (fun n16 => ?_)
  · exact z820 (by omega)
  refine ok_ifN (fun y => ?_) (fun n18 => ?_)
  · exact z820 (by omega)
  refine ok_ifN (fun y => ?_) (fun n21 => ?_)
  · refine ok_if (fun _ => wq_0 V nfl_rf) (fun C => ?_)
    refine ok_rd (by omega) (gA_243 V) ?_; intro v57 e57 _ _
    refine ok_if (fun _ => wq_0 V nfl_rf) (fun D => ?_)
    exact wq_b1 V P0 LG SG t1 b30.2 g98.2 (fun z Z => wnt_3 ⟨y, ⟨by omega, by omega⟩, Z⟩)
  refine ok_ifN (fun y => ?_) (fun n25 => ?_)
  · refine ok_if (fun _ => wq_0 V nfl_rf) (fun C => ?_)
    refine ok_rd (by omega) (gA_243 V) ?_; intro v65 e65 _ _
    refine ok_if (fun _ => wq_0 V nfl_rf) (fun D => ?_)
    refine ok_rd (by omega) (gA_243 V) ?_; intro v67 e67 _ _
    rw [e67]
    exact wq_b1 V P0 LG SG (LG i (by omega) (by omega)) b30.2 g98.2 (fun z Z => wnt_4 ⟨y, ⟨by omega, by omega⟩, Z⟩)
  refine ok_ifN (fun y => ?_) (fun n46 => ?_)
  · refine ok_sv (x_ints V hn (n := 1) (by omega) P0 SG) ?_; intro u74 P
    refine ok_if (fun C => ?_) (fun C => ?_)
    · rcases P.2 with p | p
      · exact absurd p.1 C
      have i0 := p.2.2 0 (by omega) (by omega)
      refine ok_sv (x_pull P.1 p.2.1 SG) ?_; intro u76 P6
      have yes : (u76.1 = 3 ∨ u76.1 = 2) → Ok_ (qj_X13_wanted_982 nn u76.2) (WQ f (WN nn f ω c w rt op i)) := fun yy => by
        rcases P6.2 with q | q
        · exfalso; omega
        · exact wq_b1 P6.1 q.1 LG SG t1 b30.2 g98.2 (fun z Z => wnt_6 ⟨y, i0, by have e2 : u76.1 = tp f 1 := q.2.1; omega, Z⟩)
      refine ok_if (fun y2 => yes (.inl y2)) (fun y2 => ?_)
      exact ok_if (fun y3 => wq_0 P6.1 (pl0 P6.2)) (fun y3 => yes (.inr (Decidable.not_not.1 y3)))
    · rcases P.2 with p | p
      · exact wq_0 P.1 p.2
      · exact wq_0 P.1 (pop_nfl p.2.1)
  refine ok_ifN (fun y => ?_) (fun n50 => ?_)
  · refine ok_sv (x_ints V hn (n := 1) (by omega) P0 SG) ?_; intro u81 P
    refine ok_if (fun C => ?_) (fun C => ?_)
    · rcases P.2 with p | p
      · exact absurd p.1 C
      have i0 := p.2.2 0 (by omega) (by omega)
      refine ok_sv (x_pull P.1 p.2.1 SG) ?_; intro u83 P6
      refine ok_if (fun y2 => ?_) (fun y2 => ?_)
      · refine ok_if (fun _ => wq_0 P6.1 (pl0 P6.2)) (fun y3 => ?_)
        refine ok_sv (mr_row (by omega)) ?_; intro u84 P84
        refine ok_if (fun _ => wq_0 P6.1 (pl0 P6.2)) (fun y4 => ?_)
        rcases P6.2 with q | ⟨q1, q2, q3⟩
        · exfalso; omega
        have e2 : u83.1 = tp f 1 := q2
        have odd : 4 ≤ u83.1 ∧ u83.1 % 2 = 1 := by omega
        have q4 : 0 ≤ u83.1 ∧ u83.1 < 20 + 2 * f 160 98 := q3
        refine ok_sub (by omega) ?_; intro v85 e85
        rw [e85, e2]
        rw [e2] at odd q4
        exact wq_b1 P6.1 q1 LG SG ⟨by omega, by omega⟩ b30.2 g98.2 (fun z Z => wnt_7 ⟨y, i0, .inr ⟨odd, Z⟩⟩)
      · rcases P6.2 with q | ⟨q1, q2, q3⟩
        · exfalso; omega
        have e2 : u83.1 = tp f 1 := q2
        exact wq_b2 P6.1 q1 LG SG t2 b30.2 g98.2 (fun z Z => wnt_7 ⟨y, i0, .inl ⟨by omega, Z⟩⟩)
    · rcases P.2 with p | p
      · exact wq_0 P.1 p.2
      · exact wq_0 P.1 (pop_nfl p.2.1)
  refine ok_ifN (fun y => ?_) (fun n54 => ?_)
  · refine ok_if (fun _ => wq_0 V nfl_rf) (fun C => ?_)
    refine ok_sv (y_pull2 V SG) ?_; intro u98 P6
    refine ok_if (fun y2 => ?_) (fun _ => wq_0 P6.1 P6.2.1)
    obtain ⟨q1, q2, q3, q4⟩ := P6.2.2 (by omega)
    refine ok_wA (by omega) ?_; intro h100 E100
    have V100 : VS_ h100 := by rw [E100]; exact wA_243 P6.1 (by omega)
    have S1 : STO f i h100 := ⟨fun x j a b => by rw [E100, up_n (by omega)]; exact q1 x j a, ⟨by omega, by omega⟩, q2, by rw [E100, up_n (by omega)]; exact q3, by rw [E100, up_s]; omega⟩
    exact wq_1 V100 (sto_nfl S1) (sto_lgt S1 LG SG) (wnt_5 ⟨.inl ⟨y, by omega⟩, S1⟩)
  refine ok_ifN (fun y => ?_) (fun n58 => ?_)
  · refine ok_sv (y_pull2 V SG) ?_; intro u104 P6
    refine ok_if (fun _ => wq_0 P6.1 P6.2.1) (fun C => ?_)
    have C : ¬ f 160 129 ≤ i := by rw [← P6.2.1 160 129 (by decide) (by decide)]; exact C
    refine ok_if (fun y2 => ?_) (fun _ => wq_0 P6.1 P6.2.1)
    obtain ⟨q1, q2, q3, q4⟩ := P6.2.2 (by omega)
    refine ok_wA (by omega) ?_; intro h107 E107
    have b4 := SG.2 (f 160 131 - 1 - 0) (by omega) (by omega)
    have b5 : 0 ≤ tp f 0 ∧ tp f 0 < 20 + 2 * f 160 98 := b4
    have V107 : VS_ h107 := by rw [E107]; exact wA_243 P6.1 (by omega)
    have S1 : STO f i h107 := ⟨fun x j a b => by rw [E107, up_n (by omega)]; exact q1 x j a, ⟨by omega, by omega⟩, q2, by rw [E107, up_n (by omega)]; exact q3, by rw [E107, up_s]; exact q4⟩
    exact wq_1 V107 (sto_nfl S1) (sto_lgt S1 LG SG) (wnt_5 ⟨.inr ⟨y, by omega⟩, S1⟩)
  refine ok_ifN (fun y => ?_) (fun n79 => ?_)
  · refine ok_sv (x_ints V hn (n := 2) (by omega) P0 SG) ?_; intro u111 P
    refine ok_if (fun C => ?_) (fun C => ?_)
    · rcases P.2 with p | p
      · exact absurd p.1 C
      have i0 := p.2.2 0 (by omega) (by omega)
      have i1 := p.2.2 1 (by omega) (by omega)
      refine ok_sv (x_pull P.1 p.2.1 SG) ?_; intro u113 P6
      have yes : (u113.1 = 3 ∨ u113.1 = 2) → Ok_ (some ((1 : Int), u113.2)) (WQ f (WN nn f ω c w rt op i)) := fun yy => by
        rcases P6.2 with q | q
        · exfalso; omega
        · exact wq_pop P6.1 q.1 LG SG (wnt_8 ⟨y, i0, i1, by have e2 : u113.1 = tp f 2 := q.2.1; omega, q.1⟩)
      refine ok_if (fun y2 => yes (.inl y2)) (fun y2 => ?_)
      exact ok_if (fun y3 => wq_0 P6.1 (pl0 P6.2)) (fun y3 => yes (.inr (Decidable.not_not.1 y3)))
    · rcases P.2 with p | p
      · exact wq_0 P.1 p.2
      · exact wq_0 P.1 (pop_nfl p.2.1)
  refine ok_ifN (fun y => ?_) (fun n83 => ?_)
  · refine ok_sv (x_thing V P0 SG) ?_; intro u118 P
    refine ok_if (fun C => ?_) (fun C => ?_)
    · rcases P.2 with p | p
      · exact wq_0 P.1 p.2
      · exact wq_0 P.1 (pop_nfl p.2.1)
    rcases P.2 with p | p
    · exact absurd p.1 C
    have i0 := p.2.2
    refine ok_sv (x_ints P.1 hn (n := 1) (by omega) p.2.1 SG) ?_; intro u120 P2
    refine ok_if (fun C2 => ?_) (fun C2 => ?_)
    · rcases P2.2 with p2 | p2
      · exact absurd p2.1 C2
      have i1 := p2.2.2 1 (by omega) (by omega)
      refine ok_sv (x_pull P2.1 p2.2.1 SG) ?_; intro u122 P6
      refine ok_if (fun y2 => ?_) (fun y2 => ?_)
      · rcases P6.2 with q | q
        · exfalso; omega
        · exact wq_pop P6.1 q.1 LG SG (wnt_9 ⟨y, i0, i1, by have e2 : u122.1 = tp f 2 := q.2.1; omega, q.1⟩)
      refine ok_if (fun _ => wq_0 P6.1 (pl0 P6.2)) (fun y3 => ?_)
      refine ok_sv (mr_row (by omega)) ?_; intro u123 P123
      refine ok_if (fun _ => wq_0 P6.1 (pl0 P6.2)) (fun y4 => ?_)
      rcases P6.2 with q | q
      · exfalso; omega
      · exact wq_pop P6.1 q.1 LG SG (wnt_9 ⟨y, i0, i1, by have e2 : u122.1 = tp f 2 := q.2.1; omega, q.1⟩)
    · rcases P2.2 with p | p
      · exact wq_0 P2.1 p.2
      · exact wq_0 P2.1 (pop_nfl p.2.1)
  refine ok_ifN (fun y => ?_) (fun n87 => ?_)
  · refine ok_sv (x_pull V P0 SG) ?_; intro u130 P6
    refine ok_if (fun _ => wq_0 P6.1 (pl0 P6.2)) (fun C => ?_)
    rcases P6.2 with q | q
    · exact absurd q.1 C
    · exact wq_pop P6.1 q.1 LG SG (wnt_10 ⟨y, q.1⟩)
  refine ok_ifN (fun y => ?_) (fun n89 => ?_)
  · refine ok_if (fun _ => wq_0 V nfl_rf) (fun C => ?_)
    refine ok_sub (by omega) ?_; intro v135 e135
    refine ok_rd (by omega) (gA_244 V) ?_; intro v136 e136 _ _
    have q : v136 = tp f 0 := by unfold tp; rw [e136, show v135 = f 160 131 - 1 - 0 by omega]
    rw [q]
    exact wq_b1 V P0 LG SG (SG.2 (f 160 131 - 1 - 0) (by omega) (by omega)) b30.2 g98.2 (fun z Z => wnt_11 ⟨y, by omega, Z⟩)
  refine ok_ifN (fun y => ?_) (fun n96 => ?_)
  · exact z1183 (by omega)
  refine ok_ifN (fun y => ?_) (fun n100 => ?_)
  · exact z1183 (by omega)
  refine ok_ifN (fun y => ?_) (fun n104 => ?_)
  · exact z1183 (by omega)
  refine ok_ifN (fun y => ?_) (fun n108 => ?_)
  · exact z1183 (by omega)
  refine ok_ifN (fun y => ?_) (fun n112 => ?_)
  · exact z1183 (by omega)
  refine ok_ifN (fun y => ?_) (fun n116 => ?_)
  · refine ok_sv (x_ints V hn (n := 1) (by omega) P0 SG) ?_; intro u P
    refine ok_if (fun C => ?_) (fun C => ?_)
    · rcases P.2 with p | p
      · exact wq_0 P.1 p.2
      · exact wq_0 P.1 (pop_nfl p.2.1)
    · rcases P.2 with p | p
      · exact absurd p.1 C
      · exact wq_b1 P.1 p.2.1 LG SG t1 b30.2 g98.2 (fun z Z => wnt_13 ⟨y, p.2.2 0 (by omega) (by omega), Z⟩)
  refine ok_ifN (fun y => ?_) (fun n120 => ?_)
  · exact z1183 (by omega)
  refine ok_ifN (fun y => ?_) (fun n122 => ?_)
  · exact z1183 (by omega)
  refine ok_ifN (fun y => ?_) (fun n124 => ?_)
  · exact z1183 (by omega)
  refine ok_ifN (fun y => ?_) (fun n126 => ?_)
  · exact z1183 (by omega)
  refine ok_ifN (fun y => ?_) (fun n128 => ?_)
  · exact z1183 (by omega)
  refine ok_ifN (fun y => ?_) (fun n130 => ?_)
  · exact z1183 (by omega)
  refine ok_ifN (fun y => ?_) (fun n153 => ?_)
  · exact z1227 (by omega)
  refine ok_ifN (fun y => ?_) (fun n154 => ?_)
  · exact z1227 (by omega)
  refine ok_ifN (fun y => ?_) (fun n159 => ?_)
  · exact z1233 (by omega)
  refine ok_ifN (fun y => ?_) (fun n160 => ?_)
  · exact z1233 (by omega)
  refine ok_ifN (fun y => ?_) (fun n161 => ?_)
  · exact z1233 (by omega)
  refine ok_ifN (fun y => ?_) (fun n162 => ?_)
  · exact z1233 (by omega)
  refine ok_ifN (fun y => ?_) (fun n163 => ?_)
  · exact z1233 (by omega)
  refine ok_ifN (fun y => ?_) (fun n164 => ?_)
  · exact z1233 (by omega)
  refine ok_ifN (fun y => ?_) (fun n165 => ?_)
  · exact z1239 (by omega)
  refine ok_ifN (fun y => ?_) (fun n166 => ?_)
  · exact z1239 (by omega)
  refine ok_ifN (fun y => ?_) (fun n167 => ?_)
  · exact wq_pop V P0 LG SG (wnt_0 ⟨.inr y, P0⟩)
  refine ok_ifN (fun y => ?_) (fun n172 => ?_)
  · obtain ⟨p, e, e136, pe, rk, kt⟩ := RS
    have g3 := gF_160_113 W.1
    have pl : p < e := by
      rcases rk with q | q
      · omega
      · have := kd_lt q; omega
    rw [e136]
    have one : (w 238 p.toNat = 73 ∨ w 238 p.toNat = 90) → Ok_ (qj_X13_wanted_1287 nn f) (WQ f (WN nn f ω c w rt op i)) := fun yy => by
      unfold qj_X13_wanted_1287
      refine ok_sv (x_ints V hn (n := 1) (by omega) P0 SG) ?_; intro u P
      refine ok_if (fun C => ?_) (fun C => ?_)
      · rcases P.2 with p | p
        · exact wq_0 P.1 p.2
        · exact wq_0 P.1 (pop_nfl p.2.1)
      · rcases P.2 with p | p
        · exact absurd p.1 C
        · exact wq_pop P.1 p.2.1 LG SG (wnt_17 ⟨y, ktv_det kt (.inr (.inl ⟨yy, rfl⟩)), p.2.2 0 (by omega) (by omega), p.2.1⟩)
    refine ok_rd (by omega) (gA_226 V) ?_; intro v149 e149 _ _
    rw [W.2.2.1 p (by omega) (by omega)] at e149
    refine ok_if (fun C => one (.inl (by omega))) (fun C => ?_)
    refine ok_rd (by omega) (gA_226 V) ?_; intro v152 e152 _ _
    rw [W.2.2.1 p (by omega) (by omega)] at e152
    exact ok_if (fun _ => wq_0 V nfl_rf) (fun D => one (.inr (by omega)))
  refine ok_ifN (fun y => ?_) (fun n176 => ?_)
  · obtain ⟨p, e, e136, pe, rk, kt⟩ := RS
    have g3 := gF_160_113 W.1
    have pl : p < e := by
      rcases rk with q | q
      · omega
      · have := kd_lt q; omega
    rw [e136]
    refine ok_rd (by omega) (gA_226 V) ?_; intro v157 e157 _ _
    rw [W.2.2.1 p (by omega) (by omega)] at e157
    refine ok_if (fun _ => wq_0 V nfl_rf) (fun C => ?_)
    refine ok_rd (by omega) (gA_226 V) ?_; intro v160 e160 _ _
    rw [W.2.2.1 p (by omega) (by omega)] at e160
    refine ok_if (fun _ => wq_0 V nfl_rf) (fun D => ?_)
    refine ok_rd (by omega) (gA_226 V) ?_; intro v163 e163 _ _
    rw [W.2.2.1 p (by omega) (by omega)] at e163
    refine ok_if (fun _ => wq_0 V nfl_rf) (fun E => ?_)
    refine ok_sv (rg_typeAt hn V hc W pe.1 pe.2 rk kt) ?_; intro u166 P166
    obtain ⟨⟨V6, N6, _, b6⟩, q6⟩ := P166
    have r2 : 2 ≤ rt := by
      rcases kt with q | q | ⟨_, u, q, q2⟩ | q | ⟨_, _, u, q, q2⟩
      · exfalso; omega
      · exfalso; omega
      · have := q.1; omega
      · omega
      · have := q.1; omega
    rw [q6]
    rw [q6] at b6
    refine ok_sv (x_fit hn V S V6 (pop_12 P0 N6) SG (by omega)) ?_; intro u168 P
    refine ok_if (fun C => ?_) (fun C => ?_)
    · rcases P.2 with p | p
      · exact wq_0 P.1 p.2
      · exact wq_0 P.1 (pop_nfl p.2.1)
    · rcases P.2 with p | p
      · exact absurd p.1 C
      · exact wq_pop P.1 p.2.1 LG SG (wnt_18 ⟨y, r2, p.2.2, p.2.1⟩)
  refine ok_ifN (fun y => ?_) (fun n177 => ?_)
  · obtain ⟨p, e, e136, pe, rk, kt⟩ := RS
    have g3 := gF_160_113 W.1
    have pl : p < e := by
      rcases rk with q | q
      · omega
      · have := kd_lt q; omega
    rw [e136]
    refine ok_rd (by omega) (gA_226 V) ?_; intro v175 e175 _ _
    rw [W.2.2.1 p (by omega) (by omega)] at e175
    exact ok_if (fun _ => wq_0 V nfl_rf) (fun D => wq_pop V P0 LG SG (wnt_19 ⟨y, ktv_det kt (.inl ⟨by omega, rfl⟩), P0⟩))
  refine ok_ifN (fun y => ?_) (fun n180 => ?_)
  · obtain ⟨u, b, j, R⟩ := RG.2.2.1 (by omega)
    have st4 := R.1
    have hcl := R.2.1
    obtain ⟨s, _, ku, tx⟩ := mrf_u V OW CA hc W R
    have sr := ktv_rg V ku.2
    have ck := (W.2.1.2.2 i st4.1.1 st4.1.2).2 st4.2
    have cl : CL w c (w 238 (pl w c i + 1 + 0).toNat) := by rw [show pl w c i + 1 + 0 = pl w c i + 1 by omega]; exact ck.1
    refine ok_sv (mr_part V M st4 (by omega)) ?_; intro u179 P179
    rw [e132, P179.1]
    refine ok_sv (rg_typeOf hn V hc W cl hcl.2) ?_; intro u181 P181
    obtain ⟨⟨V1, N1, _⟩, q1⟩ := P181
    rw [q1]
    refine ok_sv (x_fit hn V S V1 (pop_12 P0 N1) SG (by omega)) ?_; intro u183 P
    refine ok_if (fun C => ?_) (fun C => ?_)
    · rcases P.2 with p | p
      · exact wq_0 P.1 p.2
      · exact wq_0 P.1 (pop_nfl p.2.1)
    rcases P.2 with p | p
    · exact absurd p.1 C
    have M3 : MC u183.2 c k w := nfl_mc (pop_nfl p.2.1) M
    have A3 := nfl_agd (pop_nfl p.2.1)
    refine ok_sv (mr_part P.1 M3 st4 (by omega)) ?_; intro u186 P186
    rw [M3.2.2.2.1, P186.1]
    refine ok_sv (rg_kindType hn P.1 hc M3.2.2.1 tx (.inr ku.1) (ktv_c (agd_c A3) ku.2)) ?_; intro u188 P188
    obtain ⟨⟨V8, N8, _⟩, q8⟩ := P188
    rw [q8]
    exact wq_b1 V8 (pop_12 p.2.1 N8) LG SG sr b30.2 g98.2 (fun z Z => wnt_20 ⟨y, u, b, j, s, R, ku, p.2.2, Z⟩)
  refine ok_ifN (fun y => ?_) (fun n181 => ?_)
  · obtain ⟨u, b, j, R⟩ := RG.2.2.1 (by omega)
    have st4 := R.1
    have hcl := R.2.1
    obtain ⟨s, _, ku, tx⟩ := mrf_u V OW CA hc W R
    have sr := ktv_rg V ku.2
    have ck := (W.2.1.2.2 i st4.1.1 st4.1.2).2 st4.2
    have cl : CL w c (w 238 (pl w c i + 1 + 0).toNat) := by rw [show pl w c i + 1 + 0 = pl w c i + 1 by omega]; exact ck.1
    refine ok_sv (mr_part V M st4 (by omega)) ?_; intro u195 P195
    rw [e132, P195.1]
    refine ok_sv (rg_kindType hn V hc W tx (.inr ku.1) ku.2) ?_; intro u197 P197
    obtain ⟨⟨V7, N7, _⟩, q7⟩ := P197
    rw [q7]
    refine ok_sv (x_fit hn V S V7 (pop_12 P0 N7) SG (by omega)) ?_; intro u199 P
    refine ok_if (fun C => ?_) (fun C => ?_)
    · rcases P.2 with p | p
      · exact wq_0 P.1 p.2
      · exact wq_0 P.1 (pop_nfl p.2.1)
    rcases P.2 with p | p
    · exact absurd p.1 C
    have M3 : MC u199.2 c k w := nfl_mc (pop_nfl p.2.1) M
    have A3 := nfl_agd (pop_nfl p.2.1)
    unfold qj_X13_wanted_1453
    refine ok_sv (mr_part P.1 M3 st4 (by omega)) ?_; intro u19 P19
    rw [M3.2.2.2.1, P19.1]
    refine ok_sv (rg_typeOf hn P.1 hc M3.2.2.1 cl (ctv_c (agd_c A3) hcl.2)) ?_; intro u21 P21
    obtain ⟨⟨V1, N1, _⟩, q1⟩ := P21
    rw [q1]
    refine ok_sv (x_fit hn V S V1 (pop_12 p.2.1 N1) SG (by omega)) ?_; intro u23 P3
    refine ok_if (fun C => ?_) (fun C => ?_)
    · rcases P3.2 with p | p
      · exact wq_0 P3.1 p.2
      · exact wq_0 P3.1 (pop_nfl p.2.1)
    · rcases P3.2 with p3 | p3
      · exact absurd p3.1 C
      · exact wq_pop P3.1 p3.2.1 LG SG (wnt_21 ⟨y, u, b, j, s, R, ku, p.2.2, p3.2.2, p3.2.1⟩)
  refine ok_ifN (fun y => ?_) (fun n182 => ?_)
  · exact z1480 (by omega)
  refine ok_ifN (fun y => ?_) (fun n184 => ?_)
  · exact z1480 (by omega)
  refine ok_ifN (fun y => ?_) (fun n186 => ?_)
  · exact z1227 (by omega)
  refine ok_ifN (fun y => ?_) (fun n187 => ?_)
  · obtain ⟨cl, u, ub, ct⟩ := RG.2.1 (by omega)
    refine ok_sv (cls V P0 cl ct) ?_; intro u203 P
    rw [P.2.2]
    exact wq_b2 P.1 P.2.1 LG SG ⟨by omega, by omega⟩ b30.2 g98.2 (fun z Z => wnt_23 ⟨y, u, ⟨ub, cl, ct⟩, Z⟩)
  refine ok_ifN (fun y => ?_) (fun n188 => ?_)
  · refine ok_sv (x_ints V hn (n := 1) (by omega) P0 SG) ?_; intro u208 P
    refine ok_if (fun C => ?_) (fun C => ?_)
    · rcases P.2 with p | p
      · exact wq_0 P.1 p.2
      · exact wq_0 P.1 (pop_nfl p.2.1)
    rcases P.2 with p | p
    · exact absurd p.1 C
    have i0 := p.2.2 0 (by omega) (by omega)
    exact wq_b1 P.1 p.2.1 LG SG t3 b30.2 g98.2 (fun z Z => wnt_24 ⟨y, i0, Z⟩)
  refine ok_ifN (fun y => ?_) (fun n189 => ?_)
  · refine ok_sv (x_ints V hn (n := 1) (by omega) P0 SG) ?_; intro u214 P
    refine ok_if (fun C => ?_) (fun C => ?_)
    · rcases P.2 with p | p
      · exact wq_0 P.1 p.2
      · exact wq_0 P.1 (pop_nfl p.2.1)
    rcases P.2 with p | p
    · exact absurd p.1 C
    have i0 := p.2.2 0 (by omega) (by omega)
    obtain ⟨cl, u, ub, ct⟩ := RG.2.1 (by omega)
    refine ok_sv (cls P.1 p.2.1 cl ct) ?_; intro u217 P7
    refine ok_add (by have := P7.2.2; omega) ?_; intro v218 e218
    rw [show v218 = 5 + 2 * u by have := P7.2.2; omega]
    exact wq_b1 P7.1 P7.2.1 LG SG ⟨by omega, by omega⟩ b30.2 g98.2 (fun z Z => wnt_25 ⟨y, i0, u, ⟨ub, cl, ct⟩, Z⟩)
  refine ok_ifN (fun y => ?_) (fun n190 => ?_)
  · refine ok_sv (x_pull V P0 SG) ?_; intro u224 P6
    have yes : (u224.1 = 2 ∨ u224.1 = 3 ∨ (4 ≤ u224.1 ∧ u224.1 % 2 = 1)) → Ok_ (qj_X13_wanted_1592 nn u224.2) (WQ f (WN nn f ω c w rt op i)) := fun yy => by
      rcases P6.2 with q | q
      · exfalso; omega
      · exact wq_b1 P6.1 q.1 LG SG t1 b30.2 g98.2 (fun z Z => wnt_26 ⟨y, by have e2 : u224.1 = tp f 0 := q.2.1; rw [← e2]; exact yy, Z⟩)
    refine ok_if (fun y2 => yes (.inl y2)) (fun y2 => ?_)
    refine ok_if (fun y3 => wq_0 P6.1 (pl0 P6.2)) (fun y3 => ?_)
    have nn0 : 0 ≤ u224.1 := by
      rcases P6.2 with q | q
      · exact absurd q.1 y3
      · exact q.2.2.1
    refine ok_sv (mr_row nn0) ?_; intro u225 P225
    refine ok_if (fun y4 => wq_0 P6.1 (pl0 P6.2)) (fun y4 => yes (.inr ?_))
    rcases P225 with q | q
    · exact q.2
    · exact absurd q.1 y4
  refine ok_ifN (fun y => ?_) (fun n191 => ?_)
  · refine ok_sv (x_fit hn V S V P0 SG (by omega)) ?_; intro u P
    rcases P.2 with p | p
    · exact ok_ck (.inl p.1) (ok_ret ⟨P.1, p.2, .inl p.1, fun z => absurd p.1 z⟩)
    · exact ok_ck (.inr p.1) (ok_ret ⟨P.1, pop_nfl p.2.1, .inr p.1, fun _ => ⟨pop_lgt p.2.1 LG SG, wnt_27 ⟨y, p.2.2, p.2.1⟩⟩⟩)
  refine ok_ifN (fun y => ?_) (fun n192 => ?_)
  · refine ok_sv (x_thing V P0 SG) ?_; intro u233 P
    refine ok_if (fun C => ?_) (fun C => ?_)
    · rcases P.2 with p | p
      · exact wq_0 P.1 p.2
      · exact wq_0 P.1 (pop_nfl p.2.1)
    rcases P.2 with p | p
    · exact absurd p.1 C
    obtain ⟨cl, u, ub, ct⟩ := RG.2.1 (by omega)
    refine ok_sv (cls P.1 p.2.1 cl ct) ?_; intro u236 P7
    rw [P7.2.2]
    exact wq_b1 P7.1 P7.2.1 LG SG ⟨by omega, by omega⟩ b30.2 g98.2 (fun z Z => wnt_28 ⟨y, p.2.2, u, ⟨ub, cl, ct⟩, Z⟩)
  have y : op = 193 := by
    have kn := wd_known h1
    unfold NoT at *
    omega
  unfold qj_X13_wanted_1642
  refine ok_sv (x_thing V P0 SG) ?_; intro u233 P
  refine ok_if (fun C => ?_) (fun C => ?_)
  · rcases P.2 with p | p
    · exact wq_0 P.1 p.2
    · exact wq_0 P.1 (pop_nfl p.2.1)
  rcases P.2 with p | p
  · exact absurd p.1 C
  obtain ⟨cl, u, ub, ct⟩ := RG.2.1 (by omega)
  exact wq_b1 P.1 p.2.1 LG SG t1 b30.2 g98.2 (fun z Z => wnt_29 ⟨y, p.2.2, u, ⟨ub, cl, ct⟩, Z⟩)
/-- wanted is safe, and tells -/
theorem y_wanted (hn : 1000000 ≤ nn) (V : VS_ f) (S : SPD f) (OW : OM f ω) (CA : CLA nn f ω) (M : MC f c k w) (LG : LGT f) (SG : SGT f) {q rt : Int} (hq : 0 ≤ q) (hw1 : 1 ≤ WD (w 238 (f 160 134 + q).toNat)) (hw : q + WD (w 238 (f 160 134 + q).toNat) ≤ f 160 135) (RS : RSP nn f c w rt) (RG : RGT nn f ω c w (w 238 (f 160 134 + q).toNat) (if WD (w 238 (f 160 134 + q).toNat) = 2 then w 238 (f 160 134 + (q + 1)).toNat else 0)) : Ok_ (qf_X13_wanted nn q f) (WQ f (WN nn f ω c w rt (w 238 (f 160 134 + q).toNat) (if WD (w 238 (f 160 134 + q).toNat) ≤ 1 then 0 else w 238 (f 160 134 + (q + 1)).toNat))) := by
  have cd := mc_code M
  unfold qf_X13_wanted
  refine ok_sv (mv_code V M (by omega)) ?_; intro u242 P242
  rw [← P242.1] at hw hw1 RG ⊢
  refine ok_sv mw_width ?_; intro u243 P243
  have q243 := P243.1
  refine ok_if (fun y => ?_) (fun y => ?_)
  · rw [if_neg (show ¬ WD u242 = 2 by omega)] at RG
    rw [if_pos (show WD u242 ≤ 1 by omega)]
    exact y_25 hn V S OW CA M LG SG hw1 P242.2 (by omega) RS RG
  · rw [if_neg (show ¬ WD u242 ≤ 1 by omega)]
    refine ok_add (by omega) ?_; intro v244 e244
    refine ok_sv (mv_code V M (by omega)) ?_; intro u246 P246
    rw [e244] at P246
    rw [← P246.1] at RG ⊢
    refine y_25 hn V S OW CA M LG SG hw1 P242.2 P246.2 RS ?_
    by_cases z : WD u242 = 2
    · rw [if_pos z] at RG; exact RG
    · exact rgt_3 (i := 0) (wd_3 (by omega))
end

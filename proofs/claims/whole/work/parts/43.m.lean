/- PARSE: S of both sides, by its first token -/
section
variable {nn : Nat} {K P : Nat → Int} {c p : Nat} {h g r w u v : ms_M}
/-- rows below m stay but for one place -/
def RWx (r v : ms_M) (m n : Nat) : Prop := r 160 22 ≤ v 160 22 ∧ ∀ c x : Nat, 167 ≤ c → c ≤ 177 → (x : Int) < r 160 22 → ¬ (c = m ∧ x = n) → v c x = r c x
theorem hd_add {α : Type} (BK : TBn K c) (J : JPp K P c p h r) (hk : 2 ≤ K p) {k : Int} {G : Int × ms_M → ms_M → Option α} {Q : α → Prop} (H : ∀ (u : Int × ms_M) (h1 : ms_M), u.1 = r 160 22 → (0 ≤ r 160 22 ∧ h1 160 22 = r 160 22 + 1) → NDn h1 (r 160 22) k (p : Int) (p : Int) (-1) (-1) (-1) (-1) 0 0 0 → NDf r h1 → JPp K P c (p + 1) (up_M h 2 10 ((p + 1 : Nat) : Int)) h1 → Pc (G u h1) Q) : Pc (mx_sv (qf_X13_add nn k (r 160 23) (r 160 23) r) fun u => xl (oq_add (u.2 160 23) 1) fun v => xl (up_M u.2 160 23 v) fun h1 => G u h1) Q := by
  have n3 := BK.2.1
  have J0 := J
  obtain ⟨b, d, ⟨g1, g2, g3⟩, g4, g5⟩ := J
  rw [g2]
  refine pc_sv r_add ?_; intro u19 q19
  obtain ⟨⟨x1, x2, x3⟩, ND, FR⟩ := q19
  have c19 : u19.2 160 23 = (p : Int) := by rw [FR 160 23 (by omega) (by omega)]; exact g2
  rw [c19]
  refine pc_add (by omega) ?_; intro v1 e1
  refine pc_xl ?_; intro h1 f1
  rw [show v1 = ((p + 1 : Nat) : Int) by omega] at f1
  refine H u19 h1 x2 ⟨x1, by rw [f1, up_n (by omega)]; exact x3⟩ (by rw [f1]; exact nd_o ND (.inr (by decide))) ?_ ?_
  · rw [f1]; exact ndf_c ⟨by rw [x3]; omega, fun c x c1 c2 c3 => FR c x (by omega) (by omega)⟩ (by decide)
  · have J1 : JPp K P c p h u19.2 := jp_r J0 (fun c k z => FR c k (by omega) (by omega))
    rw [f1]; exact jp_up BK J1 (jp_lt BK g3 hk)
/-- an E that becomes row m of node n -/
theorem j_v {α β : Type} (BK : TBn K c) {a : Int} (ha : 0 ≤ a ∧ a ≤ 40) {q m : Nat} {n : Int} (J : JPp K P c q h r) (hn : 0 ≤ n ∧ n < r 160 22) (hm : m = 170 ∨ m = 171) {F : ms_M → Option α} {G : ms_M → Option β} {Z : α → β → Prop} (HS : ∀ u v, SFj u v → Pc (F u) (fun U => Pc (G v) (fun V => Z U V))) (HO : ∀ (u v : ms_M) (t : Nat) (ix e : Int), JPp K P c t u v → q < t → CHl a K v 0 ix 0 (r 160 22) (v 160 22) (q : Int) (t : Int) e → v m n.toNat = e → RWx r v m n.toNat → Pc (F u) (fun U => Pc (G v) (fun V => Z U V))) : Pc (mx_sv (qf_X8_readValue nn a h) F) (fun U => Pc (mx_sv (qf_X13_expression nn a r) fun u => wr_A 9000 m n u.1 u.2 fun h2 => G h2) (fun V => Z U V)) := by
  refine p2_sv (j_value BK ha J (by omega)) ?_; intro u4 u3 q3
  rcases q3 with S | ⟨t, ix, ⟨J1, pq⟩, L1, lab1, N1⟩
  · refine pc_fl ?_
    refine pc_wA ?_; intro _ _ h4 E4
    refine pc_fl ?_
    refine HS u4 h4 ⟨S.1, ?_, ?_⟩
    · rw [E4, up_n (by omega)]; exact S.2.1
    · rw [E4, up_n (by omega)]; exact S.2.2
  · have C1 := ch_mk L1 (by decide) lab1
    refine pc_fl ?_
    refine pc_wA ?_; intro i1 i2 h4 e4
    refine pc_fl ?_
    have n4 : h4 160 22 = u3.2 160 22 := by rw [e4, up_n (by omega)]
    have nn1 := N1.1
    refine HO u4 h4 t ix u3.1 (by rw [e4]; exact jp_w J1 (by omega)) pq ?_ (by rw [e4, up_s]) ⟨by omega, fun c x c1 c2 c3 c4 => by rw [e4, up_n c4]; exact N1.2 c x c1 c2 c3⟩
    rw [n4, e4]; exact ch_w C1 (.inl (.inl (by omega)))
/-- ; -/
theorem j_semi (BK : TBn K c) {rc : tq_X8_readBlock} {t : Nat} {n dp : Int} {r0 : ms_M} {s : Nat} (J : JPp K P c t u v) (hp : p < t) (H : K t = 46 → ∀ w : ms_M, w = up_M v 160 23 ((t + 1 : Nat) : Int) → LKn dp K w s 0 0 (r0 160 22) (w 160 22) (p : Int) ((t + 1 : Nat) : Int) n ∧ w 173 n.toNat = -1 ∧ NDf r0 w) : Pc (qj_X8_readStatement_157 nn rc u) (fun U => Pc (mx_sv (qf_X13_sign_ nn 59 v) fun u4 => some (n, u4)) (fun V => JS dp K P c p s r0 U V)) := by
  unfold qj_X8_readStatement_157
  refine p2_sv (j_need BK J (k := 46) (by decide) (by decide)) ?_; intro u2 w2 q2
  refine pc_ret (pc_ret ?_)
  rcases q2 with ⟨k46, m2, J2⟩ | S
  · have := H k46 w2 m2
    exact .inr ⟨t + 1, ⟨J2, by omega⟩, this.1, this.2.1, this.2.2⟩
  · exact .inl S
theorem j_semiS (BK : TBn K c) {rc : tq_X8_readBlock} (Gc : FScG_X8_readBlock rc) {n dp : Int} {r0 : ms_M} {s : Nat} (S : SFj u v) : Pc (qj_X8_readStatement_157 nn rc u) (fun U => Pc (mx_sv (qf_X13_sign_ nn 59 v) fun u4 => some (n, u4)) (fun V => JS dp K P c p s r0 U V)) := by
  refine pj_sf (o := fun a => a) (q := fun b => b.2) S (fs_qj_X8_readStatement_157 Gc S.1) ?_ (fun a b s => .inl s)
  refine pc_sv (ft_qf_X13_sign_ (sf_r S)) ?_; intro u4 Q4
  exact pc_ret Q4
/-- a node's rows, from RWx -/
theorem nd_rw {n k t f o w2 x y me sl ib e : Int} (D : NDn r n k t f o w2 x y me sl ib) (h0 : 0 ≤ n) (hn : n < r 160 22) (R : RWx r v 170 n.toNat) (e0 : v 170 n.toNat = e) : NDn v n k t f e w2 x y me sl ib := by
  obtain ⟨⟨a1, a2, a3⟩, ⟨b1, b2, b3, b4⟩, d1, d2, d3⟩ := D
  have E : ∀ c : Nat, 167 ≤ c → c ≤ 177 → ¬ c = 170 → v c n.toNat = r c n.toNat := fun c c1 c2 c3 => R.2 c n.toNat c1 c2 (by omega) (fun z => c3 z.1)
  exact ⟨⟨by rw [E 167 (by decide) (by decide) (by decide)]; exact a1, by rw [E 168 (by decide) (by decide) (by decide)]; exact a2, by rw [E 169 (by decide) (by decide) (by decide)]; exact a3⟩, ⟨e0, by rw [E 171 (by decide) (by decide) (by decide)]; exact b2, by rw [E 172 (by decide) (by decide) (by decide)]; exact b3, by rw [E 173 (by decide) (by decide) (by decide)]; exact b4⟩, by rw [E 175 (by decide) (by decide) (by decide)]; exact d1, by rw [E 176 (by decide) (by decide) (by decide)]; exact d2, by rw [E 177 (by decide) (by decide) (by decide)]; exact d3⟩
theorem nd_rw1 {n k t f o w2 x y me sl ib e : Int} (D : NDn r n k t f o w2 x y me sl ib) (h0 : 0 ≤ n) (hn : n < r 160 22) (R : RWx r v 171 n.toNat) (e0 : v 171 n.toNat = e) : NDn v n k t f o e x y me sl ib := by
  obtain ⟨⟨a1, a2, a3⟩, ⟨b1, b2, b3, b4⟩, d1, d2, d3⟩ := D
  have E : ∀ c : Nat, 167 ≤ c → c ≤ 177 → ¬ c = 171 → v c n.toNat = r c n.toNat := fun c c1 c2 c3 => R.2 c n.toNat c1 c2 (by omega) (fun z => c3 z.1)
  exact ⟨⟨by rw [E 167 (by decide) (by decide) (by decide)]; exact a1, by rw [E 168 (by decide) (by decide) (by decide)]; exact a2, by rw [E 169 (by decide) (by decide) (by decide)]; exact a3⟩, ⟨by rw [E 170 (by decide) (by decide) (by decide)]; exact b1, e0, by rw [E 172 (by decide) (by decide) (by decide)]; exact b3, by rw [E 173 (by decide) (by decide) (by decide)]; exact b4⟩, by rw [E 175 (by decide) (by decide) (by decide)]; exact d1, by rw [E 176 (by decide) (by decide) (by decide)]; exact d2, by rw [E 177 (by decide) (by decide) (by decide)]; exact d3⟩
theorem ndf_x {r0 : ms_M} {m n : Nat} (A : NDf r0 r) (R : RWx r v m n) (hn : r0 160 22 ≤ (n : Int)) : NDf r0 v := ⟨Int.le_trans A.1 R.1, fun c x c1 c2 c3 => by rw [R.2 c x c1 c2 (by have := A.1; omega) (by omega)]; exact A.2 c x c1 c2 c3⟩
/- break, continue -/
theorem js_leave (BK : TBn K c) {rc : tq_X8_readBlock} {rd : tq_X13_block} {a : Int} (ha : 0 ≤ a ∧ a ≤ 40) (Gc : FScG_X8_readBlock rc) {k : Int} (hk : (K p = 11 ∧ k = 5) ∨ (K p = 14 ∧ k = 6)) (J : JPp K P c p h r) (hr : 0 ≤ r 160 22) : Pc (mx_sv (qj_X8_readPlain_56 nn h) fun u13 => qj_X8_readStatement_157 nn rc u13) (fun u => Pc (qj_X13_statement_487 nn rd (r 160 23) k r) (fun v => JS a K P c p 6 r u v)) := by
  have n3 := BK.2.1
  have J0 := J
  obtain ⟨b, d, ⟨g1, g2, g3⟩, g4, g5⟩ := J
  unfold qj_X8_readPlain_56 qj_X13_statement_487
  refine pc_fl ?_
  refine hd_add BK J0 (by omega) ?_; intro u7 h10 hu n1 ND N1 J1
  refine pc_fl ?_
  refine p2_sa ?_
  rw [g1]
  refine pc_add (by omega) ?_; intro v3 e3
  refine pc_xl ?_; intro h4 e4
  rw [show v3 = ((p + 1 : Nat) : Int) by omega] at e4
  rw [← e4] at J1
  refine pc_ret ?_
  refine pc_fl ?_
  rw [hu]
  refine j_semi BK J1 (by omega) (fun k46 w ew => ?_)
  have NDw := nd_o (z := ((p + 1 + 1 : Nat) : Int)) (m := 160) (j := 23) ND (.inr (by decide))
  rw [← ew] at NDw
  have nw : w 160 22 = r 160 22 + 1 := by rw [ew, up_n (by omega)]; exact n1.2
  refine ⟨lk_tl ⟨hr, Int.le_refl _, by omega⟩ ⟨by rw [Int.toNat_natCast, NDw.1.1]; omega, NDw.1.2.1, NDw.1.2.2⟩ ⟨by rw [show ((p : Int) + 1).toNat = p + 1 by omega]; exact k46, by omega⟩ ha, NDw.2.1.2.2.2, by rw [ew]; exact ndf_c N1 (by decide)⟩
/- throw -/
theorem js_throw (BK : TBn K c) {rc : tq_X8_readBlock} {a : Int} (ha : 0 ≤ a ∧ a < 40) (Gc : FScG_X8_readBlock rc) (kp : K p = 27) (J : JPp K P c p h r) (hr : 0 ≤ r 160 22) : Pc (mx_sv (xl (oq_add (h 2 10) 1) fun v29 => xl (up_M h 2 10 v29) fun h30 => mx_sv (qf_X8_readValue nn (a + 1) h30) fun u32 => some u32) fun u13 => qj_X8_readStatement_157 nn rc u13) (fun u => Pc (mx_sv (qf_X13_add nn 8 (r 160 23) (r 160 23) r) fun u133 => xl (oq_add (u133.2 160 23) 1) fun v135 => xl (up_M u133.2 160 23 v135) fun h136 => xl (oq_add a 1) fun v138 => mx_sv (qf_X13_expression nn v138 h136) fun u140 => wr_A 9000 170 u133.1 u140.1 u140.2 fun h141 => mx_sv (qf_X13_sign_ nn 59 h141) fun u143 => some (u133.1, u143)) (fun v => JS a K P c p 6 r u v)) := by
  have n3 := BK.2.1
  have J0 := J
  obtain ⟨b, d, ⟨g1, g2, g3⟩, g4, g5⟩ := J
  refine pc_fl ?_
  refine hd_add BK J0 (by omega) ?_; intro u133 h136 hu n1 ND N1 J1
  refine pc_add (by omega) ?_; intro v138 e138
  rw [e138, hu]
  refine pc_fl ?_
  refine p2_sa ?_
  rw [g1]
  refine pc_add (by omega) ?_; intro v29 e29
  refine pc_xl ?_; intro h30 e30
  rw [show v29 = ((p + 1 : Nat) : Int) by omega] at e30
  rw [← e30] at J1
  refine j_v BK (by omega) J1 (by omega) (.inl rfl) (fun u v S => pc_ret (pc_fl (j_semiS BK Gc S))) (fun u v t ix e Jt qt Ct on R => ?_)
  refine pc_ret (pc_fl ?_)
  refine j_semi BK Jt (by omega) (fun k46 w ew => ?_)
  have NDv := nd_rw ND (by omega) (by omega) R on
  have NDw := nd_o (z := ((t + 1 : Nat) : Int)) (m := 160) (j := 23) NDv (.inr (by decide))
  rw [← ew] at NDw
  have R1 := R.1
  have nw : w 160 22 = v 160 22 := by rw [ew, up_n (by omega)]
  have Cw : CHl (a + 1) K w 0 ix 0 (r 160 22 + 1) (w 160 22) ((p + 1 : Nat) : Int) (t : Int) e := by rw [nw, ew, ← n1.2]; exact ch_w Ct (.inr (by decide))
  have o := NDw.2.1.1
  refine ⟨lk_tt (ix := ix) (t := (t : Int)) ⟨hr, Int.le_refl _, by omega⟩ ⟨NDw.1.1, NDw.1.2.1, NDw.1.2.2⟩ (by rw [Int.toNat_natCast]; exact kp) (by rw [o, show (p : Int) + 1 = ((p + 1 : Nat) : Int) by omega]; exact Cw.1) (by rw [o, show (p : Int) + 1 = ((p + 1 : Nat) : Int) by omega]; exact ⟨Cw.2.1, Cw.2.2.1⟩) ⟨by rw [Int.toNat_natCast]; exact k46, by omega⟩, NDw.2.1.2.2.2, by rw [ew]; exact ndf_c (ndf_x N1 R (by omega)) (by decide)⟩
/- return -/
theorem js_return (BK : TBn K c) {rc : tq_X8_readBlock} {rd : tq_X13_block} {a : Int} (ha : 0 ≤ a ∧ a < 40) (Gc : FScG_X8_readBlock rc) (kp : K p = 24) (J : JPp K P c p h r) (hr : 0 ≤ r 160 22) : Pc (mx_sv (xl (oq_add (h 2 10) 1) fun v19 => xl (up_M h 2 10 v19) fun h20 => mx_sv (qf_X9_kind nn h20) fun u23 => if u23 = 46 then (some h20) else (mx_sv (qf_X8_readValue nn (a + 1) h20) fun u25 => some u25)) fun u13 => qj_X8_readStatement_157 nn rc u13) (fun u => Pc (mx_sv (qf_X13_add nn 7 (r 160 23) (r 160 23) r) fun u118 => xl (oq_add (u118.2 160 23) 1) fun v120 => xl (up_M u118.2 160 23 v120) fun h121 => mx_sv (qf_X13_isSign nn (h121 160 23) 59 h121) fun u124 => if ¬ u124 = 0 then (qj_X13_statement_562 nn rd u118.1 h121) else (xl (oq_add a 1) fun v126 => mx_sv (qf_X13_expression nn v126 h121) fun u128 => wr_A 9000 170 u118.1 u128.1 u128.2 fun h129 => qj_X13_statement_562 nn rd u118.1 h129)) (fun v => JS a K P c p 6 r u v)) := by
  have n3 := BK.2.1
  have J0 := J
  obtain ⟨b, d, ⟨g1, g2, g3⟩, g4, g5⟩ := J
  refine pc_fl ?_
  refine hd_add BK J0 (by omega) ?_; intro u118 h121 hu n1 ND N1 J1
  refine pc_fl ?_
  refine p2_sa ?_
  rw [g1]
  refine pc_add (by omega) ?_; intro v19 e19
  refine pc_xl ?_; intro h20 e20
  rw [show v19 = ((p + 1 : Nat) : Int) by omega] at e20
  rw [← e20] at J1
  have J1' := J1
  obtain ⟨b1, d1, ⟨k1, k2, k3⟩, k4, k5⟩ := J1'
  refine pc_sv (c_kind BK b1 k3 k1 k4) ?_; intro u23 q23
  refine pc_fl ?_
  rw [k2]
  refine pc_sv (r_sgn BK d1 rfl (by omega) (k := 46) (by decide) (by decide)) ?_; intro u124 q124
  unfold qj_X13_statement_562
  by_cases k46 : K (p + 1) = 46
  · refine pc_if (fun _ => ?_) (fun z => absurd (by omega) z)
    refine pc_fl ?_
    refine pc_if (fun _ => ?_) (fun z => absurd (by omega) z)
    refine pc_ret (pc_fl ?_)
    rw [hu]
    refine j_semi BK J1 (by omega) (fun _ w ew => ?_)
    have NDw := nd_o (z := ((p + 1 + 1 : Nat) : Int)) (m := 160) (j := 23) ND (.inr (by decide))
    rw [← ew] at NDw
    have nw : w 160 22 = r 160 22 + 1 := by rw [ew, up_n (by omega)]; exact n1.2
    exact ⟨lk_tg ⟨hr, Int.le_refl _, by omega⟩ ⟨NDw.1.1, NDw.1.2.1, NDw.1.2.2, NDw.2.1.1⟩ ⟨by rw [Int.toNat_natCast]; exact kp, by rw [show ((p : Int) + 1).toNat = p + 1 by omega]; exact k46, by omega⟩ ⟨ha.1, by omega⟩, NDw.2.1.2.2.2, by rw [ew]; exact ndf_c N1 (by decide)⟩
  · refine pc_if (fun z => absurd z (by omega)) (fun _ => ?_)
    refine pc_add (by omega) ?_; intro v126 e126
    rw [e126, hu]
    refine pc_fl ?_
    refine pc_if (fun z => absurd z (by omega)) (fun _ => ?_)
    refine j_v BK (by omega) J1 (by omega) (.inl rfl) (fun u v S => pc_ret (pc_fl (j_semiS BK Gc S))) (fun u v t ix e Jt qt Ct on R => ?_)
    refine pc_ret (pc_fl ?_)
    refine j_semi BK Jt (by omega) (fun kt w ew => ?_)
    have NDv := nd_rw ND (by omega) (by omega) R on
    have NDw := nd_o (z := ((t + 1 : Nat) : Int)) (m := 160) (j := 23) NDv (.inr (by decide))
    rw [← ew] at NDw
    have R1 := R.1
    have nw : w 160 22 = v 160 22 := by rw [ew, up_n (by omega)]
    have Cw : CHl (a + 1) K w 0 ix 0 (r 160 22 + 1) (w 160 22) ((p + 1 : Nat) : Int) (t : Int) e := by rw [nw, ew, ← n1.2]; exact ch_w Ct (.inr (by decide))
    have o := NDw.2.1.1
    exact ⟨lk_tr (ix := ix) (t := (t : Int)) ⟨hr, Int.le_refl _, by omega⟩ ⟨NDw.1.1, NDw.1.2.1, NDw.1.2.2⟩ ⟨by rw [Int.toNat_natCast]; exact kp, by rw [show ((p : Int) + 1).toNat = p + 1 by omega]; exact k46⟩ (by rw [o, show (p : Int) + 1 = ((p + 1 : Nat) : Int) by omega]; exact Cw.1) (by rw [o, show (p : Int) + 1 = ((p + 1 : Nat) : Int) by omega]; exact ⟨Cw.2.1, Cw.2.2.1⟩) ⟨by rw [Int.toNat_natCast]; exact kt, by omega⟩, NDw.2.1.2.2.2, by rw [ew]; exact ndf_c (ndf_x N1 R (by omega)) (by decide)⟩
/-- ( E ) behind a word, for node n -/
theorem j_par {α β : Type} (BK : TBn K c) {a : Int} (ha : 0 ≤ a ∧ a ≤ 40) {q : Nat} {n : Int} (J : JPp K P c q h r) (hn : 0 ≤ n ∧ n < r 160 22) {F : ms_M → Option α} {G : ms_M → Option β} {Z : α → β → Prop} (HS : ∀ u v, SFj u v → Pc (F u) (fun U => Pc (G v) (fun V => Z U V))) (HO : ∀ (u v : ms_M) (t : Nat) (ix e : Int), JPp K P c (t + 1) u v → q < t → K t = 41 → CHl a K v 0 ix 0 (r 160 22) (v 160 22) (q : Int) (t : Int) e → v 170 n.toNat = e → RWx r v 170 n.toNat → Pc (F u) (fun U => Pc (G v) (fun V => Z U V))) : Pc (mx_sv (qf_X8_readValue nn a h) fun u8 => mx_sv (qf_X8_need nn 41 u8) fun u10 => F u10) (fun U => Pc (mx_sv (qf_X13_expression nn a r) fun u95 => wr_A 9000 170 n u95.1 u95.2 fun h96 => mx_sv (qf_X13_sign_ nn 41 h96) fun u98 => G u98) (fun V => Z U V)) := by
  refine j_v BK ha J hn (.inl rfl) (fun u v S => ?_) (fun u v t ix e Jt qt Ct on R => ?_)
  · refine pc_se ?_; intro u10 e10
    have F10 := fs_qf_X8_need S.1 u10 e10
    refine pc_fl ?_
    refine pc_sv (ft_qf_X13_sign_ (sf_r S)) ?_; intro u98 Q98
    exact pc_fl (HS u10 u98 (sf_k S F10 Q98))
  · refine p2_sv (j_need BK Jt (k := 41) (by decide) (by decide)) ?_; intro u10 u98 q98
    rcases q98 with ⟨k41, m98, J98⟩ | S
    · have n98 : u98 160 22 = v 160 22 := by rw [m98, up_n (by omega)]
      refine HO u10 u98 t ix e J98 qt k41 (by rw [n98, m98]; exact ch_w Ct (.inr (by decide))) (by rw [m98, up_n (by omega)]; exact on) ⟨by have := R.1; omega, fun c x c1 c2 c3 c4 => by rw [m98, up_n (by omega)]; exact R.2 c x c1 c2 c3 c4⟩
    · exact HS u10 u98 S
/- print -/
theorem js_print (BK : TBn K c) {rc : tq_X8_readBlock} {a : Int} (ha : 0 ≤ a ∧ a < 40) (Gc : FScG_X8_readBlock rc) (kp : K p = 23) (J : JPp K P c p h r) (hr : 0 ≤ r 160 22) : Pc (mx_sv (mx_sv (qf_X8_readCondition nn (a + 1) h) fun u16 => some u16) fun u13 => qj_X8_readStatement_157 nn rc u13) (fun u => Pc (mx_sv (qf_X13_add nn 10 (r 160 23) (r 160 23) r) fun u101 => xl (oq_add (u101.2 160 23) 1) fun v103 => xl (up_M u101.2 160 23 v103) fun h104 => mx_sv (qf_X13_sign_ nn 40 h104) fun u106 => xl (oq_add a 1) fun v108 => mx_sv (qf_X13_expression nn v108 u106) fun u110 => wr_A 9000 170 u101.1 u110.1 u110.2 fun h111 => mx_sv (qf_X13_sign_ nn 41 h111) fun u113 => mx_sv (qf_X13_sign_ nn 59 u113) fun u115 => some (u101.1, u115)) (fun v => JS a K P c p 6 r u v)) := by
  have n3 := BK.2.1
  have J0 := J
  obtain ⟨b, d, ⟨g1, g2, g3⟩, g4, g5⟩ := J
  refine pc_fl ?_
  refine hd_add BK J0 (by omega) ?_; intro u101 h104 hu n1 ND N1 J1
  refine pc_fl ?_
  refine p2_sa (p2_sa ?_)
  unfold qf_X8_readCondition
  rw [g1]
  refine pc_add (by omega) ?_; intro v3 e3
  refine pc_xl ?_; intro h4 e4
  rw [show v3 = ((p + 1 : Nat) : Int) by omega] at e4
  rw [← e4] at J1
  -- what comes behind ( E )
  have SE : ∀ u v, SFj u v → Pc (some u) (fun aa => Pc (mx_sv (qf_X13_sign_ nn 59 v) fun u115 => some (r 160 22, u115)) (fun V => Pc (some aa) (fun aa => Pc (qj_X8_readStatement_157 nn rc aa) (fun U => JS a K P c p 6 r U V)))) := fun u v S => pc_ret (pc_fl (pc_ret (pc_fl (j_semiS BK Gc S))))
  refine p2_sv (j_need BK J1 (k := 40) (by decide) (by decide)) ?_; intro u6 u106 q106
  rcases q106 with ⟨k40, m106, J2⟩ | S
  · have n106 : u106 160 22 = r 160 22 + 1 := by rw [m106, up_n (by omega)]; exact n1.2
    have ND106 := nd_o (z := ((p + 1 + 1 : Nat) : Int)) (m := 160) (j := 23) ND (.inr (by decide))
    rw [← m106] at ND106
    have N106 : NDf r u106 := by rw [m106]; exact ndf_c N1 (by decide)
    refine pc_fl ?_
    refine pc_add (by omega) ?_; intro v108 e108
    rw [e108, hu]
    refine pc_fl ?_
    refine j_par BK (by omega) J2 (by omega) (fun u v S => SE u v S) (fun u v t ix e Jt qt k41 Ct on R => ?_)
    refine pc_ret (pc_fl (pc_ret (pc_fl ?_)))
    refine j_semi BK Jt (by omega) (fun k46 w ew => ?_)
    have NDv := nd_rw ND106 (by omega) (by omega) R on
    have NDw := nd_o (z := ((t + 1 + 1 : Nat) : Int)) (m := 160) (j := 23) NDv (.inr (by decide))
    rw [← ew] at NDw
    have R1 := R.1
    have nw : w 160 22 = v 160 22 := by rw [ew, up_n (by omega)]
    have Cw : CHl (a + 1) K w 0 ix 0 (r 160 22 + 1) (w 160 22) ((p + 1 + 1 : Nat) : Int) (t : Int) e := by rw [nw, ew, ← n106]; exact ch_w Ct (.inr (by decide))
    have o := NDw.2.1.1
    exact ⟨lk_tp (ix := ix) (t := (t : Int)) ⟨hr, Int.le_refl _, by omega⟩ ⟨NDw.1.1, NDw.1.2.1, NDw.1.2.2⟩ ⟨by rw [Int.toNat_natCast]; exact kp, by rw [show ((p : Int) + 1).toNat = p + 1 by omega]; exact k40⟩ (by rw [o, show (p : Int) + 2 = ((p + 1 + 1 : Nat) : Int) by omega]; exact Cw.1) (by rw [o, show (p : Int) + 2 = ((p + 1 + 1 : Nat) : Int) by omega]; exact ⟨Cw.2.1, Cw.2.2.1⟩) ⟨by rw [Int.toNat_natCast]; exact k41, by rw [show ((t : Int) + 1).toNat = t + 1 by omega]; exact k46, by omega⟩, NDw.2.1.2.2.2, by rw [ew]; exact ndf_c (ndf_x N106 R (by omega)) (by decide)⟩
  · -- no (
    refine pc_se ?_; intro u8 e8
    have F8 := fs_qf_X8_readValue S.1 u8 e8
    refine pc_se ?_; intro u10 e10
    have F10 := fs_qf_X8_need (fs_n S.1 F8) u10 e10
    refine pc_fl ?_
    refine pc_xl ?_; intro v108 _
    refine pc_sv (ft_qf_X13_expression (sf_r S)) ?_; intro u110 Q110
    refine pc_wA ?_; intro _ _ h111 E111
    have F111 : FSr u106 h111 := by rw [E111]; exact ft_u Q110 (by omega)
    refine pc_sv (ft_qf_X13_sign_ (ft_n (sf_r S) F111)) ?_; intro u113 Q113
    have S2 := sf_k S (fs_t F8 F10) (ft_t F111 Q113)
    rw [hu]
    exact pc_fl (SE u10 u113 S2)
end

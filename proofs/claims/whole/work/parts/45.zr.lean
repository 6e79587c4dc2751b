/- E of both sides: - ! ~ ahead of a U -/
section
variable {nn : Nat} {X : BCx} {dp i a b e : Int} {p q : Nat} {h g u r w m : ms_M} {v : Int × ms_M}
theorem p2_x {α β γ : Type} {x : α} {F : α → Option β} {G : β → Option γ} {Q : γ → Prop} (H : ∀ z : α, z = x → Pc (mx_sv (F z) G) Q) : Pc (mx_sv (xl x F) G) Q := H x rfl
theorem p2_m {α β γ : Type} {x : Option α} {F : α → Option β} {G : β → Option γ} {Q : γ → Prop} (H : Pc x (fun a => Pc (mx_sv (F a) G) Q)) : Pc (mx_sv (mx_sv x F) G) Q := by
  cases hx : x with
  | none => exact fun r e => nomatch e
  | some a => exact H a hx
/-- ~ on both sides: push, two bytes, pop against put, push, put, turn -/
theorem m_tilde {PB : Nat → Prop} {WL : Int → Int → Prop} {L : List (Int × Int)} {g1 g2 g3 g4 : ms_M} (M : MKx X PB WL L h m) (A1 : CPu 301 h g1) (A2 : COp 2 g1 g2) (A3 : COp 130 g2 g3) (A4 : CPo 1 g3 g4) (h1 : 1 ≤ h 34 3 ∧ h 34 3 ≤ 2999) (l1 : h 34 1 ≤ 900000) (top : 20 < h 34 3 ∨ h 36 (h 34 3 - 1).toNat = 301) : Pc (mx_sv (qf_X13_put nn 2 m) fun u210 => mx_sv (qf_X13_push nn 0 u210) fun u212 => mx_sv (qf_X13_put nn 130 u212) fun u214 => mx_sv (qf_X13_turn nn 2 0 u214) fun u216 => some u216) (fun w => MKx X PB WL L g4 w ∧ w 160 88 = m 160 88) := by
  obtain ⟨-, -, ⟨m1, m2, m3, m4⟩, -⟩ := mk_t M
  refine pc_sv (r_put (by omega)) ?_; intro w1 B1
  refine pc_sv r_push ?_; intro w2 B2
  have p1 : w1 160 70 = m 160 70 := B1.2.2 160 70 (by omega) (by omega)
  have p2 : w2 160 70 = m 160 70 + 1 := by rw [B2.2.1, p1]
  refine pc_sv (r_put (by rw [B2.2.2.2.2 160 68 (by omega) (by omega), B1.1]; omega)) ?_; intro w3 B3
  have p3 : w3 160 70 = m 160 70 + 1 := by rw [B3.2.2 160 70 (by omega) (by omega)]; exact p2
  unfold qf_X13_turn
  refine pc_sv (P := fun w => MKx X PB WL L g4 w ∧ w 160 88 = m 160 88) ?_ (fun u216 q => pc_ret q)
  refine pc_sub (by omega) ?_; intro v2 e2
  refine pc_xl ?_; intro h3 e3
  refine pc_if (fun z => absurd z (by decide)) (fun _ => ?_)
  refine pc_sv r_push ?_; intro w5 B5
  have p4 : h3 160 70 = m 160 70 - 1 := by rw [e3, up_s, e2, p3]; omega
  have K1 := ma_c (g := g1) M.1 (fun cc x z => A1.2.2.2 cc x (by unfold RLc at z; omega) (by unfold RLc at z; omega)) (by rw [A1.2.1]; split <;> omega)
  have K2 := ma_op K1 A2 B1 (fun _ => rfl) (by unfold in_R; omega)
  have K3 := ma_r (w := w2) K2 (fun cc x z => B2.2.2.2.2 cc x (by unfold RLm at z; omega) (by unfold RLm at z; omega))
  have K4 := ma_op K3 A3 B3 (fun _ => rfl) (by unfold in_R; omega)
  have K5 := ma_r (w := w5) K4 (fun cc x z => by rw [B5.2.2.2.2 cc x (by unfold RLm at z; omega) (by unfold RLm at z; omega), e3, up_n (by unfold RLm at z; omega)])
  have K6 := ma_c (g := g4) K5 (fun cc x z => A4.2 cc x (by unfold RLc at z; omega)) (by rw [A4.2 34 4 (by omega)]; exact Int.le_refl _)
  obtain ⟨t1, t2, t3⟩ := sk_touch M.2 A1 (g2 := g3) (fun cc x z => by rw [A3.2.2 cc x (by omega) (by omega), A2.2.2 cc x (by omega) (by omega)]) A4
  obtain ⟨⟨k1, k2, k3, k4⟩, k5⟩ := M.2
  have r70 : w5 160 70 = m 160 70 := by rw [B5.2.1, p4]; omega
  have q71 : w2 160 71 = if m 160 71 < m 160 70 + 1 then m 160 70 + 1 else m 160 71 := by rw [B2.2.2.1, p1, B1.2.2 160 71 (by omega) (by omega)]
  have r71 : w5 160 71 = if m 160 71 < m 160 70 + 1 then m 160 70 + 1 else m 160 71 := by
    rw [B5.2.2.1, p4, e3, up_n (by omega), B3.2.2 160 71 (by omega) (by omega), q71]
    split <;> split <;> omega
  refine pc_ret ⟨⟨K6, ⟨by omega, by rw [t2, r71, k1, k2], by omega, by rw [t2]; split <;> omega⟩, fun ii hi h2 => ?_⟩, ?_⟩
  · rw [t1] at hi
    rw [t3 ii hi]
    by_cases z : (ii : Int) = h 34 3 - 1
    · have ei : ii = (h3 160 70).toNat := by omega
      rw [ei, B5.2.2.2.1]
      rcases top with y | y
      · omega
      · rw [show (h3 160 70).toNat = (h 34 3 - 1).toNat by omega, y]; exact ⟨rfl, .inl rfl, by decide⟩
    · rw [B5.2.2.2.2 207 ii (by omega) (by omega), e3, up_n (by omega), B3.2.2 207 ii (by omega) (by omega), B2.2.2.2.2 207 ii (by omega) (by omega), B1.2.2 207 ii (by omega) (by omega)]
      exact k5 ii hi h2
  · rw [B5.2.2.2.2 160 88 (by omega) (by omega), e3, up_n (by omega), B3.2.2 160 88 (by omega) (by omega), B2.2.2.2.2 160 88 (by omega) (by omega), B1.2.2 160 88 (by omega) (by omega)]
theorem ctr_top {o k : Int} (H : CTr o k h u) (h0 : 0 ≤ h 34 3) (Fc : FRc h) : (302 : Int) = 303 ∨ 20 < u 34 3 ∨ u 36 (u 34 3 - 1).toNat = 302 := by
  obtain ⟨g1, g2, g3, g4, g5, g6, g7, g8, A1, A2, A3, A4, A5, A6, A7, A8, A9⟩ := H
  have E5 : ∀ cc x : Nat, ¬ (cc = 34 ∧ (x = 1 ∨ x = 3 ∨ x = 4)) → ¬ (cc = 35 ∨ cc = 36) → g5 cc x = h cc x := fun cc x z1 z2 => by rw [A5.2 cc x (by omega), A4.2.2.2 cc x (by omega) (by omega), A3.2.2 cc x (by omega) (by omega), A2.2.2.2 cc x (by omega) (by omega), A1.2.2.2 cc x (by omega) (by omega)]
  have F5 : FRc g5 := frc_k Fc (fun cc x z => E5 cc x (by omega) (by omega))
  have s5 : 0 ≤ g5 34 3 := by rw [A5.1]; split <;> omega
  obtain ⟨F6, H6⟩ := cah_fr F5 A6
  have s6 := H6 34 3 (by omega) (by omega) (by omega)
  have F8 : FRc g8 := frc_k F6 (fun cc x z => by rw [A8.2.2 cc x (by omega) (by omega), A7.2.2.2 cc x (by omega) (by omega)])
  obtain ⟨F9, H9⟩ := cah_fr F8 A9
  have s9 : u 34 3 = g6 34 3 + 1 := by rw [H9 34 3 (by omega) (by omega) (by omega), A8.2.2 34 3 (by omega) (by omega)]; exact A7.1
  by_cases z : g6 34 3 < 20
  · right; right
    rw [s9, show (g6 34 3 + 1 - 1).toNat = (g6 34 3).toNat by omega, H9 36 _ (by omega) (by omega) (by omega), A8.2.2 36 _ (by omega) (by omega)]
    exact A7.2.2.1 z
  · right; left; omega
/-- what the making of a node does behind its U -/
theorem wo_un {R Q : ms_M → Prop} {d : Nat} {ch k : Int} (hk : m 167 e.toNat = k) (k3 : k = 33 ∨ k = 34 ∨ k = 35) (t0 : m 170 e.toNat = ch) (CH : Pc ((qg_X13_work nn d).1 ch m) R) (H3 : k = 33 → ∀ w : ms_M, R w → Pc (mx_sv (qf_X13_put nn 116 w) fun u198 => some u198) Q) (H4 : k = 34 → ∀ w : ms_M, R w → Pc (mx_sv (qf_X13_truth nn 153 1 w) fun u204 => some u204) Q) (H5 : k = 35 → ∀ w : ms_M, R w → Pc (mx_sv (qf_X13_put nn 2 w) fun u210 => mx_sv (qf_X13_push nn 0 u210) fun u212 => mx_sv (qf_X13_put nn 130 u212) fun u214 => mx_sv (qf_X13_turn nn 2 0 u214) fun u216 => some u216) Q) : Pc (qo_X13_workOne nn (qg_X13_work nn d) e m) Q := by
  have C : ∀ F : ms_M → Option ms_M, (∀ w : ms_M, R w → Pc (F w) Q) → Pc (rd_A 9000 170 e m fun v => mx_sv ((qg_X13_work nn d).1 v m) F) Q := fun F HF => by
    refine pc_rA ?_; intro _ _ v e0
    rw [t0] at e0
    rw [e0]
    exact pc_sv CH HF
  rcases k3 with y | y | y
  · exact wo_33 (hk.trans y) rfl (C _ (H3 y))
  · exact wo_34 (hk.trans y) rfl (C _ (H4 y))
  · exact wo_35 (hk.trans y) rfl (C _ (H5 y))
/-- closeUnary where the type is right -/
def CUr (nn : Nat) (X : BCx) (k t1 : Int) (u8 u10 : ms_M) : Prop := (∀ cc y : Nat, ¬ (cc = 34 ∧ (y = 1 ∨ y = 3 ∨ y = 4 ∨ y = 14 ∨ y = 15)) → ¬ (cc = 35 ∨ cc = 36) → ¬ (40 ≤ cc ∧ cc ≤ 42) → ¬ (cc = 49 ∧ (y = 11 ∨ y = 12)) → u10 cc y = u8 cc y) ∧ FRc u10 ∧ ((u8 34 1 ≤ u10 34 1 ∧ u10 34 1 ≤ u8 34 1 + 10) ∧ (0 ≤ u10 34 3 ∧ u10 34 3 ≤ u8 34 3 + 1)) ∧ (u10 49 11 = 0 ∧ u10 49 12 = t1) ∧ (1 ≤ u8 34 3 → (20 < u8 34 3 ∨ u8 36 (u8 34 3 - 1).toNat = t1) → (u10 34 3 = u8 34 3 ∧ (u10 49 12 = 303 ∨ 20 < u10 34 3 ∨ u10 36 (u10 34 3 - 1).toNat = u10 49 12)) ∧ ∀ (PB : Nat → Prop) (WL : Int → Int → Prop) (L : List (Int × Int)) (w : ms_M), MKx X PB WL L u8 w → w 160 88 ≤ 2050000000 → (k = 33 → Pc (mx_sv (qf_X13_put nn 116 w) fun u198 => some u198) (fun w2 => MKx X PB WL L u10 w2 ∧ (w 160 88 ≤ w2 160 88 ∧ w2 160 88 ≤ w 160 88 + 2))) ∧ (k = 34 → Pc (mx_sv (qf_X13_truth nn 153 1 w) fun u204 => some u204) (fun w2 => MKx X PB WL L u10 w2 ∧ (w 160 88 ≤ w2 160 88 ∧ w2 160 88 ≤ w 160 88 + 2))) ∧ (k = 35 → Pc (mx_sv (qf_X13_put nn 2 w) fun u210 => mx_sv (qf_X13_push nn 0 u210) fun u212 => mx_sv (qf_X13_put nn 130 u212) fun u214 => mx_sv (qf_X13_turn nn 2 0 u214) fun u216 => some u216) (fun w2 => MKx X PB WL L u10 w2 ∧ (w 160 88 ≤ w2 160 88 ∧ w2 160 88 ≤ w 160 88 + 2))))
theorem c_closeU {u8 : ms_M} {kp k t1 x : Int} (hk : (kp = 62 ∧ k = 33 ∧ t1 = 301) ∨ (kp = 71 ∧ k = 34 ∧ t1 = 302) ∨ (kp = 72 ∧ k = 35 ∧ t1 = 301)) (et : u8 49 12 = t1) (Fc : FRc u8) (l1 : 0 ≤ u8 34 1 ∧ u8 34 1 ≤ 900000) (l3 : 0 ≤ u8 34 3 ∧ u8 34 3 ≤ 2999) (h7 : 0 ≤ u8 34 7) : Pc (qf_X10_closeUnary nn kp x u8) (fun u10 => CUr nn X k t1 u8 u10) := by
  unfold qf_X10_closeUnary
  refine pc_xl ?_; intro h22 e22
  have E22 : ∀ cc x : Nat, ¬ (cc = 49 ∧ x = 11) → h22 cc x = u8 cc x := fun cc x z => by rw [e22, up_n z]
  have t12 : h22 49 12 = t1 := by rw [E22 49 12 (by omega)]; exact et
  have a1 := E22 34 1 (by omega)
  have a3 := E22 34 3 (by omega)
  have F22 : FRc h22 := frc_k Fc (fun cc x z => E22 cc x (by omega))
  have MK22 : ∀ (PB : Nat → Prop) (WL : Int → Int → Prop) (L : List (Int × Int)) (w : ms_M), MKx X PB WL L u8 w → MKx X PB WL L h22 w := fun PB WL L w Mw => mkx_c Mw (fun cc x z1 z2 z3 => E22 cc x (by omega))
  rcases hk with ⟨k1, k2, k3⟩ | ⟨k1, k2, k3⟩ | ⟨k1, k2, k3⟩
  · -- -
    subst k1 k2 k3
    refine pc_if (fun _ => ?_) (fun z => absurd (by decide) z)
    refine pc_if (fun z => absurd t12 z) (fun _ => ?_)
    unfold qj_X10_closeUnary_62
    refine pc_sv c_want1 ?_; intro u2 q2'
    rw [q2']
    refine pc_if (fun z => absurd rfl z) (fun _ => ?_)
    refine pc_sv (c_op (by omega)) ?_; intro u14 A1
    have U : ∀ cc y : Nat, ¬ (cc = 34 ∧ y = 1) → ¬ cc = 35 → u14 cc y = h22 cc y := fun cc y z1 z2 => A1.2.2 cc y (by omega) (by omega)
    have d3' := U 34 3 (by omega) (by omega)
    have d1' := A1.1
    refine pc_ret ⟨fun cc y z1 z2 z3 z4 => by rw [U cc y (by omega) (by omega)]; exact E22 cc y (by omega), frc_k F22 (fun cc x z => U cc x (by omega) (by omega)), ⟨by omega, by omega⟩, ⟨by rw [U 49 11 (by omega) (by omega), e22, up_s], by rw [U 49 12 (by omega) (by omega)]; exact t12⟩, fun h1 ht => ⟨⟨by omega, ?_⟩, fun PB WL L w Mw lw => ⟨fun _ => ?_, fun z => absurd z (by decide), fun z => absurd z (by decide)⟩⟩⟩
    · rw [d3', U 49 12 (by omega) (by omega), U 36 _ (by omega) (by omega), t12, E22 36 _ (by omega), a3]
      exact .inr ht
    · have M2 := MK22 PB WL L w Mw
      obtain ⟨-, -, ⟨m1, m2, m3, m4⟩, -⟩ := mk_t M2
      refine pc_sv (r_put (by omega)) ?_; intro u198 b1
      exact pc_ret ⟨mk_op M2 A1 b1 (fun _ => rfl) (by unfold in_R; omega), by rw [b1.2.2 160 88 (by omega) (by omega)]; omega⟩
  · -- !
    subst k1 k2 k3
    refine pc_if (fun z => absurd rfl z) (fun _ => ?_)
    refine pc_if (fun z => absurd t12 z) (fun _ => ?_)
    unfold qj_X10_closeUnary_27
    refine pc_sv c_want1 ?_; intro u18 q18
    rw [q18]
    refine pc_sv (c_truth (by omega) (by omega) (by omega) (by rw [E22 34 7 (by omega)]; exact h7) F22) ?_; intro u21 ⟨CT, ⟨d1', d3'⟩, F21, U⟩
    have b3' : u21 34 3 ≤ u8 34 3 + 1 ∧ 1 ≤ u21 34 3 := by rw [d3', a3]; split <;> omega
    refine pc_ret ⟨fun cc y z1 z2 z3 z4 => by rw [U cc y z1 z2 z3]; exact E22 cc y (by omega), F21, ⟨by omega, by omega⟩, ⟨by rw [U 49 11 (by omega) (by omega) (by omega), e22, up_s], by rw [U 49 12 (by omega) (by omega) (by omega)]; exact t12⟩, fun h1 _ => ⟨⟨?_, ?_⟩, fun PB WL L w Mw lw => ⟨fun z => absurd z (by decide), fun _ => ?_, fun z => absurd z (by decide)⟩⟩⟩
    · rw [d3', a3, if_pos (by omega)]; omega
    · rw [U 49 12 (by omega) (by omega) (by omega), t12]
      exact ctr_top CT (by omega) F22
    · refine pc_sv (m_truth CT (MK22 PB WL L w Mw) (by omega) (by unfold in_R; omega) (by omega) (by omega) (by omega)) ?_; intro w2 y
      exact pc_ret ⟨y.1, by rw [y.2]; omega⟩
  · -- ~
    subst k1 k2 k3
    refine pc_if (fun _ => ?_) (fun z => absurd (by decide) z)
    refine pc_if (fun z => absurd t12 z) (fun _ => ?_)
    unfold qj_X10_closeUnary_62
    refine pc_sv c_want1 ?_; intro u2 q2'
    rw [q2']
    refine pc_if (fun _ => ?_) (fun z => absurd (by decide) z)
    refine pc_sv (c_push (by omega)) ?_; intro u5 A1
    have b3 := A1.1
    have b1 : u5 34 1 = h22 34 1 := A1.2.2.2 34 1 (by omega) (by omega)
    refine pc_sv (c_op2 (by omega)) ?_; intro u8' ⟨g1, A2, A3⟩
    have c3' : u8' 34 3 = u5 34 3 := by rw [A3.2.2 34 3 (by omega) (by omega), A2.2.2 34 3 (by omega) (by omega)]
    have c1' : u8' 34 1 = u5 34 1 + 2 := by rw [A3.1, A2.1]; omega
    refine pc_sv (c_pop (by omega) (by omega)) ?_; intro u11 A4
    have d3' : u11 34 3 = u8 34 3 := by rw [A4.1, c3', b3, a3]; split <;> omega
    have d1' : u11 34 1 = u8 34 1 + 2 := by rw [A4.2 34 1 (by omega), c1', b1, a1]
    have U : ∀ cc y : Nat, ¬ (cc = 34 ∧ (y = 1 ∨ y = 3 ∨ y = 4)) → ¬ (cc = 35 ∨ cc = 36) → u11 cc y = h22 cc y := fun cc y z1 z2 => by rw [A4.2 cc y (by omega), A3.2.2 cc y (by omega) (by omega), A2.2.2 cc y (by omega) (by omega), A1.2.2.2 cc y (by omega) (by omega)]
    have U36 : ∀ ii : Nat, (ii : Int) < h22 34 3 → u11 36 ii = h22 36 ii := fun ii hi => by rw [A4.2 36 ii (by omega), A3.2.2 36 ii (by omega) (by omega), A2.2.2 36 ii (by omega) (by omega), A1.2.2.2 36 ii (by omega) (by omega)]
    refine pc_ret ⟨fun cc y z1 z2 z3 z4 => by rw [U cc y (by omega) z2]; exact E22 cc y (by omega), frc_k F22 (fun cc x z => U cc x (by omega) (by omega)), ⟨by omega, by omega⟩, ⟨by rw [U 49 11 (by omega) (by omega), e22, up_s], by rw [U 49 12 (by omega) (by omega)]; exact t12⟩, fun h1 ht => ⟨⟨d3', ?_⟩, fun PB WL L w Mw lw => ⟨fun z => absurd z (by decide), fun z => absurd z (by decide), fun _ => ?_⟩⟩⟩
    · rw [d3', U 49 12 (by omega) (by omega), U36 _ (by omega), t12, E22 36 _ (by omega)]
      exact .inr ht
    · refine pc_imp (m_tilde (MK22 PB WL L w Mw) A1 A2 A3 A4 (by omega) (by omega) ?_) (fun w2 y => ⟨y.1, by rw [y.2]; omega⟩)
      rw [a3, E22 36 _ (by omega)]
      exact ht
/-- closeUnary where it is wrong -/
theorem c_closeT {u8 : ms_M} {kp : Int} {tk : Nat} {G : tq_X10_readValue} (G0 : FScG_X10_readValue G) (ht : tk < bc X) (x4 : u8 2 11 = 0) (TB8 : TBc (bK X) (bP X) (bc X) u8) (hk : (kp = 71 ∧ ¬ u8 49 12 = 302 ∧ u8 49 15 = (tk : Int)) ∨ (¬ kp = 71 ∧ ¬ u8 49 12 = 301 ∧ tk = p)) : Pc (mx_sv (qf_X10_closeUnary nn kp (p : Int) u8) fun u10 => qj_X10_readUnary_116 nn G (p : Int) u10) (fun u => u 2 11 = 6 ∧ u 2 12 = bP X tk) := by
  have CB : ∀ (u2 : ms_M) (tk : Nat), (u2 2 11 = 6 ∧ u2 2 12 = bP X tk) → ∀ (x : Option ms_M), Pc x (fun u => FSc u2 u) → Pc (mx_sv x fun u10 => qj_X10_readUnary_116 nn G (p : Int) u10) (fun u => u 2 11 = 6 ∧ u 2 12 = bP X tk) := fun u2 tk s1 x HX => by
    refine pc_sv HX ?_; intro u10 F
    exact pc_imp (fs_qj_X10_readUnary_116 G0 (by rw [F.1]; omega)) (fun u F2 => ⟨by rw [F2.1, F.1]; exact s1.1, by rw [F2.2, F.2]; exact s1.2⟩)
  unfold qf_X10_closeUnary
  refine p2_x ?_
  intro h22 e22
  have E22 : ∀ cc x : Nat, ¬ (cc = 49 ∧ x = 11) → h22 cc x = u8 cc x := fun cc x z => by rw [e22, up_n z]
  have TB22 : TBc (bK X) (bP X) (bc X) h22 := tbc_k TB8 (fun cc y z => E22 cc y (by omega))
  have h11 : h22 2 11 = 0 := by rw [E22 2 11 (by omega)]; exact x4
  rcases hk with ⟨k1, k2, k3⟩ | ⟨k1, k2, k3⟩
  · rw [if_neg (show ¬ ¬ kp = 71 from fun z => z k1), if_pos (show ¬ h22 49 12 = 302 by rw [E22 49 12 (by omega)]; exact k2)]
    unfold qj_X10_closeUnary_27
    refine p2_m ?_
    refine pc_imp (c_want0 TB22 h11 ht (by rw [E22 49 15 (by omega)]; exact k3)) (fun u18 s => CB u18 tk s _ ?_)
    refine pc_sv (fs_qf_X1_truth (by omega)) ?_; intro u21 F
    exact pc_ret F
  · rw [if_pos k1, if_pos (show ¬ h22 49 12 = 301 by rw [E22 49 12 (by omega)]; exact k2)]
    unfold qj_X10_closeUnary_62
    refine p2_m ?_
    refine pc_imp (c_want0 TB22 h11 ht (by rw [k3])) (fun u2 s => CB u2 tk s _ ?_)
    have S2 : ¬ u2 2 11 = 0 := by omega
    refine pc_if (fun _ => ?_) (fun _ => ?_)
    · refine pc_sv (fs_qf_X1_push S2) ?_; intro u5 F1
      have S5 : ¬ u5 2 11 = 0 := by rw [F1.1]; exact S2
      refine pc_sv (fs_qf_X1_op_ S5) ?_; intro u8' F2
      have S8 : ¬ u8' 2 11 = 0 := by rw [F2.1]; exact S5
      refine pc_sv (fs_qf_X1_pop S8) ?_; intro u11 F3
      exact pc_ret (fs_t F1 (fs_t F2 F3))
    · refine pc_sv (fs_qf_X1_op S2) ?_; intro u14 F1
      exact pc_ret F1
end

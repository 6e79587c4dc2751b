/- RUN: objects: prints, lengths, elements -/
/-- an object of sort s is of class c -/
def ONe (Bf : Nat → Nat → Int) (nf : Nat → Nat) (cnt s c : Int) : Prop := (s < 99 ∧ UNq Bf nf cnt s c) ∨ (99 ≤ s ∧ c = 0)
section
variable {nn : Nat} {Bf : Nat → Nat → Int} {nf : Nat → Nat} {cnt : Int} {k i t P H d : Nat} {A B g r u z p h A1 B1 g0 : ms_M} {ω : Int → ms_M} {op o v w c kk tt n ty x y s e : Int} {N a : Nat} {T U : Nat → ms_M}
theorem kf_one (c8 : cnt ≤ 8) (hs : STs cnt s) (hc : ISc cnt c) : KFt Bf nf cnt (sr_T s) c ↔ ONe Bf nf cnt s c := by
  unfold STs at hs
  unfold ISc at hc
  unfold KFt ONe sr_T
  by_cases s9 : s = 99
  · rw [if_pos s9]
    constructor
    · intro w
      rcases w with w | ⟨w1, w2⟩ | ⟨w1, w2, w3⟩ | ⟨w1, w2⟩ | ⟨w1, w2, w3⟩
      · omega
      · omega
      · omega
      · exact .inr ⟨by omega, w1⟩
      · omega
    · intro w
      rcases w with ⟨w, _⟩ | ⟨_, w⟩
      · omega
      · exact .inr (.inr (.inr (.inl ⟨w, by omega⟩)))
  · rw [if_neg s9]
    constructor
    · intro w
      rcases w with w | ⟨w1, w2⟩ | ⟨w1, w2, w3⟩ | ⟨w1, w2⟩ | ⟨w1, w2, w3⟩
      · exact .inl ⟨by omega, 0, w⟩
      · omega
      · exact .inl ⟨by omega, w3⟩
      · exact .inr ⟨by omega, w1⟩
      · omega
    · intro w
      rcases w with ⟨w1, w2⟩ | ⟨w1, w2⟩
      · exact .inr (.inr (.inl ⟨by omega, by omega, w2⟩))
      · exact .inr (.inr (.inr (.inl ⟨w2, by omega⟩)))
theorem rr_one (Nk : NKn Bf nf (h 160 98)) (S : RSv Bf nf h) (hs : STs (h 160 98) (h 246 o.toNat)) (hc : 0 ≤ c) : Pc (qf_X13_isOne nn o c h) (fun u => (u = 1 ∧ ONe Bf nf (h 160 98) (h 246 o.toNat) c) ∨ (u = 0 ∧ ¬ ONe Bf nf (h 160 98) (h 246 o.toNat) c)) := by
  have c8 := S.1
  unfold STs at hs
  unfold qf_X13_isOne
  refine pc_rA ?_; intro _ _ v2 e2
  rw [e2]
  refine pc_if (fun z => ?_) (fun z => ?_)
  · refine pc_rA ?_; intro _ _ v4 e4
    rw [e4]
    refine pc_sv (vr_under Nk S ⟨by omega, by omega⟩ hc) ?_; intro u6 q6
    refine pc_ck (fun _ => pc_ret ?_)
    rcases q6 with ⟨a, b⟩ | ⟨a, b⟩
    · exact .inl ⟨a, .inl ⟨z, b⟩⟩
    · refine .inr ⟨a, fun w => ?_⟩
      rcases w with ⟨_, w⟩ | ⟨w, _⟩
      · exact b w
      · omega
  · refine pc_if (fun y => pc_ret (.inr ⟨rfl, fun w => ?_⟩)) (fun y => pc_ret (.inl ⟨rfl, .inr ⟨by omega, Classical.byContradiction y⟩⟩))
    rcases w with ⟨w, _⟩ | ⟨_, w⟩
    · omega
    · exact y w
/-- object v on both sides -/
theorem sx_ob (S : SXc Bf nf cnt A B k i t P op o) (X : RTP nn g0 ω B (t : Int) c kk N T U tt a p) (hv : 1 ≤ v ∧ v ≤ B 160 141) : (STs cnt (B 246 v.toNat) ∧ A 145 v.toNat = sr_T (B 246 v.toNat) ∧ A 146 v.toNat = B 247 v.toNat ∧ A 146 (v.toNat + 1) = B 247 v.toNat + B 248 v.toNat) ∧ (0 ≤ B 247 v.toNat ∧ 0 ≤ B 248 v.toNat ∧ B 247 v.toNat + B 248 v.toNat ≤ B 160 142) ∧ (B 160 141 ≤ 2000 ∧ B 160 142 ≤ 20000 ∧ A 143 4 = B 160 141) := by
  have E := S.2.1.2.2.2.1
  have g141 := gF_160_141 X.vs
  have g142 := gF_160_142 X.vs
  exact ⟨E.2.1 v.toNat (by omega) (by omega), (X.hp.1 v hv.1 hv.2).1, by omega, by omega, E.1.1⟩
/-- the cell of an element -/
theorem rc_cell (S : SXc Bf nf cnt A B k i t P op o) (X : RTP nn g0 ω B (t : Int) c kk N T U tt a p) (C : CPp A u t H) (hv : v = 0 ∨ (1 ≤ v ∧ v ≤ B 160 141)) : Pc (qf_X5_cellOf nn v x u) (fun y => (v = 0 ∧ y.1 = -1 ∧ y.2 = up_M u 143 20 (-2)) ∨ (¬ v = 0 ∧ ¬ (0 ≤ x ∧ x < B 248 v.toNat) ∧ y.1 = -1 ∧ y.2 = up_M u 143 20 (-3)) ∨ (¬ v = 0 ∧ (0 ≤ x ∧ x < B 248 v.toNat) ∧ y.1 = B 247 v.toNat + x ∧ y.2 = u)) := by
  have E := S.2.1.2.2.2.1
  have g141 := gF_160_141 X.vs
  have NO : (¬ v = 0 ∧ ¬ (0 ≤ x ∧ x < B 248 v.toNat)) → Pc (qj_X5_cellOf_39 nn u) (fun y => (v = 0 ∧ y.1 = -1 ∧ y.2 = up_M u 143 20 (-2)) ∨ (¬ v = 0 ∧ ¬ (0 ≤ x ∧ x < B 248 v.toNat) ∧ y.1 = -1 ∧ y.2 = up_M u 143 20 (-3)) ∨ (¬ v = 0 ∧ (0 ≤ x ∧ x < B 248 v.toNat) ∧ y.1 = B 247 v.toNat + x ∧ y.2 = u)) := fun w => by
    unfold qj_X5_cellOf_39
    exact pc_xl (fun h1 e1 => pc_ret (.inr (.inl ⟨w.1, w.2, rfl, e1⟩)))
  unfold qf_X5_cellOf
  refine pc_sv (rc_iso (B := B) (by rw [C.1 143 4 (by omega)]; exact E.1.1) (by omega) hv) ?_; intro u3 q3
  refine pc_if (fun z => ?_) (fun z => pc_xl (fun h1 e1 => pc_ret (.inl ⟨by omega, rfl, e1⟩)))
  have v0 : ¬ v = 0 := by omega
  have hv1 : 1 ≤ v ∧ v ≤ B 160 141 := by omega
  obtain ⟨⟨_, _, o3, o4⟩, ⟨o5, o6, o7⟩, o8, o9, _⟩ := sx_ob S X hv1
  refine pc_if (fun w => NO ⟨v0, by omega⟩) (fun w => ?_)
  refine pc_add (by omega) ?_; intro v5 e5
  refine pc_rA ?_; intro _ _ v6 e6
  rw [C.1 146 _ (by omega), show v5.toNat = v.toNat + 1 by omega, o4] at e6
  refine pc_rA ?_; intro _ _ v8 e8
  rw [C.1 146 _ (by omega), o3] at e8
  refine pc_sub (by omega) ?_; intro v9 e9
  refine pc_if (fun w2 => ?_) (fun w2 => NO ⟨v0, by omega⟩)
  refine pc_rA ?_; intro _ _ v11 e11
  rw [C.1 146 _ (by omega), o3] at e11
  refine pc_add (by omega) ?_; intro v12 e12
  refine pc_ret (.inr (.inr ⟨v0, by omega, ?_, rfl⟩))
  show v12 = _
  omega
/-- one cell of the heap is written alike -/
theorem rr_hw (R : RRd Bf nf cnt A B d) (hx : 0 ≤ x) (eA : A1 = up_M A 147 x.toNat v) (eB : B1 = up_M B 249 x.toNat v) : RRd Bf nf cnt A1 B1 d := by
  have C : ∀ c j : Nat, ¬ c = 147 → A1 c j = A c j := fun c j w => by rw [eA, up_n (by omega)]
  have D : ∀ c j : Nat, ¬ c = 249 → B1 c j = B c j := fun c j w => by rw [eB, up_n (by omega)]
  obtain ⟨⟨⟨a1, a2⟩, ⟨a3, a4⟩, a5, a6, a7⟩, d60, F, ⟨⟨h1, h2⟩, h3, h4, h5⟩, Pr⟩ := R
  refine ⟨⟨⟨?_, ?_⟩, ⟨?_, ?_⟩, ?_, ?_, ?_⟩, d60, fun j hj => ?_, ⟨⟨?_, ?_⟩, fun o o1 o2 => ?_, fun q => ?_, fun y hy => ?_⟩, pra_k Pr (C 143 7 (by omega)) (fun x => C 144 x (by omega)) (D 160 143 (by omega)) (fun x => D 250 x (by omega))⟩
  · rw [C 143 1 (by omega)]; exact a1
  · rw [D 160 138 (by omega)]; exact a2
  · rw [C 143 2 (by omega)]; exact a3
  · rw [D 160 139 (by omega)]; exact a4
  · rw [C 143 3 (by omega), D 160 140 (by omega)]; exact a5
  · rw [C 143 6 (by omega)]; exact a6
  · rw [D 160 149 (by omega)]; exact a7
  · exact fra_k (F j hj) (C 148 j (by omega)) (C 149 j (by omega)) (C 150 j (by omega)) (fun n hn => C 151 _ (by omega)) (fun n hn => C 152 _ (by omega)) (D 251 j (by omega)) (D 252 j (by omega)) (D 253 j (by omega)) (D 254 j (by omega)) (fun n hn => D 255 _ (by omega))
  · rw [C 143 4 (by omega), D 160 141 (by omega)]; exact h1
  · rw [C 143 5 (by omega), D 160 142 (by omega)]; exact h2
  · rw [D 160 141 (by omega)] at o2
    rw [C 145 o (by omega), C 146 o (by omega), C 146 (o + 1) (by omega), D 246 o (by omega), D 247 o (by omega), D 248 o (by omega)]
    exact h3 o o1 o2
  · rw [D 160 141 (by omega)] at q ⊢
    rw [C 146 _ (by omega), D 160 142 (by omega)]; exact h4 q
  · rw [D 160 142 (by omega)] at hy
    by_cases z : y = x.toNat
    · rw [z, eA, up_s, eB, up_s]
    · rw [eA, up_n (by omega), eB, up_n (by omega)]; exact h5 y hy
/-- the heap changed alike, then the place moves on -/
theorem fin_h (S : SXc Bf nf cnt A B k i t P op o) (R1 : RRd Bf nf cnt A1 B1 (t + 1)) (C : CTw A1 g t H) (D : RTq B1 r t H) (f1 : ∀ c j : Nat, c = 60 ∨ (c = 143 ∧ (j = 17 ∨ j = 18 ∨ j = 19)) → A1 c j = A c j) (f2 : ∀ x j : Nat, x = 251 ∨ x = 252 ∨ x = 254 → B1 x j = B x j) (hl : (H : Int) ≤ B 254 t) (e20 : g 143 20 = 0) (e1 : g 149 t = r 253 t) (e2 : g 150 t = r 254 t) (L : ∀ n : Nat, n < 30 → g 151 (30 * t + n) = r 255 (60 * t + n)) (ST : ∀ n : Nat, n < 30 → H ≤ n → (n : Int) < r 254 t → g 152 (30 * t + n) = r 255 (60 * t + 30 + n)) : STQ nn Bf nf cnt t B g r := by
  obtain ⟨E, R, th, ⟨_, ⟨c1, c2, c3⟩, _⟩, ⟨⟨_, hk, hi⟩, ⟨_, d2, d3⟩, _⟩⟩ := S
  have e98 := E.2.1.2
  refine .inl ⟨e20, .inl ⟨t, k, i, rr_top R1 (by omega) C D (.inr (by rw [f2 254 t (by omega)]; exact hl)) e1 e2 L ST, ⟨?_, ?_, ?_⟩, ⟨?_, ?_⟩, by omega, hi⟩⟩
  · rw [C 143 17 (by omega) (by omega) (by omega) (by omega), f1 143 17 (by omega)]; exact c1
  · rw [C 143 18 (by omega) (by omega) (by omega) (by omega), C 60 k (by omega) (by omega) (by omega) (by omega), f1 143 18 (by omega), f1 60 k (by omega)]; exact c2
  · rw [C 143 19 (by omega) (by omega) (by omega) (by omega), f1 143 19 (by omega)]; exact c3
  · rw [D 251 t (by omega) (by omega) (by omega) (by omega), f2 251 t (by omega)]; exact d2
  · rw [D 252 t (by omega) (by omega) (by omega) (by omega), f2 252 t (by omega)]; exact d3
/-- prints -/
theorem js_186 (S : SXc Bf nf cnt A B k i t P op o) (X : RTP nn g0 ω B (t : Int) c kk N T U tt a p) (y : op = 186) (po : 1 ≤ B 254 t) (pr : 0 ≤ B 160 143 ∧ B 160 143 ≤ 2000000000) : Pc (qf_X5_step nn A) (fun g => Pc (qf_X13_step nn B) (STQ nn Bf nf cnt t B g)) := by
  refine j_two (fun Q => cz_g186 S.2.2.2.1 y) (fun Q => rz_g186 S.2.2.2.2 y) ?_
  have h := rtp_h X
  obtain ⟨q, q4, q5, q6, q7, q8⟩ := sxc_p S
  obtain ⟨H, eH⟩ : ∃ H : Nat, B 254 t = ((H + 1 : Nat) : Int) := ⟨(B 254 t).toNat - 1, by omega⟩
  obtain ⟨c0, r0⟩ := sx_c0 S eH
  have vv := sx_v S (H := H) (by omega) (by omega)
  have f := rr_fra S.2.1 (t := t) (by omega)
  have Pr := S.2.1.2.2.2.2
  refine pc_sv (P := fun g => Pc _ (STQ nn Bf nf cnt t B g)) ?_ (fun u q => pc_ret q)
  unfold qf_X5_stepPrint
  refine pc_sv (rc_pp c0 q.1 q.2.2 (by omega)) ?_; intro u1 ⟨v1, C1⟩
  refine pc_tw (pc_sv (rr_pp r0 q.2.1 q.2.2 (by omega)) ?_); intro u2 ⟨v2, D1⟩
  have ev : u2.1 = u1.1 := by rw [v1, v2, vv]
  have a7 : u1.2 143 7 = A 143 7 := C1.1 143 7 (by omega)
  have b7 : u2.2 160 143 = B 160 143 := D1.1 160 143 (by omega)
  have p7 := Pr.1
  -- both memories with the print
  have FIN : ∀ m1 m2 : ms_M, (∀ c j : Nat, ¬ c = 144 → m1 c j = u1.2 c j) → (∀ x j : Nat, ¬ x = 250 → m2 x j = u2.2 x j) → (∀ x : Nat, x < 1000 → (x : Int) < B 160 143 + 1 → m1 144 x = m2 250 x) → Pc (qj_X13_step_1064 nn 1 m2) (fun r => Pc (qj_X5_stepPrint_25 nn m1) (fun g => STQ nn Bf nf cnt t B g r)) := fun m1 m2 M1 M2 M3 => by
    unfold qj_X13_step_1064 qj_X5_stepPrint_25
    rw [M2 160 143 (by omega), b7, M1 143 7 (by omega), a7, p7]
    refine pc_add (by omega) ?_; intro v21 e21
    refine pc_xl ?_; intro h22 e22
    refine pc_tw (pc_add (by omega) ?_); intro w2 f2
    rw [show w2 = v21 by omega]
    refine pc_xl ?_; intro h3 e3
    -- A and B with the print alone
    have R1 : RRd Bf nf cnt (fun c j => if c = 150 ∧ j = t then A c j else h3 c j) (fun x j => if x = 254 ∧ j = t then B x j else h22 x j) (t + 1) := by
      refine rr_pra S.2.1 ⟨?_, fun x x1 x2 => ?_⟩ (fun c j n1 n2 => ?_) (fun x j n1 n2 => ?_)
      · show (if _ then _ else h3 143 7) = (if _ then _ else h22 160 143)
        rw [if_neg (by omega), if_neg (by omega), e3, up_s, e22, up_s]
      · have x2 : (x : Int) < (if 160 = 254 ∧ 143 = t then B 160 143 else h22 160 143) := x2
        rw [if_neg (by omega), e22, up_s] at x2
        show (if _ then _ else h3 144 x) = (if _ then _ else h22 250 x)
        rw [if_neg (by omega), if_neg (by omega), e3, up_n (by omega), e22, up_n (by omega)]
        exact M3 x x1 (by omega)
      · show (if c = 150 ∧ j = t then A c j else h3 c j) = A c j
        by_cases z : c = 150 ∧ j = t
        · rw [if_pos z]
        · rw [if_neg z, e3, up_n (by omega), M1 c j n2, C1.1 c j z]
      · show (if x = 254 ∧ j = t then B x j else h22 x j) = B x j
        by_cases z : x = 254 ∧ j = t
        · rw [if_pos z]
        · rw [if_neg z, e22, up_n (by omega), M2 x j n2, D1.1 x j z]
    refine pc_sv (P := fun g => Pc _ (STQ nn Bf nf cnt t B g)) ?_ (fun u q => pc_ret q)
    have A9 : h3 149 t = A 149 t := by rw [e3, up_n (by omega), M1 149 t (by omega), C1.1 149 t (by omega)]
    have B9 : h22 253 t = B 253 t := by rw [e22, up_n (by omega), M2 253 t (by omega), D1.1 253 t (by omega)]
    have H1 : h3 150 t = (H : Int) := by rw [e3, up_n (by omega), M1 150 t (by omega)]; exact C1.2
    have H2 : h22 254 t = (H : Int) := by rw [e22, up_n (by omega), M2 254 t (by omega)]; exact D1.2
    refine pc_imp (rc_gop (A := h3) (t := t) (H := H) (w := 1) (cpp_rf H1) (by rw [e3, up_n (by omega), M1 143 17 (by omega), C1.1 143 17 (by omega)]; exact q.1) (by rw [A9]; exact q4) (by omega)) (fun g G => ?_)
    refine pc_imp (rr_on1 (B := h22) (t := t) (H := H) (w := 1) (rpp_rf H2) (by rw [e22, up_n (by omega), M2 160 149 (by omega), D1.1 160 149 (by omega)]; exact q.2.1) q.2.2 (by rw [B9]; exact q5) (by omega)) (fun r Rr => ?_)
    obtain ⟨G1, ⟨G2, G3⟩, G4, G5⟩ := G
    obtain ⟨r1, ⟨r2, r3⟩, r5⟩ := Rr
    refine fin_h (H := H) S R1 (fun c j w1 w2 w3 w4 => ?_) (fun x j w1 w2 w3 w4 => ?_) (fun c j w => ?_) (fun x j w => ?_) (by omega) ?_ ?_ (by rw [G3, r3]) (fun n hn => ?_) (fun n hn n1 n2 => ?_)
    · show g c j = (if c = 150 ∧ j = t then A c j else h3 c j)
      rw [if_neg (by omega)]; exact G1 c j w1 w2 w3 w4
    · show r x j = (if x = 254 ∧ j = t then B x j else h22 x j)
      rw [if_neg (by omega)]; exact r1 x j w1 w2 w3 w4
    · show (if c = 150 ∧ j = t then A c j else h3 c j) = A c j
      rw [if_neg (by omega), e3, up_n (by omega), M1 c j (by omega), C1.1 c j (by omega)]
    · show (if x = 254 ∧ j = t then B x j else h22 x j) = B x j
      by_cases z : x = 254 ∧ j = t
      · rw [if_pos z]
      · rw [if_neg z, e22, up_n (by omega), M2 x j (by omega), D1.1 x j z]
    · rw [G4, e3, up_n (by omega), M1 143 20 (by omega), C1.1 143 20 (by omega)]; exact S.2.2.1
    · rw [G2, r2, A9, B9, q6]
    · rw [G5 n hn, r5 n hn, e3, up_n (by omega), M1 151 _ (by omega), C1.1 151 _ (by omega), e22, up_n (by omega), M2 255 _ (by omega), D1.1 255 _ (by omega)]
      exact f.2.2.1 n hn
    · exfalso; omega
  rw [a7, b7, p7]
  refine pc_if (fun z => ?_) (fun z => ?_)
  · rw [if_pos z]
    refine FIN u1.2 u2.2 (fun _ _ _ => rfl) (fun _ _ _ => rfl) (fun x x1 x2 => ?_)
    rw [C1.1 144 x (by omega), D1.1 250 x (by omega)]
    exact Pr.2 x x1 (by omega)
  · rw [if_neg z]
    refine pc_wA ?_; intro _ _ h85 e85
    refine pc_tw (pc_wA ?_); intro _ _ h11 e11
    refine pc_tw ?_
    refine FIN h11 h85 (fun c j n => by rw [e11, up_n (by omega)]) (fun c j n => by rw [e85, up_n (by omega)]) (fun x x1 x2 => ?_)
    by_cases xe : x = (B 160 143).toNat
    · rw [xe, e11, up_s, e85, up_s]; exact ev.symm
    · rw [e11, up_n (by omega), e85, up_n (by omega), C1.1 144 x (by omega), D1.1 250 x (by omega)]
      exact Pr.2 x x1 (by omega)
/-- lengths -/
theorem js_190 (S : SXc Bf nf cnt A B k i t P op o) (X : RTP nn g0 ω B (t : Int) c kk N T U tt a p) (y : op = 190) (po : 1 ≤ B 254 t) (cv : ¬ B 255 (60 * t + 30 + ((B 254 t).toNat - 1)) = 0 → 1 ≤ B 255 (60 * t + 30 + ((B 254 t).toNat - 1)) ∧ B 255 (60 * t + 30 + ((B 254 t).toNat - 1)) ≤ B 160 141) : Pc (qf_X5_step nn A) (fun g => Pc (qf_X13_step nn B) (STQ nn Bf nf cnt t B g)) := by
  refine j_two (fun Q => cz_g190 S.2.2.2.1 y) (fun Q => rz_g190 S.2.2.2.2 y) ?_
  have h := rtp_h X
  have q := (sxc_p S).1
  have E := S.2.1.2.2.2.1
  have g141 := gF_160_141 X.vs
  generalize eH : (B 254 t).toNat - 1 = H at cv
  obtain ⟨c0, r0⟩ := sx_c0 S (H := H + 1) (by omega)
  have vv := sx_v S (H := H) (by omega) (by omega)
  refine pc_sv (P := fun g => Pc _ (STQ nn Bf nf cnt t B g)) ?_ (fun u q => pc_ret q)
  unfold qf_X5_stepLength qj_X13_step_1020
  refine pc_sv (rc_pp c0 q.1 q.2.2 (by omega)) ?_; intro u1 ⟨v1, C1⟩
  refine pc_tw (pc_sv (P := fun r => Pc _ (fun g => STQ nn Bf nf cnt t B g r)) ?_ (fun u q => pc_ret q))
  unfold qf_X13_fieldOf
  rw [if_pos (show ¬ op = 181 by omega)]
  unfold qj_X13_fieldOf_15
  refine pc_sv (rr_pp r0 q.2.1 q.2.2 (by omega)) ?_; intro u2 ⟨v2, D1⟩
  have ev : u2.1 = u1.1 := by rw [v1, v2, vv]
  rw [← v2, ev] at cv
  rw [ev]
  refine pc_tw ?_
  refine pc_sv (rc_iso (B := B) (v := u1.1) (by rw [C1.1 143 4 (by omega)]; exact E.1.1) (by omega) (by by_cases z : u1.1 = 0; exact .inl z; exact .inr (cv z))) ?_; intro u4 q4
  by_cases z : u1.1 = 0
  · rw [if_pos (show u4 = 0 by omega), if_neg (fun n => n z)]
    refine pc_xl ?_; intro h5 e5
    refine pc_ret (pc_se (fun r er => pc_ret ?_))
    exact fin_f S C1 D1 (by omega) (c := 2) (by omega) e5 er
  · rw [if_neg (show ¬ u4 = 0 by omega), if_pos z, if_neg (fun n => n y)]
    obtain ⟨⟨_, _, o3, o4⟩, ⟨o5, o6, o7⟩, o8, o9, _⟩ := sx_ob S X (cv z)
    have hv := cv z
    refine pc_add (by omega) ?_; intro v7 e7
    refine pc_rA ?_; intro _ _ v8 e8
    rw [C1.1 146 _ (by omega), show v7.toNat = u1.1.toNat + 1 by omega, o4] at e8
    refine pc_rA ?_; intro _ _ v10 e10
    rw [C1.1 146 _ (by omega), o3] at e10
    refine pc_sub (by omega) ?_; intro v11 e11
    refine pc_tw (pc_rA ?_); intro _ _ v35 e35
    rw [D1.1 248 _ (by omega)] at e35
    rw [show v35 = v11 by omega]
    refine pc_tw ?_
    exact pc_sv (jo_gv S C1 D1 (by omega) (by omega) (by omega)) (fun u q => pc_ret q)
end

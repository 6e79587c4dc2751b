section
/- RUN: objects: prints, lengths, elements -/
/-- an object of sort s is of class c -/
def ONe (Bf : Nat → Nat → Int) (nf : Nat → Nat) (cnt s c : Int) : Prop := (s < 99 ∧ UNq Bf nf cnt s c) ∨ (99 ≤ s ∧ c = 0)
section
variable {nn : Nat} {Bf : Nat → Nat → Int} {nf : Nat → Nat} {cnt : Int} {k i t P H d : Nat} {A B g r u z p h A1 B1 g0 : ms_M} {ω : Int → ms_M} {op o v w c kk tt n ty x y s e : Int} {N a : Nat} {T U : Nat → ms_M}
theorem kf_one (c8 : cnt ≤ 8) (hs : STs cnt s) (hc : ISc cnt c) : KFt Bf nf cnt (sr_T s) c ↔ ONe Bf nf cnt s c := by
  unfold STs at hs
  unfold ISc at hc
  unfold KFt ONe sr_T
  by_cases s9 : s = 99
  · rw [if_pos s9]
    constructor
    · intro w
      rcases w with w | ⟨w1, w2⟩ | ⟨w1, w2, w3⟩ | ⟨w1, w2⟩ | ⟨w1, w2, w3⟩
      · omega
      · omega
      · omega
      · exact .inr ⟨by omega, w1⟩
      · omega
    · intro w
      rcases w with ⟨w, _⟩ | ⟨_, w⟩
      · omega
      · exact .inr (.inr (.inr (.inl ⟨w, by omega⟩)))
  · rw [if_neg s9]
    constructor
    · intro w
      rcases w with w | ⟨w1, w2⟩ | ⟨w1, w2, w3⟩ | ⟨w1, w2⟩ | ⟨w1, w2, w3⟩
      · exact .inl ⟨by omega, 0, w⟩
      · omega
      · exact .inl ⟨by omega, w3⟩
      · exact .inr ⟨by omega, w1⟩
      · omega
    · intro w
      rcases w with ⟨w1, w2⟩ | ⟨w1, w2⟩
      · exact .inr (.inr (.inl ⟨by omega, by omega, w2⟩))
      · exact .inr (.inr (.inr (.inl ⟨w2, by omega⟩)))
theorem rr_one (Nk : NKn Bf nf (h 160 98)) (S : RSv Bf nf h) (hs : STs (h 160 98) (h 246 o.toNat)) (hc : 0 ≤ c) : Pc (qf_X13_isOne nn o c h) (fun u => (u = 1 ∧ ONe Bf nf (h 160 98) (h 246 o.toNat) c) ∨ (u = 0 ∧ ¬ ONe Bf nf (h 160 98) (h 246 o.toNat) c)) := by
  have c8 := S.1
  unfold STs at hs
  unfold qf_X13_isOne
  refine pc_rA ?_; intro _ _ v2 e2
  rw [e2]
  refine pc_if (fun z => ?_) (fun z => ?_)
  · refine pc_rA ?_; intro _ _ v4 e4
    rw [e4]
    refine pc_sv (vr_under Nk S ⟨by omega, by omega⟩ hc) ?_; intro u6 q6
    refine pc_ck (fun _ => pc_ret ?_)
    rcases q6 with ⟨a, b⟩ | ⟨a, b⟩
    · exact .inl ⟨a, .inl ⟨z, b⟩⟩
    · refine .inr ⟨a, fun w => ?_⟩
      rcases w with ⟨_, w⟩ | ⟨w, _⟩
      · exact b w
      · omega
  · refine pc_if (fun y => pc_ret (.inr ⟨rfl, fun w => ?_⟩)) (fun y => pc_ret (.inl ⟨rfl, .inr ⟨by omega, Classical.byContradiction y⟩⟩))
    rcases w with ⟨w, _⟩ | ⟨_, w⟩
    · omega
    · exact y w
/-- object v on both sides -/
theorem sx_ob (S : SXc Bf nf cnt A B k i t P op o) (X : RTP nn g0 ω B (t : Int) c kk N T U tt a p) (hv : 1 ≤ v ∧ v ≤ B 160 141) : (STs cnt (B 246 v.toNat) ∧ A 145 v.toNat = sr_T (B 246 v.toNat) ∧ A 146 v.toNat = B 247 v.toNat ∧ A 146 (v.toNat + 1) = B 247 v.toNat + B 248 v.toNat) ∧ (0 ≤ B 247 v.toNat ∧ 0 ≤ B 248 v.toNat ∧ B 247 v.toNat + B 248 v.toNat ≤ B 160 142) ∧ (B 160 141 ≤ 2000 ∧ B 160 142 ≤ 20000 ∧ A 143 4 = B 160 141) := by
  have E := S.2.1.2.2.2.1
  have g141 := gF_160_141 X.vs
  have g142 := gF_160_142 X.vs
  exact ⟨E.2.1 v.toNat (by omega) (by omega), (X.hp.1 v hv.1 hv.2).1, by omega, by omega, E.1.1⟩
/-- the cell of an element -/
theorem rc_cell (S : SXc Bf nf cnt A B k i t P op o) (X : RTP nn g0 ω B (t : Int) c kk N T U tt a p) (C : CPp A u t H) (hv : v = 0 ∨ (1 ≤ v ∧ v ≤ B 160 141)) : Pc (qf_X5_cellOf nn v x u) (fun y => (v = 0 ∧ y.1 = -1 ∧ y.2 = up_M u 143 20 (-2)) ∨ (¬ v = 0 ∧ ¬ (0 ≤ x ∧ x < B 248 v.toNat) ∧ y.1 = -1 ∧ y.2 = up_M u 143 20 (-3)) ∨ (¬ v = 0 ∧ (0 ≤ x ∧ x < B 248 v.toNat) ∧ y.1 = B 247 v.toNat + x ∧ y.2 = u)) := by
  have E := S.2.1.2.2.2.1
  have g141 := gF_160_141 X.vs
  have NO : (¬ v = 0 ∧ ¬ (0 ≤ x ∧ x < B 248 v.toNat)) → Pc (qj_X5_cellOf_39 nn u) (fun y => (v = 0 ∧ y.1 = -1 ∧ y.2 = up_M u 143 20 (-2)) ∨ (¬ v = 0 ∧ ¬ (0 ≤ x ∧ x < B 248 v.toNat) ∧ y.1 = -1 ∧ y.2 = up_M u 143 20 (-3)) ∨ (¬ v = 0 ∧ (0 ≤ x ∧ x < B 248 v.toNat) ∧ y.1 = B 247 v.toNat + x ∧ y.2 = u)) := fun w => by
    unfold qj_X5_cellOf_39
    exact pc_xl (fun h1 e1 => pc_ret (.inr (.inl ⟨w.1, w.2, rfl, e1⟩)))
  unfold qf_X5_cellOf
  refine pc_sv (rc_iso (B := B) (by rw [C.1 143 4 (by omega)]; exact E.1.1) (by omega) hv) ?_; intro u3 q3
  refine pc_if (fun z => ?_) (fun z => pc_xl (fun h1 e1 => pc_ret (.inl ⟨by omega, rfl, e1⟩)))
  have v0 : ¬ v = 0 := by omega
  have hv1 : 1 ≤ v ∧ v ≤ B 160 141 := by omega
  obtain ⟨⟨_, _, o3, o4⟩, ⟨o5, o6, o7⟩, o8, o9, _⟩ := sx_ob S X hv1
  refine pc_if (fun w => NO ⟨v0, by omega⟩) (fun w => ?_)
  refine pc_add (by omega) ?_; intro v5 e5
  refine pc_rA ?_; intro _ _ v6 e6
  rw [C.1 146 _ (by omega), show v5.toNat = v.toNat + 1 by omega, o4] at e6
  refine pc_rA ?_; intro _ _ v8 e8
  rw [C.1 146 _ (by omega), o3] at e8
  refine pc_sub (by omega) ?_; intro v9 e9
  refine pc_if (fun w2 => ?_) (fun w2 => NO ⟨v0, by omega⟩)
  refine pc_rA ?_; intro _ _ v11 e11
  rw [C.1 146 _ (by omega), o3] at e11
  refine pc_add (by omega) ?_; intro v12 e12
  refine pc_ret (.inr (.inr ⟨v0, by omega, ?_, rfl⟩))
  show v12 = _
  omega
/-- one cell of the heap is written alike -/
theorem rr_hw (R : RRd Bf nf cnt A B d) (hx : 0 ≤ x) (eA : A1 = up_M A 147 x.toNat v) (eB : B1 = up_M B 249 x.toNat v) : RRd Bf nf cnt A1 B1 d := by
  have C : ∀ c j : Nat, ¬ c = 147 → A1 c j = A c j := fun c j w => by rw [eA, up_n (by omega)]
  have D : ∀ c j : Nat, ¬ c = 249 → B1 c j = B c j := fun c j w => by rw [eB, up_n (by omega)]
  obtain ⟨⟨⟨a1, a2⟩, ⟨a3, a4⟩, a5, a6, a7⟩, d60, F, ⟨⟨h1, h2⟩, h3, h4, h5⟩, Pr⟩ := R
  refine ⟨⟨⟨?_, ?_⟩, ⟨?_, ?_⟩, ?_, ?_, ?_⟩, d60, fun j hj => ?_, ⟨⟨?_, ?_⟩, fun o o1 o2 => ?_, fun q => ?_, fun y hy => ?_⟩, pra_k Pr (C 143 7 (by omega)) (fun x => C 144 x (by omega)) (D 160 143 (by omega)) (fun x => D 250 x (by omega))⟩
  · rw [C 143 1 (by omega)]; exact a1
  · rw [D 160 138 (by omega)]; exact a2
  · rw [C 143 2 (by omega)]; exact a3
  · rw [D 160 139 (by omega)]; exact a4
  · rw [C 143 3 (by omega), D 160 140 (by omega)]; exact a5
  · rw [C 143 6 (by omega)]; exact a6
  · rw [D 160 149 (by omega)]; exact a7
  · exact fra_k (F j hj) (C 148 j (by omega)) (C 149 j (by omega)) (C 150 j (by omega)) (fun n hn => C 151 _ (by omega)) (fun n hn => C 152 _ (by omega)) (D 251 j (by omega)) (D 252 j (by omega)) (D 253 j (by omega)) (D 254 j (by omega)) (fun n hn => D 255 _ (by omega))
  · rw [C 143 4 (by omega), D 160 141 (by omega)]; exact h1
  · rw [C 143 5 (by omega), D 160 142 (by omega)]; exact h2
  · rw [D 160 141 (by omega)] at o2
    rw [C 145 o (by omega), C 146 o (by omega), C 146 (o + 1) (by omega), D 246 o (by omega), D 247 o (by omega), D 248 o (by omega)]
    exact h3 o o1 o2
  · rw [D 160 141 (by omega)] at q ⊢
    rw [C 146 _ (by omega), D 160 142 (by omega)]; exact h4 q
  · rw [D 160 142 (by omega)] at hy
    by_cases z : y = x.toNat
    · rw [z, eA, up_s, eB, up_s]
    · rw [eA, up_n (by omega), eB, up_n (by omega)]; exact h5 y hy
/-- the heap changed alike, then the place moves on -/
theorem fin_h (S : SXc Bf nf cnt A B k i t P op o) (R1 : RRd Bf nf cnt A1 B1 (t + 1)) (C : CTw A1 g t H) (D : RTq B1 r t H) (f1 : ∀ c j : Nat, c = 60 ∨ (c = 143 ∧ (j = 17 ∨ j = 18 ∨ j = 19)) → A1 c j = A c j) (f2 : ∀ x j : Nat, x = 251 ∨ x = 252 ∨ x = 254 → B1 x j = B x j) (hl : (H : Int) ≤ B 254 t) (e20 : g 143 20 = 0) (e1 : g 149 t = r 253 t) (e2 : g 150 t = r 254 t) (L : ∀ n : Nat, n < 30 → g 151 (30 * t + n) = r 255 (60 * t + n)) (ST : ∀ n : Nat, n < 30 → H ≤ n → (n : Int) < r 254 t → g 152 (30 * t + n) = r 255 (60 * t + 30 + n)) : STQ nn Bf nf cnt t B g r := by
  obtain ⟨E, R, th, ⟨_, ⟨c1, c2, c3⟩, _⟩, ⟨⟨_, hk, hi⟩, ⟨_, d2, d3⟩, _⟩⟩ := S
  have e98 := E.2.1.2
  refine .inl ⟨e20, .inl ⟨t, k, i, rr_top R1 (by omega) C D (.inr (by rw [f2 254 t (by omega)]; exact hl)) e1 e2 L ST, ⟨?_, ?_, ?_⟩, ⟨?_, ?_⟩, by omega, hi⟩⟩
  · rw [C 143 17 (by omega) (by omega) (by omega) (by omega), f1 143 17 (by omega)]; exact c1
  · rw [C 143 18 (by omega) (by omega) (by omega) (by omega), C 60 k (by omega) (by omega) (by omega) (by omega), f1 143 18 (by omega), f1 60 k (by omega)]; exact c2
  · rw [C 143 19 (by omega) (by omega) (by omega) (by omega), f1 143 19 (by omega)]; exact c3
  · rw [D 251 t (by omega) (by omega) (by omega) (by omega), f2 251 t (by omega)]; exact d2
  · rw [D 252 t (by omega) (by omega) (by omega) (by omega), f2 252 t (by omega)]; exact d3
/-- prints -/
theorem js_186 (S : SXc Bf nf cnt A B k i t P op o) (X : RTP nn g0 ω B (t : Int) c kk N T U tt a p) (y : op = 186) (po : 1 ≤ B 254 t) (pr : 0 ≤ B 160 143 ∧ B 160 143 ≤ 2000000000) : Pc (qf_X5_step nn A) (fun g => Pc (qf_X13_step nn B) (STQ nn Bf nf cnt t B g)) := by
  refine j_two (fun Q => cz_g186 S.2.2.2.1 y) (fun Q => rz_g186 S.2.2.2.2 y) ?_
  have h := rtp_h X
  obtain ⟨q, q4, q5, q6, q7, q8⟩ := sxc_p S
  obtain ⟨H, eH⟩ : ∃ H : Nat, B 254 t = ((H + 1 : Nat) : Int) := ⟨(B 254 t).toNat - 1, by omega⟩
  obtain ⟨c0, r0⟩ := sx_c0 S eH
  have vv := sx_v S (H := H) (by omega) (by omega)
  have f := rr_fra S.2.1 (t := t) (by omega)
  have Pr := S.2.1.2.2.2.2
  refine pc_sv (P := fun g => Pc _ (STQ nn Bf nf cnt t B g)) ?_ (fun u q => pc_ret q)
  unfold qf_X5_stepPrint
  refine pc_sv (rc_pp c0 q.1 q.2.2 (by omega)) ?_; intro u1 ⟨v1, C1⟩
  refine pc_tw (pc_sv (rr_pp r0 q.2.1 q.2.2 (by omega)) ?_); intro u2 ⟨v2, D1⟩
  have ev : u2.1 = u1.1 := by rw [v1, v2, vv]
  have a7 : u1.2 143 7 = A 143 7 := C1.1 143 7 (by omega)
  have b7 : u2.2 160 143 = B 160 143 := D1.1 160 143 (by omega)
  have p7 := Pr.1
  -- both memories with the print
  have FIN : ∀ m1 m2 : ms_M, (∀ c j : Nat, ¬ c = 144 → m1 c j = u1.2 c j) → (∀ x j : Nat, ¬ x = 250 → m2 x j = u2.2 x j) → (∀ x : Nat, x < 1000 → (x : Int) < B 160 143 + 1 → m1 144 x = m2 250 x) → Pc (qj_X13_step_1064 nn 1 m2) (fun r => Pc (qj_X5_stepPrint_25 nn m1) (fun g => STQ nn Bf nf cnt t B g r)) := fun m1 m2 M1 M2 M3 => by
    unfold qj_X13_step_1064 qj_X5_stepPrint_25
    rw [M2 160 143 (by omega), b7, M1 143 7 (by omega), a7, p7]
    refine pc_add (by omega) ?_; intro v21 e21
    refine pc_xl ?_; intro h22 e22
    refine pc_tw (pc_add (by omega) ?_); intro w2 f2
    rw [show w2 = v21 by omega]
    refine pc_xl ?_; intro h3 e3
    -- A and B with the print alone
    have R1 : RRd Bf nf cnt (fun c j => if c = 150 ∧ j = t then A c j else h3 c j) (fun x j => if x = 254 ∧ j = t then B x j else h22 x j) (t + 1) := by
      refine rr_pra S.2.1 ⟨?_, fun x x1 x2 => ?_⟩ (fun c j n1 n2 => ?_) (fun x j n1 n2 => ?_)
      · show (if _ then _ else h3 143 7) = (if _ then _ else h22 160 143)
        rw [if_neg (by omega), if_neg (by omega), e3, up_s, e22, up_s]
      · have x2 : (x : Int) < (if 160 = 254 ∧ 143 = t then B 160 143 else h22 160 143) := x2
        rw [if_neg (by omega), e22, up_s] at x2
        show (if _ then _ else h3 144 x) = (if _ then _ else h22 250 x)
        rw [if_neg (by omega), if_neg (by omega), e3, up_n (by omega), e22, up_n (by omega)]
        exact M3 x x1 (by omega)
      · show (if c = 150 ∧ j = t then A c j else h3 c j) = A c j
        by_cases z : c = 150 ∧ j = t
        · rw [if_pos z]
        · rw [if_neg z, e3, up_n (by omega), M1 c j n2, C1.1 c j z]
      · show (if x = 254 ∧ j = t then B x j else h22 x j) = B x j
        by_cases z : x = 254 ∧ j = t
        · rw [if_pos z]
        · rw [if_neg z, e22, up_n (by omega), M2 x j n2, D1.1 x j z]
    refine pc_sv (P := fun g => Pc _ (STQ nn Bf nf cnt t B g)) ?_ (fun u q => pc_ret q)
    have A9 : h3 149 t = A 149 t := by rw [e3, up_n (by omega), M1 149 t (by omega), C1.1 149 t (by omega)]
    have B9 : h22 253 t = B 253 t := by rw [e22, up_n (by omega), M2 253 t (by omega), D1.1 253 t (by omega)]
    have H1 : h3 150 t = (H : Int) := by rw [e3, up_n (by omega), M1 150 t (by omega)]; exact C1.2
    have H2 : h22 254 t = (H : Int) := by rw [e22, up_n (by omega), M2 254 t (by omega)]; exact D1.2
    refine pc_imp (rc_gop (A := h3) (t := t) (H := H) (w := 1) (cpp_rf H1) (by rw [e3, up_n (by omega), M1 143 17 (by omega), C1.1 143 17 (by omega)]; exact q.1) (by rw [A9]; exact q4) (by omega)) (fun g G => ?_)
    refine pc_imp (rr_on1 (B := h22) (t := t) (H := H) (w := 1) (rpp_rf H2) (by rw [e22, up_n (by omega), M2 160 149 (by omega), D1.1 160 149 (by omega)]; exact q.2.1) q.2.2 (by rw [B9]; exact q5) (by omega)) (fun r Rr => ?_)
    obtain ⟨G1, ⟨G2, G3⟩, G4, G5⟩ := G
    obtain ⟨r1, ⟨r2, r3⟩, r5⟩ := Rr
    refine fin_h (H := H) S R1 (fun c j w1 w2 w3 w4 => ?_) (fun x j w1 w2 w3 w4 => ?_) (fun c j w => ?_) (fun x j w => ?_) (by omega) ?_ ?_ (by rw [G3, r3]) (fun n hn => ?_) (fun n hn n1 n2 => ?_)
    · show g c j = (if c = 150 ∧ j = t then A c j else h3 c j)
      rw [if_neg (by omega)]; exact G1 c j w1 w2 w3 w4
    · show r x j = (if x = 254 ∧ j = t then B x j else h22 x j)
      rw [if_neg (by omega)]; exact r1 x j w1 w2 w3 w4
    · show (if c = 150 ∧ j = t then A c j else h3 c j) = A c j
      rw [if_neg (by omega), e3, up_n (by omega), M1 c j (by omega), C1.1 c j (by omega)]
    · show (if x = 254 ∧ j = t then B x j else h22 x j) = B x j
      by_cases z : x = 254 ∧ j = t
      · rw [if_pos z]
      · rw [if_neg z, e22, up_n (by omega), M2 x j (by omega), D1.1 x j z]
    · rw [G4, e3, up_n (by omega), M1 143 20 (by omega), C1.1 143 20 (by omega)]; exact S.2.2.1
    · rw [G2, r2, A9, B9, q6]
    · rw [G5 n hn, r5 n hn, e3, up_n (by omega), M1 151 _ (by omega), C1.1 151 _ (by omega), e22, up_n (by omega), M2 255 _ (by omega), D1.1 255 _ (by omega)]
      exact f.2.2.1 n hn
    · exfalso; omega
  rw [a7, b7, p7]
  refine pc_if (fun z => ?_) (fun z => ?_)
  · rw [if_pos z]
    refine FIN u1.2 u2.2 (fun _ _ _ => rfl) (fun _ _ _ => rfl) (fun x x1 x2 => ?_)
    rw [C1.1 144 x (by omega), D1.1 250 x (by omega)]
    exact Pr.2 x x1 (by omega)
  · rw [if_neg z]
    refine pc_wA ?_; intro _ _ h85 e85
    refine pc_tw (pc_wA ?_); intro _ _ h11 e11
    refine pc_tw ?_
    refine FIN h11 h85 (fun c j n => by rw [e11, up_n (by omega)]) (fun c j n => by rw [e85, up_n (by omega)]) (fun x x1 x2 => ?_)
    by_cases xe : x = (B 160 143).toNat
    · rw [xe, e11, up_s, e85, up_s]; exact ev.symm
    · rw [e11, up_n (by omega), e85, up_n (by omega), C1.1 144 x (by omega), D1.1 250 x (by omega)]
      exact Pr.2 x x1 (by omega)
/-- lengths -/
theorem js_190 (S : SXc Bf nf cnt A B k i t P op o) (X : RTP nn g0 ω B (t : Int) c kk N T U tt a p) (y : op = 190) (po : 1 ≤ B 254 t) (cv : ¬ B 255 (60 * t + 30 + ((B 254 t).toNat - 1)) = 0 → 1 ≤ B 255 (60 * t + 30 + ((B 254 t).toNat - 1)) ∧ B 255 (60 * t + 30 + ((B 254 t).toNat - 1)) ≤ B 160 141) : Pc (qf_X5_step nn A) (fun g => Pc (qf_X13_step nn B) (STQ nn Bf nf cnt t B g)) := by
  refine j_two (fun Q => cz_g190 S.2.2.2.1 y) (fun Q => rz_g190 S.2.2.2.2 y) ?_
  have h := rtp_h X
  have q := (sxc_p S).1
  have E := S.2.1.2.2.2.1
  have g141 := gF_160_141 X.vs
  generalize eH : (B 254 t).toNat - 1 = H at cv
  obtain ⟨c0, r0⟩ := sx_c0 S (H := H + 1) (by omega)
  have vv := sx_v S (H := H) (by omega) (by omega)
  refine pc_sv (P := fun g => Pc _ (STQ nn Bf nf cnt t B g)) ?_ (fun u q => pc_ret q)
  unfold qf_X5_stepLength qj_X13_step_1020
  refine pc_sv (rc_pp c0 q.1 q.2.2 (by omega)) ?_; intro u1 ⟨v1, C1⟩
  refine pc_tw (pc_sv (P := fun r => Pc _ (fun g => STQ nn Bf nf cnt t B g r)) ?_ (fun u q => pc_ret q))
  unfold qf_X13_fieldOf
  rw [if_pos (show ¬ op = 181 by omega)]
  unfold qj_X13_fieldOf_15
  refine pc_sv (rr_pp r0 q.2.1 q.2.2 (by omega)) ?_; intro u2 ⟨v2, D1⟩
  have ev : u2.1 = u1.1 := by rw [v1, v2, vv]
  rw [← v2, ev] at cv
  rw [ev]
  refine pc_tw ?_
  refine pc_sv (rc_iso (B := B) (v := u1.1) (by rw [C1.1 143 4 (by omega)]; exact E.1.1) (by omega) (by by_cases z : u1.1 = 0; exact .inl z; exact .inr (cv z))) ?_; intro u4 q4
  by_cases z : u1.1 = 0
  · rw [if_pos (show u4 = 0 by omega), if_neg (fun n => n z)]
    refine pc_xl ?_; intro h5 e5
    refine pc_ret (pc_se (fun r er => pc_ret ?_))
    exact fin_f S C1 D1 (by omega) (c := 2) (by omega) e5 er
  · rw [if_neg (show ¬ u4 = 0 by omega), if_pos z, if_neg (fun n => n y)]
    obtain ⟨⟨_, _, o3, o4⟩, ⟨o5, o6, o7⟩, o8, o9, _⟩ := sx_ob S X (cv z)
    have hv := cv z
    refine pc_add (by omega) ?_; intro v7 e7
    refine pc_rA ?_; intro _ _ v8 e8
    rw [C1.1 146 _ (by omega), show v7.toNat = u1.1.toNat + 1 by omega, o4] at e8
    refine pc_rA ?_; intro _ _ v10 e10
    rw [C1.1 146 _ (by omega), o3] at e10
    refine pc_sub (by omega) ?_; intro v11 e11
    refine pc_tw (pc_rA ?_); intro _ _ v35 e35
    rw [D1.1 248 _ (by omega)] at e35
    rw [show v35 = v11 by omega]
    refine pc_tw ?_
    exact pc_sv (jo_gv S C1 D1 (by omega) (by omega) (by omega)) (fun u q => pc_ret q)
end
end
section
/- RUN: elements and kinds -/
section
variable {nn : Nat} {Bf : Nat → Nat → Int} {nf : Nat → Nat} {cnt : Int} {k i t P H d : Nat} {A B g r u z p h A1 B1 g0 : ms_M} {ω : Int → ms_M} {op o v w c kk tt n ty x y s e : Int} {N a : Nat} {T U : Nat → ms_M}
/-- a cell is written on both sides, the place moves on -/
theorem jo_hw (S : SXc Bf nf cnt A B k i t P op o) (C : CPp A u t H) (D : RPp B z t H) (hl : (H : Int) ≤ B 254 t) (hw : -10000 ≤ w ∧ w ≤ 10000) : Pc (wr_A 20000 147 x v u fun h2 => mx_sv (qf_X5_goOn nn w h2) fun u4 => some u4) (fun g => Pc (wr_A 20000 249 x v z fun h14 => qj_X13_step_1150 nn w h14) (STQ nn Bf nf cnt t B g)) := by
  obtain ⟨q, q4, q5, q6, q7, q8⟩ := sxc_p S
  have f := rr_fra S.2.1 (t := t) (by omega)
  refine pc_wA ?_; intro x0 x1 h2 e2
  refine pc_tw (pc_wA ?_); intro _ _ h14 e14
  refine pc_tw ?_
  refine pc_sv (P := fun g => Pc _ (STQ nn Bf nf cnt t B g)) ?_ (fun u q => pc_ret q)
  have C2 : CPp (up_M A 147 x.toNat v) h2 t H := by
    refine ⟨fun c j w => ?_, by rw [e2, up_n (by omega)]; exact C.2⟩
    by_cases y : c = 147 ∧ j = x.toNat
    · rw [y.1, y.2, e2, up_s, up_s]
    · rw [e2, up_n y, up_n y, C.1 c j w]
  have D2 : RPp (up_M B 249 x.toNat v) h14 t H := by
    refine ⟨fun c j w => ?_, by rw [e14, up_n (by omega)]; exact D.2⟩
    by_cases y : c = 249 ∧ j = x.toNat
    · rw [y.1, y.2, e14, up_s, up_s]
    · rw [e14, up_n y, up_n y, D.1 c j w]
  refine pc_imp (rc_gop C2 (by rw [up_n (by omega)]; exact q.1) (by rw [up_n (by omega)]; exact q4) (w := w) (by omega)) (fun g G => ?_)
  refine pc_imp (rr_on1 D2 (by rw [up_n (by omega)]; exact q.2.1) q.2.2 (by rw [up_n (by omega)]; exact q5) (w := w) (by omega)) (fun r Rr => ?_)
  obtain ⟨G1, ⟨G2, G3⟩, G4, G5⟩ := G
  obtain ⟨r1, ⟨r2, r3⟩, r5⟩ := Rr
  refine fin_h (H := H) S (rr_hw S.2.1 x0 rfl rfl) G1 r1 (fun c j w => by rw [up_n (by omega)]) (fun x j w => by rw [up_n (by omega)]) hl ?_ ?_ (by rw [G3, r3]) (fun n hn => ?_) (fun n hn n1 n2 => ?_)
  · rw [G4, up_n (by omega)]; exact S.2.2.1
  · rw [G2, r2, up_n (by omega), up_n (by omega), q6]
  · rw [G5 n hn, r5 n hn, up_n (by omega), up_n (by omega)]; exact f.2.2.1 n hn
  · exfalso; omega
/-- an element is read -/
theorem js_46 (S : SXc Bf nf cnt A B k i t P op o) (X : RTP nn g0 ω B (t : Int) c kk N T U tt a p) (y : op = 46 ∨ op = 50) (po : B 254 t = ((H + 1 + 1 : Nat) : Int)) (cv : ¬ B 255 (60 * t + 30 + H) = 0 → 1 ≤ B 255 (60 * t + 30 + H) ∧ B 255 (60 * t + 30 + H) ≤ B 160 141) : Pc (qf_X5_step nn A) (fun g => Pc (qf_X13_step nn B) (STQ nn Bf nf cnt t B g)) := by
  refine j_two (fun Q => cz_g46 S.2.2.2.1 y) (fun Q => rz_g46 S.2.2.2.2 (by omega)) ?_
  have h := rtp_h X
  have q := (sxc_p S).1
  have E := S.2.1.2.2.2.1
  have g141 := gF_160_141 X.vs
  obtain ⟨c0, r0⟩ := sx_c0 S po
  have vv := sx_v S (H := H) (by omega) (by omega)
  have vw := sx_v S (H := H + 1) (by omega) (by omega)
  unfold qj_X5_stepObject_164 qj_X13_step_958
  refine pc_sv (P := fun g => Pc _ (STQ nn Bf nf cnt t B g)) ?_ (fun u q => pc_ret q)
  refine pc_tw (pc_sv (P := fun r => Pc _ (fun g => STQ nn Bf nf cnt t B g r)) ?_ (fun u q => pc_ret q))
  unfold qf_X13_element
  rw [if_pos (show op ≤ 50 by omega)]
  unfold qj_X13_element_14
  refine pc_sv (rr_pp r0 q.2.1 q.2.2 (by omega)) ?_; intro u19 ⟨v19, D19⟩
  refine pc_sv (rr_pp D19 q.2.1 q.2.2 (by omega)) ?_; intro u21 ⟨v21, D21⟩
  refine pc_tw ?_
  unfold qf_X5_stepElement
  refine pc_sv (rc_pp c0 q.1 q.2.2 (by omega)) ?_; intro u2 ⟨v2, C2⟩
  refine pc_sv (rc_pp C2 q.1 q.2.2 (by omega)) ?_; intro u4 ⟨v4, C4⟩
  have ea : u4.1 = u21.1 := by rw [v4, v21, vv]
  have ei : u2.1 = u19.1 := by rw [v2, v19, vw]
  rw [← v21] at cv
  rw [ea, ei]
  refine pc_sv (rc_cell S X C4 (by by_cases w : u21.1 = 0; exact .inl w; exact .inr (cv w))) ?_; intro u6 q6
  have F54 : u6.2 = up_M u4.2 143 20 (-3) → Pc (some u6.2) (fun g => Pc (qj_X13_element_54 nn u21.2) (STQ nn Bf nf cnt t B g)) := fun e => by
    unfold qj_X13_element_54
    exact pc_ret (pc_se (fun r er => pc_ret (fin_f S C4 D21 (by omega) (c := 3) (by omega) e er)))
  rcases q6 with ⟨w1, w2, w3⟩ | ⟨w1, w2, w3, w4⟩ | ⟨w1, w2, w3, w4⟩
  · rw [if_pos (show u6.1 < 0 by omega), if_neg (fun n => n w1)]
    exact pc_ret (pc_se (fun r er => pc_ret (fin_f S C4 D21 (by omega) (c := 2) (by omega) w3 er)))
  · rw [if_pos (show u6.1 < 0 by omega), if_pos w1]
    by_cases i0 : u19.1 < 0
    · rw [if_pos i0]; exact F54 w4
    · rw [if_neg i0]
      refine pc_tw (pc_rA ?_); intro _ _ v23 e23
      rw [D21.1 248 _ (by omega)] at e23
      rw [if_neg (show ¬ u19.1 < v23 by omega)]
      exact pc_tw (F54 w4)
  · obtain ⟨⟨_, _, o3, o4⟩, ⟨o5, o6, o7⟩, o8, o9, _⟩ := sx_ob S X (cv w1)
    rw [if_neg (show ¬ u6.1 < 0 by omega), if_neg (show ¬ 20000 ≤ u6.1 by omega), if_pos w1, if_neg (show ¬ u19.1 < 0 by omega)]
    refine pc_tw (pc_rA ?_); intro _ _ v23 e23
    rw [D21.1 248 _ (by omega)] at e23
    rw [if_pos (show u19.1 < v23 by omega), if_pos (show ¬ op = 83 by omega)]
    unfold qj_X13_element_99
    rw [if_pos (show op ≤ 50 by omega)]
    refine pc_rA ?_; intro _ _ v5 e5
    rw [D21.1 247 _ (by omega)] at e5
    refine pc_add (by omega) ?_; intro v6 e6
    refine pc_rA ?_; intro _ _ v7 e7
    rw [D21.1 249 _ (by omega)] at e7
    refine pc_tw (pc_rA ?_); intro _ _ v8 e8
    rw [w4, C4.1 147 _ (by omega), w3, E.2.2.2 _ (by omega)] at e8
    rw [w4, show v7 = v8 by rw [e7, e8, e6, e5]]
    exact pc_sv (jo_gv S C4 D21 (by omega) (by omega) (by omega)) (fun u q => pc_ret q)
/-- an element is written -/
theorem js_79 (S : SXc Bf nf cnt A B k i t P op o) (X : RTP nn g0 ω B (t : Int) c kk N T U tt a p) (y : op = 79 ∨ op = 83) (po : B 254 t = ((H + 1 + 1 + 1 : Nat) : Int)) (cv : ¬ B 255 (60 * t + 30 + H) = 0 → (1 ≤ B 255 (60 * t + 30 + H) ∧ B 255 (60 * t + 30 + H) ≤ B 160 141) ∧ (op = 83 → 100 ≤ B 246 (B 255 (60 * t + 30 + H)).toNat)) (cw : op = 83 → ¬ B 255 (60 * t + 30 + (H + 1 + 1)) = 0 → 1 ≤ B 255 (60 * t + 30 + (H + 1 + 1)) ∧ B 255 (60 * t + 30 + (H + 1 + 1)) ≤ B 160 141) : Pc (qf_X5_step nn A) (fun g => Pc (qf_X13_step nn B) (STQ nn Bf nf cnt t B g)) := by
  refine j_two (fun Q => cz_g79 S.2.2.2.1 y) (fun Q => rz_g46 S.2.2.2.2 (by omega)) ?_
  have h := rtp_h X
  have q := (sxc_p S).1
  have E := S.2.1.2.2.2.1
  have g141 := gF_160_141 X.vs
  obtain ⟨c0, r0⟩ := sx_c0 S po
  have vv := sx_v S (H := H) (by omega) (by omega)
  have vw := sx_v S (H := H + 1) (by omega) (by omega)
  have vx := sx_v S (H := H + 1 + 1) (by omega) (by omega)
  unfold qj_X5_stepObject_171 qj_X13_step_958
  refine pc_sv (P := fun g => Pc _ (STQ nn Bf nf cnt t B g)) ?_ (fun u q => pc_ret q)
  refine pc_tw (pc_sv (P := fun r => Pc _ (fun g => STQ nn Bf nf cnt t B g r)) ?_ (fun u q => pc_ret q))
  unfold qf_X13_element
  rw [if_neg (show ¬ op ≤ 50 by omega)]
  refine pc_sv (rr_pp r0 q.2.1 q.2.2 (by omega)) ?_; intro u40 ⟨v40, D40⟩
  unfold qj_X13_element_14
  refine pc_sv (rr_pp D40 q.2.1 q.2.2 (by omega)) ?_; intro u19 ⟨v19, D19⟩
  refine pc_sv (rr_pp D19 q.2.1 q.2.2 (by omega)) ?_; intro u21 ⟨v21, D21⟩
  refine pc_tw ?_
  unfold qf_X5_stepGiveElement
  refine pc_sv (rc_pp c0 q.1 q.2.2 (by omega)) ?_; intro u1 ⟨v1, C1⟩
  refine pc_sv (rc_pp C1 q.1 q.2.2 (by omega)) ?_; intro u2 ⟨v2, C2⟩
  refine pc_sv (rc_pp C2 q.1 q.2.2 (by omega)) ?_; intro u4 ⟨v4, C4⟩
  have ea : u4.1 = u21.1 := by rw [v4, v21, vv]
  have ei : u2.1 = u19.1 := by rw [v2, v19, vw]
  have ev : u1.1 = u40.1 := by rw [v1, v40, vx]
  rw [← v21] at cv
  rw [← v40] at cw
  rw [ea, ei, ev]
  refine pc_sv (rc_cell S X C4 (by by_cases w : u21.1 = 0; exact .inl w; exact .inr (cv w).1)) ?_; intro u6 q6
  have F54 : u6.2 = up_M u4.2 143 20 (-3) → Pc (some u6.2) (fun g => Pc (qj_X13_element_54 nn u21.2) (STQ nn Bf nf cnt t B g)) := fun e => by
    unfold qj_X13_element_54
    exact pc_ret (pc_se (fun r er => pc_ret (fin_f S C4 D21 (by omega) (c := 3) (by omega) e er)))
  rcases q6 with ⟨w1, w2, w3⟩ | ⟨w1, w2, w3, w4⟩ | ⟨w1, w2, w3, w4⟩
  · rw [if_pos (show u6.1 < 0 by omega), if_neg (fun n => n w1)]
    exact pc_ret (pc_se (fun r er => pc_ret (fin_f S C4 D21 (by omega) (c := 2) (by omega) w3 er)))
  · rw [if_pos (show u6.1 < 0 by omega), if_pos w1]
    by_cases i0 : u19.1 < 0
    · rw [if_pos i0]; exact F54 w4
    · rw [if_neg i0]
      refine pc_tw (pc_rA ?_); intro _ _ v23 e23
      rw [D21.1 248 _ (by omega)] at e23
      rw [if_neg (show ¬ u19.1 < v23 by omega)]
      exact pc_tw (F54 w4)
  · obtain ⟨⟨o1, o2, o3, o4⟩, ⟨o5, o6, o7⟩, o8, o9, _⟩ := sx_ob S X (cv w1).1
    rw [if_neg (show ¬ u6.1 < 0 by omega), if_pos (show u6.1 < 20000 by omega), if_pos w1, if_neg (show ¬ u19.1 < 0 by omega)]
    refine pc_tw (pc_rA ?_); intro _ _ v23 e23
    rw [D21.1 248 _ (by omega)] at e23
    rw [if_pos (show u19.1 < v23 by omega)]
    refine pc_tw ?_
    have WR : Pc (qj_X5_stepGiveElement_89 nn u40.1 u6.1 u6.2) (fun g => Pc (qj_X13_element_99 nn op u40.1 u19.1 u21.1 u21.2) (STQ nn Bf nf cnt t B g)) := by
      unfold qj_X5_stepGiveElement_89 qj_X13_element_99
      rw [if_neg (show ¬ op ≤ 50 by omega), w4, w3]
      refine pc_tw (pc_rA ?_); intro _ _ v12 e12
      rw [D21.1 247 _ (by omega)] at e12
      refine pc_add (by omega) ?_; intro v13 e13
      rw [show v13 = B 247 u21.1.toNat + u19.1 by omega]
      exact pc_tw (jo_hw S C4 D21 (by omega) (by omega))
    by_cases y83 : op = 83
    · rw [if_neg (fun n => n y83), if_neg (fun n => n y83)]
      refine pc_sv (rc_iso (B := B) (v := u40.1) (by rw [w4, C4.1 143 4 (by omega)]; exact E.1.1) (by omega) (by by_cases w : u40.1 = 0; exact .inl w; exact .inr (cw y83 w))) ?_; intro u14 q14
      by_cases v0 : u40.1 = 0
      · rw [if_pos (show u14 = 0 by omega), if_pos v0]; exact WR
      · rw [if_neg (show ¬ u14 = 0 by omega), if_neg v0]
        obtain ⟨⟨s1, s2, s3, s4⟩, _⟩ := sx_ob S X (cw y83 v0)
        have a100 := (cv w1).2 y83
        obtain ⟨⟨c1, c2, _⟩, ⟨d1, d2⟩, Nk, _⟩ := S.1
        have c8 := c1.1.1
        have CU : CSw Bf nf u4.2 := csw_r c1 (fun c j _ w => C4.1 c j (by omega))
        have e56 : u4.2 56 3 = cnt := (C4.1 56 3 (by omega)).trans c2
        have RZ : RSv Bf nf u21.2 := rsv_k d1 (fun x j w => D21.1 x j (by omega)) (D21.1 160 98 (by omega))
        have e98 : u21.2 160 98 = cnt := (D21.1 160 98 (by omega)).trans d2
        have hc : ISc cnt (B 246 u21.1.toNat - 100) := by unfold STs at o1; unfold ISc; omega
        have KF := kf_one (Bf := Bf) (nf := nf) (by omega) s1 hc
        rw [w4]
        refine pc_rA ?_; intro _ _ v18 e18
        rw [C4.1 145 _ (by omega), s2] at e18
        refine pc_rA ?_; intro _ _ v20 e20
        rw [C4.1 145 _ (by omega), o2] at e20
        refine pc_sv (P := fun e => e = B 246 u21.1.toNat - 100) ?_ ?_
        · have e20b : v20 = B 246 u21.1.toNat := by rw [e20]; unfold sr_T; rw [if_neg (by omega)]
          unfold qf_X4_elementOf
          unfold ISc at hc
          refine pc_if (fun _ => ?_) (fun z => absurd z (by omega))
          refine pc_if (fun z => absurd z (by omega)) (fun _ => ?_)
          refine pc_if (fun z => absurd z (by omega)) (fun _ => ?_)
          refine pc_sub (by omega) ?_; intro v1 e1
          exact pc_ret (by omega)
        intro u21' q21
        rw [q21, e18]
        have TI : TIs cnt (sr_T (B 246 u40.1.toNat)) := by
          unfold STs at s1
          unfold TIs ISc sr_T
          by_cases w9 : B 246 u40.1.toNat = 99
          · rw [if_pos w9]; exact ⟨fun w => by omega, fun w => by omega⟩
          · rw [if_neg w9]; exact ⟨fun w => by omega, fun w => by omega⟩
        have VF := vc_kfits (nn := nn) (y := B 246 u21.1.toNat - 100) CU (x := sr_T (B 246 u40.1.toNat)) (by rw [e56]; exact TI)
        rw [e56, KF] at VF
        refine pc_sv VF ?_; intro u23 q23
        refine pc_tw ?_
        refine pc_rA ?_; intro _ _ v25 e25
        rw [D21.1 246 _ (by omega)] at e25
        have hc' := hc
        unfold ISc at hc'
        refine pc_sub (by omega) ?_; intro v26 e26
        rw [show v26 = B 246 u21.1.toNat - 100 by omega]
        have RO := rr_one (nn := nn) (o := u40.1) (c := B 246 u21.1.toNat - 100) (h := u21.2) (by rw [e98]; exact Nk) RZ (by rw [e98, D21.1 246 _ (by omega)]; exact s1) (by omega)
        rw [e98, D21.1 246 _ (by omega)] at RO
        refine pc_sv (P := fun u => (u = 1 ∧ ONe Bf nf cnt (B 246 u40.1.toNat) (B 246 u21.1.toNat - 100)) ∨ (u = 0 ∧ ¬ ONe Bf nf cnt (B 246 u40.1.toNat) (B 246 u21.1.toNat - 100))) ?_ ?_
        · unfold qf_X13_storesIn
          exact pc_sv RO (fun u q => pc_ck (fun _ => pc_ret q))
        intro u28 q28
        refine pc_tw ?_
        rw [w4] at WR
        by_cases on : ONe Bf nf cnt (B 246 u40.1.toNat) (B 246 u21.1.toNat - 100)
        · have a1 : u23 = 1 := by
            rcases q23 with q | q
            · exact q.1
            · exact absurd on q.2
          have a2 : u28 = 1 := by
            rcases q28 with q | q
            · exact q.1
            · exact absurd on q.2
          rw [if_pos (show ¬ u23 = 0 by omega), if_pos (show ¬ u28 = 0 by omega)]
          exact WR
        · have a1 : u23 = 0 := by
            rcases q23 with q | q
            · exact absurd q.2 on
            · exact q.1
          have a2 : u28 = 0 := by
            rcases q28 with q | q
            · exact absurd q.2 on
            · exact q.1
          rw [if_neg (show ¬ ¬ u23 = 0 by omega), if_neg (show ¬ ¬ u28 = 0 by omega)]
          refine pc_xl ?_; intro h24 e24
          exact pc_ret (pc_se (fun r er => pc_ret (fin_f S C4 D21 (by omega) (c := 7) (by omega) e24 er)))
    · rw [if_pos y83, if_pos y83]; exact WR
end
end
section
/- RUN: kinds asked, new objects -/
section
variable {nn : Nat} {Bf : Nat → Nat → Int} {nf : Nat → Nat} {cnt : Int} {k i t P H d n m s : Nat} {A B g r u z p h A1 B1 g0 : ms_M} {ω : Int → ms_M} {op o v w c kk tt ty x y a e : Int} {N ai : Nat} {T U : Nat → ms_M}
theorem tis_sr (c8 : cnt ≤ 8) (hs : STs cnt x) : TIs cnt (sr_T x) := by
  unfold STs at hs
  unfold TIs ISc sr_T
  by_cases w9 : x = 99
  · rw [if_pos w9]; exact ⟨fun w => by omega, fun w => by omega⟩
  · rw [if_neg w9]; exact ⟨fun w => by omega, fun w => by omega⟩
theorem tpa_k (T1 : TPA Bf nf cnt A B t k i) (C : ∀ c j : Nat, c = 60 ∨ (c = 143 ∧ (j = 17 ∨ j = 18 ∨ j = 19)) → g c j = A c j) (D : ∀ x j : Nat, x = 251 ∨ x = 252 → r x j = B x j) : TPA Bf nf cnt g r t k i := by
  obtain ⟨⟨c1, c2, c3⟩, ⟨d1, d2⟩, e⟩ := T1
  refine ⟨⟨?_, ?_, ?_⟩, ⟨?_, ?_⟩, e⟩
  · rw [C 143 17 (by omega)]; exact c1
  · rw [C 143 18 (by omega), C 60 k (by omega)]; exact c2
  · rw [C 143 19 (by omega)]; exact c3
  · rw [D 251 t (by omega)]; exact d1
  · rw [D 252 t (by omega)]; exact d2
theorem sx_tp (S : SXc Bf nf cnt A B k i t P op o) : TPA Bf nf cnt A B t k i := by
  obtain ⟨E, R, th, ⟨_, cc, _⟩, ⟨⟨_, hk, hi⟩, ⟨_, d2, d3⟩, _⟩⟩ := S
  have e98 := E.2.1.2
  exact ⟨cc, ⟨d2, d3⟩, by omega, hi⟩
/-- from a state in the middle of a step: a value comes -/
theorem fin_m (R1 : RRd Bf nf cnt A1 B1 (t + 1)) (T1 : TPA Bf nf cnt A1 B1 t k i) (th : A1 143 20 = 0) (C : CGV A1 g t H v (A1 149 t + w)) (D : RGV B1 r t H v (B1 253 t + w)) (hl : (H : Int) ≤ B1 254 t) : STQ nn Bf nf cnt t B g r := by
  have e := (rr_fra R1 (t := t) (by omega)).2.1.1
  rw [e] at C
  refine .inl ⟨C.2.2.2.1.trans th, .inl ⟨t, k, i, jgv R1 (by omega) C D hl, tpa_k T1 (fun c j w => C.1 c j (by omega) (by omega) (by omega) (by omega)) (fun x j w => D.1 x j (by omega) (by omega) (by omega) (by omega))⟩⟩
theorem jo_gm (R1 : RRd Bf nf cnt A1 B1 (t + 1)) (T1 : TPA Bf nf cnt A1 B1 t k i) (th : A1 143 20 = 0) (t60 : t < 60) (h30 : H < 30) (hl : B1 254 t = (H : Int)) (hp : 0 ≤ B1 253 t ∧ B1 253 t ≤ 10000) (hw : -10000 ≤ w ∧ w ≤ 10000) : Pc (qf_X5_give nn v w A1) (fun g => Pc (mx_sv (qf_X13_give nn v B1) fun y => qj_X13_step_1150 nn w y) (STQ nn Bf nf cnt t B g)) := by
  have f := (rr_fra R1 (t := t) (by omega)).2.1
  have b149 := R1.1.2.2.2.2
  exact pc_imp (rc_gvp (cpp_rf (f.2.trans hl)) T1.1.1 t60 h30 (by rw [f.1]; exact hp) hw) (fun g G => pc_imp (rr_gvp (rpp_rf hl) (by omega) t60 h30 hp hw) (fun r Rr => fin_m R1 T1 th G Rr (by omega)))
/-- no room -/
theorem rr_room (R1 : RRd Bf nf cnt A1 B1 (t + 1)) : ENR (up_M A1 143 1 4) (up_M B1 160 138 4) := by
  obtain ⟨⟨⟨a1, a2⟩, ⟨a3, a4⟩, a5, a6, a7⟩, d60, F, ⟨⟨h1, h2⟩, _⟩, Pr⟩ := R1
  refine ⟨⟨?_, ?_, ?_⟩, ⟨?_, ?_, ?_, ?_⟩, pra_k Pr (by rw [up_n (by omega)]) (fun x => by rw [up_n (by omega)]) (by rw [up_n (by omega)]) (fun x => by rw [up_n (by omega)]), fun w => ?_, fun _ _ => ?_⟩
  · rw [up_s, up_s]
  · rw [up_s]; omega
  · rw [up_s]; omega
  · rw [up_n (by omega), up_n (by omega)]; exact a5
  · rw [up_n (by omega), up_n (by omega)]; exact h1
  · rw [up_n (by omega), up_n (by omega)]; exact h2
  · rw [up_n (by omega), up_n (by omega)]; omega
  · rw [up_s] at w; exfalso; omega
  · rw [up_n (by omega)]; exact a3
/-- a new object on both sides -/
theorem rr_mk {uu vv : Int × ms_M} (R : RRd Bf nf cnt A1 B1 d) (en : B1 160 141 = (n : Int)) (em : B1 160 142 = (m : Int)) (st : STs cnt a) (hs : n < 2000 ∧ m + s ≤ 20000) (C : (∀ c j : Nat, ¬ (c = 143 ∧ (j = 4 ∨ j = 5)) → ¬ (c = 145 ∧ j = n + 1) → ¬ (c = 146 ∧ (j = n + 1 ∨ j = n + 2)) → ¬ (c = 147 ∧ m ≤ j ∧ j < m + s) → uu.2 c j = A1 c j) ∧ (uu.2 143 4 = ((n + 1 : Nat) : Int) ∧ uu.2 143 5 = ((m + s : Nat) : Int)) ∧ (uu.2 145 (n + 1) = sr_T a ∧ uu.2 146 (n + 1) = (m : Int) ∧ uu.2 146 (n + 2) = ((m + s : Nat) : Int)) ∧ ∀ x : Nat, m ≤ x → x < m + s → uu.2 147 x = 0) (D : (∀ c j : Nat, ¬ (c = 160 ∧ (j = 141 ∨ j = 142)) → ¬ ((246 ≤ c ∧ c ≤ 248) ∧ j = n + 1) → ¬ (c = 249 ∧ m ≤ j ∧ j < m + s) → vv.2 c j = B1 c j) ∧ (vv.2 160 141 = ((n + 1 : Nat) : Int) ∧ vv.2 160 142 = ((m + s : Nat) : Int)) ∧ (vv.2 246 (n + 1) = a ∧ vv.2 247 (n + 1) = (m : Int) ∧ vv.2 248 (n + 1) = (s : Int)) ∧ ∀ x : Nat, m ≤ x → x < m + s → vv.2 249 x = 0) : RRd Bf nf cnt uu.2 vv.2 d := by
  obtain ⟨C0, ⟨C4, C5⟩, ⟨C6, C7, C8⟩, C9⟩ := C
  obtain ⟨D0, ⟨D4, D5⟩, ⟨D6, D7, D8⟩, D9⟩ := D
  have C' : ∀ c j : Nat, ¬ (c = 143 ∧ (j = 4 ∨ j = 5)) → ¬ (145 ≤ c ∧ c ≤ 147) → uu.2 c j = A1 c j := fun c j w1 w2 => C0 c j w1 (by omega) (by omega) (by omega)
  have D' : ∀ c j : Nat, ¬ (c = 160 ∧ (j = 141 ∨ j = 142)) → ¬ (246 ≤ c ∧ c ≤ 249) → vv.2 c j = B1 c j := fun c j w1 w2 => D0 c j w1 (by omega) (by omega)
  obtain ⟨⟨⟨a1, a2⟩, ⟨a3, a4⟩, a5, a6, a7⟩, d60, F, ⟨⟨h1, h2⟩, h3, h4, h5⟩, Pr⟩ := R
  refine ⟨⟨⟨?_, ?_⟩, ⟨?_, ?_⟩, ?_, ?_, ?_⟩, d60, fun j hj => ?_, ⟨⟨?_, ?_⟩, fun o o1 o2 => ?_, fun q => ?_, fun y hy => ?_⟩, pra_k Pr (C' 143 7 (by omega) (by omega)) (fun x => C' 144 x (by omega) (by omega)) (D' 160 143 (by omega) (by omega)) (fun x => D' 250 x (by omega) (by omega))⟩
  · rw [C' 143 1 (by omega) (by omega)]; exact a1
  · rw [D' 160 138 (by omega) (by omega)]; exact a2
  · rw [C' 143 2 (by omega) (by omega)]; exact a3
  · rw [D' 160 139 (by omega) (by omega)]; exact a4
  · rw [C' 143 3 (by omega) (by omega), D' 160 140 (by omega) (by omega)]; exact a5
  · rw [C' 143 6 (by omega) (by omega)]; exact a6
  · rw [D' 160 149 (by omega) (by omega)]; exact a7
  · exact fra_k (F j hj) (C' 148 j (by omega) (by omega)) (C' 149 j (by omega) (by omega)) (C' 150 j (by omega) (by omega)) (fun n hn => C' 151 _ (by omega) (by omega)) (fun n hn => C' 152 _ (by omega) (by omega)) (D' 251 j (by omega) (by omega)) (D' 252 j (by omega) (by omega)) (D' 253 j (by omega) (by omega)) (D' 254 j (by omega) (by omega)) (fun n hn => D' 255 _ (by omega) (by omega))
  · rw [C4, D4]
  · rw [C5, D5]
  · rw [D4] at o2
    by_cases z : o = n + 1
    · rw [z, D6, D7, D8, C6, C7, show n + 1 + 1 = n + 2 by omega, C8]
      exact ⟨st, rfl, rfl, by omega⟩
    · obtain ⟨g1, g2, g3, g4⟩ := h3 o o1 (by omega)
      rw [D0 246 o (by omega) (by omega) (by omega), D0 247 o (by omega) (by omega) (by omega), D0 248 o (by omega) (by omega) (by omega), C0 145 o (by omega) (by omega) (by omega) (by omega), C0 146 o (by omega) (by omega) (by omega) (by omega)]
      refine ⟨g1, g2, g3, ?_⟩
      by_cases z2 : o = n
      · have h4 := h4 (by omega)
        rw [show (B1 160 141).toNat + 1 = o + 1 by omega] at h4
        rw [show o + 1 = n + 1 by omega, C7, ← g4, h4, em]
      · rw [C0 146 (o + 1) (by omega) (by omega) (by omega) (by omega)]; exact g4
  · rw [D4, show (((n + 1 : Nat) : Int)).toNat + 1 = n + 2 by omega, C8, D5]
  · rw [D5] at hy
    by_cases z : m ≤ y
    · rw [C9 y z (by omega), D9 y z (by omega)]
    · rw [C0 147 y (by omega) (by omega) (by omega) (by omega), D0 249 y (by omega) (by omega) (by omega)]; exact h5 y (by omega)
/-- make, then give, on both sides, behind what was taken -/
theorem jo_new (S : SXc Bf nf cnt A B k i t P op o) (X : RTP nn g0 ω B (t : Int) c kk N T U tt ai p) (C : CPp A u t H) (D : RPp B z t H) (h30 : H < 30) (hl : (H : Int) ≤ B 254 t) (st : STs cnt a) (x0 : 0 ≤ x ∧ x ≤ 2147483647) : Pc (qf_X5_giveNew nn (sr_T a) x u) (fun g => Pc (mx_sv (qf_X13_make_ nn a x z) fun u13 => qj_X13_fresh__89 nn u13.1 u13.2) (STQ nn Bf nf cnt t B g)) := by
  have g141 := gF_160_141 X.vs
  have g142 := gF_160_142 X.vs
  obtain ⟨q, q4, q5, q6, q7, q8⟩ := sxc_p S
  have R1 := jpp S.2.1 (by omega) C D hl
  have T1 : TPA Bf nf cnt u z t k i := tpa_k (sx_tp S) (fun c j w => C.1 c j (by omega)) (fun x j w => D.1 x j (by omega))
  have th : u 143 20 = 0 := (C.1 143 20 (by omega)).trans S.2.2.1
  obtain ⟨n, en⟩ : ∃ n : Nat, z 160 141 = (n : Int) := ⟨(z 160 141).toNat, by rw [D.1 160 141 (by omega)]; omega⟩
  obtain ⟨m, em⟩ : ∃ m : Nat, z 160 142 = (m : Int) := ⟨(z 160 142).toNat, by rw [D.1 160 142 (by omega)]; omega⟩
  obtain ⟨s, es⟩ : ∃ s : Nat, x = (s : Int) := ⟨x.toNat, by omega⟩
  have nr : n ≤ 2000 := by have := D.1 160 141 (by omega); omega
  have mr : m ≤ 20000 := by have := D.1 160 142 (by omega); omega
  have E := R1.2.2.2.1.1
  rw [es]
  unfold qf_X5_giveNew
  refine pc_sv (rc_make (a := sr_T a) (s := s) (E.1.trans en) (E.2.trans em) nr mr (by omega)) ?_; intro u2 q2
  refine pc_tw ?_
  refine pc_sv (rr_make (a := a) (s := s) en em nr mr (by omega)) ?_; intro u13 q13
  refine pc_tw ?_
  unfold qj_X13_fresh__89
  rcases q2 with ⟨a1, a2, a3⟩ | ⟨a1, a2, a3⟩
  · rcases q13 with ⟨b1, b2, b3⟩ | ⟨b1, b2, b3⟩
    · rw [if_pos a2, if_neg (fun n => n b2), a3, b3]
      refine pc_ret (pc_ret (.inl ⟨?_, .inr (rr_room R1)⟩))
      rw [up_n (by omega)]; exact th
    · exfalso; omega
  · rcases q13 with ⟨b1, b2, b3⟩ | ⟨b1, b2, b3⟩
    · exfalso; omega
    · rw [if_neg (show ¬ u2.1 = 0 by omega), if_pos (show ¬ u13.1 = 0 by omega), b2, a2]
      have R2 := rr_mk R1 en em st a1 a3 b3
      have e254 : u13.2 254 t = (H : Int) := by rw [b3.1 254 t (by omega) (by omega) (by omega)]; exact D.2
      have e253 : u13.2 253 t = B 253 t := by rw [b3.1 253 t (by omega) (by omega) (by omega)]; exact D.1 253 t (by omega)
      have T2 : TPA Bf nf cnt u2.2 u13.2 t k i := tpa_k T1 (fun c j w => a3.1 c j (by omega) (by omega) (by omega) (by omega)) (fun x j w => b3.1 x j (by omega) (by omega) (by omega))
      exact pc_sv (jo_gm R2 T2 ((a3.1 143 20 (by omega) (by omega) (by omega) (by omega)).trans th) q.2.2 h30 e254 (by rw [e253]; exact q5) (by omega)) (fun u q => pc_ret q)
theorem js_187 (hn : 1000000 ≤ nn) (S : SXc Bf nf cnt A B k i t P op o) (X : RTP nn g0 ω B (t : Int) c kk N T U tt ai p) (y : op = 187) (ps : PS1 (T ai) 0 ty (U ai)) (t3 : tg_S (Bf k) (nf k) o = 3) (n91 : ¬ Bf k (na_S (Bf k) (nf k) (pt_S (Bf k) (nf k) o 0)) = 91) (hc : ISc cnt (cq_F Bf nf cnt (Bf k) (nf k) o)) : Pc (qf_X5_step nn A) (fun g => Pc (qf_X13_step nn B) (STQ nn Bf nf cnt t B g)) := by
  refine j_two (fun Q => cz_g187 S.2.2.2.1 y) (fun Q => rz_g187 S.2.2.2.2 (by omega)) ?_
  have h := rtp_h X
  have h2 := ps_h X ps
  have q := (sxc_p S).1
  obtain ⟨c0, r0⟩ := sx_c0 S (H := (B 254 t).toNat) (by omega)
  obtain ⟨i1, i2, i3⟩ := tg_in (B := Bf k) (n := nf k) (k := o) (by omega)
  obtain ⟨⟨c1, c2, c3⟩, ⟨d1, d2⟩, Nk, HG, _⟩ := S.1
  have g3 := HG.1
  have hk := S.2.2.2.2.1.2.1
  unfold qj_X13_step_1077
  refine pc_sv (sx_ln S rfl rfl (fun _ => rfl) ⟨i1, i2⟩) ?_; intro u29 ⟨_, q29⟩
  have q29 := q29.1 t3
  refine pc_sv (sx_ln S rfl rfl (fun _ => rfl) ⟨i1, i2⟩) ?_; intro u32 ⟨_, q32⟩
  have q32 := q32.1 t3
  generalize ec : cq_F Bf nf cnt (Bf k) (nf k) o = C at *
  have hc' := hc
  unfold ISc at hc'
  have cc := c3.1 C.toNat (by omega)
  rw [show ((C.toNat : Nat) : Int) = C by omega] at cc
  refine pc_sv (P := fun v => v = ca_F Bf nf cnt C) ?_ ?_
  · rw [q32]
    unfold qf_X7_cellsOf
    refine pc_sv (P := fun v => v = 1) ?_ ?_
    · unfold qf_X4_isClass
      refine pc_if (fun w => absurd w (by omega)) (fun _ => ?_)
      exact pc_if (fun w => absurd w (by omega)) (fun _ => pc_ret rfl)
    intro u1 q1
    refine pc_if (fun w => absurd w (by omega)) (fun _ => ?_)
    refine pc_rA ?_; intro _ _ v3 e3
    exact pc_ret (e3.trans cc)
  intro u34 q34
  refine pc_tw (pc_sv (P := fun r => Pc _ (fun g => STQ nn Bf nf cnt t B g r)) ?_ (fun u q => pc_ret q))
  unfold qf_X13_fresh_
  rw [if_neg (fun n => n y)]
  unfold qj_X13_fresh__15
  rw [if_pos (show (0 : Int) ≤ 0 by omega), if_pos (show ¬ op = 188 by omega)]
  have CI := rr_cin (nn := nn) (o := o) (t := t) (k := k) (h := B) (by rw [d2]; exact Nk) d1 hk q.2.1 q.2.2 S.2.2.2.2.2.1.2.1 t3 n91
  rw [d2, ec] at CI
  refine pc_sv CI ?_; intro u16 q16
  rw [q16]
  unfold qj_X13_fresh__43
  rw [if_neg (fun n => n y)]
  refine pc_sv (vr_fields HG Nk d1 d2 (.inr hc)) ?_; intro u11 q11
  -- how many cells
  obtain ⟨fv, ef, _, f0, f204⟩ := rt_fields (k := C) (R := B) (nn := nn) (g := g0) (ω := ω) hn X.rx.1 X.rx.2.1 X.vs (by have := X.rx.2.1.1; omega)
  have ef2 := vr_fields HG Nk d1 d2 (.inr hc) fv ef
  have cr : 0 ≤ ca_F Bf nf cnt C ∧ ca_F Bf nf cnt C ≤ 204 := by omega
  rw [q11]
  refine pc_tw ?_
  refine pc_sv (P := fun g => Pc _ (STQ nn Bf nf cnt t B g)) ?_ (fun u q => pc_ret q)
  rw [q29, q34]
  have e1 : sr_T C = C := by unfold sr_T; rw [if_neg (by omega)]
  have J := jo_new S X c0 r0 (by omega) (by omega) (a := C) (x := ca_F Bf nf cnt C) (.inl hc') ⟨cr.1, by omega⟩
  rw [e1] at J
  exact J
end
end
section
/- RUN: arrays, kinds asked, fields -/
section
variable {nn : Nat} {Bf : Nat → Nat → Int} {nf : Nat → Nat} {cnt : Int} {k i t P H d : Nat} {A B g r u z p h w A1 B1 g0 : ms_M} {ω : Int → ms_M} {op o v wd c kk tt ty x y a e s uu bb j : Int} {N ai : Nat} {T U : Nat → ms_M}
theorem js_188 (S : SXc Bf nf cnt A B k i t P op o) (X : RTP nn g0 ω B (t : Int) c kk N T U tt ai p) (y : op = 188 ∨ op = 189) (po : B 254 t = ((H + 1 : Nat) : Int)) (hc : op = 189 → tg_S (Bf k) (nf k) o = 3 ∧ (¬ Bf k (na_S (Bf k) (nf k) (pt_S (Bf k) (nf k) o 0)) = 91) ∧ ISc cnt (cq_F Bf nf cnt (Bf k) (nf k) o)) : Pc (qf_X5_step nn A) (fun g => Pc (qf_X13_step nn B) (STQ nn Bf nf cnt t B g)) := by
  refine j_two (fun Q => cz_g188 S.2.2.2.1 y) (fun Q => rz_g187 S.2.2.2.2 (by omega)) ?_
  have h := rtp_h X
  have q := (sxc_p S).1
  obtain ⟨c0, r0⟩ := sx_c0 S po
  have vv := sx_v S (H := H) (by omega) (by omega)
  have g255 := gA_255 X.vs (60 * t + 30 + H) (by omega)
  -- what both do behind the class's link
  have J : ∀ a : Int, STs cnt a → ∀ G : Int → ms_M → Option ms_M, (∀ v z, 0 ≤ v → G v z = (mx_sv (qf_X13_make_ nn a v z) fun u13 => qj_X13_fresh__89 nn u13.1 u13.2)) → Pc (qf_X5_stepNewArray nn (sr_T a) A) (fun g => Pc (mx_sv (qf_X13_drop nn B) fun u22 => if 0 ≤ u22.1 then G u22.1 u22.2 else (mx_sv (qf_X13_fails nn 6 u22.2) fun u19 => some u19)) (STQ nn Bf nf cnt t B g)) := fun a st G eG => by
    unfold qf_X5_stepNewArray
    refine pc_sv (rc_pp c0 q.1 q.2.2 (by omega)) ?_; intro u2 ⟨v2, C2⟩
    refine pc_tw (pc_sv (rr_pp r0 q.2.1 q.2.2 (by omega)) ?_); intro u22 ⟨v22, D22⟩
    have ev : u22.1 = u2.1 := by rw [v2, v22, vv]
    rw [ev]
    rw [← v22, ev] at g255
    by_cases n0 : 0 ≤ u2.1
    · rw [if_pos n0, if_pos n0, eG _ _ n0]
      refine pc_tw ?_
      exact pc_sv (jo_new S X C2 D22 (by omega) (by omega) st ⟨n0, g255.2⟩) (fun u q => pc_ret q)
    · rw [if_neg n0, if_neg n0]
      refine pc_se (fun r er => pc_ret (pc_xl (fun h5 e5 => pc_ret ?_)))
      exact fin_f S C2 D22 (by omega) (c := 6) (by omega) e5 er
  unfold qj_X5_stepObject_243 qj_X13_step_1077 qf_X13_fresh_
  rw [if_pos (show ¬ op = 187 by omega)]
  by_cases y8 : op = 188
  · rw [if_neg (fun n => n y8)]
    refine pc_sv (P := fun g => Pc _ (STQ nn Bf nf cnt t B g)) ?_ (fun u q => pc_ret q)
    refine pc_tw (pc_sv (P := fun r => Pc _ (fun g => STQ nn Bf nf cnt t B g r)) ?_ (fun u q => pc_ret q))
    unfold qj_X13_fresh__15
    have J1 := J 99 (.inr (.inl rfl)) (fun v z => qj_X13_fresh__43 nn op v 0 z) (fun v z _ => by
      show qj_X13_fresh__43 nn op v 0 z = _
      unfold qj_X13_fresh__43
      rw [if_pos (show ¬ op = 187 by omega), if_neg (fun n => n y8)]; rfl)
    rw [show sr_T 99 = 200 by rfl] at J1
    simp only [if_neg (show ¬ ¬ op = 188 from fun n => n y8)]
    exact pc_tw J1
  · rw [if_pos y8]
    obtain ⟨t3, n91, hi⟩ := hc (by omega)
    obtain ⟨i1, i2, i3⟩ := tg_in (B := Bf k) (n := nf k) (k := o) (by omega)
    obtain ⟨⟨c1, c2, c3⟩, ⟨d1, d2⟩, Nk, HG, _⟩ := S.1
    have g3 := HG.1
    have hk := S.2.2.2.2.1.2.1
    have hi' := hi
    unfold ISc at hi'
    refine pc_sv (sx_ln S rfl rfl (fun _ => rfl) ⟨i1, i2⟩) ?_; intro u6 ⟨_, q6⟩
    have q6 := q6.1 t3
    refine pc_add (by omega) ?_; intro v7 e7
    refine pc_sv (P := fun g => Pc _ (STQ nn Bf nf cnt t B g)) ?_ (fun u q => pc_ret q)
    refine pc_tw (pc_sv (P := fun r => Pc _ (fun g => STQ nn Bf nf cnt t B g r)) ?_ (fun u q => pc_ret q))
    unfold qj_X13_fresh__15
    simp only [if_pos (show ¬ op = 188 from y8)]
    have es : sr_T v7 = v7 := by unfold sr_T; rw [if_neg (by omega)]
    have J1 := J v7 (.inr (.inr ⟨by omega, by omega⟩)) (fun v z => (mx_sv (qf_X13_make_ nn v7 v z) fun u13 => qj_X13_fresh__89 nn u13.1 u13.2)) (fun v z _ => rfl)
    rw [es] at J1
    refine pc_tw (pc_imp J1 (fun g Jg => ?_))
    refine pc_se (fun u22 e22 => ?_)
    have P22 := rr_pp r0 q.2.1 q.2.2 (by omega) u22 e22
    have CI := rr_cin (nn := nn) (o := o) (t := t) (k := k) (h := u22.2) (by rw [P22.2.1 160 98 (by omega), d2]; exact Nk) (rsv_k d1 (fun x j w => P22.2.1 x j (by omega)) (P22.2.1 160 98 (by omega))) (by rw [P22.2.1 160 98 (by omega)]; exact hk) (by rw [P22.2.1 160 149 (by omega)]; exact q.2.1) q.2.2 (by rw [P22.2.1 251 t (by omega)]; exact S.2.2.2.2.2.1.2.1) t3 n91
    rw [P22.2.1 160 98 (by omega), d2] at CI
    refine pc_if (fun n0 => ?_) (fun n0 => ?_)
    · refine pc_sv CI ?_; intro u16 q16
      unfold qj_X13_fresh__43
      rw [if_pos (show ¬ op = 187 by omega), if_pos y8]
      refine pc_add (by omega) ?_; intro v8 e8
      rw [show v8 = v7 by omega]
      intro r er
      refine Jg r ?_
      rw [e22]
      show (if 0 ≤ u22.1 then _ else _) = some r
      rw [if_pos n0]; exact er
    · intro r er
      refine Jg r ?_
      rw [e22]
      show (if 0 ≤ u22.1 then _ else _) = some r
      rw [if_neg n0]; exact er
/-- kinds asked -/
theorem is_68e : (mx_sv (qj_X13_is_68 nn v z) fun u16 => if ¬ u16.1 = 0 then qj_X13_step_1150 nn wd u16.2 else some u16.2) = mx_sv (qf_X13_give nn v z) fun y => qj_X13_step_1150 nn wd y := by
  unfold qj_X13_is_68
  cases qf_X13_give nn v z <;> rfl
theorem is_fe : (mx_sv (mx_sv (qf_X13_fails nn 5 z) fun u4 => some ((0 : Int), u4)) fun u16 => if ¬ u16.1 = 0 then qj_X13_step_1150 nn wd u16.2 else some u16.2) = qf_X13_fails nn 5 z := by
  cases qf_X13_fails nn 5 z <;> rfl
theorem jo_38 (S : SXc Bf nf cnt A B k i t P op o) (C : CPp A u t H) (D : RPp B z t H) (h30 : H < 30) (hl : (H : Int) ≤ B 254 t) (hs : s = 0 ∨ s = 1) : Pc (qj_X5_stepKin_38 nn op v s u) (fun g => Pc (mx_sv (qj_X13_is_27 nn op v s z) fun u16 => if ¬ u16.1 = 0 then qj_X13_step_1150 nn 2 u16.2 else some u16.2) (STQ nn Bf nf cnt t B g)) := by
  have G : ∀ v : Int, Pc (mx_sv (qf_X5_give nn v 2 u) fun u4 => some u4) (fun g => Pc (mx_sv (qj_X13_is_68 nn v z) fun u16 => if ¬ u16.1 = 0 then qj_X13_step_1150 nn 2 u16.2 else some u16.2) (STQ nn Bf nf cnt t B g)) := fun v => by
    rw [is_68e]
    exact pc_sv (jo_gv S C D h30 hl (by omega)) (fun u q => pc_ret q)
  unfold qj_X5_stepKin_38 qj_X13_is_27
  by_cases y3 : op = 193
  · rw [if_neg (show ¬ ¬ op = 193 from fun n => n y3), if_neg (show ¬ ¬ op = 193 from fun n => n y3)]
    by_cases s0 : s = 0
    · rw [if_pos s0, if_pos s0]; exact G 0
    · rw [if_neg s0, if_neg s0]; exact G 1
  · rw [if_pos (show ¬ op = 193 from y3), if_pos (show ¬ op = 193 from y3)]
    by_cases v0 : v = 0
    · rw [if_pos v0, if_pos v0]; exact G v
    · rw [if_neg v0, if_neg v0]
      by_cases s0 : s = 0
      · rw [if_pos s0, if_neg (show ¬ ¬ s = 0 from fun n => n s0), is_fe]
        exact pc_xl (fun h5 e5 => pc_ret (fun r er => fin_f S C D hl (c := 5) (by omega) e5 er))
      · rw [if_neg s0, if_pos (show ¬ s = 0 from s0)]; exact G v
theorem js_192 (S : SXc Bf nf cnt A B k i t P op o) (X : RTP nn g0 ω B (t : Int) c kk N T U tt ai p) (y : op = 192 ∨ op = 193) (po : B 254 t = ((H + 1 : Nat) : Int)) (cv : ¬ B 255 (60 * t + 30 + H) = 0 → 1 ≤ B 255 (60 * t + 30 + H) ∧ B 255 (60 * t + 30 + H) ≤ B 160 141) (t3 : tg_S (Bf k) (nf k) o = 3) (n91 : ¬ Bf k (na_S (Bf k) (nf k) (pt_S (Bf k) (nf k) o 0)) = 91) (hc : ISc cnt (cq_F Bf nf cnt (Bf k) (nf k) o)) : Pc (qf_X5_step nn A) (fun g => Pc (qf_X13_step nn B) (STQ nn Bf nf cnt t B g)) := by
  refine j_two (fun Q => cz_g192 S.2.2.2.1 y) (fun Q => rz_g192 S.2.2.2.2 y) ?_
  have h := rtp_h X
  have q := (sxc_p S).1
  have E := S.2.1.2.2.2.1
  have g141 := gF_160_141 X.vs
  obtain ⟨c0, r0⟩ := sx_c0 S po
  have vv := sx_v S (H := H) (by omega) (by omega)
  obtain ⟨i1, i2, i3⟩ := tg_in (B := Bf k) (n := nf k) (k := o) (by omega)
  obtain ⟨⟨c1, c2, c3⟩, ⟨d1, d2⟩, Nk, HG, _⟩ := S.1
  have g3 := HG.1
  have hk := S.2.2.2.2.1.2.1
  unfold qj_X5_stepObject_285 qj_X13_step_1111
  refine pc_sv (sx_ln S rfl rfl (fun _ => rfl) ⟨i1, i2⟩) ?_; intro u2 ⟨_, q2⟩
  have q2 := q2.1 t3
  refine pc_sv (P := fun g => Pc _ (STQ nn Bf nf cnt t B g)) ?_ (fun u q => pc_ret q)
  unfold qf_X5_stepKin
  refine pc_sv (rc_pp c0 q.1 q.2.2 (by omega)) ?_; intro u11 ⟨v11, C11⟩
  have cv' := cv
  rw [← vv, ← v11] at cv'
  refine pc_sv (rc_iso (B := B) (v := u11.1) (by rw [C11.1 143 4 (by omega)]; exact E.1.1) (by omega) (by by_cases w : u11.1 = 0; exact .inl w; exact .inr (cv' w))) ?_; intro u13 q13
  -- the reference behind its drop
  have RF : ∀ (s : Int) (x : Option ms_M), (s = 0 ∨ s = 1) → (∀ u14 : Int × ms_M, RPp B u14.2 t H → u14.1 = u11.1 → Pc x (fun g => Pc (mx_sv (qj_X13_is_27 nn op u11.1 s u14.2) fun u16 => if ¬ u16.1 = 0 then qj_X13_step_1150 nn 2 u16.2 else some u16.2) (STQ nn Bf nf cnt t B g))) → ((u11.1 = 0 ∧ s = 0) ∨ (¬ u11.1 = 0 ∧ ((s = 1 ∧ ONe Bf nf cnt (B 246 u11.1.toNat) (cq_F Bf nf cnt (Bf k) (nf k) o)) ∨ (s = 0 ∧ ¬ ONe Bf nf cnt (B 246 u11.1.toNat) (cq_F Bf nf cnt (Bf k) (nf k) o))))) → Pc x (fun g => Pc (mx_sv (qf_X13_is nn op o B) fun u16 => if ¬ u16.1 = 0 then qj_X13_step_1150 nn 2 u16.2 else some u16.2) (STQ nn Bf nf cnt t B g)) := fun s x s01 HX cs => by
    refine pc_tw ?_
    intro r er g eg
    unfold qf_X13_is at er
    have K : ∀ {α β : Type} (x : Option α) (f : α → Option β) (F : β → Option ms_M) (rr : ms_M), mx_sv (mx_sv x f) F = some rr → ∃ a, x = some a ∧ mx_sv (f a) F = some rr := fun x f F rr e => by
      cases x with
      | none => exact nomatch e
      | some a => exact ⟨a, rfl, e⟩
    obtain ⟨u14, e14, er⟩ := K _ _ _ _ er
    obtain ⟨v14, D14⟩ := rr_pp r0 q.2.1 q.2.2 (by omega) u14 e14
    have ev : u14.1 = u11.1 := by rw [v14, v11, vv]
    rw [ev] at er
    have HH := HX u14 D14 ev g eg r
    rcases cs with ⟨z0, s0⟩ | ⟨z0, cs⟩
    · rw [if_pos z0] at er
      rw [s0] at HH
      exact HH er
    · rw [if_neg z0] at er
      obtain ⟨u16, e16, er⟩ := K _ _ _ _ er
      have CI := rr_cin (nn := nn) (o := o) (t := t) (k := k) (h := u14.2) (by rw [D14.1 160 98 (by omega), d2]; exact Nk) (rsv_k d1 (fun x j w => D14.1 x j (by omega)) (D14.1 160 98 (by omega))) (by rw [D14.1 160 98 (by omega)]; exact hk) (by rw [D14.1 160 149 (by omega)]; exact q.2.1) q.2.2 (by rw [D14.1 251 t (by omega)]; exact S.2.2.2.2.2.1.2.1) t3 n91 u16 e16
      rw [D14.1 160 98 (by omega), d2] at CI
      obtain ⟨u18, e18, er⟩ := K _ _ _ _ er
      have ob := (sx_ob S X (cv' z0)).1.1
      have RO := rr_one (nn := nn) (o := u11.1) (c := u16) (h := u14.2) (by rw [D14.1 160 98 (by omega), d2]; exact Nk) (rsv_k d1 (fun x j w => D14.1 x j (by omega)) (D14.1 160 98 (by omega))) (by rw [D14.1 160 98 (by omega), d2, D14.1 246 _ (by omega)]; exact ob) (by rw [CI]; exact hc.1) u18 e18
      rw [D14.1 160 98 (by omega), d2, D14.1 246 _ (by omega), CI] at RO
      rcases cs with ⟨s1, on⟩ | ⟨s0, on⟩
      · have e1 : u18 = 1 := by
          rcases RO with w | w
          · exact w.1
          · exact absurd on w.2
        rw [if_neg (show ¬ u18 = 0 by omega)] at er
        rw [s1] at HH
        exact HH er
      · have e1 : u18 = 0 := by
          rcases RO with w | w
          · exact absurd w.2 on
          · exact w.1
        rw [if_pos e1] at er
        rw [s0] at HH
        exact HH er
  by_cases z0 : u11.1 = 0
  · rw [if_pos (show u13 = 0 by omega)]
    exact RF 0 _ (.inl rfl) (fun u14 D14 ev => jo_38 S C11 D14 (by omega) (by omega) (.inl rfl)) (.inl ⟨z0, rfl⟩)
  · rw [if_neg (show ¬ u13 = 0 by omega)]
    obtain ⟨⟨s1, s2, s3, s4⟩, _⟩ := sx_ob S X (cv' z0)
    refine pc_rA ?_; intro _ _ v17 e17
    rw [C11.1 145 _ (by omega), s2] at e17
    rw [q2, e17]
    have CU : CSw Bf nf u11.2 := csw_r c1 (fun c j _ w => C11.1 c j (by omega))
    have e56 : u11.2 56 3 = cnt := (C11.1 56 3 (by omega)).trans c2
    have KF := kf_one (Bf := Bf) (nf := nf) (by omega) s1 hc
    have VF := vc_kfits (nn := nn) (y := cq_F Bf nf cnt (Bf k) (nf k) o) CU (x := sr_T (B 246 u11.1.toNat)) (by rw [e56]; exact tis_sr (by omega) s1)
    rw [e56, KF] at VF
    refine pc_sv VF ?_; intro u19 q19
    rcases q19 with ⟨a1, a2⟩ | ⟨a1, a2⟩
    · rw [if_neg (show ¬ u19 = 0 by omega)]
      exact RF 1 _ (.inr rfl) (fun u14 D14 ev => jo_38 S C11 D14 (by omega) (by omega) (.inr rfl)) (.inr ⟨z0, .inl ⟨rfl, a2⟩⟩)
    · rw [if_pos a1]
      exact RF 0 _ (.inl rfl) (fun u14 D14 ev => jo_38 S C11 D14 (by omega) (by omega) (.inl rfl)) (.inr ⟨z0, .inr ⟨rfl, a2⟩⟩)
end
end
section
/- RUN: fields -/
section
variable {nn : Nat} {Bf : Nat → Nat → Int} {nf : Nat → Nat} {cnt : Int} {k i t P H d : Nat} {A B g r u z p h w A1 B1 g0 f : ms_M} {ω : Int → ms_M} {op o v wd c kk tt ty x y a e s uu bb j q L : Int} {N ai : Nat} {T U : Nat → ms_M}
theorem kd_40 {fn : Nat → Int} {a e : Int} (K : KD fn a e) : ¬ fn a.toNat = 40 := by
  rcases K with K | ⟨_, K⟩ | K
  · omega
  · rcases K with K | K
    · omega
    · have := K.1; omega
  · omega
theorem tr_x0 (S : RSv Bf nf B) (W : WI B (k : Int) w) (hk : (k : Int) < B 160 98) (T : TX w (k : Int) x) : tg_S (Bf k) (nf k) x = 1 ∧ w 238 (pl w (k : Int) x + 2).toNat = Bf k (na_S (Bf k) (nf k) x) := by
  obtain ⟨n6, k8⟩ := tb_n6 S hk
  have t1 := tr_t S W hk (s := 1) T
  obtain ⟨e, x2, kv⟩ := tr_p S W hk T.1.1 T.1.2
  obtain ⟨a1, a2, a3, a4, a5⟩ := wi_tx W (by omega) T
  obtain ⟨p1, p2, p3, p4, p5, p6, p7⟩ := pi_le S hk t1
  have ena : na_S (Bf k) (nf k) x = pl_S (Bf k) (nf k) x + 2 := rfl
  refine ⟨t1, ?_⟩
  rw [tr_b S W hk (x := pl w (k : Int) x + 2) (by omega) (by omega) (by omega), show (pl w (k : Int) x + 2).toNat = na_S (Bf k) (nf k) x by omega]
/-- a member constant: what it says -/
theorem sx_mf (hn : 1000000 ≤ nn) (S : SXc Bf nf cnt A B k i t P op o) (X : RTP nn g0 ω B (t : Int) (k : Int) kk N T U tt ai p) (mr : MRF nn g0 ω (k : Int) (ω (k : Int)) o s uu bb j) : tg_S (Bf k) (nf k) o = 4 ∧ (tg_S (Bf k) (nf k) (pt_S (Bf k) (nf k) o 0) = 3 ∧ (¬ Bf k (na_S (Bf k) (nf k) (pt_S (Bf k) (nf k) (pt_S (Bf k) (nf k) o 0) 0)) = 91) ∧ cq_F Bf nf cnt (Bf k) (nf k) (pt_S (Bf k) (nf k) o 0) = uu ∧ ISc cnt uu) ∧ tg_S (Bf k) (nf k) (pt_S (Bf k) (nf k) o 1) = 1 ∧ (TX (ω (k : Int)) (k : Int) (pt_S (Bf k) (nf k) o 2) ∧ ω (k : Int) 238 (pl (ω (k : Int)) (k : Int) o + 1 + 2).toNat = pt_S (Bf k) (nf k) o 2) ∧ (8 ≤ bb ∧ bb < 8 + cnt) ∧ ∃ jj : Nat, (jj : Int) = j ∧ HFd Bf nf cnt k (pt_S (Bf k) (nf k) o 1) s uu bb jj := by
  obtain ⟨⟨c1, c2, c3⟩, ⟨d1, d2⟩, Nk, HG, _⟩ := S.1
  have g3 := HG.1
  have hk := S.2.2.2.2.1.2.1
  have e98 := X.rx.2.1.1
  obtain ⟨W, hg⟩ := tr_w X.rx hk
  obtain ⟨n6, k8⟩ := tb_n6 d1 hk
  obtain ⟨st4, ⟨ub, ct⟩, hs, hbb, hj, eqt⟩ := mr
  have t4 := tr_t d1 W hk st4
  have p0 := tr_4 d1 W hk st4 (y := 0) (by omega)
  have p1 := tr_4 d1 W hk st4 (y := 1) (by omega)
  have p2 := tr_4 d1 W hk st4 (y := 2) (by omega)
  rw [show ((0 : Nat) : Int) = 0 from rfl] at p0
  rw [show ((1 : Nat) : Int) = 1 from rfl] at p1
  rw [show ((2 : Nat) : Int) = 2 from rfl] at p2
  have ckk := (W.2.1.2.2 o st4.1.1 st4.1.2).2 st4.2
  have cl : CL (ω (k : Int)) (k : Int) (pt_S (Bf k) (nf k) o 0) := by
    rw [← p0, show pl (ω (k : Int)) (k : Int) o + 1 + 0 = pl (ω (k : Int)) (k : Int) o + 1 by omega]; exact ckk.1
  have tx : TX (ω (k : Int)) (k : Int) (pt_S (Bf k) (nf k) o 1) := by
    rw [← p1, show pl (ω (k : Int)) (k : Int) o + 1 + 1 = pl (ω (k : Int)) (k : Int) o + 2 by omega]; exact ckk.2.1.1
  have tx2 : TX (ω (k : Int)) (k : Int) (pt_S (Bf k) (nf k) o 2) := by
    rw [← p2, show pl (ω (k : Int)) (k : Int) o + 1 + 2 = pl (ω (k : Int)) (k : Int) o + 3 by omega]; exact ckk.2.2.1
  rw [p0] at ct
  rw [p1] at hs
  obtain ⟨t3, n91, cq⟩ := tr_cq X.rx d1 (by rw [d2]; exact Nk) hk cl ct
  rw [d2] at cq
  have t1 := tr_t d1 W hk (s := 1) tx
  have hu : ISc cnt uu := ⟨ub.1, by omega⟩
  refine ⟨t4, ⟨t3, n91, cq, hu⟩, t1, ⟨tx2, p2⟩, ⟨hbb.1, by omega⟩, ?_⟩
  obtain ⟨y, ey, j2, hs2, Py⟩ := rt_holder hn X.vs X.rx.2.2.2 (om_e X.rx.2.1 X.rx.1.2.1) (c := (k : Int)) (by omega) W (f := uu) (s := s) (by omega) tx
  have hs3 := hsn_e hn X.rx.1 X.rx.2.1 X.vs _ _ _ _ (by omega) hs2
  obtain ⟨eb, ej⟩ := hsn_det _ _ _ _ _ _ hs hs3
  have ej := ej (by omega)
  have VH := vr_holder (nn := nn) (o := k) (t := pt_S (Bf k) (nf k) o 1) (s := s) (c := uu) (h := B) (by rw [d2]; exact Nk) d1 hk t1 (.inr (by rw [d2]; exact hu)) (by rw [d2]; exact hg_end HG hu) y ey
  rcases VH with ⟨ev, _⟩ | ⟨dd, jj, hf, ev⟩
  · rw [ev] at eb
    have eb : bb = -1 := eb
    exfalso; omega
  · rw [d2] at hf
    have ed : bb = dd := by rw [eb, ev]
    have e121 : y.2 160 121 = (jj : Int) := by rw [ev]; show up_M B 160 121 (jj : Int) 160 121 = _; rw [up_s]
    refine ⟨jj, ?_, by rw [ed]; exact hf⟩
    rcases Py with ⟨z, _⟩ | ⟨_, _, z⟩
    · exfalso; omega
    · rw [z, up_s] at e121
      omega
/-- fields: the kind is no method's -/
theorem sx_s0 (S : SXc Bf nf cnt A B k i t P op o) (X : RTP nn g0 ω B (t : Int) (k : Int) kk N T U tt ai p) (tx : TX (ω (k : Int)) (k : Int) (pt_S (Bf k) (nf k) o 2)) (tk : TKU nn f (k : Int) (ω (k : Int)) (pt_S (Bf k) (nf k) o 2) ty) : sk_V (Bf k) (nf k) o = 0 := by
  have d1 := S.1.2.1.1
  have hk := S.2.2.2.2.1.2.1
  obtain ⟨W, hg⟩ := tr_w X.rx hk
  have e := (tr_x0 d1 W hk tx).2
  have n40 := kd_40 tk.1
  rw [e] at n40
  unfold sk_V
  rw [if_neg n40]
/-- where the field of an object lies -/
theorem sx_fx (hn : 1000000 ≤ nn) (S : SXc Bf nf cnt A B k i t P op o) (X : RTP nn g0 ω B (t : Int) (k : Int) kk N T U tt ai p) (mr : MRF nn g0 ω (k : Int) (ω (k : Int)) o 0 uu bb j) (cv : CVt nn g0 B (4 + 2 * uu) v) (v0 : ¬ v = 0) : (1 ≤ v ∧ v ≤ B 160 141) ∧ (0 ≤ ca_F Bf nf cnt (sp_F Bf nf cnt bb) ∧ ca_F Bf nf cnt (sp_F Bf nf cnt bb) + j < B 248 v.toNat) := by
  obtain ⟨⟨c1, c2, c3⟩, ⟨d1, d2⟩, Nk, HG, _⟩ := S.1
  have e98 := X.rx.2.1.1
  have V := X.vs
  have XV0 := X.rx.1
  have AE := X.rx.2.1
  obtain ⟨⟨Vg, Sg⟩, O, CA, _⟩ := X.rx.1
  obtain ⟨st4, ⟨ub, ct⟩, hs, hbb, hj, eqt⟩ := mr
  have un : (1 ≤ v ∧ v ≤ B 160 141) ∧ B 246 v.toNat < 99 ∧ UNd nn g0 (B 246 v.toNat) uu := by
    rcases cv with z | z | z | ⟨z0, z⟩
    · exfalso; omega
    · exfalso; omega
    · exact absurd z v0
    · refine ⟨z0, ?_⟩
      rcases z with z | ⟨y, y0, z1, z2⟩ | ⟨y, y0, z1, z2⟩
      · exfalso; omega
      · rw [show y = uu by omega] at z2
        rcases z2 with z2 | z2
        · exfalso
          obtain ⟨m, up⟩ := hsn_up _ _ _ _ hs (by omega)
          rw [z2.2] at up
          have := und_0 ⟨show ¬ bb = -1 by omega, m, up⟩
          omega
        · exact z2
      · exfalso; omega
  obtain ⟨ob, so, un⟩ := un
  obtain ⟨m, up⟩ := hsn_up _ _ _ _ hs (by omega)
  have unb : UNd nn g0 (B 246 v.toNat) bb := und_tr un ⟨by omega, m, up⟩
  obtain ⟨o1, o2⟩ := X.hp.1 v ob.1 ob.2
  obtain ⟨w1, w2, w3⟩ : (0 ≤ B 246 v.toNat ∧ B 246 v.toNat < 8 + g0 160 98) ∧ FO nn g0 (B 246 v.toNat) (B 248 v.toNat) ∧ FLV nn g0 ω B v := by
    rcases o2 with z | z | z
    · exact z.2
    · exfalso; omega
    · exfalso; omega
  obtain ⟨sy, esy, psy⟩ := su_rg hn Vg Sg (k := bb) (by omega)
  have es := ce_super (nn := nn) Vg V O AE (k := bb) (by omega)
  rw [esy] at es
  have hb : ISc (B 160 98) bb := ⟨by omega, by omega⟩
  have sp := vr_super (nn := nn) (c := bb) (h := B) (by rw [d2]; exact Nk) d1 hb sy es
  rw [d2] at sp
  obtain ⟨fv, ef, P23, _⟩ := rt_fields hn XV0 AE V psy
  have rg := flv_rg hn XV0 w1 unb w2 hbb hj esy P23
  have ef2 := vr_fields HG Nk d1 d2 (c := sy) (by unfold ISc; omega) fv ef
  rw [ef2, sp] at rg
  exact ⟨ob, rg.1, rg.2⟩
/-- the class's cell of a field -/
theorem rc_fce (S : SXc Bf nf cnt A B k i t P op o) (X : RTP nn g0 ω B (t : Int) c kk N T U tt ai p) (C : CPp A u t H) (hv : v = 0 ∨ ((1 ≤ v ∧ v ≤ B 160 141) ∧ 0 ≤ L ∧ L < B 248 v.toNat)) : Pc (qf_X5_fieldCell nn v L u) (fun y => (v = 0 ∧ y = -1) ∨ (¬ v = 0 ∧ y = B 247 v.toNat + L)) := by
  have E := S.2.1.2.2.2.1
  have g141 := gF_160_141 X.vs
  unfold qf_X5_fieldCell
  refine pc_sv (rc_iso (B := B) (by rw [C.1 143 4 (by omega)]; exact E.1.1) (by omega) (by omega)) ?_; intro u4 q4
  refine pc_if (fun z => ?_) (fun z => ?_)
  · unfold qj_X5_fieldCell_20
    refine pc_if (fun _ => pc_ret (.inl ⟨by omega, rfl⟩)) (fun _ => ?_)
    exact pc_if (fun _ => pc_ret (.inl ⟨by omega, rfl⟩)) (fun _ => pc_ret (.inl ⟨by omega, rfl⟩))
  · have v0 : ¬ v = 0 := by omega
    have hv1 : (1 ≤ v ∧ v ≤ B 160 141) ∧ 0 ≤ L ∧ L < B 248 v.toNat := by omega
    obtain ⟨⟨_, _, o3, o4⟩, ⟨o5, o6, o7⟩, o8, o9, _⟩ := sx_ob S X hv1.1
    refine pc_rA ?_; intro _ _ v6 e6
    rw [C.1 146 _ (by omega), o3] at e6
    refine pc_add (by omega) ?_; intro v7 e7
    unfold qj_X5_fieldCell_20
    refine pc_if (fun w => absurd w (by omega)) (fun _ => ?_)
    refine pc_if (fun w => absurd w (by omega)) (fun _ => ?_)
    exact pc_ret (.inr ⟨v0, by omega⟩)
theorem rgv_121 {x : Int} (D : RGV (up_M B 160 121 y) r t H v x) : RGV B r t H v x := by
  obtain ⟨D1, D2, D3, D4⟩ := D
  refine ⟨fun x j w1 w2 w3 w4 => ?_, D2, D3, fun n hn => ?_⟩
  · rw [D1 x j w1 w2 w3 w4, up_n w1]
  · rw [D4 n hn, up_n (by omega)]
theorem jo_g2 (S : SXc Bf nf cnt A B k i t P op o) (C : CPp A u t H) (D : RPp (up_M B 160 121 y) z t H) (h30 : H < 30) (hl : (H : Int) ≤ B 254 t) (hw : -10000 ≤ wd ∧ wd ≤ 10000) : Pc (qf_X5_give nn v wd u) (fun g => Pc (mx_sv (qf_X13_give nn v z) fun y => qj_X13_step_1150 nn wd y) (STQ nn Bf nf cnt t B g)) := by
  obtain ⟨⟨q1, q2, q3⟩, q4, q5, _⟩ := sxc_p S
  refine pc_imp (rc_gvp C q1 q3 h30 q4 hw) (fun g G => pc_imp (rr_gvp D (by rw [up_n (by omega)]; exact q2) q3 h30 (by rw [up_n (by omega)]; exact q5) hw) (fun r Rr => ?_))
  rw [up_n (by omega)] at Rr
  exact fin_v S G (rgv_121 Rr) hl
theorem jo_h2 (S : SXc Bf nf cnt A B k i t P op o) (C : CPp A u t H) (D : RPp (up_M B 160 121 y) z t H) (hl : (H : Int) ≤ B 254 t) (hw : -10000 ≤ wd ∧ wd ≤ 10000) : Pc (wr_A 20000 147 x v u fun h2 => mx_sv (qf_X5_goOn nn wd h2) fun u4 => some u4) (fun g => Pc (wr_A 20000 249 x v z fun h14 => qj_X13_step_1150 nn wd h14) (STQ nn Bf nf cnt t B g)) := by
  obtain ⟨q, q4, q5, q6, q7, q8⟩ := sxc_p S
  have f := rr_fra S.2.1 (t := t) (by omega)
  refine pc_wA ?_; intro x0 x1 h2 e2
  refine pc_tw (pc_wA ?_); intro _ _ h14 e14
  refine pc_tw ?_
  refine pc_sv (P := fun g => Pc _ (STQ nn Bf nf cnt t B g)) ?_ (fun u q => pc_ret q)
  have C2 : CPp (up_M A 147 x.toNat v) h2 t H := by
    refine ⟨fun c j w => ?_, by rw [e2, up_n (by omega)]; exact C.2⟩
    by_cases y : c = 147 ∧ j = x.toNat
    · rw [y.1, y.2, e2, up_s, up_s]
    · rw [e2, up_n y, up_n y, C.1 c j w]
  have D2 : RPp (up_M (up_M B 160 121 y) 249 x.toNat v) h14 t H := by
    refine ⟨fun c j w => ?_, by rw [e14, up_n (by omega)]; exact D.2⟩
    by_cases y : c = 249 ∧ j = x.toNat
    · rw [y.1, y.2, e14, up_s, up_s]
    · rw [e14, up_n y, up_n y, D.1 c j w]
  refine pc_imp (rc_gop C2 (by rw [up_n (by omega)]; exact q.1) (by rw [up_n (by omega)]; exact q4) (w := wd) (by omega)) (fun g G => ?_)
  refine pc_imp (rr_on1 D2 (by rw [up_n (by omega), up_n (by omega)]; exact q.2.1) q.2.2 (by rw [up_n (by omega), up_n (by omega)]; exact q5) (w := wd) (by omega)) (fun r Rr => ?_)
  obtain ⟨G1, ⟨G2, G3⟩, G4, G5⟩ := G
  obtain ⟨r1, ⟨r2, r3⟩, r5⟩ := Rr
  refine fin_h (H := H) S (rr_hw S.2.1 x0 rfl rfl) G1 (fun xx jj w1 w2 w3 w4 => ?_) (fun c j w => by rw [up_n (by omega)]) (fun x j w => by rw [up_n (by omega)]) hl ?_ ?_ (by rw [G3, r3]) (fun n hn => ?_) (fun n hn n1 n2 => ?_)
  · rw [r1 xx jj w1 w2 w3 w4]
    by_cases y2 : xx = 249 ∧ jj = x.toNat
    · rw [y2.1, y2.2, up_s, up_s]
    · rw [up_n y2, up_n y2, up_n w1]
  · rw [G4, up_n (by omega)]; exact S.2.2.1
  · rw [G2, r2, up_n (by omega), up_n (by omega), up_n (by omega), q6]
  · rw [G5 n hn, r5 n hn, up_n (by omega), up_n (by omega), up_n (by omega)]; exact f.2.2.1 n hn
  · exfalso; omega
/-- the reference's way to a field, behind its drop -/
theorem rr_fch {K : Int → ms_M → Option ms_M} {Q : ms_M → Prop} (S : SXc Bf nf cnt A B k i t P op o) (D : RPp B z t H) (t4 : tg_S (Bf k) (nf k) o = 4) (t3 : tg_S (Bf k) (nf k) (pt_S (Bf k) (nf k) o 0) = 3) (n91 : ¬ Bf k (na_S (Bf k) (nf k) (pt_S (Bf k) (nf k) (pt_S (Bf k) (nf k) o 0) 0)) = 91) (cq : cq_F Bf nf cnt (Bf k) (nf k) (pt_S (Bf k) (nf k) o 0) = uu) (hu : ISc cnt uu) (t1 : tg_S (Bf k) (nf k) (pt_S (Bf k) (nf k) o 1) = 1) {jj : Nat} (hf : HFd Bf nf cnt k (pt_S (Bf k) (nf k) o 1) 0 uu bb jj) (hb : 8 ≤ bb ∧ bb < 8 + cnt) (rg : 0 ≤ B 247 v.toNat ∧ B 247 v.toNat ≤ 20000 ∧ 0 ≤ ca_F Bf nf cnt (sp_F Bf nf cnt bb) ∧ ca_F Bf nf cnt (sp_F Bf nf cnt bb) + (jj : Int) ≤ 20000) (HK : ∀ z2 : ms_M, RPp (up_M B 160 121 (jj : Int)) z2 t H → Pc (K (B 247 v.toNat + (ca_F Bf nf cnt (sp_F Bf nf cnt bb) + (jj : Int))) z2) Q) : Pc (mx_sv (qf_X13_memberPart nn o 0 z) fun u6 => mx_sv (qf_X13_classIn nn u6 z) fun u8 => xl (oq_sub (z 160 149) 1) fun v11 => rd_A 60 251 v11 z fun v12 => xl (oq_sub v12 8) fun v13 => mx_sv (qf_X13_memberPart nn o 1 z) fun u15 => mx_sv (qf_X13_holder nn u8 v13 u15 0 z) fun u17 => rd_A 2001 247 v u17.2 fun v19 => mx_sv (qf_X13_superOf nn u17.1 u17.2) fun u21 => mx_sv (qf_X13_fieldsOf nn u21 u17.2) fun u23 => xl (oq_add v19 u23) fun v24 => xl (oq_add v24 (u17.2 160 121)) fun v26 => K v26 u17.2) Q := by
  obtain ⟨⟨c1, c2, c3⟩, ⟨d1, d2⟩, Nk, HG, _⟩ := S.1
  have q := (sxc_p S).1
  have hk := S.2.2.2.2.1.2.1
  have g3 := HG.1
  obtain ⟨n6, k8⟩ := tb_n6 d1 hk
  have e251 : z 251 t = 8 + (k : Int) := by rw [D.1 251 t (by omega)]; exact S.2.2.2.2.2.1.2.1
  have e149 : z 160 149 = (t : Int) + 1 := by rw [D.1 160 149 (by omega)]; exact q.2.1
  have RZ : RSv Bf nf z := rsv_k d1 (fun x j w => D.1 x j (by omega)) (D.1 160 98 (by omega))
  have z98 : z 160 98 = cnt := by rw [D.1 160 98 (by omega)]; exact d2
  have hkz : (k : Int) < z 160 98 := by rw [D.1 160 98 (by omega)]; exact hk
  have M0 := rr_prt (nn := nn) (o := o) RZ hkz e149 q.2.2 e251 t4 (y := 0) (by omega)
  have M1 := rr_prt (nn := nn) (o := o) RZ hkz e149 q.2.2 e251 t4 (y := 1) (by omega)
  rw [show ((0 : Nat) : Int) = 0 from rfl] at M0
  rw [show ((1 : Nat) : Int) = 1 from rfl] at M1
  refine pc_sv M0 ?_; intro u6 q6
  rw [q6]
  have CI := rr_cin (nn := nn) (o := pt_S (Bf k) (nf k) o 0) (t := t) (k := k) (h := z) (by rw [z98]; exact Nk) RZ hkz e149 q.2.2 e251 t3 n91
  rw [z98, cq] at CI
  refine pc_sv CI ?_; intro u8 q8
  rw [q8, e149]
  refine pc_sub (by omega) ?_; intro v11 e11
  rw [show v11 = (t : Int) by omega]
  refine pc_rA ?_; intro _ _ v12 e12
  rw [Int.toNat_natCast, e251] at e12
  refine pc_sub (by omega) ?_; intro v13 e13
  rw [show v13 = (k : Int) by omega]
  refine pc_sv M1 ?_; intro u15 q15
  rw [q15]
  have VH := vr_holder (nn := nn) (o := k) (t := pt_S (Bf k) (nf k) o 1) (s := 0) (c := uu) (h := z) (by rw [z98]; exact Nk) RZ hkz t1 (.inr (by rw [z98]; exact hu)) (by rw [z98]; exact hg_end HG hu)
  refine pc_sv VH ?_; intro u17 q17
  rcases q17 with ⟨_, no⟩ | ⟨dd, j2, hf2, e17⟩
  · rw [z98] at no
    exact absurd (hfd_n hf no) id
  · rw [z98] at hf2
    obtain ⟨ed, ej⟩ := hfd_u hf hf2
    rw [← ed, ← ej] at e17
    rw [e17]
    show Pc (rd_A 2001 247 v (up_M z 160 121 (jj : Int)) fun v19 => mx_sv (qf_X13_superOf nn bb (up_M z 160 121 (jj : Int))) fun u21 => mx_sv (qf_X13_fieldsOf nn u21 (up_M z 160 121 (jj : Int))) fun u23 => xl (oq_add v19 u23) fun v24 => xl (oq_add v24 (up_M z 160 121 (jj : Int) 160 121)) fun v26 => K v26 (up_M z 160 121 (jj : Int))) Q
    have D2 : RPp (up_M B 160 121 (jj : Int)) (up_M z 160 121 (jj : Int)) t H := by
      refine ⟨fun x j w => ?_, by rw [up_n (by omega)]; exact D.2⟩
      by_cases y : x = 160 ∧ j = 121
      · rw [y.1, y.2, up_s, up_s]
      · rw [up_n y, up_n y, D.1 x j w]
    have R2 : RSv Bf nf (up_M z 160 121 (jj : Int)) := rsv_k RZ (fun x j w => up_n (by omega)) (up_n (by omega))
    have z298 : up_M z 160 121 (jj : Int) 160 98 = cnt := by rw [up_n (by omega)]; exact z98
    generalize up_M z 160 121 (jj : Int) = z2 at *
    refine pc_rA ?_; intro _ _ v19 e19
    rw [D2.1 247 _ (by omega), up_n (by omega)] at e19
    have SP := vr_super (nn := nn) (c := bb) (h := z2) (by rw [z298]; exact Nk) R2 (by rw [z298]; exact ⟨by omega, hb.2⟩)
    rw [z298] at SP
    refine pc_sv SP ?_; intro u21 q21
    have hsp : sp_F Bf nf cnt bb = -1 ∨ ISc cnt (sp_F Bf nf cnt bb) := sp_is g3.1 (by omega)
    rw [q21]
    refine pc_sv (vr_fields HG Nk R2 z298 hsp) ?_; intro u23 q23
    rw [D2.1 160 121 (by omega), up_s]
    refine pc_add (by omega) ?_; intro v24 e24
    refine pc_add (by omega) ?_; intro v26 e26
    rw [show v26 = B 247 v.toNat + (ca_F Bf nf cnt (sp_F Bf nf cnt bb) + (jj : Int)) by omega]
    exact HK z2 D2
theorem js_180 (hn : 1000000 ≤ nn) (S : SXc Bf nf cnt A B k i t P op o) (X : RTP nn g0 ω B (t : Int) (k : Int) kk N T U tt ai p) (y : op = 180) (po : B 254 t = ((H + 1 : Nat) : Int)) (mr : MRF nn g0 ω (k : Int) (ω (k : Int)) o 0 uu bb j) (tk : TKU nn f (k : Int) (ω (k : Int)) (ω (k : Int) 238 (pl (ω (k : Int)) (k : Int) o + 1 + 2).toNat) ty) (cv : CVt nn g0 B (4 + 2 * uu) (B 255 (60 * t + 30 + H))) : Pc (qf_X5_step nn A) (fun g => Pc (qf_X13_step nn B) (STQ nn Bf nf cnt t B g)) := by
  refine j_two (fun Q => cz_g180 S.2.2.2.1 y) (fun Q => rz_g180 S.2.2.2.2 (.inl y)) ?_
  have h := rtp_h X
  have q := (sxc_p S).1
  have E := S.2.1.2.2.2.1
  obtain ⟨c0, r0⟩ := sx_c0 S po
  have vv := sx_v S (H := H) (by omega) (by omega)
  obtain ⟨t4, ⟨t3, n91, cq, hu⟩, t1, ⟨tx2, e2⟩, hb, jj, ej, hf⟩ := sx_mf hn S X mr
  rw [e2] at tk
  have s0 := sx_s0 S X tx2 tk
  have hu' := hu
  unfold ISc at hu'
  have g3 := S.1.2.2.2.1.1
  obtain ⟨i1, i2, i3⟩ := tg_in (B := Bf k) (n := nf k) (k := o) (by omega)
  have fx := sx_fx hn S X mr cv
  have iso : B 255 (60 * t + 30 + H) = 0 ∨ ((1 ≤ B 255 (60 * t + 30 + H) ∧ B 255 (60 * t + 30 + H) ≤ B 160 141) ∧ 0 ≤ ca_F Bf nf cnt (sp_F Bf nf cnt bb) + (jj : Int) ∧ ca_F Bf nf cnt (sp_F Bf nf cnt bb) + (jj : Int) < B 248 (B 255 (60 * t + 30 + H)).toNat) := by
    by_cases z : B 255 (60 * t + 30 + H) = 0
    · exact .inl z
    · have := fx z
      exact .inr ⟨this.1, by omega, by omega⟩
  unfold qj_X13_step_1020
  refine pc_sv (P := fun g => Pc _ (STQ nn Bf nf cnt t B g)) ?_ (fun u q => pc_ret q)
  refine pc_tw (pc_sv (P := fun r => Pc _ (fun g => STQ nn Bf nf cnt t B g r)) ?_ (fun u q => pc_ret q))
  unfold qf_X13_fieldOf
  rw [if_pos (show ¬ op = 181 by omega)]
  unfold qj_X13_fieldOf_15
  refine pc_sv (rr_pp r0 q.2.1 q.2.2 (by omega)) ?_; intro u4 ⟨v4, D4⟩
  refine pc_tw ?_
  unfold qf_X5_stepField
  refine pc_sv (rc_pp c0 q.1 q.2.2 (by omega)) ?_; intro u2 ⟨v2, C2⟩
  have ev : u2.1 = u4.1 := by rw [v2, v4, vv]
  rw [ev]
  refine pc_sv (sx_ln S (C2.1 143 17 (by omega)) (C2.1 148 t (by omega)) (fun x => C2.1 68 x (by omega)) ⟨i1, i2⟩) ?_; intro u4' ⟨_, q4⟩
  have q4 := q4.2.2.1 t4 s0 bb jj (by rw [cq]; omega) (by rw [cq]; exact hf)
  rw [q4]
  rw [← v4] at iso
  refine pc_sv (rc_fce S X C2 iso) ?_; intro u6 q6
  by_cases z : u4.1 = 0
  · rw [if_neg (show ¬ ¬ u6 = -1 by omega), if_neg (show ¬ ¬ u4.1 = 0 from fun n => n z)]
    refine pc_xl ?_; intro h11 e11
    exact pc_ret (pc_se (fun r er => pc_ret (fin_f S C2 D4 (by omega) (c := 2) (by omega) e11 er)))
  · have iso2 : (1 ≤ u4.1 ∧ u4.1 ≤ B 160 141) ∧ 0 ≤ ca_F Bf nf cnt (sp_F Bf nf cnt bb) + (jj : Int) ∧ ca_F Bf nf cnt (sp_F Bf nf cnt bb) + (jj : Int) < B 248 u4.1.toNat := by omega
    obtain ⟨⟨_, _, o3, o4⟩, ⟨o5, o6, o7⟩, o8, o9, _⟩ := sx_ob S X iso2.1
    rw [if_pos (show ¬ u6 = -1 by omega), if_pos (show ¬ u4.1 = 0 from z), if_pos (show ¬ op = 190 by omega)]
    refine pc_rA ?_; intro _ _ v8 e8
    rw [C2.1 147 _ (by omega), E.2.2.2 _ (by omega)] at e8
    refine pc_tw ?_
    rw [← v4] at cv
    have fx2 := sx_fx hn S X mr cv z
    refine rr_fch (K := fun v26 z2 => if ¬ op = 180 then (wr_A 20000 249 v26 0 z2 fun h28 => qj_X13_fieldOf_147 nn 2 h28) else (rd_A 20000 249 v26 z2 fun v30 => mx_sv (qf_X13_give nn v30 z2) fun u32 => qj_X13_fieldOf_147 nn 2 u32)) (v := u4.1) S D4 t4 t3 n91 cq hu t1 hf hb ⟨by omega, by omega, fx2.2.1, by omega⟩ (fun z2 D2 => ?_)
    show Pc (if ¬ op = 180 then _ else _) _
    rw [if_neg (show ¬ ¬ op = 180 from fun n => n y)]
    refine pc_rA ?_; intro _ _ v30 e30
    rw [D2.1 249 _ (by omega), up_n (by omega)] at e30
    rw [show v30 = v8 by rw [e30, e8, show u6 = B 247 u4.1.toNat + (ca_F Bf nf cnt (sp_F Bf nf cnt bb) + (jj : Int)) by omega]]
    refine pc_tw ?_
    exact pc_sv (jo_g2 S C2 D2 (by omega) (by omega) (by omega)) (fun u q => pc_ret q)
theorem js_181 (hn : 1000000 ≤ nn) (S : SXc Bf nf cnt A B k i t P op o) (X : RTP nn g0 ω B (t : Int) (k : Int) kk N T U tt ai p) (y : op = 181) (po : B 254 t = ((H + 1 + 1 : Nat) : Int)) (mr : MRF nn g0 ω (k : Int) (ω (k : Int)) o 0 uu bb j) (tk : TKU nn f (k : Int) (ω (k : Int)) (ω (k : Int) 238 (pl (ω (k : Int)) (k : Int) o + 1 + 2).toNat) ty) (cv : CVt nn g0 B (4 + 2 * uu) (B 255 (60 * t + 30 + H))) : Pc (qf_X5_step nn A) (fun g => Pc (qf_X13_step nn B) (STQ nn Bf nf cnt t B g)) := by
  refine j_two (fun Q => cz_g181 S.2.2.2.1 y) (fun Q => rz_g180 S.2.2.2.2 (.inr y)) ?_
  have h := rtp_h X
  have q := (sxc_p S).1
  have E := S.2.1.2.2.2.1
  obtain ⟨c0, r0⟩ := sx_c0 S po
  have vv := sx_v S (H := H) (by omega) (by omega)
  have vw := sx_v S (H := H + 1) (by omega) (by omega)
  obtain ⟨t4, ⟨t3, n91, cq, hu⟩, t1, ⟨tx2, e2⟩, hb, jj, ej, hf⟩ := sx_mf hn S X mr
  rw [e2] at tk
  have s0 := sx_s0 S X tx2 tk
  have hu' := hu
  unfold ISc at hu'
  have g3 := S.1.2.2.2.1.1
  obtain ⟨i1, i2, i3⟩ := tg_in (B := Bf k) (n := nf k) (k := o) (by omega)
  have fx := sx_fx hn S X mr cv
  have iso : B 255 (60 * t + 30 + H) = 0 ∨ ((1 ≤ B 255 (60 * t + 30 + H) ∧ B 255 (60 * t + 30 + H) ≤ B 160 141) ∧ 0 ≤ ca_F Bf nf cnt (sp_F Bf nf cnt bb) + (jj : Int) ∧ ca_F Bf nf cnt (sp_F Bf nf cnt bb) + (jj : Int) < B 248 (B 255 (60 * t + 30 + H)).toNat) := by
    by_cases z : B 255 (60 * t + 30 + H) = 0
    · exact .inl z
    · have := fx z
      exact .inr ⟨this.1, by omega, by omega⟩
  unfold qj_X13_step_1020
  refine pc_sv (P := fun g => Pc _ (STQ nn Bf nf cnt t B g)) ?_ (fun u q => pc_ret q)
  refine pc_tw (pc_sv (P := fun r => Pc _ (fun g => STQ nn Bf nf cnt t B g r)) ?_ (fun u q => pc_ret q))
  unfold qf_X13_fieldOf
  rw [if_neg (show ¬ ¬ op = 181 from fun n => n y)]
  refine pc_sv (rr_pp r0 q.2.1 q.2.2 (by omega)) ?_; intro u43 ⟨v43, D43⟩
  unfold qj_X13_fieldOf_15
  refine pc_sv (rr_pp D43 q.2.1 q.2.2 (by omega)) ?_; intro u4 ⟨v4, D4⟩
  refine pc_tw ?_
  unfold qf_X5_stepGiveField
  refine pc_sv (rc_pp c0 q.1 q.2.2 (by omega)) ?_; intro u1 ⟨v1, C1⟩
  refine pc_sv (rc_pp C1 q.1 q.2.2 (by omega)) ?_; intro u2 ⟨v2, C2⟩
  have ev : u2.1 = u4.1 := by rw [v2, v4, vv]
  have ew : u1.1 = u43.1 := by rw [v1, v43, vw]
  rw [ev, ew]
  refine pc_sv (sx_ln S (C2.1 143 17 (by omega)) (C2.1 148 t (by omega)) (fun x => C2.1 68 x (by omega)) ⟨i1, i2⟩) ?_; intro u4' ⟨_, q4⟩
  have q4 := q4.2.2.1 t4 s0 bb jj (by rw [cq]; omega) (by rw [cq]; exact hf)
  rw [q4]
  rw [← v4] at iso
  refine pc_sv (rc_fce S X C2 iso) ?_; intro u6 q6
  by_cases z : u4.1 = 0
  · rw [if_neg (show ¬ ¬ u6 = -1 by omega), if_neg (show ¬ ¬ u4.1 = 0 from fun n => n z)]
    refine pc_xl ?_; intro h11 e11
    exact pc_ret (pc_se (fun r er => pc_ret (fin_f S C2 D4 (by omega) (c := 2) (by omega) e11 er)))
  · have iso2 : (1 ≤ u4.1 ∧ u4.1 ≤ B 160 141) ∧ 0 ≤ ca_F Bf nf cnt (sp_F Bf nf cnt bb) + (jj : Int) ∧ ca_F Bf nf cnt (sp_F Bf nf cnt bb) + (jj : Int) < B 248 u4.1.toNat := by omega
    obtain ⟨⟨_, _, o3, o4⟩, ⟨o5, o6, o7⟩, o8, o9, _⟩ := sx_ob S X iso2.1
    rw [if_pos (show ¬ u6 = -1 by omega), if_pos (show ¬ u4.1 = 0 from z), if_pos (show ¬ op = 190 by omega)]
    refine pc_tw ?_
    rw [← v4] at cv
    have fx2 := sx_fx hn S X mr cv z
    refine rr_fch (K := fun v26 z2 => if ¬ op = 180 then (wr_A 20000 249 v26 u43.1 z2 fun h28 => qj_X13_fieldOf_147 nn 2 h28) else (rd_A 20000 249 v26 z2 fun v30 => mx_sv (qf_X13_give nn v30 z2) fun u32 => qj_X13_fieldOf_147 nn 2 u32)) (v := u4.1) S D4 t4 t3 n91 cq hu t1 hf hb ⟨by omega, by omega, fx2.2.1, by omega⟩ (fun z2 D2 => ?_)
    show Pc (if ¬ op = 180 then _ else _) _
    rw [if_pos (show ¬ op = 180 by omega)]
    rw [show u6 = B 247 u4.1.toNat + (ca_F Bf nf cnt (sp_F Bf nf cnt bb) + (jj : Int)) by omega]
    refine pc_tw ?_
    exact jo_h2 S C2 D2 (by omega) (by omega)
end
end
section
/- RUN: a method ends -/
section
variable {nn : Nat} {Bf : Nat → Nat → Int} {nf : Nat → Nat} {cnt : Int} {k i t P H d : Nat} {A B g r u z p h w A1 B1 g0 f : ms_M} {ω : Int → ms_M} {op o v wd c kk tt ty x y a e s uu bb j q L : Int} {N ai : Nat} {T U : Nat → ms_M}
/-- the uppermost method is taken -/
theorem rc_top (S : CSw Bf nf h) (hk : (k : Int) < h 56 3) (hi : (i : Int) < mc_S (Bf k) (nf k)) (hd : h 143 6 = (t : Int) + 1) (t60 : t < 60) (e148 : h 148 t = (k : Int) * 12 + (i : Int)) : Pc (qf_X5_takeTop nn h) (fun g => (∀ c j : Nat, ¬ (c = 143 ∧ (j = 17 ∨ j = 18 ∨ j = 19)) → g c j = h c j) ∧ g 143 17 = (t : Int) ∧ g 143 18 = h 60 k ∧ g 143 19 = ((ma_S (Bf k) (nf k) i + 7 : Nat) : Int)) := by
  have k8 := S.1.1
  have m12 := ((cg_im (S.1.2 k hk)).1).2.2.1
  unfold qf_X5_takeTop
  rw [hd]
  refine pc_sub (by omega) ?_; intro v2 e2
  refine pc_xl ?_; intro w3 e3
  have e3 : w3 = (t : Int) := by
    rw [e3]
    split <;> omega
  refine pc_xl ?_; intro h4 e4
  have s4 : h4 143 17 = (t : Int) := by rw [e4, up_s]; exact e3
  rw [s4]
  refine pc_rA ?_; intro _ _ v8 e8
  rw [Int.toNat_natCast, e4, up_n (by omega), e148] at e8
  have F4 : ∀ x j : Nat, ¬ (x = 143 ∧ j = 17) → h4 x j = h x j := fun x j z => by rw [e4, up_n z]
  have S4 : CSw Bf nf h4 := csw_r S (fun x j _ w => F4 x j (by omega))
  have c4 : h4 56 3 = h 56 3 := F4 56 3 (by omega)
  rw [e8]
  refine pc_sv (vc_iom S4.1 (d := 8 + (k : Int)) (j := i) (by omega) (by omega) (by omega)) ?_; intro u10 ⟨q10, p10⟩
  rw [show (8 + (k : Int) - 8).toNat = k by omega, F4 60 k (by omega)] at q10
  refine pc_if (fun w => absurd w (by omega)) (fun _ => ?_)
  refine pc_wR ?_; intro h14 e14
  have s14 : h14 143 18 = h 60 k := by rw [e14, up_s]; omega
  have F14 : ∀ x j : Nat, ¬ (x = 143 ∧ j = 18) → h14 x j = h4 x j := fun x j z => by rw [e14, up_n z]
  rw [s14]
  refine pc_ck (fun _ => ?_)
  rw [F14 143 17 (by omega), s4]
  refine pc_rA ?_; intro _ _ v18 e18'
  rw [Int.toNat_natCast, F14 148 t (by omega), e4, up_n (by omega), e148] at e18'
  refine pc_xl ?_; intro v19 e19
  rw [Int.tmod_eq_emod_of_nonneg (by omega)] at e19
  refine pc_ck (fun _ => ?_)
  have S14 : CSw Bf nf h14 := csw_r S4 (fun x j _ w => F14 x j (by omega))
  have c14 : h14 56 3 = h 56 3 := (F14 56 3 (by omega)).trans c4
  have X := S14.1.2 k (by omega)
  rw [F14 60 k (by omega), F4 60 k (by omega)] at X
  have MD := ((cg_im X).2.2.2 i hi).2.1.2
  rw [show v19 = (i : Int) by omega]
  refine pc_sv (vq_of X hi (w := 6) (by omega) MD) ?_; intro u21 q21
  refine pc_xl ?_; intro h22 e22
  refine pc_ret ⟨fun x j z => ?_, ?_, ?_, ?_⟩
  · rw [e22, up_n (by omega), F14 x j (by omega), F4 x j (by omega)]
  · rw [e22, up_n (by omega), F14 143 17 (by omega)]; exact s4
  · rw [e22, up_n (by omega)]; exact s14
  · rw [e22, up_s]; exact q21
/-- what is known of a frame that waits -/
theorem lof_r {t2 u : Int} {d : Nat} (V : VS_ B) (L : LOWF nn g0 ω B (d : Int) u t2) (d60 : d < 60) : (0 ≤ B 253 d ∧ B 253 d ≤ 1500) ∧ 0 ≤ B 254 d ∧ (¬ u = 0 → B 254 d < 30) := by
  obtain ⟨c, kk, N, T, U, a, p, n, A, ⟨_, us⟩, _, e254, _⟩ := L
  obtain ⟨⟨m, L, q, bd⟩, _, _, aN, e3⟩ := A
  have nd := bd.2.2.2.2.2.2.2 a aN
  have ins := bd.2.1.2 a aN
  have cd := (mc_code bd.1.2.2).1
  have e130 := nd.1.1 160 130 (by decide) (by decide)
  have m30 := (mc_30 bd.1.2.2).2
  rw [Int.toNat_natCast] at e254 e3
  have v := (gA_254 V d (by omega)).1
  refine ⟨by omega, v, fun u0 => ?_⟩
  rcases us with us | us
  · exact absurd us.1 u0
  · have := us.2.2.2.2.1
    omega
/-- one frame less on both sides -/
theorem rr_pop1 (R : RRd Bf nf cnt A B (d + 1)) (C : ∀ c j : Nat, ¬ (c = 143 ∧ (j = 6 ∨ j = 17 ∨ j = 18 ∨ j = 19 ∨ j = 20)) → ¬ (c = 150 ∧ j = d) → A1 c j = A c j) (C6 : A1 143 6 = (d : Int)) (D : ∀ x j : Nat, ¬ (x = 160 ∧ (j = 121 ∨ j = 149)) → ¬ (x = 254 ∧ j = d) → B1 x j = B x j) (D6 : B1 160 149 = (d : Int)) : RRd Bf nf cnt A1 B1 d := by
  obtain ⟨⟨⟨a1, a2⟩, ⟨a3, a4⟩, a5, a6, a7⟩, d60, F, E, Pr⟩ := R
  refine ⟨⟨⟨?_, ?_⟩, ⟨?_, ?_⟩, ?_, C6, D6⟩, by omega, fun j hj => ?_, hpa_k E (fun x q => C 143 x (by omega) (by omega)) (fun c x q1 q2 => C c x (by omega) (by omega)) (fun x q => D 160 x (by omega) (by omega)) (fun c x q1 q2 => D c x (by omega) (by omega)), pra_k Pr (C 143 7 (by omega) (by omega)) (fun x => C 144 x (by omega) (by omega)) (D 160 143 (by omega) (by omega)) (fun x => D 250 x (by omega) (by omega))⟩
  · rw [C 143 1 (by omega) (by omega)]; exact a1
  · rw [D 160 138 (by omega) (by omega)]; exact a2
  · rw [C 143 2 (by omega) (by omega)]; exact a3
  · rw [D 160 139 (by omega) (by omega)]; exact a4
  · rw [C 143 3 (by omega) (by omega), D 160 140 (by omega) (by omega)]; exact a5
  · exact fra_k (F j (by omega)) (C 148 j (by omega) (by omega)) (C 149 j (by omega) (by omega)) (C 150 j (by omega) (by omega)) (fun n hn => C 151 _ (by omega) (by omega)) (fun n hn => C 152 _ (by omega) (by omega)) (D 251 j (by omega) (by omega)) (D 252 j (by omega) (by omega)) (D 253 j (by omega) (by omega)) (D 254 j (by omega) (by omega)) (fun n hn => D 255 _ (by omega) (by omega))
/-- from a state in the middle: no value comes -/
theorem fin_mn {t2 : Nat} (R1 : RRd Bf nf cnt A1 B1 (t2 + 1)) (T1 : TPA Bf nf cnt A1 B1 t2 k i) (th : A1 143 20 = 0) (C : CGN A1 g t2 H (A1 149 t2 + wd)) (D : RGN B1 r t2 H (B1 253 t2 + wd)) (hl : (H : Int) ≤ B1 254 t2) : STQ nn Bf nf cnt t B g r := by
  have e := (rr_fra R1 (t := t2) (by omega)).2.1.1
  rw [e] at C
  exact .inl ⟨C.2.2.1.trans th, .inl ⟨t2, k, i, jgn R1 (by omega) C D hl, tpa_k T1 (fun c j w => C.1 c j (by omega) (by omega) (by omega) (by omega)) (fun x j w => D.1 x j (by omega) (by omega) (by omega) (by omega))⟩⟩
theorem fin_mv {t2 : Nat} (R1 : RRd Bf nf cnt A1 B1 (t2 + 1)) (T1 : TPA Bf nf cnt A1 B1 t2 k i) (th : A1 143 20 = 0) (C : CGV A1 g t2 H v (A1 149 t2 + wd)) (D : RGV B1 r t2 H v (B1 253 t2 + wd)) (hl : (H : Int) ≤ B1 254 t2) : STQ nn Bf nf cnt t B g r := by
  have e := (rr_fra R1 (t := t2) (by omega)).2.1.1
  rw [e] at C
  exact .inl ⟨C.2.2.2.1.trans th, .inl ⟨t2, k, i, jgv R1 (by omega) C D hl, tpa_k T1 (fun c j w => C.1 c j (by omega) (by omega) (by omega) (by omega)) (fun x j w => D.1 x j (by omega) (by omega) (by omega) (by omega))⟩⟩
/-- behind the value -/
theorem jo_ret (S : SXc Bf nf cnt A B k i t P op o) (X : RTP nn g0 ω B (t : Int) c kk N T U tt ai p) (y : op = 172 ∨ op = 176 ∨ op = 177) (C : CPp A u t H) (D : RPp B z t H) (hl : (H : Int) ≤ B 254 t) (rt : (op = 177 ∧ v = 0 ∧ tt = 0) ∨ (¬ op = 177 ∧ ¬ tt = 0)) (cv : op = 176 → ¬ v = 0 → 1 ≤ v ∧ v ≤ B 160 141) : Pc (qj_X5_stepReturn_15 nn op v u) (fun g => Pc (qj_X13_back_15 nn op v z) (STQ nn Bf nf cnt t B g)) := by
  obtain ⟨qq, q4, q5, q6, q7, q8⟩ := sxc_p S
  have g141 := gF_160_141 X.vs
  obtain ⟨⟨c1, c2, c3⟩, ⟨d1, d2⟩, Nk, HG, _⟩ := S.1
  have R := S.2.1
  have th := S.2.2.1
  obtain ⟨⟨⟨a1, a2⟩, ⟨a3, a4⟩, a5, a6, a7⟩, d60, F, E, Pr⟩ := R
  have e6 : u 143 6 = (t : Int) + 1 := by rw [C.1 143 6 (by omega), a6]; omega
  have e149 : z 160 149 = (t : Int) + 1 := by rw [D.1 160 149 (by omega), a7]; omega
  unfold qj_X5_stepReturn_15 qj_X13_back_15
  rw [e6, e149]
  refine pc_sub (by omega) ?_; intro v2 e2
  refine pc_xl ?_; intro h3 e3
  refine pc_tw (pc_sub (by omega) ?_); intro v4 e4
  refine pc_xl ?_; intro h5 e5
  have s3 : h3 143 6 = (t : Int) := by rw [e3, up_s]; omega
  have s5 : h5 160 149 = (t : Int) := by rw [e5, up_s]; omega
  have F3 : ∀ c j : Nat, ¬ (c = 143 ∧ j = 6) → ¬ (c = 150 ∧ j = t) → h3 c j = A c j := fun c j w1 w2 => by rw [e3, up_n w1, C.1 c j w2]
  have F5 : ∀ x j : Nat, ¬ (x = 160 ∧ j = 149) → ¬ (x = 254 ∧ j = t) → h5 x j = B x j := fun x j w1 w2 => by rw [e5, up_n w1, D.1 x j w2]
  rw [s3, s5]
  by_cases t0 : t = 0
  · -- the first method ends
    rw [if_pos (show (t : Int) ≤ 0 by omega), if_pos (show (t : Int) ≤ 0 by omega)]
    refine pc_xl ?_; intro h7 e7
    refine pc_tw (pc_xl ?_); intro h6 e6'
    -- the end
    have FIN : ∀ (gv : Int) (m1 m2 : ms_M), (∀ c j : Nat, ¬ (c = 143 ∧ j = 2) → m1 c j = h6 c j) → m1 143 2 = gv → (∀ x j : Nat, ¬ (x = 160 ∧ j = 139) → m2 x j = h7 x j) → m2 160 139 = gv → STQ nn Bf nf cnt t B m1 m2 := fun gv m1 m2 M1 M2 M3 M4 => by
      have G1 : ∀ c j : Nat, ¬ (c = 143 ∧ (j = 1 ∨ j = 2 ∨ j = 6)) → ¬ (c = 150 ∧ j = t) → m1 c j = A c j := fun c j w1 w2 => by rw [M1 c j (by omega), e6', up_n (by omega), F3 c j (by omega) w2]
      have G2 : ∀ x j : Nat, ¬ (x = 160 ∧ (j = 138 ∨ j = 139 ∨ j = 149)) → ¬ (x = 254 ∧ j = t) → m2 x j = B x j := fun x j w1 w2 => by rw [M3 x j (by omega), e7, up_n (by omega), F5 x j (by omega) w2]
      have b1 : m1 143 1 = 2 := by rw [M1 143 1 (by omega), e6', up_s]
      have b2 : m2 160 138 = 2 := by rw [M3 160 138 (by omega), e7, up_s]
      refine .inl ⟨(G1 143 20 (by omega) (by omega)).trans th, .inr ⟨⟨by rw [b1, b2], by omega, by omega⟩, ⟨?_, ?_, ?_, ?_⟩, pra_k Pr (G1 143 7 (by omega) (by omega)) (fun x => G1 144 x (by omega) (by omega)) (G2 160 143 (by omega) (by omega)) (fun x => G2 250 x (by omega) (by omega)), fun _ => by rw [M2, M4], fun w1 w2 => absurd b1 w1⟩⟩
      · rw [G1 143 3 (by omega) (by omega), G2 160 140 (by omega) (by omega)]; exact a5
      · rw [G1 143 4 (by omega) (by omega), G2 160 141 (by omega) (by omega)]; exact E.1.1
      · rw [G1 143 5 (by omega) (by omega), G2 160 142 (by omega) (by omega)]; exact E.1.2
      · rw [M1 143 6 (by omega), e6', up_n (by omega), s3, M3 160 149 (by omega), e7, up_n (by omega), s5]
    by_cases y2 : op = 172
    · rw [if_neg (show ¬ ¬ op = 172 from fun n => n y2), if_neg (show ¬ ¬ op = 172 from fun n => n y2)]
      refine pc_xl ?_; intro h13 e13
      refine pc_ret (pc_xl (fun k13 f13 => pc_ret ?_))
      exact FIN v _ _ (fun c j w => by rw [e13, up_n w]) (by rw [e13, up_s]) (fun c j w => by rw [f13, up_n w]) (by rw [f13, up_s])
    · rw [if_pos (show ¬ op = 172 from y2), if_pos (show ¬ op = 172 from y2)]
      have iso := rc_iso (nn := nn) (B := B) (u := h6) (v := v) (by rw [e6', up_n (by omega), F3 143 4 (by omega) (by omega)]; exact E.1.1) (by omega) (by
        rcases y with y | y | y
        · exact absurd y y2
        · by_cases w : v = 0
          · exact .inl w
          · exact .inr (cv y w)
        · rcases rt with w | w
          · exact .inl w.2.1
          · exact absurd y w.1)
      refine pc_sv iso ?_; intro u7 q7'
      by_cases v0 : v = 0
      · rw [if_pos (show u7 = 0 by omega)]
        refine pc_xl ?_; intro h8 e8
        refine pc_ret ?_
        have Z : STQ nn Bf nf cnt t B h8 h7 := FIN (-1) _ _ (fun c j w => by rw [e8, up_n w]) (by rw [e8, up_s]) (fun _ _ _ => rfl) (by rw [e7, up_n (by omega), F5 160 139 (by omega) (by omega)]; exact a4)
        refine pc_if (fun _ => pc_ret Z) (fun _ => ?_)
        refine pc_if (fun _ => pc_ret Z) (fun w => absurd v0 w)
      · rw [if_neg (show ¬ u7 = 0 by omega)]
        have y6 : op = 176 := by
          rcases y with y | y | y
          · exact absurd y y2
          · exact y
          · rcases rt with w | w
            · exact absurd w.2.1 v0
            · exact absurd y w.1
        obtain ⟨⟨s1, s2, s3', s4⟩, _⟩ := sx_ob S X (cv y6 v0)
        refine pc_rA ?_; intro _ _ v10 e10
        rw [e6', up_n (by omega), F3 145 _ (by omega) (by omega), s2] at e10
        refine pc_xl ?_; intro h11 e11
        refine pc_ret ?_
        rw [if_neg (show ¬ ¬ op = 176 from fun n => n y6), if_neg v0]
        refine pc_sv (P := fun e => e = sr_T (B 246 v.toNat)) ?_ ?_
        · unfold qf_X13_told
          refine pc_rA ?_; intro _ _ w2 f2
          rw [e7, up_n (by omega), F5 246 _ (by omega) (by omega)] at f2
          refine pc_if (fun z9 => ?_) (fun z9 => pc_ret ?_)
          · refine pc_rA ?_; intro _ _ w4 f4
            rw [e7, up_n (by omega), F5 246 _ (by omega) (by omega)] at f4
            refine pc_ret ?_
            show w4 = _
            unfold sr_T
            rw [f4, if_neg (by omega)]
          · have : B 246 v.toNat = 99 := by omega
            show 200 = _
            unfold sr_T
            rw [if_pos this]
        intro u9 q9
        refine pc_xl ?_; intro h10 f10
        exact pc_ret (FIN (sr_T (B 246 v.toNat)) _ _ (fun c j w => by rw [e11, up_n w]) (by rw [e11, up_s, e10]) (fun c j w => by rw [f10, up_n w]) (by rw [f10, up_s, q9]))
  · -- the frame below goes on
    obtain ⟨d, ed⟩ : ∃ d : Nat, t = d + 1 := ⟨t - 1, by omega⟩
    rw [if_neg (show ¬ (t : Int) ≤ 0 by omega), if_neg (show ¬ (t : Int) ≤ 0 by omega)]
    have SK := X.st
    rw [Int.toNat_natCast, ed] at SK
    obtain ⟨t2, LW, _⟩ := SK
    have lr := lof_r X.vs LW (by omega)
    obtain ⟨⟨k2, i2, ⟨f1, f2⟩, ⟨f3, f4⟩, f5⟩, ⟨f6, f7⟩, f8, f9⟩ := F d (by omega)
    have CS3 : CSw Bf nf h3 := csw_r c1 (fun c j _ w => F3 c j (by omega) (by omega))
    refine pc_tw ?_
    refine pc_sv (rc_top (t := d) (k := k2) (i := i2) CS3 (by rw [F3 56 3 (by omega) (by omega), c2]; exact f3) f4 (by rw [s3]; omega) (by omega) (by rw [F3 148 d (by omega) (by omega)]; exact f5)) ?_
    intro u16 ⟨K1, K2, K3, K4⟩
    have G1 : ∀ c j : Nat, ¬ (c = 143 ∧ (j = 6 ∨ j = 17 ∨ j = 18 ∨ j = 19)) → ¬ (c = 150 ∧ j = t) → u16 c j = A c j := fun c j w1 w2 => by rw [K1 c j (by omega), F3 c j (by omega) w2]
    have R1 : RRd Bf nf cnt u16 h5 (d + 1) := by
      have RA := S.2.1
      rw [ed] at RA
      refine rr_pop1 RA (fun c j w1 w2 => G1 c j (by omega) (by omega)) ?_ (fun x j w1 w2 => F5 x j (by omega) (by omega)) ?_
      · rw [K1 143 6 (by omega), s3]; omega
      · rw [s5]; omega
    have T1 : TPA Bf nf cnt u16 h5 d k2 i2 := by
      refine ⟨⟨K2, ?_, K4⟩, ⟨by rw [F5 251 d (by omega) (by omega)]; exact f1, by rw [F5 252 d (by omega) (by omega)]; exact f2⟩, f3, f4⟩
      rw [K3, F3 60 k2 (by omega) (by omega), K1 60 k2 (by omega), F3 60 k2 (by omega) (by omega)]
    have th1 : u16 143 20 = 0 := (G1 143 20 (by omega) (by omega)).trans th
    obtain ⟨H2, eH2⟩ : ∃ H2 : Nat, B 254 d = (H2 : Int) := ⟨(B 254 d).toNat, by omega⟩
    have h254 : h5 254 d = (H2 : Int) := by rw [F5 254 d (by omega) (by omega)]; exact eH2
    have a149 : u16 149 d = B 253 d := by rw [G1 149 d (by omega) (by omega)]; exact f6
    have a150 : u16 150 d = (H2 : Int) := by rw [G1 150 d (by omega) (by omega), f7]; exact eH2
    have b253 : h5 253 d = B 253 d := F5 253 d (by omega) (by omega)
    by_cases y7 : op = 177
    · rw [if_pos y7]
      refine pc_sv (rc_gop (t := d) (H := H2) (w := 2) (cpp_rf a150) K2 (by rw [a149]; omega) (by omega)) ?_; intro u18 G
      refine pc_if (fun _ => pc_ret ?_) (fun w => absurd y7 w)
      unfold qj_X13_back_45
      refine pc_sv (rr_gop (t := d) (H := H2) (w := 2) (rpp_rf h254) (by rw [s5]; omega) (by omega) (by rw [b253]; omega) (by omega)) ?_; intro u2 G2
      exact pc_ret (fin_mn R1 T1 th1 G G2 (by omega))
    · rw [if_neg y7]
      have tn : ¬ tt = 0 := by
        rcases rt with w | w
        · exact absurd w.1 y7
        · exact w.2
      have l30 := lr.2.2 tn
      refine pc_sv (rc_gop (t := d) (H := H2) (w := 2) (cpp_rf a150) K2 (by rw [a149]; omega) (by omega)) ?_; intro u18 G
      refine pc_if (fun w => absurd w y7) (fun _ => ?_)
      obtain ⟨G1', ⟨G2', G3'⟩, G4', G5'⟩ := G
      refine pc_sv (rc_push (v := v) (t := d) (H := H2) (by rw [G1' 143 17 (by omega) (by omega) (by omega) (by omega)]; exact K2) (by omega) G3' (by omega)) ?_; intro u20 q20
      refine pc_ret ?_
      have GV : CGV u16 u20 d H2 v (u16 149 d + 2) := by
        refine ⟨fun c j w1 w2 w3 w4 => ?_, ⟨?_, ?_⟩, ?_, ?_, fun n hn => ?_⟩
        · rw [q20, up_n (by omega), up_n (by omega)]; exact G1' c j w1 w2 w3 w4
        · rw [q20, up_n (by omega), up_n (by omega)]; exact G2'
        · rw [q20, up_s]
        · rw [q20, up_n (by omega), up_s]
        · rw [q20, up_n (by omega), up_n (by omega)]; exact G4'
        · rw [q20, up_n (by omega), up_n (by omega)]; exact G5' n hn
      refine pc_imp (rr_gvp (t := d) (H := H2) (v := v) (w := 2) (rpp_rf h254) (by rw [s5]; omega) (by omega) (by omega) (by rw [b253]; omega) (by omega)) (fun r Rr => ?_)
      exact fin_mv R1 T1 th1 GV Rr (by omega)
theorem js_172 (S : SXc Bf nf cnt A B k i t P op o) (X : RTP nn g0 ω B (t : Int) c kk N T U tt ai p) (y : op = 172 ∨ op = 176 ∨ op = 177) (po : ¬ op = 177 → 1 ≤ B 254 t) (rt : (op = 177 ∧ tt = 0) ∨ (¬ op = 177 ∧ ¬ tt = 0)) (cv : op = 176 → ¬ B 255 (60 * t + 30 + ((B 254 t).toNat - 1)) = 0 → 1 ≤ B 255 (60 * t + 30 + ((B 254 t).toNat - 1)) ∧ B 255 (60 * t + 30 + ((B 254 t).toNat - 1)) ≤ B 160 141) : Pc (qf_X5_step nn A) (fun g => Pc (qf_X13_step nn B) (STQ nn Bf nf cnt t B g)) := by
  refine j_two (fun Q => cz_g172 S.2.2.2.1 y) (fun Q => rz_g172 S.2.2.2.2 y) ?_
  have h := rtp_h X
  have q := (sxc_p S).1
  unfold qj_X5_stepObject_179 qj_X13_step_1014
  refine pc_sv (P := fun g => Pc _ (STQ nn Bf nf cnt t B g)) ?_ (fun u q => pc_ret q)
  refine pc_tw (pc_sv (P := fun r => Pc _ (fun g => STQ nn Bf nf cnt t B g r)) ?_ (fun u q => pc_ret q))
  refine pc_tw ?_
  unfold qf_X5_stepReturn qf_X13_back
  by_cases y7 : op = 177
  · rw [if_neg (show ¬ ¬ op = 177 from fun n => n y7), if_neg (show ¬ ¬ op = 177 from fun n => n y7)]
    obtain ⟨c0, r0⟩ := sx_c0 S (H := (B 254 t).toNat) (by omega)
    refine jo_ret S X y c0 r0 (by omega) ?_ (fun w => absurd w (by omega))
    rcases rt with w | w
    · exact .inl ⟨w.1, rfl, w.2⟩
    · exact .inr w
  · rw [if_pos (show ¬ op = 177 from y7), if_pos (show ¬ op = 177 from y7)]
    have po := po y7
    generalize eH : (B 254 t).toNat - 1 = H at cv
    obtain ⟨c0, r0⟩ := sx_c0 S (H := H + 1) (by omega)
    have vv := sx_v S (H := H) (by omega) (by omega)
    refine pc_sv (rc_pp c0 q.1 q.2.2 (by omega)) ?_; intro u1 ⟨v1, C1⟩
    refine pc_tw (pc_sv (rr_pp r0 q.2.1 q.2.2 (by omega)) ?_); intro u2 ⟨v2, D1⟩
    have ev : u2.1 = u1.1 := by rw [v1, v2, vv]
    rw [← v2, ev] at cv
    rw [ev]
    refine pc_tw ?_
    refine jo_ret S X y C1 D1 (by omega) ?_ cv
    rcases rt with w | w
    · exact absurd w.1 y7
    · exact .inr w
end
end
section
/- RUN: what a call's constant says -/
section
variable {nn : Nat} {Bf : Nat → Nat → Int} {nf : Nat → Nat} {cnt : Int} {k i t P H d k2 : Nat} {A B g r u z p h w w2 A1 B1 g0 f : ms_M} {ω : Int → ms_M} {op o v wd c kk tt ty x y x2 a e s uu bb j q m tc : Int} {L : Int → Int} {N ai : Nat} {T U : Nat → ms_M}
theorem tr_x (S : RSv Bf nf B) (W : WI B (k : Int) w) (hk : (k : Int) < B 160 98) (T : TX w (k : Int) x) : tg_S (Bf k) (nf k) x = 1 ∧ w 238 (pl w (k : Int) x + 1).toNat = (tl_S (Bf k) (nf k) x : Int) ∧ ∀ m : Nat, m < tl_S (Bf k) (nf k) x → w 238 (pl w (k : Int) x + 2 + (m : Int)).toNat = Bf k (na_S (Bf k) (nf k) x + m) := by
  obtain ⟨n6, k8⟩ := tb_n6 S hk
  have t1 := tr_t S W hk (s := 1) T
  obtain ⟨e, x2, kv⟩ := tr_p S W hk T.1.1 T.1.2
  obtain ⟨a1, a2, a3, a4, a5⟩ := wi_tx W (by omega) T
  obtain ⟨p1, p2, p3, p4, p5, p6, p7⟩ := pi_le S hk t1
  have ena : na_S (Bf k) (nf k) x = pl_S (Bf k) (nf k) x + 2 := rfl
  have el : w 238 (pl w (k : Int) x + 1).toNat = (tl_S (Bf k) (nf k) x : Int) := by
    rw [tr_b S W hk (x := pl w (k : Int) x + 1) (by omega) (by omega) (by omega), show (pl w (k : Int) x + 1).toNat = pl_S (Bf k) (nf k) x + 1 by omega]; exact p4
  refine ⟨t1, el, fun m hm => ?_⟩
  rw [tr_b S W hk (x := pl w (k : Int) x + 2 + (m : Int)) (by omega) (by omega) (by omega), show (pl w (k : Int) x + 2 + (m : Int)).toNat = na_S (Bf k) (nf k) x + m by omega]
theorem eqt_q (S : RSv Bf nf B) (W : WI B (k : Int) w) (hk : (k : Int) < B 160 98) (T : TX w (k : Int) x) (W2 : WI B (k2 : Int) w2) (hk2 : (k2 : Int) < B 160 98) (T2 : TX w2 (k2 : Int) x2) (E : EQT w (k : Int) x w2 (k2 : Int) x2) : TXq (Bf k) (nf k) x (Bf k2) (nf k2) x2 := by
  obtain ⟨_, l1, b1⟩ := tr_x S W hk T
  obtain ⟨_, l2, b2⟩ := tr_x S W2 hk2 T2
  obtain ⟨E1, E2⟩ := E
  have el : tl_S (Bf k) (nf k) x = tl_S (Bf k2) (nf k2) x2 := by omega
  refine ⟨el, fun m hm => ?_⟩
  rw [← b1 m hm, ← b2 m (by omega)]
  exact E2 (m : Int) (by omega) (by omega)
theorem txq_tr {D1 D2 D3 : Nat → Int} {n1 n2 n3 : Nat} {t1 t2 t3 : Int} (E : TXq D1 n1 t1 D2 n2 t2) (F : TXq D2 n2 t2 D3 n3 t3) : TXq D1 n1 t1 D3 n3 t3 := ⟨E.1.trans F.1, fun i hi => (E.2 i hi).trans (F.2 i (by rw [← E.1]; exact hi))⟩
/-- a method's kind, read -/
theorem pn_ps {D : Nat → Int} {a s m : Nat} (hp : pi_N D a s = some m) (m6 : m ≤ 6) : ∃ ps : Nat → Nat, MKd D a s m ps := by
  unfold pi_N at hp
  by_cases w : a < s ∧ D a = 40
  · rw [if_pos w] at hp
    cases hq : pl_N D (s + 1) (a + 1) s with
    | none => rw [hq] at hp; exact nomatch hp
    | some x =>
      rw [hq] at hp
      dsimp only at hp
      by_cases e : pe_N D x.2 s = true
      · rw [if_pos e] at hp
        have ex : x.1 = m := Option.some.inj hp
        obtain ⟨ps, p0, p1, p2, p3⟩ := pl_ps _ _ x.1 x.2 hq
        unfold pe_N at e
        rw [Bool.and_eq_true, Bool.or_eq_true, Bool.and_eq_true] at e
        have e1 := of_decide_eq_true e.1
        refine ⟨ps, ⟨w.2, p0, by omega⟩, fun j hj => p2 j (by omega), ⟨?_, ?_⟩, ?_⟩
        · rw [← ex, p1]; exact p3 e1
        · rw [← ex, p1]
          rcases e.2 with ⟨z1, z2⟩ | z
          · have := of_decide_eq_true z1; omega
          · have := (kd_rg (of_decide_eq_true z)).1; omega
        · rw [← ex, p1]
          rcases e.2 with ⟨z1, z2⟩ | z
          · have a := of_decide_eq_true z1
            have b := of_decide_eq_true z2
            exact .inl ⟨.inr (.inr b), by omega⟩
          · exact (kd_s (of_decide_eq_true z)).1
      · rw [if_neg e] at hp; exact nomatch hp
  · rw [if_neg w] at hp; exact nomatch hp
/-- the called method's kind: how many it takes, on both sides -/
theorem sx_cm (hn : 1000000 ≤ nn) (S : SXc Bf nf cnt A B k i t P op o) (X : RTP nn g0 ω B (t : Int) (k : Int) kk N T U tt ai p) (mr : MRF nn g0 ω (k : Int) (ω (k : Int)) o 1 uu bb j) (tk : TKV nn g0 (k : Int) (ω (k : Int)) (ω (k : Int) 238 (pl (ω (k : Int)) (k : Int) o + 1 + 2).toNat) m L q tc) {jj : Nat} (ej : (jj : Int) = j) : ∃ m2 : Nat, m = (m2 : Int) ∧ m2 ≤ 6 ∧ sk_V (Bf k) (nf k) o = 1 ∧ (jj : Int) < mc_S (Bf (bb - 8).toNat) (nf (bb - 8).toNat) ∧ pi_S (Bf (bb - 8).toNat) (nf (bb - 8).toNat) (Bf (bb - 8).toNat (ma_S (Bf (bb - 8).toNat) (nf (bb - 8).toNat) jj + 2)) = some m2 ∧ tg_S (Bf k) (nf k) (pt_S (Bf k) (nf k) o 2) = 1 ∧ Pc (qf_X13_parametersIn nn 226 ((6000 * k + na_S (Bf k) (nf k) (pt_S (Bf k) (nf k) o 2) : Nat) : Int) (tl_S (Bf k) (nf k) (pt_S (Bf k) (nf k) o 2) : Int) B) (fun u => u = (m2 : Int)) := by
  obtain ⟨t4, _, _, ⟨tx2, e2⟩, hb, _⟩ := sx_mf hn S X mr
  obtain ⟨⟨c1, c2, c3⟩, ⟨d1, d2⟩, Nk, HG, _⟩ := S.1
  have g3 := HG.1
  have hk := S.2.2.2.2.1.2.1
  have e98 := X.rx.2.1.1
  have AE := X.rx.2.1
  obtain ⟨W, hg⟩ := tr_w X.rx hk
  obtain ⟨n6, k8⟩ := tb_n6 d1 hk
  obtain ⟨st4, ⟨ub, ct⟩, hs, hbb, hj, eqt⟩ := mr
  rw [e2] at tk eqt
  obtain ⟨k2, ek2⟩ : ∃ k2 : Nat, bb = 8 + (k2 : Int) := ⟨(bb - 8).toNat, by omega⟩
  have eb8 : bb - 8 = (k2 : Int) := by omega
  rw [eb8, Int.toNat_natCast]
  rw [eb8] at eqt hj
  have hk2 : (k2 : Int) < B 160 98 := by omega
  obtain ⟨W2, hg2⟩ := tr_w X.rx hk2
  obtain ⟨n62, k82⟩ := tb_n6 d1 hk2
  have W20 := X.rx.1.2.1 (k2 : Int) (by omega) hg2
  have hj0 : 0 ≤ j ∧ j < g0 234 (k2 : Int).toNat := hj
  obtain ⟨j12, bnd, mt⟩ := wi_mt W20 (by omega) hj0
  obtain ⟨GI, _, m234, MD⟩ := rg_im (d1.2 k2 hk2)
  have hjc : (jj : Int) < mc_S (Bf k2) (nf k2) := by
    rw [← m234, (AE.2 (k2 : Int) (by omega) hg2).2.2.1.2.2.2.2]; omega
  have e235 : g0 235 (12 * (k2 : Int) + j).toNat = (ma_S (Bf k2) (nf k2) jj : Int) := by
    rw [← ((AE.2 (k2 : Int) (by omega) hg2).2.2.2 j (by omega) j12).2.1, ← ej]
    exact (MD jj hjc).1
  have G := GI.2.2.2 jj hjc
  obtain ⟨_, ⟨m1, pm1, _⟩, _, ⟨l1, l2, l3⟩, _⟩ := G
  rw [e235] at bnd
  have kd : kdT g0 ω (k2 : Int) 1 j = Bf k2 (ma_S (Bf k2) (nf k2) jj + 2) := by
    show (if (1 : Int) = 0 then _ else ω (k2 : Int) 238 (g0 235 (12 * (k2 : Int) + j).toNat + 2).toNat) = _
    rw [if_neg (by omega), e235, tr_b d1 W2 hk2 (x := (ma_S (Bf k2) (nf k2) jj : Int) + 2) (by omega) (by omega) (by omega), show ((ma_S (Bf k2) (nf k2) jj : Int) + 2).toNat = ma_S (Bf k2) (nf k2) jj + 2 by omega]
  have tk2 := (mth_tx mt).2
  have ekd : kdT g0 ω (k2 : Int) 1 j = ω (k2 : Int) 238 (g0 235 (12 * (k2 : Int) + j).toNat + 2).toNat := rfl
  rw [← ekd, kd] at tk2
  rw [kd] at eqt
  have TQ := eqt_q d1 W2 hk2 tk2.1 W hk tx2 eqt
  obtain ⟨mm, _, k40, _⟩ := tk2.2.2.2.1 rfl
  have f1 := (tr_x0 d1 W2 hk2 tk2.1).2
  rw [f1] at k40
  obtain ⟨t2, el2, bl2⟩ := tr_x d1 W hk tx2
  obtain ⟨p1, p2, p3, p4, p5, p6, p7⟩ := pi_le d1 hk t2
  have b40 : Bf k (na_S (Bf k) (nf k) (pt_S (Bf k) (nf k) o 2)) = 40 := by
    have := TQ.2 0 (by rw [TQ.1]; omega)
    exact this.symm.trans k40
  have sk1 : sk_V (Bf k) (nf k) o = 1 := by unfold sk_V; rw [if_pos b40]
  obtain ⟨zx, zk, z2⟩ := rs_zk d1 hk
  obtain ⟨m2, pm2⟩ : ∃ m2 : Nat, pi_S (Bf k) (nf k) (pt_S (Bf k) (nf k) o 2) = some m2 := by
    rcases (mb_tx zk z2 t4).2.2.2 with ⟨w1, _⟩ | ⟨_, w2⟩
    · exfalso; omega
    · exact w2
  have e12 : m1 = m2 := by
    have a1 := (ps_ok pm1).1
    have a2 := (ps_ok pm2).1
    have := (txq_m (cnt := cnt) TQ pm1 pm2).1
    omega
  -- the reference's count
  have k40w : ω (k : Int) 238 (pl (ω (k : Int)) (k : Int) (pt_S (Bf k) (nf k) o 2) + 2).toNat = 40 := by rw [(tr_x0 d1 W hk tx2).2]; exact b40
  have mkn : MKn (ω (k : Int) 238) m.toNat (pl (ω (k : Int)) (k : Int) (pt_S (Bf k) (nf k) o 2) + 2) (pl (ω (k : Int)) (k : Int) (pt_S (Bf k) (nf k) o 2) + 2 + ω (k : Int) 238 (pl (ω (k : Int)) (k : Int) (pt_S (Bf k) (nf k) o 2) + 1).toNat) :=
    ⟨k40w, q, pv_pr _ _ _ _ tk.2.1, tk.2.2.1, tk.2.2.2.1⟩
  obtain ⟨a1, a2, a3, a4, a5⟩ := wi_tx W (by omega) tx2
  have ebt : EB (ω (k : Int) 238) (B 226) (pl (ω (k : Int)) (k : Int) (pt_S (Bf k) (nf k) o 2) + 2) (6000 * (k : Int) + (pl (ω (k : Int)) (k : Int) (pt_S (Bf k) (nf k) o 2) + 2)) (ω (k : Int) 238 (pl (ω (k : Int)) (k : Int) (pt_S (Bf k) (nf k) o 2) + 1).toNat) := fun l l0 l1 => by
    rw [show 6000 * (k : Int) + (pl (ω (k : Int)) (k : Int) (pt_S (Bf k) (nf k) o 2) + 2) + l = 6000 * (k : Int) + (pl (ω (k : Int)) (k : Int) (pt_S (Bf k) (nf k) o 2) + 2 + l) by omega, W.2.2.1 _ (by omega) (by omega)]
  have mkR := mkn_p ebt mkn
  have epl := (tr_p d1 W hk tx2.1.1 tx2.1.2).1
  have ena : na_S (Bf k) (nf k) (pt_S (Bf k) (nf k) o 2) = pl_S (Bf k) (nf k) (pt_S (Bf k) (nf k) o 2) + 2 := rfl
  have m6 := tk.1
  obtain ⟨uv, eu, qu⟩ := rn_pars hn X.vs (by omega) mkR
  have pe := params_M (nn := nn) (by omega) (M := B) (c := 226) (by have := vi_c X.vs; omega) (by rfl) (a := 6000 * k + na_S (Bf k) (nf k) (pt_S (Bf k) (nf k) o 2)) (m := tl_S (Bf k) (nf k) (pt_S (Bf k) (nf k) o 2)) (by show _ ≤ ln_I B 226; rw [show ln_I B 226 = 48000 by rfl]; omega) (by omega)
  rw [el2, epl, show 6000 * (k : Int) + ((pl_S (Bf k) (nf k) (pt_S (Bf k) (nf k) o 2) : Int) + 2) = ((6000 * k + na_S (Bf k) (nf k) (pt_S (Bf k) (nf k) o 2) : Nat) : Int) by omega] at eu
  rw [pe] at eu
  have eu := Option.some.inj eu
  have epi : ∃ m3 : Nat, pi_N (B 226) (6000 * k + na_S (Bf k) (nf k) (pt_S (Bf k) (nf k) o 2)) (6000 * k + na_S (Bf k) (nf k) (pt_S (Bf k) (nf k) o 2) + tl_S (Bf k) (nf k) (pt_S (Bf k) (nf k) o 2)) = some m3 ∧ (m3 : Int) = m := by
    cases hq : pi_N (B 226) (6000 * k + na_S (Bf k) (nf k) (pt_S (Bf k) (nf k) o 2)) (6000 * k + na_S (Bf k) (nf k) (pt_S (Bf k) (nf k) o 2) + tl_S (Bf k) (nf k) (pt_S (Bf k) (nf k) o 2)) with
    | none =>
      rw [hq] at eu
      have eu : (-1 : Int) = uv := eu
      exfalso; omega
    | some m3 =>
      rw [hq] at eu
      have eu : (m3 : Int) = uv := eu
      exact ⟨m3, rfl, by omega⟩
  obtain ⟨m3, hp3, em3⟩ := epi
  obtain ⟨ps, MK1⟩ := pn_ps hp3 (by omega)
  have MK2 := (ps_ok pm2).2.2
  have e32 := (mkd_e MK1 MK2 (by omega) (fun x hx => by rw [Nat.add_assoc]; exact tb_by d1 hk (by omega))).1
  refine ⟨m2, by omega, by omega, sk1, hjc, by rw [pm1, e12], t2, fun y ey => ?_⟩
  rw [pe, hp3] at ey
  have ey : (m3 : Int) = y := Option.some.inj ey
  omega
/-- from the reference's 'below' to the images' -/
theorem un_q (hn : 1000000 ≤ nn) (X : RX nn ω g0 B) (S : RSv Bf nf B) (Nk : NKn Bf nf cnt) (d2 : B 160 98 = cnt) (U : UNd nn g0 s uu) (hs : 0 ≤ s ∧ s < 8 + cnt) (hu : 0 ≤ uu) : UNq Bf nf cnt s uu := by
  have e98 := X.2.1.1
  obtain ⟨y, ey, qy⟩ := rt_under hn X.1 X.2.1 X.2.2.1 (k := s) (t := uu) (by omega) (by omega)
  have y1 : y = 1 := by
    rcases qy with ⟨a, _⟩ | ⟨_, b⟩
    · exact a
    · exact absurd U b
  have VU := vr_under (nn := nn) (x := s) (y := uu) (by rw [d2]; exact Nk) S (by rw [d2]; exact hs) hu y ey
  rw [d2] at VU
  rcases VU with ⟨_, a⟩ | ⟨a, _⟩
  · exact a
  · exfalso; omega
theorem ch_sf {x y : Nat} : ch_F Bf nf cnt c (x + y) = ch_F Bf nf cnt (ch_F Bf nf cnt c x) y := by
  induction y with
  | zero => rfl
  | succ y ih =>
    show (if ch_F Bf nf cnt c (x + y) = -1 then -1 else sp_F Bf nf cnt (ch_F Bf nf cnt c (x + y))) = (if ch_F Bf nf cnt (ch_F Bf nf cnt c x) y = -1 then -1 else sp_F Bf nf cnt (ch_F Bf nf cnt (ch_F Bf nf cnt c x) y))
    rw [ih]
theorem hfd_tx {o1 o2 jd : Nat} {t1 t2 dd : Int} (T : TXq (Bf o1) (nf o1) t1 (Bf o2) (nf o2) t2) (E : HFd Bf nf cnt o1 t1 s c dd jd) : HFd Bf nf cnt o2 t2 s c dd jd := by
  obtain ⟨x, e1, e2, ⟨e3, e4, e5⟩, e6⟩ := E
  have K : ∀ (d' : Int) (y : Nat), NAm Bf nf o2 t2 s d' y → NAm Bf nf o1 t1 s d' y := fun d' y h => txq_tr h (txq_s T)
  exact ⟨x, e1, e2, ⟨e3, txq_tr e4 T, fun y hy n => e5 y hy (K _ _ n)⟩, fun y hy z hz n => e6 y hy z hz (K _ _ n)⟩
/-- a member above is found -/
theorem hno_no {dd : Int} {jd kt : Nat} (g3 : 0 ≤ cnt) (hc : ISc cnt c) (U : UNq Bf nf cnt c uu) (E : HFd Bf nf cnt kt a s uu dd jd) (h8 : 8 ≤ dd) : ¬ HNo Bf nf cnt kt a s c := fun no => by
  obtain ⟨x, ex⟩ := U
  obtain ⟨y, e1, e2, ⟨e3, e4, e5⟩, e6⟩ := E
  have ed : ch_F Bf nf cnt c (x + y) = dd := by rw [ch_sf, ex, e1]
  refine no (x + y) (fun z hz => Classical.byContradiction fun n8 => ?_) jd (by rw [ed]; exact e3) (by rw [ed]; exact e4)
  have := ch_lo (Bf := Bf) (nf := nf) (cnt := cnt) (c := c) (i := z) (by omega) (.inr hc) g3 (x + y - z)
  rw [show z + (x + y - z) = x + y by omega, ed] at this
  omega
end
end

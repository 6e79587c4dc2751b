/- RUN: kinds asked, new objects -/
section
variable {nn : Nat} {Bf : Nat → Nat → Int} {nf : Nat → Nat} {cnt : Int} {k i t P H d n m s : Nat} {A B g r u z p h A1 B1 g0 : ms_M} {ω : Int → ms_M} {op o v w c kk tt ty x y a e : Int} {N ai : Nat} {T U : Nat → ms_M}
theorem tis_sr (c8 : cnt ≤ 8) (hs : STs cnt x) : TIs cnt (sr_T x) := by
  unfold STs at hs
  unfold TIs ISc sr_T
  by_cases w9 : x = 99
  · rw [if_pos w9]; exact ⟨fun w => by omega, fun w => by omega⟩
  · rw [if_neg w9]; exact ⟨fun w => by omega, fun w => by omega⟩
theorem tpa_k (T1 : TPA Bf nf cnt A B t k i) (C : ∀ c j : Nat, c = 60 ∨ (c = 143 ∧ (j = 17 ∨ j = 18 ∨ j = 19)) → g c j = A c j) (D : ∀ x j : Nat, x = 251 ∨ x = 252 → r x j = B x j) : TPA Bf nf cnt g r t k i := by
  obtain ⟨⟨c1, c2, c3⟩, ⟨d1, d2⟩, e⟩ := T1
  refine ⟨⟨?_, ?_, ?_⟩, ⟨?_, ?_⟩, e⟩
  · rw [C 143 17 (by omega)]; exact c1
  · rw [C 143 18 (by omega), C 60 k (by omega)]; exact c2
  · rw [C 143 19 (by omega)]; exact c3
  · rw [D 251 t (by omega)]; exact d1
  · rw [D 252 t (by omega)]; exact d2
theorem sx_tp (S : SXc Bf nf cnt A B k i t P op o) : TPA Bf nf cnt A B t k i := by
  obtain ⟨E, R, th, ⟨_, cc, _⟩, ⟨⟨_, hk, hi⟩, ⟨_, d2, d3⟩, _⟩⟩ := S
  have e98 := E.2.1.2
  exact ⟨cc, ⟨d2, d3⟩, by omega, hi⟩
/-- from a state in the middle of a step: a value comes -/
theorem fin_m (R1 : RRd Bf nf cnt A1 B1 (t + 1)) (T1 : TPA Bf nf cnt A1 B1 t k i) (th : A1 143 20 = 0) (C : CGV A1 g t H v (A1 149 t + w)) (D : RGV B1 r t H v (B1 253 t + w)) (hl : (H : Int) ≤ B1 254 t) : STQ nn Bf nf cnt t B g r := by
  have e := (rr_fra R1 (t := t) (by omega)).2.1.1
  rw [e] at C
  refine .inl ⟨C.2.2.2.1.trans th, .inl ⟨t, k, i, jgv R1 (by omega) C D hl, tpa_k T1 (fun c j w => C.1 c j (by omega) (by omega) (by omega) (by omega)) (fun x j w => D.1 x j (by omega) (by omega) (by omega) (by omega))⟩⟩
theorem jo_gm (R1 : RRd Bf nf cnt A1 B1 (t + 1)) (T1 : TPA Bf nf cnt A1 B1 t k i) (th : A1 143 20 = 0) (t60 : t < 60) (h30 : H < 30) (hl : B1 254 t = (H : Int)) (hp : 0 ≤ B1 253 t ∧ B1 253 t ≤ 10000) (hw : -10000 ≤ w ∧ w ≤ 10000) : Pc (qf_X5_give nn v w A1) (fun g => Pc (mx_sv (qf_X13_give nn v B1) fun y => qj_X13_step_1150 nn w y) (STQ nn Bf nf cnt t B g)) := by
  have f := (rr_fra R1 (t := t) (by omega)).2.1
  have b149 := R1.1.2.2.2.2
  exact pc_imp (rc_gvp (cpp_rf (f.2.trans hl)) T1.1.1 t60 h30 (by rw [f.1]; exact hp) hw) (fun g G => pc_imp (rr_gvp (rpp_rf hl) (by omega) t60 h30 hp hw) (fun r Rr => fin_m R1 T1 th G Rr (by omega)))
/-- no room -/
theorem rr_room (R1 : RRd Bf nf cnt A1 B1 (t + 1)) : ENR (up_M A1 143 1 4) (up_M B1 160 138 4) := by
  obtain ⟨⟨⟨a1, a2⟩, ⟨a3, a4⟩, a5, a6, a7⟩, d60, F, ⟨⟨h1, h2⟩, _⟩, Pr⟩ := R1
  refine ⟨⟨?_, ?_, ?_⟩, ⟨?_, ?_, ?_, ?_⟩, pra_k Pr (by rw [up_n (by omega)]) (fun x => by rw [up_n (by omega)]) (by rw [up_n (by omega)]) (fun x => by rw [up_n (by omega)]), fun w => ?_, fun _ _ => ?_⟩
  · rw [up_s, up_s]
  · rw [up_s]; omega
  · rw [up_s]; omega
  · rw [up_n (by omega), up_n (by omega)]; exact a5
  · rw [up_n (by omega), up_n (by omega)]; exact h1
  · rw [up_n (by omega), up_n (by omega)]; exact h2
  · rw [up_n (by omega), up_n (by omega)]; omega
  · rw [up_s] at w; exfalso; omega
  · rw [up_n (by omega)]; exact a3
/-- a new object on both sides -/
theorem rr_mk {uu vv : Int × ms_M} (R : RRd Bf nf cnt A1 B1 d) (en : B1 160 141 = (n : Int)) (em : B1 160 142 = (m : Int)) (st : STs cnt a) (hs : n < 2000 ∧ m + s ≤ 20000) (C : (∀ c j : Nat, ¬ (c = 143 ∧ (j = 4 ∨ j = 5)) → ¬ (c = 145 ∧ j = n + 1) → ¬ (c = 146 ∧ (j = n + 1 ∨ j = n + 2)) → ¬ (c = 147 ∧ m ≤ j ∧ j < m + s) → uu.2 c j = A1 c j) ∧ (uu.2 143 4 = ((n + 1 : Nat) : Int) ∧ uu.2 143 5 = ((m + s : Nat) : Int)) ∧ (uu.2 145 (n + 1) = sr_T a ∧ uu.2 146 (n + 1) = (m : Int) ∧ uu.2 146 (n + 2) = ((m + s : Nat) : Int)) ∧ ∀ x : Nat, m ≤ x → x < m + s → uu.2 147 x = 0) (D : (∀ c j : Nat, ¬ (c = 160 ∧ (j = 141 ∨ j = 142)) → ¬ ((246 ≤ c ∧ c ≤ 248) ∧ j = n + 1) → ¬ (c = 249 ∧ m ≤ j ∧ j < m + s) → vv.2 c j = B1 c j) ∧ (vv.2 160 141 = ((n + 1 : Nat) : Int) ∧ vv.2 160 142 = ((m + s : Nat) : Int)) ∧ (vv.2 246 (n + 1) = a ∧ vv.2 247 (n + 1) = (m : Int) ∧ vv.2 248 (n + 1) = (s : Int)) ∧ ∀ x : Nat, m ≤ x → x < m + s → vv.2 249 x = 0) : RRd Bf nf cnt uu.2 vv.2 d := by
  obtain ⟨C0, ⟨C4, C5⟩, ⟨C6, C7, C8⟩, C9⟩ := C
  obtain ⟨D0, ⟨D4, D5⟩, ⟨D6, D7, D8⟩, D9⟩ := D
  have C' : ∀ c j : Nat, ¬ (c = 143 ∧ (j = 4 ∨ j = 5)) → ¬ (145 ≤ c ∧ c ≤ 147) → uu.2 c j = A1 c j := fun c j w1 w2 => C0 c j w1 (by omega) (by omega) (by omega)
  have D' : ∀ c j : Nat, ¬ (c = 160 ∧ (j = 141 ∨ j = 142)) → ¬ (246 ≤ c ∧ c ≤ 249) → vv.2 c j = B1 c j := fun c j w1 w2 => D0 c j w1 (by omega) (by omega)
  obtain ⟨⟨⟨a1, a2⟩, ⟨a3, a4⟩, a5, a6, a7⟩, d60, F, ⟨⟨h1, h2⟩, h3, h4, h5⟩, Pr⟩ := R
  refine ⟨⟨⟨?_, ?_⟩, ⟨?_, ?_⟩, ?_, ?_, ?_⟩, d60, fun j hj => ?_, ⟨⟨?_, ?_⟩, fun o o1 o2 => ?_, fun q => ?_, fun y hy => ?_⟩, pra_k Pr (C' 143 7 (by omega) (by omega)) (fun x => C' 144 x (by omega) (by omega)) (D' 160 143 (by omega) (by omega)) (fun x => D' 250 x (by omega) (by omega))⟩
  · rw [C' 143 1 (by omega) (by omega)]; exact a1
  · rw [D' 160 138 (by omega) (by omega)]; exact a2
  · rw [C' 143 2 (by omega) (by omega)]; exact a3
  · rw [D' 160 139 (by omega) (by omega)]; exact a4
  · rw [C' 143 3 (by omega) (by omega), D' 160 140 (by omega) (by omega)]; exact a5
  · rw [C' 143 6 (by omega) (by omega)]; exact a6
  · rw [D' 160 149 (by omega) (by omega)]; exact a7
  · exact fra_k (F j hj) (C' 148 j (by omega) (by omega)) (C' 149 j (by omega) (by omega)) (C' 150 j (by omega) (by omega)) (fun n hn => C' 151 _ (by omega) (by omega)) (fun n hn => C' 152 _ (by omega) (by omega)) (D' 251 j (by omega) (by omega)) (D' 252 j (by omega) (by omega)) (D' 253 j (by omega) (by omega)) (D' 254 j (by omega) (by omega)) (fun n hn => D' 255 _ (by omega) (by omega))
  · rw [C4, D4]
  · rw [C5, D5]
  · rw [D4] at o2
    by_cases z : o = n + 1
    · rw [z, D6, D7, D8, C6, C7, show n + 1 + 1 = n + 2 by omega, C8]
      exact ⟨st, rfl, rfl, by omega⟩
    · obtain ⟨g1, g2, g3, g4⟩ := h3 o o1 (by omega)
      rw [D0 246 o (by omega) (by omega) (by omega), D0 247 o (by omega) (by omega) (by omega), D0 248 o (by omega) (by omega) (by omega), C0 145 o (by omega) (by omega) (by omega) (by omega), C0 146 o (by omega) (by omega) (by omega) (by omega)]
      refine ⟨g1, g2, g3, ?_⟩
      by_cases z2 : o = n
      · have h4 := h4 (by omega)
        rw [show (B1 160 141).toNat + 1 = o + 1 by omega] at h4
        rw [show o + 1 = n + 1 by omega, C7, ← g4, h4, em]
      · rw [C0 146 (o + 1) (by omega) (by omega) (by omega) (by omega)]; exact g4
  · rw [D4, show (((n + 1 : Nat) : Int)).toNat + 1 = n + 2 by omega, C8, D5]
  · rw [D5] at hy
    by_cases z : m ≤ y
    · rw [C9 y z (by omega), D9 y z (by omega)]
    · rw [C0 147 y (by omega) (by omega) (by omega) (by omega), D0 249 y (by omega) (by omega) (by omega)]; exact h5 y (by omega)
/-- make, then give, on both sides, behind what was taken -/
theorem jo_new (S : SXc Bf nf cnt A B k i t P op o) (X : RTP nn g0 ω B (t : Int) c kk N T U tt ai p) (C : CPp A u t H) (D : RPp B z t H) (h30 : H < 30) (hl : (H : Int) ≤ B 254 t) (st : STs cnt a) (x0 : 0 ≤ x ∧ x ≤ 2147483647) : Pc (qf_X5_giveNew nn (sr_T a) x u) (fun g => Pc (mx_sv (qf_X13_make_ nn a x z) fun u13 => qj_X13_fresh__89 nn u13.1 u13.2) (STQ nn Bf nf cnt t B g)) := by
  have g141 := gF_160_141 X.vs
  have g142 := gF_160_142 X.vs
  obtain ⟨q, q4, q5, q6, q7, q8⟩ := sxc_p S
  have R1 := jpp S.2.1 (by omega) C D hl
  have T1 : TPA Bf nf cnt u z t k i := tpa_k (sx_tp S) (fun c j w => C.1 c j (by omega)) (fun x j w => D.1 x j (by omega))
  have th : u 143 20 = 0 := (C.1 143 20 (by omega)).trans S.2.2.1
  obtain ⟨n, en⟩ : ∃ n : Nat, z 160 141 = (n : Int) := ⟨(z 160 141).toNat, by rw [D.1 160 141 (by omega)]; omega⟩
  obtain ⟨m, em⟩ : ∃ m : Nat, z 160 142 = (m : Int) := ⟨(z 160 142).toNat, by rw [D.1 160 142 (by omega)]; omega⟩
  obtain ⟨s, es⟩ : ∃ s : Nat, x = (s : Int) := ⟨x.toNat, by omega⟩
  have nr : n ≤ 2000 := by have := D.1 160 141 (by omega); omega
  have mr : m ≤ 20000 := by have := D.1 160 142 (by omega); omega
  have E := R1.2.2.2.1.1
  rw [es]
  unfold qf_X5_giveNew
  refine pc_sv (rc_make (a := sr_T a) (s := s) (E.1.trans en) (E.2.trans em) nr mr (by omega)) ?_; intro u2 q2
  refine pc_tw ?_
  refine pc_sv (rr_make (a := a) (s := s) en em nr mr (by omega)) ?_; intro u13 q13
  refine pc_tw ?_
  unfold qj_X13_fresh__89
  rcases q2 with ⟨a1, a2, a3⟩ | ⟨a1, a2, a3⟩
  · rcases q13 with ⟨b1, b2, b3⟩ | ⟨b1, b2, b3⟩
    · rw [if_pos a2, if_neg (fun n => n b2), a3, b3]
      refine pc_ret (pc_ret (.inl ⟨?_, .inr (rr_room R1)⟩))
      rw [up_n (by omega)]; exact th
    · exfalso; omega
  · rcases q13 with ⟨b1, b2, b3⟩ | ⟨b1, b2, b3⟩
    · exfalso; omega
    · rw [if_neg (show ¬ u2.1 = 0 by omega), if_pos (show ¬ u13.1 = 0 by omega), b2, a2]
      have R2 := rr_mk R1 en em st a1 a3 b3
      have e254 : u13.2 254 t = (H : Int) := by rw [b3.1 254 t (by omega) (by omega) (by omega)]; exact D.2
      have e253 : u13.2 253 t = B 253 t := by rw [b3.1 253 t (by omega) (by omega) (by omega)]; exact D.1 253 t (by omega)
      have T2 : TPA Bf nf cnt u2.2 u13.2 t k i := tpa_k T1 (fun c j w => a3.1 c j (by omega) (by omega) (by omega) (by omega)) (fun x j w => b3.1 x j (by omega) (by omega) (by omega))
      exact pc_sv (jo_gm R2 T2 ((a3.1 143 20 (by omega) (by omega) (by omega) (by omega)).trans th) q.2.2 h30 e254 (by rw [e253]; exact q5) (by omega)) (fun u q => pc_ret q)
theorem js_187 (hn : 1000000 ≤ nn) (S : SXc Bf nf cnt A B k i t P op o) (X : RTP nn g0 ω B (t : Int) c kk N T U tt ai p) (y : op = 187) (ps : PS1 (T ai) 0 ty (U ai)) (t3 : tg_S (Bf k) (nf k) o = 3) (n91 : ¬ Bf k (na_S (Bf k) (nf k) (pt_S (Bf k) (nf k) o 0)) = 91) (hc : ISc cnt (cq_F Bf nf cnt (Bf k) (nf k) o)) : Pc (qf_X5_step nn A) (fun g => Pc (qf_X13_step nn B) (STQ nn Bf nf cnt t B g)) := by
  refine j_two (fun Q => cz_g187 S.2.2.2.1 y) (fun Q => rz_g187 S.2.2.2.2 (by omega)) ?_
  have h := rtp_h X
  have h2 := ps_h X ps
  have q := (sxc_p S).1
  obtain ⟨c0, r0⟩ := sx_c0 S (H := (B 254 t).toNat) (by omega)
  obtain ⟨i1, i2, i3⟩ := tg_in (B := Bf k) (n := nf k) (k := o) (by omega)
  obtain ⟨⟨c1, c2, c3⟩, ⟨d1, d2⟩, Nk, HG, _⟩ := S.1
  have g3 := HG.1
  have hk := S.2.2.2.2.1.2.1
  unfold qj_X13_step_1077
  refine pc_sv (sx_ln S rfl rfl (fun _ => rfl) ⟨i1, i2⟩) ?_; intro u29 ⟨_, q29⟩
  have q29 := q29.1 t3
  refine pc_sv (sx_ln S rfl rfl (fun _ => rfl) ⟨i1, i2⟩) ?_; intro u32 ⟨_, q32⟩
  have q32 := q32.1 t3
  generalize ec : cq_F Bf nf cnt (Bf k) (nf k) o = C at *
  have hc' := hc
  unfold ISc at hc'
  have cc := c3.1 C.toNat (by omega)
  rw [show ((C.toNat : Nat) : Int) = C by omega] at cc
  refine pc_sv (P := fun v => v = ca_F Bf nf cnt C) ?_ ?_
  · rw [q32]
    unfold qf_X7_cellsOf
    refine pc_sv (P := fun v => v = 1) ?_ ?_
    · unfold qf_X4_isClass
      refine pc_if (fun w => absurd w (by omega)) (fun _ => ?_)
      exact pc_if (fun w => absurd w (by omega)) (fun _ => pc_ret rfl)
    intro u1 q1
    refine pc_if (fun w => absurd w (by omega)) (fun _ => ?_)
    refine pc_rA ?_; intro _ _ v3 e3
    exact pc_ret (e3.trans cc)
  intro u34 q34
  refine pc_tw (pc_sv (P := fun r => Pc _ (fun g => STQ nn Bf nf cnt t B g r)) ?_ (fun u q => pc_ret q))
  unfold qf_X13_fresh_
  rw [if_neg (fun n => n y)]
  unfold qj_X13_fresh__15
  rw [if_pos (show (0 : Int) ≤ 0 by omega), if_pos (show ¬ op = 188 by omega)]
  have CI := rr_cin (nn := nn) (o := o) (t := t) (k := k) (h := B) (by rw [d2]; exact Nk) d1 hk q.2.1 q.2.2 S.2.2.2.2.2.1.2.1 t3 n91
  rw [d2, ec] at CI
  refine pc_sv CI ?_; intro u16 q16
  rw [q16]
  unfold qj_X13_fresh__43
  rw [if_neg (fun n => n y)]
  refine pc_sv (vr_fields HG Nk d1 d2 (.inr hc)) ?_; intro u11 q11
  -- how many cells
  obtain ⟨fv, ef, _, f0, f204⟩ := rt_fields (k := C) (R := B) (nn := nn) (g := g0) (ω := ω) hn X.rx.1 X.rx.2.1 X.vs (by have := X.rx.2.1.1; omega)
  have ef2 := vr_fields HG Nk d1 d2 (.inr hc) fv ef
  have cr : 0 ≤ ca_F Bf nf cnt C ∧ ca_F Bf nf cnt C ≤ 204 := by omega
  rw [q11]
  refine pc_tw ?_
  refine pc_sv (P := fun g => Pc _ (STQ nn Bf nf cnt t B g)) ?_ (fun u q => pc_ret q)
  rw [q29, q34]
  have e1 : sr_T C = C := by unfold sr_T; rw [if_neg (by omega)]
  have J := jo_new S X c0 r0 (by omega) (by omega) (a := C) (x := ca_F Bf nf cnt C) (.inl hc') ⟨cr.1, by omega⟩
  rw [e1] at J
  exact J
end

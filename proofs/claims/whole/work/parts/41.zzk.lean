/- RUN: WHAT A STEP LEAVES ON BOTH SIDES -/
/-- a run that has ended -/
def ENR (A B : ms_M) : Prop := (A 143 1 = B 160 138 ∧ 2 ≤ A 143 1 ∧ A 143 1 ≤ 5) ∧ (A 143 3 = B 160 140 ∧ A 143 4 = B 160 141 ∧ A 143 5 = B 160 142 ∧ A 143 6 = B 160 149) ∧ PRA A B ∧ (A 143 1 = 2 ∨ A 143 1 = 3 → A 143 2 = B 160 139) ∧ (¬ A 143 1 = 2 → ¬ A 143 1 = 3 → A 143 2 = -1)
/-- it goes on, or has ended -/
def RNX (Bf : Nat → Nat → Int) (nf : Nat → Nat) (cnt : Int) (A B : ms_M) : Prop := (∃ d k i : Nat, RRd Bf nf cnt A B (d + 1) ∧ TPA Bf nf cnt A B d k i) ∨ ENR A B
/-- what the class's step leaves, against what the reference's does: nothing is thrown, a fault, an object -/
def STQ (nn : Nat) (Bf : Nat → Nat → Int) (nf : Nat → Nat) (cnt : Int) (t : Nat) (B g r : ms_M) : Prop := (g 143 20 = 0 ∧ RNX Bf nf cnt g r) ∨ (∃ (c : Int) (z : ms_M), ((2 ≤ c ∧ c ≤ 7) ∧ g 143 20 = -c) ∧ RRd Bf nf cnt g z (t + 1) ∧ (∀ x j : Nat, ¬ x = 254 → z x j = B x j) ∧ qf_X13_fails nn c z = some r) ∨ ∃ (o : Int) (z : ms_M), ((1 ≤ o ∧ o ≤ z 160 141 ∧ z 246 o.toNat < 99) ∧ g 143 20 = o) ∧ RRd Bf nf cnt g z (t + 1) ∧ (∀ x j : Nat, ¬ x = 254 → z x j = B x j) ∧ qf_X13_thrown nn o z = some r
/-- a step begins, on both sides -/
def SXc (Bf : Nat → Nat → Int) (nf : Nat → Nat) (cnt : Int) (A B : ms_M) (k i t P : Nat) (op o : Int) : Prop := ENa Bf nf cnt A B ∧ RRd Bf nf cnt A B (t + 1) ∧ A 143 20 = 0 ∧ CSt Bf nf A k i t P op o ∧ RSt Bf nf B k i t P op o
section
variable {nn : Nat} {Bf : Nat → Nat → Int} {nf : Nat → Nat} {cnt : Int} {k i t P H : Nat} {A B g r u z p w2 g0 : ms_M} {ω : Int → ms_M} {op o v w c kk tt n ty : Int} {N a : Nat} {T U : Nat → ms_M}
theorem pc_tw {α β : Type} {x : Option α} {y : Option β} {Z : α → β → Prop} (H : Pc y (fun v => Pc x (fun u => Z u v))) : Pc x (fun u => Pc y (fun v => Z u v)) := fun u eu v ev => H v ev u eu
theorem rtp_h (X : RTP nn g0 ω B (t : Int) c kk N T U tt a p) : B 254 t = T a 160 131 ∧ (0 ≤ B 254 t ∧ B 254 t ≤ 30) ∧ T a 160 130 ≤ 30 ∧ T a 160 129 ≤ 30 := by
  have s := X.s
  have e129 := X.nd.1.1 160 129 (by decide) (by decide)
  rw [Int.toNat_natCast] at s
  omega
theorem ps_h (X : RTP nn g0 ω B (t : Int) c kk N T U tt a p) (S : PS1 (T a) n ty (U a)) : n ≤ B 254 t ∧ B 254 t - n < 30 ∧ 0 ≤ n := by
  have h := rtp_h X
  have s1 := S.2.2.1
  have s2 := S.2.2.2.1
  omega
theorem po_h (X : RTP nn g0 ω B (t : Int) c kk N T U tt a p) (S : POP (T a) n (U a)) : n ≤ B 254 t ∧ 0 ≤ n := by
  have h := rtp_h X
  have s1 := S.2.2
  omega
theorem sxc_p (S : SXc Bf nf cnt A B k i t P op o) : (A 143 17 = (t : Int) ∧ B 160 149 = (t : Int) + 1 ∧ t < 60) ∧ (0 ≤ A 149 t ∧ A 149 t ≤ 10000) ∧ (0 ≤ B 253 t ∧ B 253 t ≤ 10000) ∧ A 149 t = B 253 t ∧ A 150 t = B 254 t ∧ B 253 t = (P : Int) := by
  obtain ⟨E, R, th, C, D⟩ := S
  have n6 := (tb_n6 D.1.1 D.1.2.1).1
  have f := (rr_fra R (t := t) (by omega)).2.1
  have c := C.2.1.1
  have d := D.2.1.1
  have t60 := D.2.2.1
  have e3 := D.2.2.2.1
  have hp := D.2.2.2.2.1
  omega
/-- the place moves on, a value has come -/
theorem fin_v (S : SXc Bf nf cnt A B k i t P op o) (C : CGV A g t H v (A 149 t + w)) (D : RGV B r t H v (B 253 t + w)) (hl : (H : Int) ≤ B 254 t) : STQ nn Bf nf cnt t B g r := by
  have q := sxc_p S
  have e := q.2.2.2.1
  rw [e] at C
  obtain ⟨E, R, th, ⟨_, ⟨c1, c2, c3⟩, _⟩, ⟨⟨_, hk, hi⟩, ⟨_, d2, d3⟩, _⟩⟩ := S
  have e98 := E.2.1.2
  refine .inl ⟨C.2.2.2.1.trans th, .inl ⟨t, k, i, jgv R (by omega) C D hl, ⟨?_, ?_, ?_⟩, ⟨?_, ?_⟩, by omega, hi⟩⟩
  · rw [C.1 143 17 (by omega) (by omega) (by omega) (by omega)]; exact c1
  · rw [C.1 143 18 (by omega) (by omega) (by omega) (by omega), C.1 60 k (by omega) (by omega) (by omega) (by omega)]; exact c2
  · rw [C.1 143 19 (by omega) (by omega) (by omega) (by omega)]; exact c3
  · rw [D.1 251 t (by omega) (by omega) (by omega) (by omega)]; exact d2
  · rw [D.1 252 t (by omega) (by omega) (by omega) (by omega)]; exact d3
theorem fin_n (S : SXc Bf nf cnt A B k i t P op o) (C : CGN A g t H (A 149 t + w)) (D : RGN B r t H (B 253 t + w)) (hl : (H : Int) ≤ B 254 t) : STQ nn Bf nf cnt t B g r := by
  have q := sxc_p S
  have e := q.2.2.2.1
  rw [e] at C
  obtain ⟨E, R, th, ⟨_, ⟨c1, c2, c3⟩, _⟩, ⟨⟨_, hk, hi⟩, ⟨_, d2, d3⟩, _⟩⟩ := S
  have e98 := E.2.1.2
  refine .inl ⟨C.2.2.1.trans th, .inl ⟨t, k, i, jgn R (by omega) C D hl, ⟨?_, ?_, ?_⟩, ⟨?_, ?_⟩, by omega, hi⟩⟩
  · rw [C.1 143 17 (by omega) (by omega) (by omega) (by omega)]; exact c1
  · rw [C.1 143 18 (by omega) (by omega) (by omega) (by omega), C.1 60 k (by omega) (by omega) (by omega) (by omega)]; exact c2
  · rw [C.1 143 19 (by omega) (by omega) (by omega) (by omega)]; exact c3
  · rw [D.1 251 t (by omega) (by omega) (by omega) (by omega)]; exact d2
  · rw [D.1 252 t (by omega) (by omega) (by omega) (by omega)]; exact d3
/-- values were taken, and something is thrown -/
theorem rr_thr (R : RRd Bf nf cnt A B (t + 1)) (C : CPp A u t H) (D : RPp B z t H) (hl : (H : Int) ≤ B 254 t) (e : g = up_M u 143 20 v) : RRd Bf nf cnt g z (t + 1) := by
  refine rr_top (lo := H) (t := t) R (by omega) (fun c j w1 w2 _ _ => ?_) (fun x j _ w2 _ _ => D.1 x j (by omega)) (.inr hl) ?_ ?_ (fun n hn => ?_) (fun n hn n1 n2 => ?_)
  · rw [e, up_n (by omega)]; exact C.1 c j (by omega)
  · rw [e, up_n (by omega), C.1 149 t (by omega), D.1 253 t (by omega)]; exact (rr_fra R (t := t) (by omega)).2.1.1
  · rw [e, up_n (by omega)]; exact C.2.trans D.2.symm
  · rw [e, up_n (by omega), C.1 151 _ (by omega), D.1 255 _ (by omega)]; exact (rr_fra R (t := t) (by omega)).2.2.1 n hn
  · have := D.2
    exfalso; omega
theorem fin_f (S : SXc Bf nf cnt A B k i t P op o) (C : CPp A u t H) (D : RPp B z t H) (hl : (H : Int) ≤ B 254 t) (hc : 2 ≤ c ∧ c ≤ 7) (e : g = up_M u 143 20 (-c)) (er : qf_X13_fails nn c z = some r) : STQ nn Bf nf cnt t B g r :=
  .inr (.inl ⟨c, z, ⟨hc, by rw [e, up_s]⟩, rr_thr S.2.1 C D hl e, fun x j h => D.1 x j (by omega), er⟩)
theorem fin_o (S : SXc Bf nf cnt A B k i t P op o) (C : CPp A u t H) (D : RPp B z t H) (hl : (H : Int) ≤ B 254 t) (hc : 1 ≤ c ∧ c ≤ B 160 141 ∧ B 246 c.toNat < 99) (e : g = up_M u 143 20 c) (er : qf_X13_thrown nn c z = some r) : STQ nn Bf nf cnt t B g r :=
  .inr (.inr ⟨c, z, ⟨by rw [D.1 160 141 (by omega), D.1 246 _ (by omega)]; exact hc, by rw [e, up_s]⟩, rr_thr S.2.1 C D hl e, fun x j h => D.1 x j (by omega), er⟩)
/-- a value is given on both sides -/
theorem jo_gv (S : SXc Bf nf cnt A B k i t P op o) (C : CPp A u t H) (D : RPp B z t H) (h30 : H < 30) (hl : (H : Int) ≤ B 254 t) (hw : -10000 ≤ w ∧ w ≤ 10000) : Pc (qf_X5_give nn v w u) (fun g => Pc (mx_sv (qf_X13_give nn v z) fun y => qj_X13_step_1150 nn w y) (STQ nn Bf nf cnt t B g)) := by
  obtain ⟨⟨q1, q2, q3⟩, q4, q5, _⟩ := sxc_p S
  exact pc_imp (rc_gvp C q1 q3 h30 q4 hw) (fun g G => pc_imp (rr_gvp D q2 q3 h30 q5 hw) (fun r Rr => fin_v S G Rr hl))
theorem jo_gn (S : SXc Bf nf cnt A B k i t P op o) (C : CPp A u t H) (D : RPp B z t H) (hl : (H : Int) ≤ B 254 t) (hw : -40000 ≤ w ∧ w ≤ 40000) : Pc (qf_X5_goOn nn w u) (fun g => Pc (qj_X13_step_1150 nn w z) (STQ nn Bf nf cnt t B g)) := by
  obtain ⟨⟨q1, q2, q3⟩, q4, q5, _⟩ := sxc_p S
  exact pc_imp (rc_gop C q1 q4 hw) (fun g G => pc_imp (rr_on1 D q2 q3 q5 hw) (fun r Rr => fin_n S G Rr hl))
/-- the value at height H -/
theorem sx_v (S : SXc Bf nf cnt A B k i t P op o) (h30 : H < 30) (hl : (H : Int) < B 254 t) : A 152 (30 * t + H) = B 255 (60 * t + 30 + H) := (rr_fra S.2.1 (t := t) (by omega)).2.2.2 H h30 hl
theorem sx_c0 (S : SXc Bf nf cnt A B k i t P op o) (e : B 254 t = (H : Int)) : CPp A A t H ∧ RPp B B t H := ⟨cpp_rf ((sxc_p S).2.2.2.2.1.trans e), rpp_rf e⟩
/-- both together -/
theorem j_two {x y : Option ms_M} {Z : ms_M → ms_M → Prop} (h1 : ∀ Q : ms_M → Prop, Pc x Q → Pc (qf_X5_step nn A) Q) (h2 : ∀ Q : ms_M → Prop, Pc y Q → Pc (qf_X13_step nn B) Q) (H : Pc x (fun g => Pc y (Z g))) : Pc (qf_X5_step nn A) (fun g => Pc (qf_X13_step nn B) (Z g)) :=
  h1 _ (pc_tw (h2 _ (pc_tw H)))
theorem js_0 (S : SXc Bf nf cnt A B k i t P op o) (X : RTP nn g0 ω B (t : Int) c kk N T U tt a p) (y : op = 0) : Pc (qf_X5_step nn A) (fun g => Pc (qf_X13_step nn B) (STQ nn Bf nf cnt t B g)) := by
  refine j_two (fun Q => cz_g0 S.2.2.2.1 y) (fun Q => rz_g0 S.2.2.2.2 y) ?_
  have h := rtp_h X
  obtain ⟨c0, r0⟩ := sx_c0 S (H := (B 254 t).toNat) (by omega)
  exact pc_sv (jo_gn S c0 r0 (by omega) (by omega)) (fun u q => pc_ret q)
theorem js_1 (S : SXc Bf nf cnt A B k i t P op o) (X : RTP nn g0 ω B (t : Int) c kk N T U tt a p) (y : op = 1) (ps : PS1 (T a) 0 ty (U a)) : Pc (qf_X5_step nn A) (fun g => Pc (qf_X13_step nn B) (STQ nn Bf nf cnt t B g)) := by
  refine j_two (fun Q => cz_g1 S.2.2.2.1 y) (fun Q => rz_g1 S.2.2.2.2 (.inl y)) ?_
  have h := rtp_h X
  have h2 := ps_h X ps
  obtain ⟨c0, r0⟩ := sx_c0 S (H := (B 254 t).toNat) (by omega)
  unfold qj_X13_step_835
  exact pc_sv (jo_gv S c0 r0 (by omega) (by omega) (by omega)) (fun u q => pc_ret q)
theorem js_2 (S : SXc Bf nf cnt A B k i t P op o) (X : RTP nn g0 ω B (t : Int) c kk N T U tt a p) (y : 2 ≤ op ∧ op ≤ 8) (ps : PS1 (T a) 0 ty (U a)) : Pc (qf_X5_step nn A) (fun g => Pc (qf_X13_step nn B) (STQ nn Bf nf cnt t B g)) := by
  have h := rtp_h X
  have h2 := ps_h X ps
  obtain ⟨c0, r0⟩ := sx_c0 S (H := (B 254 t).toNat) (by omega)
  by_cases e3 : op = 3
  · refine j_two (fun Q => cz_g2 S.2.2.2.1 y) (fun Q => rz_g1 S.2.2.2.2 (.inr e3)) ?_
    unfold qj_X5_step_213 qj_X13_step_835
    refine pc_sub (by omega) ?_; intro v3 e
    rw [show v3 = 0 by omega]
    exact pc_sv (jo_gv S c0 r0 (by omega) (by omega) (by omega)) (fun u q => pc_ret q)
  · refine j_two (fun Q => cz_g2 S.2.2.2.1 y) (fun Q => rz_g2 S.2.2.2.2 (by omega)) ?_
    unfold qj_X5_step_213 qj_X13_step_843
    refine pc_sub (by omega) ?_; intro v3 e
    refine pc_tw (pc_sub (by omega) ?_); intro v4 e4
    rw [show v4 = v3 by omega]
    refine pc_tw ?_
    exact pc_sv (jo_gv S c0 r0 (by omega) (by omega) (by omega)) (fun u q => pc_ret q)
theorem js_16 (S : SXc Bf nf cnt A B k i t P op o) (X : RTP nn g0 ω B (t : Int) c kk N T U tt a p) (y : op = 16) (ps : PS1 (T a) 0 ty (U a)) : Pc (qf_X5_step nn A) (fun g => Pc (qf_X13_step nn B) (STQ nn Bf nf cnt t B g)) := by
  refine j_two (fun Q => cz_g16 S.2.2.2.1 y) (fun Q => rz_g16 S.2.2.2.2 y) ?_
  have h := rtp_h X
  have h2 := ps_h X ps
  obtain ⟨c0, r0⟩ := sx_c0 S (H := (B 254 t).toNat) (by omega)
  refine pc_xl ?_; intro v34 e34
  refine pc_tw (pc_xl ?_); intro v60 e60
  rw [e34, e60]
  refine pc_tw ?_
  exact pc_sv (jo_gv S c0 r0 (by omega) (by omega) (by omega)) (fun u q => pc_ret q)
/-- the link of constant o -/
theorem sx_ln (S : SXc Bf nf cnt A B k i t P op o) (u1 : u 143 17 = A 143 17) (u2 : u 148 t = A 148 t) (u3 : ∀ x : Nat, u 68 x = A 68 x) (ho : 1 ≤ o ∧ o ≤ Bf k 2) : Pc (qf_X5_link nn o u) (fun v => v = A 68 (256 * (k : Int) + o).toNat ∧ LKv Bf nf cnt k o v) := by
  obtain ⟨E, R, th, C, D⟩ := S
  have e98 := E.2.1.2
  have hk := D.1.2.1
  obtain ⟨n6, k8⟩ := tb_n6 D.1.1 hk
  have m12 := ((rg_im (D.1.1.2 k hk)).1).2.2.1
  have hi := D.1.2.2
  have b255 := (D.1.1.2 k hk).2.1.2.1
  obtain ⟨⟨k2, i2, ⟨f1, f2⟩, f3, f4⟩, _⟩ := rr_fra R (t := t) (by omega)
  have d2 := D.2.1.2
  have e148 : u 148 t = (k : Int) * 12 + (i : Int) := by rw [u2, f4]; omega
  refine pc_imp (rc_link (t := t) (k := k) (i := i) (by rw [u1]; exact C.2.1.1) e148 k8 (by omega) (by omega)) (fun v q => ?_)
  rw [u3] at q
  refine ⟨q, ?_⟩
  rw [q]
  exact (E.1.2.2.2 k (by omega)).1 o ho.1 (by omega)
theorem js_18 (S : SXc Bf nf cnt A B k i t P op o) (X : RTP nn g0 ω B (t : Int) c kk N T U tt a p) (y : op = 18) (t2 : tg_S (Bf k) (nf k) o = 2) (ps : PS1 (T a) 0 ty (U a)) : Pc (qf_X5_step nn A) (fun g => Pc (qf_X13_step nn B) (STQ nn Bf nf cnt t B g)) := by
  refine j_two (fun Q => cz_g18 S.2.2.2.1 y) (fun Q => rz_g18 S.2.2.2.2 y) ?_
  have h := rtp_h X
  have h2 := ps_h X ps
  obtain ⟨c0, r0⟩ := sx_c0 S (H := (B 254 t).toNat) (by omega)
  obtain ⟨i1, i2, i3⟩ := tg_in (B := Bf k) (n := nf k) (k := o) (by omega)
  have q := sxc_p S
  refine pc_sv (sx_ln S rfl rfl (fun _ => rfl) ⟨i1, i2⟩) ?_; intro u38 ⟨_, q38⟩
  have q38 := q38.2.2.2 t2
  refine pc_tw (pc_sv (vr_num S.2.2.2.2.1.1 S.2.2.2.2.1.2.1 t2 (by omega) (by rw [show (B 160 149 - 1).toNat = t by omega]; exact S.2.2.2.2.2.1.2.1)) ?_); intro u64 q64
  rw [q38, q64]
  refine pc_tw ?_
  exact pc_sv (jo_gv S c0 r0 (by omega) (by omega) (by omega)) (fun u q => pc_ret q)
/-- exact writes, told loosely -/
theorem cgv_up {x : Int} (h30 : H < 30) (e : g = up_M (up_M (up_M A 152 (30 * t + H) v) 150 t ((H + 1 : Nat) : Int)) 149 t x) : CGV A g t H v x := by
  refine ⟨fun c j w1 w2 w3 w4 => ?_, ⟨?_, ?_⟩, ?_, ?_, fun n hn => ?_⟩
  · rw [e, up_n (by omega), up_n (by omega), up_n (by omega)]
  · rw [e, up_s]
  · rw [e, up_n (by omega), up_s]
  · rw [e, up_n (by omega), up_n (by omega), up_s]
  · rw [e, up_n (by omega), up_n (by omega), up_n (by omega)]
  · rw [e, up_n (by omega), up_n (by omega), up_n (by omega)]
theorem rgv_up {x : Int} (h30 : H < 30) (e : r = up_M (up_M (up_M B 255 (60 * t + 30 + H) v) 254 t ((H + 1 : Nat) : Int)) 253 t x) : RGV B r t H v x := by
  refine ⟨fun c j w1 w2 w3 w4 => ?_, ⟨?_, ?_⟩, ?_, fun n hn => ?_⟩
  · rw [e, up_n (by omega), up_n (by omega), up_n (by omega)]
  · rw [e, up_s]
  · rw [e, up_n (by omega), up_s]
  · rw [e, up_n (by omega), up_n (by omega), up_s]
  · rw [e, up_n (by omega), up_n (by omega), up_n (by omega)]
/-- locals -/
theorem js_21 (S : SXc Bf nf cnt A B k i t P op o) (X : RTP nn g0 ω B (t : Int) c kk N T U tt a p) (y : op = 21 ∨ op = 25) (ho : 0 ≤ o ∧ o < 30) (ps : PS1 (T a) 0 ty (U a)) : Pc (qf_X5_step nn A) (fun g => Pc (qf_X13_step nn B) (STQ nn Bf nf cnt t B g)) := by
  refine j_two (fun Q => cz_g21 S.2.2.2.1 (by omega)) (fun Q => rz_g21 S.2.2.2.2 y) ?_
  have h := rtp_h X
  have h2 := ps_h X ps
  have q := sxc_p S
  have f := rr_fra S.2.1 (t := t) (by omega)
  have e254 : B 254 t = ((B 254 t).toNat : Int) := by omega
  have eo : o = ((o.toNat : Nat) : Int) := by omega
  unfold qj_X5_step_247
  rw [eo]
  refine pc_sv (rc_load (x := o.toNat) (t := t) (H := (B 254 t).toNat) (by omega) y q.1.1 q.1.2.2 (by omega) (by omega) q.2.1) ?_; intro u2 q2
  refine pc_ret (pc_imp (rr_load (x := o.toNat) (t := t) (H := (B 254 t).toNat) (by omega) q.1.2.1 q.1.2.2 e254 (by omega) q.2.2.1) (fun r qr => ?_))
  rw [f.2.2.1 o.toNat (by omega)] at q2
  exact fin_v S (cgv_up (by omega) q2) (rgv_up (by omega) qr) (by omega)
theorem js_54 (S : SXc Bf nf cnt A B k i t P op o) (X : RTP nn g0 ω B (t : Int) c kk N T U tt a p) (y : op = 54 ∨ op = 58) (ho : 0 ≤ o ∧ o < 30) (ps : 1 ≤ B 254 t) : Pc (qf_X5_step nn A) (fun g => Pc (qf_X13_step nn B) (STQ nn Bf nf cnt t B g)) := by
  refine j_two (fun Q => cz_g21 S.2.2.2.1 (by omega)) (fun Q => rz_g54 S.2.2.2.2 y) ?_
  have h := rtp_h X
  have q := sxc_p S
  have f := rr_fra S.2.1 (t := t) (by omega)
  obtain ⟨E, R, th, ⟨_, ⟨c1, c2, c3⟩, _⟩, ⟨⟨_, hk, hi⟩, ⟨_, d2, d3⟩, _⟩⟩ := S
  have e98 := E.2.1.2
  generalize eH : (B 254 t).toNat - 1 = H
  have e254 : B 254 t = ((H + 1 : Nat) : Int) := by omega
  have eo : o = ((o.toNat : Nat) : Int) := by omega
  unfold qj_X5_step_247
  rw [eo]
  refine pc_sv (rc_store (x := o.toNat) (t := t) (H := H) (by omega) y q.1.1 q.1.2.2 (by omega) (by omega) q.2.1) ?_; intro u2 q2
  refine pc_ret (pc_imp (rr_store (x := o.toNat) (t := t) (H := H) (by omega) q.1.2.1 q.1.2.2 e254 (by omega) q.2.2.1) (fun r qr => ?_))
  have vv := f.2.2.2 H (by omega) (by omega)
  have C : CTw A u2 t H := fun c j w1 w2 w3 w4 => by rw [q2, up_n (by omega), up_n (by omega), up_n (by omega)]
  have D : RTq B r t H := fun c j w1 w2 w3 w4 => by rw [qr, up_n (by omega), up_n (by omega), up_n (by omega)]
  refine .inl ⟨?_, .inl ⟨t, k, i, rr_top (lo := H) R (by omega) C D (by omega) ?_ ?_ (fun n hn => ?_) (fun n hn n1 n2 => ?_), ⟨?_, ?_, ?_⟩, ⟨?_, ?_⟩, by omega, hi⟩⟩
  · rw [q2, up_n (by omega), up_n (by omega), up_n (by omega)]; exact th
  · rw [q2, up_s, qr, up_s]; omega
  · rw [q2, up_n (by omega), up_n (by omega), up_s, qr, up_n (by omega), up_n (by omega), up_s]
  · by_cases z : n = o.toNat
    · rw [z, q2, up_n (by omega), up_s, qr, up_n (by omega), up_s]; exact vv
    · rw [q2, up_n (by omega), up_n (by omega), up_n (by omega), qr, up_n (by omega), up_n (by omega), up_n (by omega)]; exact f.2.2.1 n hn
  · have e2 : r 254 t = (H : Int) := by rw [qr, up_n (by omega), up_n (by omega), up_s]
    exfalso; omega
  · rw [C 143 17 (by omega) (by omega) (by omega) (by omega)]; exact c1
  · rw [C 143 18 (by omega) (by omega) (by omega) (by omega), C 60 k (by omega) (by omega) (by omega) (by omega)]; exact c2
  · rw [C 143 19 (by omega) (by omega) (by omega) (by omega)]; exact c3
  · rw [D 251 t (by omega) (by omega) (by omega) (by omega)]; exact d2
  · rw [D 252 t (by omega) (by omega) (by omega) (by omega)]; exact d3
end

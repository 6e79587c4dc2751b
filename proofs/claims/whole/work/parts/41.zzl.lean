/- RUN: numbers, jumps, prints, what is thrown -/
/-- what is compared -/
def jc_T (op a b : Int) : Prop := if op = 159 then a = b else if op = 160 then ¬ a = b else if op = 161 then a < b else if op = 162 then b ≤ a else if op = 163 then b < a else if op = 165 then a = b else if op = 166 then ¬ a = b else a ≤ b
section
variable {nn : Nat} {Bf : Nat → Nat → Int} {nf : Nat → Nat} {cnt : Int} {k i t P H : Nat} {A B g r u z p h A1 B1 g0 : ms_M} {ω : Int → ms_M} {op o v w c kk tt n ty x y : Int} {N a : Nat} {T U : Nat → ms_M}
theorem js_87 (S : SXc Bf nf cnt A B k i t P op o) (X : RTP nn g0 ω B (t : Int) c kk N T U tt a p) (y : op = 87) (po : 1 ≤ B 254 t) : Pc (qf_X5_step nn A) (fun g => Pc (qf_X13_step nn B) (STQ nn Bf nf cnt t B g)) := by
  refine j_two (fun Q => cz_g87 S.2.2.2.1 y) (fun Q => rz_g87 S.2.2.2.2 y) ?_
  have h := rtp_h X
  have q := (sxc_p S).1
  obtain ⟨c0, r0⟩ := sx_c0 S (H := (B 254 t).toNat - 1 + 1) (by omega)
  refine pc_sv (rc_pp c0 q.1 q.2.2 (by omega)) ?_; intro u1 ⟨_, C1⟩
  refine pc_tw (pc_sv (rr_pp r0 q.2.1 q.2.2 (by omega)) ?_); intro u2 ⟨_, D1⟩
  refine pc_tw ?_
  exact pc_sv (jo_gn S C1 D1 (by omega) (by omega)) (fun u q => pc_ret q)
theorem js_89 (S : SXc Bf nf cnt A B k i t P op o) (X : RTP nn g0 ω B (t : Int) c kk N T U tt a p) (y : op = 89) (po : 1 ≤ B 254 t) (po2 : B 254 t < 30) : Pc (qf_X5_step nn A) (fun g => Pc (qf_X13_step nn B) (STQ nn Bf nf cnt t B g)) := by
  refine j_two (fun Q => cz_g89 S.2.2.2.1 y) (fun Q => rz_g89 S.2.2.2.2 y) ?_
  have h := rtp_h X
  have q := (sxc_p S).1
  obtain ⟨H, eH⟩ : ∃ H : Nat, B 254 t = ((H + 1 : Nat) : Int) := ⟨(B 254 t).toNat - 1, by omega⟩
  obtain ⟨c0, r0⟩ := sx_c0 S eH
  have vv := sx_v S (H := H) (by omega) (by omega)
  refine pc_sv (rc_pp c0 q.1 q.2.2 (by omega)) ?_; intro u1 ⟨v1, C1⟩
  refine pc_tw (pc_sv (rr_pp r0 q.2.1 q.2.2 (by omega)) ?_); intro u2 ⟨v2, D1⟩
  have ev : u2.1 = u1.1 := by rw [v1, v2, vv]
  rw [ev]
  refine pc_sv (rr_give (v := u1.1) (t := t) (H := H) (by rw [D1.1 160 149 (by omega)]; exact q.2.1) q.2.2 D1.2 (by omega)) ?_; intro u4 q4
  refine pc_tw ?_
  refine pc_sv (rc_push (v := u1.1) (t := t) (H := H) (by rw [C1.1 143 17 (by omega)]; exact q.1) q.2.2 C1.2 (by omega)) ?_; intro u3 q3
  have C3 : CPp A u3 t (H + 1) := ⟨fun c j w => by
    by_cases z : c = 152 ∧ j = 30 * t + H
    · rw [z.1, z.2, q3, up_n (by omega), up_s, v1]
    · rw [q3, up_n (by omega), up_n z, C1.1 c j w], by rw [q3, up_s]⟩
  have D3 : RPp B u4 t (H + 1) := ⟨fun c j w => by
    by_cases z : c = 255 ∧ j = 60 * t + 30 + H
    · rw [z.1, z.2, q4, up_n (by omega), up_s, ← ev, v2]
    · rw [q4, up_n (by omega), up_n z, D1.1 c j w], by rw [q4, up_s]⟩
  exact pc_sv (jo_gv S C3 D3 (by omega) (by omega) (by omega)) (fun u q => pc_ret q)
theorem js_116 (S : SXc Bf nf cnt A B k i t P op o) (X : RTP nn g0 ω B (t : Int) c kk N T U tt a p) (y : op = 116) (po : 1 ≤ B 254 t) : Pc (qf_X5_step nn A) (fun g => Pc (qf_X13_step nn B) (STQ nn Bf nf cnt t B g)) := by
  refine j_two (fun Q => cz_g116 S.2.2.2.1 y) (fun Q => rz_g116 S.2.2.2.2 y) ?_
  have h := rtp_h X
  have q := (sxc_p S).1
  obtain ⟨H, eH⟩ : ∃ H : Nat, B 254 t = ((H + 1 : Nat) : Int) := ⟨(B 254 t).toNat - 1, by omega⟩
  obtain ⟨c0, r0⟩ := sx_c0 S eH
  have vv := sx_v S (H := H) (by omega) (by omega)
  refine pc_sv (rc_pp c0 q.1 q.2.2 (by omega)) ?_; intro u1 ⟨v1, C1⟩
  refine pc_xl ?_; intro v53 e53
  refine pc_tw (pc_sv (rr_pp r0 q.2.1 q.2.2 (by omega)) ?_); intro u2 ⟨v2, D1⟩
  refine pc_xl ?_; intro v77 e77
  rw [v2, ← vv, ← v1, ← e53] at e77
  rw [e77]
  refine pc_tw ?_
  exact pc_sv (jo_gv S C1 D1 (by omega) (by omega) (by omega)) (fun u q => pc_ret q)
/-- two numbers -/
theorem js_a (S : SXc Bf nf cnt A B k i t P op o) (X : RTP nn g0 ω B (t : Int) c kk N T U tt a p) (y : ari_T op) (po : 2 ≤ B 254 t) : Pc (qf_X5_step nn A) (fun g => Pc (qf_X13_step nn B) (STQ nn Bf nf cnt t B g)) := by
  refine j_two (fun Q => cz_ga S.2.2.2.1 y) (fun Q => rz_ga S.2.2.2.2 y) ?_
  have h := rtp_h X
  have q := (sxc_p S).1
  obtain ⟨H, eH⟩ : ∃ H : Nat, B 254 t = ((H + 1 + 1 : Nat) : Int) := ⟨(B 254 t).toNat - 2, by omega⟩
  obtain ⟨c0, r0⟩ := sx_c0 S eH
  have vv := sx_v S (H := H) (by omega) (by omega)
  have vw := sx_v S (H := H + 1) (by omega) (by omega)
  refine pc_sv (P := fun g => Pc (qj_X13_step_964 nn op 1 B) (STQ nn Bf nf cnt t B g)) ?_ (fun u q => pc_ret q)
  unfold qf_X5_stepArithmetic
  refine pc_sv (rc_pp c0 q.1 q.2.2 (by omega)) ?_; intro u6 ⟨v6, C6⟩
  refine pc_sv (rc_pp C6 q.1 q.2.2 (by omega)) ?_; intro u8 ⟨v8, C8⟩
  refine pc_tw ?_
  unfold qj_X13_step_964
  refine pc_sv (rr_pp r0 q.2.1 q.2.2 (by omega)) ?_; intro u35 ⟨v35, D35⟩
  refine pc_sv (rr_pp D35 q.2.1 q.2.2 (by omega)) ?_; intro u37 ⟨v37, D37⟩
  have e1 : u35.1 = u6.1 := by rw [v35, v6, vw]
  have e2 : u37.1 = u8.1 := by rw [v37, v8, vv]
  rw [e1, e2]
  have E : ¬ (u6.1 = 0 ∧ (op = 108 ∨ op = 112)) → Pc (qj_X5_stepArithmetic_35 nn op u6.1 u8.1 u8.2) (fun g => Pc (qj_X13_step_999 nn op 1 u8.1 u6.1 u37.2) (STQ nn Bf nf cnt t B g)) := fun ny => by
    unfold qj_X5_stepArithmetic_35 qj_X13_step_999
    refine pc_sv (rc_cmp (fun w z => ny ⟨z, w⟩)) ?_; intro u1 q1
    refine pc_tw (pc_sv rr_rec ?_); intro u29 q29
    rw [q1, q29]
    refine pc_tw ?_
    exact pc_sv (jo_gv S C8 D37 (by omega) (by omega) (by omega)) (fun u q => pc_ret q)
  have F : Pc (qj_X5_stepArithmetic_26 nn u8.2) (fun g => Pc (qj_X13_step_993 nn u37.2) (STQ nn Bf nf cnt t B g)) := by
    unfold qj_X5_stepArithmetic_26 qj_X13_step_993
    refine pc_xl ?_; intro h4 e4
    refine pc_ret (pc_se (fun r er => pc_ret ?_))
    exact fin_f S C8 D37 (by omega) (by omega) e4 er
  by_cases z0 : u6.1 = 0
  · by_cases z1 : op = 108
    · rw [if_neg (fun n => n z0), if_pos z1, if_neg (fun n => n z0), if_pos z1]; exact pc_tw F
    · by_cases z2 : op = 112
      · rw [if_neg (fun n => n z0), if_neg z1, if_neg (fun n => n z2), if_neg (fun n => n z0), if_neg z1, if_neg (fun n => n z2)]; exact pc_tw F
      · rw [if_neg (fun n => n z0), if_neg z1, if_pos z2, if_neg (fun n => n z0), if_neg z1, if_pos z2]
        exact pc_tw (E (fun w => by omega))
  · rw [if_pos z0, if_pos z0]
    exact pc_tw (E (fun w => z0 w.1))
/-- jumps -/
theorem rc_cpr : Pc (qf_X5_compares nn op x y h) (fun v => (v = 1 ∧ jc_T op x y) ∨ (v = 0 ∧ ¬ jc_T op x y)) := by
  unfold qf_X5_compares jc_T qj_X5_compares_48 qj_X5_compares_59 qj_X5_compares_103
  by_cases e1 : op = 159
  · rw [if_pos e1, if_pos e1]; exact pc_if (fun w => pc_ret (.inr ⟨rfl, w⟩)) (fun w => pc_ret (.inl ⟨rfl, Classical.byContradiction w⟩))
  rw [if_neg e1, if_neg e1]
  by_cases e2 : op = 160
  · rw [if_pos e2, if_pos e2]; exact pc_if (fun w => pc_ret (.inr ⟨rfl, fun q => q w⟩)) (fun w => pc_ret (.inl ⟨rfl, w⟩))
  rw [if_neg e2, if_neg e2]
  by_cases e3 : op = 161
  · rw [if_pos e3, if_pos e3]; exact pc_if (fun w => pc_ret (.inr ⟨rfl, by omega⟩)) (fun w => pc_ret (.inl ⟨rfl, by omega⟩))
  rw [if_neg e3, if_neg e3]
  by_cases e4 : op = 162
  · rw [if_pos e4, if_pos e4]; exact pc_if (fun w => pc_ret (.inr ⟨rfl, by omega⟩)) (fun w => pc_ret (.inl ⟨rfl, by omega⟩))
  rw [if_neg e4, if_neg e4]
  by_cases e5 : op = 163
  · rw [if_pos e5, if_pos e5]; exact pc_if (fun w => pc_ret (.inr ⟨rfl, by omega⟩)) (fun w => pc_ret (.inl ⟨rfl, by omega⟩))
  rw [if_neg e5, if_neg e5]
  by_cases e6 : op = 165
  · rw [if_pos e6, if_pos e6]; exact pc_if (fun w => pc_ret (.inr ⟨rfl, w⟩)) (fun w => pc_ret (.inl ⟨rfl, Classical.byContradiction w⟩))
  rw [if_neg e6, if_neg e6]
  by_cases e7 : op = 166
  · rw [if_pos e7, if_pos e7]; exact pc_if (fun w => pc_ret (.inr ⟨rfl, fun q => q w⟩)) (fun w => pc_ret (.inl ⟨rfl, w⟩))
  rw [if_neg e7, if_neg e7]
  exact pc_if (fun w => pc_ret (.inr ⟨rfl, by omega⟩)) (fun w => pc_ret (.inl ⟨rfl, by omega⟩))
/-- what the reference does behind its tests -/
def rj_D (nn : Nat) (p l3 : Int) (z : ms_M) : Option ms_M := if l3 = 0 then (qj_X13_step_1150 nn 3 z) else (xl (oq_add p 1) fun v5 => mx_sv (qf_X13_opAt nn v5 z) fun u7 => xl (oq_shl u7 8) fun v8 => xl (oq_add p 2) fun v9 => mx_sv (qf_X13_opAt nn v9 z) fun u11 => xl (oq_or v8 u11) fun v12 => xl (oq_s v12) fun v13 => qj_X13_step_1150 nn v13 z)
theorem jo_j (S : SXc Bf nf cnt A B k i t P op o) (hp2 : ma_S (Bf k) (nf k) i + 7 + P + 2 < nf k) (C : CPp A u t H) (D : RPp B z t H) (hl : (H : Int) ≤ B 254 t) {l : Int} : Pc (qj_X5_stepJump_76 nn (P : Int) l u) (fun g => Pc (rj_D nn (P : Int) l z) (STQ nn Bf nf cnt t B g)) := by
  unfold qj_X5_stepJump_76 rj_D
  by_cases l0 : l = 0
  · rw [if_pos l0, if_pos l0]
    exact pc_sv (jo_gn S C D hl (by omega)) (fun u q => pc_ret q)
  rw [if_neg l0, if_neg l0]
  have S' := S
  obtain ⟨E, R, th, ⟨⟨c1, c2⟩, ⟨c3, c4, c5⟩, c6, c7, c8, c9, c10⟩, ⟨⟨d1, d2, d3⟩, ⟨d4, d5, d6⟩, _⟩⟩ := S
  have CU : CSw Bf nf u := csw_r c1 (fun c j _ w => C.1 c j (by omega))
  have hku : (k : Int) < u 56 3 := by rw [C.1 56 3 (by omega)]; exact c2
  have nb : nf k ≤ 6000 := (c1.1.2 k c2).1.1.2.1
  have RZ : RSv Bf nf z := rsv_k d1 (fun x j w => D.1 x j (by omega)) (D.1 160 98 (by omega))
  have hkz : (k : Int) < z 160 98 := by rw [D.1 160 98 (by omega)]; exact d2
  refine pc_ck (fun _ => ?_)
  rw [C.1 143 19 (by omega), C.1 143 18 (by omega), c4, c5, ← C.1 60 k (by omega)]
  refine pc_add (by omega) ?_; intro v5 e5
  refine pc_add (by omega) ?_; intro v6 e6
  refine pc_ck (fun _ => ?_)
  refine pc_sv (P := fun v => v = ln_N (Bf k) (ma_S (Bf k) (nf k) i + 7 + P + 1)) ?_ ?_
  · unfold qf_X3_pairAt
    rw [show v6 = ((ma_S (Bf k) (nf k) i + 7 + P + 1 : Nat) : Int) by omega]
    refine pc_sv (rc_by CU hku (x := ma_S (Bf k) (nf k) i + 7 + P + 1) (by omega)) ?_; intro y2 q2
    refine pc_xl ?_; intro y3 e3
    refine pc_add (by omega) ?_; intro y4 e4
    rw [show y4 = ((ma_S (Bf k) (nf k) i + 7 + P + 1 + 1 : Nat) : Int) by omega]
    refine pc_sv (rc_by CU hku (x := ma_S (Bf k) (nf k) i + 7 + P + 1 + 1) (by omega)) ?_; intro y6 q6
    refine pc_xl ?_; intro y7 e7
    refine pc_ret ?_
    show y7 = oq_or (oq_shl (Bf k (ma_S (Bf k) (nf k) i + 7 + P + 1)) 8) (Bf k (ma_S (Bf k) (nf k) i + 7 + P + 1 + 1))
    rw [e7, e3, q2, q6]
  intro u8 q8
  refine pc_xl ?_; intro v9 e9
  refine pc_tw ?_
  refine pc_add (by omega) ?_; intro w5 f5
  rw [show w5 = ((P + 1 : Nat) : Int) by omega]
  refine pc_sv (rr_op RZ hkz d3 (by rw [D.1 160 149 (by omega)]; exact d4) c6 (by rw [D.1 251 t (by omega)]; exact d5) (by rw [D.1 252 t (by omega)]; exact d6) (p := P + 1) (by omega)) ?_; intro w7 f7
  refine pc_xl ?_; intro w8 f8
  refine pc_add (by omega) ?_; intro w9 f9
  rw [show w9 = ((P + 2 : Nat) : Int) by omega]
  refine pc_sv (rr_op RZ hkz d3 (by rw [D.1 160 149 (by omega)]; exact d4) c6 (by rw [D.1 251 t (by omega)]; exact d5) (by rw [D.1 252 t (by omega)]; exact d6) (p := P + 2) (by omega)) ?_; intro w11 f11
  refine pc_xl ?_; intro w12 f12
  refine pc_xl ?_; intro w13 f13
  have e12 : w12 = u8 := by
    rw [q8, f12, f8, f7, f11]; rfl
  rw [f13, e12, ← e9]
  refine pc_tw ?_
  have rg : -32768 ≤ v9 ∧ v9 ≤ 32767 := by rw [e9]; exact oq_s_rg
  exact pc_sv (jo_gn S' C D hl (by omega)) (fun u q => pc_ret q)
theorem js_j (S : SXc Bf nf cnt A B k i t P op o) (hp2 : ma_S (Bf k) (nf k) i + 7 + P + 2 < nf k) (X : RTP nn g0 ω B (t : Int) c kk N T U tt a p) (y : jmp_T op) (po : (op = 153 ∨ op = 154 → 1 ≤ B 254 t) ∧ (159 ≤ op → op ≤ 166 → 2 ≤ B 254 t)) : Pc (qf_X5_step nn A) (fun g => Pc (qf_X13_step nn B) (STQ nn Bf nf cnt t B g)) := by
  refine j_two (fun Q => cz_gj S.2.2.2.1 y) (fun Q => rz_gj S.2.2.2.2 y) ?_
  have h := rtp_h X
  have q := (sxc_p S).1
  refine pc_sv (P := fun g => Pc (qj_X13_step_1122 nn (P : Int) op 3 B) (STQ nn Bf nf cnt t B g)) ?_ (fun u q => pc_ret q)
  have RJ : ∀ {l v : Int} {z : ms_M}, ((v = 1 ∧ l = 1) ∨ (v = 0 ∧ l = 0)) → ∀ {Q : ms_M → Prop}, Pc (rj_D nn (P : Int) l z) Q → Pc (if v = 0 then (qj_X13_step_1150 nn 3 z) else (xl (oq_add (P : Int) 1) fun v5 => mx_sv (qf_X13_opAt nn v5 z) fun u7 => xl (oq_shl u7 8) fun v8 => xl (oq_add (P : Int) 2) fun v9 => mx_sv (qf_X13_opAt nn v9 z) fun u11 => xl (oq_or v8 u11) fun v12 => xl (oq_s v12) fun v13 => qj_X13_step_1150 nn v13 z)) Q := fun {l v z} e {Q} HH => by
    unfold rj_D at HH
    have : v = l := by omega
    rw [this]; exact HH
  unfold qf_X5_stepJump qj_X13_step_1122
  by_cases y0 : op = 167
  · obtain ⟨c0, r0⟩ := sx_c0 S (H := (B 254 t).toNat) (by omega)
    rw [if_pos (show ¬ op = 153 by omega), if_pos (show ¬ op = 154 by omega), if_pos y0]
    refine pc_tw ?_
    refine pc_sv (P := fun u => u = (1, B)) ?_ ?_
    · unfold qf_X13_jumps
      exact pc_if (fun z => absurd y0 z) (fun _ => pc_ret rfl)
    intro u4 q4
    rw [q4]
    exact RJ (l := 1) (.inl ⟨rfl, rfl⟩) (pc_tw (jo_j S hp2 c0 r0 (by omega)))
  by_cases y1 : op = 153 ∨ op = 154
  · have p1 := po.1 y1
    obtain ⟨H, eH⟩ : ∃ H : Nat, B 254 t = ((H + 1 : Nat) : Int) := ⟨(B 254 t).toNat - 1, by omega⟩
    obtain ⟨c0, r0⟩ := sx_c0 S eH
    have vv := sx_v S (H := H) (by omega) (by omega)
    have RH : ∀ {l : Int} {u24 : Int × ms_M}, CPp A u24.2 t H → u24.1 = A 152 (30 * t + H) → ((op = 153 ∧ ((u24.1 = 0 ∧ l = 1) ∨ (¬ u24.1 = 0 ∧ l = 0))) ∨ (op = 154 ∧ ((u24.1 = 0 ∧ l = 0) ∨ (¬ u24.1 = 0 ∧ l = 1)))) → Pc (qj_X5_stepJump_76 nn (P : Int) l u24.2) (fun g => Pc (mx_sv (qf_X13_jumps nn op B) fun u4 => if u4.1 = 0 then (qj_X13_step_1150 nn 3 u4.2) else (xl (oq_add (P : Int) 1) fun v5 => mx_sv (qf_X13_opAt nn v5 u4.2) fun u7 => xl (oq_shl u7 8) fun v8 => xl (oq_add (P : Int) 2) fun v9 => mx_sv (qf_X13_opAt nn v9 u4.2) fun u11 => xl (oq_or v8 u11) fun v12 => xl (oq_s v12) fun v13 => qj_X13_step_1150 nn v13 u4.2)) (STQ nn Bf nf cnt t B g)) := fun {l u24} C1 v1 hl => by
      refine pc_tw ?_
      refine pc_sv (P := fun u => RPp B u.2 t H ∧ ((u.1 = 1 ∧ l = 1) ∨ (u.1 = 0 ∧ l = 0))) ?_ ?_
      · unfold qf_X13_jumps
        refine pc_if (fun _ => ?_) (fun z => absurd y0 z)
        refine pc_sv (rr_pp r0 q.2.1 q.2.2 (by omega)) ?_; intro u5 ⟨v5, D5⟩
        rw [v5, ← vv, ← v1]
        by_cases e3 : op = 153
        · rw [if_neg (fun z => z e3)]
          exact pc_if (fun z => pc_ret ⟨D5, by show (_ ∨ _); omega⟩) (fun z => pc_ret ⟨D5, by show (_ ∨ _); omega⟩)
        · rw [if_pos e3, if_neg (show ¬ ¬ op = 154 by omega)]
          exact pc_if (fun z => pc_ret ⟨D5, by show (_ ∨ _); omega⟩) (fun z => pc_ret ⟨D5, by show (_ ∨ _); omega⟩)
      intro u4 ⟨D4, e4⟩
      exact RJ e4 (pc_tw (jo_j S hp2 C1 D4 (by omega)))
    by_cases e3 : op = 153
    · rw [if_neg (fun z => z e3)]
      refine pc_sv (rc_pp c0 q.1 q.2.2 (by omega)) ?_; intro u24 ⟨v1, C1⟩
      unfold qj_X5_stepJump_21
      refine pc_if (fun z => RH C1 v1 (.inl ⟨e3, .inr ⟨z, rfl⟩⟩)) (fun z => RH C1 v1 (.inl ⟨e3, .inl ⟨Classical.byContradiction z, rfl⟩⟩))
    · have e4 : op = 154 := by omega
      rw [if_pos e3, if_neg (fun z => z e4)]
      refine pc_sv (rc_pp c0 q.1 q.2.2 (by omega)) ?_; intro u24 ⟨v1, C1⟩
      unfold qj_X5_stepJump_44
      refine pc_if (fun z => RH C1 v1 (.inr ⟨e4, .inl ⟨z, rfl⟩⟩)) (fun z => RH C1 v1 (.inr ⟨e4, .inr ⟨z, rfl⟩⟩))
  · have r : 159 ≤ op ∧ op ≤ 166 := by unfold jmp_T at y; omega
    have p2 := po.2 r.1 r.2
    obtain ⟨H, eH⟩ : ∃ H : Nat, B 254 t = ((H + 1 + 1 : Nat) : Int) := ⟨(B 254 t).toNat - 2, by omega⟩
    obtain ⟨c0, r0⟩ := sx_c0 S eH
    have vv := sx_v S (H := H) (by omega) (by omega)
    have vw := sx_v S (H := H + 1) (by omega) (by omega)
    rw [if_pos (show ¬ op = 153 by omega), if_pos (show ¬ op = 154 by omega), if_neg y0]
    refine pc_sv (rc_pp c0 q.1 q.2.2 (by omega)) ?_; intro u14 ⟨v1, C1⟩
    refine pc_sv (rc_pp C1 q.1 q.2.2 (by omega)) ?_; intro u16 ⟨v2, C2⟩
    refine pc_sv rc_cpr ?_; intro u17 q17
    refine pc_tw ?_
    refine pc_sv (P := fun u => RPp B u.2 t H ∧ ((u.1 = 1 ∧ jc_T op u16.1 u14.1) ∨ (u.1 = 0 ∧ ¬ jc_T op u16.1 u14.1))) ?_ ?_
    · unfold qf_X13_jumps
      rw [if_pos y0]
      refine pc_sv (rr_pp r0 q.2.1 q.2.2 (by omega)) ?_; intro u5 ⟨v5, D5⟩
      rw [if_pos (show ¬ op = 153 by omega), if_pos (show ¬ op = 154 by omega)]
      refine pc_sv (rr_pp D5 q.2.1 q.2.2 (by omega)) ?_; intro u7 ⟨v7, D7⟩
      rw [v5, ← vw, ← v1, v7, ← vv, ← v2]
      unfold jc_T qj_X13_jumps_100 qj_X13_jumps_111 qj_X13_jumps_155
      by_cases e1 : op = 159
      · rw [if_pos e1, if_pos e1]; exact pc_if (fun w => pc_ret ⟨D7, .inr ⟨rfl, w⟩⟩) (fun w => pc_ret ⟨D7, .inl ⟨rfl, Classical.byContradiction w⟩⟩)
      rw [if_neg e1, if_neg e1]
      by_cases e2 : op = 160
      · rw [if_pos e2, if_pos e2]; exact pc_if (fun w => pc_ret ⟨D7, .inr ⟨rfl, fun q => q w⟩⟩) (fun w => pc_ret ⟨D7, .inl ⟨rfl, w⟩⟩)
      rw [if_neg e2, if_neg e2]
      by_cases e3 : op = 161
      · rw [if_pos e3, if_pos e3]; exact pc_if (fun w => pc_ret ⟨D7, .inr ⟨rfl, by omega⟩⟩) (fun w => pc_ret ⟨D7, .inl ⟨rfl, by omega⟩⟩)
      rw [if_neg e3, if_neg e3]
      by_cases e4 : op = 162
      · rw [if_pos e4, if_pos e4]; exact pc_if (fun w => pc_ret ⟨D7, .inr ⟨rfl, by omega⟩⟩) (fun w => pc_ret ⟨D7, .inl ⟨rfl, by omega⟩⟩)
      rw [if_neg e4, if_neg e4]
      by_cases e5 : op = 163
      · rw [if_pos e5, if_pos e5]; exact pc_if (fun w => pc_ret ⟨D7, .inr ⟨rfl, by omega⟩⟩) (fun w => pc_ret ⟨D7, .inl ⟨rfl, by omega⟩⟩)
      rw [if_neg e5, if_neg e5]
      by_cases e6 : op = 165
      · rw [if_pos e6, if_pos e6]; exact pc_if (fun w => pc_ret ⟨D7, .inr ⟨rfl, w⟩⟩) (fun w => pc_ret ⟨D7, .inl ⟨rfl, Classical.byContradiction w⟩⟩)
      rw [if_neg e6, if_neg e6]
      by_cases e7 : op = 166
      · rw [if_pos e7, if_pos e7]; exact pc_if (fun w => pc_ret ⟨D7, .inr ⟨rfl, fun q => q w⟩⟩) (fun w => pc_ret ⟨D7, .inl ⟨rfl, w⟩⟩)
      rw [if_neg e7, if_neg e7]
      exact pc_if (fun w => pc_ret ⟨D7, .inr ⟨rfl, by omega⟩⟩) (fun w => pc_ret ⟨D7, .inl ⟨rfl, by omega⟩⟩)
    intro u4 ⟨D4, e4⟩
    refine RJ (l := u17) ?_ (pc_tw (jo_j S hp2 C2 D4 (by omega)))
    rcases q17 with ⟨a1, a2⟩ | ⟨a1, a2⟩
    · rcases e4 with ⟨b1, b2⟩ | ⟨b1, b2⟩
      · exact .inl ⟨b1, a1⟩
      · exact absurd a2 b2
    · rcases e4 with ⟨b1, b2⟩ | ⟨b1, b2⟩
      · exact absurd b2 a2
      · exact .inr ⟨b1, a1⟩
/-- prints -/
theorem rr_pra {d : Nat} (R : RRd Bf nf cnt A B d) (Pr : PRA A1 B1) (C : ∀ c j : Nat, ¬ (c = 143 ∧ j = 7) → ¬ c = 144 → A1 c j = A c j) (D : ∀ x j : Nat, ¬ (x = 160 ∧ j = 143) → ¬ x = 250 → B1 x j = B x j) : RRd Bf nf cnt A1 B1 d := by
  obtain ⟨⟨⟨a1, a2⟩, ⟨a3, a4⟩, a5, a6, a7⟩, d60, F, E, _⟩ := R
  refine ⟨⟨⟨?_, ?_⟩, ⟨?_, ?_⟩, ?_, ?_, ?_⟩, d60, fun j hj => ?_, hpa_k E (fun x q => C 143 x (by omega) (by omega)) (fun c x q1 q2 => C c x (by omega) (by omega)) (fun x q => D 160 x (by omega) (by omega)) (fun c x q1 q2 => D c x (by omega) (by omega)), Pr⟩
  · rw [C 143 1 (by omega) (by omega)]; exact a1
  · rw [D 160 138 (by omega) (by omega)]; exact a2
  · rw [C 143 2 (by omega) (by omega)]; exact a3
  · rw [D 160 139 (by omega) (by omega)]; exact a4
  · rw [C 143 3 (by omega) (by omega), D 160 140 (by omega) (by omega)]; exact a5
  · rw [C 143 6 (by omega) (by omega)]; exact a6
  · rw [D 160 149 (by omega) (by omega)]; exact a7
  · exact fra_k (F j hj) (C 148 j (by omega) (by omega)) (C 149 j (by omega) (by omega)) (C 150 j (by omega) (by omega)) (fun n hn => C 151 _ (by omega) (by omega)) (fun n hn => C 152 _ (by omega) (by omega)) (D 251 j (by omega) (by omega)) (D 252 j (by omega) (by omega)) (D 253 j (by omega) (by omega)) (D 254 j (by omega) (by omega)) (fun n hn => D 255 _ (by omega) (by omega))
/-- what is thrown -/
theorem js_191 (S : SXc Bf nf cnt A B k i t P op o) (X : RTP nn g0 ω B (t : Int) c kk N T U tt a p) (y : op = 191) (po : 1 ≤ B 254 t) (cv : ¬ B 255 (60 * t + 30 + ((B 254 t).toNat - 1)) = 0 → 1 ≤ B 255 (60 * t + 30 + ((B 254 t).toNat - 1)) ∧ B 255 (60 * t + 30 + ((B 254 t).toNat - 1)) ≤ B 160 141 ∧ B 246 (B 255 (60 * t + 30 + ((B 254 t).toNat - 1))).toNat < 99) : Pc (qf_X5_step nn A) (fun g => Pc (qf_X13_step nn B) (STQ nn Bf nf cnt t B g)) := by
  refine j_two (fun Q => cz_g191 S.2.2.2.1 y) (fun Q => rz_g191 S.2.2.2.2 y) ?_
  have h := rtp_h X
  have q := (sxc_p S).1
  generalize eH : (B 254 t).toNat - 1 = H at cv
  obtain ⟨c0, r0⟩ := sx_c0 S (H := H + 1) (by omega)
  have vv := sx_v S (H := H) (by omega) (by omega)
  refine pc_sv (P := fun g => Pc _ (STQ nn Bf nf cnt t B g)) ?_ (fun u q => pc_ret q)
  unfold qf_X5_stepThrow
  refine pc_sv (rc_pp c0 q.1 q.2.2 (by omega)) ?_; intro u1 ⟨v1, C1⟩
  refine pc_tw (pc_sv (rr_pp r0 q.2.1 q.2.2 (by omega)) ?_); intro u2 ⟨v2, D1⟩
  have ev : u2.1 = u1.1 := by rw [v1, v2, vv]
  rw [← v2, ev] at cv
  rw [ev]
  by_cases z : u1.1 = 0
  · rw [if_neg (fun n => n z), if_neg (fun n => n z)]
    refine pc_se (fun r er => pc_ret (pc_xl (fun h4 e4 => pc_ret ?_)))
    exact fin_f S C1 D1 (by omega) (c := 2) (by omega) e4 er
  · rw [if_pos z, if_pos z]
    refine pc_se (fun r er => pc_ret (pc_xl (fun h4 e4 => pc_ret ?_)))
    exact fin_o S C1 D1 (by omega) (cv z) e4 er
end

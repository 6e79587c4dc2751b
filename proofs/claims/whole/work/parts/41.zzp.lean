/- RUN: arrays, kinds asked, fields -/
section
variable {nn : Nat} {Bf : Nat → Nat → Int} {nf : Nat → Nat} {cnt : Int} {k i t P H d : Nat} {A B g r u z p h w A1 B1 g0 : ms_M} {ω : Int → ms_M} {op o v wd c kk tt ty x y a e s uu bb j : Int} {N ai : Nat} {T U : Nat → ms_M}
theorem js_188 (S : SXc Bf nf cnt A B k i t P op o) (X : RTP nn g0 ω B (t : Int) c kk N T U tt ai p) (y : op = 188 ∨ op = 189) (po : B 254 t = ((H + 1 : Nat) : Int)) (hc : op = 189 → tg_S (Bf k) (nf k) o = 3 ∧ (¬ Bf k (na_S (Bf k) (nf k) (pt_S (Bf k) (nf k) o 0)) = 91) ∧ ISc cnt (cq_F Bf nf cnt (Bf k) (nf k) o)) : Pc (qf_X5_step nn A) (fun g => Pc (qf_X13_step nn B) (STQ nn Bf nf cnt t B g)) := by
  refine j_two (fun Q => cz_g188 S.2.2.2.1 y) (fun Q => rz_g187 S.2.2.2.2 (by omega)) ?_
  have h := rtp_h X
  have q := (sxc_p S).1
  obtain ⟨c0, r0⟩ := sx_c0 S po
  have vv := sx_v S (H := H) (by omega) (by omega)
  have g255 := gA_255 X.vs (60 * t + 30 + H) (by omega)
  -- what both do behind the class's link
  have J : ∀ a : Int, STs cnt a → ∀ G : Int → ms_M → Option ms_M, (∀ v z, 0 ≤ v → G v z = (mx_sv (qf_X13_make_ nn a v z) fun u13 => qj_X13_fresh__89 nn u13.1 u13.2)) → Pc (qf_X5_stepNewArray nn (sr_T a) A) (fun g => Pc (mx_sv (qf_X13_drop nn B) fun u22 => if 0 ≤ u22.1 then G u22.1 u22.2 else (mx_sv (qf_X13_fails nn 6 u22.2) fun u19 => some u19)) (STQ nn Bf nf cnt t B g)) := fun a st G eG => by
    unfold qf_X5_stepNewArray
    refine pc_sv (rc_pp c0 q.1 q.2.2 (by omega)) ?_; intro u2 ⟨v2, C2⟩
    refine pc_tw (pc_sv (rr_pp r0 q.2.1 q.2.2 (by omega)) ?_); intro u22 ⟨v22, D22⟩
    have ev : u22.1 = u2.1 := by rw [v2, v22, vv]
    rw [ev]
    rw [← v22, ev] at g255
    by_cases n0 : 0 ≤ u2.1
    · rw [if_pos n0, if_pos n0, eG _ _ n0]
      refine pc_tw ?_
      exact pc_sv (jo_new S X C2 D22 (by omega) (by omega) st ⟨n0, g255.2⟩) (fun u q => pc_ret q)
    · rw [if_neg n0, if_neg n0]
      refine pc_se (fun r er => pc_ret (pc_xl (fun h5 e5 => pc_ret ?_)))
      exact fin_f S C2 D22 (by omega) (c := 6) (by omega) e5 er
  unfold qj_X5_stepObject_243 qj_X13_step_1077 qf_X13_fresh_
  rw [if_pos (show ¬ op = 187 by omega)]
  by_cases y8 : op = 188
  · rw [if_neg (fun n => n y8)]
    refine pc_sv (P := fun g => Pc _ (STQ nn Bf nf cnt t B g)) ?_ (fun u q => pc_ret q)
    refine pc_tw (pc_sv (P := fun r => Pc _ (fun g => STQ nn Bf nf cnt t B g r)) ?_ (fun u q => pc_ret q))
    unfold qj_X13_fresh__15
    have J1 := J 99 (.inr (.inl rfl)) (fun v z => qj_X13_fresh__43 nn op v 0 z) (fun v z _ => by
      show qj_X13_fresh__43 nn op v 0 z = _
      unfold qj_X13_fresh__43
      rw [if_pos (show ¬ op = 187 by omega), if_neg (fun n => n y8)]; rfl)
    rw [show sr_T 99 = 200 by rfl] at J1
    simp only [if_neg (show ¬ ¬ op = 188 from fun n => n y8)]
    exact pc_tw J1
  · rw [if_pos y8]
    obtain ⟨t3, n91, hi⟩ := hc (by omega)
    obtain ⟨i1, i2, i3⟩ := tg_in (B := Bf k) (n := nf k) (k := o) (by omega)
    obtain ⟨⟨c1, c2, c3⟩, ⟨d1, d2⟩, Nk, HG, _⟩ := S.1
    have g3 := HG.1
    have hk := S.2.2.2.2.1.2.1
    have hi' := hi
    unfold ISc at hi'
    refine pc_sv (sx_ln S rfl rfl (fun _ => rfl) ⟨i1, i2⟩) ?_; intro u6 ⟨_, q6⟩
    have q6 := q6.1 t3
    refine pc_add (by omega) ?_; intro v7 e7
    refine pc_sv (P := fun g => Pc _ (STQ nn Bf nf cnt t B g)) ?_ (fun u q => pc_ret q)
    refine pc_tw (pc_sv (P := fun r => Pc _ (fun g => STQ nn Bf nf cnt t B g r)) ?_ (fun u q => pc_ret q))
    unfold qj_X13_fresh__15
    simp only [if_pos (show ¬ op = 188 from y8)]
    have es : sr_T v7 = v7 := by unfold sr_T; rw [if_neg (by omega)]
    have J1 := J v7 (.inr (.inr ⟨by omega, by omega⟩)) (fun v z => (mx_sv (qf_X13_make_ nn v7 v z) fun u13 => qj_X13_fresh__89 nn u13.1 u13.2)) (fun v z _ => rfl)
    rw [es] at J1
    refine pc_tw (pc_imp J1 (fun g Jg => ?_))
    refine pc_se (fun u22 e22 => ?_)
    have P22 := rr_pp r0 q.2.1 q.2.2 (by omega) u22 e22
    have CI := rr_cin (nn := nn) (o := o) (t := t) (k := k) (h := u22.2) (by rw [P22.2.1 160 98 (by omega), d2]; exact Nk) (rsv_k d1 (fun x j w => P22.2.1 x j (by omega)) (P22.2.1 160 98 (by omega))) (by rw [P22.2.1 160 98 (by omega)]; exact hk) (by rw [P22.2.1 160 149 (by omega)]; exact q.2.1) q.2.2 (by rw [P22.2.1 251 t (by omega)]; exact S.2.2.2.2.2.1.2.1) t3 n91
    rw [P22.2.1 160 98 (by omega), d2] at CI
    refine pc_if (fun n0 => ?_) (fun n0 => ?_)
    · refine pc_sv CI ?_; intro u16 q16
      unfold qj_X13_fresh__43
      rw [if_pos (show ¬ op = 187 by omega), if_pos y8]
      refine pc_add (by omega) ?_; intro v8 e8
      rw [show v8 = v7 by omega]
      intro r er
      refine Jg r ?_
      rw [e22]
      show (if 0 ≤ u22.1 then _ else _) = some r
      rw [if_pos n0]; exact er
    · intro r er
      refine Jg r ?_
      rw [e22]
      show (if 0 ≤ u22.1 then _ else _) = some r
      rw [if_neg n0]; exact er
/-- kinds asked -/
theorem is_68e : (mx_sv (qj_X13_is_68 nn v z) fun u16 => if ¬ u16.1 = 0 then qj_X13_step_1150 nn wd u16.2 else some u16.2) = mx_sv (qf_X13_give nn v z) fun y => qj_X13_step_1150 nn wd y := by
  unfold qj_X13_is_68
  cases qf_X13_give nn v z <;> rfl
theorem is_fe : (mx_sv (mx_sv (qf_X13_fails nn 5 z) fun u4 => some ((0 : Int), u4)) fun u16 => if ¬ u16.1 = 0 then qj_X13_step_1150 nn wd u16.2 else some u16.2) = qf_X13_fails nn 5 z := by
  cases qf_X13_fails nn 5 z <;> rfl
theorem jo_38 (S : SXc Bf nf cnt A B k i t P op o) (C : CPp A u t H) (D : RPp B z t H) (h30 : H < 30) (hl : (H : Int) ≤ B 254 t) (hs : s = 0 ∨ s = 1) : Pc (qj_X5_stepKin_38 nn op v s u) (fun g => Pc (mx_sv (qj_X13_is_27 nn op v s z) fun u16 => if ¬ u16.1 = 0 then qj_X13_step_1150 nn 2 u16.2 else some u16.2) (STQ nn Bf nf cnt t B g)) := by
  have G : ∀ v : Int, Pc (mx_sv (qf_X5_give nn v 2 u) fun u4 => some u4) (fun g => Pc (mx_sv (qj_X13_is_68 nn v z) fun u16 => if ¬ u16.1 = 0 then qj_X13_step_1150 nn 2 u16.2 else some u16.2) (STQ nn Bf nf cnt t B g)) := fun v => by
    rw [is_68e]
    exact pc_sv (jo_gv S C D h30 hl (by omega)) (fun u q => pc_ret q)
  unfold qj_X5_stepKin_38 qj_X13_is_27
  by_cases y3 : op = 193
  · rw [if_neg (show ¬ ¬ op = 193 from fun n => n y3), if_neg (show ¬ ¬ op = 193 from fun n => n y3)]
    by_cases s0 : s = 0
    · rw [if_pos s0, if_pos s0]; exact G 0
    · rw [if_neg s0, if_neg s0]; exact G 1
  · rw [if_pos (show ¬ op = 193 from y3), if_pos (show ¬ op = 193 from y3)]
    by_cases v0 : v = 0
    · rw [if_pos v0, if_pos v0]; exact G v
    · rw [if_neg v0, if_neg v0]
      by_cases s0 : s = 0
      · rw [if_pos s0, if_neg (show ¬ ¬ s = 0 from fun n => n s0), is_fe]
        exact pc_xl (fun h5 e5 => pc_ret (fun r er => fin_f S C D hl (c := 5) (by omega) e5 er))
      · rw [if_neg s0, if_pos (show ¬ s = 0 from s0)]; exact G v
theorem js_192 (S : SXc Bf nf cnt A B k i t P op o) (X : RTP nn g0 ω B (t : Int) c kk N T U tt ai p) (y : op = 192 ∨ op = 193) (po : B 254 t = ((H + 1 : Nat) : Int)) (cv : ¬ B 255 (60 * t + 30 + H) = 0 → 1 ≤ B 255 (60 * t + 30 + H) ∧ B 255 (60 * t + 30 + H) ≤ B 160 141) (t3 : tg_S (Bf k) (nf k) o = 3) (n91 : ¬ Bf k (na_S (Bf k) (nf k) (pt_S (Bf k) (nf k) o 0)) = 91) (hc : ISc cnt (cq_F Bf nf cnt (Bf k) (nf k) o)) : Pc (qf_X5_step nn A) (fun g => Pc (qf_X13_step nn B) (STQ nn Bf nf cnt t B g)) := by
  refine j_two (fun Q => cz_g192 S.2.2.2.1 y) (fun Q => rz_g192 S.2.2.2.2 y) ?_
  have h := rtp_h X
  have q := (sxc_p S).1
  have E := S.2.1.2.2.2.1
  have g141 := gF_160_141 X.vs
  obtain ⟨c0, r0⟩ := sx_c0 S po
  have vv := sx_v S (H := H) (by omega) (by omega)
  obtain ⟨i1, i2, i3⟩ := tg_in (B := Bf k) (n := nf k) (k := o) (by omega)
  obtain ⟨⟨c1, c2, c3⟩, ⟨d1, d2⟩, Nk, HG, _⟩ := S.1
  have g3 := HG.1
  have hk := S.2.2.2.2.1.2.1
  unfold qj_X5_stepObject_285 qj_X13_step_1111
  refine pc_sv (sx_ln S rfl rfl (fun _ => rfl) ⟨i1, i2⟩) ?_; intro u2 ⟨_, q2⟩
  have q2 := q2.1 t3
  refine pc_sv (P := fun g => Pc _ (STQ nn Bf nf cnt t B g)) ?_ (fun u q => pc_ret q)
  unfold qf_X5_stepKin
  refine pc_sv (rc_pp c0 q.1 q.2.2 (by omega)) ?_; intro u11 ⟨v11, C11⟩
  have cv' := cv
  rw [← vv, ← v11] at cv'
  refine pc_sv (rc_iso (B := B) (v := u11.1) (by rw [C11.1 143 4 (by omega)]; exact E.1.1) (by omega) (by by_cases w : u11.1 = 0; exact .inl w; exact .inr (cv' w))) ?_; intro u13 q13
  -- the reference behind its drop
  have RF : ∀ (s : Int) (x : Option ms_M), (s = 0 ∨ s = 1) → (∀ u14 : Int × ms_M, RPp B u14.2 t H → u14.1 = u11.1 → Pc x (fun g => Pc (mx_sv (qj_X13_is_27 nn op u11.1 s u14.2) fun u16 => if ¬ u16.1 = 0 then qj_X13_step_1150 nn 2 u16.2 else some u16.2) (STQ nn Bf nf cnt t B g))) → ((u11.1 = 0 ∧ s = 0) ∨ (¬ u11.1 = 0 ∧ ((s = 1 ∧ ONe Bf nf cnt (B 246 u11.1.toNat) (cq_F Bf nf cnt (Bf k) (nf k) o)) ∨ (s = 0 ∧ ¬ ONe Bf nf cnt (B 246 u11.1.toNat) (cq_F Bf nf cnt (Bf k) (nf k) o))))) → Pc x (fun g => Pc (mx_sv (qf_X13_is nn op o B) fun u16 => if ¬ u16.1 = 0 then qj_X13_step_1150 nn 2 u16.2 else some u16.2) (STQ nn Bf nf cnt t B g)) := fun s x s01 HX cs => by
    refine pc_tw ?_
    intro r er g eg
    unfold qf_X13_is at er
    have K : ∀ {α β : Type} (x : Option α) (f : α → Option β) (F : β → Option ms_M) (rr : ms_M), mx_sv (mx_sv x f) F = some rr → ∃ a, x = some a ∧ mx_sv (f a) F = some rr := fun x f F rr e => by
      cases x with
      | none => exact nomatch e
      | some a => exact ⟨a, rfl, e⟩
    obtain ⟨u14, e14, er⟩ := K _ _ _ _ er
    obtain ⟨v14, D14⟩ := rr_pp r0 q.2.1 q.2.2 (by omega) u14 e14
    have ev : u14.1 = u11.1 := by rw [v14, v11, vv]
    rw [ev] at er
    have HH := HX u14 D14 ev g eg r
    rcases cs with ⟨z0, s0⟩ | ⟨z0, cs⟩
    · rw [if_pos z0] at er
      rw [s0] at HH
      exact HH er
    · rw [if_neg z0] at er
      obtain ⟨u16, e16, er⟩ := K _ _ _ _ er
      have CI := rr_cin (nn := nn) (o := o) (t := t) (k := k) (h := u14.2) (by rw [D14.1 160 98 (by omega), d2]; exact Nk) (rsv_k d1 (fun x j w => D14.1 x j (by omega)) (D14.1 160 98 (by omega))) (by rw [D14.1 160 98 (by omega)]; exact hk) (by rw [D14.1 160 149 (by omega)]; exact q.2.1) q.2.2 (by rw [D14.1 251 t (by omega)]; exact S.2.2.2.2.2.1.2.1) t3 n91 u16 e16
      rw [D14.1 160 98 (by omega), d2] at CI
      obtain ⟨u18, e18, er⟩ := K _ _ _ _ er
      have ob := (sx_ob S X (cv' z0)).1.1
      have RO := rr_one (nn := nn) (o := u11.1) (c := u16) (h := u14.2) (by rw [D14.1 160 98 (by omega), d2]; exact Nk) (rsv_k d1 (fun x j w => D14.1 x j (by omega)) (D14.1 160 98 (by omega))) (by rw [D14.1 160 98 (by omega), d2, D14.1 246 _ (by omega)]; exact ob) (by rw [CI]; exact hc.1) u18 e18
      rw [D14.1 160 98 (by omega), d2, D14.1 246 _ (by omega), CI] at RO
      rcases cs with ⟨s1, on⟩ | ⟨s0, on⟩
      · have e1 : u18 = 1 := by
          rcases RO with w | w
          · exact w.1
          · exact absurd on w.2
        rw [if_neg (show ¬ u18 = 0 by omega)] at er
        rw [s1] at HH
        exact HH er
      · have e1 : u18 = 0 := by
          rcases RO with w | w
          · exact absurd w.2 on
          · exact w.1
        rw [if_pos e1] at er
        rw [s0] at HH
        exact HH er
  by_cases z0 : u11.1 = 0
  · rw [if_pos (show u13 = 0 by omega)]
    exact RF 0 _ (.inl rfl) (fun u14 D14 ev => jo_38 S C11 D14 (by omega) (by omega) (.inl rfl)) (.inl ⟨z0, rfl⟩)
  · rw [if_neg (show ¬ u13 = 0 by omega)]
    obtain ⟨⟨s1, s2, s3, s4⟩, _⟩ := sx_ob S X (cv' z0)
    refine pc_rA ?_; intro _ _ v17 e17
    rw [C11.1 145 _ (by omega), s2] at e17
    rw [q2, e17]
    have CU : CSw Bf nf u11.2 := csw_r c1 (fun c j _ w => C11.1 c j (by omega))
    have e56 : u11.2 56 3 = cnt := (C11.1 56 3 (by omega)).trans c2
    have KF := kf_one (Bf := Bf) (nf := nf) (by omega) s1 hc
    have VF := vc_kfits (nn := nn) (y := cq_F Bf nf cnt (Bf k) (nf k) o) CU (x := sr_T (B 246 u11.1.toNat)) (by rw [e56]; exact tis_sr (by omega) s1)
    rw [e56, KF] at VF
    refine pc_sv VF ?_; intro u19 q19
    rcases q19 with ⟨a1, a2⟩ | ⟨a1, a2⟩
    · rw [if_neg (show ¬ u19 = 0 by omega)]
      exact RF 1 _ (.inr rfl) (fun u14 D14 ev => jo_38 S C11 D14 (by omega) (by omega) (.inr rfl)) (.inr ⟨z0, .inl ⟨rfl, a2⟩⟩)
    · rw [if_pos a1]
      exact RF 0 _ (.inl rfl) (fun u14 D14 ev => jo_38 S C11 D14 (by omega) (by omega) (.inl rfl)) (.inr ⟨z0, .inr ⟨rfl, a2⟩⟩)
end

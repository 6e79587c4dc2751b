section
/- E of both sides: the rules of a sign -/
/-- what the rule of e answers behind its right side v2 -/
def RB (X : BCx) (e : Int) (ok : Int → Prop) (rt : Int → Int) (tk : Nat) (v2 y : Int × ms_M) : Prop := (¬ v2.2 160 9 = 0 → FSr v2.2 y.2) ∧ (v2.2 160 9 = 0 → v2.1 = 3 → y.2 160 9 = 6 ∧ (0 ≤ bT X 168 (bT X 171 e.toNat).toNat ∧ bT X 168 (bT X 171 e.toNat).toNat < (bc X : Int) → y.2 160 10 = bP X (bT X 168 (bT X 171 e.toNat).toNat).toNat)) ∧ (v2.2 160 9 = 0 → ∀ t : Int, VTn (bn X) t → ¬ t = 303 → v2.1 = ty_T t → (ok t ∧ y = (ty_T (rt t), v2.2)) ∨ (¬ ok t ∧ y.2 160 9 = 6 ∧ y.2 160 10 = bP X tk))
section
variable {nn : Nat} {X : BCx} {dp i l a b e s k : Int} {p q t : Nat} {h g u r w m : ms_M} {v : Int × ms_M}
theorem wd_fr (d : Nat) {x : Int} : Pc ((qg_X13_condition nn d).2.2.1 x r) (fun z => ∀ cc y : Nat, ¬ (cc = 160 ∧ (y = 9 ∨ y = 10 ∨ y = 57)) → ¬ cc = 199 → ¬ (174 ≤ cc ∧ cc ≤ 176) → z.2 cc y = r cc y) := fun z ez cc y c1 c2 c3 => (fg_X13_condition nn d).2.2.1 z ez cc y (nw_of (by unfold wl_X13_worked; simp only [List.mem_cons, List.not_mem_nil, or_false]; omega) (by unfold wf_X13_worked; simp only [List.mem_cons, List.not_mem_nil, or_false, Prod.mk.injEq]; omega))
theorem r_wr9 {x c : Int} (hf : r 160 9 = 0) : Pc (qf_X13_wrong nn c x r) (fun w => w 160 9 = c) := by
  unfold qf_X13_wrong
  refine pc_if (fun _ => ?_) (fun z => absurd hf z)
  refine pc_xl ?_; intro h2 e2
  refine pc_rA ?_; intro _ _ v3 e3
  refine pc_xl ?_; intro h4 e4
  exact pc_ret (by rw [e4, up_n (by omega), e2, up_s])
/-- .. and where the token is one -/
theorem r_wrb {x c : Int} (TQ : TBq (bK X) (bP X) (bc X) r) (hf : r 160 9 = 0) : Pc (qf_X13_wrong nn c x r) (fun w => w 160 9 = c ∧ (0 ≤ x ∧ x < (bc X : Int) → w 160 10 = bP X x.toNat)) := by
  by_cases z : 0 ≤ x ∧ x < (bc X : Int)
  · exact pc_imp (r_wrong TQ (p := x.toNat) (by omega) hf (by omega)) (fun w y => ⟨y.1, fun _ => y.2⟩)
  · exact pc_imp (r_wr9 hf) (fun w y => ⟨y, fun z2 => absurd z2 z⟩)
theorem ty_inj (n8 : bn X ≤ 8) {t t2 : Int} (A : VTn (bn X) t) (B : VTn (bn X) t2) (E : ty_T t = ty_T t2) : t = t2 := by
  have c1 := ty_c (vtn_v n8 A)
  have c2 := ty_c (vtn_v n8 B)
  omega
/-- the right side and its void -/
theorem r_side {Q : Int × ms_M → Prop} {K : Int × ms_M → Option (Int × ms_M)} (TQ : TBq (bK X) (bP X) (bc X) v.2) (T8 : v.2 168 (bT X 171 e.toNat).toNat = bT X 168 (bT X 171 e.toNat).toNat) (hf : v.2 160 9 = 0) (H3 : v.1 = 3 → ∀ w : ms_M, w 160 9 = 6 → (0 ≤ bT X 168 (bT X 171 e.toNat).toNat ∧ bT X 168 (bT X 171 e.toNat).toNat < (bc X : Int) → w 160 10 = bP X (bT X 168 (bT X 171 e.toNat).toNat).toNat) → Pc (K (3, w)) Q) (H : ¬ v.1 = 3 → Pc (K v) Q) : Pc (mx_sv (qf_X13_side nn (bT X 171 e.toNat) v.1 v.2) fun u => K u) Q := by
  unfold qf_X13_side
  by_cases z : v.1 = 3
  · rw [if_neg (fun y => y z)]
    refine pc_sb ?_
    refine pc_rA ?_; intro _ _ v2 e2
    rw [T8] at e2
    rw [e2]
    refine pc_sv (r_wrb TQ hf) ?_; intro u4 y
    rw [z]
    exact pc_ret (H3 z u4 y.1 y.2)
  · rw [if_pos z, mx_svs]
    exact H z
theorem r_both2 {d : Nat} {tk : Nat} {Q : Int × ms_M → Prop} (Y : CXs X) (hk : bK X tk = k) (kk : SGk k) (tc : tk < bc X) (ne : 0 ≤ e) (TQ : TBq (bK X) (bP X) (bc X) r) (hf : r 160 9 = 0) (T8 : ∀ cc x : Nat, 163 ≤ cc ∧ cc ≤ 173 → r cc x = bT X cc x) (e1 : bT X 168 e.toNat = (tk : Int)) (g1 : r 174 (bT X 170 e.toNat).toNat = ty_T s) (vs : VTn (bn X) s ∧ ¬ s = 303) (e8 : r 180 = bB X 180) (H : Pc ((qg_X13_condition nn d).2.2.1 (bT X 171 e.toNat) r) (fun v2 => ∀ y, RB X e (OKt X k s) (rt_T k) tk v2 y → Q y)) : Pc (qo_X13_both nn (qg_X13_condition nn d) e r) Q := by
  have n8 := Y.2.2.1
  have c3 := Y.1.2.1
  have k40 : 40 ≤ k ∧ k ≤ 72 ∧ ¬ k = 67 ∧ ¬ k = 69 := by unfold SGk at kk; omega
  have s3 : ¬ ty_T s = 3 := fun z => vs.2 ((ty_3 (X := X) n8 vs.1).mp z)
  unfold qo_X13_both
  refine pc_rA ?_; intro _ _ v47 e47
  rw [T8 168 _ (by omega), e1] at e47
  refine pc_rA ?_; intro _ _ v48 e48
  rw [e47, Int.toNat_natCast, TQ.2.2.2 tk (by omega), hk] at e48
  have I : ∀ k2 y : Int, (40 ≤ k2 ∧ k2 ≤ 72) → sv_T k2 = y → v48 = y → k = k2 := fun k2 y a b d => svt_i (by omega) a (by rw [← e48, b]; exact d)
  have N : ∀ k2 y : Int, sv_T k2 = y → ¬ v48 = y → ¬ k = k2 := fun k2 y b d z => d (by rw [e48, z]; exact b)
  rw [show qf_X13_sign nn 0 38 38 r = some 4902 from rfl, mx_svs]
  refine pc_if (fun z => absurd (I 67 4902 (by decide) (by decide) z) (by omega)) (fun _ => ?_)
  rw [show qf_X13_sign nn 0 124 124 r = some 15996 from rfl, mx_svs]
  refine pc_if (fun _ => ?_) (fun z => absurd (I 69 15996 (by decide) (by decide) (Classical.byContradiction z)) (by omega))
  refine pc_sv (r_ledv hf (T8 170 _ (by omega)) g1 s3) ?_; intro u52 q52
  rw [q52]
  dsimp only
  refine pc_rA ?_; intro _ _ v54 e54
  rw [T8 171 _ (by omega)] at e54
  refine pc_rA ?_; intro _ _ v56 e56
  rw [T8 171 _ (by omega)] at e56
  rw [e54, e56]
  refine pc_sv (pc_and H (wd_fr d)) ?_; intro v2 ⟨HV, F⟩
  have TQ2 : TBq (bK X) (bP X) (bc X) v2.2 := tbq_f TQ (fun cc x z => F cc x (by omega) (by omega) (by omega))
  have t68 : v2.2 168 e.toNat = (tk : Int) := by rw [F 168 _ (by omega) (by omega) (by omega), T8 168 _ (by omega)]; exact e1
  by_cases z9 : v2.2 160 9 = 0
  · refine r_side (X := X) (e := e) TQ2 (by rw [F 168 _ (by omega) (by omega) (by omega)]; exact T8 168 _ (by omega)) z9 (fun z3 w w9 w10 => ?_) (fun z3 => ?_)
    · refine pc_if (fun z => absurd (show w 160 9 = 0 from z) (by omega)) (fun _ => pc_ret (HV _ ⟨fun z => absurd z9 z, fun _ _ => ⟨w9, w10⟩, fun _ t2 y1 y2 y3 => absurd (y3.symm.trans z3) (fun y => y2 ((ty_3 (X := X) n8 y1).mp y))⟩))
    · refine pc_if (fun _ => ?_) (fun z => absurd z9 z)
      by_cases ex : ∃ t2 : Int, VTn (bn X) t2 ∧ ¬ t2 = 303 ∧ v2.1 = ty_T t2
      · obtain ⟨t2, vt, nt, et⟩ := ex
        have DONE : ∀ y : Int × ms_M, ((OKt X k s t2 ∧ y = (ty_T (rt_T k t2), v2.2)) ∨ (¬ OKt X k s t2 ∧ y.2 160 9 = 6 ∧ y.2 160 10 = bP X tk)) → Q y := fun y hy => HV y ⟨fun z => absurd z9 z, fun _ z => absurd z z3, fun _ t3 y1 y2 y3 => by rw [show t3 = t2 from ty_inj n8 y1 vt (by rw [← y3, et])]; exact hy⟩
        have cs := ty_c (vtn_v n8 vs.1)
        have ct := ty_c (vtn_v n8 vt)
        have P166 : (k = 52 ∨ k = 53) → Pc (qj_X13_both_166 nn (qg_X13_condition nn d) e (ty_T s) v2.1 v2.2) Q := fun k5 => by
          have er : ty_T (rt_T k t2) = 1 := by unfold rt_T; rw [if_pos (by omega)]; decide
          unfold qj_X13_both_166
          rw [et]
          refine pc_sv (r_goP Y (by rw [show v2.2 180 = r 180 from funext fun x => F 180 x (by omega) (by omega) (by omega)]; exact e8) vs ⟨vt, nt⟩) ?_; intro u15 q15
          refine pc_if (fun z => ?_) (fun z => ?_)
          · refine pc_ret (DONE _ (.inl ⟨.inl ⟨k5, ?_⟩, by rw [er]⟩))
            rcases q15 with y | y
            · exact y.2
            · exact absurd y.1 z
          · refine pc_rA ?_; intro _ _ v17 e17
            rw [t68] at e17
            refine pc_sv (r_wrong TQ2 tc z9 e17) ?_; intro u19 w1
            refine pc_ret (DONE _ (.inr ⟨fun f => ?_, w1⟩))
            rcases f with ⟨-, f⟩ | ⟨f, -⟩ | ⟨f, -⟩ | ⟨f, -⟩
            · rcases q15 with y | y
              · omega
              · exact y.2 f
            · omega
            · omega
            · omega
        have P247 : OKt X k s t2 → ¬ (k = 52 ∨ k = 53) → Pc (qj_X13_both_247 nn (qg_X13_condition nn d) e (ty_T s) v2.2) Q := fun okk n5 => by
          have est : s = t2 := by
            rcases okk with ⟨f, -⟩ | ⟨-, f, f2⟩ | ⟨-, f, -⟩ | ⟨-, f, -⟩
            · omega
            · omega
            · exact f
            · exact f
          unfold qj_X13_both_247
          refine pc_rA ?_; intro _ _ v2' e2
          rw [t68] at e2
          refine pc_sv (r_str Y.1 TQ2 e2 (by omega)) ?_; intro u4 q4
          rw [hk] at q4
          have s6 := st_6 kk (by omega)
          refine pc_if (fun z => pc_ret (DONE _ (.inl ⟨okk, ?_⟩))) (fun z => pc_ret (DONE _ (.inl ⟨okk, ?_⟩)))
          · have : 58 ≤ k := by unfold SGk at kk; omega
            unfold rt_T
            rw [if_neg (by omega), est]
          · have := s6.mp (by omega)
            unfold rt_T
            rw [if_pos (by omega)]
            all_goals rfl
        have P235 : ¬ OKt X k s t2 → Pc (qj_X13_both_235 nn (qg_X13_condition nn d) e (ty_T s) v2.2) Q := fun nok => by
          unfold qj_X13_both_235 qj_X13_both_247
          refine pc_rA ?_; intro _ _ v7 e7
          rw [t68] at e7
          refine pc_sv (r_wrong TQ2 tc z9 e7) ?_; intro u9 w1
          refine pc_rA ?_; intro _ _ v2' e2
          refine pc_sv pc_any ?_; intro u4 _
          exact pc_if (fun _ => pc_ret (DONE _ (.inr ⟨nok, w1⟩))) (fun _ => pc_ret (DONE _ (.inr ⟨nok, w1⟩)))
        have P213 : ¬ (k = 52 ∨ k = 53) → ∀ s0 : Int, (((k = 66 ∨ k = 68 ∨ k = 70) ∧ s0 = 1) ∨ (¬ (k = 66 ∨ k = 68 ∨ k = 70) ∧ s0 = 0)) → Pc (qj_X13_both_213 nn (qg_X13_condition nn d) e (ty_T s) v2.1 s0 v2.2) Q := fun n5 s0 hs0 => by
          have NO : ¬ (s = t2 ∧ (t2 = 301 ∨ ((k = 66 ∨ k = 68 ∨ k = 70) ∧ t2 = 302))) → ¬ OKt X k s t2 := fun n f => by
            rcases f with ⟨f, -⟩ | ⟨-, f1, f2⟩ | ⟨-, f1, f2⟩ | ⟨f0, f1, f2⟩
            · omega
            · exact n ⟨by omega, .inl f2⟩
            · exact n ⟨f1, .inl f2⟩
            · exact n ⟨f1, f2.elim .inl (fun y => .inr ⟨f0, y⟩)⟩
          unfold qj_X13_both_213
          rw [et]
          refine pc_if (fun z => P235 (NO (fun f => z (by rw [f.1])))) (fun z => ?_)
          have es : s = t2 := ty_inj n8 vs.1 vt (Classical.byContradiction z)
          refine pc_if (fun z0 => P247 ?_ n5) (fun z0 => ?_)
          · have y1 : t2 = 301 := by omega
            have kd : (54 ≤ k ∧ k ≤ 57) ∨ (58 ≤ k ∧ k ≤ 65) ∨ (k = 66 ∨ k = 68 ∨ k = 70) := by unfold SGk at kk; omega
            rcases kd with kd | kd | kd
            · exact .inr (.inl ⟨kd, by omega, y1⟩)
            · exact .inr (.inr (.inl ⟨kd, es, y1⟩))
            · exact .inr (.inr (.inr ⟨kd, es, .inl y1⟩))
          refine pc_if (fun z1 => P235 (NO (fun f => by omega))) (fun z1 => ?_)
          refine pc_if (fun z2 => P247 (.inr (.inr (.inr ⟨by omega, es, .inr (by omega)⟩))) n5) (fun z2 => P235 (NO (fun f => by omega)))
        rw [show qf_X13_sign nn 0 61 61 v2.2 = some 7869 from rfl, mx_svs]
        refine pc_if (fun z => P166 (.inl (I 52 7869 (by decide) (by decide) z))) (fun z5 => ?_)
        rw [show qf_X13_sign nn 0 33 61 v2.2 = some 4285 from rfl, mx_svs]
        have m52 := N 52 7869 (by decide) z5
        refine pc_if (fun z6 => ?_) (fun z => P166 (.inr (I 53 4285 (by decide) (by decide) (Classical.byContradiction z))))
        have m53 := N 53 4285 (by decide) z6
        unfold qj_X13_both_208
        refine pc_if (fun z => P213 (by omega) 1 (.inl ⟨.inl (I 66 38 (by decide) (by decide) z), rfl⟩)) (fun z7 => ?_)
        refine pc_if (fun z => P213 (by omega) 1 (.inl ⟨.inr (.inl (I 68 124 (by decide) (by decide) z)), rfl⟩)) (fun z8 => ?_)
        have m66 := N 66 38 (by decide) z7
        have m68 := N 68 124 (by decide) z8
        refine pc_if (fun z => P213 (by omega) 0 (.inr ⟨?_, rfl⟩)) (fun z => P213 (by omega) 1 (.inl ⟨.inr (.inr (I 70 94 (by decide) (by decide) (Classical.byContradiction z))), rfl⟩))
        have m70 := N 70 94 (by decide) z
        omega
      · exact fun y _ => HV y ⟨fun z => absurd z9 z, fun _ z => absurd z z3, fun _ t2 y1 y2 y3 => absurd ⟨t2, y1, y2, y3⟩ ex⟩
  · refine pc_sv (ft_qf_X13_side z9) ?_; intro u60 F6
    refine pc_if (fun z => absurd z (by rw [F6.1]; exact z9)) (fun _ => pc_ret (HV _ ⟨fun _ => F6, fun z => absurd z z9, fun z => absurd z z9⟩))
/-- && and || -/
theorem r_bothS {d : Nat} {tk : Nat} {Q : Int × ms_M → Prop} (Y : CXs X) (hk : bK X tk = 67 ∨ bK X tk = 69) (tc : tk < bc X) (ne : 0 ≤ e) (TQ : TBq (bK X) (bP X) (bc X) r) (hf : r 160 9 = 0) (T8 : ∀ cc x : Nat, 163 ≤ cc ∧ cc ≤ 173 → r cc x = bT X cc x) (e1 : bT X 168 e.toNat = (tk : Int)) (l1 : bT X 169 (bT X 170 e.toNat).toNat = (p : Int)) (pc : p < bc X) (l2 : bT X 169 (bT X 171 e.toNat).toNat = (t : Int)) (tc2 : t < bc X) (g1 : r 174 (bT X 170 e.toNat).toNat = ty_T s) (vs : VTn (bn X) s ∧ ¬ s = 303) (HN : ¬ s = 302 → ∀ y : Int × ms_M, y.2 160 9 = 6 → y.2 160 10 = bP X p → Q y) (H : s = 302 → Pc ((qg_X13_condition nn d).2.2.1 (bT X 171 e.toNat) r) (fun v2 => ∀ y, RB X e (fun x => x = 302) (fun _ => 302) t v2 y → Q y)) : Pc (qo_X13_both nn (qg_X13_condition nn d) e r) Q := by
  have n8 := Y.2.2.1
  have c3 := Y.1.2.1
  have s3 : ¬ ty_T s = 3 := fun z => vs.2 ((ty_3 (X := X) n8 vs.1).mp z)
  have s1 : ty_T s = 1 ↔ s = 302 := by have := ty_c (vtn_v n8 vs.1); omega
  have P36 : Pc (qj_X13_both_36 nn (qg_X13_condition nn d) e r) Q := by
    unfold qj_X13_both_36
    refine pc_sv (r_ledv hf (T8 170 _ (by omega)) g1 s3) ?_; intro u37 q37
    rw [q37]
    dsimp only
    refine pc_if (fun z => ?_) (fun z => ?_)
    · unfold qj_X13_both_62
      refine pc_rA ?_; intro _ _ v22 e22
      rw [T8 171 _ (by omega)] at e22
      refine pc_rA ?_; intro _ _ v24 e24
      rw [T8 171 _ (by omega)] at e24
      rw [e22, e24]
      refine pc_sv (pc_and (H (s1.mp z)) (wd_fr d)) ?_; intro v2 ⟨HV, F⟩
      have TQ2 : TBq (bK X) (bP X) (bc X) v2.2 := tbq_f TQ (fun cc x z => F cc x (by omega) (by omega) (by omega))
      by_cases z9 : v2.2 160 9 = 0
      · refine r_side (X := X) (e := e) TQ2 (by rw [F 168 _ (by omega) (by omega) (by omega)]; exact T8 168 _ (by omega)) z9 (fun z3 w w9 w10 => ?_) (fun z3 => ?_)
        · refine pc_if (fun z => absurd (show (3 : Int) = 1 from z) (by omega)) (fun _ => ?_)
          refine pc_rA ?_; intro _ _ v31 e31
          refine pc_rA ?_; intro _ _ v32 e32
          refine pc_sv (ft_qf_X13_wrong (h := w) (by omega)) ?_; intro u34 F4
          exact pc_ret (HV _ ⟨fun z => absurd z9 z, fun _ _ => ⟨F4.1.trans w9, fun hb => F4.2.trans (w10 hb)⟩, fun _ t2 y1 y2 y3 => absurd (y3.symm.trans z3) (fun y => y2 ((ty_3 (X := X) n8 y1).mp y))⟩)
        · have u1 : ∀ t2 : Int, VTn (bn X) t2 → (ty_T t2 = 1 ↔ t2 = 302) := fun t2 vt => by have := ty_c (vtn_v n8 vt); omega
          refine pc_if (fun z1 => pc_ret (HV _ ⟨fun z => absurd z9 z, fun _ z => absurd z z3, fun _ t2 y1 y2 y3 => .inl ⟨(u1 t2 y1).mp (by rw [← y3]; exact z1), rfl⟩⟩)) (fun z1 => ?_)
          refine pc_rA ?_; intro _ _ v31 e31
          rw [F 171 _ (by omega) (by omega) (by omega), T8 171 _ (by omega)] at e31
          refine pc_rA ?_; intro _ _ v32 e32
          rw [e31, F 169 _ (by omega) (by omega) (by omega), T8 169 _ (by omega), l2] at e32
          refine pc_sv (r_wrong TQ2 tc2 z9 e32) ?_; intro u34 w1
          exact pc_ret (HV _ ⟨fun z => absurd z9 z, fun _ z => absurd z z3, fun _ t2 y1 y2 y3 => .inr ⟨fun y => z1 (by rw [y3]; exact (u1 t2 y1).mpr y), w1⟩⟩)
      · refine pc_sv (ft_qf_X13_side z9) ?_; intro u28 F6
        have S6 : ¬ u28.2 160 9 = 0 := by rw [F6.1]; exact z9
        refine pc_if (fun z => pc_ret (HV _ ⟨fun _ => F6, fun z => absurd z z9, fun z => absurd z z9⟩)) (fun z => ?_)
        refine pc_rA ?_; intro _ _ v31 e31
        refine pc_rA ?_; intro _ _ v32 e32
        refine pc_sv (ft_qf_X13_wrong S6) ?_; intro u34 F4
        exact pc_ret (HV _ ⟨fun _ => ⟨F4.1.trans F6.1, F4.2.trans F6.2⟩, fun z => absurd z z9, fun z => absurd z z9⟩)
    · refine pc_rA ?_; intro _ _ v40 e40
      rw [T8 170 _ (by omega)] at e40
      refine pc_rA ?_; intro _ _ v41 e41
      rw [e40, T8 169 _ (by omega), l1] at e41
      refine pc_sv (r_wrong TQ pc hf e41) ?_; intro u43 w1
      refine pc_imp (ft_qj_X13_both_62 (ftg_X13_condition nn d) (by omega)) (fun y F => HN (fun z2 => z (s1.mpr z2)) y (by rw [F.1]; exact w1.1) (by rw [F.2]; exact w1.2))
  unfold qo_X13_both
  refine pc_rA ?_; intro _ _ v47 e47
  rw [T8 168 _ (by omega), e1] at e47
  refine pc_rA ?_; intro _ _ v48 e48
  rw [e47, Int.toNat_natCast, TQ.2.2.2 tk (by omega)] at e48
  rw [show qf_X13_sign nn 0 38 38 r = some 4902 from rfl, mx_svs]
  refine pc_if (fun z => P36) (fun z1 => ?_)
  rw [show qf_X13_sign nn 0 124 124 r = some 15996 from rfl, mx_svs]
  refine pc_if (fun z => absurd hk (fun y => ?_)) (fun z => P36)
  rcases y with y | y
  · exact z1 (by rw [e48, y]; decide)
  · exact z (by rw [e48, y]; decide)
end
end
section
/- E of both sides: a sign with two sides: the core -/
section
variable {nn : Nat} {X : BCx} {dp i l a b e s k : Int} {p q t : Nat} {h g u r w m : ms_M} {v : Int × ms_M}
theorem clp_i {rc : tq_X10_readValue} {kq st bs tn c : Int} {Z Z2 : ms_M → Prop} (C : CLP nn rc kq dp st bs tn c u Z) (H : ∀ uF, Z uF → Z2 uF) : CLP nn rc kq dp st bs tn c u Z2 := ⟨fun z f k => pc_imp (C.1 z f k) H, fun z f => pc_imp (C.2 z f) H⟩
theorem st_9 : st_T k ≤ 9 := by
  by_cases z : 0 ≤ st_T k
  · have D : k = 19 ∨ k = 52 ∨ k = 53 ∨ k = 54 ∨ k = 55 ∨ k = 56 ∨ k = 57 ∨ k = 58 ∨ k = 59 ∨ k = 60 ∨ k = 61 ∨ k = 62 ∨ k = 63 ∨ k = 64 ∨ k = 65 ∨ k = 66 ∨ k = 67 ∨ k = 68 ∨ k = 69 ∨ k = 70 := by have := st_dis z; omega
    rcases D with rfl | rfl | rfl | rfl | rfl | rfl | rfl | rfl | rfl | rfl | rfl | rfl | rfl | rfl | rfl | rfl | rfl | rfl | rfl | rfl <;> decide
  · omega
/-- left side void -/
theorem r_bothV {d : Nat} {tk t1 : Nat} (TQ : TBq (bK X) (bP X) (bc X) r) (T8 : ∀ cc x : Nat, 163 ≤ cc ∧ cc ≤ 173 → r cc x = bT X cc x) (hf : r 160 9 = 0) (g3 : r 174 (bT X 170 e.toNat).toNat = 3) (e3 : bT X 168 (bT X 170 e.toNat).toNat = (t1 : Int)) (ht : t1 < bc X) : Pc (qo_X13_both nn (qg_X13_condition nn d) e r) (fun y => y.2 160 9 = 6 ∧ y.2 160 10 = bP X t1) := by
  have G := ftg_X13_condition nn d
  have LED : Pc (qf_X13_led nn e r) (fun u => u.1 = 3 ∧ u.2 160 9 = 6 ∧ u.2 160 10 = bP X t1) := r_led3 TQ hf (T8 170 _ (by omega)) g3 (by rw [T8 168 _ (by omega)]; exact e3) ht
  have P36 : Pc (qj_X13_both_36 nn (qg_X13_condition nn d) e r) (fun y => y.2 160 9 = 6 ∧ y.2 160 10 = bP X t1) := by
    unfold qj_X13_both_36
    refine pc_sv LED ?_; intro u37 ⟨q1, q2, q3⟩
    refine pc_if (fun z => absurd z (by omega)) (fun _ => ?_)
    refine pc_rA ?_; intro _ _ v40 _
    refine pc_rA ?_; intro _ _ v41 _
    refine pc_sv (ft_qf_X13_wrong (h := u37.2) (by omega)) ?_; intro u43 F
    exact pc_imp (ft_qj_X13_both_62 G (h := u43) (by rw [F.1]; omega)) (fun y F2 => ⟨by rw [F2.1, F.1]; exact q2, by rw [F2.2, F.2]; exact q3⟩)
  unfold qo_X13_both
  refine pc_rA ?_; intro _ _ v47 _
  refine pc_rA ?_; intro _ _ v48 _
  refine pc_sv pc_any ?_; intro u49 _
  refine pc_if (fun _ => P36) (fun _ => ?_)
  refine pc_sv pc_any ?_; intro u50 _
  refine pc_if (fun _ => ?_) (fun _ => P36)
  refine pc_sv LED ?_; intro u52 ⟨q1, q2, q3⟩
  refine pc_rA ?_; intro _ _ v54 _
  refine pc_rA ?_; intro _ _ v56 _
  refine pc_sv (G.2.2.1 (h := u52.2) (by omega)) ?_; intro u58 F1
  refine pc_sv (ft_qf_X13_side (h := u58.2) (by rw [F1.1]; omega)) ?_; intro u60 F2
  refine pc_if (fun z => absurd z (by rw [F2.1, F1.1]; omega)) (fun _ => pc_ret ⟨?_, ?_⟩)
  · exact F2.1.trans (F1.1.trans q2)
  · exact F2.2.trans (F1.2.trans q3)
/-- behind the opened sign: the right side, and the closing -/
theorem sb_core {iy st bs tn : Int} {tke o d d4 kf : Nat} {r2 u18 : ms_M} {Z : ms_M → Int × ms_M → Prop} {ok : Int → Prop} {rt : Int → Int} (Y : CXs X) (hd : dp ≤ 40) (ne : 0 ≤ a ∧ a ≤ e ∧ e < b) (nd : bT X 167 e.toNat = 37) (Q : EPr X dp p h r) (SG : SGn dp l bs h) (sk : 0 ≤ s ∧ s ≤ 9 ∧ l ≤ s) (hs : st_T (bK X q) ≤ l) (b57 : 0 ≤ r2 160 57 ∧ r2 160 57 + (b - a) < 9000 ∧ b ≤ 9000) (Q18 : EPr X dp (t + 1) u18 r2) (RR : RFe a b r r2) (C18 : CFe h u18) (ho : h 49 10 = (o : Int)) (o18 : u18 49 10 = (o : Int) + 1) (S18 : ∀ cc x : Nat, 50 ≤ cc → cc ≤ 54 → x < o → u18 cc x = h cc x) (r50 : st_T (u18 50 o) = s) (L18 : u18 34 1 + 20 * (p : Int) ≤ h 34 1 + 20 * (t : Int) + 4) (H18 : u18 34 3 + (p : Int) ≤ h 34 3 + (t : Int)) (a18 : u18 49 18 = h 49 18) (pt : p < t) (tq : t + 1 < q) (ht : 0 ≤ tn ∧ tn ≤ (t : Int)) (CR : S1 nn X dp iy (s + 1) (e + 1) b (t + 1) q (bT X 171 e.toNat)) (vrt : ∀ x : Int, ok x → VTn (bn X) x → ¬ x = 303 → VTn (bn X) (rt x) ∧ ¬ rt x = 303) (CLOSE : ∀ (u2 : ms_M) (v2 : Int × ms_M), EOk nn X iy (e + 1) b (t + 1) q (bT X 171 e.toNat) u18 r2 u2 v2 → ¬ u2 49 12 = 303 → Pc (qf_X10_closeSign nn u2) (fun u => (ok (u2 49 12) ∧ CSq X (p : Int) (rt (u2 49 12)) u2 u ∧ (¬ bK X q = 51 → FM01 nn X iy (e + 1) b (t + 1) q (bT X 171 e.toNat) u18 u2 v2.2 → ∀ z : ms_M, z = up_M v2.2 174 e.toNat (ty_T (rt (u2 49 12))) → u 34 3 = h 34 3 + 1 ∧ MKC nn X e a b p q h u z)) ∨ (¬ ok (u2 49 12) ∧ u 2 11 = 6 ∧ u 2 12 = bP X tke))) (HC : ∀ (u : ms_M) (v : Int × ms_M) (c tn : Int), EOk nn X 0 a b p q e h r u v → (0 ≤ c ∧ c + u 49 10 ≤ 419) → (0 ≤ tn ∧ tn + 1 ≤ (q : Int)) → CLP nn (qg_X10_readValue nn d) (bK X q) (dp - 1) st bs tn c u (fun uF => Z uF v)) (HF : ∀ (uF : ms_M) (v : Int × ms_M), (SFj uF v.2 ∨ VDj X 0 a b p q e h r uF v) → Z uF v) : Pc (mx_sv ((qg_X10_readValue nn d).2.2.1 dp u18) fun u49 => qw_X10_readValue_30 nn (qg_X10_readValue nn d) kf (dp - 1) st bs (tn + 1) u49) (fun uF => Pc ((qg_X13_condition nn d4).2.2.1 (bT X 171 e.toNat) r2) (fun v2 => ∀ y : Int × ms_M, RB X e ok rt tke v2 y → ∀ z : ms_M, z = up_M y.2 174 e.toNat y.1 → (¬ z 160 9 = 0 → Z uF (0, z)) ∧ (z 160 9 = 0 → Z uF (y.1, z)))) := by
  have G := fsg_X10_readValue nn d
  have c3 := Y.1.2.1
  have n8 := Y.2.2.1
  obtain ⟨B, ⟨q1, q2, q3, q4⟩, ⟨f1, f2, f3⟩, o1⟩ := Q
  -- a FAULT of both
  have FB : ∀ (uF : ms_M) (y : Int × ms_M) (c pl : Int), ¬ c = 0 → uF 2 11 = c → uF 2 12 = pl → y.2 160 9 = c → y.2 160 10 = pl → ∀ z : ms_M, z = up_M y.2 174 e.toNat y.1 → (¬ z 160 9 = 0 → Z uF (0, z)) ∧ (z 160 9 = 0 → Z uF (y.1, z)) := fun uF y c pl c0 a1 a2 a3 a4 z ez => by
    have z9 : z 160 9 = c := by rw [ez, up_n (by omega)]; exact a3
    have z10 : z 160 10 = pl := by rw [ez, up_n (by omega)]; exact a4
    exact ⟨fun _ => HF uF (0, z) (.inl ⟨by omega, by show z 160 9 = _; rw [z9, a1], by show z 160 10 = _; rw [z10, a2]⟩), fun y => absurd (z9.symm.trans y) c0⟩
  have SG18 : SGn dp (s + 1) bs u18 := ⟨by omega, by have := SG.2.1; omega, by have := SG.2.2.1; omega, fun _ => by rw [o18, show (o : Int) + 1 - 1 = (o : Int) by omega, Int.toNat_natCast, r50]; omega⟩
  refine CR (by omega) d d4 kf u18 r2 st bs (tn + 1) (fun uF v2 => ∀ y : Int × ms_M, RB X e ok rt tke v2 y → ∀ z : ms_M, z = up_M y.2 174 e.toNat y.1 → (¬ z 160 9 = 0 → Z uF (0, z)) ∧ (z 160 9 = 0 → Z uF (y.1, z))) Q18 SG18 (by omega) (by omega) (fun u2 v2 c tn2 K2 hc ht2 => ?_) (fun uF v2 S y hy => ?_)
  · obtain ⟨⟨x1, x2, x3, x4, x5⟩, ⟨x6, x7, x8⟩, ⟨x9, x10, x11⟩, ⟨x12, x13, x14⟩, x15⟩ := K2.1
    have n303 : ¬ u2 49 12 = 303 := fun z => by
      have w18 : u2 49 18 = h 49 18 := by rw [x9 49 18 (by omega) (by omega) (by omega) (by omega) (by omega) (by omega) (by omega) (by omega)]; exact a18
      rcases x15 with F | F | F | F
      · rcases F.1 with ⟨-, -, -, y⟩ | ⟨-, -, y⟩
        · have := (y z).2
          omega
        · exact y z
      · exact F.2.1.2.2.2.2 z
      · exact F.1.2.2.2 z
      · exact F.1.2.2.2 z
    have TB2 := pk_b Q18 K2.1
    have o2 : u2 49 10 = (o : Int) + 1 := by rw [x11.1]; exact o18
    have e50 : u2 50 o = u18 50 o := x11.2 50 o (by omega) (by omega) (by omega)
    refine c_due (s := s) Y TB2 x2 x1 x4 (by omega) (by have := SG.2.2.1; omega) (by rw [o2, show (o : Int) + 1 - 1 = (o : Int) by omega, Int.toNat_natCast, e50]; exact r50) (by omega) ?_
    refine pc_imp (CLOSE u2 v2 K2 n303) (fun u hu => ?_)
    rcases hu with ⟨w1, w2, w3⟩ | ⟨w1, w2, w3⟩
    · -- all is well
      generalize hz : up_M v2.2 174 e.toNat (ty_T (rt (u2 49 12))) = z0
      obtain ⟨y1, y2, ⟨y3, y4⟩, ⟨y5, y6, y7, y8⟩, y9⟩ := w2
      obtain ⟨vr1, vr2⟩ := vrt _ w1 x7 n303
      have z9 : z0 160 9 = 0 := by rw [← hz, up_n (by omega)]; exact x5
      have CF : CFe h u := cfe_t C18 (cfe_t x9 (fun cc x z1 z2 z3 z4 z5 z6 z7 z8 => y1 cc x z2 z3 z4 (by omega)))
      have RF : RFe a b r z0 := by
        have R1 : RFe a b r v2.2 := rfe_t RR x10 ⟨Int.le_refl _, Int.le_refl _⟩ ⟨by omega, Int.le_refl _⟩
        exact ⟨fun cc x z1 z2 z3 => by rw [← hz, up_n (by omega)]; exact R1.1 cc x z1 z2 z3, fun cc x z1 z2 z3 => by rw [← hz, up_n (by omega)]; exact R1.2 cc x z1 z2 z3⟩
      have SB : SGb h u := ⟨by omega, fun cc x z1 z2 z3 => by rw [y1 cc x (by omega) (by omega) (by omega) (by omega), x11.2 cc x z1 z2 (by omega)]; exact S18 cc x z1 z2 (by omega)⟩
      have EE : EOk nn X 0 a b p q e h r u (ty_T (rt (u2 49 12)), z0) := by
        refine ⟨⟨⟨by rw [y1 2 10 (by omega) (by omega) (by omega) (by omega)]; exact x1, x2, by omega, by rw [y1 2 11 (by omega) (by omega) (by omega) (by omega)]; exact x4, z9⟩, ⟨by rw [y7], by rw [y7]; exact vr1, by show z0 174 e.toNat = _; rw [← hz, up_s]⟩, ⟨CF, RF, SB⟩, ⟨y2, ⟨by omega, by omega⟩, y4.1, by omega⟩, .inl ⟨.inr ⟨y6, fun z => by have := z.2; omega, by rw [y7]; exact vr2⟩, fun _ => .inl ⟨by omega, by omega, fun z => by omega⟩, fun nq => ?_⟩⟩, y8, fun _ => .inl y6⟩
        have FR : FM01 nn X iy (e + 1) b (t + 1) q (bT X 171 e.toNat) u18 u2 v2.2 := by
          have KF := K2.2.2 nq
          rcases x15 with F | F | F | F
          · exact F
          · exact absurd F.1.1 (by omega)
          · exact absurd F.1.1 (by omega)
          · exact absurd F.1.1 (by omega)
        obtain ⟨j1, j2⟩ := w3 nq FR z0 hz.symm
        exact ⟨⟨by rw [if_neg (by rw [y7]; exact vr2)]; exact j1, y9⟩, j2⟩
      refine clp_i (HC u (ty_T (rt (u2 49 12)), z0) (c + 1) tn2 EE (by omega) ht2) (fun uF HZ y hy z ez => ?_)
      rcases hy.2.2 x5 (u2 49 12) x7 n303 x6 with ⟨-, ey⟩ | ⟨ny, -⟩
      · rw [ey] at ez
        have ezz : z = z0 := by rw [ez, ← hz]
        rw [ezz, ey]
        exact ⟨fun z => absurd z9 z, fun _ => HZ⟩
      · exact absurd w1 ny
    · refine clp_f G (by omega) (fun uF F y hy => ?_)
      rcases hy.2.2 x5 (u2 49 12) x7 n303 x6 with ⟨ny, -⟩ | ⟨-, y1, y2⟩
      · exact absurd ny w1
      · exact FB uF y 6 _ (by omega) (by rw [F.1]; exact w2) (by rw [F.2]; exact w3) y1 y2
  · rcases S with S | S
    · have F := hy.1 (sf_r S)
      exact FB uF y (uF 2 11) (uF 2 12) S.1 rfl rfl (F.1.trans S.2.1) (F.2.trans S.2.2)
    · obtain ⟨⟨s1, s2, s3, s4⟩, ⟨s5, s6, s7⟩, s8⟩ := S
      obtain ⟨y1, y2⟩ := hy.2.1 s6 s5
      exact FB uF y 6 _ (by omega) s1 s2 y1 (y2 ⟨s3, s4.1⟩)
end
end
section
/- E of both sides: a sign with two sides: the making -/
section
variable {nn : Nat} {X : BCx} {dp i l a b e s k : Int} {p q t : Nat} {h g u r w m : ms_M} {v : ms_M} {PB : Nat → Prop} {WL : Int → Int → Prop} {L : List (Int × Int)}
theorem r_oper {x : Int} (kk : SGk k) (k8 : 58 ≤ k) (hx : x = sv_T k) : Pc (qf_X13_operation nn x m) (fun u => u = aop_T k) := by
  have k70 : k ≤ 70 := by unfold SGk at kk; omega
  have I : ∀ k2 y : Int, (40 ≤ k2 ∧ k2 ≤ 72) → sv_T k2 = y → x = y → k = k2 := fun k2 y a b d => svt_i (by omega) a (by rw [← hx, b]; exact d)
  have N : ∀ k2 y : Int, sv_T k2 = y → ¬ x = y → ¬ k = k2 := fun k2 y b d z => d (by rw [hx, z]; exact b)
  unfold qf_X13_operation
  refine pc_if (fun n1 => ?_) (fun z => pc_ret (by rw [I 61 43 (by decide) (by decide) (Classical.byContradiction z)]; rfl))
  refine pc_if (fun n2 => ?_) (fun z => pc_ret (by rw [I 62 45 (by decide) (by decide) (Classical.byContradiction z)]; rfl))
  refine pc_if (fun n3 => ?_) (fun z => pc_ret (by rw [I 63 42 (by decide) (by decide) (Classical.byContradiction z)]; rfl))
  refine pc_if (fun n4 => ?_) (fun z => pc_ret (by rw [I 64 47 (by decide) (by decide) (Classical.byContradiction z)]; rfl))
  refine pc_if (fun n5 => ?_) (fun z => pc_ret (by rw [I 65 37 (by decide) (by decide) (Classical.byContradiction z)]; rfl))
  refine pc_if (fun n6 => ?_) (fun z => pc_ret (by rw [I 66 38 (by decide) (by decide) (Classical.byContradiction z)]; rfl))
  refine pc_if (fun n7 => ?_) (fun z => pc_ret (by rw [I 68 124 (by decide) (by decide) (Classical.byContradiction z)]; rfl))
  refine pc_if (fun n8 => ?_) (fun z => pc_ret (by rw [I 70 94 (by decide) (by decide) (Classical.byContradiction z)]; rfl))
  rw [show qf_X13_sign nn 0 60 60 m = some 7740 from rfl, mx_svs]
  refine pc_if (fun n9 => ?_) (fun z => pc_ret (by rw [I 58 7740 (by decide) (by decide) (Classical.byContradiction z)]; rfl))
  rw [show qf_X13_sign nn 0 62 62 m = some 7998 from rfl, mx_svs]
  refine pc_if (fun n10 => pc_ret ?_) (fun z => pc_ret (by rw [I 59 7998 (by decide) (by decide) (Classical.byContradiction z)]; rfl))
  have m1 := N 61 43 (by decide) n1
  have m2 := N 62 45 (by decide) n2
  have m3 := N 63 42 (by decide) n3
  have m4 := N 64 47 (by decide) n4
  have m5 := N 65 37 (by decide) n5
  have m6 := N 66 38 (by decide) n6
  have m7 := N 68 124 (by decide) n7
  have m8 := N 70 94 (by decide) n8
  have m9 := N 58 7740 (by decide) n9
  have m10 := N 59 7998 (by decide) n10
  rw [show k = 60 by unfold SGk at kk; omega]
  all_goals rfl
theorem st_5 (kk : SGk k) : st_T k = 5 ↔ (k = 52 ∨ k = 53) := by
  have D : k = 52 ∨ k = 53 ∨ k = 54 ∨ k = 55 ∨ k = 56 ∨ k = 57 ∨ k = 58 ∨ k = 59 ∨ k = 60 ∨ k = 61 ∨ k = 62 ∨ k = 63 ∨ k = 64 ∨ k = 65 ∨ k = 66 ∨ k = 68 ∨ k = 70 := by unfold SGk at kk; omega
  rcases D with rfl | rfl | rfl | rfl | rfl | rfl | rfl | rfl | rfl | rfl | rfl | rfl | rfl | rfl | rfl | rfl | rfl <;> decide
theorem mk_tbq (Y : CXs X) (M : MKx X PB WL L h m) : TBq (bK X) (bP X) (bc X) m := tbq_f Y.2.2.2.2.1 (fun cc x z => (mk_t M).1 cc x (by omega))
theorem m_bothN {d tk : Nat} {t2 : Int} {u1 u18 u2 : ms_M} (Y : CXs X) (ne : 0 ≤ e) (hk : bK X tk = k) (kk : SGk k) (tc : tk < bc X) (e1 : bT X 168 e.toNat = (tk : Int)) (M : MKx X PB WL L u1 m) (E18 : ∀ cc x : Nat, ¬ (cc = 2 ∧ x = 10) → ¬ (cc = 49 ∧ x = 10) → ¬ (50 ≤ cc ∧ cc ≤ 54) → u18 cc x = u1 cc x) (CR : MKC nn X (bT X 171 e.toNat) (e + 1) b (t + 1) q u18 u2 v) (CM : CSm nn X k t2 u2 u) (h2 : 2 ≤ u2 34 3) (vs : VTn (bn X) s) (vt : VTn (bn X) t2) (g1 : m 174 (bT X 170 e.toNat).toNat = ty_T s) (g2 : m 174 e.toNat = ty_T (rt_T k t2)) (OK : OKt X k s t2) (AM : AN (e + 1) b v m) (b57 : 0 ≤ m 160 57 ∧ m 160 57 + (b - (e + 1)) < 9000) (b88 : m 160 88 + 4 * (q : Int) ≤ 2000000000 + 4 * (t : Int)) (q3 : q ≤ 3001) (t3 : t < 3001) (l2 : u2 34 1 ≤ 900000) : Pc (qo_X13_workBoth nn (qg_X13_work nn d) e m) (fun w => MKx X PB WL L u w ∧ (m 160 88 ≤ w 160 88 ∧ w 160 88 + 4 * (t : Int) ≤ m 160 88 + 4 * (q : Int))) := by
  have n8 := Y.2.2.1
  have c3 := Y.1.2.1
  have k40 : 40 ≤ k ∧ k ≤ 72 ∧ ¬ k = 67 ∧ ¬ k = 69 := by unfold SGk at kk; omega
  have MT := (mk_t M).1
  have TQ := mk_tbq Y M
  unfold qo_X13_workBoth
  refine pc_rA ?_; intro _ _ v70 e70
  rw [MT 168 _ (by omega), e1] at e70
  refine pc_rA ?_; intro _ _ v71 e71
  rw [e70, Int.toNat_natCast, TQ.2.2.2 tk (by omega), hk] at e71
  have I : ∀ k2 y : Int, (40 ≤ k2 ∧ k2 ≤ 72) → sv_T k2 = y → v71 = y → k = k2 := fun k2 y a b d => svt_i (by omega) a (by rw [← e71, b]; exact d)
  have N : ∀ k2 y : Int, sv_T k2 = y → ¬ v71 = y → ¬ k = k2 := fun k2 y b d z => d (by rw [e71, z]; exact b)
  rw [show qf_X13_sign nn 0 38 38 m = some 4902 from rfl, mx_svs]
  refine pc_if (fun _ => ?_) (fun z => absurd (I 67 4902 (by decide) (by decide) (Classical.byContradiction z)) (by omega))
  unfold qj_X13_workBoth_29
  refine pc_if (fun z => absurd rfl z) (fun _ => ?_)
  rw [show qf_X13_sign nn 0 124 124 m = some 15996 from rfl, mx_svs]
  refine pc_if (fun _ => ?_) (fun z => absurd (I 69 15996 (by decide) (by decide) (Classical.byContradiction z)) (by omega))
  refine pc_rA ?_; intro _ _ v50 e50
  rw [MT 171 _ (by omega)] at e50
  rw [e50]
  have M18 : MKx X PB WL L u18 m := mkx_c M (fun cc x z1 z2 z3 => E18 cc x (by omega) (by omega) z3)
  refine pc_sv (pc_and (CR d PB WL L m M18 AM b57 (by omega)) (wk_an d)) ?_; intro u52 ⟨⟨M52, lb1, lb2⟩, AN52⟩
  have MT2 := (mk_t M52).1
  refine pc_rA ?_; intro _ _ v54 e54
  rw [MT2 168 _ (by omega), e1] at e54
  refine pc_sv (r_str Y.1 (mk_tbq Y M52) e54 (by omega)) ?_; intro u56 q56
  rw [hk] at q56
  have s5 := st_5 kk
  have CM2 := CM h2 PB WL L u52 M52 (by omega)
  have DN : ∀ x : Option ms_M, Pc x (fun w2 => MKx X PB WL L u w2 ∧ (u52 160 88 ≤ w2 160 88 ∧ w2 160 88 ≤ u52 160 88 + 2)) → Pc x (fun w => MKx X PB WL L u w ∧ (m 160 88 ≤ w 160 88 ∧ w 160 88 + 4 * (t : Int) ≤ m 160 88 + 4 * (q : Int))) := fun x H => pc_imp H (fun w2 y => ⟨y.1, by omega⟩)
  have ns : (s = 301 ∨ s = 302) ↔ (t2 = 301 ∨ t2 = 302) ∨ ¬ k < 58 ∧ (s = 301 ∨ s = 302) := by
    rcases OK with ⟨-, f⟩ | ⟨f, f1, f2⟩ | ⟨f, f1, f2⟩ | ⟨f, f1, f2⟩
    · rcases f with ⟨f1, f2, -⟩ | ⟨f1, f2⟩
      · omega
      · omega
    · omega
    · omega
    · omega
  have P190 : k < 58 → Pc (qj_X13_workBoth_190 nn (qg_X13_work nn d) e v71 u52) (fun w => MKx X PB WL L u w ∧ (m 160 88 ≤ w 160 88 ∧ w 160 88 + 4 * (t : Int) ≤ m 160 88 + 4 * (q : Int))) := fun k5 => by
    unfold qj_X13_workBoth_190
    refine pc_rA ?_; intro _ _ v15 e15
    rw [MT2 170 _ (by omega)] at e15
    refine pc_rA ?_; intro _ _ v16 e16
    rw [e15, AN52 174 _ (by omega) (by omega), g1] at e16
    have tn := ty_num (X := X) n8 vs
    have T2 : ∀ n : Int, ((t2 = 301 ∨ t2 = 302) → ¬ n = 0) → (¬ (t2 = 301 ∨ t2 = 302) → n = 0) → ∀ op : Int, op = cm_T k n → Pc (qj_X13_workBoth_315 nn (qg_X13_work nn d) op u52) (fun w => MKx X PB WL L u w ∧ (m 160 88 ≤ w 160 88 ∧ w 160 88 + 4 * (t : Int) ≤ m 160 88 + 4 * (q : Int))) := fun n n1 n2 op hop => by
      unfold qj_X13_workBoth_315
      rw [hop]
      refine pc_sv (CM2.1 k5 n n1 n2) ?_; intro w2 y
      exact pc_ret ⟨y.1, by omega⟩
    have P210 : ∀ s0 n : Int, ((s0 = 0 ∧ n = 1) ∨ (s0 = 1 ∧ n = 0)) → ((t2 = 301 ∨ t2 = 302) → ¬ n = 0) → (¬ (t2 = 301 ∨ t2 = 302) → n = 0) → Pc (qj_X13_workBoth_210 nn (qg_X13_work nn d) v71 s0 u52) (fun w => MKx X PB WL L u w ∧ (m 160 88 ≤ w 160 88 ∧ w 160 88 + 4 * (t : Int) ≤ m 160 88 + 4 * (q : Int))) := fun s0 n hs0 n1 n2 => by
      unfold qj_X13_workBoth_210
      rw [show qf_X13_sign nn 0 61 61 u52 = some 7869 from rfl, mx_svs]
      refine pc_if (fun z1 => ?_) (fun z => ?_)
      · have m52 := N 52 7869 (by decide) z1
        rw [show qf_X13_sign nn 0 33 61 u52 = some 4285 from rfl, mx_svs]
        refine pc_if (fun z2 => ?_) (fun z => ?_)
        · have m53 := N 53 4285 (by decide) z2
          refine pc_if (fun z3 => ?_) (fun z => T2 n n1 n2 161 (by rw [I 54 60 (by decide) (by decide) (Classical.byContradiction z)]; rfl))
          rw [show qf_X13_sign nn 0 62 61 u52 = some 7997 from rfl, mx_svs]
          have m54 := N 54 60 (by decide) z3
          refine pc_if (fun z4 => ?_) (fun z => T2 n n1 n2 162 (by rw [I 57 7997 (by decide) (by decide) (Classical.byContradiction z)]; rfl))
          have m57 := N 57 7997 (by decide) z4
          refine pc_if (fun z5 => T2 n n1 n2 164 ?_) (fun z => T2 n n1 n2 163 (by rw [I 56 62 (by decide) (by decide) (Classical.byContradiction z)]; rfl))
          have m56 := N 56 62 (by decide) z5
          rw [show k = 55 by unfold SGk at kk; omega]
          all_goals rfl
        · have e53 := I 53 4285 (by decide) (by decide) (Classical.byContradiction z)
          refine pc_if (fun z0 => T2 n n1 n2 160 ?_) (fun z0 => T2 n n1 n2 166 ?_)
          · rw [e53, show n = 1 by omega]; rfl
          · rw [e53, show n = 0 by omega]; rfl
      · have e52 := I 52 7869 (by decide) (by decide) (Classical.byContradiction z)
        refine pc_if (fun z0 => T2 n n1 n2 159 ?_) (fun z0 => T2 n n1 n2 165 ?_)
        · rw [e52, show n = 1 by omega]; rfl
        · rw [e52, show n = 0 by omega]; rfl
    refine pc_if (fun z => P210 0 1 (.inl ⟨rfl, rfl⟩) (fun _ => by omega) (fun z2 => ?_)) (fun z => P210 1 0 (.inr ⟨rfl, rfl⟩) (fun z2 => ?_) (fun _ => rfl))
    · have := tn.mp (by omega)
      omega
    · have := tn.mpr (by omega)
      omega
  refine pc_if (fun z => P190 (by have := s5.mp (by omega); omega)) (fun z5 => ?_)
  have n52 : ¬ k = 52 ∧ ¬ k = 53 := by
    have := s5
    omega
  have s6 := st_6 kk n52
  refine pc_if (fun z6 => ?_) (fun z => P190 (by have := s6.mp (by omega); omega))
  have k58 : 58 ≤ k := by
    unfold SGk at kk
    omega
  have er : rt_T k t2 = t2 := by unfold rt_T; rw [if_neg (by omega)]
  refine pc_sv (r_oper kk k58 e71) ?_; intro u57 q57
  rw [q57]
  obtain ⟨-, -, ⟨n1, n2, n3, n4⟩, -⟩ := mk_t M52
  refine DN _ (pc_svr (val := ty_T t2) (F := fun v61 u59 => mx_sv (qf_X13_turn nn 2 v61 u59) fun u63 => some u63) (pc_imp (r_put (by omega)) (fun u59 y => ?_)) (CM2.2 k58))
  rw [y.2.2 174 _ (by omega) (by omega), AN52 174 _ (by omega) (by omega), g2, er]
end
end
section
/- E of both sides: a sign with two sides -/
section
variable {nn : Nat} {X : BCx} {dp i l a b e s k : Int} {p q t : Nat} {h g u r w m : ms_M} {v : Int × ms_M}
theorem s1_sb {ix iy : Int} (Y : CXs X) (ne : 0 ≤ a ∧ a ≤ e ∧ e < b) (hd : 1 ≤ dp ∧ dp ≤ 40) (nd : bT X 167 e.toNat = 37 ∧ bT X 168 e.toNat = (t : Int)) (sk : st_T (bK X t) = s ∧ 0 ≤ s ∧ l ≤ s ∧ ¬ bK X t = 19) (r1 : a ≤ bT X 170 e.toNat ∧ bT X 170 e.toNat < e) (CH : S1 nn X dp ix s a e p t (bT X 170 e.toNat)) (L1 : bT X 169 (bT X 170 e.toNat).toNat = (p : Int)) (CR : S1 nn X dp iy (s + 1) (e + 1) b (t + 1) q (bT X 171 e.toNat)) (L2 : bT X 169 (bT X 171 e.toNat).toNat = ((t + 1 : Nat) : Int)) (pt : p < t) (tq : t + 1 < q) : S1 nn X dp 0 l a b p q e := by
  have n8 := Y.2.2.1
  have c3 := Y.1.2.1
  have s9 : s ≤ 9 := by have := st_9 (k := bK X t); omega
  have kk : SGk (bK X t) ∨ bK X t = 67 ∨ bK X t = 69 := by
    by_cases z : bK X t = 67 ∨ bK X t = 69
    · exact .inr z
    · exact .inl (sgk_of (by omega) ⟨sk.2.2.2, by omega, by omega⟩)
  have n51 : ¬ bK X t = 51 := fun z => by
    have := sk.1
    rw [z] at this
    have : st_T 51 = -1 := by decide
    omega
  refine s1_led (s := s) Y ne r1 CH ⟨sk.1, sk.2.1, s9, sk.2.2.1⟩ (.inl nd.1) (fun r2 d2 y TQ TT hf g3 tk HD ey => ?_) (fun hs d d2 kf h r r1' u1 v1 st bs tn Z Q SG b57 R1 Q1 K FX n303 ht HC HF => ?_)
  · cases d2 with
    | zero => exact absurd ey (fun z => nomatch z)
    | succ d3 =>
      have W : Pc (qo_X13_rule nn (qg_X13_condition nn d3) e r2) (fun y => y.2 160 9 = 6 ∧ y.2 160 10 = bP X (bT X 168 (bT X 170 e.toNat).toNat).toNat) := by
        refine ru_37 (by rw [TT 167 _ (by omega)]; exact nd.1) ?_
        cases d3 with
        | zero => exact fun r e => nomatch e
        | succ d4 =>
          refine pc_sb (pc_imp (r_bothV (t1 := (bT X 168 (bT X 170 e.toNat).toNat).toNat) (tk := t) TQ (fun cc x z => TT cc x (by omega)) hf g3 (by omega) (by omega)) (fun y hy => pc_ret hy))
      exact W y ey
  · have Q0 := Q
    obtain ⟨B, ⟨q1, q2, q3, q4⟩, ⟨f1, f2, f3⟩, o1⟩ := Q0
    obtain ⟨⟨x1, x2, x3, x4, x5⟩, ⟨x6, x7, x8⟩, ⟨x9, x10, x11⟩, ⟨x12, x13, x14⟩, -⟩ := K.1
    obtain ⟨⟨FH, -⟩, FM⟩ := FX.2.2 n51
    rw [if_neg n303] at FH
    have G := fsg_X10_readValue nn d
    generalize hr2 : up_M v1.2 160 57 (r 160 57) = r2
    have E2 : ∀ cc x : Nat, ¬ (cc = 160 ∧ x = 57) → r2 cc x = v1.2 cc x := fun cc x z => by rw [← hr2, up_n z]
    have s57 : r2 160 57 = r 160 57 := by rw [← hr2, up_s]
    have Bu1 : BX X u1 v1.2 := bx_e Q1.1 x9 x10
    have Bu2 : BX X u1 r2 := bx_k Bu1 (fun _ _ _ => rfl) (fun cc x z => E2 cc x (by omega))
    have TB1 : TBc (bK X) (bP X) (bc X) u1 := Bu1.1.1.1.1
    have TQ2 : TBq (bK X) (bP X) (bc X) r2 := Bu2.1.1.2.2.1
    have T8 : ∀ cc x : Nat, 163 ≤ cc ∧ cc ≤ 173 → r2 cc x = bT X cc x := fun cc x z => Bu2.2.2.2.2.2.1 cc x (by omega)
    have r29 : r2 160 9 = 0 := by rw [E2 160 9 (by omega)]; exact x5
    have g1 : r2 174 (bT X 170 e.toNat).toNat = ty_T (u1 49 12) := by rw [E2 174 _ (by omega), x8]; exact x6
    have RR : RFe a b r r2 := by
      have R2 : RFe a b r v1.2 := rfe_t R1 x10 ⟨Int.le_refl _, Int.le_refl _⟩ ⟨Int.le_refl _, by omega⟩
      exact ⟨fun cc x z1 z2 z3 => by rw [E2 cc x (by omega)]; exact R2.1 cc x z1 z2 z3, fun cc x z1 z2 z3 => by rw [E2 cc x (by omega)]; exact R2.2 cc x z1 z2 z3⟩
    have pc : p < bc X := q2
    suffices MAIN : ∀ d4 : Nat, Pc (qj_X10_readValue_90 nn (qg_X10_readValue nn d) (qw_X10_readValue_30 nn (qg_X10_readValue nn d) kf) (dp - 1) st bs tn u1) (fun uF => Pc (qo_X13_both nn (qg_X13_condition nn d4) e r2) (fun y => ∀ z : ms_M, z = up_M y.2 174 e.toNat y.1 → (¬ z 160 9 = 0 → Z uF (0, z)) ∧ (z 160 9 = 0 → Z uF (y.1, z)))) by
      cases d2 with
      | zero => exact fun uF _ r2' e2' => pc_none
      | succ d3 =>
        cases d3 with
        | zero =>
          intro uF _ r2' e2'
          rw [e2']
          exact ru_37 (by rw [T8 167 _ (by omega)]; exact nd.1) (fun r e => nomatch e)
        | succ d4 =>
          refine pc_imp (MAIN d4) (fun uF H r2' e2' => ?_)
          rw [e2']
          exact ru_37 (by rw [T8 167 _ (by omega)]; exact nd.1) (pc_sb (pc_imp H (fun y hy => pc_ret hy)))
    intro d4
    unfold qj_X10_readValue_90
    refine pc_sv (c_kind Y.1 TB1 x2 x1 x4) ?_; intro u16 q16
    refine pc_if (fun _ => ?_) (fun z => absurd (show ¬ u16 = 19 by omega) z)
    obtain ⟨o, ho⟩ : ∃ o : Nat, h 49 10 = (o : Int) := ⟨(h 49 10).toNat, by omega⟩
    have ho1 : u1 49 10 = (o : Int) := by rw [x11.1]; exact ho
    have tc1 : t + 1 < bc X := jp_lt Y.1 x2 (by unfold SGk at kk; omega)
    refine pc_sv (c_openS (o := o) (p := p) Y TB1 x2 x1 x4 ho1 (by omega) rfl kk K.2.1 pc (by omega) (by omega)) ?_; intro u18 hu18
    refine pc_add (by omega) ?_; intro v19 e19
    rw [show v19 = dp by omega]
    have e22 : oq_add tn 1 = tn + 1 := oq_add_eq (by omega) (by omega) (by omega)
    show Pc (mx_sv ((qg_X10_readValue nn d).2.2.1 dp u18) fun u21 => qw_X10_readValue_30 nn (qg_X10_readValue nn d) kf (dp - 1) st bs (oq_add tn 1) u21) _
    rw [e22]
    rcases hu18 with ⟨okl, j, OS⟩ | ⟨k2, nb, w1, w2⟩
    · obtain ⟨⟨y1, y2, y3, y4, y5, y6, y7⟩, y8, y9⟩ := OS
      have b18 : (0 ≤ u18 34 1 ∧ u18 34 1 ≤ u1 34 1 + 3) ∧ (0 ≤ u18 34 3 ∧ u18 34 3 ≤ u1 34 3) := by
        rcases y9 with ⟨-, z1, z2, -⟩ | ⟨-, -, h1, g1', E1, A1, E3⟩
        · omega
        · rw [E3 34 1 (by omega) (by omega) (by omega), E3 34 3 (by omega) (by omega) (by omega), A1.1, A1.2.1, E1 34 1 (by omega), E1 34 3 (by omega)]
          split <;> omega
      have C18 : CFe u1 u18 := fun cc x z1 z2 z3 z4 z5 z6 z7 z8 => y8 cc x (by omega) (by omega) (by omega) (by omega) (by omega)
      have B18 : BX X u18 r2 := bx_k Bu2 (fun cc x z => y8 cc x (by omega) (by omega) (by omega) (by omega) (by omega)) (fun _ _ _ => rfl)
      have F18 : FRc u18 := frc_k x12 (fun cc x z => y8 cc x (by omega) (by omega) (by omega) (by omega) (by omega))
      have a18 : u18 49 18 = h 49 18 := by rw [y8 49 18 (by omega) (by omega) (by omega) (by omega) (by omega)]; exact x9 49 18 (by omega) (by omega) (by omega) (by omega) (by omega) (by omega) (by omega) (by omega)
      have Q18 : EPr X dp (t + 1) u18 r2 := ⟨B18, ⟨y1, tc1, by rw [y8 2 11 (by omega) (by omega) (by omega) (by omega) (by omega)]; exact x4, r29⟩, ⟨F18, ⟨b18.1.1, by omega⟩, b18.2.1, by omega⟩, by have := SG.2.1; omega, by have := SG.2.1; omega, by omega⟩
      have S18 : ∀ cc x : Nat, 50 ≤ cc → cc ≤ 54 → x < o → u18 cc x = h cc x := fun cc x z1 z2 z3 => by rw [y8 cc x (by omega) (by omega) (by omega) (by omega) (by omega)]; exact x11.2 cc x z1 z2 (by omega)
      have LM : ∀ z : ms_M, (∀ cc x : Nat, 174 ≤ cc → cc ≤ 176 → a ≤ (x : Int) → (x : Int) < e → z cc x = v1.2 cc x) → MKC nn X (bT X 170 e.toNat) a e p t h u1 z := fun z E => mkc_v FM E
      rcases y9 with ⟨sg, z1, z2, z3⟩ | ⟨k2, hj, h1, g1', E1, A1, E3⟩
      · -- no short sign
        refine pc_imp (sb_core (ok := OKt X (bK X t) (u1 49 12)) (rt := rt_T (bK X t)) (tke := t) (o := o) Y hd.2 ne nd.1 Q SG ⟨sk.2.1, s9, sk.2.2.1⟩ hs (by omega) Q18 RR (cfe_t x9 C18) ho y2 S18 (by rw [y3]; exact sk.1) (by omega) (by omega) a18 pt tq (by omega) CR (fun x okx vx nx => ?_) (fun u2 v2 K2 n3 => ?_) HC HF) (fun uF HU => r_both2 (tk := t) Y rfl sg x2 (by omega) TQ2 r29 T8 nd.2 g1 ⟨x7, n303⟩ (bx_180 Bu2) HU)
        · unfold rt_T
          split
          · exact ⟨.inr (.inl rfl), by omega⟩
          · exact ⟨vx, nx⟩
        · obtain ⟨⟨i1, i2, i3, i4, i5⟩, ⟨i6, i7, i8⟩, ⟨i9, i10, i11⟩, ⟨i12, i13, i14⟩, -⟩ := K2.1
          have lo : ∀ cc : Nat, 50 ≤ cc → cc ≤ 54 → u2 cc o = u18 cc o := fun cc c1 c2 => i11.2 cc o c1 c2 (by omega)
          refine pc_imp (c_closeS (o := o) (tk := t) (pp := (p : Int)) (s := u1 49 12) (t := u2 49 12) (k := bK X t) Y (bx_e B18 i9 i10) i4 (by rw [i11.1]; exact y2) (by omega) (by rw [lo 50 (by omega) (by omega)]; exact y3) sg (by rw [lo 53 (by omega) (by omega)]; exact y6) rfl ⟨x7, n303⟩ ⟨i7, n3⟩ (by rw [lo 52 (by omega) (by omega), y5]; exact K.2.1) (by rw [lo 51 (by omega) (by omega)]; exact y4) x2 i12 (by omega) (by omega)) (fun u hu => ?_)
          rcases hu with ⟨w1, w2, w3⟩ | w
          · refine .inl ⟨w1, csr_q w2, fun nq FR z ez => ?_⟩
            obtain ⟨⟨j1, -⟩, j2⟩ := FR.2.2 nq
            rw [if_neg n3] at j1
            have h2 : 2 ≤ u2 34 3 := by omega
            refine ⟨by rw [w2.2.2.1.2.2 h2]; omega, mkc_led (q1 := t) (g := u1) (.inl (.inr (.inr (.inl nd.1)))) ne (LM z (fun cc x c1 c2 c4 c5 => by rw [ez, up_n (by omega), i10.2 cc x c1 c2 (by omega)]; exact E2 cc x (by omega))) (by omega) (fun PB WL L m dd M A b1 b2 => ?_)⟩
            obtain ⟨MT, -, -, -⟩ := mk_t M
            refine wo_37 (by rw [MT 167 _ (by omega)]; exact nd.1) rfl ?_
            cases dd with
            | zero => exact fun r e => nomatch e
            | succ dd =>
              have z174 : ∀ x : Nat, a ≤ (x : Int) → (x : Int) < b → m 174 x = z 174 x := fun x c1 c2 => A 174 x (by omega) (by omega) c1 c2
              refine pc_sb (pc_imp (m_bothN (tk := t) (t := t) (s := u1 49 12) (t2 := u2 49 12) (v := v2.2) Y (by omega) rfl sg x2 nd.2 M (fun cc x c1 c2 c4 => by
                by_cases y : (cc = 34 ∧ (x = 1 ∨ x = 3)) ∨ cc = 35
                · rcases y with ⟨rfl, rfl | rfl⟩ | rfl
                  · exact z1
                  · exact z2
                  · exact z3 x
                · exact y8 cc x c1 c2 (by omega) (by omega) (by omega)) j2 w3 h2 x7 i7 ?_ ?_ w1 (an_s A ⟨by omega, Int.le_refl _⟩ (fun cc x c1 c2 c4 c5 => by rw [ez, up_n (by omega)])) (by omega) b2 (by omega) (by omega) (by omega)) (fun w y => pc_ret y))
              · rw [z174 _ (by omega) (by omega), ez, up_n (by omega), i10.2 174 _ (by omega) (by omega) (by omega)]; exact g1
              · rw [z174 _ (by omega) (by omega), ez, up_s]
          · exact .inr w
      · -- && and ||
        have s302 : u1 49 12 = 302 := by
          rcases okl with y | y
          · unfold SGk at y
            omega
          · exact y
        refine pc_imp (sb_core (ok := fun x => x = 302) (rt := fun _ => 302) (tke := t + 1) (o := o) Y hd.2 ne nd.1 Q SG ⟨sk.2.1, s9, sk.2.2.1⟩ hs (by omega) Q18 RR (cfe_t x9 C18) ho y2 S18 (by rw [y3]; exact sk.1) (by omega) (by omega) a18 pt tq (by omega) CR (fun x okx vx nx => ⟨.inr (.inl rfl), by omega⟩) (fun u2 v2 K2 n3 => ?_) HC HF) (fun uF HU => r_bothS (p := p) (tk := t) (t := t + 1) Y k2 x2 (by omega) TQ2 r29 T8 nd.2 L1 q2 L2 tc1 g1 ⟨x7, n303⟩ (fun z => absurd s302 z) (fun _ => HU))
        obtain ⟨⟨i1, i2, i3, i4, i5⟩, ⟨i6, i7, i8⟩, ⟨i9, i10, i11⟩, ⟨i12, i13, i14⟩, -⟩ := K2.1
        have lo : ∀ cc : Nat, 50 ≤ cc → cc ≤ 54 → u2 cc o = u18 cc o := fun cc c1 c2 => i11.2 cc o c1 c2 (by omega)
        refine pc_imp (c_closeH (o := o) (tk := t + 1) (pp := (p : Int)) (j := j) (k := bK X t) Y (bx_e B18 i9 i10) i4 (by rw [i11.1]; exact y2) (by omega) (by rw [lo 50 (by omega) (by omega)]; exact y3) k2 (by rw [lo 52 (by omega) (by omega), y5]; exact K.2.1) (by rw [lo 54 (by omega) (by omega)]; exact y7) (by omega) K2.2.1 tc1 i12 (by omega) (by omega)) (fun u hu => ?_)
        rcases hu with ⟨w1, w2, w3, h2, g2, E4, A2, E5⟩ | w
        · refine .inl ⟨w1, w2, fun nq FR z ez => ?_⟩
          obtain ⟨⟨j1, -⟩, j2⟩ := FR.2.2 nq
          rw [if_neg n3] at j1
          have u183 : u18 34 3 = u1 34 3 - 1 := by
            rw [E3 34 3 (by omega) (by omega) (by omega), A1.2.1, E1 34 3 (by omega)]
            split <;> omega
          refine ⟨by rw [w3 (by omega)]; omega, mkc_led (q1 := t) (g := u1) (.inl (.inr (.inr (.inl nd.1)))) ne (LM z (fun cc x c1 c2 c4 c5 => by rw [ez, up_n (by omega), i10.2 cc x c1 c2 (by omega)]; exact E2 cc x (by omega))) (by omega) (fun PB WL L m dd M A b1 b2 => ?_)⟩
          obtain ⟨MT, -, -, -⟩ := mk_t M
          have TQm := mk_tbq Y M
          refine wo_37 (by rw [MT 167 _ (by omega)]; exact nd.1) rfl ?_
          cases dd with
          | zero => exact fun r e => nomatch e
          | succ dd =>
            have P46 : ∀ l3 : Int, ((bK X t = 67 ∧ ¬ l3 = 0) ∨ (bK X t = 69 ∧ l3 = 0)) → Pc (qj_X13_workBoth_46 nn (qg_X13_work nn dd) e l3 m) (fun w => MKx X PB WL L u w ∧ (m 160 88 ≤ w 160 88 ∧ w 160 88 + 4 * (t : Int) ≤ m 160 88 + 4 * (q : Int))) := fun l3 hl3 => m_short (t := t) (v := v2.2) hl3 M E1 A1 E3 hj j2 E4 A2 E5 (an_s A ⟨by omega, Int.le_refl _⟩ (fun cc x c1 c2 c4 c5 => by rw [ez, up_n (by omega)])) (by omega) b2 (by omega) j1 (by omega) (by omega) (by omega) (by omega)
            show Pc (mx_sv (qo_X13_workBoth nn (qg_X13_work nn dd) e m) fun u218 => some u218) _
            refine pc_sb (pc_imp ?_ (fun w y => pc_ret y))
            unfold qo_X13_workBoth
            refine pc_rA ?_; intro _ _ v70 e70
            rw [MT 168 _ (by omega), nd.2] at e70
            refine pc_rA ?_; intro _ _ v71 e71
            rw [e70, Int.toNat_natCast, TQm.2.2.2 t (by omega)] at e71
            rw [show qf_X13_sign nn 0 38 38 m = some 4902 from rfl, mx_svs]
            rcases k2 with k2 | k2
            · refine pc_if (fun z => absurd (by rw [e71, k2]; decide) z) (fun _ => ?_)
              unfold qj_X13_workBoth_29
              exact pc_if (fun _ => P46 1 (.inl ⟨k2, by omega⟩)) (fun z => absurd (show ¬ (1 : Int) = 0 by omega) z)
            · refine pc_if (fun _ => ?_) (fun z => absurd (show ¬ v71 = 4902 by rw [e71, k2]; decide) z)
              unfold qj_X13_workBoth_29
              refine pc_if (fun z => absurd rfl z) (fun _ => ?_)
              rw [show qf_X13_sign nn 0 124 124 m = some 15996 from rfl, mx_svs]
              exact pc_if (fun z => absurd (by rw [e71, k2]; decide) z) (fun _ => P46 0 (.inr ⟨k2, rfl⟩))
        · exact .inr w
    · -- the left side of && is no boolean
      have FS : Pc (mx_sv ((qg_X10_readValue nn d).2.2.1 dp u18) fun u21 => qw_X10_readValue_30 nn (qg_X10_readValue nn d) kf (dp - 1) st bs (tn + 1) u21) (fun uF => FSc u18 uF) := by
        refine pc_sv (G.2.2.1 (h := u18) (by omega)) ?_; intro u21 F
        exact pc_imp (fs_qw_X10_readValue_30 G kf _ _ _ _ u21 (by rw [F.1]; omega)) (fun uF F2 => fs_t F F2)
      refine pc_imp FS (fun uF F => r_bothS (p := p) (tk := t) (t := t + 1) Y k2 x2 (by omega) TQ2 r29 T8 nd.2 L1 q2 L2 (jp_lt Y.1 x2 (by omega)) g1 ⟨x7, n303⟩ (fun _ y y9 y10 z ez => ?_) (fun z => absurd z nb))
      have z9 : z 160 9 = 6 := by rw [ez, up_n (by omega)]; exact y9
      have z10 : z 160 10 = bP X p := by rw [ez, up_n (by omega)]; exact y10
      exact ⟨fun _ => HF uF (0, z) (.inl ⟨by rw [F.1]; omega, by show z 160 9 = _; rw [z9, F.1, w1], by show z 160 10 = _; rw [z10, F.2, w2]⟩), fun y => absurd (z9.symm.trans y) (by omega)⟩
end
end
section
/- E of both sides: instanceof -/
section
variable {nn : Nat} {X : BCx} {dp i l a b e s k : Int} {p q t : Nat} {h g u r w m : ms_M} {v : Int × ms_M}
/-- the class's loop behind a part -/
theorem c_v30 {rc : tq_X10_readValue} {st bs tn : Int} {kf : Nat} {Z : ms_M → Prop} (Y : CXs X) (TB : TBc (bK X) (bP X) (bc X) u) (qc : q < bc X) (hp : u 2 10 = (q : Int)) (hf : u 2 11 = 0) (ht : tn < 3000) (C : CLP nn rc (bK X q) dp st bs tn 0 u Z) : Pc (qw_X10_readValue_30 nn rc kf dp st bs tn u) Z := by
  cases kf with
  | zero => exact pc_none
  | succ k =>
    unfold qw_X10_readValue_30
    refine pc_if (fun z => absurd z (by omega)) (fun _ => ?_)
    refine pc_sv (c_kind Y.1 TB qc hp hf) ?_; intro u40 q40
    rw [q40]
    refine pc_sv c_lev ?_; intro u41 q41
    exact pc_if (fun z => C.2 (by omega) nn) (fun z => C.1 (by omega) nn k)
theorem s1_si {ix : Int} (Y : CXs X) (ne : 0 ≤ a ∧ a ≤ e ∧ e < b) (hd : 1 ≤ dp ∧ dp ≤ 40) (nd : bT X 167 e.toNat = 38 ∧ bT X 168 e.toNat = ((t + 1 : Nat) : Int)) (sk : l ≤ 6 ∧ bK X t = 19 ∧ bK X (t + 1) = 2 ∧ q = t + 2) (r1 : a ≤ bT X 170 e.toNat ∧ bT X 170 e.toNat < e) (CH : S1 nn X dp ix 6 a e p t (bT X 170 e.toNat)) (pt : p < t) : S1 nn X dp 0 l a b p q e := by
  have n8 := Y.2.2.1
  have c3 := Y.1.2.1
  obtain ⟨k6, k19, k2, hq⟩ := sk
  subst hq
  have tc1 : t + 1 < bc X := tb_lt Y.1 (by omega)
  have tc2 : t + 2 < bc X := jp_lt Y.1 tc1 (by omega)
  refine s1_led (s := 6) Y ne r1 CH ⟨by rw [k19]; decide, by omega, by omega, k6⟩ (.inr nd.1) (fun r2 d2 y TQ TT hf g3 tk HD ey => ?_) (fun hs d d2 kf h r r1' u1 v1 st bs tn Z Q SG b57 R1 Q1 K FX n303 ht HC HF => ?_)
  · cases d2 with
    | zero => exact absurd ey (fun z => nomatch z)
    | succ d3 =>
      have W : Pc (qo_X13_rule nn (qg_X13_condition nn d3) e r2) (fun y => y.2 160 9 = 6 ∧ y.2 160 10 = bP X (bT X 168 (bT X 170 e.toNat).toNat).toNat) := by
        refine ru_38 (by rw [TT 167 _ (by omega)]; exact nd.1) ?_
        have LED : Pc (qf_X13_led nn e r2) (fun u => u.1 = 3 ∧ u.2 160 9 = 6 ∧ u.2 160 10 = bP X (bT X 168 (bT X 170 e.toNat).toNat).toNat) := r_led3 TQ hf (TT 170 _ (by omega)) g3 (tk := (bT X 168 (bT X 170 e.toNat).toNat).toNat) (by rw [TT 168 _ (by omega)]; omega) (by omega)
        have P493 : ∀ l3 : Int, Pc (qj_X13_rule_493 nn (qg_X13_condition nn d3) e l3 r2) (fun y => y.2 160 9 = 6 ∧ y.2 160 10 = bP X (bT X 168 (bT X 170 e.toNat).toNat).toNat) := fun l3 => by
          unfold qj_X13_rule_493
          refine pc_rA ?_; intro _ _ v26 e26
          rw [TT 167 _ (by omega), nd.1] at e26
          refine pc_if (fun _ => ?_) (fun z => absurd (show ¬ v26 = 36 by omega) z)
          refine pc_sv LED ?_; intro u28 ⟨z1, z2, z3⟩
          exact pc_imp (ft_qj_X13_rule_522 (ftg_X13_condition nn d3) (h := u28.2) (by omega)) (fun y F => ⟨by rw [F.1]; exact z2, by rw [F.2]; exact z3⟩)
        unfold qj_X13_rule_455
        refine pc_rA ?_; intro _ _ v35 _
        refine pc_sv pc_any ?_; intro u37 _
        refine pc_if (fun _ => P493 _) (fun _ => ?_)
        refine pc_rA ?_; intro _ _ v39 e39
        rw [TT 167 _ (by omega), nd.1] at e39
        exact pc_if (fun _ => P493 _) (fun z => absurd (show ¬ v39 = 36 by omega) z)
      exact W y ey
  · have Q0 := Q
    obtain ⟨B, ⟨q1, q2, q3, q4⟩, ⟨f1, f2, f3⟩, o1⟩ := Q0
    obtain ⟨⟨x1, x2, x3, x4, x5⟩, ⟨x6, x7, x8⟩, ⟨x9, x10, x11⟩, ⟨x12, x13, x14⟩, -⟩ := K.1
    obtain ⟨⟨FH, -⟩, FM⟩ := FX.2.2 (by omega)
    rw [if_neg n303] at FH
    have G := fsg_X10_readValue nn d
    generalize hr2 : up_M v1.2 160 57 (r 160 57) = r2
    have E2 : ∀ cc x : Nat, ¬ (cc = 160 ∧ x = 57) → r2 cc x = v1.2 cc x := fun cc x z => by rw [← hr2, up_n z]
    have Bu1 : BX X u1 v1.2 := bx_e Q1.1 x9 x10
    have Bu2 : BX X u1 r2 := bx_k Bu1 (fun _ _ _ => rfl) (fun cc x z => E2 cc x (by omega))
    have TB1 : TBc (bK X) (bP X) (bc X) u1 := Bu1.1.1.1.1
    have TQ2 : TBq (bK X) (bP X) (bc X) r2 := Bu2.1.1.2.2.1
    have T8 : ∀ cc x : Nat, 163 ≤ cc ∧ cc ≤ 173 → r2 cc x = bT X cc x := fun cc x z => Bu2.2.2.2.2.2.1 cc x (by omega)
    have r29 : r2 160 9 = 0 := by rw [E2 160 9 (by omega)]; exact x5
    have g1 : r2 174 (bT X 170 e.toNat).toNat = ty_T (u1 49 12) := by rw [E2 174 _ (by omega), x8]; exact x6
    have RR : RFe a b r r2 := by
      have R2 : RFe a b r v1.2 := rfe_t R1 x10 ⟨Int.le_refl _, Int.le_refl _⟩ ⟨Int.le_refl _, by omega⟩
      exact ⟨fun cc x z1 z2 z3 => by rw [E2 cc x (by omega)]; exact R2.1 cc x z1 z2 z3, fun cc x z1 z2 z3 => by rw [E2 cc x (by omega)]; exact R2.2 cc x z1 z2 z3⟩
    have v0 := (Bu2.1.1.2.2.2.1.1 (t + 1) (by omega) k2).1.1
    have s3 : ¬ ty_T (u1 49 12) = 3 := fun z => n303 ((ty_3 (X := X) n8 x7).mp z)
    have FB : ∀ (uF : ms_M) (y : Int × ms_M) (c pl : Int), ¬ c = 0 → uF 2 11 = c → uF 2 12 = pl → y.2 160 9 = c → y.2 160 10 = pl → ∀ z : ms_M, z = up_M y.2 174 e.toNat y.1 → (¬ z 160 9 = 0 → Z uF (0, z)) ∧ (z 160 9 = 0 → Z uF (y.1, z)) := fun uF y c pl c0 a1 a2 a3 a4 z ez => by
      have z9 : z 160 9 = c := by rw [ez, up_n (by omega)]; exact a3
      have z10 : z 160 10 = pl := by rw [ez, up_n (by omega)]; exact a4
      exact ⟨fun _ => HF uF (0, z) (.inl ⟨by omega, by show z 160 9 = _; rw [z9, a1], by show z 160 10 = _; rw [z10, a2]⟩), fun y => absurd (z9.symm.trans y) c0⟩
    suffices MAIN : ∀ d3 : Nat, Pc (qj_X10_readValue_90 nn (qg_X10_readValue nn d) (qw_X10_readValue_30 nn (qg_X10_readValue nn d) kf) (dp - 1) st bs tn u1) (fun uF => Pc (qj_X13_rule_455 nn (qg_X13_condition nn d3) e r2) (fun y => ∀ z : ms_M, z = up_M y.2 174 e.toNat y.1 → (¬ z 160 9 = 0 → Z uF (0, z)) ∧ (z 160 9 = 0 → Z uF (y.1, z)))) by
      cases d2 with
      | zero => exact fun uF _ r2' e2' => pc_none
      | succ d3 =>
        refine pc_imp (MAIN d3) (fun uF H r2' e2' => ?_)
        rw [e2']
        exact ru_38 (by rw [T8 167 _ (by omega)]; exact nd.1) H
    intro d3
    have Gt := ftg_X13_condition nn d3
    -- the reference
    have REF : ∀ {QQ : Int × ms_M → Prop} (c : Int), CLz (fun k => bV X (bC X k)) (bn X) (bV X (t + 1)) c → (c = -1 → ∀ y : Int × ms_M, y.2 160 9 = 5 → y.2 160 10 = bP X (t + 1) → QQ y) → (¬ c = -1 → ∀ y : Int × ms_M, ((KNo X (u1 49 12) c ∧ y = (1, up_M r2 176 e.toNat (ty_T c))) ∨ (¬ KNo X (u1 49 12) c ∧ y.2 160 9 = 6 ∧ y.2 160 10 = bP X (t + 1))) → QQ y) → Pc (qj_X13_rule_455 nn (qg_X13_condition nn d3) e r2) QQ := fun {QQ} c cl H1 H2 => by
      have P493 : Pc (qj_X13_rule_493 nn (qg_X13_condition nn d3) e c r2) QQ := by
        unfold qj_X13_rule_493
        refine pc_rA ?_; intro _ _ v26 e26
        rw [T8 167 _ (by omega), nd.1] at e26
        refine pc_if (fun _ => ?_) (fun z => absurd (show ¬ v26 = 36 by omega) z)
        refine pc_sv (r_ledv r29 (T8 170 _ (by omega)) g1 s3) ?_; intro u28 q28
        rw [q28]
        dsimp only
        unfold qj_X13_rule_522
        refine pc_if (fun z => ?_) (fun z => ?_)
        · refine pc_imp (r_kinOf Y TQ2 (bx_180 Bu2) r29 tc1 ((T8 168 _ (by omega)).trans nd.2) x7 n303 (clz_v cl v0 z)) (fun y hy => H2 z y ?_)
          rcases hy with ⟨y1, y2, y3⟩ | y1
          · rw [T8 167 _ (by omega), nd.1, if_pos rfl] at y2
            exact .inl ⟨y1, Prod.ext y2 y3⟩
          · exact .inr y1
        · refine pc_rA ?_; intro _ _ v21 e21
          rw [T8 168 _ (by omega), nd.2] at e21
          refine pc_sv (r_wrong TQ2 tc1 r29 e21) ?_; intro u23 w1
          exact pc_imp (ft_qj_X13_rule_539 Gt (h := u23) (by omega)) (fun y F => H1 (Classical.byContradiction z) y (by rw [F.1]; exact w1.1) (by rw [F.2]; exact w1.2))
      unfold qj_X13_rule_455
      refine pc_rA ?_; intro _ _ v35 e35
      rw [T8 168 _ (by omega), nd.2] at e35
      refine pc_sv (r_classOf Y.1 Y.2.1 Bu2.1.1.2.2 k2 e35) ?_; intro u37 q37
      rw [cls_d q37 cl]
      refine pc_if (fun _ => P493) (fun _ => ?_)
      refine pc_rA ?_; intro _ _ v39 e39
      rw [T8 167 _ (by omega), nd.1] at e39
      exact pc_if (fun _ => P493) (fun z => absurd (show ¬ v39 = 36 by omega) z)
    unfold qj_X10_readValue_90
    refine pc_sv (c_kind Y.1 TB1 x2 x1 x4) ?_; intro u16 q16
    refine pc_if (fun z => absurd (q16.trans k19) z) (fun _ => ?_)
    have TAILF : ∀ g : ms_M, ¬ g 2 11 = 0 → Pc (xl (oq_add tn 1) fun v25 => qw_X10_readValue_30 nn (qg_X10_readValue nn d) kf (dp - 1) st bs v25 g) (fun uF => FSc g uF) := fun g S => pc_xl (fun v25 _ => fs_qw_X10_readValue_30 G kf _ _ _ _ g S)
    unfold qf_X10_readInstanceof
    rw [x1]
    refine p2_x ?_; intro v5 e5
    rw [oq_add_eq (by omega) (by omega) (by omega)] at e5
    refine p2_x ?_; intro v6 e6
    rw [oq_add_eq (by omega) (by omega) (by omega)] at e6
    refine p2_m ?_
    refine pc_imp (c_rnc Y Bu2 x4 k2 (x := v5) (y := v6) (by omega)) (fun u8 q8 => ?_)
    rcases q8 with ⟨cl, cn, eu⟩ | ⟨cl, cn, w1, w2⟩
    · have cb := clz_v cl v0 cn
      rw [if_neg cn]
      have E8 : ∀ cc x : Nat, ¬ (cc = 2 ∧ x = 10) → u8.2 cc x = u1 cc x := fun cc x z => by rw [eu, up_n z]
      have p8 : u8.2 2 10 = ((t + 2 : Nat) : Int) := by rw [eu, up_s]; omega
      generalize u8.2 = h8 at E8 p8 ⊢
      generalize u8.1 = c at cl cn cb ⊢
      have B8 : BX X h8 r2 := bx_k Bu2 (fun cc x z => E8 cc x (by omega)) (fun _ _ _ => rfl)
      have t8 : h8 49 12 = u1 49 12 := E8 49 12 (by omega)
      refine p2_m ?_
      refine pc_imp (c_kinOf Y B8 (by rw [E8 2 11 (by omega)]; exact x4) tc1 (show v5 = ((t + 1 : Nat) : Int) by omega) (by rw [t8]; exact x7) cb) (fun u10 q10 => ?_)
      rw [t8] at q10
      rcases q10 with ⟨kn, e10⟩ | ⟨kn, w1, w2⟩
      · rw [e10]
        have a81 := E8 34 1 (by omega)
        have a83 := E8 34 3 (by omega)
        have CKK : Pc (mx_sv (qf_X6_classOf nn c h8) fun u14 => mx_sv (qf_X1_op_ nn 193 u14.1 u14.2) fun u16 => mx_sv (qf_X1_pop nn 1 u16) fun u19 => mx_sv (qf_X1_push nn 302 u19) fun u22 => some u22) (fun u22 => CKr nn X 193 c 302 h8 u22) := c_kr Y (by omega) (by omega) cb (by unfold in_R; omega) ⟨.inr (.inl rfl), by omega⟩ (fun u15 CK => pc_ret CK)
        refine p2_m ?_
        intro u14 e14
        refine p2_m ?_
        intro u16' e16
        refine p2_m ?_
        intro u19 e19
        refine p2_m ?_
        intro u22 e22
        have CK : CKr nn X 193 c 302 h8 u22 := CKK u22 (by rw [e14, mx_svs, e16, mx_svs, e19, mx_svs, e22, mx_svs])
        unfold qj_X10_readInstanceof_66
        refine p2_x ?_; intro h1 e1
        refine p2_x ?_; intro h2 e2
        rw [mx_svs]
        refine pc_add (by omega) ?_; intro v25 e25
        have E22 : ∀ cc x : Nat, ¬ (cc = 49 ∧ (x = 11 ∨ x = 12)) → h2 cc x = u22 cc x := fun cc x z => by rw [e2, up_n (by omega), e1, up_n (by omega)]
        have t11 : h2 49 11 = 0 := by rw [e2, up_s]
        have t12 : h2 49 12 = 302 := by rw [e2, up_n (by omega), e1, up_s]
        obtain ⟨z1, ⟨z2, z3, z4⟩, z5, z6, z7⟩ := CK
        have TOT : ∀ cc x : Nat, ¬ (cc = 2 ∧ x = 10) → ¬ (cc = 34 ∧ (x = 1 ∨ x = 3 ∨ x = 4)) → ¬ (cc = 35 ∨ cc = 36) → ¬ (cc = 45 ∧ (x = 4 ∨ x = 5)) → ¬ (cc = 46 ∨ cc = 47) → ¬ (cc = 49 ∧ (x = 11 ∨ x = 12)) → h2 cc x = u1 cc x := fun cc x c0 c1 c2 c3 c4 c5 => by rw [E22 cc x c5, z1 cc x c1 c2 c3 c4]; exact E8 cc x c0
        have g31 : h2 34 1 = u1 34 1 + 2 := by rw [E22 34 1 (by omega), z2]; omega
        have g33 : h2 34 3 = u1 34 3 := by rw [E22 34 3 (by omega), z5 (by omega)]; omega
        generalize hz : up_M (up_M r2 176 e.toNat (ty_T c)) 174 e.toNat 1 = z0
        have Z0 : ∀ cc x : Nat, ¬ (174 ≤ cc ∧ cc ≤ 176 ∧ x = e.toNat) → z0 cc x = r2 cc x := fun cc x c => by rw [← hz, up_n (by omega), up_n (by omega)]
        have za : z0 174 e.toNat = 1 := by rw [← hz, up_s]
        have zb : z0 176 e.toNat = ty_T c := by rw [← hz, up_n (by omega), up_s]
        have z09 : z0 160 9 = 0 := (Z0 160 9 (by omega)).trans r29
        have p2' : h2 2 10 = ((t + 2 : Nat) : Int) := by rw [E22 2 10 (by omega), z1 2 10 (by omega) (by omega) (by omega) (by omega)]; exact p8
        have f2' : h2 2 11 = 0 := by rw [TOT 2 11 (by omega) (by omega) (by omega) (by omega) (by omega) (by omega)]; exact x4
        have CFu : CFe u1 h2 := fun cc x c1 c2 c3 c4 c5 c6 c7 c8 => TOT cc x (by omega) (by omega) (by omega) (by omega) (by omega) (by omega)
        have EE : EOk nn X 0 a b p (t + 2) e h r h2 (1, z0) := by
          refine ⟨⟨⟨p2', tc2, by omega, f2', z09⟩, ⟨by rw [t12]; rfl, by rw [t12]; exact .inr (.inl rfl), za⟩, ⟨cfe_t x9 CFu, ⟨fun cc x c1 c2 c3 => (Z0 cc x (by omega)).trans (RR.1 cc x c1 c2 c3), fun cc x c1 c2 c3 => (Z0 cc x (by omega)).trans (RR.2 cc x c1 c2 c3)⟩, sgb_t x11 ⟨TOT 49 10 (by omega) (by omega) (by omega) (by omega) (by omega) (by omega), fun cc x c1 c2 c3 => TOT cc x (by omega) (by omega) (by omega) (by omega) (by omega) (by omega)⟩⟩, ⟨frc_k x12 (fun cc x c => TOT cc x (by omega) (by omega) (by omega) (by omega) (by omega) (by omega)), ⟨by omega, by omega⟩, by omega, by omega⟩, .inl ⟨.inr ⟨t11, fun c => by have := c.2; omega, by rw [t12]; omega⟩, fun _ => .inl ⟨by omega, by omega, fun c => by omega⟩, fun nq => ⟨⟨by rw [t12, if_neg (by decide)]; omega, .inr ?_⟩, ?_⟩⟩⟩, ?_, fun _ => .inl t11⟩
          · rw [t12, E22 34 3 (by omega), E22 36 _ (by omega)]
            exact z6
          · refine mkc_led (q1 := t) (g := u1) (.inl (.inr (.inr (.inr nd.1)))) ne (mkc_v FM (fun cc x c1 c2 c4 c5 => (Z0 cc x (by omega)).trans (E2 cc x (by omega)))) (by omega) (fun PB WL L m dd M A b1 b2 => ?_)
            obtain ⟨MT, -, -, -⟩ := mk_t M
            have a4 : m 174 e.toNat = 1 := (A 174 e.toNat (by omega) (by omega) (by omega) (by omega)).trans za
            have a6 : m 176 e.toNat = ty_T c := (A 176 e.toNat (by omega) (by omega) (by omega) (by omega)).trans zb
            refine wo_38 ((MT 167 e.toNat (by omega)).trans nd.1) a4 ?_
            unfold qj_X13_workOne_588 qj_X13_workOne_609
            refine pc_rA ?_; intro _ _ v15 e15
            rw [MT 167 e.toNat (by omega), nd.1] at e15
            refine pc_if (fun _ => ?_) (fun z => absurd (show ¬ v15 = 36 by omega) z)
            refine pc_rA ?_; intro _ _ v12 e12
            rw [MT 167 e.toNat (by omega), nd.1] at e12
            refine pc_if (fun _ => ?_) (fun z => absurd (show ¬ v12 = 36 by omega) z)
            have M8 : MKx X PB WL L h8 m := mkx_c M (fun cc x c1 c2 c3 => E8 cc x (by omega))
            refine pc_imp (w_kr (t := 302) ⟨z1, ⟨z2, z3, z4⟩, z5, z6, z7⟩ (by omega) M8 (by omega) a6 rfl) (fun w2 y => ⟨mkx_c y.1 (fun cc x c1 c2 c3 => E22 cc x (by omega)), by rw [y.2]; omega⟩)
          · rw [TOT 49 15 (by omega) (by omega) (by omega) (by omega) (by omega) (by omega)]; exact K.2.1
        have TB2 : TBc (bK X) (bP X) (bc X) h2 := tbc_k TB1 (fun cc y c => TOT cc y (by omega) (by omega) (by omega) (by omega) (by omega) (by omega))
        refine pc_imp (c_v30 Y TB2 tc2 p2' f2' (by omega) (HC h2 (1, z0) 0 v25 EE (by have := EE.1.2.2.1.2.2.1; omega) (by omega))) (fun uF HZ => REF c cl (fun z => absurd z cn) (fun _ y hy z ez => ?_))
        rcases hy with ⟨-, ey⟩ | ⟨ny, -⟩
        · rw [ey] at ez ⊢
          have ezz : z = z0 := by rw [ez, ← hz]
          rw [ezz]
          exact ⟨fun z => absurd z09 z, fun _ => HZ⟩
        · exact absurd kn ny
      · have S : ¬ u10 2 11 = 0 := by omega
        have TL : Pc (mx_sv (qf_X6_classOf nn c u10) fun u14 => mx_sv (qf_X1_op_ nn 193 u14.1 u14.2) fun u16 => mx_sv (qf_X1_pop nn 1 u16) fun u19 => mx_sv (qf_X1_push nn 302 u19) fun u22 => qj_X10_readInstanceof_66 nn u22) (fun u => FSc u10 u) := by
          refine pc_sv (fs_qf_X6_classOf S) ?_; intro u14 F1
          have S1 : ¬ u14.2 2 11 = 0 := by rw [F1.1]; exact S
          refine pc_sv (fs_qf_X1_op_ S1) ?_; intro u16' F2
          have S2 : ¬ u16' 2 11 = 0 := by rw [F2.1]; exact S1
          refine pc_sv (fs_qf_X1_pop S2) ?_; intro u19 F3
          have S3 : ¬ u19 2 11 = 0 := by rw [F3.1]; exact S2
          refine pc_sv (fs_qf_X1_push S3) ?_; intro u22 F4
          have S4 : ¬ u22 2 11 = 0 := by rw [F4.1]; exact S3
          exact pc_imp (fs_qj_X10_readInstanceof_66 S4) (fun u F5 => fs_t F1 (fs_t F2 (fs_t F3 (fs_t F4 F5))))
        refine pc_sv TL ?_; intro u24 F
        refine pc_imp (TAILF u24 (by rw [F.1]; exact S)) (fun uF F2 => REF c cl (fun z => absurd z cn) (fun _ y hy => ?_))
        rcases hy with ⟨ny, -⟩ | ⟨-, y1, y2⟩
        · exact absurd ny kn
        · exact FB uF y 6 _ (by omega) (by rw [F2.1, F.1]; exact w1) (by rw [F2.2, F.2]; exact w2) y1 y2
    · rw [if_pos cn]
      have S : ¬ u8.2 2 11 = 0 := by omega
      refine pc_sv (fs_qj_X10_readInstanceof_66 S) ?_; intro u24 F
      refine pc_imp (TAILF u24 (by rw [F.1]; exact S)) (fun uF F2 => REF (-1) cl (fun _ y y1 y2 => FB uF y 5 _ (by omega) (by rw [F2.1, F.1]; exact w1) (by rw [F2.2, F.2]; exact w2) y1 y2) (fun z => absurd rfl z))
end
end
section
/- E of both sides: an E that is sides; conditions -/
/-- what a condition leaves behind its E -/
def CDN (X : BCx) (x : Int) (p : Nat) (v1 : Int × ms_M) (w : ms_M) : Prop := (¬ v1.2 160 9 = 0 → FSr v1.2 w) ∧ (v1.2 160 9 = 0 → v1.1 = 3 → w 160 9 = 6 ∧ (0 ≤ bT X 168 x.toNat ∧ bT X 168 x.toNat < (bc X : Int) → w 160 10 = bP X (bT X 168 x.toNat).toNat)) ∧ (v1.2 160 9 = 0 → ∀ t : Int, VTn (bn X) t → ¬ t = 303 → v1.1 = ty_T t → (t = 302 ∧ w = v1.2) ∨ (¬ t = 302 ∧ w 160 9 = 6 ∧ w 160 10 = bP X p))
/-- .. and what is given -/
def GVN (X : BCx) (x : Int) (v1 y : Int × ms_M) : Prop := (¬ v1.2 160 9 = 0 → FSr v1.2 y.2) ∧ (v1.2 160 9 = 0 → v1.1 = 3 → y.2 160 9 = 6 ∧ (0 ≤ bT X 168 x.toNat ∧ bT X 168 x.toNat < (bc X : Int) → y.2 160 10 = bP X (bT X 168 x.toNat).toNat)) ∧ (v1.2 160 9 = 0 → ¬ v1.1 = 3 → y = v1)
section
variable {nn : Nat} {X : BCx} {dp i l a b e s k x : Int} {p q t : Nat} {h g u r w m : ms_M} {v : Int × ms_M}
theorem end_k (E : ENDk k) : st_T k = -1 ∧ ¬ k = 49 := by
  unfold ENDk at E
  rcases E with rfl | rfl | rfl | rfl | rfl | rfl <;> decide
/-- the class at the end of its signs -/
theorem c_129 {rc : tq_X10_readValue} {st bs c : Int} {f : Nat} {Z : ms_M → Prop} (ho : u 49 10 = bs) (b : 0 ≤ bs ∧ bs ≤ 10000) (H : Pc (qj_X10_readValue_156 nn rc dp st u) Z) : Pc (qw_X10_readValue_129 nn rc f dp st bs c u) Z := by
  cases f with
  | zero => exact pc_none
  | succ f =>
    unfold qw_X10_readValue_129
    refine pc_if (fun _ => H) (fun _ => ?_)
    have D : Pc (qf_X10_isSignDue nn bs 1 u) (fun y => y = 0) := by
      unfold qf_X10_isSignDue
      exact pc_if (fun _ => pc_ret rfl) (fun z => absurd (show u 49 10 ≤ bs by omega) z)
    refine pc_sv D ?_; intro u8 q8
    exact pc_if (fun _ => H) (fun z => absurd q8 z)
theorem epr_d {d2 : Int} (Q : EPr X dp p h r) (hd : dp ≤ d2) : EPr X d2 p h r := ⟨Q.1, Q.2.1, Q.2.2.1, Q.2.2.2.1, by have := Q.2.2.2.2.1; omega, Q.2.2.2.2.2⟩
/-- readValue: the sides first -/
theorem c_rv {d d2 : Nat} {Z : ms_M → Int × ms_M → Prop} {ix b1 e1 : Int} (Y : CXs X) (hd : 0 ≤ dp ∧ dp + 1 ≤ 40) (Q : EPr X dp p h r) (b57 : 0 ≤ r 160 57 ∧ r 160 57 + (b1 - a) < 9000 ∧ b1 ≤ 9000) (S : S1 nn X (dp + 1) ix 0 a b1 p q e1) (kq : st_T (bK X q) < 0) (HC : ∀ (u : ms_M) (v : Int × ms_M), EOk nn X ix a b1 p q e1 h r u v → Pc (qj_X10_readValue_156 nn (qg_X10_readValue nn d) dp (p : Int) u) (fun uF => Z uF v)) (HF : ∀ (uF : ms_M) (v : Int × ms_M), (SFj uF v.2 ∨ VDj X ix a b1 p q e1 h r uF v) → Z uF v) : Pc (qo_X10_readValue nn (qg_X10_readValue nn d) dp h) (fun uF => Pc ((qg_X13_condition nn d2).2.2.1 e1 r) (fun v => Z uF v)) := by
  obtain ⟨B, ⟨q1, q2, q3, q4⟩, f, o1, o2, o3⟩ := Q
  have Q : EPr X dp p h r := ⟨B, ⟨q1, q2, q3, q4⟩, f, o1, o2, o3⟩
  unfold qo_X10_readValue
  refine pc_if (fun _ => ?_) (fun z => absurd (show dp ≤ 42 by omega) z)
  refine pc_add (by omega) ?_; intro v47 e47
  rw [e47, q1]
  have W := S (by omega) d d2 nn h r (p : Int) (h 49 10) 0 Z (epr_d Q (by omega)) ⟨by omega, by omega, by omega, fun z => by omega⟩ b57 (by omega) (fun u v c tn K hc ht => ⟨fun z => absurd z (by omega), fun _ f => ?_⟩) HF
  · rw [show dp + 1 - 1 = dp by omega] at W
    exact W
  · rw [show dp + 1 - 1 = dp by omega]
    exact c_129 K.1.2.2.1.2.2.1 (by omega) (HC u v K)
theorem e0_es (Y : CXs X) (hd : 0 ≤ dp ∧ dp + 1 ≤ 40) (S : S1 nn X (dp + 1) i 0 a b p q e) : E0 nn X dp i a b p q e := by
  intro EN d d2 h r Q b57
  obtain ⟨s1, s2⟩ := end_k EN
  cases d with
  | zero => exact pc_none
  | succ d =>
    show Pc (qo_X10_readValue nn (qg_X10_readValue nn d) dp h) _
    refine c_rv Y hd Q b57 S (by omega) (fun u v K => ?_) (fun uF v S => .inl S)
    unfold qj_X10_readValue_156
    refine pc_sv (c_kind Y.1 (pk_b Q K.1) K.1.1.2.1 K.1.1.1 K.1.1.2.2.2.1) ?_; intro u3 q3
    exact pc_if (fun _ => pc_ret (.inr ⟨K.1, trivial, K.2.2⟩)) (fun z => absurd (show ¬ u3 = 49 by omega) z)
/-- given, told by worked -/
theorem r_given {d : Nat} {Q : Int × ms_M → Prop} (TQ : TBq (bK X) (bP X) (bc X) r) (T8 : ∀ cc y : Nat, 163 ≤ cc ∧ cc ≤ 173 → r cc y = bT X cc y) (H : Pc ((qg_X13_condition nn d).2.2.1 x r) (fun v1 => ∀ y, GVN X x v1 y → Q y)) : Pc ((qg_X13_condition nn (d + 1)).2.1 x r) Q := by
  show Pc (qo_X13_given nn (qg_X13_condition nn d) x r) Q
  unfold qo_X13_given
  refine pc_sv (pc_and H (wd_fr d)) ?_; intro v1 ⟨HV, F⟩
  have TQ1 : TBq (bK X) (bP X) (bc X) v1.2 := tbq_f TQ (fun cc y z => F cc y (by omega) (by omega) (by omega))
  refine pc_if (fun z => pc_ret (HV _ ⟨fun _ => ft_r, fun _ z2 => absurd z2 z, fun _ _ => rfl⟩)) (fun z => ?_)
  refine pc_rA ?_; intro _ _ v4 e4
  rw [F 168 _ (by omega) (by omega) (by omega), T8 168 _ (by omega)] at e4
  rw [e4]
  have z3 : v1.1 = 3 := Classical.byContradiction z
  by_cases z9 : v1.2 160 9 = 0
  · refine pc_sv (r_wrb TQ1 z9) ?_; intro u6 y
    exact pc_ret (HV _ ⟨fun z => absurd z9 z, fun _ _ => y, fun _ n => absurd z3 n⟩)
  · refine pc_sv (ft_qf_X13_wrong z9) ?_; intro u6 F6
    exact pc_ret (HV _ ⟨fun _ => F6, fun z => absurd z z9, fun z => absurd z z9⟩)
/-- a condition, told by worked -/
theorem r_cond {d : Nat} {Q : ms_M → Prop} (Y : CXs X) (TQ : TBq (bK X) (bP X) (bc X) r) (T8 : ∀ cc y : Nat, 163 ≤ cc ∧ cc ≤ 173 → r cc y = bT X cc y) (lab : bT X 169 x.toNat = (p : Int)) (pc : p < bc X) (H : Pc ((qg_X13_condition nn d).2.2.1 x r) (fun v1 => ∀ w, CDN X x p v1 w → Q w)) : Pc ((qg_X13_condition nn (d + 2)).1 x r) Q := by
  have n8 := Y.2.2.1
  show Pc (qo_X13_condition nn (qg_X13_condition nn (d + 1)) x r) Q
  unfold qo_X13_condition
  refine pc_sv (pc_and (r_given TQ T8 (pc_imp H (fun v1 HV y hy => show ∃ v1, (∀ w, CDN X x p v1 w → Q w) ∧ GVN X x v1 y from ⟨v1, HV, hy⟩))) (gv_fr (d + 1))) ?_; intro y ⟨⟨v1, HV, g1, g2, g3⟩, F⟩
  have TQ1 : TBq (bK X) (bP X) (bc X) y.2 := tbq_f TQ (fun cc y z => F cc y (by omega) (by omega) (by omega))
  by_cases z9 : v1.2 160 9 = 0
  · by_cases z3 : v1.1 = 3
    · obtain ⟨w1, w2⟩ := g2 z9 z3
      have DN : ∀ w : ms_M, FSr y.2 w → Q w := fun w F => HV w ⟨fun z => absurd z9 z, fun _ _ => ⟨F.1.trans w1, fun hb => F.2.trans (w2 hb)⟩, fun _ t2 y1 y2 y3 => absurd (y3.symm.trans z3) (fun y => y2 ((ty_3 (X := X) n8 y1).mp y))⟩
      refine pc_if (fun z => pc_ret (DN _ ft_r)) (fun z => ?_)
      refine pc_rA ?_; intro _ _ v4 e4
      refine pc_sv (ft_qf_X13_wrong (h := y.2) (by omega)) ?_; intro u6 F6
      exact pc_ret (DN _ F6)
    · rw [g3 z9 z3]
      rw [g3 z9 z3] at F TQ1
      have u1 : ∀ t2 : Int, VTn (bn X) t2 → (ty_T t2 = 1 ↔ t2 = 302) := fun t2 vt => by have := ty_c (vtn_v n8 vt); omega
      refine pc_if (fun z => pc_ret (HV _ ⟨fun z => absurd z9 z, fun _ z => absurd z z3, fun _ t2 y1 y2 y3 => .inl ⟨(u1 t2 y1).mp (by rw [← y3]; exact z), rfl⟩⟩)) (fun z => ?_)
      refine pc_rA ?_; intro _ _ v4 e4
      rw [F 169 _ (by omega) (by omega) (by omega), T8 169 _ (by omega), lab] at e4
      refine pc_sv (r_wrong TQ1 pc z9 e4) ?_; intro u6 w1
      exact pc_ret (HV _ ⟨fun z => absurd z9 z, fun _ z => absurd z z3, fun _ t2 y1 y2 y3 => .inr ⟨fun y => z (by rw [y3]; exact (u1 t2 y1).mpr y), w1⟩⟩)
  · have Fy := g1 z9
    have S : ¬ y.2 160 9 = 0 := by rw [Fy.1]; exact z9
    have DN : ∀ w : ms_M, FSr y.2 w → Q w := fun w F => HV w ⟨fun _ => ft_t Fy F, fun z => absurd z z9, fun z => absurd z z9⟩
    refine pc_if (fun z => pc_ret (DN _ ft_r)) (fun z => ?_)
    refine pc_rA ?_; intro _ _ v4 e4
    refine pc_sv (ft_qf_X13_wrong S) ?_; intro u6 F6
    exact pc_ret (DN _ F6)
end
end
section
/- ?: on both sides: the making -/
section
variable {nn : Nat} {X : BCx} {dp i l a b e s k : Int} {p q t uu : Nat} {h g u r w m : ms_M} {v : ms_M} {PB : Nat → Prop} {WL : Int → Int → Prop} {L : List (Int × Int)}
/-- what work leaves of the nodes and of the row -/
theorem wk_k (d : Nat) {x : Int} (b : 0 ≤ m 160 57 ∧ m 160 57 ≤ 10000) : Pc ((qg_X13_work nn d).1 x m) (fun z => (∀ cc y : Nat, 174 ≤ cc → cc ≤ 176 → z cc y = m cc y) ∧ z 160 57 = m 160 57) := pc_imp (pc_and (wk_an d) ((rkg_work nn d).1 (a1 := x) (h := m) b)) (fun z y => ⟨y.1, y.2.1⟩)
theorem m_choice {d : Nat} {ty y0 : Int} {u1 g1 h21 u24 g3 g4 h38 u41 u46 g5 g6 g7 : ms_M} (ne : 0 ≤ a ∧ a ≤ e ∧ e < b) (yb : e < y0 ∧ y0 ≤ b) (M : MKx X PB WL L h m) (C1 : MKC nn X (bT X 170 e.toNat) a e p t h u1 v) (A1 : CJu 153 1 u1 g1) (E1 : ∀ cc x : Nat, ¬ (cc = 2 ∧ x = 10) → h21 cc x = g1 cc x) (C2 : MKC nn X (bT X 171 e.toNat) (e + 1) y0 (t + 1) uu h21 u24 v) (A2 : CJu 167 1 u24 g3) (A3 : CAH (u1 34 1) g3 g4) (E2 : ∀ cc x : Nat, ¬ (cc = 2 ∧ x = 10) → h38 cc x = g4 cc x) (C3 : MKC nn X (bT X 172 e.toNat) y0 b (uu + 1) q h38 u41 v) (E4 : ∀ cc x : Nat, ¬ cc = 49 → u46 cc x = u41 cc x) (A4 : CPo 1 u46 g5) (A5 : CPu ty g5 g6) (A6 : CAH (u24 34 1) g6 g7) (E3 : ∀ cc x : Nat, ¬ cc = 49 → u cc x = g7 cc x) (nd : bT X 167 e.toNat = 39) (AM : AN a b v m) (g74 : v 174 e.toNat = ty_T ty) (b57 : 0 ≤ m 160 57 ∧ m 160 57 + (b - a) < 9000) (b88 : m 160 88 + 4 * (q : Int) ≤ 2000000000 + 4 * (p : Int)) (pt : p < t ∧ t + 1 < uu ∧ uu + 1 < q ∧ q ≤ 3001) (s1 : u1 34 3 = h 34 3 + 1) (s2 : u24 34 3 = h21 34 3 + 1) (s3 : u41 34 3 = h38 34 3 + 1) (h3 : 0 ≤ h 34 3 ∧ h 34 3 ≤ 2996) (l1 : u1 34 1 ≤ 800000) (l2 : u24 34 1 ≤ 800000) (l3 : u41 34 1 ≤ 800000) (vq : VTn (bn X) ty ∧ ¬ ty = 303) : Pc (qo_X13_workOne nn (qg_X13_work nn d) e m) (fun w => MKx X PB WL L u w ∧ (m 160 88 ≤ w 160 88 ∧ w 160 88 + 4 * (p : Int) ≤ m 160 88 + 4 * (q : Int))) := by
  have MT := (mk_t M).1
  have lb0 := mk_88 M
  refine wo_39 (t := ty_T ty) (by rw [MT 167 _ (by omega)]; exact nd) ((AM 174 e.toNat (by omega) (by omega) (by omega) (by omega)).trans g74) ?_
  refine pc_sv (r_lab (by omega)) ?_; intro u63 q63
  rw [q63]
  dsimp only
  have ML1 : MKx X PB WL L h (up_M m 160 88 (m 160 88 + 1)) := mk_lab M rfl
  generalize hm1 : up_M m 160 88 (m 160 88 + 1) = w1 at *
  have f1 : w1 160 88 = m 160 88 + 1 := by rw [← hm1, up_s]
  have F1 : ∀ cc x : Nat, ¬ (cc = 160 ∧ x = 88) → w1 cc x = m cc x := fun cc x z => by rw [← hm1, up_n z]
  refine pc_sv (r_lab (by omega)) ?_; intro u65 q65
  rw [q65]
  dsimp only
  have ML2 : MKx X PB WL L h (up_M w1 160 88 (w1 160 88 + 1)) := mk_lab ML1 rfl
  generalize hm2 : up_M w1 160 88 (w1 160 88 + 1) = w2 at *
  have f2 : w2 160 88 = m 160 88 + 2 := by rw [← hm2, up_s, f1]; omega
  have F2 : ∀ cc x : Nat, ¬ (cc = 160 ∧ x = 88) → w2 cc x = m cc x := fun cc x z => by rw [← hm2, up_n z]; exact F1 cc x z
  rw [show w1 160 88 + 1 = m 160 88 + 2 by omega]
  refine pc_rA ?_; intro _ _ v67 e67
  rw [F2 170 _ (by omega), MT 170 _ (by omega)] at e67
  rw [e67]
  have w57 : w2 160 57 = m 160 57 := F2 160 57 (by omega)
  have AM2 : AN a b v w2 := an_m AM (fun cc x z1 z2 => F2 cc x (by omega))
  refine pc_sv (pc_and (C1 d PB WL L w2 ML2 (an_s AM2 ⟨Int.le_refl _, by omega⟩ (fun _ _ _ _ _ _ => rfl)) (by omega) (by omega)) (wk_k d (by omega))) ?_; intro u69 ⟨⟨M69, lb1, lb2⟩, AN69, k57⟩
  obtain ⟨-, -, ⟨n1, n2, n3, n4⟩, -⟩ := mk_t M69
  refine pc_sub (by omega) ?_; intro v71 e71
  refine pc_xl ?_; intro h72 e72
  have x68 : h72 160 68 = u69 160 68 := by rw [e72, up_n (by omega)]
  refine pc_sv (r_jump (by omega)) ?_; intro u74 B1
  have MJ : MKx X PB WL (L ++ [(u69 160 68, m 160 88 + 1)]) g1 u74 := mk_jump (m1 := h72) M69 A1 (by omega) (by rw [e72, e71]) B1 (by unfold in_R; omega) (by omega)
  have MJ2 : MKx X PB WL (L ++ [(u69 160 68, m 160 88 + 1)]) h21 u74 := mkx_c MJ (fun cc x z1 z2 z3 => E1 cc x (by omega))
  have B1f := B1.2.2.2.2.2.2
  have G74 : ∀ cc x : Nat, ¬ (cc = 160 ∧ (x = 68 ∨ x = 87 ∨ x = 70)) → ¬ cc = 206 → ¬ (cc = 217 ∨ cc = 218) → u74 cc x = u69 cc x := fun cc x z1 z2 z3 => by rw [B1f cc x (by omega) (by omega) (by omega), e72, up_n (by omega)]
  have t88 := G74 160 88 (by omega) (by omega) (by omega)
  have t57 := G74 160 57 (by omega) (by omega) (by omega)
  have AM4 : AN a b v u74 := an_m AM2 (fun cc x z1 z2 => by rw [G74 cc x (by omega) (by omega) (by omega)]; exact AN69 cc x z1 z2)
  refine pc_rA ?_; intro _ _ v76 e76
  rw [(mk_t MJ2).1 171 _ (by omega)] at e76
  rw [e76]
  refine pc_sv (pc_and (C2 d PB WL _ u74 MJ2 (an_s AM4 ⟨by omega, by omega⟩ (fun _ _ _ _ _ _ => rfl)) (by omega) (by omega)) (wk_k d (by omega))) ?_; intro u78 ⟨⟨M78, lb3, lb4⟩, AN78, k78⟩
  obtain ⟨-, -, ⟨p1, p2, p3, p4⟩, -⟩ := mk_t M78
  have a3 : g1 34 3 = h 34 3 := by rw [A1.2.1]; split <;> omega
  have c3 := E1 34 3 (by omega)
  refine pc_sub (by omega) ?_; intro v80 e80
  refine pc_xl ?_; intro h81 e81
  have y68 : h81 160 68 = u78 160 68 := by rw [e81, up_n (by omega)]
  refine pc_sv (r_jump (by omega)) ?_; intro u83 B2
  have MJ3 : MKx X PB WL (L ++ [(u69 160 68, m 160 88 + 1)] ++ [(u78 160 68, m 160 88 + 2)]) g3 u83 := mk_jump (m1 := h81) M78 A2 (by omega) (by rw [e81, e80]) B2 (by unfold in_R; omega) (by omega)
  have B2f := B2.2.2.2.2.2.2
  have G83 : ∀ cc x : Nat, ¬ (cc = 160 ∧ (x = 68 ∨ x = 87 ∨ x = 70)) → ¬ cc = 206 → ¬ (cc = 217 ∨ cc = 218) → u83 cc x = u78 cc x := fun cc x z1 z2 z3 => by rw [B2f cc x (by omega) (by omega) (by omega), e81, up_n (by omega)]
  have d1 := A2.1
  have d3 : g3 34 3 = h 34 3 := by rw [A2.2.1]; split <;> omega
  have w83 : u83 160 57 = m 160 57 := by rw [G83 160 57 (by omega) (by omega) (by omega), k78, t57, k57]; exact w57
  refine pc_sv (pc_and (mk_aim (A := L) (B := [(u78 160 68, m 160 88 + 2)]) (j := u1 34 1) (f := m 160 88 + 1) MJ3 (by rw [List.append_assoc, n1]; rfl) (mk_nL M (by omega)) (fun z => by
    rcases z with z | z
    · have z2 : m 160 88 + 2 = m 160 88 + 1 := z
      omega
    · exact z) A3 rfl (by omega) (by omega)) (rk_qf_X13_stands (by omega))) ?_; intro u86 ⟨⟨M86, FE86, v86⟩, RK86⟩
  obtain ⟨Fx4, U4⟩ := cah_fr MJ3.1.2.2.1.1.1 A3
  have x43 : g4 34 3 = g3 34 3 := U4 34 3 (by omega) (by omega) (by omega)
  have M86' : MKx X PB WL (L ++ [(u78 160 68, m 160 88 + 2)]) h38 u86 := mkx_c M86 (fun cc x z1 z2 z3 => E2 cc x (by omega))
  have c38 := E2 34 3 (by omega)
  have w86 : u86 160 57 = m 160 57 := by rw [RK86.1]; exact w83
  have l86 : u86 160 88 = u78 160 88 := by rw [v86]; exact G83 160 88 (by omega) (by omega) (by omega)
  have AM6 : AN a b v u86 := an_m AM4 (fun cc x z1 z2 => by rw [FE86.1 cc x (by omega) (by omega) (by omega), G83 cc x (by omega) (by omega) (by omega)]; exact AN78 cc x z1 z2)
  refine pc_rA ?_; intro _ _ v88 e88
  rw [(mk_t M86').1 172 _ (by omega)] at e88
  rw [e88]
  refine pc_sv (C3 d PB WL _ u86 M86' (an_s AM6 ⟨by omega, Int.le_refl _⟩ (fun _ _ _ _ _ _ => rfl)) (by omega) (by omega)) ?_; intro u90 ⟨M90, lb5, lb6⟩
  have M90' : MKx X PB WL (L ++ [(u78 160 68, m 160 88 + 2)]) u46 u90 := mkx_c M90 (fun cc x z1 z2 z3 => E4 cc x z2)
  obtain ⟨-, -, ⟨r1, r2, r3, r4⟩, -⟩ := mk_t M90'
  have z43 := E4 34 3 (by omega)
  have z41 := E4 34 1 (by omega)
  refine pc_sub (by omega) ?_; intro v92 e92
  refine pc_xl ?_; intro h93 e93
  have MP : MKx X PB WL (L ++ [(u78 160 68, m 160 88 + 2)]) g5 h93 := mk_pop M90' A4 (by omega) (by rw [e93, e92])
  refine pc_sv r_push ?_; intro u95 B3
  have MP2 : MKx X PB WL (L ++ [(u78 160 68, m 160 88 + 2)]) g6 u95 := mk_push MP A5 B3 ⟨rfl, vq⟩
  have q51 : g5 34 1 = u41 34 1 := by rw [A4.2 34 1 (by omega)]; exact z41
  have q53 : g5 34 3 = u41 34 3 - 1 := by rw [A4.1]; split <;> omega
  have q61 : g6 34 1 = g5 34 1 := A5.2.2.2 34 1 (by omega) (by omega)
  have q63' : g6 34 3 = g5 34 3 + 1 := A5.1
  have w95 : u95 160 88 = u90 160 88 := by rw [B3.2.2.2.2 160 88 (by omega) (by omega), e93, up_n (by omega)]
  refine pc_sv (mk_aim (A := L) (B := []) (j := u24 34 1) (f := m 160 88 + 2) MP2 (by rw [p1]) (mk_nL M (by omega)) (fun z => z) A6 rfl (by omega) (by omega)) ?_; intro u98 ⟨M98, _, v98⟩
  rw [List.append_nil] at M98
  unfold qj_X13_workOne_775
  exact pc_ret ⟨mkx_c M98 (fun cc x z1 z2 z3 => E3 cc x z2), by rw [v98, w95]; omega⟩
end
end
section
/- E of both sides: ?: -/
section
variable {nn : Nat} {X : BCx} {dp i l a b e s k x : Int} {p q t uu : Nat} {h g u r w m : ms_M} {v : Int × ms_M}
theorem j_given3 {x : Option ms_M} (TQ : TBq (bK X) (bP X) (bc X) r) (T8 : ∀ cc y : Nat, 163 ≤ cc ∧ cc ≤ 173 → r cc y = bT X cc y) (n8 : bn X ≤ 8) (H : ∀ d2 : Nat, Pc x (fun u => Pc ((qg_X13_condition nn d2).2.2.1 e r) (fun v => (SFj u v.2 ∨ VDj X i a b p q e h r u v) ∨ EOz nn X i a b p q e h r u v))) (na : bK X q = 46 → ¬ h 49 18 = (p : Int)) : ∀ d2 : Nat, Pc x (fun u => Pc ((qg_X13_condition nn d2).2.1 e r) (fun v => SFj u v.2 ∨ (EOz nn X i a b p q e h r u v ∧ ¬ u 49 12 = 303 ∧ (¬ bK X q = 51 → FM01 nn X i a b p q e h u v.2)))) := by
  intro d2
  cases d2 with
  | zero => exact fun _ _ => pc_none
  | succ d2 =>
    refine pc_imp (H d2) (fun u Hu => ?_)
    refine r_given TQ T8 (pc_imp Hu (fun v1 hv y hy => ?_))
    rcases hv with (S | S) | K
    · exact .inl (sf_k S fs_r (hy.1 (sf_r S)))
    · obtain ⟨⟨s1, s2, s3, s4⟩, ⟨s5, s6, s7⟩, s8⟩ := S
      obtain ⟨y1, y2⟩ := hy.2.1 s6 s5
      exact .inl ⟨by omega, by omega, by rw [y2 ⟨s3, s4.1⟩]; exact s2.symm⟩
    · have K0 := K
      obtain ⟨K, -, KF⟩ := K
      have c18 : u 49 18 = h 49 18 := K.2.2.1.1 49 18 (by omega) (by omega) (by omega) (by omega) (by omega) (by omega) (by omega) (by omega)
      have n303 : ¬ u 49 12 = 303 := fun z => by
        rcases K.2.2.2.2 with F | F | F | F
        · rcases F.1 with ⟨-, -, -, y⟩ | ⟨-, -, y⟩
          · exact na (y z).1 (c18.symm.trans (y z).2)
          · exact y z
        · exact F.2.1.2.2.2.2 z
        · exact F.1.2.2.2 z
        · exact F.1.2.2.2 z
      have n3 : ¬ v1.1 = 3 := fun z => n303 ((ty_3 (X := X) n8 K.2.1.2.1).mp (by rw [← K.2.1.1]; exact z))
      rw [hy.2.2 K.1.2.2.2.2 n3]
      refine .inr ⟨K0, n303, fun nq => ?_⟩
      have := KF nq
      rcases K.2.2.2.2 with F | F | F | F
      · exact F
      · exact absurd F.1.1 (by omega)
      · exact absurd F.1.1 (by omega)
      · exact absurd F.1.1 (by omega)
theorem r_condA {Q : ms_M → Prop} (Y : CXs X) (TQ : TBq (bK X) (bP X) (bc X) r) (T8 : ∀ cc y : Nat, 163 ≤ cc ∧ cc ≤ 173 → r cc y = bT X cc y) (lab : bT X 169 x.toNat = (p : Int)) (pc : p < bc X) (H : ∀ d : Nat, Pc ((qg_X13_condition nn d).2.2.1 x r) (fun v1 => ∀ w, CDN X x p v1 w → Q w)) (d : Nat) : Pc ((qg_X13_condition nn d).1 x r) Q := by
  cases d with
  | zero => exact fun r e => nomatch e
  | succ d =>
    cases d with
    | zero => exact fun r e => nomatch e
    | succ d => exact r_cond Y TQ T8 lab pc (H d)
/-- the rest of the rule of ?: behind its condition -/
def rst_R (nn : Nat) (rc : tq_X13_condition) (e : Int) (w : ms_M) : Option (Int × ms_M) := rd_A 9000 171 e w fun v89 => mx_sv (rc.2.1 v89 w) fun u91 => rd_A 9000 172 e u91.2 fun v93 => mx_sv (rc.2.1 v93 u91.2) fun u95 => mx_sv (qf_X13_goTogether nn u91.1 u95.1 u95.2) fun u97 => if ¬ u97 = 0 then (qj_X13_rule_657 nn rc u91.1 u95.1 u95.2) else (rd_A 9000 168 e u95.2 fun v99 => mx_sv (qf_X13_wrong nn 6 v99 u95.2) fun u101 => qj_X13_rule_657 nn rc u91.1 u95.1 u101)
theorem rst_f2 {rc : tq_X13_condition} {c1 c2 : Int} (S : ¬ w 160 9 = 0) (G : FSrG_X13_condition rc) : Pc (mx_sv (qf_X13_goTogether nn c1 c2 w) fun u97 => if ¬ u97 = 0 then (qj_X13_rule_657 nn rc c1 c2 w) else (rd_A 9000 168 e w fun v99 => mx_sv (qf_X13_wrong nn 6 v99 w) fun u101 => qj_X13_rule_657 nn rc c1 c2 u101)) (fun y => FSr w y.2) := by
  refine pc_sv pc_any ?_; intro u97 _
  refine pc_if (fun _ => ft_qj_X13_rule_657 G S) (fun _ => ?_)
  refine pc_rA ?_; intro _ _ v99 _
  refine pc_sv (ft_qf_X13_wrong S) ?_; intro u101 F
  exact pc_imp (ft_qj_X13_rule_657 G (by rw [F.1]; exact S)) (fun y F2 => ft_t F F2)
theorem rst_f1 {rc : tq_X13_condition} {c1 : Int} (S : ¬ w 160 9 = 0) (G : FSrG_X13_condition rc) : Pc (rd_A 9000 172 e w fun v93 => mx_sv (rc.2.1 v93 w) fun u95 => mx_sv (qf_X13_goTogether nn c1 u95.1 u95.2) fun u97 => if ¬ u97 = 0 then (qj_X13_rule_657 nn rc c1 u95.1 u95.2) else (rd_A 9000 168 e u95.2 fun v99 => mx_sv (qf_X13_wrong nn 6 v99 u95.2) fun u101 => qj_X13_rule_657 nn rc c1 u95.1 u101)) (fun y => FSr w y.2) := by
  refine pc_rA ?_; intro _ _ v93 _
  refine pc_sv (G.2.1 S) ?_; intro u95 F
  exact pc_imp (rst_f2 (w := u95.2) (by rw [F.1]; exact S) G) (fun y F2 => ft_t F F2)
theorem rst_f {rc : tq_X13_condition} (S : ¬ w 160 9 = 0) (G : FSrG_X13_condition rc) : Pc (rst_R nn rc e w) (fun y => FSr w y.2) := by
  unfold rst_R
  refine pc_rA ?_; intro _ _ v89 _
  refine pc_sv (G.2.1 S) ?_; intro u91 F
  exact pc_imp (rst_f1 (w := u91.2) (by rw [F.1]; exact S) G) (fun y F2 => ft_t F F2)
/-- the class's readChoice behind a FAULT, from three places on -/
theorem chf_3 {rc : tq_X10_readValue} {j c l3 : Int} (S : ¬ g 2 11 = 0) (G : FScG_X10_readValue rc) : Pc (mx_sv (qf_X10_isPair nn c (g 49 12) g) fun u44 => mx_sv (qf_X10_wantType nn u44 l3 g) fun u46 => mx_sv (qf_X4_fits nn 12 c (u46 49 12) u46) fun u50 => if u50 = 0 then (qj_X10_readChoice_158 nn rc j c u46) else (qj_X10_readChoice_158 nn rc j (u46 49 12) u46)) (fun u => FSc g u) := by
  refine pc_sv pc_any ?_; intro u44 _
  refine pc_sv (fs_qf_X10_wantType S) ?_; intro u46 F
  have S1 : ¬ u46 2 11 = 0 := by rw [F.1]; exact S
  refine pc_sv pc_any ?_; intro u50 _
  exact pc_if (fun _ => pc_imp (fs_qj_X10_readChoice_158 G S1) (fun u F2 => fs_t F F2)) (fun _ => pc_imp (fs_qj_X10_readChoice_158 G S1) (fun u F2 => fs_t F F2))
theorem chf_2 {rc : tq_X10_readValue} {j1 l3 l2 : Int} (S : ¬ g 2 11 = 0) (G : FScG_X10_readValue rc) : Pc (mx_sv (qf_X1_jump nn 167 0 g) fun u28 => mx_sv (qf_X1_pop nn 1 u28.2) fun u31 => mx_sv (qf_X1_aimHere nn j1 u31) fun u34 => xl (oq_add (u34 2 10) 1) fun v37 => xl (up_M u34 2 10 v37) fun h38 => xl (oq_add l2 1) fun v39 => mx_sv (rc.1 v39 h38) fun u41 => mx_sv (qf_X10_isPair nn (g 49 12) (u41 49 12) u41) fun u44 => mx_sv (qf_X10_wantType nn u44 l3 u41) fun u46 => mx_sv (qf_X4_fits nn 12 (g 49 12) (u46 49 12) u46) fun u50 => if u50 = 0 then (qj_X10_readChoice_158 nn rc u28.1 (g 49 12) u46) else (qj_X10_readChoice_158 nn rc u28.1 (u46 49 12) u46)) (fun u => FSc g u) := by
  refine pc_sv (fs_qf_X1_jump S) ?_; intro u28 F1
  have S1 : ¬ u28.2 2 11 = 0 := by rw [F1.1]; exact S
  refine pc_sv (fs_qf_X1_pop S1) ?_; intro u31 F2
  have S2 : ¬ u31 2 11 = 0 := by rw [F2.1]; exact S1
  refine pc_sv (fs_qf_X1_aimHere S2) ?_; intro u34 F3
  have S3 : ¬ u34 2 11 = 0 := by rw [F3.1]; exact S2
  refine pc_xl ?_; intro v37 _
  refine pc_xl ?_; intro h38 e38
  have F4 : FSc u34 h38 := ⟨by rw [e38, up_n (by omega)], by rw [e38, up_n (by omega)]⟩
  refine pc_xl ?_; intro v39 _
  refine pc_sv (G.1 (h := h38) (by rw [F4.1]; exact S3)) ?_; intro u41 F5
  exact pc_imp (chf_3 (g := u41) (by rw [F5.1, F4.1]; exact S3) G) (fun u F6 => fs_t F1 (fs_t F2 (fs_t F3 (fs_t F4 (fs_t F5 F6)))))
theorem chf_1 {rc : tq_X10_readValue} {l3 l2 : Int} (S : ¬ g 2 11 = 0) (G : FScG_X10_readValue rc) : Pc (mx_sv (qf_X1_jump nn 153 1 g) fun u17 => xl (oq_add (u17.2 2 10) 1) fun v20 => xl (up_M u17.2 2 10 v20) fun h21 => xl (oq_add l2 1) fun v22 => mx_sv (rc.1 v22 h21) fun u24 => mx_sv (qf_X1_jump nn 167 0 u24) fun u28 => mx_sv (qf_X1_pop nn 1 u28.2) fun u31 => mx_sv (qf_X1_aimHere nn u17.1 u31) fun u34 => xl (oq_add (u34 2 10) 1) fun v37 => xl (up_M u34 2 10 v37) fun h38 => xl (oq_add l2 1) fun v39 => mx_sv (rc.1 v39 h38) fun u41 => mx_sv (qf_X10_isPair nn (u24 49 12) (u41 49 12) u41) fun u44 => mx_sv (qf_X10_wantType nn u44 l3 u41) fun u46 => mx_sv (qf_X4_fits nn 12 (u24 49 12) (u46 49 12) u46) fun u50 => if u50 = 0 then (qj_X10_readChoice_158 nn rc u28.1 (u24 49 12) u46) else (qj_X10_readChoice_158 nn rc u28.1 (u46 49 12) u46)) (fun u => FSc g u) := by
  refine pc_sv (fs_qf_X1_jump S) ?_; intro u17 F1
  have S1 : ¬ u17.2 2 11 = 0 := by rw [F1.1]; exact S
  refine pc_xl ?_; intro v20 _
  refine pc_xl ?_; intro h21 e21
  have F2 : FSc u17.2 h21 := ⟨by rw [e21, up_n (by omega)], by rw [e21, up_n (by omega)]⟩
  refine pc_xl ?_; intro v22 _
  refine pc_sv (G.1 (h := h21) (by rw [F2.1]; exact S1)) ?_; intro u24 F3
  exact pc_imp (chf_2 (g := u24) (by rw [F3.1, F2.1]; exact S1) G) (fun u F4 => fs_t F1 (fs_t F2 (fs_t F3 F4)))
end
end
section
/- E of both sides: ?:, the whole -/
/-- what is wanted of an E, where the reference answers y -/
def CRz (nn : Nat) (X : BCx) (a b : Int) (p q : Nat) (e : Int) (h r uF : ms_M) (y : Int × ms_M) : Prop := ∀ z : ms_M, z = up_M y.2 174 e.toNat y.1 → (z 160 9 = 0 → (SFj uF z ∨ VDj X 0 a b p q e h r uF (y.1, z)) ∨ EOz nn X 0 a b p q e h r uF (y.1, z)) ∧ (¬ z 160 9 = 0 → (SFj uF z ∨ VDj X 0 a b p q e h r uF (0, z)) ∨ EOz nn X 0 a b p q e h r uF (0, z))
section
variable {nn : Nat} {X : BCx} {dp i l a b e s k x : Int} {p q t uu : Nat} {h g u r w m : ms_M} {v : Int × ms_M}
theorem crz_f {uF : ms_M} {y : Int × ms_M} {c pl : Int} (c0 : ¬ c = 0) (a1 : uF 2 11 = c) (a2 : uF 2 12 = pl) (a3 : y.2 160 9 = c) (a4 : y.2 160 10 = pl) : CRz nn X a b p q e h r uF y := fun z ez => by
  have z9 : z 160 9 = c := by rw [ez, up_n (by omega)]; exact a3
  have z10 : z 160 10 = pl := by rw [ez, up_n (by omega)]; exact a4
  exact ⟨fun y => absurd (z9.symm.trans y) c0, fun _ => .inl (.inl ⟨by omega, by rw [z9, a1], by rw [z10, a2]⟩)⟩
theorem crz_s {uF : ms_M} {y : Int × ms_M} (S : SFj uF y.2) : CRz nn X a b p q e h r uF y := crz_f S.1 rfl rfl S.2.1 S.2.2
theorem crz_ok {uF z0 : ms_M} {y : Int × ms_M} (ez : z0 = up_M y.2 174 e.toNat y.1) (z9 : z0 160 9 = 0) (K : EOz nn X 0 a b p q e h r uF (y.1, z0)) : CRz nn X a b p q e h r uF y := fun z ez2 => by
  rw [ez2, ← ez]
  exact ⟨fun _ => .inr K, fun y => absurd z9 y⟩
theorem e0_ec {y0 ix iy iz : Int} (Y : CXs X) (ne : 0 ≤ a ∧ a ≤ e ∧ e < b) (yb : e < y0 ∧ y0 ≤ b) (hd : 0 ≤ dp ∧ dp + 1 ≤ 40) (nd : bT X 167 e.toNat = 39 ∧ bT X 168 e.toNat = (t : Int)) (S : S1 nn X (dp + 1) ix 0 a e p t (bT X 170 e.toNat)) (L1 : bT X 169 (bT X 170 e.toNat).toNat = (p : Int)) (kt : bK X t = 49) (H2 : E0 nn X (dp + 1) iy (e + 1) y0 (t + 1) uu (bT X 171 e.toNat)) (ku : bK X uu = 50) (H3 : E0 nn X (dp + 1) iz y0 b (uu + 1) q (bT X 172 e.toNat)) (pt : p < t ∧ t + 1 < uu ∧ uu + 1 < q) : E0 nn X dp 0 a b p q e := by
  intro EN d d2 h r Q b57
  have Q0 := Q
  obtain ⟨B, ⟨q1, q2, q3, q4⟩, ⟨f1, f2, f3⟩, o1⟩ := Q0
  have T : ∀ cc x : Nat, 163 ≤ cc ∧ cc ≤ 173 → r cc x = bT X cc x := fun cc x z => B.2.2.2.2.2.1 cc x (by omega)
  have TQ : TBq (bK X) (bP X) (bc X) r := B.1.1.2.2.1
  have n8 := Y.2.2.1
  have c3 := Y.1.2.1
  have nl : ¬ bT X 167 e.toNat = 30 ∧ ¬ bT X 167 e.toNat = 31 ∧ ¬ bT X 167 e.toNat = 32 ∧ ¬ bT X 167 e.toNat = 37 ∧ ¬ bT X 167 e.toNat = 38 := by omega
  have tc : t < bc X := tb_lt Y.1 (by omega)
  have tc1 : t + 1 < bc X := jp_lt Y.1 tc (by omega)
  have uc : uu < bc X := tb_lt Y.1 (by omega)
  have uc1 : uu + 1 < bc X := jp_lt Y.1 uc (by omega)
  cases d with
  | zero => exact pc_none
  | succ d =>
    show Pc (qo_X10_readValue nn (qg_X10_readValue nn d) dp h) _
    have K1 : ∀ d2 : Nat, Pc (qo_X10_readValue nn (qg_X10_readValue nn d) dp h) (fun uF => Pc ((qg_X13_condition nn d2).2.2.1 (bT X 170 e.toNat) r) (fun v1 => RKp r v1.2 → ∀ w, CDN X (bT X 170 e.toNat) p v1 w → ∀ d3 : Nat, Pc (rst_R nn (qg_X13_condition nn d3) e w) (CRz nn X a b p q e h r uF))) := fun d2 => by
      refine c_rv Y hd Q (by omega) S (by rw [kt]; decide) (fun u1 v1 K => ?_) (fun uF v1 SV _ w hw d3 => ?_)
      · by_cases RK : RKp r v1.2
        case neg => exact fun _ _ RK2 => absurd RK2 RK
        obtain ⟨⟨x1, x2, x3, x4, x5⟩, ⟨x6, x7, x8⟩, ⟨x9, x10, x11⟩, ⟨x12, x13, x14⟩, x15⟩ := K.1
        have TB1 := pk_b Q K.1
        have B1 : BX X u1 v1.2 := bx_e B x9 x10
        have FX : FM01 nn X ix a e p t (bT X 170 e.toNat) h u1 v1.2 := by
          have := K.2.2 (by omega)
          rcases x15 with F | F | F | F
          · exact F
          · exact absurd F.1.1 (by omega)
          · exact absurd F.1.1 (by omega)
          · exact absurd F.1.1 (by omega)
        have n303 : ¬ u1 49 12 = 303 := fun z => by
          rcases FX.1 with ⟨-, -, -, y⟩ | ⟨-, -, y⟩
          · have := (y z).1
            omega
          · exact y z
        obtain ⟨⟨FH, -⟩, FM⟩ := FX.2.2 (by omega)
        rw [if_neg n303] at FH
        unfold qj_X10_readValue_156
        refine pc_sv (c_kind Y.1 TB1 x2 x1 x4) ?_; intro u3 q3'
        refine pc_if (fun z => absurd (q3'.trans kt) z) (fun _ => ?_)
        refine pc_sv (P := fun uF => ∀ w, CDN X (bT X 170 e.toNat) p v1 w → ∀ d3 : Nat, Pc (rst_R nn (qg_X13_condition nn d3) e w) (CRz nn X a b p q e h r uF)) ?_ (fun u5 H5 => pc_ret (fun _ => H5))
        cases d with
        | zero => exact fun _ z => nomatch z
        | succ d =>
          have G := fsg_X10_readValue nn d
          show Pc (qo_X10_readChoice nn (qg_X10_readValue nn d) (p : Int) dp u1) _
          unfold qo_X10_readChoice
          by_cases tb : u1 49 12 = 302
          · rw [if_neg (fun y => y tb), x1]
            suffices GOOD : ∀ d3 : Nat, Pc (qj_X10_readChoice_24 nn (qg_X10_readValue nn d) (p : Int) dp (t : Int) 1 u1) (fun uF => Pc (rst_R nn (qg_X13_condition nn d3) e v1.2) (CRz nn X a b p q e h r uF)) by
              intro uF eF w hw d3
              rcases hw.2.2 x5 (u1 49 12) x7 n303 x6 with ⟨-, y⟩ | ⟨y, -⟩
              · rw [y]
                exact GOOD d3 uF eF
              · exact absurd tb y
            intro d3
            have Gt := ftg_X13_condition nn d3
            unfold qj_X10_readChoice_24
            refine pc_sv c_want1 ?_; intro u14 e14
            rw [e14]
            refine pc_sv (c_jump (by omega) (by omega) (by omega)) ?_; intro u17 ⟨j1, A1⟩
            have a1 := A1.1
            have a3 : u17.2 34 3 = h 34 3 := by rw [A1.2.1]; split <;> omega
            have U1 := A1.2.2.2
            rw [U1 2 10 (by omega) (by omega), x1]
            refine pc_add (by omega) ?_; intro v20 e20
            refine pc_xl ?_; intro h21 e21
            rw [show v20 = ((t + 1 : Nat) : Int) by omega] at e21
            have E21 : ∀ cc x : Nat, ¬ (cc = 2 ∧ x = 10) → h21 cc x = u17.2 cc x := fun cc x z => by rw [e21, up_n z]
            have W21 : ∀ cc x : Nat, ¬ (cc = 2 ∧ x = 10) → ¬ (cc = 34 ∧ (x = 1 ∨ x = 3)) → ¬ cc = 35 → h21 cc x = u1 cc x := fun cc x z1 z2 z3 => by rw [E21 cc x z1]; exact U1 cc x z2 (by omega)
            have b21 : h21 34 1 = u1 34 1 + 3 := by rw [E21 34 1 (by omega)]; exact a1
            have c21 : h21 34 3 = h 34 3 := by rw [E21 34 3 (by omega)]; exact a3
            have a18 : h21 49 18 = h 49 18 := by rw [W21 49 18 (by omega) (by omega) (by omega)]; exact x9 49 18 (by omega) (by omega) (by omega) (by omega) (by omega) (by omega) (by omega) (by omega)
            have o21 : h21 49 10 = h 49 10 := by rw [W21 49 10 (by omega) (by omega) (by omega)]; exact x11.1
            have F21 : FRc h21 := frc_k x12 (fun cc x z => W21 cc x (by omega) (by omega) (by omega))
            have Q21 : EPr X (dp + 1) (t + 1) h21 v1.2 := ⟨bx_k B1 (fun cc x z => W21 cc x (by omega) (by omega) (by omega)) (fun _ _ _ => rfl), ⟨by rw [e21, up_s], tc1, by rw [W21 2 11 (by omega) (by omega) (by omega)]; exact x4, x5⟩, ⟨F21, ⟨by omega, by omega⟩, by omega, by omega⟩, by omega, by omega, by omega⟩
            refine pc_add (by omega) ?_; intro v22 e22
            rw [e22]
            have T1 : ∀ cc x : Nat, 163 ≤ cc ∧ cc ≤ 173 → v1.2 cc x = bT X cc x := fun cc x z => B1.2.2.2.2.2.1 cc x (by omega)
            have RK1 := RK.1
            have GV2 := j_given (nn := nn) (X := X) (x := (qg_X10_readValue nn d).1 (dp + 1) h21) B1.1.1.2.2.1 T1 n8 (fun d2 => H2 (by unfold ENDk; omega) d d2 h21 v1.2 Q21 (by omega)) (fun z => by omega) (by omega)
            suffices GO2 : Pc (mx_sv ((qg_X10_readValue nn d).1 (dp + 1) h21) fun u24 => mx_sv (qf_X1_jump nn 167 0 u24) fun u28 => mx_sv (qf_X1_pop nn 1 u28.2) fun u31 => mx_sv (qf_X1_aimHere nn u17.1 u31) fun u34 => xl (oq_add (u34 2 10) 1) fun v37 => xl (up_M u34 2 10 v37) fun h38 => xl (oq_add dp 1) fun v39 => mx_sv ((qg_X10_readValue nn d).1 v39 h38) fun u41 => mx_sv (qf_X10_isPair nn (u24 49 12) (u41 49 12) u41) fun u44 => mx_sv (qf_X10_wantType nn u44 (t : Int) u41) fun u46 => mx_sv (qf_X4_fits nn 12 (u24 49 12) (u46 49 12) u46) fun u50 => if u50 = 0 then (qj_X10_readChoice_158 nn (qg_X10_readValue nn d) u28.1 (u24 49 12) u46) else (qj_X10_readChoice_158 nn (qg_X10_readValue nn d) u28.1 (u46 49 12) u46)) (fun uF => Pc (mx_sv ((qg_X13_condition nn d3).2.1 (bT X 171 e.toNat) v1.2) fun u91 => rd_A 9000 172 e u91.2 fun v93 => mx_sv ((qg_X13_condition nn d3).2.1 v93 u91.2) fun u95 => mx_sv (qf_X13_goTogether nn u91.1 u95.1 u95.2) fun u97 => if ¬ u97 = 0 then (qj_X13_rule_657 nn (qg_X13_condition nn d3) u91.1 u95.1 u95.2) else (rd_A 9000 168 e u95.2 fun v99 => mx_sv (qf_X13_wrong nn 6 v99 u95.2) fun u101 => qj_X13_rule_657 nn (qg_X13_condition nn d3) u91.1 u95.1 u101)) (CRz nn X a b p q e h r uF)) by
              refine pc_imp GO2 (fun uF HU => ?_)
              unfold rst_R
              refine pc_rA ?_; intro _ _ v89 e89
              rw [T1 171 _ (by omega)] at e89
              rw [e89]
              exact HU
            refine p2_sv (pc_imp (GV2 d3) (fun u Hu => pc_and Hu ((rkg_condition nn d3).2.1 (a1 := bT X 171 e.toNat) (h := v1.2) (by omega)))) (fun u24 v2 hR => ?_)
            obtain ⟨R2, RK2⟩ := hR
            rcases R2 with S2 | ⟨K2, FX2, n3⟩
            · exact pj_sf (o := fun u => u) (q := fun y => y.2) S2 (chf_2 S2.1 G) (rst_f1 (sf_r S2) Gt) (fun u y S => crz_s S)
            obtain ⟨⟨i1, i2, i3, i4, i5⟩, ⟨i6, i7, i8⟩, ⟨i9, i10, i11⟩, ⟨i12, i13, i14⟩, -⟩ := K2.1
            obtain ⟨⟨FH2, -⟩, FM2⟩ := FX2.2.2 (by omega)
            rw [if_neg n3] at FH2
            have B2 : BX X u24 v2.2 := bx_e Q21.1 i9 i10
            refine pc_sv (c_jump (by omega) (by omega) (by omega)) ?_; intro u28 ⟨j2, A2⟩
            have d3' : u28.2 34 3 = u24 34 3 := by rw [A2.2.1]; split <;> omega
            refine pc_sv (c_pop (by omega) (by omega)) ?_; intro u31 A3
            have AJ : CJu 167 1 u24 u31 := cju_pop A2 A3 (by omega)
            have b31 := AJ.1
            have c31 : u31 34 3 = h 34 3 := by rw [AJ.2.1]; split <;> omega
            have U3 := AJ.2.2.2
            have F31 : FRc u31 := frc_k i12 (fun cc x z => U3 cc x (by omega) (by omega))
            have h7 : ∀ cc : Nat, cc = 34 → u24 cc 7 = h cc 7 := fun cc z => by
              subst z
              rw [i9 34 7 (by omega) (by omega) (by omega) (by omega) (by omega) (by omega) (by omega) (by omega), W21 34 7 (by omega) (by omega) (by omega)]
              exact x9 34 7 (by omega) (by omega) (by omega) (by omega) (by omega) (by omega) (by omega) (by omega)
            have h70 : 0 ≤ h 34 7 := by have := B.2.1.1; omega
            rw [j1]
            refine pc_sv (c_aimHere (by omega) (by omega) (by rw [U3 34 7 (by omega) (by omega), h7 34 rfl]; exact h70) (by omega) F31) ?_; intro u34 A4
            obtain ⟨F34, U4⟩ := cah_fr F31 A4
            rw [U4 2 10 (by omega) (by omega) (by omega), U3 2 10 (by omega) (by omega), i1]
            refine pc_add (by omega) ?_; intro v37 e37
            refine pc_xl ?_; intro h38 e38
            rw [show v37 = ((uu + 1 : Nat) : Int) by omega] at e38
            have E38 : ∀ cc x : Nat, ¬ (cc = 2 ∧ x = 10) → h38 cc x = u34 cc x := fun cc x z => by rw [e38, up_n z]
            have W38 : ∀ cc x : Nat, ¬ (cc = 2 ∧ x = 10) → ¬ (cc = 34 ∧ (x = 1 ∨ x = 3 ∨ x = 14 ∨ x = 15)) → ¬ cc = 35 → ¬ (40 ≤ cc ∧ cc ≤ 42) → h38 cc x = u24 cc x := fun cc x z1 z2 z3 z4 => by rw [E38 cc x z1, U4 cc x z3 z4 (by omega)]; exact U3 cc x (by omega) (by omega)
            have b38 : h38 34 1 = u24 34 1 + 3 := by rw [E38 34 1 (by omega), U4 34 1 (by omega) (by omega) (by omega)]; exact b31
            have c38 : h38 34 3 = h 34 3 := by rw [E38 34 3 (by omega), U4 34 3 (by omega) (by omega) (by omega)]; exact c31
            have a38 : h38 49 18 = h 49 18 := by rw [W38 49 18 (by omega) (by omega) (by omega) (by omega), i9 49 18 (by omega) (by omega) (by omega) (by omega) (by omega) (by omega) (by omega) (by omega)]; exact a18
            have o38 : h38 49 10 = h 49 10 := by rw [W38 49 10 (by omega) (by omega) (by omega) (by omega), i11.1]; exact o21
            have F38 : FRc h38 := frc_k F34 (fun cc x z => E38 cc x (by omega))
            have Q38 : EPr X (dp + 1) (uu + 1) h38 v2.2 := ⟨bx_k B2 (fun cc x z => W38 cc x (by omega) (by omega) (by omega) (by omega)) (fun _ _ _ => rfl), ⟨by rw [e38, up_s], uc1, by rw [W38 2 11 (by omega) (by omega) (by omega) (by omega)]; exact i4, i5⟩, ⟨F38, ⟨by omega, by omega⟩, by omega, by omega⟩, by omega, by omega, by omega⟩
            refine pc_add (by omega) ?_; intro v39 e39
            rw [e39]
            have T2 : ∀ cc x : Nat, 163 ≤ cc ∧ cc ≤ 173 → v2.2 cc x = bT X cc x := fun cc x z => B2.2.2.2.2.2.1 cc x (by omega)
            have RK2' := RK2.1
            have GV3 := j_given3 (nn := nn) (X := X) (x := (qg_X10_readValue nn d).1 (dp + 1) h38) B2.1.1.2.2.1 T2 n8 (fun d2 => H3 EN d d2 h38 v2.2 Q38 (by omega)) (fun _ z => by omega)
            suffices GO3 : Pc (mx_sv ((qg_X10_readValue nn d).1 (dp + 1) h38) fun u41 => mx_sv (qf_X10_isPair nn (u24 49 12) (u41 49 12) u41) fun u44 => mx_sv (qf_X10_wantType nn u44 (t : Int) u41) fun u46 => mx_sv (qf_X4_fits nn 12 (u24 49 12) (u46 49 12) u46) fun u50 => if u50 = 0 then (qj_X10_readChoice_158 nn (qg_X10_readValue nn d) u28.1 (u24 49 12) u46) else (qj_X10_readChoice_158 nn (qg_X10_readValue nn d) u28.1 (u46 49 12) u46)) (fun uF => Pc (mx_sv ((qg_X13_condition nn d3).2.1 (bT X 172 e.toNat) v2.2) fun u95 => mx_sv (qf_X13_goTogether nn v2.1 u95.1 u95.2) fun u97 => if ¬ u97 = 0 then (qj_X13_rule_657 nn (qg_X13_condition nn d3) v2.1 u95.1 u95.2) else (rd_A 9000 168 e u95.2 fun v99 => mx_sv (qf_X13_wrong nn 6 v99 u95.2) fun u101 => qj_X13_rule_657 nn (qg_X13_condition nn d3) v2.1 u95.1 u101)) (CRz nn X a b p q e h r uF)) by
              refine pc_imp GO3 (fun uF HU => ?_)
              refine pc_rA ?_; intro _ _ v93 e93
              rw [T2 172 _ (by omega)] at e93
              rw [e93]
              exact HU
            refine p2_sv (GV3 d3) (fun u41 v3 hR => ?_)
            rcases hR with S3 | ⟨K3, n33, FX3⟩
            · exact pj_sf (o := fun u => u) (q := fun y => y.2) S3 (chf_3 S3.1 G) (rst_f2 (sf_r S3) Gt) (fun u y S => crz_s S)
            obtain ⟨⟨k1, k2, k3, k4, k5⟩, ⟨k6, k7, k8⟩, ⟨k9, k10, k11⟩, ⟨k12, k13, k14⟩, -⟩ := K3.1
            have B3 : BX X u41 v3.2 := bx_e Q38.1 k9 k10
            have e8 : v3.2 180 = bB X 180 := bx_180 B3
            have t68 : v3.2 168 e.toNat = (t : Int) := (B3.2.2.2.2.2.1 168 _ (by omega)).trans nd.2
            -- the reference
            have REFX : ∀ {QQ : Int × ms_M → Prop}, (PRt X (u24 49 12) (u41 49 12) → (FTS (bB X 180) (u24 49 12) (u41 49 12) → QQ (ty_T (u41 49 12), v3.2)) ∧ (¬ FTS (bB X 180) (u24 49 12) (u41 49 12) → QQ (ty_T (u24 49 12), v3.2))) → (¬ PRt X (u24 49 12) (u41 49 12) → ∀ y : Int × ms_M, y.2 160 9 = 6 → y.2 160 10 = bP X t → QQ y) → Pc (mx_sv (qf_X13_goTogether nn v2.1 v3.1 v3.2) fun u97 => if ¬ u97 = 0 then (qj_X13_rule_657 nn (qg_X13_condition nn d3) v2.1 v3.1 v3.2) else (rd_A 9000 168 e v3.2 fun v99 => mx_sv (qf_X13_wrong nn 6 v99 v3.2) fun u101 => qj_X13_rule_657 nn (qg_X13_condition nn d3) v2.1 v3.1 u101)) QQ := fun {QQ} HA HB => by
              rw [i6, k6]
              refine pc_sv (r_goP Y e8 ⟨i7, n3⟩ ⟨k7, n33⟩) ?_; intro u97 q97
              refine pc_if (fun z => ?_) (fun z => ?_)
              · have pr : PRt X (u24 49 12) (u41 49 12) := by
                  rcases q97 with y | y
                  · exact y.2
                  · exact absurd y.1 z
                unfold qj_X13_rule_657
                refine pc_sv (r_fit Y e8 i7 k7) ?_; intro u2 q2'
                refine pc_if (fun z0 => pc_ret ((HA pr).2 ?_)) (fun z0 => pc_ret ((HA pr).1 ?_))
                · rcases q2' with y | y
                  · omega
                  · exact y.2
                · rcases q2' with y | y
                  · exact y.2
                  · exact absurd y.1 z0
              · have npr : ¬ PRt X (u24 49 12) (u41 49 12) := by
                  rcases q97 with y | y
                  · omega
                  · exact y.2
                refine pc_rA ?_; intro _ _ v99 e99
                rw [t68] at e99
                refine pc_sv (r_wrong B3.1.1.2.2.1 tc k5 e99) ?_; intro u101 w1
                exact pc_imp (ft_qj_X13_rule_657 Gt (h := u101) (by omega)) (fun y F => HB npr y (F.1.trans w1.1) (F.2.trans w1.2))
            -- the class's end
            have FIN : ∀ ty : Int, VTn (bn X) ty ∧ ¬ ty = 303 → Pc (qj_X10_readChoice_158 nn (qg_X10_readValue nn d) u28.1 ty u41) (fun uF => CRz nn X a b p q e h r uF (ty_T ty, v3.2)) := fun ty vty => by
              unfold qj_X10_readChoice_158
              refine pc_xl ?_; intro h1 e1
              have E1 : ∀ cc x : Nat, ¬ (cc = 49 ∧ x = 12) → h1 cc x = u41 cc x := fun cc x z => by rw [e1, up_n z]
              have e13 := E1 34 3 (by omega)
              have e11 := E1 34 1 (by omega)
              refine pc_sv (c_pop (by omega) (by omega)) ?_; intro u4 A5
              have t4 : u4 49 12 = ty := by rw [A5.2 49 12 (by omega), e1, up_s]
              have c4 : 0 ≤ u4 34 3 ∧ u4 34 3 ≤ u41 34 3 ∧ (1 ≤ u41 34 3 → u4 34 3 = u41 34 3 - 1) := by rw [A5.1]; split <;> omega
              rw [t4]
              refine pc_sv (c_push (by omega)) ?_; intro u8 A6
              have U8 : ∀ cc x : Nat, ¬ (cc = 34 ∧ (x = 3 ∨ x = 4)) → ¬ cc = 36 → ¬ (cc = 49 ∧ x = 12) → u8 cc x = u41 cc x := fun cc x z1 z2 z3 => by rw [A6.2.2.2 cc x z1 (by omega), A5.2 cc x (by omega)]; exact E1 cc x z3
              have b8 : u8 34 1 = u41 34 1 := U8 34 1 (by omega) (by omega) (by omega)
              have F8 : FRc u8 := frc_k k12 (fun cc x z => U8 cc x (by omega) (by omega) (by omega))
              rw [j2]
              refine pc_sv (c_aimHere (by omega) (by omega) (by rw [U8 34 7 (by omega) (by omega) (by omega), k9 34 7 (by omega) (by omega) (by omega) (by omega) (by omega) (by omega) (by omega) (by omega), W38 34 7 (by omega) (by omega) (by omega) (by omega), h7 34 rfl]; exact h70) (by have := A6.1; omega) F8) ?_; intro u11 A7
              obtain ⟨F11, U11⟩ := cah_fr F8 A7
              refine pc_xl ?_; intro h12 e12
              refine pc_ret ?_
              have E12 : ∀ cc x : Nat, ¬ (cc = 49 ∧ x = 11) → h12 cc x = u11 cc x := fun cc x z => by rw [e12, up_n z]
              have TOT : ∀ cc x : Nat, ¬ (cc = 34 ∧ (x = 3 ∨ x = 4 ∨ x = 14 ∨ x = 15)) → ¬ (cc = 35 ∨ cc = 36) → ¬ (40 ≤ cc ∧ cc ≤ 42) → ¬ (cc = 49 ∧ (x = 11 ∨ x = 12)) → h12 cc x = u41 cc x := fun cc x z1 z2 z3 z4 => by rw [E12 cc x (by omega), U11 cc x (by omega) z3 (by omega)]; exact U8 cc x (by omega) (by omega) (by omega)
              have t11 : h12 49 11 = 0 := by rw [e12, up_s]
              have t12 : h12 49 12 = ty := by rw [E12 49 12 (by omega), U11 49 12 (by omega) (by omega) (by omega), A6.2.2.2 49 12 (by omega) (by omega)]; exact t4
              have g1 : h12 34 1 = u41 34 1 := TOT 34 1 (by omega) (by omega) (by omega) (by omega)
              have g3 : h12 34 3 = u4 34 3 + 1 := by rw [E12 34 3 (by omega), U11 34 3 (by omega) (by omega) (by omega)]; exact A6.1
              generalize hz : up_M v3.2 174 e.toNat (ty_T ty) = z0
              have Z0 : ∀ cc x : Nat, ¬ (cc = 174 ∧ x = e.toNat) → z0 cc x = v3.2 cc x := fun cc x z => by rw [← hz, up_n z]
              have z9 : z0 160 9 = 0 := (Z0 160 9 (by omega)).trans k5
              have CF : CFe h h12 := by
                refine cfe_t x9 (cfe_t (g := h21) (fun cc x z1 z2 z3 z4 z5 z6 z7 z8 => W21 cc x (by omega) (by omega) (by omega)) (cfe_t i9 (cfe_t (g := h38) (fun cc x z1 z2 z3 z4 z5 z6 z7 z8 => W38 cc x (by omega) (by omega) (by omega) z4) (cfe_t k9 (fun cc x z1 z2 z3 z4 z5 z6 z7 z8 => TOT cc x (by omega) z3 z4 (by omega))))))
              have SB : SGb h h12 := by
                refine sgb_t x11 (sgb_t (g := h21) ⟨W21 49 10 (by omega) (by omega) (by omega), fun cc x z1 z2 z3 => W21 cc x (by omega) (by omega) (by omega)⟩ (sgb_t i11 (sgb_t (g := h38) ⟨W38 49 10 (by omega) (by omega) (by omega) (by omega), fun cc x z1 z2 z3 => W38 cc x (by omega) (by omega) (by omega) (by omega)⟩ (sgb_t k11 ⟨TOT 49 10 (by omega) (by omega) (by omega) (by omega), fun cc x z1 z2 z3 => TOT cc x (by omega) (by omega) (by omega) (by omega)⟩))))
              have RF0 : RFe a b r v3.2 := rfe_t (rfe_t x10 i10 (a := a) (b := b) ⟨Int.le_refl _, by omega⟩ ⟨by omega, by omega⟩) k10 ⟨Int.le_refl _, Int.le_refl _⟩ ⟨by omega, Int.le_refl _⟩
              have RF : RFe a b r z0 := ⟨fun cc x z1 z2 z3 => (Z0 cc x (by omega)).trans (RF0.1 cc x z1 z2 z3), fun cc x z1 z2 z3 => (Z0 cc x (by omega)).trans (RF0.2 cc x z1 z2 z3)⟩
              refine crz_ok (z0 := z0) hz.symm z9 ⟨⟨⟨(TOT 2 10 (by omega) (by omega) (by omega) (by omega)).trans k1, k2, by omega, (TOT 2 11 (by omega) (by omega) (by omega) (by omega)).trans k4, z9⟩, ⟨by rw [t12], by rw [t12]; exact vty.1, by show z0 174 e.toNat = _; rw [← hz, up_s]⟩, ⟨CF, RF, SB⟩, ⟨frc_k F11 (fun cc x z => E12 cc x (by omega)), ⟨by omega, by omega⟩, by omega, by omega⟩, .inl ⟨.inr ⟨t11, fun z => by have := z.2; omega, by rw [t12]; exact vty.2⟩, fun _ => .inl ⟨by omega, by omega, fun z => by omega⟩, fun nq => ?_⟩⟩, trivial, fun _ => .inl t11⟩
              obtain ⟨⟨FH3, -⟩, FM3⟩ := (FX3 nq).2.2 nq
              rw [if_neg n33] at FH3
              refine ⟨⟨by rw [if_neg (by rw [t12]; exact vty.2)]; omega, cp_top A6 (by omega) (by omega) (fun x => by rw [E12 36 x (by omega), U11 36 x (by omega) (by omega) (by omega)]) t12⟩, mkc_one nl ne (fun PB WL L m dd M A z1 z2 => ?_)⟩
              have V1 : ∀ cc x : Nat, 174 ≤ cc → cc ≤ 176 → a ≤ (x : Int) → (x : Int) < e → z0 cc x = v1.2 cc x := fun cc x c1 c2 c4 c5 => by rw [Z0 cc x (by omega), k10.2 cc x c1 c2 (by omega)]; exact i10.2 cc x c1 c2 (by omega)
              have V2 : ∀ cc x : Nat, 174 ≤ cc → cc ≤ 176 → e + 1 ≤ (x : Int) → (x : Int) < y0 → z0 cc x = v2.2 cc x := fun cc x c1 c2 c4 c5 => by rw [Z0 cc x (by omega)]; exact k10.2 cc x c1 c2 (by omega)
              have V3 : ∀ cc x : Nat, 174 ≤ cc → cc ≤ 176 → y0 ≤ (x : Int) → (x : Int) < b → z0 cc x = v3.2 cc x := fun cc x c1 c2 c4 c5 => Z0 cc x (by omega)
              exact m_choice (v := z0) (ty := ty) (y0 := y0) (u1 := u1) (g1 := u17.2) (h21 := h21) (u24 := u24) (g3 := u31) (g4 := u34) (h38 := h38) (u41 := u41) (u46 := h1) (g5 := u4) (g6 := u8) (g7 := u11) ne yb M (mkc_v FM V1) A1 E21 (mkc_v FM2 V2) AJ A4 E38 (mkc_v FM3 V3) (fun cc x z => E1 cc x (by omega)) A5 A6 A7 (fun cc x z => E12 cc x (by omega)) nd.1 A (by rw [← hz, up_s]) z1 z2 (by omega) FH FH2 FH3 (by omega) (by omega) (by omega) (by omega) vty
            refine pc_sv (c_isPair Y B3 i7 k7) ?_; intro u44 q44
            rcases q44 with ⟨y1, pr⟩ | ⟨y1, npr⟩
            · rw [y1]
              refine pc_sv c_want1 ?_; intro u46 e46
              rw [e46]
              refine pc_sv (c_fit Y B3 i7 k7) ?_; intro u50 q50
              refine pc_if (fun z => ?_) (fun z => ?_)
              · have nf : ¬ FTS (bB X 180) (u24 49 12) (u41 49 12) := by
                  rcases q50 with y | y
                  · omega
                  · exact y.2
                exact pc_imp (FIN (u24 49 12) ⟨i7, n3⟩) (fun uF HU => REFX (fun _ => ⟨fun f => absurd f nf, fun _ => HU⟩) (fun z => absurd pr z))
              · have nf : FTS (bB X 180) (u24 49 12) (u41 49 12) := by
                  rcases q50 with y | y
                  · exact y.2
                  · exact absurd y.1 z
                exact pc_imp (FIN (u41 49 12) ⟨k7, n33⟩) (fun uF HU => REFX (fun _ => ⟨fun _ => HU, fun f => absurd nf f⟩) (fun z => absurd pr z))
            · rw [y1]
              refine c_wf B3.1.1.1.1 k4 tc rfl (fun g S => ?_) (fun uF y => REFX (fun z => absurd z npr) (fun _ y' y9 y10 => crz_f (c := 6) (by omega) y.1 y.2 y9 y10))
              refine pc_sv pc_any ?_; intro u50 _
              exact pc_if (fun _ => fs_qj_X10_readChoice_158 G S) (fun _ => fs_qj_X10_readChoice_158 G S)
          · rw [if_pos tb]
            unfold qj_X10_readChoice_24
            refine c_wf TB1 x4 q2 rfl (fun g S => chf_1 S G) (fun uF y w hw d3 => ?_)
            rcases hw.2.2 x5 (u1 49 12) x7 n303 x6 with ⟨y2, -⟩ | ⟨-, w1, w2⟩
            · exact absurd y2 tb
            · exact pc_imp (rst_f (by omega) (ftg_X13_condition nn d3)) (fun y' F => crz_f (c := 6) (by omega) y.1 y.2 (F.1.trans w1) (F.2.trans w2))
      · have FW : ¬ uF 2 11 = 0 ∧ w 160 9 = uF 2 11 ∧ w 160 10 = uF 2 12 := by
          rcases SV with SV | SV
          · have F := hw.1 (sf_r SV)
            exact ⟨SV.1, F.1.trans SV.2.1, F.2.trans SV.2.2⟩
          · obtain ⟨⟨s1, s2, s3, s4⟩, ⟨s5, s6, s7⟩, s8⟩ := SV
            obtain ⟨y1, y2⟩ := hw.2.1 s6 s5
            exact ⟨by omega, by omega, by rw [y2 ⟨s3, s4.1⟩, s2]⟩
        exact pc_imp (rst_f (by rw [FW.2.1]; exact FW.1) (ftg_X13_condition nn d3)) (fun y F => crz_f FW.1 rfl rfl (F.1.trans FW.2.1) (F.2.trans FW.2.2))
    intro uF eF
    refine w_one (by omega) q4 (r_nled (by rw [T 167 _ (by omega)]; exact nl)) (fun d3 => ?_) d2
    refine ru_39 ((T 167 _ (by omega)).trans nd.1) ?_
    refine pc_rA ?_; intro _ _ v85 e85
    rw [T 170 _ (by omega)] at e85
    rw [e85]
    exact pc_sb (r_condA Y TQ T L1 q2 (fun d => pc_imp (pc_and (K1 d uF eF) ((rkg_condition nn d).2.2.1 (a1 := bT X 170 e.toNat) (h := r) (by omega))) (fun v1 HZ w hw => HZ.1 HZ.2 w hw d3)) d3)
end
end

/- E of both sides: the rules of a sign -/
/-- what the rule of e answers behind its right side v2 -/
def RB (X : BCx) (e : Int) (ok : Int → Prop) (rt : Int → Int) (tk : Nat) (v2 y : Int × ms_M) : Prop := (¬ v2.2 160 9 = 0 → FSr v2.2 y.2) ∧ (v2.2 160 9 = 0 → v2.1 = 3 → y.2 160 9 = 6 ∧ (0 ≤ bT X 168 (bT X 171 e.toNat).toNat ∧ bT X 168 (bT X 171 e.toNat).toNat < (bc X : Int) → y.2 160 10 = bP X (bT X 168 (bT X 171 e.toNat).toNat).toNat)) ∧ (v2.2 160 9 = 0 → ∀ t : Int, VTn (bn X) t → ¬ t = 303 → v2.1 = ty_T t → (ok t ∧ y = (ty_T (rt t), v2.2)) ∨ (¬ ok t ∧ y.2 160 9 = 6 ∧ y.2 160 10 = bP X tk))
section
variable {nn : Nat} {X : BCx} {dp i l a b e s k : Int} {p q t : Nat} {h g u r w m : ms_M} {v : Int × ms_M}
theorem wd_fr (d : Nat) {x : Int} : Pc ((qg_X13_condition nn d).2.2.1 x r) (fun z => ∀ cc y : Nat, ¬ (cc = 160 ∧ (y = 9 ∨ y = 10 ∨ y = 57)) → ¬ cc = 199 → ¬ (174 ≤ cc ∧ cc ≤ 176) → z.2 cc y = r cc y) := fun z ez cc y c1 c2 c3 => (fg_X13_condition nn d).2.2.1 z ez cc y (nw_of (by unfold wl_X13_worked; simp only [List.mem_cons, List.not_mem_nil, or_false]; omega) (by unfold wf_X13_worked; simp only [List.mem_cons, List.not_mem_nil, or_false, Prod.mk.injEq]; omega))
theorem r_wr9 {x c : Int} (hf : r 160 9 = 0) : Pc (qf_X13_wrong nn c x r) (fun w => w 160 9 = c) := by
  unfold qf_X13_wrong
  refine pc_if (fun _ => ?_) (fun z => absurd hf z)
  refine pc_xl ?_; intro h2 e2
  refine pc_rA ?_; intro _ _ v3 e3
  refine pc_xl ?_; intro h4 e4
  exact pc_ret (by rw [e4, up_n (by omega), e2, up_s])
/-- .. and where the token is one -/
theorem r_wrb {x c : Int} (TQ : TBq (bK X) (bP X) (bc X) r) (hf : r 160 9 = 0) : Pc (qf_X13_wrong nn c x r) (fun w => w 160 9 = c ∧ (0 ≤ x ∧ x < (bc X : Int) → w 160 10 = bP X x.toNat)) := by
  by_cases z : 0 ≤ x ∧ x < (bc X : Int)
  · exact pc_imp (r_wrong TQ (p := x.toNat) (by omega) hf (by omega)) (fun w y => ⟨y.1, fun _ => y.2⟩)
  · exact pc_imp (r_wr9 hf) (fun w y => ⟨y, fun z2 => absurd z2 z⟩)
theorem ty_inj (n8 : bn X ≤ 8) {t t2 : Int} (A : VTn (bn X) t) (B : VTn (bn X) t2) (E : ty_T t = ty_T t2) : t = t2 := by
  have c1 := ty_c (vtn_v n8 A)
  have c2 := ty_c (vtn_v n8 B)
  omega
/-- the right side and its void -/
theorem r_side {Q : Int × ms_M → Prop} {K : Int × ms_M → Option (Int × ms_M)} (TQ : TBq (bK X) (bP X) (bc X) v.2) (T8 : v.2 168 (bT X 171 e.toNat).toNat = bT X 168 (bT X 171 e.toNat).toNat) (hf : v.2 160 9 = 0) (H3 : v.1 = 3 → ∀ w : ms_M, w 160 9 = 6 → (0 ≤ bT X 168 (bT X 171 e.toNat).toNat ∧ bT X 168 (bT X 171 e.toNat).toNat < (bc X : Int) → w 160 10 = bP X (bT X 168 (bT X 171 e.toNat).toNat).toNat) → Pc (K (3, w)) Q) (H : ¬ v.1 = 3 → Pc (K v) Q) : Pc (mx_sv (qf_X13_side nn (bT X 171 e.toNat) v.1 v.2) fun u => K u) Q := by
  unfold qf_X13_side
  by_cases z : v.1 = 3
  · rw [if_neg (fun y => y z)]
    refine pc_sb ?_
    refine pc_rA ?_; intro _ _ v2 e2
    rw [T8] at e2
    rw [e2]
    refine pc_sv (r_wrb TQ hf) ?_; intro u4 y
    rw [z]
    exact pc_ret (H3 z u4 y.1 y.2)
  · rw [if_pos z, mx_svs]
    exact H z
theorem r_both2 {d : Nat} {tk : Nat} {Q : Int × ms_M → Prop} (Y : CXs X) (hk : bK X tk = k) (kk : SGk k) (tc : tk < bc X) (ne : 0 ≤ e) (TQ : TBq (bK X) (bP X) (bc X) r) (hf : r 160 9 = 0) (T8 : ∀ cc x : Nat, 163 ≤ cc ∧ cc ≤ 173 → r cc x = bT X cc x) (e1 : bT X 168 e.toNat = (tk : Int)) (g1 : r 174 (bT X 170 e.toNat).toNat = ty_T s) (vs : VTn (bn X) s ∧ ¬ s = 303) (e8 : r 180 = bB X 180) (H : Pc ((qg_X13_condition nn d).2.2.1 (bT X 171 e.toNat) r) (fun v2 => ∀ y, RB X e (OKt X k s) (rt_T k) tk v2 y → Q y)) : Pc (qo_X13_both nn (qg_X13_condition nn d) e r) Q := by
  have n8 := Y.2.2.1
  have c3 := Y.1.2.1
  have k40 : 40 ≤ k ∧ k ≤ 72 ∧ ¬ k = 67 ∧ ¬ k = 69 := by unfold SGk at kk; omega
  have s3 : ¬ ty_T s = 3 := fun z => vs.2 ((ty_3 (X := X) n8 vs.1).mp z)
  unfold qo_X13_both
  refine pc_rA ?_; intro _ _ v47 e47
  rw [T8 168 _ (by omega), e1] at e47
  refine pc_rA ?_; intro _ _ v48 e48
  rw [e47, Int.toNat_natCast, TQ.2.2.2 tk (by omega), hk] at e48
  have I : ∀ k2 y : Int, (40 ≤ k2 ∧ k2 ≤ 72) → sv_T k2 = y → v48 = y → k = k2 := fun k2 y a b d => svt_i (by omega) a (by rw [← e48, b]; exact d)
  have N : ∀ k2 y : Int, sv_T k2 = y → ¬ v48 = y → ¬ k = k2 := fun k2 y b d z => d (by rw [e48, z]; exact b)
  rw [show qf_X13_sign nn 0 38 38 r = some 4902 from rfl, mx_svs]
  refine pc_if (fun z => absurd (I 67 4902 (by decide) (by decide) z) (by omega)) (fun _ => ?_)
  rw [show qf_X13_sign nn 0 124 124 r = some 15996 from rfl, mx_svs]
  refine pc_if (fun _ => ?_) (fun z => absurd (I 69 15996 (by decide) (by decide) (Classical.byContradiction z)) (by omega))
  refine pc_sv (r_ledv hf (T8 170 _ (by omega)) g1 s3) ?_; intro u52 q52
  rw [q52]
  dsimp only
  refine pc_rA ?_; intro _ _ v54 e54
  rw [T8 171 _ (by omega)] at e54
  refine pc_rA ?_; intro _ _ v56 e56
  rw [T8 171 _ (by omega)] at e56
  rw [e54, e56]
  refine pc_sv (pc_and H (wd_fr d)) ?_; intro v2 ⟨HV, F⟩
  have TQ2 : TBq (bK X) (bP X) (bc X) v2.2 := tbq_f TQ (fun cc x z => F cc x (by omega) (by omega) (by omega))
  have t68 : v2.2 168 e.toNat = (tk : Int) := by rw [F 168 _ (by omega) (by omega) (by omega), T8 168 _ (by omega)]; exact e1
  by_cases z9 : v2.2 160 9 = 0
  · refine r_side (X := X) (e := e) TQ2 (by rw [F 168 _ (by omega) (by omega) (by omega)]; exact T8 168 _ (by omega)) z9 (fun z3 w w9 w10 => ?_) (fun z3 => ?_)
    · refine pc_if (fun z => absurd (show w 160 9 = 0 from z) (by omega)) (fun _ => pc_ret (HV _ ⟨fun z => absurd z9 z, fun _ _ => ⟨w9, w10⟩, fun _ t2 y1 y2 y3 => absurd (y3.symm.trans z3) (fun y => y2 ((ty_3 (X := X) n8 y1).mp y))⟩))
    · refine pc_if (fun _ => ?_) (fun z => absurd z9 z)
      by_cases ex : ∃ t2 : Int, VTn (bn X) t2 ∧ ¬ t2 = 303 ∧ v2.1 = ty_T t2
      · obtain ⟨t2, vt, nt, et⟩ := ex
        have DONE : ∀ y : Int × ms_M, ((OKt X k s t2 ∧ y = (ty_T (rt_T k t2), v2.2)) ∨ (¬ OKt X k s t2 ∧ y.2 160 9 = 6 ∧ y.2 160 10 = bP X tk)) → Q y := fun y hy => HV y ⟨fun z => absurd z9 z, fun _ z => absurd z z3, fun _ t3 y1 y2 y3 => by rw [show t3 = t2 from ty_inj n8 y1 vt (by rw [← y3, et])]; exact hy⟩
        have cs := ty_c (vtn_v n8 vs.1)
        have ct := ty_c (vtn_v n8 vt)
        have P166 : (k = 52 ∨ k = 53) → Pc (qj_X13_both_166 nn (qg_X13_condition nn d) e (ty_T s) v2.1 v2.2) Q := fun k5 => by
          have er : ty_T (rt_T k t2) = 1 := by unfold rt_T; rw [if_pos (by omega)]; decide
          unfold qj_X13_both_166
          rw [et]
          refine pc_sv (r_goP Y (by rw [show v2.2 180 = r 180 from funext fun x => F 180 x (by omega) (by omega) (by omega)]; exact e8) vs ⟨vt, nt⟩) ?_; intro u15 q15
          refine pc_if (fun z => ?_) (fun z => ?_)
          · refine pc_ret (DONE _ (.inl ⟨.inl ⟨k5, ?_⟩, by rw [er]⟩))
            rcases q15 with y | y
            · exact y.2
            · exact absurd y.1 z
          · refine pc_rA ?_; intro _ _ v17 e17
            rw [t68] at e17
            refine pc_sv (r_wrong TQ2 tc z9 e17) ?_; intro u19 w1
            refine pc_ret (DONE _ (.inr ⟨fun f => ?_, w1⟩))
            rcases f with ⟨-, f⟩ | ⟨f, -⟩ | ⟨f, -⟩ | ⟨f, -⟩
            · rcases q15 with y | y
              · omega
              · exact y.2 f
            · omega
            · omega
            · omega
        have P247 : OKt X k s t2 → ¬ (k = 52 ∨ k = 53) → Pc (qj_X13_both_247 nn (qg_X13_condition nn d) e (ty_T s) v2.2) Q := fun okk n5 => by
          have est : s = t2 := by
            rcases okk with ⟨f, -⟩ | ⟨-, f, f2⟩ | ⟨-, f, -⟩ | ⟨-, f, -⟩
            · omega
            · omega
            · exact f
            · exact f
          unfold qj_X13_both_247
          refine pc_rA ?_; intro _ _ v2' e2
          rw [t68] at e2
          refine pc_sv (r_str Y.1 TQ2 e2 (by omega)) ?_; intro u4 q4
          rw [hk] at q4
          have s6 := st_6 kk (by omega)
          refine pc_if (fun z => pc_ret (DONE _ (.inl ⟨okk, ?_⟩))) (fun z => pc_ret (DONE _ (.inl ⟨okk, ?_⟩)))
          · have : 58 ≤ k := by unfold SGk at kk; omega
            unfold rt_T
            rw [if_neg (by omega), est]
          · have := s6.mp (by omega)
            unfold rt_T
            rw [if_pos (by omega)]
            rfl
        have P235 : ¬ OKt X k s t2 → Pc (qj_X13_both_235 nn (qg_X13_condition nn d) e (ty_T s) v2.2) Q := fun nok => by
          unfold qj_X13_both_235 qj_X13_both_247
          refine pc_rA ?_; intro _ _ v7 e7
          rw [t68] at e7
          refine pc_sv (r_wrong TQ2 tc z9 e7) ?_; intro u9 w1
          refine pc_rA ?_; intro _ _ v2' e2
          refine pc_sv pc_any ?_; intro u4 _
          exact pc_if (fun _ => pc_ret (DONE _ (.inr ⟨nok, w1⟩))) (fun _ => pc_ret (DONE _ (.inr ⟨nok, w1⟩)))
        have P213 : ¬ (k = 52 ∨ k = 53) → ∀ s0 : Int, (((k = 66 ∨ k = 68 ∨ k = 70) ∧ s0 = 1) ∨ (¬ (k = 66 ∨ k = 68 ∨ k = 70) ∧ s0 = 0)) → Pc (qj_X13_both_213 nn (qg_X13_condition nn d) e (ty_T s) v2.1 s0 v2.2) Q := fun n5 s0 hs0 => by
          have NO : ¬ (s = t2 ∧ (t2 = 301 ∨ ((k = 66 ∨ k = 68 ∨ k = 70) ∧ t2 = 302))) → ¬ OKt X k s t2 := fun n f => by
            rcases f with ⟨f, -⟩ | ⟨-, f1, f2⟩ | ⟨-, f1, f2⟩ | ⟨f0, f1, f2⟩
            · omega
            · exact n ⟨by omega, .inl f2⟩
            · exact n ⟨f1, .inl f2⟩
            · exact n ⟨f1, f2.elim .inl (fun y => .inr ⟨f0, y⟩)⟩
          unfold qj_X13_both_213
          rw [et]
          refine pc_if (fun z => P235 (NO (fun f => z (by rw [f.1])))) (fun z => ?_)
          have es : s = t2 := ty_inj n8 vs.1 vt (Classical.byContradiction z)
          refine pc_if (fun z0 => P247 ?_ n5) (fun z0 => ?_)
          · have y1 : t2 = 301 := by omega
            have kd : (54 ≤ k ∧ k ≤ 57) ∨ (58 ≤ k ∧ k ≤ 65) ∨ (k = 66 ∨ k = 68 ∨ k = 70) := by unfold SGk at kk; omega
            rcases kd with kd | kd | kd
            · exact .inr (.inl ⟨kd, by omega, y1⟩)
            · exact .inr (.inr (.inl ⟨kd, es, y1⟩))
            · exact .inr (.inr (.inr ⟨kd, es, .inl y1⟩))
          refine pc_if (fun z1 => P235 (NO (fun f => by omega))) (fun z1 => ?_)
          refine pc_if (fun z2 => P247 (.inr (.inr (.inr ⟨by omega, es, .inr (by omega)⟩))) n5) (fun z2 => P235 (NO (fun f => by omega)))
        rw [show qf_X13_sign nn 0 61 61 v2.2 = some 7869 from rfl, mx_svs]
        refine pc_if (fun z => P166 (.inl (I 52 7869 (by decide) (by decide) z))) (fun z5 => ?_)
        rw [show qf_X13_sign nn 0 33 61 v2.2 = some 4285 from rfl, mx_svs]
        have m52 := N 52 7869 (by decide) z5
        refine pc_if (fun z6 => ?_) (fun z => P166 (.inr (I 53 4285 (by decide) (by decide) (Classical.byContradiction z))))
        have m53 := N 53 4285 (by decide) z6
        unfold qj_X13_both_208
        refine pc_if (fun z => P213 (by omega) 1 (.inl ⟨.inl (I 66 38 (by decide) (by decide) z), rfl⟩)) (fun z7 => ?_)
        refine pc_if (fun z => P213 (by omega) 1 (.inl ⟨.inr (.inl (I 68 124 (by decide) (by decide) z)), rfl⟩)) (fun z8 => ?_)
        have m66 := N 66 38 (by decide) z7
        have m68 := N 68 124 (by decide) z8
        refine pc_if (fun z => P213 (by omega) 0 (.inr ⟨?_, rfl⟩)) (fun z => P213 (by omega) 1 (.inl ⟨.inr (.inr (I 70 94 (by decide) (by decide) (Classical.byContradiction z))), rfl⟩))
        have m70 := N 70 94 (by decide) z
        omega
      · exact fun y _ => HV y ⟨fun z => absurd z9 z, fun _ z => absurd z z3, fun _ t2 y1 y2 y3 => absurd ⟨t2, y1, y2, y3⟩ ex⟩
  · refine pc_sv (ft_qf_X13_side z9) ?_; intro u60 F6
    refine pc_if (fun z => absurd z (by rw [F6.1]; exact z9)) (fun _ => pc_ret (HV _ ⟨fun _ => F6, fun z => absurd z z9, fun z => absurd z z9⟩))
/-- && and || -/
theorem r_bothS {d : Nat} {tk : Nat} {Q : Int × ms_M → Prop} (Y : CXs X) (hk : bK X tk = 67 ∨ bK X tk = 69) (tc : tk < bc X) (ne : 0 ≤ e) (TQ : TBq (bK X) (bP X) (bc X) r) (hf : r 160 9 = 0) (T8 : ∀ cc x : Nat, 163 ≤ cc ∧ cc ≤ 173 → r cc x = bT X cc x) (e1 : bT X 168 e.toNat = (tk : Int)) (l1 : bT X 169 (bT X 170 e.toNat).toNat = (p : Int)) (pc : p < bc X) (l2 : bT X 169 (bT X 171 e.toNat).toNat = (t : Int)) (tc2 : t < bc X) (g1 : r 174 (bT X 170 e.toNat).toNat = ty_T s) (vs : VTn (bn X) s ∧ ¬ s = 303) (HN : ¬ s = 302 → ∀ y : Int × ms_M, y.2 160 9 = 6 → y.2 160 10 = bP X p → Q y) (H : s = 302 → Pc ((qg_X13_condition nn d).2.2.1 (bT X 171 e.toNat) r) (fun v2 => ∀ y, RB X e (fun x => x = 302) (fun _ => 302) t v2 y → Q y)) : Pc (qo_X13_both nn (qg_X13_condition nn d) e r) Q := by
  have n8 := Y.2.2.1
  have c3 := Y.1.2.1
  have s3 : ¬ ty_T s = 3 := fun z => vs.2 ((ty_3 (X := X) n8 vs.1).mp z)
  have s1 : ty_T s = 1 ↔ s = 302 := by have := ty_c (vtn_v n8 vs.1); omega
  have P36 : Pc (qj_X13_both_36 nn (qg_X13_condition nn d) e r) Q := by
    unfold qj_X13_both_36
    refine pc_sv (r_ledv hf (T8 170 _ (by omega)) g1 s3) ?_; intro u37 q37
    rw [q37]
    dsimp only
    refine pc_if (fun z => ?_) (fun z => ?_)
    · unfold qj_X13_both_62
      refine pc_rA ?_; intro _ _ v22 e22
      rw [T8 171 _ (by omega)] at e22
      refine pc_rA ?_; intro _ _ v24 e24
      rw [T8 171 _ (by omega)] at e24
      rw [e22, e24]
      refine pc_sv (pc_and (H (s1.mp z)) (wd_fr d)) ?_; intro v2 ⟨HV, F⟩
      have TQ2 : TBq (bK X) (bP X) (bc X) v2.2 := tbq_f TQ (fun cc x z => F cc x (by omega) (by omega) (by omega))
      by_cases z9 : v2.2 160 9 = 0
      · refine r_side (X := X) (e := e) TQ2 (by rw [F 168 _ (by omega) (by omega) (by omega)]; exact T8 168 _ (by omega)) z9 (fun z3 w w9 w10 => ?_) (fun z3 => ?_)
        · refine pc_if (fun z => absurd (show (3 : Int) = 1 from z) (by omega)) (fun _ => ?_)
          refine pc_rA ?_; intro _ _ v31 e31
          refine pc_rA ?_; intro _ _ v32 e32
          refine pc_sv (ft_qf_X13_wrong (h := w) (by omega)) ?_; intro u34 F4
          exact pc_ret (HV _ ⟨fun z => absurd z9 z, fun _ _ => ⟨F4.1.trans w9, fun hb => F4.2.trans (w10 hb)⟩, fun _ t2 y1 y2 y3 => absurd (y3.symm.trans z3) (fun y => y2 ((ty_3 (X := X) n8 y1).mp y))⟩)
        · have u1 : ∀ t2 : Int, VTn (bn X) t2 → (ty_T t2 = 1 ↔ t2 = 302) := fun t2 vt => by have := ty_c (vtn_v n8 vt); omega
          refine pc_if (fun z1 => pc_ret (HV _ ⟨fun z => absurd z9 z, fun _ z => absurd z z3, fun _ t2 y1 y2 y3 => .inl ⟨(u1 t2 y1).mp (by rw [← y3]; exact z1), rfl⟩⟩)) (fun z1 => ?_)
          refine pc_rA ?_; intro _ _ v31 e31
          rw [F 171 _ (by omega) (by omega) (by omega), T8 171 _ (by omega)] at e31
          refine pc_rA ?_; intro _ _ v32 e32
          rw [e31, F 169 _ (by omega) (by omega) (by omega), T8 169 _ (by omega), l2] at e32
          refine pc_sv (r_wrong TQ2 tc2 z9 e32) ?_; intro u34 w1
          exact pc_ret (HV _ ⟨fun z => absurd z9 z, fun _ z => absurd z z3, fun _ t2 y1 y2 y3 => .inr ⟨fun y => z1 (by rw [y3]; exact (u1 t2 y1).mpr y), w1⟩⟩)
      · refine pc_sv (ft_qf_X13_side z9) ?_; intro u28 F6
        have S6 : ¬ u28.2 160 9 = 0 := by rw [F6.1]; exact z9
        refine pc_if (fun z => pc_ret (HV _ ⟨fun _ => F6, fun z => absurd z z9, fun z => absurd z z9⟩)) (fun z => ?_)
        refine pc_rA ?_; intro _ _ v31 e31
        refine pc_rA ?_; intro _ _ v32 e32
        refine pc_sv (ft_qf_X13_wrong S6) ?_; intro u34 F4
        exact pc_ret (HV _ ⟨fun _ => ⟨F4.1.trans F6.1, F4.2.trans F6.2⟩, fun z => absurd z z9, fun z => absurd z z9⟩)
    · refine pc_rA ?_; intro _ _ v40 e40
      rw [T8 170 _ (by omega)] at e40
      refine pc_rA ?_; intro _ _ v41 e41
      rw [e40, T8 169 _ (by omega), l1] at e41
      refine pc_sv (r_wrong TQ pc hf e41) ?_; intro u43 w1
      refine pc_imp (ft_qj_X13_both_62 (ftg_X13_condition nn d) (by omega)) (fun y F => HN (fun z2 => z (s1.mpr z2)) y (by rw [F.1]; exact w1.1) (by rw [F.2]; exact w1.2))
  unfold qo_X13_both
  refine pc_rA ?_; intro _ _ v47 e47
  rw [T8 168 _ (by omega), e1] at e47
  refine pc_rA ?_; intro _ _ v48 e48
  rw [e47, Int.toNat_natCast, TQ.2.2.2 tk (by omega)] at e48
  rw [show qf_X13_sign nn 0 38 38 r = some 4902 from rfl, mx_svs]
  refine pc_if (fun z => P36) (fun z1 => ?_)
  rw [show qf_X13_sign nn 0 124 124 r = some 15996 from rfl, mx_svs]
  refine pc_if (fun z => absurd hk (fun y => ?_)) (fun z => P36)
  rcases y with y | y
  · exact z1 (by rw [e48, y]; decide)
  · exact z (by rw [e48, y]; decide)
end

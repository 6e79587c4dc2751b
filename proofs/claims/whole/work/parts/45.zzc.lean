/- E of both sides: a sign with two sides: the making -/
section
variable {nn : Nat} {X : BCx} {dp i l a b e s k : Int} {p q t : Nat} {h g u r w m : ms_M} {v : ms_M} {PB : Nat → Prop} {WL : Int → Int → Prop} {L : List (Int × Int)}
theorem r_oper {x : Int} (kk : SGk k) (k8 : 58 ≤ k) (hx : x = sv_T k) : Pc (qf_X13_operation nn x m) (fun u => u = aop_T k) := by
  have k70 : k ≤ 70 := by unfold SGk at kk; omega
  have I : ∀ k2 y : Int, (40 ≤ k2 ∧ k2 ≤ 72) → sv_T k2 = y → x = y → k = k2 := fun k2 y a b d => svt_i (by omega) a (by rw [← hx, b]; exact d)
  have N : ∀ k2 y : Int, sv_T k2 = y → ¬ x = y → ¬ k = k2 := fun k2 y b d z => d (by rw [hx, z]; exact b)
  unfold qf_X13_operation
  refine pc_if (fun n1 => ?_) (fun z => pc_ret (by rw [I 61 43 (by decide) (by decide) (Classical.byContradiction z)]; rfl))
  refine pc_if (fun n2 => ?_) (fun z => pc_ret (by rw [I 62 45 (by decide) (by decide) (Classical.byContradiction z)]; rfl))
  refine pc_if (fun n3 => ?_) (fun z => pc_ret (by rw [I 63 42 (by decide) (by decide) (Classical.byContradiction z)]; rfl))
  refine pc_if (fun n4 => ?_) (fun z => pc_ret (by rw [I 64 47 (by decide) (by decide) (Classical.byContradiction z)]; rfl))
  refine pc_if (fun n5 => ?_) (fun z => pc_ret (by rw [I 65 37 (by decide) (by decide) (Classical.byContradiction z)]; rfl))
  refine pc_if (fun n6 => ?_) (fun z => pc_ret (by rw [I 66 38 (by decide) (by decide) (Classical.byContradiction z)]; rfl))
  refine pc_if (fun n7 => ?_) (fun z => pc_ret (by rw [I 68 124 (by decide) (by decide) (Classical.byContradiction z)]; rfl))
  refine pc_if (fun n8 => ?_) (fun z => pc_ret (by rw [I 70 94 (by decide) (by decide) (Classical.byContradiction z)]; rfl))
  rw [show qf_X13_sign nn 0 60 60 m = some 7740 from rfl, mx_svs]
  refine pc_if (fun n9 => ?_) (fun z => pc_ret (by rw [I 58 7740 (by decide) (by decide) (Classical.byContradiction z)]; rfl))
  rw [show qf_X13_sign nn 0 62 62 m = some 7998 from rfl, mx_svs]
  refine pc_if (fun n10 => pc_ret ?_) (fun z => pc_ret (by rw [I 59 7998 (by decide) (by decide) (Classical.byContradiction z)]; rfl))
  have m1 := N 61 43 (by decide) n1
  have m2 := N 62 45 (by decide) n2
  have m3 := N 63 42 (by decide) n3
  have m4 := N 64 47 (by decide) n4
  have m5 := N 65 37 (by decide) n5
  have m6 := N 66 38 (by decide) n6
  have m7 := N 68 124 (by decide) n7
  have m8 := N 70 94 (by decide) n8
  have m9 := N 58 7740 (by decide) n9
  have m10 := N 59 7998 (by decide) n10
  rw [show k = 60 by unfold SGk at kk; omega]
  rfl
theorem st_5 (kk : SGk k) : st_T k = 5 ↔ (k = 52 ∨ k = 53) := by
  have D : k = 52 ∨ k = 53 ∨ k = 54 ∨ k = 55 ∨ k = 56 ∨ k = 57 ∨ k = 58 ∨ k = 59 ∨ k = 60 ∨ k = 61 ∨ k = 62 ∨ k = 63 ∨ k = 64 ∨ k = 65 ∨ k = 66 ∨ k = 68 ∨ k = 70 := by unfold SGk at kk; omega
  rcases D with rfl | rfl | rfl | rfl | rfl | rfl | rfl | rfl | rfl | rfl | rfl | rfl | rfl | rfl | rfl | rfl | rfl <;> decide
theorem mk_tbq (Y : CXs X) (M : MKx X PB WL L h m) : TBq (bK X) (bP X) (bc X) m := tbq_f Y.2.2.2.2.1 (fun cc x z => (mk_t M).1 cc x (by omega))
theorem m_bothN {d tk : Nat} {t2 : Int} {u1 u18 u2 : ms_M} (Y : CXs X) (ne : 0 ≤ e) (hk : bK X tk = k) (kk : SGk k) (tc : tk < bc X) (e1 : bT X 168 e.toNat = (tk : Int)) (M : MKx X PB WL L u1 m) (E18 : ∀ cc x : Nat, ¬ (cc = 2 ∧ x = 10) → ¬ (cc = 49 ∧ x = 10) → ¬ (50 ≤ cc ∧ cc ≤ 54) → u18 cc x = u1 cc x) (CR : MKC nn X (bT X 171 e.toNat) (e + 1) b (t + 1) q u18 u2 v) (CM : CSm nn X k t2 u2 u) (h2 : 2 ≤ u2 34 3) (vs : VTn (bn X) s) (vt : VTn (bn X) t2) (g1 : m 174 (bT X 170 e.toNat).toNat = ty_T s) (g2 : m 174 e.toNat = ty_T (rt_T k t2)) (OK : OKt X k s t2) (AM : AN (e + 1) b v m) (b57 : 0 ≤ m 160 57 ∧ m 160 57 + (b - (e + 1)) < 9000) (b88 : m 160 88 + 4 * (q : Int) ≤ 2000000000 + 4 * (t : Int)) (q3 : q ≤ 3001) (t3 : t < 3001) (l2 : u2 34 1 ≤ 900000) : Pc (qo_X13_workBoth nn (qg_X13_work nn d) e m) (fun w => MKx X PB WL L u w ∧ (m 160 88 ≤ w 160 88 ∧ w 160 88 + 4 * (t : Int) ≤ m 160 88 + 4 * (q : Int))) := by
  have n8 := Y.2.2.1
  have c3 := Y.1.2.1
  have k40 : 40 ≤ k ∧ k ≤ 72 ∧ ¬ k = 67 ∧ ¬ k = 69 := by unfold SGk at kk; omega
  have MT := (mk_t M).1
  have TQ := mk_tbq Y M
  unfold qo_X13_workBoth
  refine pc_rA ?_; intro _ _ v70 e70
  rw [MT 168 _ (by omega), e1] at e70
  refine pc_rA ?_; intro _ _ v71 e71
  rw [e70, Int.toNat_natCast, TQ.2.2.2 tk (by omega), hk] at e71
  have I : ∀ k2 y : Int, (40 ≤ k2 ∧ k2 ≤ 72) → sv_T k2 = y → v71 = y → k = k2 := fun k2 y a b d => svt_i (by omega) a (by rw [← e71, b]; exact d)
  have N : ∀ k2 y : Int, sv_T k2 = y → ¬ v71 = y → ¬ k = k2 := fun k2 y b d z => d (by rw [e71, z]; exact b)
  rw [show qf_X13_sign nn 0 38 38 m = some 4902 from rfl, mx_svs]
  refine pc_if (fun _ => ?_) (fun z => absurd (I 67 4902 (by decide) (by decide) (Classical.byContradiction z)) (by omega))
  unfold qj_X13_workBoth_29
  refine pc_if (fun z => absurd rfl z) (fun _ => ?_)
  rw [show qf_X13_sign nn 0 124 124 m = some 15996 from rfl, mx_svs]
  refine pc_if (fun _ => ?_) (fun z => absurd (I 69 15996 (by decide) (by decide) (Classical.byContradiction z)) (by omega))
  refine pc_rA ?_; intro _ _ v50 e50
  rw [MT 171 _ (by omega)] at e50
  rw [e50]
  have M18 : MKx X PB WL L u18 m := mkx_c M (fun cc x z1 z2 z3 => E18 cc x (by omega) (by omega) z3)
  refine pc_sv (pc_and (CR d PB WL L m M18 AM b57 (by omega)) (wk_an d)) ?_; intro u52 ⟨⟨M52, lb1, lb2⟩, AN52⟩
  have MT2 := (mk_t M52).1
  refine pc_rA ?_; intro _ _ v54 e54
  rw [MT2 168 _ (by omega), e1] at e54
  refine pc_sv (r_str Y.1 (mk_tbq Y M52) e54 (by omega)) ?_; intro u56 q56
  rw [hk] at q56
  have s5 := st_5 kk
  have CM2 := CM h2 PB WL L u52 M52 (by omega)
  have DN : ∀ x : Option ms_M, Pc x (fun w2 => MKx X PB WL L u w2 ∧ (u52 160 88 ≤ w2 160 88 ∧ w2 160 88 ≤ u52 160 88 + 2)) → Pc x (fun w => MKx X PB WL L u w ∧ (m 160 88 ≤ w 160 88 ∧ w 160 88 + 4 * (t : Int) ≤ m 160 88 + 4 * (q : Int))) := fun x H => pc_imp H (fun w2 y => ⟨y.1, by omega⟩)
  have ns : (s = 301 ∨ s = 302) ↔ (t2 = 301 ∨ t2 = 302) ∨ ¬ k < 58 ∧ (s = 301 ∨ s = 302) := by
    rcases OK with ⟨-, f⟩ | ⟨f, f1, f2⟩ | ⟨f, f1, f2⟩ | ⟨f, f1, f2⟩
    · rcases f with ⟨f1, f2, -⟩ | ⟨f1, f2⟩
      · omega
      · omega
    · omega
    · omega
    · omega
  have P190 : k < 58 → Pc (qj_X13_workBoth_190 nn (qg_X13_work nn d) e v71 u52) (fun w => MKx X PB WL L u w ∧ (m 160 88 ≤ w 160 88 ∧ w 160 88 + 4 * (t : Int) ≤ m 160 88 + 4 * (q : Int))) := fun k5 => by
    unfold qj_X13_workBoth_190
    refine pc_rA ?_; intro _ _ v15 e15
    rw [MT2 170 _ (by omega)] at e15
    refine pc_rA ?_; intro _ _ v16 e16
    rw [e15, AN52 174 _ (by omega) (by omega), g1] at e16
    have tn := ty_num (X := X) n8 vs
    have T2 : ∀ n : Int, ((t2 = 301 ∨ t2 = 302) → ¬ n = 0) → (¬ (t2 = 301 ∨ t2 = 302) → n = 0) → ∀ op : Int, op = cm_T k n → Pc (qj_X13_workBoth_315 nn (qg_X13_work nn d) op u52) (fun w => MKx X PB WL L u w ∧ (m 160 88 ≤ w 160 88 ∧ w 160 88 + 4 * (t : Int) ≤ m 160 88 + 4 * (q : Int))) := fun n n1 n2 op hop => by
      unfold qj_X13_workBoth_315
      rw [hop]
      refine pc_sv (CM2.1 k5 n n1 n2) ?_; intro w2 y
      exact pc_ret ⟨y.1, by omega⟩
    have P210 : ∀ s0 n : Int, ((s0 = 0 ∧ n = 1) ∨ (s0 = 1 ∧ n = 0)) → ((t2 = 301 ∨ t2 = 302) → ¬ n = 0) → (¬ (t2 = 301 ∨ t2 = 302) → n = 0) → Pc (qj_X13_workBoth_210 nn (qg_X13_work nn d) v71 s0 u52) (fun w => MKx X PB WL L u w ∧ (m 160 88 ≤ w 160 88 ∧ w 160 88 + 4 * (t : Int) ≤ m 160 88 + 4 * (q : Int))) := fun s0 n hs0 n1 n2 => by
      unfold qj_X13_workBoth_210
      rw [show qf_X13_sign nn 0 61 61 u52 = some 7869 from rfl, mx_svs]
      refine pc_if (fun z1 => ?_) (fun z => ?_)
      · have m52 := N 52 7869 (by decide) z1
        rw [show qf_X13_sign nn 0 33 61 u52 = some 4285 from rfl, mx_svs]
        refine pc_if (fun z2 => ?_) (fun z => ?_)
        · have m53 := N 53 4285 (by decide) z2
          refine pc_if (fun z3 => ?_) (fun z => T2 n n1 n2 161 (by rw [I 54 60 (by decide) (by decide) (Classical.byContradiction z)]; rfl))
          rw [show qf_X13_sign nn 0 62 61 u52 = some 7997 from rfl, mx_svs]
          have m54 := N 54 60 (by decide) z3
          refine pc_if (fun z4 => ?_) (fun z => T2 n n1 n2 162 (by rw [I 57 7997 (by decide) (by decide) (Classical.byContradiction z)]; rfl))
          have m57 := N 57 7997 (by decide) z4
          refine pc_if (fun z5 => T2 n n1 n2 164 ?_) (fun z => T2 n n1 n2 163 (by rw [I 56 62 (by decide) (by decide) (Classical.byContradiction z)]; rfl))
          have m56 := N 56 62 (by decide) z5
          rw [show k = 55 by unfold SGk at kk; omega]
          rfl
        · have e53 := I 53 4285 (by decide) (by decide) (Classical.byContradiction z)
          refine pc_if (fun z0 => T2 n n1 n2 160 ?_) (fun z0 => T2 n n1 n2 166 ?_)
          · rw [e53, show n = 1 by omega]; rfl
          · rw [e53, show n = 0 by omega]; rfl
      · have e52 := I 52 7869 (by decide) (by decide) (Classical.byContradiction z)
        refine pc_if (fun z0 => T2 n n1 n2 159 ?_) (fun z0 => T2 n n1 n2 165 ?_)
        · rw [e52, show n = 1 by omega]; rfl
        · rw [e52, show n = 0 by omega]; rfl
    refine pc_if (fun z => P210 0 1 (.inl ⟨rfl, rfl⟩) (fun _ => by omega) (fun z2 => ?_)) (fun z => P210 1 0 (.inr ⟨rfl, rfl⟩) (fun z2 => ?_) (fun _ => rfl))
    · have := tn.mp (by omega)
      omega
    · have := tn.mpr (by omega)
      omega
  refine pc_if (fun z => P190 (by have := s5.mp (by omega); omega)) (fun z5 => ?_)
  have n52 : ¬ k = 52 ∧ ¬ k = 53 := by
    have := s5
    omega
  have s6 := st_6 kk n52
  refine pc_if (fun z6 => ?_) (fun z => P190 (by have := s6.mp (by omega); omega))
  have k58 : 58 ≤ k := by
    unfold SGk at kk
    omega
  have er : rt_T k t2 = t2 := by unfold rt_T; rw [if_neg (by omega)]
  refine pc_sv (r_oper kk k58 e71) ?_; intro u57 q57
  rw [q57]
  obtain ⟨-, -, ⟨n1, n2, n3, n4⟩, -⟩ := mk_t M52
  refine DN _ (pc_svr (val := ty_T t2) (F := fun v61 u59 => mx_sv (qf_X13_turn nn 2 v61 u59) fun u63 => some u63) (pc_imp (r_put (by omega)) (fun u59 y => ?_)) (CM2.2 k58))
  rw [y.2.2 174 _ (by omega) (by omega), AN52 174 _ (by omega) (by omega), g2, er]
end

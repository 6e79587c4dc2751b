/- VERIFY: the states of a method, the reference -/
section
variable {nn : Nat} {Bf : Nat → Nat → Int} {nf : Nat → Nat} {cnt mx lc : Int} {B C D : Nat → Int} {n m b d k i L p q y : Nat} {M h g r h0 hb : ms_M} {t t2 c a op x rc : Int} {o : Option ST3} {s : ST3} {u : Int × ms_M}
theorem vr_s408 {qk : Int → Int → Int → Int → ms_M → Option (Int × ms_M)} {Q : Int × ms_M → Prop} (R : RMe Bf nf cnt k i h) (bg : BGn (cd_S (Bf k) (nf k) i) (cl_N (Bf k) (nf k) i) p) (IO : IOk (cd_S (Bf k) (nf k) i) (cl_N (Bf k) (nf k) i)) (HK : Pc (qk (8 + (k : Int)) (i : Int) rc ((p + (WD ((cd_S (Bf k) (nf k) i) p)).toNat : Nat) : Int) h) Q) : Pc (qj_X13_flows_408 nn qk (8 + (k : Int)) (i : Int) (p : Int) rc h) Q := by
  have pl := bgn_lt bg
  have wd := bgn_wd IO bg
  obtain ⟨l1, l2, l3, l4, l5⟩ := rme_l R
  unfold qj_X13_flows_408
  refine pc_sv (vr_code R (p := p) (by omega)) ?_; intro u2 q2
  rw [q2]
  refine pc_sv wd_r ?_; intro u3 q3
  refine pc_add (by omega) ?_; intro v4 e4
  rw [show v4 = ((p + (WD ((cd_S (Bf k) (nf k) i) p)).toNat : Nat) : Int) by omega]
  exact HK
theorem vr_s363 {qk : Int → Int → Int → Int → ms_M → Option (Int × ms_M)} {Q : Int × ms_M → Prop} (R : RMe Bf nf cnt k i h) (bg : BGn (cd_S (Bf k) (nf k) i) (cl_N (Bf k) (nf k) i) p) (IO : IOk (cd_S (Bf k) (nf k) i) (cl_N (Bf k) (nf k) i)) (HK : Pc (qk (8 + (k : Int)) (i : Int) (LSt ((cd_S (Bf k) (nf k) i) p)) ((p + (WD ((cd_S (Bf k) (nf k) i) p)).toNat : Nat) : Int) h) Q) : Pc (qj_X13_flows_363 nn qk (8 + (k : Int)) (i : Int) (p : Int) ((cd_S (Bf k) (nf k) i) p) h) Q := by
  have A : ∀ r : Int, r = LSt ((cd_S (Bf k) (nf k) i) p) → Pc (qj_X13_flows_408 nn qk (8 + (k : Int)) (i : Int) (p : Int) r h) Q := fun r er => by
    rw [er]; exact vr_s408 R bg IO HK
  unfold qj_X13_flows_363 qj_X13_flows_407
  refine pc_if (fun z => A 0 (by unfold LSt; rw [if_pos (by omega)])) (fun z => ?_)
  refine pc_if (fun z => A 0 (by unfold LSt; rw [if_pos (by omega)])) (fun z => ?_)
  refine pc_if (fun z => A 0 (by unfold LSt; rw [if_pos (by omega)])) (fun z => ?_)
  refine pc_if (fun z => A 0 (by unfold LSt; rw [if_pos (by omega)])) (fun z => ?_)
  exact pc_if (fun z => A 0 (by unfold LSt; rw [if_pos (by omega)])) (fun z => A 1 (by unfold LSt; rw [if_neg (by omega)]))
/-- one instruction behind its frame -/
theorem vr_s240 {qk : Int → Int → Int → Int → ms_M → Option (Int × ms_M)} (RB : RM0 Bf nf cnt k i h0 hb) (RZ : hb 160 136 = ((6000 * k + (ps_S (Bf k) (nf k) (kt_S (Bf k) (nf k) i 1) (pm_S (Bf k) (nf k) (kt_S (Bf k) (nf k) i 1)) + 1) : Nat) : Int)) (H : HGo Bf nf cnt) (G : MGd Bf nf cnt k i) (bg : BGn (cd_S (Bf k) (nf k) i) (cl_N (Bf k) (nf k) i) p) (K : RKs hb h) (S : STr cnt (Bf k (ma_S (Bf k) (nf k) i + 3)) (Bf k (ma_S (Bf k) (nf k) i + 4)) s h) (EM : mr_F Bf nf cnt k i = cn_V Bf nf cnt k i y p (s2_F Bf nf cnt k i p s)) (HK : ∀ (g : ms_M) (s2 : ST3), RKs hb g → STr cnt (Bf k (ma_S (Bf k) (nf k) i + 3)) (Bf k (ma_S (Bf k) (nf k) i + 4)) s2 g → mr_F Bf nf cnt k i = sl_F Bf nf cnt k i y (p + (WD ((cd_S (Bf k) (nf k) i) p)).toNat) (LSt ((cd_S (Bf k) (nf k) i) p)) s2 → Pc (qk (8 + (k : Int)) (i : Int) (LSt ((cd_S (Bf k) (nf k) i) p)) ((p + (WD ((cd_S (Bf k) (nf k) i) p)).toNat : Nat) : Int) g) (RMF Bf nf cnt k i h0)) : Pc (qj_X13_flows_240 nn qk (8 + (k : Int)) (i : Int) (p : Int) h) (RMF Bf nf cnt k i h0) := by
  obtain ⟨IO, E7, E8, F9⟩ := G
  have R := RB.1
  have Rh := rme_e R (rks_e K)
  obtain ⟨l1, l2, l3, l4, l5⟩ := rme_l R
  have pl := bgn_lt bg
  have wd := bgn_wd IO bg
  have c0 := rme_c R
  have BAD : ∀ (c : Int) (g : ms_M), RKs hb g → s2_F Bf nf cnt k i p s = .inl c → Pc (mx_sv (qf_X13_bad nn c (8 + (k : Int)) (i : Int) (p : Int) g) fun u => ck_B (u.1 = 0 ∨ u.1 = 1) <| some (u.1, u.2)) (RMF Bf nf cnt k i h0) := fun c g Kg e => by
    refine vr_badM (rm0_e RB (rks_e Kg)) ?_
    rw [EM, e]; rfl
  unfold qj_X13_flows_240
  refine pc_sv (vr_handled Rh S E8 F9) ?_; intro u14 ⟨O14, q14⟩
  have K14 := rks_t K (rks_o O14)
  refine pc_if (fun y14 => ?_) (fun y14 => BAD 12 u14.2 K14 ?_)
  · have HD : ∀ x : Nat, x < hn_S (Bf k) (nf k) i → HDs Bf nf cnt k i p s x := by
      rcases q14 with q | q
      · exact q.2
      · exact absurd q.1 y14
    have e1 : s2_F Bf nf cnt k i p s = pr_I (CRt Bf nf cnt k ((cd_S (Bf k) (nf k) i) p) ((cd_S (Bf k) (nf k) i) (p + 1))) (s3_F Bf nf cnt k i p (ap_F Bf nf cnt k i ((cd_S (Bf k) (nf k) i) p) ((cd_S (Bf k) (nf k) i) (p + 1)) s)) (.inl 11) := pr_t HD
    refine pc_sv (vr_right (rme_e R (rks_e K14)) H pl (str_o S O14)) ?_; intro u16 ⟨K16', S16, q16⟩
    have K16 := rks_t K14 K16'
    refine pc_if (fun y16 => ?_) (fun y16 => BAD 11 u16.2 K16 ?_)
    · have CR : CRt Bf nf cnt k ((cd_S (Bf k) (nf k) i) p) ((cd_S (Bf k) (nf k) i) (p + 1)) := by
        rcases q16 with q | q
        · exact q.2
        · exact absurd q.1 y16
      have e2 : s2_F Bf nf cnt k i p s = s3_F Bf nf cnt k i p (ap_F Bf nf cnt k i ((cd_S (Bf k) (nf k) i) p) ((cd_S (Bf k) (nf k) i) (p + 1)) s) := e1.trans (pr_t CR)
      refine pc_sv (vr_wanted R RZ H K16 S16 pl CR wd.1) ?_; intro u18 ⟨K18, Z⟩
      generalize ap_F Bf nf cnt k i ((cd_S (Bf k) (nf k) i) p) ((cd_S (Bf k) (nf k) i) (p + 1)) s = o at Z e2
      rcases Z with Z | ⟨s2, s3, s4, s5⟩
      · refine pc_if (fun w => absurd Z.2 w) (fun _ => BAD 12 u18.2 K18 ?_)
        rw [e2, Z.1]; rfl
      refine pc_if (fun _ => ?_) (fun w => absurd (show ¬ u18.1 = 0 by omega) w)
      rw [s3] at e2
      have R18 := rme_e R (rks_e K18)
      refine pc_sv (vr_code R18 (p := p) (by omega)) ?_; intro u20 q20
      rw [q20]
      refine pc_sv (pc_ok mv_jump) ?_; intro u21 q21
      have JJ : 153 ≤ (cd_S (Bf k) (nf k) i) p ∧ (cd_S (Bf k) (nf k) i) p ≤ 167 → JMP ((cd_S (Bf k) (nf k) i) p) := fun z => by
        have w0 : ∀ o : Int, o = 155 ∨ o = 156 ∨ o = 157 ∨ o = 158 → WD o = 0 := fun o z => by
          rcases z with e | e | e | e <;> (rw [e]; decide)
        have := w0 ((cd_S (Bf k) (nf k) i) p)
        unfold JMP
        omega
      refine pc_if (fun y21 => ?_) (fun y21 => ?_)
      · have nj : ¬ JMP ((cd_S (Bf k) (nf k) i) p) := fun w => by
          unfold JMP at w
          omega
        have e3 : s2_F Bf nf cnt k i p s = .inr s2 := e2.trans (pr_f nj)
        refine vr_s363 R18 bg IO (HK u18.2 s2 K18 s5 ?_)
        rw [EM, e3]; rfl
      have jm : JMP ((cd_S (Bf k) (nf k) i) p) := by
        rcases q21 with q | q
        · exact absurd q.1 y21
        · exact JJ q.2
      have w3 := wd.2
      rw [wd_jmp jm] at w3
      have e3 : s2_F Bf nf cnt k i p s = (match fo_F (Bf k) (nf k) i (aim_S (cd_S (Bf k) (nf k) i) p) with
        | none => .inl 12
        | some f => pr_I (FFt Bf nf cnt k i f s2) (.inr s2) (.inl 12)) := e2.trans (pr_t jm)
      refine pc_sv (vr_aim R18 (p := p) (by omega)) ?_; intro u23 q23
      rw [q23]
      refine pc_sv (vr_for R18) ?_; intro u25 q25
      unfold qj_X13_flows_352
      rcases q25 with ⟨f, f1, f2⟩ | ⟨f1, f2⟩
      · rw [f1] at e3
        have fl := fo_lt f1
        refine pc_if (fun w => absurd w (by omega)) (fun _ => ?_)
        rw [f2]
        refine vr_ffit (N := fun g => mx_sv (qf_X13_bad nn 12 (8 + (k : Int)) (i : Int) (p : Int) g) fun u11 => ck_B (u11.1 = 0 ∨ u11.1 = 1) <| some (u11.1, u11.2)) (G1 := qj_X13_flows_363 nn qk (8 + (k : Int)) (i : Int) (p : Int) ((cd_S (Bf k) (nf k) i) p)) R18 s5 fl (F9 f fl) (fun g Og FF => ?_) (fun g Og NF => BAD 12 g (rks_t K18 (rks_o Og)) (e3.trans (pr_f NF)))
        have Kg := rks_t K18 (rks_o Og)
        have e4 : s2_F Bf nf cnt k i p s = .inr s2 := e3.trans (pr_t FF)
        refine vr_s363 (rme_e R (rks_e Kg)) bg IO (HK g s2 Kg (str_o s5 Og) ?_)
        rw [EM, e4]; rfl
      · rw [f1] at e3
        exact pc_if (fun _ => BAD 12 u18.2 K18 e3) (fun w => absurd f2 w)
    · refine e1.trans (pr_f ?_)
      rcases q16 with q | q
      · omega
      · exact q.2
  · refine pr_f ?_
    rcases q14 with q | q
    · omega
    · exact q.2
/-- THE STATES -/
theorem vr_s155 (RB : RM0 Bf nf cnt k i h0 hb) (RZ : hb 160 136 = ((6000 * k + (ps_S (Bf k) (nf k) (kt_S (Bf k) (nf k) i 1) (pm_S (Bf k) (nf k) (kt_S (Bf k) (nf k) i 1)) + 1) : Nat) : Int)) (H : HGo Bf nf cnt) (G : MGd Bf nf cnt k i) {t0 : Nat} (T : GSo (cd_S (Bf k) (nf k) i) (cl_N (Bf k) (nf k) i) t0) (TL : is_S (cd_S (Bf k) (nf k) i) t0 = (cl_N (Bf k) (nf k) i)) : ∀ (f j y : Nat) (rc : Int) (s : ST3) (h : ms_M), j ≤ t0 → (cl_N (Bf k) (nf k) i) < y + is_S (cd_S (Bf k) (nf k) i) j → RKs hb h → STr cnt (Bf k (ma_S (Bf k) (nf k) i + 3)) (Bf k (ma_S (Bf k) (nf k) i + 4)) s h → mr_F Bf nf cnt k i = sl_F Bf nf cnt k i y (is_S (cd_S (Bf k) (nf k) i) j) rc s → Pc (qw_X13_flows_155 nn f (8 + (k : Int)) (i : Int) rc (is_S (cd_S (Bf k) (nf k) i) j : Int) h) (RMF Bf nf cnt k i h0) := by
  have R := RB.1
  obtain ⟨l1, l2, l3, l4, l5⟩ := rme_l R
  intro f
  induction f with
  | zero => intro j y rc s h _ _ _ _ _; exact pc_none
  | succ f ih =>
    intro j y rc s h hj hy K S EM
    have Rh := rme_e R (rks_e K)
    have RMh := rm0_e RB (rks_e K)
    have jL : is_S (cd_S (Bf k) (nf k) i) j ≤ (cl_N (Bf k) (nf k) i) := by
      by_cases e : j = t0
      · rw [e]; omega
      · have := (T j (by omega)).1
        omega
    cases y with
    | zero => omega
    | succ y =>
    unfold qw_X13_flows_155
    rw [Rh.2.2.1.2.2.2]
    refine pc_if (fun z => ?_) (fun z => ?_)
    · rw [sl_en (by omega)] at EM
      refine pc_if (fun w => ?_) (fun w => ?_)
      · rw [if_pos w] at EM
        exact pc_ret ⟨RMh.2.1, Rh.1.2.2.2, .inl ⟨rfl, EM, RMh.2.2⟩⟩
      · rw [if_neg w] at EM
        exact vr_badM RMh EM
    have jt : j < t0 := Classical.byContradiction fun w => by
      have : j = t0 := by omega
      rw [this] at z; omega
    have bg : BGn (cd_S (Bf k) (nf k) i) (cl_N (Bf k) (nf k) i) (is_S (cd_S (Bf k) (nf k) i) j) := (bgn_iff T TL).2 ⟨j, jt, rfl⟩
    rw [sl_cn (by omega)] at EM
    have es : is_S (cd_S (Bf k) (nf k) i) (j + 1) = is_S (cd_S (Bf k) (nf k) i) j + (WD ((cd_S (Bf k) (nf k) i) (is_S (cd_S (Bf k) (nf k) i) j))).toNat := rfl
    have wj := T j jt
    have P240 : ∀ (g : ms_M) (s1 : ST3), RKs hb g → STr cnt (Bf k (ma_S (Bf k) (nf k) i + 3)) (Bf k (ma_S (Bf k) (nf k) i + 4)) s1 g → s1_F Bf nf cnt k i (is_S (cd_S (Bf k) (nf k) i) j) rc s = s2_F Bf nf cnt k i (is_S (cd_S (Bf k) (nf k) i) j) s1 → Pc (qj_X13_flows_240 nn (qw_X13_flows_155 nn f) (8 + (k : Int)) (i : Int) (is_S (cd_S (Bf k) (nf k) i) j : Int) g) (RMF Bf nf cnt k i h0) := fun g s1 Kg Sg e => by
      rw [e] at EM
      refine vr_s240 RB RZ H G bg Kg Sg EM (fun g2 s2 K2 S2 E2 => ?_)
      have := ih (j + 1) y (LSt ((cd_S (Bf k) (nf k) i) (is_S (cd_S (Bf k) (nf k) i) j))) s2 g2 (by omega) (by omega) K2 S2 (by rw [es]; exact E2)
      rw [es] at this
      exact this
    have BAD : ∀ (c : Int) (g : ms_M), RKs hb g → s1_F Bf nf cnt k i (is_S (cd_S (Bf k) (nf k) i) j) rc s = .inl c → Pc (mx_sv (qf_X13_bad nn c (8 + (k : Int)) (i : Int) (is_S (cd_S (Bf k) (nf k) i) j : Int) g) fun u => ck_B (u.1 = 0 ∨ u.1 = 1) <| some (u.1, u.2)) (RMF Bf nf cnt k i h0) := fun c g Kg e => by
      refine vr_badM (rm0_e RB (rks_e Kg)) ?_
      rw [EM, e]; rfl
    refine pc_sv (vr_for Rh (x := (is_S (cd_S (Bf k) (nf k) i) j : Int))) ?_; intro u66 q66
    rcases q66 with ⟨fr, f1, f2⟩ | ⟨f1, f2⟩
    · have e1 := s1_so (cnt := cnt) (rc := rc) (s := s) f1
      have fl := fo_lt f1
      have F := G.2.2.2 fr fl
      rw [f2]
      have P234 : ∀ g : ms_M, RKs hb g → s1_F Bf nf cnt k i (is_S (cd_S (Bf k) (nf k) i) j) rc s = s2_F Bf nf cnt k i (is_S (cd_S (Bf k) (nf k) i) j) (tk_F Bf nf cnt k i fr) → Pc (qj_X13_flows_234 nn (qw_X13_flows_155 nn f) (8 + (k : Int)) (i : Int) (is_S (cd_S (Bf k) (nf k) i) j : Int) (fw_S (Bf k) (nf k) i fr : Int) g) (RMF Bf nf cnt k i h0) := fun g Kg e => by
        unfold qj_X13_flows_234
        refine pc_sv (vr_becomes (rme_e R (rks_e Kg)) fl F) ?_; intro u47 ⟨K47, S47⟩
        exact P240 u47 _ (rks_t Kg K47) S47 e
      have P194 : Pc (qj_X13_flows_194 nn (qw_X13_flows_155 nn f) (8 + (k : Int)) (i : Int) rc (is_S (cd_S (Bf k) (nf k) i) j : Int) (fw_S (Bf k) (nf k) i fr : Int) h) (RMF Bf nf cnt k i h0) := by
        unfold qj_X13_flows_194
        refine pc_if (fun w => absurd w (by omega)) (fun _ => ?_)
        refine pc_if (fun w => ?_) (fun w => ?_)
        · rw [if_pos w] at e1
          exact P234 h K e1
        · rw [if_neg w] at e1
          unfold qj_X13_flows_223
          refine vr_ffit (N := fun g => mx_sv (qf_X13_bad nn 12 (8 + (k : Int)) (i : Int) (is_S (cd_S (Bf k) (nf k) i) j : Int) g) fun u49 => ck_B (u49.1 = 0 ∨ u49.1 = 1) <| some (u49.1, u49.2)) (G1 := qj_X13_flows_234 nn (qw_X13_flows_155 nn f) (8 + (k : Int)) (i : Int) (is_S (cd_S (Bf k) (nf k) i) j : Int) (fw_S (Bf k) (nf k) i fr : Int)) Rh S fl F (fun g Og FF => P234 g (rks_t K (rks_o Og)) (e1.trans (pr_t FF))) (fun g Og NF => BAD 12 g (rks_t K (rks_o Og)) (e1.trans (pr_f NF)))
      refine pc_if (fun _ => P194) (fun _ => ?_)
      exact pc_if (fun _ => P194) (fun w => absurd (show ¬ (fw_S (Bf k) (nf k) i fr : Int) = -1 by omega) w)
    · have e1 := s1_no (cnt := cnt) (rc := rc) (s := s) f1
      refine pc_if (fun w => ?_) (fun w => ?_)
      · rw [if_neg w] at e1
        unfold qj_X13_flows_194
        exact pc_if (fun _ => P240 h s K S e1) (fun w => absurd f2 w)
      · rw [if_pos (show rc = 0 by omega)] at e1
        exact pc_if (fun w => absurd f2 w) (fun _ => BAD 10 h K e1)
/-- THE STATE AT THE BEGINNING -/
theorem vr_s105 (R : RM0 Bf nf cnt k i h0 hb) (H : HGo Bf nf cnt) (G : MGd Bf nf cnt k i) (EM : mr_F Bf nf cnt k i = sl_F Bf nf cnt k i ((cl_N (Bf k) (nf k) i) + 1) 0 1 (bs_F Bf nf cnt k i)) {m2 z0 : Nat} (PI : pi_S (Bf k) (nf k) (kt_S (Bf k) (nf k) i 1) = some m2) (hz : (m2 : Int) + (z0 : Int) ≤ (Bf k (ma_S (Bf k) (nf k) i + 4))) (B1 : ∀ j : Nat, j < m2 → (bs_F Bf nf cnt k i).1 (z0 + j) = pk_F Bf nf cnt k (kt_S (Bf k) (nf k) i 1) j) (VP : ∀ j : Nat, j < m2 → VTq cnt (pk_F Bf nf cnt k (kt_S (Bf k) (nf k) i 1) j)) (VA : ∀ j : Nat, j < 30 → VTq cnt ((bs_F Bf nf cnt k i).1 j)) : ∀ (f p : Nat) (h : ms_M), p ≤ m2 → RM0 Bf nf cnt k i h0 h → h 160 131 = 0 → (∀ j : Nat, (j : Int) < (Bf k (ma_S (Bf k) (nf k) i + 4)) → (j < z0 + p ∨ z0 + m2 ≤ j) → TYj ((bs_F Bf nf cnt k i).1 j) (h 243 j)) → Pc (qw_X13_flows_105 nn f (8 + (k : Int)) (i : Int) ((z0 + p : Nat) : Int) ((6000 * k + ps_S (Bf k) (nf k) (kt_S (Bf k) (nf k) i 1) p : Nat) : Int) h) (RMF Bf nf cnt k i h0) := by
  have n6 := rme_n6 R.1
  have c8 := (rme_c R.1).2
  have g30 := (rme_m R.1).2.2.1
  obtain ⟨em, t1, KM⟩ := ps_ok PI
  have rg := mkd_rg KM
  obtain ⟨i1, i2, i3⟩ := tg_in (B := Bf k) (n := nf k) (k := kt_S (Bf k) (nf k) i 1) (by omega)
  obtain ⟨a1, a2, a3⟩ := rme_k2 R.1 i1 i2
  have a4 := a2.2.1 (by omega)
  have ena : na_S (Bf k) (nf k) (kt_S (Bf k) (nf k) i 1) = pl_S (Bf k) (nf k) (kt_S (Bf k) (nf k) i 1) + 2 := rfl
  intro f
  induction f with
  | zero => intro p h _ _ _ _; exact pc_none
  | succ f ih =>
    intro p h hp Rh e131 W
    have rp := rg p hp
    unfold qw_X13_flows_105
    refine pc_rA ?_; intro _ _ v74 e74
    rw [Int.toNat_natCast, tb_by Rh.1.1.2.1 (rme_hk Rh.1) (by omega)] at e74
    refine pc_if (fun z => ?_) (fun z => ?_)
    · have pm : p = m2 := Classical.byContradiction fun w => absurd (e74.symm.trans z) (KM.2.1 p (by omega)).2
      refine pc_add (by omega) ?_; intro v75 e75
      refine pc_xl ?_; intro h76 e76
      have F76 : ∀ x y : Nat, ¬ (x = 160 ∧ y = 136) → h76 x y = h x y := fun x y w => by rw [e76, up_n w]
      have R76 : RM0 Bf nf cnt k i h0 h76 := rm0_e Rh ⟨fun x y z1 z2 z3 => F76 x y (by omega), fun z => by rw [F76 160 117 (by omega)]; exact z⟩
      obtain ⟨t0, T, TL⟩ := G.1
      refine vr_s155 R76 (by rw [e76, up_s, em, ← pm]; omega) H G T TL nn 0 ((cl_N (Bf k) (nf k) i) + 1) 1 (bs_F Bf nf cnt k i) h76 (Nat.zero_le _) (by omega) rks_r ⟨⟨VA, fun j hj => absurd hj (Nat.not_lt_zero _), by show ((0 : Nat) : Int) ≤ (Bf k (ma_S (Bf k) (nf k) i + 3)); omega⟩, fun j hj => ?_, fun j hj => absurd hj (Nat.not_lt_zero _), by rw [F76 160 131 (by omega)]; exact e131⟩ EM
      rw [F76 243 j (by omega)]
      exact W j hj (by omega)
    · have pl : p < m2 := Classical.byContradiction fun w => z (by rw [e74, show p = m2 by omega]; exact KM.2.2.1.1)
      have ks := kd_s (KM.2.1 p pl).1
      have rq := rg (p + 1) (by omega)
      refine pc_sv (vr_typ Rh.1 ks.1 (by omega) rfl) ?_; intro u79 ⟨O, e120, q79⟩
      refine pc_wA ?_; intro _ _ h80 e80
      rw [Int.toNat_natCast] at e80
      have F80 : ∀ x y : Nat, ¬ (x = 243 ∧ y = z0 + p) → h80 x y = u79.2 x y := fun x y w => by rw [e80, up_n w]
      refine pc_add (by omega) ?_; intro v81 e81
      rw [show v81 = ((z0 + (p + 1) : Nat) : Int) by omega, F80 160 120 (by omega), e120]
      have V := VP p pl
      have TJ : TYj (pk_F Bf nf cnt k (kt_S (Bf k) (nf k) i 1) p) u79.1 := by
        have m1 := vt_m1 c8 V
        have q79 : TKo (pk_F Bf nf cnt k (kt_S (Bf k) (nf k) i 1) p) u79.1 := q79
        rcases q79 with q | q
        · exact tyo_j q m1.1
        · exact absurd q.1 m1.2
      have R80 : RM0 Bf nf cnt k i h0 h80 := rm0_e (rm0_e Rh (rke_o O)) ⟨fun x y z1 z2 z3 => F80 x y (by omega), fun z => by rw [F80 160 117 (by omega)]; exact z⟩
      refine ih (p + 1) h80 (by omega) R80 (by rw [F80 160 131 (by omega), O.1 160 131 (by omega) (by omega) (by omega)]; exact e131) (fun j hj w => ?_)
      by_cases e : j = z0 + p
      · rw [e, e80, up_s, B1 p pl]; exact TJ
      · rw [F80 243 j (by omega), O.1 243 j (by omega) (by omega) (by omega)]; exact W j hj (by omega)
theorem vr_flows2 (H : HGo Bf nf cnt) (G : MGd Bf nf cnt k i) (EM : mr_F Bf nf cnt k i = sl_F Bf nf cnt k i ((cl_N (Bf k) (nf k) i) + 1) 0 1 (bs_F Bf nf cnt k i)) : ∀ (f j : Nat) (h : ms_M), RM0 Bf nf cnt k i h0 h → (j : Int) ≤ (Bf k (ma_S (Bf k) (nf k) i + 4)) ∨ j = 0 → (∀ x : Nat, x < j → h 243 x = 0) → Pc (qw_X13_flows_2 nn f (8 + (k : Int)) (i : Int) (j : Int) h) (RMF Bf nf cnt k i h0) := by
  intro f
  induction f with
  | zero => intro j h _ _ _; exact pc_none
  | succ f ih =>
    intro j h R hj W
    have n6 := rme_n6 R.1
    have i12 := rme_i R.1
    have c8 := (rme_c R.1).2
    have gm := rme_m R.1
    have g30 := gm.2.2.1
    obtain ⟨l1, l2, l3, l4, l5⟩ := rme_l R.1
    have hk' := R.1.2.1.1
    obtain ⟨Gk, Ok, zx, zk, z2⟩ := H.2 k hk'
    obtain ⟨m2, PI, ml⟩ := gm.2.1
    have PI : pi_S (Bf k) (nf k) (kt_S (Bf k) (nf k) i 1) = some m2 := PI
    obtain ⟨em, t1, KM⟩ := ps_ok PI
    have b01 := gm.1.1
    have KA := Ok.1.2.1.2 i R.1.2.1.2
    have VP : ∀ j : Nat, j < m2 → VTq cnt (pk_F Bf nf cnt k (kt_S (Bf k) (nf k) i 1) j) := fun j hj => by
      have kd := kd_s (KM.2.1 j hj).1
      rcases kq_is (Bf := Bf) (nf := nf) H.1 kd.1 with w | w
      · exact absurd w.1 kd.2.2.2
      · rcases w.2.2.2.2.2 with v | v
        · exact absurd v (KA.1 j (by omega))
        · exact v
    have BS : ∀ j : Nat, (bs_F Bf nf cnt k i).1 j = if Bf k (ma_S (Bf k) (nf k) i) = 0 then (if j = 0 then 8 + (k : Int) else if j - 1 < m2 then pk_F Bf nf cnt k (kt_S (Bf k) (nf k) i 1) (j - 1) else 304) else if j < m2 then pk_F Bf nf cnt k (kt_S (Bf k) (nf k) i 1) j else 304 := fun j => by
      rw [← em]; rfl
    have VA : ∀ j : Nat, j < 30 → VTq cnt ((bs_F Bf nf cnt k i).1 j) := fun j _ => by
      rw [BS j]
      by_cases zz : Bf k (ma_S (Bf k) (nf k) i) = 0
      · rw [if_pos zz]
        by_cases j0 : j = 0
        · rw [if_pos j0]
          refine .inr (.inr (.inr (.inr (.inl ?_))))
          unfold ISc
          omega
        · rw [if_neg j0]
          by_cases w : j - 1 < m2
          · rw [if_pos w]; exact VP _ w
          · rw [if_neg w]; exact .inl rfl
      · rw [if_neg zz]
        by_cases w : j < m2
        · rw [if_pos w]; exact VP j w
        · rw [if_neg w]; exact .inl rfl
    obtain ⟨i1, i2, i3⟩ := tg_in (B := Bf k) (n := nf k) (k := kt_S (Bf k) (nf k) i 1) (by omega)
    obtain ⟨a1, a2, a3⟩ := rme_k2 R.1 i1 i2
    have a4 := a2.2.1 (by omega)
    have ena : na_S (Bf k) (nf k) (kt_S (Bf k) (nf k) i 1) = pl_S (Bf k) (nf k) (kt_S (Bf k) (nf k) i 1) + 2 := rfl
    have p0 := KM.1.2.1
    unfold qw_X13_flows_2
    rw [R.1.2.2.2.2]
    refine pc_if (fun z => ?_) (fun z => ?_)
    · refine pc_xl ?_; intro h97 e97
      have F97 : ∀ x y : Nat, ¬ (x = 160 ∧ y = 131) → h97 x y = h x y := fun x y w => by rw [e97, up_n w]
      have R97 : RM0 Bf nf cnt k i h0 h97 := rm0_e R ⟨fun x y z1 z2 z3 => F97 x y (by omega), fun z => by rw [F97 160 117 (by omega)]; exact z⟩
      have e131 : h97 160 131 = 0 := by rw [e97, up_s]
      rw [R97.1.2.2.1.1]
      refine pc_xl ?_; intro v101 e101
      rw [oq_mul_eq (by omega) (by omega) (by omega)] at e101
      refine pc_add (by omega) ?_; intro v102 e102
      refine pc_rA ?_; intro _ _ v103 e103
      rw [show v102 = 12 * (k : Int) + i by omega, (rme_t R97.1).1] at e103
      rw [e103]
      refine pc_sv (vq_rbyte R97.1.1.2.1 (rme_hk R97.1) (by omega)) ?_; intro u105 q105
      have P68 : ∀ (z0 : Nat) (g : ms_M), (m2 : Int) + (z0 : Int) ≤ (Bf k (ma_S (Bf k) (nf k) i + 4)) → (∀ j : Nat, j < m2 → (bs_F Bf nf cnt k i).1 (z0 + j) = pk_F Bf nf cnt k (kt_S (Bf k) (nf k) i 1) j) → RM0 Bf nf cnt k i h0 g → g 160 131 = 0 → (∀ j : Nat, (j : Int) < (Bf k (ma_S (Bf k) (nf k) i + 4)) → (j < z0 ∨ z0 + m2 ≤ j) → TYj ((bs_F Bf nf cnt k i).1 j) (g 243 j)) → Pc (qj_X13_flows_68 nn (8 + (k : Int)) (i : Int) (z0 : Int) g) (RMF Bf nf cnt k i h0) := fun z0 g hz B1 Rg eg Wg => by
        obtain ⟨b1, -, -⟩ := rme_k2 Rg.1 i1 i2
        unfold qj_X13_flows_68
        rw [Rg.1.2.2.1.1]
        refine pc_xl ?_; intro v85 e85
        rw [oq_mul_eq (by omega) (by omega) (by omega)] at e85
        refine pc_xl ?_; intro v88 e88
        rw [oq_mul_eq (by omega) (by omega) (by omega)] at e88
        refine pc_sv (vq_rtx Rg.1.1.2.1 (rme_hk Rg.1) (j := i) (s := 1) R.1.2.1.2).2 ?_; intro u91 q91
        rw [q91]
        refine pc_add (by omega) ?_; intro v92 e92
        refine pc_rA ?_; intro _ _ v93 e93
        rw [show v92 = 256 * (k : Int) + kt_S (Bf k) (nf k) i 1 by omega, b1] at e93
        refine pc_add (by omega) ?_; intro v94 e94
        refine pc_add (by omega) ?_; intro v95 e95
        rw [show v95 = ((6000 * k + ps_S (Bf k) (nf k) (kt_S (Bf k) (nf k) i 1) 0 : Nat) : Int) by omega]
        exact vr_s105 Rg H G EM PI hz B1 VP VA nn 0 g (Nat.zero_le _) Rg eg (fun j hj w => Wg j hj w)
      refine pc_if (fun w => ?_) (fun w => ?_)
      · have nz : ¬ Bf k (ma_S (Bf k) (nf k) i) = 0 := by omega
        refine P68 0 h97 (by omega) (fun j hj => by rw [BS (0 + j), if_neg nz, if_pos (by omega), Nat.zero_add]) R97 e131 (fun j hj w => ?_)
        rw [BS j, if_neg nz, if_neg (by omega), F97 243 j (by omega), W j (by omega)]
        exact .inl ⟨rfl, rfl⟩
      · have zz : Bf k (ma_S (Bf k) (nf k) i) = 0 := by omega
        refine pc_xl ?_; intro v107 e107
        rw [oq_mul_eq (by omega) (by omega) (by omega)] at e107
        refine pc_add (by omega) ?_; intro v108 e108
        refine pc_wA ?_; intro _ _ h109 e109
        have e109 : h109 = up_M h97 243 0 v108 := e109
        have F109 : ∀ x y : Nat, ¬ (x = 243 ∧ y = 0) → h109 x y = h97 x y := fun x y w => by rw [e109, up_n w]
        have R109 : RM0 Bf nf cnt k i h0 h109 := rm0_e R97 ⟨fun x y z1 z2 z3 => F109 x y (by omega), fun z => by rw [F109 160 117 (by omega)]; exact z⟩
        refine P68 1 h109 (by omega) (fun j hj => by rw [BS (1 + j), if_pos zz, if_neg (by omega), if_pos (by omega), show 1 + j - 1 = j by omega]) R109 (by rw [F109 160 131 (by omega)]; exact e131) (fun j hj w => ?_)
        rw [BS j, if_pos zz]
        by_cases j0 : j = 0
        · rw [if_pos j0, j0, e109, up_s]
          unfold TYj
          omega
        · rw [if_neg j0, if_neg (by omega), F109 243 j (by omega), F97 243 j (by omega), W j (by omega)]
          exact .inl ⟨rfl, rfl⟩
    · refine pc_wA ?_; intro _ _ h112 e112
      rw [Int.toNat_natCast] at e112
      have F112 : ∀ x y : Nat, ¬ (x = 243 ∧ y = j) → h112 x y = h x y := fun x y w => by rw [e112, up_n w]
      refine pc_add (by omega) ?_; intro v113 e113
      rw [show v113 = ((j + 1 : Nat) : Int) by omega]
      refine ih (j + 1) h112 (rm0_e R ⟨fun x y z1 z2 z3 => F112 x y (by omega), fun z => by rw [F112 160 117 (by omega)]; exact z⟩) (.inl (by omega)) (fun x hx => ?_)
      by_cases e : x = j
      · rw [e, e112, up_s]
      · rw [F112 243 x (by omega)]; exact W x (by omega)
theorem vr_flows (R : RM0 Bf nf cnt k i h0 h) (H : HGo Bf nf cnt) (G : MGd Bf nf cnt k i) (EM : mr_F Bf nf cnt k i = sl_F Bf nf cnt k i ((cl_N (Bf k) (nf k) i) + 1) 0 1 (bs_F Bf nf cnt k i)) : Pc (qf_X13_flows nn (8 + (k : Int)) (i : Int) h) (RMF Bf nf cnt k i h0) := by
  unfold qf_X13_flows
  exact vr_flows2 H G EM nn 0 h R (.inr rfl) (fun x hx => absurd hx (by omega))
/-- METHOD FITS -/
theorem vr_method (H : HGo Bf nf cnt) (N : NKn Bf nf cnt) (S : RSv Bf nf h) (e98 : h 160 98 = cnt) (h7 : 0 ≤ h 160 117) (hk : (k : Int) < cnt) (hi : (i : Int) < mc_S (Bf k) (nf k)) : Pc (qf_X13_methodFits nn (8 + (k : Int)) (i : Int) h) (RMF Bf nf cnt k i h) := by
  unfold qf_X13_methodFits
  refine pc_sv (vr_at N S e98 h7 hk hi) ?_; intro u87 R87
  refine vr_8 (fun g1 R1 Z1 => ?_) nn 0 u87 R87 (fun q hq => absurd hq (by omega)) (by omega)
  have e0 : (0 : Int) = (is_S (cd_S (Bf k) (nf k) i) 0 : Int) := rfl
  rw [e0]
  refine vr_30 (fun g2 R2 IO B2 => ?_) nn 0 g1 R1 (fun x hx => absurd hx (by omega)) (fun p hp => .inr ⟨Z1 p hp, fun ⟨x, x1, _⟩ => absurd x1 (by omega)⟩)
  have E6 : fs_F (INo (cd_S (Bf k) (nf k) i) (cl_N (Bf k) (nf k) i)) (cl_N (Bf k) (nf k) i) = none := fs_z (fun q _ z => ino_ok z IO)
  obtain ⟨t0, T, TL⟩ := IO
  rw [show (0 : Int) = (is_S (cd_S (Bf k) (nf k) i) 0 : Int) from rfl]
  refine vr_97 ⟨t0, T, TL⟩ T TL R2 B2 (fun E7 => ?_) nn 0 (Nat.zero_le _) (fun x hx => absurd hx (by omega))
  refine vr_192 E6 E7 (fun g3 R3 B3 E8 => ?_) nn 0 g2 R2 B2 (Nat.zero_le _) (fun x hx => absurd hx (by omega))
  rw [show (-1 : Int) = lf_V (Bf k) (nf k) i 0 from rfl]
  refine vr_245 E6 E7 E8 (fun g4 R4 E9 => ?_) nn 0 g3 R3 B3 (Nat.zero_le _) (fun x hx => absurd hx (by omega))
  have GD : MGd Bf nf cnt k i := ⟨⟨t0, T, TL⟩, fs_e E7, fs_e E8, fun f hf => (Classical.byContradiction fun w => fs_e E9 f hf (fbd_iff.2 (fun v => w v.2)))⟩
  have EM : mr_F Bf nf cnt k i = sl_F Bf nf cnt k i ((cl_N (Bf k) (nf k) i) + 1) 0 1 (bs_F Bf nf cnt k i) := by
    unfold mr_F
    rw [E6]
    dsimp only
    rw [E7]
    dsimp only
    rw [E8]
    dsimp only
    rw [E9]
  refine pc_sv (vr_flows R4 H GD EM) ?_; intro u7 q7
  exact pc_ck (fun _ => pc_ret q7)
end

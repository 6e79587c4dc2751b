/- VERIFY: what an instruction makes of the state: the reference's side -/
section
variable {nn : Nat} {Bf : Nat → Nat → Int} {nf : Nat → Nat} {cnt mx lc : Int} {B C D : Nat → Int} {n m b d k i L p q : Nat} {M h g r h0 : ms_M} {t t2 c a op x : Int} {o : Option ST3} {o2 : Option (Int × ST3)} {s : ST3} {u : Int × ms_M}
/-- which of the rules an instruction has -/
theorem apF_1 (e : op = 1) : ap_F Bf nf cnt k i op a s = aU (Bf k (ma_S (Bf k) (nf k) i + 3)) 300 s := by
  unfold ap_F
  rw [if_pos e]
theorem apF_P (e : (2 ≤ op ∧ op ≤ 8) ∨ op = 16 ∨ op = 18) : ap_F Bf nf cnt k i op a s = aU (Bf k (ma_S (Bf k) (nf k) i + 3)) 301 s := by
  unfold ap_F
  rw [if_neg (show ¬ op = 1 by omega), if_pos e]
theorem apF_I (e : ARo op) : ap_F Bf nf cnt k i op a s = ((aW (FTq Bf nf cnt) 301 s).bind (aW (FTq Bf nf cnt) 301)).bind (aU (Bf k (ma_S (Bf k) (nf k) i + 3)) 301) := by
  have e2 := e
  unfold ARo at e2
  unfold ap_F
  rw [if_neg (show ¬ op = 1 by omega), if_neg (show ¬ ((2 ≤ op ∧ op ≤ 8) ∨ op = 16 ∨ op = 18) by omega), pr_t e]
theorem apF_L (e : op = 21 ∨ op = 25 ∨ op = 54 ∨ op = 58) : ap_F Bf nf cnt k i op a s = ap_L (FTq Bf nf cnt) (Bf k (ma_S (Bf k) (nf k) i + 3)) (Bf k (ma_S (Bf k) (nf k) i + 4)) op a s := by
  unfold ap_F
  rw [if_neg (show ¬ op = 1 by omega), if_neg (show ¬ ((2 ≤ op ∧ op ≤ 8) ∨ op = 16 ∨ op = 18) by omega), pr_f (show ¬ ARo op by unfold ARo; omega), if_pos e]
theorem apF_J (e : JMP op) : ap_F Bf nf cnt k i op a s = ap_J (FTq Bf nf cnt) op s := by
  have e2 := e
  unfold JMP at e2
  unfold ap_F
  rw [if_neg (show ¬ op = 1 by omega), if_neg (show ¬ ((2 ≤ op ∧ op ≤ 8) ∨ op = 16 ∨ op = 18) by omega), pr_f (show ¬ ARo op by unfold ARo; omega), if_neg (show ¬ (op = 21 ∨ op = 25 ∨ op = 54 ∨ op = 58) by omega), pr_t e]
theorem apF_A (e : op = 0 ∨ op = 46 ∨ op = 50 ∨ op = 79 ∨ op = 83 ∨ op = 87 ∨ op = 89 ∨ op = 116) : ap_F Bf nf cnt k i op a s = ap_A (FTq Bf nf cnt) (Bf k (ma_S (Bf k) (nf k) i + 3)) op s := by
  unfold ap_F
  rw [if_neg (show ¬ op = 1 by omega), if_neg (show ¬ ((2 ≤ op ∧ op ≤ 8) ∨ op = 16 ∨ op = 18) by omega), pr_f (show ¬ ARo op by unfold ARo; omega), if_neg (show ¬ (op = 21 ∨ op = 25 ∨ op = 54 ∨ op = 58) by omega), pr_f (show ¬ JMP op by unfold JMP; omega), if_pos (show op < 172 by omega)]
theorem apF_R (e : op = 172 ∨ op = 176 ∨ op = 177) : ap_F Bf nf cnt k i op a s = ap_R (FTq Bf nf cnt) (rk_F Bf nf cnt k (kt_S (Bf k) (nf k) i 1)) op s := by
  unfold ap_F
  rw [if_neg (show ¬ op = 1 by omega), if_neg (show ¬ ((2 ≤ op ∧ op ≤ 8) ∨ op = 16 ∨ op = 18) by omega), pr_f (show ¬ ARo op by unfold ARo; omega), if_neg (show ¬ (op = 21 ∨ op = 25 ∨ op = 54 ∨ op = 58) by omega), pr_f (show ¬ JMP op by unfold JMP; omega), if_neg (show ¬ op < 172 by omega), if_pos (show op < 180 by omega)]
theorem apF_M (e : op = 180 ∨ op = 181 ∨ op = 182 ∨ op = 184) : ap_F Bf nf cnt k i op a s = ap_M (FTq Bf nf cnt) (Bf k (ma_S (Bf k) (nf k) i + 3)) (rk_F Bf nf cnt k (kt_S (Bf k) (nf k) i 1)) (cq_F Bf nf cnt (Bf k) (nf k) (pt_S (Bf k) (nf k) a 0)) (fy_F Bf nf cnt k (pt_S (Bf k) (nf k) a 2)) (pk_F Bf nf cnt k (pt_S (Bf k) (nf k) a 2)) (pm_S (Bf k) (nf k) (pt_S (Bf k) (nf k) a 2)) (rk_F Bf nf cnt k (pt_S (Bf k) (nf k) a 2)) op s := by
  unfold ap_F
  rw [if_neg (show ¬ op = 1 by omega), if_neg (show ¬ ((2 ≤ op ∧ op ≤ 8) ∨ op = 16 ∨ op = 18) by omega), pr_f (show ¬ ARo op by unfold ARo; omega), if_neg (show ¬ (op = 21 ∨ op = 25 ∨ op = 54 ∨ op = 58) by omega), pr_f (show ¬ JMP op by unfold JMP; omega), if_neg (show ¬ op < 172 by omega), if_neg (show ¬ op < 180 by omega), if_pos (show op ≤ 184 by omega)]
theorem apF_O (e : 186 ≤ op) : ap_F Bf nf cnt k i op a s = ap_O (FTq Bf nf cnt) (Bf k (ma_S (Bf k) (nf k) i + 3)) (cq_F Bf nf cnt (Bf k) (nf k) a) op s := by
  unfold ap_F
  rw [if_neg (show ¬ op = 1 by omega), if_neg (show ¬ ((2 ≤ op ∧ op ≤ 8) ∨ op = 16 ∨ op = 18) by omega), pr_f (show ¬ ARo op by unfold ARo; omega), if_neg (show ¬ (op = 21 ∨ op = 25 ∨ op = 54 ∨ op = 58) by omega), pr_f (show ¬ JMP op by unfold JMP; omega), if_neg (show ¬ op < 172 by omega), if_neg (show ¬ op < 180 by omega), if_neg (show ¬ op ≤ 184 by omega)]
/-- types -/
theorem ty_301 : TYj 301 1 := .inr (.inl ⟨rfl, rfl⟩)
theorem ty_300 : TYj 300 2 := .inr (.inr (.inl ⟨rfl, rfl⟩))
theorem ty_200 : TYj 200 3 := .inr (.inr (.inr (.inl ⟨rfl, rfl⟩)))
theorem vr_typ (R : RMe Bf nf cnt k i h) {p e : Nat} (K : KDs (Bf k) p e) (he : e ≤ nf k) {v : Int} (ev : v = ((6000 * k + p : Nat) : Int)) : Pc (qf_X13_typeAt nn v h) (fun u => OTH h u.2 ∧ u.2 160 120 = ((6000 * k + e : Nat) : Int) ∧ TKo (kq_F Bf nf cnt (Bf k) p e) u.1) := by
  have N := R.1.1
  have ec := R.1.2.2.1
  rw [← ec] at N ⊢
  rw [ev]
  exact vr_kind N R.1.2.1 R.1.2.2.2 (rme_hk R) K he
theorem vr_kty (R : RMe Bf nf cnt k i h) (F : fk_S (Bf k) (nf k) t = true) (V : VTq cnt (fy_F Bf nf cnt k t)) : Pc (qf_X13_kindType nn (h 160 132) t h) (fun u => OTH h u.2 ∧ TYj (fy_F Bf nf cnt k t) u.1) := by
  have n6 := rme_n6 R
  unfold fk_S at F
  rw [Bool.and_eq_true] at F
  have t1 := of_decide_eq_true F.1
  have kd := kd_s (of_decide_eq_true F.2)
  obtain ⟨i1, i2, i3⟩ := tg_in (B := Bf k) (n := nf k) (k := t) (by omega)
  obtain ⟨a1, a2, a3⟩ := rme_k2 R i1 i2
  have a4 := a2.2.1 (by omega)
  unfold qf_X13_kindType
  rw [R.2.2.1.1]
  refine pc_xl ?_; intro v1 e1
  rw [oq_mul_eq (by omega) (by omega) (by omega)] at e1
  refine pc_xl ?_; intro v3 e3
  rw [oq_mul_eq (by omega) (by omega) (by omega)] at e3
  refine pc_add (by omega) ?_; intro v4 e4
  refine pc_rA ?_; intro _ _ v5 e5
  rw [show v4 = 256 * (k : Int) + t by omega, a1] at e5
  refine pc_add (by omega) ?_; intro v6 e6
  refine pc_add (by omega) ?_; intro v7 e7
  refine pc_sv (vr_typ R kd.1 (by omega) (v := v7) (by omega)) ?_; intro u9 ⟨O, _, q9⟩
  refine pc_ret ⟨O, ?_⟩
  have q9 : TKo (fy_F Bf nf cnt k t) u9.1 := q9
  rcases q9 with q | q
  · exact tyo_j q (by intro w; rw [w] at V; unfold VTq ISc at V; omega)
  · have := q.1
    rw [this] at V
    unfold VTq ISc at V
    have := (rme_c R).2
    omega
theorem vt_m1 (c8 : cnt ≤ 8) {x : Int} (V : VTq cnt x) : ¬ x = -1 ∧ ¬ x = 303 := by
  unfold VTq ISc at V
  omega
/-- CALLS -/
theorem vr_c129 (R : RMe Bf nf cnt k i h0) (K : RKs h0 h) (S : STr cnt (Bf k (ma_S (Bf k) (nf k) i + 3)) lc s h) (m30 : Bf k (ma_S (Bf k) (nf k) i + 3) ≤ 30) {v : Int} {m2 : Nat} (G : pi_S (Bf k) (nf k) t = some m2) (ev : v = ((6000 * k + ps_S (Bf k) (nf k) t (pm_S (Bf k) (nf k) t) : Nat) : Int)) (VR : rk_F Bf nf cnt k t = 303 ∨ VTq cnt (rk_F Bf nf cnt k t)) : Pc (qj_X13_calls_129 nn v h) (RSo cnt (Bf k (ma_S (Bf k) (nf k) i + 3)) lc h0 (if rk_F Bf nf cnt k t = 303 then some s else aU (Bf k (ma_S (Bf k) (nf k) i + 3)) (rk_F Bf nf cnt k t) s)) := by
  have Rh := rme_e R (rks_e K)
  have n6 := rme_n6 R
  have c8 := (rme_c R).2
  obtain ⟨em, t1, KM⟩ := ps_ok G
  have rg := mkd_rg KM m2 (Nat.le_refl _)
  obtain ⟨i1, i2, i3⟩ := tg_in (B := Bf k) (n := nf k) (k := t) (by omega)
  obtain ⟨a1, a2, a3⟩ := rme_k2 R i1 i2
  have a4 := a2.2.1 (by omega)
  have ena : na_S (Bf k) (nf k) t = pl_S (Bf k) (nf k) t + 2 := rfl
  have K3 := KM.2.2.2
  rw [em] at ev
  unfold qj_X13_calls_129
  refine pc_add (by omega) ?_; intro v1 e1
  refine pc_sv (vr_typ Rh K3 (by omega) (v := v1) (by omega)) ?_; intro u3 ⟨O, _, q3⟩
  have K2 := rks_t K (rks_o O)
  have S2 := str_o S O
  have q3 : TKo (rk_F Bf nf cnt k t) u3.1 := by unfold rk_F; rw [em]; exact q3
  have n304 : ¬ rk_F Bf nf cnt k t = 304 := by
    unfold rk_F
    rw [em]
    rcases kq_is (Bf := Bf) (nf := nf) (rme_c R) K3 with w | w
    · omega
    · exact w.2.2.1
  by_cases r3 : rk_F Bf nf cnt k t = 303
  · rw [if_pos r3]
    refine pc_if (fun _ => rs_yes K2 S2) (fun w => absurd ?_ w)
    unfold TKo TYo TYj at q3
    omega
  · rw [if_neg r3]
    have V : VTq cnt (rk_F Bf nf cnt k t) := by
      rcases VR with w | w
      · exact absurd w r3
      · exact w
    have m1 := (vt_m1 c8 V).1
    have TJ : TYj (rk_F Bf nf cnt k t) u3.1 := by
      rcases q3 with q | q
      · exact tyo_j q m1
      · exact absurd q.1 r3
    refine pc_if (fun w => ?_) (fun w => ?_)
    · exfalso
      unfold TYj at TJ
      omega
    have R3 := rme_e R (rks_e K2)
    refine pc_sv (vr_comes R3.2.2.2.1 K2 S2 m30 TJ V) ?_; intro u5 q5
    exact rs_t0 q5
theorem vr_c75 (R : RMe Bf nf cnt k i h0) (m30 : Bf k (ma_S (Bf k) (nf k) i + 3) ≤ 30) {v y : Int} {m2 : Nat} (G : pi_S (Bf k) (nf k) t = some m2) (ev : v = ((6000 * k + ps_S (Bf k) (nf k) t (pm_S (Bf k) (nf k) t) : Nat) : Int)) (VR : rk_F Bf nf cnt k t = 303 ∨ VTq cnt (rk_F Bf nf cnt k t)) (t4 : tg_S (Bf k) (nf k) a = 4) (t0 : tg_S (Bf k) (nf k) (pt_S (Bf k) (nf k) a 0) = 3) (c16 : 0 ≤ cq_F Bf nf cnt (Bf k) (nf k) (pt_S (Bf k) (nf k) a 0) ∧ cq_F Bf nf cnt (Bf k) (nf k) (pt_S (Bf k) (nf k) a 0) < 16) : ∀ (w p : Nat) (s : ST3) (h : ms_M), p ≤ 6 → RKs h0 h → STr cnt (Bf k (ma_S (Bf k) (nf k) i + 3)) lc s h → (∀ x : Nat, x < p → TYj (pk_F Bf nf cnt k t x) (h 245 x)) → Pc (qw_X13_calls_75 nn w a y v ((p : Int) - 1) h) (RSo cnt (Bf k (ma_S (Bf k) (nf k) i + 3)) lc h0 ((aPs (FTq Bf nf cnt) (pk_F Bf nf cnt k t) p s).bind (fun s => (if y = 0 then aW (FTq Bf nf cnt) (cq_F Bf nf cnt (Bf k) (nf k) (pt_S (Bf k) (nf k) a 0)) s else some s).bind (fun s => if rk_F Bf nf cnt k t = 303 then some s else aU (Bf k (ma_S (Bf k) (nf k) i + 3)) (rk_F Bf nf cnt k t) s)))) := by
  intro w
  induction w with
  | zero => intro p s h _ _ _ _; exact pc_none
  | succ w ih =>
    intro p s h p6 K S W
    have Rh := rme_e R (rks_e K)
    unfold qw_X13_calls_75
    cases p with
    | zero =>
      refine pc_if (fun _ => ?_) (fun z => absurd (show ((0 : Nat) : Int) - 1 < 0 by omega) z)
      show Pc _ (RSo cnt (Bf k (ma_S (Bf k) (nf k) i + 3)) lc h0 ((if y = 0 then aW (FTq Bf nf cnt) (cq_F Bf nf cnt (Bf k) (nf k) (pt_S (Bf k) (nf k) a 0)) s else some s).bind (fun s => if rk_F Bf nf cnt k t = 303 then some s else aU (Bf k (ma_S (Bf k) (nf k) i + 3)) (rk_F Bf nf cnt k t) s)))
      refine pc_if (fun z => ?_) (fun z => ?_)
      · rw [if_neg z]
        exact vr_c129 R K S m30 G ev VR
      · rw [if_pos (show y = 0 by omega)]
        refine pc_sv (vr_part Rh (w := 0) (by omega) t4) ?_; intro u10 q10
        rw [q10]
        refine pc_sv (vr_cls Rh t0) ?_; intro u12 ⟨O, q12⟩
        have K2 := rks_t K (rks_o O)
        refine pc_sv (vr_pullFit R K2 (str_o S O) m30 (tyo_j q12 (by omega))) ?_; intro u14 q14
        exact rs_j q14 (fun s2 S2 K3 => vr_c129 R K3 S2 m30 G ev VR)
    | succ p =>
      refine pc_if (fun z => absurd z (by omega)) (fun _ => ?_)
      refine pc_rA ?_; intro _ _ v18 e18
      rw [show (((p + 1 : Nat) : Int) - 1).toNat = p by omega] at e18
      have T := W p (by omega)
      rw [← e18] at T
      refine pc_se ?_; intro u20 e20
      have q20 := vr_pullFit (nn := nn) R K S m30 T u20 e20
      have f20 : ∀ j : Nat, u20.2 245 j = h 245 j := fun j => (ff_X13_pullFit nn) u20 e20 245 j (nw_ar rfl j)
      have ea : (aPs (FTq Bf nf cnt) (pk_F Bf nf cnt k t) (p + 1) s).bind (fun s => (if y = 0 then aW (FTq Bf nf cnt) (cq_F Bf nf cnt (Bf k) (nf k) (pt_S (Bf k) (nf k) a 0)) s else some s).bind (fun s => if rk_F Bf nf cnt k t = 303 then some s else aU (Bf k (ma_S (Bf k) (nf k) i + 3)) (rk_F Bf nf cnt k t) s)) = (aW (FTq Bf nf cnt) (pk_F Bf nf cnt k t p) s).bind (fun s => (aPs (FTq Bf nf cnt) (pk_F Bf nf cnt k t) p s).bind (fun s => (if y = 0 then aW (FTq Bf nf cnt) (cq_F Bf nf cnt (Bf k) (nf k) (pt_S (Bf k) (nf k) a 0)) s else some s).bind (fun s => if rk_F Bf nf cnt k t = 303 then some s else aU (Bf k (ma_S (Bf k) (nf k) i + 3)) (rk_F Bf nf cnt k t) s))) := by
        show ((aW (FTq Bf nf cnt) (pk_F Bf nf cnt k t p) s).bind (aPs (FTq Bf nf cnt) (pk_F Bf nf cnt k t) p)).bind _ = _
        cases aW (FTq Bf nf cnt) (pk_F Bf nf cnt k t p) s with
        | none => rfl
        | some s2 => rfl
      rw [ea]
      refine rs_j q20 (fun s2 S2 K3 => ?_)
      refine pc_add (by omega) ?_; intro v21 e21
      rw [show v21 = (p : Int) - 1 by omega]
      exact ih p s2 u20.2 (by omega) K3 S2 (fun x hx => by rw [f20 x]; exact W x (by omega))
theorem vr_c35 (R : RMe Bf nf cnt k i h0) (m30 : Bf k (ma_S (Bf k) (nf k) i + 3) ≤ 30) {y : Int} {m2 : Nat} (G : pi_S (Bf k) (nf k) t = some m2) (VP : ∀ j : Nat, j < pm_S (Bf k) (nf k) t → VTq cnt (pk_F Bf nf cnt k t j)) (VR : rk_F Bf nf cnt k t = 303 ∨ VTq cnt (rk_F Bf nf cnt k t)) (t4 : tg_S (Bf k) (nf k) a = 4) (t0 : tg_S (Bf k) (nf k) (pt_S (Bf k) (nf k) a 0) = 3) (c16 : 0 ≤ cq_F Bf nf cnt (Bf k) (nf k) (pt_S (Bf k) (nf k) a 0) ∧ cq_F Bf nf cnt (Bf k) (nf k) (pt_S (Bf k) (nf k) a 0) < 16) : ∀ (w p : Nat) (h : ms_M), p ≤ m2 → RKs h0 h → STr cnt (Bf k (ma_S (Bf k) (nf k) i + 3)) lc s h → (∀ x : Nat, x < p → TYj (pk_F Bf nf cnt k t x) (h 245 x)) → Pc (qw_X13_calls_35 nn w a y ((6000 * k + ps_S (Bf k) (nf k) t p : Nat) : Int) (p : Int) h) (RSo cnt (Bf k (ma_S (Bf k) (nf k) i + 3)) lc h0 ((aPs (FTq Bf nf cnt) (pk_F Bf nf cnt k t) m2 s).bind (fun s => (if y = 0 then aW (FTq Bf nf cnt) (cq_F Bf nf cnt (Bf k) (nf k) (pt_S (Bf k) (nf k) a 0)) s else some s).bind (fun s => if rk_F Bf nf cnt k t = 303 then some s else aU (Bf k (ma_S (Bf k) (nf k) i + 3)) (rk_F Bf nf cnt k t) s)))) := by
  have n6 := rme_n6 R
  have c8 := (rme_c R).2
  obtain ⟨em, t1, KM⟩ := ps_ok G
  have rg := mkd_rg KM
  obtain ⟨i1, i2, i3⟩ := tg_in (B := Bf k) (n := nf k) (k := t) (by omega)
  obtain ⟨a1, a2, a3⟩ := rme_k2 R i1 i2
  have a4 := a2.2.1 (by omega)
  have ena : na_S (Bf k) (nf k) t = pl_S (Bf k) (nf k) t + 2 := rfl
  have m6 := KM.1.2.2
  intro w
  induction w with
  | zero => intro p h _ _ _ _; exact pc_none
  | succ w ih =>
    intro p h hp K S W
    have Rh := rme_e R (rks_e K)
    have rp := rg p hp
    unfold qw_X13_calls_35
    refine pc_rA ?_; intro _ _ v25 e25
    rw [Int.toNat_natCast, tb_by Rh.1.2.1 (rme_hk Rh) (by omega)] at e25
    refine pc_if (fun z => ?_) (fun z => ?_)
    · have pm : p = m2 := Classical.byContradiction fun w => absurd (e25.symm.trans z) (KM.2.1 p (by omega)).2
      refine pc_sub (by omega) ?_; intro v26 e26
      rw [e26]
      have q := vr_c75 (nn := nn) (y := y) R m30 G (v := ((6000 * k + ps_S (Bf k) (nf k) t p : Nat) : Int)) (by rw [em, pm]) VR t4 t0 c16 nn p s h (by omega) K S W
      rw [← pm]
      exact q
    · have pl : p < m2 := Classical.byContradiction fun w => z (by rw [e25, show p = m2 by omega]; exact KM.2.2.1.1)
      have kd := (KM.2.1 p pl).1
      have ks := kd_s kd
      have rq := rg (p + 1) (by omega)
      refine pc_sv (vr_typ Rh ks.1 (by omega) rfl) ?_; intro u29 ⟨O, e120, q29⟩
      refine pc_wA ?_; intro _ _ h30 e30
      rw [Int.toNat_natCast] at e30
      have F30 : ∀ x y : Nat, ¬ (x = 245 ∧ y = p) → h30 x y = u29.2 x y := fun x y w => by rw [e30, up_n w]
      refine pc_add (by omega) ?_; intro v31 e31
      rw [show v31 = ((p + 1 : Nat) : Int) by omega, F30 160 120 (by omega), e120]
      have V := VP p (by omega)
      have TJ : TYj (pk_F Bf nf cnt k t p) u29.1 := by
        have m1 := vt_m1 c8 V
        have q29 : TKo (pk_F Bf nf cnt k t p) u29.1 := q29
        rcases q29 with q | q
        · exact tyo_j q m1.1
        · exact absurd q.1 m1.2
      have K2 : RKs h0 h30 := by
        have K1 := rks_t K (rks_o O)
        exact ⟨fun x y z1 z2 z3 => by rw [F30 x y (by omega)]; exact K1.1 x y z1 z2 z3, fun z => by rw [F30 160 117 (by omega)]; exact K1.2 z⟩
      refine ih (p + 1) h30 (by omega) K2 (str_k (str_o S O) (fun j => F30 243 j (by omega)) (fun j => F30 244 j (by omega)) (F30 160 131 (by omega))) (fun x hx => ?_)
      by_cases e : x = p
      · rw [e, e30, up_s]; exact TJ
      · rw [F30 245 x (by omega), O.1 245 x (by omega) (by omega) (by omega)]; exact W x (by omega)
theorem vr_calls (R : RMe Bf nf cnt k i h0) (H : HGo Bf nf cnt) (K : RKs h0 h) (S : STr cnt (Bf k (ma_S (Bf k) (nf k) i + 3)) lc s h) (m30 : Bf k (ma_S (Bf k) (nf k) i + 3) ≤ 30) (ho : op = 182 ∨ op = 184) (MB : MBr Bf nf cnt k op a) {y : Int} (ey : y = (if op = 184 then 1 else 0)) : Pc (qf_X13_calls nn a y h) (RSo cnt (Bf k (ma_S (Bf k) (nf k) i + 3)) lc h0 (ap_M (FTq Bf nf cnt) (Bf k (ma_S (Bf k) (nf k) i + 3)) (rk_F Bf nf cnt k (kt_S (Bf k) (nf k) i 1)) (cq_F Bf nf cnt (Bf k) (nf k) (pt_S (Bf k) (nf k) a 0)) (fy_F Bf nf cnt k (pt_S (Bf k) (nf k) a 2)) (pk_F Bf nf cnt k (pt_S (Bf k) (nf k) a 2)) (pm_S (Bf k) (nf k) (pt_S (Bf k) (nf k) a 2)) (rk_F Bf nf cnt k (pt_S (Bf k) (nf k) a 2)) op s)) := by
  have Rh := rme_e R (rks_e K)
  have n6 := rme_n6 R
  have hk' := R.2.1.1
  obtain ⟨-, -, zx, zk, z2⟩ := H.2 k hk'
  have t4 := MB.1
  have c16 := MB.2.1
  obtain ⟨t0, -, t2, -⟩ := mb_tx zk z2 t4
  obtain ⟨-, TT⟩ := mbr_t H hk' MB
  obtain ⟨G, VP, VR⟩ : (∃ m : Nat, pi_S (Bf k) (nf k) (pt_S (Bf k) (nf k) a 2) = some m) ∧ (∀ j : Nat, j < pm_S (Bf k) (nf k) (pt_S (Bf k) (nf k) a 2) → VTq cnt (pk_F Bf nf cnt k (pt_S (Bf k) (nf k) a 2) j)) ∧ (rk_F Bf nf cnt k (pt_S (Bf k) (nf k) a 2) = 303 ∨ VTq cnt (rk_F Bf nf cnt k (pt_S (Bf k) (nf k) a 2))) := by
    rcases TT with w | w
    · omega
    · exact w.2
  obtain ⟨m2, G⟩ := G
  obtain ⟨em, -, KM⟩ := ps_ok G
  obtain ⟨i1, i2, i3⟩ := tg_in (B := Bf k) (n := nf k) (k := pt_S (Bf k) (nf k) a 2) (by omega)
  obtain ⟨a1, a2, a3⟩ := rme_k2 Rh i1 i2
  have a4 := a2.2.1 (by omega)
  have ena : na_S (Bf k) (nf k) (pt_S (Bf k) (nf k) a 2) = pl_S (Bf k) (nf k) (pt_S (Bf k) (nf k) a 2) + 2 := rfl
  have p0 := KM.1.2.1
  unfold qf_X13_calls
  rw [Rh.2.2.1.1]
  refine pc_xl ?_; intro v35 e35
  rw [oq_mul_eq (by omega) (by omega) (by omega)] at e35
  refine pc_xl ?_; intro v38 e38
  rw [oq_mul_eq (by omega) (by omega) (by omega)] at e38
  refine pc_sv (vr_part Rh (w := 2) (by omega) t4) ?_; intro u40 q40
  rw [q40]
  refine pc_add (by omega) ?_; intro v41 e41
  refine pc_rA ?_; intro _ _ v42 e42
  rw [show v41 = 256 * (k : Int) + pt_S (Bf k) (nf k) a 2 by omega, a1] at e42
  refine pc_add (by omega) ?_; intro v43 e43
  refine pc_add (by omega) ?_; intro v44 e44
  rw [show v44 = ((6000 * k + ps_S (Bf k) (nf k) (pt_S (Bf k) (nf k) a 2) 0 : Nat) : Int) by omega]
  refine pc_imp (vr_c35 (y := y) (s := s) R m30 G VP VR t4 t0 c16 nn 0 h (Nat.zero_le _) K S (fun x hx => absurd hx (by omega))) (fun u q => ?_)
  unfold ap_M
  rw [if_neg (show ¬ op = 180 by omega), if_neg (show ¬ op = 181 by omega), em]
  by_cases w : op = 182
  · rw [if_pos w]
    rw [if_neg (show ¬ op = 184 by omega)] at ey
    cases ho : aPs (FTq Bf nf cnt) (pk_F Bf nf cnt k (pt_S (Bf k) (nf k) a 2)) m2 s with
    | none => rw [ho] at q; exact q
    | some s2 =>
      rw [ho] at q
      have q : RSo cnt (Bf k (ma_S (Bf k) (nf k) i + 3)) lc h0 ((if y = 0 then aW (FTq Bf nf cnt) (cq_F Bf nf cnt (Bf k) (nf k) (pt_S (Bf k) (nf k) a 0)) s2 else some s2).bind (fun s => if rk_F Bf nf cnt k (pt_S (Bf k) (nf k) a 2) = 303 then some s else aU (Bf k (ma_S (Bf k) (nf k) i + 3)) (rk_F Bf nf cnt k (pt_S (Bf k) (nf k) a 2)) s)) u := q
      rw [if_pos ey] at q
      exact q
  · rw [if_neg w]
    rw [if_pos (show op = 184 by omega)] at ey
    cases ho : aPs (FTq Bf nf cnt) (pk_F Bf nf cnt k (pt_S (Bf k) (nf k) a 2)) m2 s with
    | none => rw [ho] at q; exact q
    | some s2 =>
      rw [ho] at q
      have q : RSo cnt (Bf k (ma_S (Bf k) (nf k) i + 3)) lc h0 ((if y = 0 then aW (FTq Bf nf cnt) (cq_F Bf nf cnt (Bf k) (nf k) (pt_S (Bf k) (nf k) a 0)) s2 else some s2).bind (fun s => if rk_F Bf nf cnt k (pt_S (Bf k) (nf k) a 2) = 303 then some s else aU (Bf k (ma_S (Bf k) (nf k) i + 3)) (rk_F Bf nf cnt k (pt_S (Bf k) (nf k) a 2)) s)) u := q
      rw [if_neg (show ¬ y = 0 by omega)] at q
      exact q
end

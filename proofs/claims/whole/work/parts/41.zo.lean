section
/- VERIFY: what an instruction makes of the state: the reference's side, all of them -/
section
variable {nn : Nat} {Bf : Nat → Nat → Int} {nf : Nat → Nat} {cnt mx lc : Int} {B C D : Nat → Int} {n m b d k i L p q : Nat} {M h g r h0 : ms_M} {t t2 c a op x : Int} {o : Option ST3} {o2 : Option (Int × ST3)} {s : ST3} {u : Int × ms_M}
theorem ob_a {α β γ : Type} {o : Option α} {f : α → Option β} {g : β → Option γ} : (o.bind f).bind g = o.bind (fun x => (f x).bind g) := by
  cases o with
  | none => rfl
  | some x => rfl
theorem ob_s {α : Type} {o : Option α} : o.bind (fun x => some x) = o := by
  cases o with
  | none => rfl
  | some x => rfl
theorem ob_n {α β : Type} {o : Option α} : o.bind (fun _ => (none : Option β)) = none := by
  cases o with
  | none => rfl
  | some x => rfl
theorem wd_ops : (List.range 256).all (fun o => decide (WD ((o : Nat) : Int) = 0) || ([0, 1, 2, 3, 4, 5, 6, 7, 8, 16, 18, 21, 25, 46, 50, 54, 58, 79, 83, 87, 89, 96, 100, 104, 108, 112, 116, 120, 122, 124, 126, 128, 130, 153, 154, 159, 160, 161, 162, 163, 164, 165, 166, 167, 172, 176, 177, 180, 181, 182, 184, 186, 187, 188, 189, 190, 191, 192, 193]).contains o) = true := by decide +kernel
theorem wd_193 {op : Int} (wd : 0 < WD op) (o0 : 0 ≤ op ∧ op ≤ 255) (n : ¬ op = 0 ∧ ¬ op = 1 ∧ ¬ op = 2 ∧ ¬ op = 3 ∧ ¬ op = 4 ∧ ¬ op = 5 ∧ ¬ op = 6 ∧ ¬ op = 7 ∧ ¬ op = 8 ∧ ¬ op = 16 ∧ ¬ op = 18 ∧ ¬ op = 21 ∧ ¬ op = 25 ∧ ¬ op = 46 ∧ ¬ op = 50 ∧ ¬ op = 54 ∧ ¬ op = 58 ∧ ¬ op = 79 ∧ ¬ op = 83 ∧ ¬ op = 87 ∧ ¬ op = 89 ∧ ¬ op = 96 ∧ ¬ op = 100 ∧ ¬ op = 104 ∧ ¬ op = 108 ∧ ¬ op = 112 ∧ ¬ op = 116 ∧ ¬ op = 120 ∧ ¬ op = 122 ∧ ¬ op = 124 ∧ ¬ op = 126 ∧ ¬ op = 128 ∧ ¬ op = 130 ∧ ¬ op = 153 ∧ ¬ op = 154 ∧ ¬ op = 159 ∧ ¬ op = 160 ∧ ¬ op = 161 ∧ ¬ op = 162 ∧ ¬ op = 163 ∧ ¬ op = 164 ∧ ¬ op = 165 ∧ ¬ op = 166 ∧ ¬ op = 167 ∧ ¬ op = 172 ∧ ¬ op = 176 ∧ ¬ op = 177 ∧ ¬ op = 180 ∧ ¬ op = 181 ∧ ¬ op = 182 ∧ ¬ op = 184 ∧ ¬ op = 186 ∧ ¬ op = 187 ∧ ¬ op = 188 ∧ ¬ op = 189 ∧ ¬ op = 190 ∧ ¬ op = 191 ∧ ¬ op = 192) : op = 193 := by
  have z := List.all_eq_true.mp wd_ops op.toNat (List.mem_range.mpr (by omega))
  rw [show ((op.toNat : Nat) : Int) = op by omega, Bool.or_eq_true] at z
  rcases z with z | z
  · have := of_decide_eq_true z
    omega
  · have z2 := List.contains_iff_mem.mp z
    simp only [List.mem_cons, List.not_mem_nil, or_false] at z2
    omega
theorem ary_tf {x : Int} : ARy True False x ↔ (x = 300 ∨ x = 200) := by
  unfold ARy
  constructor
  · intro w
    rcases w with w | w | w
    · exact .inl w
    · exact .inr w.1
    · exact w.2.1.elim
  · intro w
    rcases w with w | w
    · exact .inl w
    · exact .inr (.inl ⟨w, trivial⟩)
theorem ary_ft {x : Int} : ARy False True x ↔ (x = 300 ∨ (¬ x = 200 ∧ 100 ≤ x ∧ x ≤ 200)) := by
  unfold ARy
  constructor
  · intro w
    rcases w with w | w | w
    · exact .inl w
    · exact w.2.elim
    · exact .inr ⟨w.1, w.2.2⟩
  · intro w
    rcases w with w | w
    · exact .inl w
    · exact .inr (.inr ⟨w.1, trivial, w.2⟩)
theorem ary_tt {x : Int} : ARy True True x ↔ (x = 300 ∨ (100 ≤ x ∧ x ≤ 200)) := by
  unfold ARy
  constructor
  · intro w
    rcases w with w | w | w
    · exact .inl w
    · exact .inr (by omega)
    · exact .inr w.2.2
  · intro w
    by_cases e : x = 200
    · exact .inr (.inl ⟨e, trivial⟩)
    · rcases w with w | w
      · exact .inl w
      · exact .inr (.inr ⟨e, trivial, w⟩)
/-- RETURNS -/
theorem vr_wR (R : RMe Bf nf cnt k i h0) (RZ : h0 160 136 = ((6000 * k + (ps_S (Bf k) (nf k) (kt_S (Bf k) (nf k) i 1) (pm_S (Bf k) (nf k) (kt_S (Bf k) (nf k) i 1)) + 1) : Nat) : Int)) (H : HGo Bf nf cnt) (K : RKs h0 h) : (∃ rt : Int, rt = rk_F Bf nf cnt k (kt_S (Bf k) (nf k) i 1) ∧ (rt = 301 ↔ (h 226 (h 160 136).toNat = 73 ∨ h 226 (h 160 136).toNat = 90)) ∧ (rt = 303 ↔ h 226 (h 160 136).toNat = 86) ∧ (rt = 303 ∨ VTq cnt rt)) ∧ (¬ rk_F Bf nf cnt k (kt_S (Bf k) (nf k) i 1) = 303 → Pc (qf_X13_typeAt nn (h 160 136) h) (fun u => OTH h u.2 ∧ TYj (rk_F Bf nf cnt k (kt_S (Bf k) (nf k) i 1)) u.1)) := by
  have Rh := rme_e R (rks_e K)
  have n6 := rme_n6 R
  have hk' := R.2.1.1
  obtain ⟨-, Ok, zx, zk, z2⟩ := H.2 k hk'
  have e136 : h 160 136 = ((6000 * k + (ps_S (Bf k) (nf k) (kt_S (Bf k) (nf k) i 1) (pm_S (Bf k) (nf k) (kt_S (Bf k) (nf k) i 1)) + 1) : Nat) : Int) := by
    rw [K.1 160 136 (by omega) (by omega) (by omega)]; exact RZ
  obtain ⟨m2, G, -⟩ := (rme_m R).2.1
  have G : pi_S (Bf k) (nf k) (kt_S (Bf k) (nf k) i 1) = some m2 := G
  obtain ⟨em, t1, KM⟩ := ps_ok G
  have rg := mkd_rg KM m2 (Nat.le_refl _)
  obtain ⟨i1, i2, i3⟩ := tg_in (B := Bf k) (n := nf k) (k := kt_S (Bf k) (nf k) i 1) (by omega)
  obtain ⟨a1, a2, a3⟩ := rme_k2 R i1 i2
  have a4 := a2.2.1 (by omega)
  have ena : na_S (Bf k) (nf k) (kt_S (Bf k) (nf k) i 1) = pl_S (Bf k) (nf k) (kt_S (Bf k) (nf k) i 1) + 2 := rfl
  have K3 := KM.2.2.2
  have l3 := kds_l K3
  rw [em] at e136
  have b226 : h 226 (h 160 136).toNat = Bf k (ps_S (Bf k) (nf k) (kt_S (Bf k) (nf k) i 1) m2 + 1) := by
    rw [e136, Int.toNat_natCast]; exact tb_by Rh.1.2.1 (rme_hk Rh) (by omega)
  have ki := kq_is (Bf := Bf) (nf := nf) (rme_c R) K3
  have er : rk_F Bf nf cnt k (kt_S (Bf k) (nf k) i 1) = kq_F Bf nf cnt (Bf k) (ps_S (Bf k) (nf k) (kt_S (Bf k) (nf k) i 1) m2 + 1) (na_S (Bf k) (nf k) (kt_S (Bf k) (nf k) i 1) + tl_S (Bf k) (nf k) (kt_S (Bf k) (nf k) i 1)) := by unfold rk_F; rw [em]
  have nm : ¬ rk_F Bf nf cnt k (kt_S (Bf k) (nf k) i 1) = -1 := (Ok.1.2.1.2 i R.2.1.2).2
  rw [b226]
  refine ⟨⟨_, rfl, ?_, ?_, ?_⟩, fun n3 => ?_⟩
  · rw [er]
    rcases ki with w | w
    · omega
    · exact w.2.2.2.2.1
  · rw [er]
    rcases ki with w | w
    · omega
    · omega
  · rw [er] at nm ⊢
    rcases ki with w | w
    · exact .inl w.2
    · rcases w.2.2.2.2.2 with v | v
      · exact absurd v nm
      · exact .inr v
  · refine pc_imp (vr_typ Rh K3 (by omega) (v := h 160 136) e136) (fun u ⟨O, _, q⟩ => ⟨O, ?_⟩)
    rw [er] at nm n3 ⊢
    rcases q with q | q
    · exact tyo_j q nm
    · exact absurd q.1 n3
theorem du_p {y2 : Int × ST3} (e : aPop s = some y2) (hm : (s.2.2 : Int) ≤ mx) : aU mx y2.1 y2.2 = some s := by
  unfold aPop at e
  by_cases z : s.2.2 = 0
  · rw [if_pos z] at e; exact nomatch e
  · rw [if_neg z] at e
    have e2 := Option.some.inj e
    rw [← e2]
    unfold aU
    have zz : ((s.2.2 - 1 : Nat) : Int) < mx := by omega
    show (if ((s.2.2 - 1 : Nat) : Int) < mx then some (s.1, (fun j => if j = s.2.2 - 1 then s.2.1 (s.2.2 - 1) else s.2.1 j), s.2.2 - 1 + 1) else none) = some s
    rw [if_pos zz]
    have f : (fun j => if j = s.2.2 - 1 then s.2.1 (s.2.2 - 1) else s.2.1 j) = s.2.1 := by
      funext j
      by_cases w : j = s.2.2 - 1
      · rw [if_pos w, w]
      · rw [if_neg w]
    rw [f, show s.2.2 - 1 + 1 = s.2.2 by omega]
/-- WANTED -/
theorem vr_w25 (R : RMe Bf nf cnt k i h0) (RZ : h0 160 136 = ((6000 * k + (ps_S (Bf k) (nf k) (kt_S (Bf k) (nf k) i 1) (pm_S (Bf k) (nf k) (kt_S (Bf k) (nf k) i 1)) + 1) : Nat) : Int)) (H : HGo Bf nf cnt) (K : RKs h0 h) (S : STr cnt (Bf k (ma_S (Bf k) (nf k) i + 3)) (Bf k (ma_S (Bf k) (nf k) i + 4)) s h) (CR : CRt Bf nf cnt k op a) (wd : 0 < WD op) (o0 : 0 ≤ op ∧ op ≤ 255) (hx : x = a ∨ WD op ≤ 1) (ar : 0 ≤ a ∧ a ≤ 255) : Pc (qj_X13_wanted_25 nn op x h) (RSo cnt (Bf k (ma_S (Bf k) (nf k) i + 3)) (Bf k (ma_S (Bf k) (nf k) i + 4)) h0 (ap_F Bf nf cnt k i op a s)) := by
  have Rh := rme_e R (rks_e K)
  have hk' := R.2.1.1
  obtain ⟨-, -, zx, zk, z2⟩ := H.2 k hk'
  have g30 := (rme_m R).2.2.1
  have m30 := g30.1.2
  have c8 := (rme_c R).2
  have e129 := Rh.2.2.2.2
  have X2 : ∀ o : Int, op = o → WD o = 2 → x = a := fun o e w => by
    rcases hx with z | z
    · exact z
    · rw [e] at z; omega
  have CB : ∀ (t t2 : Int) (s : ST3) (g : ms_M), RKs h0 g → STr cnt (Bf k (ma_S (Bf k) (nf k) i + 3)) (Bf k (ma_S (Bf k) (nf k) i + 4)) s g → TYj t t2 → VTq cnt t → Pc (qf_X13_comesBack nn t2 g) (RSo cnt (Bf k (ma_S (Bf k) (nf k) i + 3)) (Bf k (ma_S (Bf k) (nf k) i + 4)) h0 (aU (Bf k (ma_S (Bf k) (nf k) i + 3)) t s)) := fun t t2 s g Kg Sg T V => vr_comes (rme_e R (rks_e Kg)).2.2.2.1 Kg Sg m30 T V
  have IS : (op = 187 ∨ op = 189 ∨ op = 192 ∨ op = 193) → ISc cnt (cq_F Bf nf cnt (Bf k) (nf k) a) ∧ 0 ≤ cq_F Bf nf cnt (Bf k) (nf k) a ∧ cq_F Bf nf cnt (Bf k) (nf k) a < 16 := fun w => by
    obtain ⟨t3, r⟩ := CR.2.1 w
    refine ⟨?_, r⟩
    rcases cq_is (Bf := Bf) (nf := nf) H.1 zk z2 t3 with c | c
    · omega
    · rcases c.2 with c | c | c
      · omega
      · exact c.1
      · omega
  have CL : (op = 187 ∨ op = 189 ∨ op = 192 ∨ op = 193) → ∀ g : ms_M, RKs h0 g → Pc (qf_X13_typeOfClass nn (g 160 132) a g) (fun u => OTH g u.2 ∧ TYj (cq_F Bf nf cnt (Bf k) (nf k) a) u.1) := fun w g Kg => pc_imp (vr_cls (rme_e R (rks_e Kg)) (CR.2.1 w).1) (fun u q => ⟨q.1, tyo_j q.2 (by have := (IS w).2; omega)⟩)
  have LW : ∀ (s : ST3) (g : ms_M) (t t2 : Int) (g2 : ms_M), RKs h0 g → STr cnt (Bf k (ma_S (Bf k) (nf k) i + 3)) (Bf k (ma_S (Bf k) (nf k) i + 4)) s g → TYj t t2 → VTq cnt t → g2 = up_M g 243 a.toNat t2 → Pc (some ((1 : Int), g2)) (RSo cnt (Bf k (ma_S (Bf k) (nf k) i + 3)) (Bf k (ma_S (Bf k) (nf k) i + 4)) h0 (some (aL s a t))) := fun s g t t2 g2 Kg Sg T V e => by
    have F2 : ∀ x y : Nat, ¬ (x = 243 ∧ y = a.toNat) → g2 x y = g x y := fun x y w => by rw [e, up_n w]
    refine rs_yes ⟨fun x y z1 z2 z3 => by rw [F2 x y (by omega)]; exact Kg.1 x y z1 z2 z3, fun z => by rw [F2 160 117 (by omega)]; exact Kg.2 z⟩ ⟨⟨fun j hj => ?_, Sg.1.2.1, Sg.1.2.2⟩, fun j hj => ?_, fun j hj => ?_, ?_⟩
    · show VTq cnt (if (j : Int) = a then t else s.1 j)
      by_cases q : (j : Int) = a
      · rw [if_pos q]; exact V
      · rw [if_neg q]; exact Sg.1.1 j hj
    · show TYj (if (j : Int) = a then t else s.1 j) (g2 243 j)
      by_cases q : (j : Int) = a
      · rw [if_pos q, e, show j = a.toNat by omega, up_s]; exact T
      · rw [if_neg q, F2 243 j (by omega)]; exact Sg.2.1 j hj
    · show TYj (s.2.1 j) (g2 244 j)
      rw [F2 244 j (by omega)]; exact Sg.2.2.1 j hj
    · show g2 160 131 = _
      rw [F2 160 131 (by omega)]; exact Sg.2.2.2
  unfold qj_X13_wanted_25
  refine pc_if (fun z => ?_) (fun nz1 => ?_)
  · rw [apF_A (by omega)]
    unfold ap_A qj_X13_wanted_812
    rw [if_neg (show ¬ op = 46 by omega), if_neg (show ¬ op = 50 by omega), if_neg (show ¬ op = 79 by omega), if_neg (show ¬ op = 83 by omega), if_neg (show ¬ op = 87 by omega), if_neg (show ¬ op = 89 by omega), if_neg (show ¬ op = 116 by omega)]
    exact rs_yes K S
  refine pc_if (fun z => ?_) (fun nz2 => ?_)
  · rw [apF_1 z]
    refine pc_sv (CB 300 2 s h K S ty_300 vt_300) ?_; intro u53 q53
    exact rs_tc q53
  refine pc_if (fun z => ?_) (fun nz3 => ?_)
  · rw [apF_P (by omega)]
    unfold qj_X13_wanted_820
    refine pc_sv (CB 301 1 s h K S ty_301 vt_301) ?_; intro u50 q50
    exact rs_tc q50
  refine pc_if (fun z => ?_) (fun nz4 => ?_)
  · rw [apF_P (by omega)]
    unfold qj_X13_wanted_820
    refine pc_sv (CB 301 1 s h K S ty_301 vt_301) ?_; intro u50 q50
    exact rs_tc q50
  refine pc_if (fun z => ?_) (fun nz5 => ?_)
  · rw [apF_P (by omega)]
    unfold qj_X13_wanted_820
    refine pc_sv (CB 301 1 s h K S ty_301 vt_301) ?_; intro u50 q50
    exact rs_tc q50
  refine pc_if (fun z => ?_) (fun nz6 => ?_)
  · rw [apF_P (by omega)]
    unfold qj_X13_wanted_820
    refine pc_sv (CB 301 1 s h K S ty_301 vt_301) ?_; intro u50 q50
    exact rs_tc q50
  refine pc_if (fun z => ?_) (fun nz7 => ?_)
  · rw [apF_P (by omega)]
    unfold qj_X13_wanted_820
    refine pc_sv (CB 301 1 s h K S ty_301 vt_301) ?_; intro u50 q50
    exact rs_tc q50
  refine pc_if (fun z => ?_) (fun nz8 => ?_)
  · rw [apF_P (by omega)]
    unfold qj_X13_wanted_820
    refine pc_sv (CB 301 1 s h K S ty_301 vt_301) ?_; intro u50 q50
    exact rs_tc q50
  refine pc_if (fun z => ?_) (fun nz9 => ?_)
  · rw [apF_P (by omega)]
    unfold qj_X13_wanted_820
    refine pc_sv (CB 301 1 s h K S ty_301 vt_301) ?_; intro u50 q50
    exact rs_tc q50
  refine pc_if (fun z => ?_) (fun nz10 => ?_)
  · rw [apF_P (by omega)]
    unfold qj_X13_wanted_820
    refine pc_sv (CB 301 1 s h K S ty_301 vt_301) ?_; intro u50 q50
    exact rs_tc q50
  refine pc_if (fun z => ?_) (fun nz11 => ?_)
  · rw [apF_P (by omega)]
    unfold qj_X13_wanted_820
    refine pc_sv (CB 301 1 s h K S ty_301 vt_301) ?_; intro u50 q50
    exact rs_tc q50
  refine pc_if (fun z => ?_) (fun nz12 => ?_)
  · rw [apF_L (by omega), X2 21 z (by decide), e129]
    unfold ap_L
    refine pc_if (fun w => rs_no K (if_pos w)) (fun w => ?_)
    rw [if_neg w, if_pos z]
    have T := S.2.1 a.toNat (by omega)
    have V := S.1.1 a.toNat (by omega)
    refine pc_rA ?_; intro _ _ v57 e57
    rw [← e57] at T
    refine pc_if (fun y => rs_no K (pr_f (by unfold TYj at T; omega))) (fun y => ?_)
    rw [pr_t (show s.1 a.toNat = 301 by unfold TYj at T; omega)]
    refine pc_sv (CB _ 1 s h K S (by rw [show s.1 a.toNat = 301 by unfold TYj at T; omega]; exact ty_301) V) ?_; intro u59 q59
    exact rs_t0 q59
  refine pc_if (fun z => ?_) (fun nz13 => ?_)
  · rw [apF_L (by omega), X2 25 z (by decide), e129]
    unfold ap_L
    refine pc_if (fun w => rs_no K (if_pos w)) (fun w => ?_)
    rw [if_neg w, if_neg (show ¬ op = 21 by omega), if_pos z]
    have T := S.2.1 a.toNat (by omega)
    have V := S.1.1 a.toNat (by omega)
    refine pc_rA ?_; intro _ _ v65 e65
    have T2 := T
    rw [← e65] at T2
    refine pc_if (fun y => rs_no K (pr_f (by unfold REf; unfold TYj at T2; omega))) (fun y => ?_)
    rw [pr_t (show REf (s.1 a.toNat) by unfold REf; unfold TYj at T2; unfold VTq ISc at V; omega)]
    refine pc_rA ?_; intro _ _ v67 e67
    rw [← e67] at T
    refine pc_sv (CB _ v67 s h K S T V) ?_; intro u69 q69
    exact rs_t0 q69
  refine pc_if (fun z => ?_) (fun nz14 => ?_)
  · rw [apF_A (by omega)]
    unfold ap_A qj_X13_wanted_962 qj_X13_wanted_982
    rw [if_pos z, ob_a]
    refine pc_sv (vr_int1 R K S m30) ?_; intro u74 q74
    refine rs_j q74 (fun s2 S2 K2 => ?_)
    rw [show aA True False s2 = (aPop s2).bind (fun x => pr_I (ARy True False x.1) (some x) none) from rfl]
    refine pc_sv (vr_pull K2 S2 m30) ?_; intro u76 ⟨K3, Z⟩
    rcases Z with Z | ⟨y, y1, y2, y3, y4⟩
    · refine pc_if (fun w => absurd w (by omega)) (fun _ => pc_if (fun _ => rs_no K3 (by rw [Z.1]; rfl)) (fun w => absurd (show ¬ u76.1 = 2 by omega) w))
    rw [y1]
    have Y : (u76.1 = 3 ∨ u76.1 = 2) → Pc (mx_sv (qf_X13_comesBack nn 1 u76.2) fun u47 => if u47.1 = 0 then (some (0, u47.2)) else (some (1, u47.2))) (RSo cnt (Bf k (ma_S (Bf k) (nf k) i + 3)) (Bf k (ma_S (Bf k) (nf k) i + 4)) h0 (((some y).bind (fun x => pr_I (ARy True False x.1) (some x) none)).bind (fun x => aU (Bf k (ma_S (Bf k) (nf k) i + 3)) 301 x.2))) := fun w => by
      have e4 : (some y).bind (fun x => pr_I (ARy True False x.1) (some x) none) = some y := pr_t (by rw [ary_tf]; unfold TYj at y2; omega)
      rw [e4]
      refine pc_sv (CB 301 1 y.2 u76.2 K3 y4 ty_301 vt_301) ?_; intro u47 q47
      exact rs_t0 q47
    refine pc_if (fun w => Y (.inl w)) (fun w => ?_)
    refine pc_if (fun v => rs_no K3 ?_) (fun v => Y (.inr (by omega)))
    have e4 : (some y).bind (fun x => pr_I (ARy True False x.1) (some x) none) = none := pr_f (by rw [ary_tf]; unfold TYj at y2; omega)
    rw [e4]; rfl
  refine pc_if (fun z => ?_) (fun nz15 => ?_)
  · rw [apF_A (by omega)]
    unfold ap_A
    rw [if_neg (show ¬ op = 46 by omega), if_pos z, ob_a]
    refine pc_sv (vr_int1 R K S m30) ?_; intro u81 q81
    refine rs_j q81 (fun s2 S2 K2 => ?_)
    rw [show aA False True s2 = (aPop s2).bind (fun x => pr_I (ARy False True x.1) (some x) none) from rfl]
    refine pc_sv (vr_pull K2 S2 m30) ?_; intro u83 ⟨K3, Z⟩
    rcases Z with Z | ⟨y, y1, y2, y3, y4⟩
    · refine pc_if (fun _ => pc_if (fun _ => rs_no K3 (by rw [Z.1]; rfl)) (fun w => absurd (show u83.1 ≤ 3 by omega) w)) (fun w => absurd (show ¬ u83.1 = 2 by omega) w)
    rw [y1]
    have TR : Pc (qf_X13_isRow nn u83.1 u83.2) (fun u => (u = 1 ∧ (y.1 = 200 ∨ (100 ≤ y.1 ∧ y.1 < 116))) ∨ (u = 0 ∧ ¬ (y.1 = 200 ∨ (100 ≤ y.1 ∧ y.1 < 116)))) := vr_row (.inl y2) (vt_m1 c8 y3).1
    have y2' := y2
    unfold TYj at y2
    refine pc_if (fun w => ?_) (fun w => ?_)
    · refine pc_if (fun v => rs_no K3 ?_) (fun v => ?_)
      · have e4 : (some y).bind (fun x => pr_I (ARy False True x.1) (some x) none) = none := pr_f (by rw [ary_ft]; omega)
        rw [e4]; rfl
      refine pc_sv TR ?_; intro u84 q84
      refine pc_if (fun v4 => rs_no K3 ?_) (fun v4 => ?_)
      · have e4 : (some y).bind (fun x => pr_I (ARy False True x.1) (some x) none) = none := pr_f (by rw [ary_ft]; omega)
        rw [e4]; rfl
      have rr : 100 ≤ y.1 ∧ y.1 < 116 := by omega
      have e4 : (some y).bind (fun x => pr_I (ARy False True x.1) (some x) none) = some y := pr_t (by rw [ary_ft]; omega)
      rw [e4]
      refine pc_sub (by omega) ?_; intro v85 e85
      show Pc _ (RSo cnt (Bf k (ma_S (Bf k) (nf k) i + 3)) (Bf k (ma_S (Bf k) (nf k) i + 4)) h0 (aU (Bf k (ma_S (Bf k) (nf k) i + 3)) (if y.1 = 300 then 300 else y.1 - 100) y.2))
      rw [if_neg (show ¬ y.1 = 300 by omega)]
      refine pc_sv (CB (y.1 - 100) v85 y.2 u83.2 K3 y4 (by unfold TYj; omega) (by unfold VTq ISc at y3 ⊢; omega)) ?_; intro u87 q87
      exact rs_t0 q87
    · have e4 : (some y).bind (fun x => pr_I (ARy False True x.1) (some x) none) = some y := pr_t (by rw [ary_ft]; omega)
      rw [e4]
      show Pc _ (RSo cnt (Bf k (ma_S (Bf k) (nf k) i + 3)) (Bf k (ma_S (Bf k) (nf k) i + 4)) h0 (aU (Bf k (ma_S (Bf k) (nf k) i + 3)) (if y.1 = 300 then 300 else y.1 - 100) y.2))
      rw [if_pos (show y.1 = 300 by omega)]
      refine pc_sv (CB 300 2 y.2 u83.2 K3 y4 ty_300 vt_300) ?_; intro u92 q92
      exact rs_tc q92
  refine pc_if (fun z => ?_) (fun nz16 => ?_)
  · rw [apF_L (by omega), X2 54 z (by decide), e129]
    unfold ap_L
    refine pc_if (fun w => rs_no K (if_pos w)) (fun w => ?_)
    rw [if_neg w, if_neg (show ¬ op = 21 by omega), if_neg (show ¬ op = 25 by omega), if_pos z]
    rw [show aW (FTq Bf nf cnt) 301 s = (aPop s).bind (fun x => pr_I (FTq Bf nf cnt x.1 301) (some x.2) none) from rfl]
    refine pc_sv (vr_pull K S m30) ?_; intro u98 ⟨K3, Z⟩
    rcases Z with Z | ⟨y, y1, y2, y3, y4⟩
    · exact pc_if (fun v => absurd v (by omega)) (fun _ => rs_no K3 (by rw [Z.1]; rfl))
    rw [y1]
    have ft := ft_301 (Bf := Bf) (nf := nf) y3 c8
    refine pc_if (fun v => ?_) (fun v => rs_no K3 ?_)
    · have e4 : (some y).bind (fun x => pr_I (FTq Bf nf cnt x.1 301) (some x.2) none) = some y.2 := pr_t (ft.2 (by unfold TYj at y2; omega))
      rw [e4]
      refine pc_wA ?_; intro _ _ h100 e100
      exact LW y.2 u98.2 301 1 h100 K3 y4 ty_301 vt_301 e100
    · have e4 : (some y).bind (fun x => pr_I (FTq Bf nf cnt x.1 301) (some x.2) none) = none := pr_f (fun w => v (by have := ft.1 w; unfold TYj at y2; omega))
      rw [e4]; rfl
  refine pc_if (fun z => ?_) (fun nz17 => ?_)
  · rw [apF_L (by omega), X2 58 z (by decide)]
    unfold ap_L
    refine pc_sv (vr_pull K S m30) ?_; intro u104 ⟨K3, Z⟩
    rw [(rme_e R (rks_e K3)).2.2.2.2]
    refine pc_if (fun w => rs_no K3 (if_pos w)) (fun w => ?_)
    rw [if_neg w, if_neg (show ¬ op = 21 by omega), if_neg (show ¬ op = 25 by omega), if_neg (show ¬ op = 54 by omega)]
    rw [show aR s = (aPop s).bind (fun x => pr_I (REf x.1) (some x) none) from rfl]
    rcases Z with Z | ⟨y, y1, y2, y3, y4⟩
    · exact pc_if (fun v => absurd v (by omega)) (fun _ => rs_no K3 (by rw [Z.1]; rfl))
    rw [y1]
    have y2' := y2
    unfold TYj at y2
    have y3' := y3
    unfold VTq ISc at y3
    refine pc_if (fun v => ?_) (fun v => rs_no K3 ?_)
    · have e4 : (some y).bind (fun x => pr_I (REf x.1) (some x) none) = some y := pr_t (by unfold REf; omega)
      rw [e4]
      refine pc_wA ?_; intro _ _ h107 e107
      exact LW y.2 u104.2 y.1 u104.1 h107 K3 y4 y2' y3' e107
    · have e4 : (some y).bind (fun x => pr_I (REf x.1) (some x) none) = none := pr_f (by unfold REf; omega)
      rw [e4]; rfl
  refine pc_if (fun z => ?_) (fun nz18 => ?_)
  · rw [apF_A (by omega)]
    unfold ap_A
    rw [if_neg (show ¬ op = 46 by omega), if_neg (show ¬ op = 50 by omega), if_pos z, ob_a]
    refine pc_sv (vr_ints R K S m30) ?_; intro u111 q111
    refine rs_j q111 (fun s2 S2 K2 => ?_)
    rw [show aA True False s2 = (aPop s2).bind (fun x => pr_I (ARy True False x.1) (some x) none) from rfl]
    refine pc_sv (vr_pull K2 S2 m30) ?_; intro u113 ⟨K3, Z⟩
    rcases Z with Z | ⟨y, y1, y2, y3, y4⟩
    · refine pc_if (fun w => absurd w (by omega)) (fun _ => pc_if (fun _ => rs_no K3 (by rw [Z.1]; rfl)) (fun w => absurd (show ¬ u113.1 = 2 by omega) w))
    rw [y1]
    have Y : (u113.1 = 3 ∨ u113.1 = 2) → Pc (some ((1 : Int), u113.2)) (RSo cnt (Bf k (ma_S (Bf k) (nf k) i + 3)) (Bf k (ma_S (Bf k) (nf k) i + 4)) h0 (((some y).bind (fun x => pr_I (ARy True False x.1) (some x) none)).bind (fun x => some x.2))) := fun w => by
      have e4 : (some y).bind (fun x => pr_I (ARy True False x.1) (some x) none) = some y := pr_t (by rw [ary_tf]; unfold TYj at y2; omega)
      rw [e4]
      exact rs_yes K3 y4
    refine pc_if (fun w => Y (.inl w)) (fun w => ?_)
    refine pc_if (fun v => rs_no K3 ?_) (fun v => Y (.inr (by omega)))
    have e4 : (some y).bind (fun x => pr_I (ARy True False x.1) (some x) none) = none := pr_f (by rw [ary_tf]; unfold TYj at y2; omega)
    rw [e4]; rfl
  refine pc_if (fun z => ?_) (fun nz19 => ?_)
  · rw [apF_A (by omega)]
    unfold ap_A qj_X13_wanted_1136
    rw [if_neg (show ¬ op = 46 by omega), if_neg (show ¬ op = 50 by omega), if_neg (show ¬ op = 79 by omega), if_pos z]
    rw [show (aR s).bind (fun x => aW (FTq Bf nf cnt) 301 x.2) = ((aR s).bind (fun x => some x.2)).bind (aW (FTq Bf nf cnt) 301) by rw [ob_a]; rfl, ob_a, ob_a]
    refine pc_sv (vr_thing K S m30 c8) ?_; intro u118 q118
    refine rs_i q118 (fun s1 S1 K1 => ?_)
    refine pc_sv (vr_int1 R K1 S1 m30) ?_; intro u120 q120
    refine rs_j q120 (fun s2 S2 K2 => ?_)
    rw [show aA False True s2 = (aPop s2).bind (fun x => pr_I (ARy False True x.1) (some x) none) from rfl]
    refine pc_sv (vr_pull K2 S2 m30) ?_; intro u122 ⟨K3, Z⟩
    rcases Z with Z | ⟨y, y1, y2, y3, y4⟩
    · refine pc_if (fun w => absurd w (by omega)) (fun _ => pc_if (fun _ => rs_no K3 (by rw [Z.1]; rfl)) (fun w => absurd (show u122.1 ≤ 3 by omega) w))
    rw [y1]
    have TR : Pc (qf_X13_isRow nn u122.1 u122.2) (fun u => (u = 1 ∧ (y.1 = 200 ∨ (100 ≤ y.1 ∧ y.1 < 116))) ∨ (u = 0 ∧ ¬ (y.1 = 200 ∨ (100 ≤ y.1 ∧ y.1 < 116)))) := vr_row (.inl y2) (vt_m1 c8 y3).1
    unfold TYj at y2
    have NO : ¬ ARy False True y.1 → ((some y).bind (fun x => pr_I (ARy False True x.1) (some x) none)).bind (fun x => some x.2) = none := fun w => by
      have e4 : (some y).bind (fun x => pr_I (ARy False True x.1) (some x) none) = none := pr_f w
      rw [e4]; rfl
    have YE : ARy False True y.1 → Pc (some ((1 : Int), u122.2)) (RSo cnt (Bf k (ma_S (Bf k) (nf k) i + 3)) (Bf k (ma_S (Bf k) (nf k) i + 4)) h0 (((some y).bind (fun x => pr_I (ARy False True x.1) (some x) none)).bind (fun x => some x.2))) := fun w => by
      have e4 : (some y).bind (fun x => pr_I (ARy False True x.1) (some x) none) = some y := pr_t w
      rw [e4]
      exact rs_yes K3 y4
    refine pc_if (fun w => YE (by rw [ary_ft]; omega)) (fun w => ?_)
    refine pc_if (fun v => rs_no K3 (NO (by rw [ary_ft]; omega))) (fun v => ?_)
    refine pc_sv TR ?_; intro u123 q123
    exact pc_if (fun v4 => rs_no K3 (NO (by rw [ary_ft]; omega))) (fun v4 => YE (by rw [ary_ft]; omega))
  refine pc_if (fun z => ?_) (fun nz20 => ?_)
  · rw [apF_A (by omega)]
    unfold ap_A
    rw [if_neg (show ¬ op = 46 by omega), if_neg (show ¬ op = 50 by omega), if_neg (show ¬ op = 79 by omega), if_neg (show ¬ op = 83 by omega), if_pos z]
    refine pc_sv (vr_pull K S m30) ?_; intro u130 ⟨K3, Z⟩
    rcases Z with Z | ⟨y, y1, y2, y3, y4⟩
    · exact pc_if (fun _ => rs_no K3 (by rw [Z.1]; rfl)) (fun w => absurd Z.2 w)
    rw [y1]
    exact pc_if (fun w => absurd w (ty_m1 y2)) (fun _ => rs_yes K3 y4)
  refine pc_if (fun z => ?_) (fun nz21 => ?_)
  · rw [apF_A (by omega)]
    unfold ap_A
    rw [if_neg (show ¬ op = 46 by omega), if_neg (show ¬ op = 50 by omega), if_neg (show ¬ op = 79 by omega), if_neg (show ¬ op = 83 by omega), if_neg (show ¬ op = 87 by omega), if_pos z, S.2.2.2]
    refine pc_if (fun w => rs_no K ?_) (fun w => ?_)
    · have e4 : aPop s = none := by unfold aPop; rw [if_pos (by omega)]
      rw [e4]; rfl
    refine pc_sub (by have := S.1.2.2; omega) ?_; intro v135 e135
    refine pc_rA ?_; intro _ _ v136 e136
    rw [show v135.toNat = s.2.2 - 1 by omega] at e136
    have T := S.2.2.1 (s.2.2 - 1) (by omega)
    have V := S.1.2.1 (s.2.2 - 1) (by omega)
    rw [← e136] at T
    have e4 : aPop s = some (s.2.1 (s.2.2 - 1), (s.1, s.2.1, s.2.2 - 1)) := by unfold aPop; rw [if_neg (by omega)]
    have e5 := du_p (mx := (Bf k (ma_S (Bf k) (nf k) i + 3))) e4 S.1.2.2
    rw [e4]
    show Pc _ (RSo cnt (Bf k (ma_S (Bf k) (nf k) i + 3)) (Bf k (ma_S (Bf k) (nf k) i + 4)) h0 ((aU (Bf k (ma_S (Bf k) (nf k) i + 3)) (s.2.1 (s.2.2 - 1)) (s.1, s.2.1, s.2.2 - 1)).bind (aU (Bf k (ma_S (Bf k) (nf k) i + 3)) (s.2.1 (s.2.2 - 1)))))
    have e5 : aU (Bf k (ma_S (Bf k) (nf k) i + 3)) (s.2.1 (s.2.2 - 1)) (s.1, s.2.1, s.2.2 - 1) = some s := e5
    rw [e5]
    refine pc_sv (CB _ v136 s h K S T V) ?_; intro u138 q138
    exact rs_t0 q138
  refine pc_if (fun z => ?_) (fun nz22 => ?_)
  · rw [apF_I (show ARo op by unfold ARo; omega)]
    unfold qj_X13_wanted_1183
    refine pc_sv (vr_ints R K S m30) ?_; intro u41 q41
    refine rs_i q41 (fun s2 S2 K2 => ?_)
    refine pc_sv (CB 301 1 s2 u41.2 K2 S2 ty_301 vt_301) ?_; intro u43 q43
    exact rs_t0 q43
  refine pc_if (fun z => ?_) (fun nz23 => ?_)
  · rw [apF_I (show ARo op by unfold ARo; omega)]
    unfold qj_X13_wanted_1183
    refine pc_sv (vr_ints R K S m30) ?_; intro u41 q41
    refine rs_i q41 (fun s2 S2 K2 => ?_)
    refine pc_sv (CB 301 1 s2 u41.2 K2 S2 ty_301 vt_301) ?_; intro u43 q43
    exact rs_t0 q43
  refine pc_if (fun z => ?_) (fun nz24 => ?_)
  · rw [apF_I (show ARo op by unfold ARo; omega)]
    unfold qj_X13_wanted_1183
    refine pc_sv (vr_ints R K S m30) ?_; intro u41 q41
    refine rs_i q41 (fun s2 S2 K2 => ?_)
    refine pc_sv (CB 301 1 s2 u41.2 K2 S2 ty_301 vt_301) ?_; intro u43 q43
    exact rs_t0 q43
  refine pc_if (fun z => ?_) (fun nz25 => ?_)
  · rw [apF_I (show ARo op by unfold ARo; omega)]
    unfold qj_X13_wanted_1183
    refine pc_sv (vr_ints R K S m30) ?_; intro u41 q41
    refine rs_i q41 (fun s2 S2 K2 => ?_)
    refine pc_sv (CB 301 1 s2 u41.2 K2 S2 ty_301 vt_301) ?_; intro u43 q43
    exact rs_t0 q43
  refine pc_if (fun z => ?_) (fun nz26 => ?_)
  · rw [apF_I (show ARo op by unfold ARo; omega)]
    unfold qj_X13_wanted_1183
    refine pc_sv (vr_ints R K S m30) ?_; intro u41 q41
    refine rs_i q41 (fun s2 S2 K2 => ?_)
    refine pc_sv (CB 301 1 s2 u41.2 K2 S2 ty_301 vt_301) ?_; intro u43 q43
    exact rs_t0 q43
  refine pc_if (fun z => ?_) (fun nz27 => ?_)
  · rw [apF_A (by omega)]
    unfold ap_A
    rw [if_neg (show ¬ op = 46 by omega), if_neg (show ¬ op = 50 by omega), if_neg (show ¬ op = 79 by omega), if_neg (show ¬ op = 83 by omega), if_neg (show ¬ op = 87 by omega), if_neg (show ¬ op = 89 by omega), if_pos z]
    refine pc_sv (vr_int1 R K S m30) ?_; intro u142 q142
    refine rs_i q142 (fun s2 S2 K2 => ?_)
    refine pc_sv (CB 301 1 s2 u142.2 K2 S2 ty_301 vt_301) ?_; intro u144 q144
    exact rs_t0 q144
  refine pc_if (fun z => ?_) (fun nz28 => ?_)
  · rw [apF_I (show ARo op by unfold ARo; omega)]
    unfold qj_X13_wanted_1183
    refine pc_sv (vr_ints R K S m30) ?_; intro u41 q41
    refine rs_i q41 (fun s2 S2 K2 => ?_)
    refine pc_sv (CB 301 1 s2 u41.2 K2 S2 ty_301 vt_301) ?_; intro u43 q43
    exact rs_t0 q43
  refine pc_if (fun z => ?_) (fun nz29 => ?_)
  · rw [apF_I (show ARo op by unfold ARo; omega)]
    unfold qj_X13_wanted_1183
    refine pc_sv (vr_ints R K S m30) ?_; intro u41 q41
    refine rs_i q41 (fun s2 S2 K2 => ?_)
    refine pc_sv (CB 301 1 s2 u41.2 K2 S2 ty_301 vt_301) ?_; intro u43 q43
    exact rs_t0 q43
  refine pc_if (fun z => ?_) (fun nz30 => ?_)
  · rw [apF_I (show ARo op by unfold ARo; omega)]
    unfold qj_X13_wanted_1183
    refine pc_sv (vr_ints R K S m30) ?_; intro u41 q41
    refine rs_i q41 (fun s2 S2 K2 => ?_)
    refine pc_sv (CB 301 1 s2 u41.2 K2 S2 ty_301 vt_301) ?_; intro u43 q43
    exact rs_t0 q43
  refine pc_if (fun z => ?_) (fun nz31 => ?_)
  · rw [apF_I (show ARo op by unfold ARo; omega)]
    unfold qj_X13_wanted_1183
    refine pc_sv (vr_ints R K S m30) ?_; intro u41 q41
    refine rs_i q41 (fun s2 S2 K2 => ?_)
    refine pc_sv (CB 301 1 s2 u41.2 K2 S2 ty_301 vt_301) ?_; intro u43 q43
    exact rs_t0 q43
  refine pc_if (fun z => ?_) (fun nz32 => ?_)
  · rw [apF_I (show ARo op by unfold ARo; omega)]
    unfold qj_X13_wanted_1183
    refine pc_sv (vr_ints R K S m30) ?_; intro u41 q41
    refine rs_i q41 (fun s2 S2 K2 => ?_)
    refine pc_sv (CB 301 1 s2 u41.2 K2 S2 ty_301 vt_301) ?_; intro u43 q43
    exact rs_t0 q43
  refine pc_if (fun z => ?_) (fun nz33 => ?_)
  · rw [apF_I (show ARo op by unfold ARo; omega)]
    unfold qj_X13_wanted_1183
    refine pc_sv (vr_ints R K S m30) ?_; intro u41 q41
    refine rs_i q41 (fun s2 S2 K2 => ?_)
    refine pc_sv (CB 301 1 s2 u41.2 K2 S2 ty_301 vt_301) ?_; intro u43 q43
    exact rs_t0 q43
  refine pc_if (fun z => ?_) (fun nz34 => ?_)
  · rw [apF_J (show JMP op by unfold JMP; omega)]
    unfold ap_J qj_X13_wanted_1227
    rw [if_neg (show ¬ op = 167 by omega), if_neg (show ¬ (op = 165 ∨ op = 166) by omega), if_pos (show op < 159 by omega)]
    refine pc_sv (vr_int1 R K S m30) ?_; intro u38 q38
    exact rs_tc q38
  refine pc_if (fun z => ?_) (fun nz35 => ?_)
  · rw [apF_J (show JMP op by unfold JMP; omega)]
    unfold ap_J qj_X13_wanted_1227
    rw [if_neg (show ¬ op = 167 by omega), if_neg (show ¬ (op = 165 ∨ op = 166) by omega), if_pos (show op < 159 by omega)]
    refine pc_sv (vr_int1 R K S m30) ?_; intro u38 q38
    exact rs_tc q38
  refine pc_if (fun z => ?_) (fun nz36 => ?_)
  · rw [apF_J (show JMP op by unfold JMP; omega)]
    unfold ap_J qj_X13_wanted_1233
    rw [if_neg (show ¬ op = 167 by omega), if_neg (show ¬ (op = 165 ∨ op = 166) by omega), if_neg (show ¬ op < 159 by omega)]
    refine pc_sv (vr_ints R K S m30) ?_; intro u35 q35
    exact rs_tc q35
  refine pc_if (fun z => ?_) (fun nz37 => ?_)
  · rw [apF_J (show JMP op by unfold JMP; omega)]
    unfold ap_J qj_X13_wanted_1233
    rw [if_neg (show ¬ op = 167 by omega), if_neg (show ¬ (op = 165 ∨ op = 166) by omega), if_neg (show ¬ op < 159 by omega)]
    refine pc_sv (vr_ints R K S m30) ?_; intro u35 q35
    exact rs_tc q35
  refine pc_if (fun z => ?_) (fun nz38 => ?_)
  · rw [apF_J (show JMP op by unfold JMP; omega)]
    unfold ap_J qj_X13_wanted_1233
    rw [if_neg (show ¬ op = 167 by omega), if_neg (show ¬ (op = 165 ∨ op = 166) by omega), if_neg (show ¬ op < 159 by omega)]
    refine pc_sv (vr_ints R K S m30) ?_; intro u35 q35
    exact rs_tc q35
  refine pc_if (fun z => ?_) (fun nz39 => ?_)
  · rw [apF_J (show JMP op by unfold JMP; omega)]
    unfold ap_J qj_X13_wanted_1233
    rw [if_neg (show ¬ op = 167 by omega), if_neg (show ¬ (op = 165 ∨ op = 166) by omega), if_neg (show ¬ op < 159 by omega)]
    refine pc_sv (vr_ints R K S m30) ?_; intro u35 q35
    exact rs_tc q35
  refine pc_if (fun z => ?_) (fun nz40 => ?_)
  · rw [apF_J (show JMP op by unfold JMP; omega)]
    unfold ap_J qj_X13_wanted_1233
    rw [if_neg (show ¬ op = 167 by omega), if_neg (show ¬ (op = 165 ∨ op = 166) by omega), if_neg (show ¬ op < 159 by omega)]
    refine pc_sv (vr_ints R K S m30) ?_; intro u35 q35
    exact rs_tc q35
  refine pc_if (fun z => ?_) (fun nz41 => ?_)
  · rw [apF_J (show JMP op by unfold JMP; omega)]
    unfold ap_J qj_X13_wanted_1233
    rw [if_neg (show ¬ op = 167 by omega), if_neg (show ¬ (op = 165 ∨ op = 166) by omega), if_neg (show ¬ op < 159 by omega)]
    refine pc_sv (vr_ints R K S m30) ?_; intro u35 q35
    exact rs_tc q35
  refine pc_if (fun z => ?_) (fun nz42 => ?_)
  · rw [apF_J (show JMP op by unfold JMP; omega)]
    unfold ap_J qj_X13_wanted_1239
    rw [if_neg (show ¬ op = 167 by omega), if_pos (show op = 165 ∨ op = 166 by omega)]
    rw [show (aR s).bind (fun x => (aR x.2).bind (fun y => some y.2)) = ((aR s).bind (fun x => some x.2)).bind (fun s => (aR s).bind (fun y => some y.2)) by rw [ob_a]; rfl]
    refine pc_sv (vr_thing K S m30 c8) ?_; intro u29 q29
    refine rs_i q29 (fun s2 S2 K2 => ?_)
    refine pc_sv (vr_thing K2 S2 m30 c8) ?_; intro u31 q31
    exact rs_t0 q31
  refine pc_if (fun z => ?_) (fun nz43 => ?_)
  · rw [apF_J (show JMP op by unfold JMP; omega)]
    unfold ap_J qj_X13_wanted_1239
    rw [if_neg (show ¬ op = 167 by omega), if_pos (show op = 165 ∨ op = 166 by omega)]
    rw [show (aR s).bind (fun x => (aR x.2).bind (fun y => some y.2)) = ((aR s).bind (fun x => some x.2)).bind (fun s => (aR s).bind (fun y => some y.2)) by rw [ob_a]; rfl]
    refine pc_sv (vr_thing K S m30 c8) ?_; intro u29 q29
    refine rs_i q29 (fun s2 S2 K2 => ?_)
    refine pc_sv (vr_thing K2 S2 m30 c8) ?_; intro u31 q31
    exact rs_t0 q31
  refine pc_if (fun z => ?_) (fun nz44 => ?_)
  · rw [apF_J (show JMP op by unfold JMP; omega)]
    unfold ap_J qj_X13_wanted_812
    rw [if_pos z]
    exact rs_yes K S
  refine pc_if (fun z => ?_) (fun nz45 => ?_)
  · rw [apF_R (by omega)]
    obtain ⟨⟨rt, er, r1, r3, rv⟩, TA⟩ := vr_wR (nn := nn) R RZ H K
    rw [← er] at TA ⊢
    unfold ap_R
    rw [if_neg (show ¬ op = 177 by omega), if_pos z]
    have Y : rt = 301 → Pc (qj_X13_wanted_1287 nn h) (RSo cnt (Bf k (ma_S (Bf k) (nf k) i + 3)) (Bf k (ma_S (Bf k) (nf k) i + 4)) h0 ((aW (FTq Bf nf cnt) 301 s).bind (fun s => if rt = 301 then some s else none))) := fun w => by
      unfold qj_X13_wanted_1287
      have e4 : (aW (FTq Bf nf cnt) 301 s).bind (fun s => if rt = 301 then some s else none) = aW (FTq Bf nf cnt) 301 s := by
        cases aW (FTq Bf nf cnt) 301 s with
        | none => rfl
        | some s2 => exact if_pos w
      rw [e4]
      refine pc_sv (vr_int1 R K S m30) ?_; intro u26 q26
      exact rs_t0 q26
    refine pc_rA ?_; intro _ _ v149 e149
    refine pc_if (fun w => Y (r1.2 (by omega))) (fun w => ?_)
    refine pc_rA ?_; intro _ _ v152 e152
    refine pc_if (fun v => rs_no K ?_) (fun v => Y (r1.2 (by omega)))
    have n1 : ¬ rt = 301 := fun y => by have := r1.1 y; omega
    cases aW (FTq Bf nf cnt) 301 s with
    | none => rfl
    | some s2 => exact if_neg n1
  refine pc_if (fun z => ?_) (fun nz46 => ?_)
  · rw [apF_R (by omega)]
    obtain ⟨⟨rt, er, r1, r3, rv⟩, TA⟩ := vr_wR (nn := nn) R RZ H K
    rw [← er] at TA ⊢
    unfold ap_R
    rw [if_neg (show ¬ op = 177 by omega), if_neg (show ¬ op = 172 by omega)]
    have NO : (rt = 301 ∨ rt = 303) → (aW (FTq Bf nf cnt) rt s).bind (fun s => if rt = 301 ∨ rt = 303 then none else some s) = none := fun w => by
      cases aW (FTq Bf nf cnt) rt s with
      | none => rfl
      | some s2 => exact if_pos w
    refine pc_rA ?_; intro _ _ v157 e157
    refine pc_if (fun w => rs_no K (NO (.inl (r1.2 (by omega))))) (fun w => ?_)
    refine pc_rA ?_; intro _ _ v160 e160
    refine pc_if (fun w => rs_no K (NO (.inl (r1.2 (by omega))))) (fun w2 => ?_)
    refine pc_rA ?_; intro _ _ v163 e163
    refine pc_if (fun w => rs_no K (NO (.inr (r3.2 (by omega))))) (fun w3 => ?_)
    have n3 : ¬ rt = 303 := fun y => by have := r3.1 y; omega
    have n1 : ¬ rt = 301 := fun y => by have := r1.1 y; omega
    have e4 : (aW (FTq Bf nf cnt) rt s).bind (fun s => if rt = 301 ∨ rt = 303 then none else some s) = aW (FTq Bf nf cnt) rt s := by
      cases aW (FTq Bf nf cnt) rt s with
      | none => rfl
      | some s2 => exact if_neg (by omega)
    rw [e4]
    refine pc_sv (TA n3) ?_; intro u166 ⟨O, q166⟩
    refine pc_sv (vr_pullFit R (rks_t K (rks_o O)) (str_o S O) m30 q166) ?_; intro u168 q168
    exact rs_t0 q168
  refine pc_if (fun z => ?_) (fun nz47 => ?_)
  · rw [apF_R (by omega)]
    obtain ⟨⟨rt, er, r1, r3, rv⟩, TA⟩ := vr_wR (nn := nn) R RZ H K
    rw [← er] at TA ⊢
    unfold ap_R
    rw [if_pos z]
    refine pc_rA ?_; intro _ _ v175 e175
    refine pc_if (fun w => rs_no K (if_neg (fun y => by have := r3.1 y; omega))) (fun w => ?_)
    rw [if_pos (r3.2 (by omega))]
    exact rs_yes K S
  refine pc_if (fun z => ?_) (fun nz48 => ?_)
  · rw [apF_M (by omega), X2 180 z (by decide)]
    have MB := CR.2.2.2 (by omega)
    obtain ⟨t0, t1, t2', KK⟩ := mb_tx zk z2 MB.1
    obtain ⟨sk, TT⟩ := mbr_t H hk' MB
    have c16 := MB.2.1
    have FV : VTq cnt (fy_F Bf nf cnt k (pt_S (Bf k) (nf k) a 2)) ∧ fk_S (Bf k) (nf k) (pt_S (Bf k) (nf k) a 2) = true := by
      rcases TT with w | w
      · exact w.2
      · omega
    unfold ap_M
    rw [if_pos z]
    refine pc_sv (vr_part Rh (w := 0) (by omega) MB.1) ?_; intro u179 q179
    rw [q179]
    refine pc_sv (vr_cls Rh t0) ?_; intro u181 ⟨O, q181⟩
    refine pc_sv (vr_pullFit R (rks_t K (rks_o O)) (str_o S O) m30 (tyo_j q181 (by omega))) ?_; intro u183 q183
    refine rs_i q183 (fun s2 S2 K2 => ?_)
    have R2 := rme_e R (rks_e K2)
    refine pc_sv (vr_part R2 (w := 2) (by omega) MB.1) ?_; intro u186 q186
    rw [q186]
    refine pc_sv (vr_kty R2 FV.2 FV.1) ?_; intro u188 ⟨O2, q188⟩
    refine pc_sv (CB _ u188.1 s2 u188.2 (rks_t K2 (rks_o O2)) (str_o S2 O2) q188 FV.1) ?_; intro u190 q190
    exact rs_t0 q190
  refine pc_if (fun z => ?_) (fun nz49 => ?_)
  · rw [apF_M (by omega), X2 181 z (by decide)]
    have MB := CR.2.2.2 (by omega)
    obtain ⟨t0, t1, t2', KK⟩ := mb_tx zk z2 MB.1
    obtain ⟨sk, TT⟩ := mbr_t H hk' MB
    have c16 := MB.2.1
    have FV : VTq cnt (fy_F Bf nf cnt k (pt_S (Bf k) (nf k) a 2)) ∧ fk_S (Bf k) (nf k) (pt_S (Bf k) (nf k) a 2) = true := by
      rcases TT with w | w
      · exact w.2
      · omega
    unfold ap_M qj_X13_wanted_1453
    rw [if_neg (show ¬ op = 180 by omega), if_pos z]
    refine pc_sv (vr_part Rh (w := 2) (by omega) MB.1) ?_; intro u195 q195
    rw [q195]
    refine pc_sv (vr_kty Rh FV.2 FV.1) ?_; intro u197 ⟨O, q197⟩
    refine pc_sv (vr_pullFit R (rks_t K (rks_o O)) (str_o S O) m30 q197) ?_; intro u199 q199
    refine rs_i q199 (fun s2 S2 K2 => ?_)
    have R2 := rme_e R (rks_e K2)
    refine pc_sv (vr_part R2 (w := 0) (by omega) MB.1) ?_; intro u19 q19
    rw [q19]
    refine pc_sv (vr_cls R2 t0) ?_; intro u21 ⟨O2, q21⟩
    refine pc_sv (vr_pullFit R (rks_t K2 (rks_o O2)) (str_o S2 O2) m30 (tyo_j q21 (by omega))) ?_; intro u23 q23
    exact rs_t0 q23
  refine pc_if (fun z => ?_) (fun nz50 => ?_)
  · rw [apF_M (by omega), X2 182 z (by decide)]
    have MB := CR.2.2.2 (by omega)
    unfold qj_X13_wanted_1480
    refine pc_if (fun w => ?_) (fun w => ?_)
    · refine pc_sv (vr_calls R H K S m30 (by omega) MB (y := 0) (by rw [if_neg w])) ?_; intro u11 q11
      exact rs_tc q11
    · refine pc_sv (vr_calls R H K S m30 (by omega) MB (y := 1) (by rw [if_pos (show op = 184 by omega)])) ?_; intro u14 q14
      exact rs_tc q14
  refine pc_if (fun z => ?_) (fun nz51 => ?_)
  · rw [apF_M (by omega), X2 184 z (by decide)]
    have MB := CR.2.2.2 (by omega)
    unfold qj_X13_wanted_1480
    refine pc_if (fun w => ?_) (fun w => ?_)
    · refine pc_sv (vr_calls R H K S m30 (by omega) MB (y := 0) (by rw [if_neg w])) ?_; intro u11 q11
      exact rs_tc q11
    · refine pc_sv (vr_calls R H K S m30 (by omega) MB (y := 1) (by rw [if_pos (show op = 184 by omega)])) ?_; intro u14 q14
      exact rs_tc q14
  refine pc_if (fun z => ?_) (fun nz52 => ?_)
  · rw [apF_O (by omega)]
    unfold ap_O
    rw [if_pos z]
    unfold qj_X13_wanted_1227
    refine pc_sv (vr_int1 R K S m30) ?_; intro u38 q38
    exact rs_tc q38
  refine pc_if (fun z => ?_) (fun nz53 => ?_)
  · rw [X2 187 z (by decide)]
    rw [apF_O (by omega)]
    unfold ap_O
    rw [if_neg (show ¬ op = 186 by omega), if_pos z]
    refine pc_sv (CL (by omega) h K) ?_; intro u203 ⟨O, q203⟩
    refine pc_sv (CB _ u203.1 s u203.2 (rks_t K (rks_o O)) (str_o S O) q203 (.inr (.inr (.inr (.inr (.inl (IS (by omega)).1)))))) ?_; intro u205 q205
    exact rs_tc q205
  refine pc_if (fun z => ?_) (fun nz54 => ?_)
  · rw [apF_O (by omega)]
    unfold ap_O
    rw [if_neg (show ¬ op = 186 by omega), if_neg (show ¬ op = 187 by omega), if_pos z]
    refine pc_sv (vr_int1 R K S m30) ?_; intro u208 q208
    refine rs_i q208 (fun s2 S2 K2 => ?_)
    refine pc_sv (CB 200 3 s2 u208.2 K2 S2 ty_200 vt_200) ?_; intro u210 q210
    exact rs_t0 q210
  refine pc_if (fun z => ?_) (fun nz55 => ?_)
  · rw [X2 189 z (by decide)]
    rw [apF_O (by omega)]
    unfold ap_O
    rw [if_neg (show ¬ op = 186 by omega), if_neg (show ¬ op = 187 by omega), if_neg (show ¬ op = 188 by omega), if_pos z]
    refine pc_sv (vr_int1 R K S m30) ?_; intro u214 q214
    refine rs_i q214 (fun s2 S2 K2 => ?_)
    refine pc_sv (CL (by omega) u214.2 K2) ?_; intro u217 ⟨O, q217⟩
    have is := IS (by omega)
    have is2 := is.1
    unfold ISc at is2
    have q217' := q217
    unfold TYj at q217
    refine pc_add (by omega) ?_; intro v218 e218
    refine pc_sv (CB (100 + cq_F Bf nf cnt (Bf k) (nf k) a) v218 s2 u217.2 (rks_t K2 (rks_o O)) (str_o S2 O) (by unfold TYj; omega) (.inr (.inr (.inr (.inr (.inr (by rw [show 100 + cq_F Bf nf cnt (Bf k) (nf k) a - 100 = cq_F Bf nf cnt (Bf k) (nf k) a by omega]; exact is.1))))))) ?_; intro u220 q220
    exact rs_t0 q220
  refine pc_if (fun z => ?_) (fun nz56 => ?_)
  · rw [apF_O (by omega)]
    unfold ap_O
    rw [if_neg (show ¬ op = 186 by omega), if_neg (show ¬ op = 187 by omega), if_neg (show ¬ op = 188 by omega), if_neg (show ¬ op = 189 by omega), if_pos z]
    rw [show aA True True s = (aPop s).bind (fun x => pr_I (ARy True True x.1) (some x) none) from rfl]
    unfold qj_X13_wanted_1592
    refine pc_sv (vr_pull K S m30) ?_; intro u224 ⟨K3, Z⟩
    rcases Z with Z | ⟨y, y1, y2, y3, y4⟩
    · refine pc_if (fun w => absurd w (by omega)) (fun _ => pc_if (fun _ => rs_no K3 (by rw [Z.1]; rfl)) (fun w => absurd Z.2 w))
    rw [y1]
    have TR : Pc (qf_X13_isRow nn u224.1 u224.2) (fun u => (u = 1 ∧ (y.1 = 200 ∨ (100 ≤ y.1 ∧ y.1 < 116))) ∨ (u = 0 ∧ ¬ (y.1 = 200 ∨ (100 ≤ y.1 ∧ y.1 < 116)))) := vr_row (.inl y2) (vt_m1 c8 y3).1
    have tm := ty_m1 y2
    unfold TYj at y2
    have YE : ARy True True y.1 → Pc (mx_sv (qf_X13_comesBack nn 1 u224.2) fun u8 => if u8.1 = 0 then (some (0, u8.2)) else (some (1, u8.2))) (RSo cnt (Bf k (ma_S (Bf k) (nf k) i + 3)) (Bf k (ma_S (Bf k) (nf k) i + 4)) h0 (((some y).bind (fun x => pr_I (ARy True True x.1) (some x) none)).bind (fun x => aU (Bf k (ma_S (Bf k) (nf k) i + 3)) 301 x.2))) := fun w => by
      have e4 : (some y).bind (fun x => pr_I (ARy True True x.1) (some x) none) = some y := pr_t w
      rw [e4]
      refine pc_sv (CB 301 1 y.2 u224.2 K3 y4 ty_301 vt_301) ?_; intro u8 q8
      exact rs_t0 q8
    refine pc_if (fun w => YE (by rw [ary_tt]; omega)) (fun w => ?_)
    refine pc_if (fun w => absurd w tm) (fun _ => ?_)
    refine pc_sv TR ?_; intro u225 q225
    refine pc_if (fun v => rs_no K3 ?_) (fun v => YE (by rw [ary_tt]; omega))
    have e4 : (some y).bind (fun x => pr_I (ARy True True x.1) (some x) none) = none := pr_f (by rw [ary_tt]; omega)
    rw [e4]; rfl
  refine pc_if (fun z => ?_) (fun nz57 => ?_)
  · rw [apF_O (by omega)]
    unfold ap_O
    rw [if_neg (show ¬ op = 186 by omega), if_neg (show ¬ op = 187 by omega), if_neg (show ¬ op = 188 by omega), if_neg (show ¬ op = 189 by omega), if_neg (show ¬ op = 190 by omega), if_pos z]
    refine pc_sv (vr_pullFit R K S m30 ty_1) ?_; intro u230 q230
    exact rs_tc q230
  refine pc_if (fun z => ?_) (fun nz58 => ?_)
  · rw [X2 192 z (by decide)]
    rw [apF_O (by omega)]
    unfold ap_O
    rw [if_neg (show ¬ op = 186 by omega), if_neg (show ¬ op = 187 by omega), if_neg (show ¬ op = 188 by omega), if_neg (show ¬ op = 189 by omega), if_neg (show ¬ op = 190 by omega), if_neg (show ¬ op = 191 by omega), if_pos z]
    rw [show (aR s).bind (fun x => aU (Bf k (ma_S (Bf k) (nf k) i + 3)) (cq_F Bf nf cnt (Bf k) (nf k) a) x.2) = ((aR s).bind (fun x => some x.2)).bind (aU (Bf k (ma_S (Bf k) (nf k) i + 3)) (cq_F Bf nf cnt (Bf k) (nf k) a)) by rw [ob_a]; rfl]
    refine pc_sv (vr_thing K S m30 c8) ?_; intro u233 q233
    refine rs_i q233 (fun s2 S2 K2 => ?_)
    refine pc_sv (CL (by omega) u233.2 K2) ?_; intro u236 ⟨O, q236⟩
    refine pc_sv (CB _ u236.1 s2 u236.2 (rks_t K2 (rks_o O)) (str_o S2 O) q236 (.inr (.inr (.inr (.inr (.inl (IS (by omega)).1)))))) ?_; intro u238 q238
    exact rs_t0 q238
  have o193 : op = 193 := wd_193 wd o0 (by omega)
  rw [apF_O (by omega)]
  unfold ap_O
  rw [if_neg (show ¬ op = 186 by omega), if_neg (show ¬ op = 187 by omega), if_neg (show ¬ op = 188 by omega), if_neg (show ¬ op = 189 by omega), if_neg (show ¬ op = 190 by omega), if_neg (show ¬ op = 191 by omega), if_neg (show ¬ op = 192 by omega)]
  unfold qj_X13_wanted_1642
  rw [show (aR s).bind (fun x => aU (Bf k (ma_S (Bf k) (nf k) i + 3)) 301 x.2) = ((aR s).bind (fun x => some x.2)).bind (aU (Bf k (ma_S (Bf k) (nf k) i + 3)) 301) by rw [ob_a]; rfl]
  refine pc_sv (vr_thing K S m30 c8) ?_; intro u2 q2
  refine rs_i q2 (fun s2 S2 K2 => ?_)
  refine pc_sv (CB 301 1 s2 u2.2 K2 S2 ty_301 vt_301) ?_; intro u4 q4
  exact rs_t0 q4
end
end
section
/- VERIFY: frames and handlers against the state, both sides -/
section
variable {nn : Nat} {Bf : Nat → Nat → Int} {nf : Nat → Nat} {cnt mx lc : Int} {B C D : Nat → Int} {n m b d k i L p q : Nat} {M h g r h0 : ms_M} {t t2 c a op x : Int} {o : Option ST3} {s : ST3} {u : Int × ms_M}
theorem pcw_S {α : Type} {Q : α → Prop} {c : Nat} {j v : Int} {G : ms_M → Option α} (q : ∀ z, z = up_M M c j.toNat v → Pc (G z) Q) : Pc (wr_S c j v M G) Q := fun r e => q _ rfl r (ws_i e)
/-- FILL, the locals -/
theorem vc_fl5 : ∀ (f j : Nat) (h : ms_M), j ≤ 30 → (∀ x y : Nat, ¬ x = 134 → h x y = h0 x y) → (∀ x : Nat, x < j → h 134 x = 304) → Pc (qw_J7_fill_53178_5 nn f 134 304 (j : Int) 30 h) (fun u => (∀ x y : Nat, ¬ x = 134 → u x y = h0 x y) ∧ ∀ x : Nat, x < 30 → u 134 x = 304) := by
  intro f
  induction f with
  | zero => intro j h _ _ _; exact pc_none
  | succ f ih =>
    intro j h hj F W
    unfold qw_J7_fill_53178_5
    refine pc_if (fun z => pc_ret ⟨F, fun x hx => W x (by omega)⟩) (fun z => ?_)
    refine pcw_S ?_; intro h1 e1
    rw [Int.toNat_natCast] at e1
    refine pc_add (by omega) ?_; intro v2 e2
    rw [show v2 = ((j + 1 : Nat) : Int) by omega]
    refine ih (j + 1) h1 (by omega) (fun x y w => by rw [e1, up_n (by omega)]; exact F x y w) (fun x hx => ?_)
    by_cases e : x = j
    · rw [e, e1, up_s]
    · rw [e1, up_n (by omega)]; exact W x (by omega)
theorem vc_fillL : Pc (qf_J7_fill_53178 nn 134 304 h) (fun u => (∀ x y : Nat, ¬ x = 134 → u x y = h x y) ∧ ∀ x : Nat, x < 30 → u 134 x = 304) := by
  unfold qf_J7_fill_53178
  refine pc_lS ?_; intro v4 e4
  have e : ln_I h 134 = 30 := by
    unfold ln_I
    rw [if_pos (by decide)]
    all_goals rfl
  rw [e4, e]
  exact vc_fl5 nn 0 h (by omega) (fun _ _ _ => rfl) (fun x hx => absurd hx (by omega))
/-- types of a frame -/
theorem ft_vt (c0 : 0 ≤ cnt ∧ cnt ≤ 8) (G : GMt (Bf k) (nf k) i) {zx : Nat} (zk : kk_S (Bf k) (nf k) = .inr zx) (z2 : 0 ≤ Bf k 2) {f : Nat} (hf : f < fn_S (Bf k) (nf k) i) (F : FTh Bf nf cnt k i f) : (∀ j : Nat, (j : Int) < nl_S (Bf k) (nf k) i f → TPg (Bf k) (nf k) (tp_S (Bf k) (fw_S (Bf k) (nf k) i f + 2) j) ∧ VTq cnt (fl_F Bf nf cnt k i f j)) ∧ ∀ j : Nat, (j : Int) < nk_S (Bf k) (nf k) i f → TPg (Bf k) (nf k) (tp_S (Bf k) (te_P (Bf k) (fw_S (Bf k) (nf k) i f + 2)) j) ∧ VTq cnt (fk_F Bf nf cnt k i f j) := by
  obtain ⟨G1, G2, G3⟩ := gm_fr G hf
  refine ⟨fun j hj => ?_, fun j hj => ?_⟩
  · have hj' : (j : Int) < Bf k (fw_S (Bf k) (nf k) i f + 2) := hj
    have T := G2.2.1 j (by omega)
    refine ⟨T, ?_⟩
    rcases tt_is (Bf := Bf) (nf := nf) c0 zk z2 T with w | w
    · exact absurd w (F.2.1 j hj)
    · exact w
  · have hj' : (j : Int) < Bf k (te_P (Bf k) (fw_S (Bf k) (nf k) i f + 2)) := hj
    have T := G3.2.1 j (by omega)
    refine ⟨T, ?_⟩
    rcases tt_is (Bf := Bf) (nf := nf) c0 zk z2 T with w | w
    · exact absurd w (F.2.2 j hj)
    · exact w
/-- LOCALS FIT, the class -/
theorem vc_fl4 (C : CMz Bf nf cnt k i h) (S : STc cnt (Bf k (ma_S (Bf k) (nf k) i + 3)) s h) {f : Nat} (hf : f < fn_S (Bf k) (nf k) i) (F : FTh Bf nf cnt k i f) : ∀ (y j : Nat) (l2 : Int), ((l2 = 1 ∧ ∀ x : Nat, x < j → FTq Bf nf cnt (s.1 x) (fl_F Bf nf cnt k i f x)) ∨ (l2 = 0 ∧ ¬ FLq Bf nf cnt k i f s)) → (j : Int) ≤ nl_S (Bf k) (nf k) i f → Pc (qw_X11_fitsLocals_4 nn y ((64 * f : Nat) : Int) l2 (j : Int) h) (fun u => (u = 1 ∧ FLq Bf nf cnt k i f s) ∨ (u = 0 ∧ ¬ FLq Bf nf cnt k i f s)) := by
  have f100 := (cme_f C.1.1).2.1
  have g30 := (cme_m C.1.1).2.2.1
  have c8 := C.1.1.1.1.1.2
  rw [C.1.2] at c8
  obtain ⟨⟨c1, c2, c3⟩, c4, c5⟩ := C.2.2.2.1 f hf
  have f1 := F.1.1
  intro y
  induction y with
  | zero => intro j l2 _ _; exact pc_none
  | succ y ih =>
    intro j l2 A hj
    unfold qw_X11_fitsLocals_4
    refine pc_add (by omega) ?_; intro v2 e2
    refine pc_rA ?_; intro _ _ v3 e3
    rw [show v2.toNat = 64 * f + 1 by omega, c2] at e3
    refine pc_if (fun z => pc_ck (fun _ => pc_ret ?_)) (fun z => ?_)
    · rcases A with w | w
      · exact .inl ⟨w.1, fun x hx => w.2 x (by omega)⟩
      · exact .inr w
    refine pc_if (fun w => pc_ck (fun _ => pc_ret (.inr ⟨w, ?_⟩))) (fun w => ?_)
    · rcases A with v | v
      · omega
      · exact v.2
    have A1 : ∀ x : Nat, x < j → FTq Bf nf cnt (s.1 x) (fl_F Bf nf cnt k i f x) := by
      rcases A with v | v
      · exact v.2
      · exact absurd v.1 w
    refine pc_rA ?_; intro _ _ v7 e7
    rw [Int.toNat_natCast, S.2.1 j (by omega)] at e7
    refine pc_add (by omega) ?_; intro v9 e9
    refine pc_add (by omega) ?_; intro v10 e10
    refine pc_rA ?_; intro _ _ v11 e11
    rw [show v10.toNat = 64 * f + 3 + j by omega, c4 j (by omega) (by omega)] at e11
    rw [e7, e11]
    have q := vc_fits (nn := nn) C.1.1.1 (x := s.1 j) (y := fl_F Bf nf cnt k i f j) (by rw [C.1.2]; exact vt_is c8 (S.1.1 j (by omega)))
    rw [C.1.2] at q
    refine pc_sv q ?_; intro u13 q13
    refine pc_add (by omega) ?_; intro v14 e14
    rw [show v14 = ((j + 1 : Nat) : Int) by omega]
    refine ih (j + 1) u13 ?_ (by omega)
    rcases q13 with v | v
    · refine .inl ⟨v.1, fun x hx => ?_⟩
      by_cases e : x = j
      · rw [e]; exact v.2
      · exact A1 x (by omega)
    · exact .inr ⟨v.1, fun y => v.2 (y j (by omega))⟩
theorem vc_flocals (C : CMz Bf nf cnt k i h) (S : STc cnt (Bf k (ma_S (Bf k) (nf k) i + 3)) s h) {f : Nat} (hf : f < fn_S (Bf k) (nf k) i) (F : FTh Bf nf cnt k i f) {v : Int} (ev : v = ((64 * f : Nat) : Int)) : Pc (qf_X11_fitsLocals nn v h) (fun u => (u = 1 ∧ FLq Bf nf cnt k i f s) ∨ (u = 0 ∧ ¬ FLq Bf nf cnt k i f s)) := by
  rw [ev]
  unfold qf_X11_fitsLocals
  have b := cme_b C.1.1 (gm_fr (cme_m C.1.1) hf).2.1.1
  exact vc_fl4 C S hf F nn 0 1 (.inl ⟨rfl, fun x hx => absurd hx (by omega)⟩) b.1
/-- THE FRAME FITS, the class -/
theorem vc_ff37 (C : CMz Bf nf cnt k i h) (S : STc cnt (Bf k (ma_S (Bf k) (nf k) i + 3)) s h) {f : Nat} (hf : f < fn_S (Bf k) (nf k) i) (en : nk_S (Bf k) (nf k) i f = (s.2.2 : Int)) (FL : FLq Bf nf cnt k i f s) : ∀ (y j : Nat) (l3 : Int), ((l3 = 1 ∧ ∀ x : Nat, x < j → FTq Bf nf cnt (s.2.1 x) (fk_F Bf nf cnt k i f x)) ∨ (l3 = 0 ∧ ¬ FFt Bf nf cnt k i f s)) → j ≤ s.2.2 → Pc (qw_X11_fitsFrame_37 nn y ((64 * f : Nat) : Int) l3 (j : Int) h) (fun u => (u = 1 ∧ FFt Bf nf cnt k i f s) ∨ (u = 0 ∧ ¬ FFt Bf nf cnt k i f s)) := by
  have f100 := (cme_f C.1.1).2.1
  have g30 := (cme_m C.1.1).2.2.1
  have c8 := C.1.1.1.1.1.2
  rw [C.1.2] at c8
  have s30 := S.1.2.2
  obtain ⟨⟨c1, c2, c3⟩, c4, c5⟩ := C.2.2.2.1 f hf
  intro y
  induction y with
  | zero => intro j l3 _ _; exact pc_none
  | succ y ih =>
    intro j l3 A hj
    unfold qw_X11_fitsFrame_37
    rw [S.2.2.2]
    refine pc_if (fun z => pc_ck (fun _ => pc_ret ?_)) (fun z => ?_)
    · rcases A with w | w
      · exact .inl ⟨w.1, FL, en, fun x hx => w.2 x (by omega)⟩
      · exact .inr w
    refine pc_if (fun w => pc_ck (fun _ => pc_ret (.inr ⟨w, ?_⟩))) (fun w => ?_)
    · rcases A with v | v
      · omega
      · exact v.2
    have A1 : ∀ x : Nat, x < j → FTq Bf nf cnt (s.2.1 x) (fk_F Bf nf cnt k i f x) := by
      rcases A with v | v
      · exact v.2
      · exact absurd v.1 w
    refine pc_rA ?_; intro _ _ v5 e5
    rw [Int.toNat_natCast, S.2.2.1 j (by omega)] at e5
    refine pc_add (by omega) ?_; intro v7 e7
    refine pc_add (by omega) ?_; intro v8 e8
    refine pc_rA ?_; intro _ _ v9 e9
    rw [show v8.toNat = 64 * f + 33 + j by omega, c5 j (by omega) (by omega)] at e9
    rw [e5, e9]
    have q := vc_fits (nn := nn) C.1.1.1 (x := s.2.1 j) (y := fk_F Bf nf cnt k i f j) (by rw [C.1.2]; exact vt_is c8 (S.1.2.1 j (by omega)))
    rw [C.1.2] at q
    refine pc_sv q ?_; intro u11 q11
    refine pc_add (by omega) ?_; intro v12 e12
    rw [show v12 = ((j + 1 : Nat) : Int) by omega]
    refine ih (j + 1) u11 ?_ (by omega)
    rcases q11 with v | v
    · refine .inl ⟨v.1, fun x hx => ?_⟩
      by_cases e : x = j
      · rw [e]; exact v.2
      · exact A1 x (by omega)
    · exact .inr ⟨v.1, fun y => v.2 (y.2.2 j (by omega))⟩
theorem vc_ff0 {v : Int} : Pc (qj_X11_fitsFrame_32 nn v h) (fun u => u = 0) := by
  unfold qj_X11_fitsFrame_32
  suffices K : ∀ y : Nat, Pc (qw_X11_fitsFrame_37 nn y v 0 0 h) (fun u => u = 0) from K nn
  intro y
  cases y with
  | zero => exact pc_none
  | succ y =>
    unfold qw_X11_fitsFrame_37
    refine pc_if (fun _ => pc_ck (fun _ => pc_ret rfl)) (fun _ => ?_)
    exact pc_if (fun _ => pc_ck (fun _ => pc_ret rfl)) (fun w => absurd rfl w)
theorem vc_fframe (C : CMz Bf nf cnt k i h) (S : STc cnt (Bf k (ma_S (Bf k) (nf k) i + 3)) s h) {f : Nat} (hf : f < fn_S (Bf k) (nf k) i) (F : FTh Bf nf cnt k i f) : Pc (qf_X11_fitsFrame nn (f : Int) h) (fun u => (u = 1 ∧ FFt Bf nf cnt k i f s) ∨ (u = 0 ∧ ¬ FFt Bf nf cnt k i f s)) := by
  have f100 := (cme_f C.1.1).2.1
  obtain ⟨⟨c1, c2, c3⟩, c4, c5⟩ := C.2.2.2.1 f hf
  unfold qf_X11_fitsFrame
  refine pc_xl ?_; intro v15 e15
  rw [oq_mul_eq (by omega) (by omega) (by omega)] at e15
  refine pc_add (by omega) ?_; intro v17 e17
  refine pc_rA ?_; intro _ _ v18 e18
  rw [show v17.toNat = 64 * f + 2 by omega, c3] at e18
  rw [S.2.2.2]
  refine pc_if (fun z => pc_imp vc_ff0 (fun u w => .inr ⟨w, fun v => z (e18.trans v.2.1)⟩)) (fun z => ?_)
  refine pc_sv (vc_flocals C S hf F (v := v15) (by omega)) ?_; intro u21 q21
  refine pc_if (fun w => pc_imp vc_ff0 (fun u y => .inr ⟨y, fun v => ?_⟩)) (fun w => ?_)
  · rcases q21 with q | q
    · omega
    · exact q.2 v.1
  rw [show v15 = ((64 * f : Nat) : Int) by omega]
  refine vc_ff37 C S hf (by omega) ?_ nn 0 1 (.inl ⟨rfl, fun x hx => absurd hx (by omega)⟩) (Nat.zero_le _)
  rcases q21 with q | q
  · exact q.2
  · exact absurd q.1 w
/-- THE STATE BECOMES THE FRAME'S, the class -/
theorem vc_tkf {f : Nat} (C : CMz Bf nf cnt k i h) (VT : (∀ j : Nat, (j : Int) < nl_S (Bf k) (nf k) i f → VTq cnt (fl_F Bf nf cnt k i f j)) ∧ ∀ j : Nat, (j : Int) < nk_S (Bf k) (nf k) i f → VTq cnt (fk_F Bf nf cnt k i f j)) (hf : f < fn_S (Bf k) (nf k) i) (F : FTh Bf nf cnt k i f) : Pc (qf_X11_takeFrame nn (f : Int) h) (fun u => SKe h u ∧ STc cnt (Bf k (ma_S (Bf k) (nf k) i + 3)) (tk_F Bf nf cnt k i f) u) := by
  have f100 := (cme_f C.1.1).2.1
  have g30 := (cme_m C.1.1).2.2.1
  have f1 := F.1
  obtain ⟨⟨c1, c2, c3⟩, c4, c5⟩ := C.2.2.2.1 f hf
  obtain ⟨G1, G2, G3⟩ := gm_fr (cme_m C.1.1) hf
  have b2 : 0 ≤ nl_S (Bf k) (nf k) i f ∧ nl_S (Bf k) (nf k) i f ≤ 255 := cme_b C.1.1 G2.1
  have b3 : 0 ≤ nk_S (Bf k) (nf k) i f ∧ nk_S (Bf k) (nf k) i f ≤ 255 := cme_b C.1.1 G3.1
  unfold qf_X11_takeFrame
  refine pc_xl ?_; intro v1 e1
  rw [oq_mul_eq (by omega) (by omega) (by omega)] at e1
  refine pc_sv vc_fillL ?_; intro u3 ⟨F3, W3⟩
  refine pc_add (by omega) ?_; intro v5 e5
  refine pc_add (by omega) ?_; intro v8 e8
  refine pc_rA ?_; intro _ _ v9 e9
  rw [show v8.toNat = 64 * f + 1 by omega, F3 133 _ (by omega), c2] at e9
  refine pc_cpS ?_; intro h10 e10
  have V10 : ∀ j : Nat, h10 134 j = if (0 ≤ j ∧ j < 0 + v9.toNat) then u3 133 (v5.toNat + (j - 0)) else u3 134 j := fun j => by
    rw [e10]
    show (if 134 = 134 ∧ (0 : Int).toNat ≤ j ∧ j < (0 : Int).toNat + v9.toNat then u3 133 (v5.toNat + (j - (0 : Int).toNat)) else u3 134 j) = _
    rw [show (0 : Int).toNat = 0 from rfl]
    by_cases w : 0 ≤ j ∧ j < 0 + v9.toNat
    · rw [if_pos ⟨rfl, w⟩, if_pos w]
    · rw [if_neg (fun y => w y.2), if_neg w]
  have F10 : ∀ x y : Nat, ¬ x = 134 → h10 x y = h x y := fun x y w => by
    rw [e10]
    show (if x = 134 ∧ _ then _ else u3 x y) = h x y
    rw [if_neg (fun z => w z.1)]
    exact F3 x y w
  refine pc_add (by omega) ?_; intro v12 e12
  refine pc_rA ?_; intro _ _ v13 e13
  rw [show v12.toNat = 64 * f + 2 by omega, F10 133 _ (by omega), c3] at e13
  refine pc_xl ?_; intro h14 e14
  have F14 : ∀ x y : Nat, ¬ x = 134 → ¬ (x = 127 ∧ y = 18) → h14 x y = h x y := fun x y w1 w2 => by rw [e14, up_n w2]; exact F10 x y w1
  have e18 : h14 127 18 = v13 := by rw [e14, up_s]
  refine pc_add (by omega) ?_; intro v16 e16
  rw [e18]
  refine pc_cpS ?_; intro h19 e19
  have F19 : ∀ x y : Nat, ¬ x = 135 → h19 x y = h14 x y := fun x y w => by
    rw [e19]
    show (if x = 135 ∧ _ then _ else h14 x y) = h14 x y
    rw [if_neg (fun z => w z.1)]
  refine pc_ret ⟨fun x y z1 z2 => ?_, ⟨fun j hj => ?_, fun j hj => ?_, ?_⟩, fun j hj => ?_, fun j hj => ?_, ?_⟩
  · rw [F19 x y (by omega)]; exact F14 x y (by omega) (by omega)
  · show VTq cnt (if (j : Int) < nl_S (Bf k) (nf k) i f then fl_F Bf nf cnt k i f j else 304)
    by_cases w : (j : Int) < nl_S (Bf k) (nf k) i f
    · rw [if_pos w]; exact VT.1 j w
    · rw [if_neg w]; exact .inl rfl
  · have hj : j < (nk_S (Bf k) (nf k) i f).toNat := hj
    exact VT.2 j (by omega)
  · show (((nk_S (Bf k) (nf k) i f).toNat : Nat) : Int) ≤ (Bf k (ma_S (Bf k) (nf k) i + 3))
    omega
  · show h19 134 j = (if (j : Int) < nl_S (Bf k) (nf k) i f then fl_F Bf nf cnt k i f j else 304)
    rw [F19 134 j (by omega), e14, up_n (by omega), V10 j]
    by_cases w : (j : Int) < nl_S (Bf k) (nf k) i f
    · rw [if_pos w, if_pos (by omega), show v5.toNat + (j - 0) = 64 * f + 3 + j by omega, F3 133 _ (by omega)]
      exact c4 j hj w
    · rw [if_neg w, if_neg (by omega)]
      exact W3 j hj
  · have hj : j < (nk_S (Bf k) (nf k) i f).toNat := hj
    show h19 135 j = fk_F Bf nf cnt k i f j
    rw [e19]
    show (if 135 = 135 ∧ (0 : Int).toNat ≤ j ∧ j < (0 : Int).toNat + v13.toNat then h14 133 (v16.toNat + (j - (0 : Int).toNat)) else h14 135 j) = _
    rw [show (0 : Int).toNat = 0 from rfl, if_pos ⟨rfl, by omega, by omega⟩, show v16.toNat + (j - 0) = 64 * f + 33 + j by omega, F14 133 _ (by omega) (by omega)]
    exact c5 j (by omega) (by omega)
  · show h19 127 18 = (((nk_S (Bf k) (nf k) i f).toNat : Nat) : Int)
    rw [F19 127 18 (by omega), e18]; omega
/-- HANDLERS FIT, the class -/
theorem vc_fh4 (C : CMz Bf nf cnt k i h) (S : STc cnt (Bf k (ma_S (Bf k) (nf k) i + 3)) s h) (E8 : ∀ j : Nat, j < hn_S (Bf k) (nf k) i → ¬ HBd Bf nf cnt k i j) (F9 : ∀ f : Nat, f < fn_S (Bf k) (nf k) i → FTh Bf nf cnt k i f) : ∀ (y j : Nat) (l2 : Int), ((l2 = 1 ∧ ∀ x : Nat, x < j → HDs Bf nf cnt k i p s x) ∨ (l2 = 0 ∧ ¬ ∀ x : Nat, x < hn_S (Bf k) (nf k) i → HDs Bf nf cnt k i p s x)) → j ≤ hn_S (Bf k) (nf k) i → Pc (qw_X11_fitsHandlers_4 nn y (p : Int) l2 (j : Int) h) (fun u => (u = 1 ∧ ∀ x : Nat, x < hn_S (Bf k) (nf k) i → HDs Bf nf cnt k i p s x) ∨ (u = 0 ∧ ¬ ∀ x : Nat, x < hn_S (Bf k) (nf k) i → HDs Bf nf cnt k i p s x)) := by
  obtain ⟨f1, f2, f3, f4, f5⟩ := cme_f C.1.1
  have c0 := C.1.1.1.1.1
  rw [C.1.2] at c0
  obtain ⟨zx, zk, z2⟩ := ck_zk C.1.1
  intro y
  induction y with
  | zero => intro j l2 _ _; exact pc_none
  | succ y ih =>
    intro j l2 A hj
    unfold qw_X11_fitsHandlers_4
    refine pc_sv (vc_info C.1.1 (w := 7) (by decide) (cme_d C.1.1).2.2.1.1) ?_; intro u3 q3
    refine pc_if (fun z => pc_ck (fun _ => pc_ret ?_)) (fun z => ?_)
    · rcases A with w | w
      · exact .inl ⟨w.1, fun x hx => w.2 x (by omega)⟩
      · exact .inr w
    refine pc_if (fun w => pc_ck (fun _ => pc_ret (.inr ⟨w, ?_⟩))) (fun w => ?_)
    · rcases A with v | v
      · omega
      · exact v.2
    have A1 : l2 = 1 ∧ ∀ x : Nat, x < j → HDs Bf nf cnt k i p s x := by
      rcases A with v | v
      · exact v
      · exact absurd v.1 w
    have jj : j < hn_S (Bf k) (nf k) i := by omega
    have NXT : HDs Bf nf cnt k i p s j → ∀ v : Int, v = (j : Int) + 1 → ∀ l : Int, l = 1 → Pc (qw_X11_fitsHandlers_4 nn y (p : Int) l v h) (fun u => (u = 1 ∧ ∀ x : Nat, x < hn_S (Bf k) (nf k) i → HDs Bf nf cnt k i p s x) ∨ (u = 0 ∧ ¬ ∀ x : Nat, x < hn_S (Bf k) (nf k) i → HDs Bf nf cnt k i p s x)) := fun hd v ev l el => by
      rw [ev, show (j : Int) + 1 = ((j + 1 : Nat) : Int) by omega]
      refine ih (j + 1) l (.inl ⟨el, fun x hx => ?_⟩) (by omega)
      by_cases e : x = j
      · rw [e]; exact hd
      · exact A1.2 x (by omega)
    have BD : ¬ HDs Bf nf cnt k i p s j → Pc (qj_X11_fitsHandlers_106 nn (qw_X11_fitsHandlers_4 nn y) (p : Int) (j : Int) h) (fun u => (u = 1 ∧ ∀ x : Nat, x < hn_S (Bf k) (nf k) i → HDs Bf nf cnt k i p s x) ∨ (u = 0 ∧ ¬ ∀ x : Nat, x < hn_S (Bf k) (nf k) i → HDs Bf nf cnt k i p s x)) := fun nd => by
      unfold qj_X11_fitsHandlers_106
      refine pc_add (by omega) ?_; intro v1 e1
      rw [show v1 = ((j + 1 : Nat) : Int) by omega]
      exact ih (j + 1) 0 (.inr ⟨rfl, fun y => nd (y j jj)⟩) (by omega)
    have q0 := vc_handler (nn := nn) C.1.1 (j := j) (x := 0) jj (by omega)
    rw [Nat.add_zero] at q0
    refine pc_sv q0 ?_; intro u7 q7
    refine pc_if (fun v => ?_) (fun v => ?_)
    · refine pc_add (by omega) ?_; intro v8 e8
      exact NXT (fun z1 _ => absurd z1 (by omega)) v8 e8 l2 A1.1
    refine pc_sv (vc_handler C.1.1 (j := j) (x := 2) jj (by omega)) ?_; intro u10 q10
    refine pc_if (fun v1 => ?_) (fun v1 => ?_)
    · refine pc_add (by omega) ?_; intro v11 e11
      exact NXT (fun _ z1 => absurd z1 (by omega)) v11 e11 l2 A1.1
    refine pc_sv (vc_handler C.1.1 (j := j) (x := 4) jj (by omega)) ?_; intro u13 q13
    have H8 := Classical.byContradiction (fun w => E8 j jj w)
    obtain ⟨H1, H2, ⟨f, H3⟩, H4⟩ := H8
    have fo := fs_o (P := fun f => fv_S (Bf k) (nf k) i f = ln_N (Bf k) (hq_S (Bf k) (nf k) i j + 4)) (N := fn_S (Bf k) (nf k) i) (p := f) H3
    have hf := fo.1
    rw [q13]
    refine pc_sv (vc_frameAt C.2.1.1 C.2.2.2.2) ?_; intro u15 q15
    have e15 : u15 = (f : Int) := by
      rcases q15 with ⟨_, q⟩ | ⟨q, _⟩
      · rw [q, H3]; rfl
      · exact absurd H2 q
    refine pc_xl ?_; intro v16 e16
    rw [oq_mul_eq (by omega) (by omega) (by omega)] at e16
    refine pc_if (fun y => absurd y (by omega)) (fun _ => ?_)
    have F := F9 f hf
    have UQ : ∀ g : Nat, fo_F (Bf k) (nf k) i (ln_N (Bf k) (hq_S (Bf k) (nf k) i j + 4)) = some g → g = f := fun g hg => by rw [H3] at hg; exact (Option.some.inj hg).symm
    refine pc_sv (vc_flocals C S hf F (v := v16) (by omega)) ?_; intro u18 q18
    refine pc_if (fun y8 => BD (fun w => ?_)) (fun y8 => ?_)
    · obtain ⟨g, g1, g2, -⟩ := w (by omega) (by omega)
      rw [UQ g g1] at g2
      rcases q18 with q | q
      · omega
      · exact q.2 g2
    have FLL : FLq Bf nf cnt k i f s := by
      rcases q18 with q | q
      · exact q.2
      · exact absurd q.1 y8
    obtain ⟨⟨c1, c2, c3⟩, c4, c5⟩ := C.2.2.2.1 f hf
    refine pc_add (by omega) ?_; intro v20 e20
    refine pc_rA ?_; intro _ _ v21 e21
    rw [show v20.toNat = 64 * f + 2 by omega, c3] at e21
    refine pc_if (fun y9 => BD (fun w => ?_)) (fun y9 => ?_)
    · obtain ⟨g, g1, -, g3, -⟩ := w (by omega) (by omega)
      rw [UQ g g1] at g3
      exact y9 (e21.trans g3)
    refine pc_sv (vc_hclass C.1.1 C.2.2.1.1 jj) ?_; intro u23 q23
    refine pc_add (by omega) ?_; intro v25 e25
    refine pc_rA ?_; intro _ _ v26 e26
    rw [show v25.toNat = 64 * f + 33 + 0 by omega, c5 0 (by omega) (by omega)] at e26
    rw [q23, e26]
    have ci := cq_is (Bf := Bf) (nf := nf) c0 zk z2 (gm_hd (cme_m C.1.1) jj).2
    have q := vc_fits (nn := nn) C.1.1.1 (x := cq_F Bf nf cnt (Bf k) (nf k) (Bf k (hq_S (Bf k) (nf k) i j + 6))) (y := fk_F Bf nf cnt k i f 0) (by
      rw [C.1.2]
      rcases ci with c | c
      · rw [c]; exact ti_m1
      · exact vt_is c0.2 c.1)
    rw [C.1.2] at q
    refine pc_sv q ?_; intro u28 q28
    refine pc_if (fun y10 => BD (fun w => ?_)) (fun y10 => ?_)
    · obtain ⟨g, g1, -, -, g4⟩ := w (by omega) (by omega)
      rw [UQ g g1] at g4
      rcases q28 with q | q
      · omega
      · exact q.2 g4
    refine pc_add (by omega) ?_; intro v29 e29
    refine NXT (fun _ _ => ⟨f, H3, FLL, by omega, ?_⟩) v29 e29 1 rfl
    rcases q28 with q | q
    · exact q.2
    · exact absurd q.1 y10
theorem vc_fhand (C : CMz Bf nf cnt k i h) (S : STc cnt (Bf k (ma_S (Bf k) (nf k) i + 3)) s h) (E8 : ∀ j : Nat, j < hn_S (Bf k) (nf k) i → ¬ HBd Bf nf cnt k i j) (F9 : ∀ f : Nat, f < fn_S (Bf k) (nf k) i → FTh Bf nf cnt k i f) : Pc (qf_X11_fitsHandlers nn (p : Int) h) (fun u => (u = 1 ∧ ∀ x : Nat, x < hn_S (Bf k) (nf k) i → HDs Bf nf cnt k i p s x) ∨ (u = 0 ∧ ¬ ∀ x : Nat, x < hn_S (Bf k) (nf k) i → HDs Bf nf cnt k i p s x)) := by
  unfold qf_X11_fitsHandlers
  exact vc_fh4 C S E8 F9 nn 0 1 (.inl ⟨rfl, fun x hx => absurd hx (by omega)⟩) (Nat.zero_le _)
end
end
section
/- VERIFY: frames and handlers against the state, the reference -/
section
variable {nn : Nat} {Bf : Nat → Nat → Int} {nf : Nat → Nat} {cnt mx lc : Int} {B C D : Nat → Int} {n m b d k i L p q : Nat} {M h g r h0 : ms_M} {t t2 c a op x : Int} {o : Option ST3} {s : ST3} {u : Int × ms_M}
theorem tp_nx (hT : TPg (Bf k) (nf k) (tp_S (Bf k) p q)) : ((Bf k (tp_S (Bf k) p q) = 3 ∧ tp_S (Bf k) p (q + 1) = tp_S (Bf k) p q + 2) ∨ (¬ Bf k (tp_S (Bf k) p q) = 3 ∧ tp_S (Bf k) p (q + 1) = tp_S (Bf k) p q + 1)) ∧ tp_S (Bf k) p (q + 1) ≤ nf k := by
  have st : tp_S (Bf k) p (q + 1) = tp_S (Bf k) p q + (if Bf k (tp_S (Bf k) p q) = 3 then 2 else 1) := rfl
  refine ⟨?_, tpg_n hT⟩
  by_cases c3 : Bf k (tp_S (Bf k) p q) = 3
  · rw [if_pos c3] at st; exact .inl ⟨c3, st⟩
  · rw [if_neg c3] at st; exact .inr ⟨c3, st⟩
/-- LOCALS FIT, the reference -/
theorem vr_lf20 (R : RMe Bf nf cnt k i h0) (S : STr cnt (Bf k (ma_S (Bf k) (nf k) i + 3)) (Bf k (ma_S (Bf k) (nf k) i + 4)) s h0) {f : Nat} (hf : f < fn_S (Bf k) (nf k) i) (F : FTh Bf nf cnt k i f) : ∀ (y j : Nat) (h : ms_M), OTH h0 h → (∀ x : Nat, x < j → FTq Bf nf cnt (s.1 x) (fl_F Bf nf cnt k i f x)) → (j : Int) ≤ nl_S (Bf k) (nf k) i f → Pc (qw_X13_localsFit_20 nn y (tp_S (Bf k) (fw_S (Bf k) (nf k) i f + 2) j : Int) (nl_S (Bf k) (nf k) i f) (j : Int) h) (fun u => OTH h0 u.2 ∧ ((u.1 = 1 ∧ FLq Bf nf cnt k i f s) ∨ (u.1 = 0 ∧ ¬ FLq Bf nf cnt k i f s))) := by
  have n6 := rme_n6 R
  obtain ⟨zx, zk, z2⟩ := rk_zk R
  have g30 := (rme_m R).2.2.1
  have c0 := rme_c R
  obtain ⟨V1, -⟩ := ft_vt c0 (rme_m R) zk z2 hf F
  have f1 := F.1.1
  intro y
  induction y with
  | zero => intro j h _ _ _; exact pc_none
  | succ y ih =>
    intro j h O A hj
    have Rh := rme_e R (rke_o O)
    unfold qw_X13_localsFit_20
    refine pc_if (fun z => pc_ret ⟨O, .inl ⟨rfl, fun x hx => A x (by omega)⟩⟩) (fun z => ?_)
    obtain ⟨T, V⟩ := V1 j (by omega)
    obtain ⟨nx, nl⟩ := tp_nx T
    refine pc_rA ?_; intro _ _ v4 e4
    rw [Int.toNat_natCast, O.1 243 j (by omega) (by omega) (by omega)] at e4
    have TS := S.2.1 j (by omega)
    rw [← e4] at TS
    refine pc_sv (vr_framed Rh T) ?_; intro u6 ⟨O6, q6⟩
    have O2 := oth_t O O6
    have R6 := rme_e R (rke_o O2)
    have q6 : TYo (fl_F Bf nf cnt k i f j) u6.1 := q6
    refine pc_sv (vr_go R6 (vt_is c0.2 (S.1.1 j (by omega))) TS (tyo_j q6 (vt_m1 c0.2 V).1)) ?_; intro u8 q8
    refine pc_if (fun w => ?_) (fun w => pc_ret ⟨O2, .inr ⟨rfl, fun v => ?_⟩⟩)
    · have fj : FTq Bf nf cnt (s.1 j) (fl_F Bf nf cnt k i f j) := by
        rcases q8 with q | q
        · exact q.2
        · exact absurd q.1 w
      have A2 : ∀ x : Nat, x < j + 1 → FTq Bf nf cnt (s.1 x) (fl_F Bf nf cnt k i f x) := fun x hx => by
        by_cases e : x = j
        · rw [e]; exact fj
        · exact A x (by omega)
      refine pc_sv (vr_byte R6 T.1) ?_; intro u11 q11
      rw [q11]
      unfold qj_X13_localsFit_66
      refine pc_if (fun v => ?_) (fun v => ?_)
      · refine pc_add (by omega) ?_; intro v1 e1
        refine pc_add (by omega) ?_; intro v2 e2
        rw [show v1 = (tp_S (Bf k) (fw_S (Bf k) (nf k) i f + 2) (j + 1) : Int) by omega, show v2 = ((j + 1 : Nat) : Int) by omega]
        exact ih (j + 1) u6.2 O2 A2 (by omega)
      · refine pc_add (by omega) ?_; intro v1 e1
        refine pc_add (by omega) ?_; intro v2 e2
        rw [show v1 = (tp_S (Bf k) (fw_S (Bf k) (nf k) i f + 2) (j + 1) : Int) by omega, show v2 = ((j + 1 : Nat) : Int) by omega]
        exact ih (j + 1) u6.2 O2 A2 (by omega)
    · rcases q8 with q | q
      · omega
      · exact q.2 (v j (by omega))
theorem vr_lfit (R : RMe Bf nf cnt k i h) (S : STr cnt (Bf k (ma_S (Bf k) (nf k) i + 3)) (Bf k (ma_S (Bf k) (nf k) i + 4)) s h) {f : Nat} (hf : f < fn_S (Bf k) (nf k) i) (F : FTh Bf nf cnt k i f) : Pc (qf_X13_localsFit nn (fw_S (Bf k) (nf k) i f : Int) h) (fun u => OTH h u.2 ∧ ((u.1 = 1 ∧ FLq Bf nf cnt k i f s) ∨ (u.1 = 0 ∧ ¬ FLq Bf nf cnt k i f s))) := by
  have n6 := rme_n6 R
  obtain ⟨G1, G2, G3⟩ := gm_fr (rme_m R) hf
  have b2 := rme_b R G2.1
  have b2 : 0 ≤ nl_S (Bf k) (nf k) i f ∧ nl_S (Bf k) (nf k) i f ≤ 255 := b2
  unfold qf_X13_localsFit
  refine pc_add (by omega) ?_; intro v15 e15
  rw [show v15 = ((fw_S (Bf k) (nf k) i f + 2 : Nat) : Int) by omega]
  refine pc_sv (vr_byte R G2.1) ?_; intro u18 q18
  refine pc_add (by omega) ?_; intro v19 e19
  rw [show v19 = (tp_S (Bf k) (fw_S (Bf k) (nf k) i f + 2) 0 : Int) by rw [e19]; rfl, show u18 = nl_S (Bf k) (nf k) i f from q18]
  exact vr_lf20 R S hf F nn 0 h oth_r (fun x hx => absurd hx (by omega)) b2.1
/-- THE STACK FITS, the reference -/
theorem vr_sf34 (R : RMe Bf nf cnt k i h0) (S : STr cnt (Bf k (ma_S (Bf k) (nf k) i + 3)) (Bf k (ma_S (Bf k) (nf k) i + 4)) s h0) {f : Nat} (hf : f < fn_S (Bf k) (nf k) i) (F : FTh Bf nf cnt k i f) (en : nk_S (Bf k) (nf k) i f = (s.2.2 : Int)) : ∀ (y j : Nat) (h : ms_M), OTH h0 h → (∀ x : Nat, x < j → FTq Bf nf cnt (s.2.1 x) (fk_F Bf nf cnt k i f x)) → j ≤ s.2.2 → Pc (qw_X13_stackFits_34 nn y (tp_S (Bf k) (te_P (Bf k) (fw_S (Bf k) (nf k) i f + 2)) j : Int) (nk_S (Bf k) (nf k) i f) (j : Int) h) (fun u => OTH h0 u.2 ∧ ((u.1 = 1 ∧ ∀ x : Nat, x < s.2.2 → FTq Bf nf cnt (s.2.1 x) (fk_F Bf nf cnt k i f x)) ∨ (u.1 = 0 ∧ ¬ ∀ x : Nat, x < s.2.2 → FTq Bf nf cnt (s.2.1 x) (fk_F Bf nf cnt k i f x)))) := by
  have n6 := rme_n6 R
  obtain ⟨zx, zk, z2⟩ := rk_zk R
  have g30 := (rme_m R).2.2.1
  have c0 := rme_c R
  obtain ⟨-, V1⟩ := ft_vt c0 (rme_m R) zk z2 hf F
  have s30 := S.1.2.2
  intro y
  induction y with
  | zero => intro j h _ _ _; exact pc_none
  | succ y ih =>
    intro j h O A hj
    have Rh := rme_e R (rke_o O)
    unfold qw_X13_stackFits_34
    refine pc_if (fun z => pc_ret ⟨O, .inl ⟨rfl, fun x hx => A x (by omega)⟩⟩) (fun z => ?_)
    obtain ⟨T, V⟩ := V1 j (by omega)
    obtain ⟨nx, nl⟩ := tp_nx T
    refine pc_rA ?_; intro _ _ v4 e4
    rw [Int.toNat_natCast, O.1 244 j (by omega) (by omega) (by omega)] at e4
    have TS := S.2.2.1 j (by omega)
    rw [← e4] at TS
    refine pc_sv (vr_framed Rh T) ?_; intro u6 ⟨O6, q6⟩
    have O2 := oth_t O O6
    have R6 := rme_e R (rke_o O2)
    have q6 : TYo (fk_F Bf nf cnt k i f j) u6.1 := q6
    refine pc_sv (vr_go R6 (vt_is c0.2 (S.1.2.1 j (by omega))) TS (tyo_j q6 (vt_m1 c0.2 V).1)) ?_; intro u8 q8
    refine pc_if (fun w => ?_) (fun w => pc_ret ⟨O2, .inr ⟨rfl, fun v => ?_⟩⟩)
    · have fj : FTq Bf nf cnt (s.2.1 j) (fk_F Bf nf cnt k i f j) := by
        rcases q8 with q | q
        · exact q.2
        · exact absurd q.1 w
      have A2 : ∀ x : Nat, x < j + 1 → FTq Bf nf cnt (s.2.1 x) (fk_F Bf nf cnt k i f x) := fun x hx => by
        by_cases e : x = j
        · rw [e]; exact fj
        · exact A x (by omega)
      refine pc_sv (vr_byte R6 T.1) ?_; intro u11 q11
      rw [q11]
      unfold qj_X13_stackFits_80
      refine pc_if (fun v => ?_) (fun v => ?_)
      · refine pc_add (by omega) ?_; intro v1 e1
        refine pc_add (by omega) ?_; intro v2 e2
        rw [show v1 = (tp_S (Bf k) (te_P (Bf k) (fw_S (Bf k) (nf k) i f + 2)) (j + 1) : Int) by omega, show v2 = ((j + 1 : Nat) : Int) by omega]
        exact ih (j + 1) u6.2 O2 A2 (by omega)
      · refine pc_add (by omega) ?_; intro v1 e1
        refine pc_add (by omega) ?_; intro v2 e2
        rw [show v1 = (tp_S (Bf k) (te_P (Bf k) (fw_S (Bf k) (nf k) i f + 2)) (j + 1) : Int) by omega, show v2 = ((j + 1 : Nat) : Int) by omega]
        exact ih (j + 1) u6.2 O2 A2 (by omega)
    · rcases q8 with q | q
      · omega
      · exact q.2 (v j (by omega))
theorem vr_sfit (R : RMe Bf nf cnt k i h) (S : STr cnt (Bf k (ma_S (Bf k) (nf k) i + 3)) (Bf k (ma_S (Bf k) (nf k) i + 4)) s h) {f : Nat} (hf : f < fn_S (Bf k) (nf k) i) (F : FTh Bf nf cnt k i f) : Pc (qf_X13_stackFits nn (fw_S (Bf k) (nf k) i f : Int) h) (fun u => OTH h u.2 ∧ ((u.1 = 1 ∧ nk_S (Bf k) (nf k) i f = (s.2.2 : Int) ∧ ∀ x : Nat, x < s.2.2 → FTq Bf nf cnt (s.2.1 x) (fk_F Bf nf cnt k i f x)) ∨ (u.1 = 0 ∧ ¬ (nk_S (Bf k) (nf k) i f = (s.2.2 : Int) ∧ ∀ x : Nat, x < s.2.2 → FTq Bf nf cnt (s.2.1 x) (fk_F Bf nf cnt k i f x))))) := by
  have n6 := rme_n6 R
  obtain ⟨G1, G2, G3⟩ := gm_fr (rme_m R) hf
  have g31 := G3.1
  unfold qf_X13_stackFits
  refine pc_add (by omega) ?_; intro v15 e15
  rw [show v15 = ((fw_S (Bf k) (nf k) i f + 2 : Nat) : Int) by omega]
  refine pc_sv (vr_tend R G2) ?_; intro u17 q17
  rw [q17]
  refine pc_sv (vr_byte R G3.1) ?_; intro u20 q20
  have q20 : u20 = nk_S (Bf k) (nf k) i f := q20
  refine pc_add (by omega) ?_; intro v21 e21
  rw [show v21 = (tp_S (Bf k) (te_P (Bf k) (fw_S (Bf k) (nf k) i f + 2)) 0 : Int) by rw [e21]; rfl, q20, S.2.2.2]
  refine pc_if (fun z => ?_) (fun z => pc_ret ⟨oth_r, .inr ⟨rfl, fun w => z w.1⟩⟩)
  refine pc_imp (vr_sf34 R S hf F z nn 0 h oth_r (fun x hx => absurd hx (by omega)) (Nat.zero_le _)) (fun u ⟨q1, q2⟩ => ⟨q1, ?_⟩)
  rcases q2 with q | q
  · exact .inl ⟨q.1, z, q.2⟩
  · exact .inr ⟨q.1, fun w => q.2 w.2⟩
/-- .. both -/
theorem vr_ffit (R : RMe Bf nf cnt k i h) (S : STr cnt (Bf k (ma_S (Bf k) (nf k) i + 3)) (Bf k (ma_S (Bf k) (nf k) i + 4)) s h) {f : Nat} (hf : f < fn_S (Bf k) (nf k) i) (F : FTh Bf nf cnt k i f) {Q : Int × ms_M → Prop} {G1 N : ms_M → Option (Int × ms_M)} (HY : ∀ g : ms_M, OTH h g → FFt Bf nf cnt k i f s → Pc (G1 g) Q) (HN : ∀ g : ms_M, OTH h g → ¬ FFt Bf nf cnt k i f s → Pc (N g) Q) : Pc (mx_sv (qf_X13_localsFit nn (fw_S (Bf k) (nf k) i f : Int) h) fun u52 => if u52.1 = 0 then N u52.2 else (mx_sv (qf_X13_stackFits nn (fw_S (Bf k) (nf k) i f : Int) u52.2) fun u54 => if ¬ u54.1 = 0 then G1 u54.2 else N u54.2)) Q := by
  refine pc_sv (vr_lfit R S hf F) ?_; intro u52 ⟨O, q52⟩
  refine pc_if (fun w => HN u52.2 O (fun v => ?_)) (fun w => ?_)
  · rcases q52 with q | q
    · omega
    · exact q.2 v.1
  have FL : FLq Bf nf cnt k i f s := by
    rcases q52 with q | q
    · exact q.2
    · exact absurd q.1 w
  refine pc_sv (vr_sfit (rme_e R (rke_o O)) (str_o S O) hf F) ?_; intro u54 ⟨O2, q54⟩
  have O3 := oth_t O O2
  refine pc_if (fun w => HY u54.2 O3 ⟨FL, ?_⟩) (fun w => HN u54.2 O3 (fun v => ?_))
  · rcases q54 with q | q
    · exact q.2
    · exact absurd q.1 w
  · rcases q54 with q | q
    · omega
    · exact q.2 v.2
/-- THE STATE BECOMES THE FRAME'S, the reference -/
theorem vr_b114 (R : RMe Bf nf cnt k i h0) {f : Nat} (hf : f < fn_S (Bf k) (nf k) i) (F : FTh Bf nf cnt k i f) : ∀ (y j : Nat) (h : ms_M), RKs h0 h → (∀ x : Nat, (x : Int) < (Bf k (ma_S (Bf k) (nf k) i + 4)) → TYj ((tk_F Bf nf cnt k i f).1 x) (h 243 x)) → h 160 131 = nk_S (Bf k) (nf k) i f → (∀ x : Nat, x < j → TYj (fk_F Bf nf cnt k i f x) (h 244 x)) → (j : Int) ≤ nk_S (Bf k) (nf k) i f → Pc (qw_X13_becomes_114 nn y (tp_S (Bf k) (te_P (Bf k) (fw_S (Bf k) (nf k) i f + 2)) j : Int) (nk_S (Bf k) (nf k) i f) (j : Int) h) (fun u => RKs h0 u ∧ STr cnt (Bf k (ma_S (Bf k) (nf k) i + 3)) (Bf k (ma_S (Bf k) (nf k) i + 4)) (tk_F Bf nf cnt k i f) u) := by
  have n6 := rme_n6 R
  obtain ⟨zx, zk, z2⟩ := rk_zk R
  have g30 := (rme_m R).2.2.1
  have c0 := rme_c R
  obtain ⟨V0, V1⟩ := ft_vt c0 (rme_m R) zk z2 hf F
  have f1 := F.1
  intro y
  induction y with
  | zero => intro j h _ _ _ _ _; exact pc_none
  | succ y ih =>
    intro j h K L1 e131 A hj
    have Rh := rme_e R (rks_e K)
    unfold qw_X13_becomes_114
    refine pc_if (fun z => pc_ret ⟨K, ⟨fun x hx => ?_, fun x hx => ?_, ?_⟩, L1, fun x hx => ?_, ?_⟩) (fun z => ?_)
    · show VTq cnt (if (x : Int) < nl_S (Bf k) (nf k) i f then fl_F Bf nf cnt k i f x else 304)
      by_cases w : (x : Int) < nl_S (Bf k) (nf k) i f
      · rw [if_pos w]; exact (V0 x w).2
      · rw [if_neg w]; exact .inl rfl
    · have hx : x < (nk_S (Bf k) (nf k) i f).toNat := hx
      exact (V1 x (by omega)).2
    · show (((nk_S (Bf k) (nf k) i f).toNat : Nat) : Int) ≤ (Bf k (ma_S (Bf k) (nf k) i + 3))
      omega
    · have hx : x < (nk_S (Bf k) (nf k) i f).toNat := hx
      exact A x (by omega)
    · show h 160 131 = (((nk_S (Bf k) (nf k) i f).toNat : Nat) : Int)
      omega
    obtain ⟨T, V⟩ := V1 j (by omega)
    obtain ⟨nx, nl⟩ := tp_nx T
    refine pc_sv (vr_framed Rh T) ?_; intro u5 ⟨O, q5⟩
    have q5 : TYo (fk_F Bf nf cnt k i f j) u5.1 := q5
    have K1 := rks_t K (rks_o O)
    refine pc_wA ?_; intro _ _ h6 e6
    rw [Int.toNat_natCast] at e6
    have F6 : ∀ x y : Nat, ¬ (x = 244 ∧ y = j) → h6 x y = u5.2 x y := fun x y w => by rw [e6, up_n w]
    have K2 : RKs h0 h6 := ⟨fun x y z1 z2 z3 => by rw [F6 x y (by omega)]; exact K1.1 x y z1 z2 z3, fun z => by rw [F6 160 117 (by omega)]; exact K1.2 z⟩
    have R6 := rme_e R (rks_e K2)
    refine pc_sv (vr_byte R6 T.1) ?_; intro u9 q9
    rw [q9]
    have L2 : ∀ x : Nat, (x : Int) < (Bf k (ma_S (Bf k) (nf k) i + 4)) → TYj ((tk_F Bf nf cnt k i f).1 x) (h6 243 x) := fun x hx => by rw [F6 243 x (by omega), O.1 243 x (by omega) (by omega) (by omega)]; exact L1 x hx
    have E2 : h6 160 131 = nk_S (Bf k) (nf k) i f := by rw [F6 160 131 (by omega), O.1 160 131 (by omega) (by omega) (by omega)]; exact e131
    have A2 : ∀ x : Nat, x < j + 1 → TYj (fk_F Bf nf cnt k i f x) (h6 244 x) := fun x hx => by
      by_cases e : x = j
      · rw [e, e6, up_s]; exact tyo_j q5 (vt_m1 c0.2 V).1
      · rw [F6 244 x (by omega), O.1 244 x (by omega) (by omega) (by omega)]; exact A x (by omega)
    unfold qj_X13_becomes_151
    refine pc_if (fun v => ?_) (fun v => ?_)
    · refine pc_add (by omega) ?_; intro v1 e1
      refine pc_add (by omega) ?_; intro v2 e2
      rw [show v1 = (tp_S (Bf k) (te_P (Bf k) (fw_S (Bf k) (nf k) i f + 2)) (j + 1) : Int) by omega, show v2 = ((j + 1 : Nat) : Int) by omega]
      exact ih (j + 1) h6 K2 L2 E2 A2 (by omega)
    · refine pc_add (by omega) ?_; intro v1 e1
      refine pc_add (by omega) ?_; intro v2 e2
      rw [show v1 = (tp_S (Bf k) (te_P (Bf k) (fw_S (Bf k) (nf k) i f + 2)) (j + 1) : Int) by omega, show v2 = ((j + 1 : Nat) : Int) by omega]
      exact ih (j + 1) h6 K2 L2 E2 A2 (by omega)
theorem vr_b20 (R : RMe Bf nf cnt k i h0) {f : Nat} (hf : f < fn_S (Bf k) (nf k) i) (F : FTh Bf nf cnt k i f) : ∀ (y j e : Nat) (h : ms_M), RKs h0 h → (∀ x : Nat, x < j → TYj ((tk_F Bf nf cnt k i f).1 x) (h 243 x)) → ((j : Int) ≤ nl_S (Bf k) (nf k) i f → e = j) → (nl_S (Bf k) (nf k) i f < (j : Int) → (e : Int) = nl_S (Bf k) (nf k) i f) → (j : Int) ≤ (Bf k (ma_S (Bf k) (nf k) i + 4)) → Pc (qw_X13_becomes_20 nn y (fw_S (Bf k) (nf k) i f : Int) (tp_S (Bf k) (fw_S (Bf k) (nf k) i f + 2) e : Int) (nl_S (Bf k) (nf k) i f) (j : Int) h) (fun u => RKs h0 u ∧ STr cnt (Bf k (ma_S (Bf k) (nf k) i + 3)) (Bf k (ma_S (Bf k) (nf k) i + 4)) (tk_F Bf nf cnt k i f) u) := by
  have n6 := rme_n6 R
  obtain ⟨zx, zk, z2⟩ := rk_zk R
  have g30 := (rme_m R).2.2.1
  have c0 := rme_c R
  obtain ⟨V0, V1⟩ := ft_vt c0 (rme_m R) zk z2 hf F
  have f1 := F.1
  obtain ⟨G1, G2, G3⟩ := gm_fr (rme_m R) hf
  have g31 := G3.1
  have b3 : 0 ≤ nk_S (Bf k) (nf k) i f ∧ nk_S (Bf k) (nf k) i f ≤ 255 := rme_b R G3.1
  intro y
  induction y with
  | zero => intro j e h _ _ _ _ _; exact pc_none
  | succ y ih =>
    intro j e h K A E1 E2 hj
    have Rh := rme_e R (rks_e K)
    unfold qw_X13_becomes_20
    rw [Rh.2.2.2.2]
    refine pc_if (fun z => ?_) (fun z => ?_)
    · refine pc_add (by omega) ?_; intro v15 e15
      rw [show v15 = ((fw_S (Bf k) (nf k) i f + 2 : Nat) : Int) by omega]
      refine pc_sv (vr_tend Rh G2) ?_; intro u17 q17
      rw [q17]
      refine pc_sv (vr_byte Rh G3.1) ?_; intro u20 q20
      have q20 : u20 = nk_S (Bf k) (nf k) i f := q20
      refine pc_add (by omega) ?_; intro v21 e21
      refine pc_xl ?_; intro h22 e22
      have F22 : ∀ x y : Nat, ¬ (x = 160 ∧ y = 131) → h22 x y = h x y := fun x y w => by rw [e22, up_n w]
      rw [show v21 = (tp_S (Bf k) (te_P (Bf k) (fw_S (Bf k) (nf k) i f + 2)) 0 : Int) by rw [e21]; rfl, q20]
      refine vr_b114 R hf F nn 0 h22 ⟨fun x y z1 z2 z3 => by rw [F22 x y (by omega)]; exact K.1 x y z1 z2 z3, fun z => by rw [F22 160 117 (by omega)]; exact K.2 z⟩ (fun x hx => by rw [F22 243 x (by omega)]; exact A x (by omega)) (by rw [e22, up_s]; exact q20) (fun x hx => absurd hx (by omega)) b3.1
    refine pc_wA ?_; intro _ _ h24 e24
    rw [Int.toNat_natCast] at e24
    have F24 : ∀ x y : Nat, ¬ (x = 243 ∧ y = j) → h24 x y = h x y := fun x y w => by rw [e24, up_n w]
    have K24 : RKs h0 h24 := ⟨fun x y z1 z2 z3 => by rw [F24 x y (by omega)]; exact K.1 x y z1 z2 z3, fun z => by rw [F24 160 117 (by omega)]; exact K.2 z⟩
    refine pc_if (fun w => ?_) (fun w => ?_)
    · have ej := E1 (by omega)
      rw [ej]
      obtain ⟨T, V⟩ := V0 j (by omega)
      obtain ⟨nx, nl⟩ := tp_nx T
      refine pc_sv (vr_framed (rme_e R (rks_e K24)) T) ?_; intro u27 ⟨O, q27⟩
      have q27 : TYo (fl_F Bf nf cnt k i f j) u27.1 := q27
      have K27 := rks_t K24 (rks_o O)
      refine pc_wA ?_; intro _ _ h28 e28
      rw [Int.toNat_natCast] at e28
      have F28 : ∀ x y : Nat, ¬ (x = 243 ∧ y = j) → h28 x y = u27.2 x y := fun x y w => by rw [e28, up_n w]
      have K28 : RKs h0 h28 := ⟨fun x y z1 z2 z3 => by rw [F28 x y (by omega)]; exact K27.1 x y z1 z2 z3, fun z => by rw [F28 160 117 (by omega)]; exact K27.2 z⟩
      refine pc_sv (vr_byte (rme_e R (rks_e K28)) T.1) ?_; intro u31 q31
      rw [q31]
      have A2 : ∀ x : Nat, x < j + 1 → TYj ((tk_F Bf nf cnt k i f).1 x) (h28 243 x) := fun x hx => by
        by_cases ex : x = j
        · rw [ex, e28, up_s]
          show TYj (if (j : Int) < nl_S (Bf k) (nf k) i f then fl_F Bf nf cnt k i f j else 304) u27.1
          rw [if_pos w]
          exact tyo_j q27 (vt_m1 c0.2 V).1
        · rw [F28 243 x (by omega), O.1 243 x (by omega) (by omega) (by omega), F24 243 x (by omega)]; exact A x (by omega)
      unfold qj_X13_becomes_77
      refine pc_if (fun v => ?_) (fun v => ?_)
      · refine pc_add (by omega) ?_; intro v1 e1
        refine pc_add (by omega) ?_; intro v2 e2
        rw [show v1 = (tp_S (Bf k) (fw_S (Bf k) (nf k) i f + 2) (j + 1) : Int) by omega, show v2 = ((j + 1 : Nat) : Int) by omega]
        exact ih (j + 1) (j + 1) h28 K28 A2 (fun _ => rfl) (fun _ => by omega) (by omega)
      · refine pc_add (by omega) ?_; intro v1 e1
        refine pc_add (by omega) ?_; intro v2 e2
        rw [show v1 = (tp_S (Bf k) (fw_S (Bf k) (nf k) i f + 2) (j + 1) : Int) by omega, show v2 = ((j + 1 : Nat) : Int) by omega]
        exact ih (j + 1) (j + 1) h28 K28 A2 (fun _ => rfl) (fun _ => by omega) (by omega)
    · refine pc_add (by omega) ?_; intro v33 e33
      rw [show v33 = ((j + 1 : Nat) : Int) by omega]
      refine ih (j + 1) e h24 K24 (fun x hx => ?_) (fun y => absurd y (by omega)) (fun _ => ?_) (by omega)
      · by_cases ex : x = j
        · rw [ex, e24, up_s]
          show TYj (if (j : Int) < nl_S (Bf k) (nf k) i f then fl_F Bf nf cnt k i f j else 304) 0
          rw [if_neg w]
          exact .inl ⟨rfl, rfl⟩
        · rw [F24 243 x (by omega)]; exact A x (by omega)
      · by_cases w2 : (j : Int) = nl_S (Bf k) (nf k) i f
        · have := E1 (by omega)
          omega
        · exact E2 (by omega)
theorem vr_becomes (R : RMe Bf nf cnt k i h) {f : Nat} (hf : f < fn_S (Bf k) (nf k) i) (F : FTh Bf nf cnt k i f) : Pc (qf_X13_becomes nn (fw_S (Bf k) (nf k) i f : Int) h) (fun u => RKs h u ∧ STr cnt (Bf k (ma_S (Bf k) (nf k) i + 3)) (Bf k (ma_S (Bf k) (nf k) i + 4)) (tk_F Bf nf cnt k i f) u) := by
  have n6 := rme_n6 R
  obtain ⟨G1, G2, G3⟩ := gm_fr (rme_m R) hf
  have b2 : 0 ≤ nl_S (Bf k) (nf k) i f ∧ nl_S (Bf k) (nf k) i f ≤ 255 := rme_b R G2.1
  have f1 := F.1
  unfold qf_X13_becomes
  refine pc_add (by omega) ?_; intro v36 e36
  rw [show v36 = ((fw_S (Bf k) (nf k) i f + 2 : Nat) : Int) by omega]
  refine pc_sv (vr_byte R G2.1) ?_; intro u39 q39
  refine pc_add (by omega) ?_; intro v40 e40
  rw [show v40 = (tp_S (Bf k) (fw_S (Bf k) (nf k) i f + 2) 0 : Int) by rw [e40]; rfl, show u39 = nl_S (Bf k) (nf k) i f from q39]
  exact vr_b20 R hf F nn 0 0 h rks_r (fun x hx => absurd hx (by omega)) (fun _ => rfl) (fun y => absurd y (by omega)) (by omega)
/-- HANDLERS FIT, the reference -/
theorem vr_h20 (R : RMe Bf nf cnt k i h0) (S : STr cnt (Bf k (ma_S (Bf k) (nf k) i + 3)) (Bf k (ma_S (Bf k) (nf k) i + 4)) s h0) (E8 : ∀ j : Nat, j < hn_S (Bf k) (nf k) i → ¬ HBd Bf nf cnt k i j) (F9 : ∀ f : Nat, f < fn_S (Bf k) (nf k) i → FTh Bf nf cnt k i f) : ∀ (y j : Nat) (h : ms_M), OTH h0 h → (∀ x : Nat, x < j → HDs Bf nf cnt k i p s x) → j ≤ hn_S (Bf k) (nf k) i → Pc (qw_X13_handled_20 nn y (p : Int) (mh_P (Bf k) (nf k) i : Int) (j : Int) h) (fun u => OTH h0 u.2 ∧ ((u.1 = 1 ∧ ∀ x : Nat, x < hn_S (Bf k) (nf k) i → HDs Bf nf cnt k i p s x) ∨ (u.1 = 0 ∧ ¬ ∀ x : Nat, x < hn_S (Bf k) (nf k) i → HDs Bf nf cnt k i p s x))) := by
  have n6 := rme_n6 R
  obtain ⟨l1, l2, l3, l4, l5⟩ := rme_l R
  obtain ⟨-, -, -, f4, f5⟩ := rme_f R
  obtain ⟨zx, zk, z2⟩ := rk_zk R
  have c0 := rme_c R
  intro y
  induction y with
  | zero => intro j h _ _ _; exact pc_none
  | succ y ih =>
    intro j h O A hj
    have Rh := rme_e R (rke_o O)
    have Sh := str_o S O
    unfold qw_X13_handled_20
    refine pc_sv (vr_byte Rh l5) ?_; intro u3 q3
    refine pc_if (fun z => pc_ret ⟨O, .inl ⟨rfl, fun x hx => A x (by omega)⟩⟩) (fun z => ?_)
    have jj : j < hn_S (Bf k) (nf k) i := by omega
    obtain ⟨hg, ht⟩ := gm_hd (rme_m R) jj
    have eh : hq_S (Bf k) (nf k) i j = mh_P (Bf k) (nf k) i + 1 + 7 * j := rfl
    refine pc_add (by omega) ?_; intro v4 e4
    refine pc_xl ?_; intro v5 e5
    rw [oq_mul_eq (by omega) (by omega) (by omega)] at e5
    refine pc_add (by omega) ?_; intro v6 e6
    rw [show v6 = (hq_S (Bf k) (nf k) i j : Int) by omega]
    have NXT : HDs Bf nf cnt k i p s j → ∀ (v : Int) (g : ms_M), v = (j : Int) + 1 → OTH h0 g → Pc (qw_X13_handled_20 nn y (p : Int) (mh_P (Bf k) (nf k) i : Int) v g) (fun u => OTH h0 u.2 ∧ ((u.1 = 1 ∧ ∀ x : Nat, x < hn_S (Bf k) (nf k) i → HDs Bf nf cnt k i p s x) ∨ (u.1 = 0 ∧ ¬ ∀ x : Nat, x < hn_S (Bf k) (nf k) i → HDs Bf nf cnt k i p s x))) := fun hd v g ev Og => by
      rw [ev, show (j : Int) + 1 = ((j + 1 : Nat) : Int) by omega]
      refine ih (j + 1) g Og (fun x hx => ?_) (by omega)
      by_cases e : x = j
      · rw [e]; exact hd
      · exact A x (by omega)
    have BD : ∀ g : ms_M, OTH h0 g → ¬ HDs Bf nf cnt k i p s j → Pc (some ((0 : Int), g)) (fun u => OTH h0 u.2 ∧ ((u.1 = 1 ∧ ∀ x : Nat, x < hn_S (Bf k) (nf k) i → HDs Bf nf cnt k i p s x) ∨ (u.1 = 0 ∧ ¬ ∀ x : Nat, x < hn_S (Bf k) (nf k) i → HDs Bf nf cnt k i p s x))) := fun g Og nd => pc_ret ⟨Og, .inr ⟨rfl, fun y => nd (y j jj)⟩⟩
    refine pc_sv (vr_pair Rh (p := hq_S (Bf k) (nf k) i j) (by omega)) ?_; intro u8 q8
    refine pc_if (fun v => ?_) (fun v => ?_)
    · refine pc_add (by omega) ?_; intro v9 e9
      exact NXT (fun z1 _ => absurd z1 (by omega)) v9 h e9 O
    refine pc_add (by omega) ?_; intro v10 e10
    rw [show v10 = ((hq_S (Bf k) (nf k) i j + 2 : Nat) : Int) by omega]
    refine pc_sv (vr_pair Rh (p := hq_S (Bf k) (nf k) i j + 2) (by omega)) ?_; intro u12 q12
    refine pc_if (fun v1 => ?_) (fun v1 => ?_)
    · refine pc_add (by omega) ?_; intro v13 e13
      rw [show v13 = ((hq_S (Bf k) (nf k) i j + 4 : Nat) : Int) by omega]
      refine pc_sv (vr_pair Rh (p := hq_S (Bf k) (nf k) i j + 4) (by omega)) ?_; intro u15 q15
      have H8 := Classical.byContradiction (fun w => E8 j jj w)
      obtain ⟨H1, H2, ⟨f, H3⟩, H4⟩ := H8
      have fo := fs_o (P := fun f => fv_S (Bf k) (nf k) i f = ln_N (Bf k) (hq_S (Bf k) (nf k) i j + 4)) (N := fn_S (Bf k) (nf k) i) (p := f) H3
      have hf := fo.1
      have F := F9 f hf
      have UQ : ∀ g : Nat, fo_F (Bf k) (nf k) i (ln_N (Bf k) (hq_S (Bf k) (nf k) i j + 4)) = some g → g = f := fun g hg => by rw [H3] at hg; exact (Option.some.inj hg).symm
      rw [q15]
      refine pc_sv (vr_for Rh) ?_; intro u17 q17
      have e17 : u17 = (fw_S (Bf k) (nf k) i f : Int) := by
        rcases q17 with ⟨g, g1, g2⟩ | ⟨g1, _⟩
        · rw [g2, UQ g g1]
        · rw [H3] at g1; exact nomatch g1
      rw [e17]
      obtain ⟨G1, G2, G3⟩ := gm_fr (rme_m R) hf
      have g31 := G3.1
      refine pc_sv (vr_lfit Rh Sh hf F) ?_; intro u19 ⟨O19, q19⟩
      have O2 := oth_t O O19
      have R19 := rme_e R (rke_o O2)
      refine pc_if (fun y8 => ?_) (fun y8 => BD u19.2 O2 (fun w => ?_))
      · have FLL : FLq Bf nf cnt k i f s := by
          rcases q19 with q | q
          · exact q.2
          · exact absurd q.1 y8
        refine pc_add (by omega) ?_; intro v20 e20
        rw [show v20 = ((fw_S (Bf k) (nf k) i f + 2 : Nat) : Int) by omega]
        refine pc_sv (vr_tend R19 G2) ?_; intro u22 q22
        rw [q22]
        refine pc_sv (vr_byte R19 G3.1) ?_; intro u25 q25
        have q25 : u25 = nk_S (Bf k) (nf k) i f := q25
        refine pc_if (fun y9 => BD u19.2 O2 (fun w => ?_)) (fun y9 => ?_)
        · obtain ⟨g, g1, -, g3, -⟩ := w (by omega) (by omega)
          rw [UQ g g1] at g3
          exact y9 (q25.trans g3)
        refine pc_add (by omega) ?_; intro v28 e28
        rw [show v28 = ((hq_S (Bf k) (nf k) i j + 6 : Nat) : Int) by omega]
        refine pc_sv (vr_byte R19 hg) ?_; intro u30 q30
        rw [q30]
        refine pc_sv (vr_cls R19 ht) ?_; intro u32 ⟨O32, q32⟩
        have O3 := oth_t O2 O32
        have R32 := rme_e R (rke_o O3)
        obtain ⟨T, V⟩ := (ft_vt c0 (rme_m R) zk z2 hf F).2 0 (by omega)
        refine pc_add (by omega) ?_; intro v33 e33
        rw [show v33 = (tp_S (Bf k) (te_P (Bf k) (fw_S (Bf k) (nf k) i f + 2)) 0 : Int) by rw [e33]; rfl]
        refine pc_sv (vr_framed R32 T) ?_; intro u35 ⟨O35, q35⟩
        have O4 := oth_t O3 O35
        have R35 := rme_e R (rke_o O4)
        have q35 : TYo (fk_F Bf nf cnt k i f 0) u35.1 := q35
        have ci := cq_is (Bf := Bf) (nf := nf) c0 zk z2 ht
        have nm : ¬ cq_F Bf nf cnt (Bf k) (nf k) (Bf k (hq_S (Bf k) (nf k) i j + 6)) = -1 := fun w => by
          rw [w] at H4; exact kf_m1 H4
        have vt : VTq cnt (cq_F Bf nf cnt (Bf k) (nf k) (Bf k (hq_S (Bf k) (nf k) i j + 6))) := by
          rcases ci with c | c
          · exact absurd c nm
          · exact c.1
        refine pc_sv (vr_go R35 (vt_is c0.2 vt) (tyo_j q32 nm) (tyo_j q35 (vt_m1 c0.2 V).1)) ?_; intro u37 q37
        refine pc_if (fun y10 => ?_) (fun y10 => BD u35.2 O4 (fun w => ?_))
        · refine pc_add (by omega) ?_; intro v38 e38
          refine NXT (fun _ _ => ⟨f, H3, FLL, by omega, ?_⟩) v38 u35.2 e38 O4
          rcases q37 with q | q
          · exact q.2
          · exact absurd q.1 y10
        · obtain ⟨g, g1, -, -, g4⟩ := w (by omega) (by omega)
          rw [UQ g g1] at g4
          rcases q37 with q | q
          · omega
          · exact q.2 g4
      · obtain ⟨g, g1, g2, -⟩ := w (by omega) (by omega)
        rw [UQ g g1] at g2
        rcases q19 with q | q
        · omega
        · exact q.2 g2
    · refine pc_add (by omega) ?_; intro v42 e42
      exact NXT (fun _ z1 => absurd z1 (by omega)) v42 h e42 O
theorem vr_handled (R : RMe Bf nf cnt k i h) (S : STr cnt (Bf k (ma_S (Bf k) (nf k) i + 3)) (Bf k (ma_S (Bf k) (nf k) i + 4)) s h) (E8 : ∀ j : Nat, j < hn_S (Bf k) (nf k) i → ¬ HBd Bf nf cnt k i j) (F9 : ∀ f : Nat, f < fn_S (Bf k) (nf k) i → FTh Bf nf cnt k i f) : Pc (qf_X13_handled nn (p : Int) h) (fun u => OTH h u.2 ∧ ((u.1 = 1 ∧ ∀ x : Nat, x < hn_S (Bf k) (nf k) i → HDs Bf nf cnt k i p s x) ∨ (u.1 = 0 ∧ ¬ ∀ x : Nat, x < hn_S (Bf k) (nf k) i → HDs Bf nf cnt k i p s x))) := by
  have n6 := rme_n6 R
  have i12 := rme_i R
  unfold qf_X13_handled
  rw [R.2.2.1.1, R.2.2.1.2.1]
  refine pc_xl ?_; intro v48 e48
  rw [oq_mul_eq (by omega) (by omega) (by omega)] at e48
  refine pc_add (by omega) ?_; intro v50 e50
  refine pc_rA ?_; intro _ _ v51 e51
  rw [show v50 = 12 * (k : Int) + i by omega, (rme_t R).2.1] at e51
  rw [e51]
  exact vr_h20 R S E8 F9 nn 0 h oth_r (fun x hx => absurd hx (by omega)) (Nat.zero_le _)
/-- RIGHT AND WANTED at place p -/
theorem vr_right (R : RMe Bf nf cnt k i h) (H : HGo Bf nf cnt) (hp : p < cl_N (Bf k) (nf k) i) (S : STr cnt (Bf k (ma_S (Bf k) (nf k) i + 3)) (Bf k (ma_S (Bf k) (nf k) i + 4)) s h) : Pc (qf_X13_right nn (p : Int) h) (fun u => RKs h u.2 ∧ STr cnt (Bf k (ma_S (Bf k) (nf k) i + 3)) (Bf k (ma_S (Bf k) (nf k) i + 4)) s u.2 ∧ ((u.1 = 1 ∧ CRt Bf nf cnt k (cd_S (Bf k) (nf k) i p) (cd_S (Bf k) (nf k) i (p + 1))) ∨ (u.1 = 0 ∧ ¬ CRt Bf nf cnt k (cd_S (Bf k) (nf k) i p) (cd_S (Bf k) (nf k) i (p + 1))))) := by
  obtain ⟨l1, l2, l3, l4, l5⟩ := rme_l R
  have rg := rme_b R (p := ma_S (Bf k) (nf k) i + 7 + (p + 1)) (by omega)
  have rg : 0 ≤ cd_S (Bf k) (nf k) i (p + 1) ∧ cd_S (Bf k) (nf k) i (p + 1) ≤ 255 := rg
  unfold qf_X13_right
  refine pc_sv (vr_code R (p := p) (by omega)) ?_; intro u57 q57
  rw [q57]
  refine pc_sv wd_r ?_; intro u58 q58
  refine pc_if (fun z => ?_) (fun z => ?_)
  · refine pc_imp (vr_r25 R H (a := 0) (by omega)) (fun u ⟨q1, q2, q3, q4, q5⟩ => ⟨q1, str_k S q2 q3 q4, ?_⟩)
    have NU : ∀ o : Int, (o = 18 ∨ (180 ≤ o ∧ o ≤ 182) ∨ o = 184 ∨ (187 ≤ o ∧ o ≤ 189) ∨ o = 192 ∨ o = 193) → WD o = 2 := fun o w => by
      rcases (show o = 18 ∨ o = 180 ∨ o = 181 ∨ o = 182 ∨ o = 184 ∨ o = 187 ∨ o = 188 ∨ o = 189 ∨ o = 192 ∨ o = 193 by omega) with e | e | e | e | e | e | e | e | e | e
      all_goals (rw [e]; decide)
    have nu := NU (cd_S (Bf k) (nf k) i p)
    have TR : ∀ a : Int, CRt Bf nf cnt k (cd_S (Bf k) (nf k) i p) a := fun a => ⟨fun w => absurd (nu (by omega)) (by omega), fun w => absurd (nu (by omega)) (by omega), fun w => absurd (nu (by omega)) (by omega), fun w => absurd (nu (by omega)) (by omega)⟩
    rcases q5 with q | q
    · exact .inl ⟨q.1, TR _⟩
    · exact absurd (TR 0) q.2
  · refine pc_add (by omega) ?_; intro v59 e59
    rw [show v59 = ((p + 1 : Nat) : Int) by omega]
    refine pc_sv (vr_code R (p := p + 1) (by omega)) ?_; intro u61 q61
    rw [q61]
    exact pc_imp (vr_r25 R H rg) (fun u ⟨q1, q2, q3, q4, q5⟩ => ⟨q1, str_k S q2 q3 q4, q5⟩)
theorem vr_wanted (R : RMe Bf nf cnt k i h0) (RZ : h0 160 136 = ((6000 * k + (ps_S (Bf k) (nf k) (kt_S (Bf k) (nf k) i 1) (pm_S (Bf k) (nf k) (kt_S (Bf k) (nf k) i 1)) + 1) : Nat) : Int)) (H : HGo Bf nf cnt) (K : RKs h0 h) (S : STr cnt (Bf k (ma_S (Bf k) (nf k) i + 3)) (Bf k (ma_S (Bf k) (nf k) i + 4)) s h) (hp : p < cl_N (Bf k) (nf k) i) (CR : CRt Bf nf cnt k (cd_S (Bf k) (nf k) i p) (cd_S (Bf k) (nf k) i (p + 1))) (wd : 0 < WD (cd_S (Bf k) (nf k) i p)) : Pc (qf_X13_wanted nn (p : Int) h) (RSo cnt (Bf k (ma_S (Bf k) (nf k) i + 3)) (Bf k (ma_S (Bf k) (nf k) i + 4)) h0 (ap_F Bf nf cnt k i (cd_S (Bf k) (nf k) i p) (cd_S (Bf k) (nf k) i (p + 1)) s)) := by
  have Rh := rme_e R (rks_e K)
  obtain ⟨l1, l2, l3, l4, l5⟩ := rme_l R
  have rg := rme_b R (p := ma_S (Bf k) (nf k) i + 7 + (p + 1)) (by omega)
  have rg : 0 ≤ cd_S (Bf k) (nf k) i (p + 1) ∧ cd_S (Bf k) (nf k) i (p + 1) ≤ 255 := rg
  have rg0 := rme_b R (p := ma_S (Bf k) (nf k) i + 7 + p) (by omega)
  have rg0 : 0 ≤ cd_S (Bf k) (nf k) i p ∧ cd_S (Bf k) (nf k) i p ≤ 255 := rg0
  unfold qf_X13_wanted
  refine pc_sv (vr_code Rh (p := p) (by omega)) ?_; intro u242 q242
  rw [q242]
  refine pc_sv wd_r ?_; intro u243 q243
  refine pc_if (fun z => vr_w25 R RZ H K S CR wd rg0 (.inr (by omega)) rg) (fun z => ?_)
  refine pc_add (by omega) ?_; intro v244 e244
  rw [show v244 = ((p + 1 : Nat) : Int) by omega]
  refine pc_sv (vr_code Rh (p := p + 1) (by omega)) ?_; intro u246 q246
  rw [q246]
  exact vr_w25 R RZ H K S CR wd rg0 (.inl rfl) rg
end
end

/- VERIFY: what an instruction makes of the state: the reference's side, all of them -/
section
variable {nn : Nat} {Bf : Nat → Nat → Int} {nf : Nat → Nat} {cnt mx lc : Int} {B C D : Nat → Int} {n m b d k i L p q : Nat} {M h g r h0 : ms_M} {t t2 c a op x : Int} {o : Option ST3} {o2 : Option (Int × ST3)} {s : ST3} {u : Int × ms_M}
theorem ob_a {α β γ : Type} {o : Option α} {f : α → Option β} {g : β → Option γ} : (o.bind f).bind g = o.bind (fun x => (f x).bind g) := by
  cases o with
  | none => rfl
  | some x => rfl
theorem ob_s {α : Type} {o : Option α} : o.bind (fun x => some x) = o := by
  cases o with
  | none => rfl
  | some x => rfl
theorem ob_n {α β : Type} {o : Option α} : o.bind (fun _ => (none : Option β)) = none := by
  cases o with
  | none => rfl
  | some x => rfl
theorem wd_ops : (List.range 256).all (fun o => decide (WD ((o : Nat) : Int) = 0) || ([0, 1, 2, 3, 4, 5, 6, 7, 8, 16, 18, 21, 25, 46, 50, 54, 58, 79, 83, 87, 89, 96, 100, 104, 108, 112, 116, 120, 122, 124, 126, 128, 130, 153, 154, 159, 160, 161, 162, 163, 164, 165, 166, 167, 172, 176, 177, 180, 181, 182, 184, 186, 187, 188, 189, 190, 191, 192, 193]).contains o) = true := by decide +kernel
theorem wd_193 {op : Int} (wd : 0 < WD op) (o0 : 0 ≤ op ∧ op ≤ 255) (n : ¬ op = 0 ∧ ¬ op = 1 ∧ ¬ op = 2 ∧ ¬ op = 3 ∧ ¬ op = 4 ∧ ¬ op = 5 ∧ ¬ op = 6 ∧ ¬ op = 7 ∧ ¬ op = 8 ∧ ¬ op = 16 ∧ ¬ op = 18 ∧ ¬ op = 21 ∧ ¬ op = 25 ∧ ¬ op = 46 ∧ ¬ op = 50 ∧ ¬ op = 54 ∧ ¬ op = 58 ∧ ¬ op = 79 ∧ ¬ op = 83 ∧ ¬ op = 87 ∧ ¬ op = 89 ∧ ¬ op = 96 ∧ ¬ op = 100 ∧ ¬ op = 104 ∧ ¬ op = 108 ∧ ¬ op = 112 ∧ ¬ op = 116 ∧ ¬ op = 120 ∧ ¬ op = 122 ∧ ¬ op = 124 ∧ ¬ op = 126 ∧ ¬ op = 128 ∧ ¬ op = 130 ∧ ¬ op = 153 ∧ ¬ op = 154 ∧ ¬ op = 159 ∧ ¬ op = 160 ∧ ¬ op = 161 ∧ ¬ op = 162 ∧ ¬ op = 163 ∧ ¬ op = 164 ∧ ¬ op = 165 ∧ ¬ op = 166 ∧ ¬ op = 167 ∧ ¬ op = 172 ∧ ¬ op = 176 ∧ ¬ op = 177 ∧ ¬ op = 180 ∧ ¬ op = 181 ∧ ¬ op = 182 ∧ ¬ op = 184 ∧ ¬ op = 186 ∧ ¬ op = 187 ∧ ¬ op = 188 ∧ ¬ op = 189 ∧ ¬ op = 190 ∧ ¬ op = 191 ∧ ¬ op = 192) : op = 193 := by
  have z := List.all_eq_true.mp wd_ops op.toNat (List.mem_range.mpr (by omega))
  rw [show ((op.toNat : Nat) : Int) = op by omega, Bool.or_eq_true] at z
  rcases z with z | z
  · have := of_decide_eq_true z
    omega
  · have z2 := List.contains_iff_mem.mp z
    simp only [List.mem_cons, List.not_mem_nil, or_false] at z2
    omega
theorem ary_tf {x : Int} : ARy True False x ↔ (x = 300 ∨ x = 200) := by
  unfold ARy
  constructor
  · intro w
    rcases w with w | w | w
    · exact .inl w
    · exact .inr w.1
    · exact w.2.1.elim
  · intro w
    rcases w with w | w
    · exact .inl w
    · exact .inr (.inl ⟨w, trivial⟩)
theorem ary_ft {x : Int} : ARy False True x ↔ (x = 300 ∨ (¬ x = 200 ∧ 100 ≤ x ∧ x ≤ 200)) := by
  unfold ARy
  constructor
  · intro w
    rcases w with w | w | w
    · exact .inl w
    · exact w.2.elim
    · exact .inr ⟨w.1, w.2.2⟩
  · intro w
    rcases w with w | w
    · exact .inl w
    · exact .inr (.inr ⟨w.1, trivial, w.2⟩)
theorem ary_tt {x : Int} : ARy True True x ↔ (x = 300 ∨ (100 ≤ x ∧ x ≤ 200)) := by
  unfold ARy
  constructor
  · intro w
    rcases w with w | w | w
    · exact .inl w
    · exact .inr (by omega)
    · exact .inr w.2.2
  · intro w
    by_cases e : x = 200
    · exact .inr (.inl ⟨e, trivial⟩)
    · rcases w with w | w
      · exact .inl w
      · exact .inr (.inr ⟨e, trivial, w⟩)
/-- RETURNS -/
theorem vr_wR (R : RMe Bf nf cnt k i h0) (RZ : h0 160 136 = ((6000 * k + (ps_S (Bf k) (nf k) (kt_S (Bf k) (nf k) i 1) (pm_S (Bf k) (nf k) (kt_S (Bf k) (nf k) i 1)) + 1) : Nat) : Int)) (H : HGo Bf nf cnt) (K : RKs h0 h) : (∃ rt : Int, rt = rk_F Bf nf cnt k (kt_S (Bf k) (nf k) i 1) ∧ (rt = 301 ↔ (h 226 (h 160 136).toNat = 73 ∨ h 226 (h 160 136).toNat = 90)) ∧ (rt = 303 ↔ h 226 (h 160 136).toNat = 86) ∧ (rt = 303 ∨ VTq cnt rt)) ∧ (¬ rk_F Bf nf cnt k (kt_S (Bf k) (nf k) i 1) = 303 → Pc (qf_X13_typeAt nn (h 160 136) h) (fun u => OTH h u.2 ∧ TYj (rk_F Bf nf cnt k (kt_S (Bf k) (nf k) i 1)) u.1)) := by
  have Rh := rme_e R (rks_e K)
  have n6 := rme_n6 R
  have hk' := R.2.1.1
  obtain ⟨-, Ok, zx, zk, z2⟩ := H.2 k hk'
  have e136 : h 160 136 = ((6000 * k + (ps_S (Bf k) (nf k) (kt_S (Bf k) (nf k) i 1) (pm_S (Bf k) (nf k) (kt_S (Bf k) (nf k) i 1)) + 1) : Nat) : Int) := by
    rw [K.1 160 136 (by omega) (by omega) (by omega)]; exact RZ
  obtain ⟨m2, G, -⟩ := (rme_m R).2.1
  have G : pi_S (Bf k) (nf k) (kt_S (Bf k) (nf k) i 1) = some m2 := G
  obtain ⟨em, t1, KM⟩ := ps_ok G
  have rg := mkd_rg KM m2 (Nat.le_refl _)
  obtain ⟨i1, i2, i3⟩ := tg_in (B := Bf k) (n := nf k) (k := kt_S (Bf k) (nf k) i 1) (by omega)
  obtain ⟨a1, a2, a3⟩ := rme_k2 R i1 i2
  have a4 := a2.2.1 (by omega)
  have ena : na_S (Bf k) (nf k) (kt_S (Bf k) (nf k) i 1) = pl_S (Bf k) (nf k) (kt_S (Bf k) (nf k) i 1) + 2 := rfl
  have K3 := KM.2.2.2
  have l3 := kds_l K3
  rw [em] at e136
  have b226 : h 226 (h 160 136).toNat = Bf k (ps_S (Bf k) (nf k) (kt_S (Bf k) (nf k) i 1) m2 + 1) := by
    rw [e136, Int.toNat_natCast]; exact tb_by Rh.1.2.1 (rme_hk Rh) (by omega)
  have ki := kq_is (Bf := Bf) (nf := nf) (rme_c R) K3
  have er : rk_F Bf nf cnt k (kt_S (Bf k) (nf k) i 1) = kq_F Bf nf cnt (Bf k) (ps_S (Bf k) (nf k) (kt_S (Bf k) (nf k) i 1) m2 + 1) (na_S (Bf k) (nf k) (kt_S (Bf k) (nf k) i 1) + tl_S (Bf k) (nf k) (kt_S (Bf k) (nf k) i 1)) := by unfold rk_F; rw [em]
  have nm : ¬ rk_F Bf nf cnt k (kt_S (Bf k) (nf k) i 1) = -1 := (Ok.1.2.1.2 i R.2.1.2).2
  rw [b226]
  refine ⟨⟨_, rfl, ?_, ?_, ?_⟩, fun n3 => ?_⟩
  · rw [er]
    rcases ki with w | w
    · omega
    · exact w.2.2.2.2.1
  · rw [er]
    rcases ki with w | w
    · omega
    · omega
  · rw [er] at nm ⊢
    rcases ki with w | w
    · exact .inl w.2
    · rcases w.2.2.2.2.2 with v | v
      · exact absurd v nm
      · exact .inr v
  · refine pc_imp (vr_typ Rh K3 (by omega) (v := h 160 136) e136) (fun u ⟨O, _, q⟩ => ⟨O, ?_⟩)
    rw [er] at nm n3 ⊢
    rcases q with q | q
    · exact tyo_j q nm
    · exact absurd q.1 n3
theorem du_p {y2 : Int × ST3} (e : aPop s = some y2) (hm : (s.2.2 : Int) ≤ mx) : aU mx y2.1 y2.2 = some s := by
  unfold aPop at e
  by_cases z : s.2.2 = 0
  · rw [if_pos z] at e; exact nomatch e
  · rw [if_neg z] at e
    have e2 := Option.some.inj e
    rw [← e2]
    unfold aU
    have zz : ((s.2.2 - 1 : Nat) : Int) < mx := by omega
    show (if ((s.2.2 - 1 : Nat) : Int) < mx then some (s.1, (fun j => if j = s.2.2 - 1 then s.2.1 (s.2.2 - 1) else s.2.1 j), s.2.2 - 1 + 1) else none) = some s
    rw [if_pos zz]
    have f : (fun j => if j = s.2.2 - 1 then s.2.1 (s.2.2 - 1) else s.2.1 j) = s.2.1 := by
      funext j
      by_cases w : j = s.2.2 - 1
      · rw [if_pos w, w]
      · rw [if_neg w]
    rw [f, show s.2.2 - 1 + 1 = s.2.2 by omega]
/-- WANTED -/
theorem vr_w25 (R : RMe Bf nf cnt k i h0) (RZ : h0 160 136 = ((6000 * k + (ps_S (Bf k) (nf k) (kt_S (Bf k) (nf k) i 1) (pm_S (Bf k) (nf k) (kt_S (Bf k) (nf k) i 1)) + 1) : Nat) : Int)) (H : HGo Bf nf cnt) (K : RKs h0 h) (S : STr cnt (Bf k (ma_S (Bf k) (nf k) i + 3)) (Bf k (ma_S (Bf k) (nf k) i + 4)) s h) (CR : CRt Bf nf cnt k op a) (wd : 0 < WD op) (o0 : 0 ≤ op ∧ op ≤ 255) (hx : x = a ∨ WD op ≤ 1) (ar : 0 ≤ a ∧ a ≤ 255) : Pc (qj_X13_wanted_25 nn op x h) (RSo cnt (Bf k (ma_S (Bf k) (nf k) i + 3)) (Bf k (ma_S (Bf k) (nf k) i + 4)) h0 (ap_F Bf nf cnt k i op a s)) := by
  have Rh := rme_e R (rks_e K)
  have hk' := R.2.1.1
  obtain ⟨-, -, zx, zk, z2⟩ := H.2 k hk'
  have g30 := (rme_m R).2.2.1
  have m30 := g30.1.2
  have c8 := (rme_c R).2
  have e129 := Rh.2.2.2.2
  have X2 : ∀ o : Int, op = o → WD o = 2 → x = a := fun o e w => by
    rcases hx with z | z
    · exact z
    · rw [e] at z; omega
  have CB : ∀ (t t2 : Int) (s : ST3) (g : ms_M), RKs h0 g → STr cnt (Bf k (ma_S (Bf k) (nf k) i + 3)) (Bf k (ma_S (Bf k) (nf k) i + 4)) s g → TYj t t2 → VTq cnt t → Pc (qf_X13_comesBack nn t2 g) (RSo cnt (Bf k (ma_S (Bf k) (nf k) i + 3)) (Bf k (ma_S (Bf k) (nf k) i + 4)) h0 (aU (Bf k (ma_S (Bf k) (nf k) i + 3)) t s)) := fun t t2 s g Kg Sg T V => vr_comes (rme_e R (rks_e Kg)).2.2.2.1 Kg Sg m30 T V
  have IS : (op = 187 ∨ op = 189 ∨ op = 192 ∨ op = 193) → ISc cnt (cq_F Bf nf cnt (Bf k) (nf k) a) ∧ 0 ≤ cq_F Bf nf cnt (Bf k) (nf k) a ∧ cq_F Bf nf cnt (Bf k) (nf k) a < 16 := fun w => by
    obtain ⟨t3, r⟩ := CR.2.1 w
    refine ⟨?_, r⟩
    rcases cq_is (Bf := Bf) (nf := nf) H.1 zk z2 t3 with c | c
    · omega
    · rcases c.2 with c | c | c
      · omega
      · exact c.1
      · omega
  have CL : (op = 187 ∨ op = 189 ∨ op = 192 ∨ op = 193) → ∀ g : ms_M, RKs h0 g → Pc (qf_X13_typeOfClass nn (g 160 132) a g) (fun u => OTH g u.2 ∧ TYj (cq_F Bf nf cnt (Bf k) (nf k) a) u.1) := fun w g Kg => pc_imp (vr_cls (rme_e R (rks_e Kg)) (CR.2.1 w).1) (fun u q => ⟨q.1, tyo_j q.2 (by have := (IS w).2; omega)⟩)
  have LW : ∀ (s : ST3) (g : ms_M) (t t2 : Int) (g2 : ms_M), RKs h0 g → STr cnt (Bf k (ma_S (Bf k) (nf k) i + 3)) (Bf k (ma_S (Bf k) (nf k) i + 4)) s g → TYj t t2 → VTq cnt t → g2 = up_M g 243 a.toNat t2 → Pc (some ((1 : Int), g2)) (RSo cnt (Bf k (ma_S (Bf k) (nf k) i + 3)) (Bf k (ma_S (Bf k) (nf k) i + 4)) h0 (some (aL s a t))) := fun s g t t2 g2 Kg Sg T V e => by
    have F2 : ∀ x y : Nat, ¬ (x = 243 ∧ y = a.toNat) → g2 x y = g x y := fun x y w => by rw [e, up_n w]
    refine rs_yes ⟨fun x y z1 z2 z3 => by rw [F2 x y (by omega)]; exact Kg.1 x y z1 z2 z3, fun z => by rw [F2 160 117 (by omega)]; exact Kg.2 z⟩ ⟨⟨fun j hj => ?_, Sg.1.2.1, Sg.1.2.2⟩, fun j hj => ?_, fun j hj => ?_, ?_⟩
    · show VTq cnt (if (j : Int) = a then t else s.1 j)
      by_cases q : (j : Int) = a
      · rw [if_pos q]; exact V
      · rw [if_neg q]; exact Sg.1.1 j hj
    · show TYj (if (j : Int) = a then t else s.1 j) (g2 243 j)
      by_cases q : (j : Int) = a
      · rw [if_pos q, e, show j = a.toNat by omega, up_s]; exact T
      · rw [if_neg q, F2 243 j (by omega)]; exact Sg.2.1 j hj
    · show TYj (s.2.1 j) (g2 244 j)
      rw [F2 244 j (by omega)]; exact Sg.2.2.1 j hj
    · show g2 160 131 = _
      rw [F2 160 131 (by omega)]; exact Sg.2.2.2
  unfold qj_X13_wanted_25
  refine pc_if (fun z => ?_) (fun nz1 => ?_)
  · rw [apF_A (by omega)]
    unfold ap_A qj_X13_wanted_812
    rw [if_neg (show ¬ op = 46 by omega), if_neg (show ¬ op = 50 by omega), if_neg (show ¬ op = 79 by omega), if_neg (show ¬ op = 83 by omega), if_neg (show ¬ op = 87 by omega), if_neg (show ¬ op = 89 by omega), if_neg (show ¬ op = 116 by omega)]
    exact rs_yes K S
  refine pc_if (fun z => ?_) (fun nz2 => ?_)
  · rw [apF_1 z]
    refine pc_sv (CB 300 2 s h K S ty_300 vt_300) ?_; intro u53 q53
    exact rs_tc q53
  refine pc_if (fun z => ?_) (fun nz3 => ?_)
  · rw [apF_P (by omega)]
    unfold qj_X13_wanted_820
    refine pc_sv (CB 301 1 s h K S ty_301 vt_301) ?_; intro u50 q50
    exact rs_tc q50
  refine pc_if (fun z => ?_) (fun nz4 => ?_)
  · rw [apF_P (by omega)]
    unfold qj_X13_wanted_820
    refine pc_sv (CB 301 1 s h K S ty_301 vt_301) ?_; intro u50 q50
    exact rs_tc q50
  refine pc_if (fun z => ?_) (fun nz5 => ?_)
  · rw [apF_P (by omega)]
    unfold qj_X13_wanted_820
    refine pc_sv (CB 301 1 s h K S ty_301 vt_301) ?_; intro u50 q50
    exact rs_tc q50
  refine pc_if (fun z => ?_) (fun nz6 => ?_)
  · rw [apF_P (by omega)]
    unfold qj_X13_wanted_820
    refine pc_sv (CB 301 1 s h K S ty_301 vt_301) ?_; intro u50 q50
    exact rs_tc q50
  refine pc_if (fun z => ?_) (fun nz7 => ?_)
  · rw [apF_P (by omega)]
    unfold qj_X13_wanted_820
    refine pc_sv (CB 301 1 s h K S ty_301 vt_301) ?_; intro u50 q50
    exact rs_tc q50
  refine pc_if (fun z => ?_) (fun nz8 => ?_)
  · rw [apF_P (by omega)]
    unfold qj_X13_wanted_820
    refine pc_sv (CB 301 1 s h K S ty_301 vt_301) ?_; intro u50 q50
    exact rs_tc q50
  refine pc_if (fun z => ?_) (fun nz9 => ?_)
  · rw [apF_P (by omega)]
    unfold qj_X13_wanted_820
    refine pc_sv (CB 301 1 s h K S ty_301 vt_301) ?_; intro u50 q50
    exact rs_tc q50
  refine pc_if (fun z => ?_) (fun nz10 => ?_)
  · rw [apF_P (by omega)]
    unfold qj_X13_wanted_820
    refine pc_sv (CB 301 1 s h K S ty_301 vt_301) ?_; intro u50 q50
    exact rs_tc q50
  refine pc_if (fun z => ?_) (fun nz11 => ?_)
  · rw [apF_P (by omega)]
    unfold qj_X13_wanted_820
    refine pc_sv (CB 301 1 s h K S ty_301 vt_301) ?_; intro u50 q50
    exact rs_tc q50
  refine pc_if (fun z => ?_) (fun nz12 => ?_)
  · rw [apF_L (by omega), X2 21 z (by decide), e129]
    unfold ap_L
    refine pc_if (fun w => rs_no K (if_pos w)) (fun w => ?_)
    rw [if_neg w, if_pos z]
    have T := S.2.1 a.toNat (by omega)
    have V := S.1.1 a.toNat (by omega)
    refine pc_rA ?_; intro _ _ v57 e57
    rw [← e57] at T
    refine pc_if (fun y => rs_no K (pr_f (by unfold TYj at T; omega))) (fun y => ?_)
    rw [pr_t (show s.1 a.toNat = 301 by unfold TYj at T; omega)]
    refine pc_sv (CB _ 1 s h K S (by rw [show s.1 a.toNat = 301 by unfold TYj at T; omega]; exact ty_301) V) ?_; intro u59 q59
    exact rs_t0 q59
  refine pc_if (fun z => ?_) (fun nz13 => ?_)
  · rw [apF_L (by omega), X2 25 z (by decide), e129]
    unfold ap_L
    refine pc_if (fun w => rs_no K (if_pos w)) (fun w => ?_)
    rw [if_neg w, if_neg (show ¬ op = 21 by omega), if_pos z]
    have T := S.2.1 a.toNat (by omega)
    have V := S.1.1 a.toNat (by omega)
    refine pc_rA ?_; intro _ _ v65 e65
    have T2 := T
    rw [← e65] at T2
    refine pc_if (fun y => rs_no K (pr_f (by unfold REf; unfold TYj at T2; omega))) (fun y => ?_)
    rw [pr_t (show REf (s.1 a.toNat) by unfold REf; unfold TYj at T2; unfold VTq ISc at V; omega)]
    refine pc_rA ?_; intro _ _ v67 e67
    rw [← e67] at T
    refine pc_sv (CB _ v67 s h K S T V) ?_; intro u69 q69
    exact rs_t0 q69
  refine pc_if (fun z => ?_) (fun nz14 => ?_)
  · rw [apF_A (by omega)]
    unfold ap_A qj_X13_wanted_962 qj_X13_wanted_982
    rw [if_pos z, ob_a]
    refine pc_sv (vr_int1 R K S m30) ?_; intro u74 q74
    refine rs_j q74 (fun s2 S2 K2 => ?_)
    rw [show aA True False s2 = (aPop s2).bind (fun x => pr_I (ARy True False x.1) (some x) none) from rfl]
    refine pc_sv (vr_pull K2 S2 m30) ?_; intro u76 ⟨K3, Z⟩
    rcases Z with Z | ⟨y, y1, y2, y3, y4⟩
    · refine pc_if (fun w => absurd w (by omega)) (fun _ => pc_if (fun _ => rs_no K3 (by rw [Z.1]; rfl)) (fun w => absurd (show ¬ u76.1 = 2 by omega) w))
    rw [y1]
    have Y : (u76.1 = 3 ∨ u76.1 = 2) → Pc (mx_sv (qf_X13_comesBack nn 1 u76.2) fun u47 => if u47.1 = 0 then (some (0, u47.2)) else (some (1, u47.2))) (RSo cnt (Bf k (ma_S (Bf k) (nf k) i + 3)) (Bf k (ma_S (Bf k) (nf k) i + 4)) h0 (((some y).bind (fun x => pr_I (ARy True False x.1) (some x) none)).bind (fun x => aU (Bf k (ma_S (Bf k) (nf k) i + 3)) 301 x.2))) := fun w => by
      have e4 : (some y).bind (fun x => pr_I (ARy True False x.1) (some x) none) = some y := pr_t (by rw [ary_tf]; unfold TYj at y2; omega)
      rw [e4]
      refine pc_sv (CB 301 1 y.2 u76.2 K3 y4 ty_301 vt_301) ?_; intro u47 q47
      exact rs_t0 q47
    refine pc_if (fun w => Y (.inl w)) (fun w => ?_)
    refine pc_if (fun v => rs_no K3 ?_) (fun v => Y (.inr (by omega)))
    have e4 : (some y).bind (fun x => pr_I (ARy True False x.1) (some x) none) = none := pr_f (by rw [ary_tf]; unfold TYj at y2; omega)
    rw [e4]; rfl
  refine pc_if (fun z => ?_) (fun nz15 => ?_)
  · rw [apF_A (by omega)]
    unfold ap_A
    rw [if_neg (show ¬ op = 46 by omega), if_pos z, ob_a]
    refine pc_sv (vr_int1 R K S m30) ?_; intro u81 q81
    refine rs_j q81 (fun s2 S2 K2 => ?_)
    rw [show aA False True s2 = (aPop s2).bind (fun x => pr_I (ARy False True x.1) (some x) none) from rfl]
    refine pc_sv (vr_pull K2 S2 m30) ?_; intro u83 ⟨K3, Z⟩
    rcases Z with Z | ⟨y, y1, y2, y3, y4⟩
    · refine pc_if (fun _ => pc_if (fun _ => rs_no K3 (by rw [Z.1]; rfl)) (fun w => absurd (show u83.1 ≤ 3 by omega) w)) (fun w => absurd (show ¬ u83.1 = 2 by omega) w)
    rw [y1]
    have TR : Pc (qf_X13_isRow nn u83.1 u83.2) (fun u => (u = 1 ∧ (y.1 = 200 ∨ (100 ≤ y.1 ∧ y.1 < 116))) ∨ (u = 0 ∧ ¬ (y.1 = 200 ∨ (100 ≤ y.1 ∧ y.1 < 116)))) := vr_row (.inl y2) (vt_m1 c8 y3).1
    have y2' := y2
    unfold TYj at y2
    refine pc_if (fun w => ?_) (fun w => ?_)
    · refine pc_if (fun v => rs_no K3 ?_) (fun v => ?_)
      · have e4 : (some y).bind (fun x => pr_I (ARy False True x.1) (some x) none) = none := pr_f (by rw [ary_ft]; omega)
        rw [e4]; rfl
      refine pc_sv TR ?_; intro u84 q84
      refine pc_if (fun v4 => rs_no K3 ?_) (fun v4 => ?_)
      · have e4 : (some y).bind (fun x => pr_I (ARy False True x.1) (some x) none) = none := pr_f (by rw [ary_ft]; omega)
        rw [e4]; rfl
      have rr : 100 ≤ y.1 ∧ y.1 < 116 := by omega
      have e4 : (some y).bind (fun x => pr_I (ARy False True x.1) (some x) none) = some y := pr_t (by rw [ary_ft]; omega)
      rw [e4]
      refine pc_sub (by omega) ?_; intro v85 e85
      show Pc _ (RSo cnt (Bf k (ma_S (Bf k) (nf k) i + 3)) (Bf k (ma_S (Bf k) (nf k) i + 4)) h0 (aU (Bf k (ma_S (Bf k) (nf k) i + 3)) (if y.1 = 300 then 300 else y.1 - 100) y.2))
      rw [if_neg (show ¬ y.1 = 300 by omega)]
      refine pc_sv (CB (y.1 - 100) v85 y.2 u83.2 K3 y4 (by unfold TYj; omega) (by unfold VTq ISc at y3 ⊢; omega)) ?_; intro u87 q87
      exact rs_t0 q87
    · have e4 : (some y).bind (fun x => pr_I (ARy False True x.1) (some x) none) = some y := pr_t (by rw [ary_ft]; omega)
      rw [e4]
      show Pc _ (RSo cnt (Bf k (ma_S (Bf k) (nf k) i + 3)) (Bf k (ma_S (Bf k) (nf k) i + 4)) h0 (aU (Bf k (ma_S (Bf k) (nf k) i + 3)) (if y.1 = 300 then 300 else y.1 - 100) y.2))
      rw [if_pos (show y.1 = 300 by omega)]
      refine pc_sv (CB 300 2 y.2 u83.2 K3 y4 ty_300 vt_300) ?_; intro u92 q92
      exact rs_tc q92
  refine pc_if (fun z => ?_) (fun nz16 => ?_)
  · rw [apF_L (by omega), X2 54 z (by decide), e129]
    unfold ap_L
    refine pc_if (fun w => rs_no K (if_pos w)) (fun w => ?_)
    rw [if_neg w, if_neg (show ¬ op = 21 by omega), if_neg (show ¬ op = 25 by omega), if_pos z]
    rw [show aW (FTq Bf nf cnt) 301 s = (aPop s).bind (fun x => pr_I (FTq Bf nf cnt x.1 301) (some x.2) none) from rfl]
    refine pc_sv (vr_pull K S m30) ?_; intro u98 ⟨K3, Z⟩
    rcases Z with Z | ⟨y, y1, y2, y3, y4⟩
    · exact pc_if (fun v => absurd v (by omega)) (fun _ => rs_no K3 (by rw [Z.1]; rfl))
    rw [y1]
    have ft := ft_301 (Bf := Bf) (nf := nf) y3 c8
    refine pc_if (fun v => ?_) (fun v => rs_no K3 ?_)
    · have e4 : (some y).bind (fun x => pr_I (FTq Bf nf cnt x.1 301) (some x.2) none) = some y.2 := pr_t (ft.2 (by unfold TYj at y2; omega))
      rw [e4]
      refine pc_wA ?_; intro _ _ h100 e100
      exact LW y.2 u98.2 301 1 h100 K3 y4 ty_301 vt_301 e100
    · have e4 : (some y).bind (fun x => pr_I (FTq Bf nf cnt x.1 301) (some x.2) none) = none := pr_f (fun w => v (by have := ft.1 w; unfold TYj at y2; omega))
      rw [e4]; rfl
  refine pc_if (fun z => ?_) (fun nz17 => ?_)
  · rw [apF_L (by omega), X2 58 z (by decide)]
    unfold ap_L
    refine pc_sv (vr_pull K S m30) ?_; intro u104 ⟨K3, Z⟩
    rw [(rme_e R (rks_e K3)).2.2.2.2]
    refine pc_if (fun w => rs_no K3 (if_pos w)) (fun w => ?_)
    rw [if_neg w, if_neg (show ¬ op = 21 by omega), if_neg (show ¬ op = 25 by omega), if_neg (show ¬ op = 54 by omega)]
    rw [show aR s = (aPop s).bind (fun x => pr_I (REf x.1) (some x) none) from rfl]
    rcases Z with Z | ⟨y, y1, y2, y3, y4⟩
    · exact pc_if (fun v => absurd v (by omega)) (fun _ => rs_no K3 (by rw [Z.1]; rfl))
    rw [y1]
    have y2' := y2
    unfold TYj at y2
    have y3' := y3
    unfold VTq ISc at y3
    refine pc_if (fun v => ?_) (fun v => rs_no K3 ?_)
    · have e4 : (some y).bind (fun x => pr_I (REf x.1) (some x) none) = some y := pr_t (by unfold REf; omega)
      rw [e4]
      refine pc_wA ?_; intro _ _ h107 e107
      exact LW y.2 u104.2 y.1 u104.1 h107 K3 y4 y2' y3' e107
    · have e4 : (some y).bind (fun x => pr_I (REf x.1) (some x) none) = none := pr_f (by unfold REf; omega)
      rw [e4]; rfl
  refine pc_if (fun z => ?_) (fun nz18 => ?_)
  · rw [apF_A (by omega)]
    unfold ap_A
    rw [if_neg (show ¬ op = 46 by omega), if_neg (show ¬ op = 50 by omega), if_pos z, ob_a]
    refine pc_sv (vr_ints R K S m30) ?_; intro u111 q111
    refine rs_j q111 (fun s2 S2 K2 => ?_)
    rw [show aA True False s2 = (aPop s2).bind (fun x => pr_I (ARy True False x.1) (some x) none) from rfl]
    refine pc_sv (vr_pull K2 S2 m30) ?_; intro u113 ⟨K3, Z⟩
    rcases Z with Z | ⟨y, y1, y2, y3, y4⟩
    · refine pc_if (fun w => absurd w (by omega)) (fun _ => pc_if (fun _ => rs_no K3 (by rw [Z.1]; rfl)) (fun w => absurd (show ¬ u113.1 = 2 by omega) w))
    rw [y1]
    have Y : (u113.1 = 3 ∨ u113.1 = 2) → Pc (some ((1 : Int), u113.2)) (RSo cnt (Bf k (ma_S (Bf k) (nf k) i + 3)) (Bf k (ma_S (Bf k) (nf k) i + 4)) h0 (((some y).bind (fun x => pr_I (ARy True False x.1) (some x) none)).bind (fun x => some x.2))) := fun w => by
      have e4 : (some y).bind (fun x => pr_I (ARy True False x.1) (some x) none) = some y := pr_t (by rw [ary_tf]; unfold TYj at y2; omega)
      rw [e4]
      exact rs_yes K3 y4
    refine pc_if (fun w => Y (.inl w)) (fun w => ?_)
    refine pc_if (fun v => rs_no K3 ?_) (fun v => Y (.inr (by omega)))
    have e4 : (some y).bind (fun x => pr_I (ARy True False x.1) (some x) none) = none := pr_f (by rw [ary_tf]; unfold TYj at y2; omega)
    rw [e4]; rfl
  refine pc_if (fun z => ?_) (fun nz19 => ?_)
  · rw [apF_A (by omega)]
    unfold ap_A qj_X13_wanted_1136
    rw [if_neg (show ¬ op = 46 by omega), if_neg (show ¬ op = 50 by omega), if_neg (show ¬ op = 79 by omega), if_pos z]
    rw [show (aR s).bind (fun x => aW (FTq Bf nf cnt) 301 x.2) = ((aR s).bind (fun x => some x.2)).bind (aW (FTq Bf nf cnt) 301) by rw [ob_a]; rfl, ob_a, ob_a]
    refine pc_sv (vr_thing K S m30 c8) ?_; intro u118 q118
    refine rs_i q118 (fun s1 S1 K1 => ?_)
    refine pc_sv (vr_int1 R K1 S1 m30) ?_; intro u120 q120
    refine rs_j q120 (fun s2 S2 K2 => ?_)
    rw [show aA False True s2 = (aPop s2).bind (fun x => pr_I (ARy False True x.1) (some x) none) from rfl]
    refine pc_sv (vr_pull K2 S2 m30) ?_; intro u122 ⟨K3, Z⟩
    rcases Z with Z | ⟨y, y1, y2, y3, y4⟩
    · refine pc_if (fun w => absurd w (by omega)) (fun _ => pc_if (fun _ => rs_no K3 (by rw [Z.1]; rfl)) (fun w => absurd (show u122.1 ≤ 3 by omega) w))
    rw [y1]
    have TR : Pc (qf_X13_isRow nn u122.1 u122.2) (fun u => (u = 1 ∧ (y.1 = 200 ∨ (100 ≤ y.1 ∧ y.1 < 116))) ∨ (u = 0 ∧ ¬ (y.1 = 200 ∨ (100 ≤ y.1 ∧ y.1 < 116)))) := vr_row (.inl y2) (vt_m1 c8 y3).1
    unfold TYj at y2
    have NO : ¬ ARy False True y.1 → ((some y).bind (fun x => pr_I (ARy False True x.1) (some x) none)).bind (fun x => some x.2) = none := fun w => by
      have e4 : (some y).bind (fun x => pr_I (ARy False True x.1) (some x) none) = none := pr_f w
      rw [e4]; rfl
    have YE : ARy False True y.1 → Pc (some ((1 : Int), u122.2)) (RSo cnt (Bf k (ma_S (Bf k) (nf k) i + 3)) (Bf k (ma_S (Bf k) (nf k) i + 4)) h0 (((some y).bind (fun x => pr_I (ARy False True x.1) (some x) none)).bind (fun x => some x.2))) := fun w => by
      have e4 : (some y).bind (fun x => pr_I (ARy False True x.1) (some x) none) = some y := pr_t w
      rw [e4]
      exact rs_yes K3 y4
    refine pc_if (fun w => YE (by rw [ary_ft]; omega)) (fun w => ?_)
    refine pc_if (fun v => rs_no K3 (NO (by rw [ary_ft]; omega))) (fun v => ?_)
    refine pc_sv TR ?_; intro u123 q123
    exact pc_if (fun v4 => rs_no K3 (NO (by rw [ary_ft]; omega))) (fun v4 => YE (by rw [ary_ft]; omega))
  refine pc_if (fun z => ?_) (fun nz20 => ?_)
  · rw [apF_A (by omega)]
    unfold ap_A
    rw [if_neg (show ¬ op = 46 by omega), if_neg (show ¬ op = 50 by omega), if_neg (show ¬ op = 79 by omega), if_neg (show ¬ op = 83 by omega), if_pos z]
    refine pc_sv (vr_pull K S m30) ?_; intro u130 ⟨K3, Z⟩
    rcases Z with Z | ⟨y, y1, y2, y3, y4⟩
    · exact pc_if (fun _ => rs_no K3 (by rw [Z.1]; rfl)) (fun w => absurd Z.2 w)
    rw [y1]
    exact pc_if (fun w => absurd w (ty_m1 y2)) (fun _ => rs_yes K3 y4)
  refine pc_if (fun z => ?_) (fun nz21 => ?_)
  · rw [apF_A (by omega)]
    unfold ap_A
    rw [if_neg (show ¬ op = 46 by omega), if_neg (show ¬ op = 50 by omega), if_neg (show ¬ op = 79 by omega), if_neg (show ¬ op = 83 by omega), if_neg (show ¬ op = 87 by omega), if_pos z, S.2.2.2]
    refine pc_if (fun w => rs_no K ?_) (fun w => ?_)
    · have e4 : aPop s = none := by unfold aPop; rw [if_pos (by omega)]
      rw [e4]; rfl
    refine pc_sub (by have := S.1.2.2; omega) ?_; intro v135 e135
    refine pc_rA ?_; intro _ _ v136 e136
    rw [show v135.toNat = s.2.2 - 1 by omega] at e136
    have T := S.2.2.1 (s.2.2 - 1) (by omega)
    have V := S.1.2.1 (s.2.2 - 1) (by omega)
    rw [← e136] at T
    have e4 : aPop s = some (s.2.1 (s.2.2 - 1), (s.1, s.2.1, s.2.2 - 1)) := by unfold aPop; rw [if_neg (by omega)]
    have e5 := du_p (mx := (Bf k (ma_S (Bf k) (nf k) i + 3))) e4 S.1.2.2
    rw [e4]
    show Pc _ (RSo cnt (Bf k (ma_S (Bf k) (nf k) i + 3)) (Bf k (ma_S (Bf k) (nf k) i + 4)) h0 ((aU (Bf k (ma_S (Bf k) (nf k) i + 3)) (s.2.1 (s.2.2 - 1)) (s.1, s.2.1, s.2.2 - 1)).bind (aU (Bf k (ma_S (Bf k) (nf k) i + 3)) (s.2.1 (s.2.2 - 1)))))
    have e5 : aU (Bf k (ma_S (Bf k) (nf k) i + 3)) (s.2.1 (s.2.2 - 1)) (s.1, s.2.1, s.2.2 - 1) = some s := e5
    rw [e5]
    refine pc_sv (CB _ v136 s h K S T V) ?_; intro u138 q138
    exact rs_t0 q138
  refine pc_if (fun z => ?_) (fun nz22 => ?_)
  · rw [apF_I (show ARo op by unfold ARo; omega)]
    unfold qj_X13_wanted_1183
    refine pc_sv (vr_ints R K S m30) ?_; intro u41 q41
    refine rs_i q41 (fun s2 S2 K2 => ?_)
    refine pc_sv (CB 301 1 s2 u41.2 K2 S2 ty_301 vt_301) ?_; intro u43 q43
    exact rs_t0 q43
  refine pc_if (fun z => ?_) (fun nz23 => ?_)
  · rw [apF_I (show ARo op by unfold ARo; omega)]
    unfold qj_X13_wanted_1183
    refine pc_sv (vr_ints R K S m30) ?_; intro u41 q41
    refine rs_i q41 (fun s2 S2 K2 => ?_)
    refine pc_sv (CB 301 1 s2 u41.2 K2 S2 ty_301 vt_301) ?_; intro u43 q43
    exact rs_t0 q43
  refine pc_if (fun z => ?_) (fun nz24 => ?_)
  · rw [apF_I (show ARo op by unfold ARo; omega)]
    unfold qj_X13_wanted_1183
    refine pc_sv (vr_ints R K S m30) ?_; intro u41 q41
    refine rs_i q41 (fun s2 S2 K2 => ?_)
    refine pc_sv (CB 301 1 s2 u41.2 K2 S2 ty_301 vt_301) ?_; intro u43 q43
    exact rs_t0 q43
  refine pc_if (fun z => ?_) (fun nz25 => ?_)
  · rw [apF_I (show ARo op by unfold ARo; omega)]
    unfold qj_X13_wanted_1183
    refine pc_sv (vr_ints R K S m30) ?_; intro u41 q41
    refine rs_i q41 (fun s2 S2 K2 => ?_)
    refine pc_sv (CB 301 1 s2 u41.2 K2 S2 ty_301 vt_301) ?_; intro u43 q43
    exact rs_t0 q43
  refine pc_if (fun z => ?_) (fun nz26 => ?_)
  · rw [apF_I (show ARo op by unfold ARo; omega)]
    unfold qj_X13_wanted_1183
    refine pc_sv (vr_ints R K S m30) ?_; intro u41 q41
    refine rs_i q41 (fun s2 S2 K2 => ?_)
    refine pc_sv (CB 301 1 s2 u41.2 K2 S2 ty_301 vt_301) ?_; intro u43 q43
    exact rs_t0 q43
  refine pc_if (fun z => ?_) (fun nz27 => ?_)
  · rw [apF_A (by omega)]
    unfold ap_A
    rw [if_neg (show ¬ op = 46 by omega), if_neg (show ¬ op = 50 by omega), if_neg (show ¬ op = 79 by omega), if_neg (show ¬ op = 83 by omega), if_neg (show ¬ op = 87 by omega), if_neg (show ¬ op = 89 by omega), if_pos z]
    refine pc_sv (vr_int1 R K S m30) ?_; intro u142 q142
    refine rs_i q142 (fun s2 S2 K2 => ?_)
    refine pc_sv (CB 301 1 s2 u142.2 K2 S2 ty_301 vt_301) ?_; intro u144 q144
    exact rs_t0 q144
  refine pc_if (fun z => ?_) (fun nz28 => ?_)
  · rw [apF_I (show ARo op by unfold ARo; omega)]
    unfold qj_X13_wanted_1183
    refine pc_sv (vr_ints R K S m30) ?_; intro u41 q41
    refine rs_i q41 (fun s2 S2 K2 => ?_)
    refine pc_sv (CB 301 1 s2 u41.2 K2 S2 ty_301 vt_301) ?_; intro u43 q43
    exact rs_t0 q43
  refine pc_if (fun z => ?_) (fun nz29 => ?_)
  · rw [apF_I (show ARo op by unfold ARo; omega)]
    unfold qj_X13_wanted_1183
    refine pc_sv (vr_ints R K S m30) ?_; intro u41 q41
    refine rs_i q41 (fun s2 S2 K2 => ?_)
    refine pc_sv (CB 301 1 s2 u41.2 K2 S2 ty_301 vt_301) ?_; intro u43 q43
    exact rs_t0 q43
  refine pc_if (fun z => ?_) (fun nz30 => ?_)
  · rw [apF_I (show ARo op by unfold ARo; omega)]
    unfold qj_X13_wanted_1183
    refine pc_sv (vr_ints R K S m30) ?_; intro u41 q41
    refine rs_i q41 (fun s2 S2 K2 => ?_)
    refine pc_sv (CB 301 1 s2 u41.2 K2 S2 ty_301 vt_301) ?_; intro u43 q43
    exact rs_t0 q43
  refine pc_if (fun z => ?_) (fun nz31 => ?_)
  · rw [apF_I (show ARo op by unfold ARo; omega)]
    unfold qj_X13_wanted_1183
    refine pc_sv (vr_ints R K S m30) ?_; intro u41 q41
    refine rs_i q41 (fun s2 S2 K2 => ?_)
    refine pc_sv (CB 301 1 s2 u41.2 K2 S2 ty_301 vt_301) ?_; intro u43 q43
    exact rs_t0 q43
  refine pc_if (fun z => ?_) (fun nz32 => ?_)
  · rw [apF_I (show ARo op by unfold ARo; omega)]
    unfold qj_X13_wanted_1183
    refine pc_sv (vr_ints R K S m30) ?_; intro u41 q41
    refine rs_i q41 (fun s2 S2 K2 => ?_)
    refine pc_sv (CB 301 1 s2 u41.2 K2 S2 ty_301 vt_301) ?_; intro u43 q43
    exact rs_t0 q43
  refine pc_if (fun z => ?_) (fun nz33 => ?_)
  · rw [apF_I (show ARo op by unfold ARo; omega)]
    unfold qj_X13_wanted_1183
    refine pc_sv (vr_ints R K S m30) ?_; intro u41 q41
    refine rs_i q41 (fun s2 S2 K2 => ?_)
    refine pc_sv (CB 301 1 s2 u41.2 K2 S2 ty_301 vt_301) ?_; intro u43 q43
    exact rs_t0 q43
  refine pc_if (fun z => ?_) (fun nz34 => ?_)
  · rw [apF_J (show JMP op by unfold JMP; omega)]
    unfold ap_J qj_X13_wanted_1227
    rw [if_neg (show ¬ op = 167 by omega), if_neg (show ¬ (op = 165 ∨ op = 166) by omega), if_pos (show op < 159 by omega)]
    refine pc_sv (vr_int1 R K S m30) ?_; intro u38 q38
    exact rs_tc q38
  refine pc_if (fun z => ?_) (fun nz35 => ?_)
  · rw [apF_J (show JMP op by unfold JMP; omega)]
    unfold ap_J qj_X13_wanted_1227
    rw [if_neg (show ¬ op = 167 by omega), if_neg (show ¬ (op = 165 ∨ op = 166) by omega), if_pos (show op < 159 by omega)]
    refine pc_sv (vr_int1 R K S m30) ?_; intro u38 q38
    exact rs_tc q38
  refine pc_if (fun z => ?_) (fun nz36 => ?_)
  · rw [apF_J (show JMP op by unfold JMP; omega)]
    unfold ap_J qj_X13_wanted_1233
    rw [if_neg (show ¬ op = 167 by omega), if_neg (show ¬ (op = 165 ∨ op = 166) by omega), if_neg (show ¬ op < 159 by omega)]
    refine pc_sv (vr_ints R K S m30) ?_; intro u35 q35
    exact rs_tc q35
  refine pc_if (fun z => ?_) (fun nz37 => ?_)
  · rw [apF_J (show JMP op by unfold JMP; omega)]
    unfold ap_J qj_X13_wanted_1233
    rw [if_neg (show ¬ op = 167 by omega), if_neg (show ¬ (op = 165 ∨ op = 166) by omega), if_neg (show ¬ op < 159 by omega)]
    refine pc_sv (vr_ints R K S m30) ?_; intro u35 q35
    exact rs_tc q35
  refine pc_if (fun z => ?_) (fun nz38 => ?_)
  · rw [apF_J (show JMP op by unfold JMP; omega)]
    unfold ap_J qj_X13_wanted_1233
    rw [if_neg (show ¬ op = 167 by omega), if_neg (show ¬ (op = 165 ∨ op = 166) by omega), if_neg (show ¬ op < 159 by omega)]
    refine pc_sv (vr_ints R K S m30) ?_; intro u35 q35
    exact rs_tc q35
  refine pc_if (fun z => ?_) (fun nz39 => ?_)
  · rw [apF_J (show JMP op by unfold JMP; omega)]
    unfold ap_J qj_X13_wanted_1233
    rw [if_neg (show ¬ op = 167 by omega), if_neg (show ¬ (op = 165 ∨ op = 166) by omega), if_neg (show ¬ op < 159 by omega)]
    refine pc_sv (vr_ints R K S m30) ?_; intro u35 q35
    exact rs_tc q35
  refine pc_if (fun z => ?_) (fun nz40 => ?_)
  · rw [apF_J (show JMP op by unfold JMP; omega)]
    unfold ap_J qj_X13_wanted_1233
    rw [if_neg (show ¬ op = 167 by omega), if_neg (show ¬ (op = 165 ∨ op = 166) by omega), if_neg (show ¬ op < 159 by omega)]
    refine pc_sv (vr_ints R K S m30) ?_; intro u35 q35
    exact rs_tc q35
  refine pc_if (fun z => ?_) (fun nz41 => ?_)
  · rw [apF_J (show JMP op by unfold JMP; omega)]
    unfold ap_J qj_X13_wanted_1233
    rw [if_neg (show ¬ op = 167 by omega), if_neg (show ¬ (op = 165 ∨ op = 166) by omega), if_neg (show ¬ op < 159 by omega)]
    refine pc_sv (vr_ints R K S m30) ?_; intro u35 q35
    exact rs_tc q35
  refine pc_if (fun z => ?_) (fun nz42 => ?_)
  · rw [apF_J (show JMP op by unfold JMP; omega)]
    unfold ap_J qj_X13_wanted_1239
    rw [if_neg (show ¬ op = 167 by omega), if_pos (show op = 165 ∨ op = 166 by omega)]
    rw [show (aR s).bind (fun x => (aR x.2).bind (fun y => some y.2)) = ((aR s).bind (fun x => some x.2)).bind (fun s => (aR s).bind (fun y => some y.2)) by rw [ob_a]; rfl]
    refine pc_sv (vr_thing K S m30 c8) ?_; intro u29 q29
    refine rs_i q29 (fun s2 S2 K2 => ?_)
    refine pc_sv (vr_thing K2 S2 m30 c8) ?_; intro u31 q31
    exact rs_t0 q31
  refine pc_if (fun z => ?_) (fun nz43 => ?_)
  · rw [apF_J (show JMP op by unfold JMP; omega)]
    unfold ap_J qj_X13_wanted_1239
    rw [if_neg (show ¬ op = 167 by omega), if_pos (show op = 165 ∨ op = 166 by omega)]
    rw [show (aR s).bind (fun x => (aR x.2).bind (fun y => some y.2)) = ((aR s).bind (fun x => some x.2)).bind (fun s => (aR s).bind (fun y => some y.2)) by rw [ob_a]; rfl]
    refine pc_sv (vr_thing K S m30 c8) ?_; intro u29 q29
    refine rs_i q29 (fun s2 S2 K2 => ?_)
    refine pc_sv (vr_thing K2 S2 m30 c8) ?_; intro u31 q31
    exact rs_t0 q31
  refine pc_if (fun z => ?_) (fun nz44 => ?_)
  · rw [apF_J (show JMP op by unfold JMP; omega)]
    unfold ap_J qj_X13_wanted_812
    rw [if_pos z]
    exact rs_yes K S
  refine pc_if (fun z => ?_) (fun nz45 => ?_)
  · rw [apF_R (by omega)]
    obtain ⟨⟨rt, er, r1, r3, rv⟩, TA⟩ := vr_wR (nn := nn) R RZ H K
    rw [← er] at TA ⊢
    unfold ap_R
    rw [if_neg (show ¬ op = 177 by omega), if_pos z]
    have Y : rt = 301 → Pc (qj_X13_wanted_1287 nn h) (RSo cnt (Bf k (ma_S (Bf k) (nf k) i + 3)) (Bf k (ma_S (Bf k) (nf k) i + 4)) h0 ((aW (FTq Bf nf cnt) 301 s).bind (fun s => if rt = 301 then some s else none))) := fun w => by
      unfold qj_X13_wanted_1287
      have e4 : (aW (FTq Bf nf cnt) 301 s).bind (fun s => if rt = 301 then some s else none) = aW (FTq Bf nf cnt) 301 s := by
        cases aW (FTq Bf nf cnt) 301 s with
        | none => rfl
        | some s2 => exact if_pos w
      rw [e4]
      refine pc_sv (vr_int1 R K S m30) ?_; intro u26 q26
      exact rs_t0 q26
    refine pc_rA ?_; intro _ _ v149 e149
    refine pc_if (fun w => Y (r1.2 (by omega))) (fun w => ?_)
    refine pc_rA ?_; intro _ _ v152 e152
    refine pc_if (fun v => rs_no K ?_) (fun v => Y (r1.2 (by omega)))
    have n1 : ¬ rt = 301 := fun y => by have := r1.1 y; omega
    cases aW (FTq Bf nf cnt) 301 s with
    | none => rfl
    | some s2 => exact if_neg n1
  refine pc_if (fun z => ?_) (fun nz46 => ?_)
  · rw [apF_R (by omega)]
    obtain ⟨⟨rt, er, r1, r3, rv⟩, TA⟩ := vr_wR (nn := nn) R RZ H K
    rw [← er] at TA ⊢
    unfold ap_R
    rw [if_neg (show ¬ op = 177 by omega), if_neg (show ¬ op = 172 by omega)]
    have NO : (rt = 301 ∨ rt = 303) → (aW (FTq Bf nf cnt) rt s).bind (fun s => if rt = 301 ∨ rt = 303 then none else some s) = none := fun w => by
      cases aW (FTq Bf nf cnt) rt s with
      | none => rfl
      | some s2 => exact if_pos w
    refine pc_rA ?_; intro _ _ v157 e157
    refine pc_if (fun w => rs_no K (NO (.inl (r1.2 (by omega))))) (fun w => ?_)
    refine pc_rA ?_; intro _ _ v160 e160
    refine pc_if (fun w => rs_no K (NO (.inl (r1.2 (by omega))))) (fun w2 => ?_)
    refine pc_rA ?_; intro _ _ v163 e163
    refine pc_if (fun w => rs_no K (NO (.inr (r3.2 (by omega))))) (fun w3 => ?_)
    have n3 : ¬ rt = 303 := fun y => by have := r3.1 y; omega
    have n1 : ¬ rt = 301 := fun y => by have := r1.1 y; omega
    have e4 : (aW (FTq Bf nf cnt) rt s).bind (fun s => if rt = 301 ∨ rt = 303 then none else some s) = aW (FTq Bf nf cnt) rt s := by
      cases aW (FTq Bf nf cnt) rt s with
      | none => rfl
      | some s2 => exact if_neg (by omega)
    rw [e4]
    refine pc_sv (TA n3) ?_; intro u166 ⟨O, q166⟩
    refine pc_sv (vr_pullFit R (rks_t K (rks_o O)) (str_o S O) m30 q166) ?_; intro u168 q168
    exact rs_t0 q168
  refine pc_if (fun z => ?_) (fun nz47 => ?_)
  · rw [apF_R (by omega)]
    obtain ⟨⟨rt, er, r1, r3, rv⟩, TA⟩ := vr_wR (nn := nn) R RZ H K
    rw [← er] at TA ⊢
    unfold ap_R
    rw [if_pos z]
    refine pc_rA ?_; intro _ _ v175 e175
    refine pc_if (fun w => rs_no K (if_neg (fun y => by have := r3.1 y; omega))) (fun w => ?_)
    rw [if_pos (r3.2 (by omega))]
    exact rs_yes K S
  refine pc_if (fun z => ?_) (fun nz48 => ?_)
  · rw [apF_M (by omega), X2 180 z (by decide)]
    have MB := CR.2.2.2 (by omega)
    obtain ⟨t0, t1, t2', KK⟩ := mb_tx zk z2 MB.1
    obtain ⟨sk, TT⟩ := mbr_t H hk' MB
    have c16 := MB.2.1
    have FV : VTq cnt (fy_F Bf nf cnt k (pt_S (Bf k) (nf k) a 2)) ∧ fk_S (Bf k) (nf k) (pt_S (Bf k) (nf k) a 2) = true := by
      rcases TT with w | w
      · exact w.2
      · omega
    unfold ap_M
    rw [if_pos z]
    refine pc_sv (vr_part Rh (w := 0) (by omega) MB.1) ?_; intro u179 q179
    rw [q179]
    refine pc_sv (vr_cls Rh t0) ?_; intro u181 ⟨O, q181⟩
    refine pc_sv (vr_pullFit R (rks_t K (rks_o O)) (str_o S O) m30 (tyo_j q181 (by omega))) ?_; intro u183 q183
    refine rs_i q183 (fun s2 S2 K2 => ?_)
    have R2 := rme_e R (rks_e K2)
    refine pc_sv (vr_part R2 (w := 2) (by omega) MB.1) ?_; intro u186 q186
    rw [q186]
    refine pc_sv (vr_kty R2 FV.2 FV.1) ?_; intro u188 ⟨O2, q188⟩
    refine pc_sv (CB _ u188.1 s2 u188.2 (rks_t K2 (rks_o O2)) (str_o S2 O2) q188 FV.1) ?_; intro u190 q190
    exact rs_t0 q190
  refine pc_if (fun z => ?_) (fun nz49 => ?_)
  · rw [apF_M (by omega), X2 181 z (by decide)]
    have MB := CR.2.2.2 (by omega)
    obtain ⟨t0, t1, t2', KK⟩ := mb_tx zk z2 MB.1
    obtain ⟨sk, TT⟩ := mbr_t H hk' MB
    have c16 := MB.2.1
    have FV : VTq cnt (fy_F Bf nf cnt k (pt_S (Bf k) (nf k) a 2)) ∧ fk_S (Bf k) (nf k) (pt_S (Bf k) (nf k) a 2) = true := by
      rcases TT with w | w
      · exact w.2
      · omega
    unfold ap_M qj_X13_wanted_1453
    rw [if_neg (show ¬ op = 180 by omega), if_pos z]
    refine pc_sv (vr_part Rh (w := 2) (by omega) MB.1) ?_; intro u195 q195
    rw [q195]
    refine pc_sv (vr_kty Rh FV.2 FV.1) ?_; intro u197 ⟨O, q197⟩
    refine pc_sv (vr_pullFit R (rks_t K (rks_o O)) (str_o S O) m30 q197) ?_; intro u199 q199
    refine rs_i q199 (fun s2 S2 K2 => ?_)
    have R2 := rme_e R (rks_e K2)
    refine pc_sv (vr_part R2 (w := 0) (by omega) MB.1) ?_; intro u19 q19
    rw [q19]
    refine pc_sv (vr_cls R2 t0) ?_; intro u21 ⟨O2, q21⟩
    refine pc_sv (vr_pullFit R (rks_t K2 (rks_o O2)) (str_o S2 O2) m30 (tyo_j q21 (by omega))) ?_; intro u23 q23
    exact rs_t0 q23
  refine pc_if (fun z => ?_) (fun nz50 => ?_)
  · rw [apF_M (by omega), X2 182 z (by decide)]
    have MB := CR.2.2.2 (by omega)
    unfold qj_X13_wanted_1480
    refine pc_if (fun w => ?_) (fun w => ?_)
    · refine pc_sv (vr_calls R H K S m30 (by omega) MB (y := 0) (by rw [if_neg w])) ?_; intro u11 q11
      exact rs_tc q11
    · refine pc_sv (vr_calls R H K S m30 (by omega) MB (y := 1) (by rw [if_pos (show op = 184 by omega)])) ?_; intro u14 q14
      exact rs_tc q14
  refine pc_if (fun z => ?_) (fun nz51 => ?_)
  · rw [apF_M (by omega), X2 184 z (by decide)]
    have MB := CR.2.2.2 (by omega)
    unfold qj_X13_wanted_1480
    refine pc_if (fun w => ?_) (fun w => ?_)
    · refine pc_sv (vr_calls R H K S m30 (by omega) MB (y := 0) (by rw [if_neg w])) ?_; intro u11 q11
      exact rs_tc q11
    · refine pc_sv (vr_calls R H K S m30 (by omega) MB (y := 1) (by rw [if_pos (show op = 184 by omega)])) ?_; intro u14 q14
      exact rs_tc q14
  refine pc_if (fun z => ?_) (fun nz52 => ?_)
  · rw [apF_O (by omega)]
    unfold ap_O
    rw [if_pos z]
    unfold qj_X13_wanted_1227
    refine pc_sv (vr_int1 R K S m30) ?_; intro u38 q38
    exact rs_tc q38
  refine pc_if (fun z => ?_) (fun nz53 => ?_)
  · rw [X2 187 z (by decide)]
    rw [apF_O (by omega)]
    unfold ap_O
    rw [if_neg (show ¬ op = 186 by omega), if_pos z]
    refine pc_sv (CL (by omega) h K) ?_; intro u203 ⟨O, q203⟩
    refine pc_sv (CB _ u203.1 s u203.2 (rks_t K (rks_o O)) (str_o S O) q203 (.inr (.inr (.inr (.inr (.inl (IS (by omega)).1)))))) ?_; intro u205 q205
    exact rs_tc q205
  refine pc_if (fun z => ?_) (fun nz54 => ?_)
  · rw [apF_O (by omega)]
    unfold ap_O
    rw [if_neg (show ¬ op = 186 by omega), if_neg (show ¬ op = 187 by omega), if_pos z]
    refine pc_sv (vr_int1 R K S m30) ?_; intro u208 q208
    refine rs_i q208 (fun s2 S2 K2 => ?_)
    refine pc_sv (CB 200 3 s2 u208.2 K2 S2 ty_200 vt_200) ?_; intro u210 q210
    exact rs_t0 q210
  refine pc_if (fun z => ?_) (fun nz55 => ?_)
  · rw [X2 189 z (by decide)]
    rw [apF_O (by omega)]
    unfold ap_O
    rw [if_neg (show ¬ op = 186 by omega), if_neg (show ¬ op = 187 by omega), if_neg (show ¬ op = 188 by omega), if_pos z]
    refine pc_sv (vr_int1 R K S m30) ?_; intro u214 q214
    refine rs_i q214 (fun s2 S2 K2 => ?_)
    refine pc_sv (CL (by omega) u214.2 K2) ?_; intro u217 ⟨O, q217⟩
    have is := IS (by omega)
    have is2 := is.1
    unfold ISc at is2
    have q217' := q217
    unfold TYj at q217
    refine pc_add (by omega) ?_; intro v218 e218
    refine pc_sv (CB (100 + cq_F Bf nf cnt (Bf k) (nf k) a) v218 s2 u217.2 (rks_t K2 (rks_o O)) (str_o S2 O) (by unfold TYj; omega) (.inr (.inr (.inr (.inr (.inr (by rw [show 100 + cq_F Bf nf cnt (Bf k) (nf k) a - 100 = cq_F Bf nf cnt (Bf k) (nf k) a by omega]; exact is.1))))))) ?_; intro u220 q220
    exact rs_t0 q220
  refine pc_if (fun z => ?_) (fun nz56 => ?_)
  · rw [apF_O (by omega)]
    unfold ap_O
    rw [if_neg (show ¬ op = 186 by omega), if_neg (show ¬ op = 187 by omega), if_neg (show ¬ op = 188 by omega), if_neg (show ¬ op = 189 by omega), if_pos z]
    rw [show aA True True s = (aPop s).bind (fun x => pr_I (ARy True True x.1) (some x) none) from rfl]
    unfold qj_X13_wanted_1592
    refine pc_sv (vr_pull K S m30) ?_; intro u224 ⟨K3, Z⟩
    rcases Z with Z | ⟨y, y1, y2, y3, y4⟩
    · refine pc_if (fun w => absurd w (by omega)) (fun _ => pc_if (fun _ => rs_no K3 (by rw [Z.1]; rfl)) (fun w => absurd Z.2 w))
    rw [y1]
    have TR : Pc (qf_X13_isRow nn u224.1 u224.2) (fun u => (u = 1 ∧ (y.1 = 200 ∨ (100 ≤ y.1 ∧ y.1 < 116))) ∨ (u = 0 ∧ ¬ (y.1 = 200 ∨ (100 ≤ y.1 ∧ y.1 < 116)))) := vr_row (.inl y2) (vt_m1 c8 y3).1
    have tm := ty_m1 y2
    unfold TYj at y2
    have YE : ARy True True y.1 → Pc (mx_sv (qf_X13_comesBack nn 1 u224.2) fun u8 => if u8.1 = 0 then (some (0, u8.2)) else (some (1, u8.2))) (RSo cnt (Bf k (ma_S (Bf k) (nf k) i + 3)) (Bf k (ma_S (Bf k) (nf k) i + 4)) h0 (((some y).bind (fun x => pr_I (ARy True True x.1) (some x) none)).bind (fun x => aU (Bf k (ma_S (Bf k) (nf k) i + 3)) 301 x.2))) := fun w => by
      have e4 : (some y).bind (fun x => pr_I (ARy True True x.1) (some x) none) = some y := pr_t w
      rw [e4]
      refine pc_sv (CB 301 1 y.2 u224.2 K3 y4 ty_301 vt_301) ?_; intro u8 q8
      exact rs_t0 q8
    refine pc_if (fun w => YE (by rw [ary_tt]; omega)) (fun w => ?_)
    refine pc_if (fun w => absurd w tm) (fun _ => ?_)
    refine pc_sv TR ?_; intro u225 q225
    refine pc_if (fun v => rs_no K3 ?_) (fun v => YE (by rw [ary_tt]; omega))
    have e4 : (some y).bind (fun x => pr_I (ARy True True x.1) (some x) none) = none := pr_f (by rw [ary_tt]; omega)
    rw [e4]; rfl
  refine pc_if (fun z => ?_) (fun nz57 => ?_)
  · rw [apF_O (by omega)]
    unfold ap_O
    rw [if_neg (show ¬ op = 186 by omega), if_neg (show ¬ op = 187 by omega), if_neg (show ¬ op = 188 by omega), if_neg (show ¬ op = 189 by omega), if_neg (show ¬ op = 190 by omega), if_pos z]
    refine pc_sv (vr_pullFit R K S m30 ty_1) ?_; intro u230 q230
    exact rs_tc q230
  refine pc_if (fun z => ?_) (fun nz58 => ?_)
  · rw [X2 192 z (by decide)]
    rw [apF_O (by omega)]
    unfold ap_O
    rw [if_neg (show ¬ op = 186 by omega), if_neg (show ¬ op = 187 by omega), if_neg (show ¬ op = 188 by omega), if_neg (show ¬ op = 189 by omega), if_neg (show ¬ op = 190 by omega), if_neg (show ¬ op = 191 by omega), if_pos z]
    rw [show (aR s).bind (fun x => aU (Bf k (ma_S (Bf k) (nf k) i + 3)) (cq_F Bf nf cnt (Bf k) (nf k) a) x.2) = ((aR s).bind (fun x => some x.2)).bind (aU (Bf k (ma_S (Bf k) (nf k) i + 3)) (cq_F Bf nf cnt (Bf k) (nf k) a)) by rw [ob_a]; rfl]
    refine pc_sv (vr_thing K S m30 c8) ?_; intro u233 q233
    refine rs_i q233 (fun s2 S2 K2 => ?_)
    refine pc_sv (CL (by omega) u233.2 K2) ?_; intro u236 ⟨O, q236⟩
    refine pc_sv (CB _ u236.1 s2 u236.2 (rks_t K2 (rks_o O)) (str_o S2 O) q236 (.inr (.inr (.inr (.inr (.inl (IS (by omega)).1)))))) ?_; intro u238 q238
    exact rs_t0 q238
  have o193 : op = 193 := wd_193 wd o0 (by omega)
  rw [apF_O (by omega)]
  unfold ap_O
  rw [if_neg (show ¬ op = 186 by omega), if_neg (show ¬ op = 187 by omega), if_neg (show ¬ op = 188 by omega), if_neg (show ¬ op = 189 by omega), if_neg (show ¬ op = 190 by omega), if_neg (show ¬ op = 191 by omega), if_neg (show ¬ op = 192 by omega)]
  unfold qj_X13_wanted_1642
  rw [show (aR s).bind (fun x => aU (Bf k (ma_S (Bf k) (nf k) i + 3)) 301 x.2) = ((aR s).bind (fun x => some x.2)).bind (aU (Bf k (ma_S (Bf k) (nf k) i + 3)) 301) by rw [ob_a]; rfl]
  refine pc_sv (vr_thing K S m30 c8) ?_; intro u2 q2
  refine rs_i q2 (fun s2 S2 K2 => ?_)
  refine pc_sv (CB 301 1 s2 u2.2 K2 S2 ty_301 vt_301) ?_; intro u4 q4
  exact rs_t0 q4
end

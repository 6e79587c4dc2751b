/- VERIFY: frames and handlers against the state, the reference -/
section
variable {nn : Nat} {Bf : Nat → Nat → Int} {nf : Nat → Nat} {cnt mx lc : Int} {B C D : Nat → Int} {n m b d k i L p q : Nat} {M h g r h0 : ms_M} {t t2 c a op x : Int} {o : Option ST3} {s : ST3} {u : Int × ms_M}
theorem tp_nx (hT : TPg (Bf k) (nf k) (tp_S (Bf k) p q)) : ((Bf k (tp_S (Bf k) p q) = 3 ∧ tp_S (Bf k) p (q + 1) = tp_S (Bf k) p q + 2) ∨ (¬ Bf k (tp_S (Bf k) p q) = 3 ∧ tp_S (Bf k) p (q + 1) = tp_S (Bf k) p q + 1)) ∧ tp_S (Bf k) p (q + 1) ≤ nf k := by
  have st : tp_S (Bf k) p (q + 1) = tp_S (Bf k) p q + (if Bf k (tp_S (Bf k) p q) = 3 then 2 else 1) := rfl
  refine ⟨?_, tpg_n hT⟩
  by_cases c3 : Bf k (tp_S (Bf k) p q) = 3
  · rw [if_pos c3] at st; exact .inl ⟨c3, st⟩
  · rw [if_neg c3] at st; exact .inr ⟨c3, st⟩
/-- LOCALS FIT, the reference -/
theorem vr_lf20 (R : RMe Bf nf cnt k i h0) (S : STr cnt (Bf k (ma_S (Bf k) (nf k) i + 3)) (Bf k (ma_S (Bf k) (nf k) i + 4)) s h0) {f : Nat} (hf : f < fn_S (Bf k) (nf k) i) (F : FTh Bf nf cnt k i f) : ∀ (y j : Nat) (h : ms_M), OTH h0 h → (∀ x : Nat, x < j → FTq Bf nf cnt (s.1 x) (fl_F Bf nf cnt k i f x)) → (j : Int) ≤ nl_S (Bf k) (nf k) i f → Pc (qw_X13_localsFit_20 nn y (tp_S (Bf k) (fw_S (Bf k) (nf k) i f + 2) j : Int) (nl_S (Bf k) (nf k) i f) (j : Int) h) (fun u => OTH h0 u.2 ∧ ((u.1 = 1 ∧ FLq Bf nf cnt k i f s) ∨ (u.1 = 0 ∧ ¬ FLq Bf nf cnt k i f s))) := by
  have n6 := rme_n6 R
  obtain ⟨zx, zk, z2⟩ := rk_zk R
  have g30 := (rme_m R).2.2.1
  have c0 := rme_c R
  obtain ⟨V1, -⟩ := ft_vt c0 (rme_m R) zk z2 hf F
  have f1 := F.1.1
  intro y
  induction y with
  | zero => intro j h _ _ _; exact pc_none
  | succ y ih =>
    intro j h O A hj
    have Rh := rme_e R (rke_o O)
    unfold qw_X13_localsFit_20
    refine pc_if (fun z => pc_ret ⟨O, .inl ⟨rfl, fun x hx => A x (by omega)⟩⟩) (fun z => ?_)
    obtain ⟨T, V⟩ := V1 j (by omega)
    obtain ⟨nx, nl⟩ := tp_nx T
    refine pc_rA ?_; intro _ _ v4 e4
    rw [Int.toNat_natCast, O.1 243 j (by omega) (by omega) (by omega)] at e4
    have TS := S.2.1 j (by omega)
    rw [← e4] at TS
    refine pc_sv (vr_framed Rh T) ?_; intro u6 ⟨O6, q6⟩
    have O2 := oth_t O O6
    have R6 := rme_e R (rke_o O2)
    have q6 : TYo (fl_F Bf nf cnt k i f j) u6.1 := q6
    refine pc_sv (vr_go R6 (vt_is c0.2 (S.1.1 j (by omega))) TS (tyo_j q6 (vt_m1 c0.2 V).1)) ?_; intro u8 q8
    refine pc_if (fun w => ?_) (fun w => pc_ret ⟨O2, .inr ⟨rfl, fun v => ?_⟩⟩)
    · have fj : FTq Bf nf cnt (s.1 j) (fl_F Bf nf cnt k i f j) := by
        rcases q8 with q | q
        · exact q.2
        · exact absurd q.1 w
      have A2 : ∀ x : Nat, x < j + 1 → FTq Bf nf cnt (s.1 x) (fl_F Bf nf cnt k i f x) := fun x hx => by
        by_cases e : x = j
        · rw [e]; exact fj
        · exact A x (by omega)
      refine pc_sv (vr_byte R6 T.1) ?_; intro u11 q11
      rw [q11]
      unfold qj_X13_localsFit_66
      refine pc_if (fun v => ?_) (fun v => ?_)
      · refine pc_add (by omega) ?_; intro v1 e1
        refine pc_add (by omega) ?_; intro v2 e2
        rw [show v1 = (tp_S (Bf k) (fw_S (Bf k) (nf k) i f + 2) (j + 1) : Int) by omega, show v2 = ((j + 1 : Nat) : Int) by omega]
        exact ih (j + 1) u6.2 O2 A2 (by omega)
      · refine pc_add (by omega) ?_; intro v1 e1
        refine pc_add (by omega) ?_; intro v2 e2
        rw [show v1 = (tp_S (Bf k) (fw_S (Bf k) (nf k) i f + 2) (j + 1) : Int) by omega, show v2 = ((j + 1 : Nat) : Int) by omega]
        exact ih (j + 1) u6.2 O2 A2 (by omega)
    · rcases q8 with q | q
      · omega
      · exact q.2 (v j (by omega))
theorem vr_lfit (R : RMe Bf nf cnt k i h) (S : STr cnt (Bf k (ma_S (Bf k) (nf k) i + 3)) (Bf k (ma_S (Bf k) (nf k) i + 4)) s h) {f : Nat} (hf : f < fn_S (Bf k) (nf k) i) (F : FTh Bf nf cnt k i f) : Pc (qf_X13_localsFit nn (fw_S (Bf k) (nf k) i f : Int) h) (fun u => OTH h u.2 ∧ ((u.1 = 1 ∧ FLq Bf nf cnt k i f s) ∨ (u.1 = 0 ∧ ¬ FLq Bf nf cnt k i f s))) := by
  have n6 := rme_n6 R
  obtain ⟨G1, G2, G3⟩ := gm_fr (rme_m R) hf
  have b2 := rme_b R G2.1
  have b2 : 0 ≤ nl_S (Bf k) (nf k) i f ∧ nl_S (Bf k) (nf k) i f ≤ 255 := b2
  unfold qf_X13_localsFit
  refine pc_add (by omega) ?_; intro v15 e15
  rw [show v15 = ((fw_S (Bf k) (nf k) i f + 2 : Nat) : Int) by omega]
  refine pc_sv (vr_byte R G2.1) ?_; intro u18 q18
  refine pc_add (by omega) ?_; intro v19 e19
  rw [show v19 = (tp_S (Bf k) (fw_S (Bf k) (nf k) i f + 2) 0 : Int) by rw [e19]; rfl, show u18 = nl_S (Bf k) (nf k) i f from q18]
  exact vr_lf20 R S hf F nn 0 h oth_r (fun x hx => absurd hx (by omega)) b2.1
/-- THE STACK FITS, the reference -/
theorem vr_sf34 (R : RMe Bf nf cnt k i h0) (S : STr cnt (Bf k (ma_S (Bf k) (nf k) i + 3)) (Bf k (ma_S (Bf k) (nf k) i + 4)) s h0) {f : Nat} (hf : f < fn_S (Bf k) (nf k) i) (F : FTh Bf nf cnt k i f) (en : nk_S (Bf k) (nf k) i f = (s.2.2 : Int)) : ∀ (y j : Nat) (h : ms_M), OTH h0 h → (∀ x : Nat, x < j → FTq Bf nf cnt (s.2.1 x) (fk_F Bf nf cnt k i f x)) → j ≤ s.2.2 → Pc (qw_X13_stackFits_34 nn y (tp_S (Bf k) (te_P (Bf k) (fw_S (Bf k) (nf k) i f + 2)) j : Int) (nk_S (Bf k) (nf k) i f) (j : Int) h) (fun u => OTH h0 u.2 ∧ ((u.1 = 1 ∧ ∀ x : Nat, x < s.2.2 → FTq Bf nf cnt (s.2.1 x) (fk_F Bf nf cnt k i f x)) ∨ (u.1 = 0 ∧ ¬ ∀ x : Nat, x < s.2.2 → FTq Bf nf cnt (s.2.1 x) (fk_F Bf nf cnt k i f x)))) := by
  have n6 := rme_n6 R
  obtain ⟨zx, zk, z2⟩ := rk_zk R
  have g30 := (rme_m R).2.2.1
  have c0 := rme_c R
  obtain ⟨-, V1⟩ := ft_vt c0 (rme_m R) zk z2 hf F
  have s30 := S.1.2.2
  intro y
  induction y with
  | zero => intro j h _ _ _; exact pc_none
  | succ y ih =>
    intro j h O A hj
    have Rh := rme_e R (rke_o O)
    unfold qw_X13_stackFits_34
    refine pc_if (fun z => pc_ret ⟨O, .inl ⟨rfl, fun x hx => A x (by omega)⟩⟩) (fun z => ?_)
    obtain ⟨T, V⟩ := V1 j (by omega)
    obtain ⟨nx, nl⟩ := tp_nx T
    refine pc_rA ?_; intro _ _ v4 e4
    rw [Int.toNat_natCast, O.1 244 j (by omega) (by omega) (by omega)] at e4
    have TS := S.2.2.1 j (by omega)
    rw [← e4] at TS
    refine pc_sv (vr_framed Rh T) ?_; intro u6 ⟨O6, q6⟩
    have O2 := oth_t O O6
    have R6 := rme_e R (rke_o O2)
    have q6 : TYo (fk_F Bf nf cnt k i f j) u6.1 := q6
    refine pc_sv (vr_go R6 (vt_is c0.2 (S.1.2.1 j (by omega))) TS (tyo_j q6 (vt_m1 c0.2 V).1)) ?_; intro u8 q8
    refine pc_if (fun w => ?_) (fun w => pc_ret ⟨O2, .inr ⟨rfl, fun v => ?_⟩⟩)
    · have fj : FTq Bf nf cnt (s.2.1 j) (fk_F Bf nf cnt k i f j) := by
        rcases q8 with q | q
        · exact q.2
        · exact absurd q.1 w
      have A2 : ∀ x : Nat, x < j + 1 → FTq Bf nf cnt (s.2.1 x) (fk_F Bf nf cnt k i f x) := fun x hx => by
        by_cases e : x = j
        · rw [e]; exact fj
        · exact A x (by omega)
      refine pc_sv (vr_byte R6 T.1) ?_; intro u11 q11
      rw [q11]
      unfold qj_X13_stackFits_80
      refine pc_if (fun v => ?_) (fun v => ?_)
      · refine pc_add (by omega) ?_; intro v1 e1
        refine pc_add (by omega) ?_; intro v2 e2
        rw [show v1 = (tp_S (Bf k) (te_P (Bf k) (fw_S (Bf k) (nf k) i f + 2)) (j + 1) : Int) by omega, show v2 = ((j + 1 : Nat) : Int) by omega]
        exact ih (j + 1) u6.2 O2 A2 (by omega)
      · refine pc_add (by omega) ?_; intro v1 e1
        refine pc_add (by omega) ?_; intro v2 e2
        rw [show v1 = (tp_S (Bf k) (te_P (Bf k) (fw_S (Bf k) (nf k) i f + 2)) (j + 1) : Int) by omega, show v2 = ((j + 1 : Nat) : Int) by omega]
        exact ih (j + 1) u6.2 O2 A2 (by omega)
    · rcases q8 with q | q
      · omega
      · exact q.2 (v j (by omega))
theorem vr_sfit (R : RMe Bf nf cnt k i h) (S : STr cnt (Bf k (ma_S (Bf k) (nf k) i + 3)) (Bf k (ma_S (Bf k) (nf k) i + 4)) s h) {f : Nat} (hf : f < fn_S (Bf k) (nf k) i) (F : FTh Bf nf cnt k i f) : Pc (qf_X13_stackFits nn (fw_S (Bf k) (nf k) i f : Int) h) (fun u => OTH h u.2 ∧ ((u.1 = 1 ∧ nk_S (Bf k) (nf k) i f = (s.2.2 : Int) ∧ ∀ x : Nat, x < s.2.2 → FTq Bf nf cnt (s.2.1 x) (fk_F Bf nf cnt k i f x)) ∨ (u.1 = 0 ∧ ¬ (nk_S (Bf k) (nf k) i f = (s.2.2 : Int) ∧ ∀ x : Nat, x < s.2.2 → FTq Bf nf cnt (s.2.1 x) (fk_F Bf nf cnt k i f x))))) := by
  have n6 := rme_n6 R
  obtain ⟨G1, G2, G3⟩ := gm_fr (rme_m R) hf
  have g31 := G3.1
  unfold qf_X13_stackFits
  refine pc_add (by omega) ?_; intro v15 e15
  rw [show v15 = ((fw_S (Bf k) (nf k) i f + 2 : Nat) : Int) by omega]
  refine pc_sv (vr_tend R G2) ?_; intro u17 q17
  rw [q17]
  refine pc_sv (vr_byte R G3.1) ?_; intro u20 q20
  have q20 : u20 = nk_S (Bf k) (nf k) i f := q20
  refine pc_add (by omega) ?_; intro v21 e21
  rw [show v21 = (tp_S (Bf k) (te_P (Bf k) (fw_S (Bf k) (nf k) i f + 2)) 0 : Int) by rw [e21]; rfl, q20, S.2.2.2]
  refine pc_if (fun z => ?_) (fun z => pc_ret ⟨oth_r, .inr ⟨rfl, fun w => z w.1⟩⟩)
  refine pc_imp (vr_sf34 R S hf F z nn 0 h oth_r (fun x hx => absurd hx (by omega)) (Nat.zero_le _)) (fun u ⟨q1, q2⟩ => ⟨q1, ?_⟩)
  rcases q2 with q | q
  · exact .inl ⟨q.1, z, q.2⟩
  · exact .inr ⟨q.1, fun w => q.2 w.2⟩
/-- .. both -/
theorem vr_ffit (R : RMe Bf nf cnt k i h) (S : STr cnt (Bf k (ma_S (Bf k) (nf k) i + 3)) (Bf k (ma_S (Bf k) (nf k) i + 4)) s h) {f : Nat} (hf : f < fn_S (Bf k) (nf k) i) (F : FTh Bf nf cnt k i f) {Q : Int × ms_M → Prop} {G1 N : ms_M → Option (Int × ms_M)} (HY : ∀ g : ms_M, OTH h g → FFt Bf nf cnt k i f s → Pc (G1 g) Q) (HN : ∀ g : ms_M, OTH h g → ¬ FFt Bf nf cnt k i f s → Pc (N g) Q) : Pc (mx_sv (qf_X13_localsFit nn (fw_S (Bf k) (nf k) i f : Int) h) fun u52 => if u52.1 = 0 then N u52.2 else (mx_sv (qf_X13_stackFits nn (fw_S (Bf k) (nf k) i f : Int) u52.2) fun u54 => if ¬ u54.1 = 0 then G1 u54.2 else N u54.2)) Q := by
  refine pc_sv (vr_lfit R S hf F) ?_; intro u52 ⟨O, q52⟩
  refine pc_if (fun w => HN u52.2 O (fun v => ?_)) (fun w => ?_)
  · rcases q52 with q | q
    · omega
    · exact q.2 v.1
  have FL : FLq Bf nf cnt k i f s := by
    rcases q52 with q | q
    · exact q.2
    · exact absurd q.1 w
  refine pc_sv (vr_sfit (rme_e R (rke_o O)) (str_o S O) hf F) ?_; intro u54 ⟨O2, q54⟩
  have O3 := oth_t O O2
  refine pc_if (fun w => HY u54.2 O3 ⟨FL, ?_⟩) (fun w => HN u54.2 O3 (fun v => ?_))
  · rcases q54 with q | q
    · exact q.2
    · exact absurd q.1 w
  · rcases q54 with q | q
    · omega
    · exact q.2 v.2
/-- THE STATE BECOMES THE FRAME'S, the reference -/
theorem vr_b114 (R : RMe Bf nf cnt k i h0) {f : Nat} (hf : f < fn_S (Bf k) (nf k) i) (F : FTh Bf nf cnt k i f) : ∀ (y j : Nat) (h : ms_M), RKs h0 h → (∀ x : Nat, (x : Int) < (Bf k (ma_S (Bf k) (nf k) i + 4)) → TYj ((tk_F Bf nf cnt k i f).1 x) (h 243 x)) → h 160 131 = nk_S (Bf k) (nf k) i f → (∀ x : Nat, x < j → TYj (fk_F Bf nf cnt k i f x) (h 244 x)) → (j : Int) ≤ nk_S (Bf k) (nf k) i f → Pc (qw_X13_becomes_114 nn y (tp_S (Bf k) (te_P (Bf k) (fw_S (Bf k) (nf k) i f + 2)) j : Int) (nk_S (Bf k) (nf k) i f) (j : Int) h) (fun u => RKs h0 u ∧ STr cnt (Bf k (ma_S (Bf k) (nf k) i + 3)) (Bf k (ma_S (Bf k) (nf k) i + 4)) (tk_F Bf nf cnt k i f) u) := by
  have n6 := rme_n6 R
  obtain ⟨zx, zk, z2⟩ := rk_zk R
  have g30 := (rme_m R).2.2.1
  have c0 := rme_c R
  obtain ⟨V0, V1⟩ := ft_vt c0 (rme_m R) zk z2 hf F
  have f1 := F.1
  intro y
  induction y with
  | zero => intro j h _ _ _ _ _; exact pc_none
  | succ y ih =>
    intro j h K L1 e131 A hj
    have Rh := rme_e R (rks_e K)
    unfold qw_X13_becomes_114
    refine pc_if (fun z => pc_ret ⟨K, ⟨fun x hx => ?_, fun x hx => ?_, ?_⟩, L1, fun x hx => ?_, ?_⟩) (fun z => ?_)
    · show VTq cnt (if (x : Int) < nl_S (Bf k) (nf k) i f then fl_F Bf nf cnt k i f x else 304)
      by_cases w : (x : Int) < nl_S (Bf k) (nf k) i f
      · rw [if_pos w]; exact (V0 x w).2
      · rw [if_neg w]; exact .inl rfl
    · have hx : x < (nk_S (Bf k) (nf k) i f).toNat := hx
      exact (V1 x (by omega)).2
    · show (((nk_S (Bf k) (nf k) i f).toNat : Nat) : Int) ≤ (Bf k (ma_S (Bf k) (nf k) i + 3))
      omega
    · have hx : x < (nk_S (Bf k) (nf k) i f).toNat := hx
      exact A x (by omega)
    · show h 160 131 = (((nk_S (Bf k) (nf k) i f).toNat : Nat) : Int)
      omega
    obtain ⟨T, V⟩ := V1 j (by omega)
    obtain ⟨nx, nl⟩ := tp_nx T
    refine pc_sv (vr_framed Rh T) ?_; intro u5 ⟨O, q5⟩
    have q5 : TYo (fk_F Bf nf cnt k i f j) u5.1 := q5
    have K1 := rks_t K (rks_o O)
    refine pc_wA ?_; intro _ _ h6 e6
    rw [Int.toNat_natCast] at e6
    have F6 : ∀ x y : Nat, ¬ (x = 244 ∧ y = j) → h6 x y = u5.2 x y := fun x y w => by rw [e6, up_n w]
    have K2 : RKs h0 h6 := ⟨fun x y z1 z2 z3 => by rw [F6 x y (by omega)]; exact K1.1 x y z1 z2 z3, fun z => by rw [F6 160 117 (by omega)]; exact K1.2 z⟩
    have R6 := rme_e R (rks_e K2)
    refine pc_sv (vr_byte R6 T.1) ?_; intro u9 q9
    rw [q9]
    have L2 : ∀ x : Nat, (x : Int) < (Bf k (ma_S (Bf k) (nf k) i + 4)) → TYj ((tk_F Bf nf cnt k i f).1 x) (h6 243 x) := fun x hx => by rw [F6 243 x (by omega), O.1 243 x (by omega) (by omega) (by omega)]; exact L1 x hx
    have E2 : h6 160 131 = nk_S (Bf k) (nf k) i f := by rw [F6 160 131 (by omega), O.1 160 131 (by omega) (by omega) (by omega)]; exact e131
    have A2 : ∀ x : Nat, x < j + 1 → TYj (fk_F Bf nf cnt k i f x) (h6 244 x) := fun x hx => by
      by_cases e : x = j
      · rw [e, e6, up_s]; exact tyo_j q5 (vt_m1 c0.2 V).1
      · rw [F6 244 x (by omega), O.1 244 x (by omega) (by omega) (by omega)]; exact A x (by omega)
    unfold qj_X13_becomes_151
    refine pc_if (fun v => ?_) (fun v => ?_)
    · refine pc_add (by omega) ?_; intro v1 e1
      refine pc_add (by omega) ?_; intro v2 e2
      rw [show v1 = (tp_S (Bf k) (te_P (Bf k) (fw_S (Bf k) (nf k) i f + 2)) (j + 1) : Int) by omega, show v2 = ((j + 1 : Nat) : Int) by omega]
      exact ih (j + 1) h6 K2 L2 E2 A2 (by omega)
    · refine pc_add (by omega) ?_; intro v1 e1
      refine pc_add (by omega) ?_; intro v2 e2
      rw [show v1 = (tp_S (Bf k) (te_P (Bf k) (fw_S (Bf k) (nf k) i f + 2)) (j + 1) : Int) by omega, show v2 = ((j + 1 : Nat) : Int) by omega]
      exact ih (j + 1) h6 K2 L2 E2 A2 (by omega)
theorem vr_b20 (R : RMe Bf nf cnt k i h0) {f : Nat} (hf : f < fn_S (Bf k) (nf k) i) (F : FTh Bf nf cnt k i f) : ∀ (y j e : Nat) (h : ms_M), RKs h0 h → (∀ x : Nat, x < j → TYj ((tk_F Bf nf cnt k i f).1 x) (h 243 x)) → ((j : Int) ≤ nl_S (Bf k) (nf k) i f → e = j) → (nl_S (Bf k) (nf k) i f < (j : Int) → (e : Int) = nl_S (Bf k) (nf k) i f) → (j : Int) ≤ (Bf k (ma_S (Bf k) (nf k) i + 4)) → Pc (qw_X13_becomes_20 nn y (fw_S (Bf k) (nf k) i f : Int) (tp_S (Bf k) (fw_S (Bf k) (nf k) i f + 2) e : Int) (nl_S (Bf k) (nf k) i f) (j : Int) h) (fun u => RKs h0 u ∧ STr cnt (Bf k (ma_S (Bf k) (nf k) i + 3)) (Bf k (ma_S (Bf k) (nf k) i + 4)) (tk_F Bf nf cnt k i f) u) := by
  have n6 := rme_n6 R
  obtain ⟨zx, zk, z2⟩ := rk_zk R
  have g30 := (rme_m R).2.2.1
  have c0 := rme_c R
  obtain ⟨V0, V1⟩ := ft_vt c0 (rme_m R) zk z2 hf F
  have f1 := F.1
  obtain ⟨G1, G2, G3⟩ := gm_fr (rme_m R) hf
  have g31 := G3.1
  have b3 : 0 ≤ nk_S (Bf k) (nf k) i f ∧ nk_S (Bf k) (nf k) i f ≤ 255 := rme_b R G3.1
  intro y
  induction y with
  | zero => intro j e h _ _ _ _ _; exact pc_none
  | succ y ih =>
    intro j e h K A E1 E2 hj
    have Rh := rme_e R (rks_e K)
    unfold qw_X13_becomes_20
    rw [Rh.2.2.2.2]
    refine pc_if (fun z => ?_) (fun z => ?_)
    · refine pc_add (by omega) ?_; intro v15 e15
      rw [show v15 = ((fw_S (Bf k) (nf k) i f + 2 : Nat) : Int) by omega]
      refine pc_sv (vr_tend Rh G2) ?_; intro u17 q17
      rw [q17]
      refine pc_sv (vr_byte Rh G3.1) ?_; intro u20 q20
      have q20 : u20 = nk_S (Bf k) (nf k) i f := q20
      refine pc_add (by omega) ?_; intro v21 e21
      refine pc_xl ?_; intro h22 e22
      have F22 : ∀ x y : Nat, ¬ (x = 160 ∧ y = 131) → h22 x y = h x y := fun x y w => by rw [e22, up_n w]
      rw [show v21 = (tp_S (Bf k) (te_P (Bf k) (fw_S (Bf k) (nf k) i f + 2)) 0 : Int) by rw [e21]; rfl, q20]
      refine vr_b114 R hf F nn 0 h22 ⟨fun x y z1 z2 z3 => by rw [F22 x y (by omega)]; exact K.1 x y z1 z2 z3, fun z => by rw [F22 160 117 (by omega)]; exact K.2 z⟩ (fun x hx => by rw [F22 243 x (by omega)]; exact A x (by omega)) (by rw [e22, up_s]; exact q20) (fun x hx => absurd hx (by omega)) b3.1
    refine pc_wA ?_; intro _ _ h24 e24
    rw [Int.toNat_natCast] at e24
    have F24 : ∀ x y : Nat, ¬ (x = 243 ∧ y = j) → h24 x y = h x y := fun x y w => by rw [e24, up_n w]
    have K24 : RKs h0 h24 := ⟨fun x y z1 z2 z3 => by rw [F24 x y (by omega)]; exact K.1 x y z1 z2 z3, fun z => by rw [F24 160 117 (by omega)]; exact K.2 z⟩
    refine pc_if (fun w => ?_) (fun w => ?_)
    · have ej := E1 (by omega)
      rw [ej]
      obtain ⟨T, V⟩ := V0 j (by omega)
      obtain ⟨nx, nl⟩ := tp_nx T
      refine pc_sv (vr_framed (rme_e R (rks_e K24)) T) ?_; intro u27 ⟨O, q27⟩
      have q27 : TYo (fl_F Bf nf cnt k i f j) u27.1 := q27
      have K27 := rks_t K24 (rks_o O)
      refine pc_wA ?_; intro _ _ h28 e28
      rw [Int.toNat_natCast] at e28
      have F28 : ∀ x y : Nat, ¬ (x = 243 ∧ y = j) → h28 x y = u27.2 x y := fun x y w => by rw [e28, up_n w]
      have K28 : RKs h0 h28 := ⟨fun x y z1 z2 z3 => by rw [F28 x y (by omega)]; exact K27.1 x y z1 z2 z3, fun z => by rw [F28 160 117 (by omega)]; exact K27.2 z⟩
      refine pc_sv (vr_byte (rme_e R (rks_e K28)) T.1) ?_; intro u31 q31
      rw [q31]
      have A2 : ∀ x : Nat, x < j + 1 → TYj ((tk_F Bf nf cnt k i f).1 x) (h28 243 x) := fun x hx => by
        by_cases ex : x = j
        · rw [ex, e28, up_s]
          show TYj (if (j : Int) < nl_S (Bf k) (nf k) i f then fl_F Bf nf cnt k i f j else 304) u27.1
          rw [if_pos w]
          exact tyo_j q27 (vt_m1 c0.2 V).1
        · rw [F28 243 x (by omega), O.1 243 x (by omega) (by omega) (by omega), F24 243 x (by omega)]; exact A x (by omega)
      unfold qj_X13_becomes_77
      refine pc_if (fun v => ?_) (fun v => ?_)
      · refine pc_add (by omega) ?_; intro v1 e1
        refine pc_add (by omega) ?_; intro v2 e2
        rw [show v1 = (tp_S (Bf k) (fw_S (Bf k) (nf k) i f + 2) (j + 1) : Int) by omega, show v2 = ((j + 1 : Nat) : Int) by omega]
        exact ih (j + 1) (j + 1) h28 K28 A2 (fun _ => rfl) (fun _ => by omega) (by omega)
      · refine pc_add (by omega) ?_; intro v1 e1
        refine pc_add (by omega) ?_; intro v2 e2
        rw [show v1 = (tp_S (Bf k) (fw_S (Bf k) (nf k) i f + 2) (j + 1) : Int) by omega, show v2 = ((j + 1 : Nat) : Int) by omega]
        exact ih (j + 1) (j + 1) h28 K28 A2 (fun _ => rfl) (fun _ => by omega) (by omega)
    · refine pc_add (by omega) ?_; intro v33 e33
      rw [show v33 = ((j + 1 : Nat) : Int) by omega]
      refine ih (j + 1) e h24 K24 (fun x hx => ?_) (fun y => absurd y (by omega)) (fun _ => ?_) (by omega)
      · by_cases ex : x = j
        · rw [ex, e24, up_s]
          show TYj (if (j : Int) < nl_S (Bf k) (nf k) i f then fl_F Bf nf cnt k i f j else 304) 0
          rw [if_neg w]
          exact .inl ⟨rfl, rfl⟩
        · rw [F24 243 x (by omega)]; exact A x (by omega)
      · by_cases w2 : (j : Int) = nl_S (Bf k) (nf k) i f
        · have := E1 (by omega)
          omega
        · exact E2 (by omega)
theorem vr_becomes (R : RMe Bf nf cnt k i h) {f : Nat} (hf : f < fn_S (Bf k) (nf k) i) (F : FTh Bf nf cnt k i f) : Pc (qf_X13_becomes nn (fw_S (Bf k) (nf k) i f : Int) h) (fun u => RKs h u ∧ STr cnt (Bf k (ma_S (Bf k) (nf k) i + 3)) (Bf k (ma_S (Bf k) (nf k) i + 4)) (tk_F Bf nf cnt k i f) u) := by
  have n6 := rme_n6 R
  obtain ⟨G1, G2, G3⟩ := gm_fr (rme_m R) hf
  have b2 : 0 ≤ nl_S (Bf k) (nf k) i f ∧ nl_S (Bf k) (nf k) i f ≤ 255 := rme_b R G2.1
  have f1 := F.1
  unfold qf_X13_becomes
  refine pc_add (by omega) ?_; intro v36 e36
  rw [show v36 = ((fw_S (Bf k) (nf k) i f + 2 : Nat) : Int) by omega]
  refine pc_sv (vr_byte R G2.1) ?_; intro u39 q39
  refine pc_add (by omega) ?_; intro v40 e40
  rw [show v40 = (tp_S (Bf k) (fw_S (Bf k) (nf k) i f + 2) 0 : Int) by rw [e40]; rfl, show u39 = nl_S (Bf k) (nf k) i f from q39]
  exact vr_b20 R hf F nn 0 0 h rks_r (fun x hx => absurd hx (by omega)) (fun _ => rfl) (fun y => absurd y (by omega)) (by omega)
/-- HANDLERS FIT, the reference -/
theorem vr_h20 (R : RMe Bf nf cnt k i h0) (S : STr cnt (Bf k (ma_S (Bf k) (nf k) i + 3)) (Bf k (ma_S (Bf k) (nf k) i + 4)) s h0) (E8 : ∀ j : Nat, j < hn_S (Bf k) (nf k) i → ¬ HBd Bf nf cnt k i j) (F9 : ∀ f : Nat, f < fn_S (Bf k) (nf k) i → FTh Bf nf cnt k i f) : ∀ (y j : Nat) (h : ms_M), OTH h0 h → (∀ x : Nat, x < j → HDs Bf nf cnt k i p s x) → j ≤ hn_S (Bf k) (nf k) i → Pc (qw_X13_handled_20 nn y (p : Int) (mh_P (Bf k) (nf k) i : Int) (j : Int) h) (fun u => OTH h0 u.2 ∧ ((u.1 = 1 ∧ ∀ x : Nat, x < hn_S (Bf k) (nf k) i → HDs Bf nf cnt k i p s x) ∨ (u.1 = 0 ∧ ¬ ∀ x : Nat, x < hn_S (Bf k) (nf k) i → HDs Bf nf cnt k i p s x))) := by
  have n6 := rme_n6 R
  obtain ⟨l1, l2, l3, l4, l5⟩ := rme_l R
  obtain ⟨-, -, -, f4, f5⟩ := rme_f R
  obtain ⟨zx, zk, z2⟩ := rk_zk R
  have c0 := rme_c R
  intro y
  induction y with
  | zero => intro j h _ _ _; exact pc_none
  | succ y ih =>
    intro j h O A hj
    have Rh := rme_e R (rke_o O)
    have Sh := str_o S O
    unfold qw_X13_handled_20
    refine pc_sv (vr_byte Rh l5) ?_; intro u3 q3
    refine pc_if (fun z => pc_ret ⟨O, .inl ⟨rfl, fun x hx => A x (by omega)⟩⟩) (fun z => ?_)
    have jj : j < hn_S (Bf k) (nf k) i := by omega
    obtain ⟨hg, ht⟩ := gm_hd (rme_m R) jj
    have eh : hq_S (Bf k) (nf k) i j = mh_P (Bf k) (nf k) i + 1 + 7 * j := rfl
    refine pc_add (by omega) ?_; intro v4 e4
    refine pc_xl ?_; intro v5 e5
    rw [oq_mul_eq (by omega) (by omega) (by omega)] at e5
    refine pc_add (by omega) ?_; intro v6 e6
    rw [show v6 = (hq_S (Bf k) (nf k) i j : Int) by omega]
    have NXT : HDs Bf nf cnt k i p s j → ∀ (v : Int) (g : ms_M), v = (j : Int) + 1 → OTH h0 g → Pc (qw_X13_handled_20 nn y (p : Int) (mh_P (Bf k) (nf k) i : Int) v g) (fun u => OTH h0 u.2 ∧ ((u.1 = 1 ∧ ∀ x : Nat, x < hn_S (Bf k) (nf k) i → HDs Bf nf cnt k i p s x) ∨ (u.1 = 0 ∧ ¬ ∀ x : Nat, x < hn_S (Bf k) (nf k) i → HDs Bf nf cnt k i p s x))) := fun hd v g ev Og => by
      rw [ev, show (j : Int) + 1 = ((j + 1 : Nat) : Int) by omega]
      refine ih (j + 1) g Og (fun x hx => ?_) (by omega)
      by_cases e : x = j
      · rw [e]; exact hd
      · exact A x (by omega)
    have BD : ∀ g : ms_M, OTH h0 g → ¬ HDs Bf nf cnt k i p s j → Pc (some ((0 : Int), g)) (fun u => OTH h0 u.2 ∧ ((u.1 = 1 ∧ ∀ x : Nat, x < hn_S (Bf k) (nf k) i → HDs Bf nf cnt k i p s x) ∨ (u.1 = 0 ∧ ¬ ∀ x : Nat, x < hn_S (Bf k) (nf k) i → HDs Bf nf cnt k i p s x))) := fun g Og nd => pc_ret ⟨Og, .inr ⟨rfl, fun y => nd (y j jj)⟩⟩
    refine pc_sv (vr_pair Rh (p := hq_S (Bf k) (nf k) i j) (by omega)) ?_; intro u8 q8
    refine pc_if (fun v => ?_) (fun v => ?_)
    · refine pc_add (by omega) ?_; intro v9 e9
      exact NXT (fun z1 _ => absurd z1 (by omega)) v9 h e9 O
    refine pc_add (by omega) ?_; intro v10 e10
    rw [show v10 = ((hq_S (Bf k) (nf k) i j + 2 : Nat) : Int) by omega]
    refine pc_sv (vr_pair Rh (p := hq_S (Bf k) (nf k) i j + 2) (by omega)) ?_; intro u12 q12
    refine pc_if (fun v1 => ?_) (fun v1 => ?_)
    · refine pc_add (by omega) ?_; intro v13 e13
      rw [show v13 = ((hq_S (Bf k) (nf k) i j + 4 : Nat) : Int) by omega]
      refine pc_sv (vr_pair Rh (p := hq_S (Bf k) (nf k) i j + 4) (by omega)) ?_; intro u15 q15
      have H8 := Classical.byContradiction (fun w => E8 j jj w)
      obtain ⟨H1, H2, ⟨f, H3⟩, H4⟩ := H8
      have fo := fs_o (P := fun f => fv_S (Bf k) (nf k) i f = ln_N (Bf k) (hq_S (Bf k) (nf k) i j + 4)) (N := fn_S (Bf k) (nf k) i) (p := f) H3
      have hf := fo.1
      have F := F9 f hf
      have UQ : ∀ g : Nat, fo_F (Bf k) (nf k) i (ln_N (Bf k) (hq_S (Bf k) (nf k) i j + 4)) = some g → g = f := fun g hg => by rw [H3] at hg; exact (Option.some.inj hg).symm
      rw [q15]
      refine pc_sv (vr_for Rh) ?_; intro u17 q17
      have e17 : u17 = (fw_S (Bf k) (nf k) i f : Int) := by
        rcases q17 with ⟨g, g1, g2⟩ | ⟨g1, _⟩
        · rw [g2, UQ g g1]
        · rw [H3] at g1; exact nomatch g1
      rw [e17]
      obtain ⟨G1, G2, G3⟩ := gm_fr (rme_m R) hf
      have g31 := G3.1
      refine pc_sv (vr_lfit Rh Sh hf F) ?_; intro u19 ⟨O19, q19⟩
      have O2 := oth_t O O19
      have R19 := rme_e R (rke_o O2)
      refine pc_if (fun y8 => ?_) (fun y8 => BD u19.2 O2 (fun w => ?_))
      · have FLL : FLq Bf nf cnt k i f s := by
          rcases q19 with q | q
          · exact q.2
          · exact absurd q.1 y8
        refine pc_add (by omega) ?_; intro v20 e20
        rw [show v20 = ((fw_S (Bf k) (nf k) i f + 2 : Nat) : Int) by omega]
        refine pc_sv (vr_tend R19 G2) ?_; intro u22 q22
        rw [q22]
        refine pc_sv (vr_byte R19 G3.1) ?_; intro u25 q25
        have q25 : u25 = nk_S (Bf k) (nf k) i f := q25
        refine pc_if (fun y9 => BD u19.2 O2 (fun w => ?_)) (fun y9 => ?_)
        · obtain ⟨g, g1, -, g3, -⟩ := w (by omega) (by omega)
          rw [UQ g g1] at g3
          exact y9 (q25.trans g3)
        refine pc_add (by omega) ?_; intro v28 e28
        rw [show v28 = ((hq_S (Bf k) (nf k) i j + 6 : Nat) : Int) by omega]
        refine pc_sv (vr_byte R19 hg) ?_; intro u30 q30
        rw [q30]
        refine pc_sv (vr_cls R19 ht) ?_; intro u32 ⟨O32, q32⟩
        have O3 := oth_t O2 O32
        have R32 := rme_e R (rke_o O3)
        obtain ⟨T, V⟩ := (ft_vt c0 (rme_m R) zk z2 hf F).2 0 (by omega)
        refine pc_add (by omega) ?_; intro v33 e33
        rw [show v33 = (tp_S (Bf k) (te_P (Bf k) (fw_S (Bf k) (nf k) i f + 2)) 0 : Int) by rw [e33]; rfl]
        refine pc_sv (vr_framed R32 T) ?_; intro u35 ⟨O35, q35⟩
        have O4 := oth_t O3 O35
        have R35 := rme_e R (rke_o O4)
        have q35 : TYo (fk_F Bf nf cnt k i f 0) u35.1 := q35
        have ci := cq_is (Bf := Bf) (nf := nf) c0 zk z2 ht
        have nm : ¬ cq_F Bf nf cnt (Bf k) (nf k) (Bf k (hq_S (Bf k) (nf k) i j + 6)) = -1 := fun w => by
          rw [w] at H4; exact kf_m1 H4
        have vt : VTq cnt (cq_F Bf nf cnt (Bf k) (nf k) (Bf k (hq_S (Bf k) (nf k) i j + 6))) := by
          rcases ci with c | c
          · exact absurd c nm
          · exact c.1
        refine pc_sv (vr_go R35 (vt_is c0.2 vt) (tyo_j q32 nm) (tyo_j q35 (vt_m1 c0.2 V).1)) ?_; intro u37 q37
        refine pc_if (fun y10 => ?_) (fun y10 => BD u35.2 O4 (fun w => ?_))
        · refine pc_add (by omega) ?_; intro v38 e38
          refine NXT (fun _ _ => ⟨f, H3, FLL, by omega, ?_⟩) v38 u35.2 e38 O4
          rcases q37 with q | q
          · exact q.2
          · exact absurd q.1 y10
        · obtain ⟨g, g1, -, -, g4⟩ := w (by omega) (by omega)
          rw [UQ g g1] at g4
          rcases q37 with q | q
          · omega
          · exact q.2 g4
      · obtain ⟨g, g1, g2, -⟩ := w (by omega) (by omega)
        rw [UQ g g1] at g2
        rcases q19 with q | q
        · omega
        · exact q.2 g2
    · refine pc_add (by omega) ?_; intro v42 e42
      exact NXT (fun _ z1 => absurd z1 (by omega)) v42 h e42 O
theorem vr_handled (R : RMe Bf nf cnt k i h) (S : STr cnt (Bf k (ma_S (Bf k) (nf k) i + 3)) (Bf k (ma_S (Bf k) (nf k) i + 4)) s h) (E8 : ∀ j : Nat, j < hn_S (Bf k) (nf k) i → ¬ HBd Bf nf cnt k i j) (F9 : ∀ f : Nat, f < fn_S (Bf k) (nf k) i → FTh Bf nf cnt k i f) : Pc (qf_X13_handled nn (p : Int) h) (fun u => OTH h u.2 ∧ ((u.1 = 1 ∧ ∀ x : Nat, x < hn_S (Bf k) (nf k) i → HDs Bf nf cnt k i p s x) ∨ (u.1 = 0 ∧ ¬ ∀ x : Nat, x < hn_S (Bf k) (nf k) i → HDs Bf nf cnt k i p s x))) := by
  have n6 := rme_n6 R
  have i12 := rme_i R
  unfold qf_X13_handled
  rw [R.2.2.1.1, R.2.2.1.2.1]
  refine pc_xl ?_; intro v48 e48
  rw [oq_mul_eq (by omega) (by omega) (by omega)] at e48
  refine pc_add (by omega) ?_; intro v50 e50
  refine pc_rA ?_; intro _ _ v51 e51
  rw [show v50 = 12 * (k : Int) + i by omega, (rme_t R).2.1] at e51
  rw [e51]
  exact vr_h20 R S E8 F9 nn 0 h oth_r (fun x hx => absurd hx (by omega)) (Nat.zero_le _)
/-- RIGHT AND WANTED at place p -/
theorem vr_right (R : RMe Bf nf cnt k i h) (H : HGo Bf nf cnt) (hp : p < cl_N (Bf k) (nf k) i) (S : STr cnt (Bf k (ma_S (Bf k) (nf k) i + 3)) (Bf k (ma_S (Bf k) (nf k) i + 4)) s h) : Pc (qf_X13_right nn (p : Int) h) (fun u => RKs h u.2 ∧ STr cnt (Bf k (ma_S (Bf k) (nf k) i + 3)) (Bf k (ma_S (Bf k) (nf k) i + 4)) s u.2 ∧ ((u.1 = 1 ∧ CRt Bf nf cnt k (cd_S (Bf k) (nf k) i p) (cd_S (Bf k) (nf k) i (p + 1))) ∨ (u.1 = 0 ∧ ¬ CRt Bf nf cnt k (cd_S (Bf k) (nf k) i p) (cd_S (Bf k) (nf k) i (p + 1))))) := by
  obtain ⟨l1, l2, l3, l4, l5⟩ := rme_l R
  have rg := rme_b R (p := ma_S (Bf k) (nf k) i + 7 + (p + 1)) (by omega)
  have rg : 0 ≤ cd_S (Bf k) (nf k) i (p + 1) ∧ cd_S (Bf k) (nf k) i (p + 1) ≤ 255 := rg
  unfold qf_X13_right
  refine pc_sv (vr_code R (p := p) (by omega)) ?_; intro u57 q57
  rw [q57]
  refine pc_sv wd_r ?_; intro u58 q58
  refine pc_if (fun z => ?_) (fun z => ?_)
  · refine pc_imp (vr_r25 R H (a := 0) (by omega)) (fun u ⟨q1, q2, q3, q4, q5⟩ => ⟨q1, str_k S q2 q3 q4, ?_⟩)
    have NU : ∀ o : Int, (o = 18 ∨ (180 ≤ o ∧ o ≤ 182) ∨ o = 184 ∨ (187 ≤ o ∧ o ≤ 189) ∨ o = 192 ∨ o = 193) → WD o = 2 := fun o w => by
      rcases (show o = 18 ∨ o = 180 ∨ o = 181 ∨ o = 182 ∨ o = 184 ∨ o = 187 ∨ o = 188 ∨ o = 189 ∨ o = 192 ∨ o = 193 by omega) with e | e | e | e | e | e | e | e | e | e
      all_goals (rw [e]; decide)
    have nu := NU (cd_S (Bf k) (nf k) i p)
    have TR : ∀ a : Int, CRt Bf nf cnt k (cd_S (Bf k) (nf k) i p) a := fun a => ⟨fun w => absurd (nu (by omega)) (by omega), fun w => absurd (nu (by omega)) (by omega), fun w => absurd (nu (by omega)) (by omega), fun w => absurd (nu (by omega)) (by omega)⟩
    rcases q5 with q | q
    · exact .inl ⟨q.1, TR _⟩
    · exact absurd (TR 0) q.2
  · refine pc_add (by omega) ?_; intro v59 e59
    rw [show v59 = ((p + 1 : Nat) : Int) by omega]
    refine pc_sv (vr_code R (p := p + 1) (by omega)) ?_; intro u61 q61
    rw [q61]
    exact pc_imp (vr_r25 R H rg) (fun u ⟨q1, q2, q3, q4, q5⟩ => ⟨q1, str_k S q2 q3 q4, q5⟩)
theorem vr_wanted (R : RMe Bf nf cnt k i h0) (RZ : h0 160 136 = ((6000 * k + (ps_S (Bf k) (nf k) (kt_S (Bf k) (nf k) i 1) (pm_S (Bf k) (nf k) (kt_S (Bf k) (nf k) i 1)) + 1) : Nat) : Int)) (H : HGo Bf nf cnt) (K : RKs h0 h) (S : STr cnt (Bf k (ma_S (Bf k) (nf k) i + 3)) (Bf k (ma_S (Bf k) (nf k) i + 4)) s h) (hp : p < cl_N (Bf k) (nf k) i) (CR : CRt Bf nf cnt k (cd_S (Bf k) (nf k) i p) (cd_S (Bf k) (nf k) i (p + 1))) (wd : 0 < WD (cd_S (Bf k) (nf k) i p)) : Pc (qf_X13_wanted nn (p : Int) h) (RSo cnt (Bf k (ma_S (Bf k) (nf k) i + 3)) (Bf k (ma_S (Bf k) (nf k) i + 4)) h0 (ap_F Bf nf cnt k i (cd_S (Bf k) (nf k) i p) (cd_S (Bf k) (nf k) i (p + 1)) s)) := by
  have Rh := rme_e R (rks_e K)
  obtain ⟨l1, l2, l3, l4, l5⟩ := rme_l R
  have rg := rme_b R (p := ma_S (Bf k) (nf k) i + 7 + (p + 1)) (by omega)
  have rg : 0 ≤ cd_S (Bf k) (nf k) i (p + 1) ∧ cd_S (Bf k) (nf k) i (p + 1) ≤ 255 := rg
  have rg0 := rme_b R (p := ma_S (Bf k) (nf k) i + 7 + p) (by omega)
  have rg0 : 0 ≤ cd_S (Bf k) (nf k) i p ∧ cd_S (Bf k) (nf k) i p ≤ 255 := rg0
  unfold qf_X13_wanted
  refine pc_sv (vr_code Rh (p := p) (by omega)) ?_; intro u242 q242
  rw [q242]
  refine pc_sv wd_r ?_; intro u243 q243
  refine pc_if (fun z => vr_w25 R RZ H K S CR wd rg0 (.inr (by omega)) rg) (fun z => ?_)
  refine pc_add (by omega) ?_; intro v244 e244
  rw [show v244 = ((p + 1 : Nat) : Int) by omega]
  refine pc_sv (vr_code Rh (p := p + 1) (by omega)) ?_; intro u246 q246
  rw [q246]
  exact vr_w25 R RZ H K S CR wd rg0 (.inl rfl) rg
end

/- THE LAW'S LEVEL: what compile leaves -/
theorem nw_55 {L : List Nat} {LF : List (Nat × Nat)} {c k : Nat} (h : (L.all (fun x => Nat.blt x 55) && LF.all (fun q => Nat.blt q.1 55)) = true) (hc : 55 ≤ c) : nw_F L LF false false c k = true := by
  rw [Bool.and_eq_true] at h
  unfold nw_F
  simp only [Bool.and_eq_true]
  refine ⟨?_, ?_, rfl, rfl⟩
  · cases hq : L.contains c with
    | false => rfl
    | true => have := List.all_eq_true.mp h.1 c (List.contains_iff_mem.mp hq); rw [Nat.blt_eq] at this; omega
  · cases hq : LF.contains (c, k) with
    | false => rfl
    | true => have := List.all_eq_true.mp h.2 _ (List.contains_iff_mem.mp hq); rw [Nat.blt_eq] at this; omega
theorem hp_B {nn cc kk : Nat} (hc : 55 ≤ cc) {a : Int} {g q : ms_M} (e : qf_X2_addKindByte nn a g = some q) : q cc kk = g cc kk := (ff_X2_addKindByte nn) _ e cc kk (nw_55 rfl hc)
theorem hp_20 {nn cc kk : Nat} (hc : 55 ≤ cc) {l2 : Int} {h r : ms_M} (e : qj_X2_addKind_20 nn l2 h = some r) : r cc kk = h cc kk := by
  unfold qj_X2_addKind_20 at e
  obtain ⟨u1, e1, e⟩ := sv_i e
  split at e
  · obtain ⟨u3, e3, e⟩ := sv_i e
    have e := rd_i e
    obtain ⟨u10, e10, e⟩ := sv_i e
    obtain ⟨u14, e14, e⟩ := sv_i e
    unfold xl at e
    obtain ⟨u21, e21, e⟩ := sv_i e
    cases e
    rw [hp_B hc e21, up_n (by omega), cpn_fr e10 _ _ (by omega), hp_B hc e3]
  · split at e
    · split at e
      · obtain ⟨u, e2, e⟩ := sv_i e; cases e; exact hp_B hc e2
      · obtain ⟨u, e2, e⟩ := sv_i e; cases e; exact hp_B hc e2
    · obtain ⟨u, e2, e⟩ := sv_i e; cases e; exact hp_B hc e2
theorem hp_A {nn cc kk : Nat} (hc : 55 ≤ cc) {l2 : Int} {h r : ms_M} (e : qf_X2_addKind nn l2 h = some r) : r cc kk = h cc kk := by
  unfold qf_X2_addKind at e
  obtain ⟨u1, e1, e⟩ := sv_i e
  split at e
  · exact hp_20 hc e
  · obtain ⟨u3, e3, e⟩ := sv_i e
    obtain ⟨u4, e4, e⟩ := sv_i e
    rw [hp_20 hc e, hp_B hc e3]
theorem hp_N {nn cc kk : Nat} (hc : 55 ≤ cc) {l2 : Int} {h : ms_M} {r : Int × ms_M} (e : qf_X2_nameKind nn l2 h = some r) : r.2 cc kk = h cc kk := by
  unfold qf_X2_nameKind xl at e
  obtain ⟨u3, e3, e⟩ := sv_i e
  obtain ⟨u8, e8, e⟩ := sv_i e
  cases e
  have z : u8.2 cc kk = u3 cc kk := (ff_X9_nameOf nn) _ e8 cc kk (nw_55 rfl hc)
  show u8.2 cc kk = _
  rw [z, hp_A hc e3, up_n (by omega)]
theorem hp_M13 {nn cc kk : Nat} (hc : 55 ≤ cc) : ∀ (k : Nat) (l1 l2 : Int) {h : ms_M} {r : Int × ms_M}, qw_X2_nameMethodKind_13 nn k l1 l2 h = some r → r.2 cc kk = h cc kk := by
  intro k
  induction k with
  | zero => intro l1 l2 h r e; cases e
  | succ k ih =>
    intro l1 l2 h r e
    unfold qw_X2_nameMethodKind_13 at e
    have e := rd_i e
    split at e
    · obtain ⟨u4, e4, e⟩ := sv_i e
      have e := rd_i e
      obtain ⟨u8, e8, e⟩ := sv_i e
      obtain ⟨u13, e13, e⟩ := sv_i e
      cases e
      have z : u13.2 cc kk = u8 cc kk := (ff_X9_nameOf nn) _ e13 cc kk (nw_55 rfl hc)
      show u13.2 cc kk = _
      rw [z, hp_A hc e8, hp_B hc e4]
    · obtain ⟨u15, e15, e⟩ := sv_i e
      obtain ⟨u17, e17, e⟩ := sv_i e
      unfold xl at e
      rw [ih _ _ e, hp_A hc e17]
theorem hp_M {nn cc kk : Nat} (hc : 55 ≤ cc) {a1 : Int} {h : ms_M} {r : Int × ms_M} (e : qf_X2_nameMethodKind nn a1 h = some r) : r.2 cc kk = h cc kk := by
  unfold qf_X2_nameMethodKind xl at e
  obtain ⟨u22, e22, e⟩ := sv_i e
  rw [hp_M13 hc _ _ _ e, hp_B hc e22, up_n (by omega)]
theorem hp_144 {nn cc kk : Nat} (hc : 55 ≤ cc) : ∀ (k : Nat) (l1 : Int) {h r : ms_M}, qw_X2_nameKinds_144 nn k l1 h = some r → r cc kk = h cc kk := by
  intro k
  induction k with
  | zero => intro l1 h r e; cases e
  | succ k ih =>
    intro l1 h r e
    unfold qw_X2_nameKinds_144 at e
    split at e
    · cases e; rfl
    · split at e
      · cases e; rfl
      · obtain ⟨u6, e6, e⟩ := sv_i e
        split at e
        · exact ih _ e
        · obtain ⟨u10, e10, e⟩ := sv_i e
          have e := wa_i e
          have := ih _ e
          rw [this, up_n (by omega), hp_M hc e10]
theorem hp_85 {nn cc kk : Nat} (hc : 55 ≤ cc) : ∀ (k : Nat) (l1 : Int) {h r : ms_M}, qw_X2_nameKinds_85 nn k l1 h = some r → r cc kk = h cc kk := by
  intro k
  induction k with
  | zero => intro l1 h r e; cases e
  | succ k ih =>
    intro l1 h r e
    unfold qw_X2_nameKinds_85 at e
    split at e
    · exact hp_144 hc _ _ e
    · split at e
      · exact hp_144 hc _ _ e
      · unfold xl at e
        have e := rd_i e
        split at e
        · exact ih _ e
        · have e := rd_i e
          obtain ⟨u29, e29, e⟩ := sv_i e
          have e := wa_i e
          have := ih _ e
          rw [this, up_n (by omega), hp_N hc e29]
theorem hp_59 {nn cc kk : Nat} (hc : 55 ≤ cc) {qkk : Int → ms_M → Option ms_M} (hq : ∀ (l : Int) {g r : ms_M}, qkk l g = some r → r cc kk = g cc kk) {l1 s0 s1 : Int} {h r : ms_M} (e : qj_X2_nameKinds_59 nn qkk l1 s0 s1 h = some r) : r cc kk = h cc kk := by
  unfold qj_X2_nameKinds_59 at e
  have e := wa_i e
  unfold xl at e
  obtain ⟨u40, e40, e⟩ := sv_i e
  have e := wa_i e
  have := hq _ e
  rw [this, up_n (by omega), hp_N hc e40, up_n (by omega)]
theorem hp_2 {nn cc kk : Nat} (hc : 55 ≤ cc) : ∀ (k : Nat) (l1 : Int) {h r : ms_M}, qw_X2_nameKinds_2 nn k l1 h = some r → r cc kk = h cc kk := by
  intro k
  induction k with
  | zero => intro l1 h r e; cases e
  | succ k ih =>
    intro l1 h r e
    unfold qw_X2_nameKinds_2 xl at e
    dsimp only at e
    split at e
    · exact hp_85 hc _ _ e
    · split at e
      · exact hp_85 hc _ _ e
      · split at e
        · exact hp_85 hc _ _ e
        · split at e
          · obtain ⟨u51, e51, e⟩ := sv_i e
            obtain ⟨u53, e53, e⟩ := sv_i e
            exact hp_59 hc (fun l _ _ z => ih l z) e
          · exact hp_59 hc (fun l _ _ z => ih l z) e
theorem hp_ok {nn cc kk : Nat} (hc : 55 ≤ cc) {g r : ms_M} (e : qf_X2_nameKinds nn g = some r) : r cc kk = g cc kk := hp_2 hc _ _ e
section
variable {nn n : Nat} {h g z r : ms_M}
/-- the rows below 256 stay, and how long the first n rows are -/
def LWk (n : Nat) (h g : ms_M) : Prop := (∀ c k : Nat, c < 256 → g c k = h c k) ∧ (∀ k : Nat, k < n → g 900001 k = h 900001 k) ∧ n ≤ cn_M g
theorem lw_tr (A : LWk n h g) (B : LWk n g z) : LWk n h z := ⟨fun c k q => (B.1 c k q).trans (A.1 c k q), fun k q => (B.2.1 k q).trans (A.2.1 k q), B.2.2⟩
theorem lw_rf (hn : n ≤ cn_M h) : LWk n h h := ⟨fun _ _ _ => rfl, fun _ _ => rfl, hn⟩
theorem lw_up {c k : Nat} {v : Int} (hn : n ≤ cn_M h) (hc : 256 ≤ c ∧ c < 900000) : LWk n h (up_M h c k v) := by
  refine ⟨fun c2 k2 q => up_n (by omega), fun k2 q => up_n (by omega), ?_⟩
  unfold cn_M; rw [up_n (by omega)]; exact hn
theorem lw_wc83 {l1 l3 l4 : Int} {l2 : Nat} (h2 : 256 ≤ l2 ∧ l2 < 900000) : ∀ (k : Nat) (l5 : Int) {h : ms_M}, n ≤ cn_M h → Pc (qw_X6_writeConstant_83 nn k l1 l2 l3 l4 l5 h) (fun g => LWk n h g) := by
  intro k
  induction k with
  | zero => intro l5 h hn; exact pc_none
  | succ k ih =>
    intro l5 h hn
    unfold qw_X6_writeConstant_83
    refine pc_if (fun _ => pc_ret (lw_rf hn)) (fun _ => ?_)
    refine pc_xl (fun _ _ => pc_rA (fun _ _ _ _ => pc_xl (fun _ _ => pc_xl (fun _ _ => pc_xl (fun _ _ => pc_xl (fun _ _ => pc_xl (fun _ _ => pc_wT (fun h9 e9 => pc_xl (fun _ _ => ?_)))))))))
    have O : LWk n h h9 := by rw [e9]; exact lw_up hn h2
    exact pc_imp (ih _ O.2.2) (fun r Q => lw_tr O Q)
theorem lw_wc {a1 a3 : Int} {a2 : Nat} (h2 : 256 ≤ a2 ∧ a2 < 900000) (hn : n ≤ cn_M h) : Pc (qf_X6_writeConstant nn a1 a2 a3 h) (fun g => LWk n h g) := by
  have same : LWk n h h := lw_rf hn
  unfold qf_X6_writeConstant
  refine pc_rA (fun _ _ _ _ => pc_rA (fun _ _ _ _ => pc_se (fun u17 _ => pc_if (fun _ => pc_ret same) (fun _ => pc_xl (fun _ _ => pc_lS (fun _ _ => pc_if (fun _ => ?_) (fun _ => pc_ret same)))))))
  refine pc_rA (fun _ _ _ _ => pc_xl (fun _ _ => pc_wT (fun h23 e23 => pc_rA (fun _ _ _ _ => ?_))))
  have O : LWk n h h23 := by rw [e23]; exact lw_up hn h2
  refine pc_if (fun _ => pc_imp (lw_wc83 h2 _ _ O.2.2) (fun r Q => lw_tr O Q)) (fun _ => ?_)
  refine pc_xl (fun _ _ => pc_xl (fun _ _ => pc_xl (fun _ _ => pc_wT (fun h29 e29 => pc_rA (fun _ _ _ _ => pc_xl (fun _ _ => pc_se (fun u35 e35 => pc_ret ?_)))))))
  have O2 : LWk n h23 h29 := by rw [e29]; exact lw_up O.2.2 h2
  refine lw_tr O (lw_tr O2 ⟨fun c k a => cpn_fr e35 c k (by omega), fun k a => cpn_fr e35 900001 k (by omega), ?_⟩)
  unfold cn_M
  rw [cpn_fr e35 900000 0 (by omega)]; exact O2.2.2
theorem lw_ci40 {l1 : Nat} (h2 : 256 ≤ l1 ∧ l1 < 900000) : ∀ (k : Nat) (l2 l3 : Int) {h : ms_M} (c s : Nat), n ≤ cn_M h → Pc (qw_X6_closeImage_40 nn k l1 l2 l3 h c s) (fun r => LWk n h r.2.1) := by
  intro k
  induction k with
  | zero => intro l2 l3 h c s hn; exact pc_none
  | succ k ih =>
    intro l2 l3 h c s hn
    unfold qw_X6_closeImage_40
    refine pc_if (fun _ => ?_) (fun _ => ?_)
    · intro r e
      have e := cp_i e
      have e := Option.some.inj e
      rw [← e]
      refine ⟨fun c k a => ?_, fun k a => ?_, ?_⟩
      · show cp_M _ _ _ _ _ _ c k = _
        unfold cp_M; rw [if_neg (by omega)]
      · show cp_M _ _ _ _ _ _ 900001 k = _
        unfold cp_M; rw [if_neg (by omega)]
      · show n ≤ cn_M (cp_M _ _ _ _ _ _)
        unfold cn_M cp_M; rw [if_neg (by omega)]; exact hn
    · refine pc_sv (lw_wc h2 hn) (fun u6 O => pc_rA (fun _ _ _ _ => pc_rA (fun _ _ _ _ => pc_se (fun _ _ => pc_xl (fun _ _ => pc_xl (fun _ _ => ?_))))))
      exact pc_imp (ih _ _ _ _ O.2.2) (fun r Q => lw_tr O Q)
theorem lw_nw {y : Int} {f : Nat → Int} (hn : n ≤ cn_M h) (hc : 256 ≤ h 900000 0 ∧ h 900000 0 < 700000) : LWk n h (nw_M h y f) := by
  have : 256 ≤ cn_M h ∧ cn_M h < 700000 := by unfold cn_M; omega
  refine ⟨fun c k a => ?_, fun k a => ?_, ?_⟩
  · unfold nw_M
    rw [if_neg (by omega), if_neg (by omega), if_neg (by omega)]
  · unfold nw_M
    rw [if_neg (by omega), if_neg (by omega), if_neg (by omega)]
  · unfold cn_M nw_M
    rw [if_neg (by unfold cn_M at this ⊢; omega), if_pos ⟨rfl, rfl⟩]
    unfold cn_M at hn; omega
theorem lw_ci (hn : n ≤ cn_M h) : Pc (qf_X6_closeImage nn h) (fun r => LWk n h r.2.1) := by
  unfold qf_X6_closeImage
  refine pc_se (fun u17 _ => pc_if (fun _ => pc_se (fun u19 _ => pc_ck (fun _ => pc_nB (fun z hc ez => ?_)))) (fun _ => pc_ck (fun _ => pc_nB (fun z hc ez => pc_ret ?_))))
  · have b : 256 ≤ cn_M h ∧ cn_M h < 900000 := by unfold cn_M; omega
    have O : LWk n h z := by rw [ez]; exact lw_nw hn hc
    refine pc_wT (fun h22 e22 => pc_wT (fun h23 e23 => pc_xl (fun _ _ => pc_wT (fun h26 e26 => ?_))))
    have O22 : LWk n z h22 := by rw [e22]; exact lw_up O.2.2 b
    have O23 : LWk n h22 h23 := by rw [e23]; exact lw_up O22.2.2 b
    have O26 : LWk n h23 h26 := by rw [e26]; exact lw_up O23.2.2 b
    exact pc_imp (lw_ci40 b _ _ _ _ _ O26.2.2) (fun r Q => lw_tr O (lw_tr O22 (lw_tr O23 (lw_tr O26 Q))))
  · show LWk n h z
    rw [ez]; exact lw_nw hn hc
/-- the known names stand; what is above 55 and the images told stay -/
def CQ4 (n : Nat) (h g : ms_M) : Prop := KNQ g ∧ (∀ c k : Nat, 55 ≤ c → c < 256 → g c k = h c k) ∧ g 0 7 = h 0 7 ∧ (∀ k : Nat, k < n → g 900001 k = h 900001 k) ∧ n ≤ cn_M g
theorem cq_tr (A : CQ4 n h g) (B : KNQ g → n ≤ cn_M g → CQ4 n g z) : CQ4 n h z := by
  have Q := B A.1 A.2.2.2.2
  exact ⟨Q.1, fun c k a b => (Q.2.1 c k a b).trans (A.2.1 c k a b), Q.2.2.1.trans A.2.2.1, fun k a => (Q.2.2.2.1 k a).trans (A.2.2.2.1 k a), Q.2.2.2.2⟩
theorem cq_f {X : List Nat} {XF : List (Nat × Nat)} (F : ∀ c k, nw_F X XF false false c k = true → r c k = h c k) (q : (XF.contains (2, 9) || X.contains 2 || X.contains 6 || X.contains 7 || X.contains 8 || X.contains 10 || XF.any (fun p => p.1 == 6 || p.1 == 7 || p.1 == 8 || p.1 == 10)) = false) (q2 : (X.all (fun x => Nat.blt x 55) && XF.all (fun q => Nat.blt q.1 55)) = true) (q3 : nw_F X XF false false 0 7 = true) (K : KNQ h) (hn : n ≤ cn_M h) : CQ4 n h r :=
  ⟨kQ_f F q K, fun c k a _ => F c k (nw_55 q2 a), F 0 7 q3, fun k _ => F 900001 k (nw_55 q2 (by omega)), by unfold cn_M; rw [F 900000 0 (nw_55 q2 (by omega))]; exact hn⟩
theorem cq_cc {a1 : Int} (K : KNQ h) (hn : n ≤ cn_M h) : Pc (qf_X0_closeClass nn a1 h) (fun r => CQ4 n h r.1) := by
  unfold qf_X0_closeClass
  refine pc_se (fun u3 _ => pc_se (fun u6 _ => pc_se (fun u8 e8 => ?_)))
  have F : ∀ c k : Nat, ¬ (c = 33 ∧ k = 7) → u8 c k = h c k := fun c k q => note_fr e8 c k q
  have O : CQ4 n h u8 := ⟨kQ_e K (F 2 9 (by omega)) (fun k => F 6 k (by omega)) (fun k => F 7 k (by omega)) (fun k => F 8 k (by omega)) (fun k => F 10 k (by omega)), fun c k a b => F c k (by omega), F 0 7 (by omega), fun k _ => F 900001 k (by omega), by unfold cn_M; rw [F 900000 0 (by omega)]; exact hn⟩
  refine pc_if (fun _ => pc_ret O) (fun _ => pc_if (fun _ => pc_ret O) (fun _ => pc_if (fun _ => pc_ret O) (fun _ => pc_if (fun _ => pc_ret O) (fun _ => ?_))))
  refine pc_sv (lw_ci O.2.2.2.2) (fun u17 O17 => ?_)
  intro r e
  unfold wr_QB at e
  split at e
  · have e := Option.some.inj e
    rw [← e]
    have G : ∀ c k : Nat, c < 256 → c ≠ 43 → up_M u17.2.1 43 a1.toNat u17.1 c k = u8 c k := fun c k a b => by rw [up_n (by omega)]; exact O17.1 c k a
    refine cq_tr O (fun K8 _ => ⟨kQ_e K8 (G 2 9 (by omega) (by omega)) (fun k => G 6 k (by omega) (by omega)) (fun k => G 7 k (by omega) (by omega)) (fun k => G 8 k (by omega) (by omega)) (fun k => G 10 k (by omega) (by omega)), fun c k a b => G c k b (by omega), G 0 7 (by omega) (by omega), fun k a => ?_, ?_⟩)
    · show up_M u17.2.1 43 a1.toNat u17.1 900001 k = _
      rw [up_n (by omega)]; exact O17.2.1 k a
    · show n ≤ cn_M (up_M u17.2.1 43 a1.toNat u17.1)
      unfold cn_M; rw [up_n (by omega)]; exact O17.2.2
  · cases e
/-- what compile leaves -/
def CQE (n : Nat) (h g : ms_M) : Prop := KNB g ∧ (∀ c k : Nat, 56 ≤ c → c < 256 → g c k = h c k) ∧ (g 2 11 ≠ 0 → g 0 7 = h 0 7 ∧ ∀ k : Nat, g 55 k = h 55 k) ∧ (∀ k : Nat, k < n → g 900001 k = h 900001 k) ∧ n ≤ cn_M g
theorem cqe_i (C : CQ4 n h g) (B : KNQ g → CQE n g z) : CQE n h z := by
  obtain ⟨b1, b2, b3, b4, b5⟩ := B C.1
  refine ⟨b1, fun c k a b => (b2 c k a b).trans (C.2.1 c k (by omega) b), fun q => ?_, fun k a => (b4 k a).trans (C.2.2.2.1 k a), b5⟩
  obtain ⟨q1, q2⟩ := b3 q
  exact ⟨q1.trans C.2.2.1, fun k => (q2 k).trans (C.2.1 55 k (by omega) (by omega))⟩
theorem ti_fr {c k : Nat} (h1 : ¬ (c = 0 ∧ k = 7)) (h2 : c ≠ 55) : nw_F wl_X12_takeImages wf_X12_takeImages false false c k = true := by
  unfold nw_F
  simp only [Bool.and_eq_true]
  refine ⟨?_, ?_, rfl, rfl⟩
  · cases hq : wl_X12_takeImages.contains c with
    | false => rfl
    | true =>
      have m := List.contains_iff_mem.mp hq
      unfold wl_X12_takeImages at m
      simp only [List.mem_cons, List.not_mem_nil, or_false] at m
      omega
  · cases hq : wf_X12_takeImages.contains (c, k) with
    | false => rfl
    | true =>
      have m := List.contains_iff_mem.mp hq
      unfold wf_X12_takeImages at m
      simp only [List.mem_cons, List.not_mem_nil, or_false, Prod.mk.injEq] at m
      omega
theorem cq_175 {c s : Nat} (K : KNQ h) (hn : n ≤ cn_M h) : Pc (qj_X12_compile_175 nn h c s) (fun r => CQE n h r.2.1) := by
  unfold qj_X12_compile_175
  refine pc_se (fun u3 e3 => ?_)
  have O : CQ4 n h u3 := cq_f (fun c k q => (ff_X0_closeProgram nn) _ e3 c k q) rfl rfl rfl K hn
  refine pc_if (fun _ => pc_ret ⟨O.1.2.2, fun c k a b => O.2.1 c k (by omega) b, fun _ => ⟨O.2.2.1, fun k => O.2.1 55 k (by omega) (by omega)⟩, O.2.2.2⟩) (fun y => pc_se (fun u7 e7 => pc_ret ?_))
  have F := fun c k q => (ff_X12_takeImages nn) _ e7 c k q
  have n11 : u7.2 2 11 = u3 2 11 := F 2 11 rfl
  refine cqe_i O (fun K3 => ⟨(kQ_f F rfl K3).2.2, fun c k a b => F c k (ti_fr (by omega) (by omega)), fun q => absurd (Classical.not_not.mp y) (by rw [← n11]; exact q), fun k _ => F 900001 k (ti_fr (by omega) (by omega)), ?_⟩)
  show n ≤ cn_M u7.2
  unfold cn_M; rw [show u7.2 900000 0 = u3 900000 0 from F 900000 0 (ti_fr (by omega) (by omega))]; exact O.2.2.2.2
theorem cq_124 {kk : Int → ms_M → Nat → Nat → Option (Int × ms_M × Nat × Nat)} {l2 : Int} {c s : Nat} (hk : ∀ (v : Int) {h : ms_M} (c s : Nat), KNQ h → n ≤ cn_M h → Pc (kk v h c s) (fun r => CQE n h r.2.1)) : ∀ (k : Nat) (l3 : Int) {h : ms_M}, KNQ h → n ≤ cn_M h → Pc (qw_X12_compile_124 nn kk k l2 l3 h c s) (fun r => CQE n h r.2.1) := by
  intro k
  induction k with
  | zero => intro l3 h K hn; exact pc_none
  | succ k ih =>
    intro l3 h K hn
    have j : Pc (qj_X12_compile_161 nn kk l2 h c s) (fun r => CQE n h r.2.1) := by
      unfold qj_X12_compile_161
      exact pc_sv (cq_cc K hn) (fun u11 O => pc_xl (fun _ _ => pc_imp (hk _ _ _ O.1 O.2.2.2.2) (fun r Q => cqe_i O (fun _ => Q))))
    unfold qw_X12_compile_124
    refine pc_se (fun u15 _ => pc_if (fun _ => j) (fun _ => pc_if (fun _ => j) (fun _ => pc_se (fun u20 e20 => pc_xl (fun _ _ => ?_)))))
    have O : CQ4 n h u20 := cq_f (fun c k q => (ff_X0_makeMethod nn) _ e20 c k q) rfl rfl rfl K hn
    exact pc_imp (ih _ O.1 O.2.2.2.2) (fun r Q => cqe_i O (fun _ => Q))
theorem cq_93 : ∀ (k : Nat) (l2 : Int) {h : ms_M} (c s : Nat), KNQ h → n ≤ cn_M h → Pc (qw_X12_compile_93 nn k l2 h c s) (fun r => CQE n h r.2.1) := by
  intro k
  induction k with
  | zero => intro l2 h c s K hn; exact pc_none
  | succ k ih =>
    intro l2 h c s K hn
    unfold qw_X12_compile_93
    refine pc_if (fun _ => cq_175 K hn) (fun _ => pc_if (fun _ => cq_175 K hn) (fun _ => pc_se (fun u30 e30 => ?_)))
    have O : CQ4 n h u30 := cq_f (fun c k q => (ff_X0_beginClass nn) _ e30 c k q) rfl rfl rfl K hn
    exact pc_imp (cq_124 (fun v h c s q q2 => ih v c s q q2) _ _ O.1 O.2.2.2.2) (fun r Q => cqe_i O (fun _ => Q))
theorem kB_e (K : KNB h) (b : ∀ k : Nat, r 6 k = h 6 k) (c : ∀ k : Nat, r 7 k = h 7 k) (d : ∀ k : Nat, r 8 k = h 8 k) (e : ∀ k : Nat, r 10 k = h 10 k) : KNB r := by
  obtain ⟨⟨k3, k4⟩, k5, k6⟩ := K
  exact ⟨⟨fun i hi => by rw [c]; exact k3 i hi, fun k hk => by rw [b]; exact k4 k hk⟩, fun i hi => by rw [d]; exact k5 i hi, fun b hb => by rw [e]; exact k6 b hb⟩
theorem nw_r2 {c k : Nat} (hc : c ≠ 2) : nw_F wl_X9_refuse wf_X9_refuse false false c k = true := by
  unfold nw_F
  simp only [Bool.and_eq_true]
  refine ⟨rfl, ?_, rfl, rfl⟩
  cases hq : wf_X9_refuse.contains (c, k) with
  | false => rfl
  | true =>
    have m := List.contains_iff_mem.mp hq
    unfold wf_X9_refuse at m
    simp only [List.mem_cons, List.not_mem_nil, or_false, Prod.mk.injEq] at m
    omega
/-- COMPILE keeps the known names, the space above, and on a fault the images told -/
theorem cq_compile (K : KNB h) : Pc (qf_X12_compile nn h) (fun r => CQE (cn_M h) h r.2.1) := by
  unfold qf_X12_compile
  refine pc_xl (fun h34 e34 => ?_)
  have E : ∀ c k : Nat, ¬ (c = 0 ∧ k = 1) → h34 c k = h c k := fun c k q => by rw [e34, up_n q]
  have K34 : KNB h34 := kB_e K (fun k => E 6 k (by omega)) (fun k => E 7 k (by omega)) (fun k => E 8 k (by omega)) (fun k => E 10 k (by omega))
  have T : ∀ g : ms_M, CQE (cn_M h) h34 g → CQE (cn_M h) h g := fun g ⟨b1, b2, b3, b4, b5⟩ => ⟨b1, fun c k a b => (b2 c k a b).trans (E c k (by omega)), fun q => ⟨(b3 q).1.trans (E 0 7 (by omega)), fun k => ((b3 q).2 k).trans (E 55 k (by omega))⟩, fun k a => (b4 k a).trans (E 900001 k (by omega)), b5⟩
  have cE : cn_M h34 = cn_M h := by unfold cn_M; rw [E 900000 0 (by omega)]
  refine pc_if (fun _ => ?_) (fun _ => pc_se (fun u62 e62 => pc_ret (T _ ?_)))
  · refine pc_imp ?_ (fun r Q => T _ Q)
    have S : Pc (qf_X9_scan nn (h 0 1) h34) (fun u => CQ4 (cn_M h) h34 u) := fun u38 e38 => ⟨kQ_scan K34 _ e38, fun c k a _ => (ff_X9_scan nn) _ e38 c k (nw_55 rfl a), (ff_X9_scan nn) _ e38 0 7 rfl, fun k _ => (ff_X9_scan nn) _ e38 900001 k (nw_55 rfl (by omega)), by rw [← cE]; unfold cn_M; exact Nat.le_of_eq (by rw [show u38 900000 0 = h34 900000 0 from (ff_X9_scan nn) _ e38 900000 0 (nw_55 rfl (by omega))])⟩
    refine pc_sv S (fun u38 O38 => ?_)
    refine pc_se (fun u41 e41 => pc_se (fun u44 e44 => pc_se (fun u47 e47 => pc_se (fun u50 e50 => pc_se (fun u53 e53 => pc_se (fun u56 e56 => pc_se (fun u59 e59 => ?_)))))))
    have O41 := cq_tr O38 (fun K q => cq_f (fun c k y => (ff_X2_forget nn) _ e41 c k y) rfl rfl rfl K q)
    have O44 := cq_tr O41 (fun K q => cq_f (fun c k y => (ff_X8_readProgram nn) _ e44 c k y) rfl rfl rfl K q)
    have O47 := cq_tr O44 (fun K q => cq_f (fun c k y => (ff_X2_readClasses nn) _ e47 c k y) rfl rfl rfl K q)
    have O50 := cq_tr O47 (fun K q => cq_f (fun c k y => (ff_X2_readMembers nn) _ e50 c k y) rfl rfl rfl K q)
    have O53 := cq_tr O50 (fun K q => cq_f (fun c k y => (ff_X2_checkOverrides nn) _ e53 c k y) rfl rfl rfl K q)
    have O56 : CQ4 (cn_M h) h34 u56 := cq_tr O53 (fun K q => ⟨kQ_2 _ _ _ K _ e56, fun c k a _ => hp_ok a e56, (ff_X2_nameKinds nn) _ e56 0 7 rfl, fun k _ => hp_ok (by omega) e56, by unfold cn_M; rw [show u56 900000 0 = u53 900000 0 from hp_ok (by omega) e56]; exact q⟩)
    have O59 := cq_tr O56 (fun K q => cq_f (fun c k y => (ff_X0_beginProgram nn) _ e59 c k y) rfl rfl rfl K q)
    exact pc_imp (cq_93 _ _ _ _ O59.1 O59.2.2.2.2) (fun r Q => cqe_i O59 (fun _ => Q))
  · have F := fun c k q => (ff_X9_refuse nn) _ e62 c k q
    exact ⟨kB_e K34 (fun k => F 6 k (nw_r2 (by omega))) (fun k => F 7 k (nw_r2 (by omega))) (fun k => F 8 k (nw_r2 (by omega))) (fun k => F 10 k (nw_r2 (by omega))), fun c k a _ => F c k (nw_55 rfl (by omega)), fun _ => ⟨F 0 7 rfl, fun k => F 55 k (nw_55 rfl (by omega))⟩, fun k _ => F 900001 k (nw_55 rfl (by omega)), by show cn_M h ≤ cn_M u62; unfold cn_M; rw [show u62 900000 0 = h34 900000 0 from F 900000 0 (nw_55 rfl (by omega)), E 900000 0 (by omega)]; exact Nat.le_refl _⟩
end

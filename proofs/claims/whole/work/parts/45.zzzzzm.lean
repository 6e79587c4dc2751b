section
/- THE LAW'S LEVEL: what compile leaves -/
theorem nw_55 {L : List Nat} {LF : List (Nat × Nat)} {c k : Nat} (h : (L.all (fun x => Nat.blt x 55) && LF.all (fun q => Nat.blt q.1 55)) = true) (hc : 55 ≤ c) : nw_F L LF false false c k = true := by
  rw [Bool.and_eq_true] at h
  unfold nw_F
  simp only [Bool.and_eq_true]
  refine ⟨?_, ?_, rfl, rfl⟩
  · cases hq : L.contains c with
    | false => rfl
    | true => have := List.all_eq_true.mp h.1 c (List.contains_iff_mem.mp hq); rw [Nat.blt_eq] at this; omega
  · cases hq : LF.contains (c, k) with
    | false => rfl
    | true => have := List.all_eq_true.mp h.2 _ (List.contains_iff_mem.mp hq); rw [Nat.blt_eq] at this; omega
theorem hp_B {nn cc kk : Nat} (hc : 55 ≤ cc) {a : Int} {g q : ms_M} (e : qf_X2_addKindByte nn a g = some q) : q cc kk = g cc kk := (ff_X2_addKindByte nn) _ e cc kk (nw_55 rfl hc)
theorem hp_20 {nn cc kk : Nat} (hc : 55 ≤ cc) {l2 : Int} {h r : ms_M} (e : qj_X2_addKind_20 nn l2 h = some r) : r cc kk = h cc kk := by
  unfold qj_X2_addKind_20 at e
  obtain ⟨u1, e1, e⟩ := sv_i e
  split at e
  · obtain ⟨u3, e3, e⟩ := sv_i e
    have e := rd_i e
    obtain ⟨u10, e10, e⟩ := sv_i e
    obtain ⟨u14, e14, e⟩ := sv_i e
    unfold xl at e
    obtain ⟨u21, e21, e⟩ := sv_i e
    cases e
    rw [hp_B hc e21, up_n (by omega), cpn_fr e10 _ _ (by omega), hp_B hc e3]
  · split at e
    · split at e
      · obtain ⟨u, e2, e⟩ := sv_i e; cases e; exact hp_B hc e2
      · obtain ⟨u, e2, e⟩ := sv_i e; cases e; exact hp_B hc e2
    · obtain ⟨u, e2, e⟩ := sv_i e; cases e; exact hp_B hc e2
theorem hp_A {nn cc kk : Nat} (hc : 55 ≤ cc) {l2 : Int} {h r : ms_M} (e : qf_X2_addKind nn l2 h = some r) : r cc kk = h cc kk := by
  unfold qf_X2_addKind at e
  obtain ⟨u1, e1, e⟩ := sv_i e
  split at e
  · exact hp_20 hc e
  · obtain ⟨u3, e3, e⟩ := sv_i e
    obtain ⟨u4, e4, e⟩ := sv_i e
    rw [hp_20 hc e, hp_B hc e3]
theorem hp_N {nn cc kk : Nat} (hc : 55 ≤ cc) {l2 : Int} {h : ms_M} {r : Int × ms_M} (e : qf_X2_nameKind nn l2 h = some r) : r.2 cc kk = h cc kk := by
  unfold qf_X2_nameKind xl at e
  obtain ⟨u3, e3, e⟩ := sv_i e
  obtain ⟨u8, e8, e⟩ := sv_i e
  cases e
  have z : u8.2 cc kk = u3 cc kk := (ff_X9_nameOf nn) _ e8 cc kk (nw_55 rfl hc)
  show u8.2 cc kk = _
  rw [z, hp_A hc e3, up_n (by omega)]
theorem hp_M13 {nn cc kk : Nat} (hc : 55 ≤ cc) : ∀ (k : Nat) (l1 l2 : Int) {h : ms_M} {r : Int × ms_M}, qw_X2_nameMethodKind_13 nn k l1 l2 h = some r → r.2 cc kk = h cc kk := by
  intro k
  induction k with
  | zero => intro l1 l2 h r e; cases e
  | succ k ih =>
    intro l1 l2 h r e
    unfold qw_X2_nameMethodKind_13 at e
    have e := rd_i e
    split at e
    · obtain ⟨u4, e4, e⟩ := sv_i e
      have e := rd_i e
      obtain ⟨u8, e8, e⟩ := sv_i e
      obtain ⟨u13, e13, e⟩ := sv_i e
      cases e
      have z : u13.2 cc kk = u8 cc kk := (ff_X9_nameOf nn) _ e13 cc kk (nw_55 rfl hc)
      show u13.2 cc kk = _
      rw [z, hp_A hc e8, hp_B hc e4]
    · obtain ⟨u15, e15, e⟩ := sv_i e
      obtain ⟨u17, e17, e⟩ := sv_i e
      unfold xl at e
      rw [ih _ _ e, hp_A hc e17]
theorem hp_M {nn cc kk : Nat} (hc : 55 ≤ cc) {a1 : Int} {h : ms_M} {r : Int × ms_M} (e : qf_X2_nameMethodKind nn a1 h = some r) : r.2 cc kk = h cc kk := by
  unfold qf_X2_nameMethodKind xl at e
  obtain ⟨u22, e22, e⟩ := sv_i e
  rw [hp_M13 hc _ _ _ e, hp_B hc e22, up_n (by omega)]
theorem hp_144 {nn cc kk : Nat} (hc : 55 ≤ cc) : ∀ (k : Nat) (l1 : Int) {h r : ms_M}, qw_X2_nameKinds_144 nn k l1 h = some r → r cc kk = h cc kk := by
  intro k
  induction k with
  | zero => intro l1 h r e; cases e
  | succ k ih =>
    intro l1 h r e
    unfold qw_X2_nameKinds_144 at e
    split at e
    · cases e; rfl
    · split at e
      · cases e; rfl
      · obtain ⟨u6, e6, e⟩ := sv_i e
        split at e
        · exact ih _ e
        · obtain ⟨u10, e10, e⟩ := sv_i e
          have e := wa_i e
          have := ih _ e
          rw [this, up_n (by omega), hp_M hc e10]
theorem hp_85 {nn cc kk : Nat} (hc : 55 ≤ cc) : ∀ (k : Nat) (l1 : Int) {h r : ms_M}, qw_X2_nameKinds_85 nn k l1 h = some r → r cc kk = h cc kk := by
  intro k
  induction k with
  | zero => intro l1 h r e; cases e
  | succ k ih =>
    intro l1 h r e
    unfold qw_X2_nameKinds_85 at e
    split at e
    · exact hp_144 hc _ _ e
    · split at e
      · exact hp_144 hc _ _ e
      · unfold xl at e
        have e := rd_i e
        split at e
        · exact ih _ e
        · have e := rd_i e
          obtain ⟨u29, e29, e⟩ := sv_i e
          have e := wa_i e
          have := ih _ e
          rw [this, up_n (by omega), hp_N hc e29]
theorem hp_59 {nn cc kk : Nat} (hc : 55 ≤ cc) {qkk : Int → ms_M → Option ms_M} (hq : ∀ (l : Int) {g r : ms_M}, qkk l g = some r → r cc kk = g cc kk) {l1 s0 s1 : Int} {h r : ms_M} (e : qj_X2_nameKinds_59 nn qkk l1 s0 s1 h = some r) : r cc kk = h cc kk := by
  unfold qj_X2_nameKinds_59 at e
  have e := wa_i e
  unfold xl at e
  obtain ⟨u40, e40, e⟩ := sv_i e
  have e := wa_i e
  have := hq _ e
  rw [this, up_n (by omega), hp_N hc e40, up_n (by omega)]
theorem hp_2 {nn cc kk : Nat} (hc : 55 ≤ cc) : ∀ (k : Nat) (l1 : Int) {h r : ms_M}, qw_X2_nameKinds_2 nn k l1 h = some r → r cc kk = h cc kk := by
  intro k
  induction k with
  | zero => intro l1 h r e; cases e
  | succ k ih =>
    intro l1 h r e
    unfold qw_X2_nameKinds_2 xl at e
    dsimp only at e
    split at e
    · exact hp_85 hc _ _ e
    · split at e
      · exact hp_85 hc _ _ e
      · split at e
        · exact hp_85 hc _ _ e
        · split at e
          · obtain ⟨u51, e51, e⟩ := sv_i e
            obtain ⟨u53, e53, e⟩ := sv_i e
            exact hp_59 hc (fun l _ _ z => ih l z) e
          · exact hp_59 hc (fun l _ _ z => ih l z) e
theorem hp_ok {nn cc kk : Nat} (hc : 55 ≤ cc) {g r : ms_M} (e : qf_X2_nameKinds nn g = some r) : r cc kk = g cc kk := hp_2 hc _ _ e
section
variable {nn n : Nat} {h g z r : ms_M}
/-- the rows below 256 stay, and how long the first n rows are -/
def LWk (n : Nat) (h g : ms_M) : Prop := (∀ c k : Nat, c < 256 → g c k = h c k) ∧ (∀ k : Nat, k < n → g 900001 k = h 900001 k) ∧ n ≤ cn_M g
theorem lw_tr (A : LWk n h g) (B : LWk n g z) : LWk n h z := ⟨fun c k q => (B.1 c k q).trans (A.1 c k q), fun k q => (B.2.1 k q).trans (A.2.1 k q), B.2.2⟩
theorem lw_rf (hn : n ≤ cn_M h) : LWk n h h := ⟨fun _ _ _ => rfl, fun _ _ => rfl, hn⟩
theorem lw_up {c k : Nat} {v : Int} (hn : n ≤ cn_M h) (hc : 256 ≤ c ∧ c < 900000) : LWk n h (up_M h c k v) := by
  refine ⟨fun c2 k2 q => up_n (by omega), fun k2 q => up_n (by omega), ?_⟩
  unfold cn_M; rw [up_n (by omega)]; exact hn
theorem lw_wc83 {l1 l3 l4 : Int} {l2 : Nat} (h2 : 256 ≤ l2 ∧ l2 < 900000) : ∀ (k : Nat) (l5 : Int) {h : ms_M}, n ≤ cn_M h → Pc (qw_X6_writeConstant_83 nn k l1 l2 l3 l4 l5 h) (fun g => LWk n h g) := by
  intro k
  induction k with
  | zero => intro l5 h hn; exact pc_none
  | succ k ih =>
    intro l5 h hn
    unfold qw_X6_writeConstant_83
    refine pc_if (fun _ => pc_ret (lw_rf hn)) (fun _ => ?_)
    refine pc_xl (fun _ _ => pc_rA (fun _ _ _ _ => pc_xl (fun _ _ => pc_xl (fun _ _ => pc_xl (fun _ _ => pc_xl (fun _ _ => pc_xl (fun _ _ => pc_wT (fun h9 e9 => pc_xl (fun _ _ => ?_)))))))))
    have O : LWk n h h9 := by rw [e9]; exact lw_up hn h2
    exact pc_imp (ih _ O.2.2) (fun r Q => lw_tr O Q)
theorem lw_wc {a1 a3 : Int} {a2 : Nat} (h2 : 256 ≤ a2 ∧ a2 < 900000) (hn : n ≤ cn_M h) : Pc (qf_X6_writeConstant nn a1 a2 a3 h) (fun g => LWk n h g) := by
  have same : LWk n h h := lw_rf hn
  unfold qf_X6_writeConstant
  refine pc_rA (fun _ _ _ _ => pc_rA (fun _ _ _ _ => pc_se (fun u17 _ => pc_if (fun _ => pc_ret same) (fun _ => pc_xl (fun _ _ => pc_lS (fun _ _ => pc_if (fun _ => ?_) (fun _ => pc_ret same)))))))
  refine pc_rA (fun _ _ _ _ => pc_xl (fun _ _ => pc_wT (fun h23 e23 => pc_rA (fun _ _ _ _ => ?_))))
  have O : LWk n h h23 := by rw [e23]; exact lw_up hn h2
  refine pc_if (fun _ => pc_imp (lw_wc83 h2 _ _ O.2.2) (fun r Q => lw_tr O Q)) (fun _ => ?_)
  refine pc_xl (fun _ _ => pc_xl (fun _ _ => pc_xl (fun _ _ => pc_wT (fun h29 e29 => pc_rA (fun _ _ _ _ => pc_xl (fun _ _ => pc_se (fun u35 e35 => pc_ret ?_)))))))
  have O2 : LWk n h23 h29 := by rw [e29]; exact lw_up O.2.2 h2
  refine lw_tr O (lw_tr O2 ⟨fun c k a => cpn_fr e35 c k (by omega), fun k a => cpn_fr e35 900001 k (by omega), ?_⟩)
  unfold cn_M
  rw [cpn_fr e35 900000 0 (by omega)]; exact O2.2.2
theorem lw_ci40 {l1 : Nat} (h2 : 256 ≤ l1 ∧ l1 < 900000) : ∀ (k : Nat) (l2 l3 : Int) {h : ms_M} (c s : Nat), n ≤ cn_M h → Pc (qw_X6_closeImage_40 nn k l1 l2 l3 h c s) (fun r => LWk n h r.2.1) := by
  intro k
  induction k with
  | zero => intro l2 l3 h c s hn; exact pc_none
  | succ k ih =>
    intro l2 l3 h c s hn
    unfold qw_X6_closeImage_40
    refine pc_if (fun _ => ?_) (fun _ => ?_)
    · intro r e
      have e := cp_i e
      have e := Option.some.inj e
      rw [← e]
      refine ⟨fun c k a => ?_, fun k a => ?_, ?_⟩
      · show cp_M _ _ _ _ _ _ c k = _
        unfold cp_M; rw [if_neg (by omega)]
      · show cp_M _ _ _ _ _ _ 900001 k = _
        unfold cp_M; rw [if_neg (by omega)]
      · show n ≤ cn_M (cp_M _ _ _ _ _ _)
        unfold cn_M cp_M; rw [if_neg (by omega)]; exact hn
    · refine pc_sv (lw_wc h2 hn) (fun u6 O => pc_rA (fun _ _ _ _ => pc_rA (fun _ _ _ _ => pc_se (fun _ _ => pc_xl (fun _ _ => pc_xl (fun _ _ => ?_))))))
      exact pc_imp (ih _ _ _ _ O.2.2) (fun r Q => lw_tr O Q)
theorem lw_nw {y : Int} {f : Nat → Int} (hn : n ≤ cn_M h) (hc : 256 ≤ h 900000 0 ∧ h 900000 0 < 700000) : LWk n h (nw_M h y f) := by
  have : 256 ≤ cn_M h ∧ cn_M h < 700000 := by unfold cn_M; omega
  refine ⟨fun c k a => ?_, fun k a => ?_, ?_⟩
  · unfold nw_M
    rw [if_neg (by omega), if_neg (by omega), if_neg (by omega)]
  · unfold nw_M
    rw [if_neg (by omega), if_neg (by omega), if_neg (by omega)]
  · unfold cn_M nw_M
    rw [if_neg (by unfold cn_M at this ⊢; omega), if_pos ⟨rfl, rfl⟩]
    unfold cn_M at hn; omega
theorem lw_ci (hn : n ≤ cn_M h) : Pc (qf_X6_closeImage nn h) (fun r => LWk n h r.2.1) := by
  unfold qf_X6_closeImage
  refine pc_se (fun u17 _ => pc_if (fun _ => pc_se (fun u19 _ => pc_ck (fun _ => pc_nB (fun z hc ez => ?_)))) (fun _ => pc_ck (fun _ => pc_nB (fun z hc ez => pc_ret ?_))))
  · have b : 256 ≤ cn_M h ∧ cn_M h < 900000 := by unfold cn_M; omega
    have O : LWk n h z := by rw [ez]; exact lw_nw hn hc
    refine pc_wT (fun h22 e22 => pc_wT (fun h23 e23 => pc_xl (fun _ _ => pc_wT (fun h26 e26 => ?_))))
    have O22 : LWk n z h22 := by rw [e22]; exact lw_up O.2.2 b
    have O23 : LWk n h22 h23 := by rw [e23]; exact lw_up O22.2.2 b
    have O26 : LWk n h23 h26 := by rw [e26]; exact lw_up O23.2.2 b
    exact pc_imp (lw_ci40 b _ _ _ _ _ O26.2.2) (fun r Q => lw_tr O (lw_tr O22 (lw_tr O23 (lw_tr O26 Q))))
  · show LWk n h z
    rw [ez]; exact lw_nw hn hc
/-- the known names stand; what is above 55 and the images told stay -/
def CQ4 (n : Nat) (h g : ms_M) : Prop := KNQ g ∧ (∀ c k : Nat, 55 ≤ c → c < 256 → g c k = h c k) ∧ g 0 7 = h 0 7 ∧ (∀ k : Nat, k < n → g 900001 k = h 900001 k) ∧ n ≤ cn_M g
theorem cq_tr (A : CQ4 n h g) (B : KNQ g → n ≤ cn_M g → CQ4 n g z) : CQ4 n h z := by
  have Q := B A.1 A.2.2.2.2
  exact ⟨Q.1, fun c k a b => (Q.2.1 c k a b).trans (A.2.1 c k a b), Q.2.2.1.trans A.2.2.1, fun k a => (Q.2.2.2.1 k a).trans (A.2.2.2.1 k a), Q.2.2.2.2⟩
theorem cq_f {X : List Nat} {XF : List (Nat × Nat)} (F : ∀ c k, nw_F X XF false false c k = true → r c k = h c k) (q : (XF.contains (2, 9) || X.contains 2 || X.contains 6 || X.contains 7 || X.contains 8 || X.contains 10 || XF.any (fun p => p.1 == 6 || p.1 == 7 || p.1 == 8 || p.1 == 10)) = false) (q2 : (X.all (fun x => Nat.blt x 55) && XF.all (fun q => Nat.blt q.1 55)) = true) (q3 : nw_F X XF false false 0 7 = true) (K : KNQ h) (hn : n ≤ cn_M h) : CQ4 n h r :=
  ⟨kQ_f F q K, fun c k a _ => F c k (nw_55 q2 a), F 0 7 q3, fun k _ => F 900001 k (nw_55 q2 (by omega)), by unfold cn_M; rw [F 900000 0 (nw_55 q2 (by omega))]; exact hn⟩
theorem cq_cc {a1 : Int} (K : KNQ h) (hn : n ≤ cn_M h) : Pc (qf_X0_closeClass nn a1 h) (fun r => CQ4 n h r.1) := by
  unfold qf_X0_closeClass
  refine pc_se (fun u3 _ => pc_se (fun u6 _ => pc_se (fun u8 e8 => ?_)))
  have F : ∀ c k : Nat, ¬ (c = 33 ∧ k = 7) → u8 c k = h c k := fun c k q => note_fr e8 c k q
  have O : CQ4 n h u8 := ⟨kQ_e K (F 2 9 (by omega)) (fun k => F 6 k (by omega)) (fun k => F 7 k (by omega)) (fun k => F 8 k (by omega)) (fun k => F 10 k (by omega)), fun c k a b => F c k (by omega), F 0 7 (by omega), fun k _ => F 900001 k (by omega), by unfold cn_M; rw [F 900000 0 (by omega)]; exact hn⟩
  refine pc_if (fun _ => pc_ret O) (fun _ => pc_if (fun _ => pc_ret O) (fun _ => pc_if (fun _ => pc_ret O) (fun _ => pc_if (fun _ => pc_ret O) (fun _ => ?_))))
  refine pc_sv (lw_ci O.2.2.2.2) (fun u17 O17 => ?_)
  intro r e
  unfold wr_QB at e
  split at e
  · have e := Option.some.inj e
    rw [← e]
    have G : ∀ c k : Nat, c < 256 → c ≠ 43 → up_M u17.2.1 43 a1.toNat u17.1 c k = u8 c k := fun c k a b => by rw [up_n (by omega)]; exact O17.1 c k a
    refine cq_tr O (fun K8 _ => ⟨kQ_e K8 (G 2 9 (by omega) (by omega)) (fun k => G 6 k (by omega) (by omega)) (fun k => G 7 k (by omega) (by omega)) (fun k => G 8 k (by omega) (by omega)) (fun k => G 10 k (by omega) (by omega)), fun c k a b => G c k b (by omega), G 0 7 (by omega) (by omega), fun k a => ?_, ?_⟩)
    · show up_M u17.2.1 43 a1.toNat u17.1 900001 k = _
      rw [up_n (by omega)]; exact O17.2.1 k a
    · show n ≤ cn_M (up_M u17.2.1 43 a1.toNat u17.1)
      unfold cn_M; rw [up_n (by omega)]; exact O17.2.2
  · cases e
/-- what compile leaves -/
def CQE (n : Nat) (h g : ms_M) : Prop := KNB g ∧ (∀ c k : Nat, 56 ≤ c → c < 256 → g c k = h c k) ∧ (g 2 11 ≠ 0 → g 0 7 = h 0 7 ∧ ∀ k : Nat, g 55 k = h 55 k) ∧ (∀ k : Nat, k < n → g 900001 k = h 900001 k) ∧ n ≤ cn_M g
theorem cqe_i (C : CQ4 n h g) (B : KNQ g → CQE n g z) : CQE n h z := by
  obtain ⟨b1, b2, b3, b4, b5⟩ := B C.1
  refine ⟨b1, fun c k a b => (b2 c k a b).trans (C.2.1 c k (by omega) b), fun q => ?_, fun k a => (b4 k a).trans (C.2.2.2.1 k a), b5⟩
  obtain ⟨q1, q2⟩ := b3 q
  exact ⟨q1.trans C.2.2.1, fun k => (q2 k).trans (C.2.1 55 k (by omega) (by omega))⟩
theorem ti_fr {c k : Nat} (h1 : ¬ (c = 0 ∧ k = 7)) (h2 : c ≠ 55) : nw_F wl_X12_takeImages wf_X12_takeImages false false c k = true := by
  unfold nw_F
  simp only [Bool.and_eq_true]
  refine ⟨?_, ?_, rfl, rfl⟩
  · cases hq : wl_X12_takeImages.contains c with
    | false => rfl
    | true =>
      have m := List.contains_iff_mem.mp hq
      unfold wl_X12_takeImages at m
      simp only [List.mem_cons, List.not_mem_nil, or_false] at m
      omega
  · cases hq : wf_X12_takeImages.contains (c, k) with
    | false => rfl
    | true =>
      have m := List.contains_iff_mem.mp hq
      unfold wf_X12_takeImages at m
      simp only [List.mem_cons, List.not_mem_nil, or_false, Prod.mk.injEq] at m
      omega
theorem cq_175 {c s : Nat} (K : KNQ h) (hn : n ≤ cn_M h) : Pc (qj_X12_compile_175 nn h c s) (fun r => CQE n h r.2.1) := by
  unfold qj_X12_compile_175
  refine pc_se (fun u3 e3 => ?_)
  have O : CQ4 n h u3 := cq_f (fun c k q => (ff_X0_closeProgram nn) _ e3 c k q) rfl rfl rfl K hn
  refine pc_if (fun _ => pc_ret ⟨O.1.2.2, fun c k a b => O.2.1 c k (by omega) b, fun _ => ⟨O.2.2.1, fun k => O.2.1 55 k (by omega) (by omega)⟩, O.2.2.2⟩) (fun y => pc_se (fun u7 e7 => pc_ret ?_))
  have F := fun c k q => (ff_X12_takeImages nn) _ e7 c k q
  have n11 : u7.2 2 11 = u3 2 11 := F 2 11 rfl
  refine cqe_i O (fun K3 => ⟨(kQ_f F rfl K3).2.2, fun c k a b => F c k (ti_fr (by omega) (by omega)), fun q => absurd (Classical.not_not.mp y) (by rw [← n11]; exact q), fun k _ => F 900001 k (ti_fr (by omega) (by omega)), ?_⟩)
  show n ≤ cn_M u7.2
  unfold cn_M; rw [show u7.2 900000 0 = u3 900000 0 from F 900000 0 (ti_fr (by omega) (by omega))]; exact O.2.2.2.2
theorem cq_124 {kk : Int → ms_M → Nat → Nat → Option (Int × ms_M × Nat × Nat)} {l2 : Int} {c s : Nat} (hk : ∀ (v : Int) {h : ms_M} (c s : Nat), KNQ h → n ≤ cn_M h → Pc (kk v h c s) (fun r => CQE n h r.2.1)) : ∀ (k : Nat) (l3 : Int) {h : ms_M}, KNQ h → n ≤ cn_M h → Pc (qw_X12_compile_124 nn kk k l2 l3 h c s) (fun r => CQE n h r.2.1) := by
  intro k
  induction k with
  | zero => intro l3 h K hn; exact pc_none
  | succ k ih =>
    intro l3 h K hn
    have j : Pc (qj_X12_compile_161 nn kk l2 h c s) (fun r => CQE n h r.2.1) := by
      unfold qj_X12_compile_161
      exact pc_sv (cq_cc K hn) (fun u11 O => pc_xl (fun _ _ => pc_imp (hk _ _ _ O.1 O.2.2.2.2) (fun r Q => cqe_i O (fun _ => Q))))
    unfold qw_X12_compile_124
    refine pc_se (fun u15 _ => pc_if (fun _ => j) (fun _ => pc_if (fun _ => j) (fun _ => pc_se (fun u20 e20 => pc_xl (fun _ _ => ?_)))))
    have O : CQ4 n h u20 := cq_f (fun c k q => (ff_X0_makeMethod nn) _ e20 c k q) rfl rfl rfl K hn
    exact pc_imp (ih _ O.1 O.2.2.2.2) (fun r Q => cqe_i O (fun _ => Q))
theorem cq_93 : ∀ (k : Nat) (l2 : Int) {h : ms_M} (c s : Nat), KNQ h → n ≤ cn_M h → Pc (qw_X12_compile_93 nn k l2 h c s) (fun r => CQE n h r.2.1) := by
  intro k
  induction k with
  | zero => intro l2 h c s K hn; exact pc_none
  | succ k ih =>
    intro l2 h c s K hn
    unfold qw_X12_compile_93
    refine pc_if (fun _ => cq_175 K hn) (fun _ => pc_if (fun _ => cq_175 K hn) (fun _ => pc_se (fun u30 e30 => ?_)))
    have O : CQ4 n h u30 := cq_f (fun c k q => (ff_X0_beginClass nn) _ e30 c k q) rfl rfl rfl K hn
    exact pc_imp (cq_124 (fun v h c s q q2 => ih v c s q q2) _ _ O.1 O.2.2.2.2) (fun r Q => cqe_i O (fun _ => Q))
theorem kB_e (K : KNB h) (b : ∀ k : Nat, r 6 k = h 6 k) (c : ∀ k : Nat, r 7 k = h 7 k) (d : ∀ k : Nat, r 8 k = h 8 k) (e : ∀ k : Nat, r 10 k = h 10 k) : KNB r := by
  obtain ⟨⟨k3, k4⟩, k5, k6⟩ := K
  exact ⟨⟨fun i hi => by rw [c]; exact k3 i hi, fun k hk => by rw [b]; exact k4 k hk⟩, fun i hi => by rw [d]; exact k5 i hi, fun b hb => by rw [e]; exact k6 b hb⟩
theorem nw_r2 {c k : Nat} (hc : c ≠ 2) : nw_F wl_X9_refuse wf_X9_refuse false false c k = true := by
  unfold nw_F
  simp only [Bool.and_eq_true]
  refine ⟨rfl, ?_, rfl, rfl⟩
  cases hq : wf_X9_refuse.contains (c, k) with
  | false => rfl
  | true =>
    have m := List.contains_iff_mem.mp hq
    unfold wf_X9_refuse at m
    simp only [List.mem_cons, List.not_mem_nil, or_false, Prod.mk.injEq] at m
    omega
/-- COMPILE keeps the known names, the space above, and on a fault the images told -/
theorem cq_compile (K : KNB h) : Pc (qf_X12_compile nn h) (fun r => CQE (cn_M h) h r.2.1) := by
  unfold qf_X12_compile
  refine pc_xl (fun h34 e34 => ?_)
  have E : ∀ c k : Nat, ¬ (c = 0 ∧ k = 1) → h34 c k = h c k := fun c k q => by rw [e34, up_n q]
  have K34 : KNB h34 := kB_e K (fun k => E 6 k (by omega)) (fun k => E 7 k (by omega)) (fun k => E 8 k (by omega)) (fun k => E 10 k (by omega))
  have T : ∀ g : ms_M, CQE (cn_M h) h34 g → CQE (cn_M h) h g := fun g ⟨b1, b2, b3, b4, b5⟩ => ⟨b1, fun c k a b => (b2 c k a b).trans (E c k (by omega)), fun q => ⟨(b3 q).1.trans (E 0 7 (by omega)), fun k => ((b3 q).2 k).trans (E 55 k (by omega))⟩, fun k a => (b4 k a).trans (E 900001 k (by omega)), b5⟩
  have cE : cn_M h34 = cn_M h := by unfold cn_M; rw [E 900000 0 (by omega)]
  refine pc_if (fun _ => ?_) (fun _ => pc_se (fun u62 e62 => pc_ret (T _ ?_)))
  · refine pc_imp ?_ (fun r Q => T _ Q)
    have S : Pc (qf_X9_scan nn (h 0 1) h34) (fun u => CQ4 (cn_M h) h34 u) := fun u38 e38 => ⟨kQ_scan K34 _ e38, fun c k a _ => (ff_X9_scan nn) _ e38 c k (nw_55 rfl a), (ff_X9_scan nn) _ e38 0 7 rfl, fun k _ => (ff_X9_scan nn) _ e38 900001 k (nw_55 rfl (by omega)), by rw [← cE]; unfold cn_M; exact Nat.le_of_eq (by rw [show u38 900000 0 = h34 900000 0 from (ff_X9_scan nn) _ e38 900000 0 (nw_55 rfl (by omega))])⟩
    refine pc_sv S (fun u38 O38 => ?_)
    refine pc_se (fun u41 e41 => pc_se (fun u44 e44 => pc_se (fun u47 e47 => pc_se (fun u50 e50 => pc_se (fun u53 e53 => pc_se (fun u56 e56 => pc_se (fun u59 e59 => ?_)))))))
    have O41 := cq_tr O38 (fun K q => cq_f (fun c k y => (ff_X2_forget nn) _ e41 c k y) rfl rfl rfl K q)
    have O44 := cq_tr O41 (fun K q => cq_f (fun c k y => (ff_X8_readProgram nn) _ e44 c k y) rfl rfl rfl K q)
    have O47 := cq_tr O44 (fun K q => cq_f (fun c k y => (ff_X2_readClasses nn) _ e47 c k y) rfl rfl rfl K q)
    have O50 := cq_tr O47 (fun K q => cq_f (fun c k y => (ff_X2_readMembers nn) _ e50 c k y) rfl rfl rfl K q)
    have O53 := cq_tr O50 (fun K q => cq_f (fun c k y => (ff_X2_checkOverrides nn) _ e53 c k y) rfl rfl rfl K q)
    have O56 : CQ4 (cn_M h) h34 u56 := cq_tr O53 (fun K q => ⟨kQ_2 _ _ _ K _ e56, fun c k a _ => hp_ok a e56, (ff_X2_nameKinds nn) _ e56 0 7 rfl, fun k _ => hp_ok (by omega) e56, by unfold cn_M; rw [show u56 900000 0 = u53 900000 0 from hp_ok (by omega) e56]; exact q⟩)
    have O59 := cq_tr O56 (fun K q => cq_f (fun c k y => (ff_X0_beginProgram nn) _ e59 c k y) rfl rfl rfl K q)
    exact pc_imp (cq_93 _ _ _ _ O59.1 O59.2.2.2.2) (fun r Q => cqe_i O59 (fun _ => Q))
  · have F := fun c k q => (ff_X9_refuse nn) _ e62 c k q
    exact ⟨kB_e K34 (fun k => F 6 k (nw_r2 (by omega))) (fun k => F 7 k (nw_r2 (by omega))) (fun k => F 8 k (nw_r2 (by omega))) (fun k => F 10 k (nw_r2 (by omega))), fun c k a _ => F c k (nw_55 rfl (by omega)), fun _ => ⟨F 0 7 rfl, fun k => F 55 k (nw_55 rfl (by omega))⟩, fun k _ => F 900001 k (nw_55 rfl (by omega)), by show cn_M h ≤ cn_M u62; unfold cn_M; rw [show u62 900000 0 = h34 900000 0 from F 900000 0 (nw_55 rfl (by omega)), E 900000 0 (by omega)]; exact Nat.le_refl _⟩
end
end
section
/- THE LAW'S LEVEL: fault and images behind compile -/
section
variable {nn n : Nat} {h g z r : ms_M}
/-- the reference's images that were told -/
def JKi (h g : ms_M) : Prop := g 160 93 = h 160 93 ∧ (∀ k : Nat, g 221 k = h 221 k) ∧ ∀ k : Nat, g 222 k = h 222 k
theorem jk_tr (A : JKi h g) (B : JKi g z) : JKi h z := ⟨B.1.trans A.1, fun k => (B.2.1 k).trans (A.2.1 k), fun k => (B.2.2 k).trans (A.2.2 k)⟩
theorem jk_rf : JKi h h := ⟨rfl, fun _ => rfl, fun _ => rfl⟩
theorem jk_up {k : Nat} {v : Int} {c : Nat} (hc : ¬ (c = 160 ∧ k = 93) ∧ c ≠ 221 ∧ c ≠ 222) : JKi h (up_M h c k v) := ⟨up_n (by omega), fun _ => up_n (by omega), fun _ => up_n (by omega)⟩
/-- no fault, or the images that were told stand -/
def JKQ (h g : ms_M) : Prop := g 160 9 = 0 ∨ JKi h g
theorem jkq_i (A : JKi h g) (B : JKQ g z) : JKQ h z := B.imp (fun q => q) (fun q => jk_tr A q)
theorem jk_169 {qk : Int → ms_M → Option (Int × ms_M)} (hk : ∀ (v : Int) (g : ms_M), g 160 9 = 0 → Pc (qk v g) (fun r => r.2 160 9 = 0)) : ∀ (k : Nat) (l2 l3 : Int) (h : ms_M), h 160 9 = 0 → Pc (qw_X13_compile_169 nn qk k l2 l3 h) (fun r => r.2 160 9 = 0) := by
  intro k
  induction k with
  | zero => intros; exact pc_none
  | succ k ih =>
    intro l2 l3 h T
    unfold qw_X13_compile_169
    refine pc_rA (fun _ _ v2 _ => pc_if (fun _ => pc_xl (fun v3 _ => hk v3 h T)) (fun _ => ?_))
    refine pc_xl (fun v5 _ => pc_xl (fun v6 _ => pc_xl (fun v8 _ => pc_xl (fun v9 _ => pc_rA (fun _ _ v10 _ => pc_wA (fun _ _ h11 e11 => pc_xl (fun v12 _ => ?_)))))))
    exact ih _ _ _ (by rw [e11, up_n (by omega)]; exact T)
theorem jk_147 : ∀ (k : Nat) (l2 : Int) (h : ms_M), h 160 9 = 0 → Pc (qw_X13_compile_147 nn k l2 h) (fun r => r.2 160 9 = 0) := by
  intro k
  induction k with
  | zero => intros; exact pc_none
  | succ k ih =>
    intro l2 h T
    unfold qw_X13_compile_147
    refine pc_if (fun _ => pc_xl (fun h16 e16 => pc_ret ?_)) (fun _ => pc_rA (fun _ _ v20 _ => pc_wA (fun _ _ h21 e21 => ?_)))
    · show h16 160 9 = 0
      rw [e16, up_n (by omega)]; exact T
    · exact jk_169 (fun v g q => ih v g q) _ _ _ _ (by rw [e21, up_n (by omega)]; exact T)
theorem jk_136 : Pc (qj_X13_compile_136 nn h) (fun r => JKQ h r.2) := by
  unfold qj_X13_compile_136
  exact pc_if (fun q => pc_imp (jk_147 _ _ _ q) (fun r w => .inl w)) (fun _ => pc_ret (.inr jk_rf))
theorem jk_110 : ∀ (k : Nat) (l2 : Int) (h : ms_M), Pc (qw_X13_compile_110 nn k l2 h) (fun r => JKQ h r.2) := by
  intro k
  induction k with
  | zero => intros; exact pc_none
  | succ k ih =>
    intro l2 h
    unfold qw_X13_compile_110
    refine pc_if (fun _ => jk_136) (fun _ => pc_if (fun _ => jk_136) (fun _ => pc_se (fun u28 e28 => pc_xl (fun v29 _ => ?_))))
    have F := fun c k q => (ff_X13_makeClass nn) _ e28 c k q
    have J : JKi h u28 := ⟨F 160 93 rfl, fun k => F 221 k (nw_ar rfl k), fun k => F 222 k (nw_ar rfl k)⟩
    exact pc_imp (ih _ _) (fun r Q => jkq_i J Q)
theorem jk_97 : Pc (qj_X13_compile_97 nn h) (fun r => JKQ h r.2) := by
  unfold qj_X13_compile_97
  refine pc_if (fun _ => jk_110 _ _ _) (fun _ => pc_se (fun u e => ?_))
  have F := fun c k q => (ff_X13_bodies nn) _ e c k q
  have J : JKi h u := ⟨F 160 93 rfl, fun k => F 221 k (nw_ar rfl k), fun k => F 222 k (nw_ar rfl k)⟩
  exact pc_imp (jk_110 _ _ _) (fun r Q => jkq_i J Q)
theorem jk_86 : Pc (qj_X13_compile_86 nn h) (fun r => JKQ h r.2) := by
  unfold qj_X13_compile_86
  refine pc_if (fun _ => jk_97) (fun _ => pc_se (fun u e => ?_))
  have F := fun c k q => (ff_X13_heads nn) _ e c k q
  have J : JKi h u := ⟨F 160 93 rfl, fun k => F 221 k (nw_ar rfl k), fun k => F 222 k (nw_ar rfl k)⟩
  exact pc_imp jk_97 (fun r Q => jkq_i J Q)
theorem jk_43 : ∀ (k : Nat) (l1 l2 : Int) (h : ms_M), Pc (qw_X13_compile_43 nn k l1 l2 h) (fun r => JKQ h r.2) := by
  intro k
  induction k with
  | zero => intros; exact pc_none
  | succ k ih =>
    intro l1 l2 h
    unfold qw_X13_compile_43
    refine pc_if (fun _ => pc_xl (fun h40 e40 => pc_se (fun u42 e42 => ?_))) (fun _ => pc_rA (fun _ _ v49 _ => pc_wA (fun _ _ h50 e50 => pc_xl (fun v51 _ => ?_))))
    · have J40 : JKi h h40 := by rw [e40]; exact jk_up (by omega)
      have F := fun c k q => (ff_X13_tokenize nn) _ e42 c k q
      have J42 : JKi h u42 := jk_tr J40 ⟨F 160 93 rfl, fun k => F 221 k (nw_ar rfl k), fun k => F 222 k (nw_ar rfl k)⟩
      refine pc_if (fun _ => pc_imp jk_86 (fun r Q => jkq_i J42 Q)) (fun _ => pc_se (fun u45 e45 => ?_))
      have F := fun c k q => (ff_X13_program nn) _ e45 c k q
      exact pc_imp jk_86 (fun r Q => jkq_i (jk_tr J42 ⟨F 160 93 rfl, fun k => F 221 k (nw_ar rfl k), fun k => F 222 k (nw_ar rfl k)⟩) Q)
    · have J50 : JKi h h50 := by rw [e50]; exact jk_up (by omega)
      exact pc_imp (ih _ _ _) (fun r Q => jkq_i J50 Q)
/-- on a fault the reference keeps the images that were told -/
theorem jk_compile : Pc (qf_X13_compile nn h) (fun r => JKQ h r.2) := by
  unfold qf_X13_compile
  refine pc_xl (fun h54 e54 => pc_xl (fun h55 e55 => pc_xl (fun h56 e56 => ?_)))
  have J : JKi h h56 := by
    rw [e56, e55, e54]
    exact jk_tr (jk_tr (jk_up (by omega)) (jk_up (by omega))) (jk_up (by omega))
  refine pc_if (fun _ => pc_imp (jk_43 _ _ _ _) (fun r Q => jkq_i J Q)) (fun _ => pc_xl (fun h57 e57 => pc_xl (fun h58 e58 => pc_ret (.inr ?_))))
  show JKi h h58
  rw [e58, e57]
  exact jk_tr (jk_tr J (jk_up (by omega))) (jk_up (by omega))
/-- fault and place of the latest text -/
def FTm (M : ms_M) : Prop := M 160 9 = M 2 11 ∧ (M 2 11 = 0 ∨ M 160 10 = M 2 12)
theorem fault_m {nn : Nat} {a : Int} {M : ms_M} (V : VS_ M) (h : FTm M) : ∃ r, qf_X12_fault nn a M = some r ∧ qf_X13_fault nn a M = some r := by
  obtain ⟨h1, h2⟩ := h
  have h3 := (gF_2_11 V).1
  unfold qf_X12_fault qf_X13_fault
  rw [h1]
  by_cases q0 : a = 0
  · refine ⟨M 2 11, ?_, ?_⟩ <;> simp (disch := omega) only [if_pos, if_neg]
  by_cases q1 : a = 1
  · by_cases q2 : M 2 11 = 0
    · refine ⟨-1, ?_, ?_⟩ <;> simp (disch := omega) only [if_pos, if_neg]
    · rw [h2.resolve_left q2]
      refine ⟨M 2 12, ?_, ?_⟩ <;> simp (disch := omega) only [if_pos, if_neg]
  · refine ⟨-1, ?_, ?_⟩ <;> simp (disch := omega) only [if_pos, if_neg]
/-- images and fault behind compile -/
theorem im_cmp {M : ms_M} {u : Int × ms_M × Nat × Nat} {v : Int × ms_M} (VM : VS_ M) (V2 : VS_ v.2) (R : im_R M) (e1 : qf_X12_compile nn M = some u) (e2 : qf_X13_compile nn u.2.1 = some v) (C : CQE (cn_M M) M u.2.1) (O : OLn (cn_M M) M u.2.1) (F : FNL n u v) : u.1 = v.1 ∧ im_R v.2 ∧ FTm v.2 := by
  have F1 := fun c k q => (ff_X12_compile nn) _ e1 c k q
  have F2 := fun c k q => (ff_X13_compile nn) _ e2 c k q
  have lo : ∀ c k : Nat, c < 160 ∨ 256 ≤ c → v.2 c k = u.2.1 c k := fun c k q => F2 c k (by
    unfold nw_F
    simp only [Bool.and_eq_true]
    refine ⟨?_, ?_, rfl, rfl⟩
    · cases hq : wl_X13_compile.contains c with
      | false => rfl
      | true =>
        exfalso
        have m := List.contains_iff_mem.mp hq
        have := List.all_eq_true.mp (show wl_X13_compile.all (fun x => Nat.ble 160 x && Nat.blt x 256) = true by decide) c m
        simp only [Bool.and_eq_true, Nat.ble_eq, Nat.blt_eq] at this
        omega
    · cases hq : wf_X13_compile.contains (c, k) with
      | false => rfl
      | true =>
        exfalso
        have m := List.contains_iff_mem.mp hq
        have := List.all_eq_true.mp (show wf_X13_compile.all (fun x => Nat.beq x.1 160) = true by decide) _ m
        have := Nat.eq_of_beq_eq_true this
        dsimp only at this
        omega)
  have cv : cn_M v.2 = cn_M u.2.1 := by unfold cn_M; rw [lo 900000 0 (by omega)]
  rcases F with ⟨a1, b1, s1, s2, s3⟩ | ⟨⟨a1, b1⟩, ⟨a2, b2⟩, ⟨o1, o2, o3⟩, o4⟩
  · refine ⟨a1.trans b1.symm, ?_, ?_, .inr ?_⟩
    · have J : JKi u.2.1 v.2 := (jk_compile _ e2).resolve_left (fun q => s1 (by rw [← s2]; exact q))
      obtain ⟨k1, k2⟩ := C.2.2.1 s1
      obtain ⟨r1, r2, r3⟩ := R
      have e7 : v.2 0 7 = M 0 7 := (lo 0 7 (by omega)).trans k1
      refine ⟨?_, by rw [e7]; exact r2, fun k hk => ?_⟩
      · rw [J.1, e7, ← r1]; exact F1 160 93 rfl
      · rw [e7] at hk
        obtain ⟨⟨x1, x2⟩, x3, x4, x5⟩ := r3 k hk
        have e55 : v.2 55 k = M 55 k := (lo 55 k (by omega)).trans (k2 k)
        have e222 : v.2 222 k = M 222 k := (J.2.2 k).trans (C.2.1 222 k (by omega) (by omega))
        rw [e55, e222]
        have hid : 256 ≤ (M 55 k).toNat := by omega
        refine ⟨⟨x1, by rw [cv]; exact Nat.lt_of_lt_of_le x2 O.2⟩, x3, ?_, fun i hi => ?_⟩
        · rw [lo 900001 _ (by omega), C.2.2.2.1 _ x2]; exact x4
        · obtain ⟨y1, y2⟩ := x5 i hi
          have eb : v.2 (M 55 k).toNat i = M (M 55 k).toNat i := (lo _ i (by omega)).trans (O.1 _ i hid x2)
          rw [eb, show v.2 221 (6000 * k + i) = M 221 (6000 * k + i) from (J.2.1 _).trans (C.2.1 221 _ (by omega) (by omega))]
          exact ⟨y1, y2⟩
    · rw [s2, lo 2 11 (by omega)]
    · rw [s3, lo 2 12 (by omega)]
  · refine ⟨a1.trans b1.symm, ?_, by rw [b2, lo 2 11 (by omega), a2], .inl (by rw [lo 2 11 (by omega)]; exact a2)⟩
    have e7 : v.2 0 7 = (n : Int) := (lo 0 7 (by omega)).trans o1
    refine ⟨by rw [e7]; exact o2, by rw [e7]; omega, fun k hk => ?_⟩
    rw [e7] at hk
    obtain ⟨id, z1, z2, z3, z4, z5⟩ := o4 k (by omega)
    have e55 : v.2 55 k = (id : Int) := (lo 55 k (by omega)).trans z1
    have et : (v.2 55 k).toNat = id := by rw [e55]; exact Int.toNat_natCast id
    refine ⟨⟨by rw [e55]; omega, by rw [et, cv]; exact z2.2.1⟩, z4, ?_, fun i hi => ?_⟩
    · rw [et, lo 900001 id (by omega), ← z3]
      unfold ln_I; rw [if_neg (by omega)]
    · rw [et, z5 i hi, lo id i (by omega)]
      refine ⟨rfl, ?_⟩
      have el : ln_I v.2 id = v.2 222 k := by
        rw [← z3]; unfold ln_I; rw [if_neg (by omega), if_neg (by omega), lo 900001 id (by omega)]
      have w := V2.2.2.2.1 id i z2.1 z2.2.2 (by rw [el]; exact hi)
      rw [lo id i (by omega)] at w
      unfold in_R; omega
end
end
section
/- THE LAW'S LEVEL: space, verified, run: kept by calls that do not touch them -/
section
variable {nn : Nat} {Bf : Nat → Nat → Int} {nf : Nat → Nat} {cnt : Int} {A B M M2 g r : ms_M}
theorem rnx_fr (C : ∀ c k : Nat, 143 ≤ c → c ≤ 152 → g c k = A c k) (C6 : ∀ k : Nat, g 60 k = A 60 k) (D : ∀ c k : Nat, 246 ≤ c → c < 256 → r c k = B c k) (D6 : ∀ k : Nat, (138 ≤ k ∧ k ≤ 143) ∨ k = 149 → r 160 k = B 160 k) (R : RNX Bf nf cnt A B) : RNX Bf nf cnt g r := by
  have c3 : ∀ k : Nat, g 143 k = A 143 k := fun k => C 143 k (by omega) (by omega)
  have d1 := D6 138 (by omega)
  have d2 := D6 139 (by omega)
  have d3 := D6 140 (by omega)
  have d4 := D6 141 (by omega)
  have d5 := D6 142 (by omega)
  have d6 := D6 143 (by omega)
  have d7 := D6 149 (by omega)
  have PK : PRA A B → PRA g r := fun P => pra_k P (c3 7) (fun x => C 144 x (by omega) (by omega)) d6 (fun x => D 250 x (by omega) (by omega))
  rcases R with ⟨d, k, i, ⟨⟨⟨a1, a2⟩, ⟨a3, a4⟩, a5, a6, a7⟩, d60, F, H, P⟩, T⟩ | ⟨⟨a1, a2, a3⟩, ⟨b1, b2, b3, b4⟩, P, c1, c2⟩
  · refine .inl ⟨d, k, i, ⟨⟨⟨(c3 1).trans a1, d1.trans a2⟩, ⟨(c3 2).trans a3, d2.trans a4⟩, by rw [c3, d3]; exact a5, (c3 6).trans a6, d7.trans a7⟩, d60, fun j hj => ?_, ?_, PK P⟩, ?_⟩
    · exact fra_k (F j hj) (C 148 j (by omega) (by omega)) (C 149 j (by omega) (by omega)) (C 150 j (by omega) (by omega)) (fun n _ => C 151 _ (by omega) (by omega)) (fun n _ => C 152 _ (by omega) (by omega)) (D 251 j (by omega) (by omega)) (D 252 j (by omega) (by omega)) (D 253 j (by omega) (by omega)) (D 254 j (by omega) (by omega)) (fun n _ => D 255 _ (by omega) (by omega))
    · exact hpa_k H (fun x _ => c3 x) (fun c x q1 q2 => C c x (by omega) (by omega)) (fun x q => D6 x (by omega)) (fun c x q1 q2 => D c x (by omega) (by omega))
    · exact tpa_k T (fun c j q => q.elim (fun q => by rw [q]; exact C6 j) (fun q => by rw [q.1]; exact c3 j)) (fun x j q => D x j (by omega) (by omega))
  · exact .inr ⟨⟨by rw [c3, d1]; exact a1, by rw [c3]; exact a2, by rw [c3]; exact a3⟩, ⟨by rw [c3, d3]; exact b1, by rw [c3, d4]; exact b2, by rw [c3, d5]; exact b3, by rw [c3, d7]; exact b4⟩, PK P, by rw [c3, c3, d2]; exact c1, by rw [c3, c3]; exact c2⟩
theorem rn_fr (C : ∀ c k : Nat, 143 ≤ c → c ≤ 152 → g c k = M c k) (D : ∀ c k : Nat, 246 ≤ c → c < 256 → g c k = M c k) (D6 : ∀ k : Nat, (138 ≤ k ∧ k ≤ 143) ∨ k = 149 → g 160 k = M 160 k) (R : rn_R M) : rn_R g := by
  have c3 : ∀ k : Nat, g 143 k = M 143 k := fun k => C 143 k (by omega) (by omega)
  have d1 := D6 138 (by omega)
  have d2 := D6 139 (by omega)
  have d3 := D6 140 (by omega)
  have d4 := D6 141 (by omega)
  have d5 := D6 142 (by omega)
  have d6 := D6 143 (by omega)
  have d7 := D6 149 (by omega)
  have e4 : ∀ k : Nat, g 144 k = M 144 k := fun k => C 144 k (by omega) (by omega)
  have e8 : ∀ k : Nat, g 148 k = M 148 k := fun k => C 148 k (by omega) (by omega)
  have e9 : ∀ k : Nat, g 149 k = M 149 k := fun k => C 149 k (by omega) (by omega)
  have e0 : ∀ k : Nat, g 150 k = M 150 k := fun k => C 150 k (by omega) (by omega)
  have f0 : ∀ k : Nat, g 250 k = M 250 k := fun k => D 250 k (by omega) (by omega)
  have f1 : ∀ k : Nat, g 251 k = M 251 k := fun k => D 251 k (by omega) (by omega)
  have f2 : ∀ k : Nat, g 252 k = M 252 k := fun k => D 252 k (by omega) (by omega)
  have f3 : ∀ k : Nat, g 253 k = M 253 k := fun k => D 253 k (by omega) (by omega)
  have f4 : ∀ k : Nat, g 254 k = M 254 k := fun k => D 254 k (by omega) (by omega)
  unfold rn_R at R ⊢
  simp only [c3, d1, d2, d3, d4, d5, d6, d7, e4, e8, e9, e0, f0, f1, f2, f3, f4]
  exact R
/-- what a call leaves that touches neither space nor run -/
def LFr (M M2 : ms_M) : Prop := (∀ c k : Nat, 56 ≤ c → c < 160 → M2 c k = M c k) ∧ (∀ c k : Nat, 256 ≤ c → c < cn_M M → M2 c k = M c k) ∧ (∀ k : Nat, k < cn_M M → M2 900001 k = M 900001 k) ∧ cn_M M ≤ cn_M M2 ∧ (∀ c k : Nat, 226 ≤ c → c < 256 → M2 c k = M c k) ∧ ∀ k : Nat, k = 98 ∨ k = 99 ∨ (123 ≤ k ∧ k ≤ 125) ∨ (138 ≤ k ∧ k ≤ 143) ∨ k = 149 → M2 160 k = M 160 k
theorem spe_fr (V : VS_ M) (J : OJ M) (F : LFr M M2) (E : SPE Bf nf M) : SPE Bf nf M2 := by
  obtain ⟨A, O, L, N, T, K⟩ := F
  have g3 := gF_56_3 V
  have e3 : M2 56 3 = M 56 3 := A 56 3 (by omega) (by omega)
  have e98 : M2 160 98 = M 160 98 := K 98 (by omega)
  obtain ⟨⟨p1, p2, p3⟩, ⟨S1, ⟨n1, n2, n3, n4⟩, RD⟩, TB, NK⟩ := E
  have rk : ∀ k : Nat, (k : Int) < M 56 3 → M2 (M2 60 k).toNat 0 = M (M 60 k).toNat 0 := fun k hk => by
    have id := im_at (V.2.2.2.2.1 k (by omega)).2
    rw [A 60 k (by omega) (by omega)]
    exact A _ _ (by omega) (by omega)
  refine ⟨⟨by rw [e98, e3]; exact p1, by rw [e3]; exact p2, by rw [K 99 (by omega), A 56 4 (by omega) (by omega)]; exact p3⟩, ⟨fun k hk => ?_, ⟨?_, fun j hj => by rw [A _ _ (by omega) (by omega)]; exact n2 j hj, fun j hj h2 => by rw [A _ _ (by omega) (by omega)]; exact n3 j hj (by omega), fun k hk => by rw [A 58 _ (by omega) (by omega), e3]; exact n4 k (by omega)⟩, fun j k hj hk jk => by rw [rk j (by omega), rk k (by omega)]; exact RD j k (by omega) (by omega) jk⟩, fun k hk => ?_, by rw [e3]; exact NK⟩
  · rw [A 60 k (by omega) (by omega)]
    have X := S1 k (by omega)
    have hd := (V.2.2.2.2.1 k (by omega)).2
    have id := im_at hd
    have b1 := (J k (by omega)).1
    have b2 : (M (M 60 k).toNat 0).toNat < cn_M M := X.1.1.2.2.2.2.1
    refine imc_s ⟨fun c i c1 c2 => A _ _ (by omega) (by omega), fun i => O _ _ b1 b2, N, ?_⟩ X
    unfold ln_I
    rw [if_neg (by omega), if_neg (by omega)]
    exact L _ b2
  · have ef : M2 (57 + 1) = M (57 + 1) := funext (fun j => A _ _ (by omega) (by omega))
    unfold un_R
    rw [ef]
    intro x y hx hy
    rw [show M2 (57 + 2) (16 * x + y) = M (57 + 2) (16 * x + y) from A _ _ (by omega) (by omega)]
    exact n1 x y hx hy
  · have hk' : (k : Int) < M 160 98 := by rw [← e98]; exact hk
    exact tb_k (by omega) (fun x j q => T _ _ (by unfold TAB at q; omega) (by unfold TAB at q; omega)) (fun j _ _ => T _ _ (by omega) (by omega)) (T _ _ (by omega) (by omega)) (TB k hk')
/-- what is verified, and the run that is there -/
def VRw (Bf : Nat → Nat → Int) (nf : Nat → Nat) (M : ms_M) : Prop := (¬ M 56 4 = 0 → M 56 4 = 1 ∧ HGo Bf nf (M 56 3) ∧ VOk Bf nf (M 56 3) ∧ LKt Bf nf (M 56 3) M) ∧ (M 143 1 = 0 ∨ RNX Bf nf (M 56 3) M M) ∧ (M 143 1 = 1 → M 56 4 = 1)
/-- space and run of both sides -/
def SRw (M : ms_M) : Prop := wh_R M ∧ rn_R M ∧ M 143 20 = 0 ∧ ∃ (Bf : Nat → Nat → Int) (nf : Nat → Nat), SPE Bf nf M ∧ VRw Bf nf M
theorem vrw_fr (A : ∀ c k : Nat, 56 ≤ c → c < 160 → M2 c k = M c k) (D : ∀ c k : Nat, 246 ≤ c → c < 256 → M2 c k = M c k) (D6 : ∀ k : Nat, (138 ≤ k ∧ k ≤ 143) ∨ k = 149 → M2 160 k = M 160 k) (W : VRw Bf nf M) : VRw Bf nf M2 := by
  obtain ⟨w1, w2, w3⟩ := W
  have e3 : M2 56 3 = M 56 3 := A 56 3 (by omega) (by omega)
  have e4 : M2 56 4 = M 56 4 := A 56 4 (by omega) (by omega)
  have e1 : M2 143 1 = M 143 1 := A 143 1 (by omega) (by omega)
  refine ⟨fun q => ?_, ?_, fun q => ?_⟩
  · rw [e4] at q ⊢
    rw [e3]
    obtain ⟨x1, x2, x3, x4⟩ := w1 q
    exact ⟨x1, x2, x3, lkt_k x4 (fun c a b => funext (fun k => A c k (by omega) (by omega)))⟩
  · rw [e1, e3]
    exact w2.imp (fun q => q) (fun R => rnx_fr (fun c k a b => A c k (by omega) (by omega)) (fun k => A 60 k (by omega) (by omega)) D D6 R)
  · rw [e4]; exact w3 (by rw [← e1]; exact q)
theorem srw_fr (V : VS_ M) (J : OJ M) (F : LFr M M2) (S : SRw M) : SRw M2 := by
  obtain ⟨⟨a1, a2, a3⟩, R, t, Bf, nf, E, W⟩ := S
  have F' := F
  obtain ⟨A, O, L, N, T, K⟩ := F
  refine ⟨⟨?_, ?_, ?_⟩, rn_fr (fun c k a b => A c k (by omega) (by omega)) (fun c k a b => T c k (by omega) b) (fun k q => K k (by omega)) R, (A 143 20 (by omega) (by omega)).trans t, Bf, nf, spe_fr V J F' E, vrw_fr A (fun c k a b => T c k (by omega) b) (fun k q => K k (by omega)) W⟩
  · rw [K 123 (by omega), A 127 2 (by omega) (by omega)]; exact a1
  · rw [K 124 (by omega), A 127 3 (by omega) (by omega)]; exact a2
  · rw [K 125 (by omega), A 127 4 (by omega) (by omega)]; exact a3
end
end
section
/- THE LAW'S LEVEL: the images that compile tells are no Image's own bytes -/
section
variable {nn n : Nat} {S : Int → Prop} {h g z r : ms_M}
theorem ci_id40 {l1 : Nat} : ∀ (k : Nat) (l2 l3 : Int) {h : ms_M} (c s : Nat), Pc (qw_X6_closeImage_40 nn k l1 l2 l3 h c s) (fun r => r.1 = (l1 : Int)) := by
  intro k
  induction k with
  | zero => intro l2 l3 h c s; exact pc_none
  | succ k ih =>
    intro l2 l3 h c s
    unfold qw_X6_closeImage_40
    refine pc_if (fun _ => ?_) (fun _ => ?_)
    · intro r e
      have e := cp_i e
      have e := Option.some.inj e
      rw [← e]
    · exact pc_se (fun u6 _ => pc_rA (fun _ _ _ _ => pc_rA (fun _ _ _ _ => pc_se (fun _ _ => pc_xl (fun _ _ => pc_xl (fun _ _ => ih _ _ _ _))))))
theorem ci_id : Pc (qf_X6_closeImage nn h) (fun r => r.1 = (cn_M h : Int)) := by
  unfold qf_X6_closeImage
  refine pc_se (fun u17 _ => pc_if (fun _ => pc_se (fun u19 _ => pc_ck (fun _ => pc_nB (fun z _ _ => ?_)))) (fun _ => pc_ck (fun _ => pc_nB (fun z _ _ => pc_ret rfl))))
  exact pc_wT (fun h22 _ => pc_wT (fun h23 _ => pc_xl (fun _ _ => pc_wT (fun h26 _ => ci_id40 _ _ _ _ _))))
/-- the images made and told are in S -/
def G43 (S : Int → Prop) (n : Nat) (h : ms_M) : Prop := n ≤ cn_M h ∧ ∀ c : Nat, c < 8 → S (h 43 c) ∧ S (h 55 c)
theorem g43_e (a : r 900000 0 = h 900000 0) (b : ∀ k : Nat, r 43 k = h 43 k) (d : ∀ k : Nat, r 55 k = h 55 k) (G : G43 S n h) : G43 S n r := by
  refine ⟨by unfold cn_M; rw [a]; exact G.1, fun c hc => ?_⟩
  rw [b, d]; exact G.2 c hc
theorem g43_cc (hS : ∀ x : Int, (n : Int) ≤ x → S x) {l : Int} (G : G43 S n h) : Pc (qf_X0_closeClass nn l h) (fun r => G43 S n r.1) := by
  unfold qf_X0_closeClass
  refine pc_se (fun u3 _ => pc_se (fun u6 _ => pc_se (fun u8 e8 => ?_)))
  have F : ∀ c k : Nat, ¬ (c = 33 ∧ k = 7) → u8 c k = h c k := fun c k q => note_fr e8 c k q
  have G8 : G43 S n u8 := g43_e (F _ _ (by omega)) (fun k => F _ _ (by omega)) (fun k => F _ _ (by omega)) G
  refine pc_if (fun _ => pc_ret G8) (fun _ => pc_if (fun _ => pc_ret G8) (fun _ => pc_if (fun _ => pc_ret G8) (fun _ => pc_if (fun _ => pc_ret G8) (fun _ => ?_))))
  refine pc_se (fun u17 e17 => ?_)
  have L := lw_ci G8.1 _ e17
  have I := ci_id _ e17
  intro r e
  unfold wr_QB at e
  split at e
  · have e := Option.some.inj e
    rw [← e]
    refine ⟨?_, fun c hc => ⟨?_, ?_⟩⟩
    · show n ≤ cn_M (up_M u17.2.1 43 l.toNat u17.1)
      unfold cn_M; rw [up_n (by omega)]; exact L.2.2
    · show S (up_M u17.2.1 43 l.toNat u17.1 43 c)
      by_cases q : c = l.toNat
      · rw [q, up_s, I]; exact hS _ (by have := G8.1; omega)
      · rw [up_n (by omega), L.1 43 c (by omega)]; exact (G8.2 c hc).1
    · show S (up_M u17.2.1 43 l.toNat u17.1 55 c)
      rw [up_n (by omega), L.1 55 c (by omega)]; exact (G8.2 c hc).2
  · cases e
theorem g43_13 : ∀ (k : Nat) (l : Int) (h : ms_M), 0 ≤ l → G43 S n h → Pc (qw_X12_takeImages_13 nn k l h) (fun r => G43 S n r.2) := by
  intro k
  induction k with
  | zero => intros; exact pc_none
  | succ k ih =>
    intro l h l0 G
    unfold qw_X12_takeImages_13
    refine pc_if (fun y => pc_ret G) (fun y => pc_if (fun y8 => pc_ret G) (fun y8 => ?_))
    refine pc_se (fun u9 e9 => ?_)
    have v9 : u9 = h 43 l.toNat := by
      unfold qf_X0_made at e9
      rw [if_neg (by omega), if_neg (by omega)] at e9
      have e9 := rd_i e9
      cases e9; rfl
    intro r e
    unfold wr_QB at e
    split at e
    · refine (pc_xl (fun v11 e11 => ?_) : Pc _ (fun r => G43 S n r.2)) r e
      rw [oq_add_eq (by omega) (by omega) (by omega)] at e11
      rw [e11]
      refine ih _ _ (by omega) ⟨?_, fun c hc => ⟨?_, ?_⟩⟩
      · unfold cn_M; rw [up_n (by omega)]; exact G.1
      · rw [up_n (by omega)]; exact (G.2 c hc).1
      · by_cases q : c = l.toNat
        · rw [q, up_s, v9]; exact (G.2 _ (by omega)).1
        · rw [up_n (by omega)]; exact (G.2 c hc).2
    · cases e
theorem g_175 {c s : Nat} (G : G43 S n h) : Pc (qj_X12_compile_175 nn h c s) (fun r => G43 S n r.2.1) := by
  unfold qj_X12_compile_175
  refine pc_se (fun u3 e3 => ?_)
  have F := fun c k q => (ff_X0_closeProgram nn) _ e3 c k q
  have G3 : G43 S n u3 := g43_e (F 900000 0 rfl) (fun k => F 43 k (nw_ar rfl k)) (fun k => F 55 k (nw_ar rfl k)) G
  refine pc_if (fun y => pc_ret G3) (fun y => pc_se (fun u7 e7 => pc_ret ?_))
  refine (?_ : Pc (qf_X12_takeImages nn u3) (fun r => G43 S n r.2)) _ e7
  unfold qf_X12_takeImages
  refine pc_xl (fun h16 e16 => g43_13 _ _ _ (by omega) (g43_e ?_ (fun k => ?_) (fun k => ?_) G3))
  · rw [e16, up_n (by omega)]
  · rw [e16, up_n (by omega)]
  · rw [e16, up_n (by omega)]
theorem gg_124 (hS : ∀ x : Int, (n : Int) ≤ x → S x) {kk : Int → ms_M → Nat → Nat → Option (Int × ms_M × Nat × Nat)} {l2 : Int} {c s : Nat} (hk : ∀ (v : Int) (h : ms_M) (c s : Nat), G43 S n h → Pc (kk v h c s) (fun r => G43 S n r.2.1)) : ∀ (k : Nat) (l3 : Int) {h : ms_M}, G43 S n h → Pc (qw_X12_compile_124 nn kk k l2 l3 h c s) (fun r => G43 S n r.2.1) := by
  intro k
  induction k with
  | zero => intro l3 h N; exact pc_none
  | succ k ih =>
    intro l3 h N
    have j : Pc (qj_X12_compile_161 nn kk l2 h c s) (fun r => G43 S n r.2.1) := by
      unfold qj_X12_compile_161
      exact pc_sv (g43_cc hS N) (fun u11 O => pc_xl (fun v12 e12 => hk _ _ _ _ O))
    unfold qw_X12_compile_124
    refine pc_se (fun u15 _ => pc_if (fun _ => j) (fun _ => pc_if (fun _ => j) (fun y11 => pc_se (fun u20 e20 => pc_xl (fun _ _ => ?_)))))
    have F := fun c k q => (ff_X0_makeMethod nn) _ e20 c k q
    exact ih _ (g43_e (F 900000 0 rfl) (fun k => F 43 k (nw_ar rfl k)) (fun k => F 55 k (nw_ar rfl k)) N)
theorem gg_93 (hS : ∀ x : Int, (n : Int) ≤ x → S x) : ∀ (k : Nat) (l2 : Int) {h : ms_M} (c s : Nat), G43 S n h → Pc (qw_X12_compile_93 nn k l2 h c s) (fun r => G43 S n r.2.1) := by
  intro k
  induction k with
  | zero => intro l2 h c s K; exact pc_none
  | succ k ih =>
    intro l2 h c s K
    unfold qw_X12_compile_93
    refine pc_if (fun _ => g_175 K) (fun _ => pc_if (fun _ => g_175 K) (fun _ => pc_se (fun u30 e30 => ?_)))
    have F := fun c k q => (ff_X0_beginClass nn) _ e30 c k q
    exact gg_124 hS (fun v h c s q => ih v c s q) _ _ (g43_e (F 900000 0 rfl) (fun k => F 43 k (nw_ar rfl k)) (fun k => F 55 k (nw_ar rfl k)) K)
theorem g43_cmp (hS : ∀ x : Int, (n : Int) ≤ x → S x) (G : G43 S n h) : Pc (qf_X12_compile nn h) (fun r => G43 S n r.2.1) := by
  unfold qf_X12_compile
  refine pc_xl (fun h34 e34 => ?_)
  have E : ∀ c k : Nat, ¬ (c = 0 ∧ k = 1) → h34 c k = h c k := fun c k q => by rw [e34, up_n q]
  have G34 : G43 S n h34 := g43_e (E _ _ (by omega)) (fun k => E _ _ (by omega)) (fun k => E _ _ (by omega)) G
  refine pc_if (fun _ => ?_) (fun _ => pc_se (fun u62 e62 => pc_ret ?_))
  · refine pc_se (fun u38 e38 => pc_se (fun u41 e41 => pc_se (fun u44 e44 => pc_se (fun u47 e47 => pc_se (fun u50 e50 => pc_se (fun u53 e53 => pc_se (fun u56 e56 => pc_se (fun u59 e59 => ?_))))))))
    have F38 := fun c k q => (ff_X9_scan nn) _ e38 c k q
    have F41 := fun c k q => (ff_X2_forget nn) _ e41 c k q
    have F44 := fun c k q => (ff_X8_readProgram nn) _ e44 c k q
    have F47 := fun c k q => (ff_X2_readClasses nn) _ e47 c k q
    have F50 := fun c k q => (ff_X2_readMembers nn) _ e50 c k q
    have F53 := fun c k q => (ff_X2_checkOverrides nn) _ e53 c k q
    have F56 := fun c k q => (ff_X2_nameKinds nn) _ e56 c k q
    have F59 := fun c k q => (ff_X0_beginProgram nn) _ e59 c k q
    have G38 : G43 S n u38 := g43_e (F38 900000 0 rfl) (fun k => F38 43 k (nw_ar rfl k)) (fun k => F38 55 k (nw_ar rfl k)) G34
    have G41 : G43 S n u41 := g43_e (F41 900000 0 rfl) (fun k => F41 43 k (nw_ar rfl k)) (fun k => F41 55 k (nw_ar rfl k)) G38
    have G44 : G43 S n u44 := g43_e (F44 900000 0 rfl) (fun k => F44 43 k (nw_ar rfl k)) (fun k => F44 55 k (nw_ar rfl k)) G41
    have G47 : G43 S n u47 := g43_e (F47 900000 0 rfl) (fun k => F47 43 k (nw_ar rfl k)) (fun k => F47 55 k (nw_ar rfl k)) G44
    have G50 : G43 S n u50 := g43_e (F50 900000 0 rfl) (fun k => F50 43 k (nw_ar rfl k)) (fun k => F50 55 k (nw_ar rfl k)) G47
    have G53 : G43 S n u53 := g43_e (F53 900000 0 rfl) (fun k => F53 43 k (nw_ar rfl k)) (fun k => F53 55 k (nw_ar rfl k)) G50
    have G56 : G43 S n u56 := g43_e (hp_ok (by omega) e56) (fun k => F56 43 k (nw_ar rfl k)) (fun k => F56 55 k (nw_ar rfl k)) G53
    have G59 : G43 S n u59 := g43_e (F59 900000 0 rfl) (fun k => F59 43 k (nw_ar rfl k)) (fun k => F59 55 k (nw_ar rfl k)) G56
    exact gg_93 hS _ _ _ _ G59
  · have F := fun c k q => (ff_X9_refuse nn) _ e62 c k q
    exact g43_e (F 900000 0 rfl) (fun k => F 43 k (nw_ar rfl k)) (fun k => F 55 k (nw_ar rfl k)) G34
/-- no Image's own bytes lie where the compiler's images lie -/
def DJ (M : ms_M) : Prop := ∀ j : Nat, (j : Int) < M 56 3 → ∀ c : Nat, c < 8 → ¬ M 43 c = M (M 60 j).toNat 0 ∧ ¬ M 55 c = M (M 60 j).toNat 0
theorem dj_e {M M2 : ms_M} (e3 : M2 56 3 = M 56 3) (a : ∀ k : Nat, M2 43 k = M 43 k) (b : ∀ k : Nat, M2 55 k = M 55 k) (d : ∀ j : Nat, (j : Int) < M 56 3 → M2 (M2 60 j).toNat 0 = M (M 60 j).toNat 0) (D : DJ M) : DJ M2 := fun j hj c hc => by
  rw [a, b, d j (by omega)]; exact D j (by omega) c hc
theorem dj_cmp {M : ms_M} {u : Int × ms_M × Nat × Nat} (V : VS_ M) (e : qf_X12_compile nn M = some u) (C : CQE (cn_M M) M u.2.1) (D : DJ M) : DJ u.2.1 := by
  have g3 := gF_56_3 V
  have A : ∀ c k : Nat, 56 ≤ c → c < 256 → u.2.1 c k = M c k := C.2.1
  have ow : ∀ j : Nat, (j : Int) < M 56 3 → kc_O (M 60 j).toNat = 3 ∧ u.2.1 (u.2.1 60 j).toNat 0 = M (M 60 j).toNat 0 := fun j hj => by
    have hd := (V.2.2.2.2.1 j (by omega)).2
    have id := im_at hd
    rw [A 60 j (by omega) (by omega)]
    exact ⟨hd, A _ _ (by omega) (by omega)⟩
  have G : G43 (fun x => ∀ j : Nat, (j : Int) < M 56 3 → ¬ x = M (M 60 j).toNat 0) (cn_M M) M := ⟨Nat.le_refl _, fun c hc => ⟨fun j hj => (D j hj c hc).1, fun j hj => (D j hj c hc).2⟩⟩
  have R := g43_cmp (nn := nn) (S := fun x => ∀ j : Nat, (j : Int) < M 56 3 → ¬ x = M (M 60 j).toNat 0) (fun x hx j hj q => by
    have b := (vi_b V (ow j hj).1).1
    omega) G _ e
  intro j hj c hc
  rw [A 56 3 (by omega) (by omega)] at hj
  rw [(ow j hj).2]
  exact ⟨(R.2 c hc).1 j hj, (R.2 c hc).2 j hj⟩
end
end
section
/- THE LAW'S LEVEL: feed, end, compile, clear, and the calls that only tell -/
section
variable {nn t : Nat} {Bf : Nat → Nat → Int} {nf : Nat → Nat} {M M1 M2 : ms_M} {c s : Nat}
/-- the invariant of both sides over all calls -/
def WHm (nn t : Nat) (M : ms_M) (c s : Nat) : Prop := VRm nn t M c s ∧ KNB M ∧ FTm M ∧ im_R M ∧ SRw M ∧ DJ M
theorem im_fr (F : LFr M M2) (a : ∀ k : Nat, M2 55 k = M 55 k) (b : ∀ k : Nat, M2 221 k = M 221 k) (d : ∀ k : Nat, M2 222 k = M 222 k) (e : M2 0 7 = M 0 7) (f : M2 160 93 = M 160 93) (R : im_R M) : im_R M2 := by
  obtain ⟨A, O, L, N, T, K⟩ := F
  obtain ⟨r1, r2, r3⟩ := R
  refine ⟨by rw [f, e]; exact r1, by rw [e]; exact r2, fun k hk => ?_⟩
  rw [e] at hk
  obtain ⟨⟨x1, x2⟩, x3, x4, x5⟩ := r3 k hk
  rw [a, d]
  refine ⟨⟨x1, Nat.lt_of_lt_of_le x2 N⟩, x3, (L _ x2).trans x4, fun i hi => ?_⟩
  rw [b, O _ i (by omega) x2]
  exact x5 i hi
theorem ft_fr (a : M2 2 11 = M 2 11) (b : M2 2 12 = M 2 12) (d : M2 160 9 = M 160 9) (e : M2 160 10 = M 160 10) (R : FTm M) : FTm M2 := by
  obtain ⟨h1, h2⟩ := R
  exact ⟨by rw [d, a]; exact h1, by rw [a, e, b]; exact h2⟩
/-- the Images' own bytes lie where they lay -/
theorem own_k (V : VS_ M) (A : ∀ c k : Nat, 56 ≤ c → c < 160 → M2 c k = M c k) : ∀ j : Nat, (j : Int) < M 56 3 → M2 (M2 60 j).toNat 0 = M (M 60 j).toNat 0 := fun j hj => by
  have g3 := gF_56_3 V
  have id := im_at (V.2.2.2.2.1 j (by omega)).2
  rw [A 60 j (by omega) (by omega)]
  exact A _ _ (by omega) (by omega)
/-- feed and end: only the tapes change -/
theorem wh_tape {X : List Nat} (hX : X = [1, 161] ∨ X = []) (F : ∀ c k, nw_F X [(0, 1), (160, 1)] false false c k = true → M2 c k = M c k) (V : VRm nn (t + 1) M2 c s) (W : WHm nn t M c s) : WHm nn (t + 1) M2 c s := by
  obtain ⟨w1, w2, w3, w4, w5, w6⟩ := W
  have VM := bva_v w1.1
  have J := w1.1.1.2.2.2
  have G : ∀ c k : Nat, c ≠ 1 → c ≠ 161 → ¬ (c = 0 ∧ k = 1) → ¬ (c = 160 ∧ k = 1) → M2 c k = M c k := fun c k q1 q2 q3 q4 => F c k (by
    unfold nw_F
    simp only [Bool.and_eq_true]
    refine ⟨?_, ?_, rfl, rfl⟩
    · cases hq : X.contains c with
      | false => rfl
      | true =>
        exfalso
        have m := List.contains_iff_mem.mp hq
        rcases hX with e | e <;> (rw [e] at m; simp only [List.mem_cons, List.not_mem_nil, or_false] at m)
        omega
    · cases hq : [((0 : Nat), (1 : Nat)), (160, 1)].contains (c, k) with
      | false => rfl
      | true =>
        exfalso
        have m := List.contains_iff_mem.mp hq
        simp only [List.mem_cons, List.not_mem_nil, or_false, Prod.mk.injEq] at m
        omega)
  have L : LFr M M2 := ⟨fun c k _ _ => G c k (by omega) (by omega) (by omega) (by omega), fun c k _ _ => G c k (by omega) (by omega) (by omega) (by omega), fun k _ => G 900001 k (by omega) (by omega) (by omega) (by omega), by unfold cn_M; rw [G 900000 0 (by omega) (by omega) (by omega) (by omega)]; exact Nat.le_refl _, fun c k _ _ => G c k (by omega) (by omega) (by omega) (by omega), fun k _ => G 160 k (by omega) (by omega) (by omega) (by omega)⟩
  have R : ∀ c k : Nat, 2 ≤ c → c < 160 → M2 c k = M c k := fun c k _ _ => G c k (by omega) (by omega) (by omega) (by omega)
  exact ⟨V, kB_e w2 (fun k => R 6 k (by omega) (by omega)) (fun k => R 7 k (by omega) (by omega)) (fun k => R 8 k (by omega) (by omega)) (fun k => R 10 k (by omega) (by omega)), ft_fr (R 2 11 (by omega) (by omega)) (R 2 12 (by omega) (by omega)) (G 160 9 (by omega) (by omega) (by omega) (by omega)) (G 160 10 (by omega) (by omega) (by omega) (by omega)) w3, im_fr L (fun k => R 55 k (by omega) (by omega)) (fun k => G 221 k (by omega) (by omega) (by omega) (by omega)) (fun k => G 222 k (by omega) (by omega) (by omega) (by omega)) (G 0 7 (by omega) (by omega) (by omega) (by omega)) (G 160 93 (by omega) (by omega) (by omega) (by omega)) w4, srw_fr VM J L w5, dj_e (R 56 3 (by omega) (by omega)) (fun k => R 43 k (by omega) (by omega)) (fun k => R 55 k (by omega) (by omega)) (own_k VM (fun c k a b => R c k (by omega) b)) w6⟩
theorem wh_feed (hn : 1000000 ≤ nn) (W : WHm nn t M c s) {a b d e f : Int} (r1 : in_R a) (r2 : in_R b) (r3 : in_R d) (r4 : in_R e) (r5 : in_R f) : ∃ r M1 M2, qf_X12_feed nn a b d e f M = some (r, M1) ∧ qf_X13_feed nn a b d e f M1 = some (r, M2) ∧ WHm nn (t + 1) M2 c s := by
  obtain ⟨r, M1, M2, g1, g2, V⟩ := vr_feed hn W.1 r1 r2 r3 r4 r5
  obtain ⟨r', N1, N2, f1, f2, T, F⟩ := feed_2 (nn := nn) (by omega) (a := a) (b := b) (x := d) (e := e) (f := f) W.1.2.2.1
  rw [g1] at f1; cases f1
  rw [g2] at f2; cases f2
  exact ⟨_, _, _, g1, g2, wh_tape (.inl rfl) F V W⟩
theorem wh_end (hn : 1000000 ≤ nn) (W : WHm nn t M c s) {a : Int} (r1 : in_R a) : ∃ r M1 M2, qf_X12_end nn a M = some (r, M1) ∧ qf_X13_end nn a M1 = some (r, M2) ∧ WHm nn (t + 1) M2 c s := by
  obtain ⟨r, M1, M2, g1, g2, V⟩ := vr_end hn W.1 r1
  obtain ⟨r', N1, N2, f1, f2, T, F⟩ := end_2 (nn := nn) (a := a) W.1.2.2.1
  rw [g1] at f1; cases f1
  rw [g2] at f2; cases f2
  exact ⟨_, _, _, g1, g2, wh_tape (.inr rfl) F V W⟩
theorem wh_fault (W : WHm nn t M c s) {a : Int} : ∃ r, qf_X12_fault nn a M = some r ∧ qf_X13_fault nn a M = some r := fault_m (bva_v W.1.1) W.2.2.1
theorem wh_image (W : WHm nn t M c s) {a b : Int} (hb : in_R b) : ∃ r, qf_X12_image nn a b M = some r ∧ qf_X13_image nn a b M = some r := image_2 W.2.2.2.1 hb
theorem wh_where (W : WHm nn t M c s) {a : Int} : ∃ r, qf_X12_where nn a M = some r ∧ qf_X13_where nn a M = some r := where_2 W.2.2.2.2.1.1
theorem wh_out (W : WHm nn t M c s) {a : Int} : ∃ r, qf_X12_out nn a M = some r ∧ qf_X13_out nn a M = some r := out_2 W.2.2.2.2.1.2.1
theorem wh_look (W : WHm nn t M c s) {a : Int} : ∃ r, qf_X12_look nn a M = some r ∧ qf_X13_look nn a M = some r := by
  obtain ⟨Bf, nf, E, -⟩ := W.2.2.2.2.1.2.2.2
  exact look_2 W.2.2.2.2.1.2.1 W.1.2.2.1 E.1
theorem wh_type (hn : 1000000 ≤ nn) (W : WHm nn t M c s) {a b : Int} (r : in_R a) (r2 : in_R b) : ∃ r, qf_X12_type nn a b M = some r ∧ qf_X13_type_ nn a b M = some r := by
  obtain ⟨Bf, nf, E, -⟩ := W.2.2.2.2.1.2.2.2
  obtain ⟨⟨x, e1⟩, y, e2⟩ := bs_type hn r r2 W.1.1
  have q := type_2 (bva_v W.1.1) E e1 e2
  exact ⟨x, e1, by rw [q]; exact e2⟩
theorem wh_compile (hn : 1000000 ≤ nn) (ht : t < 512) (W : WHm nn t M c s) : ∃ r M1 c1 s1 M2, qf_X12_compile nn M = some (r, M1, c1, s1) ∧ qf_X13_compile nn M1 = some (r, M2) ∧ WHm nn (t + 1) M2 (c + c1) (s + s1) := by
  obtain ⟨w1, w2, w3, w4, w5, w6⟩ := W
  have VM := bva_v w1.1
  have J := w1.1.1.2.2.2
  obtain ⟨x, M1, c1, s1, y, M2, g1, g2, V'⟩ := vr_compile hn ht w1
  have V2 := bva_v V'.1
  have V1 : VS_ M1 := by
    obtain ⟨u, eu, C, -⟩ := cva_compile hn w1.1.1 (by have := w1.2.2.2.1; omega)
    rw [g1] at eu; cases eu
    exact C.1.1
  have F1 := fun c k q => (ff_X12_compile nn) _ g1 c k q
  have F2 := fun c k q => (ff_X13_compile nn) _ g2 c k q
  have C := cq_compile (nn := nn) w2 _ g1
  have O := ol_compile (nn := nn) VM _ g1
  obtain ⟨t1, t2, t3⟩ := w1.2.2.1
  have m1 : M 0 1 = ((M 0 1).toNat : Int) := (Int.toNat_of_nonneg t2.1).symm
  have R1 : ∀ x k : Nat, 160 ≤ x → x ≤ 255 → M1 x k = M x k := fun x k a b => F1 x k (nw_ref rfl ⟨a, b⟩)
  obtain ⟨n, FN⟩ := j_compile (nn := nn) (h := M) (r := M1) (m := (M 0 1).toNat) (by omega) hn V1 (fun k hk => by rw [R1 164 k (by omega) (by omega), R1 165 k (by omega) (by omega)]; exact w1.1.2.1.1.1 k hk) (vi_c VM) w2 (by rw [R1 160 88 (by omega) (by omega)]; have := w1.1.2.1.2.2.2; omega) m1 (by rw [R1 160 1 (by omega) (by omega), t1]; exact m1) (by omega) (fun i hi => ⟨gA_1 VM i (by omega), by rw [R1 161 i (by omega) (by omega)]; exact t3 i (by omega)⟩) _ g1 _ g2
  obtain ⟨q1, q2, q3⟩ := im_cmp VM V2 w4 g1 g2 C O FN
  have q1 : x = y := q1
  have lo : ∀ c k : Nat, c < 160 ∨ 256 ≤ c → M2 c k = M1 c k := fun c k q => F2 c k (nw_cls rfl q)
  have L : LFr M M2 := by
    refine ⟨fun c k a b => (lo c k (.inl b)).trans (C.2.1 c k a (by omega)), fun c k a b => (lo c k (.inr a)).trans (O.1 c k a b), fun k a => (lo 900001 k (.inr (by omega))).trans (C.2.2.2.1 k a), ?_, fun c k a b => (F2 c k (nw_rng (lo := 226) (hi := 255) rfl ⟨a, by omega⟩)).trans (R1 c k (by omega) (by omega)), fun k hk => ?_⟩
    · have e : cn_M M2 = cn_M M1 := by unfold cn_M; rw [lo 900000 0 (by omega)]
      rw [e]; exact O.2
    · refine Eq.trans ?_ (R1 160 k (by omega) (by omega))
      have all : ∀ k ∈ [98, 99, 123, 124, 125, 138, 139, 140, 141, 142, 143, 149], nw_F wl_X13_compile wf_X13_compile false false 160 k = true := by decide
      exact F2 160 k (all k (by simp only [List.mem_cons, List.not_mem_nil, or_false]; omega))
  refine ⟨x, M1, c1, s1, M2, g1, by rw [q1]; exact g2, V', kB_e C.1 (fun k => lo 6 k (by omega)) (fun k => lo 7 k (by omega)) (fun k => lo 8 k (by omega)) (fun k => lo 10 k (by omega)), q3, q2, srw_fr VM J L w5, dj_e (lo 56 3 (by omega)) (fun k => lo 43 k (by omega)) (fun k => lo 55 k (by omega)) (own_k V1 (fun c k a b => lo c k (.inl b))) (dj_cmp VM g1 C w6)⟩
end
end
section
/- THE LAW'S LEVEL: what bringing an Image leaves on both sides -/
section
variable {nn t n : Nat} {Bf : Nat → Nat → Int} {nf : Nat → Nat} {B : Nat → Int} {M M1 M2 h g : ms_M} {c s : Nat}
/-- an Image that is not taken leaves the order of the Images -/
theorem brg_60 (hn : 1000000 ≤ nn) {a1 : Nat} {a2 : Int} (V : VS_ h) (ta : a1 < cn_M h ∧ ly_T a1 = 1) (ha : 0 ≤ a2 ∧ a2 ≤ 6000) (hc : h 900000 0 < 700000) : Pc (qf_X7_bring nn a1 a2 h) (fun r => r.1 < 0 → (∀ k : Nat, r.2.1 60 k = h 60 k) ∧ r.2.1 56 3 = h 56 3) := by
  have hb := (vi_r V).1.2
  have g3 := gF_56_3 V
  have ib := im_at hb
  unfold qf_X7_bring
  refine pc_ck (fun _ => pc_ck (fun _ => pc_se (fun u3 e3 => ?_)))
  have F : ∀ c k, (c < (h 56 2).toNat ∨ (h 56 2).toNat + 6 < c) → u3.2 c k = h c k := fun c k q => (of_X3_read nn hb) _ e3 c k q
  have K : (∀ k : Nat, u3.2 60 k = h 60 k) ∧ u3.2 56 3 = h 56 3 := ⟨fun k => F 60 k (by omega), F 56 3 (by omega)⟩
  have V3 := (okof (vf_X3_read hn hb (by omega) (by omega) V ta ha) e3).1
  refine pc_if (fun c => ?_) (fun _ => pc_xl (fun _ _ => pc_ret (fun _ => K)))
  refine pc_ck (fun _ => pc_ck (fun _ => pc_if (fun _ => pc_ret (fun _ => K)) (fun c8 => ?_)))
  refine pc_ck (fun _ => pc_ck (fun _ => pc_se (fun _ _ => pc_ck (fun _ => pc_se (fun _ _ => pc_se (fun u15 _ => ?_))))))
  refine pc_if (fun _ => ?_) (fun _ => pc_ret (fun _ => K))
  refine pc_ck (fun _ => pc_se (fun u18 e18 => pc_se (fun u21 e21 => ?_)))
  have s9 : u3.2 900000 0 = h 900000 0 := F 900000 0 (by omega)
  have s2 : u3.2 56 2 = h 56 2 := F 56 2 (by omega)
  have s3 : u3.2 56 3 = h 56 3 := F 56 3 (by omega)
  rw [s2] at e18
  have k1 := (okof (vf_X3_keepOwn hb V3 (by omega)) e18).2.2.1
  have i21 := (sw_i e21).2
  have t18 : u18.1 56 3 = h 56 3 := by rw [k1 56 3 (by omega) (by omega)]; exact s3
  have t21 : u21 56 3 = h 56 3 := by rw [i21, up_n (by omega), up_n (by omega)]; exact t18
  refine pc_xl (fun v23 e23 => pc_xl (fun h24 e24 => pc_se (fun u26 e26 => pc_xl (fun v28 e28 => pc_xl (fun v29 e29 => pc_ret (fun q => ?_))))))
  exfalso
  rw [t21, oq_add_eq (by omega) (by omega) (by omega)] at e23
  have t26 : u26 56 3 = h 56 3 + 1 := by rw [rl_fr e26 56 3 (by omega), e24, up_s, e23]
  rw [t26, oq_add_eq (by omega) (by omega) (by omega)] at e28
  rw [e28, oq_sub_eq (by omega) (by omega) (by omega)] at e29
  have q : v29 < 0 := q
  omega
theorem csp_b (V : VS_ M2) (A : ACs M M2) (S : CSp Bf nf M) : CSp Bf nf M2 := by
  have e3 : M2 56 3 = M 56 3 := A _ _ (by omega) (by omega) (by omega)
  have g3 := gF_56_3 V
  rw [e3] at g3
  have ec : cn_M M2 = cn_M M := by unfold cn_M; rw [A _ _ (by omega) (by omega) (by omega)]
  have kc : ∀ k : Nat, k < 8 → kc_O (M 60 k).toNat = 3 := fun k hk => by
    have := (V.2.2.2.2.1 k hk).2
    rw [A 60 k (by omega) (by omega) (by omega)] at this; exact this
  obtain ⟨S1, ⟨n1, n2, n3, n4⟩, RD⟩ := S
  have rk : ∀ k : Nat, (k : Int) < M 56 3 → M2 (M2 60 k).toNat 0 = M (M 60 k).toNat 0 := fun k hk => by
    have id := im_at (kc k (by omega))
    rw [A 60 k (by omega) (by omega) (by omega)]
    exact A _ _ (by omega) (by omega) (by omega)
  refine ⟨fun k hk => ?_, ⟨?_, fun j hj => by rw [A _ _ (by omega) (by omega) (by omega)]; exact n2 j hj, fun j hj h2 => by rw [A _ _ (by omega) (by omega) (by omega)]; exact n3 j hj (by omega), fun k hk => by rw [A 58 _ (by omega) (by omega) (by omega), e3]; exact n4 k (by omega)⟩, fun j k hj hk jk => by rw [rk j (by omega), rk k (by omega)]; exact RD j k (by omega) (by omega) jk⟩
  · rw [A 60 k (by omega) (by omega) (by omega)]
    have X := S1 k (by omega)
    have hd := kc k (by omega)
    have id := im_at hd
    have t1 : ly_T (M (M 60 k).toNat 0).toNat = 1 := X.1.1.2.2.2.2.2.1
    have lt : (M (M 60 k).toNat 0).toNat < 160 ∨ 256 ≤ (M (M 60 k).toNat 0).toNat := ly_1r t1
    have nr : (M (M 60 k).toNat 0).toNat ≠ 143 ∧ (M (M 60 k).toNat 0).toNat ≠ 0 := ⟨fun z => by rw [z] at t1; exact absurd t1 (by decide), fun z => by rw [z] at t1; exact absurd t1 (by decide)⟩
    refine imc_s ⟨fun c i c1 c2 => A _ _ (by omega) (by omega) (by omega), fun i => A _ _ lt nr.1 nr.2, by omega, ?_⟩ X
    unfold ln_I
    split
    · rfl
    · exact A _ _ (by omega) (by omega) (by omega)
  · have ef : M2 (57 + 1) = M (57 + 1) := funext (fun j => A _ _ (by omega) (by omega) (by omega))
    unfold un_R
    rw [ef]
    intro x y hx hy
    rw [show M2 (57 + 2) (16 * x + y) = M (57 + 2) (16 * x + y) from A _ _ (by omega) (by omega) (by omega)]
    exact n1 x y hx hy
theorem vrw_f2 (e3 : M2 56 3 = M 56 3) (e4 : M2 56 4 = M 56 4) (L : ∀ c k : Nat, 68 ≤ c → c ≤ 70 → M2 c k = M c k) (C : ∀ c k : Nat, 143 ≤ c → c ≤ 152 → M2 c k = M c k) (C6 : ∀ k : Nat, M2 60 k = M 60 k) (D : ∀ c k : Nat, 246 ≤ c → c < 256 → M2 c k = M c k) (D6 : ∀ k : Nat, (138 ≤ k ∧ k ≤ 143) ∨ k = 149 → M2 160 k = M 160 k) (W : VRw Bf nf M) : VRw Bf nf M2 := by
  obtain ⟨w1, w2, w3⟩ := W
  have e1 : M2 143 1 = M 143 1 := C 143 1 (by omega) (by omega)
  refine ⟨fun q => ?_, ?_, fun q => ?_⟩
  · rw [e4] at q ⊢
    rw [e3]
    obtain ⟨x1, x2, x3, x4⟩ := w1 q
    exact ⟨x1, x2, x3, lkt_k x4 (fun c a b => funext (fun k => L c k a b))⟩
  · rw [e1, e3]
    exact w2.imp (fun q => q) (fun R => rnx_fr C C6 D D6 R)
  · rw [e4]; exact w3 (by rw [← e1]; exact q)
/-- no run is there -/
theorem rn_0 (a : M2 160 138 = 0) (b : M2 143 1 = 0 ∧ M2 143 2 = -1 ∧ M2 143 3 = 0 ∧ M2 143 4 = 0 ∧ M2 143 5 = 0 ∧ M2 143 6 = 0 ∧ M2 143 7 = 0) : rn_R M2 := by
  obtain ⟨b1, b2, b3, b4, b5, b6, b7⟩ := b
  exact ⟨by omega, by omega, fun _ => ⟨b2, b3, b4, b5, b6, b7⟩, fun q => absurd b1 q, fun q => by omega, fun _ _ => b2, fun q => by omega⟩
theorem fg_5 {u : ms_M} (e : qf_X5_forget nn h = some u) : (u 143 1 = 0 ∧ u 143 2 = -1 ∧ u 143 3 = 0 ∧ u 143 4 = 0 ∧ u 143 5 = 0 ∧ u 143 6 = 0 ∧ u 143 7 = 0) ∧ ∀ c k : Nat, ¬ (c = 143 ∧ 1 ≤ k ∧ k ≤ 7) → u c k = h c k := by
  unfold qf_X5_forget at e
  simp only [xl_eq] at e
  have e := Option.some.inj e
  rw [← e]
  refine ⟨⟨?_, ?_, ?_, ?_, ?_, ?_, up_s⟩, fun c k q => ?_⟩
  · rw [up_n (by omega), up_n (by omega), up_n (by omega), up_n (by omega), up_n (by omega), up_n (by omega), up_s]
  · rw [up_n (by omega), up_n (by omega), up_n (by omega), up_n (by omega), up_n (by omega), up_s]
  · rw [up_n (by omega), up_n (by omega), up_n (by omega), up_n (by omega), up_s]
  · rw [up_n (by omega), up_n (by omega), up_n (by omega), up_s]
  · rw [up_n (by omega), up_n (by omega), up_s]
  · rw [up_n (by omega), up_s]
  · rw [up_n (by omega), up_n (by omega), up_n (by omega), up_n (by omega), up_n (by omega), up_n (by omega), up_n (by omega)]
/-- an Image brought on both sides: the same answer, space and run alike -/
theorem br_fin (hn : 1000000 ≤ nn) (V : VS_ M) (SI : SI_ M) (J : OJ M) (S : SRw M) {a1 : Nat} {a2 : Int} (ta : a1 < cn_M M ∧ ly_T a1 = 1) (hs : a2 = (n : Int) ∧ n ≤ 6000 ∧ (n : Int) ≤ ln_I M a1) (hB : ∀ i : Nat, i < n → M a1 i % 256 = B i) (hc : M 900000 0 < 700000) {u : Int × ms_M × Nat × Nat} (e : qf_X7_bring nn a1 a2 M = some u) (h1 : ∀ c k : Nat, ¬ (c = 0 ∧ k = 1) → ¬ (c = 143 ∧ 1 ≤ k ∧ k ≤ 7) → M1 c k = u.2.1 c k) (hf : u.1 < 0 → ∀ k : Nat, M1 143 k = u.2.1 143 k) (hg : 0 ≤ u.1 → M1 143 1 = 0 ∧ M1 143 2 = -1 ∧ M1 143 3 = 0 ∧ M1 143 4 = 0 ∧ M1 143 5 = 0 ∧ M1 143 6 = 0 ∧ M1 143 7 = 0) (Vg : VS_ g) (g113 : g 160 113 = (n : Int)) (g238 : ∀ i, g 238 i = B i) (hx : ∀ x k : Nat, x ≠ 238 → ¬ (x = 160 ∧ (k = 1 ∨ k = 113)) → g x k = M1 x k) {z : Int × ms_M} (e2 : qf_X13_loaded nn g = some z) (Vz : VS_ z.2) : u.1 = z.1 ∧ SRw z.2 := by
  obtain ⟨⟨a1', a2', a3'⟩, R, th, Bf, nf, E, W⟩ := S
  have F1 := fun c k q => (ff_X7_bring nn) _ e c k q
  have Fz := fun c k q => (ff_X13_loaded nn) _ e2 c k q
  have lo : ∀ c k : Nat, c < 160 ∨ 256 ≤ c → z.2 c k = M1 c k := fun c k q => (Fz c k (nw_cls rfl q)).trans (hx c k (by omega) (by omega))
  have gr : ∀ c k : Nat, 160 ≤ c → c < 256 → c ≠ 238 → ¬ (c = 160 ∧ (k = 1 ∨ k = 113)) → g c k = M c k := fun c k q1 q2 q3 q4 => ((hx c k q3 q4).trans (h1 c k (by omega) (by omega))).trans (F1 c k (nw_ref rfl ⟨q1, by omega⟩))
  have E' := E
  obtain ⟨⟨p1, p2, p3⟩, -⟩ := E'
  obtain ⟨q0, Bg, ng, C, TB, e3, NK, K⟩ := ld_2 hn V SI J E ta hs hB hc e g Vg g113 g238 (fun x k x1 x2 => gr x k (by omega) (by omega) (by omega) (by omega)) (gr 160 98 (by omega) (by omega) (by omega) (by omega)) e2
  have z3 : z.2 56 3 = u.2.1 56 3 := (lo 56 3 (by omega)).trans (h1 56 3 (by omega) (by omega))
  have z4 : z.2 56 4 = u.2.1 56 4 := (lo 56 4 (by omega)).trans (h1 56 4 (by omega) (by omega))
  have r6 : ∀ k : Nat, k = 123 ∨ k = 124 ∨ k = 125 ∨ (139 ≤ k ∧ k ≤ 143) ∨ k = 149 → z.2 160 k = M 160 k := fun k hk => by
    refine Eq.trans (Fz 160 k ?_) (gr 160 k (by omega) (by omega) (by omega) (by omega))
    have all : ∀ k ∈ [123, 124, 125, 139, 140, 141, 142, 143, 149], nw_F wl_X13_loaded wf_X13_loaded false false 160 k = true := by decide
    exact all k (by simp only [List.mem_cons, List.not_mem_nil, or_false]; omega)
  have c127 : ∀ k : Nat, z.2 127 k = M 127 k := fun k => ((lo 127 k (by omega)).trans (h1 127 k (by omega) (by omega))).trans (F1 127 k (nw_ar rfl k))
  have SP : SPE Bg ng z.2 := by
    refine ⟨⟨by rw [z3]; exact e3.symm, gF_56_3 Vz, ?_⟩, csp_b Vz (fun c k q1 q2 q3 => (lo c k q1).trans (h1 c k (by omega) (by omega))) C, TB, by rw [z3]; exact NK⟩
    rw [z4]
    rcases K with ⟨-, -, k1, k2, -⟩ | ⟨-, k1, k2, -⟩
    · rw [k1, k2, ← p3]; exact gr 160 99 (by omega) (by omega) (by omega) (by omega)
    · rw [k1, k2]
  have WH : wh_R z.2 := ⟨by rw [r6 123 (by omega), c127]; exact a1', by rw [r6 124 (by omega), c127]; exact a2', by rw [r6 125 (by omega), c127]; exact a3'⟩
  have t20 : z.2 143 20 = 0 := (((lo 143 20 (by omega)).trans (h1 143 20 (by omega) (by omega))).trans (F1 143 20 rfl)).trans th
  rcases K with ⟨⟨rfl, rfl⟩, kf, k1, k2, k3⟩ | ⟨kf, k1, k2, k3⟩
  · have k60 := brg_60 hn V ta (by omega) hc _ e kf
    have c143 : ∀ c k : Nat, 143 ≤ c → c ≤ 152 → z.2 c k = M c k := fun c k q1 q2 => by
      have x1 : M1 c k = u.2.1 c k := by
        by_cases q : c = 143
        · rw [q]; exact hf kf k
        · exact h1 c k (by omega) (by omega)
      refine ((lo c k (by omega)).trans x1).trans ?_
      have : c = 143 ∨ c = 144 ∨ c = 145 ∨ c = 146 ∨ c = 147 ∨ c = 148 ∨ c = 149 ∨ c = 150 ∨ c = 151 ∨ c = 152 := by omega
      rcases this with rfl | rfl | rfl | rfl | rfl | rfl | rfl | rfl | rfl | rfl <;> exact F1 _ k (nw_ar rfl k)
    have c68 : ∀ c k : Nat, 68 ≤ c → c ≤ 70 → z.2 c k = M c k := fun c k q1 q2 => by
      refine ((lo c k (by omega)).trans (h1 c k (by omega) (by omega))).trans ?_
      have : c = 68 ∨ c = 69 ∨ c = 70 := by omega
      rcases this with rfl | rfl | rfl <;> exact F1 _ k (nw_ar rfl k)
    have D : ∀ c k : Nat, 246 ≤ c → c < 256 → z.2 c k = M c k := fun c k q1 q2 => (Fz c k (nw_rng (lo := 246) (hi := 255) rfl ⟨q1, by omega⟩)).trans (gr c k (by omega) q2 (by omega) (by omega))
    have D6 : ∀ k : Nat, (138 ≤ k ∧ k ≤ 143) ∨ k = 149 → z.2 160 k = M 160 k := fun k q => by
      by_cases q8 : k = 138
      · rw [q8, k3]; exact gr 160 138 (by omega) (by omega) (by omega) (by omega)
      · exact r6 k (by omega)
    have m3 : z.2 56 3 = M 56 3 := z3.trans k60.2
    exact ⟨q0, WH, rn_fr c143 D D6 R, t20, _, _, SP, vrw_f2 m3 (z4.trans k1) c68 c143 (fun k => ((lo 60 k (by omega)).trans (h1 60 k (by omega) (by omega))).trans (k60.1 k)) D D6 W⟩
  · have b := hg kf
    have l : ∀ k : Nat, z.2 143 k = M1 143 k := fun k => lo 143 k (by omega)
    refine ⟨q0, WH, rn_0 k3 (by rw [l, l, l, l, l, l, l]; exact b), t20, Bg, ng, SP, fun q => absurd (z4.trans k1) q, .inl ((l 1).trans b.1), fun q => ?_⟩
    rw [l 1, b.1] at q
    exact absurd q (by decide)
end
end
section
/- THE LAW'S LEVEL: load and keep -/
section
variable {nn t n : Nat} {M M1 M2 h g : ms_M} {c s : Nat}
theorem ko_fr {b : Nat} (c256 : 256 ≤ cn_M h) (hb : b < 256) {u : ms_M × Nat × Nat} (e : qf_X3_keepOwn nn b h = some u) : (∀ c k, c ≠ cn_M h → c < 900000 → ¬ (c = b ∧ k = 0) → u.1 c k = h c k) ∧ u.1 b 0 = (cn_M h : Int) ∧ cn_M u.1 = cn_M h + 1 ∧ ∀ c, c < cn_M h → u.1 900001 c = h 900001 c := by
  unfold qf_X3_keepOwn at e
  obtain ⟨-, e⟩ := ck_i e
  obtain ⟨w, ew, e⟩ := sv_i e
  unfold qf_J7_copyOf_9075b at ew
  split at ew
  · rename_i hq
    have cm : cn_M h < 700000 := by unfold cn_M; omega
    have ew := Option.some.inj ew
    unfold wr_R at e
    split at e
    · have e := Option.some.inj e
      rw [← e, ← ew]
      refine ⟨fun c k q1 q2 q3 => ?_, up_s, ?_, fun c hcc => ?_⟩
      · dsimp only
        rw [up_n q3]
        unfold nw_M
        rw [if_neg q1, if_neg (by omega), if_neg (by omega)]
      · dsimp only
        unfold cn_M at cm ⊢
        rw [up_n (by omega)]
        unfold nw_M cn_M
        rw [if_neg (by omega), if_pos ⟨rfl, rfl⟩]
        omega
      · dsimp only
        rw [up_n (by omega)]
        unfold nw_M
        rw [if_neg (by omega), if_neg (by omega), if_neg (by omega)]
    · cases e
  · cases ew
/-- bringing leaves the rows of bytes; own bytes are old ones or new -/
theorem brg_by (hn : 1000000 ≤ nn) {a1 : Nat} {a2 : Int} (V : VS_ h) (SI : SI_ h) (ta : a1 < cn_M h ∧ ly_T a1 = 1) (ha : 0 ≤ a2 ∧ a2 ≤ 6000) (hc : h 900000 0 < 700000) : Pc (qf_X7_bring nn a1 a2 h) (fun r => ((∀ c k : Nat, 256 ≤ c → c < cn_M h → r.2.1 c k = h c k) ∧ (∀ c : Nat, c < cn_M h → r.2.1 900001 c = h 900001 c) ∧ cn_M h ≤ cn_M r.2.1) ∧ ∀ j : Nat, (j : Int) < r.2.1 56 3 → r.2.1 (r.2.1 60 j).toNat 0 = (cn_M h : Int) ∨ ∃ i : Nat, (i : Int) < h 56 3 ∧ r.2.1 (r.2.1 60 j).toNat 0 = h (h 60 i).toNat 0) := by
  have hb := (vi_r V).1.2
  have h0 := (vi_r V).1.1
  have g3 := gF_56_3 V
  have ib := im_at hb
  have c256 := vi_c V
  have cm : cn_M h < 700000 := by unfold cn_M; omega
  unfold qf_X7_bring
  refine pc_ck (fun _ => pc_ck (fun _ => pc_se (fun u3 e3 => ?_)))
  have F : ∀ c k, (c < (h 56 2).toNat ∨ (h 56 2).toNat + 6 < c) → u3.2 c k = h c k := fun c k q => (of_X3_read nn hb) _ e3 c k q
  have s9 : u3.2 900000 0 = h 900000 0 := F 900000 0 (by omega)
  have s2 : u3.2 56 2 = h 56 2 := F 56 2 (by omega)
  have s3 : u3.2 56 3 = h 56 3 := F 56 3 (by omega)
  have cn3 : cn_M u3.2 = cn_M h := by unfold cn_M; rw [s9]
  have ds : ∀ j : Nat, j < 8 → (h 60 j).toNat ≠ (h 56 2).toNat ∧ ((h 60 j).toNat < (h 56 2).toNat ∨ (h 56 2).toNat + 6 < (h 60 j).toNat) ∧ (61 ≤ (h 60 j).toNat ∧ (h 60 j).toNat ≤ 153) := fun j hj => by
    have hd := V.2.2.2.2.1 j hj
    have ne : (h 60 j).toNat ≠ (h 56 2).toNat := fun q => SI.2.2 j hj (by omega)
    have id := im_at hd.2
    exact ⟨ne, (im_dis hb hd.2 ne).1, by omega⟩
  have K : ((∀ c k : Nat, 256 ≤ c → c < cn_M h → u3.2 c k = h c k) ∧ (∀ c : Nat, c < cn_M h → u3.2 900001 c = h 900001 c) ∧ cn_M h ≤ cn_M u3.2) ∧ ∀ j : Nat, (j : Int) < u3.2 56 3 → u3.2 (u3.2 60 j).toNat 0 = (cn_M h : Int) ∨ ∃ i : Nat, (i : Int) < h 56 3 ∧ u3.2 (u3.2 60 j).toNat 0 = h (h 60 i).toNat 0 := by
    refine ⟨⟨fun c k a b => F c k (by omega), fun c a => F 900001 c (by omega), by omega⟩, fun j hj => .inr ⟨j, by omega, ?_⟩⟩
    rw [F 60 j (by omega)]
    exact F _ _ (ds j (by omega)).2.1
  have V3 := (okof (vf_X3_read hn hb (by omega) (by omega) V ta ha) e3).1
  refine pc_if (fun c => ?_) (fun _ => pc_xl (fun _ _ => pc_ret K))
  refine pc_ck (fun _ => pc_ck (fun _ => pc_if (fun _ => pc_ret K) (fun c8 => ?_)))
  refine pc_ck (fun _ => pc_ck (fun _ => pc_se (fun _ _ => pc_ck (fun _ => pc_se (fun _ _ => pc_se (fun u15 _ => ?_))))))
  refine pc_if (fun _ => ?_) (fun _ => pc_ret K)
  refine pc_ck (fun _ => pc_se (fun u18 e18 => pc_se (fun u21 e21 => ?_)))
  rw [s2] at e18
  obtain ⟨k1, k2, k3, k4⟩ := ko_fr (by omega) (by omega) e18
  rw [cn3] at k1 k2 k3 k4
  have i21 := (sw_i e21).2
  have t18 : u18.1 56 3 = h 56 3 := by rw [k1 56 3 (by omega) (by omega) (by omega)]; exact s3
  have t182 : u18.1 56 2 = h 56 2 := by rw [k1 56 2 (by omega) (by omega) (by omega)]; exact s2
  refine pc_xl (fun v23 e23 => pc_xl (fun h24 e24 => pc_se (fun u26 e26 => pc_xl (fun v28 e28 => pc_xl (fun v29 e29 => pc_ret ?_)))))
  rw [show u21 56 3 = h 56 3 by rw [i21, up_n (by omega), up_n (by omega)]; exact t18, oq_add_eq (by omega) (by omega) (by omega)] at e23
  have L : ∀ c k : Nat, c ≠ 56 → c ≠ 58 → c ≠ 59 → ¬ (c = 60 ∧ k = (h 56 3).toNat) → u26 c k = u18.1 c k := fun c k q1 q2 q3 q4 => by
    rw [rl_fr e26 c k (by omega), e24, up_n (by omega), i21, up_n (by omega), up_n (by rw [t18]; exact q4)]
  have l60 : u26 60 (h 56 3).toNat = h 56 2 := by
    rw [rl_fr e26 60 _ (by omega), e24, up_n (by omega), i21, up_n (by omega), t18, up_s]; exact t182
  have l3 : u26 56 3 = h 56 3 + 1 := by rw [rl_fr e26 56 3 (by omega), e24, up_s, e23]
  refine ⟨⟨fun c k a b => ?_, fun c a => ?_, ?_⟩, fun j hj => ?_⟩
  · show u26 c k = h c k
    rw [L c k (by omega) (by omega) (by omega) (by omega), k1 c k (by omega) (by omega) (by omega)]
    exact F c k (by omega)
  · show u26 900001 c = h 900001 c
    rw [L _ c (by omega) (by omega) (by omega) (by omega), k4 c a]
    exact F _ c (by omega)
  · show cn_M h ≤ cn_M u26
    have : cn_M u26 = cn_M u18.1 := by unfold cn_M; rw [L 900000 0 (by omega) (by omega) (by omega) (by omega)]
    omega
  · have hj : (j : Int) < u26 56 3 := hj
    rw [l3] at hj
    by_cases q : j = (h 56 3).toNat
    · refine .inl ?_
      show u26 (u26 60 j).toNat 0 = _
      rw [q, l60, L _ 0 (by omega) (by omega) (by omega) (by omega)]
      exact k2
    · refine .inr ⟨j, by omega, ?_⟩
      show u26 (u26 60 j).toNat 0 = _
      have d := ds j (by omega)
      have e60 : u26 60 j = h 60 j := by
        rw [L 60 j (by omega) (by omega) (by omega) (by omega), k1 60 j (by omega) (by omega) (by omega)]
        exact F 60 j (by omega)
      rw [e60, L _ 0 (by omega) (by omega) (by omega) (by omega), k1 _ 0 (by omega) (by omega) (by omega)]
      exact F _ 0 d.2.1
/-- images told, and where they lie, behind a bringing -/
theorem br_im (hn : 1000000 ≤ nn) {a1 : Nat} {a2 : Int} (V : VS_ M) (V2 : VS_ M2) (SI : SI_ M) (ta : a1 < cn_M M ∧ ly_T a1 = 1) (ha : 0 ≤ a2 ∧ a2 ≤ 6000) (hc : M 900000 0 < 700000) {u : Int × ms_M × Nat × Nat} (e : qf_X7_bring nn a1 a2 M = some u) (h1 : ∀ c k : Nat, ¬ (c = 0 ∧ k = 1) → ¬ (c = 143 ∧ 1 ≤ k ∧ k ≤ 7) → c < 160 ∨ 256 ≤ c → M2 c k = u.2.1 c k) (r1 : ∀ k : Nat, M2 221 k = M 221 k) (r2 : ∀ k : Nat, M2 222 k = M 222 k) (r3 : M2 160 93 = M 160 93) (r9 : M2 160 9 = M 160 9) (r10 : M2 160 10 = M 160 10) (K : KNB M) (T : FTm M) (R : im_R M) (D : DJ M) : KNB M2 ∧ FTm M2 ∧ im_R M2 ∧ DJ M2 := by
  obtain ⟨⟨b1, b2, b3⟩, b4⟩ := brg_by hn V SI ta ha hc _ e
  have L := brg_c hn (a1 := a1) (a2 := a2) V ta ha hc _ e
  have lo : ∀ c k : Nat, c < 56 → ¬ (c = 0 ∧ k = 1) → M2 c k = M c k := fun c k q1 q2 => (h1 c k q2 (by omega) (by omega)).trans (L c k q1)
  have c256 := vi_c V
  refine ⟨kB_e K (fun k => lo 6 k (by omega) (by omega)) (fun k => lo 7 k (by omega) (by omega)) (fun k => lo 8 k (by omega) (by omega)) (fun k => lo 10 k (by omega) (by omega)), ft_fr (lo 2 11 (by omega) (by omega)) (lo 2 12 (by omega) (by omega)) r9 r10 T, ?_, fun j hj c hc8 => ?_⟩
  · obtain ⟨x1, x2, x3⟩ := R
    have e7 : M2 0 7 = M 0 7 := lo 0 7 (by omega) (by omega)
    refine ⟨by rw [r3, e7]; exact x1, by rw [e7]; exact x2, fun k hk => ?_⟩
    rw [e7] at hk
    obtain ⟨⟨y1, y2⟩, y3, y4, y5⟩ := x3 k hk
    rw [lo 55 k (by omega) (by omega), r2]
    refine ⟨⟨y1, ?_⟩, y3, ?_, fun i hi => ?_⟩
    · have : cn_M M2 = cn_M u.2.1 := by unfold cn_M; rw [h1 900000 0 (by omega) (by omega) (by omega)]
      omega
    · rw [h1 900001 _ (by omega) (by omega) (by omega), b2 _ y2]; exact y4
    · rw [r1, h1 _ i (by omega) (by omega) (by omega), b1 _ i (by omega) y2]; exact y5 i hi
  · have e3 : M2 56 3 = u.2.1 56 3 := h1 56 3 (by omega) (by omega) (by omega)
    have g3 := gF_56_3 V2
    have id := im_at (V2.2.2.2.2.1 j (by omega)).2
    have e60 : M2 60 j = u.2.1 60 j := h1 60 j (by omega) (by omega) (by omega)
    have eo : M2 (M2 60 j).toNat 0 = u.2.1 (u.2.1 60 j).toNat 0 := by
      rw [h1 _ 0 (by omega) (by omega) (by omega), e60]
    rw [eo, lo 43 c (by omega) (by omega), lo 55 c (by omega) (by omega)]
    rcases b4 j (by omega) with q | ⟨i, q1, q2⟩
    · rw [q]
      exact ⟨fun z => by have := (V.2.2.2.2.2.2.1 c hc8 (by omega)).1; omega, fun z => by have := (V.2.2.2.2.2.2.2 c hc8 (by omega)).1; omega⟩
    · rw [q2]; exact D i q1 c hc8
/-- the reference copies the tape, then loads -/
theorem rl_10 : ∀ (k : Nat) (l1 : Int) (h : ms_M), VS_ h → 0 ≤ l1 → (∀ i : Nat, (i : Int) < l1 → h 238 i = h 161 i) → Pc (qw_X13_load_10 nn k l1 h) (fun w => ∃ g, VS_ g ∧ g 160 113 = h 160 113 ∧ (∀ i : Nat, (i : Int) < h 160 1 → g 238 i = h 161 i) ∧ (∀ x k : Nat, x ≠ 238 → ¬ (x = 160 ∧ k = 1) → g x k = h x k) ∧ qf_X13_loaded nn g = some w) := by
  intro k
  induction k with
  | zero => intros; exact pc_none
  | succ k ih =>
    intro l1 h V l0 A
    unfold qw_X13_load_10
    refine pc_if (fun q => pc_xl (fun h2 e2 => pc_se (fun u4 e4 => pc_ret ?_))) (fun q => pc_rA (fun b1 b2 v7 e7 => pc_wA (fun b3 b4 h8 e8 => pc_xl (fun v9 e9 => ?_))))
    · refine ⟨h2, by rw [e2]; exact wF_160_1 V (by omega), by rw [e2, up_n (by omega)], fun i hi => ?_, fun x k q1 q2 => by rw [e2, up_n (by omega)], e4⟩
      rw [e2, up_n (by omega)]; exact A i (by omega)
    · rw [oq_add_eq (by omega) (by omega) (by omega)] at e9
      have g7 := gA_161 V l1.toNat (by omega)
      rw [← e7] at g7
      have V8 : VS_ h8 := by rw [e8]; exact wA_238 V g7
      have N : ∀ x k : Nat, x ≠ 238 → h8 x k = h x k := fun x k q => by rw [e8, up_n (by omega)]
      rw [e9]
      refine pc_imp (ih _ _ V8 (by omega) (fun i hi => ?_)) (fun w ⟨g, w1, w2, w3, w4, w5⟩ => ⟨g, w1, w2.trans (N _ _ (by omega)), fun i hi => (w3 i (by rw [N _ _ (by omega)]; exact hi)).trans (N _ _ (by omega)), fun x k q1 q2 => (w4 x k q1 q2).trans (N x k q1), w5⟩)
      rw [N 161 i (by omega), e8]
      by_cases q : i = l1.toNat
      · rw [q, up_s, e7]
      · rw [up_n (by omega)]; exact A i (by omega)
theorem rl_26 {l1 : Int} (l10 : 0 ≤ l1 ∧ l1 ≤ 8) : ∀ (k : Nat) (l2 : Int) (h : ms_M), VS_ h → 0 ≤ l2 → (∀ i : Nat, (i : Int) < l2 → h 238 i = h 221 (6000 * l1.toNat + i)) → Pc (qw_X13_keep_26 nn k l1 l2 h) (fun w => ∃ g, VS_ g ∧ g 160 113 = h 160 113 ∧ (∀ i : Nat, (i : Int) < h 160 113 → g 238 i = h 221 (6000 * l1.toNat + i)) ∧ (∀ x k : Nat, x ≠ 238 → g x k = h x k) ∧ qf_X13_loaded nn g = some w) := by
  intro k
  induction k with
  | zero => intros; exact pc_none
  | succ k ih =>
    intro l2 h V l0 A
    unfold qw_X13_keep_26
    refine pc_if (fun q => pc_se (fun u4 e4 => pc_ret ⟨h, V, rfl, fun i hi => A i (by omega), fun _ _ _ => rfl, e4⟩)) (fun q => pc_xl (fun v6 e6 => pc_xl (fun v7 e7 => pc_rA (fun b1 b2 v8 e8 => pc_wA (fun b3 b4 h9 e9 => pc_xl (fun v9 e10 => ?_))))))
    rw [oq_mul_eq (by omega) (by omega) (by omega)] at e6
    rw [e6, oq_add_eq (by omega) (by omega) (by omega)] at e7
    rw [oq_add_eq (by omega) (by omega) (by omega)] at e10
    have t7 : v7.toNat = 6000 * l1.toNat + l2.toNat := by omega
    have g8 := gA_221 V v7.toNat (by omega)
    rw [← e8] at g8
    have V9 : VS_ h9 := by rw [e9]; exact wA_238 V g8
    have N : ∀ x k : Nat, x ≠ 238 → h9 x k = h x k := fun x k q => by rw [e9, up_n (by omega)]
    rw [e10]
    refine pc_imp (ih _ _ V9 (by omega) (fun i hi => ?_)) (fun w ⟨g, w1, w2, w3, w4, w5⟩ => ⟨g, w1, w2.trans (N _ _ (by omega)), fun i hi => (w3 i (by rw [N _ _ (by omega)]; exact hi)).trans (N _ _ (by omega)), fun x k q1 => (w4 x k q1).trans (N x k q1), w5⟩)
    rw [N 221 _ (by omega), e9]
    by_cases q : i = l2.toNat
    · rw [q, up_s, e8, t7]
    · rw [up_n (by omega)]; exact A i (by omega)
theorem ld_i {w : Int × ms_M × Nat × Nat} (e : qf_X12_load nn M = some w) : ∃ u, qf_X7_bring nn 1 (M 0 1) M = some u ∧ w.1 = u.1 ∧ ((u.1 < 0 ∧ w.2.1 = up_M u.2.1 0 1 0) ∨ (0 ≤ u.1 ∧ qf_X5_forget nn (up_M u.2.1 0 1 0) = some w.2.1)) := by
  unfold qf_X12_load at e
  obtain ⟨u, eu, e⟩ := sv_i e
  rw [xl_eq] at e
  refine ⟨u, eu, ?_⟩
  by_cases d : u.1 < 0
  · rw [if_pos d] at e; cases e; exact ⟨rfl, .inl ⟨d, rfl⟩⟩
  · rw [if_neg d] at e
    obtain ⟨u9, e9, e⟩ := sv_i e
    cases e
    exact ⟨rfl, .inr ⟨by omega, e9⟩⟩
theorem wh_load (hn : 1000000 ≤ nn) (ht : t < 512) (W : WHm nn t M c s) : ∃ r M1 c1 s1 M2, qf_X12_load nn M = some (r, M1, c1, s1) ∧ qf_X13_load nn M1 = some (r, M2) ∧ WHm nn (t + 1) M2 (c + c1) (s + s1) := by
  obtain ⟨w1, w2, w3, w4, w5, w6⟩ := W
  have VM := bva_v w1.1
  have J := w1.1.1.2.2.2
  have SI := w1.1.1.1.2.2.1
  have hc : M 900000 0 < 700000 := by have := w1.2.2.2.1; omega
  obtain ⟨x, M1, c1, s1, y, M2, g1, g2, V'⟩ := vr_load hn ht w1
  have V2 := bva_v V'.1
  have V1 : VS_ M1 := by
    obtain ⟨u, eu, C, -⟩ := cva_load (p := 20000 * (t : Int)) hn (by omega) w1.1.1 hc
    rw [g1] at eu; cases eu
    exact C.1.1
  have F1 := fun c k q => (ff_X12_load nn) _ g1 c k q
  have F2 := fun c k q => (ff_X13_load nn) _ g2 c k q
  have R1 : ∀ x k : Nat, 160 ≤ x → x ≤ 255 → M1 x k = M x k := fun x k a b => F1 x k (nw_ref rfl ⟨a, b⟩)
  obtain ⟨t1, t2, t3⟩ := w1.2.2.1
  have m1 : M 0 1 = ((M 0 1).toNat : Int) := (Int.toNat_of_nonneg t2.1).symm
  obtain ⟨u, eu, i1, i2⟩ := ld_i g1
  have i1 : x = u.1 := i1
  -- the class's memory against what bringing left
  have H1 : (∀ c k : Nat, ¬ (c = 0 ∧ k = 1) → ¬ (c = 143 ∧ 1 ≤ k ∧ k ≤ 7) → M1 c k = u.2.1 c k) ∧ (u.1 < 0 → ∀ k : Nat, M1 143 k = u.2.1 143 k) ∧ (0 ≤ u.1 → M1 143 1 = 0 ∧ M1 143 2 = -1 ∧ M1 143 3 = 0 ∧ M1 143 4 = 0 ∧ M1 143 5 = 0 ∧ M1 143 6 = 0 ∧ M1 143 7 = 0) := by
    rcases i2 with ⟨d, e⟩ | ⟨d, e⟩
    · have e : M1 = up_M u.2.1 0 1 0 := e
      rw [e]
      exact ⟨fun c k q _ => up_n q, fun _ k => up_n (by omega), fun q => by omega⟩
    · obtain ⟨f1, f2⟩ := fg_5 e
      exact ⟨fun c k q q2 => (f2 c k q2).trans (up_n q), fun q => by omega, fun _ => f1⟩
  -- the reference
  have g2' := g2
  unfold qf_X13_load at g2'
  rw [xl_eq] at g2'
  have V12 : VS_ (up_M M1 160 113 (M1 160 1)) := wF_160_113 V1 (by rw [R1 160 1 (by omega) (by omega), t1]; exact t2)
  obtain ⟨g, Vg, g113, g238, gx, gl⟩ := rl_10 (nn := nn) _ _ _ V12 (Int.le_refl 0) (fun i hi => by omega) _ g2'
  rw [up_s, R1 160 1 (by omega) (by omega), t1] at g113
  have gB : ∀ i : Nat, (i : Int) < M 0 1 → g 238 i = M 161 i := fun i hi => by
    rw [g238 i (by rw [up_n (by omega), R1 160 1 (by omega) (by omega), t1]; exact hi), up_n (by omega)]; exact R1 161 i (by omega) (by omega)
  have ta : 1 < cn_M M ∧ ly_T 1 = 1 := ⟨by have := vi_c VM; omega, rfl⟩
  have fin := br_fin (nn := nn) (M1 := M1) (n := (M 0 1).toNat) (B := fun i => g 238 i) hn VM SI J w5 ta (a2 := M 0 1) ⟨m1, by omega, by show ((M 0 1).toNat : Int) ≤ 6000; omega⟩ (fun i hi => by rw [gB i (by omega)]; exact (t3 i (by omega)).symm) hc eu H1.1 H1.2.1 H1.2.2 Vg (by rw [g113]; exact m1) (fun i => rfl) (fun x k q1 q2 => by rw [gx x k q1 (by omega), up_n (by omega)]) gl V2
  have q1 : x = y := i1.trans fin.1
  obtain ⟨z1, z2, z3, z4⟩ := br_im (nn := nn) (M2 := M2) hn VM V2 SI ta (a2 := M 0 1) t2 hc eu (fun c k q1 q2 q3 => (F2 c k (nw_cls rfl q3)).trans (H1.1 c k q1 q2)) (fun k => (F2 221 k (nw_ar rfl k)).trans (R1 221 k (by omega) (by omega))) (fun k => (F2 222 k (nw_ar rfl k)).trans (R1 222 k (by omega) (by omega))) ((F2 160 93 rfl).trans (R1 160 93 (by omega) (by omega))) ((F2 160 9 rfl).trans (R1 160 9 (by omega) (by omega))) ((F2 160 10 rfl).trans (R1 160 10 (by omega) (by omega))) w2 w3 w4 w6
  exact ⟨x, M1, c1, s1, M2, g1, by rw [q1]; exact g2, V', z1, z2, z3, fin.2, z4⟩
end
end
section
/- THE LAW'S LEVEL: keep and clear -/
section
variable {nn t n : Nat} {M M1 M2 h g : ms_M} {c s : Nat}
theorem kp_i24 {s0 : Int} {c s : Nat} {w : Int × ms_M × Nat × Nat} (e : qj_X12_keep_24 nn s0 h c s = some w) : w.1 = s0 ∧ ((s0 < 0 ∧ w.2.1 = h) ∨ (0 ≤ s0 ∧ qf_X5_forget nn h = some w.2.1)) := by
  unfold qj_X12_keep_24 at e
  by_cases d : s0 < 0
  · rw [if_pos d] at e; cases e; exact ⟨rfl, .inl ⟨d, rfl⟩⟩
  · rw [if_neg d] at e
    obtain ⟨u3, e3, e⟩ := sv_i e
    cases e
    exact ⟨rfl, .inr ⟨by omega, e3⟩⟩
theorem im_f2 (O : ∀ c k : Nat, 256 ≤ c → c < cn_M M → M2 c k = M c k) (L : ∀ k : Nat, k < cn_M M → M2 900001 k = M 900001 k) (N : cn_M M ≤ cn_M M2) (a : ∀ k : Nat, M2 55 k = M 55 k) (b : ∀ k : Nat, M2 221 k = M 221 k) (d : ∀ k : Nat, M2 222 k = M 222 k) (e : M2 0 7 = M 0 7) (f : M2 160 93 = M 160 93) (R : im_R M) : im_R M2 := by
  obtain ⟨r1, r2, r3⟩ := R
  refine ⟨by rw [f, e]; exact r1, by rw [e]; exact r2, fun k hk => ?_⟩
  rw [e] at hk
  obtain ⟨⟨x1, x2⟩, x3, x4, x5⟩ := r3 k hk
  rw [a, d]
  refine ⟨⟨x1, Nat.lt_of_lt_of_le x2 N⟩, x3, (L _ x2).trans x4, fun i hi => ?_⟩
  rw [b, O _ i (by omega) x2]
  exact x5 i hi
theorem wh_keep (hn : 1000000 ≤ nn) (ht : t < 512) (W : WHm nn t M c s) {a : Int} : ∃ r M1 c1 s1 M2, qf_X12_keep nn a M = some (r, M1, c1, s1) ∧ qf_X13_keep nn a M1 = some (r, M2) ∧ WHm nn (t + 1) M2 (c + c1) (s + s1) := by
  obtain ⟨w1, w2, w3, w4, w5, w6⟩ := W
  have VM := bva_v w1.1
  have J := w1.1.1.2.2.2
  have SI := w1.1.1.1.2.2.1
  have hc : M 900000 0 < 700000 := by have := w1.2.2.2.1; omega
  obtain ⟨x, M1, c1, s1, y, M2, g1, g2, V'⟩ := vr_keep hn ht w1 (a := a)
  have V2 := bva_v V'.1
  have V1 : VS_ M1 := by
    obtain ⟨u, eu, C, -⟩ := cva_keep (p := 20000 * (t : Int)) hn (by omega) w1.1.1 hc (a1 := a)
    rw [g1] at eu; cases eu
    exact C.1.1
  have F1 := fun c k q => (ff_X12_keep nn) _ g1 c k q
  have F2 := fun c k q => (ff_X13_keep nn) _ g2 c k q
  have R1 : ∀ x k : Nat, 160 ≤ x → x ≤ 255 → M1 x k = M x k := fun x k a b => F1 x k (nw_ref rfl ⟨a, b⟩)
  obtain ⟨m1, m2, m3⟩ := w4
  by_cases A : 0 ≤ a ∧ a < M 0 7
  · obtain ⟨⟨y1, y2⟩, y3, y4, y5⟩ := m3 a.toNat (by omega)
    have im : qf_X12_imageOf nn a M = some (M 55 a.toNat) := by
      unfold qf_X12_imageOf
      rw [if_neg (by omega), if_neg (by omega), if_neg (by omega), rd_ok (by omega)]
    have R := (okof (vf_X12_imageOf VM) im).resolve_left (by omega)
    have e := g1
    unfold qf_X12_keep at e
    obtain ⟨u6, e6, e⟩ := sv_i e
    rw [im] at e6
    cases e6
    rw [if_neg (by omega)] at e
    unfold ln_S at e
    rw [if_pos ⟨R.1, by have := R.2.1; omega⟩] at e
    obtain ⟨u, eu, e⟩ := sv_i e
    obtain ⟨i1, i2⟩ := kp_i24 e
    have i1 : x = u.1 := i1
    have ln : ln_I M (M 55 a.toNat).toNat = M 222 a.toNat := by
      unfold ln_I; rw [if_neg (by omega)]; exact y4
    have H1 : (∀ c k : Nat, ¬ (c = 0 ∧ k = 1) → ¬ (c = 143 ∧ 1 ≤ k ∧ k ≤ 7) → M1 c k = u.2.1 c k) ∧ (u.1 < 0 → ∀ k : Nat, M1 143 k = u.2.1 143 k) ∧ (0 ≤ u.1 → M1 143 1 = 0 ∧ M1 143 2 = -1 ∧ M1 143 3 = 0 ∧ M1 143 4 = 0 ∧ M1 143 5 = 0 ∧ M1 143 6 = 0 ∧ M1 143 7 = 0) := by
      rcases i2 with ⟨d, e⟩ | ⟨d, e⟩
      · have e : M1 = u.2.1 := e
        rw [e]
        exact ⟨fun c k q _ => rfl, fun _ k => rfl, fun q => by omega⟩
      · obtain ⟨f1, f2⟩ := fg_5 e
        exact ⟨fun c k q q2 => f2 c k q2, fun q => by omega, fun _ => f1⟩
    have g2' := g2
    unfold qf_X13_keep at g2'
    have e93 : M1 160 93 = M 0 7 := (R1 160 93 (by omega) (by omega)).trans m1
    have e222 : M1 222 a.toNat = M 222 a.toNat := R1 222 _ (by omega) (by omega)
    rw [if_neg (by omega), if_pos (by omega), rd_ok (by omega), xl_eq, e222] at g2'
    have V12 : VS_ (up_M M1 160 113 (M 222 a.toNat)) := wF_160_113 V1 y3
    obtain ⟨g, Vg, g113, g238, gx, gl⟩ := rl_26 (nn := nn) (l1 := a) (by omega) _ _ _ V12 (Int.le_refl 0) (fun i hi => by omega) _ g2'
    rw [up_s] at g113 g238
    have gB : ∀ i : Nat, (i : Int) < M 222 a.toNat → g 238 i = M 221 (6000 * a.toNat + i) := fun i hi => by
      rw [g238 i hi, up_n (by omega)]; exact R1 221 _ (by omega) (by omega)
    have en : M 222 a.toNat = ((M 222 a.toNat).toNat : Int) := (Int.toNat_of_nonneg y3.1).symm
    have fin := br_fin (nn := nn) (M1 := M1) (n := (M 222 a.toNat).toNat) (B := fun i => g 238 i) hn VM SI J w5 ⟨R.1, R.2.1⟩ (a2 := ln_I M (M 55 a.toNat).toNat) ⟨by rw [ln]; exact en, by omega, by rw [ln]; omega⟩ (fun i hi => by rw [gB i (by omega)]; exact (y5 i (by omega)).1.symm) hc eu H1.1 H1.2.1 H1.2.2 Vg (by rw [g113]; exact en) (fun i => rfl) (fun x k q1 q2 => by rw [gx x k q1, up_n (by omega)]) gl V2
    have q1 : x = y := i1.trans fin.1
    obtain ⟨z1, z2, z3, z4⟩ := br_im (nn := nn) (M2 := M2) hn VM V2 SI ⟨R.1, R.2.1⟩ (a2 := ln_I M (M 55 a.toNat).toNat) (by rw [ln]; exact y3) hc eu (fun c k q1 q2 q3 => (F2 c k (nw_cls rfl q3)).trans (H1.1 c k q1 q2)) (fun k => (F2 221 k (nw_ar rfl k)).trans (R1 221 k (by omega) (by omega))) (fun k => (F2 222 k (nw_ar rfl k)).trans (R1 222 k (by omega) (by omega))) ((F2 160 93 rfl).trans (R1 160 93 (by omega) (by omega))) ((F2 160 9 rfl).trans (R1 160 9 (by omega) (by omega))) ((F2 160 10 rfl).trans (R1 160 10 (by omega) (by omega))) w2 w3 ⟨m1, m2, m3⟩ w6
    exact ⟨x, M1, c1, s1, M2, g1, by rw [q1]; exact g2, V', z1, z2, z3, fin.2, z4⟩
  · have im : qf_X12_imageOf nn a M = some (-1) := by
      unfold qf_X12_imageOf
      by_cases a0 : a < 0
      · rw [if_pos a0]
      · rw [if_neg a0, if_pos (by omega)]
    have e := g1
    unfold qf_X12_keep at e
    obtain ⟨u6, e6, e⟩ := sv_i e
    rw [im] at e6
    cases e6
    rw [if_pos (by decide)] at e
    obtain ⟨i1, i2⟩ := kp_i24 e
    have i1 : x = -1 := i1
    have i2 : M1 = M := (i2.resolve_right (fun q => absurd q.1 (by decide))).2
    have g2' := g2
    rw [i2] at g2'
    unfold qf_X13_keep at g2'
    have r2 : y = -1 ∧ M2 = M := by
      by_cases a0 : a < 0
      · rw [if_pos a0] at g2'; cases g2'; exact ⟨rfl, rfl⟩
      · rw [if_neg a0, if_neg (by omega)] at g2'; cases g2'; exact ⟨rfl, rfl⟩
    refine ⟨x, M1, c1, s1, M2, g1, by rw [i1, ← r2.1]; exact g2, V', ?_⟩
    rw [r2.2]
    exact ⟨w2, w3, ⟨m1, m2, m3⟩, w5, w6⟩
theorem wh_clear (hn : 1000000 ≤ nn) (W : WHm nn t M c s) : ∃ M1 M2, qf_X12_clear nn M = some M1 ∧ qf_X13_clear nn M1 = some M2 ∧ WHm nn (t + 1) M2 c s := by
  obtain ⟨w1, w2, w3, w4, w5, w6⟩ := W
  have VM := bva_v w1.1
  obtain ⟨M1, M2, g1, g2, V'⟩ := vr_clear hn w1
  obtain ⟨N1, N2, f1, f2, sp, rn, e3, e4, b58, un, F⟩ := clear_2 (nn := nn) (by omega) (vi_c VM)
  rw [g1] at f1; cases f1
  rw [g2] at f2; cases f2
  have e138 : M2 160 138 = 0 := by
    unfold qf_X13_clear at g2
    rw [xl_eq, xl_eq, xl_eq] at g2
    have g2 := Option.some.inj g2
    rw [← g2]; exact up_s
  have e1 : M2 143 1 = 0 := by rw [← rn.1]; exact e138
  obtain ⟨⟨a1, a2, a3⟩, -, th, -⟩ := w5
  have big : ∀ c k : Nat, 256 ≤ c → M2 c k = M c k := fun c k q => F c k (nw_big rfl q)
  have L : cn_M M ≤ cn_M M2 := by unfold cn_M; rw [big 900000 0 (by omega)]; exact Nat.le_refl _
  refine ⟨M1, M2, g1, g2, V', kB_e w2 (fun k => F 6 k (nw_ar rfl k)) (fun k => F 7 k (nw_ar rfl k)) (fun k => F 8 k (nw_ar rfl k)) (fun k => F 10 k (nw_ar rfl k)), ft_fr (F 2 11 rfl) (F 2 12 rfl) (F 160 9 rfl) (F 160 10 rfl) w3, im_f2 (fun c k a _ => big c k a) (fun k _ => big 900001 k (by omega)) L (fun k => F 55 k (nw_ar rfl k)) (fun k => F 221 k (nw_ar rfl k)) (fun k => F 222 k (nw_ar rfl k)) (F 0 7 rfl) (F 160 93 rfl) w4, ⟨⟨?_, ?_, ?_⟩, rn, (F 143 20 rfl).trans th, fun _ _ => 0, fun _ => 0, ⟨sp, ⟨fun k hk => ?_, ⟨un, fun j hj => b58 j (by omega), fun j hj h2 => ?_, fun k hk => ?_⟩, fun j k hj _ _ => ?_⟩, fun k hk => ?_, fun j hj => ?_⟩, ⟨fun q => absurd e4 q, .inl e1, fun q => ?_⟩⟩, fun j hj => ?_⟩
  · rw [F 160 123 rfl, F 127 2 rfl]; exact a1
  · rw [F 160 124 rfl, F 127 3 rfl]; exact a2
  · rw [F 160 125 rfl, F 127 4 rfl]; exact a3
  · rw [e3] at hk; omega
  · rw [b58 j hj]
    rw [e3] at h2
    unfold bi_A
    rw [if_neg (by omega), if_neg (by omega)]
  · rw [e3] at hk; omega
  · rw [e3] at hj; omega
  · rw [sp.1, e3] at hk; omega
  · rw [e3] at hj; omega
  · rw [e1] at q; exact absurd q (by decide)
  · rw [e3] at hj; omega
end
end
section
/- THE LAW'S LEVEL: patch -/
section
variable {nn t n : Nat} {M M1 M2 h g : ms_M} {c s : Nat}
/-- what the class's change writes -/
theorem chg_f (hn : 1000000 ≤ nn) {a1 a2 a3 : Int} (V : VS_ h) (SI : SI_ h) (J : OJ h) {w : Int × ms_M} (e : qf_X7_change nn a1 a2 a3 h = some w) : (w.1 = 0 ∧ ∀ c k : Nat, (c < (h 56 2).toNat ∨ (h 56 2).toNat + 6 < c) → w.2 c k = h c k) ∨ (w.1 = 1 ∧ ∃ j0 : Nat, (j0 : Int) < h 56 3 ∧ (∀ c k : Nat, (c < (h 56 2).toNat ∨ (h 56 2).toNat + 6 < c) → ¬ c = (h (h 60 j0).toNat 0).toNat → c ≠ 58 → c ≠ 59 → ¬ (c = 60 ∧ k = j0) → ¬ (c = 56 ∧ (k = 2 ∨ k = 4)) → w.2 c k = h c k) ∧ w.2 60 j0 = h 56 2 ∧ w.2 (h 56 2).toNat 0 = h (h 60 j0).toNat 0) := by
  have hb := (vi_r V).1.2
  have h0 := (vi_r V).1.1
  have ib := im_at hb
  have hM := V.2.1.1
  have g3 := gF_56_3 V
  unfold qf_X7_change at e
  obtain ⟨u4, e4, e⟩ := sv_i e
  have same : w = (0, h) → w.1 = 0 ∧ ∀ c k : Nat, (c < (h 56 2).toNat ∨ (h 56 2).toNat + 6 < c) → w.2 c k = h c k := fun q => by rw [q]; exact ⟨rfl, fun _ _ _ => rfl⟩
  by_cases c1 : u4 < 0
  · rw [if_pos c1] at e; cases e; exact .inl (same rfl)
  rw [if_neg c1] at e
  by_cases c2 : a2 < 0
  · rw [if_pos c2] at e; cases e; exact .inl (same rfl)
  rw [if_neg c2] at e
  obtain ⟨hd, e⟩ := ck_i e
  by_cases c3 : ¬ a2 < h u4.toNat 1
  · rw [if_neg c3] at e; cases e; exact .inl (same rfl)
  rw [if_pos (Decidable.not_not.1 c3)] at e
  have c3 := Decidable.not_not.1 c3
  have I4 : (8 ≤ a1 ∧ a1 < 8 + h 56 3) ∧ u4 = h 60 (a1 - 8).toNat := by
    unfold qf_X7_imageOf at e4
    split at e4
    · cases e4; omega
    · rw [xl_eq, oq_add_eq (by omega) (by omega) (by omega)] at e4
      split at e4
      · cases e4; omega
      · rw [xl_eq, oq_sub_eq (by omega) (by omega) (by omega)] at e4
        have e4 := rd_i e4
        cases e4
        exact ⟨by omega, rfl⟩
  obtain ⟨ra, e4⟩ := I4
  have Jd := J (a1 - 8).toNat (by omega)
  rw [← e4] at Jd
  obtain ⟨u9, e9, e⟩ := sv_i e
  have Bd := vi_b V hd
  have e9 : u9 = h u4.toNat 0 := by
    unfold qf_X3_ownBytes at e9
    obtain ⟨-, e9⟩ := ck_i e9
    have e9 := Option.some.inj e9
    rw [← e9]
    exact Int.toNat_of_nonneg Bd.1.1
  obtain ⟨-, e⟩ := ck_i e
  have e := rt_i e
  rw [xl_eq] at e
  obtain ⟨hw, e⟩ := wti_ e
  have n9 : 256 ≤ u9.toNat := by rw [e9]; exact Jd.1
  have l9 : u9.toNat < 700001 := by have := hw.1.1; unfold cn_M at this; omega
  have f13 : ∀ c k, ¬ (c = u9.toNat ∧ k = a2.toNat) → up_M h u9.toNat a2.toNat (oq_b (oq_b a3)) c k = h c k := fun c k w => up_n w
  have V13 : VS_ (up_M h u9.toNat a2.toNat (oq_b (oq_b a3))) := vs_wt (v := oq_b a3) V hw
  generalize up_M h u9.toNat a2.toNat (oq_b (oq_b a3)) = h13 at *
  obtain ⟨-, e⟩ := ck_i e
  obtain ⟨hb13, e⟩ := ck_i e
  obtain ⟨u17, e17, e⟩ := sv_i e
  have s2 : h13 56 2 = h 56 2 := f13 _ _ (by omega)
  rw [s2] at e17
  have F17 : ∀ c k, (c < (h 56 2).toNat ∨ (h 56 2).toNat + 6 < c) → u17.2 c k = h13 c k := fun c k w => (of_X3_read nn hb) _ e17 c k w
  have F : ∀ c k, (c < (h 56 2).toNat ∨ (h 56 2).toNat + 6 < c) → ¬ (c = u9.toNat ∧ k = a2.toNat) → u17.2 c k = h c k := fun c k w1 w2 => (F17 c k w1).trans (f13 c k w2)
  have a13 : h13 u4.toNat 1 = h u4.toNat 1 := f13 _ _ (by have := im_at hd; omega)
  obtain ⟨x0, -⟩ := f3_read (nn := nn) hb hw.1.2 (by omega) V13 _ e17
  have back : ∀ {r : Int × ms_M}, qj_X7_change_72 nn a2 ((u9.toNat : Nat) : Int) (h u9.toNat a2.toNat) u17.2 = some r → r.1 = 0 ∧ ∀ c k : Nat, (c < (h 56 2).toNat ∨ (h 56 2).toNat + 6 < c) → r.2 c k = h c k := by
    intro r e
    unfold qj_X7_change_72 at e
    obtain ⟨-, e⟩ := ck_i e
    obtain ⟨hw2, e⟩ := wti_ e
    cases e
    refine ⟨rfl, fun c k w => ?_⟩
    show up_M u17.2 ((u9.toNat : Nat) : Int).toNat a2.toNat (oq_b (h u9.toNat a2.toNat)) c k = h c k
    rw [Int.toNat_natCast]
    by_cases y : c = u9.toNat ∧ k = a2.toNat
    · rw [y.1, y.2, up_s]
      exact oq_b_id (vi_y V hw.1.1 hw.1.2 (by have := hw.2; omega))
    · rw [up_n y]; exact F c k w y
  by_cases d1 : ¬ u17.1 = -1
  · rw [if_pos d1] at e; exact .inl (back e)
  rw [if_neg d1] at e
  obtain ⟨u19, e19, e⟩ := sv_i e
  by_cases d2 : u19 = 0
  · rw [if_pos d2, xl_eq, oq_sub_eq (by omega) (by omega) (by omega)] at e
    obtain ⟨u22, e22, e⟩ := sv_i e
    obtain ⟨u24, e24, e⟩ := sv_i e
    cases e
    have i22 := (sw_i e22).2
    have q2 : u17.2 56 2 = h 56 2 := F 56 2 (by omega) (by omega)
    refine .inr ⟨rfl, (a1 - 8).toNat, by omega, fun c k z1 z2 z3 z4 z5 z6 => ?_, ?_, ?_⟩
    · rw [← e4, ← e9] at z2
      show u24 c k = h c k
      rw [rl_fr e24 c k (by omega), i22, up_n (by omega), up_n z5]
      exact F c k z1 (by omega)
    · show u24 60 (a1 - 8).toNat = _
      rw [rl_fr e24 60 _ (by omega), i22, up_n (by omega), up_s]; exact q2
    · show u24 (h 56 2).toNat 0 = _
      rw [rl_fr e24 _ 0 (by omega), i22, up_n (by omega), up_n (by omega), x0, ← e4, ← e9]
      omega
  · rw [if_neg d2] at e; exact .inl (back e)
theorem pt_i {a b v : Int} {w : Int × ms_M} (e : qf_X12_patch nn a b v M = some w) : ∃ u, qf_X7_change nn a b v M = some u ∧ w.1 = u.1 ∧ ((u.1 = 0 ∧ w.2 = u.2) ∨ (¬ u.1 = 0 ∧ qf_X5_forget nn u.2 = some w.2)) := by
  unfold qf_X12_patch at e
  obtain ⟨u, eu, e⟩ := sv_i e
  refine ⟨u, eu, ?_⟩
  by_cases d : u.1 = 0
  · rw [if_pos d] at e
    obtain ⟨-, e⟩ := ck_i e
    cases e; exact ⟨rfl, .inl ⟨d, rfl⟩⟩
  · rw [if_neg d] at e
    obtain ⟨u7, e7, e⟩ := sv_i e
    obtain ⟨-, e⟩ := ck_i e
    cases e
    exact ⟨rfl, .inr ⟨d, e7⟩⟩
theorem wh_patch (hn : 1000000 ≤ nn) (W : WHm nn t M c s) {a b d : Int} (r1 : in_R a) (r2 : in_R b) (r3 : in_R d) : ∃ r M1 M2, qf_X12_patch nn a b d M = some (r, M1) ∧ qf_X13_patch nn a b d M1 = some (r, M2) ∧ WHm nn (t + 1) M2 c s := by
  obtain ⟨w1, w2, w3, w4, w5, w6⟩ := W
  have VM := bva_v w1.1
  have J := w1.1.1.2.2.2
  have SI := w1.1.1.1.2.2.1
  have hM := VM.2.1.1
  have cm : cn_M M ≤ 700000 := by unfold cn_M; omega
  have c256 := vi_c VM
  have h0 := (vi_r VM).1.1
  have hb := (vi_r VM).1.2
  have ib := im_at hb
  have g3 := gF_56_3 VM
  obtain ⟨x, M1, y, M2, g1, g2, V'⟩ := vr_patch hn w1 (b := b) (d := d) r1
  have V2 := bva_v V'.1
  have V1 : VS_ M1 := by
    obtain ⟨u, eu, C⟩ := cva_patch (p := 20000 * (t : Int)) hn (by omega) r1 w1.1.1 (a2 := b) (a3 := d)
    rw [g1] at eu; cases eu
    exact C.1.1
  have F1 := fun c k q => (ff_X12_patch nn) _ g1 c k q
  have F2 := fun c k q => (ff_X13_patch nn) _ g2 c k q
  have R1 : ∀ x k : Nat, 160 ≤ x → x ≤ 255 → M1 x k = M x k := fun x k a b => F1 x k (nw_ref rfl ⟨a, b⟩)
  obtain ⟨u, eu, i1, i2⟩ := pt_i g1
  have i1 : x = u.1 := i1
  have Fu := fun c k q => (ff_X7_change nn) _ eu c k q
  obtain ⟨⟨a1', a2', a3'⟩, R, th, Bf, nf, E, VW⟩ := w5
  have E' := E
  obtain ⟨⟨p1, p2, p3⟩, -⟩ := E'
  obtain ⟨q0, Bg, C, TB, e3, NK, K⟩ := pt_2 hn VM SI J E cm r1 r2 r3 eu V1 (fun x k x1 x2 => R1 x k (by omega) (by omega)) (R1 160 98 (by omega) (by omega)) g2
  have q1 : x = y := i1.trans q0
  have G := chg_f hn VM SI J eu
  have h1 : ∀ c k : Nat, ¬ (c = 143 ∧ 1 ≤ k ∧ k ≤ 7) → M1 c k = u.2 c k := fun c k q => by
    rcases i2 with ⟨-, e⟩ | ⟨-, e⟩
    · have e : M1 = u.2 := e
      rw [e]
    · exact (fg_5 e).2 c k q
  have lo : ∀ c k : Nat, c < 160 ∨ 256 ≤ c → M2 c k = M1 c k := fun c k q => F2 c k (nw_cls rfl q)
  have lu : ∀ c k : Nat, c < 160 ∨ 256 ≤ c → ¬ (c = 143 ∧ 1 ≤ k ∧ k ≤ 7) → M2 c k = u.2 c k := fun c k q q2 => (lo c k q).trans (h1 c k q2)
  have z3 : M2 56 3 = u.2 56 3 := lu 56 3 (by omega) (by omega)
  have z4 : M2 56 4 = u.2 56 4 := lu 56 4 (by omega) (by omega)
  have r6 : ∀ k : Nat, k = 123 ∨ k = 124 ∨ k = 125 ∨ (139 ≤ k ∧ k ≤ 143) ∨ k = 149 ∨ k = 9 ∨ k = 10 ∨ k = 93 → M2 160 k = M 160 k := fun k hk => by
    refine Eq.trans (F2 160 k ?_) (R1 160 k (by omega) (by omega))
    have all : ∀ k ∈ [123, 124, 125, 139, 140, 141, 142, 143, 149, 9, 10, 93], nw_F wl_X13_patch wf_X13_patch false false 160 k = true := by decide
    exact all k (by simp only [List.mem_cons, List.not_mem_nil, or_false]; omega)
  have c127 : ∀ k : Nat, M2 127 k = M 127 k := fun k => (lu 127 k (by omega) (by omega)).trans (Fu 127 k (nw_ar rfl k))
  have SP : SPE Bg nf M2 := by
    refine ⟨⟨by rw [z3]; exact e3.symm, gF_56_3 V2, ?_⟩, csp_b V2 (fun c k q1 q2 q3 => lu c k q1 (by omega)) C, TB, by rw [z3]; exact NK⟩
    rw [z4]
    rcases K with ⟨-, -, k1, k2, -⟩ | ⟨-, k1, k2, -⟩
    · have k2 : M2 160 99 = M1 160 99 := k2
      rw [k1, k2, ← p3]; exact R1 160 99 (by omega) (by omega)
    · have k2 : M2 160 99 = 0 := k2
      rw [k1, k2]
  have WH : wh_R M2 := ⟨by rw [r6 123 (by omega), c127]; exact a1', by rw [r6 124 (by omega), c127]; exact a2', by rw [r6 125 (by omega), c127]; exact a3'⟩
  have t20 : M2 143 20 = 0 := ((lu 143 20 (by omega) (by omega)).trans (Fu 143 20 rfl)).trans th
  have lw : ∀ c k : Nat, c < 56 → M2 c k = M c k := fun c k q => (lu c k (by omega) (by omega)).trans (chg_k VM J eu c k q)
  have im : ∀ c k : Nat, (∀ j : Nat, (j : Int) < M 56 3 → ¬ c = (M (M 60 j).toNat 0).toNat) → 256 ≤ c → M2 c k = M c k := fun c k q q2 => by
    rw [lu c k (by omega) (by omega)]
    rcases G with ⟨-, G⟩ | ⟨-, j0, hj, G, -⟩
    · exact G c k (by omega)
    · exact G c k (by omega) (q j0 hj) (by omega) (by omega) (by omega) (by omega)
  have ow : ∀ j : Nat, (j : Int) < M 56 3 → 0 ≤ M (M 60 j).toNat 0 ∧ (M (M 60 j).toNat 0).toNat < cn_M M := fun j hj => by
    have b := (vi_b VM (VM.2.2.2.2.1 j (by omega)).2).1
    exact ⟨b.1, b.2.1⟩
  have big : ∀ k : Nat, M2 900001 k = M 900001 k := fun k => im 900001 k (fun j hj => by have := (ow j hj).2; omega) (by omega)
  have cnk : cn_M M2 = cn_M M := by unfold cn_M; rw [im 900000 0 (fun j hj => by have := (ow j hj).2; omega) (by omega)]
  have IM : im_R M2 := by
    obtain ⟨x1, x2, x3⟩ := w4
    have e7 : M2 0 7 = M 0 7 := lw 0 7 (by omega)
    have R2 : ∀ k : Nat, M2 221 k = M 221 k ∧ M2 222 k = M 222 k := fun k => ⟨(F2 221 k (nw_ar rfl k)).trans (R1 221 k (by omega) (by omega)), (F2 222 k (nw_ar rfl k)).trans (R1 222 k (by omega) (by omega))⟩
    refine ⟨by rw [r6 93 (by omega), e7]; exact x1, by rw [e7]; exact x2, fun k hk => ?_⟩
    rw [e7] at hk
    obtain ⟨⟨y1, y2⟩, y3, y4, y5⟩ := x3 k hk
    rw [lw 55 k (by omega), (R2 k).2, cnk, big]
    refine ⟨⟨y1, y2⟩, y3, y4, fun i hi => ?_⟩
    rw [(R2 _).1, im _ i (fun j hj q => (w6 j hj k (by omega)).2 (by have := (ow j hj).1; omega)) (by omega)]
    exact y5 i hi
  have DD : DJ M2 := fun j hj c hc8 => by
    rw [lw 43 c (by omega), lw 55 c (by omega)]
    have o1 : M2 (M2 60 j).toNat 0 = u.2 (u.2 60 j).toNat 0 := by
      have id := im_at (V2.2.2.2.2.1 j (by have := gF_56_3 V2; omega)).2
      have e60 : M2 60 j = u.2 60 j := lu 60 j (by omega) (by omega)
      rw [lu _ 0 (by omega) (by omega), e60]
    rw [o1]
    have ds : ∀ j : Nat, j < 8 → ((M 60 j).toNat < (M 56 2).toNat ∨ (M 56 2).toNat + 6 < (M 60 j).toNat) ∧ (61 ≤ (M 60 j).toNat ∧ (M 60 j).toNat ≤ 153) := fun j hj => by
      have hd := VM.2.2.2.2.1 j hj
      have ne : (M 60 j).toNat ≠ (M 56 2).toNat := fun q => SI.2.2 j hj (by omega)
      have id := im_at hd.2
      exact ⟨(im_dis hb hd.2 ne).1, by omega⟩
    rcases G with ⟨-, G⟩ | ⟨-, j0, hj0, G, G60, G0⟩
    · have e3' : u.2 56 3 = M 56 3 := G 56 3 (by omega)
      have d := ds j (by omega)
      rw [G 60 j (by omega), G _ 0 d.1]
      exact w6 j (by omega) c hc8
    · have e3' : u.2 56 3 = M 56 3 := G 56 3 (by omega) (by have := (J j0 hj0).1; omega) (by omega) (by omega) (by omega) (by omega)
      by_cases q : j = j0
      · rw [q, G60, G0]; exact w6 j0 hj0 c hc8
      · have d := ds j (by omega)
        have n0 := (J j0 hj0).1
        rw [G 60 j (by omega) (by omega) (by omega) (by omega) (by omega) (by omega), G _ 0 d.1 (by omega) (by omega) (by omega) (by omega) (by omega)]
        exact w6 j (by omega) c hc8
  have RN : rn_R M2 ∧ ∃ (Bf : Nat → Nat → Int) (nf : Nat → Nat), SPE Bf nf M2 ∧ VRw Bf nf M2 := by
    rcases K with ⟨rfl, kf, k1, k2, k3⟩ | ⟨kf, k1, k2, k3⟩
    · have G := (G.resolve_right (fun q => by omega)).2
      have e1 : M1 = u.2 := (i2.resolve_right (fun q => q.1 kf)).2
      have c143 : ∀ c k : Nat, 143 ≤ c → c ≤ 152 → M2 c k = M c k := fun c k q1 q2 => by
        rw [lo c k (by omega), e1]; exact Fu c k (by
          have : c = 143 ∨ c = 144 ∨ c = 145 ∨ c = 146 ∨ c = 147 ∨ c = 148 ∨ c = 149 ∨ c = 150 ∨ c = 151 ∨ c = 152 := by omega
          rcases this with rfl | rfl | rfl | rfl | rfl | rfl | rfl | rfl | rfl | rfl <;> exact nw_ar rfl k)
      have c68 : ∀ c k : Nat, 68 ≤ c → c ≤ 70 → M2 c k = M c k := fun c k q1 q2 => by
        rw [lo c k (by omega), e1]; exact Fu c k (by
          have : c = 68 ∨ c = 69 ∨ c = 70 := by omega
          rcases this with rfl | rfl | rfl <;> exact nw_ar rfl k)
      have D : ∀ c k : Nat, 246 ≤ c → c < 256 → M2 c k = M c k := fun c k q1 q2 => (F2 c k (nw_rng (lo := 246) (hi := 255) rfl ⟨q1, by omega⟩)).trans (R1 c k (by omega) (by omega))
      have D6 : ∀ k : Nat, (138 ≤ k ∧ k ≤ 143) ∨ k = 149 → M2 160 k = M 160 k := fun k q => by
        by_cases q8 : k = 138
        · rw [q8]
          have k3 : M2 160 138 = M1 160 138 := k3
          rw [k3]; exact R1 160 138 (by omega) (by omega)
        · exact r6 k (by omega)
      have m3 : M2 56 3 = M 56 3 := z3.trans (G 56 3 (by omega))
      exact ⟨rn_fr c143 D D6 R, _, _, SP, vrw_f2 m3 (z4.trans k1) c68 c143 (fun k => (lu 60 k (by omega) (by omega)).trans (G 60 k (by omega))) D D6 VW⟩
    · have e1 := (i2.resolve_left (fun q => by omega)).2
      have b := (fg_5 e1).1
      have l : ∀ k : Nat, M2 143 k = M1 143 k := fun k => lo 143 k (by omega)
      refine ⟨rn_0 k3 (by rw [l, l, l, l, l, l, l]; exact b), Bg, nf, SP, fun q => absurd (z4.trans k1) q, .inl ((l 1).trans b.1), fun q => ?_⟩
      rw [l 1] at q
      have b1 : M1 143 1 = 0 := b.1
      rw [b1] at q
      exact absurd q (by decide)
  exact ⟨x, M1, M2, g1, by rw [q1]; exact g2, V', kB_e w2 (fun k => lw 6 k (by omega)) (fun k => lw 7 k (by omega)) (fun k => lw 8 k (by omega)) (fun k => lw 10 k (by omega)), ft_fr (lw 2 11 (by omega)) (lw 2 12 (by omega)) (r6 9 (by omega)) (r6 10 (by omega)) w3, IM, ⟨WH, RN.1, t20, RN.2⟩, DD⟩
end
end

/- COMPILE LEAVES THE OLDER ROWS OF BYTES -/
theorem nw_big {L : List Nat} {LF : List (Nat × Nat)} {c k : Nat} (h : (L.all (fun x => Nat.blt x 256) && LF.all (fun q => Nat.blt q.1 256)) = true) (hc : 256 ≤ c) : nw_F L LF false false c k = true := by
  rw [Bool.and_eq_true] at h
  unfold nw_F
  simp only [Bool.and_eq_true]
  refine ⟨?_, ?_, rfl, rfl⟩
  · cases hq : L.contains c with
    | false => rfl
    | true => have := List.all_eq_true.mp h.1 c (List.contains_iff_mem.mp hq); rw [Nat.blt_eq] at this; omega
  · cases hq : LF.contains (c, k) with
    | false => rfl
    | true => have := List.all_eq_true.mp h.2 _ (List.contains_iff_mem.mp hq); rw [Nat.blt_eq] at this; omega
theorem ho_B {nn cc kk : Nat} (hc : 256 ≤ cc) {a : Int} {g q : ms_M} (e : qf_X2_addKindByte nn a g = some q) : q cc kk = g cc kk := (ff_X2_addKindByte nn) _ e cc kk (nw_big rfl hc)
theorem ho_20 {nn cc kk : Nat} (hc : 256 ≤ cc) {l2 : Int} {h r : ms_M} (e : qj_X2_addKind_20 nn l2 h = some r) : r cc kk = h cc kk := by
  unfold qj_X2_addKind_20 at e
  obtain ⟨u1, e1, e⟩ := sv_i e
  split at e
  · obtain ⟨u3, e3, e⟩ := sv_i e
    have e := rd_i e
    obtain ⟨u10, e10, e⟩ := sv_i e
    obtain ⟨u14, e14, e⟩ := sv_i e
    unfold xl at e
    obtain ⟨u21, e21, e⟩ := sv_i e
    cases e
    rw [ho_B hc e21, up_n (by omega), cpn_fr e10 _ _ (by omega), ho_B hc e3]
  · split at e
    · split at e
      · obtain ⟨u, e2, e⟩ := sv_i e; cases e; exact ho_B hc e2
      · obtain ⟨u, e2, e⟩ := sv_i e; cases e; exact ho_B hc e2
    · obtain ⟨u, e2, e⟩ := sv_i e; cases e; exact ho_B hc e2
theorem ho_A {nn cc kk : Nat} (hc : 256 ≤ cc) {l2 : Int} {h r : ms_M} (e : qf_X2_addKind nn l2 h = some r) : r cc kk = h cc kk := by
  unfold qf_X2_addKind at e
  obtain ⟨u1, e1, e⟩ := sv_i e
  split at e
  · exact ho_20 hc e
  · obtain ⟨u3, e3, e⟩ := sv_i e
    obtain ⟨u4, e4, e⟩ := sv_i e
    rw [ho_20 hc e, ho_B hc e3]
theorem ho_N {nn cc kk : Nat} (hc : 256 ≤ cc) {l2 : Int} {h : ms_M} {r : Int × ms_M} (e : qf_X2_nameKind nn l2 h = some r) : r.2 cc kk = h cc kk := by
  unfold qf_X2_nameKind xl at e
  obtain ⟨u3, e3, e⟩ := sv_i e
  obtain ⟨u8, e8, e⟩ := sv_i e
  cases e
  have z : u8.2 cc kk = u3 cc kk := (ff_X9_nameOf nn) _ e8 cc kk (nw_big rfl hc)
  show u8.2 cc kk = _
  rw [z, ho_A hc e3, up_n (by omega)]
theorem ho_M13 {nn cc kk : Nat} (hc : 256 ≤ cc) : ∀ (k : Nat) (l1 l2 : Int) {h : ms_M} {r : Int × ms_M}, qw_X2_nameMethodKind_13 nn k l1 l2 h = some r → r.2 cc kk = h cc kk := by
  intro k
  induction k with
  | zero => intro l1 l2 h r e; cases e
  | succ k ih =>
    intro l1 l2 h r e
    unfold qw_X2_nameMethodKind_13 at e
    have e := rd_i e
    split at e
    · obtain ⟨u4, e4, e⟩ := sv_i e
      have e := rd_i e
      obtain ⟨u8, e8, e⟩ := sv_i e
      obtain ⟨u13, e13, e⟩ := sv_i e
      cases e
      have z : u13.2 cc kk = u8 cc kk := (ff_X9_nameOf nn) _ e13 cc kk (nw_big rfl hc)
      show u13.2 cc kk = _
      rw [z, ho_A hc e8, ho_B hc e4]
    · obtain ⟨u15, e15, e⟩ := sv_i e
      obtain ⟨u17, e17, e⟩ := sv_i e
      unfold xl at e
      rw [ih _ _ e, ho_A hc e17]
theorem ho_M {nn cc kk : Nat} (hc : 256 ≤ cc) {a1 : Int} {h : ms_M} {r : Int × ms_M} (e : qf_X2_nameMethodKind nn a1 h = some r) : r.2 cc kk = h cc kk := by
  unfold qf_X2_nameMethodKind xl at e
  obtain ⟨u22, e22, e⟩ := sv_i e
  rw [ho_M13 hc _ _ _ e, ho_B hc e22, up_n (by omega)]
theorem ho_144 {nn cc kk : Nat} (hc : 256 ≤ cc) : ∀ (k : Nat) (l1 : Int) {h r : ms_M}, qw_X2_nameKinds_144 nn k l1 h = some r → r cc kk = h cc kk := by
  intro k
  induction k with
  | zero => intro l1 h r e; cases e
  | succ k ih =>
    intro l1 h r e
    unfold qw_X2_nameKinds_144 at e
    split at e
    · cases e; rfl
    · split at e
      · cases e; rfl
      · obtain ⟨u6, e6, e⟩ := sv_i e
        split at e
        · exact ih _ e
        · obtain ⟨u10, e10, e⟩ := sv_i e
          have e := wa_i e
          have := ih _ e
          rw [this, up_n (by omega), ho_M hc e10]
theorem ho_85 {nn cc kk : Nat} (hc : 256 ≤ cc) : ∀ (k : Nat) (l1 : Int) {h r : ms_M}, qw_X2_nameKinds_85 nn k l1 h = some r → r cc kk = h cc kk := by
  intro k
  induction k with
  | zero => intro l1 h r e; cases e
  | succ k ih =>
    intro l1 h r e
    unfold qw_X2_nameKinds_85 at e
    split at e
    · exact ho_144 hc _ _ e
    · split at e
      · exact ho_144 hc _ _ e
      · unfold xl at e
        have e := rd_i e
        split at e
        · exact ih _ e
        · have e := rd_i e
          obtain ⟨u29, e29, e⟩ := sv_i e
          have e := wa_i e
          have := ih _ e
          rw [this, up_n (by omega), ho_N hc e29]
theorem ho_59 {nn cc kk : Nat} (hc : 256 ≤ cc) {qkk : Int → ms_M → Option ms_M} (hq : ∀ (l : Int) {g r : ms_M}, qkk l g = some r → r cc kk = g cc kk) {l1 s0 s1 : Int} {h r : ms_M} (e : qj_X2_nameKinds_59 nn qkk l1 s0 s1 h = some r) : r cc kk = h cc kk := by
  unfold qj_X2_nameKinds_59 at e
  have e := wa_i e
  unfold xl at e
  obtain ⟨u40, e40, e⟩ := sv_i e
  have e := wa_i e
  have := hq _ e
  rw [this, up_n (by omega), ho_N hc e40, up_n (by omega)]
theorem ho_2 {nn cc kk : Nat} (hc : 256 ≤ cc) : ∀ (k : Nat) (l1 : Int) {h r : ms_M}, qw_X2_nameKinds_2 nn k l1 h = some r → r cc kk = h cc kk := by
  intro k
  induction k with
  | zero => intro l1 h r e; cases e
  | succ k ih =>
    intro l1 h r e
    unfold qw_X2_nameKinds_2 xl at e
    dsimp only at e
    split at e
    · exact ho_85 hc _ _ e
    · split at e
      · exact ho_85 hc _ _ e
      · split at e
        · exact ho_85 hc _ _ e
        · split at e
          · obtain ⟨u51, e51, e⟩ := sv_i e
            obtain ⟨u53, e53, e⟩ := sv_i e
            exact ho_59 hc (fun l _ _ z => ih l z) e
          · exact ho_59 hc (fun l _ _ z => ih l z) e
theorem ho_ok {nn cc kk : Nat} (hc : 256 ≤ cc) {g r : ms_M} (e : qf_X2_nameKinds nn g = some r) : r cc kk = g cc kk := ho_2 hc _ _ e
section
variable {nn n : Nat} {h g z : ms_M}
/-- rows of bytes below n stay; there are at least n cells -/
def OLn (n : Nat) (h g : ms_M) : Prop := (∀ c k, 256 ≤ c → c < n → g c k = h c k) ∧ n ≤ cn_M g
theorem ol_tr (A : OLn n h g) (B : OLn n g z) : OLn n h z := ⟨fun c k a b => (B.1 c k a b).trans (A.1 c k a b), B.2⟩
theorem ol_all (hn : n ≤ cn_M h) (F : ∀ c k, 256 ≤ c → g c k = h c k) : OLn n h g := ⟨fun c k a _ => F c k a, by unfold cn_M; rw [F 900000 0 (by omega)]; exact hn⟩
theorem ol_up {c k : Nat} {v : Int} (hn : n ≤ cn_M h) (hc : c < 256 ∨ (n ≤ c ∧ c < 900000)) : OLn n h (up_M h c k v) := by
  refine ⟨fun c2 k2 a b => up_n (by omega), ?_⟩
  unfold cn_M
  rw [up_n (by omega)]; exact hn
theorem pc_wT {α : Type} {Q : α → Prop} {M : ms_M} {c : Nat} {j v : Int} {G : ms_M → Option α} (q : ∀ z, z = up_M M c j.toNat (oq_b v) → Pc (G z) Q) : Pc (wr_T c j v M G) Q := by
  unfold wr_T
  exact pc_if (fun _ => q _ rfl) (fun _ => pc_none)
theorem ol_wc83 {l1 l3 l4 : Int} {l2 : Nat} (h2 : n ≤ l2 ∧ l2 < 900000) : ∀ (k : Nat) (l5 : Int) {h : ms_M}, n ≤ cn_M h → Pc (qw_X6_writeConstant_83 nn k l1 l2 l3 l4 l5 h) (fun g => OLn n h g) := by
  intro k
  induction k with
  | zero => intro l5 h hn; exact pc_none
  | succ k ih =>
    intro l5 h hn
    unfold qw_X6_writeConstant_83
    refine pc_if (fun _ => pc_ret ⟨fun _ _ _ _ => rfl, hn⟩) (fun _ => ?_)
    refine pc_xl (fun _ _ => pc_rA (fun _ _ _ _ => pc_xl (fun _ _ => pc_xl (fun _ _ => pc_xl (fun _ _ => pc_xl (fun _ _ => pc_xl (fun _ _ => pc_wT (fun h9 e9 => pc_xl (fun _ _ => ?_)))))))))
    have O : OLn n h h9 := by rw [e9]; exact ol_up hn (.inr h2)
    exact pc_imp (ih _ O.2) (fun r Q => ol_tr O Q)
theorem ol_wc {a1 a3 : Int} {a2 : Nat} (h2 : n ≤ a2 ∧ a2 < 900000) (hn : n ≤ cn_M h) (h256 : 256 ≤ n) : Pc (qf_X6_writeConstant nn a1 a2 a3 h) (fun g => OLn n h g) := by
  have same : OLn n h h := ⟨fun _ _ _ _ => rfl, hn⟩
  unfold qf_X6_writeConstant
  refine pc_rA (fun _ _ _ _ => pc_rA (fun _ _ _ _ => pc_se (fun u17 _ => pc_if (fun _ => pc_ret same) (fun _ => pc_xl (fun _ _ => pc_lS (fun _ _ => pc_if (fun _ => ?_) (fun _ => pc_ret same)))))))
  refine pc_rA (fun _ _ _ _ => pc_xl (fun _ _ => pc_wT (fun h23 e23 => pc_rA (fun _ _ _ _ => ?_))))
  have O : OLn n h h23 := by rw [e23]; exact ol_up hn (.inr h2)
  refine pc_if (fun _ => pc_imp (ol_wc83 h2 _ _ O.2) (fun r Q => ol_tr O Q)) (fun _ => ?_)
  refine pc_xl (fun _ _ => pc_xl (fun _ _ => pc_xl (fun _ _ => pc_wT (fun h29 e29 => pc_rA (fun _ _ _ _ => pc_xl (fun _ _ => pc_se (fun u35 e35 => pc_ret ?_)))))))
  have O2 : OLn n h23 h29 := by rw [e29]; exact ol_up O.2 (.inr h2)
  refine ol_tr O (ol_tr O2 ⟨fun c k a b => cpn_fr e35 c k (by omega), ?_⟩)
  unfold cn_M
  rw [cpn_fr e35 900000 0 (by omega)]; exact O2.2
theorem ol_ci40 {l1 : Nat} (h2 : n ≤ l1 ∧ l1 < 900000) (h256 : 256 ≤ n) : ∀ (k : Nat) (l2 l3 : Int) {h : ms_M} (c s : Nat), n ≤ cn_M h → Pc (qw_X6_closeImage_40 nn k l1 l2 l3 h c s) (fun r => OLn n h r.2.1) := by
  intro k
  induction k with
  | zero => intro l2 l3 h c s hn; exact pc_none
  | succ k ih =>
    intro l2 l3 h c s hn
    unfold qw_X6_closeImage_40
    refine pc_if (fun _ => ?_) (fun _ => ?_)
    · intro r e
      have e := cp_i e
      have e := Option.some.inj e
      rw [← e]
      refine ⟨fun c k a b => ?_, ?_⟩
      · show cp_M _ _ _ _ _ _ c k = _
        unfold cp_M; rw [if_neg (by omega)]
      · show n ≤ cn_M (cp_M _ _ _ _ _ _)
        unfold cn_M cp_M; rw [if_neg (by omega)]; exact hn
    · refine pc_sv (ol_wc h2 hn h256) (fun u6 O => pc_rA (fun _ _ _ _ => pc_rA (fun _ _ _ _ => pc_se (fun _ _ => pc_xl (fun _ _ => pc_xl (fun _ _ => ?_))))))
      exact pc_imp (ih _ _ _ _ O.2) (fun r Q => ol_tr O Q)
theorem pc_nB {α : Type} {Q : α → Prop} {M : ms_M} {y : Int} {G : Nat → ms_M → Option α} (q : ∀ z, (256 ≤ M 900000 0 ∧ M 900000 0 < 700000) → z = nw_M M y (fun _ => 0) → Pc (G (cn_M M) z) Q) : Pc (nw_B y M G) Q := by
  unfold nw_B
  exact pc_if (fun c => q _ c.1 rfl) (fun _ => pc_none)
theorem ol_nw {y : Int} {f : Nat → Int} (hn : n ≤ cn_M h) (hc : 256 ≤ h 900000 0 ∧ h 900000 0 < 700000) : OLn n h (nw_M h y f) := by
  have : cn_M h < 700000 := by unfold cn_M; omega
  refine ⟨fun c k a b => ?_, ?_⟩
  · unfold nw_M
    rw [if_neg (by omega), if_neg (by omega), if_neg (by omega)]
  · unfold cn_M nw_M
    rw [if_neg (by unfold cn_M at this ⊢; omega), if_pos ⟨rfl, rfl⟩]
    unfold cn_M at hn; omega
theorem ol_ci (hn : n ≤ cn_M h) (h256 : 256 ≤ n) : Pc (qf_X6_closeImage nn h) (fun r => OLn n h r.2.1) := by
  unfold qf_X6_closeImage
  refine pc_se (fun u17 _ => pc_if (fun _ => pc_se (fun u19 _ => pc_ck (fun _ => pc_nB (fun z hc ez => ?_)))) (fun _ => pc_ck (fun _ => pc_nB (fun z hc ez => pc_ret ?_))))
  · have b : n ≤ cn_M h ∧ cn_M h < 900000 := ⟨hn, by unfold cn_M; omega⟩
    have O : OLn n h z := by rw [ez]; exact ol_nw hn hc
    refine pc_wT (fun h22 e22 => pc_wT (fun h23 e23 => pc_xl (fun _ _ => pc_wT (fun h26 e26 => ?_))))
    have O22 : OLn n z h22 := by rw [e22]; exact ol_up O.2 (.inr b)
    have O23 : OLn n h22 h23 := by rw [e23]; exact ol_up O22.2 (.inr b)
    have O26 : OLn n h23 h26 := by rw [e26]; exact ol_up O23.2 (.inr b)
    exact pc_imp (ol_ci40 b h256 _ _ _ _ _ O26.2) (fun r Q => ol_tr O (ol_tr O22 (ol_tr O23 (ol_tr O26 Q))))
  · show OLn n h z
    rw [ez]; exact ol_nw hn hc
theorem ol_cc {a1 : Int} (hn : n ≤ cn_M h) (h256 : 256 ≤ n) : Pc (qf_X0_closeClass nn a1 h) (fun r => OLn n h r.1) := by
  unfold qf_X0_closeClass
  refine pc_se (fun u3 _ => pc_se (fun u6 _ => pc_se (fun u8 e8 => ?_)))
  have O : OLn n h u8 := ol_all hn (fun c k q => note_fr e8 c k (by omega))
  refine pc_if (fun _ => pc_ret O) (fun _ => pc_if (fun _ => pc_ret O) (fun _ => pc_if (fun _ => pc_ret O) (fun _ => pc_if (fun _ => pc_ret O) (fun _ => ?_))))
  refine pc_sv (ol_ci O.2 h256) (fun u17 O17 => ?_)
  intro r e
  unfold wr_QB at e
  split at e
  · have e := Option.some.inj e
    rw [← e]
    exact ol_tr O (ol_tr O17 (ol_up O17.2 (.inl (by omega))))
  · cases e
theorem ol_175 {c s : Nat} (hn : n ≤ cn_M h) : Pc (qj_X12_compile_175 nn h c s) (fun r => OLn n h r.2.1) := by
  unfold qj_X12_compile_175
  refine pc_se (fun u3 e3 => ?_)
  have O : OLn n h u3 := ol_all hn (fun c k q => (ff_X0_closeProgram nn) _ e3 c k (nw_big rfl q))
  refine pc_if (fun _ => pc_ret O) (fun _ => pc_se (fun u7 e7 => pc_ret (ol_tr O (ol_all O.2 (fun c k q => (ff_X12_takeImages nn) _ e7 c k (nw_big rfl q))))))
theorem ol_124 {kk : Int → ms_M → Nat → Nat → Option (Int × ms_M × Nat × Nat)} {l2 : Int} {c s : Nat} (h256 : 256 ≤ n) (hk : ∀ (v : Int) {h : ms_M} (c s : Nat), n ≤ cn_M h → Pc (kk v h c s) (fun r => OLn n h r.2.1)) : ∀ (k : Nat) (l3 : Int) {h : ms_M}, n ≤ cn_M h → Pc (qw_X12_compile_124 nn kk k l2 l3 h c s) (fun r => OLn n h r.2.1) := by
  intro k
  induction k with
  | zero => intro l3 h hn; exact pc_none
  | succ k ih =>
    intro l3 h hn
    have j : Pc (qj_X12_compile_161 nn kk l2 h c s) (fun r => OLn n h r.2.1) := by
      unfold qj_X12_compile_161
      exact pc_sv (ol_cc hn h256) (fun u11 O => pc_xl (fun _ _ => pc_imp (hk _ _ _ O.2) (fun r Q => ol_tr O Q)))
    unfold qw_X12_compile_124
    refine pc_se (fun u15 _ => pc_if (fun _ => j) (fun _ => pc_if (fun _ => j) (fun _ => pc_se (fun u20 e20 => pc_xl (fun _ _ => ?_)))))
    have O : OLn n h u20 := ol_all hn (fun c k q => (ff_X0_makeMethod nn) _ e20 c k (nw_big rfl q))
    exact pc_imp (ih _ O.2) (fun r Q => ol_tr O Q)
theorem ol_93 (h256 : 256 ≤ n) : ∀ (k : Nat) (l2 : Int) {h : ms_M} (c s : Nat), n ≤ cn_M h → Pc (qw_X12_compile_93 nn k l2 h c s) (fun r => OLn n h r.2.1) := by
  intro k
  induction k with
  | zero => intro l2 h c s hn; exact pc_none
  | succ k ih =>
    intro l2 h c s hn
    unfold qw_X12_compile_93
    refine pc_if (fun _ => ol_175 hn) (fun _ => pc_if (fun _ => ol_175 hn) (fun _ => pc_se (fun u30 e30 => ?_)))
    have O : OLn n h u30 := ol_all hn (fun c k q => (ff_X0_beginClass nn) _ e30 c k (nw_big rfl q))
    exact pc_imp (ol_124 h256 (fun v h c s q => ih v c s q) _ _ O.2) (fun r Q => ol_tr O Q)
/-- compile leaves the rows of bytes that were there -/
theorem ol_compile (V : VS_ h) : Pc (qf_X12_compile nn h) (fun r => OLn (cn_M h) h r.2.1) := by
  have h256 := vi_c V
  unfold qf_X12_compile
  refine pc_xl (fun h34 e34 => ?_)
  have O : OLn (cn_M h) h h34 := by rw [e34]; exact ol_up (by omega) (.inl (by omega))
  refine pc_if (fun _ => ?_) (fun _ => pc_se (fun u62 e62 => pc_ret (ol_tr O (ol_all O.2 (fun c k q => (ff_X9_refuse nn) _ e62 c k (nw_big rfl q))))))
  refine pc_se (fun u38 e38 => pc_se (fun u41 e41 => pc_se (fun u44 e44 => pc_se (fun u47 e47 => pc_se (fun u50 e50 => pc_se (fun u53 e53 => pc_se (fun u56 e56 => pc_se (fun u59 e59 => ?_))))))))
  have F : ∀ c k, 256 ≤ c → u59 c k = h34 c k := fun c k q => by
    rw [show u59 c k = u56 c k from (ff_X0_beginProgram nn) _ e59 c k (nw_big rfl q), ho_ok q e56, show u53 c k = u50 c k from (ff_X2_checkOverrides nn) _ e53 c k (nw_big rfl q), show u50 c k = u47 c k from (ff_X2_readMembers nn) _ e50 c k (nw_big rfl q), show u47 c k = u44 c k from (ff_X2_readClasses nn) _ e47 c k (nw_big rfl q), show u44 c k = u41 c k from (ff_X8_readProgram nn) _ e44 c k (nw_big rfl q), show u41 c k = u38 c k from (ff_X2_forget nn) _ e41 c k (nw_big rfl q)]
    exact (ff_X9_scan nn) _ e38 c k (nw_big rfl q)
  have O59 := ol_all O.2 F
  exact pc_imp (ol_93 h256 _ _ _ _ O59.2) (fun r Q => ol_tr O (ol_tr O59 Q))
end

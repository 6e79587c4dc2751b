section
variable {nn : Nat} {h g r : ms_M}
/-- at most 6000 bytes for each six bytes of text; the word 'class' stays -/
def RQs (z : Int) : Int × ms_M × Nat × Nat → Prop := fun r => (r.2.2.2 : Int) ≤ 6000 * (z / 6) ∧ KCl r.2.1 ∧ r.2.1 0 1 = 0
theorem kc_eq (K : KCl h) (s : ∀ k : Nat, r 7 k = h 7 k) : KCl r := by unfold KCl; rw [s 12, s 13]; exact K
theorem rm_175 (hn : 1000000 ≤ nn) {c s : Nat} {z : Int} (V : VS_ h) (K : KCl h) (T0 : h 0 1 = 0) (hs : (s : Int) ≤ 6000 * (z / 6)) : Pc (qj_X12_compile_175 nn h c s) (RQs z) := by
  unfold qj_X12_compile_175
  refine pc_se ?_; intro u3 e3
  have V3 : VS_ u3 := okof (vf_X0_closeProgram hn V) e3
  have K3 : KCl u3 := kc_eq K (fun k => (ff_X0_closeProgram nn) _ e3 7 k (nw_ar rfl k))
  have t3 : u3 0 1 = h 0 1 := (ff_X0_closeProgram nn) _ e3 0 1 rfl
  refine pc_if (fun _ => pc_ret ⟨hs, K3, t3.trans T0⟩) (fun _ => ?_)
  refine pc_se ?_; intro u7 e7
  have q := okof (vf_X12_takeImages hn V3) e7
  exact pc_ret ⟨hs, kc_eq K3 (fun k => q.2 7 k (by decide) (by omega)), (q.2 0 1 (by decide) (by omega)).trans (t3.trans T0)⟩
theorem rm_124 {nn : Nat} (hn : 1000000 ≤ nn) {kk : Int → ms_M → Nat → Nat → Option (Int × ms_M × Nat × Nat)} {l2 C : Int} {c s : Nat} {n0 : Int} (r2 : 0 ≤ l2 ∧ l2 ≤ 7) {Q : Int × ms_M × Nat × Nat → Prop} (hc0 : n0 + (c : Int) < 700000) (hk : ∀ (v : Int) (h : ms_M) (c2 s2 : Nat), v = l2 + 1 → VS_ h → NM_ h → KCl h → h 0 1 = 0 → h 11 2 ≤ 8 → h 11 2 = C → (n0 ≤ h 900000 0 ∧ h 900000 0 ≤ n0 + (c2 : Int)) → c2 ≤ c + 1 → s2 ≤ s + 6000 → Pc (kk v h c2 s2) Q) : ∀ (k : Nat) (l3 : Int) (h : ms_M), VS_ h → NM_ h → KCl h → h 0 1 = 0 → h 11 2 ≤ 8 → h 11 2 = C → h 45 7 ≤ 100 + 3000100 * l3 → (n0 ≤ h 900000 0 ∧ h 900000 0 ≤ n0 + (c : Int)) → 0 ≤ l3 ∧ l3 ≤ 12 → Pc (qw_X12_compile_124 nn kk k l2 l3 h c s) Q := by
  have H : ∀ h : ms_M, VS_ h → NM_ h → KCl h → h 0 1 = 0 → h 11 2 ≤ 8 → h 11 2 = C → (n0 ≤ h 900000 0 ∧ h 900000 0 ≤ n0 + (c : Int)) → Pc (qj_X12_compile_161 nn kk l2 h c s) Q := by
    intro h V N K T h8 hC z
    unfold qj_X12_compile_161
    refine pc_se ?_; intro u eu
    obtain ⟨q1, q2, q3, q4, q5⟩ := okof (vf_X0_closeClass hn (a1 := l2) (by omega) V N (by omega)) eu
    refine pc_add (by omega) ?_; intro v12 e12
    have z7 : ∀ k : Nat, u.1 7 k = h 7 k := fun k => q2 7 k (by decide) (by decide) (by omega)
    have z2 : u.1 11 2 = h 11 2 := q2 11 2 (by decide) (by decide) (by omega)
    have z0 : u.1 0 1 = h 0 1 := q2 0 1 (by decide) (by decide) (by omega)
    exact hk v12 _ _ _ (by omega) q1 (nm_eq N z7 (q2 2 9 (by decide) (by decide) (by omega))) (kc_eq K z7) (z0.trans T) (by omega) (by omega) (by omega) (by omega) (by omega)
  intro k
  induction k with
  | zero => intros; exact pc_none
  | succ k ih =>
    intro l3 h V N K T h8 hC b7 z r3
    unfold qw_X12_compile_124
    refine pc_se ?_; intro u15 e15
    have m := mo_ e15
    obtain ⟨a15, b15⟩ := okof (vf_X2_methodsOf hn (a1 := l2) (by omega) (by omega) V) e15
    refine pc_if (fun _ => H h V N K T h8 hC z) (fun C1 => ?_)
    refine pc_if (fun _ => H h V N K T h8 hC z) (fun C2 => ?_)
    refine pc_se ?_; intro u20 E20
    obtain ⟨V20, R20⟩ := okof (vf_X0_makeMethod hn (a1 := l2) (a2 := l3) (by omega) (by omega) (by omega) (by omega) V (by omega) (by omega)) E20
    refine pc_add (by omega) ?_; intro v21 e21
    have z20 : u20 900000 0 = h 900000 0 := (ff_X0_makeMethod nn) _ E20 900000 0 rfl
    have h20 : u20 11 2 = h 11 2 := (ff_X0_makeMethod nn) _ E20 11 2 rfl
    have t20 : u20 0 1 = h 0 1 := (ff_X0_makeMethod nn) _ E20 0 1 rfl
    have s20 : ∀ k : Nat, u20 7 k = h 7 k := fun k => (ff_X0_makeMethod nn) _ E20 7 k (nw_ar rfl k)
    have N20 : NM_ u20 := nm_eq N s20 ((ff_X0_makeMethod nn) _ E20 2 9 rfl)
    exact ih v21 u20 V20 N20 (kc_eq K s20) (t20.trans T) (by omega) (by omega) (by omega) (by omega) (by omega)
theorem rm_93 {nn : Nat} (hn : 1000000 ≤ nn) {n0 z : Int} (hz : 0 ≤ z) (hc0 : n0 + 8 < 700000) : ∀ (k : Nat) (l2 : Int) (h : ms_M) (c s : Nat), VS_ h → NM_ h → KCl h → h 0 1 = 0 → (¬ h 2 11 = 0 ∨ h 11 2 ≤ 8) → (¬ h 2 11 = 0 ∨ 6 * h 11 2 ≤ z) → 0 ≤ l2 ∧ l2 ≤ 8 → 6 * l2 ≤ z → (c : Int) ≤ l2 → (s : Int) ≤ 6000 * l2 → (n0 ≤ h 900000 0 ∧ h 900000 0 ≤ n0 + (c : Int)) → Pc (qw_X12_compile_93 nn k l2 h c s) (RQs z) := by
  intro k
  induction k with
  | zero => intros; exact pc_none
  | succ k ih =>
    intro l2 h c s V N K T h8 hC r2 hl hc hs zz
    unfold qw_X12_compile_93
    refine pc_if (fun _ => rm_175 hn V K T (by omega)) (fun C1 => ?_)
    refine pc_if (fun _ => rm_175 hn V K T (by omega)) (fun C2 => ?_)
    refine pc_se ?_; intro u30 E30
    obtain ⟨V30, R30⟩ := okof (vf_X0_beginClass hn (a1 := l2) (by omega) (by omega) V) E30
    have z30 : u30 900000 0 = h 900000 0 := (ff_X0_beginClass nn) _ E30 900000 0 rfl
    have h30 : u30 11 2 = h 11 2 := (ff_X0_beginClass nn) _ E30 11 2 rfl
    have t30 : u30 0 1 = h 0 1 := (ff_X0_beginClass nn) _ E30 0 1 rfl
    have s30 : ∀ k : Nat, u30 7 k = h 7 k := fun k => (ff_X0_beginClass nn) _ E30 7 k (nw_ar rfl k)
    have N30 : NM_ u30 := nm_eq N s30 ((ff_X0_beginClass nn) _ E30 2 9 rfl)
    have hC2 : 6 * h 11 2 ≤ z := by
      rcases hC with q | q
      · exact absurd q C2
      · exact q
    refine rm_124 hn (n0 := n0) (C := h 11 2) (by omega) (by omega) ?_ nn 0 u30 V30 N30 (kc_eq K s30) (t30.trans T) (by omega) h30 (by omega) (by omega) (by omega)
    intro v g c2 s2 ev Vg Ng Kg Tg hg8 hgC zg hc2 hs2
    exact ih v g c2 s2 Vg Ng Kg Tg (.inr hg8) (.inr (by omega)) (by omega) (by omega) (by omega) (by omega) zg
theorem rm_compile (hn : 1000000 ≤ nn) (V : VS_ h) (N : NM_ h) (K : KCl h) (hc : h 900000 0 + 8 < 700000) : Pc (qf_X12_compile nn h) (RQs (h 0 1)) := by
  have g01 := gF_0_1 V
  unfold qf_X12_compile
  refine pc_xl ?_; intro h34 E34
  have V34 : VS_ h34 := by rw [E34]; exact wF_0_1 V (by omega)
  have N34 : NM_ h34 := by rw [E34]; exact nm_uf N (by decide)
  have z34 : h34 900000 0 = h 900000 0 := by rw [E34]; exact up_n (by decide)
  have K34 : KCl h34 := kc_eq K (fun k => by rw [E34]; exact up_n (by omega))
  have T34 : h34 0 1 = 0 := by rw [E34]; exact up_s
  refine pc_if (fun C1 => ?_) (fun C1 => ?_)
  · refine pc_se ?_; intro u38 E38
    obtain ⟨V38, N38, i38, p38⟩ := okof (vf_X9_scan hn (a2 := h 0 1) (by omega) (by omega) V34 N34) E38
    have T38 : u38 0 1 = 0 := ((ff_X9_scan nn) _ E38 0 1 rfl : u38 0 1 = h34 0 1).trans T34
    obtain ⟨k38, t38, y38⟩ := to_scan (nn := nn) (h := h34) (z := h 0 1) (by omega) K34 _ E38
    have z38 : u38 900000 0 = h34 900000 0 := (ff_X9_scan nn) _ E38 900000 0 rfl
    refine pc_se ?_; intro u41 E41
    have V41 : VS_ u41 := okof (vf_X2_forget hn V38) E41
    have T41 : u41 0 1 = 0 := ((ff_X2_forget nn) _ E41 0 1 rfl : u41 0 1 = u38 0 1).trans T38
    have z41 : u41 900000 0 = u38 900000 0 := (ff_X2_forget nn) _ E41 900000 0 rfl
    have n41 : u41 2 3 = u38 2 3 := (ff_X2_forget nn) _ E41 2 3 rfl
    have p41 : u41 2 10 = u38 2 10 := (ff_X2_forget nn) _ E41 2 10 rfl
    have b41 : u41 2 11 = u38 2 11 := (ff_X2_forget nn) _ E41 2 11 rfl
    have s41 : ∀ i : Nat, u41 3 i = u38 3 i ∧ u41 4 i = u38 4 i := fun i => ⟨(ff_X2_forget nn) _ E41 3 i (nw_ar rfl i), (ff_X2_forget nn) _ E41 4 i (nw_ar rfl i)⟩
    have TK41 : TRk (h 0 1) u41 := tr_keep n41 s41 ⟨i38, t38, y38⟩
    have w41 : ∀ k : Nat, u41 7 k = u38 7 k := fun k => (ff_X2_forget nn) _ E41 7 k (nw_ar rfl k)
    have N41 : NM_ u41 := nm_eq N38 w41 ((ff_X2_forget nn) _ E41 2 9 rfl)
    have K41 : KCl u41 := kc_eq ⟨k38.2.1, k38.2.2⟩ w41
    have f41 := fg_0 E41
    have c41 : 1 ≤ u41 2 3 := TK41.1.1
    have I41 : IRk (h 0 1) u41 := by
      refine ⟨.inr (by omega), .inr (.inr ?_)⟩
      have v := gA_4 V41 (u41 2 10).toNat (by omega)
      omega
    refine pc_se ?_; intro u44 E44
    obtain ⟨V44, R44⟩ := okof (vf_X8_readProgram hn V41 (by omega) (by omega) (by omega) TK41.1) E44
    have T44 : u44 0 1 = 0 := ((ff_X8_readProgram nn) _ E44 0 1 rfl : u44 0 1 = u41 0 1).trans T41
    have I44 : IRk (h 0 1) u44 := by
      have e := E44
      unfold qf_X8_readProgram at e
      exact rm_prog hn nn 0 u41 (by omega) (by omega) V41 TK41 I41 _ e
    have J44 := I44.1
    clear I44
    have z44 : u44 900000 0 = u41 900000 0 := (ff_X8_readProgram nn) _ E44 900000 0 rfl
    have w44 : ∀ k : Nat, u44 7 k = u41 7 k := fun k => (ff_X8_readProgram nn) _ E44 7 k (nw_ar rfl k)
    have N44 : NM_ u44 := nm_eq N41 w44 ((ff_X8_readProgram nn) _ E44 2 9 rfl)
    have K44 := kc_eq K41 w44
    refine pc_se ?_; intro u47 E47
    obtain ⟨V47, R47⟩ := okof (vf_X2_readClasses hn V44 R44) E47
    have T47 : u47 0 1 = 0 := ((ff_X2_readClasses nn) _ E47 0 1 rfl : u47 0 1 = u44 0 1).trans T44
    have h47 : u47 11 2 = u44 11 2 := (ff_X2_readClasses nn) _ E47 11 2 rfl
    have J47 : ¬ u47 2 11 = 0 ∨ 6 * u47 11 2 ≤ h 0 1 := by
      rcases J44 with q | q
      · left
        have e := E47
        unfold qf_X2_readClasses at e
        rw [if_neg q] at e
        cases e; exact q
      · right; omega
    have z47 : u47 900000 0 = u44 900000 0 := (ff_X2_readClasses nn) _ E47 900000 0 rfl
    have w47 : ∀ k : Nat, u47 7 k = u44 7 k := fun k => (ff_X2_readClasses nn) _ E47 7 k (nw_ar rfl k)
    have N47 : NM_ u47 := nm_eq N44 w47 ((ff_X2_readClasses nn) _ E47 2 9 rfl)
    have K47 := kc_eq K44 w47
    refine pc_se ?_; intro u50 E50
    obtain ⟨V50, R50⟩ := okof (vf_X2_readMembers hn V47 R47) E50
    have T50 : u50 0 1 = 0 := ((ff_X2_readMembers nn) _ E50 0 1 rfl : u50 0 1 = u47 0 1).trans T47
    have z50 : u50 900000 0 = u47 900000 0 := (ff_X2_readMembers nn) _ E50 900000 0 rfl
    have h50 : u50 11 2 = u47 11 2 := (ff_X2_readMembers nn) _ E50 11 2 rfl
    have w50 : ∀ k : Nat, u50 7 k = u47 7 k := fun k => (ff_X2_readMembers nn) _ E50 7 k (nw_ar rfl k)
    have N50 : NM_ u50 := nm_eq N47 w50 ((ff_X2_readMembers nn) _ E50 2 9 rfl)
    have K50 := kc_eq K47 w50
    refine pc_se ?_; intro u53 E53
    obtain ⟨V53, R53⟩ := okof (vf_X2_checkOverrides hn V50) E53
    have T53 : u53 0 1 = 0 := ((ff_X2_checkOverrides nn) _ E53 0 1 rfl : u53 0 1 = u50 0 1).trans T50
    have z53 : u53 900000 0 = u50 900000 0 := (ff_X2_checkOverrides nn) _ E53 900000 0 rfl
    have h53 : u53 11 2 = u50 11 2 := (ff_X2_checkOverrides nn) _ E53 11 2 rfl
    have w53 : ∀ k : Nat, u53 7 k = u50 7 k := fun k => (ff_X2_checkOverrides nn) _ E53 7 k (nw_ar rfl k)
    have N53 : NM_ u53 := nm_eq N50 w53 ((ff_X2_checkOverrides nn) _ E53 2 9 rfl)
    have K53 := kc_eq K50 w53
    refine pc_se ?_; intro u56 E56
    obtain ⟨V56, N56⟩ := okof (vf_X2_nameKinds hn V53 N53) E56
    have T56 : u56 0 1 = 0 := ((ff_X2_nameKinds nn) _ E56 0 1 rfl : u56 0 1 = u53 0 1).trans T53
    have K56 : K7 u56 := by
      have e := E56
      unfold qf_X2_nameKinds at e
      exact k7_2 _ _ _ ⟨N53.1, K53.1, K53.2⟩ _ e
    have z56 : u56 900000 0 = u53 900000 0 := hk_ok E56
    have h56 : u56 11 2 = u53 11 2 := (ff_X2_nameKinds nn) _ E56 11 2 rfl
    have f56 : u56 2 11 = u53 2 11 := (ff_X2_nameKinds nn) _ E56 2 11 rfl
    refine pc_se ?_; intro u59 E59
    have V59 : VS_ u59 := okof (vf_X0_beginProgram hn V56) E59
    have T59 : u59 0 1 = 0 := ((ff_X0_beginProgram nn) _ E59 0 1 rfl : u59 0 1 = u56 0 1).trans T56
    have z59 : u59 900000 0 = u56 900000 0 := (ff_X0_beginProgram nn) _ E59 900000 0 rfl
    have h59 : u59 11 2 = u56 11 2 := (ff_X0_beginProgram nn) _ E59 11 2 rfl
    have f59 : u59 2 11 = u56 2 11 := (ff_X0_beginProgram nn) _ E59 2 11 rfl
    have w59 : ∀ k : Nat, u59 7 k = u56 7 k := fun k => (ff_X0_beginProgram nn) _ E59 7 k (nw_ar rfl k)
    have N59 : NM_ u59 := nm_eq N56 w59 ((ff_X0_beginProgram nn) _ E59 2 9 rfl)
    have K59 : KCl u59 := kc_eq ⟨K56.2.1, K56.2.2⟩ w59
    have J59 : ¬ u59 2 11 = 0 ∨ 6 * u59 11 2 ≤ h 0 1 := by omega
    have A59 : ¬ u59 2 11 = 0 ∨ u59 11 2 ≤ 8 := by omega
    exact rm_93 hn g01.1 (n0 := h 900000 0) hc nn 0 u59 0 0 V59 N59 K59 T59 A59 J59 (by omega) (by omega) (by omega) (by omega) (by omega)
  · refine pc_se ?_; intro u62 E62
    refine pc_ret ⟨?_, kc_eq K34 (fun k => (ff_X9_refuse nn) _ E62 7 k (nw_ar rfl k)), ((ff_X9_refuse nn) _ E62 0 1 rfl : u62 0 1 = h34 0 1).trans T34⟩
    show ((0 : Nat) : Int) ≤ 6000 * (h 0 1 / 6)
    omega
end

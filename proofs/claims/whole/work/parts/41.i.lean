/- THE REFERENCE PATCHES -/
section
variable {nn : Nat} {h r g M M2 : ms_M} {Bf : Nat → Nat → Int} {nf : Nat → Nat} {f : Nat → Int} {m : Nat}
/-- among the names below k: known ones first, then classes other than c -/
def OTq (Bf : Nat → Nat → Int) (nf : Nat → Nat) (k c : Nat) (f : Nat → Int) (m : Nat) : Prop := (∃ j : Nat, j < 8 ∧ j < k ∧ KNm f m j) ∨ ∃ j : Nat, 8 + j < k ∧ j ≠ c ∧ UNm f m (Bf j) (nf j) (own_S (Bf j) (nf j))
theorem r_173 {c t : Nat} (hc : (c : Int) < M 160 98) (h98 : M 160 98 ≤ 8) (S : ∀ k : Nat, (k : Int) < M 160 98 → k ≠ c → TBr (k : Int) (nf k) (Bf k) M) (R : RWt M 238 ((t + 2 : Nat) : Int) m f) (e1 : M 238 (t + 1) = (m : Int)) (ht : t ≤ 6000) (hf : ∀ i, i < m → ¬ f i = 32) : ∀ (fu k : Nat) (l5 : Int), (k : Int) ≤ 8 + M 160 98 → ((l5 = 1 ∧ ¬ OTq Bf nf k c f m) ∨ (l5 = 0 ∧ OTq Bf nf k c f m)) → Pc (qw_X13_patch_173 nn fu (8 + (c : Int)) (c : Int) l5 (t : Int) (k : Int) M) (fun u => ∃ l : Int, ((l = 1 ∧ ¬ OTh Bf nf (M 160 98) c f m) ∨ (l = 0 ∧ OTh Bf nf (M 160 98) c f m)) ∧ qj_X13_patch_235 nn (c : Int) l M = some u) := by
  have up : ∀ k : Nat, (k : Int) ≤ 8 + M 160 98 → OTq Bf nf k c f m → OTh Bf nf (M 160 98) c f m := fun k hk z => by
    rcases z with ⟨j, j1, j2, j3⟩ | ⟨j, j1, j2, j3⟩
    · exact .inl ⟨j, j1, j3⟩
    · exact .inr ⟨j, by omega, j2, j3⟩
  have dn : ∀ k : Nat, (k : Int) = 8 + M 160 98 → OTh Bf nf (M 160 98) c f m → OTq Bf nf k c f m := fun k hk z => by
    rcases z with ⟨j, j1, j3⟩ | ⟨j, j1, j2, j3⟩
    · exact .inl ⟨j, j1, by omega, j3⟩
    · exact .inr ⟨j, by omega, j2, j3⟩
  have on : ∀ k : Nat, OTq Bf nf k c f m → OTq Bf nf (k + 1) c f m := fun k z => by
    rcases z with ⟨j, j1, j2, j3⟩ | ⟨j, j1, j2, j3⟩
    · exact .inl ⟨j, j1, by omega, j3⟩
    · exact .inr ⟨j, by omega, j2, j3⟩
  intro fu
  induction fu with
  | zero => intros; exact pc_none
  | succ fu ih =>
    intro k l5 hk hl
    unfold qw_X13_patch_173
    refine pc_add (by omega) ?_; intro v10 e10
    refine pc_if (fun z => ?_) (fun z => pc_if (fun y => ?_) (fun y => ?_))
    · intro u eu
      refine ⟨l5, ?_, eu⟩
      rcases hl with ⟨a, b⟩ | ⟨a, b⟩
      · exact .inl ⟨a, fun w => b (dn k (by omega) w)⟩
      · exact .inr ⟨a, up k hk b⟩
    · intro u eu
      refine ⟨l5, ?_, eu⟩
      rcases hl with ⟨a, b⟩ | ⟨a, b⟩
      · omega
      · exact .inr ⟨a, up k hk b⟩
    have no : ¬ OTq Bf nf k c f m := by
      rcases hl with ⟨a, b⟩ | ⟨a, b⟩
      · exact b
      · exact absurd a y
    have step : ¬ OTq Bf nf (k + 1) c f m → Pc (qj_X13_patch_222 nn (qw_X13_patch_173 nn fu) (8 + (c : Int)) (c : Int) (t : Int) (k : Int) M) (fun u => ∃ l : Int, ((l = 1 ∧ ¬ OTh Bf nf (M 160 98) c f m) ∨ (l = 0 ∧ OTh Bf nf (M 160 98) c f m)) ∧ qj_X13_patch_235 nn (c : Int) l M = some u) := fun w => by
      unfold qj_X13_patch_222
      refine pc_add (by omega) ?_; intro v8 e8
      rw [show v8 = ((k + 1 : Nat) : Int) by omega]
      exact ih (k + 1) 1 (by omega) (.inl ⟨rfl, w⟩)
    have found : OTq Bf nf (k + 1) c f m → Pc (xl (oq_add (k : Int) 1) fun v18 => qw_X13_patch_173 nn fu (8 + (c : Int)) (c : Int) 0 (t : Int) v18 M) (fun u => ∃ l : Int, ((l = 1 ∧ ¬ OTh Bf nf (M 160 98) c f m) ∨ (l = 0 ∧ OTh Bf nf (M 160 98) c f m)) ∧ qj_X13_patch_235 nn (c : Int) l M = some u) := fun w => by
      refine pc_add (by omega) ?_; intro v8 e8
      rw [show v8 = ((k + 1 : Nat) : Int) by omega]
      exact ih (k + 1) 0 (by omega) (.inr ⟨rfl, w⟩)
    refine pc_if (fun q => step ?_) (fun q => ?_)
    · rintro (⟨j, j1, j2, j3⟩ | ⟨j, j1, j2, j3⟩)
      · exact no (.inl ⟨j, j1, by omega, j3⟩)
      · exact no (.inr ⟨j, by omega, j2, j3⟩)
    refine pc_add (by omega) ?_; intro v12 e12
    refine pc_add (by omega) ?_; intro v14 e14
    refine pc_rA ?_; intro i1 i2 v15 e15
    have e15 : v15 = (m : Int) := by rw [e15, show v14.toNat = t + 1 by omega]; exact e1
    rw [e15, show v12 = ((t + 2 : Nat) : Int) by omega]
    by_cases k8 : k < 8
    · refine pc_sv (r_known R hf k8) ?_; intro u17 q17
      refine pc_if (fun y2 => found ?_) (fun y2 => step ?_)
      · rcases q17 with ⟨-, q2⟩ | ⟨q1, -⟩
        · exact .inl ⟨k, k8, by omega, q2⟩
        · exact absurd q1 y2
      · have q2 : ¬ KNm f m k := by
          rcases q17 with ⟨q1, -⟩ | ⟨-, q2⟩
          · omega
          · exact q2
        rintro (⟨j, j1, j2, j3⟩ | ⟨j, j1, j2, j3⟩)
        · by_cases qj : j = k
          · rw [qj] at j3; exact q2 j3
          · exact no (.inl ⟨j, j1, by omega, j3⟩)
        · omega
    · obtain ⟨d, hd⟩ : ∃ d : Nat, k = 8 + d := ⟨k - 8, by omega⟩
      have X := S d (by omega) (by omega)
      have ek : (k : Int) = 8 + (d : Int) := by omega
      refine pc_sv (P := fun u => (u = 1 ∧ UNm f m (Bf d) (nf d) (own_S (Bf d) (nf d))) ∨ (u = 0 ∧ ¬ UNm f m (Bf d) (nf d) (own_S (Bf d) (nf d)))) (by rw [ek]; exact r_user R (by omega) X) ?_; intro u17 q17
      refine pc_if (fun y2 => found ?_) (fun y2 => step ?_)
      · rcases q17 with ⟨-, q2⟩ | ⟨q1, -⟩
        · exact .inr ⟨d, by omega, by omega, q2⟩
        · exact absurd q1 y2
      · have q2 : ¬ UNm f m (Bf d) (nf d) (own_S (Bf d) (nf d)) := by
          rcases q17 with ⟨q1, -⟩ | ⟨-, q2⟩
          · omega
          · exact q2
        rintro (⟨j, j1, j2, j3⟩ | ⟨j, j1, j2, j3⟩)
        · exact no (.inl ⟨j, j1, by omega, j3⟩)
        · by_cases qj : j = d
          · rw [qj] at j3; exact q2 j3
          · exact no (.inr ⟨j, by omega, j2, j3⟩)
theorem r_patch (hn : 1000000 ≤ nn) {c i : Nat} {v : Int} (rv : in_R v) (V : VS_ h) (S : ∀ k : Nat, (k : Int) < h 160 98 → TBr (k : Int) (nf k) (Bf k) h) (hc : (c : Int) < h 160 98) (hi : i < nf c) : Pc (qf_X13_patch nn (8 + (c : Int)) (i : Int) v h) (fun u => ∃ Bn : Nat → Int, (∀ j, j < nf c → Bn j = if j = i then oq_and v 255 else Bf c j) ∧ (∀ e, rdi_S Bn (nf c) = .inl e → u.1 = 0 ∧ KPs Bf nf h u.2) ∧ ∀ q, rdi_S Bn (nf c) = .inr q → (OTh Bf nf (h 160 98) c (fun x => Bn (na_S Bn (nf c) (own_S Bn (nf c)) + x)) (tl_S Bn (nf c) (own_S Bn (nf c))) → u.1 = 0 ∧ KPs Bf nf h u.2) ∧ (¬ OTh Bf nf (h 160 98) c (fun x => Bn (na_S Bn (nf c) (own_S Bn (nf c)) + x)) (tl_S Bn (nf c) (own_S Bn (nf c))) → u.1 = 1 ∧ u.2 160 98 = h 160 98 ∧ u.2 160 99 = 0 ∧ u.2 160 138 = 0 ∧ ∀ k : Nat, (k : Int) < h 160 98 → TBr (k : Int) (nf k) (ext_B Bf c Bn k) u.2)) := by
  have g98 := gF_160_98 V
  have c256 := vi_c V
  have c8 : c < 8 := by omega
  obtain ⟨s1, s2, s3, s4⟩ := (S c hc).1
  rw [Int.toNat_natCast] at s1 s3
  have r39 : 0 ≤ oq_and v 255 ∧ oq_and v 255 ≤ 255 := by rw [by_rel rv]; omega
  unfold qf_X13_patch
  refine pc_sub (by omega) ?_; intro v55 e55
  rw [show v55 = (c : Int) by omega]
  refine pc_if (fun z => absurd z (by omega)) (fun _ => pc_if (fun z => absurd z (by omega)) (fun _ => pc_if (fun z => absurd z (by omega)) (fun _ => ?_)))
  refine pc_rA ?_; intro i1 i2 v58 e58
  rw [Int.toNat_natCast, s1] at e58
  refine pc_if (fun _ => ?_) (fun z => absurd (by omega) z)
  refine pc_rA ?_; intro j1 j2 v60 e60
  rw [Int.toNat_natCast, s1] at e60
  refine pc_xl ?_; intro h61 e61
  -- what is behind the copy
  have E : ∀ g : ms_M, VS_ g → (∀ j : Nat, j < nf c → g 238 j = Bf c j) → g 160 113 = (nf c : Int) → (∀ x k, x ≠ 238 → ¬ (x = 160 ∧ k = 113) → g x k = h x k) → Pc (xl (oq_and v 255) fun v39 => wr_A 6000 238 (i : Int) v39 g fun h40 => mx_sv (qf_X13_aside nn (c : Int) h40) fun u42 => mx_sv (qf_X13_scan nn (c : Int) u42) fun u44 => if ¬ (u44 160 114) = (-1) then (qj_X13_patch_123 nn (8 + (c : Int)) (c : Int) 0 u44) else (qj_X13_patch_123 nn (8 + (c : Int)) (c : Int) 1 u44)) (fun u => ∃ Bn : Nat → Int, (∀ j, j < nf c → Bn j = if j = i then oq_and v 255 else Bf c j) ∧ (∀ e, rdi_S Bn (nf c) = .inl e → u.1 = 0 ∧ KPs Bf nf h u.2) ∧ ∀ q, rdi_S Bn (nf c) = .inr q → (OTh Bf nf (h 160 98) c (fun x => Bn (na_S Bn (nf c) (own_S Bn (nf c)) + x)) (tl_S Bn (nf c) (own_S Bn (nf c))) → u.1 = 0 ∧ KPs Bf nf h u.2) ∧ (¬ OTh Bf nf (h 160 98) c (fun x => Bn (na_S Bn (nf c) (own_S Bn (nf c)) + x)) (tl_S Bn (nf c) (own_S Bn (nf c))) → u.1 = 1 ∧ u.2 160 98 = h 160 98 ∧ u.2 160 99 = 0 ∧ u.2 160 138 = 0 ∧ ∀ k : Nat, (k : Int) < h 160 98 → TBr (k : Int) (nf k) (ext_B Bf c Bn k) u.2)) := by
    intro g Vg G e13 N
    refine pc_xl ?_; intro v39 e39
    refine pc_wA ?_; intro a1 a2 h40 e40
    rw [Int.toNat_natCast] at e40
    have V40 : VS_ h40 := by
      have w := wA_238 Vg (k := i) (v := v39) (by omega)
      rw [e40]; exact w
    have N40 : ∀ x k, x ≠ 238 → ¬ (x = 160 ∧ k = 113) → h40 x k = h x k := fun x k q1 q2 => by rw [e40, up_n (by omega)]; exact N x k q1 q2
    refine pc_se ?_; intro u42 e42
    obtain ⟨V42, N42, T42⟩ := okof (as_aside hn (c := (c : Int)) (by omega) V40) e42
    have L42 : ∀ j, j < nf c → u42 238 j = if j = i then oq_and v 255 else Bf c j := fun j hj => by
      rw [N42 _ _ (by decide), e40]
      by_cases qj : j = i
      · rw [if_pos qj, qj, up_s]; exact e39
      · rw [if_neg qj, up_n (by omega)]; exact G j hj
    have hB : ∀ j, j < nf c → 0 ≤ u42 238 j ∧ u42 238 j ≤ 255 := fun j hj => by
      rw [L42 j hj]
      by_cases qj : j = i
      · rw [if_pos qj]; exact r39
      · rw [if_neg qj]; exact s4 j hj
    have e113 : u42 160 113 = (nf c : Int) := by rw [N42 _ _ (by decide), e40, up_n (by omega)]; exact e13
    refine pc_se ?_; intro u44 e44
    have RF := r_scan (B := fun j => u42 238 j) (n := nf c) hn (c := (c : Int)) (M := u42) (by omega) ⟨e113, s2⟩ (fun _ => rfl) (by have := vi_c V42; omega) hB _ e44
    obtain ⟨⟨V44, N44, -⟩, -⟩ := okof (sr_scan hn (c := (c : Int)) (by omega) V42) e44
    have G44 : ∀ x k, x ≠ 238 → x ≠ 239 → ¬ (x = 160 ∧ (113 ≤ k ∧ k ≤ 114 ∨ k = 112 ∨ k = 111 ∨ k = 115 ∨ k = 116)) → ¬ TAB (c : Int) x k → u44 x k = h x k := fun x k q1 q2 q3 y => by
      rw [N44 x k (by omega) (fun z => y (.inl z)) (fun z => y (.inr (.inl z))) (fun z => y (.inr (.inr z))), N42 x k q2]
      exact N40 x k q1 (by omega)
    have e98 : u44 160 98 = h 160 98 := G44 160 98 (by decide) (by decide) (by omega) (by unfold TAB; omega)
    have S44 : ∀ k : Nat, (k : Int) < h 160 98 → k ≠ c → TBr (k : Int) (nf k) (Bf k) u44 := fun k hk qk => by
      refine tb_k (by omega) (fun x j T => ?_) (fun j j1 j2 => G44 _ _ (by omega) (by omega) (by omega) (by unfold TAB; omega)) (G44 _ _ (by omega) (by omega) (by omega) (by unfold TAB; omega)) (S k hk)
      unfold TAB at T
      exact G44 _ _ (by omega) (by omega) (by omega) (by unfold TAB; omega)
    have T44 : TBk u44 h40 (c : Int) := by
      have e : ∀ k : Nat, u44 239 k = u42 239 k := fun k => N44 239 k (by omega) (by omega) (by omega) (by omega)
      refine ⟨fun i hi => by rw [e]; exact T42.1 i hi, ?_, fun j hj => by rw [e, e, e, e]; exact T42.2.2 j hj⟩
      unfold TB2
      rw [e, e, e, e, e]; exact T42.2.1
    have back : ∀ {u : Int × ms_M}, qj_X13_patch_235 nn (c : Int) 0 u44 = some u → u.1 = 0 ∧ KPs Bf nf h u.2 := fun {u} eu => by
      unfold qj_X13_patch_235 at eu
      rw [if_neg (by decide)] at eu
      obtain ⟨u47, e47, eu⟩ := sv_i eu
      cases eu
      obtain ⟨V47, A, B7⟩ := okof (ag_again hn (c := (c : Int)) (by omega) V44 V40 T44) e47
      have W : ∀ x k, x ≠ 238 → x ≠ 239 → ¬ (x = 160 ∧ (113 ≤ k ∧ k ≤ 114 ∨ k = 112 ∨ k = 111 ∨ k = 115 ∨ k = 116)) → u47 x k = h x k := fun x k w1 w2 w3 => by
        by_cases y : TAB (c : Int) x k
        · rw [B7 x k y]; exact N40 x k w1 (by omega)
        · rw [A x k y]; exact G44 x k w1 w2 w3 y
      exact ⟨rfl, W _ _ (by decide) (by decide) (by omega), W _ _ (by decide) (by decide) (by omega), W _ _ (by decide) (by decide) (by omega), fun k hk => tb_k (by omega) (fun x j T => W x j (by unfold TAB at T; omega) (by unfold TAB at T; omega) (by unfold TAB at T; omega)) (fun j _ _ => W _ _ (by decide) (by decide) (by omega)) (W _ _ (by decide) (by decide) (by omega)) (S k hk)⟩
    have g114 := gF_160_114 V44
    refine pc_if (fun D => ?_) (fun D => ?_)
    · unfold qj_X13_patch_123
      refine pc_if (fun _ => ?_) (fun z => absurd rfl z)
      intro u eu
      refine ⟨fun j => u42 238 j, L42, fun _ _ => back eu, fun q hq => ?_⟩
      have w := RF.1; rw [hq] at w
      exact absurd w D
    · have D := Decidable.not_not.1 D
      have good : ∃ q, rdi_S (fun j => u42 238 j) (nf c) = .inr q := by
        cases z : rdi_S (fun j => u42 238 j) (nf c) with
        | inl e =>
          have := RF.1; rw [z] at this
          exact absurd D (rs_l this)
        | inr q => exact ⟨q, rfl⟩
      obtain ⟨q0, z0⟩ := good
      have X := RF.2 q0 z0
      clear RF
      generalize eBn : (fun j => u42 238 j) = B at *
      have nol : ∀ {P : Prop} {e : Nat}, rdi_S B (nf c) = .inl e → P := fun he => by rw [z0] at he; cases he
      have X2 := X
      obtain ⟨⟨t1, t2, t3, t4, t5⟩, p, q, zk, ⟨y1, y2, -, -⟩, ⟨e30, e31⟩, -⟩ := X2
      have a1 := by_le y1
      have n1 : own_S B (nf c) = pt_S B (nf c) (B p) 0 := by unfold own_S; rw [zk]
      have w1 := pc_tx (p := p) zk t3.1 a1.2.2
      rw [← n1] at w1
      have c1 : tg_S B (nf c) (B p) = 3 := by
        have z := a1.2.2; unfold pc_S cl_S at z; rw [Bool.and_eq_true, decide_eq_true_iff] at z; exact z.1
      have k1 := tg_in (B := B) (n := nf c) (k := B p) (by omega)
      have k2 := tg_in (B := B) (n := nf c) (k := own_S B (nf c)) (by omega)
      have kv1 := t5 (B p) k1.1 k1.2.1
      have kv1b := kv1.2.2.1 (by omega)
      have kv2 := t5 (own_S B (nf c)) k2.1 k2.2.1
      have kv2b := kv2.2.1 (by omega)
      have L : ∀ i, u44 238 i = B i := t1.2.2.2.2.1
      unfold qj_X13_patch_123
      refine pc_if (fun z => absurd z (by decide)) (fun _ => ?_)
      refine pc_xl ?_; intro v24 e24
      rw [oq_mul_eq (by omega) (by omega) (by omega)] at e24
      refine pc_xl ?_; intro v27 e27
      rw [oq_mul_eq (by omega) (by omega) (by omega)] at e27
      refine pc_rA ?_; intro i1 i2 v29 e29
      rw [e30] at e29
      refine pc_add (by omega) ?_; intro v30 e30b
      refine pc_rA ?_; intro j1 j2 v31 e31b
      have e31b : v31 = (pl_S B (nf c) (B p) : Int) := by
        rw [e31b, show v30.toNat = (256 * (c : Int) + B p).toNat by omega]; exact t4 _ k1.1 k1.2.1
      refine pc_add (by omega) ?_; intro v32 e32
      refine pc_rA ?_; intro l1 l2 v33 e33
      have e33 : v33 = own_S B (nf c) := by
        rw [e33, L, n1]; unfold pt_S; congr 1; omega
      refine pc_add (by omega) ?_; intro v34 e34
      refine pc_rA ?_; intro m1 m2 v35 e35
      have e35 : v35 = (pl_S B (nf c) (own_S B (nf c)) : Int) := by
        rw [e35, show v34.toNat = (256 * (c : Int) + own_S B (nf c)).toNat by omega]; exact t4 _ k2.1 k2.2.1
      rw [e35]
      have RW : RWt u44 238 ((pl_S B (nf c) (own_S B (nf c)) + 2 : Nat) : Int) (tl_S B (nf c) (own_S B (nf c))) (fun i => B (na_S B (nf c) (own_S B (nf c)) + i)) := by
        refine ⟨by omega, by omega, by omega, fun i hi => ?_⟩
        rw [Int.toNat_natCast]; exact L _
      have nm : nm_N (fun i => B (na_S B (nf c) (own_S B (nf c)) + i)) (tl_S B (nf c) (own_S B (nf c))) = true := by
        have z := w1.2; unfold nm_S at z; rw [Bool.and_eq_true] at z; exact z.2
      have W3 := r_173 (nn := nn) (M := u44) (Bf := Bf) (nf := nf) (c := c) (by omega) (by omega) (fun k hk qk => S44 k (by omega) qk) RW (by rw [L]; exact kv2b.2.2.2) (by omega) (nm_32 nm) nn 0 1 (by omega) (.inl ⟨rfl, fun z => by rcases z with ⟨j, j1, j2, -⟩ | ⟨j, j1, -⟩ <;> omega⟩)
      refine pc_imp W3 (fun u q => ?_)
      obtain ⟨l, lo, eu⟩ := q
      rw [e98] at lo
      refine ⟨B, fun j hj => by rw [← eBn]; exact L42 j hj, fun e he => nol he, fun q hq => ?_⟩
      rcases lo with ⟨l1, no⟩ | ⟨l0, yes⟩
      · refine ⟨fun z => absurd z no, fun _ => ?_⟩
        rw [l1] at eu
        unfold qj_X13_patch_235 at eu
        rw [if_pos (by decide)] at eu
        obtain ⟨u2, e2, eu⟩ := sv_i eu
        rw [xl_eq, xl_eq] at eu
        cases eu
        obtain ⟨QI, a31⟩ := okof (nm_install hn (c := (c : Int)) (by omega) V44) e2
        obtain ⟨qi1, qi2, qi3, qi4⟩ := QI
        have W : ∀ x k : Nat, x ≠ 160 → up_M (up_M u2.2 160 99 0) 160 138 0 x k = u2.2 x k := fun x k a => by rw [up_n (fun y => a y.1), up_n (fun y => a y.1)]
        refine ⟨rfl, ?_, ?_, ?_, fun k hk => ?_⟩
        · show up_M (up_M u2.2 160 99 0) 160 138 0 160 98 = _
          rw [up_n (by omega), up_n (by omega), qi2 160 98 (by omega) (by omega)]; exact e98
        · show up_M (up_M u2.2 160 99 0) 160 138 0 160 99 = 0
          rw [up_n (by omega), up_s]
        · show up_M (up_M u2.2 160 99 0) 160 138 0 160 138 = 0
          rw [up_s]
        · unfold ext_B
          by_cases qk : k = c
          · rw [if_pos qk, qk]
            refine im_tb ?_ ?_ (fun i hi => ?_)
            · refine imr_z (fun x k a b => ?_) (fun k a => ?_) X
              · try dsimp only
                rw [W x k a]; exact qi2 x k (by omega) (by omega)
              · show up_M (up_M u2.2 160 99 0) 160 138 0 160 k = _
                rw [up_n (by omega), up_n (by omega)]; exact qi2 160 k (by omega) (by omega)
            · try dsimp only
              rw [W _ _ (by decide), qi4, t1.2.2.1]
            · try dsimp only
              rw [W _ _ (by decide), qi3 i (by rw [t1.2.2.1]; omega), L]
          · rw [if_neg qk]
            refine tb_k (by omega) (fun x j T => ?_) (fun j j1 j2 => ?_) ?_ (S44 k hk qk)
            · unfold TAB at T
              try dsimp only
              rw [W _ _ (by omega)]; exact qi2 _ _ (by omega) (by omega)
            · try dsimp only
              rw [W _ _ (by decide)]; exact qi2 _ _ (by omega) (by omega)
            · try dsimp only
              rw [W _ _ (by decide)]; exact qi2 _ _ (by omega) (by omega)
      · rw [l0] at eu
        exact ⟨fun _ => back eu, fun z => absurd yes z⟩
  -- the copy
  have L : ∀ (fu j : Nat) (g : ms_M), VS_ g → j ≤ nf c → (∀ x : Nat, x < j → g 238 x = Bf c x) → g 160 113 = (nf c : Int) → (∀ x k, x ≠ 238 → ¬ (x = 160 ∧ k = 113) → g x k = h x k) → Pc (qw_X13_patch_51 nn fu (8 + (c : Int)) (i : Int) v (c : Int) (j : Int) g) (fun u => ∃ Bn : Nat → Int, (∀ j, j < nf c → Bn j = if j = i then oq_and v 255 else Bf c j) ∧ (∀ e, rdi_S Bn (nf c) = .inl e → u.1 = 0 ∧ KPs Bf nf h u.2) ∧ ∀ q, rdi_S Bn (nf c) = .inr q → (OTh Bf nf (h 160 98) c (fun x => Bn (na_S Bn (nf c) (own_S Bn (nf c)) + x)) (tl_S Bn (nf c) (own_S Bn (nf c))) → u.1 = 0 ∧ KPs Bf nf h u.2) ∧ (¬ OTh Bf nf (h 160 98) c (fun x => Bn (na_S Bn (nf c) (own_S Bn (nf c)) + x)) (tl_S Bn (nf c) (own_S Bn (nf c))) → u.1 = 1 ∧ u.2 160 98 = h 160 98 ∧ u.2 160 99 = 0 ∧ u.2 160 138 = 0 ∧ ∀ k : Nat, (k : Int) < h 160 98 → TBr (k : Int) (nf k) (ext_B Bf c Bn k) u.2)) := by
    intro fu
    induction fu with
    | zero => intros; exact pc_none
    | succ fu ih =>
      intro j g Vg hj G e13 N
      unfold qw_X13_patch_51
      refine pc_if (fun C => ?_) (fun C => ?_)
      · exact E g Vg (fun x hx => G x (by omega)) e13 N
      · refine pc_xl ?_; intro v49 e49
        rw [oq_mul_eq (by omega) (by omega) (by omega)] at e49
        refine pc_add (by omega) ?_; intro v50 e50
        refine pc_rA ?_; intro i1 i2 v51 e51
        have e51 : v51 = Bf c j := by
          rw [e51, show v50.toNat = 6000 * c + j by omega, N 226 _ (by decide) (by omega)]; exact s3 j (by omega)
        have r51 := s4 j (by omega)
        refine pc_wA ?_; intro j1 j2 h52 e52
        refine pc_add (by omega) ?_; intro v53 e53
        rw [show v53 = ((j + 1 : Nat) : Int) by omega]
        refine ih (j + 1) h52 (by rw [e52]; exact wA_238 Vg (by omega)) (by omega) (fun x hx => ?_) (by rw [e52, up_n (by omega)]; exact e13) (fun x k a b => by rw [e52, up_n (by omega)]; exact N x k a b)
        rw [e52, Int.toNat_natCast]
        by_cases q : x = j
        · rw [q, up_s]; exact e51
        · rw [up_n (by omega)]; exact G x (by omega)
  exact L nn 0 h61 (by rw [e61, e60]; exact wF_160_113 V (by omega)) (by omega) (fun x hx => absurd hx (Nat.not_lt_zero x)) (by rw [e61, up_s]; exact e60) (fun x k a b => by rw [e61, up_n b])
end

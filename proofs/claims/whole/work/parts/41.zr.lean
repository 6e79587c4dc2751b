section
/- VERIFY: the states of a method, the class -/
/-- what is told behind one instruction -/
noncomputable def cn_V (Bf : Nat → Nat → Int) (nf : Nat → Nat) (cnt : Int) (k i y p : Nat) (o : Int ⊕ ST3) : Option (Int × Int) := match o with
  | .inl c => some (c, (p : Int))
  | .inr s2 => sl_F Bf nf cnt k i y (p + (WD (cd_S (Bf k) (nf k) i p)).toNat) (LSt (cd_S (Bf k) (nf k) i p)) s2
def QCs (cnt mx : Int) (h0 : ms_M) (o : Int ⊕ ST3) (u : Int × ms_M) : Prop := SKe h0 u.2 ∧ ((∃ c : Int, o = .inl c ∧ u.1 = c ∧ ¬ c = 0) ∨ ∃ s2 : ST3, o = .inr s2 ∧ u.1 = 0 ∧ STc cnt mx s2 u.2)
/-- what is known of a method whose looks before the states are right -/
def MGd (Bf : Nat → Nat → Int) (nf : Nat → Nat) (cnt : Int) (k i : Nat) : Prop := IOk (cd_S (Bf k) (nf k) i) (cl_N (Bf k) (nf k) i) ∧ (∀ p : Nat, p < (cl_N (Bf k) (nf k) i) → ¬ JBm (cd_S (Bf k) (nf k) i) (cl_N (Bf k) (nf k) i) p) ∧ (∀ j : Nat, j < hn_S (Bf k) (nf k) i → ¬ HBd Bf nf cnt k i j) ∧ ∀ f : Nat, f < fn_S (Bf k) (nf k) i → FTh Bf nf cnt k i f
section
variable {nn : Nat} {Bf : Nat → Nat → Int} {nf : Nat → Nat} {cnt mx lc : Int} {B C D : Nat → Int} {n m b d k i L p q y : Nat} {M h g r h0 : ms_M} {t t2 c a op x rc : Int} {o : Option ST3} {s : ST3} {u : Int × ms_M}
theorem sl_cn (hp : p < (cl_N (Bf k) (nf k) i)) : sl_F Bf nf cnt k i (y + 1) p rc s = cn_V Bf nf cnt k i y p (s1_F Bf nf cnt k i p rc s) := by
  show (if (cl_N (Bf k) (nf k) i) ≤ p then (if rc = 0 then none else some (10, ((cl_N (Bf k) (nf k) i) : Int))) else match s1_F Bf nf cnt k i p rc s with
    | .inl c => some (c, (p : Int))
    | .inr s2 => sl_F Bf nf cnt k i y (p + (WD (cd_S (Bf k) (nf k) i p)).toNat) (LSt (cd_S (Bf k) (nf k) i p)) s2) = _
  rw [if_neg (by omega)]
  all_goals rfl
theorem sl_en (hp : (cl_N (Bf k) (nf k) i) ≤ p) : sl_F Bf nf cnt k i (y + 1) p rc s = (if rc = 0 then none else some (10, ((cl_N (Bf k) (nf k) i) : Int))) := by
  show (if (cl_N (Bf k) (nf k) i) ≤ p then (if rc = 0 then none else some (10, ((cl_N (Bf k) (nf k) i) : Int))) else _) = _
  rw [if_pos hp]
theorem s1_no (e : fo_F (Bf k) (nf k) i (p : Int) = none) : s1_F Bf nf cnt k i p rc s = (if rc = 0 then .inl 10 else s2_F Bf nf cnt k i p s) := by
  unfold s1_F; rw [e]
theorem s1_so {f : Nat} (e : fo_F (Bf k) (nf k) i (p : Int) = some f) : s1_F Bf nf cnt k i p rc s = (if rc = 0 then s2_F Bf nf cnt k i p (tk_F Bf nf cnt k i f) else pr_I (FFt Bf nf cnt k i f s) (s2_F Bf nf cnt k i p (tk_F Bf nf cnt k i f)) (.inl 12)) := by
  unfold s1_F; rw [e]
theorem fo_lt {f : Nat} (e : fo_F (Bf k) (nf k) i x = some f) : f < fn_S (Bf k) (nf k) i := (fs_o e).1
theorem bgi_n (A : BGn D L p) : BGi D L (p : Int) := ⟨by omega, by rw [Int.toNat_natCast]; exact A⟩
/-- the end of an instruction -/
theorem vc_s139 (K : SKe h0 h) {o2 : Int ⊕ ST3} (N : h 127 19 = 0 → o2 = .inl 12) (Y : ¬ h 127 19 = 0 → ∃ s2 : ST3, o2 = .inr s2 ∧ STc cnt mx s2 h) : Pc (qj_X11_proveState_139 nn h) (QCs cnt mx h0 o2) := by
  unfold qj_X11_proveState_139
  refine pc_if (fun z => pc_ret ⟨K, .inl ⟨12, N z, rfl, by decide⟩⟩) (fun z => ?_)
  obtain ⟨s2, e, S⟩ := Y z
  exact pc_ret ⟨K, .inr ⟨s2, e, rfl, S⟩⟩
theorem vc_s46 (C : CMz Bf nf cnt k i h0) (H : HGo Bf nf cnt) (G : MGd Bf nf cnt k i) (bg : BGn (cd_S (Bf k) (nf k) i) (cl_N (Bf k) (nf k) i) p) (K : SKe h0 h) (S : STc cnt (Bf k (ma_S (Bf k) (nf k) i + 3)) s h) : Pc (qj_X11_proveState_46 nn (p : Int) ((cd_S (Bf k) (nf k) i) p) h) (QCs cnt (Bf k (ma_S (Bf k) (nf k) i + 3)) h0 (s2_F Bf nf cnt k i p s)) := by
  obtain ⟨IO, E7, E8, F9⟩ := G
  have Ch := cms_k C K
  obtain ⟨l1, l2, l3, l4, l5⟩ := cme_l C.1.1
  have pl := bgn_lt bg
  have wd := bgn_wd IO bg
  unfold qj_X11_proveState_46 s2_F
  refine pc_sv (vc_fhand Ch S E8 F9) ?_; intro u6 q6
  refine pc_if (fun y6 => ?_) (fun y6 => pc_ret ⟨K, .inl ⟨12, pr_f ?_, rfl, by decide⟩⟩)
  · rw [pr_t (show ∀ x : Nat, x < hn_S (Bf k) (nf k) i → HDs Bf nf cnt k i p s x by
      rcases q6 with q | q
      · exact q.2
      · exact absurd q.1 y6)]
    refine pc_add (by omega) ?_; intro v7 e7
    rw [show v7 = ((p + 1 : Nat) : Int) by omega]
    refine pc_sv (vc_codeL Ch.1.1 (p := p + 1) (by omega)) ?_; intro u9 ⟨q9, r9⟩
    refine pc_sv (vc_cright Ch H (op := (cd_S (Bf k) (nf k) i) p) (a := u9)) ?_; intro u11 q11
    rw [q9] at q11 r9 ⊢
    refine pc_if (fun y11 => ?_) (fun y11 => pc_ret ⟨K, .inl ⟨11, pr_f ?_, rfl, by decide⟩⟩)
    · have CR : CRt Bf nf cnt k ((cd_S (Bf k) (nf k) i) p) ((cd_S (Bf k) (nf k) i) (p + 1)) := by
        rcases q11 with q | q
        · exact q.2
        · exact absurd q.1 y11
      rw [pr_t CR]
      refine pc_xl ?_; intro h12 e12
      have A : CSo cnt (Bf k (ma_S (Bf k) (nf k) i + 3)) h0 (some s) h12 := ⟨ske_19 K e12, .inr ⟨s, rfl, by rw [e12, up_s], stc_19 S e12⟩⟩
      have rg0 := cme_b C.1.1 (p := ma_S (Bf k) (nf k) i + 7 + p) (by omega)
      have rg0 : 0 ≤ (cd_S (Bf k) (nf k) i) p ∧ (cd_S (Bf k) (nf k) i) p ≤ 255 := rg0
      refine pc_sv (vc_apply C H A r9.1 wd.1 rg0 CR) ?_; intro u14 ⟨K14, Z⟩
      have C14 := cms_k C K14
      refine pc_sv pv_jump ?_; intro u15 q15
      generalize ap_F Bf nf cnt k i ((cd_S (Bf k) (nf k) i) p) ((cd_S (Bf k) (nf k) i) (p + 1)) s = o at Z ⊢
      refine pc_if (fun y15 => ?_) (fun y15 => ?_)
      · have nj : ¬ JMP ((cd_S (Bf k) (nf k) i) p) := by
          rcases q15 with q | q
          · omega
          · exact q.2
        refine vc_s139 K14 (fun z => ?_) (fun z => ?_)
        · rcases Z with Z | ⟨s2, s3, s4, s5⟩
          · rw [Z.1]; rfl
          · omega
        · rcases Z with Z | ⟨s2, s3, s4, s5⟩
          · exact absurd Z.2 z
          · exact ⟨s2, by rw [s3]; exact pr_f nj, s5⟩
      have jm : JMP ((cd_S (Bf k) (nf k) i) p) := by
        rcases q15 with q | q
        · exact q.2
        · exact absurd q.1 y15
      refine pc_if (fun z => ?_) (fun z => ?_)
      · refine vc_s139 K14 (fun z => ?_) (fun w => absurd z w)
        rcases Z with Z | ⟨s2, s3, s4, s5⟩
        · rw [Z.1]; rfl
        · omega
      rcases Z with Z | ⟨s2, s3, s4, s5⟩
      · exact absurd Z.2 z
      rw [s3]
      have w3 := wd.2
      rw [wd_jmp jm] at w3
      have ab : BGi (cd_S (Bf k) (nf k) i) (cl_N (Bf k) (nf k) i) (aim_S (cd_S (Bf k) (nf k) i) p) := Classical.byContradiction fun w => E7 p pl ⟨bg, jm, w⟩
      refine pc_sv (vc_aim C14.1.1 (p := p) (by omega)) ?_; intro u18 q18
      rw [q18]
      refine pc_sv (vc_frameAt C14.2.1.1 C14.2.2.2.2) ?_; intro u20 q20
      have e20 : u20 = mk_V (fo_F (Bf k) (nf k) i (aim_S (cd_S (Bf k) (nf k) i) p)) := by
        rcases q20 with q | q
        · exact q.2
        · exact absurd ab q.1
      have E135 : ∀ o2 : Int ⊕ ST3, o2 = .inl 12 → Pc (qj_X11_proveState_135 nn u14) (QCs cnt (Bf k (ma_S (Bf k) (nf k) i + 3)) h0 o2) := fun o2 eo => by
        unfold qj_X11_proveState_135 qj_X11_proveState_136
        refine pc_ck (fun _ => ?_)
        refine pc_xl ?_; intro h4 e4
        refine vc_s139 (ske_19 K14 e4) (fun _ => eo) (fun w => absurd (by rw [e4, up_s]) w)
      have es : s3_F Bf nf cnt k i p (some s2) = (match fo_F (Bf k) (nf k) i (aim_S (cd_S (Bf k) (nf k) i) p) with
        | none => .inl 12
        | some f => pr_I (FFt Bf nf cnt k i f s2) (.inr s2) (.inl 12)) := pr_t jm
      rw [es]
      cases hf : fo_F (Bf k) (nf k) i (aim_S (cd_S (Bf k) (nf k) i) p) with
      | none =>
        rw [hf] at e20
        have e20 : u20 = -1 := e20
        exact pc_if (fun _ => E135 _ rfl) (fun w => absurd (show u20 < 0 by omega) w)
      | some f =>
        rw [hf] at e20
        have e20 : u20 = (f : Int) := e20
        have fl := fo_lt hf
        refine pc_if (fun w => absurd w (by omega)) (fun _ => ?_)
        rw [e20]
        refine pc_sv (vc_fframe C14 s5 fl (F9 f fl)) ?_; intro u22 q22
        refine pc_if (fun w => E135 _ (pr_f ?_)) (fun w => ?_)
        · rcases q22 with q | q
          · omega
          · exact q.2
        · unfold qj_X11_proveState_136
          refine pc_ck (fun _ => ?_)
          refine pc_xl ?_; intro h4 e4
          refine vc_s139 (ske_19 K14 e4) (fun z => absurd z (by rw [e4, up_s]; decide)) (fun _ => ⟨s2, pr_t ?_, stc_19 s5 e4⟩)
          rcases q22 with q | q
          · exact q.2
          · exact absurd q.1 w
    · rcases q11 with q | q
      · omega
      · exact q.2
  · rcases q6 with q | q
    · omega
    · exact q.2
theorem vc_state (C : CMz Bf nf cnt k i h0) (H : HGo Bf nf cnt) (G : MGd Bf nf cnt k i) (bg : BGn (cd_S (Bf k) (nf k) i) (cl_N (Bf k) (nf k) i) p) (K : SKe h0 h) (S : STc cnt (Bf k (ma_S (Bf k) (nf k) i + 3)) s h) : Pc (qf_X11_proveState nn (p : Int) ((cd_S (Bf k) (nf k) i) p) rc h) (QCs cnt (Bf k (ma_S (Bf k) (nf k) i + 3)) h0 (s1_F Bf nf cnt k i p rc s)) := by
  have Ch := cms_k C K
  have c0 := C.1.1.1.1.1
  rw [C.1.2] at c0
  obtain ⟨zx, zk, z2⟩ := ck_zk C.1.1
  unfold qf_X11_proveState
  refine pc_sv (vc_frameAt Ch.2.1.1 Ch.2.2.2.2 (x := (p : Int))) ?_; intro u37 q37
  have e37 : u37 = mk_V (fo_F (Bf k) (nf k) i (p : Int)) := by
    rcases q37 with q | q
    · exact q.2
    · exact absurd (bgi_n bg) q.1
  cases hf : fo_F (Bf k) (nf k) i (p : Int) with
  | none =>
    rw [hf] at e37
    have e37 : u37 = -1 := e37
    rw [s1_no hf]
    refine pc_if (fun z => ?_) (fun z => ?_)
    · rw [if_neg z]
      unfold qj_X11_proveState_19
      exact pc_if (fun _ => vc_s46 C H G bg K S) (fun w => absurd (show u37 < 0 by omega) w)
    · rw [if_pos (show rc = 0 by omega)]
      exact pc_if (fun w => absurd w (by omega)) (fun _ => pc_ret ⟨K, .inl ⟨10, rfl, rfl, by decide⟩⟩)
  | some f =>
    rw [hf] at e37
    have e37 : u37 = (f : Int) := e37
    have fl := fo_lt hf
    have F := G.2.2.2 f fl
    obtain ⟨V1, V2⟩ := ft_vt c0 (cme_m C.1.1) zk z2 fl F
    rw [s1_so hf, e37]
    have P40 : Pc (qj_X11_proveState_40 nn (p : Int) ((cd_S (Bf k) (nf k) i) p) (f : Int) h) (QCs cnt (Bf k (ma_S (Bf k) (nf k) i + 3)) h0 (s2_F Bf nf cnt k i p (tk_F Bf nf cnt k i f))) := by
      unfold qj_X11_proveState_40
      refine pc_sv (vc_tkf Ch ⟨fun j hj => (V1 j hj).2, fun j hj => (V2 j hj).2⟩ fl F) ?_; intro u30 ⟨K30, S30⟩
      exact vc_s46 C H G bg (ske_t K K30) S30
    have P19 : Pc (qj_X11_proveState_19 nn (p : Int) ((cd_S (Bf k) (nf k) i) p) rc (f : Int) h) (QCs cnt (Bf k (ma_S (Bf k) (nf k) i + 3)) h0 (if rc = 0 then s2_F Bf nf cnt k i p (tk_F Bf nf cnt k i f) else pr_I (FFt Bf nf cnt k i f s) (s2_F Bf nf cnt k i p (tk_F Bf nf cnt k i f)) (.inl 12))) := by
      unfold qj_X11_proveState_19
      refine pc_if (fun w => absurd w (by omega)) (fun _ => ?_)
      refine pc_if (fun w => ?_) (fun w => ?_)
      · rw [if_pos w]; exact P40
      · rw [if_neg w]
        refine pc_sv (vc_fframe Ch S fl F) ?_; intro u32 q32
        refine pc_if (fun y => ?_) (fun y => pc_ret ⟨K, .inl ⟨12, pr_f ?_, rfl, by decide⟩⟩)
        · rw [pr_t (show FFt Bf nf cnt k i f s by
            rcases q32 with q | q
            · exact q.2
            · exact absurd q.1 y)]
          exact P40
        · rcases q32 with q | q
          · omega
          · exact q.2
    refine pc_if (fun _ => P19) (fun _ => ?_)
    exact pc_if (fun _ => P19) (fun w => absurd (show (0 : Int) ≤ (f : Int) by omega) w)
theorem vc_last : Pc (qf_X11_isLast nn op h) (fun u => (u = 1 ∧ LSt op = 0) ∨ (u = 0 ∧ LSt op = 1)) := by
  unfold qf_X11_isLast LSt
  refine pc_if (fun z => pc_ret (.inl ⟨rfl, if_pos (by omega)⟩)) (fun z => ?_)
  refine pc_if (fun z => pc_ret (.inl ⟨rfl, if_pos (by omega)⟩)) (fun z => ?_)
  refine pc_if (fun z => pc_ret (.inl ⟨rfl, if_pos (by omega)⟩)) (fun z => ?_)
  refine pc_if (fun z => pc_ret (.inl ⟨rfl, if_pos (by omega)⟩)) (fun z => ?_)
  exact pc_if (fun z => pc_ret (.inr ⟨rfl, if_neg (by omega)⟩)) (fun z => pc_ret (.inl ⟨rfl, if_pos (by omega)⟩))
/-- PROVE STATES, the class -/
def SKx (h g : ms_M) : Prop := ∀ x y : Nat, ¬ (x = 134 ∨ x = 135) → ¬ (x = 127 ∧ (y = 7 ∨ y = 18 ∨ y = 19)) → g x y = h x y
theorem vc_ps4 (C : CMz Bf nf cnt k i h0) (H : HGo Bf nf cnt) (G : MGd Bf nf cnt k i) {t0 : Nat} (T : GSo (cd_S (Bf k) (nf k) i) (cl_N (Bf k) (nf k) i) t0) (TL : is_S (cd_S (Bf k) (nf k) i) t0 = (cl_N (Bf k) (nf k) i)) : ∀ (f j y : Nat) (rc : Int) (s : ST3) (h : ms_M), j ≤ t0 → (cl_N (Bf k) (nf k) i) < y + is_S (cd_S (Bf k) (nf k) i) j → SKe h0 h → STc cnt (Bf k (ma_S (Bf k) (nf k) i + 3)) s h → (rc = 0 ∨ rc = 1) → Pc (qw_X11_proveStates_4 nn f rc (is_S (cd_S (Bf k) (nf k) i) j : Int) h) (fun u => SKx h0 u.2 ∧ ((u.1 = 0 ∧ sl_F Bf nf cnt k i y (is_S (cd_S (Bf k) (nf k) i) j) rc s = none) ∨ (¬ u.1 = 0 ∧ sl_F Bf nf cnt k i y (is_S (cd_S (Bf k) (nf k) i) j) rc s = some (u.1, u.2 127 7)))) := by
  obtain ⟨l1, l2, l3, l4, l5⟩ := cme_l C.1.1
  intro f
  induction f with
  | zero => intro j y rc s h _ _ _ _ _; exact pc_none
  | succ f ih =>
    intro j y rc s h hj hy K S r01
    have Ch := cms_k C K
    have KX : SKx h0 h := fun x y z1 z2 => K x y z1 (by omega)
    have jL : is_S (cd_S (Bf k) (nf k) i) j ≤ (cl_N (Bf k) (nf k) i) := by
      by_cases e : j = t0
      · rw [e]; omega
      · have := (T j (by omega)).1
        omega
    cases y with
    | zero => omega
    | succ y =>
    unfold qw_X11_proveStates_4
    rw [Ch.2.1.1]
    refine pc_if (fun z => ?_) (fun z => ?_)
    · rw [sl_en (by omega)]
      refine pc_if (fun w => pc_ret ⟨KX, .inl ⟨rfl, if_pos w⟩⟩) (fun w => ?_)
      refine pc_sv vc_at ?_; intro u7 ⟨r1, r2⟩
      refine pc_ret ⟨fun x y z1 z2 => ?_, .inr ⟨?_, ?_⟩⟩
      · show u7.2 x y = _
        rw [r2, up_n (by omega)]; exact KX x y z1 z2
      · show ¬ u7.1 = 0
        rw [r1]; decide
      · show (if rc = 0 then none else some (10, ((cl_N (Bf k) (nf k) i) : Int))) = some (u7.1, u7.2 127 7)
        rw [if_neg w, r1, r2, up_s]
    have jt : j < t0 := Classical.byContradiction fun w => by
      have : j = t0 := by omega
      rw [this] at z; omega
    have bg : BGn (cd_S (Bf k) (nf k) i) (cl_N (Bf k) (nf k) i) (is_S (cd_S (Bf k) (nf k) i) j) := (bgn_iff T TL).2 ⟨j, jt, rfl⟩
    rw [sl_cn (by omega)]
    refine pc_sv (vc_codeL Ch.1.1 (p := is_S (cd_S (Bf k) (nf k) i) j) (by omega)) ?_; intro u10 ⟨q10, r10⟩
    rw [q10]
    refine pc_sv (vc_state C H G bg K S) ?_; intro u12 ⟨K12, Z⟩
    have KX12 : SKx h0 u12.2 := fun x y z1 z2 => K12 x y z1 (by omega)
    generalize s1_F Bf nf cnt k i (is_S (cd_S (Bf k) (nf k) i) j) rc s = o1 at Z ⊢
    refine pc_if (fun w => ?_) (fun w => ?_)
    · rcases Z with ⟨c, c1, c2, c3⟩ | ⟨s2, c1, c2, c3⟩
      · omega
      rw [c1]
      have N52 : ∀ r : Int, r = LSt ((cd_S (Bf k) (nf k) i) (is_S (cd_S (Bf k) (nf k) i) j)) → Pc (qj_X11_proveStates_52 nn (qw_X11_proveStates_4 nn f) (is_S (cd_S (Bf k) (nf k) i) j : Int) ((cd_S (Bf k) (nf k) i) (is_S (cd_S (Bf k) (nf k) i) j)) r u12.2) (fun u => SKx h0 u.2 ∧ ((u.1 = 0 ∧ cn_V Bf nf cnt k i y (is_S (cd_S (Bf k) (nf k) i) j) (.inr s2) = none) ∨ (¬ u.1 = 0 ∧ cn_V Bf nf cnt k i y (is_S (cd_S (Bf k) (nf k) i) j) (.inr s2) = some (u.1, u.2 127 7)))) := fun r er => by
        unfold qj_X11_proveStates_52
        rw [q10] at r10
        refine pc_sv (P := fun u => u = WD ((cd_S (Bf k) (nf k) i) (is_S (cd_S (Bf k) (nf k) i) j))) (fun u eu => by rw [wd_c r10] at eu; exact (Option.some.inj eu).symm) ?_; intro u1 q1
        have w := T j jt
        refine pc_xl ?_; intro v2 e2
        refine pc_add (by split at e2 <;> omega) ?_; intro v3 e3
        have es : is_S (cd_S (Bf k) (nf k) i) (j + 1) = is_S (cd_S (Bf k) (nf k) i) j + (WD ((cd_S (Bf k) (nf k) i) (is_S (cd_S (Bf k) (nf k) i) j))).toNat := rfl
        rw [show v3 = (is_S (cd_S (Bf k) (nf k) i) (j + 1) : Int) by split at e2 <;> omega]
        refine pc_imp (ih (j + 1) y r s2 u12.2 (by omega) (by omega) K12 c3 (by rw [er]; unfold LSt; split; exact .inl rfl; exact .inr rfl)) (fun u ⟨p1, p2⟩ => ⟨p1, ?_⟩)
        rw [er, es] at p2
        exact p2
      refine pc_sv vc_last ?_; intro u13 q13
      refine pc_if (fun v => N52 0 ?_) (fun v => N52 1 ?_)
      · rcases q13 with q | q
        · exact q.2.symm
        · exact absurd q.1 v
      · rcases q13 with q | q
        · omega
        · exact q.2.symm
    · rcases Z with ⟨c, c1, c2, c3⟩ | ⟨s2, c1, c2, c3⟩
      · refine pc_sv vc_at ?_; intro u16 ⟨r1, r2⟩
        refine pc_ret ⟨fun x y z1 z2 => ?_, .inr ⟨?_, ?_⟩⟩
        · show u16.2 x y = _
          rw [r2, up_n (by omega)]; exact KX12 x y z1 z2
        · show ¬ u16.1 = 0
          rw [r1]; exact w
        · rw [c1]
          show some (c, (is_S (cd_S (Bf k) (nf k) i) j : Int)) = some (u16.1, u16.2 127 7)
          rw [r1, r2, up_s, c2]
      · exact absurd c2 w
theorem vc_states (C : CMz Bf nf cnt k i h) (H : HGo Bf nf cnt) (G : MGd Bf nf cnt k i) (S : STc cnt (Bf k (ma_S (Bf k) (nf k) i + 3)) s h) : Pc (qf_X11_proveStates nn h) (fun u => SKx h u.2 ∧ ((u.1 = 0 ∧ sl_F Bf nf cnt k i ((cl_N (Bf k) (nf k) i) + 1) 0 1 s = none) ∨ (¬ u.1 = 0 ∧ sl_F Bf nf cnt k i ((cl_N (Bf k) (nf k) i) + 1) 0 1 s = some (u.1, u.2 127 7)))) := by
  obtain ⟨t0, T, TL⟩ := G.1
  unfold qf_X11_proveStates
  exact vc_ps4 C H G T TL nn 0 ((cl_N (Bf k) (nf k) i) + 1) 1 s h (Nat.zero_le _) (by omega) (fun _ _ _ _ => rfl) S (.inr rfl)
/-- BEGIN STATE, the class -/
theorem vc_begin (hn : 1000000 ≤ nn) (C : CMe Bf nf k i h) (ec : h 56 3 = cnt) (H : HGo Bf nf cnt) : Pc (qf_X11_beginState nn (8 + (k : Int)) h) (fun u => (∀ x y : Nat, ¬ x = 134 → ¬ (x = 131 ∧ y ≤ 6) → ¬ (x = 127 ∧ (y = 17 ∨ y = 18 ∨ y = 20)) → u x y = h x y) ∧ STc cnt (Bf k (ma_S (Bf k) (nf k) i + 3)) (bs_F Bf nf cnt k i) u ∧ u 127 17 = (Bf k (ma_S (Bf k) (nf k) i + 3)) ∧ u 127 20 = rk_F Bf nf cnt k (kt_S (Bf k) (nf k) i 1)) := by
  have gm := cme_m C
  have g30 := gm.2.2.1
  have hk' : (k : Int) < cnt := by have := C.2.2.1; omega
  have c8 := H.1.2
  obtain ⟨Gk, Ok, zx, zk, z2⟩ := H.2 k hk'
  obtain ⟨m2, PI, ml⟩ := gm.2.1
  have PI : pi_S (Bf k) (nf k) (kt_S (Bf k) (nf k) i 1) = some m2 := PI
  obtain ⟨em, t1, KM⟩ := ps_ok PI
  have m6 := KM.1.2.2
  have b01 := gm.1.1
  have KA := Ok.1.2.1.2 i C.2.1
  have VP : ∀ j : Nat, j < m2 → VTq cnt (pk_F Bf nf cnt k (kt_S (Bf k) (nf k) i 1) j) := fun j hj => by
    have kd := kd_s (KM.2.1 j hj).1
    rcases kq_is (Bf := Bf) (nf := nf) H.1 kd.1 with w | w
    · exact absurd w.1 kd.2.2.2
    · rcases w.2.2.2.2.2 with v | v
      · exact absurd v (KA.1 j (by omega))
      · exact v
  unfold qf_X11_beginState
  refine pc_xl ?_; intro h4 e4
  refine pc_sv vc_fillL ?_; intro u6 ⟨F6, W6⟩
  have F6h : ∀ x y : Nat, ¬ x = 134 → ¬ (x = 127 ∧ y = 18) → u6 x y = h x y := fun x y w1 w2 => by rw [F6 x y w1, e4, up_n w2]
  have C6 : CMe Bf nf k i u6 := cme_k C (fun x y z1 z2 => F6h x y (by omega) (by omega))
  refine pc_sv (vc_info C6 (w := 3) (by decide) (cme_d C6).1.2.2.2.2.1) ?_; intro u8 q8
  refine pc_xl ?_; intro v11 e11
  rw [if_neg (by omega), q8] at e11
  refine pc_xl ?_; intro h12 e12
  have F12 : ∀ x y : Nat, ¬ (x = 127 ∧ y = 17) → h12 x y = u6 x y := fun x y w => by rw [e12, up_n w]
  have C12 : CMe Bf nf k i h12 := cme_k C6 (fun x y z1 z2 => F12 x y (by omega))
  rw [C12.2.2.2.1]
  refine pc_ck (fun _ => ?_)
  refine pc_sv (vc_info C12 (w := 2) (by decide) (cme_d C12).1.2.2.1) ?_; intro u16 q16
  have q16 : u16 = kt_S (Bf k) (nf k) i 1 := q16
  rw [q16]
  have c3 : h12 56 3 = cnt := by rw [F12 56 3 (by omega), F6h 56 3 (by omega) (by omega)]; exact ec
  have qk := vc_readM (nn := nn) hn C12.1.1 (a := 0) (by omega) PI C12.2.2.1
  rw [c3] at qk
  refine pc_sv qk ?_; intro u19 ⟨r1, r2, r3, r4⟩
  rw [em] at r1 r2 r4
  have F19 : ∀ x y : Nat, ¬ (x = 131 ∧ y ≤ 6) → u19.2 x y = h12 x y := fun x y w => r2 x y (by omega)
  refine pc_rA ?_; intro _ _ v21 e21
  have e21 : v21 = rk_F Bf nf cnt k (kt_S (Bf k) (nf k) i 1) := e21.trans r3
  refine pc_xl ?_; intro h22 e22
  have F22 : ∀ x y : Nat, ¬ (x = 131 ∧ y ≤ 6) → ¬ (x = 127 ∧ y = 20) → h22 x y = h12 x y := fun x y w1 w2 => by rw [e22, up_n w2]; exact F19 x y w1
  have C22 : CMe Bf nf k i h22 := cme_k C12 (fun x y z1 z2 => F22 x y (by omega) (by omega))
  have P22 : ∀ j : Nat, j < m2 → h22 131 (1 + j) = pk_F Bf nf cnt k (kt_S (Bf k) (nf k) i 1) j := fun j hj => by
    rw [e22, up_n (by omega)]
    have := r4 j hj
    rw [Nat.zero_add] at this
    exact this
  have L22 : ∀ j : Nat, j < 30 → h22 134 j = 304 := fun j hj => by rw [F22 134 j (by omega) (by omega), F12 134 j (by omega)]; exact W6 j hj
  have B22 : ∀ x y : Nat, ¬ x = 134 → ¬ (x = 131 ∧ y ≤ 6) → ¬ (x = 127 ∧ (y = 17 ∨ y = 18 ∨ y = 20)) → h22 x y = h x y := fun x y w1 w2 w3 => by rw [F22 x y w2 (by omega), F12 x y (by omega)]; exact F6h x y w1 (by omega)
  have e18 : h22 127 18 = 0 := by rw [F22 127 18 (by omega) (by omega), F12 127 18 (by omega), F6 127 18 (by omega), e4, up_s]
  have e17 : h22 127 17 = (Bf k (ma_S (Bf k) (nf k) i + 3)) := by rw [F22 127 17 (by omega) (by omega), e12, up_s, e11]
  have e20 : h22 127 20 = rk_F Bf nf cnt k (kt_S (Bf k) (nf k) i 1) := by rw [e22, up_s, e21]
  refine pc_sv (vc_info C22 (w := 0) (by decide) (cme_d C22).1.1) ?_; intro u24 q24
  have FIN : ∀ (l3 : Nat) (g : ms_M), (∀ x y : Nat, ¬ x = 134 → g x y = h22 x y) → (∀ j : Nat, j < 30 → (j < l3 ∨ l3 + m2 ≤ j) → g 134 j = (bs_F Bf nf cnt k i).1 j) → (∀ j : Nat, j < m2 → (bs_F Bf nf cnt k i).1 (l3 + j) = pk_F Bf nf cnt k (kt_S (Bf k) (nf k) i 1) j) → (∀ j : Nat, j < 30 → VTq cnt ((bs_F Bf nf cnt k i).1 j)) → Pc (qj_X11_beginState_83 nn u19.1 (l3 : Int) g) (fun u => (∀ x y : Nat, ¬ x = 134 → ¬ (x = 131 ∧ y ≤ 6) → ¬ (x = 127 ∧ (y = 17 ∨ y = 18 ∨ y = 20)) → u x y = h x y) ∧ STc cnt (Bf k (ma_S (Bf k) (nf k) i + 3)) (bs_F Bf nf cnt k i) u ∧ u 127 17 = (Bf k (ma_S (Bf k) (nf k) i + 3)) ∧ u 127 20 = rk_F Bf nf cnt k (kt_S (Bf k) (nf k) i 1)) := fun l3 g Fg Lg Pg Vg => by
    unfold qj_X11_beginState_83
    refine pc_cpS ?_; intro h3 e3
    have F3 : ∀ x y : Nat, ¬ x = 134 → h3 x y = h22 x y := fun x y w => by
      rw [e3]
      show (if x = 134 ∧ _ then _ else g x y) = h22 x y
      rw [if_neg (fun z => w z.1)]
      exact Fg x y w
    refine pc_ret ⟨fun x y w1 w2 w3 => by rw [F3 x y w1]; exact B22 x y w1 w2 w3, ⟨⟨Vg, fun j hj => absurd hj (Nat.not_lt_zero _), by show ((0 : Nat) : Int) ≤ (Bf k (ma_S (Bf k) (nf k) i + 3)); omega⟩, fun j hj => ?_, fun j hj => absurd hj (Nat.not_lt_zero _), by rw [F3 127 18 (by omega)]; exact e18⟩, by rw [F3 127 17 (by omega)]; exact e17, by rw [F3 127 20 (by omega)]; exact e20⟩
    rw [e3]
    show (if 134 = 134 ∧ ((l3 : Nat) : Int).toNat ≤ j ∧ j < ((l3 : Nat) : Int).toNat + u19.1.toNat then g 131 ((1 : Int).toNat + (j - ((l3 : Nat) : Int).toNat)) else g 134 j) = _
    rw [Int.toNat_natCast, show (1 : Int).toNat = 1 from rfl]
    by_cases w : l3 ≤ j ∧ j < l3 + u19.1.toNat
    · rw [if_pos ⟨rfl, w⟩, Fg 131 _ (by omega), P22 (j - l3) (by omega)]
      have := Pg (j - l3) (by omega)
      rw [show l3 + (j - l3) = j by omega] at this
      exact this.symm
    · rw [if_neg (fun z => w z.2)]
      exact Lg j hj (by omega)
  have BS : ∀ j : Nat, (bs_F Bf nf cnt k i).1 j = if Bf k (ma_S (Bf k) (nf k) i) = 0 then (if j = 0 then 8 + (k : Int) else if j - 1 < m2 then pk_F Bf nf cnt k (kt_S (Bf k) (nf k) i 1) (j - 1) else 304) else if j < m2 then pk_F Bf nf cnt k (kt_S (Bf k) (nf k) i 1) j else 304 := fun j => by
    rw [← em]; rfl
  refine pc_if (fun z => ?_) (fun z => ?_)
  · have nz : ¬ Bf k (ma_S (Bf k) (nf k) i) = 0 := by omega
    refine FIN 0 h22 (fun _ _ _ => rfl) (fun j hj w => ?_) (fun j hj => ?_) (fun j hj => ?_)
    · rw [BS j, if_neg nz, if_neg (by omega)]; exact L22 j hj
    · rw [BS (0 + j), if_neg nz, if_pos (by omega), Nat.zero_add]
    · rw [BS j, if_neg nz]
      by_cases w : j < m2
      · rw [if_pos w]; exact VP j w
      · rw [if_neg w]; exact .inl rfl
  · have zz : Bf k (ma_S (Bf k) (nf k) i) = 0 := by omega
    refine pc_wA ?_; intro _ _ h26 e26
    have e26 : h26 = up_M h22 134 0 (8 + (k : Int)) := e26
    refine FIN 1 h26 (fun x y w => by rw [e26, up_n (by omega)]) (fun j hj w => ?_) (fun j hj => ?_) (fun j hj => ?_)
    · rw [BS j, if_pos zz]
      by_cases j0 : j = 0
      · rw [if_pos j0, j0, e26, up_s]
      · rw [if_neg j0, if_neg (by omega), e26, up_n (by omega)]; exact L22 j hj
    · rw [BS (1 + j), if_pos zz, if_neg (by omega), if_pos (by omega), show 1 + j - 1 = j by omega]
    · rw [BS j, if_pos zz]
      by_cases j0 : j = 0
      · rw [if_pos j0]
        refine .inr (.inr (.inr (.inr (.inl ?_))))
        unfold ISc
        omega
      · rw [if_neg j0]
        by_cases w : j - 1 < m2
        · rw [if_pos w]; exact VP _ w
        · rw [if_neg w]; exact .inl rfl
end
end
section
/- VERIFY: the states of a method, the reference -/
section
variable {nn : Nat} {Bf : Nat → Nat → Int} {nf : Nat → Nat} {cnt mx lc : Int} {B C D : Nat → Int} {n m b d k i L p q y : Nat} {M h g r h0 hb : ms_M} {t t2 c a op x rc : Int} {o : Option ST3} {s : ST3} {u : Int × ms_M}
theorem vr_s408 {qk : Int → Int → Int → Int → ms_M → Option (Int × ms_M)} {Q : Int × ms_M → Prop} (R : RMe Bf nf cnt k i h) (bg : BGn (cd_S (Bf k) (nf k) i) (cl_N (Bf k) (nf k) i) p) (IO : IOk (cd_S (Bf k) (nf k) i) (cl_N (Bf k) (nf k) i)) (HK : Pc (qk (8 + (k : Int)) (i : Int) rc ((p + (WD ((cd_S (Bf k) (nf k) i) p)).toNat : Nat) : Int) h) Q) : Pc (qj_X13_flows_408 nn qk (8 + (k : Int)) (i : Int) (p : Int) rc h) Q := by
  have pl := bgn_lt bg
  have wd := bgn_wd IO bg
  obtain ⟨l1, l2, l3, l4, l5⟩ := rme_l R
  unfold qj_X13_flows_408
  refine pc_sv (vr_code R (p := p) (by omega)) ?_; intro u2 q2
  rw [q2]
  refine pc_sv wd_r ?_; intro u3 q3
  refine pc_add (by omega) ?_; intro v4 e4
  rw [show v4 = ((p + (WD ((cd_S (Bf k) (nf k) i) p)).toNat : Nat) : Int) by omega]
  exact HK
theorem vr_s363 {qk : Int → Int → Int → Int → ms_M → Option (Int × ms_M)} {Q : Int × ms_M → Prop} (R : RMe Bf nf cnt k i h) (bg : BGn (cd_S (Bf k) (nf k) i) (cl_N (Bf k) (nf k) i) p) (IO : IOk (cd_S (Bf k) (nf k) i) (cl_N (Bf k) (nf k) i)) (HK : Pc (qk (8 + (k : Int)) (i : Int) (LSt ((cd_S (Bf k) (nf k) i) p)) ((p + (WD ((cd_S (Bf k) (nf k) i) p)).toNat : Nat) : Int) h) Q) : Pc (qj_X13_flows_363 nn qk (8 + (k : Int)) (i : Int) (p : Int) ((cd_S (Bf k) (nf k) i) p) h) Q := by
  have A : ∀ r : Int, r = LSt ((cd_S (Bf k) (nf k) i) p) → Pc (qj_X13_flows_408 nn qk (8 + (k : Int)) (i : Int) (p : Int) r h) Q := fun r er => by
    rw [er]; exact vr_s408 R bg IO HK
  unfold qj_X13_flows_363 qj_X13_flows_407
  refine pc_if (fun z => A 0 (by unfold LSt; rw [if_pos (by omega)])) (fun z => ?_)
  refine pc_if (fun z => A 0 (by unfold LSt; rw [if_pos (by omega)])) (fun z => ?_)
  refine pc_if (fun z => A 0 (by unfold LSt; rw [if_pos (by omega)])) (fun z => ?_)
  refine pc_if (fun z => A 0 (by unfold LSt; rw [if_pos (by omega)])) (fun z => ?_)
  exact pc_if (fun z => A 0 (by unfold LSt; rw [if_pos (by omega)])) (fun z => A 1 (by unfold LSt; rw [if_neg (by omega)]))
/-- one instruction behind its frame -/
theorem vr_s240 {qk : Int → Int → Int → Int → ms_M → Option (Int × ms_M)} (RB : RM0 Bf nf cnt k i h0 hb) (RZ : hb 160 136 = ((6000 * k + (ps_S (Bf k) (nf k) (kt_S (Bf k) (nf k) i 1) (pm_S (Bf k) (nf k) (kt_S (Bf k) (nf k) i 1)) + 1) : Nat) : Int)) (H : HGo Bf nf cnt) (G : MGd Bf nf cnt k i) (bg : BGn (cd_S (Bf k) (nf k) i) (cl_N (Bf k) (nf k) i) p) (K : RKs hb h) (S : STr cnt (Bf k (ma_S (Bf k) (nf k) i + 3)) (Bf k (ma_S (Bf k) (nf k) i + 4)) s h) (EM : mr_F Bf nf cnt k i = cn_V Bf nf cnt k i y p (s2_F Bf nf cnt k i p s)) (HK : ∀ (g : ms_M) (s2 : ST3), RKs hb g → STr cnt (Bf k (ma_S (Bf k) (nf k) i + 3)) (Bf k (ma_S (Bf k) (nf k) i + 4)) s2 g → mr_F Bf nf cnt k i = sl_F Bf nf cnt k i y (p + (WD ((cd_S (Bf k) (nf k) i) p)).toNat) (LSt ((cd_S (Bf k) (nf k) i) p)) s2 → Pc (qk (8 + (k : Int)) (i : Int) (LSt ((cd_S (Bf k) (nf k) i) p)) ((p + (WD ((cd_S (Bf k) (nf k) i) p)).toNat : Nat) : Int) g) (RMF Bf nf cnt k i h0)) : Pc (qj_X13_flows_240 nn qk (8 + (k : Int)) (i : Int) (p : Int) h) (RMF Bf nf cnt k i h0) := by
  obtain ⟨IO, E7, E8, F9⟩ := G
  have R := RB.1
  have Rh := rme_e R (rks_e K)
  obtain ⟨l1, l2, l3, l4, l5⟩ := rme_l R
  have pl := bgn_lt bg
  have wd := bgn_wd IO bg
  have c0 := rme_c R
  have BAD : ∀ (c : Int) (g : ms_M), RKs hb g → s2_F Bf nf cnt k i p s = .inl c → Pc (mx_sv (qf_X13_bad nn c (8 + (k : Int)) (i : Int) (p : Int) g) fun u => ck_B (u.1 = 0 ∨ u.1 = 1) <| some (u.1, u.2)) (RMF Bf nf cnt k i h0) := fun c g Kg e => by
    refine vr_badM (rm0_e RB (rks_e Kg)) ?_
    rw [EM, e]; rfl
  unfold qj_X13_flows_240
  refine pc_sv (vr_handled Rh S E8 F9) ?_; intro u14 ⟨O14, q14⟩
  have K14 := rks_t K (rks_o O14)
  refine pc_if (fun y14 => ?_) (fun y14 => BAD 12 u14.2 K14 ?_)
  · have HD : ∀ x : Nat, x < hn_S (Bf k) (nf k) i → HDs Bf nf cnt k i p s x := by
      rcases q14 with q | q
      · exact q.2
      · exact absurd q.1 y14
    have e1 : s2_F Bf nf cnt k i p s = pr_I (CRt Bf nf cnt k ((cd_S (Bf k) (nf k) i) p) ((cd_S (Bf k) (nf k) i) (p + 1))) (s3_F Bf nf cnt k i p (ap_F Bf nf cnt k i ((cd_S (Bf k) (nf k) i) p) ((cd_S (Bf k) (nf k) i) (p + 1)) s)) (.inl 11) := pr_t HD
    refine pc_sv (vr_right (rme_e R (rks_e K14)) H pl (str_o S O14)) ?_; intro u16 ⟨K16', S16, q16⟩
    have K16 := rks_t K14 K16'
    refine pc_if (fun y16 => ?_) (fun y16 => BAD 11 u16.2 K16 ?_)
    · have CR : CRt Bf nf cnt k ((cd_S (Bf k) (nf k) i) p) ((cd_S (Bf k) (nf k) i) (p + 1)) := by
        rcases q16 with q | q
        · exact q.2
        · exact absurd q.1 y16
      have e2 : s2_F Bf nf cnt k i p s = s3_F Bf nf cnt k i p (ap_F Bf nf cnt k i ((cd_S (Bf k) (nf k) i) p) ((cd_S (Bf k) (nf k) i) (p + 1)) s) := e1.trans (pr_t CR)
      refine pc_sv (vr_wanted R RZ H K16 S16 pl CR wd.1) ?_; intro u18 ⟨K18, Z⟩
      generalize ap_F Bf nf cnt k i ((cd_S (Bf k) (nf k) i) p) ((cd_S (Bf k) (nf k) i) (p + 1)) s = o at Z e2
      rcases Z with Z | ⟨s2, s3, s4, s5⟩
      · refine pc_if (fun w => absurd Z.2 w) (fun _ => BAD 12 u18.2 K18 ?_)
        rw [e2, Z.1]; rfl
      refine pc_if (fun _ => ?_) (fun w => absurd (show ¬ u18.1 = 0 by omega) w)
      rw [s3] at e2
      have R18 := rme_e R (rks_e K18)
      refine pc_sv (vr_code R18 (p := p) (by omega)) ?_; intro u20 q20
      rw [q20]
      refine pc_sv (pc_ok mv_jump) ?_; intro u21 q21
      have JJ : 153 ≤ (cd_S (Bf k) (nf k) i) p ∧ (cd_S (Bf k) (nf k) i) p ≤ 167 → JMP ((cd_S (Bf k) (nf k) i) p) := fun z => by
        have w0 : ∀ o : Int, o = 155 ∨ o = 156 ∨ o = 157 ∨ o = 158 → WD o = 0 := fun o z => by
          rcases z with e | e | e | e <;> (rw [e]; decide)
        have := w0 ((cd_S (Bf k) (nf k) i) p)
        unfold JMP
        omega
      refine pc_if (fun y21 => ?_) (fun y21 => ?_)
      · have nj : ¬ JMP ((cd_S (Bf k) (nf k) i) p) := fun w => by
          unfold JMP at w
          omega
        have e3 : s2_F Bf nf cnt k i p s = .inr s2 := e2.trans (pr_f nj)
        refine vr_s363 R18 bg IO (HK u18.2 s2 K18 s5 ?_)
        rw [EM, e3]; rfl
      have jm : JMP ((cd_S (Bf k) (nf k) i) p) := by
        rcases q21 with q | q
        · exact absurd q.1 y21
        · exact JJ q.2
      have w3 := wd.2
      rw [wd_jmp jm] at w3
      have e3 : s2_F Bf nf cnt k i p s = (match fo_F (Bf k) (nf k) i (aim_S (cd_S (Bf k) (nf k) i) p) with
        | none => .inl 12
        | some f => pr_I (FFt Bf nf cnt k i f s2) (.inr s2) (.inl 12)) := e2.trans (pr_t jm)
      refine pc_sv (vr_aim R18 (p := p) (by omega)) ?_; intro u23 q23
      rw [q23]
      refine pc_sv (vr_for R18) ?_; intro u25 q25
      unfold qj_X13_flows_352
      rcases q25 with ⟨f, f1, f2⟩ | ⟨f1, f2⟩
      · rw [f1] at e3
        have fl := fo_lt f1
        refine pc_if (fun w => absurd w (by omega)) (fun _ => ?_)
        rw [f2]
        refine vr_ffit (N := fun g => mx_sv (qf_X13_bad nn 12 (8 + (k : Int)) (i : Int) (p : Int) g) fun u11 => ck_B (u11.1 = 0 ∨ u11.1 = 1) <| some (u11.1, u11.2)) (G1 := qj_X13_flows_363 nn qk (8 + (k : Int)) (i : Int) (p : Int) ((cd_S (Bf k) (nf k) i) p)) R18 s5 fl (F9 f fl) (fun g Og FF => ?_) (fun g Og NF => BAD 12 g (rks_t K18 (rks_o Og)) (e3.trans (pr_f NF)))
        have Kg := rks_t K18 (rks_o Og)
        have e4 : s2_F Bf nf cnt k i p s = .inr s2 := e3.trans (pr_t FF)
        refine vr_s363 (rme_e R (rks_e Kg)) bg IO (HK g s2 Kg (str_o s5 Og) ?_)
        rw [EM, e4]; rfl
      · rw [f1] at e3
        exact pc_if (fun _ => BAD 12 u18.2 K18 e3) (fun w => absurd f2 w)
    · refine e1.trans (pr_f ?_)
      rcases q16 with q | q
      · omega
      · exact q.2
  · refine pr_f ?_
    rcases q14 with q | q
    · omega
    · exact q.2
/-- THE STATES -/
theorem vr_s155 (RB : RM0 Bf nf cnt k i h0 hb) (RZ : hb 160 136 = ((6000 * k + (ps_S (Bf k) (nf k) (kt_S (Bf k) (nf k) i 1) (pm_S (Bf k) (nf k) (kt_S (Bf k) (nf k) i 1)) + 1) : Nat) : Int)) (H : HGo Bf nf cnt) (G : MGd Bf nf cnt k i) {t0 : Nat} (T : GSo (cd_S (Bf k) (nf k) i) (cl_N (Bf k) (nf k) i) t0) (TL : is_S (cd_S (Bf k) (nf k) i) t0 = (cl_N (Bf k) (nf k) i)) : ∀ (f j y : Nat) (rc : Int) (s : ST3) (h : ms_M), j ≤ t0 → (cl_N (Bf k) (nf k) i) < y + is_S (cd_S (Bf k) (nf k) i) j → RKs hb h → STr cnt (Bf k (ma_S (Bf k) (nf k) i + 3)) (Bf k (ma_S (Bf k) (nf k) i + 4)) s h → mr_F Bf nf cnt k i = sl_F Bf nf cnt k i y (is_S (cd_S (Bf k) (nf k) i) j) rc s → Pc (qw_X13_flows_155 nn f (8 + (k : Int)) (i : Int) rc (is_S (cd_S (Bf k) (nf k) i) j : Int) h) (RMF Bf nf cnt k i h0) := by
  have R := RB.1
  obtain ⟨l1, l2, l3, l4, l5⟩ := rme_l R
  intro f
  induction f with
  | zero => intro j y rc s h _ _ _ _ _; exact pc_none
  | succ f ih =>
    intro j y rc s h hj hy K S EM
    have Rh := rme_e R (rks_e K)
    have RMh := rm0_e RB (rks_e K)
    have jL : is_S (cd_S (Bf k) (nf k) i) j ≤ (cl_N (Bf k) (nf k) i) := by
      by_cases e : j = t0
      · rw [e]; omega
      · have := (T j (by omega)).1
        omega
    cases y with
    | zero => omega
    | succ y =>
    unfold qw_X13_flows_155
    rw [Rh.2.2.1.2.2.2]
    refine pc_if (fun z => ?_) (fun z => ?_)
    · rw [sl_en (by omega)] at EM
      refine pc_if (fun w => ?_) (fun w => ?_)
      · rw [if_pos w] at EM
        exact pc_ret ⟨RMh.2.1, Rh.1.2.2.2, .inl ⟨rfl, EM, RMh.2.2⟩⟩
      · rw [if_neg w] at EM
        exact vr_badM RMh EM
    have jt : j < t0 := Classical.byContradiction fun w => by
      have : j = t0 := by omega
      rw [this] at z; omega
    have bg : BGn (cd_S (Bf k) (nf k) i) (cl_N (Bf k) (nf k) i) (is_S (cd_S (Bf k) (nf k) i) j) := (bgn_iff T TL).2 ⟨j, jt, rfl⟩
    rw [sl_cn (by omega)] at EM
    have es : is_S (cd_S (Bf k) (nf k) i) (j + 1) = is_S (cd_S (Bf k) (nf k) i) j + (WD ((cd_S (Bf k) (nf k) i) (is_S (cd_S (Bf k) (nf k) i) j))).toNat := rfl
    have wj := T j jt
    have P240 : ∀ (g : ms_M) (s1 : ST3), RKs hb g → STr cnt (Bf k (ma_S (Bf k) (nf k) i + 3)) (Bf k (ma_S (Bf k) (nf k) i + 4)) s1 g → s1_F Bf nf cnt k i (is_S (cd_S (Bf k) (nf k) i) j) rc s = s2_F Bf nf cnt k i (is_S (cd_S (Bf k) (nf k) i) j) s1 → Pc (qj_X13_flows_240 nn (qw_X13_flows_155 nn f) (8 + (k : Int)) (i : Int) (is_S (cd_S (Bf k) (nf k) i) j : Int) g) (RMF Bf nf cnt k i h0) := fun g s1 Kg Sg e => by
      rw [e] at EM
      refine vr_s240 RB RZ H G bg Kg Sg EM (fun g2 s2 K2 S2 E2 => ?_)
      have := ih (j + 1) y (LSt ((cd_S (Bf k) (nf k) i) (is_S (cd_S (Bf k) (nf k) i) j))) s2 g2 (by omega) (by omega) K2 S2 (by rw [es]; exact E2)
      rw [es] at this
      exact this
    have BAD : ∀ (c : Int) (g : ms_M), RKs hb g → s1_F Bf nf cnt k i (is_S (cd_S (Bf k) (nf k) i) j) rc s = .inl c → Pc (mx_sv (qf_X13_bad nn c (8 + (k : Int)) (i : Int) (is_S (cd_S (Bf k) (nf k) i) j : Int) g) fun u => ck_B (u.1 = 0 ∨ u.1 = 1) <| some (u.1, u.2)) (RMF Bf nf cnt k i h0) := fun c g Kg e => by
      refine vr_badM (rm0_e RB (rks_e Kg)) ?_
      rw [EM, e]; rfl
    refine pc_sv (vr_for Rh (x := (is_S (cd_S (Bf k) (nf k) i) j : Int))) ?_; intro u66 q66
    rcases q66 with ⟨fr, f1, f2⟩ | ⟨f1, f2⟩
    · have e1 := s1_so (cnt := cnt) (rc := rc) (s := s) f1
      have fl := fo_lt f1
      have F := G.2.2.2 fr fl
      rw [f2]
      have P234 : ∀ g : ms_M, RKs hb g → s1_F Bf nf cnt k i (is_S (cd_S (Bf k) (nf k) i) j) rc s = s2_F Bf nf cnt k i (is_S (cd_S (Bf k) (nf k) i) j) (tk_F Bf nf cnt k i fr) → Pc (qj_X13_flows_234 nn (qw_X13_flows_155 nn f) (8 + (k : Int)) (i : Int) (is_S (cd_S (Bf k) (nf k) i) j : Int) (fw_S (Bf k) (nf k) i fr : Int) g) (RMF Bf nf cnt k i h0) := fun g Kg e => by
        unfold qj_X13_flows_234
        refine pc_sv (vr_becomes (rme_e R (rks_e Kg)) fl F) ?_; intro u47 ⟨K47, S47⟩
        exact P240 u47 _ (rks_t Kg K47) S47 e
      have P194 : Pc (qj_X13_flows_194 nn (qw_X13_flows_155 nn f) (8 + (k : Int)) (i : Int) rc (is_S (cd_S (Bf k) (nf k) i) j : Int) (fw_S (Bf k) (nf k) i fr : Int) h) (RMF Bf nf cnt k i h0) := by
        unfold qj_X13_flows_194
        refine pc_if (fun w => absurd w (by omega)) (fun _ => ?_)
        refine pc_if (fun w => ?_) (fun w => ?_)
        · rw [if_pos w] at e1
          exact P234 h K e1
        · rw [if_neg w] at e1
          unfold qj_X13_flows_223
          refine vr_ffit (N := fun g => mx_sv (qf_X13_bad nn 12 (8 + (k : Int)) (i : Int) (is_S (cd_S (Bf k) (nf k) i) j : Int) g) fun u49 => ck_B (u49.1 = 0 ∨ u49.1 = 1) <| some (u49.1, u49.2)) (G1 := qj_X13_flows_234 nn (qw_X13_flows_155 nn f) (8 + (k : Int)) (i : Int) (is_S (cd_S (Bf k) (nf k) i) j : Int) (fw_S (Bf k) (nf k) i fr : Int)) Rh S fl F (fun g Og FF => P234 g (rks_t K (rks_o Og)) (e1.trans (pr_t FF))) (fun g Og NF => BAD 12 g (rks_t K (rks_o Og)) (e1.trans (pr_f NF)))
      refine pc_if (fun _ => P194) (fun _ => ?_)
      exact pc_if (fun _ => P194) (fun w => absurd (show ¬ (fw_S (Bf k) (nf k) i fr : Int) = -1 by omega) w)
    · have e1 := s1_no (cnt := cnt) (rc := rc) (s := s) f1
      refine pc_if (fun w => ?_) (fun w => ?_)
      · rw [if_neg w] at e1
        unfold qj_X13_flows_194
        exact pc_if (fun _ => P240 h s K S e1) (fun w => absurd f2 w)
      · rw [if_pos (show rc = 0 by omega)] at e1
        exact pc_if (fun w => absurd f2 w) (fun _ => BAD 10 h K e1)
/-- THE STATE AT THE BEGINNING -/
theorem vr_s105 (R : RM0 Bf nf cnt k i h0 hb) (H : HGo Bf nf cnt) (G : MGd Bf nf cnt k i) (EM : mr_F Bf nf cnt k i = sl_F Bf nf cnt k i ((cl_N (Bf k) (nf k) i) + 1) 0 1 (bs_F Bf nf cnt k i)) {m2 z0 : Nat} (PI : pi_S (Bf k) (nf k) (kt_S (Bf k) (nf k) i 1) = some m2) (hz : (m2 : Int) + (z0 : Int) ≤ (Bf k (ma_S (Bf k) (nf k) i + 4))) (B1 : ∀ j : Nat, j < m2 → (bs_F Bf nf cnt k i).1 (z0 + j) = pk_F Bf nf cnt k (kt_S (Bf k) (nf k) i 1) j) (VP : ∀ j : Nat, j < m2 → VTq cnt (pk_F Bf nf cnt k (kt_S (Bf k) (nf k) i 1) j)) (VA : ∀ j : Nat, j < 30 → VTq cnt ((bs_F Bf nf cnt k i).1 j)) : ∀ (f p : Nat) (h : ms_M), p ≤ m2 → RM0 Bf nf cnt k i h0 h → h 160 131 = 0 → (∀ j : Nat, (j : Int) < (Bf k (ma_S (Bf k) (nf k) i + 4)) → (j < z0 + p ∨ z0 + m2 ≤ j) → TYj ((bs_F Bf nf cnt k i).1 j) (h 243 j)) → Pc (qw_X13_flows_105 nn f (8 + (k : Int)) (i : Int) ((z0 + p : Nat) : Int) ((6000 * k + ps_S (Bf k) (nf k) (kt_S (Bf k) (nf k) i 1) p : Nat) : Int) h) (RMF Bf nf cnt k i h0) := by
  have n6 := rme_n6 R.1
  have c8 := (rme_c R.1).2
  have g30 := (rme_m R.1).2.2.1
  obtain ⟨em, t1, KM⟩ := ps_ok PI
  have rg := mkd_rg KM
  obtain ⟨i1, i2, i3⟩ := tg_in (B := Bf k) (n := nf k) (k := kt_S (Bf k) (nf k) i 1) (by omega)
  obtain ⟨a1, a2, a3⟩ := rme_k2 R.1 i1 i2
  have a4 := a2.2.1 (by omega)
  have ena : na_S (Bf k) (nf k) (kt_S (Bf k) (nf k) i 1) = pl_S (Bf k) (nf k) (kt_S (Bf k) (nf k) i 1) + 2 := rfl
  intro f
  induction f with
  | zero => intro p h _ _ _ _; exact pc_none
  | succ f ih =>
    intro p h hp Rh e131 W
    have rp := rg p hp
    unfold qw_X13_flows_105
    refine pc_rA ?_; intro _ _ v74 e74
    rw [Int.toNat_natCast, tb_by Rh.1.1.2.1 (rme_hk Rh.1) (by omega)] at e74
    refine pc_if (fun z => ?_) (fun z => ?_)
    · have pm : p = m2 := Classical.byContradiction fun w => absurd (e74.symm.trans z) (KM.2.1 p (by omega)).2
      refine pc_add (by omega) ?_; intro v75 e75
      refine pc_xl ?_; intro h76 e76
      have F76 : ∀ x y : Nat, ¬ (x = 160 ∧ y = 136) → h76 x y = h x y := fun x y w => by rw [e76, up_n w]
      have R76 : RM0 Bf nf cnt k i h0 h76 := rm0_e Rh ⟨fun x y z1 z2 z3 => F76 x y (by omega), fun z => by rw [F76 160 117 (by omega)]; exact z⟩
      obtain ⟨t0, T, TL⟩ := G.1
      refine vr_s155 R76 (by rw [e76, up_s, em, ← pm]; omega) H G T TL nn 0 ((cl_N (Bf k) (nf k) i) + 1) 1 (bs_F Bf nf cnt k i) h76 (Nat.zero_le _) (by omega) rks_r ⟨⟨VA, fun j hj => absurd hj (Nat.not_lt_zero _), by show ((0 : Nat) : Int) ≤ (Bf k (ma_S (Bf k) (nf k) i + 3)); omega⟩, fun j hj => ?_, fun j hj => absurd hj (Nat.not_lt_zero _), by rw [F76 160 131 (by omega)]; exact e131⟩ EM
      rw [F76 243 j (by omega)]
      exact W j hj (by omega)
    · have pl : p < m2 := Classical.byContradiction fun w => z (by rw [e74, show p = m2 by omega]; exact KM.2.2.1.1)
      have ks := kd_s (KM.2.1 p pl).1
      have rq := rg (p + 1) (by omega)
      refine pc_sv (vr_typ Rh.1 ks.1 (by omega) rfl) ?_; intro u79 ⟨O, e120, q79⟩
      refine pc_wA ?_; intro _ _ h80 e80
      rw [Int.toNat_natCast] at e80
      have F80 : ∀ x y : Nat, ¬ (x = 243 ∧ y = z0 + p) → h80 x y = u79.2 x y := fun x y w => by rw [e80, up_n w]
      refine pc_add (by omega) ?_; intro v81 e81
      rw [show v81 = ((z0 + (p + 1) : Nat) : Int) by omega, F80 160 120 (by omega), e120]
      have V := VP p pl
      have TJ : TYj (pk_F Bf nf cnt k (kt_S (Bf k) (nf k) i 1) p) u79.1 := by
        have m1 := vt_m1 c8 V
        have q79 : TKo (pk_F Bf nf cnt k (kt_S (Bf k) (nf k) i 1) p) u79.1 := q79
        rcases q79 with q | q
        · exact tyo_j q m1.1
        · exact absurd q.1 m1.2
      have R80 : RM0 Bf nf cnt k i h0 h80 := rm0_e (rm0_e Rh (rke_o O)) ⟨fun x y z1 z2 z3 => F80 x y (by omega), fun z => by rw [F80 160 117 (by omega)]; exact z⟩
      refine ih (p + 1) h80 (by omega) R80 (by rw [F80 160 131 (by omega), O.1 160 131 (by omega) (by omega) (by omega)]; exact e131) (fun j hj w => ?_)
      by_cases e : j = z0 + p
      · rw [e, e80, up_s, B1 p pl]; exact TJ
      · rw [F80 243 j (by omega), O.1 243 j (by omega) (by omega) (by omega)]; exact W j hj (by omega)
theorem vr_flows2 (H : HGo Bf nf cnt) (G : MGd Bf nf cnt k i) (EM : mr_F Bf nf cnt k i = sl_F Bf nf cnt k i ((cl_N (Bf k) (nf k) i) + 1) 0 1 (bs_F Bf nf cnt k i)) : ∀ (f j : Nat) (h : ms_M), RM0 Bf nf cnt k i h0 h → (j : Int) ≤ (Bf k (ma_S (Bf k) (nf k) i + 4)) ∨ j = 0 → (∀ x : Nat, x < j → h 243 x = 0) → Pc (qw_X13_flows_2 nn f (8 + (k : Int)) (i : Int) (j : Int) h) (RMF Bf nf cnt k i h0) := by
  intro f
  induction f with
  | zero => intro j h _ _ _; exact pc_none
  | succ f ih =>
    intro j h R hj W
    have n6 := rme_n6 R.1
    have i12 := rme_i R.1
    have c8 := (rme_c R.1).2
    have gm := rme_m R.1
    have g30 := gm.2.2.1
    obtain ⟨l1, l2, l3, l4, l5⟩ := rme_l R.1
    have hk' := R.1.2.1.1
    obtain ⟨Gk, Ok, zx, zk, z2⟩ := H.2 k hk'
    obtain ⟨m2, PI, ml⟩ := gm.2.1
    have PI : pi_S (Bf k) (nf k) (kt_S (Bf k) (nf k) i 1) = some m2 := PI
    obtain ⟨em, t1, KM⟩ := ps_ok PI
    have b01 := gm.1.1
    have KA := Ok.1.2.1.2 i R.1.2.1.2
    have VP : ∀ j : Nat, j < m2 → VTq cnt (pk_F Bf nf cnt k (kt_S (Bf k) (nf k) i 1) j) := fun j hj => by
      have kd := kd_s (KM.2.1 j hj).1
      rcases kq_is (Bf := Bf) (nf := nf) H.1 kd.1 with w | w
      · exact absurd w.1 kd.2.2.2
      · rcases w.2.2.2.2.2 with v | v
        · exact absurd v (KA.1 j (by omega))
        · exact v
    have BS : ∀ j : Nat, (bs_F Bf nf cnt k i).1 j = if Bf k (ma_S (Bf k) (nf k) i) = 0 then (if j = 0 then 8 + (k : Int) else if j - 1 < m2 then pk_F Bf nf cnt k (kt_S (Bf k) (nf k) i 1) (j - 1) else 304) else if j < m2 then pk_F Bf nf cnt k (kt_S (Bf k) (nf k) i 1) j else 304 := fun j => by
      rw [← em]; rfl
    have VA : ∀ j : Nat, j < 30 → VTq cnt ((bs_F Bf nf cnt k i).1 j) := fun j _ => by
      rw [BS j]
      by_cases zz : Bf k (ma_S (Bf k) (nf k) i) = 0
      · rw [if_pos zz]
        by_cases j0 : j = 0
        · rw [if_pos j0]
          refine .inr (.inr (.inr (.inr (.inl ?_))))
          unfold ISc
          omega
        · rw [if_neg j0]
          by_cases w : j - 1 < m2
          · rw [if_pos w]; exact VP _ w
          · rw [if_neg w]; exact .inl rfl
      · rw [if_neg zz]
        by_cases w : j < m2
        · rw [if_pos w]; exact VP j w
        · rw [if_neg w]; exact .inl rfl
    obtain ⟨i1, i2, i3⟩ := tg_in (B := Bf k) (n := nf k) (k := kt_S (Bf k) (nf k) i 1) (by omega)
    obtain ⟨a1, a2, a3⟩ := rme_k2 R.1 i1 i2
    have a4 := a2.2.1 (by omega)
    have ena : na_S (Bf k) (nf k) (kt_S (Bf k) (nf k) i 1) = pl_S (Bf k) (nf k) (kt_S (Bf k) (nf k) i 1) + 2 := rfl
    have p0 := KM.1.2.1
    unfold qw_X13_flows_2
    rw [R.1.2.2.2.2]
    refine pc_if (fun z => ?_) (fun z => ?_)
    · refine pc_xl ?_; intro h97 e97
      have F97 : ∀ x y : Nat, ¬ (x = 160 ∧ y = 131) → h97 x y = h x y := fun x y w => by rw [e97, up_n w]
      have R97 : RM0 Bf nf cnt k i h0 h97 := rm0_e R ⟨fun x y z1 z2 z3 => F97 x y (by omega), fun z => by rw [F97 160 117 (by omega)]; exact z⟩
      have e131 : h97 160 131 = 0 := by rw [e97, up_s]
      rw [R97.1.2.2.1.1]
      refine pc_xl ?_; intro v101 e101
      rw [oq_mul_eq (by omega) (by omega) (by omega)] at e101
      refine pc_add (by omega) ?_; intro v102 e102
      refine pc_rA ?_; intro _ _ v103 e103
      rw [show v102 = 12 * (k : Int) + i by omega, (rme_t R97.1).1] at e103
      rw [e103]
      refine pc_sv (vq_rbyte R97.1.1.2.1 (rme_hk R97.1) (by omega)) ?_; intro u105 q105
      have P68 : ∀ (z0 : Nat) (g : ms_M), (m2 : Int) + (z0 : Int) ≤ (Bf k (ma_S (Bf k) (nf k) i + 4)) → (∀ j : Nat, j < m2 → (bs_F Bf nf cnt k i).1 (z0 + j) = pk_F Bf nf cnt k (kt_S (Bf k) (nf k) i 1) j) → RM0 Bf nf cnt k i h0 g → g 160 131 = 0 → (∀ j : Nat, (j : Int) < (Bf k (ma_S (Bf k) (nf k) i + 4)) → (j < z0 ∨ z0 + m2 ≤ j) → TYj ((bs_F Bf nf cnt k i).1 j) (g 243 j)) → Pc (qj_X13_flows_68 nn (8 + (k : Int)) (i : Int) (z0 : Int) g) (RMF Bf nf cnt k i h0) := fun z0 g hz B1 Rg eg Wg => by
        obtain ⟨b1, -, -⟩ := rme_k2 Rg.1 i1 i2
        unfold qj_X13_flows_68
        rw [Rg.1.2.2.1.1]
        refine pc_xl ?_; intro v85 e85
        rw [oq_mul_eq (by omega) (by omega) (by omega)] at e85
        refine pc_xl ?_; intro v88 e88
        rw [oq_mul_eq (by omega) (by omega) (by omega)] at e88
        refine pc_sv (vq_rtx Rg.1.1.2.1 (rme_hk Rg.1) (j := i) (s := 1) R.1.2.1.2).2 ?_; intro u91 q91
        rw [q91]
        refine pc_add (by omega) ?_; intro v92 e92
        refine pc_rA ?_; intro _ _ v93 e93
        rw [show v92 = 256 * (k : Int) + kt_S (Bf k) (nf k) i 1 by omega, b1] at e93
        refine pc_add (by omega) ?_; intro v94 e94
        refine pc_add (by omega) ?_; intro v95 e95
        rw [show v95 = ((6000 * k + ps_S (Bf k) (nf k) (kt_S (Bf k) (nf k) i 1) 0 : Nat) : Int) by omega]
        exact vr_s105 Rg H G EM PI hz B1 VP VA nn 0 g (Nat.zero_le _) Rg eg (fun j hj w => Wg j hj w)
      refine pc_if (fun w => ?_) (fun w => ?_)
      · have nz : ¬ Bf k (ma_S (Bf k) (nf k) i) = 0 := by omega
        refine P68 0 h97 (by omega) (fun j hj => by rw [BS (0 + j), if_neg nz, if_pos (by omega), Nat.zero_add]) R97 e131 (fun j hj w => ?_)
        rw [BS j, if_neg nz, if_neg (by omega), F97 243 j (by omega), W j (by omega)]
        exact .inl ⟨rfl, rfl⟩
      · have zz : Bf k (ma_S (Bf k) (nf k) i) = 0 := by omega
        refine pc_xl ?_; intro v107 e107
        rw [oq_mul_eq (by omega) (by omega) (by omega)] at e107
        refine pc_add (by omega) ?_; intro v108 e108
        refine pc_wA ?_; intro _ _ h109 e109
        have e109 : h109 = up_M h97 243 0 v108 := e109
        have F109 : ∀ x y : Nat, ¬ (x = 243 ∧ y = 0) → h109 x y = h97 x y := fun x y w => by rw [e109, up_n w]
        have R109 : RM0 Bf nf cnt k i h0 h109 := rm0_e R97 ⟨fun x y z1 z2 z3 => F109 x y (by omega), fun z => by rw [F109 160 117 (by omega)]; exact z⟩
        refine P68 1 h109 (by omega) (fun j hj => by rw [BS (1 + j), if_pos zz, if_neg (by omega), if_pos (by omega), show 1 + j - 1 = j by omega]) R109 (by rw [F109 160 131 (by omega)]; exact e131) (fun j hj w => ?_)
        rw [BS j, if_pos zz]
        by_cases j0 : j = 0
        · rw [if_pos j0, j0, e109, up_s]
          unfold TYj
          omega
        · rw [if_neg j0, if_neg (by omega), F109 243 j (by omega), F97 243 j (by omega), W j (by omega)]
          exact .inl ⟨rfl, rfl⟩
    · refine pc_wA ?_; intro _ _ h112 e112
      rw [Int.toNat_natCast] at e112
      have F112 : ∀ x y : Nat, ¬ (x = 243 ∧ y = j) → h112 x y = h x y := fun x y w => by rw [e112, up_n w]
      refine pc_add (by omega) ?_; intro v113 e113
      rw [show v113 = ((j + 1 : Nat) : Int) by omega]
      refine ih (j + 1) h112 (rm0_e R ⟨fun x y z1 z2 z3 => F112 x y (by omega), fun z => by rw [F112 160 117 (by omega)]; exact z⟩) (.inl (by omega)) (fun x hx => ?_)
      by_cases e : x = j
      · rw [e, e112, up_s]
      · rw [F112 243 x (by omega)]; exact W x (by omega)
theorem vr_flows (R : RM0 Bf nf cnt k i h0 h) (H : HGo Bf nf cnt) (G : MGd Bf nf cnt k i) (EM : mr_F Bf nf cnt k i = sl_F Bf nf cnt k i ((cl_N (Bf k) (nf k) i) + 1) 0 1 (bs_F Bf nf cnt k i)) : Pc (qf_X13_flows nn (8 + (k : Int)) (i : Int) h) (RMF Bf nf cnt k i h0) := by
  unfold qf_X13_flows
  exact vr_flows2 H G EM nn 0 h R (.inr rfl) (fun x hx => absurd hx (by omega))
/-- METHOD FITS -/
theorem vr_method (H : HGo Bf nf cnt) (N : NKn Bf nf cnt) (S : RSv Bf nf h) (e98 : h 160 98 = cnt) (h7 : 0 ≤ h 160 117) (hk : (k : Int) < cnt) (hi : (i : Int) < mc_S (Bf k) (nf k)) : Pc (qf_X13_methodFits nn (8 + (k : Int)) (i : Int) h) (RMF Bf nf cnt k i h) := by
  unfold qf_X13_methodFits
  refine pc_sv (vr_at N S e98 h7 hk hi) ?_; intro u87 R87
  refine vr_8 (fun g1 R1 Z1 => ?_) nn 0 u87 R87 (fun q hq => absurd hq (by omega)) (by omega)
  have e0 : (0 : Int) = (is_S (cd_S (Bf k) (nf k) i) 0 : Int) := rfl
  rw [e0]
  refine vr_30 (fun g2 R2 IO B2 => ?_) nn 0 g1 R1 (fun x hx => absurd hx (by omega)) (fun p hp => .inr ⟨Z1 p hp, fun ⟨x, x1, _⟩ => absurd x1 (by omega)⟩)
  have E6 : fs_F (INo (cd_S (Bf k) (nf k) i) (cl_N (Bf k) (nf k) i)) (cl_N (Bf k) (nf k) i) = none := fs_z (fun q _ z => ino_ok z IO)
  obtain ⟨t0, T, TL⟩ := IO
  rw [show (0 : Int) = (is_S (cd_S (Bf k) (nf k) i) 0 : Int) from rfl]
  refine vr_97 ⟨t0, T, TL⟩ T TL R2 B2 (fun E7 => ?_) nn 0 (Nat.zero_le _) (fun x hx => absurd hx (by omega))
  refine vr_192 E6 E7 (fun g3 R3 B3 E8 => ?_) nn 0 g2 R2 B2 (Nat.zero_le _) (fun x hx => absurd hx (by omega))
  rw [show (-1 : Int) = lf_V (Bf k) (nf k) i 0 from rfl]
  refine vr_245 E6 E7 E8 (fun g4 R4 E9 => ?_) nn 0 g3 R3 B3 (Nat.zero_le _) (fun x hx => absurd hx (by omega))
  have GD : MGd Bf nf cnt k i := ⟨⟨t0, T, TL⟩, fs_e E7, fs_e E8, fun f hf => (Classical.byContradiction fun w => fs_e E9 f hf (fbd_iff.2 (fun v => w v.2)))⟩
  have EM : mr_F Bf nf cnt k i = sl_F Bf nf cnt k i ((cl_N (Bf k) (nf k) i) + 1) 0 1 (bs_F Bf nf cnt k i) := by
    unfold mr_F
    rw [E6]
    dsimp only
    rw [E7]
    dsimp only
    rw [E8]
    dsimp only
    rw [E9]
  refine pc_sv (vr_flows R4 H GD EM) ?_; intro u7 q7
  exact pc_ck (fun _ => pc_ret q7)
end
end
section
/- VERIFY: all methods, both sides; VERIFY WHOLE -/
/-- the class's memory behind takeConstants of image k -/
def CBs (Bf : Nat → Nat → Int) (nf : Nat → Nat) (cnt : Int) (k : Nat) (h : ms_M) : Prop := (CSw Bf nf h ∧ h 56 3 = cnt ∧ (k : Int) < cnt ∧ h 127 5 = h 60 k) ∧ CT3 Bf nf cnt k h ∧ ∀ x : Int, tg_S (Bf k) (nf k) x = 4 → CMq Bf nf cnt k x h
def KMt (h g : ms_M) : Prop := ∀ x y : Nat, ¬ (132 ≤ x ∧ x ≤ 135) → ¬ (x = 131 ∧ y ≤ 6) → ¬ (x = 127 ∧ (y = 6 ∨ y = 7 ∨ (16 ≤ y ∧ y ≤ 20))) → g x y = h x y
/-- methods: all right, or told of the first -/
def MDw (Bf : Nat → Nat → Int) (nf : Nat → Nat) (cnt : Int) (k0 : Nat) (u a b c : Int) (OK : Prop) : Prop := (u = 0 ∧ (∀ k : Nat, k0 ≤ k → (k : Int) < cnt → ∀ i : Nat, (i : Int) < mc_S (Bf k) (nf k) → mr_F Bf nf cnt k i = none) ∧ OK) ∨ ∃ k i : Nat, (k0 ≤ k ∧ (k : Int) < cnt ∧ (i : Int) < mc_S (Bf k) (nf k)) ∧ (∀ x : Nat, k0 ≤ x → x < k → ∀ j : Nat, (j : Int) < mc_S (Bf x) (nf x) → mr_F Bf nf cnt x j = none) ∧ (∀ j : Nat, j < i → mr_F Bf nf cnt k j = none) ∧ mr_F Bf nf cnt k i = some (u, c) ∧ a = 8 + (k : Int) ∧ b = (i : Int)
section
variable {nn : Nat} {Bf : Nat → Nat → Int} {nf : Nat → Nat} {cnt mx lc : Int} {B C D : Nat → Int} {n m b d k i L p q y : Nat} {M h g r h0 hb : ms_M} {t t2 c a op x rc : Int} {s : ST3}
theorem mdw_u {k0 : Nat} {u v a b c d e f : Int} {P Q : Prop} (A : MDw Bf nf cnt k0 u a b c P) (D : MDw Bf nf cnt k0 v d e f Q) : u = v ∧ ((u = 0 ∧ P ∧ Q) ∨ (a = d ∧ b = e ∧ c = f)) := by
  rcases A with ⟨a1, a2, a3⟩ | ⟨k, i, ⟨k1, k2, k3⟩, k4, k5, k6, k7, k8⟩
  · rcases D with ⟨d1, d2, d3⟩ | ⟨x, j, ⟨x1, x2, x3⟩, x4, x5, x6, x7, x8⟩
    · exact ⟨by omega, .inl ⟨a1, a3, d3⟩⟩
    · have := a2 x x1 x2 j x3
      rw [x6] at this; exact nomatch this
  · rcases D with ⟨d1, d2, d3⟩ | ⟨x, j, ⟨x1, x2, x3⟩, x4, x5, x6, x7, x8⟩
    · have := d2 k k1 k2 i k3
      rw [k6] at this; exact nomatch this
    · have e1 : k = x := by
        rcases Nat.lt_trichotomy k x with z | z | z
        · have := x4 k k1 z i k3
          rw [k6] at this; exact nomatch this
        · exact z
        · have := k4 x x1 z j x3
          rw [x6] at this; exact nomatch this
      subst e1
      have e2 : i = j := by
        rcases Nat.lt_trichotomy i j with z | z | z
        · have := x5 i z
          rw [k6] at this; exact nomatch this
        · exact z
        · have := k5 j z
          rw [x6] at this; exact nomatch this
      subst e2
      rw [k6] at x6
      have e3 := Option.some.inj x6
      have e4 : u = v := congrArg Prod.fst e3
      have e5 : c = f := congrArg Prod.snd e3
      exact ⟨e4, .inr ⟨by omega, by omega, e5⟩⟩
theorem hg_end (H : HGo Bf nf cnt) {c : Int} (hc : ISc cnt c) : ch_F Bf nf cnt c 17 = -1 := by
  unfold ISc at hc
  by_cases c8 : c < 8
  · have q0 : ch_F Bf nf cnt (0 : Int) 1 = -1 := by
      have e0 : ch_F Bf nf cnt (0 : Int) 0 = 0 := rfl
      have := chv_s (Bf := Bf) (nf := nf) (cnt := cnt) (c := 0) (i := 0) (by rw [e0]; omega)
      rw [this, e0, show (0 : Int) = ((0 : Nat) : Int) from rfl, sp_lt (by omega)]
      all_goals rfl
    have up : ∀ x y : Int, 0 ≤ x → sp_F Bf nf cnt x = y → ∀ j : Nat, ch_F Bf nf cnt x (j + 1) = ch_F Bf nf cnt y j := fun x y x0 e j => by
      induction j with
      | zero =>
        have e0 : ch_F Bf nf cnt x 0 = x := rfl
        have := chv_s (Bf := Bf) (nf := nf) (cnt := cnt) (c := x) (i := 0) (by rw [e0]; exact x0)
        rw [this, e0, e]; rfl
      | succ j ih =>
        show (if ch_F Bf nf cnt x (j + 1) = -1 then -1 else sp_F Bf nf cnt (ch_F Bf nf cnt x (j + 1))) = (if ch_F Bf nf cnt y j = -1 then -1 else sp_F Bf nf cnt (ch_F Bf nf cnt y j))
        rw [ih]
    have q1 : ∀ j : Nat, ch_F Bf nf cnt (1 : Int) (j + 1) = ch_F Bf nf cnt 0 j := up 1 0 (by omega) (by rw [show (1 : Int) = ((1 : Nat) : Int) from rfl, sp_lt (by omega)]; rfl)
    have m0 : ∀ j : Nat, ch_F Bf nf cnt (0 : Int) (1 + j) = -1 := ch_mm q0
    rcases (show c = 0 ∨ c = 1 ∨ (2 ≤ c ∧ c < 8) by omega) with e | e | e
    · rw [e]; exact m0 16
    · rw [e]
      have := q1 16
      rw [this]
      exact m0 15
    · have := up c 1 (by omega) (by
        rw [show c = ((c.toNat : Nat) : Int) by omega, sp_lt (by omega)]
        unfold bi_A
        rw [if_neg (by omega), if_pos (by omega)]) 16
      rw [this, q1 15]
      exact m0 14
  · have O8 := (H.2 (c - 8).toNat (by omega)).2.1.1.2.2
    rw [show 8 + (((c - 8).toNat : Nat) : Int) = c by omega] at O8
    exact O8
theorem kmt_r : KMt h h := fun _ _ _ _ _ => rfl
theorem cbs_me (C : CBs Bf nf cnt k h0) (K : KMt h0 g) (hi : (i : Int) < mc_S (Bf k) (nf k)) (e6 : g 127 6 = (i : Int)) : CMe Bf nf k i g ∧ g 56 3 = cnt ∧ CT3 Bf nf cnt k g := by
  obtain ⟨⟨c1, c2, c3, c4⟩, c5, c6⟩ := C
  refine ⟨⟨csw_k c1 (fun c j _ z => K c j (by omega) (by omega) (by omega)), hi, ?_, ?_, e6⟩, ?_, fun a ha => ?_⟩
  · rw [K 56 3 (by omega) (by omega) (by omega), c2]; exact c3
  · rw [K 127 5 (by omega) (by omega) (by omega), K 60 k (by omega) (by omega) (by omega)]; exact c4
  · rw [K 56 3 (by omega) (by omega) (by omega)]; exact c2
  · rw [K 128 _ (by omega) (by omega) (by omega)]; exact c5 a ha
/-- ONE METHOD, the class -/
theorem vc_method (hn : 1000000 ≤ nn) (H : HGo Bf nf cnt) (C : CBs Bf nf cnt k h0) (hi : (i : Int) < mc_S (Bf k) (nf k)) {qk3 : Int → ms_M → Option (Int × ms_M)} {qk28 : Int → Int → ms_M → Option (Int × ms_M)} {Q : Int × ms_M → Prop} (HOK : ∀ g : ms_M, KMt h0 g → mr_F Bf nf cnt k i = none → ∀ v : Int, v = (i : Int) + 1 → Pc (qk28 (8 + (k : Int)) v g) Q) (HB : ∀ (num : Int) (g : ms_M), KMt h0 g → ¬ num = 0 → mr_F Bf nf cnt k i = some (num, g 127 7) → Pc (mx_sv (qf_X11_tellNumber nn num (8 + (k : Int)) (i : Int) (g 127 7) g) fun u4 => some (u4.1, u4.2)) Q) {h23 : ms_M} (K23 : KMt h0 h23) (e6 : h23 127 6 = (i : Int)) : Pc (mx_sv (qf_X11_proveInstructions nn h23) fun u25 => if u25.1 = 0 then (mx_sv (qf_X11_proveJumps nn u25.2) fun u27 => qj_X11_proveMethods_61 nn qk3 qk28 (8 + (k : Int)) (i : Int) u27.1 u27.2) else (qj_X11_proveMethods_61 nn qk3 qk28 (8 + (k : Int)) (i : Int) u25.1 u25.2)) Q := by
  -- the ends
  have E118 : ∀ (num : Int) (g : ms_M), KMt h0 g → ((num = 0 ∧ mr_F Bf nf cnt k i = none) ∨ (¬ num = 0 ∧ mr_F Bf nf cnt k i = some (num, g 127 7))) → Pc (qj_X11_proveMethods_118 nn qk3 qk28 (8 + (k : Int)) (i : Int) num g) Q := fun num g Kg w => by
    have i12 := (cme_g (cbs_me (i := i) C K23 hi e6).1).2.2.1
    unfold qj_X11_proveMethods_118
    refine pc_if (fun z => ?_) (fun z => ?_)
    · rcases w with w | w
      · refine pc_add (by omega) ?_; intro v1 e1
        exact HOK g Kg w.2 v1 e1
      · exact absurd z w.1
    · rcases w with w | w
      · exact absurd w.1 z
      · exact HB num g Kg z w.2
  have EB : ∀ (num : Int) (g : ms_M), KMt h0 g → g 127 6 = (i : Int) → ¬ num = 0 → mr_F Bf nf cnt k i = some (num, g 127 7) → Pc (qj_X11_proveMethods_100 nn qk3 qk28 (8 + (k : Int)) (i : Int) num g) Q := fun num g Kg e6g nz w => by
    obtain ⟨Cg, ecg, T3g⟩ := cbs_me C Kg hi e6g
    unfold qj_X11_proveMethods_100
    refine pc_sv (vc_begin hn Cg ecg H) ?_; intro u7 ⟨F7, _⟩
    refine pc_if (fun z => absurd z nz) (fun _ => E118 num u7 (fun x y z1 z2 z3 => ?_) (.inr ⟨nz, ?_⟩))
    · rw [F7 x y (by omega) (by omega) (by omega)]; exact Kg x y z1 z2 z3
    · rw [F7 127 7 (by omega) (by omega) (by omega)]; exact w
  have EB87 : ∀ (num : Int) (g : ms_M), KMt h0 g → g 127 6 = (i : Int) → ¬ num = 0 → mr_F Bf nf cnt k i = some (num, g 127 7) → Pc (qj_X11_proveMethods_87 nn qk3 qk28 (8 + (k : Int)) (i : Int) num g) Q := fun num g Kg e6g nz w => by
    unfold qj_X11_proveMethods_87
    exact pc_if (fun z => absurd z nz) (fun _ => EB num g Kg e6g nz w)
  have EB61 : ∀ (num : Int) (g : ms_M), KMt h0 g → g 127 6 = (i : Int) → ¬ num = 0 → mr_F Bf nf cnt k i = some (num, g 127 7) → Pc (qj_X11_proveMethods_61 nn qk3 qk28 (8 + (k : Int)) (i : Int) num g) Q := fun num g Kg e6g nz w => by
    unfold qj_X11_proveMethods_61 qj_X11_proveMethods_72
    refine pc_if (fun _ => ?_) (fun z => absurd nz z)
    refine pc_sv (vc_tframes0 (cbs_me C Kg hi e6g).1) ?_; intro u15 q15
    rw [q15]
    exact pc_if (fun z => absurd z nz) (fun _ => EB87 num g Kg e6g nz w)
  obtain ⟨C23, ec23, T23⟩ := cbs_me C K23 hi e6
  have L := cme_l C23
  refine pc_sv (vc_ins C23.1.1 C23.2.2.1 C23.2.2.2.1 e6 hi) ?_; intro u25 ⟨_, F25, e16, Z25⟩
  have K25 : KMt h0 u25.2 := fun x y z1 z2 z3 => by rw [F25 x y (by omega) (by omega)]; exact K23 x y z1 z2 z3
  have e625 : u25.2 127 6 = (i : Int) := by rw [F25 127 6 (by omega) (by omega)]; exact e6
  refine pc_if (fun z => ?_) (fun z => ?_)
  · obtain ⟨IO, MK⟩ : IOk (cd_S (Bf k) (nf k) i) (cl_N (Bf k) (nf k) i) ∧ ∀ p : Nat, p < (cl_N (Bf k) (nf k) i) → (u25.2 132 p = -1 ∧ BGn (cd_S (Bf k) (nf k) i) (cl_N (Bf k) (nf k) i) p) ∨ (u25.2 132 p = -2 ∧ ¬ BGn (cd_S (Bf k) (nf k) i) (cl_N (Bf k) (nf k) i) p) := by
      rcases Z25 with w | w
      · exact w.2
      · omega
    have E6 : fs_F (INo (cd_S (Bf k) (nf k) i) (cl_N (Bf k) (nf k) i)) (cl_N (Bf k) (nf k) i) = none := fs_z (fun q _ z => ino_ok z IO)
    obtain ⟨C25, ec25, T25⟩ := cbs_me C K25 hi e625
    refine pc_sv (vc_jumps C25 IO e16 (mkf_b (mkf_0 (P := fv_S (Bf k) (nf k) i) MK))) ?_; intro u27 ⟨F27, Z27⟩
    have K27 : KMt h0 u27.2 := fun x y z1 z2 z3 => by rw [F27 x y (by omega)]; exact K25 x y z1 z2 z3
    have e627 : u27.2 127 6 = (i : Int) := by rw [F27 127 6 (by omega)]; exact e625
    rcases Z27 with ⟨n0, E7⟩ | ⟨p, n0, E7, ep⟩
    · rw [n0]
      obtain ⟨C27, ec27, T27⟩ := cbs_me C K27 hi e627
      have e1627 : u27.2 127 16 = ((cl_N (Bf k) (nf k) i) : Int) := by rw [F27 127 16 (by omega)]; exact e16
      unfold qj_X11_proveMethods_61 qj_X11_proveMethods_72
      refine pc_if (fun w => absurd rfl w) (fun _ => ?_)
      refine pc_sv (vc_tframes C27 T27 e1627 (mkf_0 (fun p hp => by rw [F27 132 p (by omega)]; exact MK p hp))) ?_; intro u15 ⟨F15, FR15, MK15⟩
      have K15 : KMt h0 u15 := fun x y z1 z2 z3 => by rw [F15 x y (by omega) (by omega)]; exact K27 x y z1 z2 z3
      have e615 : u15 127 6 = (i : Int) := by rw [F15 127 6 (by omega) (by omega)]; exact e627
      have e1615 : u15 127 16 = ((cl_N (Bf k) (nf k) i) : Int) := by rw [F15 127 16 (by omega) (by omega)]; exact e1627
      obtain ⟨C15, ec15, T15⟩ := cbs_me C K15 hi e615
      refine pc_if (fun _ => ?_) (fun w => absurd rfl w)
      refine pc_sv (vc_handlers C15 ec15 T15 e1615 MK15) ?_; intro u17 ⟨F17, Z17⟩
      have K17 : KMt h0 u17.2 := fun x y z1 z2 z3 => by rw [F17 x y (by omega)]; exact K15 x y z1 z2 z3
      have e617 : u17.2 127 6 = (i : Int) := by rw [F17 127 6 (by omega)]; exact e615
      rcases Z17 with ⟨m0, E8⟩ | ⟨j, m0, E8, ej⟩
      · rw [m0]
        obtain ⟨C17, ec17, T17⟩ := cbs_me C K17 hi e617
        have e1617 : u17.2 127 16 = ((cl_N (Bf k) (nf k) i) : Int) := by rw [F17 127 16 (by omega)]; exact e1615
        have FR17 : ∀ x : Nat, x < fn_S (Bf k) (nf k) i → CFx Bf nf cnt k i x u17.2 := fun x hx => cfx_k (FR15 x hx) (fun a _ _ => F17 133 a (by omega))
        have MK17 : MKf (cd_S (Bf k) (nf k) i) (cl_N (Bf k) (nf k) i) (fv_S (Bf k) (nf k) i) (fn_S (Bf k) (nf k) i) u17.2 := fun p hp => by rw [F17 132 p (by omega)]; exact MK15 p hp
        unfold qj_X11_proveMethods_87
        refine pc_if (fun _ => ?_) (fun w => absurd rfl w)
        refine pc_sv (vc_frames C17 e1617 FR17 (mkf_b MK17)) ?_; intro u12 ⟨F12, Z12⟩
        have K12 : KMt h0 u12.2 := fun x y z1 z2 z3 => by rw [F12 x y (by omega)]; exact K17 x y z1 z2 z3
        have e612 : u12.2 127 6 = (i : Int) := by rw [F12 127 6 (by omega)]; exact e617
        rcases Z12 with ⟨r0, E9⟩ | ⟨f, r0, E9, ef⟩
        · rw [r0]
          obtain ⟨C12, ec12, T12⟩ := cbs_me C K12 hi e612
          have GD : MGd Bf nf cnt k i := ⟨IO, fs_e E7, fs_e E8, fun f hf => (Classical.byContradiction fun w => fs_e E9 f hf (fbd_iff.2 (fun v => w v.2)))⟩
          have EM : mr_F Bf nf cnt k i = sl_F Bf nf cnt k i ((cl_N (Bf k) (nf k) i) + 1) 0 1 (bs_F Bf nf cnt k i) := by
            unfold mr_F
            rw [E6]
            dsimp only
            rw [E7]
            dsimp only
            rw [E8]
            dsimp only
            rw [E9]
          unfold qj_X11_proveMethods_100
          refine pc_sv (vc_begin hn C12 ec12 H) ?_; intro u7 ⟨F7, S7, e177, e207⟩
          have K7 : KMt h0 u7 := fun x y z1 z2 z3 => by rw [F7 x y (by omega) (by omega) (by omega)]; exact K12 x y z1 z2 z3
          have e67 : u7 127 6 = (i : Int) := by rw [F7 127 6 (by omega) (by omega) (by omega)]; exact e612
          obtain ⟨C7, ec7, T7⟩ := cbs_me C K7 hi e67
          have CZ : CMz Bf nf cnt k i u7 := by
            refine ⟨⟨C7, ec7⟩, ⟨?_, e177, e207⟩, ⟨T7, fun x t4 => ?_⟩, fun x hx => ?_, fun p hp => ?_⟩
            · rw [F7 127 16 (by omega) (by omega) (by omega), F12 127 16 (by omega)]; exact e1617
            · obtain ⟨x1, -, -⟩ := tg_in (B := Bf k) (n := nf k) (k := x) (by omega)
              exact cmb_k (C.2.2 x t4) (K7 _ _ (by omega) (by omega) (by omega)) (K7 _ _ (by omega) (by omega) (by omega)) (fun y _ => K7 _ _ (by omega) (by omega) (by omega))
            · exact cfx_k (FR17 x hx) (fun a _ _ => by rw [F7 133 a (by omega) (by omega) (by omega)]; exact F12 133 a (by omega))
            · rw [F7 132 p (by omega) (by omega) (by omega), F12 132 p (by omega)]; exact MK17 p hp
          refine pc_if (fun _ => ?_) (fun w => absurd rfl w)
          refine pc_sv (vc_states CZ H GD S7) ?_; intro u9 ⟨X9, Z9⟩
          rw [← EM] at Z9
          exact E118 u9.1 u9.2 (fun x y z1 z2 z3 => by rw [X9 x y (by omega) (by omega)]; exact K7 x y z1 z2 z3) Z9
        · rw [r0]
          refine EB 9 u12.2 K12 e612 (by decide) ?_
          unfold mr_F
          rw [E6]
          dsimp only
          rw [E7]
          dsimp only
          rw [E8]
          dsimp only
          rw [E9, ef]
      · rw [m0]
        refine EB87 8 u17.2 K17 e617 (by decide) ?_
        unfold mr_F
        rw [E6]
        dsimp only
        rw [E7]
        dsimp only
        rw [E8, ej]
    · rw [n0]
      refine EB61 7 u27.2 K27 e627 (by decide) ?_
      unfold mr_F
      rw [E6]
      dsimp only
      rw [E7, ep]
  · obtain ⟨n6, p, IN, ep⟩ : u25.1 = 6 ∧ ∃ p : Nat, INo (cd_S (Bf k) (nf k) i) (cl_N (Bf k) (nf k) i) p ∧ u25.2 127 7 = (p : Int) := by
      rcases Z25 with w | w
      · exact absurd w.1 z
      · exact w
    refine EB61 u25.1 u25.2 K25 e625 z ?_
    have E6 : fs_F (INo (cd_S (Bf k) (nf k) i) (cl_N (Bf k) (nf k) i)) (cl_N (Bf k) (nf k) i) = some p := by
      refine fs_s ?_ IN (fun q hq y => absurd (ino_u y IN) (by omega))
      obtain ⟨_, _, _, w, _⟩ := IN
      exact w
    unfold mr_F
    rw [E6, ep, n6]
/-- A(cl_N (Bf k) (nf k) i) METHODS, the class -/
theorem vc_tell {num c m p : Int} : Pc (qf_X11_tellNumber nn num c m p h) (fun u => u.1 = num ∧ (∀ x y : Nat, ¬ (x = 127 ∧ (y = 2 ∨ y = 3 ∨ y = 4)) → u.2 x y = h x y) ∧ u.2 127 2 = c ∧ u.2 127 3 = m ∧ u.2 127 4 = p) := by
  unfold qf_X11_tellNumber
  refine pc_xl ?_; intro h1 e1
  refine pc_xl ?_; intro h2 e2
  refine pc_xl ?_; intro h3 e3
  refine pc_ret ⟨rfl, fun x y z => ?_, ?_, ?_, ?_⟩
  · show h3 x y = h x y
    rw [e3, up_n (by omega), e2, up_n (by omega), e1, up_n (by omega)]
  · show h3 127 2 = _
    rw [e3, up_n (by omega), e2, up_n (by omega), e1, up_s]
  · show h3 127 3 = _
    rw [e3, up_n (by omega), e2, up_s]
  · show h3 127 4 = _
    rw [e3, up_s]
def QMc (Bf : Nat → Nat → Int) (nf : Nat → Nat) (cnt : Int) (k0 : Nat) (h : ms_M) (u : Int × ms_M) : Prop := VCk h u.2 ∧ MDw Bf nf cnt k0 u.1 (u.2 127 2) (u.2 127 3) (u.2 127 4) (u.2 127 2 = h 127 2 ∧ u.2 127 3 = h 127 3 ∧ u.2 127 4 = h 127 4) ∧ (u.1 = 0 → (∀ k : Nat, k0 ≤ k → (k : Int) < cnt → ∀ i : Nat, (i : Int) < mc_S (Bf k) (nf k) → mr_F Bf nf cnt k i = none))
theorem vc_m28 (hn : 1000000 ≤ nn) (H : HGo Bf nf cnt) (C : CBs Bf nf cnt k h0) (V0 : VCk hb h0) (T0 : h0 127 2 = hb 127 2 ∧ h0 127 3 = hb 127 3 ∧ h0 127 4 = hb 127 4) {qk3 : Int → ms_M → Option (Int × ms_M)} (HK : ∀ g : ms_M, VCk hb g → (g 127 2 = hb 127 2 ∧ g 127 3 = hb 127 3 ∧ g 127 4 = hb 127 4) → (∀ i : Nat, (i : Int) < mc_S (Bf k) (nf k) → mr_F Bf nf cnt k i = none) → Pc (qk3 (8 + ((k + 1 : Nat) : Int)) g) (QMc Bf nf cnt k hb)) : ∀ (f i : Nat) (h : ms_M), KMt h0 h → (∀ j : Nat, j < i → mr_F Bf nf cnt k j = none) → Pc (qw_X11_proveMethods_28 nn qk3 f (8 + (k : Int)) (i : Int) h) (QMc Bf nf cnt k hb) := by
  intro f
  induction f with
  | zero => intro i h _ _; exact pc_none
  | succ f ih =>
    intro i h K A
    have S : CSw Bf nf h := csw_k C.1.1 (fun c j _ z => K c j (by omega) (by omega) (by omega))
    have ec : h 56 3 = cnt := by rw [K 56 3 (by omega) (by omega) (by omega)]; exact C.1.2.1
    have hk : (k : Int) < h 56 3 := by rw [ec]; exact C.1.2.2.1
    have e5 : h 127 5 = h 60 k := by rw [K 127 5 (by omega) (by omega) (by omega), K 60 k (by omega) (by omega) (by omega)]; exact C.1.2.2.2
    obtain ⟨G, -, e12, -⟩ := cg_im (S.1.2 k hk)
    have m12 := G.2.2.1
    have k8 := H.1
    have kc := C.1.2.2.1
    have VK : ∀ g : ms_M, KMt h0 g → VCk hb g := fun g Kg x y z => by rw [Kg x y (by omega) (by omega) (by omega)]; exact V0 x y z
    have TK : ∀ g : ms_M, KMt h0 g → g 127 2 = hb 127 2 ∧ g 127 3 = hb 127 3 ∧ g 127 4 = hb 127 4 := fun g Kg => by
      rw [Kg 127 2 (by omega) (by omega) (by omega), Kg 127 3 (by omega) (by omega) (by omega), Kg 127 4 (by omega) (by omega) (by omega)]; exact T0
    unfold qw_X11_proveMethods_28
    rw [e5, e12]
    refine pc_ck (fun _ => pc_ck (fun _ => ?_))
    refine pc_if (fun z => ?_) (fun z => ?_)
    · refine pc_add (by omega) ?_; intro v22 e22
      rw [show v22 = 8 + ((k + 1 : Nat) : Int) by omega]
      exact HK h (VK h K) (TK h K) (fun j hj => A j (by omega))
    refine pc_xl ?_; intro h23 e23
    have K23 : KMt h0 h23 := fun x y z1 z2 z3 => by rw [e23, up_n (by omega)]; exact K x y z1 z2 z3
    refine vc_method hn H C (by omega) (fun g Kg em v ev => ?_) (fun num g Kg nz em => ?_) K23 (by rw [e23, up_s])
    · rw [ev, show (i : Int) + 1 = ((i + 1 : Nat) : Int) by omega]
      refine ih (i + 1) g Kg (fun j hj => ?_)
      by_cases e : j = i
      · rw [e]; exact em
      · exact A j (by omega)
    · refine pc_sv vc_tell ?_; intro u4 ⟨r1, r2, r3, r4, r5⟩
      refine pc_ret ⟨fun x y z => ?_, .inr ⟨k, i, ⟨Nat.le_refl _, kc, by omega⟩, fun x x1 x2 => absurd x2 (by omega), A, ?_, r3, r4⟩, fun w => absurd ((show u4.1 = num from r1).symm.trans w) nz⟩
      · show u4.2 x y = hb x y
        rw [r2 x y (by omega)]; exact VK g Kg x y z
      · show mr_F Bf nf cnt k i = some (u4.1, u4.2 127 4)
        rw [r1, r5]; exact em
theorem vc_m3 (hn : 1000000 ≤ nn) (H : HGo Bf nf cnt) (S0 : CSw Bf nf hb) (ec : hb 56 3 = cnt) : ∀ (f k : Nat) (h : ms_M), VCk hb h → (h 127 2 = hb 127 2 ∧ h 127 3 = hb 127 3 ∧ h 127 4 = hb 127 4) → (k : Int) ≤ cnt → Pc (qw_X11_proveMethods_3 nn f (8 + (k : Int)) h) (QMc Bf nf cnt k hb) := by
  have g3 := H.1
  intro f
  induction f with
  | zero => intro k h _ _ _; exact pc_none
  | succ f ih =>
    intro k h V T hk0
    have c3 : h 56 3 = cnt := (V 56 3 (by omega)).trans ec
    have S := csw_v S0 V
    unfold qw_X11_proveMethods_3
    rw [c3]
    refine pc_add (by omega) ?_; intro v32 e32
    refine pc_if (fun z => pc_ret ⟨V, .inl ⟨rfl, fun j h1 h2 => absurd h2 (by omega), T⟩, fun _ j h1 h2 => absurd h2 (by omega)⟩) (fun z => ?_)
    have hk : (k : Int) < h 56 3 := by omega
    refine pc_sv (vc_take S.1 hk) ?_; intro u34 ⟨e34, p34⟩
    have V34 : VCk h u34 := fun c j z => by rw [e34, up_n (by omega)]
    have S34 := csw_v S V34
    have c34 : u34 56 3 = cnt := (V34 56 3 (by omega)).trans c3
    have e5 : u34 127 5 = u34 60 k := by rw [V34 60 k (by omega), e34, up_s]
    have q := vc_tconst (nn := nn) hn S34 (k := k) (by omega) e5 (by rw [c34]; exact fun c hc => hg_end H hc)
    rw [c34] at q
    refine pc_sv q ?_; intro u36 ⟨F36, T3, CM⟩
    have V36 : VCk hb u36 := fun x y z => by rw [F36 x y (by omega), V34 x y z]; exact V x y z
    have T36 : u36 127 2 = hb 127 2 ∧ u36 127 3 = hb 127 3 ∧ u36 127 4 = hb 127 4 := by
      rw [F36 127 2 (by omega), F36 127 3 (by omega), F36 127 4 (by omega), e34, up_n (by omega), up_n (by omega), up_n (by omega)]; exact T
    have CB : CBs Bf nf cnt k u36 := ⟨⟨csw_v S0 V36, (V36 56 3 (by omega)).trans ec, by omega, by rw [F36 127 5 (by omega), F36 60 k (by omega)]; exact e5⟩, T3, CM⟩
    refine vc_m28 hn H CB V36 T36 (fun g Vg Tg A => ?_) nn 0 u36 kmt_r (fun j hj => absurd hj (by omega))
    refine pc_imp (ih (k + 1) g Vg Tg (by omega)) (fun u ⟨w1, w2, w3⟩ => ⟨w1, ?_, fun z x x1 x2 => ?_⟩)
    · rcases w2 with ⟨a1, a2, a3⟩ | ⟨x, i, ⟨x1, x2, x3⟩, x4, x5⟩
      · refine .inl ⟨a1, fun x x1 x2 => ?_, a3⟩
        by_cases e : x = k
        · rw [e]; exact A
        · exact a2 x (by omega) x2
      · refine .inr ⟨x, i, ⟨by omega, x2, x3⟩, fun z z1 z2 => ?_, x5⟩
        by_cases e : z = k
        · rw [e]; exact A
        · exact x4 z (by omega) z2
    · by_cases e : x = k
      · rw [e]; exact A
      · exact w3 z x (by omega) x2
theorem vc_methods (hn : 1000000 ≤ nn) (H : HGo Bf nf cnt) (S : CSw Bf nf h) (ec : h 56 3 = cnt) : Pc (qf_X11_proveMethods nn h) (QMc Bf nf cnt 0 h) := by
  unfold qf_X11_proveMethods
  exact vc_m3 hn H S ec nn 0 h (fun _ _ _ => rfl) ⟨rfl, rfl, rfl⟩ (by have := H.1; omega)
/-- A(cl_N (Bf k) (nf k) i) METHODS, the reference -/
def RVw (Bf : Nat → Nat → Int) (nf : Nat → Nat) (cnt : Int) (h : ms_M) (u : Int × ms_M) : Prop := (∀ x j : Nat, ¬ (x = 160 ∧ (j = 99 ∨ (117 ≤ j ∧ j ≤ 136))) → ¬ (240 ≤ x ∧ x ≤ 245) → u.2 x j = h x j) ∧ u.1 = u.2 160 122 ∧ (0 ≤ h 160 117 → 0 ≤ u.2 160 117)
def QMr (Bf : Nat → Nat → Int) (nf : Nat → Nat) (cnt : Int) (k0 : Nat) (h : ms_M) (u : Int × ms_M) : Prop := RVw Bf nf cnt h u ∧ MDw Bf nf cnt k0 u.1 (u.2 160 123) (u.2 160 124) (u.2 160 125) (SWy h u.2) ∧ (u.2 160 99 = 1 ∨ u.2 160 99 = 0) ∧ (u.2 160 99 = 1 ↔ ∀ k : Nat, k0 ≤ k → (k : Int) < cnt → ∀ i : Nat, (i : Int) < mc_S (Bf k) (nf k) → mr_F Bf nf cnt k i = none)
theorem vr_v103 {l : Int} (K : RKm h0 h) (h7 : 0 ≤ h 160 117) : Pc (qj_X13_verify_103 nn l h) (fun u => RVw Bf nf cnt h0 u ∧ u.1 = h 160 122 ∧ (u.2 160 122 = h 160 122 ∧ u.2 160 123 = h 160 123 ∧ u.2 160 124 = h 160 124 ∧ u.2 160 125 = h 160 125) ∧ u.2 160 99 = l) := by
  unfold qj_X13_verify_103
  refine pc_ck (fun _ => ?_)
  refine pc_xl ?_; intro h2 e2
  have F2 : ∀ x y : Nat, ¬ (x = 160 ∧ y = 99) → h2 x y = h x y := fun x y w => by rw [e2, up_n w]
  refine pc_ret ⟨⟨fun x j z1 z2 => ?_, rfl, fun _ => ?_⟩, F2 _ _ (by omega), ⟨F2 _ _ (by omega), F2 _ _ (by omega), F2 _ _ (by omega), F2 _ _ (by omega)⟩, ?_⟩
  · show h2 x j = h0 x j
    rw [F2 x j (by omega)]; exact K x j (by omega) z2
  · show 0 ≤ h2 160 117
    rw [F2 160 117 (by omega)]; exact h7
  · show h2 160 99 = l
    rw [e2, up_s]
theorem vr_v50 (H : HGo Bf nf cnt) (N : NKn Bf nf cnt) (S0 : RSv Bf nf h0) (ec : h0 160 98 = cnt) (w0 : h0 160 122 = 0) : ∀ (f k : Nat) (h : ms_M), RKm h0 h → SWy h0 h → 0 ≤ h 160 117 → (k : Int) ≤ cnt → Pc (qw_X13_verify_50 nn f 1 (8 + (k : Int)) h) (QMr Bf nf cnt k h0) := by
  have g3 := H.1
  intro f
  induction f with
  | zero => intro k h _ _ _ _; exact pc_none
  | succ f ih =>
    intro k h K W h7 hk
    have c98 : h 160 98 = cnt := (K 160 98 (by omega) (by omega)).trans ec
    unfold qw_X13_verify_50
    rw [c98]
    refine pc_add (by omega) ?_; intro v15 e15
    refine pc_if (fun z => ?_) (fun z => ?_)
    · refine pc_imp (vr_v103 (Bf := Bf) (nf := nf) (cnt := cnt) K h7) (fun u ⟨r1, r2, ⟨r3, r4, r5, r6⟩, r7⟩ => ⟨r1, .inl ⟨?_, fun j h1 h2 => absurd h2 (by omega), ?_, ?_, ?_, ?_⟩, .inl r7, fun _ j h1 h2 => absurd h2 (by omega), fun _ => r7⟩)
      · rw [r2, W.1]; exact w0
      · rw [r3]; exact W.1
      · rw [r4]; exact W.2.1
      · rw [r5]; exact W.2.2.1
      · rw [r6]; exact W.2.2.2
    refine pc_if (fun w => absurd w (by decide)) (fun _ => ?_)
    have kk : (k : Int) < cnt := by omega
    have Sh : ∀ g : ms_M, RKm h0 g → RSv Bf nf g ∧ g 160 98 = cnt := fun g Kg => ⟨rsv_k S0 (fun x j w => Kg x j (by omega) (by omega)) (Kg 160 98 (by omega) (by omega)), (Kg 160 98 (by omega) (by omega)).trans ec⟩
    -- behind a bad method
    have BAD : ∀ (i : Nat) (num pl : Int) (g : ms_M), RKm h0 g → 0 ≤ g 160 117 → (i : Int) < mc_S (Bf k) (nf k) → (∀ j : Nat, j < i → mr_F Bf nf cnt k j = none) → mr_F Bf nf cnt k i = some (num, pl) → g 160 122 = num → g 160 123 = 8 + (k : Int) → g 160 124 = (i : Int) → g 160 125 = pl → ∀ l : Int, l = 0 → Pc (qj_X13_verify_103 nn l g) (QMr Bf nf cnt k h0) := fun i num pl g Kg g7 hi A em e2 e3 e4 e5 l el => by
      refine pc_imp (vr_v103 (Bf := Bf) (nf := nf) (cnt := cnt) Kg g7) (fun u ⟨r1, r2, ⟨r3, r4, r5, r6⟩, r7⟩ => ⟨r1, .inr ⟨k, i, ⟨Nat.le_refl _, kk, hi⟩, fun x x1 x2 => absurd x2 (by omega), A, ?_, ?_, ?_⟩, .inr (r7.trans el), fun w => absurd w (by omega), fun w => ?_⟩)
      · rw [r2, r6, e2, e5]; exact em
      · rw [r4]; exact e3
      · rw [r5]; exact e4
      · have := w k (Nat.le_refl _) kk i hi
        rw [em] at this; exact nomatch this
    suffices L : ∀ (y i : Nat) (g : ms_M), RKm h0 g → SWy h0 g → 0 ≤ g 160 117 → (i : Int) ≤ mc_S (Bf k) (nf k) → (∀ j : Nat, j < i → mr_F Bf nf cnt k j = none) → Pc (qw_X13_verify_67 nn (qw_X13_verify_50 nn f) y 1 (8 + (k : Int)) (i : Int) g) (QMr Bf nf cnt k h0) by
      have m0 := (rg_im ((Sh h K).1.2 k (by rw [c98]; exact kk))).1.2.2.1
      exact L nn 0 h K W h7 m0.1 (fun j hj => absurd hj (by omega))
    intro y
    induction y with
    | zero => intro i g _ _ _ _ _; exact pc_none
    | succ y ihy =>
      intro i g Kg Wg g7 hi A
      obtain ⟨Sg, eg⟩ := Sh g Kg
      obtain ⟨Gg, -, e34, -⟩ := rg_im (Sg.2 k (by rw [eg]; exact kk))
      have m12 := Gg.2.2.1
      unfold qw_X13_verify_67
      refine pc_sub (by omega) ?_; intro v5 e5
      refine pc_rA ?_; intro _ _ v6 e6
      rw [show v5.toNat = ((k : Nat) : Int).toNat by omega, e34] at e6
      refine pc_if (fun z => ?_) (fun z => ?_)
      · refine pc_add (by omega) ?_; intro v7 e7
        rw [show v7 = 8 + ((k + 1 : Nat) : Int) by omega]
        have AK : ∀ i : Nat, (i : Int) < mc_S (Bf k) (nf k) → mr_F Bf nf cnt k i = none := fun j hj => A j (by omega)
        refine pc_imp (ih (k + 1) g Kg Wg g7 (by omega)) (fun u ⟨w1, w2, w3, w4⟩ => ⟨w1, ?_, w3, ⟨fun z x x1 x2 => ?_, fun z => w4.2 (fun x x1 x2 => z x (by omega) x2)⟩⟩)
        · rcases w2 with ⟨a1, a2, a3⟩ | ⟨x, i, ⟨x1, x2, x3⟩, x4, x5⟩
          · refine .inl ⟨a1, fun x x1 x2 => ?_, a3⟩
            by_cases e : x = k
            · rw [e]; exact AK
            · exact a2 x (by omega) x2
          · refine .inr ⟨x, i, ⟨by omega, x2, x3⟩, fun z z1 z2 => ?_, x5⟩
            by_cases e : z = k
            · rw [e]; exact AK
            · exact x4 z (by omega) z2
        · by_cases e : x = k
          · rw [e]; exact AK
          · exact w4.1 z x (by omega) x2
      refine pc_if (fun w => absurd w (by decide)) (fun _ => ?_)
      have hi2 : (i : Int) < mc_S (Bf k) (nf k) := by omega
      refine pc_sv (vr_method H N Sg eg g7 kk hi2) ?_; intro u10 ⟨K10, p10, Z⟩
      have Kn := rkm_t Kg K10
      refine pc_add (by omega) ?_; intro v11 e11
      rw [show v11 = ((i + 1 : Nat) : Int) by omega]
      rcases Z with ⟨z1, z2, z3⟩ | ⟨z1, c, p, z2, z3, z4, z5, z6⟩
      · rw [z1]
        refine ihy (i + 1) u10.2 Kn (swy_t Wg z3) p10 (by omega) (fun j hj => ?_)
        by_cases e : j = i
        · rw [e]; exact z2
        · exact A j (by omega)
      · rw [z1]
        have B103 := BAD i c p u10.2 Kn p10 hi2 A z2 z3 z4 z5 z6 0 rfl
        have B50 : ∀ (f : Nat) (v : Int), Pc (qw_X13_verify_50 nn f 0 v u10.2) (QMr Bf nf cnt k h0) := fun f v => by
          cases f with
          | zero => exact pc_none
          | succ f =>
            unfold qw_X13_verify_50
            refine pc_xl ?_; intro v15 _
            exact pc_if (fun _ => B103) (fun _ => pc_if (fun _ => B103) (fun w => absurd rfl w))
        cases y with
        | zero => exact pc_none
        | succ y =>
          unfold qw_X13_verify_67
          refine pc_xl ?_; intro v5' _
          refine pc_rA ?_; intro _ _ v6' _
          refine pc_if (fun _ => ?_) (fun _ => ?_)
          · refine pc_xl ?_; intro v7' _
            exact B50 f v7'
          · refine pc_if (fun _ => ?_) (fun w => absurd rfl w)
            refine pc_xl ?_; intro v8' _
            exact B50 f v8'
end
end
section
/- VERIFY WHOLE: both sides answer alike -/
def VTw (Bf : Nat → Nat → Int) (nf : Nat → Nat) (cnt : Int) (u a b c : Int) (OK : Prop) : Prop := (∃ j : Nat, (j : Int) < cnt ∧ (∀ i : Nat, i < j → HOk Bf nf cnt i) ∧ NUm Bf nf cnt j u ∧ a = 8 + (j : Int) ∧ b = -1 ∧ c = -1) ∨ ((∀ j : Nat, (j : Int) < cnt → HOk Bf nf cnt j) ∧ MDw Bf nf cnt 0 u a b c OK)
/-- all is right -/
def VOk (Bf : Nat → Nat → Int) (nf : Nat → Nat) (cnt : Int) : Prop := (∀ j : Nat, (j : Int) < cnt → HOk Bf nf cnt j) ∧ ∀ k : Nat, (k : Int) < cnt → ∀ i : Nat, (i : Int) < mc_S (Bf k) (nf k) → mr_F Bf nf cnt k i = none
/-- what verify of the class may write; of the reference -/
def KVc (h g : ms_M) : Prop := ∀ c j : Nat, ¬ (127 ≤ c ∧ c ≤ 135) → ¬ (68 ≤ c ∧ c ≤ 70) → ¬ (c = 56 ∧ j = 4) → g c j = h c j
def KVr (h g : ms_M) : Prop := ∀ x j : Nat, ¬ (x = 160 ∧ (j = 99 ∨ (117 ≤ j ∧ j ≤ 136))) → ¬ (240 ≤ x ∧ x ≤ 245) → g x j = h x j
def QVc (Bf : Nat → Nat → Int) (nf : Nat → Nat) (cnt : Int) (h : ms_M) (u : Int × ms_M) : Prop := KVc h u.2 ∧ VTw Bf nf cnt u.1 (u.2 127 2) (u.2 127 3) (u.2 127 4) (u.2 127 2 = h 127 2 ∧ u.2 127 3 = h 127 3 ∧ u.2 127 4 = h 127 4) ∧ ((u.2 56 4 = 1 ∧ VOk Bf nf cnt) ∨ (u.2 56 4 = 0 ∧ ¬ VOk Bf nf cnt))
def QVr (Bf : Nat → Nat → Int) (nf : Nat → Nat) (cnt : Int) (h : ms_M) (u : Int × ms_M) : Prop := KVr h u.2 ∧ VTw Bf nf cnt u.1 (u.2 160 123) (u.2 160 124) (u.2 160 125) (u.2 160 123 = h 160 123 ∧ u.2 160 124 = h 160 124 ∧ u.2 160 125 = h 160 125) ∧ ((u.2 160 99 = 1 ∧ VOk Bf nf cnt) ∨ (u.2 160 99 = 0 ∧ ¬ VOk Bf nf cnt))
section
variable {nn : Nat} {Bf : Nat → Nat → Int} {nf : Nat → Nat} {cnt mx lc : Int} {B C D : Nat → Int} {n m b d k i L p q y : Nat} {M h g r h0 hb : ms_M} {t t2 c a op x rc : Int} {s : ST3}
theorem vtw_u {u v a b c d e f : Int} {P Q : Prop} (A : VTw Bf nf cnt u a b c P) (D : VTw Bf nf cnt v d e f Q) : u = v ∧ ((P ∧ Q) ∨ (a = d ∧ b = e ∧ c = f)) := by
  rcases A with ⟨j, j1, j2, j3, j4, j5, j6⟩ | ⟨a1, a2⟩
  · rcases D with ⟨i, i1, i2, i3, i4, i5, i6⟩ | ⟨d1, d2⟩
    · have e : j = i := by
        rcases Nat.lt_trichotomy j i with q | q | q
        · exact absurd (i2 j q) (num_ok j3).1
        · exact q
        · exact absurd (j2 i q) (num_ok i3).1
      rw [e] at j3 j4
      exact ⟨num_u j3 i3, .inr ⟨by omega, by omega, by omega⟩⟩
    · exact absurd (d1 j j1) (num_ok j3).1
  · rcases D with ⟨i, i1, i2, i3, i4, i5, i6⟩ | ⟨d1, d2⟩
    · exact absurd (a1 i i1) (num_ok i3).1
    · obtain ⟨w1, w2⟩ := mdw_u a2 d2
      refine ⟨w1, ?_⟩
      rcases w2 with w | w
      · exact .inl w.2
      · exact .inr w
theorem hgo_of (S : CSv Bf nf h) (ec : h 56 3 = cnt) (A : ∀ j : Nat, (j : Int) < cnt → HOk Bf nf cnt j) : HGo Bf nf cnt := by
  refine ⟨by rw [← ec]; exact S.1, fun x hx => ?_⟩
  have hx' : (x : Int) < h 56 3 := by rw [ec]; exact hx
  obtain ⟨z, z1, z2, _⟩ := kz_zk S hx'
  exact ⟨(cg_im (S.2 x hx')).1, A x hx, z, z1, z2⟩
/-- VERIFY, the class -/
theorem vcf_all (hn : 1000000 ≤ nn) (S : CSw Bf nf h) (ec : h 56 3 = cnt) : Pc (qf_X12_verify nn h) (QVc Bf nf cnt h) := by
  have E20 : ∀ (l : Int) (g : ms_M), VCk h g → VTw Bf nf cnt l (g 127 2) (g 127 3) (g 127 4) (g 127 2 = h 127 2 ∧ g 127 3 = h 127 3 ∧ g 127 4 = h 127 4) → ((l = 0 ∧ VOk Bf nf cnt) ∨ (¬ l = 0 ∧ ¬ VOk Bf nf cnt)) → Pc (qj_X12_verify_20 nn l g) (QVc Bf nf cnt h) := fun l g Vg Tg Og => by
    unfold qj_X12_verify_20 qj_X12_verify_33
    refine pc_if (fun z => ?_) (fun z => ?_)
    · refine pc_ck (fun _ => ?_)
      refine pc_xl ?_; intro h2 e2
      have F2 : ∀ x y : Nat, ¬ (x = 56 ∧ y = 4) → h2 x y = g x y := fun x y w => by rw [e2, up_n w]
      refine pc_if (fun _ => pc_ret ⟨fun x y w1 w2 w3 => ?_, ?_, .inr ⟨?_, ?_⟩⟩) (fun w => absurd (by rw [e2, up_s]) w)
      · show h2 x y = h x y
        rw [F2 x y w3]; exact Vg x y w1
      · show VTw Bf nf cnt l (h2 127 2) (h2 127 3) (h2 127 4) (h2 127 2 = h 127 2 ∧ h2 127 3 = h 127 3 ∧ h2 127 4 = h 127 4)
        rw [F2 127 2 (by omega), F2 127 3 (by omega), F2 127 4 (by omega)]; exact Tg
      · show h2 56 4 = 0
        rw [e2, up_s]
      · rcases Og with w | w
        · exact absurd w.1 z
        · exact w.2
    · refine pc_ck (fun _ => ?_)
      refine pc_xl ?_; intro h2 e2
      have F2 : ∀ x y : Nat, ¬ (x = 56 ∧ y = 4) → h2 x y = g x y := fun x y w => by rw [e2, up_n w]
      refine pc_if (fun w => absurd w (by rw [e2, up_s]; decide)) (fun _ => ?_)
      refine pc_se ?_; intro u7 e7
      have F7 : ∀ x y : Nat, ¬ (68 ≤ x ∧ x ≤ 70) → u7 x y = h2 x y := fun x y w => (ff_X7_linkAll nn) u7 e7 x y (by
        show nw_F [68, 69, 70] [] false false x y = true
        unfold nw_F
        have n1 : ¬ x = 68 := by omega
        have n2 : ¬ x = 69 := by omega
        have n3 : ¬ x = 70 := by omega
        simp [n1, n2, n3])
      refine pc_ret ⟨fun x y w1 w2 w3 => ?_, ?_, .inl ⟨?_, ?_⟩⟩
      · show u7 x y = h x y
        rw [F7 x y w2, F2 x y w3]; exact Vg x y w1
      · show VTw Bf nf cnt l (u7 127 2) (u7 127 3) (u7 127 4) (u7 127 2 = h 127 2 ∧ u7 127 3 = h 127 3 ∧ u7 127 4 = h 127 4)
        rw [F7 127 2 (by omega), F7 127 3 (by omega), F7 127 4 (by omega), F2 127 2 (by omega), F2 127 3 (by omega), F2 127 4 (by omega)]; exact Tg
      · show u7 56 4 = 1
        rw [F7 56 4 (by omega), e2, up_s]
      · rcases Og with w | w
        · exact w.2
        · exact absurd (by omega) w.1
  unfold qf_X12_verify
  have q := vc_heads (nn := nn) hn S
  rw [ec] at q
  refine pc_sv q ?_; intro u13 ⟨V13, Z13⟩
  rcases Z13 with ⟨n0, A, T⟩ | ⟨j, _, j2, j3, j4, j5, j6, j7⟩
  · refine pc_if (fun z => absurd n0 z) (fun _ => ?_)
    have A' : ∀ j : Nat, (j : Int) < cnt → HOk Bf nf cnt j := fun j hj => A j (by omega) hj
    have H := hgo_of S.1 ec A'
    have S13 := csw_v S V13
    have ec13 : u13.2 56 3 = cnt := (V13 56 3 (by omega)).trans ec
    refine pc_sv (vc_methods hn H S13 ec13) ?_; intro u16 ⟨V16, M16, N16⟩
    refine E20 u16.1 u16.2 (vck_t V13 V16) (.inr ⟨A', ?_⟩) ?_
    · rcases M16 with ⟨a1, a2, a3⟩ | w
      · exact .inl ⟨a1, a2, by rw [a3.1, a3.2.1, a3.2.2]; exact T⟩
      · exact .inr w
    · by_cases z : u16.1 = 0
      · exact .inl ⟨z, A', fun k hk => N16 z k (by omega) hk⟩
      · refine .inr ⟨z, fun w => ?_⟩
        rcases M16 with ⟨a1, _⟩ | ⟨x, i, ⟨x1, x2, x3⟩, _, _, x6, _⟩
        · exact z a1
        · have := w.2 x x2 i x3
          rw [x6] at this; exact nomatch this
  · have nz := (num_ok j4).2
    refine pc_if (fun _ => ?_) (fun z => absurd (show ¬ u13.1 = 0 by omega) z)
    exact E20 u13.1 u13.2 V13 (.inl ⟨j, j2, fun i hi => j3 i (by omega) hi, j4, j5, j6, j7⟩) (.inr ⟨by omega, fun w => (num_ok j4).1 (w.1 j j2)⟩)
/-- VERIFY, the reference -/
theorem vrf_all (N : NKn Bf nf cnt) (S : RSv Bf nf h) (ec : h 160 98 = cnt) (HH : (∀ j : Nat, (j : Int) < cnt → HOk Bf nf cnt j) → HGo Bf nf cnt) : Pc (qf_X13_verify nn h) (QVr Bf nf cnt h) := by
  have c0 := S.1
  rw [ec] at c0
  unfold qf_X13_verify
  refine pc_xl ?_; intro h25 e25
  refine pc_xl ?_; intro h26 e26
  refine pc_xl ?_; intro h27 e27
  have F27 : ∀ x y : Nat, ¬ (x = 160 ∧ (y = 99 ∨ y = 117 ∨ y = 122)) → h27 x y = h x y := fun x y w => by rw [e27, up_n (by omega), e26, up_n (by omega), e25, up_n (by omega)]
  have w122 : h27 160 122 = 0 := by rw [e27, up_n (by omega), e26, up_s]
  have w117 : h27 160 117 = 0 := by rw [e27, up_s]
  have S27 : RSv Bf nf h27 := rsv_k S (fun x j w => F27 x j (by omega)) (F27 160 98 (by omega))
  have ec27 : h27 160 98 = cnt := (F27 160 98 (by omega)).trans ec
  refine vr_20 (h0 := h27) (Bf := Bf) (nf := nf) (cnt := cnt) N c0.2 (fun g Vg Wg A => ?_) (fun g j Vg hj A NU e3 e4 e5 => ?_) (by omega) nn 0 h27 S27 ec27 vrk_r ⟨rfl, rfl, rfl, rfl⟩ (by omega) (fun j hj => absurd hj (by omega))
  · have H := HH A
    have Kg : RKm h27 g := fun x j z1 z2 => Vg.1 x j (by omega) (by omega) (by omega)
    have q := vr_v50 (nn := nn) H N S27 ec27 w122 nn 0 g Kg Wg (Vg.2 (by omega)) (by omega)
    refine pc_imp q (fun u ⟨r1, r2, r3, r4⟩ => ⟨fun x j z1 z2 => ?_, .inr ⟨A, ?_⟩, ?_⟩)
    · rw [r1.1 x j z1 z2]; exact F27 x j (by omega)
    · rcases r2 with ⟨a1, a2, a3⟩ | w
      · refine .inl ⟨a1, a2, ?_, ?_, ?_⟩
        · rw [a3.2.1]; exact F27 _ _ (by omega)
        · rw [a3.2.2.1]; exact F27 _ _ (by omega)
        · rw [a3.2.2.2]; exact F27 _ _ (by omega)
      · exact .inr w
    · rcases r3 with w | w
      · exact .inl ⟨w, A, fun k hk => r4.1 w k (by omega) hk⟩
      · exact .inr ⟨w, fun v => absurd (r4.2 (fun k _ hk => v.2 k hk)) (by omega)⟩
  · have Kg : RKm h27 g := fun x j z1 z2 => Vg.1 x j (by omega) (by omega) (by omega)
    suffices L : ∀ y : Nat, Pc (qw_X13_verify_50 nn y 0 8 g) (QVr Bf nf cnt h) from L nn
    intro y
    cases y with
    | zero => exact pc_none
    | succ y =>
      have B103 : Pc (qj_X13_verify_103 nn 0 g) (QVr Bf nf cnt h) := by
        refine pc_imp (vr_v103 (Bf := Bf) (nf := nf) (cnt := cnt) Kg (Vg.2 (by omega))) (fun u ⟨r1, r2, ⟨r3, r4, r5, r6⟩, r7⟩ => ⟨fun x j z1 z2 => ?_, .inl ⟨j, hj, A, ?_, ?_, ?_, ?_⟩, .inr ⟨r7, fun w => (num_ok NU).1 (w.1 j hj)⟩⟩)
        · rw [r1.1 x j z1 z2]; exact F27 x j (by omega)
        · rw [r2]; exact NU
        · rw [r4]; exact e3
        · rw [r5]; exact e4
        · rw [r6]; exact e5
      unfold qw_X13_verify_50
      refine pc_xl ?_; intro v15 _
      exact pc_if (fun _ => B103) (fun _ => pc_if (fun _ => B103) (fun w => absurd rfl w))
/-- the space is not changed by it -/
theorem ly_68 {c : Nat} (t : ly_T c = 1) : ¬ (68 ≤ c ∧ c ≤ 70) ∧ ¬ c = 56 := by
  constructor
  · intro z
    rcases (show c = 68 ∨ c = 69 ∨ c = 70 by omega) with e | e | e
    all_goals (rw [e] at t; exact absurd t (by decide))
  · intro e
    rw [e] at t; exact absurd t (by decide)
theorem csp_v (S : CSp Bf nf h) (A : ∀ c j : Nat, c < 160 ∨ 256 ≤ c → ¬ (127 ≤ c ∧ c ≤ 135) → ¬ (68 ≤ c ∧ c ≤ 70) → ¬ (c = 56 ∧ j = 4) → g c j = h c j) : CSp Bf nf g := by
  obtain ⟨s1, ⟨n1, n2, n3, n4⟩, s3⟩ := S
  have e3 : g 56 3 = h 56 3 := A _ _ (by omega) (by omega) (by omega) (by omega)
  have e60 : ∀ k : Nat, g 60 k = h 60 k := fun k => A _ _ (by omega) (by omega) (by omega) (by omega)
  refine ⟨fun k hk => ?_, ⟨?_, fun j hj => by rw [A _ _ (by omega) (by omega) (by omega) (by omega)]; exact n2 j hj, fun j hj h2 => by rw [A _ _ (by omega) (by omega) (by omega) (by omega)]; exact n3 j hj (by omega), fun k hk => by rw [A 58 _ (by omega) (by omega) (by omega) (by omega), e3]; exact n4 k (by omega)⟩, ?_⟩
  · rw [e60 k]
    have X := s1 k (by omega)
    have id := im_at X.1.1.1
    have t1 : ly_T (h (h 60 k).toNat 0).toNat = 1 := X.1.1.2.2.2.2.2.1
    have ec : cn_M g = cn_M h := by unfold cn_M; rw [A _ _ (by omega) (by omega) (by omega) (by omega)]
    refine imc_s ⟨fun c i c1 c2 => A _ _ (by omega) (by omega) (by omega) (by omega), fun i => A _ _ (ly_1r t1) (ly_vf t1) (ly_68 t1).1 (fun w => (ly_68 t1).2 w.1), by omega, ?_⟩ X
    unfold ln_I
    split
    · rfl
    · exact A _ _ (by omega) (by omega) (by omega) (by omega)
  · have ef : g (57 + 1) = h (57 + 1) := funext (fun j => A _ _ (by omega) (by omega) (by omega) (by omega))
    unfold un_R
    rw [ef]
    intro x y hx hy
    rw [show g (57 + 2) (16 * x + y) = h (57 + 2) (16 * x + y) from A _ _ (by omega) (by omega) (by omega) (by omega)]
    exact n1 x y hx hy
  · intro j k hj hk jk
    have ij := im_at (s1 j (by omega)).1.1.1
    have ik := im_at (s1 k (by omega)).1.1.1
    rw [e60 j, e60 k, A (h 60 j).toNat 0 (by omega) (by omega) (by omega) (by omega), A (h 60 k).toNat 0 (by omega) (by omega) (by omega) (by omega)]
    exact s3 j k (by omega) (by omega) jk
/-- VERIFY ANSWERS ALIKE -/
theorem vf_2 (hn : 1000000 ≤ nn) (E : SPE Bf nf M) (W : wh_R M) {u v : Int × ms_M} (e1 : qf_X12_verify nn M = some u) (e2 : qf_X13_verify nn u.2 = some v) : u.1 = v.1 ∧ SPE Bf nf v.2 ∧ wh_R v.2 ∧ KVc M u.2 ∧ KVr u.2 v.2 ∧ ((v.2 56 4 = 1 ∧ VOk Bf nf (M 56 3) ∧ HGo Bf nf (M 56 3)) ∨ (v.2 56 4 = 0 ∧ ¬ VOk Bf nf (M 56 3))) := by
  obtain ⟨⟨p1, p2, p3⟩, C, TB, N⟩ := E
  have S : CSw Bf nf M := ⟨⟨p2, C.1⟩, C.2.1⟩
  obtain ⟨K1, T1, Z1⟩ := vcf_all hn S rfl u e1
  have e98 : u.2 160 98 = M 56 3 := (K1 160 98 (by omega) (by omega) (by omega)).trans p1
  have RS : RSv Bf nf u.2 := rsv_k (h := M) ⟨by rw [p1]; exact p2, TB⟩ (fun x j w => K1 x j (by omega) (by omega) (by omega)) (K1 160 98 (by omega) (by omega) (by omega))
  obtain ⟨K2, T2, Z2⟩ := vrf_all N RS e98 (fun A => hgo_of S.1 rfl A) v e2
  obtain ⟨eu, we⟩ := vtw_u T1 T2
  have k127 : ∀ j : Nat, v.2 127 j = u.2 127 j := fun j => K2 127 j (by omega) (by omega)
  have k160 : ∀ j : Nat, 123 ≤ j → j ≤ 125 → u.2 160 j = M 160 j := fun j _ _ => K1 160 j (by omega) (by omega) (by omega)
  have v56 : v.2 56 4 = u.2 56 4 := K2 56 4 (by omega) (by omega)
  have v563 : v.2 56 3 = M 56 3 := (K2 56 3 (by omega) (by omega)).trans (K1 56 3 (by omega) (by omega) (by omega))
  have v98 : v.2 160 98 = M 56 3 := (K2 160 98 (by omega) (by omega)).trans e98
  refine ⟨eu, ⟨⟨by rw [v98, v563], by rw [v563]; exact p2, ?_⟩, csp_v C (fun c j w1 w2 w3 w4 => ?_), fun k hk => ?_, by rw [v563]; exact N⟩, ?_, K1, K2, ?_⟩
  · rw [v56]
    rcases Z1 with z | z
    · rcases Z2 with w | w
      · rw [w.1, z.1]
      · exact absurd z.2 w.2
    · rcases Z2 with w | w
      · exact absurd w.2 z.2
      · rw [w.1, z.1]
  · rw [K2 c j (by omega) (by omega)]; exact K1 c j w2 w3 w4
  · exact (rsv_k RS (fun x j w => K2 x j (by omega) (by omega)) (K2 160 98 (by omega) (by omega))).2 k hk
  · obtain ⟨w1, w2, w3⟩ := W
    unfold wh_R
    rw [k127 2, k127 3, k127 4]
    rcases we with ⟨⟨a1, a2, a3⟩, b1, b2, b3⟩ | ⟨a1, a2, a3⟩
    · rw [a1, a2, a3, b1, b2, b3, k160 123 (by omega) (by omega), k160 124 (by omega) (by omega), k160 125 (by omega) (by omega)]
      exact ⟨w1, w2, w3⟩
    · exact ⟨a1.symm, a2.symm, a3.symm⟩
  · rw [v56]
    rcases Z1 with z | z
    · exact .inl ⟨z.1, z.2, hgo_of S.1 rfl z.2.1⟩
    · exact .inr z
end
end
section
/- VERIFY: what the class links once all is right -/
/-- how many fields the first i classes on the way up from c have; in all -/
noncomputable def fs_A (Bf : Nat → Nat → Int) (nf : Nat → Nat) (cnt c : Int) : Nat → Int
  | 0 => 0
  | i + 1 => fs_A Bf nf cnt c i + (if 8 ≤ ch_F Bf nf cnt c i then fc_S (Bf (ch_F Bf nf cnt c i - 8).toNat) (nf (ch_F Bf nf cnt c i - 8).toNat) else 0)
noncomputable def ca_F (Bf : Nat → Nat → Int) (nf : Nat → Nat) (cnt c : Int) : Int := fs_A Bf nf cnt c 17
/-- the number that INT a tells -/
def iv_V (B : Nat → Int) (n : Nat) (a : Int) : Int := oq_or (oq_or (oq_or (oq_shl (pt_S B n a 0) 24) (oq_shl (pt_S B n a 1) 16)) (oq_shl (pt_S B n a 2) 8)) (pt_S B n a 3)
/-- what constant a of image k is linked to -/
def LKv (Bf : Nat → Nat → Int) (nf : Nat → Nat) (cnt : Int) (k : Nat) (a v : Int) : Prop := (tg_S (Bf k) (nf k) a = 3 → v = cq_F Bf nf cnt (Bf k) (nf k) a) ∧ (tg_S (Bf k) (nf k) a = 4 → sk_V (Bf k) (nf k) a = 1 → LKu Bf nf cnt k (pt_S (Bf k) (nf k) a 1) 1 (cq_F Bf nf cnt (Bf k) (nf k) (pt_S (Bf k) (nf k) a 0)) v) ∧ (tg_S (Bf k) (nf k) a = 4 → sk_V (Bf k) (nf k) a = 0 → ∀ (d : Int) (j : Nat), (0 ≤ cq_F Bf nf cnt (Bf k) (nf k) (pt_S (Bf k) (nf k) a 0) ∧ cq_F Bf nf cnt (Bf k) (nf k) (pt_S (Bf k) (nf k) a 0) < 16) → HFd Bf nf cnt k (pt_S (Bf k) (nf k) a 1) 0 (cq_F Bf nf cnt (Bf k) (nf k) (pt_S (Bf k) (nf k) a 0)) d j → v = ca_F Bf nf cnt (sp_F Bf nf cnt d) + (j : Int)) ∧ (tg_S (Bf k) (nf k) a = 2 → v = iv_V (Bf k) (nf k) a)
/-- the method that stands for method m of class d in class 8 + k -/
def NRv2 (Bf : Nat → Nat → Int) (nf : Nat → Nat) (cnt : Int) (k : Nat) (d : Int) (m : Nat) (v : Int) : Prop := LKu Bf nf cnt (d - 8).toNat (nt_S (Bf (d - 8).toNat) (nf (d - 8).toNat) m 1) 1 (8 + (k : Int)) v
section
variable {nn : Nat} {Bf : Nat → Nat → Int} {nf : Nat → Nat} {cnt mx lc : Int} {B C D : Nat → Int} {n m b d k i L p q y : Nat} {M h g r h0 hb : ms_M} {t t2 c a op x rc : Int}
theorem csw_l (S : CSw Bf nf h) (A : ∀ c j : Nat, c < 160 ∨ 256 ≤ c → ¬ (68 ≤ c ∧ c ≤ 70) → g c j = h c j) : CSw Bf nf g := by
  obtain ⟨⟨s0, s1⟩, n1, n2, n3, n4⟩ := S
  have e3 : g 56 3 = h 56 3 := A _ _ (by omega) (by omega)
  refine ⟨⟨by rw [e3]; exact s0, fun k hk => ?_⟩, ⟨?_, fun j hj => by rw [A _ _ (by omega) (by omega)]; exact n2 j hj, fun j hj h2 => by rw [A _ _ (by omega) (by omega)]; exact n3 j hj (by omega), fun k hk => by rw [A 58 _ (by omega) (by omega), e3]; exact n4 k (by omega)⟩⟩
  · rw [A 60 k (by omega) (by omega)]
    have X := s1 k (by omega)
    have id := im_at X.1.1.1
    have t1 : ly_T (h (h 60 k).toNat 0).toNat = 1 := X.1.1.2.2.2.2.2.1
    have ec : cn_M g = cn_M h := by unfold cn_M; rw [A _ _ (by omega) (by omega)]
    refine imc_s ⟨fun c i c1 c2 => A _ _ (by omega) (by omega), fun i => A _ _ (ly_1r t1) (ly_68 t1).1, by omega, ?_⟩ X
    unfold ln_I
    split
    · rfl
    · exact A _ _ (by omega) (by omega)
  · have ef : g (57 + 1) = h (57 + 1) := funext (fun j => A _ _ (by omega) (by omega))
    unfold un_R
    rw [ef]
    intro x y hx hy
    rw [show g (57 + 2) (16 * x + y) = h (57 + 2) (16 * x + y) from A _ _ (by omega) (by omega)]
    exact n1 x y hx hy
theorem ch_lo {i : Nat} (e : ch_F Bf nf cnt c i < 8) (hc : c = -1 ∨ ISc cnt c) (c0 : 0 ≤ cnt) : ∀ j : Nat, ch_F Bf nf cnt c (i + j) < 8 := by
  intro j
  induction j with
  | zero => exact e
  | succ j ih =>
    rcases ch_is (Bf := Bf) (nf := nf) c0 hc (i + j) with w | w
    · have := ch_mm w 1
      rw [Nat.add_assoc] at this
      omega
    · have := chv_s (Bf := Bf) (nf := nf) (cnt := cnt) (c := c) (i := i + j) w.1
      rw [Nat.add_assoc] at this
      rw [this]
      have w1 := w.1
      rw [show ch_F Bf nf cnt c (i + j) = (((ch_F Bf nf cnt c (i + j)).toNat : Nat) : Int) by omega, sp_lt (by omega)]
      unfold bi_A
      split
      · omega
      · split <;> omega
theorem fs_st {i : Nat} (e : ch_F Bf nf cnt c i < 8) (hc : c = -1 ∨ ISc cnt c) (c0 : 0 ≤ cnt) : ∀ j : Nat, fs_A Bf nf cnt c (i + j) = fs_A Bf nf cnt c i := by
  intro j
  induction j with
  | zero => rfl
  | succ j ih =>
    have := ch_lo e hc c0 j
    show fs_A Bf nf cnt c (i + j) + (if 8 ≤ ch_F Bf nf cnt c (i + j) then fc_S (Bf (ch_F Bf nf cnt c (i + j) - 8).toNat) (nf (ch_F Bf nf cnt c (i + j) - 8).toNat) else 0) = _
    rw [if_neg (by omega), ih]
    omega
theorem fs_rg (H : HGo Bf nf cnt) (hc : c = -1 ∨ ISc cnt c) : ∀ i : Nat, 0 ≤ fs_A Bf nf cnt c i ∧ fs_A Bf nf cnt c i ≤ 12 * (i : Int) := by
  intro i
  induction i with
  | zero => exact ⟨Int.le_refl _, by show (0 : Int) ≤ 12 * ((0 : Nat) : Int); omega⟩
  | succ i ih =>
    show 0 ≤ fs_A Bf nf cnt c i + (if 8 ≤ ch_F Bf nf cnt c i then fc_S (Bf (ch_F Bf nf cnt c i - 8).toNat) (nf (ch_F Bf nf cnt c i - 8).toNat) else 0) ∧ fs_A Bf nf cnt c i + (if 8 ≤ ch_F Bf nf cnt c i then fc_S (Bf (ch_F Bf nf cnt c i - 8).toNat) (nf (ch_F Bf nf cnt c i - 8).toNat) else 0) ≤ _
    by_cases w : 8 ≤ ch_F Bf nf cnt c i
    · rw [if_pos w]
      rcases ch_is (Bf := Bf) (nf := nf) H.1.1 hc i with v | v
      · omega
      · unfold ISc at v
        have := (H.2 (ch_F Bf nf cnt c i - 8).toNat (by omega)).1.1
        omega
    · rw [if_neg w]
      omega
/-- FIELDS IN ALL, the class -/
theorem vc_ca7 (H : HGo Bf nf cnt) (S : CSw Bf nf h) (ec : h 56 3 = cnt) (hc : c = -1 ∨ ISc cnt c) {fe : Nat} (E : ch_F Bf nf cnt c fe = -1) : ∀ (f i : Nat), (∀ x : Nat, x < i → 8 ≤ ch_F Bf nf cnt c x) → Pc (qw_X7_cellsAbove_7 nn f (fs_A Bf nf cnt c i) (ch_F Bf nf cnt c i) (i : Int) h) (fun u => u = ca_F Bf nf cnt c) := by
  intro f
  induction f with
  | zero => intro i _; exact pc_none
  | succ f ih =>
    intro i A
    obtain ⟨z, z1, z2⟩ := ch_8 (Bf := Bf) (nf := nf) H.1 hc E
    have i8 : i ≤ 8 := Classical.byContradiction fun w => by
      have := A z (by omega)
      omega
    have r := fs_rg H hc i
    unfold qw_X7_cellsAbove_7
    refine pc_if (fun w => absurd w (by omega)) (fun _ => ?_)
    by_cases l8 : ch_F Bf nf cnt c i < 8
    · refine pc_sv (vc_im0 l8) ?_; intro u2 q2
      refine pc_if (fun _ => pc_ret ?_) (fun w => absurd (show u2 < 0 by omega) w)
      have := fs_st l8 hc H.1.1 (17 - i)
      rw [show i + (17 - i) = 17 by omega] at this
      exact this.symm
    · rcases ch_is (Bf := Bf) (nf := nf) H.1.1 hc i with v | v
      · omega
      have v' := v
      unfold ISc at v'
      have hd : (((ch_F Bf nf cnt c i - 8).toNat : Nat) : Int) < h 56 3 := by omega
      have X := S.1.2 (ch_F Bf nf cnt c i - 8).toNat hd
      have k3 : kc_O (h 60 (ch_F Bf nf cnt c i - 8).toNat).toNat = 3 := X.1.1.1
      have h60 : 0 ≤ h 60 (ch_F Bf nf cnt c i - 8).toNat := Classical.byContradiction fun w => by
        rw [show (h 60 (ch_F Bf nf cnt c i - 8).toNat).toNat = 0 by omega] at k3
        exact absurd k3 (by decide)
      obtain ⟨G, ⟨e10, -⟩, -⟩ := cg_im X
      have g1 := G.1
      refine pc_sv (vc_img S.1 (c := ch_F Bf nf cnt c i) (by omega) (by omega)) ?_; intro u2 q2
      rw [q2]
      refine pc_if (fun w => absurd w (by omega)) (fun _ => ?_)
      refine pc_ck (fun _ => ?_)
      rw [e10]
      refine pc_add (by omega) ?_; intro v6 e6
      have qa := vc_above (nn := nn) S (c := ch_F Bf nf cnt c i) (by rw [ec]; exact v)
      rw [ec] at qa
      refine pc_sv qa ?_; intro u9 q9
      refine pc_add (by omega) ?_; intro v10 e10'
      have ef : fs_A Bf nf cnt c (i + 1) = fs_A Bf nf cnt c i + fc_S (Bf (ch_F Bf nf cnt c i - 8).toNat) (nf (ch_F Bf nf cnt c i - 8).toNat) := by
        show fs_A Bf nf cnt c i + (if 8 ≤ ch_F Bf nf cnt c i then fc_S (Bf (ch_F Bf nf cnt c i - 8).toNat) (nf (ch_F Bf nf cnt c i - 8).toNat) else 0) = _
        rw [if_pos (by omega)]
      rw [e6, ← ef, q9, ← chv_s v.1, show v10 = ((i + 1 : Nat) : Int) by omega]
      refine ih (i + 1) (fun x hx => ?_)
      by_cases e : x = i
      · rw [e]; omega
      · exact A x (by omega)
theorem vc_cab (H : HGo Bf nf cnt) (S : CSw Bf nf h) (ec : h 56 3 = cnt) (hc : c = -1 ∨ ISc cnt c) : Pc (qf_X7_cellsAbove nn c h) (fun u => u = ca_F Bf nf cnt c) := by
  unfold qf_X7_cellsAbove
  have E : ∃ fe : Nat, ch_F Bf nf cnt c fe = -1 := by
    rcases hc with z | z
    · exact ⟨0, z⟩
    · exact ⟨17, hg_end H z⟩
  obtain ⟨fe, E⟩ := E
  exact vc_ca7 H S ec hc E nn 0 (fun x hx => absurd hx (by omega))
/-- .. the reference -/
theorem vr_fo4 (H : HGo Bf nf cnt) (N : NKn Bf nf cnt) (S : RSv Bf nf h) (ec : h 160 98 = cnt) (hc : c = -1 ∨ ISc cnt c) (E : ch_F Bf nf cnt c 17 = -1) : ∀ (f i : Nat), i ≤ 17 → Pc (qw_X13_fieldsOf_4 nn f (fs_A Bf nf cnt c i) (ch_F Bf nf cnt c i) h) (fun u => u = ca_F Bf nf cnt c) := by
  intro f
  induction f with
  | zero => intro i _; exact pc_none
  | succ f ih =>
    intro i hi
    have r := fs_rg H hc i
    have N' := N
    have h8 := H.1.2
    rw [← ec] at N'
    unfold qw_X13_fieldsOf_4
    refine pc_if (fun w => pc_ret ?_) (fun w => ?_)
    · have := fs_st (show ch_F Bf nf cnt c i < 8 by omega) hc H.1.1 (17 - i)
      rw [show i + (17 - i) = 17 by omega] at this
      exact this.symm
    have i17 : i < 17 := Classical.byContradiction fun v => w (by rw [show i = 17 by omega]; exact E)
    rcases ch_is (Bf := Bf) (nf := nf) H.1.1 hc i with v | v
    · exact absurd v w
    have v' := v
    unfold ISc at v'
    have qs := vr_super (nn := nn) N' S (c := ch_F Bf nf cnt c i) (by rw [ec]; exact v)
    rw [ec] at qs
    have NX : ∀ z : Int, fs_A Bf nf cnt c (i + 1) = fs_A Bf nf cnt c i + z → 0 ≤ z → z ≤ 12 → Pc (qj_X13_fieldsOf_29 nn (qw_X13_fieldsOf_4 nn f) (ch_F Bf nf cnt c i) z (fs_A Bf nf cnt c i) h) (fun u => u = ca_F Bf nf cnt c) := fun z ez z0 z12 => by
      unfold qj_X13_fieldsOf_29
      refine pc_add (by omega) ?_; intro v1 e1
      refine pc_sv qs ?_; intro u3 q3
      rw [e1, ← ez, q3, ← chv_s v.1]
      exact ih (i + 1) (by omega)
    refine pc_if (fun w8 => ?_) (fun w8 => ?_)
    · have hd : (((ch_F Bf nf cnt c i - 8).toNat : Nat) : Int) < h 160 98 := by omega
      obtain ⟨G, ⟨e232, -⟩, -⟩ := rg_im (S.2 (ch_F Bf nf cnt c i - 8).toNat hd)
      have g1 := G.1
      rw [Int.toNat_natCast] at e232
      refine pc_sub (by omega) ?_; intro v5 e5
      refine pc_rA ?_; intro _ _ v6 e6
      rw [show v5.toNat = (ch_F Bf nf cnt c i - 8).toNat by omega, e232] at e6
      rw [e6]
      refine NX _ ?_ g1.1 g1.2
      show fs_A Bf nf cnt c i + (if 8 ≤ ch_F Bf nf cnt c i then fc_S (Bf (ch_F Bf nf cnt c i - 8).toNat) (nf (ch_F Bf nf cnt c i - 8).toNat) else 0) = _
      rw [if_pos w8]
    · refine NX 0 ?_ (by omega) (by omega)
      show fs_A Bf nf cnt c i + (if 8 ≤ ch_F Bf nf cnt c i then fc_S (Bf (ch_F Bf nf cnt c i - 8).toNat) (nf (ch_F Bf nf cnt c i - 8).toNat) else 0) = _
      rw [if_neg w8]
theorem vr_fields (H : HGo Bf nf cnt) (N : NKn Bf nf cnt) (S : RSv Bf nf h) (ec : h 160 98 = cnt) (hc : c = -1 ∨ ISc cnt c) : Pc (qf_X13_fieldsOf nn c h) (fun u => u = ca_F Bf nf cnt c) := by
  have E : ch_F Bf nf cnt c 17 = -1 := by
    rcases hc with z | z
    · exact ch_mm (i := 0) z 17
    · exact hg_end H z
  unfold qf_X13_fieldsOf
  exact vr_fo4 H N S ec hc E nn 0 (by omega)
/-- a part of an INT; its number -/
theorem c_part2 (T : TTc b n B M) {e : Int} {i : Nat} (q2 : tg_S B n e = 2) (hi : i ≤ 3) : qf_X3_partOf nn b e (i : Int) M = some (pt_S B n e i) := by
  obtain ⟨t1, t2, t3, t4⟩ := T
  obtain ⟨w1, w2, w3⟩ := tg_in (B := B) (n := n) (k := e) (by omega)
  obtain ⟨x1, -, x3, x4⟩ := t4 e w1 w2
  have y : M (b + 3) e.toNat = ((pl_S B n e + 1 : Nat) : Int) ∧ pl_S B n e + 1 + i < n := by
    have z := x4 (by omega)
    have z2 := z.2.2 (by omega)
    exact ⟨z.1, by omega⟩
  have n6 := t1.2.1
  unfold qf_X3_partOf rd_A
  rw [if_neg (show ¬ e < 1 by omega), if_neg (show ¬ M b 7 < e by omega), if_neg (show ¬ 256 ≤ e by omega), if_pos (show 0 ≤ e ∧ e < 256 by omega)]
  dsimp only
  rw [xl_eq, y.1, oq_add_eq (by omega) (by omega) (by omega), byteAt_ok t1, mx_svs, if_pos (by omega)]
  unfold pt_S
  congr 2
theorem c_numI (T : TTc b n B M) {e : Int} (q : tg_S B n e = 2) : Pc (qf_X3_numberOf nn b e M) (fun u => u = iv_V B n e) := by
  have P : ∀ i : Nat, i ≤ 3 → Pc (qf_X3_partOf nn b e (i : Int) M) (fun u => u = pt_S B n e i) := fun i hi u eu => by
    rw [c_part2 T q hi] at eu
    exact (Option.some.inj eu).symm
  unfold qf_X3_numberOf
  refine pc_sv (P 0 (by omega)) ?_; intro u2 q2
  refine pc_xl ?_; intro v3 e3
  refine pc_sv (P 1 (by omega)) ?_; intro u5 q5
  refine pc_xl ?_; intro v6 e6
  refine pc_xl ?_; intro v7 e7
  refine pc_sv (P 2 (by omega)) ?_; intro u9 q9
  refine pc_xl ?_; intro v10 e10
  refine pc_xl ?_; intro v11 e11
  refine pc_sv (P 3 (by omega)) ?_; intro u13 q13
  refine pc_xl ?_; intro v14 e14
  refine pc_ret ?_
  unfold iv_V
  rw [e14, e11, e10, e7, e6, e3, q2, q5, q9, q13]
theorem vr_num (S : RSv Bf nf h) (hk : (k : Int) < h 160 98) {e : Int} (q : tg_S (Bf k) (nf k) e = 2) (hd : 1 ≤ h 160 149 ∧ h 160 149 ≤ 60) (ht : h 251 (h 160 149 - 1).toNat = 8 + (k : Int)) : Pc (qf_X13_intOf nn e h) (fun u => u = iv_V (Bf k) (nf k) e) := by
  obtain ⟨w1, w2, w3⟩ := tg_in (B := Bf k) (n := nf k) (k := e) (by omega)
  obtain ⟨a1, a2, a3⟩ := tb_pl S hk w1 w2
  have z := (a2.2.2.2 (.inr (by omega))).2 (by omega)
  obtain ⟨n6, k8⟩ := tb_n6 S hk
  have P : ∀ i : Nat, i ≤ 3 → Pc (qf_X13_byteAt nn (k : Int) (((pl_S (Bf k) (nf k) e + 1 + i : Nat)) : Int) h) (fun u => u = pt_S (Bf k) (nf k) e i) := fun i hi => pc_imp (vq_rbyte S hk (by omega)) (fun u eu => by rw [eu]; rfl)
  unfold qf_X13_intOf
  refine pc_sub (by omega) ?_; intro v3 e3
  refine pc_rA ?_; intro _ _ v4 e4
  rw [e3, ht] at e4
  refine pc_sub (by omega) ?_; intro v5 e5
  have e5 : v5 = (k : Int) := by omega
  subst e5
  refine pc_xl ?_; intro v7 e7
  rw [oq_mul_eq (by omega) (by omega) (by omega)] at e7
  refine pc_add (by omega) ?_; intro v8 e8
  refine pc_rA ?_; intro _ _ v9 e9
  rw [show v8.toNat = (256 * (k : Int) + e).toNat by omega, a1] at e9
  refine pc_add (by omega) ?_; intro v10 e10
  have e10 : v10 = ((pl_S (Bf k) (nf k) e + 1 + 0 : Nat) : Int) := by omega
  rw [e10]
  refine pc_sv (P 0 (by omega)) ?_; intro u12 q12
  refine pc_xl ?_; intro v13 e13
  refine pc_add (by omega) ?_; intro v14 e14
  rw [show v14 = ((pl_S (Bf k) (nf k) e + 1 + 1 : Nat) : Int) by omega]
  refine pc_sv (P 1 (by omega)) ?_; intro u16 q16
  refine pc_xl ?_; intro v17 e17
  refine pc_xl ?_; intro v18 e18
  refine pc_add (by omega) ?_; intro v19 e19
  rw [show v19 = ((pl_S (Bf k) (nf k) e + 1 + 2 : Nat) : Int) by omega]
  refine pc_sv (P 2 (by omega)) ?_; intro u21 q21
  refine pc_xl ?_; intro v22 e22
  refine pc_xl ?_; intro v23 e23
  refine pc_add (by omega) ?_; intro v24 e24
  rw [show v24 = ((pl_S (Bf k) (nf k) e + 1 + 3 : Nat) : Int) by omega]
  refine pc_sv (P 3 (by omega)) ?_; intro u26 q26
  refine pc_xl ?_; intro v27 e27
  refine pc_ret ?_
  unfold iv_V
  rw [e27, e23, e22, e18, e17, e13, q12, q16, q21, q26]
/-- LINK OF, the class -/
theorem vc_linkOf (H : HGo Bf nf cnt) (S : CSw Bf nf h) (ec : h 56 3 = cnt) (hk : (k : Int) < cnt) : Pc (qf_X7_linkOf nn (h 60 k).toNat a h) (LKv Bf nf cnt k a) := by
  have hk' : (k : Int) < h 56 3 := by omega
  obtain ⟨-, -, zx, zk, z2⟩ := H.2 k hk
  have T := (S.1.2 k hk').1
  have TG : Pc (qf_X3_tagOf nn (h 60 k).toNat a h) (fun u => u = tg_S (Bf k) (nf k) a) := fun u eu => by rw [c_tag T] at eu; exact (Option.some.inj eu).symm
  unfold qf_X7_linkOf
  refine pc_ck (fun _ => ?_)
  refine pc_sv TG ?_; intro u2 q2
  refine pc_if (fun n2 => ?_) (fun n2 => ?_)
  · refine pc_if (fun n3 => ?_) (fun n3 => ?_)
    · refine pc_if (fun n4 => ?_) (fun n4 => pc_ret ⟨fun w => absurd w (by omega), fun w => absurd w (by omega), fun w => absurd w (by omega), fun w => absurd w (by omega)⟩)
      have t4 : tg_S (Bf k) (nf k) a = 4 := by omega
      obtain ⟨t0, t1, t2', KK⟩ := mb_tx zk z2 t4
      have ci := cq_is (Bf := Bf) (nf := nf) H.1 zk z2 t0
      have P : ∀ i : Nat, i ≤ 2 → Pc (qf_X3_partOf nn (h 60 k).toNat a (i : Int) h) (fun u => u = pt_S (Bf k) (nf k) a i) := fun i hi u eu => by
        rw [c_part T (k := a) (i := i) (.inr ⟨t4, hi⟩)] at eu
        exact (Option.some.inj eu).symm
      have LK := vc_lk (nn := nn) S hk' (by rw [ec]; exact fun c hc => hg_end H hc) t1 (c := cq_F Bf nf cnt (Bf k) (nf k) (pt_S (Bf k) (nf k) a 0)) (by
        rw [ec]
        rcases ci with c | c
        · exact .inl c
        · rcases c.2 with c | c | c
          · exact .inr (.inr (by omega))
          · exact .inr (.inl c)
          · exact .inr (.inr (by omega)))
      rw [ec] at LK
      refine pc_sv (P 0 (by omega)) ?_; intro u4 q4
      rw [q4]
      have qc := vc_class (nn := nn) S.1 hk' (i := pt_S (Bf k) (nf k) a 0) t0
      rw [ec] at qc
      refine pc_sv qc ?_; intro u6 q6
      refine pc_sv (P 2 (by omega)) ?_; intro u8 q8
      rw [q8, q6]
      obtain ⟨w1, w2, w3⟩ := c_text (nn := nn) T t2'
      refine pc_sv (P := fun u => u = ((na_S (Bf k) (nf k) (pt_S (Bf k) (nf k) a 2) : Nat) : Int)) (fun u eu => by rw [w1] at eu; exact (Option.some.inj eu).symm) ?_; intro u10 q10
      rw [q10]
      have nl : na_S (Bf k) (nf k) (pt_S (Bf k) (nf k) a 2) < nf k := by
        rcases KK with ⟨_, z⟩ | ⟨_, m, z⟩
        · unfold fk_S at z
          rw [Bool.and_eq_true] at z
          have := (kd_s (of_decide_eq_true z.2)).2.1
          have e : na_S (Bf k) (nf k) (pt_S (Bf k) (nf k) a 2) = pl_S (Bf k) (nf k) (pt_S (Bf k) (nf k) a 2) + 2 := rfl
          omega
        · have := mkd_rg (ps_ok z).2.2 0 (Nat.zero_le _)
          omega
      refine pc_sv (P := fun u => u = Bf k (na_S (Bf k) (nf k) (pt_S (Bf k) (nf k) a 2))) (fun u eu => by rw [byteAt_in T.1 nl] at eu; exact (Option.some.inj eu).symm) ?_; intro u12 q12
      refine pc_if (fun w => ?_) (fun w => ?_)
      · have s0 : sk_V (Bf k) (nf k) a = 0 := by unfold sk_V; rw [if_neg (by rw [← q12]; exact w)]
        refine pc_sv (P 1 (by omega)) ?_; intro u14 q14
        rw [q14]
        refine pc_sv LK.2 ?_; intro u16 q16
        rcases q16 with ⟨l1, l2⟩ | ⟨d, j, ⟨l1, l2⟩, l3, l4, l5⟩
        · refine pc_if (fun v => absurd l1 v) (fun _ => pc_ret ⟨fun y => absurd y (by omega), fun _ y => absurd y (by omega), fun _ _ d j c16 HF => absurd ⟨c16, HF⟩ (l2 d j), fun y => absurd y (by omega)⟩)
        · have Gd := (H.2 (d - 8).toNat (by omega)).1
          have h8 := H.1
          have j12 : (j : Int) < 12 := by
            have g1 := Gd.1
            unfold mb_S at l4
            rw [if_pos rfl] at l4
            omega
          refine pc_if (fun _ => ?_) (fun v => absurd (show ¬ u16 = -1 by omega) v)
          refine pc_xl ?_; intro v17 e17
          rw [Int.tdiv_eq_ediv_of_nonneg (by omega)] at e17
          refine pc_add (by omega) ?_; intro v18 e18
          rw [show v18 = d by omega]
          have dI : ISc cnt d := by unfold ISc; omega
          have qa := vc_above (nn := nn) S (c := d) (by rw [ec]; exact dI)
          rw [ec] at qa
          refine pc_sv qa ?_; intro u21 q21
          rw [q21]
          have spc := sp_is (Bf := Bf) (nf := nf) H.1.1 (c := d) dI.1
          refine pc_sv (vc_cab H S ec spc) ?_; intro u23 q23
          have r := fs_rg H spc 17
          have r : 0 ≤ ca_F Bf nf cnt (sp_F Bf nf cnt d) ∧ ca_F Bf nf cnt (sp_F Bf nf cnt d) ≤ 12 * ((17 : Nat) : Int) := r
          refine pc_xl ?_; intro v24 e24
          rw [Int.tmod_eq_emod_of_nonneg (by omega)] at e24
          refine pc_add (by omega) ?_; intro v25 e25
          refine pc_ret ⟨fun y => absurd y (by omega), fun _ y => absurd y (by omega), fun _ _ d2 j2 c16 HF => ?_, fun y => absurd y (by omega)⟩
          obtain ⟨x1, x2⟩ := hfd_u HF l2
          rw [x1, x2]
          omega
      · have s1 : sk_V (Bf k) (nf k) a = 1 := by unfold sk_V; rw [if_pos (by rw [← q12]; omega)]
        refine pc_sv (P 1 (by omega)) ?_; intro u28 q28
        rw [q28]
        refine pc_sv LK.1 ?_; intro u30 q30
        exact pc_ret ⟨fun y => absurd y (by omega), fun _ _ => q30, fun _ y => absurd y (by omega), fun y => absurd y (by omega)⟩
    · have qc := vc_class (nn := nn) S.1 hk' (i := a) (by omega)
      rw [ec] at qc
      refine pc_sv qc ?_; intro u34 q34
      exact pc_ret ⟨fun _ => q34, fun y => absurd y (by omega), fun y => absurd y (by omega), fun y => absurd y (by omega)⟩
  · refine pc_sv (c_numI T (e := a) (by omega)) ?_; intro u37 q37
    exact pc_ret ⟨fun y => absurd y (by omega), fun y => absurd y (by omega), fun y => absurd y (by omega), fun _ => q37⟩
end
end

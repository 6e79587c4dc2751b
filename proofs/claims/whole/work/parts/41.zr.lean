/- VERIFY: the states of a method, the class -/
/-- what is told behind one instruction -/
noncomputable def cn_V (Bf : Nat → Nat → Int) (nf : Nat → Nat) (cnt : Int) (k i y p : Nat) (o : Int ⊕ ST3) : Option (Int × Int) := match o with
  | .inl c => some (c, (p : Int))
  | .inr s2 => sl_F Bf nf cnt k i y (p + (WD (cd_S (Bf k) (nf k) i p)).toNat) (LSt (cd_S (Bf k) (nf k) i p)) s2
def QCs (cnt mx : Int) (h0 : ms_M) (o : Int ⊕ ST3) (u : Int × ms_M) : Prop := SKe h0 u.2 ∧ ((∃ c : Int, o = .inl c ∧ u.1 = c ∧ ¬ c = 0) ∨ ∃ s2 : ST3, o = .inr s2 ∧ u.1 = 0 ∧ STc cnt mx s2 u.2)
/-- what is known of a method whose looks before the states are right -/
def MGd (Bf : Nat → Nat → Int) (nf : Nat → Nat) (cnt : Int) (k i : Nat) : Prop := IOk (cd_S (Bf k) (nf k) i) (cl_N (Bf k) (nf k) i) ∧ (∀ p : Nat, p < (cl_N (Bf k) (nf k) i) → ¬ JBm (cd_S (Bf k) (nf k) i) (cl_N (Bf k) (nf k) i) p) ∧ (∀ j : Nat, j < hn_S (Bf k) (nf k) i → ¬ HBd Bf nf cnt k i j) ∧ ∀ f : Nat, f < fn_S (Bf k) (nf k) i → FTh Bf nf cnt k i f
section
variable {nn : Nat} {Bf : Nat → Nat → Int} {nf : Nat → Nat} {cnt mx lc : Int} {B C D : Nat → Int} {n m b d k i L p q y : Nat} {M h g r h0 : ms_M} {t t2 c a op x rc : Int} {o : Option ST3} {s : ST3} {u : Int × ms_M}
theorem sl_cn (hp : p < (cl_N (Bf k) (nf k) i)) : sl_F Bf nf cnt k i (y + 1) p rc s = cn_V Bf nf cnt k i y p (s1_F Bf nf cnt k i p rc s) := by
  show (if (cl_N (Bf k) (nf k) i) ≤ p then (if rc = 0 then none else some (10, ((cl_N (Bf k) (nf k) i) : Int))) else match s1_F Bf nf cnt k i p rc s with
    | .inl c => some (c, (p : Int))
    | .inr s2 => sl_F Bf nf cnt k i y (p + (WD (cd_S (Bf k) (nf k) i p)).toNat) (LSt (cd_S (Bf k) (nf k) i p)) s2) = _
  rw [if_neg (by omega)]
  rfl
theorem sl_en (hp : (cl_N (Bf k) (nf k) i) ≤ p) : sl_F Bf nf cnt k i (y + 1) p rc s = (if rc = 0 then none else some (10, ((cl_N (Bf k) (nf k) i) : Int))) := by
  show (if (cl_N (Bf k) (nf k) i) ≤ p then (if rc = 0 then none else some (10, ((cl_N (Bf k) (nf k) i) : Int))) else _) = _
  rw [if_pos hp]
theorem s1_no (e : fo_F (Bf k) (nf k) i (p : Int) = none) : s1_F Bf nf cnt k i p rc s = (if rc = 0 then .inl 10 else s2_F Bf nf cnt k i p s) := by
  unfold s1_F; rw [e]
theorem s1_so {f : Nat} (e : fo_F (Bf k) (nf k) i (p : Int) = some f) : s1_F Bf nf cnt k i p rc s = (if rc = 0 then s2_F Bf nf cnt k i p (tk_F Bf nf cnt k i f) else pr_I (FFt Bf nf cnt k i f s) (s2_F Bf nf cnt k i p (tk_F Bf nf cnt k i f)) (.inl 12)) := by
  unfold s1_F; rw [e]
theorem fo_lt {f : Nat} (e : fo_F (Bf k) (nf k) i x = some f) : f < fn_S (Bf k) (nf k) i := (fs_o e).1
theorem bgi_n (A : BGn D L p) : BGi D L (p : Int) := ⟨by omega, by rw [Int.toNat_natCast]; exact A⟩
/-- the end of an instruction -/
theorem vc_s139 (K : SKe h0 h) {o2 : Int ⊕ ST3} (N : h 127 19 = 0 → o2 = .inl 12) (Y : ¬ h 127 19 = 0 → ∃ s2 : ST3, o2 = .inr s2 ∧ STc cnt mx s2 h) : Pc (qj_X11_proveState_139 nn h) (QCs cnt mx h0 o2) := by
  unfold qj_X11_proveState_139
  refine pc_if (fun z => pc_ret ⟨K, .inl ⟨12, N z, rfl, by decide⟩⟩) (fun z => ?_)
  obtain ⟨s2, e, S⟩ := Y z
  exact pc_ret ⟨K, .inr ⟨s2, e, rfl, S⟩⟩
theorem vc_s46 (C : CMz Bf nf cnt k i h0) (H : HGo Bf nf cnt) (G : MGd Bf nf cnt k i) (bg : BGn (cd_S (Bf k) (nf k) i) (cl_N (Bf k) (nf k) i) p) (K : SKe h0 h) (S : STc cnt (Bf k (ma_S (Bf k) (nf k) i + 3)) s h) : Pc (qj_X11_proveState_46 nn (p : Int) ((cd_S (Bf k) (nf k) i) p) h) (QCs cnt (Bf k (ma_S (Bf k) (nf k) i + 3)) h0 (s2_F Bf nf cnt k i p s)) := by
  obtain ⟨IO, E7, E8, F9⟩ := G
  have Ch := cms_k C K
  obtain ⟨l1, l2, l3, l4, l5⟩ := cme_l C.1.1
  have pl := bgn_lt bg
  have wd := bgn_wd IO bg
  unfold qj_X11_proveState_46 s2_F
  refine pc_sv (vc_fhand Ch S E8 F9) ?_; intro u6 q6
  refine pc_if (fun y6 => ?_) (fun y6 => pc_ret ⟨K, .inl ⟨12, pr_f ?_, rfl, by decide⟩⟩)
  · rw [pr_t (show ∀ x : Nat, x < hn_S (Bf k) (nf k) i → HDs Bf nf cnt k i p s x by
      rcases q6 with q | q
      · exact q.2
      · exact absurd q.1 y6)]
    refine pc_add (by omega) ?_; intro v7 e7
    rw [show v7 = ((p + 1 : Nat) : Int) by omega]
    refine pc_sv (vc_codeL Ch.1.1 (p := p + 1) (by omega)) ?_; intro u9 ⟨q9, r9⟩
    refine pc_sv (vc_cright Ch H (op := (cd_S (Bf k) (nf k) i) p) (a := u9)) ?_; intro u11 q11
    rw [q9] at q11 r9 ⊢
    refine pc_if (fun y11 => ?_) (fun y11 => pc_ret ⟨K, .inl ⟨11, pr_f ?_, rfl, by decide⟩⟩)
    · have CR : CRt Bf nf cnt k ((cd_S (Bf k) (nf k) i) p) ((cd_S (Bf k) (nf k) i) (p + 1)) := by
        rcases q11 with q | q
        · exact q.2
        · exact absurd q.1 y11
      rw [pr_t CR]
      refine pc_xl ?_; intro h12 e12
      have A : CSo cnt (Bf k (ma_S (Bf k) (nf k) i + 3)) h0 (some s) h12 := ⟨ske_19 K e12, .inr ⟨s, rfl, by rw [e12, up_s], stc_19 S e12⟩⟩
      have rg0 := cme_b C.1.1 (p := ma_S (Bf k) (nf k) i + 7 + p) (by omega)
      have rg0 : 0 ≤ (cd_S (Bf k) (nf k) i) p ∧ (cd_S (Bf k) (nf k) i) p ≤ 255 := rg0
      refine pc_sv (vc_apply C H A r9.1 wd.1 rg0 CR) ?_; intro u14 ⟨K14, Z⟩
      have C14 := cms_k C K14
      refine pc_sv pv_jump ?_; intro u15 q15
      generalize ap_F Bf nf cnt k i ((cd_S (Bf k) (nf k) i) p) ((cd_S (Bf k) (nf k) i) (p + 1)) s = o at Z ⊢
      refine pc_if (fun y15 => ?_) (fun y15 => ?_)
      · have nj : ¬ JMP ((cd_S (Bf k) (nf k) i) p) := by
          rcases q15 with q | q
          · omega
          · exact q.2
        refine vc_s139 K14 (fun z => ?_) (fun z => ?_)
        · rcases Z with Z | ⟨s2, s3, s4, s5⟩
          · rw [Z.1]; rfl
          · omega
        · rcases Z with Z | ⟨s2, s3, s4, s5⟩
          · exact absurd Z.2 z
          · exact ⟨s2, by rw [s3]; exact pr_f nj, s5⟩
      have jm : JMP ((cd_S (Bf k) (nf k) i) p) := by
        rcases q15 with q | q
        · exact q.2
        · exact absurd q.1 y15
      refine pc_if (fun z => ?_) (fun z => ?_)
      · refine vc_s139 K14 (fun z => ?_) (fun w => absurd z w)
        rcases Z with Z | ⟨s2, s3, s4, s5⟩
        · rw [Z.1]; rfl
        · omega
      rcases Z with Z | ⟨s2, s3, s4, s5⟩
      · exact absurd Z.2 z
      rw [s3]
      have w3 := wd.2
      rw [wd_jmp jm] at w3
      have ab : BGi (cd_S (Bf k) (nf k) i) (cl_N (Bf k) (nf k) i) (aim_S (cd_S (Bf k) (nf k) i) p) := Classical.byContradiction fun w => E7 p pl ⟨bg, jm, w⟩
      refine pc_sv (vc_aim C14.1.1 (p := p) (by omega)) ?_; intro u18 q18
      rw [q18]
      refine pc_sv (vc_frameAt C14.2.1.1 C14.2.2.2.2) ?_; intro u20 q20
      have e20 : u20 = mk_V (fo_F (Bf k) (nf k) i (aim_S (cd_S (Bf k) (nf k) i) p)) := by
        rcases q20 with q | q
        · exact q.2
        · exact absurd ab q.1
      have E135 : ∀ o2 : Int ⊕ ST3, o2 = .inl 12 → Pc (qj_X11_proveState_135 nn u14) (QCs cnt (Bf k (ma_S (Bf k) (nf k) i + 3)) h0 o2) := fun o2 eo => by
        unfold qj_X11_proveState_135 qj_X11_proveState_136
        refine pc_ck (fun _ => ?_)
        refine pc_xl ?_; intro h4 e4
        refine vc_s139 (ske_19 K14 e4) (fun _ => eo) (fun w => absurd (by rw [e4, up_s]) w)
      have es : s3_F Bf nf cnt k i p (some s2) = (match fo_F (Bf k) (nf k) i (aim_S (cd_S (Bf k) (nf k) i) p) with
        | none => .inl 12
        | some f => pr_I (FFt Bf nf cnt k i f s2) (.inr s2) (.inl 12)) := pr_t jm
      rw [es]
      cases hf : fo_F (Bf k) (nf k) i (aim_S (cd_S (Bf k) (nf k) i) p) with
      | none =>
        rw [hf] at e20
        have e20 : u20 = -1 := e20
        exact pc_if (fun _ => E135 _ rfl) (fun w => absurd (show u20 < 0 by omega) w)
      | some f =>
        rw [hf] at e20
        have e20 : u20 = (f : Int) := e20
        have fl := fo_lt hf
        refine pc_if (fun w => absurd w (by omega)) (fun _ => ?_)
        rw [e20]
        refine pc_sv (vc_fframe C14 s5 fl (F9 f fl)) ?_; intro u22 q22
        refine pc_if (fun w => E135 _ (pr_f ?_)) (fun w => ?_)
        · rcases q22 with q | q
          · omega
          · exact q.2
        · unfold qj_X11_proveState_136
          refine pc_ck (fun _ => ?_)
          refine pc_xl ?_; intro h4 e4
          refine vc_s139 (ske_19 K14 e4) (fun z => absurd z (by rw [e4, up_s]; decide)) (fun _ => ⟨s2, pr_t ?_, stc_19 s5 e4⟩)
          rcases q22 with q | q
          · exact q.2
          · exact absurd q.1 w
    · rcases q11 with q | q
      · omega
      · exact q.2
  · rcases q6 with q | q
    · omega
    · exact q.2
theorem vc_state (C : CMz Bf nf cnt k i h0) (H : HGo Bf nf cnt) (G : MGd Bf nf cnt k i) (bg : BGn (cd_S (Bf k) (nf k) i) (cl_N (Bf k) (nf k) i) p) (K : SKe h0 h) (S : STc cnt (Bf k (ma_S (Bf k) (nf k) i + 3)) s h) : Pc (qf_X11_proveState nn (p : Int) ((cd_S (Bf k) (nf k) i) p) rc h) (QCs cnt (Bf k (ma_S (Bf k) (nf k) i + 3)) h0 (s1_F Bf nf cnt k i p rc s)) := by
  have Ch := cms_k C K
  have c0 := C.1.1.1.1.1
  rw [C.1.2] at c0
  obtain ⟨zx, zk, z2⟩ := ck_zk C.1.1
  unfold qf_X11_proveState
  refine pc_sv (vc_frameAt Ch.2.1.1 Ch.2.2.2.2 (x := (p : Int))) ?_; intro u37 q37
  have e37 : u37 = mk_V (fo_F (Bf k) (nf k) i (p : Int)) := by
    rcases q37 with q | q
    · exact q.2
    · exact absurd (bgi_n bg) q.1
  cases hf : fo_F (Bf k) (nf k) i (p : Int) with
  | none =>
    rw [hf] at e37
    have e37 : u37 = -1 := e37
    rw [s1_no hf]
    refine pc_if (fun z => ?_) (fun z => ?_)
    · rw [if_neg z]
      unfold qj_X11_proveState_19
      exact pc_if (fun _ => vc_s46 C H G bg K S) (fun w => absurd (show u37 < 0 by omega) w)
    · rw [if_pos (show rc = 0 by omega)]
      exact pc_if (fun w => absurd w (by omega)) (fun _ => pc_ret ⟨K, .inl ⟨10, rfl, rfl, by decide⟩⟩)
  | some f =>
    rw [hf] at e37
    have e37 : u37 = (f : Int) := e37
    have fl := fo_lt hf
    have F := G.2.2.2 f fl
    obtain ⟨V1, V2⟩ := ft_vt c0 (cme_m C.1.1) zk z2 fl F
    rw [s1_so hf, e37]
    have P40 : Pc (qj_X11_proveState_40 nn (p : Int) ((cd_S (Bf k) (nf k) i) p) (f : Int) h) (QCs cnt (Bf k (ma_S (Bf k) (nf k) i + 3)) h0 (s2_F Bf nf cnt k i p (tk_F Bf nf cnt k i f))) := by
      unfold qj_X11_proveState_40
      refine pc_sv (vc_tkf Ch ⟨fun j hj => (V1 j hj).2, fun j hj => (V2 j hj).2⟩ fl F) ?_; intro u30 ⟨K30, S30⟩
      exact vc_s46 C H G bg (ske_t K K30) S30
    have P19 : Pc (qj_X11_proveState_19 nn (p : Int) ((cd_S (Bf k) (nf k) i) p) rc (f : Int) h) (QCs cnt (Bf k (ma_S (Bf k) (nf k) i + 3)) h0 (if rc = 0 then s2_F Bf nf cnt k i p (tk_F Bf nf cnt k i f) else pr_I (FFt Bf nf cnt k i f s) (s2_F Bf nf cnt k i p (tk_F Bf nf cnt k i f)) (.inl 12))) := by
      unfold qj_X11_proveState_19
      refine pc_if (fun w => absurd w (by omega)) (fun _ => ?_)
      refine pc_if (fun w => ?_) (fun w => ?_)
      · rw [if_pos w]; exact P40
      · rw [if_neg w]
        refine pc_sv (vc_fframe Ch S fl F) ?_; intro u32 q32
        refine pc_if (fun y => ?_) (fun y => pc_ret ⟨K, .inl ⟨12, pr_f ?_, rfl, by decide⟩⟩)
        · rw [pr_t (show FFt Bf nf cnt k i f s by
            rcases q32 with q | q
            · exact q.2
            · exact absurd q.1 y)]
          exact P40
        · rcases q32 with q | q
          · omega
          · exact q.2
    refine pc_if (fun _ => P19) (fun _ => ?_)
    exact pc_if (fun _ => P19) (fun w => absurd (show (0 : Int) ≤ (f : Int) by omega) w)
theorem vc_last : Pc (qf_X11_isLast nn op h) (fun u => (u = 1 ∧ LSt op = 0) ∨ (u = 0 ∧ LSt op = 1)) := by
  unfold qf_X11_isLast LSt
  refine pc_if (fun z => pc_ret (.inl ⟨rfl, if_pos (by omega)⟩)) (fun z => ?_)
  refine pc_if (fun z => pc_ret (.inl ⟨rfl, if_pos (by omega)⟩)) (fun z => ?_)
  refine pc_if (fun z => pc_ret (.inl ⟨rfl, if_pos (by omega)⟩)) (fun z => ?_)
  refine pc_if (fun z => pc_ret (.inl ⟨rfl, if_pos (by omega)⟩)) (fun z => ?_)
  exact pc_if (fun z => pc_ret (.inr ⟨rfl, if_neg (by omega)⟩)) (fun z => pc_ret (.inl ⟨rfl, if_pos (by omega)⟩))
/-- PROVE STATES, the class -/
def SKx (h g : ms_M) : Prop := ∀ x y : Nat, ¬ (x = 134 ∨ x = 135) → ¬ (x = 127 ∧ (y = 7 ∨ y = 18 ∨ y = 19)) → g x y = h x y
theorem vc_ps4 (C : CMz Bf nf cnt k i h0) (H : HGo Bf nf cnt) (G : MGd Bf nf cnt k i) {t0 : Nat} (T : GSo (cd_S (Bf k) (nf k) i) (cl_N (Bf k) (nf k) i) t0) (TL : is_S (cd_S (Bf k) (nf k) i) t0 = (cl_N (Bf k) (nf k) i)) : ∀ (f j y : Nat) (rc : Int) (s : ST3) (h : ms_M), j ≤ t0 → (cl_N (Bf k) (nf k) i) < y + is_S (cd_S (Bf k) (nf k) i) j → SKe h0 h → STc cnt (Bf k (ma_S (Bf k) (nf k) i + 3)) s h → (rc = 0 ∨ rc = 1) → Pc (qw_X11_proveStates_4 nn f rc (is_S (cd_S (Bf k) (nf k) i) j : Int) h) (fun u => SKx h0 u.2 ∧ ((u.1 = 0 ∧ sl_F Bf nf cnt k i y (is_S (cd_S (Bf k) (nf k) i) j) rc s = none) ∨ (¬ u.1 = 0 ∧ sl_F Bf nf cnt k i y (is_S (cd_S (Bf k) (nf k) i) j) rc s = some (u.1, u.2 127 7)))) := by
  obtain ⟨l1, l2, l3, l4, l5⟩ := cme_l C.1.1
  intro f
  induction f with
  | zero => intro j y rc s h _ _ _ _ _; exact pc_none
  | succ f ih =>
    intro j y rc s h hj hy K S r01
    have Ch := cms_k C K
    have KX : SKx h0 h := fun x y z1 z2 => K x y z1 (by omega)
    have jL : is_S (cd_S (Bf k) (nf k) i) j ≤ (cl_N (Bf k) (nf k) i) := by
      by_cases e : j = t0
      · rw [e]; omega
      · have := (T j (by omega)).1
        omega
    cases y with
    | zero => omega
    | succ y =>
    unfold qw_X11_proveStates_4
    rw [Ch.2.1.1]
    refine pc_if (fun z => ?_) (fun z => ?_)
    · rw [sl_en (by omega)]
      refine pc_if (fun w => pc_ret ⟨KX, .inl ⟨rfl, if_pos w⟩⟩) (fun w => ?_)
      refine pc_sv vc_at ?_; intro u7 ⟨r1, r2⟩
      refine pc_ret ⟨fun x y z1 z2 => ?_, .inr ⟨?_, ?_⟩⟩
      · show u7.2 x y = _
        rw [r2, up_n (by omega)]; exact KX x y z1 z2
      · show ¬ u7.1 = 0
        rw [r1]; decide
      · show (if rc = 0 then none else some (10, ((cl_N (Bf k) (nf k) i) : Int))) = some (u7.1, u7.2 127 7)
        rw [if_neg w, r1, r2, up_s]
    have jt : j < t0 := Classical.byContradiction fun w => by
      have : j = t0 := by omega
      rw [this] at z; omega
    have bg : BGn (cd_S (Bf k) (nf k) i) (cl_N (Bf k) (nf k) i) (is_S (cd_S (Bf k) (nf k) i) j) := (bgn_iff T TL).2 ⟨j, jt, rfl⟩
    rw [sl_cn (by omega)]
    refine pc_sv (vc_codeL Ch.1.1 (p := is_S (cd_S (Bf k) (nf k) i) j) (by omega)) ?_; intro u10 ⟨q10, r10⟩
    rw [q10]
    refine pc_sv (vc_state C H G bg K S) ?_; intro u12 ⟨K12, Z⟩
    have KX12 : SKx h0 u12.2 := fun x y z1 z2 => K12 x y z1 (by omega)
    generalize s1_F Bf nf cnt k i (is_S (cd_S (Bf k) (nf k) i) j) rc s = o1 at Z ⊢
    refine pc_if (fun w => ?_) (fun w => ?_)
    · rcases Z with ⟨c, c1, c2, c3⟩ | ⟨s2, c1, c2, c3⟩
      · omega
      rw [c1]
      have N52 : ∀ r : Int, r = LSt ((cd_S (Bf k) (nf k) i) (is_S (cd_S (Bf k) (nf k) i) j)) → Pc (qj_X11_proveStates_52 nn (qw_X11_proveStates_4 nn f) (is_S (cd_S (Bf k) (nf k) i) j : Int) ((cd_S (Bf k) (nf k) i) (is_S (cd_S (Bf k) (nf k) i) j)) r u12.2) (fun u => SKx h0 u.2 ∧ ((u.1 = 0 ∧ cn_V Bf nf cnt k i y (is_S (cd_S (Bf k) (nf k) i) j) (.inr s2) = none) ∨ (¬ u.1 = 0 ∧ cn_V Bf nf cnt k i y (is_S (cd_S (Bf k) (nf k) i) j) (.inr s2) = some (u.1, u.2 127 7)))) := fun r er => by
        unfold qj_X11_proveStates_52
        rw [q10] at r10
        refine pc_sv (P := fun u => u = WD ((cd_S (Bf k) (nf k) i) (is_S (cd_S (Bf k) (nf k) i) j))) (fun u eu => by rw [wd_c r10] at eu; exact (Option.some.inj eu).symm) ?_; intro u1 q1
        have w := T j jt
        refine pc_xl ?_; intro v2 e2
        refine pc_add (by split at e2 <;> omega) ?_; intro v3 e3
        have es : is_S (cd_S (Bf k) (nf k) i) (j + 1) = is_S (cd_S (Bf k) (nf k) i) j + (WD ((cd_S (Bf k) (nf k) i) (is_S (cd_S (Bf k) (nf k) i) j))).toNat := rfl
        rw [show v3 = (is_S (cd_S (Bf k) (nf k) i) (j + 1) : Int) by split at e2 <;> omega]
        refine pc_imp (ih (j + 1) y r s2 u12.2 (by omega) (by omega) K12 c3 (by rw [er]; unfold LSt; split; exact .inl rfl; exact .inr rfl)) (fun u ⟨p1, p2⟩ => ⟨p1, ?_⟩)
        rw [er, es] at p2
        exact p2
      refine pc_sv vc_last ?_; intro u13 q13
      refine pc_if (fun v => N52 0 ?_) (fun v => N52 1 ?_)
      · rcases q13 with q | q
        · exact q.2.symm
        · exact absurd q.1 v
      · rcases q13 with q | q
        · omega
        · exact q.2.symm
    · rcases Z with ⟨c, c1, c2, c3⟩ | ⟨s2, c1, c2, c3⟩
      · refine pc_sv vc_at ?_; intro u16 ⟨r1, r2⟩
        refine pc_ret ⟨fun x y z1 z2 => ?_, .inr ⟨?_, ?_⟩⟩
        · show u16.2 x y = _
          rw [r2, up_n (by omega)]; exact KX12 x y z1 z2
        · show ¬ u16.1 = 0
          rw [r1]; exact w
        · rw [c1]
          show some (c, (is_S (cd_S (Bf k) (nf k) i) j : Int)) = some (u16.1, u16.2 127 7)
          rw [r1, r2, up_s, c2]
      · exact absurd c2 w
theorem vc_states (C : CMz Bf nf cnt k i h) (H : HGo Bf nf cnt) (G : MGd Bf nf cnt k i) (S : STc cnt (Bf k (ma_S (Bf k) (nf k) i + 3)) s h) : Pc (qf_X11_proveStates nn h) (fun u => SKx h u.2 ∧ ((u.1 = 0 ∧ sl_F Bf nf cnt k i ((cl_N (Bf k) (nf k) i) + 1) 0 1 s = none) ∨ (¬ u.1 = 0 ∧ sl_F Bf nf cnt k i ((cl_N (Bf k) (nf k) i) + 1) 0 1 s = some (u.1, u.2 127 7)))) := by
  obtain ⟨t0, T, TL⟩ := G.1
  unfold qf_X11_proveStates
  exact vc_ps4 C H G T TL nn 0 ((cl_N (Bf k) (nf k) i) + 1) 1 s h (Nat.zero_le _) (by omega) (fun _ _ _ _ => rfl) S (.inr rfl)
/-- BEGIN STATE, the class -/
theorem vc_begin (hn : 1000000 ≤ nn) (C : CMe Bf nf k i h) (ec : h 56 3 = cnt) (H : HGo Bf nf cnt) : Pc (qf_X11_beginState nn (8 + (k : Int)) h) (fun u => (∀ x y : Nat, ¬ x = 134 → ¬ (x = 131 ∧ y ≤ 6) → ¬ (x = 127 ∧ (y = 17 ∨ y = 18 ∨ y = 20)) → u x y = h x y) ∧ STc cnt (Bf k (ma_S (Bf k) (nf k) i + 3)) (bs_F Bf nf cnt k i) u ∧ u 127 17 = (Bf k (ma_S (Bf k) (nf k) i + 3)) ∧ u 127 20 = rk_F Bf nf cnt k (kt_S (Bf k) (nf k) i 1)) := by
  have gm := cme_m C
  have g30 := gm.2.2.1
  have hk' : (k : Int) < cnt := by have := C.2.2.1; omega
  have c8 := H.1.2
  obtain ⟨Gk, Ok, zx, zk, z2⟩ := H.2 k hk'
  obtain ⟨m2, PI, ml⟩ := gm.2.1
  have PI : pi_S (Bf k) (nf k) (kt_S (Bf k) (nf k) i 1) = some m2 := PI
  obtain ⟨em, t1, KM⟩ := ps_ok PI
  have m6 := KM.1.2.2
  have b01 := gm.1.1
  have KA := Ok.1.2.1.2 i C.2.1
  have VP : ∀ j : Nat, j < m2 → VTq cnt (pk_F Bf nf cnt k (kt_S (Bf k) (nf k) i 1) j) := fun j hj => by
    have kd := kd_s (KM.2.1 j hj).1
    rcases kq_is (Bf := Bf) (nf := nf) H.1 kd.1 with w | w
    · exact absurd w.1 kd.2.2.2
    · rcases w.2.2.2.2.2 with v | v
      · exact absurd v (KA.1 j (by omega))
      · exact v
  unfold qf_X11_beginState
  refine pc_xl ?_; intro h4 e4
  refine pc_sv vc_fillL ?_; intro u6 ⟨F6, W6⟩
  have F6h : ∀ x y : Nat, ¬ x = 134 → ¬ (x = 127 ∧ y = 18) → u6 x y = h x y := fun x y w1 w2 => by rw [F6 x y w1, e4, up_n w2]
  have C6 : CMe Bf nf k i u6 := cme_k C (fun x y z1 z2 => F6h x y (by omega) (by omega))
  refine pc_sv (vc_info C6 (w := 3) (by decide) (cme_d C6).1.2.2.2.2.1) ?_; intro u8 q8
  refine pc_xl ?_; intro v11 e11
  rw [if_neg (by omega), q8] at e11
  refine pc_xl ?_; intro h12 e12
  have F12 : ∀ x y : Nat, ¬ (x = 127 ∧ y = 17) → h12 x y = u6 x y := fun x y w => by rw [e12, up_n w]
  have C12 : CMe Bf nf k i h12 := cme_k C6 (fun x y z1 z2 => F12 x y (by omega))
  rw [C12.2.2.2.1]
  refine pc_ck (fun _ => ?_)
  refine pc_sv (vc_info C12 (w := 2) (by decide) (cme_d C12).1.2.2.1) ?_; intro u16 q16
  have q16 : u16 = kt_S (Bf k) (nf k) i 1 := q16
  rw [q16]
  have c3 : h12 56 3 = cnt := by rw [F12 56 3 (by omega), F6h 56 3 (by omega) (by omega)]; exact ec
  have qk := vc_readM (nn := nn) hn C12.1.1 (a := 0) (by omega) PI C12.2.2.1
  rw [c3] at qk
  refine pc_sv qk ?_; intro u19 ⟨r1, r2, r3, r4⟩
  rw [em] at r1 r2 r4
  have F19 : ∀ x y : Nat, ¬ (x = 131 ∧ y ≤ 6) → u19.2 x y = h12 x y := fun x y w => r2 x y (by omega)
  refine pc_rA ?_; intro _ _ v21 e21
  have e21 : v21 = rk_F Bf nf cnt k (kt_S (Bf k) (nf k) i 1) := e21.trans r3
  refine pc_xl ?_; intro h22 e22
  have F22 : ∀ x y : Nat, ¬ (x = 131 ∧ y ≤ 6) → ¬ (x = 127 ∧ y = 20) → h22 x y = h12 x y := fun x y w1 w2 => by rw [e22, up_n w2]; exact F19 x y w1
  have C22 : CMe Bf nf k i h22 := cme_k C12 (fun x y z1 z2 => F22 x y (by omega) (by omega))
  have P22 : ∀ j : Nat, j < m2 → h22 131 (1 + j) = pk_F Bf nf cnt k (kt_S (Bf k) (nf k) i 1) j := fun j hj => by
    rw [e22, up_n (by omega)]
    have := r4 j hj
    rw [Nat.zero_add] at this
    exact this
  have L22 : ∀ j : Nat, j < 30 → h22 134 j = 304 := fun j hj => by rw [F22 134 j (by omega) (by omega), F12 134 j (by omega)]; exact W6 j hj
  have B22 : ∀ x y : Nat, ¬ x = 134 → ¬ (x = 131 ∧ y ≤ 6) → ¬ (x = 127 ∧ (y = 17 ∨ y = 18 ∨ y = 20)) → h22 x y = h x y := fun x y w1 w2 w3 => by rw [F22 x y w2 (by omega), F12 x y (by omega)]; exact F6h x y w1 (by omega)
  have e18 : h22 127 18 = 0 := by rw [F22 127 18 (by omega) (by omega), F12 127 18 (by omega), F6 127 18 (by omega), e4, up_s]
  have e17 : h22 127 17 = (Bf k (ma_S (Bf k) (nf k) i + 3)) := by rw [F22 127 17 (by omega) (by omega), e12, up_s, e11]
  have e20 : h22 127 20 = rk_F Bf nf cnt k (kt_S (Bf k) (nf k) i 1) := by rw [e22, up_s, e21]
  refine pc_sv (vc_info C22 (w := 0) (by decide) (cme_d C22).1.1) ?_; intro u24 q24
  have FIN : ∀ (l3 : Nat) (g : ms_M), (∀ x y : Nat, ¬ x = 134 → g x y = h22 x y) → (∀ j : Nat, j < 30 → (j < l3 ∨ l3 + m2 ≤ j) → g 134 j = (bs_F Bf nf cnt k i).1 j) → (∀ j : Nat, j < m2 → (bs_F Bf nf cnt k i).1 (l3 + j) = pk_F Bf nf cnt k (kt_S (Bf k) (nf k) i 1) j) → (∀ j : Nat, j < 30 → VTq cnt ((bs_F Bf nf cnt k i).1 j)) → Pc (qj_X11_beginState_83 nn u19.1 (l3 : Int) g) (fun u => (∀ x y : Nat, ¬ x = 134 → ¬ (x = 131 ∧ y ≤ 6) → ¬ (x = 127 ∧ (y = 17 ∨ y = 18 ∨ y = 20)) → u x y = h x y) ∧ STc cnt (Bf k (ma_S (Bf k) (nf k) i + 3)) (bs_F Bf nf cnt k i) u ∧ u 127 17 = (Bf k (ma_S (Bf k) (nf k) i + 3)) ∧ u 127 20 = rk_F Bf nf cnt k (kt_S (Bf k) (nf k) i 1)) := fun l3 g Fg Lg Pg Vg => by
    unfold qj_X11_beginState_83
    refine pc_cpS ?_; intro h3 e3
    have F3 : ∀ x y : Nat, ¬ x = 134 → h3 x y = h22 x y := fun x y w => by
      rw [e3]
      show (if x = 134 ∧ _ then _ else g x y) = h22 x y
      rw [if_neg (fun z => w z.1)]
      exact Fg x y w
    refine pc_ret ⟨fun x y w1 w2 w3 => by rw [F3 x y w1]; exact B22 x y w1 w2 w3, ⟨⟨Vg, fun j hj => absurd hj (Nat.not_lt_zero _), by show ((0 : Nat) : Int) ≤ (Bf k (ma_S (Bf k) (nf k) i + 3)); omega⟩, fun j hj => ?_, fun j hj => absurd hj (Nat.not_lt_zero _), by rw [F3 127 18 (by omega)]; exact e18⟩, by rw [F3 127 17 (by omega)]; exact e17, by rw [F3 127 20 (by omega)]; exact e20⟩
    rw [e3]
    show (if 134 = 134 ∧ ((l3 : Nat) : Int).toNat ≤ j ∧ j < ((l3 : Nat) : Int).toNat + u19.1.toNat then g 131 ((1 : Int).toNat + (j - ((l3 : Nat) : Int).toNat)) else g 134 j) = _
    rw [Int.toNat_natCast, show (1 : Int).toNat = 1 from rfl]
    by_cases w : l3 ≤ j ∧ j < l3 + u19.1.toNat
    · rw [if_pos ⟨rfl, w⟩, Fg 131 _ (by omega), P22 (j - l3) (by omega)]
      have := Pg (j - l3) (by omega)
      rw [show l3 + (j - l3) = j by omega] at this
      exact this.symm
    · rw [if_neg (fun z => w z.2)]
      exact Lg j hj (by omega)
  have BS : ∀ j : Nat, (bs_F Bf nf cnt k i).1 j = if Bf k (ma_S (Bf k) (nf k) i) = 0 then (if j = 0 then 8 + (k : Int) else if j - 1 < m2 then pk_F Bf nf cnt k (kt_S (Bf k) (nf k) i 1) (j - 1) else 304) else if j < m2 then pk_F Bf nf cnt k (kt_S (Bf k) (nf k) i 1) j else 304 := fun j => by
    rw [← em]; rfl
  refine pc_if (fun z => ?_) (fun z => ?_)
  · have nz : ¬ Bf k (ma_S (Bf k) (nf k) i) = 0 := by omega
    refine FIN 0 h22 (fun _ _ _ => rfl) (fun j hj w => ?_) (fun j hj => ?_) (fun j hj => ?_)
    · rw [BS j, if_neg nz, if_neg (by omega)]; exact L22 j hj
    · rw [BS (0 + j), if_neg nz, if_pos (by omega), Nat.zero_add]
    · rw [BS j, if_neg nz]
      by_cases w : j < m2
      · rw [if_pos w]; exact VP j w
      · rw [if_neg w]; exact .inl rfl
  · have zz : Bf k (ma_S (Bf k) (nf k) i) = 0 := by omega
    refine pc_wA ?_; intro _ _ h26 e26
    have e26 : h26 = up_M h22 134 0 (8 + (k : Int)) := e26
    refine FIN 1 h26 (fun x y w => by rw [e26, up_n (by omega)]) (fun j hj w => ?_) (fun j hj => ?_) (fun j hj => ?_)
    · rw [BS j, if_pos zz]
      by_cases j0 : j = 0
      · rw [if_pos j0, j0, e26, up_s]
      · rw [if_neg j0, if_neg (by omega), e26, up_n (by omega)]; exact L22 j hj
    · rw [BS (1 + j), if_pos zz, if_neg (by omega), if_pos (by omega), show 1 + j - 1 = j by omega]
    · rw [BS j, if_pos zz]
      by_cases j0 : j = 0
      · rw [if_pos j0]
        refine .inr (.inr (.inr (.inr (.inl ?_))))
        unfold ISc
        omega
      · rw [if_neg j0]
        by_cases w : j - 1 < m2
        · rw [if_pos w]; exact VP _ w
        · rw [if_neg w]; exact .inl rfl
end

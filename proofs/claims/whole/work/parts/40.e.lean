/- THE CLASS READS AN IMAGE: methods, and all of it -/
section
variable {nn : Nat} {M M1 M2 : ms_M} {b : Nat} {B : Nat → Int} {n : Nat} {st : Nat ⊕ Nat}
theorem cr_k {s : Nat ⊕ Nat} (e2 : M2 b 2 = M b 2) (e3 : M2 b 3 = M b 3) (C : CRs b n s M) : CRs b n s M2 := by
  cases s with
  | inl e => exact e3.trans C
  | inr p => exact ⟨e3.trans C.1, e2.trans C.2.1, C.2.2⟩
theorem c_badl {x : Int} (C : ¬ M b 3 = -1) : qf_X3_bad nn b x M = some M := by rw [bad_ok, if_neg C]
theorem c_plain_l {e : Nat} (I : sr_I M b B n) (C : M b 3 = (e : Int)) : Pc (qf_X3_nextPlainClass nn b M) (fun u => FRz b M u.2 ∧ u.2 b 3 = (e : Int)) := by
  unfold qf_X3_nextPlainClass
  refine pc_sv (c_next (st := .inl e) I C) ?_; intro u6 q6
  obtain ⟨f6, C6, -⟩ := q6
  have C6 : u6.2 b 3 = (e : Int) := C6
  refine pc_se ?_; intro u8 e8
  have bad : Pc (qj_X3_nextPlainClass_29 nn b u8 u6.2) (fun u => FRz b M u.2 ∧ u.2 b 3 = (e : Int)) := by
    unfold qj_X3_nextPlainClass_29
    refine pc_xl ?_; intro v2 e2
    rw [c_badl (by omega), mx_svs]
    exact pc_ret ⟨f6, C6⟩
  refine pc_se ?_; intro u10 e10
  refine pc_if (fun _ => bad) (fun _ => ?_)
  refine pc_se ?_; intro u12 e12
  exact pc_if (fun _ => pc_ret ⟨f6, C6⟩) (fun _ => bad)
theorem c_types (T : TTc b n B M1) : ∀ (m f : Nat) (many j : Int) (st : Nat ⊕ Nat) (M : ms_M), FRz b M1 M → (j + m = many ∧ 0 ≤ j ∧ many ≤ 255) → CRs b n st M → Pc (qw_X3_readFrameTypes_7 nn f b many j M) (fun r => FRz b M r ∧ CRs b n (bd_S st (ty_S B n m)) r) := by
  intro m
  induction m with
  | zero =>
    intro f many j st M F hm C
    cases f with
    | zero => exact pc_none
    | succ f =>
      have es : bd_S st (ty_S B n 0) = st := by cases st <;> rfl
      unfold qw_X3_readFrameTypes_7
      exact pc_if (fun _ => pc_ret ⟨frp_r, by rw [es]; exact C⟩) (fun z => absurd (by omega) z)
  | succ m ih =>
    intro f many j st M F hm C
    cases f with
    | zero => exact pc_none
    | succ f =>
      have TM := ttc_fr F T
      unfold qw_X3_readFrameTypes_7
      refine pc_if (fun z => absurd z (by omega)) (fun _ => ?_)
      cases st with
      | inl e =>
        have C : M b 3 = (e : Int) := C
        exact pc_if (fun _ => pc_ret ⟨frp_r, C⟩) (fun z => absurd (by omega) z)
      | inr p =>
        refine pc_if (fun z => absurd C.1 z) (fun _ => ?_)
        refine pc_sv (c_upTo TM.1 C) ?_; intro u3 q3
        obtain ⟨f3, C3, v3⟩ := q3
        rw [bd_r] at C3
        have et : bd_S (.inr p) (ty_S B n (m + 1)) = bd_S (bd_S (by_S B n (up_T 0 3) p) (fun q => if B p = 3 then by_S B n (cl_S B n) q else .inr q)) (ty_S B n m) := rfl
        rw [et]
        refine pc_if (fun c => ?_) (fun c => ?_)
        · refine pc_add (by omega) ?_; intro v4 e4
          have ek : bd_S (by_S B n (up_T 0 3) p) (fun q => if B p = 3 then by_S B n (cl_S B n) q else .inr q) = by_S B n (up_T 0 3) p := by
            cases z : by_S B n (up_T 0 3) p with
            | inl e => rfl
            | inr x =>
              have a := by_le z
              rw [v3 p rfl a.2.1] at c
              rw [bd_r, if_neg c]
          rw [ek]
          exact pc_imp (ih f many v4 _ u3.2 (frp_t F f3) (by omega) C3) (fun r q => ⟨frp_t f3 q.1, q.2⟩)
        · refine pc_sv (c_class (ttc_fr f3 TM) C3) ?_; intro u6 q6
          refine pc_add (by omega) ?_; intro v7 e7
          have ek : bd_S (by_S B n (up_T 0 3) p) (fun q => if B p = 3 then by_S B n (cl_S B n) q else .inr q) = bd_S (by_S B n (up_T 0 3) p) (by_S B n (cl_S B n)) := by
            cases z : by_S B n (up_T 0 3) p with
            | inl e => rfl
            | inr x =>
              have a := by_le z
              rw [v3 p rfl a.2.1] at c
              rw [bd_r, bd_r, if_pos (by omega)]
          rw [ek]
          exact pc_imp (ih f many v7 _ u6 (frp_t F (frp_t f3 q6.1)) (by omega) q6.2) (fun r q => ⟨frp_t f3 (frp_t q6.1 q.1), q.2⟩)
theorem c_typ_l {e : Nat} {f : Nat} {many j : Int} (C : M b 3 = (e : Int)) : Pc (qw_X3_readFrameTypes_7 nn f b many j M) (fun r => r = M) := by
  cases f with
  | zero => exact pc_none
  | succ f =>
    unfold qw_X3_readFrameTypes_7
    exact pc_if (fun _ => pc_ret rfl) (fun _ => pc_if (fun _ => pc_ret rfl) (fun y => absurd (by omega) y))
theorem c_ts (T : TTc b n B M) (C : CRs b n st M) : Pc (qf_X3_readFrameTypes nn b M) (fun r => FRz b M r ∧ CRs b n (bd_S st (ts_S B n)) r) := by
  unfold qf_X3_readFrameTypes
  refine pc_sv (c_next T.1 C) ?_; intro u12 q12
  obtain ⟨f12, C12, v12⟩ := q12
  cases st with
  | inl e => exact pc_imp (c_typ_l C12) (fun r q => by rw [q]; exact ⟨f12, C12⟩)
  | inr p =>
    rw [bd_r] at C12 ⊢
    unfold ts_S
    by_cases w : p < n
    · have hv := v12 p rfl w
      have hB := sr_B T.1 w
      rw [hv]
      refine pc_imp (c_types T (B p).toNat nn (B p) 0 (nx_S n p) u12.2 f12 (by omega) C12) (fun r q => ⟨frp_t f12 q.1, q.2⟩)
    · have z : nx_S n p = .inl n := by unfold nx_S; rw [if_neg w]
      rw [z] at C12 ⊢
      exact pc_imp (c_typ_l C12) (fun r q => by rw [q]; exact ⟨f12, C12⟩)
theorem c_frs (T : TTc b n B M1) : ∀ (m f : Nat) (many j : Int) (st : Nat ⊕ Nat) (M : ms_M), FRz b M1 M → (j + m = many ∧ 0 ≤ j ∧ many ≤ 255) → CRs b n st M → Pc (qw_X3_readFrames_33 nn f b many j M) (fun r => FRz b M r ∧ CRs b n (bd_S st (fr_S B n m)) r) := by
  intro m
  induction m with
  | zero =>
    intro f many j st M F hm C
    cases f with
    | zero => exact pc_none
    | succ f =>
      have es : bd_S st (fr_S B n 0) = st := by cases st <;> rfl
      unfold qw_X3_readFrames_33
      exact pc_if (fun _ => pc_ret ⟨frp_r, by rw [es]; exact C⟩) (fun z => absurd (by omega) z)
  | succ m ih =>
    intro f many j st M F hm C
    cases f with
    | zero => exact pc_none
    | succ f =>
      have TM := ttc_fr F T
      unfold qw_X3_readFrames_33
      refine pc_if (fun z => absurd z (by omega)) (fun _ => ?_)
      cases st with
      | inl e =>
        have C : M b 3 = (e : Int) := C
        exact pc_if (fun _ => pc_ret ⟨frp_r, C⟩) (fun z => absurd (by omega) z)
      | inr p =>
        refine pc_if (fun z => absurd C.1 z) (fun _ => ?_)
        refine pc_sv (c_skipPairs (m := 2) (.inl rfl) (by omega) TM.1 C) ?_; intro u3 q3
        refine pc_sv (c_ts (ttc_fr q3.1 TM) q3.2) ?_; intro u5 q5
        refine pc_sv (c_ts (ttc_fr q5.1 (ttc_fr q3.1 TM)) q5.2) ?_; intro u7 q7
        refine pc_add (by omega) ?_; intro v8 e8
        have g := frp_t q3.1 (frp_t q5.1 q7.1)
        exact pc_imp (ih f many v8 _ u7 (frp_t F g) (by omega) q7.2) (fun r q => ⟨frp_t g q.1, q.2⟩)
theorem c_hds (T : TTc b n B M1) : ∀ (m f : Nat) (many j : Int) (st : Nat ⊕ Nat) (M : ms_M), FRz b M1 M → (j + m = many ∧ 0 ≤ j ∧ many ≤ 255) → CRs b n st M → Pc (qw_X3_readHandlers_33 nn f b many j M) (fun r => FRz b M r ∧ CRs b n (bd_S st (hd_S B n m)) r) := by
  intro m
  induction m with
  | zero =>
    intro f many j st M F hm C
    cases f with
    | zero => exact pc_none
    | succ f =>
      have es : bd_S st (hd_S B n 0) = st := by cases st <;> rfl
      unfold qw_X3_readHandlers_33
      exact pc_if (fun _ => pc_ret ⟨frp_r, by rw [es]; exact C⟩) (fun z => absurd (by omega) z)
  | succ m ih =>
    intro f many j st M F hm C
    cases f with
    | zero => exact pc_none
    | succ f =>
      have TM := ttc_fr F T
      unfold qw_X3_readHandlers_33
      refine pc_if (fun z => absurd z (by omega)) (fun _ => ?_)
      cases st with
      | inl e =>
        have C : M b 3 = (e : Int) := C
        exact pc_if (fun _ => pc_ret ⟨frp_r, C⟩) (fun z => absurd (by omega) z)
      | inr p =>
        refine pc_if (fun z => absurd C.1 z) (fun _ => ?_)
        refine pc_sv (c_skipPairs (m := 6) (.inr rfl) (by omega) TM.1 C) ?_; intro u3 q3
        refine pc_sv (c_class (ttc_fr q3.1 TM) q3.2) ?_; intro u5 q5
        refine pc_add (by omega) ?_; intro v6 e6
        have g := frp_t q3.1 q5.1
        exact pc_imp (ih f many v6 _ u5 (frp_t F g) (by omega) q5.2) (fun r q => ⟨frp_t g q.1, q.2⟩)
/-- a method's row may have changed: places lo to hi of it -/
def FMp (b : Nat) (lo hi : Int) (M M2 : ms_M) : Prop := ∀ c k : Nat, ¬ (c = b ∧ (k = 2 ∨ k = 3)) → ¬ (c = b + 6 ∧ lo ≤ (k : Int) ∧ (k : Int) ≤ hi) → M2 c k = M c k
theorem fm_t {lo hi : Int} (A : FMp b lo hi M M1) (C : FMp b lo hi M1 M2) : FMp b lo hi M M2 := fun c k q w => (C c k q w).trans (A c k q w)
theorem fm_p {lo hi : Int} (A : FRz b M M1) : FMp b lo hi M M1 := fun c k q _ => A c k q
theorem fm_r {lo hi : Int} : FMp b lo hi M M := fun _ _ _ _ => rfl
theorem fm_u {lo hi : Int} {j v : Int} (h : 0 ≤ j ∧ lo ≤ j ∧ j ≤ hi) : FMp b lo hi M (up_M M (b + 6) j.toNat v) := fun c k q w => up_n (by omega)
theorem fm_w {lo hi lo2 hi2 : Int} (A : FMp b lo hi M M1) (h : lo2 ≤ lo ∧ hi ≤ hi2) : FMp b lo2 hi2 M M1 := fun c k q w => A c k q (fun z => w (by omega))
theorem fmi_S {lo hi : Int} (A : FMp b lo hi M M1) : IFp b M M1 := fun c j q w => A c j (fun z => q ⟨z.1, by omega⟩) (fun z => w (by omega))
theorem ttc_fm {lo hi : Int} (A : FMp b lo hi M M2) (T : TTc b n B M) : TTc b n B M2 := ttc_k (fmi_S A) (A b 7 (by omega) (by omega)) (fun k => A _ _ (by omega) (by omega)) (fun k => A _ _ (by omega) (by omega)) (fun k => A _ _ (by omega) (by omega)) T
theorem c_frames (T : TTc b n B M) (C : CRs b n st M) {a : Int} (ha : 0 ≤ a ∧ a ≤ 132) : Pc (qf_X3_readFrames nn b a M) (fun r => FMp b (a + 9) (a + 10) M r ∧ CRs b n (bd_S st (ff_S B n)) r ∧ ∀ p q, st = .inr p → ff_S B n p = .inr q → r (b + 6) (a + 9).toNat = B p ∧ r (b + 6) (a + 10).toNat = ((p + 1 : Nat) : Int)) := by
  unfold qf_X3_readFrames
  refine pc_sv (c_upTo T.1 C) ?_; intro u12 q12
  obtain ⟨f12, C12, v12⟩ := q12
  refine pc_add (by omega) ?_; intro v14 e14
  refine pc_wA ?_; intro i1 i2 h15 e15
  refine pc_add (by omega) ?_; intro v17 e17
  refine pc_wA ?_; intro j1 j2 h19 e19
  have F19 : FMp b (a + 9) (a + 10) M h19 := fm_t (fm_p f12) (fm_t (M1 := h15) (by rw [e15]; exact fm_u (by omega)) (by rw [e19]; exact fm_u (by omega)))
  have T19 := ttc_fm F19 T
  have K2 : ∀ k, (k = 2 ∨ k = 3) → h19 b k = u12.2 b k := fun k hk => by rw [e19, up_n (by omega), e15, up_n (by omega)]
  have C19 := cr_k (n := n) (s := bd_S st (by_S B n (up_T 0 100))) (K2 2 (.inl rfl)) (K2 3 (.inr rfl)) C12
  have R9 : h19 (b + 6) (a + 9).toNat = u12.1 := by rw [e19, up_n (by omega), e15, show v14.toNat = (a + 9).toNat by omega, up_s]
  have R10 : h19 (b + 6) (a + 10).toNat = u12.2 b 2 := by
    rw [e19, show v17.toNat = (a + 10).toNat by omega, up_s, e15, up_n (by omega)]
  have out : ∀ {e : Nat}, h19 b 3 = (e : Int) → ∀ f k, Pc (qw_X3_readFrames_33 nn f b u12.1 k h19) (fun r => r = h19) := fun {e} ce f k => by
    cases f with
    | zero => exact pc_none
    | succ f =>
      unfold qw_X3_readFrames_33
      exact pc_if (fun _ => pc_ret rfl) (fun _ => pc_if (fun _ => pc_ret rfl) (fun y => absurd (by omega) y))
  cases st with
  | inl e => exact pc_imp (out C19 _ _) (fun r q => by rw [q]; exact ⟨F19, C19, fun p q y => nomatch y⟩)
  | inr p =>
    rw [bd_r] at C19 ⊢
    cases zz : by_S B n (up_T 0 100) p with
    | inl e =>
      rw [zz] at C19
      have ef : ff_S B n p = .inl e := by unfold ff_S; rw [zz]; rfl
      rw [ef]
      exact pc_imp (out C19 _ _) (fun r q => by rw [q]; exact ⟨F19, C19, fun p2 q y1 y2 => by cases y1; rw [ef] at y2; cases y2⟩)
    | inr q0 =>
      rw [zz] at C19
      have w := by_le zz
      have hv := v12 p rfl w.2.1
      have t := up_Tt w.2.2
      have ef : ff_S B n p = bd_S (.inr q0) (fr_S B n (B p).toNat) := by unfold ff_S; rw [zz]
      rw [ef, hv]
      refine pc_imp (c_frs T19 (B p).toNat nn (B p) 0 (.inr q0) h19 frp_r (by omega) C19) (fun r q => ⟨fm_t F19 (fm_p q.1), q.2, fun p2 q2 y1 y2 => ?_⟩)
      cases y1
      rw [q.1 _ _ (by omega), q.1 _ _ (by omega), R9, R10]
      have := C19.2.1
      rw [K2 2 (.inl rfl)] at this
      exact ⟨hv, by rw [this]; omega⟩
theorem c_handlers (T : TTc b n B M) (C : CRs b n st M) {a : Int} (ha : 0 ≤ a ∧ a ≤ 132) : Pc (qf_X3_readHandlers nn b a M) (fun r => FMp b (a + 7) (a + 8) M r ∧ CRs b n (bd_S st (hs_S B n)) r ∧ ∀ p q, st = .inr p → hs_S B n p = .inr q → r (b + 6) (a + 7).toNat = B p ∧ r (b + 6) (a + 8).toNat = ((p + 1 : Nat) : Int)) := by
  unfold qf_X3_readHandlers
  refine pc_sv (c_upTo T.1 C) ?_; intro u12 q12
  obtain ⟨f12, C12, v12⟩ := q12
  refine pc_add (by omega) ?_; intro v14 e14
  refine pc_wA ?_; intro i1 i2 h15 e15
  refine pc_add (by omega) ?_; intro v17 e17
  refine pc_wA ?_; intro j1 j2 h19 e19
  have F19 : FMp b (a + 7) (a + 8) M h19 := fm_t (fm_p f12) (fm_t (M1 := h15) (by rw [e15]; exact fm_u (by omega)) (by rw [e19]; exact fm_u (by omega)))
  have T19 := ttc_fm F19 T
  have K2 : ∀ k, (k = 2 ∨ k = 3) → h19 b k = u12.2 b k := fun k hk => by rw [e19, up_n (by omega), e15, up_n (by omega)]
  have C19 := cr_k (n := n) (s := bd_S st (by_S B n (up_T 0 20))) (K2 2 (.inl rfl)) (K2 3 (.inr rfl)) C12
  have R9 : h19 (b + 6) (a + 7).toNat = u12.1 := by rw [e19, up_n (by omega), e15, show v14.toNat = (a + 7).toNat by omega, up_s]
  have R10 : h19 (b + 6) (a + 8).toNat = u12.2 b 2 := by
    rw [e19, show v17.toNat = (a + 8).toNat by omega, up_s, e15, up_n (by omega)]
  have out : ∀ {e : Nat}, h19 b 3 = (e : Int) → ∀ f k, Pc (qw_X3_readHandlers_33 nn f b u12.1 k h19) (fun r => r = h19) := fun {e} ce f k => by
    cases f with
    | zero => exact pc_none
    | succ f =>
      unfold qw_X3_readHandlers_33
      exact pc_if (fun _ => pc_ret rfl) (fun _ => pc_if (fun _ => pc_ret rfl) (fun y => absurd (by omega) y))
  cases st with
  | inl e => exact pc_imp (out C19 _ _) (fun r q => by rw [q]; exact ⟨F19, C19, fun p q y => nomatch y⟩)
  | inr p =>
    rw [bd_r] at C19 ⊢
    cases zz : by_S B n (up_T 0 20) p with
    | inl e =>
      rw [zz] at C19
      have ef : hs_S B n p = .inl e := by unfold hs_S; rw [zz]; rfl
      rw [ef]
      exact pc_imp (out C19 _ _) (fun r q => by rw [q]; exact ⟨F19, C19, fun p2 q y1 y2 => by cases y1; rw [ef] at y2; cases y2⟩)
    | inr q0 =>
      rw [zz] at C19
      have w := by_le zz
      have hv := v12 p rfl w.2.1
      have t := up_Tt w.2.2
      have ef : hs_S B n p = bd_S (.inr q0) (hd_S B n (B p).toNat) := by unfold hs_S; rw [zz]
      rw [ef, hv]
      refine pc_imp (c_hds T19 (B p).toNat nn (B p) 0 (.inr q0) h19 frp_r (by omega) C19) (fun r q => ⟨fm_t F19 (fm_p q.1), q.2, fun p2 q2 y1 y2 => ?_⟩)
      cases y1
      rw [q.1 _ _ (by omega), q.1 _ _ (by omega), R9, R10]
      have := C19.2.1
      rw [K2 2 (.inl rfl)] at this
      exact ⟨hv, by rw [this]; omega⟩
theorem lnr_S {p : Nat} (I : sr_I M b B n) (h : p + 1 < n) : 0 ≤ ln_N B p ∧ ln_N B p ≤ 65535 := by
  have x := sr_B I (i := p) (by omega)
  have y := sr_B I (i := p + 1) h
  unfold ln_N
  rw [oq_shl_8 x]
  exact oq_or_rg (by omega) (by omega)
theorem c_85 {l4 : Int} {s : Nat ⊕ Nat} (I : sr_I M b B n) (C : CRs b n s M) (h4 : ∀ p, s = .inr p → 0 ≤ l4 ∧ (p : Int) + l4 ≤ (n : Int)) : Pc (qj_X3_readCode_85 nn b l4 M) (fun r => FRz b M r ∧ CRs b n (bd_S s (fun q => .inr (q + l4.toNat))) r) := by
  have n6 := I.2.1
  have e1 := I.2.2.1
  unfold qj_X3_readCode_85
  refine pc_xl ?_; intro v2 e2
  refine pc_xl ?_; intro v4 e4
  refine pc_xl ?_; intro h5 e5
  refine pc_ret ⟨by rw [e5]; exact frp_2, ?_⟩
  cases s with
  | inl e => show h5 b 3 = (e : Int); rw [e5, up_n (by omega)]; exact C
  | inr p =>
    obtain ⟨c1, c2, c3⟩ : M b 3 = -1 ∧ M b 2 = (p : Int) ∧ p ≤ n := C
    have w := h4 p rfl
    rw [c2, oq_add_eq (by omega) (by omega) (by omega)] at e2
    rw [if_neg (by omega)] at e4
    refine ⟨?_, ?_, ?_⟩
    · rw [e5, up_n (by omega)]; exact c1
    · rw [e5, up_s]; omega
    · show p + l4.toNat ≤ n; omega
theorem c_40 {l4 : Int} {s : Nat ⊕ Nat} {a : Int} (ha : 0 ≤ a ∧ a ≤ 132) (I : sr_I M b B n) (C : CRs b n s M) (h4 : ∀ p, s = .inr p → 0 ≤ l4 ∧ l4 ≤ 65535) : Pc (qj_X3_readCode_40 nn b a l4 M) (fun r => FMp b (a + 5) (a + 6) M r ∧ CRs b n (bd_S s (fun q => if (q : Int) + l4 ≤ (n : Int) then .inr (q + l4.toNat) else .inl n)) r ∧ ∀ p, s = .inr p → r (b + 6) (a + 5).toNat = l4 ∧ r (b + 6) (a + 6).toNat = (p : Int)) := by
  have n6 := I.2.1
  have e1 := I.2.2.1
  unfold qj_X3_readCode_40
  refine pc_add (by omega) ?_; intro v7 e7
  refine pc_wA ?_; intro i1 i2 h8 e8
  refine pc_add (by omega) ?_; intro v10 e10
  refine pc_wA ?_; intro j1 j2 h12 e12
  have F12 : FMp b (a + 5) (a + 6) M h12 := fm_t (M1 := h8) (by rw [e8]; exact fm_u (by omega)) (by rw [e12]; exact fm_u (by omega))
  have I12 := sr_if I (fmi_S F12)
  have K2 : ∀ k, h12 b k = M b k := fun k => by rw [e12, up_n (by omega), e8, up_n (by omega)]
  have C12 := cr_k (n := n) (K2 2) (K2 3) C
  have R5 : h12 (b + 6) (a + 5).toNat = l4 := by rw [e12, up_n (by omega), e8, show v7.toNat = (a + 5).toNat by omega, up_s]
  have R6 : ∀ p, s = .inr p → h12 (b + 6) (a + 6).toNat = (p : Int) := fun p z => by
    rw [e12, show v10.toNat = (a + 6).toNat by omega, up_s, e8, up_n (by omega)]
    rw [z] at C; exact C.2.1
  refine pc_xl ?_; intro v14 e14
  refine pc_if (fun c => ?_) (fun c => ?_)
  · have E : ∀ p, s = .inr p → 0 ≤ l4 ∧ (p : Int) + l4 ≤ (n : Int) := fun p z => by
      have w := h4 p z
      rw [z] at C12
      obtain ⟨c1, c2, c3⟩ : h12 b 3 = -1 ∧ h12 b 2 = (p : Int) ∧ p ≤ n := C12
      rw [c2, oq_add_eq (by omega) (by omega) (by omega)] at e14
      rw [K2 1, e1] at c
      omega
    refine pc_imp (c_85 I12 C12 E) (fun r q => ⟨fm_t F12 (fm_p q.1), ?_, fun p z => ?_⟩)
    · have q2 := q.2
      cases s with
      | inl e => exact q2
      | inr p =>
        rw [bd_r] at q2 ⊢
        rw [if_pos (E p rfl).2]; exact q2
    · rw [q.1 _ _ (by omega), q.1 _ _ (by omega)]; exact ⟨R5, R6 p z⟩
  · rw [K2 1, e1] at c ⊢
    refine pc_sv (c_badx C12) ?_; intro u18 q18
    have I18 := sr_fr I12 q18.1
    have q182 := q18.2
    refine pc_imp (c_85 (s := bd_S s (fun _ => .inl n)) I18 q182 (fun p z => by cases s <;> cases z)) (fun r q => ⟨fm_t F12 (fm_t (fm_p q18.1) (fm_p q.1)), ?_, fun p z => ?_⟩)
    · have q2 := q.2
      cases s with
      | inl e => exact q2
      | inr p =>
        have w := h4 p rfl
        obtain ⟨c1, c2, c3⟩ : h12 b 3 = -1 ∧ h12 b 2 = (p : Int) ∧ p ≤ n := C12
        rw [c2, oq_add_eq (by omega) (by omega) (by omega)] at e14
        rw [bd_r, if_neg (by omega)]; exact q2
    · rw [q.1 _ _ (by omega), q.1 _ _ (by omega), q18.1 _ _ (by omega), q18.1 _ _ (by omega)]; exact ⟨R5, R6 p z⟩
theorem c_code {a : Int} (ha : 0 ≤ a ∧ a ≤ 132) (I : sr_I M b B n) (C : CRs b n st M) : Pc (qf_X3_readCode nn b a M) (fun r => FMp b (a + 5) (a + 6) M r ∧ CRs b n (bd_S st (co_S B n)) r ∧ ∀ p q, st = .inr p → co_S B n p = .inr q → r (b + 6) (a + 5).toNat = ln_N B p ∧ r (b + 6) (a + 6).toNat = ((p + 2 : Nat) : Int)) := by
  unfold qf_X3_readCode
  refine pc_sv (c_next I C) ?_; intro u24 q24
  obtain ⟨f24, C24, v24⟩ := q24
  have I24 := sr_fr I f24
  refine pc_xl ?_; intro v25 e25
  refine pc_sv (c_next I24 C24) ?_; intro u27 q27
  obtain ⟨f27, C27, v27⟩ := q27
  have I27 := sr_fr I24 f27
  have F27 := frp_t f24 f27
  refine pc_xl ?_; intro v28 e28
  have C27b : CRs b n (bd_S st (sk_S n 2)) u27.2 := by
    cases st with
    | inl e => exact C27
    | inr p =>
      have hp : p ≤ n := C.2.2
      rw [bd_r] at C27
      rw [bd_r, sk_1 hp]
      cases z : nx_S n p with
      | inl e => rw [z] at C27; exact C27
      | inr x =>
        rw [z] at C27
        have w := nx_le z
        rw [bd_r] at C27 ⊢
        rw [sk_1 (by omega)]
        cases y : nx_S n x with
        | inl e => rw [y] at C27; exact C27
        | inr x2 =>
          rw [y] at C27
          rw [bd_r, sk_0 C27.2.2]; exact C27
  have V : ∀ p q, st = .inr p → sk_S n 2 p = .inr q → v28 = ln_N B p ∧ q = p + 2 ∧ p + 1 < n := fun p q z y => by
    have w := sk_le y
    have a1 := v24 p z (by omega)
    have zn : nx_S n p = .inr (p + 1) := by unfold nx_S; rw [if_pos (by omega)]
    have a2 := v27 (p + 1) (by rw [z, bd_r]; exact zn) (by omega)
    unfold ln_N
    rw [e28, e25, a1, a2]
    exact ⟨rfl, w.1, by omega⟩
  have H4 : ∀ p, bd_S st (sk_S n 2) = .inr p → 0 ≤ v28 ∧ v28 ≤ 65535 := fun p z => by
    obtain ⟨x, hx, hy⟩ := bd_inr z
    have w := V x p hx hy
    rw [w.1]; exact lnr_S I w.2.2
  have good : (1 ≤ v28 ∧ v28 ≤ 1500) → Pc (qj_X3_readCode_40 nn b a v28 u27.2) (fun r => FMp b (a + 5) (a + 6) M r ∧ CRs b n (bd_S st (co_S B n)) r ∧ ∀ p q, st = .inr p → co_S B n p = .inr q → r (b + 6) (a + 5).toNat = ln_N B p ∧ r (b + 6) (a + 6).toNat = ((p + 2 : Nat) : Int)) := fun g => by
    refine pc_imp (c_40 ha I27 C27b H4) (fun r q => ⟨fm_t (fm_p F27) q.1, ?_, fun p x z y => ?_⟩)
    · have q2 := q.2.1
      cases st with
      | inl e => exact q2
      | inr p =>
        rw [bd_r] at q2 ⊢
        unfold co_S
        cases z : sk_S n 2 p with
        | inl e => rw [z] at q2; exact q2
        | inr x =>
          rw [z] at q2
          have w := V p x rfl z
          rw [bd_r] at q2 ⊢
          rw [← w.1, if_neg (by omega)]; exact q2
    · unfold co_S at y
      obtain ⟨x2, hx, -⟩ := bd_inr y
      have w := V p x2 z hx
      have k := q.2.2 x2 (by rw [z, bd_r]; exact hx)
      rw [k.1, k.2, w.2.1]
      exact ⟨w.1, rfl⟩
  have bad : ¬ (1 ≤ v28 ∧ v28 ≤ 1500) → Pc (qj_X3_readCode_35 nn b a (M b 2) v28 u27.2) (fun r => FMp b (a + 5) (a + 6) M r ∧ CRs b n (bd_S st (co_S B n)) r ∧ ∀ p q, st = .inr p → co_S B n p = .inr q → r (b + 6) (a + 5).toNat = ln_N B p ∧ r (b + 6) (a + 6).toNat = ((p + 2 : Nat) : Int)) := fun g => by
    unfold qj_X3_readCode_35
    cases st with
    | inl e =>
      have C27 : u27.2 b 3 = (e : Int) := C27
      rw [c_badl (by omega), mx_svs]
      exact pc_imp (c_40 (s := .inl e) ha I27 C27 (fun p z => nomatch z)) (fun r q => ⟨fm_t (fm_p F27) q.1, q.2.1, fun p x z => nomatch z⟩)
    | inr p =>
      have cp : M b 2 = (p : Int) := C.2.1
      rw [cp]
      refine pc_sv (c_badx C27b) ?_; intro u21 q21
      have hs : ∀ x, bd_S (bd_S (.inr p) (sk_S n 2)) (fun _ => .inl p) = .inr x → False := fun x z => by
        obtain ⟨y, -, w⟩ := bd_inr z
        cases w
      refine pc_imp (c_40 ha (sr_fr I27 q21.1) q21.2 (fun x z => (hs x z).elim)) (fun r q => ⟨fm_t (fm_p F27) (fm_t (fm_p q21.1) q.1), ?_, fun p2 x z y => ?_⟩)
      · have q2 := q.2.1
        rw [bd_r] at q2 ⊢
        unfold co_S
        cases z : sk_S n 2 p with
        | inl e => rw [z] at q2; exact q2
        | inr x =>
          rw [z] at q2
          have w := V p x rfl z
          rw [bd_r] at q2 ⊢
          rw [← w.1, if_pos (by omega)]; exact q2
      · cases z
        unfold co_S at y
        obtain ⟨x2, hx, hy⟩ := bd_inr y
        have w := V p x2 rfl hx
        rw [← w.1, if_pos (by omega)] at hy
        cases hy
  refine pc_if (fun c => bad (by omega)) (fun c => pc_if (fun c2 => good (by omega)) (fun c2 => bad (by omega)))
/-- the row of the method at p -/
def MDt (b : Nat) (B : Nat → Int) (n : Nat) (a : Int) (p h f : Nat) (M : ms_M) : Prop := (M (b + 6) (a + 0).toNat = B p ∧ M (b + 6) (a + 1).toNat = B (p + 1) ∧ M (b + 6) (a + 2).toNat = B (p + 2) ∧ M (b + 6) (a + 11).toNat = op_E (pi_S B n (B (p + 2))) ∧ M (b + 6) (a + 3).toNat = B (p + 3) ∧ M (b + 6) (a + 4).toNat = B (p + 4)) ∧ (M (b + 6) (a + 5).toNat = ln_N B (p + 5) ∧ M (b + 6) (a + 6).toNat = ((p + 7 : Nat) : Int)) ∧ (M (b + 6) (a + 7).toNat = B h ∧ M (b + 6) (a + 8).toNat = ((h + 1 : Nat) : Int)) ∧ (M (b + 6) (a + 9).toNat = B f ∧ M (b + 6) (a + 10).toNat = ((f + 1 : Nat) : Int))
/-- where a method's handlers and frames are -/
def MPl (B : Nat → Int) (n p h f q : Nat) : Prop := mh_S B n p = .inr (p + 5) ∧ co_S B n (p + 5) = .inr h ∧ hs_S B n h = .inr f ∧ ff_S B n f = .inr q
theorem mh_le {p q : Nat} (e : mh_S B n p = .inr q) : q = p + 5 ∧ p + 4 < n := by
  unfold mh_S at e
  obtain ⟨p4, e, e4⟩ := bd_inr e
  obtain ⟨p3, e, e3⟩ := bd_inr e
  obtain ⟨p2, e, e2⟩ := bd_inr e
  obtain ⟨p1, e, e1⟩ := bd_inr e
  have a0 := by_le e
  have a1 := by_le e1
  have a2 := by_le e2
  have a3 := by_le e3
  have a4 := by_le e4
  omega
theorem mt_pl {p q : Nat} (e : mt_S B n p = .inr q) : ∃ h f, MPl B n p h f q := by
  unfold mt_S at e
  obtain ⟨f, e, e3⟩ := bd_inr e
  obtain ⟨h, e, e2⟩ := bd_inr e
  obtain ⟨x, e, e1⟩ := bd_inr e
  have w := mh_le e
  rw [w.1] at e e1
  exact ⟨h, f, e, e1, e2, e3⟩
theorem c_method (hn : 1000000 ≤ nn) {a : Int} {p : Nat} (ha : 0 ≤ a ∧ a ≤ 132) (T : TTc b n B M) (C : CRs b n (.inr p) M) : Pc (qf_X3_readMethod nn b a M) (fun r => FMp b a (a + 11) M r ∧ CRs b n (mt_S B n p) r ∧ ∀ h f q, MPl B n p h f q → MDt b B n a p h f r) := by
  unfold qf_X3_readMethod
  refine pc_add (by omega) ?_; intro v29 e29
  refine pc_sv (c_upTo T.1 C) ?_; intro u31 q31
  obtain ⟨f31, C31, w31⟩ := q31
  refine pc_wA ?_; intro i1 i2 h32 e32
  have F32 : FMp b a (a + 11) M h32 := fm_t (fm_p f31) (by rw [e32]; exact fm_u (by omega))
  have C32 := cr_k (n := n) (M2 := h32) (by rw [e32, up_n (by omega)]) (by rw [e32, up_n (by omega)]) C31
  have T32 := ttc_fm F32 T
  have R0 : h32 (b + 6) (a + 0).toNat = u31.1 := by rw [e32, show v29.toNat = (a + 0).toNat by omega, up_s]
  refine pc_add (by omega) ?_; intro v34 e34
  refine pc_sv (c_name hn T32 C32) ?_; intro u36 q36
  obtain ⟨f36, C36, w36⟩ := q36
  refine pc_wA ?_; intro j1 j2 h37 e37
  have G37 : FMp b (a + 1) (a + 1) h32 h37 := fm_t (fm_p f36) (by rw [e37]; exact fm_u (by omega))
  have F37 := fm_t F32 (fm_w (lo2 := a) (hi2 := a + 11) G37 (by omega))
  have C37 := cr_k (n := n) (M2 := h37) (by rw [e37, up_n (by omega)]) (by rw [e37, up_n (by omega)]) C36
  have T37 := ttc_fm F37 T
  have R1 : h37 (b + 6) (a + 1).toNat = u36.1 := by rw [e37, show v34.toNat = (a + 1).toNat by omega, up_s]
  refine pc_sv (c_next T37.1 C37) ?_; intro u39 q39
  obtain ⟨f39, C39, w39⟩ := q39
  have T39 := ttc_fr f39 T37
  have K := c_by (nn := nn) (t := fun k => (pi_S B n k).isSome) T39.1 C39 w39
  rw [c_par hn T39, mx_svs]
  have tail : ∀ g : ms_M, FRz b u39.2 g → CRs b n (bd_S (bd_S (bd_S (.inr p) (by_S B n (up_T 0 1))) (by_S B n (nm_S B n))) (by_S B n (fun k => (pi_S B n k).isSome))) g → Pc (qj_X3_readMethod_52 nn b a u39.1 (op_E (pi_S B n u39.1)) g) (fun r => FMp b a (a + 11) M r ∧ CRs b n (mt_S B n p) r ∧ ∀ h f q, MPl B n p h f q → MDt b B n a p h f r) := by
    intro g fg Cg
    have Gg : FRz b h37 g := frp_t f39 fg
    have Fg := fm_t F37 (fm_p (lo := a) (hi := a + 11) Gg)
    have Tg := ttc_fm Fg T
    unfold qj_X3_readMethod_52
    refine pc_add (by omega) ?_; intro v2 e2
    refine pc_wA ?_; intro k1 k2 h3 e3
    refine pc_add (by omega) ?_; intro v5 e5
    refine pc_wA ?_; intro l1 l2 h6 e6
    have F6 : FMp b a (a + 11) M h6 := fm_t Fg (fm_t (M1 := h3) (by rw [e3]; exact fm_u (by omega)) (by rw [e6]; exact fm_u (by omega)))
    have N6 : ∀ k, h6 b k = g b k := fun k => by rw [e6, up_n (by omega), e3, up_n (by omega)]
    have C6 := cr_k (n := n) (N6 2) (N6 3) Cg
    have T6 := ttc_fm F6 T
    have S6 : ∀ j : Int, (j = a + 0 ∨ j = a + 1) → h6 (b + 6) j.toNat = g (b + 6) j.toNat := fun j hj => by rw [e6, up_n (by omega), e3, up_n (by omega)]
    have R2 : h6 (b + 6) (a + 2).toNat = u39.1 := by rw [e6, up_n (by omega), e3, show v2.toNat = (a + 2).toNat by omega, up_s]
    have R11 : h6 (b + 6) (a + 11).toNat = op_E (pi_S B n u39.1) := by rw [e6, show v5.toNat = (a + 11).toNat by omega, up_s]
    refine pc_add (by omega) ?_; intro v8 e8
    refine pc_sv (c_upTo T6.1 C6) ?_; intro u10 q10
    obtain ⟨f10, C10, w10⟩ := q10
    refine pc_wA ?_; intro m1 m2 h11 e11
    have G11 : FMp b (a + 3) (a + 3) h6 h11 := fm_t (fm_p f10) (by rw [e11]; exact fm_u (by omega))
    have F11 := fm_t F6 (fm_w (lo2 := a) (hi2 := a + 11) G11 (by omega))
    have C11 := cr_k (n := n) (M2 := h11) (by rw [e11, up_n (by omega)]) (by rw [e11, up_n (by omega)]) C10
    have T11 := ttc_fm F11 T
    have R3 : h11 (b + 6) (a + 3).toNat = u10.1 := by rw [e11, show v8.toNat = (a + 3).toNat by omega, up_s]
    refine pc_add (by omega) ?_; intro v13 e13
    refine pc_xl ?_; intro v14 e14
    refine pc_add (by omega) ?_; intro v16 e16
    refine pc_rA ?_; intro n1 n2 v17 e17
    have R0b : v17 = u31.1 := by
      rw [e17, show v16.toNat = (a + 0).toNat by omega, G11 _ _ (by omega) (by omega), S6 (a + 0) (.inl rfl), Gg _ _ (by omega), G37 _ _ (by omega) (by omega)]; exact R0
    refine pc_xl ?_; intro v18 e18
    refine pc_sv (c_upTo T11.1 C11) ?_; intro u20 q20
    obtain ⟨f20, C20, w20⟩ := q20
    refine pc_wA ?_; intro o1 o2 h21 e21
    have G21 : FMp b (a + 4) (a + 4) h11 h21 := fm_t (fm_p f20) (by rw [e21]; exact fm_u (by omega))
    have F21 := fm_t F11 (fm_w (lo2 := a) (hi2 := a + 11) G21 (by omega))
    have C21 := cr_k (n := n) (M2 := h21) (by rw [e21, up_n (by omega)]) (by rw [e21, up_n (by omega)]) C20
    have T21 := ttc_fm F21 T
    have R4 : h21 (b + 6) (a + 4).toNat = u20.1 := by rw [e21, show v13.toNat = (a + 4).toNat by omega, up_s]
    -- the head's values, once it is read
    have V : ∀ x, bd_S (bd_S (bd_S (bd_S (.inr p) (by_S B n (up_T 0 1))) (by_S B n (nm_S B n))) (by_S B n (fun k => (pi_S B n k).isSome))) (by_S B n (up_T 0 30)) = .inr x → x = p + 4 ∧ u31.1 = B p ∧ u36.1 = B (p + 1) ∧ u39.1 = B (p + 2) ∧ u10.1 = B (p + 3) ∧ v18 = le_S B n p ∧ (0 ≤ B p ∧ B p ≤ 1) := fun x z => by
      obtain ⟨x3, z3, y3⟩ := bd_inr z
      obtain ⟨x2, z2, y2⟩ := bd_inr z3
      obtain ⟨x1, z1, y1⟩ := bd_inr z2
      have a0 := by_le (show by_S B n (up_T 0 1) p = .inr x1 from z1)
      have a1 := by_le y1
      have a2 := by_le y2
      have a3 := by_le y3
      have b0 := w31 p rfl a0.2.1
      have b1 := w36 x1 z1 a1.2.1
      have b2 := w39 x2 z2 a2.2.1
      have b3 := w10 x3 z3 a3.2.1
      rw [show x1 = p + 1 by omega] at b1
      rw [show x2 = p + 2 by omega] at b2 a2
      rw [show x3 = p + 3 by omega] at b3
      have t01 := up_Tt a0.2.2
      refine ⟨by omega, b0, b1, b2, b3, ?_, t01⟩
      unfold le_S
      have pm : 0 ≤ op_E (pi_S B n (B (p + 2))) ∧ op_E (pi_S B n (B (p + 2))) ≤ 6 := by
        cases y : pi_S B n (B (p + 2)) with
        | none => rw [y] at a2; exact absurd a2.2.2 (by decide)
        | some c =>
          unfold pi_S up_6 at y
          unfold op_E
          dsimp only
          split at y
          · split at y
            · split at y
              · cases y; omega
              · cases y
            · cases y
          · cases y
      rw [b2, oq_add_eq (by omega) (by omega) (by omega)] at e14
      rw [e14, R0b, b0, oq_sub_eq (by omega) (by omega) (by omega)] at e18
      exact e18
    have C21b : CRs b n (mh_S B n p) h21 := by
      unfold mh_S
      cases z : bd_S (bd_S (bd_S (bd_S (.inr p) (by_S B n (up_T 0 1))) (by_S B n (nm_S B n))) (by_S B n (fun k => (pi_S B n k).isSome))) (by_S B n (up_T 0 30)) with
      | inl e => rw [z] at C21; exact (show bd_S (bd_S (bd_S (by_S B n (up_T 0 1) p) (by_S B n (nm_S B n))) (by_S B n (fun k => (pi_S B n k).isSome))) (by_S B n (up_T 0 30)) = .inl e from z) ▸ C21
      | inr x =>
        have w := V x z
        rw [z, w.2.2.2.2.2.1] at C21
        exact (show bd_S (bd_S (bd_S (by_S B n (up_T 0 1) p) (by_S B n (nm_S B n))) (by_S B n (fun k => (pi_S B n k).isSome))) (by_S B n (up_T 0 30)) = .inr x from z) ▸ C21
    refine pc_sv (c_code ha T21.1 C21b) ?_; intro u23 q23
    obtain ⟨G23, C23, w23⟩ := q23
    have F23 := fm_t F21 (fm_w (lo2 := a) (hi2 := a + 11) G23 (by omega))
    refine pc_sv (c_handlers (ttc_fm F23 T) C23 ha) ?_; intro u25 q25
    obtain ⟨G25, C25, w25⟩ := q25
    have F25 := fm_t F23 (fm_w (lo2 := a) (hi2 := a + 11) G25 (by omega))
    refine pc_sv (c_frames (ttc_fm F25 T) C25 ha) ?_; intro u27 q27
    obtain ⟨G27, C27, w27⟩ := q27
    have F27 := fm_t F25 (fm_w (lo2 := a) (hi2 := a + 11) G27 (by omega))
    refine pc_ret ⟨F27, C27, fun h f q P => ?_⟩
    obtain ⟨P1, P2, P3, P4⟩ := P
    have z4 : ∃ x, bd_S (bd_S (bd_S (bd_S (.inr p) (by_S B n (up_T 0 1))) (by_S B n (nm_S B n))) (by_S B n (fun k => (pi_S B n k).isSome))) (by_S B n (up_T 0 30)) = .inr x ∧ by_S B n (up_T (le_S B n p) 30) x = .inr (p + 5) := bd_inr P1
    obtain ⟨x, zx, yx⟩ := z4
    obtain ⟨x4, b0, b1, b2, b3, b18, -⟩ := V x zx
    have a4 := by_le yx
    have b4 := w20 x zx a4.2.1
    rw [x4] at b4
    have s23 := w23 (p + 5) h P1 P2
    have s25 := w25 h f (by rw [P1, bd_r]; exact P2) P3
    have s27 := w27 f q (by rw [P1, bd_r, P2, bd_r]; exact P3) P4
    have L : ∀ j : Int, (0 ≤ j ∧ (j ≤ a + 4 ∨ a + 11 ≤ j)) → u27 (b + 6) j.toNat = h21 (b + 6) j.toNat := fun j hj => by
      rw [G27 _ _ (by omega) (by omega), G25 _ _ (by omega) (by omega), G23 _ _ (by omega) (by omega)]
    have L11 : ∀ j : Int, (0 ≤ j ∧ (j ≤ a + 2 ∨ a + 11 ≤ j)) → h21 (b + 6) j.toNat = h6 (b + 6) j.toNat := fun j hj => by
      rw [G21 _ _ (by omega) (by omega), G11 _ _ (by omega) (by omega)]
    refine ⟨⟨?_, ?_, ?_, ?_, ?_, ?_⟩, ⟨?_, ?_⟩, ⟨?_, ?_⟩, s27⟩
    · rw [L _ (by omega), L11 _ (by omega), S6 _ (.inl rfl), Gg _ _ (by omega), G37 _ _ (by omega) (by omega), R0]; exact b0
    · rw [L _ (by omega), L11 _ (by omega), S6 _ (.inr rfl), Gg _ _ (by omega), R1]; exact b1
    · rw [L _ (by omega), L11 _ (by omega), R2]; exact b2
    · rw [L _ (by omega), L11 _ (by omega), R11, b2]
    · rw [L _ (by omega), G21 _ _ (by omega) (by omega), R3]; exact b3
    · rw [L _ (by omega), R4]; exact b4
    · rw [G27 _ _ (by omega) (by omega), G25 _ _ (by omega) (by omega)]; exact s23.1
    · rw [G27 _ _ (by omega) (by omega), G25 _ _ (by omega) (by omega)]; exact s23.2
    · rw [G27 _ _ (by omega) (by omega)]; exact s25.1
    · rw [G27 _ _ (by omega) (by omega)]; exact s25.2
  refine pc_if (fun c => tail u39.2 frp_r (K.1 ?_)) (fun c => ?_)
  · cases y : pi_S B n u39.1 with
    | none => rw [y] at c; exact absurd rfl c
    | some m => rfl
  · have c := Decidable.not_not.1 c
    refine pc_xl ?_; intro v43 e43
    refine pc_sv (K.2 ?_ v43 e43) ?_
    · intro z
      cases y : pi_S B n u39.1 with
      | none => rw [y] at z; cases z
      | some m => rw [y] at c; unfold op_E at c; dsimp only at c; omega
    · intro u45 q45
      exact tail u45 q45.1 q45.2
end

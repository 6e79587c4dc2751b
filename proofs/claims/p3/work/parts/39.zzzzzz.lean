/- THE RUN OF THE CLASS IS SAFE -/
section
variable {nn : Nat} {h g z X : ms_M}
theorem ns_push {v : Int} : Pc (qf_X5_push nn v h) (fun g => g 143 1 = 1 → h 143 1 = 1) := by
  unfold qf_X5_push
  refine pc_rA (fun _ _ v3 _ => pc_if (fun _ => ?_) (fun _ => pc_xl (fun z e => pc_ret (fun q => absurd q (by rw [e, up_s]; decide)))))
  refine pc_xl (fun v6 _ => pc_xl (fun v7 _ => pc_wA (fun _ _ h8 e8 => pc_xl (fun v11 _ => pc_wA (fun _ _ h12 e12 => pc_ret (fun q => ?_))))))
  rw [e12, up_n (by omega), e8, up_n (by omega)] at q; exact q
theorem ns_give {v w : Int} : Pc (qf_X5_give nn v w h) (fun g => g 143 1 = 1 → h 143 1 = 1) := by
  unfold qf_X5_give
  refine pc_sv ns_push (fun u N => pc_se (fun u4 e4 => pc_ret (fun q => N ?_)))
  rw [show u4 143 1 = u 143 1 from (ff_X5_goOn nn) _ e4 143 1 rfl] at q; exact q
theorem ns_top : Pc (qf_X5_takeTop nn h) (fun g => g 143 1 = 1 → h 143 1 = 1) := by
  unfold qf_X5_takeTop
  refine pc_xl (fun v2 _ => pc_xl (fun v3 _ => pc_xl (fun h4 e4 => pc_rA (fun _ _ v8 _ => pc_se (fun u10 _ => ?_)))))
  refine pc_if (fun _ => pc_xl (fun z e => pc_ret (fun q => absurd q (by rw [e, up_s]; decide)))) (fun _ => ?_)
  intro r e q
  unfold wr_R at e
  split at e
  · obtain ⟨-, e⟩ := ck_i e
    have e := rd_i e
    rw [xl_eq] at e
    obtain ⟨-, e⟩ := ck_i e
    obtain ⟨u, -, e⟩ := sv_i e
    rw [xl_eq] at e
    have e := Option.some.inj e
    rw [← e, up_n (by omega), up_n (by omega), e4, up_n (by omega)] at q
    exact q
  · cases e
theorem ns_ic {l1 l2 : Int} : ∀ (k : Nat) (l3 l4 : Int), Pc (qw_X5_isCaught_27 nn k l1 l2 l3 l4 h) (fun r => r.2 143 1 = 1 → h 143 1 = 1) := by
  intro k
  induction k with
  | zero => intro l3 l4; exact pc_none
  | succ k ih =>
    intro l3 l4
    have j89 : ∀ s0 : Int, Pc (qj_X5_isCaught_89 nn (qw_X5_isCaught_27 nn k) l1 l2 l3 l4 s0 h) (fun r => r.2 143 1 = 1 → h 143 1 = 1) := by
      intro s0
      unfold qj_X5_isCaught_89
      refine pc_if (fun _ => pc_xl (fun _ _ => pc_xl (fun _ _ => ih _ _))) (fun _ => ?_)
      refine pc_rA (fun _ _ v6 _ => pc_ck (fun _ => pc_xl (fun v8 _ => pc_ck (fun _ => pc_se (fun u10 _ => pc_se (fun u12 _ => pc_se (fun u14 _ => ?_)))))))
      refine pc_if (fun _ => pc_xl (fun _ _ => pc_xl (fun _ _ => ih _ _))) (fun _ => ?_)
      refine pc_wA (fun _ _ h19 e19 => pc_ck (fun _ => pc_xl (fun v21 _ => pc_ck (fun _ => pc_se (fun u23 _ => pc_rA (fun _ _ v26 _ => pc_xl (fun v27 _ => pc_sv ns_give (fun u29 N => pc_ret (fun q => ?_)))))))))
      have := N q
      rw [e19, up_n (by omega)] at this; exact this
    unfold qw_X5_isCaught_27 qj_X5_isCaught_88
    refine pc_ck (fun _ => pc_ck (fun _ => pc_se (fun u34 _ => ?_)))
    refine pc_if (fun _ => pc_ret (fun q => q)) (fun c => ?_)
    refine pc_rA (fun _ _ v37 _ => pc_ck (fun _ => pc_se (fun u40 _ => ?_)))
    refine pc_if (fun _ => j89 0) (fun _ => ?_)
    refine pc_rA (fun _ _ v43 _ => pc_ck (fun _ => pc_xl (fun v45 _ => pc_se (fun u47 _ => ?_))))
    exact pc_if (fun _ => j89 0) (fun _ => j89 1)
theorem ns_17 {l1 : Int} : ∀ (k : Nat) (l2 : Int) {h : ms_M}, Pc (qw_X5_throwUp_17 nn k l1 l2 h) (fun g => g 143 1 = 1 → h 143 1 = 1) := by
  intro k
  induction k with
  | zero => intro l2 h; exact pc_none
  | succ k ih =>
    intro l2 h
    have fin : Pc (qj_X5_throwUp_59 nn l1 h) (fun g => g 143 1 = 1 → h 143 1 = 1) := by
      unfold qj_X5_throwUp_59
      refine pc_xl (fun h1 e1 => pc_rA (fun _ _ v3 _ => pc_xl (fun h4 e4 => pc_ret (fun q => ?_))))
      rw [e4, up_n (by omega), e1, up_s] at q; omega
    unfold qw_X5_throwUp_17
    refine pc_if (fun _ => fin) (fun c => pc_if (fun _ => fin) (fun c2 => ?_))
    refine pc_sv ns_top (fun u7 N7 => pc_se (fun u9 e9 => ?_))
    have N9 : u9.2 143 1 = 1 → u7 143 1 = 1 := by
      unfold qf_X5_isCaught at e9
      have e9 := rd_i e9
      rw [xl_eq] at e9
      obtain ⟨-, e9⟩ := ck_i e9
      obtain ⟨-, e9⟩ := ck_i e9
      obtain ⟨u57, -, e9⟩ := sv_i e9
      exact ns_ic nn _ _ _ e9
    refine pc_if (fun z => ?_) (fun z => pc_ret (fun q => N7 (N9 q)))
    refine pc_xl (fun v11 _ => pc_xl (fun h12 e12 => pc_xl (fun v13 _ => pc_imp (ih _) (fun g Q q => N7 (N9 ?_)))))
    have := Q q
    rw [e12, up_n (by omega)] at this; exact this
theorem ns_throw {l1 : Int} : Pc (qf_X5_throwUp nn l1 h) (fun g => g 143 1 = 1 → h 143 1 = 1) := by
  unfold qf_X5_throwUp
  exact pc_se (fun u _ => pc_if (fun _ => ns_17 nn 0) (fun _ => pc_xl (fun z e => pc_ret (fun q => absurd q (by rw [e, up_s]; decide)))))
/-- a run that is going on is a good one -/
def WMa (h : ms_M) : Prop := h 143 1 = 1 → STC h ∧ FRS h
theorem h20_of (V : VS_ h) (S : SI_ h) : H20 h := fun k hk m => mo7_le V (V.2.2.2.2.1 k hk).2 (S.1 k hk)
theorem wma_mv (W : WMa h) (M : MV0 h g) (e : g 143 1 = h 143 1) : WMa g := fun q => by
  rw [e] at q
  obtain ⟨S, F⟩ := W q
  exact frs_0 S F M
theorem wma_tn {w1 : WMa h} (H : h 143 1 = 1 → H20 h) (T : TN2_ nn h g) : WMa g := by
  rcases T with ⟨-, e⟩ | ⟨-, w, ew, e⟩
  · rw [e]
    exact wma_mv w1 mv_thr (up_n (by omega))
  · intro q
    rw [e, up_n (by omega)] at q
    have n := ns_throw _ ew q
    obtain ⟨S, F⟩ := w1 n
    obtain ⟨S2, F2⟩ := th_all S (H n) F _ ew q
    rw [e]
    exact frs_0 S2 F2 mv_thr
theorem wma_w2 {h g : ms_M} (V : VS_ h) (I : SI_ h) (W : WMa h) (st : h 143 1 = 1) (T : TN_ nn h g) : WMa g := by
  obtain ⟨S, F⟩ := W st
  have H := h20_of V I
  obtain ⟨u, eu, T⟩ := T
  have Wu : WMa u := st_all S F _ eu
  have Fu : SPF h u := spf_fr (fun c k w => (ff_X5_step nn) _ eu c k w) rfl
  have Hu := h20_q S Fu H
  rcases T with ⟨-, T⟩ | ⟨-, w, ew, T⟩
  · exact wma_tn (w1 := Wu) (fun _ => Hu) T
  · have M : MV0 u w.2 := pl_make _ ew
    have Ww : WMa w.2 := fun q => by
      have := mk_st ew
      obtain ⟨S2, F2⟩ := Wu (by omega)
      exact frs_0 S2 F2 M
    refine wma_tn (w1 := wma_mv Ww mv_thr (up_n (by omega))) (fun q => ?_) T
    rw [up_n (by omega)] at q
    have := mk_st ew
    obtain ⟨S2, F2⟩ := Wu (by omega)
    exact h20_q S2 (spf_tr M.1 mv_thr.1) Hu
theorem wma_w1 (W : WMa h) (st : h 143 1 = 1) : LKs_ nn h := by
  obtain ⟨S, F⟩ := W st
  intro p a ep ea ho u eu
  have c3 := S.2.2.2
  have ep : p = OPt h := pv_byte _ ep
  have ea := pv_byte _ ea
  have N := F.2.2.1.1
  have t2 := F.2.2.1.2.1
  have t3 := F.2.2.1.2.2.1
  rw [← F.2.1] at N t2 t3
  rcases opt_c S F with ⟨B, G, b, e⟩ | e
  · have r := G.r _ b
    have K := G.c _ b (by rw [← e, ← ep]; exact ho)
    have ea : a = ocb h (bN h (h 148 (h 143 17).toNat)) (h 148 (h 143 17).toNat % 12) (h 149 (h 143 17).toNat + 1) := by
      rw [ea]
      unfold ocb
      rw [t2, t3, oq_as, oq_add_eq (x := h 149 (h 143 17).toNat) (by omega) (by omega) (by omega)]
    rw [← ea] at K
    have tr := tg_r K.1
    have L := S.1.2 (h 148 (h 143 17).toNat / 12).toNat a (.inl (by have := N.1; have := N.2; omega)) K
    unfold qf_X5_link at eu
    have eu := rd_i eu
    rw [xl_eq] at eu
    obtain ⟨v, ev, eu⟩ := sv_i eu
    cases eu
    rw [Int.tdiv_eq_ediv_of_nonneg N.1] at ev
    unfold qf_X7_link at ev
    rw [if_neg (by have := N.1; omega), if_neg (by have := N.2; omega), if_neg (by omega), if_neg (by omega), xl_eq, xl_eq, oq_mul_eq (by have := N.1; have := N.2; omega) (by omega) (by have := N.1; have := N.2; omega), oq_add_eq (by have := N.1; have := N.2; omega) (by omega) (by have := N.1; have := N.2; omega)] at ev
    have ev := rd_i ev
    cases ev
    rw [show h 148 (h 143 17).toNat / 12 * 256 + a = ((h 148 (h 143 17).toNat / 12).toNat : Int) * 256 + a by have := N.1; omega]
    exact L
  · omega
/-- run is safe and keeps a good run -/
theorem cl_run (hn : 1000000 ≤ nn) {a1 p Z : Int} (C : CI_ p h) (w : WMa h) (hz : p + 20000 ≤ Z) (hZ : Z ≤ 1900000000) : Ok_ (qf_X12_run nn a1 h) (fun r => CI_ Z r.2 ∧ WMa r.2) :=
  ci_run hn (fun h W st => wma_w1 W st) (fun h g V I W st T => wma_w2 V I W st T) (fun h v W => wma_mv W (mv0_up rfl (by omega) (by omega)) (up_n (by omega))) C w hz hZ
/-- start begins a good run -/
theorem cl_start {a1 a2 : Int} (V : VS_ h) (W : WMa h) (hv : ¬ h 56 4 = 0 → STC h) : Pc (qf_X12_start nn a1 a2 h) (fun r => SPF h r.2 ∧ (∀ k, r.2 68 k = h 68 k) ∧ r.2 56 4 = h 56 4 ∧ WMa r.2) := by
  unfold qf_X12_start
  have same : Pc (some ((0 : Int), h)) (fun r : Int × ms_M => SPF h r.2 ∧ (∀ k, r.2 68 k = h 68 k) ∧ r.2 56 4 = h 56 4 ∧ WMa r.2) := pc_ret ⟨spf_refl, fun _ => rfl, rfl, W⟩
  refine pc_se (fun u3 _ => ?_)
  refine pc_if (fun _ => same) (fun c => pc_if (fun _ => same) (fun c2 => pc_if (fun _ => same) (fun c3 => pc_ck (fun _ => ?_))))
  refine pc_if (fun c4 => ?_) (fun _ => same)
  refine pc_se (fun u10 _ => pc_if (fun _ => same) (fun _ => pc_se (fun u12 _ => pc_if (fun _ => ?_) (fun _ => same))))
  have S := hv c
  refine pc_se (fun u15 e15 => pc_ret ?_)
  have FF : SPF h u15 := spf_fr (fun c k w => (ff_X5_beginRun nn) _ e15 c k w) rfl
  have LL : ∀ k, u15 68 k = h 68 k := fun k => (ff_X5_beginRun nn) _ e15 68 k (nw_ar rfl k)
  refine ⟨FF, LL, (ff_X5_beginRun nn) _ e15 56 4 rfl, ?_⟩
  show WMa u15
  unfold qf_X5_beginRun at e15
  obtain ⟨u2, e2, e15⟩ := sv_i e15
  rw [xl_eq, xl_eq, xl_eq, xl_eq] at e15
  obtain ⟨u8, e8, e15⟩ := sv_i e15
  cases e15
  have F2 : SPF h u2 := spf_fr (fun c k w => (ff_X5_forget nn) _ e2 c k w) rfl
  have L2 : ∀ k, u2 68 k = h 68 k := fun k => (ff_X5_forget nn) _ e2 68 k (nw_ar rfl k)
  have F3 : SPF u2 (up_M u2 143 1 1) := spf_up rfl (by omega)
  have d2 : u2 143 6 = 0 := by
    unfold qf_X5_forget at e2
    rw [xl_eq, xl_eq, xl_eq, xl_eq, xl_eq, xl_eq, xl_eq] at e2
    have e2 := Option.some.inj e2
    rw [← e2, up_n (by omega), up_s]
  have d3 : up_M u2 143 1 1 143 6 = 0 := by rw [up_n (by omega)]; exact d2
  exact pl_begin (stc_q (spf_tr F2 F3) (fun k => by rw [up_n (by omega)]; exact L2 k) S) (by omega) (fun i hi => by omega) _ e8
end

set_option maxRecDepth 4000 in
theorem ff_X12_feed (nn : Nat) {a1 : Int} {a2 : Int} {a3 : Int} {a4 : Int} {a5 : Int} {h : ms_M} : Fm_ (fun c => nw_F wl_X12_feed false false c = true) h (qf_X12_feed nn a1 a2 a3 a4 a5 h) (fun r => r.2) := by
  unfold qf_X12_feed
  have F_h : ∀ c, (fun c => nw_F wl_X12_feed false false c = true) c → h c = h c := fun _ _ => rfl
  refine fm_xl ?_; intro v2
  refine fm_if ?_ ?_
  · refine fm_ca F_h (ff_X12_putNumber nn) (nw_sub rfl) ?_; intro u4 F_u4
    refine fm_ca F_u4 (ff_X12_putNumber nn) (nw_sub rfl) ?_; intro u6 F_u6
    refine fm_ca F_u6 (ff_X12_putNumber nn) (nw_sub rfl) ?_; intro u8 F_u8
    refine fm_ca F_u8 (ff_X12_putNumber nn) (nw_sub rfl) ?_; intro u10 F_u10
    refine fm_ca F_u10 (ff_X12_putNumber nn) (nw_sub rfl) ?_; intro u12 F_u12
    exact fm_ret F_u12
  · exact fm_ret F_h
set_option maxRecDepth 4000 in
theorem ff_J7_copyOf_9075b (nn : Nat) {a0 : Nat} {a1 : Int} {h : ms_M} : Fm_ (fun c => nw_F wl_J7_copyOf_9075b false true c = true) h (qf_J7_copyOf_9075b nn a0 a1 h) (fun r => r.2.1) := by
  intro r hr c hc
  unfold qf_J7_copyOf_9075b at hr
  split at hr
  · rename_i q
    cases hr
    have hb : ly_T (cn_M h) = 1 := ly_Tbig (by unfold cn_M; omega)
    funext k
    dsimp only
    unfold nw_M
    rw [if_neg (nw_neB hb c hc), if_neg (fun z => nw_neB (ly_Tbig (by decide : 256 ≤ 900000)) c hc z.1), if_neg (fun z => nw_neB (ly_Tbig (by decide : 256 ≤ 900001)) c hc z.1)]
  · cases hr
set_option maxRecDepth 4000 in
theorem ff_X3_keepOwn (nn : Nat) {a0 : Nat} {h : ms_M} (hb_a0 : kc_O a0 = 3) : Fm_ (fun c => nw_F wl_X3_keepOwn true true c = true) h (qf_X3_keepOwn nn a0 h) (fun r => r.1) := by
  unfold qf_X3_keepOwn
  have F_h : ∀ c, (fun c => nw_F wl_X3_keepOwn true true c = true) c → h c = h c := fun _ _ => rfl
  refine fm_ck ?_; intro _
  refine fm_ca F_h (ff_J7_copyOf_9075b nn) (nw_sub rfl) ?_; intro u3 F_u3
  refine fm_wR F_u3 (nw_neI (off := 0) hb_a0 (by decide)) ?_; intro h4 F_h4
  exact fm_ret F_h4
set_option maxRecDepth 4000 in
theorem ff_X3_bad (nn : Nat) {a0 : Nat} {a1 : Int} {h : ms_M} (hb_a0 : kc_O a0 = 3) : Fm_ (fun c => nw_F wl_X3_bad true false c = true) h (qf_X3_bad nn a0 a1 h) (fun r => r) := by
  unfold qf_X3_bad
  have F_h : ∀ c, (fun c => nw_F wl_X3_bad true false c = true) c → h c = h c := fun _ _ => rfl
  refine fm_if ?_ ?_
  · exact fm_ret F_h
  · refine fm_up F_h (nw_neI (off := 0) hb_a0 (by decide)) ?_; intro h2 F_h2
    exact fm_ret F_h2
set_option maxRecDepth 4000 in
theorem ff_X3_next (nn : Nat) {a0 : Nat} {h : ms_M} (hb_a0 : kc_O a0 = 3) : Fm_ (fun c => nw_F wl_X3_next true false c = true) h (qf_X3_next nn a0 h) (fun r => r.2) := by
  unfold qf_X3_next
  have F_h : ∀ c, (fun c => nw_F wl_X3_next true false c = true) c → h c = h c := fun _ _ => rfl
  refine fm_if ?_ ?_
  · refine fm_xl ?_; intro v4
    refine fm_up F_h (nw_neI (off := 0) hb_a0 (by decide)) ?_; intro h5 F_h5
    refine fm_ck ?_; intro _
    refine fm_xl ?_; intro v8
    refine fm_rdT ?_; intro v9
    refine fm_xl ?_; intro v10
    exact fm_ret F_h5
  · refine fm_if ?_ ?_
    · refine fm_up F_h (nw_neI (off := 0) hb_a0 (by decide)) ?_; intro h13 F_h13
      exact fm_ret F_h13
    · refine fm_up F_h (nw_neI (off := 0) hb_a0 (by decide)) ?_; intro h15 F_h15
      exact fm_ret F_h15
set_option maxRecDepth 4000 in
theorem fj_X3_nextPlainClass_29 (nn : Nat) {l0 : Nat} {l2 : Int} {h : ms_M} (hb_l0 : kc_O l0 = 3) : Fm_ (fun c => nw_F wl_X3_nextPlainClass true false c = true) h (qj_X3_nextPlainClass_29 nn l0 l2 h) (fun r => r.2) := by
  unfold qj_X3_nextPlainClass_29
  have F_h : ∀ c, (fun c => nw_F wl_X3_nextPlainClass true false c = true) c → h c = h c := fun _ _ => rfl
  refine fm_xl ?_; intro v2
  refine fm_ca F_h (ff_X3_bad nn hb_l0) (nw_sub rfl) ?_; intro u4 F_u4
  exact fm_ret F_u4
set_option maxRecDepth 4000 in
theorem ff_X3_nextPlainClass (nn : Nat) {a0 : Nat} {h : ms_M} (hb_a0 : kc_O a0 = 3) : Fm_ (fun c => nw_F wl_X3_nextPlainClass true false c = true) h (qf_X3_nextPlainClass nn a0 h) (fun r => r.2) := by
  unfold qf_X3_nextPlainClass
  have F_h : ∀ c, (fun c => nw_F wl_X3_nextPlainClass true false c = true) c → h c = h c := fun _ _ => rfl
  refine fm_ca F_h (ff_X3_next nn hb_a0) (nw_sub rfl) ?_; intro u6 F_u6
  refine fm_pu ?_; intro u8
  refine fm_pu ?_; intro u10
  refine fm_if ?_ ?_
  · exact fm_tl F_u6 (fj_X3_nextPlainClass_29 nn hb_a0) (fun _ z => z)
  · refine fm_pu ?_; intro u12
    refine fm_if ?_ ?_
    · exact fm_ret F_u6
    · exact fm_tl F_u6 (fj_X3_nextPlainClass_29 nn hb_a0) (fun _ z => z)
set_option maxRecDepth 4000 in
theorem fj_X3_nextUpTo_15 (nn : Nat) {l0 : Nat} {l3 : Int} {h : ms_M} (hb_l0 : kc_O l0 = 3) : Fm_ (fun c => nw_F wl_X3_nextUpTo true false c = true) h (qj_X3_nextUpTo_15 nn l0 l3 h) (fun r => r.2) := by
  unfold qj_X3_nextUpTo_15
  have F_h : ∀ c, (fun c => nw_F wl_X3_nextUpTo true false c = true) c → h c = h c := fun _ _ => rfl
  refine fm_xl ?_; intro v2
  refine fm_ca F_h (ff_X3_bad nn hb_l0) (nw_sub rfl) ?_; intro u4 F_u4
  exact fm_ret F_u4
set_option maxRecDepth 4000 in
theorem ff_X3_nextUpTo (nn : Nat) {a0 : Nat} {a1 : Int} {a2 : Int} {h : ms_M} (hb_a0 : kc_O a0 = 3) : Fm_ (fun c => nw_F wl_X3_nextUpTo true false c = true) h (qf_X3_nextUpTo nn a0 a1 a2 h) (fun r => r.2) := by
  unfold qf_X3_nextUpTo
  have F_h : ∀ c, (fun c => nw_F wl_X3_nextUpTo true false c = true) c → h c = h c := fun _ _ => rfl
  refine fm_ca F_h (ff_X3_next nn hb_a0) (nw_sub rfl) ?_; intro u6 F_u6
  refine fm_if ?_ ?_
  · exact fm_tl F_u6 (fj_X3_nextUpTo_15 nn hb_a0) (fun _ z => z)
  · refine fm_if ?_ ?_
    · exact fm_ret F_u6
    · exact fm_tl F_u6 (fj_X3_nextUpTo_15 nn hb_a0) (fun _ z => z)
set_option maxRecDepth 4000 in
theorem fj_X3_checkConstant_109 (nn : Nat) {l0 : Nat} {l2 : Int} {l3 : Int} {h : ms_M} (hb_l0 : kc_O l0 = 3) : Fm_ (fun c => nw_F wl_X3_checkConstant true false c = true) h (qj_X3_checkConstant_109 nn l0 l2 l3 h) (fun r => r) := by
  unfold qj_X3_checkConstant_109
  have F_h : ∀ c, (fun c => nw_F wl_X3_checkConstant true false c = true) c → h c = h c := fun _ _ => rfl
  refine fm_pu ?_; intro u2
  refine fm_if ?_ ?_
  · exact fm_ret F_h
  · refine fm_pu ?_; intro u4
    refine fm_if ?_ ?_
    · exact fm_ret F_h
    · refine fm_xl ?_; intro v5
      refine fm_ca F_h (ff_X3_bad nn hb_l0) (nw_sub rfl) ?_; intro u7 F_u7
      exact fm_ret F_u7
set_option maxRecDepth 4000 in
theorem fj_X3_checkConstant_89 (nn : Nat) {l0 : Nat} {l1 : Int} {l2 : Int} {l3 : Int} {h : ms_M} (hb_l0 : kc_O l0 = 3) : Fm_ (fun c => nw_F wl_X3_checkConstant true false c = true) h (qj_X3_checkConstant_89 nn l0 l1 l2 l3 h) (fun r => r) := by
  unfold qj_X3_checkConstant_89
  have F_h : ∀ c, (fun c => nw_F wl_X3_checkConstant true false c = true) c → h c = h c := fun _ _ => rfl
  refine fm_pu ?_; intro u11
  refine fm_pu ?_; intro u13
  refine fm_if ?_ ?_
  · exact fm_tl F_h (fj_X3_checkConstant_109 nn hb_l0) (fun _ z => z)
  · refine fm_xl ?_; intro v14
    refine fm_ca F_h (ff_X3_bad nn hb_l0) (nw_sub rfl) ?_; intro u16 F_u16
    exact fm_tl F_u16 (fj_X3_checkConstant_109 nn hb_l0) (fun _ z => z)
set_option maxRecDepth 4000 in
theorem fj_X3_checkConstant_53 (nn : Nat) {l0 : Nat} {l1 : Int} {l2 : Int} {h : ms_M} (hb_l0 : kc_O l0 = 3) : Fm_ (fun c => nw_F wl_X3_checkConstant true false c = true) h (qj_X3_checkConstant_53 nn l0 l1 l2 h) (fun r => r) := by
  unfold qj_X3_checkConstant_53
  have F_h : ∀ c, (fun c => nw_F wl_X3_checkConstant true false c = true) c → h c = h c := fun _ _ => rfl
  refine fm_rd ?_; intro v19
  refine fm_if ?_ ?_
  · exact fm_ret F_h
  · refine fm_pu ?_; intro u21
    refine fm_pu ?_; intro u23
    refine fm_pu ?_; intro u25
    refine fm_if ?_ ?_
    · exact fm_tl F_h (fj_X3_checkConstant_89 nn hb_l0) (fun _ z => z)
    · refine fm_ca F_h (ff_X3_bad nn hb_l0) (nw_sub rfl) ?_; intro u27 F_u27
      exact fm_tl F_u27 (fj_X3_checkConstant_89 nn hb_l0) (fun _ z => z)
set_option maxRecDepth 4000 in
theorem fj_X3_checkConstant_48 (nn : Nat) {l0 : Nat} {l1 : Int} {l2 : Int} {h : ms_M} (hb_l0 : kc_O l0 = 3) : Fm_ (fun c => nw_F wl_X3_checkConstant true false c = true) h (qj_X3_checkConstant_48 nn l0 l1 l2 h) (fun r => r) := by
  unfold qj_X3_checkConstant_48
  have F_h : ∀ c, (fun c => nw_F wl_X3_checkConstant true false c = true) c → h c = h c := fun _ _ => rfl
  refine fm_ca F_h (ff_X3_bad nn hb_l0) (nw_sub rfl) ?_; intro u31 F_u31
  exact fm_tl F_u31 (fj_X3_checkConstant_53 nn hb_l0) (fun _ z => z)
set_option maxRecDepth 4000 in
theorem ff_X3_checkConstant (nn : Nat) {a0 : Nat} {a1 : Int} {h : ms_M} (hb_a0 : kc_O a0 = 3) : Fm_ (fun c => nw_F wl_X3_checkConstant true false c = true) h (qf_X3_checkConstant nn a0 a1 h) (fun r => r) := by
  unfold qf_X3_checkConstant
  have F_h : ∀ c, (fun c => nw_F wl_X3_checkConstant true false c = true) c → h c = h c := fun _ _ => rfl
  refine fm_rd ?_; intro v33
  refine fm_rd ?_; intro v35
  refine fm_if ?_ ?_
  · exact fm_tl F_h (fj_X3_checkConstant_53 nn hb_a0) (fun _ z => z)
  · refine fm_pu ?_; intro u37
    refine fm_pu ?_; intro u39
    refine fm_if ?_ ?_
    · exact fm_tl F_h (fj_X3_checkConstant_53 nn hb_a0) (fun _ z => z)
    · refine fm_pu ?_; intro u41
      refine fm_if ?_ ?_
      · exact fm_tl F_h (fj_X3_checkConstant_48 nn hb_a0) (fun _ z => z)
      · refine fm_pu ?_; intro u43
        refine fm_if ?_ ?_
        · exact fm_tl F_h (fj_X3_checkConstant_53 nn hb_a0) (fun _ z => z)
        · exact fm_tl F_h (fj_X3_checkConstant_48 nn hb_a0) (fun _ z => z)
set_option maxRecDepth 4000 in
theorem fw_X3_readConstant_84 (nn : Nat) : ∀ (k : Nat) {l0 : Nat} {l2 : Int} {l3 : Int} {l4 : Int} {h : ms_M} (hb_l0 : kc_O l0 = 3), Fm_ (fun c => nw_F wl_X3_readConstant true false c = true) h (qw_X3_readConstant_84 nn k l0 l2 l3 l4 h) (fun r => r) := by
  intro k
  induction k with
  | zero => intros; exact fm_no
  | succ k ih =>
    intro l0 l2 l3 l4 h hb_l0
    unfold qw_X3_readConstant_84
    have F_h : ∀ c, (fun c => nw_F wl_X3_readConstant true false c = true) c → h c = h c := fun _ _ => rfl
    refine fm_if ?_ ?_
    · exact fm_ret F_h
    · refine fm_if ?_ ?_
      · exact fm_ret F_h
      · refine fm_if ?_ ?_
        · refine fm_ca F_h (ff_X3_next nn hb_l0) (nw_sub rfl) ?_; intro u3 F_u3
          refine fm_xl ?_; intro v4
          exact fm_tl F_u3 (ih hb_l0) (fun _ z => z)
        · refine fm_ca F_h (ff_X3_nextUpTo nn hb_l0) (nw_sub rfl) ?_; intro u6 F_u6
          refine fm_xl ?_; intro v7
          exact fm_tl F_u6 (ih hb_l0) (fun _ z => z)
set_option maxRecDepth 4000 in
theorem fj_X3_readConstant_40 (nn : Nat) {l0 : Nat} {l1 : Int} {l2 : Int} {l3 : Int} {h : ms_M} (hb_l0 : kc_O l0 = 3) : Fm_ (fun c => nw_F wl_X3_readConstant true false c = true) h (qj_X3_readConstant_40 nn l0 l1 l2 l3 h) (fun r => r) := by
  unfold qj_X3_readConstant_40
  have F_h : ∀ c, (fun c => nw_F wl_X3_readConstant true false c = true) c → h c = h c := fun _ _ => rfl
  refine fm_wA F_h (nw_neI hb_l0 (by decide)) ?_; intro h12 F_h12
  refine fm_wA F_h12 (nw_neI hb_l0 (by decide)) ?_; intro h15 F_h15
  refine fm_if ?_ ?_
  · refine fm_wA F_h15 (nw_neI hb_l0 (by decide)) ?_; intro h18 F_h18
    exact fm_tl F_h18 (fw_X3_readConstant_84 nn _ hb_l0) (fun _ z => z)
  · refine fm_xl ?_; intro v20
    refine fm_wA F_h15 (nw_neI hb_l0 (by decide)) ?_; intro h21 F_h21
    exact fm_tl F_h21 (fw_X3_readConstant_84 nn _ hb_l0) (fun _ z => z)
set_option maxRecDepth 4000 in
theorem fj_X3_readConstant_26 (nn : Nat) {l0 : Nat} {l1 : Int} {l2 : Int} {s0 : Int} {h : ms_M} (hb_l0 : kc_O l0 = 3) : Fm_ (fun c => nw_F wl_X3_readConstant true false c = true) h (qj_X3_readConstant_26 nn l0 l1 l2 s0 h) (fun r => r) := by
  unfold qj_X3_readConstant_26
  have F_h : ∀ c, (fun c => nw_F wl_X3_readConstant true false c = true) c → h c = h c := fun _ _ => rfl
  refine fm_if ?_ ?_
  · exact fm_tl F_h (fj_X3_readConstant_40 nn hb_l0) (fun _ z => z)
  · refine fm_ca F_h (ff_X3_nextUpTo nn hb_l0) (nw_sub rfl) ?_; intro u24 F_u24
    exact fm_tl F_u24 (fj_X3_readConstant_40 nn hb_l0) (fun _ z => z)
set_option maxRecDepth 4000 in
theorem ff_X3_readConstant (nn : Nat) {a0 : Nat} {a1 : Int} {h : ms_M} (hb_a0 : kc_O a0 = 3) : Fm_ (fun c => nw_F wl_X3_readConstant true false c = true) h (qf_X3_readConstant nn a0 a1 h) (fun r => r) := by
  unfold qf_X3_readConstant
  have F_h : ∀ c, (fun c => nw_F wl_X3_readConstant true false c = true) c → h c = h c := fun _ _ => rfl
  refine fm_ca F_h (ff_X3_nextUpTo nn hb_a0) (nw_sub rfl) ?_; intro u27 F_u27
  refine fm_if ?_ ?_
  · refine fm_if ?_ ?_
    · exact fm_tl F_u27 (fj_X3_readConstant_26 nn hb_a0) (fun _ z => z)
    · exact fm_tl F_u27 (fj_X3_readConstant_26 nn hb_a0) (fun _ z => z)
  · exact fm_tl F_u27 (fj_X3_readConstant_26 nn hb_a0) (fun _ z => z)
set_option maxRecDepth 4000 in
theorem fw_X3_readConstants_57 (nn : Nat) : ∀ (k : Nat) {l0 : Nat} {l1 : Int} {h : ms_M} (hb_l0 : kc_O l0 = 3), Fm_ (fun c => nw_F wl_X3_readConstants true false c = true) h (qw_X3_readConstants_57 nn k l0 l1 h) (fun r => r) := by
  intro k
  induction k with
  | zero => intros; exact fm_no
  | succ k ih =>
    intro l0 l1 h hb_l0
    unfold qw_X3_readConstants_57
    have F_h : ∀ c, (fun c => nw_F wl_X3_readConstants true false c = true) c → h c = h c := fun _ _ => rfl
    refine fm_if ?_ ?_
    · exact fm_ret F_h
    · refine fm_if ?_ ?_
      · exact fm_ret F_h
      · refine fm_ca F_h (ff_X3_checkConstant nn hb_l0) (nw_sub rfl) ?_; intro u4 F_u4
        refine fm_xl ?_; intro v5
        exact fm_tl F_u4 (ih hb_l0) (fun _ z => z)
set_option maxRecDepth 4000 in
theorem fw_X3_readConstants_28 (nn : Nat) : ∀ (k : Nat) {l0 : Nat} {l1 : Int} {h : ms_M} (hb_l0 : kc_O l0 = 3), Fm_ (fun c => nw_F wl_X3_readConstants true false c = true) h (qw_X3_readConstants_28 nn k l0 l1 h) (fun r => r) := by
  intro k
  induction k with
  | zero => intros; exact fm_no
  | succ k ih =>
    intro l0 l1 h hb_l0
    unfold qw_X3_readConstants_28
    have F_h : ∀ c, (fun c => nw_F wl_X3_readConstants true false c = true) c → h c = h c := fun _ _ => rfl
    refine fm_if ?_ ?_
    · exact fm_tl F_h (fw_X3_readConstants_57 nn _ hb_l0) (fun _ z => z)
    · refine fm_if ?_ ?_
      · exact fm_tl F_h (fw_X3_readConstants_57 nn _ hb_l0) (fun _ z => z)
      · refine fm_ca F_h (ff_X3_readConstant nn hb_l0) (nw_sub rfl) ?_; intro u11 F_u11
        refine fm_xl ?_; intro v12
        exact fm_tl F_u11 (ih hb_l0) (fun _ z => z)
set_option maxRecDepth 4000 in
theorem ff_X3_readConstants (nn : Nat) {a0 : Nat} {h : ms_M} (hb_a0 : kc_O a0 = 3) : Fm_ (fun c => nw_F wl_X3_readConstants true false c = true) h (qf_X3_readConstants nn a0 h) (fun r => r) := by
  unfold qf_X3_readConstants
  have F_h : ∀ c, (fun c => nw_F wl_X3_readConstants true false c = true) c → h c = h c := fun _ _ => rfl
  refine fm_ca F_h (ff_X3_nextUpTo nn hb_a0) (nw_sub rfl) ?_; intro u16 F_u16
  refine fm_ca F_u16 (ff_X3_nextUpTo nn hb_a0) (nw_sub rfl) ?_; intro u18 F_u18
  refine fm_ca F_u18 (ff_X3_next nn hb_a0) (nw_sub rfl) ?_; intro u20 F_u20
  refine fm_up F_u20 (nw_neI (off := 0) hb_a0 (by decide)) ?_; intro h21 F_h21
  exact fm_tl F_h21 (fw_X3_readConstants_28 nn _ hb_a0) (fun _ z => z)
set_option maxRecDepth 4000 in
theorem ff_X3_nextName (nn : Nat) {a0 : Nat} {h : ms_M} (hb_a0 : kc_O a0 = 3) : Fm_ (fun c => nw_F wl_X3_nextName true false c = true) h (qf_X3_nextName nn a0 h) (fun r => r.2) := by
  unfold qf_X3_nextName
  have F_h : ∀ c, (fun c => nw_F wl_X3_nextName true false c = true) c → h c = h c := fun _ _ => rfl
  refine fm_ca F_h (ff_X3_next nn hb_a0) (nw_sub rfl) ?_; intro u2 F_u2
  refine fm_pu ?_; intro u4
  refine fm_if ?_ ?_
  · exact fm_ret F_u2
  · refine fm_xl ?_; intro v6
    refine fm_ca F_u2 (ff_X3_bad nn hb_a0) (nw_sub rfl) ?_; intro u8 F_u8
    exact fm_ret F_u8
set_option maxRecDepth 4000 in
theorem fj_X3_readFields_58 (nn : Nat) {qkk_10 : Nat → Int → Int → ms_M → Option ms_M} (hk_kk_10 : ∀ {l0 : Nat} {l1 : Int} {l2 : Int} {h : ms_M} (hb_l0 : kc_O l0 = 3), Fm_ (fun c => nw_F wl_X3_readFields true false c = true) h (qkk_10 l0 l1 l2 h) (fun r => r)) {l0 : Nat} {l1 : Int} {l2 : Int} {l3 : Int} {h : ms_M} (hb_l0 : kc_O l0 = 3) : Fm_ (fun c => nw_F wl_X3_readFields true false c = true) h (qj_X3_readFields_58 nn qkk_10 l0 l1 l2 l3 h) (fun r => r) := by
  unfold qj_X3_readFields_58
  have F_h : ∀ c, (fun c => nw_F wl_X3_readFields true false c = true) c → h c = h c := fun _ _ => rfl
  refine fm_xl ?_; intro v2
  refine fm_xl ?_; intro v3
  refine fm_wA F_h (nw_neI hb_l0 (by decide)) ?_; intro h4 F_h4
  refine fm_xl ?_; intro v6
  refine fm_up F_h4 (nw_neI (off := 0) hb_l0 (by decide)) ?_; intro h7 F_h7
  refine fm_xl ?_; intro v8
  exact fm_tl F_h7 (hk_kk_10 hb_l0) (fun _ z => z)
set_option maxRecDepth 4000 in
theorem fw_X3_readFields_10 (nn : Nat) : ∀ (k : Nat) {l0 : Nat} {l1 : Int} {l2 : Int} {h : ms_M} (hb_l0 : kc_O l0 = 3), Fm_ (fun c => nw_F wl_X3_readFields true false c = true) h (qw_X3_readFields_10 nn k l0 l1 l2 h) (fun r => r) := by
  intro k
  induction k with
  | zero => intros; exact fm_no
  | succ k ih =>
    intro l0 l1 l2 h hb_l0
    unfold qw_X3_readFields_10
    have F_h : ∀ c, (fun c => nw_F wl_X3_readFields true false c = true) c → h c = h c := fun _ _ => rfl
    refine fm_if ?_ ?_
    · exact fm_ret F_h
    · refine fm_if ?_ ?_
      · exact fm_ret F_h
      · refine fm_xl ?_; intro v11
        refine fm_ca F_h (ff_X3_nextName nn hb_l0) (nw_sub rfl) ?_; intro u13 F_u13
        refine fm_wA F_u13 (nw_neI hb_l0 (by decide)) ?_; intro h14 F_h14
        refine fm_ca F_h14 (ff_X3_next nn hb_l0) (nw_sub rfl) ?_; intro u16 F_u16
        refine fm_pu ?_; intro u18
        refine fm_if ?_ ?_
        · exact fm_tl F_u16 (fj_X3_readFields_58 nn ih hb_l0) (fun _ z => z)
        · refine fm_xl ?_; intro v20
          refine fm_ca F_u16 (ff_X3_bad nn hb_l0) (nw_sub rfl) ?_; intro u22 F_u22
          exact fm_tl F_u22 (fj_X3_readFields_58 nn ih hb_l0) (fun _ z => z)
set_option maxRecDepth 4000 in
theorem ff_X3_readFields (nn : Nat) {a0 : Nat} {h : ms_M} (hb_a0 : kc_O a0 = 3) : Fm_ (fun c => nw_F wl_X3_readFields true false c = true) h (qf_X3_readFields nn a0 h) (fun r => r) := by
  unfold qf_X3_readFields
  have F_h : ∀ c, (fun c => nw_F wl_X3_readFields true false c = true) c → h c = h c := fun _ _ => rfl
  refine fm_ca F_h (ff_X3_nextUpTo nn hb_a0) (nw_sub rfl) ?_; intro u27 F_u27
  exact fm_tl F_u27 (fw_X3_readFields_10 nn _ hb_a0) (fun _ z => z)
set_option maxRecDepth 4000 in
theorem fj_X3_readCode_85 (nn : Nat) {l0 : Nat} {l4 : Int} {h : ms_M} (hb_l0 : kc_O l0 = 3) : Fm_ (fun c => nw_F wl_X3_readCode true false c = true) h (qj_X3_readCode_85 nn l0 l4 h) (fun r => r) := by
  unfold qj_X3_readCode_85
  have F_h : ∀ c, (fun c => nw_F wl_X3_readCode true false c = true) c → h c = h c := fun _ _ => rfl
  refine fm_xl ?_; intro v2
  refine fm_xl ?_; intro v4
  refine fm_up F_h (nw_neI (off := 0) hb_l0 (by decide)) ?_; intro h5 F_h5
  exact fm_ret F_h5
set_option maxRecDepth 4000 in
theorem fj_X3_readCode_40 (nn : Nat) {l0 : Nat} {l1 : Int} {l4 : Int} {h : ms_M} (hb_l0 : kc_O l0 = 3) : Fm_ (fun c => nw_F wl_X3_readCode true false c = true) h (qj_X3_readCode_40 nn l0 l1 l4 h) (fun r => r) := by
  unfold qj_X3_readCode_40
  have F_h : ∀ c, (fun c => nw_F wl_X3_readCode true false c = true) c → h c = h c := fun _ _ => rfl
  refine fm_xl ?_; intro v7
  refine fm_wA F_h (nw_neI hb_l0 (by decide)) ?_; intro h8 F_h8
  refine fm_xl ?_; intro v10
  refine fm_wA F_h8 (nw_neI hb_l0 (by decide)) ?_; intro h12 F_h12
  refine fm_xl ?_; intro v14
  refine fm_if ?_ ?_
  · exact fm_tl F_h12 (fj_X3_readCode_85 nn hb_l0) (fun _ z => z)
  · refine fm_ca F_h12 (ff_X3_bad nn hb_l0) (nw_sub rfl) ?_; intro u18 F_u18
    exact fm_tl F_u18 (fj_X3_readCode_85 nn hb_l0) (fun _ z => z)
set_option maxRecDepth 4000 in
theorem fj_X3_readCode_35 (nn : Nat) {l0 : Nat} {l1 : Int} {l2 : Int} {l4 : Int} {h : ms_M} (hb_l0 : kc_O l0 = 3) : Fm_ (fun c => nw_F wl_X3_readCode true false c = true) h (qj_X3_readCode_35 nn l0 l1 l2 l4 h) (fun r => r) := by
  unfold qj_X3_readCode_35
  have F_h : ∀ c, (fun c => nw_F wl_X3_readCode true false c = true) c → h c = h c := fun _ _ => rfl
  refine fm_ca F_h (ff_X3_bad nn hb_l0) (nw_sub rfl) ?_; intro u21 F_u21
  exact fm_tl F_u21 (fj_X3_readCode_40 nn hb_l0) (fun _ z => z)
set_option maxRecDepth 4000 in
theorem ff_X3_readCode (nn : Nat) {a0 : Nat} {a1 : Int} {h : ms_M} (hb_a0 : kc_O a0 = 3) : Fm_ (fun c => nw_F wl_X3_readCode true false c = true) h (qf_X3_readCode nn a0 a1 h) (fun r => r) := by
  unfold qf_X3_readCode
  have F_h : ∀ c, (fun c => nw_F wl_X3_readCode true false c = true) c → h c = h c := fun _ _ => rfl
  refine fm_ca F_h (ff_X3_next nn hb_a0) (nw_sub rfl) ?_; intro u24 F_u24
  refine fm_xl ?_; intro v25
  refine fm_ca F_u24 (ff_X3_next nn hb_a0) (nw_sub rfl) ?_; intro u27 F_u27
  refine fm_xl ?_; intro v28
  refine fm_if ?_ ?_
  · exact fm_tl F_u27 (fj_X3_readCode_35 nn hb_a0) (fun _ z => z)
  · refine fm_if ?_ ?_
    · exact fm_tl F_u27 (fj_X3_readCode_40 nn hb_a0) (fun _ z => z)
    · exact fm_tl F_u27 (fj_X3_readCode_35 nn hb_a0) (fun _ z => z)
set_option maxRecDepth 4000 in
theorem ff_X3_nextClass (nn : Nat) {a0 : Nat} {h : ms_M} (hb_a0 : kc_O a0 = 3) : Fm_ (fun c => nw_F wl_X3_nextClass true false c = true) h (qf_X3_nextClass nn a0 h) (fun r => r) := by
  unfold qf_X3_nextClass
  have F_h : ∀ c, (fun c => nw_F wl_X3_nextClass true false c = true) c → h c = h c := fun _ _ => rfl
  refine fm_ca F_h (ff_X3_next nn hb_a0) (nw_sub rfl) ?_; intro u2 F_u2
  refine fm_pu ?_; intro u4
  refine fm_if ?_ ?_
  · exact fm_ret F_u2
  · refine fm_xl ?_; intro v6
    refine fm_ca F_u2 (ff_X3_bad nn hb_a0) (nw_sub rfl) ?_; intro u8 F_u8
    exact fm_ret F_u8
set_option maxRecDepth 4000 in
theorem fw_X3_readFrameTypes_7 (nn : Nat) : ∀ (k : Nat) {l0 : Nat} {l1 : Int} {l2 : Int} {h : ms_M} (hb_l0 : kc_O l0 = 3), Fm_ (fun c => nw_F wl_X3_readFrameTypes true false c = true) h (qw_X3_readFrameTypes_7 nn k l0 l1 l2 h) (fun r => r) := by
  intro k
  induction k with
  | zero => intros; exact fm_no
  | succ k ih =>
    intro l0 l1 l2 h hb_l0
    unfold qw_X3_readFrameTypes_7
    have F_h : ∀ c, (fun c => nw_F wl_X3_readFrameTypes true false c = true) c → h c = h c := fun _ _ => rfl
    refine fm_if ?_ ?_
    · exact fm_ret F_h
    · refine fm_if ?_ ?_
      · exact fm_ret F_h
      · refine fm_ca F_h (ff_X3_nextUpTo nn hb_l0) (nw_sub rfl) ?_; intro u3 F_u3
        refine fm_if ?_ ?_
        · refine fm_xl ?_; intro v4
          exact fm_tl F_u3 (ih hb_l0) (fun _ z => z)
        · refine fm_ca F_u3 (ff_X3_nextClass nn hb_l0) (nw_sub rfl) ?_; intro u6 F_u6
          refine fm_xl ?_; intro v7
          exact fm_tl F_u6 (ih hb_l0) (fun _ z => z)
set_option maxRecDepth 4000 in
theorem ff_X3_readFrameTypes (nn : Nat) {a0 : Nat} {h : ms_M} (hb_a0 : kc_O a0 = 3) : Fm_ (fun c => nw_F wl_X3_readFrameTypes true false c = true) h (qf_X3_readFrameTypes nn a0 h) (fun r => r) := by
  unfold qf_X3_readFrameTypes
  have F_h : ∀ c, (fun c => nw_F wl_X3_readFrameTypes true false c = true) c → h c = h c := fun _ _ => rfl
  refine fm_ca F_h (ff_X3_next nn hb_a0) (nw_sub rfl) ?_; intro u12 F_u12
  exact fm_tl F_u12 (fw_X3_readFrameTypes_7 nn _ hb_a0) (fun _ z => z)
set_option maxRecDepth 4000 in
theorem fw_X3_skipPairs_2 (nn : Nat) : ∀ (k : Nat) {l0 : Nat} {l1 : Int} {l2 : Int} {h : ms_M} (hb_l0 : kc_O l0 = 3), Fm_ (fun c => nw_F wl_X3_skipPairs true false c = true) h (qw_X3_skipPairs_2 nn k l0 l1 l2 h) (fun r => r) := by
  intro k
  induction k with
  | zero => intros; exact fm_no
  | succ k ih =>
    intro l0 l1 l2 h hb_l0
    unfold qw_X3_skipPairs_2
    have F_h : ∀ c, (fun c => nw_F wl_X3_skipPairs true false c = true) c → h c = h c := fun _ _ => rfl
    refine fm_xl ?_; intro v1
    refine fm_if ?_ ?_
    · exact fm_ret F_h
    · refine fm_ca F_h (ff_X3_next nn hb_l0) (nw_sub rfl) ?_; intro u3 F_u3
      refine fm_xl ?_; intro v4
      exact fm_tl F_u3 (ih hb_l0) (fun _ z => z)
set_option maxRecDepth 4000 in
theorem ff_X3_skipPairs (nn : Nat) {a0 : Nat} {a1 : Int} {h : ms_M} (hb_a0 : kc_O a0 = 3) : Fm_ (fun c => nw_F wl_X3_skipPairs true false c = true) h (qf_X3_skipPairs nn a0 a1 h) (fun r => r) := by
  unfold qf_X3_skipPairs
  have F_h : ∀ c, (fun c => nw_F wl_X3_skipPairs true false c = true) c → h c = h c := fun _ _ => rfl
  exact fm_tl F_h (fw_X3_skipPairs_2 nn _ hb_a0) (fun _ z => z)
set_option maxRecDepth 4000 in
theorem fw_X3_readFrames_33 (nn : Nat) : ∀ (k : Nat) {l0 : Nat} {l2 : Int} {l3 : Int} {h : ms_M} (hb_l0 : kc_O l0 = 3), Fm_ (fun c => nw_F wl_X3_readFrames true false c = true) h (qw_X3_readFrames_33 nn k l0 l2 l3 h) (fun r => r) := by
  intro k
  induction k with
  | zero => intros; exact fm_no
  | succ k ih =>
    intro l0 l2 l3 h hb_l0
    unfold qw_X3_readFrames_33
    have F_h : ∀ c, (fun c => nw_F wl_X3_readFrames true false c = true) c → h c = h c := fun _ _ => rfl
    refine fm_if ?_ ?_
    · exact fm_ret F_h
    · refine fm_if ?_ ?_
      · exact fm_ret F_h
      · refine fm_ca F_h (ff_X3_skipPairs nn hb_l0) (nw_sub rfl) ?_; intro u3 F_u3
        refine fm_ca F_u3 (ff_X3_readFrameTypes nn hb_l0) (nw_sub rfl) ?_; intro u5 F_u5
        refine fm_ca F_u5 (ff_X3_readFrameTypes nn hb_l0) (nw_sub rfl) ?_; intro u7 F_u7
        refine fm_xl ?_; intro v8
        exact fm_tl F_u7 (ih hb_l0) (fun _ z => z)
set_option maxRecDepth 4000 in
theorem ff_X3_readFrames (nn : Nat) {a0 : Nat} {a1 : Int} {h : ms_M} (hb_a0 : kc_O a0 = 3) : Fm_ (fun c => nw_F wl_X3_readFrames true false c = true) h (qf_X3_readFrames nn a0 a1 h) (fun r => r) := by
  unfold qf_X3_readFrames
  have F_h : ∀ c, (fun c => nw_F wl_X3_readFrames true false c = true) c → h c = h c := fun _ _ => rfl
  refine fm_ca F_h (ff_X3_nextUpTo nn hb_a0) (nw_sub rfl) ?_; intro u12 F_u12
  refine fm_xl ?_; intro v14
  refine fm_wA F_u12 (nw_neI hb_a0 (by decide)) ?_; intro h15 F_h15
  refine fm_xl ?_; intro v17
  refine fm_wA F_h15 (nw_neI hb_a0 (by decide)) ?_; intro h19 F_h19
  exact fm_tl F_h19 (fw_X3_readFrames_33 nn _ hb_a0) (fun _ z => z)
set_option maxRecDepth 4000 in
theorem fw_X3_readHandlers_33 (nn : Nat) : ∀ (k : Nat) {l0 : Nat} {l2 : Int} {l3 : Int} {h : ms_M} (hb_l0 : kc_O l0 = 3), Fm_ (fun c => nw_F wl_X3_readHandlers true false c = true) h (qw_X3_readHandlers_33 nn k l0 l2 l3 h) (fun r => r) := by
  intro k
  induction k with
  | zero => intros; exact fm_no
  | succ k ih =>
    intro l0 l2 l3 h hb_l0
    unfold qw_X3_readHandlers_33
    have F_h : ∀ c, (fun c => nw_F wl_X3_readHandlers true false c = true) c → h c = h c := fun _ _ => rfl
    refine fm_if ?_ ?_
    · exact fm_ret F_h
    · refine fm_if ?_ ?_
      · exact fm_ret F_h
      · refine fm_ca F_h (ff_X3_skipPairs nn hb_l0) (nw_sub rfl) ?_; intro u3 F_u3
        refine fm_ca F_u3 (ff_X3_nextClass nn hb_l0) (nw_sub rfl) ?_; intro u5 F_u5
        refine fm_xl ?_; intro v6
        exact fm_tl F_u5 (ih hb_l0) (fun _ z => z)
set_option maxRecDepth 4000 in
theorem ff_X3_readHandlers (nn : Nat) {a0 : Nat} {a1 : Int} {h : ms_M} (hb_a0 : kc_O a0 = 3) : Fm_ (fun c => nw_F wl_X3_readHandlers true false c = true) h (qf_X3_readHandlers nn a0 a1 h) (fun r => r) := by
  unfold qf_X3_readHandlers
  have F_h : ∀ c, (fun c => nw_F wl_X3_readHandlers true false c = true) c → h c = h c := fun _ _ => rfl
  refine fm_ca F_h (ff_X3_nextUpTo nn hb_a0) (nw_sub rfl) ?_; intro u10 F_u10
  refine fm_xl ?_; intro v12
  refine fm_wA F_u10 (nw_neI hb_a0 (by decide)) ?_; intro h13 F_h13
  refine fm_xl ?_; intro v15
  refine fm_wA F_h13 (nw_neI hb_a0 (by decide)) ?_; intro h17 F_h17
  exact fm_tl F_h17 (fw_X3_readHandlers_33 nn _ hb_a0) (fun _ z => z)
set_option maxRecDepth 4000 in
theorem fj_X3_readMethod_52 (nn : Nat) {l0 : Nat} {l1 : Int} {l2 : Int} {l3 : Int} {h : ms_M} (hb_l0 : kc_O l0 = 3) : Fm_ (fun c => nw_F wl_X3_readMethod true false c = true) h (qj_X3_readMethod_52 nn l0 l1 l2 l3 h) (fun r => r) := by
  unfold qj_X3_readMethod_52
  have F_h : ∀ c, (fun c => nw_F wl_X3_readMethod true false c = true) c → h c = h c := fun _ _ => rfl
  refine fm_xl ?_; intro v2
  refine fm_wA F_h (nw_neI hb_l0 (by decide)) ?_; intro h3 F_h3
  refine fm_xl ?_; intro v5
  refine fm_wA F_h3 (nw_neI hb_l0 (by decide)) ?_; intro h6 F_h6
  refine fm_xl ?_; intro v8
  refine fm_ca F_h6 (ff_X3_nextUpTo nn hb_l0) (nw_sub rfl) ?_; intro u10 F_u10
  refine fm_wA F_u10 (nw_neI hb_l0 (by decide)) ?_; intro h11 F_h11
  refine fm_xl ?_; intro v13
  refine fm_xl ?_; intro v14
  refine fm_xl ?_; intro v16
  refine fm_rd ?_; intro v17
  refine fm_xl ?_; intro v18
  refine fm_ca F_h11 (ff_X3_nextUpTo nn hb_l0) (nw_sub rfl) ?_; intro u20 F_u20
  refine fm_wA F_u20 (nw_neI hb_l0 (by decide)) ?_; intro h21 F_h21
  refine fm_ca F_h21 (ff_X3_readCode nn hb_l0) (nw_sub rfl) ?_; intro u23 F_u23
  refine fm_ca F_u23 (ff_X3_readHandlers nn hb_l0) (nw_sub rfl) ?_; intro u25 F_u25
  refine fm_ca F_u25 (ff_X3_readFrames nn hb_l0) (nw_sub rfl) ?_; intro u27 F_u27
  exact fm_ret F_u27
set_option maxRecDepth 4000 in
theorem ff_X3_readMethod (nn : Nat) {a0 : Nat} {a1 : Int} {h : ms_M} (hb_a0 : kc_O a0 = 3) : Fm_ (fun c => nw_F wl_X3_readMethod true false c = true) h (qf_X3_readMethod nn a0 a1 h) (fun r => r) := by
  unfold qf_X3_readMethod
  have F_h : ∀ c, (fun c => nw_F wl_X3_readMethod true false c = true) c → h c = h c := fun _ _ => rfl
  refine fm_xl ?_; intro v29
  refine fm_ca F_h (ff_X3_nextUpTo nn hb_a0) (nw_sub rfl) ?_; intro u31 F_u31
  refine fm_wA F_u31 (nw_neI hb_a0 (by decide)) ?_; intro h32 F_h32
  refine fm_xl ?_; intro v34
  refine fm_ca F_h32 (ff_X3_nextName nn hb_a0) (nw_sub rfl) ?_; intro u36 F_u36
  refine fm_wA F_u36 (nw_neI hb_a0 (by decide)) ?_; intro h37 F_h37
  refine fm_ca F_h37 (ff_X3_next nn hb_a0) (nw_sub rfl) ?_; intro u39 F_u39
  refine fm_pu ?_; intro u41
  refine fm_if ?_ ?_
  · exact fm_tl F_u39 (fj_X3_readMethod_52 nn hb_a0) (fun _ z => z)
  · refine fm_xl ?_; intro v43
    refine fm_ca F_u39 (ff_X3_bad nn hb_a0) (nw_sub rfl) ?_; intro u45 F_u45
    exact fm_tl F_u45 (fj_X3_readMethod_52 nn hb_a0) (fun _ z => z)
set_option maxRecDepth 4000 in
theorem fj_X3_read_109 (nn : Nat) {l0 : Nat} {h : ms_M} (hb_l0 : kc_O l0 = 3) : Fm_ (fun c => nw_F wl_X3_read true false c = true) h (qj_X3_read_109 nn l0 h) (fun r => r.2) := by
  unfold qj_X3_read_109
  have F_h : ∀ c, (fun c => nw_F wl_X3_read true false c = true) c → h c = h c := fun _ _ => rfl
  refine fm_if ?_ ?_
  · exact fm_ret F_h
  · refine fm_ca F_h (ff_X3_bad nn hb_l0) (nw_sub rfl) ?_; intro u6 F_u6
    exact fm_ret F_u6
set_option maxRecDepth 4000 in
theorem fw_X3_read_70 (nn : Nat) : ∀ (k : Nat) {l0 : Nat} {l3 : Int} {l4 : Int} {h : ms_M} (hb_l0 : kc_O l0 = 3), Fm_ (fun c => nw_F wl_X3_read true false c = true) h (qw_X3_read_70 nn k l0 l3 l4 h) (fun r => r.2) := by
  intro k
  induction k with
  | zero => intros; exact fm_no
  | succ k ih =>
    intro l0 l3 l4 h hb_l0
    unfold qw_X3_read_70
    have F_h : ∀ c, (fun c => nw_F wl_X3_read true false c = true) c → h c = h c := fun _ _ => rfl
    refine fm_if ?_ ?_
    · exact fm_tl F_h (fj_X3_read_109 nn hb_l0) (fun _ z => z)
    · refine fm_if ?_ ?_
      · exact fm_tl F_h (fj_X3_read_109 nn hb_l0) (fun _ z => z)
      · refine fm_xl ?_; intro v10
        refine fm_ca F_h (ff_X3_readMethod nn hb_l0) (nw_sub rfl) ?_; intro u12 F_u12
        refine fm_xl ?_; intro v14
        refine fm_up F_u12 (nw_neI (off := 0) hb_l0 (by decide)) ?_; intro h15 F_h15
        refine fm_xl ?_; intro v16
        exact fm_tl F_h15 (ih hb_l0) (fun _ z => z)
set_option maxRecDepth 4000 in
theorem ff_X3_read (nn : Nat) {a0 : Nat} {a1 : Nat} {a2 : Int} {h : ms_M} (hb_a0 : kc_O a0 = 3) : Fm_ (fun c => nw_F wl_X3_read true false c = true) h (qf_X3_read nn a0 a1 a2 h) (fun r => r.2) := by
  unfold qf_X3_read
  have F_h : ∀ c, (fun c => nw_F wl_X3_read true false c = true) c → h c = h c := fun _ _ => rfl
  refine fm_wR F_h (nw_neI (off := 0) hb_a0 (by decide)) ?_; intro h19 F_h19
  refine fm_lnS ?_; intro v20
  refine fm_xl ?_; intro v21
  refine fm_up F_h19 (nw_neI (off := 0) hb_a0 (by decide)) ?_; intro h22 F_h22
  refine fm_up F_h22 (nw_neI (off := 0) hb_a0 (by decide)) ?_; intro h23 F_h23
  refine fm_up F_h23 (nw_neI (off := 0) hb_a0 (by decide)) ?_; intro h24 F_h24
  refine fm_up F_h24 (nw_neI (off := 0) hb_a0 (by decide)) ?_; intro h25 F_h25
  refine fm_up F_h25 (nw_neI (off := 0) hb_a0 (by decide)) ?_; intro h26 F_h26
  refine fm_ca F_h26 (ff_X3_readConstants nn hb_a0) (nw_sub rfl) ?_; intro u28 F_u28
  refine fm_ca F_u28 (ff_X3_nextPlainClass nn hb_a0) (nw_sub rfl) ?_; intro u30 F_u30
  refine fm_up F_u30 (nw_neI (off := 0) hb_a0 (by decide)) ?_; intro h31 F_h31
  refine fm_ca F_h31 (ff_X3_nextPlainClass nn hb_a0) (nw_sub rfl) ?_; intro u33 F_u33
  refine fm_up F_u33 (nw_neI (off := 0) hb_a0 (by decide)) ?_; intro h34 F_h34
  refine fm_ca F_h34 (ff_X3_readFields nn hb_a0) (nw_sub rfl) ?_; intro u36 F_u36
  refine fm_ca F_u36 (ff_X3_nextUpTo nn hb_a0) (nw_sub rfl) ?_; intro u38 F_u38
  exact fm_tl F_u38 (fw_X3_read_70 nn _ hb_a0) (fun _ z => z)
set_option maxRecDepth 4000 in
theorem fw_X7_relate_14 (nn : Nat) : ∀ (k : Nat) {l1 : Int} {h : ms_M}, Fm_ (fun c => nw_F wl_X7_relate false false c = true) h (qw_X7_relate_14 nn k l1 h) (fun r => r) := by
  intro k
  induction k with
  | zero => intros; exact fm_no
  | succ k ih =>
    intro l1 h
    unfold qw_X7_relate_14
    have F_h : ∀ c, (fun c => nw_F wl_X7_relate false false c = true) c → h c = h c := fun _ _ => rfl
    refine fm_if ?_ ?_
    · refine fm_ca F_h (ff_X4_settle nn rfl) (nw_sub rfl) ?_; intro u4 F_u4
      exact fm_ret F_u4
    · refine fm_rd ?_; intro v6
      refine fm_ck ?_; intro _
      refine fm_ck ?_; intro hb1
      refine fm_xl ?_; intro v10
      refine fm_rd ?_; intro v12
      refine fm_rd ?_; intro v14
      refine fm_ck ?_; intro _
      refine fm_ck ?_; intro hb2
      refine fm_pu ?_; intro u17
      refine fm_rd ?_; intro v19
      refine fm_ck ?_; intro _
      refine fm_ck ?_; intro hb3
      refine fm_pu ?_; intro u22
      refine fm_ck ?_; intro _
      refine fm_pu ?_; intro u25
      refine fm_ca F_h (ff_X4_setAbove nn rfl) (nw_sub rfl) ?_; intro u27 F_u27
      refine fm_xl ?_; intro v28
      exact fm_tl F_u27 (ih ) (fun _ z => z)
set_option maxRecDepth 4000 in
theorem ff_X7_relate (nn : Nat) {h : ms_M} : Fm_ (fun c => nw_F wl_X7_relate false false c = true) h (qf_X7_relate nn h) (fun r => r) := by
  unfold qf_X7_relate
  have F_h : ∀ c, (fun c => nw_F wl_X7_relate false false c = true) c → h c = h c := fun _ _ => rfl
  refine fm_up F_h (nw_ne rfl) ?_; intro h30 F_h30
  refine fm_ca F_h30 (ff_X4_forget nn rfl) (nw_sub rfl) ?_; intro u33 F_u33
  exact fm_tl F_u33 (fw_X7_relate_14 nn _) (fun _ z => z)
set_option maxRecDepth 4000 in
theorem ff_X7_swapSpare (nn : Nat) {a1 : Int} {h : ms_M} : Fm_ (fun c => nw_F wl_X7_swapSpare false false c = true) h (qf_X7_swapSpare nn a1 h) (fun r => r) := by
  unfold qf_X7_swapSpare
  have F_h : ∀ c, (fun c => nw_F wl_X7_swapSpare false false c = true) c → h c = h c := fun _ _ => rfl
  refine fm_rd ?_; intro v2
  refine fm_ck ?_; intro _
  refine fm_wQI F_h (nw_ne rfl) ?_; intro h5 F_h5
  refine fm_wR F_h5 (nw_ne rfl) ?_; intro h6 F_h6
  exact fm_ret F_h6
set_option maxRecDepth 4000 in
theorem ff_X7_bring (nn : Nat) {a1 : Nat} {a2 : Int} {h : ms_M} : Fm_ (fun c => nw_F wl_X7_bring true true c = true) h (qf_X7_bring nn a1 a2 h) (fun r => r.2.1) := by
  unfold qf_X7_bring
  have F_h : ∀ c, (fun c => nw_F wl_X7_bring true true c = true) c → h c = h c := fun _ _ => rfl
  refine fm_ck ?_; intro _
  refine fm_ck ?_; intro hb1
  refine fm_ca F_h (ff_X3_read nn hb1) (nw_sub rfl) ?_; intro u3 F_u3
  refine fm_if ?_ ?_
  · refine fm_ck ?_; intro _
    refine fm_ck ?_; intro hb2
    refine fm_if ?_ ?_
    · exact fm_ret F_u3
    · refine fm_ck ?_; intro _
      refine fm_ck ?_; intro _
      refine fm_pu ?_; intro u10
      refine fm_ck ?_; intro _
      refine fm_pu ?_; intro u13
      refine fm_pu ?_; intro u15
      refine fm_if ?_ ?_
      · refine fm_ck ?_; intro _
        refine fm_ca F_u3 (ff_X3_keepOwn nn hb2) (nw_sub rfl) ?_; intro u18 F_u18
        refine fm_ca F_u18 (ff_X7_swapSpare nn) (nw_sub rfl) ?_; intro u21 F_u21
        refine fm_xl ?_; intro v23
        refine fm_up F_u21 (nw_ne rfl) ?_; intro h24 F_h24
        refine fm_ca F_h24 (ff_X7_relate nn) (nw_sub rfl) ?_; intro u26 F_u26
        refine fm_xl ?_; intro v28
        refine fm_xl ?_; intro v29
        exact fm_ret F_u26
      · exact fm_ret F_u3
  · refine fm_xl ?_; intro v32
    exact fm_ret F_u3
set_option maxRecDepth 4000 in
theorem fj_X12_keep_24 (nn : Nat) {s0 : Int} {h : ms_M} {c : Nat} {s : Nat} : Fm_ (fun c => nw_F wl_X12_keep true true c = true) h (qj_X12_keep_24 nn s0 h c s) (fun r => r.2.1) := by
  unfold qj_X12_keep_24
  have F_h : ∀ c, (fun c => nw_F wl_X12_keep true true c = true) c → h c = h c := fun _ _ => rfl
  refine fm_if ?_ ?_
  · exact fm_ret F_h
  · refine fm_ca F_h (ff_X5_forget nn) (nw_sub rfl) ?_; intro u3 F_u3
    exact fm_ret F_u3
set_option maxRecDepth 4000 in
theorem ff_X12_keep (nn : Nat) {a1 : Int} {h : ms_M} : Fm_ (fun c => nw_F wl_X12_keep true true c = true) h (qf_X12_keep nn a1 h) (fun r => r.2.1) := by
  unfold qf_X12_keep
  have F_h : ∀ c, (fun c => nw_F wl_X12_keep true true c = true) c → h c = h c := fun _ _ => rfl
  refine fm_pu ?_; intro u6
  refine fm_if ?_ ?_
  · exact fm_tl F_h (fj_X12_keep_24 nn) (fun _ z => z)
  · refine fm_lnS ?_; intro v10
    refine fm_ca F_h (ff_X7_bring nn) (nw_sub rfl) ?_; intro u12 F_u12
    exact fm_tl F_u12 (fj_X12_keep_24 nn) (fun _ z => z)
set_option maxRecDepth 4000 in
theorem ff_X12_load (nn : Nat) {h : ms_M} : Fm_ (fun c => nw_F wl_X12_load true true c = true) h (qf_X12_load nn h) (fun r => r.2.1) := by
  unfold qf_X12_load
  have F_h : ∀ c, (fun c => nw_F wl_X12_load true true c = true) c → h c = h c := fun _ _ => rfl
  refine fm_ca F_h (ff_X7_bring nn) (nw_sub rfl) ?_; intro u5 F_u5
  refine fm_up F_u5 (nw_ne rfl) ?_; intro h6 F_h6
  refine fm_if ?_ ?_
  · exact fm_ret F_h6
  · refine fm_ca F_h6 (ff_X5_forget nn) (nw_sub rfl) ?_; intro u9 F_u9
    exact fm_ret F_u9
set_option maxRecDepth 4000 in
theorem fj_X7_change_72 (nn : Nat) {l2 : Int} {l5 : Int} {l6 : Int} {h : ms_M} : Fm_ (fun c => nw_F wl_X7_change true true c = true) h (qj_X7_change_72 nn l2 l5 l6 h) (fun r => r.2) := by
  unfold qj_X7_change_72
  have F_h : ∀ c, (fun c => nw_F wl_X7_change true true c = true) c → h c = h c := fun _ _ => rfl
  refine fm_ck ?_; intro _
  refine fm_wT F_h (fun z => nw_neB z) ?_; intro h2 F_h2
  exact fm_ret F_h2
set_option maxRecDepth 4000 in
theorem ff_X7_change (nn : Nat) {a1 : Int} {a2 : Int} {a3 : Int} {h : ms_M} : Fm_ (fun c => nw_F wl_X7_change true true c = true) h (qf_X7_change nn a1 a2 a3 h) (fun r => r.2) := by
  unfold qf_X7_change
  have F_h : ∀ c, (fun c => nw_F wl_X7_change true true c = true) c → h c = h c := fun _ _ => rfl
  refine fm_pu ?_; intro u4
  refine fm_if ?_ ?_
  · exact fm_ret F_h
  · refine fm_if ?_ ?_
    · exact fm_ret F_h
    · refine fm_ck ?_; intro hb1
      refine fm_if ?_ ?_
      · refine fm_pu ?_; intro u9
        refine fm_ck ?_; intro _
        refine fm_rdT ?_; intro v11
        refine fm_xl ?_; intro v12
        refine fm_wT F_h (fun z => nw_neB z) ?_; intro h13 F_h13
        refine fm_ck ?_; intro _
        refine fm_ck ?_; intro hb2
        refine fm_ca F_h13 (ff_X3_read nn hb2) (nw_sub rfl) ?_; intro u17 F_u17
        refine fm_if ?_ ?_
        · exact fm_tl F_u17 (fj_X7_change_72 nn) (fun _ z => z)
        · refine fm_pu ?_; intro u19
          refine fm_if ?_ ?_
          · refine fm_xl ?_; intro v20
            refine fm_ca F_u17 (ff_X7_swapSpare nn) (nw_sub rfl) ?_; intro u22 F_u22
            refine fm_ca F_u22 (ff_X7_relate nn) (nw_sub rfl) ?_; intro u24 F_u24
            exact fm_ret F_u24
          · exact fm_tl F_u17 (fj_X7_change_72 nn) (fun _ z => z)
      · exact fm_ret F_h
set_option maxRecDepth 4000 in
theorem ff_X12_patch (nn : Nat) {a1 : Int} {a2 : Int} {a3 : Int} {h : ms_M} : Fm_ (fun c => nw_F wl_X12_patch true true c = true) h (qf_X12_patch nn a1 a2 a3 h) (fun r => r.2) := by
  unfold qf_X12_patch
  have F_h : ∀ c, (fun c => nw_F wl_X12_patch true true c = true) c → h c = h c := fun _ _ => rfl
  refine fm_ca F_h (ff_X7_change nn) (nw_sub rfl) ?_; intro u3 F_u3
  refine fm_if ?_ ?_
  · refine fm_ck ?_; intro _
    exact fm_ret F_u3
  · refine fm_ca F_u3 (ff_X5_forget nn) (nw_sub rfl) ?_; intro u7 F_u7
    refine fm_ck ?_; intro _
    exact fm_ret F_u7
set_option maxRecDepth 4000 in
theorem fw_J7_fill_fda19_10 (nn : Nat) : ∀ (k : Nat) {l0 : Nat} {l2 : Int} {l3 : Int} {l4 : Int} {h : ms_M}, Fm_ (fun c => c ≠ l0) h (qw_J7_fill_fda19_10 nn k l0 l2 l3 l4 h) (fun r => r) := by
  intro k
  induction k with
  | zero => intros; exact fm_no
  | succ k ih =>
    intro l0 l2 l3 l4 h
    unfold qw_J7_fill_fda19_10
    have F_h : ∀ c, (fun c => c ≠ l0) c → h c = h c := fun _ _ => rfl
    have hn : ∀ d, (fun c => c ≠ l0) d → d ≠ l0 := fun _ z => z
    refine fm_if ?_ ?_
    · exact fm_ret F_h
    · refine fm_wS F_h hn ?_; intro h1 F_h1
      refine fm_xl ?_; intro v2
      exact fm_tl F_h1 (ih ) (fun _ z => z)
set_option maxRecDepth 4000 in
theorem ff_J7_fill_fda19 (nn : Nat) {a0 : Nat} {a1 : Int} {a2 : Int} {a3 : Int} {h : ms_M} : Fm_ (fun c => c ≠ a0) h (qf_J7_fill_fda19 nn a0 a1 a2 a3 h) (fun r => r) := by
  unfold qf_J7_fill_fda19
  have F_h : ∀ c, (fun c => c ≠ a0) c → h c = h c := fun _ _ => rfl
  have hn : ∀ d, (fun c => c ≠ a0) d → d ≠ a0 := fun _ z => z
  refine fm_lnS ?_; intro v4
  refine fm_pu ?_; intro u5
  exact fm_tl F_h (fw_J7_fill_fda19_10 nn _) (fun _ z => z)
set_option maxRecDepth 4000 in
theorem fj_X5_make_26 (nn : Nat) {h : ms_M} : Fm_ (fun c => nw_F wl_X5_make false false c = true) h (qj_X5_make_26 nn h) (fun r => r.2) := by
  unfold qj_X5_make_26
  have F_h : ∀ c, (fun c => nw_F wl_X5_make false false c = true) c → h c = h c := fun _ _ => rfl
  refine fm_up F_h (nw_ne rfl) ?_; intro h1 F_h1
  exact fm_ret F_h1
set_option maxRecDepth 4000 in
theorem ff_X5_make (nn : Nat) {a1 : Int} {a2 : Int} {h : ms_M} : Fm_ (fun c => nw_F wl_X5_make false false c = true) h (qf_X5_make nn a1 a2 h) (fun r => r.2) := by
  unfold qf_X5_make
  have F_h : ∀ c, (fun c => nw_F wl_X5_make false false c = true) c → h c = h c := fun _ _ => rfl
  refine fm_if ?_ ?_
  · exact fm_tl F_h (fj_X5_make_26 nn) (fun _ z => z)
  · refine fm_if ?_ ?_
    · exact fm_tl F_h (fj_X5_make_26 nn) (fun _ z => z)
    · refine fm_xl ?_; intro v4
      refine fm_if ?_ ?_
      · refine fm_xl ?_; intro v6
        refine fm_up F_h (nw_ne rfl) ?_; intro h7 F_h7
        refine fm_wA F_h7 (nw_ne rfl) ?_; intro h10 F_h10
        refine fm_wA F_h10 (nw_ne rfl) ?_; intro h14 F_h14
        refine fm_xl ?_; intro v18
        refine fm_ca F_h14 (ff_J7_fill_fda19 nn) (nw_ne rfl) ?_; intro u19 F_u19
        refine fm_xl ?_; intro v21
        refine fm_up F_u19 (nw_ne rfl) ?_; intro h22 F_h22
        refine fm_xl ?_; intro v25
        refine fm_wA F_h22 (nw_ne rfl) ?_; intro h27 F_h27
        exact fm_ret F_h27
      · exact fm_tl F_h (fj_X5_make_26 nn) (fun _ z => z)
set_option maxRecDepth 4000 in
theorem ff_X5_goOn (nn : Nat) {a1 : Int} {h : ms_M} : Fm_ (fun c => nw_F wl_X5_goOn false false c = true) h (qf_X5_goOn nn a1 h) (fun r => r) := by
  unfold qf_X5_goOn
  have F_h : ∀ c, (fun c => nw_F wl_X5_goOn false false c = true) c → h c = h c := fun _ _ => rfl
  refine fm_rd ?_; intro v3
  refine fm_xl ?_; intro v4
  refine fm_wA F_h (nw_ne rfl) ?_; intro h5 F_h5
  exact fm_ret F_h5
set_option maxRecDepth 4000 in
theorem ff_X5_push (nn : Nat) {a1 : Int} {h : ms_M} : Fm_ (fun c => nw_F wl_X5_push false false c = true) h (qf_X5_push nn a1 h) (fun r => r) := by
  unfold qf_X5_push
  have F_h : ∀ c, (fun c => nw_F wl_X5_push false false c = true) c → h c = h c := fun _ _ => rfl
  refine fm_rd ?_; intro v3
  refine fm_if ?_ ?_
  · refine fm_xl ?_; intro v6
    refine fm_xl ?_; intro v7
    refine fm_wA F_h (nw_ne rfl) ?_; intro h8 F_h8
    refine fm_xl ?_; intro v11
    refine fm_wA F_h8 (nw_ne rfl) ?_; intro h12 F_h12
    exact fm_ret F_h12
  · refine fm_up F_h (nw_ne rfl) ?_; intro h13 F_h13
    exact fm_ret F_h13
set_option maxRecDepth 4000 in
theorem ff_X5_give (nn : Nat) {a1 : Int} {a2 : Int} {h : ms_M} : Fm_ (fun c => nw_F wl_X5_give false false c = true) h (qf_X5_give nn a1 a2 h) (fun r => r) := by
  unfold qf_X5_give
  have F_h : ∀ c, (fun c => nw_F wl_X5_give false false c = true) c → h c = h c := fun _ _ => rfl
  refine fm_ca F_h (ff_X5_push nn) (nw_sub rfl) ?_; intro u2 F_u2
  refine fm_ca F_u2 (ff_X5_goOn nn) (nw_sub rfl) ?_; intro u4 F_u4
  exact fm_ret F_u4
set_option maxRecDepth 4000 in
theorem ff_X5_pop (nn : Nat) {h : ms_M} : Fm_ (fun c => nw_F wl_X5_pop false false c = true) h (qf_X5_pop nn h) (fun r => r.2) := by
  unfold qf_X5_pop
  have F_h : ∀ c, (fun c => nw_F wl_X5_pop false false c = true) c → h c = h c := fun _ _ => rfl
  refine fm_rd ?_; intro v3
  refine fm_xl ?_; intro v4
  refine fm_if ?_ ?_
  · refine fm_wA F_h (nw_ne rfl) ?_; intro h7 F_h7
    refine fm_xl ?_; intro v10
    refine fm_xl ?_; intro v11
    refine fm_rd ?_; intro v12
    exact fm_ret F_h7
  · refine fm_up F_h (nw_ne rfl) ?_; intro h13 F_h13
    exact fm_ret F_h13
set_option maxRecDepth 4000 in
theorem fj_X5_stepArithmetic_35 (nn : Nat) {l1 : Int} {l2 : Int} {l3 : Int} {h : ms_M} : Fm_ (fun c => nw_F wl_X5_stepArithmetic false false c = true) h (qj_X5_stepArithmetic_35 nn l1 l2 l3 h) (fun r => r) := by
  unfold qj_X5_stepArithmetic_35
  have F_h : ∀ c, (fun c => nw_F wl_X5_stepArithmetic false false c = true) c → h c = h c := fun _ _ => rfl
  refine fm_pu ?_; intro u1
  refine fm_ca F_h (ff_X5_give nn) (nw_sub rfl) ?_; intro u3 F_u3
  exact fm_ret F_u3
set_option maxRecDepth 4000 in
theorem fj_X5_stepArithmetic_26 (nn : Nat) {h : ms_M} : Fm_ (fun c => nw_F wl_X5_stepArithmetic false false c = true) h (qj_X5_stepArithmetic_26 nn h) (fun r => r) := by
  unfold qj_X5_stepArithmetic_26
  have F_h : ∀ c, (fun c => nw_F wl_X5_stepArithmetic false false c = true) c → h c = h c := fun _ _ => rfl
  refine fm_up F_h (nw_ne rfl) ?_; intro h4 F_h4
  exact fm_ret F_h4
set_option maxRecDepth 4000 in
theorem ff_X5_stepArithmetic (nn : Nat) {a1 : Int} {h : ms_M} : Fm_ (fun c => nw_F wl_X5_stepArithmetic false false c = true) h (qf_X5_stepArithmetic nn a1 h) (fun r => r) := by
  unfold qf_X5_stepArithmetic
  have F_h : ∀ c, (fun c => nw_F wl_X5_stepArithmetic false false c = true) c → h c = h c := fun _ _ => rfl
  refine fm_ca F_h (ff_X5_pop nn) (nw_sub rfl) ?_; intro u6 F_u6
  refine fm_ca F_u6 (ff_X5_pop nn) (nw_sub rfl) ?_; intro u8 F_u8
  refine fm_if ?_ ?_
  · exact fm_tl F_u8 (fj_X5_stepArithmetic_35 nn) (fun _ z => z)
  · refine fm_if ?_ ?_
    · exact fm_tl F_u8 (fj_X5_stepArithmetic_26 nn) (fun _ z => z)
    · refine fm_if ?_ ?_
      · exact fm_tl F_u8 (fj_X5_stepArithmetic_35 nn) (fun _ z => z)
      · exact fm_tl F_u8 (fj_X5_stepArithmetic_26 nn) (fun _ z => z)
set_option maxRecDepth 4000 in
theorem fj_X5_stepJump_76 (nn : Nat) {l2 : Int} {l3 : Int} {h : ms_M} : Fm_ (fun c => nw_F wl_X5_stepJump false false c = true) h (qj_X5_stepJump_76 nn l2 l3 h) (fun r => r) := by
  unfold qj_X5_stepJump_76
  have F_h : ∀ c, (fun c => nw_F wl_X5_stepJump false false c = true) c → h c = h c := fun _ _ => rfl
  refine fm_if ?_ ?_
  · refine fm_ca F_h (ff_X5_goOn nn) (nw_sub rfl) ?_; intro u2 F_u2
    exact fm_ret F_u2
  · refine fm_ck ?_; intro _
    refine fm_xl ?_; intro v5
    refine fm_xl ?_; intro v6
    refine fm_ck ?_; intro hb1
    refine fm_pu ?_; intro u8
    refine fm_xl ?_; intro v9
    refine fm_ca F_h (ff_X5_goOn nn) (nw_sub rfl) ?_; intro u11 F_u11
    exact fm_ret F_u11
set_option maxRecDepth 4000 in
theorem fj_X5_stepJump_44 (nn : Nat) {l2 : Int} {s0 : Int} {h : ms_M} : Fm_ (fun c => nw_F wl_X5_stepJump false false c = true) h (qj_X5_stepJump_44 nn l2 s0 h) (fun r => r) := by
  unfold qj_X5_stepJump_44
  have F_h : ∀ c, (fun c => nw_F wl_X5_stepJump false false c = true) c → h c = h c := fun _ _ => rfl
  exact fm_tl F_h (fj_X5_stepJump_76 nn) (fun _ z => z)
set_option maxRecDepth 4000 in
theorem fj_X5_stepJump_21 (nn : Nat) {l2 : Int} {s0 : Int} {h : ms_M} : Fm_ (fun c => nw_F wl_X5_stepJump false false c = true) h (qj_X5_stepJump_21 nn l2 s0 h) (fun r => r) := by
  unfold qj_X5_stepJump_21
  have F_h : ∀ c, (fun c => nw_F wl_X5_stepJump false false c = true) c → h c = h c := fun _ _ => rfl
  exact fm_tl F_h (fj_X5_stepJump_76 nn) (fun _ z => z)
set_option maxRecDepth 4000 in
theorem ff_X5_stepJump (nn : Nat) {a1 : Int} {a2 : Int} {h : ms_M} : Fm_ (fun c => nw_F wl_X5_stepJump false false c = true) h (qf_X5_stepJump nn a1 a2 h) (fun r => r) := by
  unfold qf_X5_stepJump
  have F_h : ∀ c, (fun c => nw_F wl_X5_stepJump false false c = true) c → h c = h c := fun _ _ => rfl
  refine fm_if ?_ ?_
  · refine fm_if ?_ ?_
    · refine fm_if ?_ ?_
      · exact fm_tl F_h (fj_X5_stepJump_76 nn) (fun _ z => z)
      · refine fm_ca F_h (ff_X5_pop nn) (nw_sub rfl) ?_; intro u14 F_u14
        refine fm_ca F_u14 (ff_X5_pop nn) (nw_sub rfl) ?_; intro u16 F_u16
        refine fm_pu ?_; intro u17
        exact fm_tl F_u16 (fj_X5_stepJump_76 nn) (fun _ z => z)
    · refine fm_ca F_h (ff_X5_pop nn) (nw_sub rfl) ?_; intro u20 F_u20
      refine fm_if ?_ ?_
      · exact fm_tl F_u20 (fj_X5_stepJump_44 nn) (fun _ z => z)
      · exact fm_tl F_u20 (fj_X5_stepJump_44 nn) (fun _ z => z)
  · refine fm_ca F_h (ff_X5_pop nn) (nw_sub rfl) ?_; intro u24 F_u24
    refine fm_if ?_ ?_
    · exact fm_tl F_u24 (fj_X5_stepJump_21 nn) (fun _ z => z)
    · exact fm_tl F_u24 (fj_X5_stepJump_21 nn) (fun _ z => z)
set_option maxRecDepth 4000 in
theorem fj_X5_stepLocal_37 (nn : Nat) {l3 : Int} {h : ms_M} : Fm_ (fun c => nw_F wl_X5_stepLocal false false c = true) h (qj_X5_stepLocal_37 nn l3 h) (fun r => r) := by
  unfold qj_X5_stepLocal_37
  have F_h : ∀ c, (fun c => nw_F wl_X5_stepLocal false false c = true) c → h c = h c := fun _ _ => rfl
  refine fm_rd ?_; intro v2
  refine fm_ca F_h (ff_X5_give nn) (nw_sub rfl) ?_; intro u4 F_u4
  exact fm_ret F_u4
set_option maxRecDepth 4000 in
theorem ff_X5_stepLocal (nn : Nat) {a1 : Int} {a2 : Int} {h : ms_M} : Fm_ (fun c => nw_F wl_X5_stepLocal false false c = true) h (qf_X5_stepLocal nn a1 a2 h) (fun r => r) := by
  unfold qf_X5_stepLocal
  have F_h : ∀ c, (fun c => nw_F wl_X5_stepLocal false false c = true) c → h c = h c := fun _ _ => rfl
  refine fm_xl ?_; intro v6
  refine fm_xl ?_; intro v7
  refine fm_if ?_ ?_
  · refine fm_if ?_ ?_
    · exact fm_tl F_h (fj_X5_stepLocal_37 nn) (fun _ z => z)
    · refine fm_if ?_ ?_
      · refine fm_ca F_h (ff_X5_pop nn) (nw_sub rfl) ?_; intro u10 F_u10
        refine fm_wA F_u10 (nw_ne rfl) ?_; intro h11 F_h11
        refine fm_ca F_h11 (ff_X5_goOn nn) (nw_sub rfl) ?_; intro u13 F_u13
        exact fm_ret F_u13
      · exact fm_tl F_h (fj_X5_stepLocal_37 nn) (fun _ z => z)
  · refine fm_up F_h (nw_ne rfl) ?_; intro h16 F_h16
    exact fm_ret F_h16
set_option maxRecDepth 4000 in
theorem ff_X5_giveNew (nn : Nat) {a1 : Int} {a2 : Int} {h : ms_M} : Fm_ (fun c => nw_F wl_X5_giveNew false false c = true) h (qf_X5_giveNew nn a1 a2 h) (fun r => r) := by
  unfold qf_X5_giveNew
  have F_h : ∀ c, (fun c => nw_F wl_X5_giveNew false false c = true) c → h c = h c := fun _ _ => rfl
  refine fm_ca F_h (ff_X5_make nn) (nw_sub rfl) ?_; intro u2 F_u2
  refine fm_if ?_ ?_
  · exact fm_ret F_u2
  · refine fm_ca F_u2 (ff_X5_give nn) (nw_sub rfl) ?_; intro u4 F_u4
    exact fm_ret F_u4
set_option maxRecDepth 4000 in
theorem ff_X5_takeTop (nn : Nat) {h : ms_M} : Fm_ (fun c => nw_F wl_X5_takeTop false false c = true) h (qf_X5_takeTop nn h) (fun r => r) := by
  unfold qf_X5_takeTop
  have F_h : ∀ c, (fun c => nw_F wl_X5_takeTop false false c = true) c → h c = h c := fun _ _ => rfl
  refine fm_xl ?_; intro v2
  refine fm_xl ?_; intro v3
  refine fm_up F_h (nw_ne rfl) ?_; intro h4 F_h4
  refine fm_rd ?_; intro v8
  refine fm_pu ?_; intro u10
  refine fm_if ?_ ?_
  · refine fm_up F_h4 (nw_ne rfl) ?_; intro h13 F_h13
    exact fm_ret F_h13
  · refine fm_wR F_h4 (nw_ne rfl) ?_; intro h14 F_h14
    refine fm_ck ?_; intro _
    refine fm_rd ?_; intro v18
    refine fm_xl ?_; intro v19
    refine fm_ck ?_; intro hb1
    refine fm_pu ?_; intro u21
    refine fm_up F_h14 (nw_ne rfl) ?_; intro h22 F_h22
    exact fm_ret F_h22
set_option maxRecDepth 4000 in
theorem ff_X5_beginMethod (nn : Nat) {a1 : Int} {a2 : Int} {a3 : Int} {h : ms_M} : Fm_ (fun c => nw_F wl_X5_beginMethod false false c = true) h (qf_X5_beginMethod nn a1 a2 a3 h) (fun r => r) := by
  unfold qf_X5_beginMethod
  have F_h : ∀ c, (fun c => nw_F wl_X5_beginMethod false false c = true) c → h c = h c := fun _ _ => rfl
  refine fm_if ?_ ?_
  · refine fm_xl ?_; intro v3
    refine fm_xl ?_; intro v5
    refine fm_ca F_h (ff_J7_fill_fda19 nn) (nw_ne rfl) ?_; intro u6 F_u6
    refine fm_cp F_u6 (fun _ => nw_ne rfl) ?_; intro h9 F_h9
    refine fm_wA F_h9 (nw_ne rfl) ?_; intro h12 F_h12
    refine fm_wA F_h12 (nw_ne rfl) ?_; intro h15 F_h15
    refine fm_wA F_h15 (nw_ne rfl) ?_; intro h18 F_h18
    refine fm_xl ?_; intro v20
    refine fm_up F_h18 (nw_ne rfl) ?_; intro h21 F_h21
    refine fm_ca F_h21 (ff_X5_takeTop nn) (nw_sub rfl) ?_; intro u23 F_u23
    exact fm_ret F_u23
  · refine fm_up F_h (nw_ne rfl) ?_; intro h24 F_h24
    exact fm_ret F_h24
set_option maxRecDepth 4000 in
theorem fj_X5_stepCall_136 (nn : Nat) {l3 : Int} {l5 : Int} {l6 : Int} {h : ms_M} : Fm_ (fun c => nw_F wl_X5_stepCall false false c = true) h (qj_X5_stepCall_136 nn l3 l5 l6 h) (fun r => r) := by
  unfold qj_X5_stepCall_136
  have F_h : ∀ c, (fun c => nw_F wl_X5_stepCall false false c = true) c → h c = h c := fun _ _ => rfl
  refine fm_wA F_h (nw_ne rfl) ?_; intro h3 F_h3
  refine fm_xl ?_; intro v5
  refine fm_xl ?_; intro v6
  refine fm_ca F_h3 (ff_X5_beginMethod nn) (nw_sub rfl) ?_; intro u8 F_u8
  exact fm_ret F_u8
set_option maxRecDepth 4000 in
theorem fj_X5_stepCall_51 (nn : Nat) {l1 : Int} {l3 : Int} {s0 : Int} {s1 : Int} {h : ms_M} : Fm_ (fun c => nw_F wl_X5_stepCall false false c = true) h (qj_X5_stepCall_51 nn l1 l3 s0 s1 h) (fun r => r) := by
  unfold qj_X5_stepCall_51
  have F_h : ∀ c, (fun c => nw_F wl_X5_stepCall false false c = true) c → h c = h c := fun _ _ => rfl
  refine fm_xl ?_; intro v9
  refine fm_rd ?_; intro v12
  refine fm_xl ?_; intro v13
  refine fm_if ?_ ?_
  · refine fm_if ?_ ?_
    · exact fm_tl F_h (fj_X5_stepCall_136 nn) (fun _ z => z)
    · refine fm_xl ?_; intro v16
      refine fm_xl ?_; intro v17
      refine fm_rd ?_; intro v18
      refine fm_pu ?_; intro u20
      refine fm_if ?_ ?_
      · refine fm_rd ?_; intro v23
        refine fm_pu ?_; intro u25
        exact fm_tl F_h (fj_X5_stepCall_136 nn) (fun _ z => z)
      · refine fm_up F_h (nw_ne rfl) ?_; intro h26 F_h26
        exact fm_ret F_h26
  · refine fm_up F_h (nw_ne rfl) ?_; intro h29 F_h29
    exact fm_ret F_h29
set_option maxRecDepth 4000 in
theorem ff_X5_stepCall (nn : Nat) {a1 : Int} {a2 : Int} {h : ms_M} : Fm_ (fun c => nw_F wl_X5_stepCall false false c = true) h (qf_X5_stepCall nn a1 a2 h) (fun r => r) := by
  unfold qf_X5_stepCall
  have F_h : ∀ c, (fun c => nw_F wl_X5_stepCall false false c = true) c → h c = h c := fun _ _ => rfl
  refine fm_pu ?_; intro u32
  refine fm_pu ?_; intro u35
  refine fm_if ?_ ?_
  · refine fm_up F_h (nw_ne rfl) ?_; intro h38 F_h38
    exact fm_ret F_h38
  · refine fm_xl ?_; intro v39
    refine fm_ck ?_; intro hb1
    refine fm_pu ?_; intro u41
    refine fm_if ?_ ?_
    · exact fm_tl F_h (fj_X5_stepCall_51 nn) (fun _ z => z)
    · exact fm_tl F_h (fj_X5_stepCall_51 nn) (fun _ z => z)
set_option maxRecDepth 4000 in
theorem fj_X5_cellOf_39 (nn : Nat) {h : ms_M} : Fm_ (fun c => nw_F wl_X5_cellOf false false c = true) h (qj_X5_cellOf_39 nn h) (fun r => r.2) := by
  unfold qj_X5_cellOf_39
  have F_h : ∀ c, (fun c => nw_F wl_X5_cellOf false false c = true) c → h c = h c := fun _ _ => rfl
  refine fm_up F_h (nw_ne rfl) ?_; intro h1 F_h1
  exact fm_ret F_h1
set_option maxRecDepth 4000 in
theorem ff_X5_cellOf (nn : Nat) {a1 : Int} {a2 : Int} {h : ms_M} : Fm_ (fun c => nw_F wl_X5_cellOf false false c = true) h (qf_X5_cellOf nn a1 a2 h) (fun r => r.2) := by
  unfold qf_X5_cellOf
  have F_h : ∀ c, (fun c => nw_F wl_X5_cellOf false false c = true) c → h c = h c := fun _ _ => rfl
  refine fm_pu ?_; intro u3
  refine fm_if ?_ ?_
  · refine fm_if ?_ ?_
    · exact fm_tl F_h (fj_X5_cellOf_39 nn) (fun _ z => z)
    · refine fm_xl ?_; intro v5
      refine fm_rd ?_; intro v6
      refine fm_rd ?_; intro v8
      refine fm_xl ?_; intro v9
      refine fm_if ?_ ?_
      · refine fm_rd ?_; intro v11
        refine fm_xl ?_; intro v12
        exact fm_ret F_h
      · exact fm_tl F_h (fj_X5_cellOf_39 nn) (fun _ z => z)
  · refine fm_up F_h (nw_ne rfl) ?_; intro h15 F_h15
    exact fm_ret F_h15
set_option maxRecDepth 4000 in
theorem ff_X5_stepElement (nn : Nat) {h : ms_M} : Fm_ (fun c => nw_F wl_X5_stepElement false false c = true) h (qf_X5_stepElement nn h) (fun r => r) := by
  unfold qf_X5_stepElement
  have F_h : ∀ c, (fun c => nw_F wl_X5_stepElement false false c = true) c → h c = h c := fun _ _ => rfl
  refine fm_ca F_h (ff_X5_pop nn) (nw_sub rfl) ?_; intro u2 F_u2
  refine fm_ca F_u2 (ff_X5_pop nn) (nw_sub rfl) ?_; intro u4 F_u4
  refine fm_ca F_u4 (ff_X5_cellOf nn) (nw_sub rfl) ?_; intro u6 F_u6
  refine fm_if ?_ ?_
  · exact fm_ret F_u6
  · refine fm_if ?_ ?_
    · exact fm_ret F_u6
    · refine fm_rd ?_; intro v8
      refine fm_ca F_u6 (ff_X5_give nn) (nw_sub rfl) ?_; intro u10 F_u10
      exact fm_ret F_u10
set_option maxRecDepth 4000 in
theorem ff_X5_stepField (nn : Nat) {a1 : Int} {h : ms_M} : Fm_ (fun c => nw_F wl_X5_stepField false false c = true) h (qf_X5_stepField nn a1 h) (fun r => r) := by
  unfold qf_X5_stepField
  have F_h : ∀ c, (fun c => nw_F wl_X5_stepField false false c = true) c → h c = h c := fun _ _ => rfl
  refine fm_ca F_h (ff_X5_pop nn) (nw_sub rfl) ?_; intro u2 F_u2
  refine fm_pu ?_; intro u4
  refine fm_pu ?_; intro u6
  refine fm_if ?_ ?_
  · refine fm_rd ?_; intro v8
    refine fm_ca F_u2 (ff_X5_give nn) (nw_sub rfl) ?_; intro u10 F_u10
    exact fm_ret F_u10
  · refine fm_up F_u2 (nw_ne rfl) ?_; intro h11 F_h11
    exact fm_ret F_h11
set_option maxRecDepth 4000 in
theorem fj_X5_stepGiveElement_89 (nn : Nat) {l2 : Int} {l5 : Int} {h : ms_M} : Fm_ (fun c => nw_F wl_X5_stepGiveElement false false c = true) h (qj_X5_stepGiveElement_89 nn l2 l5 h) (fun r => r) := by
  unfold qj_X5_stepGiveElement_89
  have F_h : ∀ c, (fun c => nw_F wl_X5_stepGiveElement false false c = true) c → h c = h c := fun _ _ => rfl
  refine fm_wA F_h (nw_ne rfl) ?_; intro h2 F_h2
  refine fm_ca F_h2 (ff_X5_goOn nn) (nw_sub rfl) ?_; intro u4 F_u4
  exact fm_ret F_u4
set_option maxRecDepth 4000 in
theorem ff_X5_stepGiveElement (nn : Nat) {a1 : Int} {h : ms_M} : Fm_ (fun c => nw_F wl_X5_stepGiveElement false false c = true) h (qf_X5_stepGiveElement nn a1 h) (fun r => r) := by
  unfold qf_X5_stepGiveElement
  have F_h : ∀ c, (fun c => nw_F wl_X5_stepGiveElement false false c = true) c → h c = h c := fun _ _ => rfl
  refine fm_ca F_h (ff_X5_pop nn) (nw_sub rfl) ?_; intro u6 F_u6
  refine fm_ca F_u6 (ff_X5_pop nn) (nw_sub rfl) ?_; intro u8 F_u8
  refine fm_ca F_u8 (ff_X5_pop nn) (nw_sub rfl) ?_; intro u10 F_u10
  refine fm_ca F_u10 (ff_X5_cellOf nn) (nw_sub rfl) ?_; intro u12 F_u12
  refine fm_if ?_ ?_
  · exact fm_ret F_u12
  · refine fm_if ?_ ?_
    · refine fm_if ?_ ?_
      · exact fm_tl F_u12 (fj_X5_stepGiveElement_89 nn) (fun _ z => z)
      · refine fm_pu ?_; intro u14
        refine fm_if ?_ ?_
        · exact fm_tl F_u12 (fj_X5_stepGiveElement_89 nn) (fun _ z => z)
        · refine fm_rd ?_; intro v18
          refine fm_rd ?_; intro v20
          refine fm_pu ?_; intro u21
          refine fm_pu ?_; intro u23
          refine fm_if ?_ ?_
          · exact fm_tl F_u12 (fj_X5_stepGiveElement_89 nn) (fun _ z => z)
          · refine fm_up F_u12 (nw_ne rfl) ?_; intro h24 F_h24
            exact fm_ret F_h24
    · exact fm_ret F_u12
set_option maxRecDepth 4000 in
theorem ff_X5_stepGiveField (nn : Nat) {a1 : Int} {h : ms_M} : Fm_ (fun c => nw_F wl_X5_stepGiveField false false c = true) h (qf_X5_stepGiveField nn a1 h) (fun r => r) := by
  unfold qf_X5_stepGiveField
  have F_h : ∀ c, (fun c => nw_F wl_X5_stepGiveField false false c = true) c → h c = h c := fun _ _ => rfl
  refine fm_ca F_h (ff_X5_pop nn) (nw_sub rfl) ?_; intro u2 F_u2
  refine fm_ca F_u2 (ff_X5_pop nn) (nw_sub rfl) ?_; intro u4 F_u4
  refine fm_pu ?_; intro u6
  refine fm_pu ?_; intro u8
  refine fm_if ?_ ?_
  · refine fm_wA F_u4 (nw_ne rfl) ?_; intro h10 F_h10
    refine fm_ca F_h10 (ff_X5_goOn nn) (nw_sub rfl) ?_; intro u12 F_u12
    exact fm_ret F_u12
  · refine fm_up F_u4 (nw_ne rfl) ?_; intro h13 F_h13
    exact fm_ret F_h13
set_option maxRecDepth 4000 in
theorem fj_X5_stepKin_74 (nn : Nat) {l3 : Int} {h : ms_M} : Fm_ (fun c => nw_F wl_X5_stepKin false false c = true) h (qj_X5_stepKin_74 nn l3 h) (fun r => r) := by
  unfold qj_X5_stepKin_74
  have F_h : ∀ c, (fun c => nw_F wl_X5_stepKin false false c = true) c → h c = h c := fun _ _ => rfl
  refine fm_ca F_h (ff_X5_give nn) (nw_sub rfl) ?_; intro u2 F_u2
  exact fm_ret F_u2
set_option maxRecDepth 4000 in
theorem fj_X5_stepKin_58 (nn : Nat) {s0 : Int} {h : ms_M} : Fm_ (fun c => nw_F wl_X5_stepKin false false c = true) h (qj_X5_stepKin_58 nn s0 h) (fun r => r) := by
  unfold qj_X5_stepKin_58
  have F_h : ∀ c, (fun c => nw_F wl_X5_stepKin false false c = true) c → h c = h c := fun _ _ => rfl
  refine fm_ca F_h (ff_X5_give nn) (nw_sub rfl) ?_; intro u4 F_u4
  exact fm_ret F_u4
set_option maxRecDepth 4000 in
theorem fj_X5_stepKin_38 (nn : Nat) {l1 : Int} {l3 : Int} {s0 : Int} {h : ms_M} : Fm_ (fun c => nw_F wl_X5_stepKin false false c = true) h (qj_X5_stepKin_38 nn l1 l3 s0 h) (fun r => r) := by
  unfold qj_X5_stepKin_38
  have F_h : ∀ c, (fun c => nw_F wl_X5_stepKin false false c = true) c → h c = h c := fun _ _ => rfl
  refine fm_if ?_ ?_
  · refine fm_if ?_ ?_
    · exact fm_tl F_h (fj_X5_stepKin_74 nn) (fun _ z => z)
    · refine fm_if ?_ ?_
      · refine fm_up F_h (nw_ne rfl) ?_; intro h5 F_h5
        exact fm_ret F_h5
      · exact fm_tl F_h (fj_X5_stepKin_74 nn) (fun _ z => z)
  · refine fm_if ?_ ?_
    · exact fm_tl F_h (fj_X5_stepKin_58 nn) (fun _ z => z)
    · exact fm_tl F_h (fj_X5_stepKin_58 nn) (fun _ z => z)
set_option maxRecDepth 4000 in
theorem fj_X5_stepKin_37 (nn : Nat) {l1 : Int} {l3 : Int} {h : ms_M} : Fm_ (fun c => nw_F wl_X5_stepKin false false c = true) h (qj_X5_stepKin_37 nn l1 l3 h) (fun r => r) := by
  unfold qj_X5_stepKin_37
  have F_h : ∀ c, (fun c => nw_F wl_X5_stepKin false false c = true) c → h c = h c := fun _ _ => rfl
  exact fm_tl F_h (fj_X5_stepKin_38 nn) (fun _ z => z)
set_option maxRecDepth 4000 in
theorem ff_X5_stepKin (nn : Nat) {a1 : Int} {a2 : Int} {h : ms_M} : Fm_ (fun c => nw_F wl_X5_stepKin false false c = true) h (qf_X5_stepKin nn a1 a2 h) (fun r => r) := by
  unfold qf_X5_stepKin
  have F_h : ∀ c, (fun c => nw_F wl_X5_stepKin false false c = true) c → h c = h c := fun _ _ => rfl
  refine fm_ca F_h (ff_X5_pop nn) (nw_sub rfl) ?_; intro u11 F_u11
  refine fm_pu ?_; intro u13
  refine fm_if ?_ ?_
  · exact fm_tl F_u11 (fj_X5_stepKin_37 nn) (fun _ z => z)
  · refine fm_rd ?_; intro v17
    refine fm_pu ?_; intro u19
    refine fm_if ?_ ?_
    · exact fm_tl F_u11 (fj_X5_stepKin_37 nn) (fun _ z => z)
    · exact fm_tl F_u11 (fj_X5_stepKin_38 nn) (fun _ z => z)
set_option maxRecDepth 4000 in
theorem ff_X5_stepLength (nn : Nat) {h : ms_M} : Fm_ (fun c => nw_F wl_X5_stepLength false false c = true) h (qf_X5_stepLength nn h) (fun r => r) := by
  unfold qf_X5_stepLength
  have F_h : ∀ c, (fun c => nw_F wl_X5_stepLength false false c = true) c → h c = h c := fun _ _ => rfl
  refine fm_ca F_h (ff_X5_pop nn) (nw_sub rfl) ?_; intro u2 F_u2
  refine fm_pu ?_; intro u4
  refine fm_if ?_ ?_
  · refine fm_up F_u2 (nw_ne rfl) ?_; intro h5 F_h5
    exact fm_ret F_h5
  · refine fm_xl ?_; intro v7
    refine fm_rd ?_; intro v8
    refine fm_rd ?_; intro v10
    refine fm_xl ?_; intro v11
    refine fm_ca F_u2 (ff_X5_give nn) (nw_sub rfl) ?_; intro u13 F_u13
    exact fm_ret F_u13
set_option maxRecDepth 4000 in
theorem ff_X5_stepNewArray (nn : Nat) {a1 : Int} {h : ms_M} : Fm_ (fun c => nw_F wl_X5_stepNewArray false false c = true) h (qf_X5_stepNewArray nn a1 h) (fun r => r) := by
  unfold qf_X5_stepNewArray
  have F_h : ∀ c, (fun c => nw_F wl_X5_stepNewArray false false c = true) c → h c = h c := fun _ _ => rfl
  refine fm_ca F_h (ff_X5_pop nn) (nw_sub rfl) ?_; intro u2 F_u2
  refine fm_if ?_ ?_
  · refine fm_ca F_u2 (ff_X5_giveNew nn) (nw_sub rfl) ?_; intro u4 F_u4
    exact fm_ret F_u4
  · refine fm_up F_u2 (nw_ne rfl) ?_; intro h5 F_h5
    exact fm_ret F_h5
set_option maxRecDepth 4000 in
theorem fj_X5_stepPrint_25 (nn : Nat) {h : ms_M} : Fm_ (fun c => nw_F wl_X5_stepPrint false false c = true) h (qj_X5_stepPrint_25 nn h) (fun r => r) := by
  unfold qj_X5_stepPrint_25
  have F_h : ∀ c, (fun c => nw_F wl_X5_stepPrint false false c = true) c → h c = h c := fun _ _ => rfl
  refine fm_xl ?_; intro v2
  refine fm_up F_h (nw_ne rfl) ?_; intro h3 F_h3
  refine fm_ca F_h3 (ff_X5_goOn nn) (nw_sub rfl) ?_; intro u5 F_u5
  exact fm_ret F_u5
set_option maxRecDepth 4000 in
theorem ff_X5_stepPrint (nn : Nat) {h : ms_M} : Fm_ (fun c => nw_F wl_X5_stepPrint false false c = true) h (qf_X5_stepPrint nn h) (fun r => r) := by
  unfold qf_X5_stepPrint
  have F_h : ∀ c, (fun c => nw_F wl_X5_stepPrint false false c = true) c → h c = h c := fun _ _ => rfl
  refine fm_ca F_h (ff_X5_pop nn) (nw_sub rfl) ?_; intro u7 F_u7
  refine fm_if ?_ ?_
  · exact fm_tl F_u7 (fj_X5_stepPrint_25 nn) (fun _ z => z)
  · refine fm_wA F_u7 (nw_ne rfl) ?_; intro h11 F_h11
    exact fm_tl F_h11 (fj_X5_stepPrint_25 nn) (fun _ z => z)
set_option maxRecDepth 4000 in
theorem fj_X5_stepReturn_15 (nn : Nat) {l1 : Int} {s0 : Int} {h : ms_M} : Fm_ (fun c => nw_F wl_X5_stepReturn false false c = true) h (qj_X5_stepReturn_15 nn l1 s0 h) (fun r => r) := by
  unfold qj_X5_stepReturn_15
  have F_h : ∀ c, (fun c => nw_F wl_X5_stepReturn false false c = true) c → h c = h c := fun _ _ => rfl
  refine fm_xl ?_; intro v2
  refine fm_up F_h (nw_ne rfl) ?_; intro h3 F_h3
  refine fm_if ?_ ?_
  · refine fm_up F_h3 (nw_ne rfl) ?_; intro h5 F_h5
    refine fm_if ?_ ?_
    · refine fm_pu ?_; intro u7
      refine fm_if ?_ ?_
      · refine fm_up F_h5 (nw_ne rfl) ?_; intro h8 F_h8
        exact fm_ret F_h8
      · refine fm_rd ?_; intro v10
        refine fm_up F_h5 (nw_ne rfl) ?_; intro h11 F_h11
        exact fm_ret F_h11
    · refine fm_up F_h5 (nw_ne rfl) ?_; intro h13 F_h13
      exact fm_ret F_h13
  · refine fm_ca F_h3 (ff_X5_takeTop nn) (nw_sub rfl) ?_; intro u16 F_u16
    refine fm_ca F_u16 (ff_X5_goOn nn) (nw_sub rfl) ?_; intro u18 F_u18
    refine fm_if ?_ ?_
    · exact fm_ret F_u18
    · refine fm_ca F_u18 (ff_X5_push nn) (nw_sub rfl) ?_; intro u20 F_u20
      exact fm_ret F_u20
set_option maxRecDepth 4000 in
theorem ff_X5_stepReturn (nn : Nat) {a1 : Int} {h : ms_M} : Fm_ (fun c => nw_F wl_X5_stepReturn false false c = true) h (qf_X5_stepReturn nn a1 h) (fun r => r) := by
  unfold qf_X5_stepReturn
  have F_h : ∀ c, (fun c => nw_F wl_X5_stepReturn false false c = true) c → h c = h c := fun _ _ => rfl
  refine fm_if ?_ ?_
  · refine fm_ca F_h (ff_X5_pop nn) (nw_sub rfl) ?_; intro u24 F_u24
    exact fm_tl F_u24 (fj_X5_stepReturn_15 nn) (fun _ z => z)
  · exact fm_tl F_h (fj_X5_stepReturn_15 nn) (fun _ z => z)
set_option maxRecDepth 4000 in
theorem ff_X5_stepThrow (nn : Nat) {h : ms_M} : Fm_ (fun c => nw_F wl_X5_stepThrow false false c = true) h (qf_X5_stepThrow nn h) (fun r => r) := by
  unfold qf_X5_stepThrow
  have F_h : ∀ c, (fun c => nw_F wl_X5_stepThrow false false c = true) c → h c = h c := fun _ _ => rfl
  refine fm_ca F_h (ff_X5_pop nn) (nw_sub rfl) ?_; intro u2 F_u2
  refine fm_if ?_ ?_
  · refine fm_up F_u2 (nw_ne rfl) ?_; intro h3 F_h3
    exact fm_ret F_h3
  · refine fm_up F_u2 (nw_ne rfl) ?_; intro h4 F_h4
    exact fm_ret F_h4
set_option maxRecDepth 4000 in
theorem fj_X5_stepObject_285 (nn : Nat) {l1 : Int} {l2 : Int} {h : ms_M} : Fm_ (fun c => nw_F wl_X5_stepObject false false c = true) h (qj_X5_stepObject_285 nn l1 l2 h) (fun r => r) := by
  unfold qj_X5_stepObject_285
  have F_h : ∀ c, (fun c => nw_F wl_X5_stepObject false false c = true) c → h c = h c := fun _ _ => rfl
  refine fm_pu ?_; intro u2
  refine fm_ca F_h (ff_X5_stepKin nn) (nw_sub rfl) ?_; intro u4 F_u4
  exact fm_ret F_u4
set_option maxRecDepth 4000 in
theorem fj_X5_stepObject_243 (nn : Nat) {l1 : Int} {l2 : Int} {h : ms_M} : Fm_ (fun c => nw_F wl_X5_stepObject false false c = true) h (qj_X5_stepObject_243 nn l1 l2 h) (fun r => r) := by
  unfold qj_X5_stepObject_243
  have F_h : ∀ c, (fun c => nw_F wl_X5_stepObject false false c = true) c → h c = h c := fun _ _ => rfl
  refine fm_if ?_ ?_
  · refine fm_pu ?_; intro u6
    refine fm_xl ?_; intro v7
    refine fm_ca F_h (ff_X5_stepNewArray nn) (nw_sub rfl) ?_; intro u9 F_u9
    exact fm_ret F_u9
  · refine fm_ca F_h (ff_X5_stepNewArray nn) (nw_sub rfl) ?_; intro u11 F_u11
    exact fm_ret F_u11
set_option maxRecDepth 4000 in
theorem fj_X5_stepObject_203 (nn : Nat) {l1 : Int} {l2 : Int} {h : ms_M} : Fm_ (fun c => nw_F wl_X5_stepObject false false c = true) h (qj_X5_stepObject_203 nn l1 l2 h) (fun r => r) := by
  unfold qj_X5_stepObject_203
  have F_h : ∀ c, (fun c => nw_F wl_X5_stepObject false false c = true) c → h c = h c := fun _ _ => rfl
  refine fm_ca F_h (ff_X5_stepCall nn) (nw_sub rfl) ?_; intro u14 F_u14
  exact fm_ret F_u14
set_option maxRecDepth 4000 in
theorem fj_X5_stepObject_179 (nn : Nat) {l1 : Int} {h : ms_M} : Fm_ (fun c => nw_F wl_X5_stepObject false false c = true) h (qj_X5_stepObject_179 nn l1 h) (fun r => r) := by
  unfold qj_X5_stepObject_179
  have F_h : ∀ c, (fun c => nw_F wl_X5_stepObject false false c = true) c → h c = h c := fun _ _ => rfl
  refine fm_ca F_h (ff_X5_stepReturn nn) (nw_sub rfl) ?_; intro u16 F_u16
  exact fm_ret F_u16
set_option maxRecDepth 4000 in
theorem fj_X5_stepObject_171 (nn : Nat) {l1 : Int} {h : ms_M} : Fm_ (fun c => nw_F wl_X5_stepObject false false c = true) h (qj_X5_stepObject_171 nn l1 h) (fun r => r) := by
  unfold qj_X5_stepObject_171
  have F_h : ∀ c, (fun c => nw_F wl_X5_stepObject false false c = true) c → h c = h c := fun _ _ => rfl
  refine fm_ca F_h (ff_X5_stepGiveElement nn) (nw_sub rfl) ?_; intro u18 F_u18
  exact fm_ret F_u18
set_option maxRecDepth 4000 in
theorem fj_X5_stepObject_164 (nn : Nat) {h : ms_M} : Fm_ (fun c => nw_F wl_X5_stepObject false false c = true) h (qj_X5_stepObject_164 nn h) (fun r => r) := by
  unfold qj_X5_stepObject_164
  have F_h : ∀ c, (fun c => nw_F wl_X5_stepObject false false c = true) c → h c = h c := fun _ _ => rfl
  refine fm_ca F_h (ff_X5_stepElement nn) (nw_sub rfl) ?_; intro u20 F_u20
  exact fm_ret F_u20
set_option maxRecDepth 4000 in
theorem ff_X5_stepObject (nn : Nat) {a1 : Int} {a2 : Int} {h : ms_M} : Fm_ (fun c => nw_F wl_X5_stepObject false false c = true) h (qf_X5_stepObject nn a1 a2 h) (fun r => r) := by
  unfold qf_X5_stepObject
  have F_h : ∀ c, (fun c => nw_F wl_X5_stepObject false false c = true) c → h c = h c := fun _ _ => rfl
  refine fm_if ?_ ?_
  · exact fm_tl F_h (fj_X5_stepObject_164 nn) (fun _ z => z)
  · refine fm_if ?_ ?_
    · exact fm_tl F_h (fj_X5_stepObject_164 nn) (fun _ z => z)
    · refine fm_if ?_ ?_
      · exact fm_tl F_h (fj_X5_stepObject_171 nn) (fun _ z => z)
      · refine fm_if ?_ ?_
        · exact fm_tl F_h (fj_X5_stepObject_171 nn) (fun _ z => z)
        · refine fm_if ?_ ?_
          · exact fm_tl F_h (fj_X5_stepObject_179 nn) (fun _ z => z)
          · refine fm_if ?_ ?_
            · exact fm_tl F_h (fj_X5_stepObject_179 nn) (fun _ z => z)
            · refine fm_if ?_ ?_
              · exact fm_tl F_h (fj_X5_stepObject_179 nn) (fun _ z => z)
              · refine fm_if ?_ ?_
                · refine fm_ca F_h (ff_X5_stepField nn) (nw_sub rfl) ?_; intro u23 F_u23
                  exact fm_ret F_u23
                · refine fm_if ?_ ?_
                  · refine fm_ca F_h (ff_X5_stepGiveField nn) (nw_sub rfl) ?_; intro u25 F_u25
                    exact fm_ret F_u25
                  · refine fm_if ?_ ?_
                    · exact fm_tl F_h (fj_X5_stepObject_203 nn) (fun _ z => z)
                    · refine fm_if ?_ ?_
                      · exact fm_tl F_h (fj_X5_stepObject_203 nn) (fun _ z => z)
                      · refine fm_if ?_ ?_
                        · refine fm_ca F_h (ff_X5_stepPrint nn) (nw_sub rfl) ?_; intro u27 F_u27
                          exact fm_ret F_u27
                        · refine fm_if ?_ ?_
                          · refine fm_pu ?_; intro u29
                            refine fm_pu ?_; intro u32
                            refine fm_pu ?_; intro u34
                            refine fm_ca F_h (ff_X5_giveNew nn) (nw_sub rfl) ?_; intro u36 F_u36
                            exact fm_ret F_u36
                          · refine fm_if ?_ ?_
                            · exact fm_tl F_h (fj_X5_stepObject_243 nn) (fun _ z => z)
                            · refine fm_if ?_ ?_
                              · exact fm_tl F_h (fj_X5_stepObject_243 nn) (fun _ z => z)
                              · refine fm_if ?_ ?_
                                · refine fm_ca F_h (ff_X5_stepLength nn) (nw_sub rfl) ?_; intro u38 F_u38
                                  exact fm_ret F_u38
                                · refine fm_if ?_ ?_
                                  · refine fm_ca F_h (ff_X5_stepThrow nn) (nw_sub rfl) ?_; intro u40 F_u40
                                    exact fm_ret F_u40
                                  · refine fm_if ?_ ?_
                                    · exact fm_tl F_h (fj_X5_stepObject_285 nn) (fun _ z => z)
                                    · refine fm_if ?_ ?_
                                      · exact fm_tl F_h (fj_X5_stepObject_285 nn) (fun _ z => z)
                                      · refine fm_up F_h (nw_ne rfl) ?_; intro h21 F_h21
                                        exact fm_ret F_h21
set_option maxRecDepth 4000 in
theorem fj_X5_step_247 (nn : Nat) {l2 : Int} {l3 : Int} {h : ms_M} : Fm_ (fun c => nw_F wl_X5_step false false c = true) h (qj_X5_step_247 nn l2 l3 h) (fun r => r) := by
  unfold qj_X5_step_247
  have F_h : ∀ c, (fun c => nw_F wl_X5_step false false c = true) c → h c = h c := fun _ _ => rfl
  refine fm_ca F_h (ff_X5_stepLocal nn) (nw_sub rfl) ?_; intro u2 F_u2
  exact fm_ret F_u2
set_option maxRecDepth 4000 in
theorem fj_X5_step_213 (nn : Nat) {l2 : Int} {h : ms_M} : Fm_ (fun c => nw_F wl_X5_step false false c = true) h (qj_X5_step_213 nn l2 h) (fun r => r) := by
  unfold qj_X5_step_213
  have F_h : ∀ c, (fun c => nw_F wl_X5_step false false c = true) c → h c = h c := fun _ _ => rfl
  refine fm_xl ?_; intro v3
  refine fm_ca F_h (ff_X5_give nn) (nw_sub rfl) ?_; intro u5 F_u5
  exact fm_ret F_u5
set_option maxRecDepth 4000 in
theorem ff_X5_step (nn : Nat) {h : ms_M} : Fm_ (fun c => nw_F wl_X5_step false false c = true) h (qf_X5_step nn h) (fun r => r) := by
  unfold qf_X5_step
  have F_h : ∀ c, (fun c => nw_F wl_X5_step false false c = true) c → h c = h c := fun _ _ => rfl
  refine fm_rd ?_; intro v8
  refine fm_ck ?_; intro _
  refine fm_xl ?_; intro v11
  refine fm_ck ?_; intro hb1
  refine fm_pu ?_; intro u13
  refine fm_ck ?_; intro _
  refine fm_xl ?_; intro v16
  refine fm_xl ?_; intro v17
  refine fm_pu ?_; intro u19
  refine fm_if ?_ ?_
  · refine fm_ca F_h (ff_X5_goOn nn) (nw_sub rfl) ?_; intro u31 F_u31
    exact fm_ret F_u31
  · refine fm_if ?_ ?_
    · refine fm_ca F_h (ff_X5_give nn) (nw_sub rfl) ?_; intro u33 F_u33
      exact fm_ret F_u33
    · refine fm_if ?_ ?_
      · exact fm_tl F_h (fj_X5_step_213 nn) (fun _ z => z)
      · refine fm_if ?_ ?_
        · exact fm_tl F_h (fj_X5_step_213 nn) (fun _ z => z)
        · refine fm_if ?_ ?_
          · exact fm_tl F_h (fj_X5_step_213 nn) (fun _ z => z)
          · refine fm_if ?_ ?_
            · exact fm_tl F_h (fj_X5_step_213 nn) (fun _ z => z)
            · refine fm_if ?_ ?_
              · exact fm_tl F_h (fj_X5_step_213 nn) (fun _ z => z)
              · refine fm_if ?_ ?_
                · exact fm_tl F_h (fj_X5_step_213 nn) (fun _ z => z)
                · refine fm_if ?_ ?_
                  · exact fm_tl F_h (fj_X5_step_213 nn) (fun _ z => z)
                  · refine fm_if ?_ ?_
                    · refine fm_xl ?_; intro v34
                      refine fm_ca F_h (ff_X5_give nn) (nw_sub rfl) ?_; intro u36 F_u36
                      exact fm_ret F_u36
                    · refine fm_if ?_ ?_
                      · refine fm_pu ?_; intro u38
                        refine fm_ca F_h (ff_X5_give nn) (nw_sub rfl) ?_; intro u40 F_u40
                        exact fm_ret F_u40
                      · refine fm_if ?_ ?_
                        · exact fm_tl F_h (fj_X5_step_247 nn) (fun _ z => z)
                        · refine fm_if ?_ ?_
                          · exact fm_tl F_h (fj_X5_step_247 nn) (fun _ z => z)
                          · refine fm_if ?_ ?_
                            · exact fm_tl F_h (fj_X5_step_247 nn) (fun _ z => z)
                            · refine fm_if ?_ ?_
                              · exact fm_tl F_h (fj_X5_step_247 nn) (fun _ z => z)
                              · refine fm_if ?_ ?_
                                · refine fm_ca F_h (ff_X5_pop nn) (nw_sub rfl) ?_; intro u42 F_u42
                                  refine fm_ca F_u42 (ff_X5_goOn nn) (nw_sub rfl) ?_; intro u44 F_u44
                                  exact fm_ret F_u44
                                · refine fm_if ?_ ?_
                                  · refine fm_ca F_h (ff_X5_pop nn) (nw_sub rfl) ?_; intro u46 F_u46
                                    refine fm_ca F_u46 (ff_X5_push nn) (nw_sub rfl) ?_; intro u48 F_u48
                                    refine fm_ca F_u48 (ff_X5_give nn) (nw_sub rfl) ?_; intro u50 F_u50
                                    exact fm_ret F_u50
                                  · refine fm_if ?_ ?_
                                    · refine fm_ca F_h (ff_X5_pop nn) (nw_sub rfl) ?_; intro u52 F_u52
                                      refine fm_xl ?_; intro v53
                                      refine fm_ca F_u52 (ff_X5_give nn) (nw_sub rfl) ?_; intro u55 F_u55
                                      exact fm_ret F_u55
                                    · refine fm_pu ?_; intro u20
                                      refine fm_if ?_ ?_
                                      · refine fm_pu ?_; intro u21
                                        refine fm_if ?_ ?_
                                        · refine fm_ca F_h (ff_X5_stepObject nn) (nw_sub rfl) ?_; intro u23 F_u23
                                          exact fm_ret F_u23
                                        · refine fm_ca F_h (ff_X5_stepArithmetic nn) (nw_sub rfl) ?_; intro u25 F_u25
                                          exact fm_ret F_u25
                                      · refine fm_ca F_h (ff_X5_stepJump nn) (nw_sub rfl) ?_; intro u28 F_u28
                                        exact fm_ret F_u28
set_option maxRecDepth 4000 in
theorem fj_X5_isCaught_89 (nn : Nat) {qkk_27 : Int → Int → Int → Int → ms_M → Option (Int × ms_M)} (hk_kk_27 : ∀ {l1 : Int} {l2 : Int} {l3 : Int} {l4 : Int} {h : ms_M}, Fm_ (fun c => nw_F wl_X5_isCaught false false c = true) h (qkk_27 l1 l2 l3 l4 h) (fun r => r.2)) {l1 : Int} {l2 : Int} {l3 : Int} {l4 : Int} {s0 : Int} {h : ms_M} : Fm_ (fun c => nw_F wl_X5_isCaught false false c = true) h (qj_X5_isCaught_89 nn qkk_27 l1 l2 l3 l4 s0 h) (fun r => r.2) := by
  unfold qj_X5_isCaught_89
  have F_h : ∀ c, (fun c => nw_F wl_X5_isCaught false false c = true) c → h c = h c := fun _ _ => rfl
  refine fm_if ?_ ?_
  · refine fm_xl ?_; intro v1
    refine fm_xl ?_; intro v2
    exact fm_tl F_h (hk_kk_27) (fun _ z => z)
  · refine fm_rd ?_; intro v6
    refine fm_ck ?_; intro _
    refine fm_xl ?_; intro v8
    refine fm_ck ?_; intro hb1
    refine fm_pu ?_; intro u10
    refine fm_pu ?_; intro u12
    refine fm_pu ?_; intro u14
    refine fm_if ?_ ?_
    · refine fm_xl ?_; intro v15
      refine fm_xl ?_; intro v16
      exact fm_tl F_h (hk_kk_27) (fun _ z => z)
    · refine fm_wA F_h (nw_ne rfl) ?_; intro h19 F_h19
      refine fm_ck ?_; intro _
      refine fm_xl ?_; intro v21
      refine fm_ck ?_; intro hb2
      refine fm_pu ?_; intro u23
      refine fm_rd ?_; intro v26
      refine fm_xl ?_; intro v27
      refine fm_ca F_h19 (ff_X5_give nn) (nw_sub rfl) ?_; intro u29 F_u29
      exact fm_ret F_u29
set_option maxRecDepth 4000 in
theorem fj_X5_isCaught_88 (nn : Nat) {qkk_27 : Int → Int → Int → Int → ms_M → Option (Int × ms_M)} (hk_kk_27 : ∀ {l1 : Int} {l2 : Int} {l3 : Int} {l4 : Int} {h : ms_M}, Fm_ (fun c => nw_F wl_X5_isCaught false false c = true) h (qkk_27 l1 l2 l3 l4 h) (fun r => r.2)) {l1 : Int} {l2 : Int} {l3 : Int} {l4 : Int} {h : ms_M} : Fm_ (fun c => nw_F wl_X5_isCaught false false c = true) h (qj_X5_isCaught_88 nn qkk_27 l1 l2 l3 l4 h) (fun r => r.2) := by
  unfold qj_X5_isCaught_88
  have F_h : ∀ c, (fun c => nw_F wl_X5_isCaught false false c = true) c → h c = h c := fun _ _ => rfl
  exact fm_tl F_h (fj_X5_isCaught_89 nn hk_kk_27) (fun _ z => z)
set_option maxRecDepth 4000 in
theorem fw_X5_isCaught_27 (nn : Nat) : ∀ (k : Nat) {l1 : Int} {l2 : Int} {l3 : Int} {l4 : Int} {h : ms_M}, Fm_ (fun c => nw_F wl_X5_isCaught false false c = true) h (qw_X5_isCaught_27 nn k l1 l2 l3 l4 h) (fun r => r.2) := by
  intro k
  induction k with
  | zero => intros; exact fm_no
  | succ k ih =>
    intro l1 l2 l3 l4 h
    unfold qw_X5_isCaught_27
    have F_h : ∀ c, (fun c => nw_F wl_X5_isCaught false false c = true) c → h c = h c := fun _ _ => rfl
    refine fm_ck ?_; intro _
    refine fm_ck ?_; intro hb1
    refine fm_pu ?_; intro u34
    refine fm_if ?_ ?_
    · exact fm_ret F_h
    · refine fm_rd ?_; intro v37
      refine fm_ck ?_; intro _
      refine fm_pu ?_; intro u40
      refine fm_if ?_ ?_
      · exact fm_tl F_h (fj_X5_isCaught_88 nn ih) (fun _ z => z)
      · refine fm_rd ?_; intro v43
        refine fm_ck ?_; intro _
        refine fm_xl ?_; intro v45
        refine fm_pu ?_; intro u47
        refine fm_if ?_ ?_
        · exact fm_tl F_h (fj_X5_isCaught_88 nn ih) (fun _ z => z)
        · exact fm_tl F_h (fj_X5_isCaught_89 nn ih) (fun _ z => z)
set_option maxRecDepth 4000 in
theorem ff_X5_isCaught (nn : Nat) {a1 : Int} {h : ms_M} : Fm_ (fun c => nw_F wl_X5_isCaught false false c = true) h (qf_X5_isCaught nn a1 h) (fun r => r.2) := by
  unfold qf_X5_isCaught
  have F_h : ∀ c, (fun c => nw_F wl_X5_isCaught false false c = true) c → h c = h c := fun _ _ => rfl
  refine fm_rd ?_; intro v53
  refine fm_xl ?_; intro v54
  refine fm_ck ?_; intro _
  refine fm_ck ?_; intro hb1
  refine fm_pu ?_; intro u57
  exact fm_tl F_h (fw_X5_isCaught_27 nn _) (fun _ z => z)
set_option maxRecDepth 4000 in
theorem fj_X5_throwUp_59 (nn : Nat) {l1 : Int} {h : ms_M} : Fm_ (fun c => nw_F wl_X5_throwUp false false c = true) h (qj_X5_throwUp_59 nn l1 h) (fun r => r) := by
  unfold qj_X5_throwUp_59
  have F_h : ∀ c, (fun c => nw_F wl_X5_throwUp false false c = true) c → h c = h c := fun _ _ => rfl
  refine fm_up F_h (nw_ne rfl) ?_; intro h1 F_h1
  refine fm_rd ?_; intro v3
  refine fm_up F_h1 (nw_ne rfl) ?_; intro h4 F_h4
  exact fm_ret F_h4
set_option maxRecDepth 4000 in
theorem fw_X5_throwUp_17 (nn : Nat) : ∀ (k : Nat) {l1 : Int} {l2 : Int} {h : ms_M}, Fm_ (fun c => nw_F wl_X5_throwUp false false c = true) h (qw_X5_throwUp_17 nn k l1 l2 h) (fun r => r) := by
  intro k
  induction k with
  | zero => intros; exact fm_no
  | succ k ih =>
    intro l1 l2 h
    unfold qw_X5_throwUp_17
    have F_h : ∀ c, (fun c => nw_F wl_X5_throwUp false false c = true) c → h c = h c := fun _ _ => rfl
    refine fm_if ?_ ?_
    · exact fm_tl F_h (fj_X5_throwUp_59 nn) (fun _ z => z)
    · refine fm_if ?_ ?_
      · exact fm_tl F_h (fj_X5_throwUp_59 nn) (fun _ z => z)
      · refine fm_ca F_h (ff_X5_takeTop nn) (nw_sub rfl) ?_; intro u7 F_u7
        refine fm_ca F_u7 (ff_X5_isCaught nn) (nw_sub rfl) ?_; intro u9 F_u9
        refine fm_if ?_ ?_
        · refine fm_xl ?_; intro v11
          refine fm_up F_u9 (nw_ne rfl) ?_; intro h12 F_h12
          refine fm_xl ?_; intro v13
          exact fm_tl F_h12 (ih ) (fun _ z => z)
        · exact fm_ret F_u9
set_option maxRecDepth 4000 in
theorem ff_X5_throwUp (nn : Nat) {a1 : Int} {h : ms_M} : Fm_ (fun c => nw_F wl_X5_throwUp false false c = true) h (qf_X5_throwUp nn a1 h) (fun r => r) := by
  unfold qf_X5_throwUp
  have F_h : ∀ c, (fun c => nw_F wl_X5_throwUp false false c = true) c → h c = h c := fun _ _ => rfl
  refine fm_pu ?_; intro u18
  refine fm_if ?_ ?_
  · exact fm_tl F_h (fw_X5_throwUp_17 nn _) (fun _ z => z)
  · refine fm_up F_h (nw_ne rfl) ?_; intro h19 F_h19
    exact fm_ret F_h19
set_option maxRecDepth 4000 in
theorem fj_X5_go_66 (nn : Nat) {l2 : Int} {h : ms_M} : Fm_ (fun c => nw_F wl_X5_go false false c = true) h (qj_X5_go_66 nn l2 h) (fun r => r.2) := by
  unfold qj_X5_go_66
  have F_h : ∀ c, (fun c => nw_F wl_X5_go false false c = true) c → h c = h c := fun _ _ => rfl
  refine fm_xl ?_; intro v2
  refine fm_up F_h (nw_ne rfl) ?_; intro h3 F_h3
  exact fm_ret F_h3
set_option maxRecDepth 4000 in
theorem fj_X5_go_55 (nn : Nat) {qkk_2 : Int → Int → ms_M → Option (Int × ms_M)} (hk_kk_2 : ∀ {l1 : Int} {l2 : Int} {h : ms_M}, Fm_ (fun c => nw_F wl_X5_go false false c = true) h (qkk_2 l1 l2 h) (fun r => r.2)) {l1 : Int} {l2 : Int} {h : ms_M} : Fm_ (fun c => nw_F wl_X5_go false false c = true) h (qj_X5_go_55 nn qkk_2 l1 l2 h) (fun r => r.2) := by
  unfold qj_X5_go_55
  have F_h : ∀ c, (fun c => nw_F wl_X5_go false false c = true) c → h c = h c := fun _ _ => rfl
  refine fm_up F_h (nw_ne rfl) ?_; intro h4 F_h4
  refine fm_xl ?_; intro v5
  exact fm_tl F_h4 (hk_kk_2) (fun _ z => z)
set_option maxRecDepth 4000 in
theorem fj_X5_go_40 (nn : Nat) {qkk_2 : Int → Int → ms_M → Option (Int × ms_M)} (hk_kk_2 : ∀ {l1 : Int} {l2 : Int} {h : ms_M}, Fm_ (fun c => nw_F wl_X5_go false false c = true) h (qkk_2 l1 l2 h) (fun r => r.2)) {l1 : Int} {l2 : Int} {h : ms_M} : Fm_ (fun c => nw_F wl_X5_go false false c = true) h (qj_X5_go_40 nn qkk_2 l1 l2 h) (fun r => r.2) := by
  unfold qj_X5_go_40
  have F_h : ∀ c, (fun c => nw_F wl_X5_go false false c = true) c → h c = h c := fun _ _ => rfl
  refine fm_if ?_ ?_
  · exact fm_tl F_h (fj_X5_go_55 nn hk_kk_2) (fun _ z => z)
  · refine fm_ca F_h (ff_X5_throwUp nn) (nw_sub rfl) ?_; intro u9 F_u9
    exact fm_tl F_u9 (fj_X5_go_55 nn hk_kk_2) (fun _ z => z)
set_option maxRecDepth 4000 in
theorem fw_X5_go_2 (nn : Nat) : ∀ (k : Nat) {l1 : Int} {l2 : Int} {h : ms_M}, Fm_ (fun c => nw_F wl_X5_go false false c = true) h (qw_X5_go_2 nn k l1 l2 h) (fun r => r.2) := by
  intro k
  induction k with
  | zero => intros; exact fm_no
  | succ k ih =>
    intro l1 l2 h
    unfold qw_X5_go_2
    have F_h : ∀ c, (fun c => nw_F wl_X5_go false false c = true) c → h c = h c := fun _ _ => rfl
    refine fm_if ?_ ?_
    · exact fm_tl F_h (fj_X5_go_66 nn) (fun _ z => z)
    · refine fm_if ?_ ?_
      · exact fm_tl F_h (fj_X5_go_66 nn) (fun _ z => z)
      · refine fm_ca F_h (ff_X5_step nn) (nw_sub rfl) ?_; intro u13 F_u13
        refine fm_if ?_ ?_
        · exact fm_tl F_u13 (fj_X5_go_40 nn ih) (fun _ z => z)
        · refine fm_xl ?_; intro v16
          refine fm_ca F_u13 (ff_X5_make nn) (nw_sub rfl) ?_; intro u18 F_u18
          refine fm_up F_u18 (nw_ne rfl) ?_; intro h19 F_h19
          exact fm_tl F_h19 (fj_X5_go_40 nn ih) (fun _ z => z)
set_option maxRecDepth 4000 in
theorem ff_X5_go (nn : Nat) {a1 : Int} {h : ms_M} : Fm_ (fun c => nw_F wl_X5_go false false c = true) h (qf_X5_go nn a1 h) (fun r => r.2) := by
  unfold qf_X5_go
  have F_h : ∀ c, (fun c => nw_F wl_X5_go false false c = true) c → h c = h c := fun _ _ => rfl
  exact fm_tl F_h (fw_X5_go_2 nn _) (fun _ z => z)
set_option maxRecDepth 4000 in
theorem ff_X12_run (nn : Nat) {a1 : Int} {h : ms_M} : Fm_ (fun c => nw_F wl_X12_run false false c = true) h (qf_X12_run nn a1 h) (fun r => r.2) := by
  unfold qf_X12_run
  have F_h : ∀ c, (fun c => nw_F wl_X12_run false false c = true) c → h c = h c := fun _ _ => rfl
  refine fm_if ?_ ?_
  · exact fm_ret F_h
  · refine fm_if ?_ ?_
    · refine fm_ca F_h (ff_X5_go nn) (nw_sub rfl) ?_; intro u3 F_u3
      exact fm_ret F_u3
    · exact fm_ret F_h
set_option maxRecDepth 4000 in
theorem ff_X5_beginRun (nn : Nat) {a1 : Int} {a2 : Int} {h : ms_M} : Fm_ (fun c => nw_F wl_X5_beginRun false false c = true) h (qf_X5_beginRun nn a1 a2 h) (fun r => r) := by
  unfold qf_X5_beginRun
  have F_h : ∀ c, (fun c => nw_F wl_X5_beginRun false false c = true) c → h c = h c := fun _ _ => rfl
  refine fm_ca F_h (ff_X5_forget nn) (nw_sub rfl) ?_; intro u2 F_u2
  refine fm_up F_u2 (nw_ne rfl) ?_; intro h3 F_h3
  refine fm_xl ?_; intro v4
  refine fm_xl ?_; intro v5
  refine fm_xl ?_; intro v6
  refine fm_ca F_h3 (ff_X5_beginMethod nn) (nw_sub rfl) ?_; intro u8 F_u8
  exact fm_ret F_u8
set_option maxRecDepth 4000 in
theorem ff_X12_start (nn : Nat) {a1 : Int} {a2 : Int} {h : ms_M} : Fm_ (fun c => nw_F wl_X12_start false false c = true) h (qf_X12_start nn a1 a2 h) (fun r => r.2) := by
  unfold qf_X12_start
  have F_h : ∀ c, (fun c => nw_F wl_X12_start false false c = true) c → h c = h c := fun _ _ => rfl
  refine fm_pu ?_; intro u3
  refine fm_if ?_ ?_
  · exact fm_ret F_h
  · refine fm_if ?_ ?_
    · exact fm_ret F_h
    · refine fm_if ?_ ?_
      · exact fm_ret F_h
      · refine fm_ck ?_; intro hb1
        refine fm_if ?_ ?_
        · refine fm_pu ?_; intro u10
          refine fm_if ?_ ?_
          · exact fm_ret F_h
          · refine fm_pu ?_; intro u12
            refine fm_if ?_ ?_
            · refine fm_ca F_h (ff_X5_beginRun nn) (nw_sub rfl) ?_; intro u15 F_u15
              exact fm_ret F_u15
            · exact fm_ret F_h
        · exact fm_ret F_h
set_option maxRecDepth 4000 in
theorem fj_X7_readKind_130 (nn : Nat) {l1 : Nat} {l4 : Int} {l5 : Int} {l6 : Int} {l7 : Int} {h : ms_M} : Fm_ (fun c => nw_F wl_X7_readKind false false c = true) h (qj_X7_readKind_130 nn l1 l4 l5 l6 l7 h) (fun r => r.2) := by
  unfold qj_X7_readKind_130
  have F_h : ∀ c, (fun c => nw_F wl_X7_readKind false false c = true) c → h c = h c := fun _ _ => rfl
  refine fm_xl ?_; intro v1
  refine fm_pu ?_; intro u3
  refine fm_wA F_h (nw_ne rfl) ?_; intro h4 F_h4
  exact fm_ret F_h4
set_option maxRecDepth 4000 in
theorem fw_X7_readKind_63 (nn : Nat) : ∀ (k : Nat) {l1 : Nat} {l4 : Int} {l5 : Int} {l6 : Int} {l7 : Int} {h : ms_M}, Fm_ (fun c => nw_F wl_X7_readKind false false c = true) h (qw_X7_readKind_63 nn k l1 l4 l5 l6 l7 h) (fun r => r.2) := by
  intro k
  induction k with
  | zero => intros; exact fm_no
  | succ k ih =>
    intro l1 l4 l5 l6 l7 h
    unfold qw_X7_readKind_63
    have F_h : ∀ c, (fun c => nw_F wl_X7_readKind false false c = true) c → h c = h c := fun _ _ => rfl
    refine fm_if ?_ ?_
    · exact fm_tl F_h (fj_X7_readKind_130 nn) (fun _ z => z)
    · refine fm_if ?_ ?_
      · exact fm_tl F_h (fj_X7_readKind_130 nn) (fun _ z => z)
      · refine fm_if ?_ ?_
        · exact fm_tl F_h (fj_X7_readKind_130 nn) (fun _ z => z)
        · refine fm_ck ?_; intro hb1
          refine fm_pu ?_; intro u6
          refine fm_if ?_ ?_
          · exact fm_tl F_h (fj_X7_readKind_130 nn) (fun _ z => z)
          · refine fm_pu ?_; intro u8
            refine fm_xl ?_; intro v9
            refine fm_xl ?_; intro v10
            refine fm_pu ?_; intro u12
            refine fm_wA F_h (nw_ne rfl) ?_; intro h13 F_h13
            exact fm_tl F_h13 (ih ) (fun _ z => z)
set_option maxRecDepth 4000 in
theorem ff_X7_readKind (nn : Nat) {a1 : Nat} {a2 : Int} {a4 : Int} {h : ms_M} : Fm_ (fun c => nw_F wl_X7_readKind false false c = true) h (qf_X7_readKind nn a1 a2 a4 h) (fun r => r.2) := by
  unfold qf_X7_readKind
  have F_h : ∀ c, (fun c => nw_F wl_X7_readKind false false c = true) c → h c = h c := fun _ _ => rfl
  refine fm_ck ?_; intro hb1
  refine fm_pu ?_; intro u19
  refine fm_pu ?_; intro u21
  refine fm_if ?_ ?_
  · exact fm_ret F_h
  · refine fm_xl ?_; intro v22
    refine fm_if ?_ ?_
    · refine fm_pu ?_; intro u25
      refine fm_if ?_ ?_
      · refine fm_xl ?_; intro v26
        exact fm_tl F_h (fw_X7_readKind_63 nn _) (fun _ z => z)
      · refine fm_pu ?_; intro u28
        refine fm_wA F_h (nw_ne rfl) ?_; intro h29 F_h29
        exact fm_ret F_h29
    · exact fm_ret F_h
set_option maxRecDepth 4000 in
theorem fj_X11_areKindsThere_133 (nn : Nat) {qkk_68 : Int → Int → ms_M → Option (Int × ms_M)} (hk_kk_68 : ∀ {l1 : Int} {l2 : Int} {h : ms_M}, Fm_ (fun c => nw_F wl_X11_areKindsThere false false c = true) h (qkk_68 l1 l2 h) (fun r => r.2)) {qkk_108 : Int → Int → Int → Int → ms_M → Option (Int × ms_M)} (hk_kk_108 : ∀ {l1 : Int} {l2 : Int} {l3 : Int} {l4 : Int} {h : ms_M}, Fm_ (fun c => nw_F wl_X11_areKindsThere false false c = true) h (qkk_108 l1 l2 l3 l4 h) (fun r => r.2)) {l2 : Int} {l3 : Int} {l4 : Int} {h : ms_M} : Fm_ (fun c => nw_F wl_X11_areKindsThere false false c = true) h (qj_X11_areKindsThere_133 nn qkk_68 qkk_108 l2 l3 l4 h) (fun r => r.2) := by
  unfold qj_X11_areKindsThere_133
  have F_h : ∀ c, (fun c => nw_F wl_X11_areKindsThere false false c = true) c → h c = h c := fun _ _ => rfl
  refine fm_xl ?_; intro v1
  exact fm_tl F_h (hk_kk_108) (fun _ z => z)
set_option maxRecDepth 4000 in
theorem fw_X11_areKindsThere_108 (nn : Nat) {qkk_68 : Int → Int → ms_M → Option (Int × ms_M)} (hk_kk_68 : ∀ {l1 : Int} {l2 : Int} {h : ms_M}, Fm_ (fun c => nw_F wl_X11_areKindsThere false false c = true) h (qkk_68 l1 l2 h) (fun r => r.2)) : ∀ (k : Nat) {l1 : Int} {l2 : Int} {l3 : Int} {l4 : Int} {h : ms_M}, Fm_ (fun c => nw_F wl_X11_areKindsThere false false c = true) h (qw_X11_areKindsThere_108 nn qkk_68 k l1 l2 l3 l4 h) (fun r => r.2) := by
  intro k
  induction k with
  | zero => intros; exact fm_no
  | succ k ih =>
    intro l1 l2 l3 l4 h
    unfold qw_X11_areKindsThere_108
    have F_h : ∀ c, (fun c => nw_F wl_X11_areKindsThere false false c = true) c → h c = h c := fun _ _ => rfl
    refine fm_if ?_ ?_
    · refine fm_xl ?_; intro v2
      exact fm_tl F_h (hk_kk_68) (fun _ z => z)
    · refine fm_if ?_ ?_
      · exact fm_tl F_h (fj_X11_areKindsThere_133 nn hk_kk_68 ih) (fun _ z => z)
      · refine fm_rd ?_; intro v4
        refine fm_if ?_ ?_
        · exact fm_tl F_h (fj_X11_areKindsThere_133 nn hk_kk_68 ih) (fun _ z => z)
        · refine fm_xl ?_; intro v5
          exact fm_tl F_h (ih ) (fun _ z => z)

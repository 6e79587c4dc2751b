set_option maxRecDepth 4000 in
theorem fj_X13_flows_407 (nn : Nat) {qkk_155 : Int → Int → Int → Int → ms_M → Option (Int × ms_M)} (hk_kk_155 : ∀ {l1 : Int} {l2 : Int} {l5 : Int} {l6 : Int} {h : ms_M}, Fm_ (fun c k => nw_F wl_X13_flows wf_X13_flows false false c k = true) h (qkk_155 l1 l2 l5 l6 h) (fun r => r.2)) {l1 : Int} {l2 : Int} {l6 : Int} {h : ms_M} : Fm_ (fun c k => nw_F wl_X13_flows wf_X13_flows false false c k = true) h (qj_X13_flows_407 nn qkk_155 l1 l2 l6 h) (fun r => r.2) := by
  unfold qj_X13_flows_407
  have F_h : ∀ c k : Nat, (fun c k => nw_F wl_X13_flows wf_X13_flows false false c k = true) c k → h c k = h c k := fun _ _ _ => rfl
  exact fm_tl F_h (fj_X13_flows_408 nn hk_kk_155) (fun _ _ z => z)
set_option maxRecDepth 4000 in
theorem fj_X13_flows_363 (nn : Nat) {qkk_155 : Int → Int → Int → Int → ms_M → Option (Int × ms_M)} (hk_kk_155 : ∀ {l1 : Int} {l2 : Int} {l5 : Int} {l6 : Int} {h : ms_M}, Fm_ (fun c k => nw_F wl_X13_flows wf_X13_flows false false c k = true) h (qkk_155 l1 l2 l5 l6 h) (fun r => r.2)) {l1 : Int} {l2 : Int} {l6 : Int} {l8 : Int} {h : ms_M} : Fm_ (fun c k => nw_F wl_X13_flows wf_X13_flows false false c k = true) h (qj_X13_flows_363 nn qkk_155 l1 l2 l6 l8 h) (fun r => r.2) := by
  unfold qj_X13_flows_363
  have F_h : ∀ c k : Nat, (fun c k => nw_F wl_X13_flows wf_X13_flows false false c k = true) c k → h c k = h c k := fun _ _ _ => rfl
  refine fm_if ?_ ?_
  · exact fm_tl F_h (fj_X13_flows_407 nn hk_kk_155) (fun _ _ z => z)
  · refine fm_if ?_ ?_
    · exact fm_tl F_h (fj_X13_flows_407 nn hk_kk_155) (fun _ _ z => z)
    · refine fm_if ?_ ?_
      · exact fm_tl F_h (fj_X13_flows_407 nn hk_kk_155) (fun _ _ z => z)
      · refine fm_if ?_ ?_
        · exact fm_tl F_h (fj_X13_flows_407 nn hk_kk_155) (fun _ _ z => z)
        · refine fm_if ?_ ?_
          · exact fm_tl F_h (fj_X13_flows_407 nn hk_kk_155) (fun _ _ z => z)
          · exact fm_tl F_h (fj_X13_flows_408 nn hk_kk_155) (fun _ _ z => z)
set_option maxRecDepth 4000 in
theorem fj_X13_flows_352 (nn : Nat) {l1 : Int} {l2 : Int} {l6 : Int} {h : ms_M} : Fm_ (fun c k => nw_F wl_X13_flows wf_X13_flows false false c k = true) h (qj_X13_flows_352 nn l1 l2 l6 h) (fun r => r.2) := by
  unfold qj_X13_flows_352
  have F_h : ∀ c k : Nat, (fun c k => nw_F wl_X13_flows wf_X13_flows false false c k = true) c k → h c k = h c k := fun _ _ _ => rfl
  refine fm_ca F_h (ff_X13_bad nn) (nw_sub rfl) ?_; intro u11 F_u11
  refine fm_ck ?_; intro _
  exact fm_ret F_u11
set_option maxRecDepth 4000 in
theorem fj_X13_flows_240 (nn : Nat) {qkk_155 : Int → Int → Int → Int → ms_M → Option (Int × ms_M)} (hk_kk_155 : ∀ {l1 : Int} {l2 : Int} {l5 : Int} {l6 : Int} {h : ms_M}, Fm_ (fun c k => nw_F wl_X13_flows wf_X13_flows false false c k = true) h (qkk_155 l1 l2 l5 l6 h) (fun r => r.2)) {l1 : Int} {l2 : Int} {l6 : Int} {h : ms_M} : Fm_ (fun c k => nw_F wl_X13_flows wf_X13_flows false false c k = true) h (qj_X13_flows_240 nn qkk_155 l1 l2 l6 h) (fun r => r.2) := by
  unfold qj_X13_flows_240
  have F_h : ∀ c k : Nat, (fun c k => nw_F wl_X13_flows wf_X13_flows false false c k = true) c k → h c k = h c k := fun _ _ _ => rfl
  refine fm_ca F_h (ff_X13_handled nn) (nw_sub rfl) ?_; intro u14 F_u14
  refine fm_if ?_ ?_
  · refine fm_ca F_u14 (ff_X13_right nn) (nw_sub rfl) ?_; intro u16 F_u16
    refine fm_if ?_ ?_
    · refine fm_ca F_u16 (ff_X13_wanted nn) (nw_sub rfl) ?_; intro u18 F_u18
      refine fm_if ?_ ?_
      · refine fm_pu ?_; intro u20
        refine fm_pu ?_; intro u21
        refine fm_if ?_ ?_
        · exact fm_tl F_u18 (fj_X13_flows_363 nn hk_kk_155) (fun _ _ z => z)
        · refine fm_pu ?_; intro u23
          refine fm_pu ?_; intro u25
          refine fm_if ?_ ?_
          · exact fm_tl F_u18 (fj_X13_flows_352 nn) (fun _ _ z => z)
          · refine fm_ca F_u18 (ff_X13_localsFit nn) (nw_sub rfl) ?_; intro u27 F_u27
            refine fm_if ?_ ?_
            · exact fm_tl F_u27 (fj_X13_flows_352 nn) (fun _ _ z => z)
            · refine fm_ca F_u27 (ff_X13_stackFits nn) (nw_sub rfl) ?_; intro u29 F_u29
              refine fm_if ?_ ?_
              · exact fm_tl F_u29 (fj_X13_flows_363 nn hk_kk_155) (fun _ _ z => z)
              · exact fm_tl F_u29 (fj_X13_flows_352 nn) (fun _ _ z => z)
      · refine fm_ca F_u18 (ff_X13_bad nn) (nw_sub rfl) ?_; intro u35 F_u35
        refine fm_ck ?_; intro _
        exact fm_ret F_u35
    · refine fm_ca F_u16 (ff_X13_bad nn) (nw_sub rfl) ?_; intro u39 F_u39
      refine fm_ck ?_; intro _
      exact fm_ret F_u39
  · refine fm_ca F_u14 (ff_X13_bad nn) (nw_sub rfl) ?_; intro u43 F_u43
    refine fm_ck ?_; intro _
    exact fm_ret F_u43
set_option maxRecDepth 4000 in
theorem fj_X13_flows_234 (nn : Nat) {qkk_155 : Int → Int → Int → Int → ms_M → Option (Int × ms_M)} (hk_kk_155 : ∀ {l1 : Int} {l2 : Int} {l5 : Int} {l6 : Int} {h : ms_M}, Fm_ (fun c k => nw_F wl_X13_flows wf_X13_flows false false c k = true) h (qkk_155 l1 l2 l5 l6 h) (fun r => r.2)) {l1 : Int} {l2 : Int} {l6 : Int} {l7 : Int} {h : ms_M} : Fm_ (fun c k => nw_F wl_X13_flows wf_X13_flows false false c k = true) h (qj_X13_flows_234 nn qkk_155 l1 l2 l6 l7 h) (fun r => r.2) := by
  unfold qj_X13_flows_234
  have F_h : ∀ c k : Nat, (fun c k => nw_F wl_X13_flows wf_X13_flows false false c k = true) c k → h c k = h c k := fun _ _ _ => rfl
  refine fm_ca F_h (ff_X13_becomes nn) (nw_sub rfl) ?_; intro u47 F_u47
  exact fm_tl F_u47 (fj_X13_flows_240 nn hk_kk_155) (fun _ _ z => z)
set_option maxRecDepth 4000 in
theorem fj_X13_flows_223 (nn : Nat) {l1 : Int} {l2 : Int} {l6 : Int} {h : ms_M} : Fm_ (fun c k => nw_F wl_X13_flows wf_X13_flows false false c k = true) h (qj_X13_flows_223 nn l1 l2 l6 h) (fun r => r.2) := by
  unfold qj_X13_flows_223
  have F_h : ∀ c k : Nat, (fun c k => nw_F wl_X13_flows wf_X13_flows false false c k = true) c k → h c k = h c k := fun _ _ _ => rfl
  refine fm_ca F_h (ff_X13_bad nn) (nw_sub rfl) ?_; intro u49 F_u49
  refine fm_ck ?_; intro _
  exact fm_ret F_u49
set_option maxRecDepth 4000 in
theorem fj_X13_flows_194 (nn : Nat) {qkk_155 : Int → Int → Int → Int → ms_M → Option (Int × ms_M)} (hk_kk_155 : ∀ {l1 : Int} {l2 : Int} {l5 : Int} {l6 : Int} {h : ms_M}, Fm_ (fun c k => nw_F wl_X13_flows wf_X13_flows false false c k = true) h (qkk_155 l1 l2 l5 l6 h) (fun r => r.2)) {l1 : Int} {l2 : Int} {l5 : Int} {l6 : Int} {l7 : Int} {h : ms_M} : Fm_ (fun c k => nw_F wl_X13_flows wf_X13_flows false false c k = true) h (qj_X13_flows_194 nn qkk_155 l1 l2 l5 l6 l7 h) (fun r => r.2) := by
  unfold qj_X13_flows_194
  have F_h : ∀ c k : Nat, (fun c k => nw_F wl_X13_flows wf_X13_flows false false c k = true) c k → h c k = h c k := fun _ _ _ => rfl
  refine fm_if ?_ ?_
  · exact fm_tl F_h (fj_X13_flows_240 nn hk_kk_155) (fun _ _ z => z)
  · refine fm_if ?_ ?_
    · exact fm_tl F_h (fj_X13_flows_234 nn hk_kk_155) (fun _ _ z => z)
    · refine fm_ca F_h (ff_X13_localsFit nn) (nw_sub rfl) ?_; intro u52 F_u52
      refine fm_if ?_ ?_
      · exact fm_tl F_u52 (fj_X13_flows_223 nn) (fun _ _ z => z)
      · refine fm_ca F_u52 (ff_X13_stackFits nn) (nw_sub rfl) ?_; intro u54 F_u54
        refine fm_if ?_ ?_
        · exact fm_tl F_u54 (fj_X13_flows_234 nn hk_kk_155) (fun _ _ z => z)
        · exact fm_tl F_u54 (fj_X13_flows_223 nn) (fun _ _ z => z)
set_option maxRecDepth 4000 in
theorem fw_X13_flows_155 (nn : Nat) : ∀ (k : Nat) {l1 : Int} {l2 : Int} {l5 : Int} {l6 : Int} {h : ms_M}, Fm_ (fun c k => nw_F wl_X13_flows wf_X13_flows false false c k = true) h (qw_X13_flows_155 nn k l1 l2 l5 l6 h) (fun r => r.2) := by
  intro k
  induction k with
  | zero => intros; exact fm_no
  | succ k ih =>
    intro l1 l2 l5 l6 h
    unfold qw_X13_flows_155
    have F_h : ∀ c k : Nat, (fun c k => nw_F wl_X13_flows wf_X13_flows false false c k = true) c k → h c k = h c k := fun _ _ _ => rfl
    refine fm_if ?_ ?_
    · refine fm_if ?_ ?_
      · exact fm_ret F_h
      · refine fm_ca F_h (ff_X13_bad nn) (nw_sub rfl) ?_; intro u62 F_u62
        refine fm_ck ?_; intro _
        exact fm_ret F_u62
    · refine fm_pu ?_; intro u66
      refine fm_if ?_ ?_
      · exact fm_tl F_h (fj_X13_flows_194 nn ih) (fun _ _ z => z)
      · refine fm_if ?_ ?_
        · exact fm_tl F_h (fj_X13_flows_194 nn ih) (fun _ _ z => z)
        · refine fm_ca F_h (ff_X13_bad nn) (nw_sub rfl) ?_; intro u68 F_u68
          refine fm_ck ?_; intro _
          exact fm_ret F_u68
set_option maxRecDepth 4000 in
theorem fw_X13_flows_105 (nn : Nat) : ∀ (k : Nat) {l1 : Int} {l2 : Int} {l3 : Int} {l4 : Int} {h : ms_M}, Fm_ (fun c k => nw_F wl_X13_flows wf_X13_flows false false c k = true) h (qw_X13_flows_105 nn k l1 l2 l3 l4 h) (fun r => r.2) := by
  intro k
  induction k with
  | zero => intros; exact fm_no
  | succ k ih =>
    intro l1 l2 l3 l4 h
    unfold qw_X13_flows_105
    have F_h : ∀ c k : Nat, (fun c k => nw_F wl_X13_flows wf_X13_flows false false c k = true) c k → h c k = h c k := fun _ _ _ => rfl
    refine fm_rd ?_; intro v74
    refine fm_if ?_ ?_
    · refine fm_xl ?_; intro v75
      refine fm_up F_h (nw_nf rfl) ?_; intro h76 F_h76
      exact fm_tl F_h76 (fw_X13_flows_155 nn _) (fun _ _ z => z)
    · refine fm_ca F_h (ff_X13_typeAt nn) (nw_sub rfl) ?_; intro u79 F_u79
      refine fm_wA F_u79 (nw_ne rfl) ?_; intro h80 F_h80
      refine fm_xl ?_; intro v81
      exact fm_tl F_h80 (ih ) (fun _ _ z => z)
set_option maxRecDepth 4000 in
theorem fj_X13_flows_68 (nn : Nat) {l1 : Int} {l2 : Int} {l3 : Int} {h : ms_M} : Fm_ (fun c k => nw_F wl_X13_flows wf_X13_flows false false c k = true) h (qj_X13_flows_68 nn l1 l2 l3 h) (fun r => r.2) := by
  unfold qj_X13_flows_68
  have F_h : ∀ c k : Nat, (fun c k => nw_F wl_X13_flows wf_X13_flows false false c k = true) c k → h c k = h c k := fun _ _ _ => rfl
  refine fm_xl ?_; intro v85
  refine fm_xl ?_; intro v88
  refine fm_pu ?_; intro u91
  refine fm_xl ?_; intro v92
  refine fm_rd ?_; intro v93
  refine fm_xl ?_; intro v94
  refine fm_xl ?_; intro v95
  exact fm_tl F_h (fw_X13_flows_105 nn _) (fun _ _ z => z)
set_option maxRecDepth 4000 in
theorem fw_X13_flows_2 (nn : Nat) : ∀ (k : Nat) {l1 : Int} {l2 : Int} {l3 : Int} {h : ms_M}, Fm_ (fun c k => nw_F wl_X13_flows wf_X13_flows false false c k = true) h (qw_X13_flows_2 nn k l1 l2 l3 h) (fun r => r.2) := by
  intro k
  induction k with
  | zero => intros; exact fm_no
  | succ k ih =>
    intro l1 l2 l3 h
    unfold qw_X13_flows_2
    have F_h : ∀ c k : Nat, (fun c k => nw_F wl_X13_flows wf_X13_flows false false c k = true) c k → h c k = h c k := fun _ _ _ => rfl
    refine fm_if ?_ ?_
    · refine fm_up F_h (nw_nf rfl) ?_; intro h97 F_h97
      refine fm_xl ?_; intro v101
      refine fm_xl ?_; intro v102
      refine fm_rd ?_; intro v103
      refine fm_pu ?_; intro u105
      refine fm_if ?_ ?_
      · exact fm_tl F_h97 (fj_X13_flows_68 nn) (fun _ _ z => z)
      · refine fm_xl ?_; intro v107
        refine fm_xl ?_; intro v108
        refine fm_wA F_h97 (nw_ne rfl) ?_; intro h109 F_h109
        exact fm_tl F_h109 (fj_X13_flows_68 nn) (fun _ _ z => z)
    · refine fm_wA F_h (nw_ne rfl) ?_; intro h112 F_h112
      refine fm_xl ?_; intro v113
      exact fm_tl F_h112 (ih ) (fun _ _ z => z)
set_option maxRecDepth 4000 in
theorem ff_X13_flows (nn : Nat) {a1 : Int} {a2 : Int} {h : ms_M} : Fm_ (fun c k => nw_F wl_X13_flows wf_X13_flows false false c k = true) h (qf_X13_flows nn a1 a2 h) (fun r => r.2) := by
  unfold qf_X13_flows
  have F_h : ∀ c k : Nat, (fun c k => nw_F wl_X13_flows wf_X13_flows false false c k = true) c k → h c k = h c k := fun _ _ _ => rfl
  exact fm_tl F_h (fw_X13_flows_2 nn _) (fun _ _ z => z)
set_option maxRecDepth 4000 in
theorem fj_X13_frameIsThere_89 (nn : Nat) {qkk_6 : Int → Int → ms_M → Option (Int × ms_M)} (hk_kk_6 : ∀ {l2 : Int} {l3 : Int} {h : ms_M}, Fm_ (fun c k => nw_F wl_X13_frameIsThere wf_X13_frameIsThere false false c k = true) h (qkk_6 l2 l3 h) (fun r => r.2)) {qkk_50 : Int → Int → Int → Int → ms_M → Option (Int × ms_M)} (hk_kk_50 : ∀ {l2 : Int} {l3 : Int} {l4 : Int} {l5 : Int} {h : ms_M}, Fm_ (fun c k => nw_F wl_X13_frameIsThere wf_X13_frameIsThere false false c k = true) h (qkk_50 l2 l3 l4 l5 h) (fun r => r.2)) {l3 : Int} {l4 : Int} {l5 : Int} {s0 : Int} {s1 : Int} {h : ms_M} : Fm_ (fun c k => nw_F wl_X13_frameIsThere wf_X13_frameIsThere false false c k = true) h (qj_X13_frameIsThere_89 nn qkk_6 qkk_50 l3 l4 l5 s0 s1 h) (fun r => r.2) := by
  unfold qj_X13_frameIsThere_89
  have F_h : ∀ c k : Nat, (fun c k => nw_F wl_X13_frameIsThere wf_X13_frameIsThere false false c k = true) c k → h c k = h c k := fun _ _ _ => rfl
  refine fm_xl ?_; intro v1
  refine fm_xl ?_; intro v2
  exact fm_tl F_h (hk_kk_50) (fun _ _ z => z)
set_option maxRecDepth 4000 in
theorem fw_X13_frameIsThere_50 (nn : Nat) {qkk_6 : Int → Int → ms_M → Option (Int × ms_M)} (hk_kk_6 : ∀ {l2 : Int} {l3 : Int} {h : ms_M}, Fm_ (fun c k => nw_F wl_X13_frameIsThere wf_X13_frameIsThere false false c k = true) h (qkk_6 l2 l3 h) (fun r => r.2)) : ∀ (k : Nat) {l2 : Int} {l3 : Int} {l4 : Int} {l5 : Int} {h : ms_M}, Fm_ (fun c k => nw_F wl_X13_frameIsThere wf_X13_frameIsThere false false c k = true) h (qw_X13_frameIsThere_50 nn qkk_6 k l2 l3 l4 l5 h) (fun r => r.2) := by
  intro k
  induction k with
  | zero => intros; exact fm_no
  | succ k ih =>
    intro l2 l3 l4 l5 h
    unfold qw_X13_frameIsThere_50
    have F_h : ∀ c k : Nat, (fun c k => nw_F wl_X13_frameIsThere wf_X13_frameIsThere false false c k = true) c k → h c k = h c k := fun _ _ _ => rfl
    refine fm_if ?_ ?_
    · refine fm_xl ?_; intro v3
      exact fm_tl F_h (hk_kk_6) (fun _ _ z => z)
    · refine fm_ca F_h (ff_X13_framed nn) (nw_sub rfl) ?_; intro u5 F_u5
      refine fm_pu ?_; intro u6
      refine fm_if ?_ ?_
      · refine fm_pu ?_; intro u9
        refine fm_if ?_ ?_
        · exact fm_tl F_u5 (fj_X13_frameIsThere_89 nn hk_kk_6 ih) (fun _ _ z => z)
        · exact fm_tl F_u5 (fj_X13_frameIsThere_89 nn hk_kk_6 ih) (fun _ _ z => z)
      · exact fm_ret F_u5
set_option maxRecDepth 4000 in
theorem fj_X13_frameIsThere_39 (nn : Nat) {qkk_6 : Int → Int → ms_M → Option (Int × ms_M)} (hk_kk_6 : ∀ {l2 : Int} {l3 : Int} {h : ms_M}, Fm_ (fun c k => nw_F wl_X13_frameIsThere wf_X13_frameIsThere false false c k = true) h (qkk_6 l2 l3 h) (fun r => r.2)) {l2 : Int} {l3 : Int} {l4 : Int} {s0 : Int} {s1 : Int} {h : ms_M} : Fm_ (fun c k => nw_F wl_X13_frameIsThere wf_X13_frameIsThere false false c k = true) h (qj_X13_frameIsThere_39 nn qkk_6 l2 l3 l4 s0 s1 h) (fun r => r.2) := by
  unfold qj_X13_frameIsThere_39
  have F_h : ∀ c k : Nat, (fun c k => nw_F wl_X13_frameIsThere wf_X13_frameIsThere false false c k = true) c k → h c k = h c k := fun _ _ _ => rfl
  refine fm_if ?_ ?_
  · refine fm_xl ?_; intro v13
    exact fm_tl F_h (fw_X13_frameIsThere_50 nn hk_kk_6 _) (fun _ _ z => z)
  · exact fm_ret F_h
set_option maxRecDepth 4000 in
theorem fw_X13_frameIsThere_6 (nn : Nat) : ∀ (k : Nat) {l2 : Int} {l3 : Int} {h : ms_M}, Fm_ (fun c k => nw_F wl_X13_frameIsThere wf_X13_frameIsThere false false c k = true) h (qw_X13_frameIsThere_6 nn k l2 l3 h) (fun r => r.2) := by
  intro k
  induction k with
  | zero => intros; exact fm_no
  | succ k ih =>
    intro l2 l3 h
    unfold qw_X13_frameIsThere_6
    have F_h : ∀ c k : Nat, (fun c k => nw_F wl_X13_frameIsThere wf_X13_frameIsThere false false c k = true) c k → h c k = h c k := fun _ _ _ => rfl
    refine fm_if ?_ ?_
    · exact fm_ret F_h
    · refine fm_pu ?_; intro u17
      refine fm_if ?_ ?_
      · exact fm_tl F_h (fj_X13_frameIsThere_39 nn ih) (fun _ _ z => z)
      · exact fm_tl F_h (fj_X13_frameIsThere_39 nn ih) (fun _ _ z => z)
set_option maxRecDepth 4000 in
theorem ff_X13_frameIsThere (nn : Nat) {a1 : Int} {h : ms_M} : Fm_ (fun c k => nw_F wl_X13_frameIsThere wf_X13_frameIsThere false false c k = true) h (qf_X13_frameIsThere nn a1 h) (fun r => r.2) := by
  unfold qf_X13_frameIsThere
  have F_h : ∀ c k : Nat, (fun c k => nw_F wl_X13_frameIsThere wf_X13_frameIsThere false false c k = true) c k → h c k = h c k := fun _ _ _ => rfl
  refine fm_xl ?_; intro v22
  exact fm_tl F_h (fw_X13_frameIsThere_6 nn _) (fun _ _ z => z)
set_option maxRecDepth 4000 in
theorem fj_X13_handlerFits_94 (nn : Nat) {l1 : Int} {l4 : Int} {s0 : Int} {h : ms_M} : Fm_ (fun c k => nw_F wl_X13_handlerFits wf_X13_handlerFits false false c k = true) h (qj_X13_handlerFits_94 nn l1 l4 s0 h) (fun r => r.2) := by
  unfold qj_X13_handlerFits_94
  have F_h : ∀ c k : Nat, (fun c k => nw_F wl_X13_handlerFits wf_X13_handlerFits false false c k = true) c k → h c k = h c k := fun _ _ _ => rfl
  refine fm_xl ?_; intro v3
  refine fm_pu ?_; intro u5
  refine fm_ca F_h (ff_X13_typeOfClass nn) (nw_sub rfl) ?_; intro u7 F_u7
  refine fm_if ?_ ?_
  · exact fm_ret F_u7
  · refine fm_pu ?_; intro u9
    refine fm_if ?_ ?_
    · exact fm_ret F_u7
    · refine fm_pu ?_; intro u10
      refine fm_if ?_ ?_
      · exact fm_ret F_u7
      · refine fm_pu ?_; intro u12
        refine fm_if ?_ ?_
        · exact fm_ret F_u7
        · exact fm_ret F_u7
set_option maxRecDepth 4000 in
theorem fj_X13_handlerFits_93 (nn : Nat) {l1 : Int} {l4 : Int} {h : ms_M} : Fm_ (fun c k => nw_F wl_X13_handlerFits wf_X13_handlerFits false false c k = true) h (qj_X13_handlerFits_93 nn l1 l4 h) (fun r => r.2) := by
  unfold qj_X13_handlerFits_93
  have F_h : ∀ c k : Nat, (fun c k => nw_F wl_X13_handlerFits wf_X13_handlerFits false false c k = true) c k → h c k = h c k := fun _ _ _ => rfl
  exact fm_tl F_h (fj_X13_handlerFits_94 nn) (fun _ _ z => z)
set_option maxRecDepth 4000 in
theorem fj_X13_handlerFits_84 (nn : Nat) {l1 : Int} {l2 : Int} {l3 : Int} {l4 : Int} {h : ms_M} : Fm_ (fun c k => nw_F wl_X13_handlerFits wf_X13_handlerFits false false c k = true) h (qj_X13_handlerFits_84 nn l1 l2 l3 l4 h) (fun r => r.2) := by
  unfold qj_X13_handlerFits_84
  have F_h : ∀ c k : Nat, (fun c k => nw_F wl_X13_handlerFits wf_X13_handlerFits false false c k = true) c k → h c k = h c k := fun _ _ _ => rfl
  refine fm_if ?_ ?_
  · exact fm_tl F_h (fj_X13_handlerFits_93 nn) (fun _ _ z => z)
  · exact fm_tl F_h (fj_X13_handlerFits_94 nn) (fun _ _ z => z)
set_option maxRecDepth 4000 in
theorem ff_X13_handlerFits (nn : Nat) {a1 : Int} {h : ms_M} : Fm_ (fun c k => nw_F wl_X13_handlerFits wf_X13_handlerFits false false c k = true) h (qf_X13_handlerFits nn a1 h) (fun r => r.2) := by
  unfold qf_X13_handlerFits
  have F_h : ∀ c k : Nat, (fun c k => nw_F wl_X13_handlerFits wf_X13_handlerFits false false c k = true) c k → h c k = h c k := fun _ _ _ => rfl
  refine fm_pu ?_; intro u19
  refine fm_xl ?_; intro v20
  refine fm_pu ?_; intro u22
  refine fm_xl ?_; intro v23
  refine fm_pu ?_; intro u25
  refine fm_if ?_ ?_
  · exact fm_tl F_h (fj_X13_handlerFits_93 nn) (fun _ _ z => z)
  · refine fm_rd ?_; intro v28
    refine fm_if ?_ ?_
    · exact fm_tl F_h (fj_X13_handlerFits_93 nn) (fun _ _ z => z)
    · refine fm_if ?_ ?_
      · exact fm_tl F_h (fj_X13_handlerFits_93 nn) (fun _ _ z => z)
      · refine fm_rd ?_; intro v31
        refine fm_if ?_ ?_
        · exact fm_tl F_h (fj_X13_handlerFits_93 nn) (fun _ _ z => z)
        · refine fm_if ?_ ?_
          · exact fm_tl F_h (fj_X13_handlerFits_84 nn) (fun _ _ z => z)
          · refine fm_if ?_ ?_
            · exact fm_tl F_h (fj_X13_handlerFits_93 nn) (fun _ _ z => z)
            · refine fm_rd ?_; intro v35
              refine fm_if ?_ ?_
              · exact fm_tl F_h (fj_X13_handlerFits_93 nn) (fun _ _ z => z)
              · exact fm_tl F_h (fj_X13_handlerFits_84 nn) (fun _ _ z => z)
set_option maxRecDepth 4000 in
theorem fj_X13_methodFits_305 (nn : Nat) {l1 : Int} {l2 : Int} {l5 : Int} {h : ms_M} : Fm_ (fun c k => nw_F wl_X13_methodFits wf_X13_methodFits false false c k = true) h (qj_X13_methodFits_305 nn l1 l2 l5 h) (fun r => r.2) := by
  unfold qj_X13_methodFits_305
  have F_h : ∀ c k : Nat, (fun c k => nw_F wl_X13_methodFits wf_X13_methodFits false false c k = true) c k → h c k = h c k := fun _ _ _ => rfl
  refine fm_ca F_h (ff_X13_bad nn) (nw_sub rfl) ?_; intro u2 F_u2
  refine fm_ck ?_; intro _
  exact fm_ret F_u2
set_option maxRecDepth 4000 in
theorem fw_X13_methodFits_245 (nn : Nat) : ∀ (k : Nat) {l1 : Int} {l2 : Int} {l4 : Int} {l5 : Int} {h : ms_M}, Fm_ (fun c k => nw_F wl_X13_methodFits wf_X13_methodFits false false c k = true) h (qw_X13_methodFits_245 nn k l1 l2 l4 l5 h) (fun r => r.2) := by
  intro k
  induction k with
  | zero => intros; exact fm_no
  | succ k ih =>
    intro l1 l2 l4 l5 h
    unfold qw_X13_methodFits_245
    have F_h : ∀ c k : Nat, (fun c k => nw_F wl_X13_methodFits wf_X13_methodFits false false c k = true) c k → h c k = h c k := fun _ _ _ => rfl
    refine fm_pu ?_; intro u5
    refine fm_if ?_ ?_
    · refine fm_ca F_h (ff_X13_flows nn) (nw_sub rfl) ?_; intro u7 F_u7
      refine fm_ck ?_; intro _
      exact fm_ret F_u7
    · refine fm_pu ?_; intro u10
      refine fm_pu ?_; intro u12
      refine fm_if ?_ ?_
      · exact fm_tl F_h (fj_X13_methodFits_305 nn) (fun _ _ z => z)
      · refine fm_if ?_ ?_
        · exact fm_tl F_h (fj_X13_methodFits_305 nn) (fun _ _ z => z)
        · refine fm_rd ?_; intro v15
          refine fm_if ?_ ?_
          · exact fm_tl F_h (fj_X13_methodFits_305 nn) (fun _ _ z => z)
          · refine fm_ca F_h (ff_X13_frameIsThere nn) (nw_sub rfl) ?_; intro u17 F_u17
            refine fm_if ?_ ?_
            · refine fm_xl ?_; intro v18
              exact fm_tl F_u17 (ih ) (fun _ _ z => z)
            · exact fm_tl F_u17 (fj_X13_methodFits_305 nn) (fun _ _ z => z)
set_option maxRecDepth 4000 in
theorem fw_X13_methodFits_192 (nn : Nat) : ∀ (k : Nat) {l1 : Int} {l2 : Int} {l3 : Int} {l4 : Int} {h : ms_M}, Fm_ (fun c k => nw_F wl_X13_methodFits wf_X13_methodFits false false c k = true) h (qw_X13_methodFits_192 nn k l1 l2 l3 l4 h) (fun r => r.2) := by
  intro k
  induction k with
  | zero => intros; exact fm_no
  | succ k ih =>
    intro l1 l2 l3 l4 h
    unfold qw_X13_methodFits_192
    have F_h : ∀ c k : Nat, (fun c k => nw_F wl_X13_methodFits wf_X13_methodFits false false c k = true) c k → h c k = h c k := fun _ _ _ => rfl
    refine fm_pu ?_; intro u26
    refine fm_if ?_ ?_
    · exact fm_tl F_h (fw_X13_methodFits_245 nn _) (fun _ _ z => z)
    · refine fm_xl ?_; intro v27
      refine fm_xl ?_; intro v28
      refine fm_xl ?_; intro v29
      refine fm_ca F_h (ff_X13_handlerFits nn) (nw_sub rfl) ?_; intro u31 F_u31
      refine fm_if ?_ ?_
      · refine fm_xl ?_; intro v32
        exact fm_tl F_u31 (ih ) (fun _ _ z => z)
      · refine fm_ca F_u31 (ff_X13_bad nn) (nw_sub rfl) ?_; intro u34 F_u34
        refine fm_ck ?_; intro _
        exact fm_ret F_u34
set_option maxRecDepth 4000 in
theorem fj_X13_methodFits_160 (nn : Nat) {qkk_97 : Int → Int → Int → ms_M → Option (Int × ms_M)} (hk_kk_97 : ∀ {l1 : Int} {l2 : Int} {l3 : Int} {h : ms_M}, Fm_ (fun c k => nw_F wl_X13_methodFits wf_X13_methodFits false false c k = true) h (qkk_97 l1 l2 l3 h) (fun r => r.2)) {l1 : Int} {l2 : Int} {l3 : Int} {h : ms_M} : Fm_ (fun c k => nw_F wl_X13_methodFits wf_X13_methodFits false false c k = true) h (qj_X13_methodFits_160 nn qkk_97 l1 l2 l3 h) (fun r => r.2) := by
  unfold qj_X13_methodFits_160
  have F_h : ∀ c k : Nat, (fun c k => nw_F wl_X13_methodFits wf_X13_methodFits false false c k = true) c k → h c k = h c k := fun _ _ _ => rfl
  refine fm_pu ?_; intro u39
  refine fm_pu ?_; intro u40
  refine fm_xl ?_; intro v41
  exact fm_tl F_h (hk_kk_97) (fun _ _ z => z)
set_option maxRecDepth 4000 in
theorem fj_X13_methodFits_150 (nn : Nat) {l1 : Int} {l2 : Int} {l3 : Int} {h : ms_M} : Fm_ (fun c k => nw_F wl_X13_methodFits wf_X13_methodFits false false c k = true) h (qj_X13_methodFits_150 nn l1 l2 l3 h) (fun r => r.2) := by
  unfold qj_X13_methodFits_150
  have F_h : ∀ c k : Nat, (fun c k => nw_F wl_X13_methodFits wf_X13_methodFits false false c k = true) c k → h c k = h c k := fun _ _ _ => rfl
  refine fm_ca F_h (ff_X13_bad nn) (nw_sub rfl) ?_; intro u43 F_u43
  refine fm_ck ?_; intro _
  exact fm_ret F_u43
set_option maxRecDepth 4000 in
theorem fw_X13_methodFits_97 (nn : Nat) : ∀ (k : Nat) {l1 : Int} {l2 : Int} {l3 : Int} {h : ms_M}, Fm_ (fun c k => nw_F wl_X13_methodFits wf_X13_methodFits false false c k = true) h (qw_X13_methodFits_97 nn k l1 l2 l3 h) (fun r => r.2) := by
  intro k
  induction k with
  | zero => intros; exact fm_no
  | succ k ih =>
    intro l1 l2 l3 h
    unfold qw_X13_methodFits_97
    have F_h : ∀ c k : Nat, (fun c k => nw_F wl_X13_methodFits wf_X13_methodFits false false c k = true) c k → h c k = h c k := fun _ _ _ => rfl
    refine fm_if ?_ ?_
    · refine fm_xl ?_; intro v48
      refine fm_xl ?_; intro v49
      refine fm_rd ?_; intro v50
      exact fm_tl F_h (fw_X13_methodFits_192 nn _) (fun _ _ z => z)
    · refine fm_pu ?_; intro u52
      refine fm_pu ?_; intro u53
      refine fm_if ?_ ?_
      · refine fm_pu ?_; intro u55
        refine fm_if ?_ ?_
        · exact fm_tl F_h (fj_X13_methodFits_150 nn) (fun _ _ z => z)
        · refine fm_if ?_ ?_
          · exact fm_tl F_h (fj_X13_methodFits_150 nn) (fun _ _ z => z)
          · refine fm_rd ?_; intro v58
            refine fm_if ?_ ?_
            · exact fm_tl F_h (fj_X13_methodFits_160 nn ih) (fun _ _ z => z)
            · exact fm_tl F_h (fj_X13_methodFits_150 nn) (fun _ _ z => z)
      · exact fm_tl F_h (fj_X13_methodFits_160 nn ih) (fun _ _ z => z)
set_option maxRecDepth 4000 in
theorem fj_X13_methodFits_64 (nn : Nat) {l1 : Int} {l2 : Int} {l3 : Int} {h : ms_M} : Fm_ (fun c k => nw_F wl_X13_methodFits wf_X13_methodFits false false c k = true) h (qj_X13_methodFits_64 nn l1 l2 l3 h) (fun r => r.2) := by
  unfold qj_X13_methodFits_64
  have F_h : ∀ c k : Nat, (fun c k => nw_F wl_X13_methodFits wf_X13_methodFits false false c k = true) c k → h c k = h c k := fun _ _ _ => rfl
  refine fm_ca F_h (ff_X13_bad nn) (nw_sub rfl) ?_; intro u65 F_u65
  refine fm_ck ?_; intro _
  exact fm_ret F_u65
set_option maxRecDepth 4000 in
theorem fw_X13_methodFits_30 (nn : Nat) : ∀ (k : Nat) {l1 : Int} {l2 : Int} {l3 : Int} {h : ms_M}, Fm_ (fun c k => nw_F wl_X13_methodFits wf_X13_methodFits false false c k = true) h (qw_X13_methodFits_30 nn k l1 l2 l3 h) (fun r => r.2) := by
  intro k
  induction k with
  | zero => intros; exact fm_no
  | succ k ih =>
    intro l1 l2 l3 h
    unfold qw_X13_methodFits_30
    have F_h : ∀ c k : Nat, (fun c k => nw_F wl_X13_methodFits wf_X13_methodFits false false c k = true) c k → h c k = h c k := fun _ _ _ => rfl
    refine fm_if ?_ ?_
    · exact fm_tl F_h (fw_X13_methodFits_97 nn _) (fun _ _ z => z)
    · refine fm_pu ?_; intro u69
      refine fm_pu ?_; intro u70
      refine fm_if ?_ ?_
      · exact fm_tl F_h (fj_X13_methodFits_64 nn) (fun _ _ z => z)
      · refine fm_xl ?_; intro v71
        refine fm_if ?_ ?_
        · refine fm_wZ F_h (nw_ne rfl) ?_; intro h74 F_h74
          refine fm_pu ?_; intro u76
          refine fm_pu ?_; intro u77
          refine fm_xl ?_; intro v78
          exact fm_tl F_h74 (ih ) (fun _ _ z => z)
        · exact fm_tl F_h (fj_X13_methodFits_64 nn) (fun _ _ z => z)
set_option maxRecDepth 4000 in
theorem fw_X13_methodFits_8 (nn : Nat) : ∀ (k : Nat) {l1 : Int} {l2 : Int} {l3 : Int} {h : ms_M}, Fm_ (fun c k => nw_F wl_X13_methodFits wf_X13_methodFits false false c k = true) h (qw_X13_methodFits_8 nn k l1 l2 l3 h) (fun r => r.2) := by
  intro k
  induction k with
  | zero => intros; exact fm_no
  | succ k ih =>
    intro l1 l2 l3 h
    unfold qw_X13_methodFits_8
    have F_h : ∀ c k : Nat, (fun c k => nw_F wl_X13_methodFits wf_X13_methodFits false false c k = true) c k → h c k = h c k := fun _ _ _ => rfl
    refine fm_if ?_ ?_
    · exact fm_tl F_h (fw_X13_methodFits_30 nn _) (fun _ _ z => z)
    · refine fm_wZ F_h (nw_ne rfl) ?_; intro h83 F_h83
      refine fm_xl ?_; intro v84
      exact fm_tl F_h83 (ih ) (fun _ _ z => z)
set_option maxRecDepth 4000 in
theorem ff_X13_methodFits (nn : Nat) {a1 : Int} {a2 : Int} {h : ms_M} : Fm_ (fun c k => nw_F wl_X13_methodFits wf_X13_methodFits false false c k = true) h (qf_X13_methodFits nn a1 a2 h) (fun r => r.2) := by
  unfold qf_X13_methodFits
  have F_h : ∀ c k : Nat, (fun c k => nw_F wl_X13_methodFits wf_X13_methodFits false false c k = true) c k → h c k = h c k := fun _ _ _ => rfl
  refine fm_ca F_h (ff_X13_at_ nn) (nw_sub rfl) ?_; intro u87 F_u87
  exact fm_tl F_u87 (fw_X13_methodFits_8 nn _) (fun _ _ z => z)
set_option maxRecDepth 4000 in
theorem fj_X13_verify_103 (nn : Nat) {l1 : Int} {h : ms_M} : Fm_ (fun c k => nw_F wl_X13_verify wf_X13_verify false false c k = true) h (qj_X13_verify_103 nn l1 h) (fun r => r.2) := by
  unfold qj_X13_verify_103
  have F_h : ∀ c k : Nat, (fun c k => nw_F wl_X13_verify wf_X13_verify false false c k = true) c k → h c k = h c k := fun _ _ _ => rfl
  refine fm_ck ?_; intro _
  refine fm_up F_h (nw_nf rfl) ?_; intro h2 F_h2
  exact fm_ret F_h2
set_option maxRecDepth 4000 in
theorem fw_X13_verify_67 (nn : Nat) {qkk_50 : Int → Int → ms_M → Option (Int × ms_M)} (hk_kk_50 : ∀ {l1 : Int} {l2 : Int} {h : ms_M}, Fm_ (fun c k => nw_F wl_X13_verify wf_X13_verify false false c k = true) h (qkk_50 l1 l2 h) (fun r => r.2)) : ∀ (k : Nat) {l1 : Int} {l2 : Int} {l3 : Int} {h : ms_M}, Fm_ (fun c k => nw_F wl_X13_verify wf_X13_verify false false c k = true) h (qw_X13_verify_67 nn qkk_50 k l1 l2 l3 h) (fun r => r.2) := by
  intro k
  induction k with
  | zero => intros; exact fm_no
  | succ k ih =>
    intro l1 l2 l3 h
    unfold qw_X13_verify_67
    have F_h : ∀ c k : Nat, (fun c k => nw_F wl_X13_verify wf_X13_verify false false c k = true) c k → h c k = h c k := fun _ _ _ => rfl
    refine fm_xl ?_; intro v5
    refine fm_rd ?_; intro v6
    refine fm_if ?_ ?_
    · refine fm_xl ?_; intro v7
      exact fm_tl F_h (hk_kk_50) (fun _ _ z => z)
    · refine fm_if ?_ ?_
      · refine fm_xl ?_; intro v8
        exact fm_tl F_h (hk_kk_50) (fun _ _ z => z)
      · refine fm_ca F_h (ff_X13_methodFits nn) (nw_sub rfl) ?_; intro u10 F_u10
        refine fm_xl ?_; intro v11
        exact fm_tl F_u10 (ih ) (fun _ _ z => z)
set_option maxRecDepth 4000 in
theorem fw_X13_verify_50 (nn : Nat) : ∀ (k : Nat) {l1 : Int} {l2 : Int} {h : ms_M}, Fm_ (fun c k => nw_F wl_X13_verify wf_X13_verify false false c k = true) h (qw_X13_verify_50 nn k l1 l2 h) (fun r => r.2) := by
  intro k
  induction k with
  | zero => intros; exact fm_no
  | succ k ih =>
    intro l1 l2 h
    unfold qw_X13_verify_50
    have F_h : ∀ c k : Nat, (fun c k => nw_F wl_X13_verify wf_X13_verify false false c k = true) c k → h c k = h c k := fun _ _ _ => rfl
    refine fm_xl ?_; intro v15
    refine fm_if ?_ ?_
    · exact fm_tl F_h (fj_X13_verify_103 nn) (fun _ _ z => z)
    · refine fm_if ?_ ?_
      · exact fm_tl F_h (fj_X13_verify_103 nn) (fun _ _ z => z)
      · exact fm_tl F_h (fw_X13_verify_67 nn ih _) (fun _ _ z => z)
set_option maxRecDepth 4000 in
theorem fw_X13_verify_20 (nn : Nat) : ∀ (k : Nat) {l1 : Int} {l2 : Int} {h : ms_M}, Fm_ (fun c k => nw_F wl_X13_verify wf_X13_verify false false c k = true) h (qw_X13_verify_20 nn k l1 l2 h) (fun r => r.2) := by
  intro k
  induction k with
  | zero => intros; exact fm_no
  | succ k ih =>
    intro l1 l2 h
    unfold qw_X13_verify_20
    have F_h : ∀ c k : Nat, (fun c k => nw_F wl_X13_verify wf_X13_verify false false c k = true) c k → h c k = h c k := fun _ _ _ => rfl
    refine fm_xl ?_; intro v19
    refine fm_if ?_ ?_
    · exact fm_tl F_h (fw_X13_verify_50 nn _) (fun _ _ z => z)
    · refine fm_if ?_ ?_
      · exact fm_tl F_h (fw_X13_verify_50 nn _) (fun _ _ z => z)
      · refine fm_ca F_h (ff_X13_classFits nn) (nw_sub rfl) ?_; intro u21 F_u21
        refine fm_xl ?_; intro v22
        exact fm_tl F_u21 (ih ) (fun _ _ z => z)
set_option maxRecDepth 4000 in
theorem ff_X13_verify (nn : Nat) {h : ms_M} : Fm_ (fun c k => nw_F wl_X13_verify wf_X13_verify false false c k = true) h (qf_X13_verify nn h) (fun r => r.2) := by
  unfold qf_X13_verify
  have F_h : ∀ c k : Nat, (fun c k => nw_F wl_X13_verify wf_X13_verify false false c k = true) c k → h c k = h c k := fun _ _ _ => rfl
  refine fm_up F_h (nw_nf rfl) ?_; intro h25 F_h25
  refine fm_up F_h25 (nw_nf rfl) ?_; intro h26 F_h26
  refine fm_up F_h26 (nw_nf rfl) ?_; intro h27 F_h27
  exact fm_tl F_h27 (fw_X13_verify_20 nn _) (fun _ _ z => z)

/- PARSE: behind a FAULT it stays (class, reference) -/
def FSc (h r : ms_M) : Prop := r 2 11 = h 2 11 ∧ r 2 12 = h 2 12
def FSr (h r : ms_M) : Prop := r 160 9 = h 160 9 ∧ r 160 10 = h 160 10
section
variable {nn : Nat} {h g r : ms_M}
theorem fs_r : FSc h h := ⟨rfl, rfl⟩
theorem ft_r : FSr h h := ⟨rfl, rfl⟩
theorem fs_t (A : FSc h g) (B : FSc g r) : FSc h r := ⟨B.1.trans A.1, B.2.trans A.2⟩
theorem ft_t (A : FSr h g) (B : FSr g r) : FSr h r := ⟨B.1.trans A.1, B.2.trans A.2⟩
theorem fs_n (S : ¬ h 2 11 = 0) (F : FSc h g) : ¬ g 2 11 = 0 := by rw [F.1]; exact S
theorem ft_n (S : ¬ h 160 9 = 0) (F : FSr h g) : ¬ g 160 9 = 0 := by rw [F.1]; exact S
theorem fs_u {c k : Nat} {v : Int} (F : FSc h g) (q : ¬ c = 2 ∨ k < 11 ∨ 12 < k) : FSc h (up_M g c k v) := ⟨by rw [up_n (by omega)]; exact F.1, by rw [up_n (by omega)]; exact F.2⟩
theorem ft_u {c k : Nat} {v : Int} (F : FSr h g) (q : ¬ c = 160 ∨ k < 9 ∨ 10 < k) : FSr h (up_M g c k v) := ⟨by rw [up_n (by omega)]; exact F.1, by rw [up_n (by omega)]; exact F.2⟩
theorem fs_c {a b sp dp n : Nat} (F : FSc h g) (q : ¬ 2 = b) : FSc h (cp_M g a sp b dp n) := ⟨by rw [cp_ne q]; exact F.1, by rw [cp_ne q]; exact F.2⟩
theorem fs_qf_X9_tell {a1 a2 : Int} (S : ¬ h 2 11 = 0) : Pc (qf_X9_tell nn a1 a2 h) (fun u => FSc h u) := by
  unfold qf_X9_tell
  exact pc_if (fun _ => pc_ret fs_r) (fun z => absurd S z)
theorem fs_qf_X9_tellHere {a1 : Int} (S : ¬ h 2 11 = 0) : Pc (qf_X9_tellHere nn a1 h) (fun u => FSc h u) := by
  unfold qf_X9_tellHere
  exact pc_if (fun _ => pc_ret fs_r) (fun z => absurd S z)
theorem ft_qf_X13_wrong {a1 a2 : Int} (S : ¬ h 160 9 = 0) : Pc (qf_X13_wrong nn a1 a2 h) (fun u => FSr h u) := by
  unfold qf_X13_wrong
  exact pc_if (fun z => absurd z S) (fun _ => pc_ret ft_r)
theorem fs_qf_X8_accept {a1 : Int} {h : ms_M} (S : ¬ h 2 11 = 0) : Pc (qf_X8_accept nn a1 h) (fun u => FSc h u.2) := by
  have F : FSc h h := fs_r
  unfold qf_X8_accept
  refine pc_se ?_; intro u3 _
  refine pc_if (fun _ => ?_) (fun _ => ?_)
  · refine pc_xl ?_; intro v6 _
    refine pc_xl ?_; intro h7 Eh7
    have Fh7 : FSc h h7 := by rw [Eh7]; exact fs_u F (by omega)
    exact pc_ret Fh7
  · exact pc_ret F
theorem fs_qf_X8_need {a1 : Int} {h : ms_M} (S : ¬ h 2 11 = 0) : Pc (qf_X8_need nn a1 h) (fun u => FSc h u) := by
  have F : FSc h h := fs_r
  unfold qf_X8_need
  refine pc_se ?_; intro u3 _
  refine pc_if (fun _ => ?_) (fun _ => ?_)
  · refine pc_sv (fs_qf_X9_tellHere (fs_n S F)) ?_; intro u6 Qu6
    have Fu6 : FSc h u6 := fs_t F Qu6
    exact pc_ret Fu6
  · refine pc_xl ?_; intro v9 _
    refine pc_xl ?_; intro h10 Eh10
    have Fh10 : FSc h h10 := by rw [Eh10]; exact fs_u F (by omega)
    exact pc_ret Fh10
theorem fs_qj_X8_tooDeep_14 {h : ms_M} (S : ¬ h 2 11 = 0) : Pc (qj_X8_tooDeep_14 nn h) (fun u => FSc h u.2) := by
  have F : FSc h h := fs_r
  unfold qj_X8_tooDeep_14
  refine pc_if (fun _ => ?_) (fun _ => ?_)
  · exact pc_ret F
  · exact pc_ret F
theorem fs_qf_X8_tooDeep {a1 : Int} {h : ms_M} (S : ¬ h 2 11 = 0) : Pc (qf_X8_tooDeep nn a1 h) (fun u => FSc h u.2) := by
  have F : FSc h h := fs_r
  unfold qf_X8_tooDeep
  refine pc_if (fun _ => ?_) (fun _ => ?_)
  · exact pc_imp (fs_qj_X8_tooDeep_14 (fs_n S F)) (fun _ q => fs_t F q)
  · refine pc_sv (fs_qf_X9_tellHere (fs_n S F)) ?_; intro u6 Qu6
    have Fu6 : FSc h u6 := fs_t F Qu6
    exact pc_imp (fs_qj_X8_tooDeep_14 (fs_n S Fu6)) (fun _ q => fs_t Fu6 q)
def FScG_X8_readValue (rc : tq_X8_readValue) : Prop := (∀ {a1 : Int} {h : ms_M}, ¬ h 2 11 = 0 → Pc (rc.1 a1 h) (fun u => FSc h u)) ∧ (∀ {a1 : Int} {h : ms_M}, ¬ h 2 11 = 0 → Pc (rc.2.1 a1 h) (fun u => FSc h u)) ∧ (∀ {a1 : Int} {h : ms_M}, ¬ h 2 11 = 0 → Pc (rc.2.2.1 a1 h) (fun u => FSc h u)) ∧ (∀ {a1 : Int} {h : ms_M}, ¬ h 2 11 = 0 → Pc (rc.2.2.2.1 a1 h) (fun u => FSc h u)) ∧ (∀ {a1 : Int} {h : ms_M}, ¬ h 2 11 = 0 → Pc (rc.2.2.2.2.1 a1 h) (fun u => FSc h u)) ∧ (∀ {a1 : Int} {h : ms_M}, ¬ h 2 11 = 0 → Pc (rc.2.2.2.2.2 a1 h) (fun u => FSc h u))
theorem fs_qj_X8_readValue_88 {rc : tq_X8_readValue} {l1 : Int} (G : FScG_X8_readValue rc) {h : ms_M} (S : ¬ h 2 11 = 0) : Pc (qj_X8_readValue_88 nn rc l1 h) (fun u => FSc h u) := by
  have F : FSc h h := fs_r
  unfold qj_X8_readValue_88
  refine pc_sv (fs_qf_X8_accept (fs_n S F)) ?_; intro u2 Qu2
  have Fu2 : FSc h u2.2 := fs_t F Qu2
  refine pc_if (fun _ => ?_) (fun _ => ?_)
  · exact pc_ret Fu2
  · refine pc_xl ?_; intro v3 _
    refine pc_sv (G.1 (fs_n S Fu2)) ?_; intro u5 Qu5
    have Fu5 : FSc h u5 := fs_t Fu2 Qu5
    refine pc_sv (fs_qf_X8_need (fs_n S Fu5)) ?_; intro u7 Qu7
    have Fu7 : FSc h u7 := fs_t Fu5 Qu7
    refine pc_xl ?_; intro v8 _
    refine pc_sv (G.1 (fs_n S Fu7)) ?_; intro u10 Qu10
    have Fu10 : FSc h u10 := fs_t Fu7 Qu10
    exact pc_ret Fu10
theorem fs_qj_X8_readValue_49 {rc : tq_X8_readValue} {l1 : Int} {l3 : Int} {s0 : Int} (G : FScG_X8_readValue rc) {qkk_20 : Int → Int → Int → ms_M → Option ms_M} (Hqkk_20 : ∀ (z0 : Int) (z1 : Int) (z2 : Int) (z3 : ms_M), ¬ z3 2 11 = 0 → Pc (qkk_20 z0 z1 z2 z3) (fun u => FSc z3 u)) {h : ms_M} (S : ¬ h 2 11 = 0) : Pc (qj_X8_readValue_49 nn rc qkk_20 l1 l3 s0 h) (fun u => FSc h u) := by
  have F : FSc h h := fs_r
  unfold qj_X8_readValue_49
  refine pc_if (fun _ => ?_) (fun _ => ?_)
  · refine pc_sv (fs_qf_X8_need (fs_n S F)) ?_; intro u13 Qu13
    have Fu13 : FSc h u13 := fs_t F Qu13
    refine pc_xl ?_; intro v14 _
    exact pc_imp (Hqkk_20 _ _ _ _ (fs_n S Fu13)) (fun _ q => fs_t Fu13 q)
  · refine pc_xl ?_; intro v17 _
    refine pc_xl ?_; intro h18 Eh18
    have Fh18 : FSc h h18 := by rw [Eh18]; exact fs_u F (by omega)
    refine pc_xl ?_; intro v19 _
    refine pc_sv (G.2.1 (fs_n S Fh18)) ?_; intro u21 Qu21
    have Fu21 : FSc h u21 := fs_t Fh18 Qu21
    refine pc_xl ?_; intro v22 _
    exact pc_imp (Hqkk_20 _ _ _ _ (fs_n S Fu21)) (fun _ q => fs_t Fu21 q)
theorem fs_qw_X8_readValue_20 {rc : tq_X8_readValue} (G : FScG_X8_readValue rc) : ∀ (k : Nat) (l1 : Int) (l2 : Int) (l3 : Int) (h : ms_M), ¬ h 2 11 = 0 → Pc (qw_X8_readValue_20 nn rc k l1 l2 l3 h) (fun u => FSc h u) := by
  intro k
  induction k with
  | zero => intros; exact pc_none
  | succ k ih =>
    intro l1 l2 l3 h S
    have F : FSc h h := fs_r
    unfold qw_X8_readValue_20
    refine pc_if (fun _ => ?_) (fun _ => ?_)
    · exact pc_imp (fs_qj_X8_readValue_88 G (fs_n S F)) (fun _ q => fs_t F q)
    · refine pc_se ?_; intro u25 _
      refine pc_if (fun _ => ?_) (fun _ => ?_)
      · exact pc_imp (fs_qj_X8_readValue_88 G (fs_n S F)) (fun _ q => fs_t F q)
      · refine pc_sv (fs_qf_X8_accept (fs_n S F)) ?_; intro u27 Qu27
        have Fu27 : FSc h u27.2 := fs_t F Qu27
        refine pc_if (fun _ => ?_) (fun _ => ?_)
        · exact pc_imp (fs_qj_X8_readValue_49 G (fun _ _ _ _ S => ih _ _ _ _ S) (fs_n S Fu27)) (fun _ q => fs_t Fu27 q)
        · exact pc_imp (fs_qj_X8_readValue_49 G (fun _ _ _ _ S => ih _ _ _ _ S) (fs_n S Fu27)) (fun _ q => fs_t Fu27 q)
theorem fs_qo_X8_readValue {rc : tq_X8_readValue} {a1 : Int} (G : FScG_X8_readValue rc) {h : ms_M} (S : ¬ h 2 11 = 0) : Pc (qo_X8_readValue nn rc a1 h) (fun u => FSc h u) := by
  have F : FSc h h := fs_r
  unfold qo_X8_readValue
  refine pc_sv (fs_qf_X8_tooDeep (fs_n S F)) ?_; intro u32 Qu32
  have Fu32 : FSc h u32.2 := fs_t F Qu32
  refine pc_if (fun _ => ?_) (fun _ => ?_)
  · refine pc_xl ?_; intro v33 _
    refine pc_sv (G.2.1 (fs_n S Fu32)) ?_; intro u35 Qu35
    have Fu35 : FSc h u35 := fs_t Fu32 Qu35
    exact pc_imp (fs_qw_X8_readValue_20 G _ _ _ _ _ (fs_n S Fu35)) (fun _ q => fs_t Fu35 q)
  · exact pc_ret Fu32
theorem fs_qj_X8_readUnary_70 {rc : tq_X8_readValue} {l1 : Int} {s0 : Int} {s1 : Int} (G : FScG_X8_readValue rc) {h : ms_M} (S : ¬ h 2 11 = 0) : Pc (qj_X8_readUnary_70 nn rc l1 s0 s1 h) (fun u => FSc h u) := by
  have F : FSc h h := fs_r
  unfold qj_X8_readUnary_70
  refine pc_xl ?_; intro v1 _
  refine pc_xl ?_; intro h2 Eh2
  have Fh2 : FSc h h2 := by rw [Eh2]; exact fs_u F (by omega)
  refine pc_xl ?_; intro v3 _
  refine pc_sv (G.2.1 (fs_n S Fh2)) ?_; intro u5 Qu5
  have Fu5 : FSc h u5 := fs_t Fh2 Qu5
  exact pc_ret Fu5
theorem fs_qj_X8_readUnary_44 {rc : tq_X8_readValue} {l1 : Int} {l3 : Int} (G : FScG_X8_readValue rc) {h : ms_M} (S : ¬ h 2 11 = 0) : Pc (qj_X8_readUnary_44 nn rc l1 l3 h) (fun u => FSc h u) := by
  have F : FSc h h := fs_r
  unfold qj_X8_readUnary_44
  refine pc_sv (fs_qf_X8_tooDeep (fs_n S F)) ?_; intro u7 Qu7
  have Fu7 : FSc h u7.2 := fs_t F Qu7
  refine pc_if (fun _ => ?_) (fun _ => ?_)
  · refine pc_if (fun _ => ?_) (fun _ => ?_)
    · exact pc_imp (fs_qj_X8_readUnary_70 G (fs_n S Fu7)) (fun _ q => fs_t Fu7 q)
    · exact pc_imp (fs_qj_X8_readUnary_70 G (fs_n S Fu7)) (fun _ q => fs_t Fu7 q)
  · exact pc_ret Fu7
theorem fs_qo_X8_readUnary {rc : tq_X8_readValue} {a1 : Int} (G : FScG_X8_readValue rc) {h : ms_M} (S : ¬ h 2 11 = 0) : Pc (qo_X8_readUnary nn rc a1 h) (fun u => FSc h u) := by
  have F : FSc h h := fs_r
  unfold qo_X8_readUnary
  refine pc_se ?_; intro u14 _
  refine pc_se ?_; intro u17 _
  refine pc_if (fun _ => ?_) (fun _ => ?_)
  · exact pc_imp (fs_qj_X8_readUnary_44 G (fs_n S F)) (fun _ q => fs_t F q)
  · refine pc_if (fun _ => ?_) (fun _ => ?_)
    · exact pc_imp (fs_qj_X8_readUnary_44 G (fs_n S F)) (fun _ q => fs_t F q)
    · refine pc_if (fun _ => ?_) (fun _ => ?_)
      · exact pc_imp (fs_qj_X8_readUnary_44 G (fs_n S F)) (fun _ q => fs_t F q)
      · refine pc_if (fun _ => ?_) (fun _ => ?_)
        · exact pc_imp (fs_qj_X8_readUnary_44 G (fs_n S F)) (fun _ q => fs_t F q)
        · refine pc_sv (G.2.2.1 (fs_n S F)) ?_; intro u19 Qu19
          have Fu19 : FSc h u19 := fs_t F Qu19
          exact pc_ret Fu19
theorem fs_qj_X8_readPrimary_160 {rc : tq_X8_readValue} {l1 : Int} (G : FScG_X8_readValue rc) {h : ms_M} (S : ¬ h 2 11 = 0) : Pc (qj_X8_readPrimary_160 nn rc l1 h) (fun u => FSc h u) := by
  have F : FSc h h := fs_r
  unfold qj_X8_readPrimary_160
  refine pc_sv (G.2.2.2.1 (fs_n S F)) ?_; intro u2 Qu2
  have Fu2 : FSc h u2 := fs_t F Qu2
  exact pc_ret Fu2
theorem fs_qj_X8_readPrimary_80 {rc : tq_X8_readValue} {l1 : Int} (G : FScG_X8_readValue rc) {h : ms_M} (S : ¬ h 2 11 = 0) : Pc (qj_X8_readPrimary_80 nn rc l1 h) (fun u => FSc h u) := by
  have F : FSc h h := fs_r
  unfold qj_X8_readPrimary_80
  refine pc_xl ?_; intro v5 _
  refine pc_xl ?_; intro h6 Eh6
  have Fh6 : FSc h h6 := by rw [Eh6]; exact fs_u F (by omega)
  exact pc_imp (fs_qj_X8_readPrimary_160 G (fs_n S Fh6)) (fun _ q => fs_t Fh6 q)
theorem fs_qo_X8_readPrimary {rc : tq_X8_readValue} {a1 : Int} (G : FScG_X8_readValue rc) {h : ms_M} (S : ¬ h 2 11 = 0) : Pc (qo_X8_readPrimary nn rc a1 h) (fun u => FSc h u) := by
  have F : FSc h h := fs_r
  unfold qo_X8_readPrimary
  refine pc_se ?_; intro u9 _
  refine pc_if (fun _ => ?_) (fun _ => ?_)
  · refine pc_xl ?_; intro v15 _
    refine pc_xl ?_; intro h16 Eh16
    have Fh16 : FSc h h16 := by rw [Eh16]; exact fs_u F (by omega)
    refine pc_sv (G.2.2.2.2.2 (fs_n S Fh16)) ?_; intro u18 Qu18
    have Fu18 : FSc h u18 := fs_t Fh16 Qu18
    exact pc_imp (fs_qj_X8_readPrimary_160 G (fs_n S Fu18)) (fun _ q => fs_t Fu18 q)
  · refine pc_if (fun _ => ?_) (fun _ => ?_)
    · exact pc_imp (fs_qj_X8_readPrimary_80 G (fs_n S F)) (fun _ q => fs_t F q)
    · refine pc_if (fun _ => ?_) (fun _ => ?_)
      · exact pc_imp (fs_qj_X8_readPrimary_80 G (fs_n S F)) (fun _ q => fs_t F q)
      · refine pc_if (fun _ => ?_) (fun _ => ?_)
        · refine pc_sv (G.2.2.2.2.1 (fs_n S F)) ?_; intro u20 Qu20
          have Fu20 : FSc h u20 := fs_t F Qu20
          exact pc_imp (fs_qj_X8_readPrimary_160 G (fs_n S Fu20)) (fun _ q => fs_t Fu20 q)
        · refine pc_if (fun _ => ?_) (fun _ => ?_)
          · exact pc_imp (fs_qj_X8_readPrimary_80 G (fs_n S F)) (fun _ q => fs_t F q)
          · refine pc_if (fun _ => ?_) (fun _ => ?_)
            · exact pc_imp (fs_qj_X8_readPrimary_80 G (fs_n S F)) (fun _ q => fs_t F q)
            · refine pc_if (fun _ => ?_) (fun _ => ?_)
              · exact pc_imp (fs_qj_X8_readPrimary_80 G (fs_n S F)) (fun _ q => fs_t F q)
              · refine pc_if (fun _ => ?_) (fun _ => ?_)
                · refine pc_xl ?_; intro v23 _
                  refine pc_xl ?_; intro h24 Eh24
                  have Fh24 : FSc h h24 := by rw [Eh24]; exact fs_u F (by omega)
                  refine pc_sv (G.1 (fs_n S Fh24)) ?_; intro u26 Qu26
                  have Fu26 : FSc h u26 := fs_t Fh24 Qu26
                  refine pc_sv (fs_qf_X8_need (fs_n S Fu26)) ?_; intro u28 Qu28
                  have Fu28 : FSc h u28 := fs_t Fu26 Qu28
                  exact pc_imp (fs_qj_X8_readPrimary_160 G (fs_n S Fu28)) (fun _ q => fs_t Fu28 q)
                · refine pc_sv (fs_qf_X9_tellHere (fs_n S F)) ?_; intro u12 Qu12
                  have Fu12 : FSc h u12 := fs_t F Qu12
                  exact pc_imp (fs_qj_X8_readPrimary_160 G (fs_n S Fu12)) (fun _ q => fs_t Fu12 q)
theorem fs_qw_X8_readBehind_4 {rc : tq_X8_readValue} (G : FScG_X8_readValue rc) : ∀ (k : Nat) (l1 : Int) (l2 : Int) (l3 : Int) (h : ms_M), ¬ h 2 11 = 0 → Pc (qw_X8_readBehind_4 nn rc k l1 l2 l3 h) (fun u => FSc h u) := by
  intro k
  induction k with
  | zero => intros; exact pc_none
  | succ k ih =>
    intro l1 l2 l3 h S
    have F : FSc h h := fs_r
    unfold qw_X8_readBehind_4
    refine pc_if (fun _ => ?_) (fun _ => ?_)
    · exact pc_ret F
    · refine pc_if (fun _ => ?_) (fun _ => ?_)
      · exact pc_ret F
      · refine pc_sv (fs_qf_X8_accept (fs_n S F)) ?_; intro u2 Qu2
        have Fu2 : FSc h u2.2 := fs_t F Qu2
        refine pc_if (fun _ => ?_) (fun _ => ?_)
        · refine pc_sv (fs_qf_X8_accept (fs_n S Fu2)) ?_; intro u4 Qu4
          have Fu4 : FSc h u4.2 := fs_t Fu2 Qu4
          refine pc_if (fun _ => ?_) (fun _ => ?_)
          · refine pc_xl ?_; intro v5 _
            exact pc_imp (ih _ _ _ _ (fs_n S Fu4)) (fun _ q => fs_t Fu4 q)
          · refine pc_sv (G.1 (fs_n S Fu4)) ?_; intro u7 Qu7
            have Fu7 : FSc h u7 := fs_t Fu4 Qu7
            refine pc_sv (fs_qf_X8_need (fs_n S Fu7)) ?_; intro u9 Qu9
            have Fu9 : FSc h u9 := fs_t Fu7 Qu9
            refine pc_xl ?_; intro v10 _
            exact pc_imp (ih _ _ _ _ (fs_n S Fu9)) (fun _ q => fs_t Fu9 q)
        · refine pc_sv (fs_qf_X8_need (fs_n S Fu2)) ?_; intro u13 Qu13
          have Fu13 : FSc h u13 := fs_t Fu2 Qu13
          refine pc_sv (G.2.2.2.2.2 (fs_n S Fu13)) ?_; intro u15 Qu15
          have Fu15 : FSc h u15 := fs_t Fu13 Qu15
          refine pc_xl ?_; intro v16 _
          exact pc_imp (ih _ _ _ _ (fs_n S Fu15)) (fun _ q => fs_t Fu15 q)
theorem fs_qo_X8_readBehind {rc : tq_X8_readValue} {a1 : Int} (G : FScG_X8_readValue rc) {h : ms_M} (S : ¬ h 2 11 = 0) : Pc (qo_X8_readBehind nn rc a1 h) (fun u => FSc h u) := by
  have F : FSc h h := fs_r
  unfold qo_X8_readBehind
  exact pc_imp (fs_qw_X8_readBehind_4 G _ _ _ _ _ (fs_n S F)) (fun _ q => fs_t F q)
theorem fs_qj_X8_readNew_45 {rc : tq_X8_readValue} {l1 : Int} (G : FScG_X8_readValue rc) {h : ms_M} (S : ¬ h 2 11 = 0) : Pc (qj_X8_readNew_45 nn rc l1 h) (fun u => FSc h u) := by
  have F : FSc h h := fs_r
  unfold qj_X8_readNew_45
  refine pc_sv (fs_qf_X8_need (fs_n S F)) ?_; intro u2 Qu2
  have Fu2 : FSc h u2 := fs_t F Qu2
  refine pc_sv (G.1 (fs_n S Fu2)) ?_; intro u4 Qu4
  have Fu4 : FSc h u4 := fs_t Fu2 Qu4
  refine pc_sv (fs_qf_X8_need (fs_n S Fu4)) ?_; intro u6 Qu6
  have Fu6 : FSc h u6 := fs_t Fu4 Qu6
  exact pc_ret Fu6
theorem fs_qo_X8_readNew {rc : tq_X8_readValue} {a1 : Int} (G : FScG_X8_readValue rc) {h : ms_M} (S : ¬ h 2 11 = 0) : Pc (qo_X8_readNew nn rc a1 h) (fun u => FSc h u) := by
  have F : FSc h h := fs_r
  unfold qo_X8_readNew
  refine pc_xl ?_; intro v9 _
  refine pc_xl ?_; intro h10 Eh10
  have Fh10 : FSc h h10 := by rw [Eh10]; exact fs_u F (by omega)
  refine pc_sv (fs_qf_X8_accept (fs_n S Fh10)) ?_; intro u12 Qu12
  have Fu12 : FSc h u12.2 := fs_t Fh10 Qu12
  refine pc_if (fun _ => ?_) (fun _ => ?_)
  · exact pc_imp (fs_qj_X8_readNew_45 G (fs_n S Fu12)) (fun _ q => fs_t Fu12 q)
  · refine pc_sv (fs_qf_X8_need (fs_n S Fu12)) ?_; intro u14 Qu14
    have Fu14 : FSc h u14 := fs_t Fu12 Qu14
    refine pc_sv (fs_qf_X8_accept (fs_n S Fu14)) ?_; intro u16 Qu16
    have Fu16 : FSc h u16.2 := fs_t Fu14 Qu16
    refine pc_if (fun _ => ?_) (fun _ => ?_)
    · exact pc_imp (fs_qj_X8_readNew_45 G (fs_n S Fu16)) (fun _ q => fs_t Fu16 q)
    · refine pc_sv (fs_qf_X8_need (fs_n S Fu16)) ?_; intro u18 Qu18
      have Fu18 : FSc h u18 := fs_t Fu16 Qu18
      exact pc_ret Fu18
theorem fs_qj_X8_readArguments_52 {rc : tq_X8_readValue} (G : FScG_X8_readValue rc) {h : ms_M} (S : ¬ h 2 11 = 0) : Pc (qj_X8_readArguments_52 nn rc h) (fun u => FSc h u) := by
  have F : FSc h h := fs_r
  unfold qj_X8_readArguments_52
  refine pc_sv (fs_qf_X8_need (fs_n S F)) ?_; intro u2 Qu2
  have Fu2 : FSc h u2 := fs_t F Qu2
  exact pc_ret Fu2
theorem fs_qw_X8_readArguments_23 {rc : tq_X8_readValue} (G : FScG_X8_readValue rc) : ∀ (k : Nat) (l1 : Int) (l2 : Int) (l3 : Int) (h : ms_M), ¬ h 2 11 = 0 → Pc (qw_X8_readArguments_23 nn rc k l1 l2 l3 h) (fun u => FSc h u) := by
  intro k
  induction k with
  | zero => intros; exact pc_none
  | succ k ih =>
    intro l1 l2 l3 h S
    have F : FSc h h := fs_r
    unfold qw_X8_readArguments_23
    refine pc_if (fun _ => ?_) (fun _ => ?_)
    · exact pc_imp (fs_qj_X8_readArguments_52 G (fs_n S F)) (fun _ q => fs_t F q)
    · refine pc_if (fun _ => ?_) (fun _ => ?_)
      · exact pc_imp (fs_qj_X8_readArguments_52 G (fs_n S F)) (fun _ q => fs_t F q)
      · refine pc_sv (G.1 (fs_n S F)) ?_; intro u4 Qu4
        have Fu4 : FSc h u4 := fs_t F Qu4
        refine pc_sv (fs_qf_X8_accept (fs_n S Fu4)) ?_; intro u6 Qu6
        have Fu6 : FSc h u6.2 := fs_t Fu4 Qu6
        refine pc_xl ?_; intro v7 _
        exact pc_imp (ih _ _ _ _ (fs_n S Fu6)) (fun _ q => fs_t Fu6 q)
theorem fs_qo_X8_readArguments {rc : tq_X8_readValue} {a1 : Int} (G : FScG_X8_readValue rc) {h : ms_M} (S : ¬ h 2 11 = 0) : Pc (qo_X8_readArguments nn rc a1 h) (fun u => FSc h u) := by
  have F : FSc h h := fs_r
  unfold qo_X8_readArguments
  refine pc_sv (fs_qf_X8_accept (fs_n S F)) ?_; intro u11 Qu11
  have Fu11 : FSc h u11.2 := fs_t F Qu11
  refine pc_if (fun _ => ?_) (fun _ => ?_)
  · exact pc_ret Fu11
  · refine pc_sv (fs_qf_X8_accept (fs_n S Fu11)) ?_; intro u13 Qu13
    have Fu13 : FSc h u13.2 := fs_t Fu11 Qu13
    refine pc_if (fun _ => ?_) (fun _ => ?_)
    · exact pc_imp (fs_qw_X8_readArguments_23 G _ _ _ _ _ (fs_n S Fu13)) (fun _ q => fs_t Fu13 q)
    · exact pc_ret Fu13
theorem fsg_X8_readValue (nn : Nat) : ∀ d, FScG_X8_readValue (qg_X8_readValue nn d) := by
  intro d
  induction d with
  | zero => exact ⟨fun _ => pc_none, fun _ => pc_none, fun _ => pc_none, fun _ => pc_none, fun _ => pc_none, fun _ => pc_none⟩
  | succ d ih => exact ⟨fun S => fs_qo_X8_readValue ih S, fun S => fs_qo_X8_readUnary ih S, fun S => fs_qo_X8_readPrimary ih S, fun S => fs_qo_X8_readBehind ih S, fun S => fs_qo_X8_readNew ih S, fun S => fs_qo_X8_readArguments ih S⟩
theorem fs_qf_X8_readValue {a1 : Int} (S : ¬ h 2 11 = 0) : Pc (qf_X8_readValue nn a1 h) (fun u => FSc h u) := (fsg_X8_readValue nn 260).1 S
theorem fs_qf_X8_readCondition {a1 : Int} {h : ms_M} (S : ¬ h 2 11 = 0) : Pc (qf_X8_readCondition nn a1 h) (fun u => FSc h u) := by
  have F : FSc h h := fs_r
  unfold qf_X8_readCondition
  refine pc_xl ?_; intro v3 _
  refine pc_xl ?_; intro h4 Eh4
  have Fh4 : FSc h h4 := by rw [Eh4]; exact fs_u F (by omega)
  refine pc_sv (fs_qf_X8_need (fs_n S Fh4)) ?_; intro u6 Qu6
  have Fu6 : FSc h u6 := fs_t Fh4 Qu6
  refine pc_sv (fs_qf_X8_readValue (fs_n S Fu6)) ?_; intro u8 Qu8
  have Fu8 : FSc h u8 := fs_t Fu6 Qu8
  refine pc_sv (fs_qf_X8_need (fs_n S Fu8)) ?_; intro u10 Qu10
  have Fu10 : FSc h u10 := fs_t Fu8 Qu10
  exact pc_ret Fu10
theorem fs_qj_X8_readPlain_56 {h : ms_M} (S : ¬ h 2 11 = 0) : Pc (qj_X8_readPlain_56 nn h) (fun u => FSc h u) := by
  have F : FSc h h := fs_r
  unfold qj_X8_readPlain_56
  refine pc_xl ?_; intro v3 _
  refine pc_xl ?_; intro h4 Eh4
  have Fh4 : FSc h h4 := by rw [Eh4]; exact fs_u F (by omega)
  exact pc_ret Fh4
theorem fs_qf_X8_readPlain {a1 : Int} {h : ms_M} (S : ¬ h 2 11 = 0) : Pc (qf_X8_readPlain nn a1 h) (fun u => FSc h u) := by
  have F : FSc h h := fs_r
  unfold qf_X8_readPlain
  refine pc_se ?_; intro u7 _
  refine pc_if (fun _ => ?_) (fun _ => ?_)
  · exact pc_imp (fs_qj_X8_readPlain_56 (fs_n S F)) (fun _ q => fs_t F q)
  · refine pc_if (fun _ => ?_) (fun _ => ?_)
    · exact pc_imp (fs_qj_X8_readPlain_56 (fs_n S F)) (fun _ q => fs_t F q)
    · refine pc_if (fun _ => ?_) (fun _ => ?_)
      · refine pc_sv (fs_qf_X8_readCondition (fs_n S F)) ?_; intro u16 Qu16
        have Fu16 : FSc h u16 := fs_t F Qu16
        exact pc_ret Fu16
      · refine pc_if (fun _ => ?_) (fun _ => ?_)
        · refine pc_xl ?_; intro v19 _
          refine pc_xl ?_; intro h20 Eh20
          have Fh20 : FSc h h20 := by rw [Eh20]; exact fs_u F (by omega)
          refine pc_se ?_; intro u23 _
          refine pc_if (fun _ => ?_) (fun _ => ?_)
          · exact pc_ret Fh20
          · refine pc_sv (fs_qf_X8_readValue (fs_n S Fh20)) ?_; intro u25 Qu25
            have Fu25 : FSc h u25 := fs_t Fh20 Qu25
            exact pc_ret Fu25
        · refine pc_if (fun _ => ?_) (fun _ => ?_)
          · refine pc_xl ?_; intro v29 _
            refine pc_xl ?_; intro h30 Eh30
            have Fh30 : FSc h h30 := by rw [Eh30]; exact fs_u F (by omega)
            refine pc_sv (fs_qf_X8_readValue (fs_n S Fh30)) ?_; intro u32 Qu32
            have Fu32 : FSc h u32 := fs_t Fh30 Qu32
            exact pc_ret Fu32
          · refine pc_sv (fs_qf_X8_readValue (fs_n S F)) ?_; intro u9 Qu9
            have Fu9 : FSc h u9 := fs_t F Qu9
            refine pc_sv (fs_qf_X8_accept (fs_n S Fu9)) ?_; intro u11 Qu11
            have Fu11 : FSc h u11.2 := fs_t Fu9 Qu11
            refine pc_if (fun _ => ?_) (fun _ => ?_)
            · exact pc_ret Fu11
            · refine pc_sv (fs_qf_X8_readValue (fs_n S Fu11)) ?_; intro u13 Qu13
              have Fu13 : FSc h u13 := fs_t Fu11 Qu13
              exact pc_ret Fu13
theorem fs_qj_X8_readType_24 {h : ms_M} (S : ¬ h 2 11 = 0) : Pc (qj_X8_readType_24 nn h) (fun u => FSc h u) := by
  have F : FSc h h := fs_r
  unfold qj_X8_readType_24
  refine pc_sv (fs_qf_X8_accept (fs_n S F)) ?_; intro u2 Qu2
  have Fu2 : FSc h u2.2 := fs_t F Qu2
  refine pc_if (fun _ => ?_) (fun _ => ?_)
  · exact pc_ret Fu2
  · refine pc_sv (fs_qf_X8_need (fs_n S Fu2)) ?_; intro u4 Qu4
    have Fu4 : FSc h u4 := fs_t Fu2 Qu4
    exact pc_ret Fu4
theorem fs_qf_X8_readType {h : ms_M} (S : ¬ h 2 11 = 0) : Pc (qf_X8_readType nn h) (fun u => FSc h u) := by
  have F : FSc h h := fs_r
  unfold qf_X8_readType
  refine pc_sv (fs_qf_X8_accept (fs_n S F)) ?_; intro u7 Qu7
  have Fu7 : FSc h u7.2 := fs_t F Qu7
  refine pc_if (fun _ => ?_) (fun _ => ?_)
  · refine pc_sv (fs_qf_X8_accept (fs_n S Fu7)) ?_; intro u9 Qu9
    have Fu9 : FSc h u9.2 := fs_t Fu7 Qu9
    refine pc_if (fun _ => ?_) (fun _ => ?_)
    · exact pc_imp (fs_qj_X8_readType_24 (fs_n S Fu9)) (fun _ q => fs_t Fu9 q)
    · refine pc_sv (fs_qf_X8_need (fs_n S Fu9)) ?_; intro u11 Qu11
      have Fu11 : FSc h u11 := fs_t Fu9 Qu11
      exact pc_imp (fs_qj_X8_readType_24 (fs_n S Fu11)) (fun _ q => fs_t Fu11 q)
  · exact pc_ret Fu7
theorem fs_qf_X8_readVariable {a1 : Int} {h : ms_M} (S : ¬ h 2 11 = 0) : Pc (qf_X8_readVariable nn a1 h) (fun u => FSc h u) := by
  have F : FSc h h := fs_r
  unfold qf_X8_readVariable
  refine pc_sv (fs_qf_X8_readType (fs_n S F)) ?_; intro u2 Qu2
  have Fu2 : FSc h u2 := fs_t F Qu2
  refine pc_sv (fs_qf_X8_need (fs_n S Fu2)) ?_; intro u4 Qu4
  have Fu4 : FSc h u4 := fs_t Fu2 Qu4
  refine pc_sv (fs_qf_X8_need (fs_n S Fu4)) ?_; intro u6 Qu6
  have Fu6 : FSc h u6 := fs_t Fu4 Qu6
  refine pc_sv (fs_qf_X8_readValue (fs_n S Fu6)) ?_; intro u8 Qu8
  have Fu8 : FSc h u8 := fs_t Fu6 Qu8
  exact pc_ret Fu8
def FScG_X8_readBlock (rc : tq_X8_readBlock) : Prop := (∀ {a1 : Int} {h : ms_M}, ¬ h 2 11 = 0 → Pc (rc.1 a1 h) (fun u => FSc h u)) ∧ (∀ {a1 : Int} {h : ms_M}, ¬ h 2 11 = 0 → Pc (rc.2.1 a1 h) (fun u => FSc h u)) ∧ (∀ {a1 : Int} {h : ms_M}, ¬ h 2 11 = 0 → Pc (rc.2.2 a1 h) (fun u => FSc h u))
theorem fs_qj_X8_readBlock_48 {rc : tq_X8_readBlock} (G : FScG_X8_readBlock rc) {h : ms_M} (S : ¬ h 2 11 = 0) : Pc (qj_X8_readBlock_48 nn rc h) (fun u => FSc h u) := by
  have F : FSc h h := fs_r
  unfold qj_X8_readBlock_48
  refine pc_sv (fs_qf_X8_need (fs_n S F)) ?_; intro u2 Qu2
  have Fu2 : FSc h u2 := fs_t F Qu2
  exact pc_ret Fu2
theorem fs_qw_X8_readBlock_8 {rc : tq_X8_readBlock} (G : FScG_X8_readBlock rc) : ∀ (k : Nat) (l1 : Int) (l2 : Int) (h : ms_M), ¬ h 2 11 = 0 → Pc (qw_X8_readBlock_8 nn rc k l1 l2 h) (fun u => FSc h u) := by
  intro k
  induction k with
  | zero => intros; exact pc_none
  | succ k ih =>
    intro l1 l2 h S
    have F : FSc h h := fs_r
    unfold qw_X8_readBlock_8
    refine pc_if (fun _ => ?_) (fun _ => ?_)
    · exact pc_imp (fs_qj_X8_readBlock_48 G (fs_n S F)) (fun _ q => fs_t F q)
    · refine pc_if (fun _ => ?_) (fun _ => ?_)
      · exact pc_imp (fs_qj_X8_readBlock_48 G (fs_n S F)) (fun _ q => fs_t F q)
      · refine pc_se ?_; intro u7 _
        refine pc_if (fun _ => ?_) (fun _ => ?_)
        · exact pc_imp (fs_qj_X8_readBlock_48 G (fs_n S F)) (fun _ q => fs_t F q)
        · refine pc_sv (G.2.1 (fs_n S F)) ?_; intro u9 Qu9
          have Fu9 : FSc h u9 := fs_t F Qu9
          refine pc_xl ?_; intro v10 _
          exact pc_imp (ih _ _ _ (fs_n S Fu9)) (fun _ q => fs_t Fu9 q)
theorem fs_qo_X8_readBlock {rc : tq_X8_readBlock} {a1 : Int} (G : FScG_X8_readBlock rc) {h : ms_M} (S : ¬ h 2 11 = 0) : Pc (qo_X8_readBlock nn rc a1 h) (fun u => FSc h u) := by
  have F : FSc h h := fs_r
  unfold qo_X8_readBlock
  refine pc_sv (fs_qf_X8_need (fs_n S F)) ?_; intro u15 Qu15
  have Fu15 : FSc h u15 := fs_t F Qu15
  exact pc_imp (fs_qw_X8_readBlock_8 G _ _ _ _ (fs_n S Fu15)) (fun _ q => fs_t Fu15 q)
theorem fs_qj_X8_readStatement_157 {rc : tq_X8_readBlock} (G : FScG_X8_readBlock rc) {h : ms_M} (S : ¬ h 2 11 = 0) : Pc (qj_X8_readStatement_157 nn rc h) (fun u => FSc h u) := by
  have F : FSc h h := fs_r
  unfold qj_X8_readStatement_157
  refine pc_sv (fs_qf_X8_need (fs_n S F)) ?_; intro u2 Qu2
  have Fu2 : FSc h u2 := fs_t F Qu2
  exact pc_ret Fu2
theorem fs_qo_X8_readStatement {rc : tq_X8_readBlock} {a1 : Int} (G : FScG_X8_readBlock rc) {h : ms_M} (S : ¬ h 2 11 = 0) : Pc (qo_X8_readStatement nn rc a1 h) (fun u => FSc h u) := by
  have F : FSc h h := fs_r
  unfold qo_X8_readStatement
  refine pc_sv (fs_qf_X8_tooDeep (fs_n S F)) ?_; intro u4 Qu4
  have Fu4 : FSc h u4.2 := fs_t F Qu4
  refine pc_if (fun _ => ?_) (fun _ => ?_)
  · refine pc_se ?_; intro u7 _
    refine pc_if (fun _ => ?_) (fun _ => ?_)
    · refine pc_xl ?_; intro v18 _
      refine pc_sv (fs_qf_X8_readCondition (fs_n S Fu4)) ?_; intro u20 Qu20
      have Fu20 : FSc h u20 := fs_t Fu4 Qu20
      refine pc_xl ?_; intro v21 _
      refine pc_sv (G.2.1 (fs_n S Fu20)) ?_; intro u23 Qu23
      have Fu23 : FSc h u23 := fs_t Fu20 Qu23
      refine pc_sv (fs_qf_X8_accept (fs_n S Fu23)) ?_; intro u25 Qu25
      have Fu25 : FSc h u25.2 := fs_t Fu23 Qu25
      refine pc_if (fun _ => ?_) (fun _ => ?_)
      · exact pc_ret Fu25
      · refine pc_xl ?_; intro v26 _
        refine pc_sv (G.2.1 (fs_n S Fu25)) ?_; intro u28 Qu28
        have Fu28 : FSc h u28 := fs_t Fu25 Qu28
        exact pc_ret Fu28
    · refine pc_if (fun _ => ?_) (fun _ => ?_)
      · refine pc_xl ?_; intro v30 _
        refine pc_sv (G.2.2 (fs_n S Fu4)) ?_; intro u32 Qu32
        have Fu32 : FSc h u32 := fs_t Fu4 Qu32
        exact pc_ret Fu32
      · refine pc_if (fun _ => ?_) (fun _ => ?_)
        · refine pc_xl ?_; intro v33 _
          refine pc_sv (fs_qf_X8_readCondition (fs_n S Fu4)) ?_; intro u35 Qu35
          have Fu35 : FSc h u35 := fs_t Fu4 Qu35
          refine pc_xl ?_; intro v36 _
          refine pc_sv (G.2.1 (fs_n S Fu35)) ?_; intro u38 Qu38
          have Fu38 : FSc h u38 := fs_t Fu35 Qu38
          exact pc_ret Fu38
        · refine pc_if (fun _ => ?_) (fun _ => ?_)
          · refine pc_xl ?_; intro v39 _
            refine pc_sv (G.1 (fs_n S Fu4)) ?_; intro u41 Qu41
            have Fu41 : FSc h u41 := fs_t Fu4 Qu41
            exact pc_ret Fu41
          · refine pc_se ?_; intro u10 _
            refine pc_if (fun _ => ?_) (fun _ => ?_)
            · refine pc_xl ?_; intro v11 _
              refine pc_sv (fs_qf_X8_readPlain (fs_n S Fu4)) ?_; intro u13 Qu13
              have Fu13 : FSc h u13 := fs_t Fu4 Qu13
              exact pc_imp (fs_qj_X8_readStatement_157 G (fs_n S Fu13)) (fun _ q => fs_t Fu13 q)
            · refine pc_xl ?_; intro v14 _
              refine pc_sv (fs_qf_X8_readVariable (fs_n S Fu4)) ?_; intro u16 Qu16
              have Fu16 : FSc h u16 := fs_t Fu4 Qu16
              exact pc_imp (fs_qj_X8_readStatement_157 G (fs_n S Fu16)) (fun _ q => fs_t Fu16 q)
  · exact pc_ret Fu4
theorem fs_qo_X8_readTry {rc : tq_X8_readBlock} {a1 : Int} (G : FScG_X8_readBlock rc) {h : ms_M} (S : ¬ h 2 11 = 0) : Pc (qo_X8_readTry nn rc a1 h) (fun u => FSc h u) := by
  have F : FSc h h := fs_r
  unfold qo_X8_readTry
  refine pc_xl ?_; intro v3 _
  refine pc_xl ?_; intro h4 Eh4
  have Fh4 : FSc h h4 := by rw [Eh4]; exact fs_u F (by omega)
  refine pc_sv (G.1 (fs_n S Fh4)) ?_; intro u6 Qu6
  have Fu6 : FSc h u6 := fs_t Fh4 Qu6
  refine pc_sv (fs_qf_X8_need (fs_n S Fu6)) ?_; intro u8 Qu8
  have Fu8 : FSc h u8 := fs_t Fu6 Qu8
  refine pc_sv (fs_qf_X8_need (fs_n S Fu8)) ?_; intro u10 Qu10
  have Fu10 : FSc h u10 := fs_t Fu8 Qu10
  refine pc_sv (fs_qf_X8_need (fs_n S Fu10)) ?_; intro u12 Qu12
  have Fu12 : FSc h u12 := fs_t Fu10 Qu12
  refine pc_sv (fs_qf_X8_need (fs_n S Fu12)) ?_; intro u14 Qu14
  have Fu14 : FSc h u14 := fs_t Fu12 Qu14
  refine pc_sv (fs_qf_X8_need (fs_n S Fu14)) ?_; intro u16 Qu16
  have Fu16 : FSc h u16 := fs_t Fu14 Qu16
  refine pc_sv (G.1 (fs_n S Fu16)) ?_; intro u18 Qu18
  have Fu18 : FSc h u18 := fs_t Fu16 Qu18
  exact pc_ret Fu18
theorem fsg_X8_readBlock (nn : Nat) : ∀ d, FScG_X8_readBlock (qg_X8_readBlock nn d) := by
  intro d
  induction d with
  | zero => exact ⟨fun _ => pc_none, fun _ => pc_none, fun _ => pc_none⟩
  | succ d ih => exact ⟨fun S => fs_qo_X8_readBlock ih S, fun S => fs_qo_X8_readStatement ih S, fun S => fs_qo_X8_readTry ih S⟩
theorem fs_qf_X8_readBlock {a1 : Int} (S : ¬ h 2 11 = 0) : Pc (qf_X8_readBlock nn a1 h) (fun u => FSc h u) := (fsg_X8_readBlock nn 150).1 S
theorem fs_qw_X8_readParameters_4 : ∀ (k : Nat) (l1 : Int) (l2 : Int) (h : ms_M), ¬ h 2 11 = 0 → Pc (qw_X8_readParameters_4 nn k l1 l2 h) (fun u => FSc h u) := by
  intro k
  induction k with
  | zero => intros; exact pc_none
  | succ k ih =>
    intro l1 l2 h S
    have F : FSc h h := fs_r
    unfold qw_X8_readParameters_4
    refine pc_if (fun _ => ?_) (fun _ => ?_)
    · exact pc_ret F
    · refine pc_if (fun _ => ?_) (fun _ => ?_)
      · exact pc_ret F
      · refine pc_sv (fs_qf_X8_readType (fs_n S F)) ?_; intro u2 Qu2
        have Fu2 : FSc h u2 := fs_t F Qu2
        refine pc_sv (fs_qf_X8_need (fs_n S Fu2)) ?_; intro u4 Qu4
        have Fu4 : FSc h u4 := fs_t Fu2 Qu4
        refine pc_sv (fs_qf_X8_accept (fs_n S Fu4)) ?_; intro u6 Qu6
        have Fu6 : FSc h u6.2 := fs_t Fu4 Qu6
        refine pc_xl ?_; intro v7 _
        exact pc_imp (ih _ _ _ (fs_n S Fu6)) (fun _ q => fs_t Fu6 q)
theorem fs_qf_X8_readParameters {h : ms_M} (S : ¬ h 2 11 = 0) : Pc (qf_X8_readParameters nn h) (fun u => FSc h u) := by
  have F : FSc h h := fs_r
  unfold qf_X8_readParameters
  exact pc_imp (fs_qw_X8_readParameters_4 _ _ _ _ (fs_n S F)) (fun _ q => fs_t F q)
theorem fs_qj_X8_readMember_66 {h : ms_M} (S : ¬ h 2 11 = 0) : Pc (qj_X8_readMember_66 nn h) (fun u => FSc h u) := by
  have F : FSc h h := fs_r
  unfold qj_X8_readMember_66
  refine pc_sv (fs_qf_X8_need (fs_n S F)) ?_; intro u2 Qu2
  have Fu2 : FSc h u2 := fs_t F Qu2
  refine pc_sv (fs_qf_X8_readBlock (fs_n S Fu2)) ?_; intro u4 Qu4
  have Fu4 : FSc h u4 := fs_t Fu2 Qu4
  exact pc_ret Fu4
theorem fs_qj_X8_readMember_44 {h : ms_M} (S : ¬ h 2 11 = 0) : Pc (qj_X8_readMember_44 nn h) (fun u => FSc h u) := by
  have F : FSc h h := fs_r
  unfold qj_X8_readMember_44
  refine pc_sv (fs_qf_X8_need (fs_n S F)) ?_; intro u6 Qu6
  have Fu6 : FSc h u6 := fs_t F Qu6
  refine pc_se ?_; intro u9 _
  refine pc_if (fun _ => ?_) (fun _ => ?_)
  · exact pc_imp (fs_qj_X8_readMember_66 (fs_n S Fu6)) (fun _ q => fs_t Fu6 q)
  · refine pc_sv (fs_qf_X8_readParameters (fs_n S Fu6)) ?_; intro u11 Qu11
    have Fu11 : FSc h u11 := fs_t Fu6 Qu11
    exact pc_imp (fs_qj_X8_readMember_66 (fs_n S Fu11)) (fun _ q => fs_t Fu11 q)
theorem fs_qj_X8_readMember_25 {l1 : Int} {h : ms_M} (S : ¬ h 2 11 = 0) : Pc (qj_X8_readMember_25 nn l1 h) (fun u => FSc h u) := by
  have F : FSc h h := fs_r
  unfold qj_X8_readMember_25
  refine pc_sv (fs_qf_X8_need (fs_n S F)) ?_; intro u14 Qu14
  have Fu14 : FSc h u14 := fs_t F Qu14
  refine pc_if (fun _ => ?_) (fun _ => ?_)
  · exact pc_imp (fs_qj_X8_readMember_44 (fs_n S Fu14)) (fun _ q => fs_t Fu14 q)
  · refine pc_sv (fs_qf_X8_accept (fs_n S Fu14)) ?_; intro u16 Qu16
    have Fu16 : FSc h u16.2 := fs_t Fu14 Qu16
    refine pc_if (fun _ => ?_) (fun _ => ?_)
    · exact pc_imp (fs_qj_X8_readMember_44 (fs_n S Fu16)) (fun _ q => fs_t Fu16 q)
    · exact pc_ret Fu16
theorem fs_qf_X8_readMember {h : ms_M} (S : ¬ h 2 11 = 0) : Pc (qf_X8_readMember nn h) (fun u => FSc h u) := by
  have F : FSc h h := fs_r
  unfold qf_X8_readMember
  refine pc_sv (fs_qf_X8_accept (fs_n S F)) ?_; intro u20 Qu20
  have Fu20 : FSc h u20.2 := fs_t F Qu20
  refine pc_sv (fs_qf_X8_accept (fs_n S Fu20)) ?_; intro u22 Qu22
  have Fu22 : FSc h u22.2 := fs_t Fu20 Qu22
  refine pc_if (fun _ => ?_) (fun _ => ?_)
  · refine pc_sv (fs_qf_X8_readType (fs_n S Fu22)) ?_; intro u24 Qu24
    have Fu24 : FSc h u24 := fs_t Fu22 Qu24
    exact pc_imp (fs_qj_X8_readMember_25 (fs_n S Fu24)) (fun _ q => fs_t Fu24 q)
  · exact pc_imp (fs_qj_X8_readMember_25 (fs_n S Fu22)) (fun _ q => fs_t Fu22 q)
theorem fs_qf_X2_addClass {a1 : Int} {h : ms_M} (S : ¬ h 2 11 = 0) : Pc (qf_X2_addClass nn a1 h) (fun u => FSc h u) := by
  have F : FSc h h := fs_r
  unfold qf_X2_addClass
  refine pc_if (fun _ => ?_) (fun _ => ?_)
  · exact pc_ret F
  · refine pc_wA ?_; intro _ _ h6 Eh6
    have Fh6 : FSc h h6 := by rw [Eh6]; exact fs_u F (by omega)
    refine pc_xl ?_; intro v8 _
    refine pc_xl ?_; intro h9 Eh9
    have Fh9 : FSc h h9 := by rw [Eh9]; exact fs_u Fh6 (by omega)
    exact pc_ret Fh9
theorem fs_qj_X8_readClass_86 {h : ms_M} (S : ¬ h 2 11 = 0) : Pc (qj_X8_readClass_86 nn h) (fun u => FSc h u) := by
  have F : FSc h h := fs_r
  unfold qj_X8_readClass_86
  refine pc_sv (fs_qf_X8_need (fs_n S F)) ?_; intro u2 Qu2
  have Fu2 : FSc h u2 := fs_t F Qu2
  exact pc_ret Fu2
theorem fs_qw_X8_readClass_47 : ∀ (k : Nat) (l1 : Int) (h : ms_M), ¬ h 2 11 = 0 → Pc (qw_X8_readClass_47 nn k l1 h) (fun u => FSc h u) := by
  intro k
  induction k with
  | zero => intros; exact pc_none
  | succ k ih =>
    intro l1 h S
    have F : FSc h h := fs_r
    unfold qw_X8_readClass_47
    refine pc_if (fun _ => ?_) (fun _ => ?_)
    · exact pc_imp (fs_qj_X8_readClass_86 (fs_n S F)) (fun _ q => fs_t F q)
    · refine pc_if (fun _ => ?_) (fun _ => ?_)
      · exact pc_imp (fs_qj_X8_readClass_86 (fs_n S F)) (fun _ q => fs_t F q)
      · refine pc_se ?_; intro u7 _
        refine pc_if (fun _ => ?_) (fun _ => ?_)
        · exact pc_imp (fs_qj_X8_readClass_86 (fs_n S F)) (fun _ q => fs_t F q)
        · refine pc_sv (fs_qf_X8_readMember (fs_n S F)) ?_; intro u9 Qu9
          have Fu9 : FSc h u9 := fs_t F Qu9
          refine pc_xl ?_; intro v10 _
          exact pc_imp (ih _ _ (fs_n S Fu9)) (fun _ q => fs_t Fu9 q)
theorem fs_qj_X8_readClass_39 {h : ms_M} (S : ¬ h 2 11 = 0) : Pc (qj_X8_readClass_39 nn h) (fun u => FSc h u) := by
  have F : FSc h h := fs_r
  unfold qj_X8_readClass_39
  refine pc_sv (fs_qf_X8_need (fs_n S F)) ?_; intro u15 Qu15
  have Fu15 : FSc h u15 := fs_t F Qu15
  exact pc_imp (fs_qw_X8_readClass_47 _ _ _ (fs_n S Fu15)) (fun _ q => fs_t Fu15 q)
theorem fs_qf_X8_readClass {h : ms_M} (S : ¬ h 2 11 = 0) : Pc (qf_X8_readClass nn h) (fun u => FSc h u) := by
  have F : FSc h h := fs_r
  unfold qf_X8_readClass
  refine pc_sv (fs_qf_X8_need (fs_n S F)) ?_; intro u17 Qu17
  have Fu17 : FSc h u17 := fs_t F Qu17
  refine pc_sv (fs_qf_X2_addClass (fs_n S Fu17)) ?_; intro u22 Qu22
  have Fu22 : FSc h u22 := fs_t Fu17 Qu22
  refine pc_sv (fs_qf_X8_need (fs_n S Fu22)) ?_; intro u24 Qu24
  have Fu24 : FSc h u24 := fs_t Fu22 Qu24
  refine pc_sv (fs_qf_X8_accept (fs_n S Fu24)) ?_; intro u26 Qu26
  have Fu26 : FSc h u26.2 := fs_t Fu24 Qu26
  refine pc_if (fun _ => ?_) (fun _ => ?_)
  · exact pc_imp (fs_qj_X8_readClass_39 (fs_n S Fu26)) (fun _ q => fs_t Fu26 q)
  · refine pc_sv (fs_qf_X8_need (fs_n S Fu26)) ?_; intro u28 Qu28
    have Fu28 : FSc h u28 := fs_t Fu26 Qu28
    exact pc_imp (fs_qj_X8_readClass_39 (fs_n S Fu28)) (fun _ q => fs_t Fu28 q)
theorem fs_qj_X8_readProgram_33 {l1 : Int} {qkk_2 : Int → ms_M → Option ms_M} (Hqkk_2 : ∀ (z0 : Int) (z1 : ms_M), ¬ z1 2 11 = 0 → Pc (qkk_2 z0 z1) (fun u => FSc z1 u)) {h : ms_M} (S : ¬ h 2 11 = 0) : Pc (qj_X8_readProgram_33 nn qkk_2 l1 h) (fun u => FSc h u) := by
  have F : FSc h h := fs_r
  unfold qj_X8_readProgram_33
  refine pc_sv (fs_qf_X8_readClass (fs_n S F)) ?_; intro u2 Qu2
  have Fu2 : FSc h u2 := fs_t F Qu2
  refine pc_xl ?_; intro v3 _
  exact pc_imp (Hqkk_2 _ _ (fs_n S Fu2)) (fun _ q => fs_t Fu2 q)
theorem fs_qw_X8_readProgram_2 : ∀ (k : Nat) (l1 : Int) (h : ms_M), ¬ h 2 11 = 0 → Pc (qw_X8_readProgram_2 nn k l1 h) (fun u => FSc h u) := by
  intro k
  induction k with
  | zero => intros; exact pc_none
  | succ k ih =>
    intro l1 h S
    have F : FSc h h := fs_r
    unfold qw_X8_readProgram_2
    refine pc_if (fun _ => ?_) (fun _ => ?_)
    · exact pc_ret F
    · refine pc_if (fun _ => ?_) (fun _ => ?_)
      · exact pc_ret F
      · refine pc_if (fun _ => ?_) (fun _ => ?_)
        · exact pc_imp (fs_qj_X8_readProgram_33 (fun _ _ S => ih _ _ S) (fs_n S F)) (fun _ q => fs_t F q)
        · refine pc_se ?_; intro u8 _
          refine pc_if (fun _ => ?_) (fun _ => ?_)
          · exact pc_ret F
          · exact pc_imp (fs_qj_X8_readProgram_33 (fun _ _ S => ih _ _ S) (fs_n S F)) (fun _ q => fs_t F q)
theorem fs_qf_X8_readProgram {h : ms_M} (S : ¬ h 2 11 = 0) : Pc (qf_X8_readProgram nn h) (fun u => FSc h u) := by
  have F : FSc h h := fs_r
  unfold qf_X8_readProgram
  exact pc_imp (fs_qw_X8_readProgram_2 _ _ _ (fs_n S F)) (fun _ q => fs_t F q)
theorem ft_qf_X13_add {a1 : Int} {a2 : Int} {a3 : Int} {h : ms_M} (S : ¬ h 160 9 = 0) : Pc (qf_X13_add nn a1 a2 a3 h) (fun u => FSr h u.2) := by
  have F : FSr h h := ft_r
  unfold qf_X13_add
  refine pc_wA ?_; intro _ _ h3 Eh3
  have Fh3 : FSr h h3 := by rw [Eh3]; exact ft_u F (by omega)
  refine pc_wA ?_; intro _ _ h6 Eh6
  have Fh6 : FSr h h6 := by rw [Eh6]; exact ft_u Fh3 (by omega)
  refine pc_wA ?_; intro _ _ h9 Eh9
  have Fh9 : FSr h h9 := by rw [Eh9]; exact ft_u Fh6 (by omega)
  refine pc_wA ?_; intro _ _ h12 Eh12
  have Fh12 : FSr h h12 := by rw [Eh12]; exact ft_u Fh9 (by omega)
  refine pc_wA ?_; intro _ _ h15 Eh15
  have Fh15 : FSr h h15 := by rw [Eh15]; exact ft_u Fh12 (by omega)
  refine pc_wA ?_; intro _ _ h18 Eh18
  have Fh18 : FSr h h18 := by rw [Eh18]; exact ft_u Fh15 (by omega)
  refine pc_wA ?_; intro _ _ h21 Eh21
  have Fh21 : FSr h h21 := by rw [Eh21]; exact ft_u Fh18 (by omega)
  refine pc_wA ?_; intro _ _ h24 Eh24
  have Fh24 : FSr h h24 := by rw [Eh24]; exact ft_u Fh21 (by omega)
  refine pc_wA ?_; intro _ _ h27 Eh27
  have Fh27 : FSr h h27 := by rw [Eh27]; exact ft_u Fh24 (by omega)
  refine pc_wA ?_; intro _ _ h30 Eh30
  have Fh30 : FSr h h30 := by rw [Eh30]; exact ft_u Fh27 (by omega)
  refine pc_wZ ?_; intro _ _ h33 Eh33
  have Fh33 : FSr h h33 := by rw [Eh33]; exact ft_u Fh30 (by omega)
  refine pc_xl ?_; intro v35 _
  refine pc_xl ?_; intro h36 Eh36
  have Fh36 : FSr h h36 := by rw [Eh36]; exact ft_u Fh33 (by omega)
  refine pc_xl ?_; intro v38 _
  exact pc_ret Fh36
theorem ft_qj_X13_misplaced_20 {s0 : Int} {h : ms_M} (S : ¬ h 160 9 = 0) : Pc (qj_X13_misplaced_20 nn s0 h) (fun u => FSr h u) := by
  have F : FSr h h := ft_r
  unfold qj_X13_misplaced_20
  refine pc_sv (ft_qf_X13_wrong (ft_n S F)) ?_; intro u3 Qu3
  have Fu3 : FSr h u3 := ft_t F Qu3
  exact pc_ret Fu3
theorem ft_qf_X13_misplaced {h : ms_M} (S : ¬ h 160 9 = 0) : Pc (qf_X13_misplaced nn h) (fun u => FSr h u) := by
  have F : FSr h h := ft_r
  unfold qf_X13_misplaced
  refine pc_rA ?_; intro _ _ v6 _
  refine pc_if (fun _ => ?_) (fun _ => ?_)
  · exact pc_imp (ft_qj_X13_misplaced_20 (ft_n S F)) (fun _ q => ft_t F q)
  · exact pc_imp (ft_qj_X13_misplaced_20 (ft_n S F)) (fun _ q => ft_t F q)
theorem ft_qf_X13_sign_ {a1 : Int} {h : ms_M} (S : ¬ h 160 9 = 0) : Pc (qf_X13_sign_ nn a1 h) (fun u => FSr h u) := by
  have F : FSr h h := ft_r
  unfold qf_X13_sign_
  refine pc_if (fun _ => ?_) (fun _ => ?_)
  · refine pc_se ?_; intro u4 _
    refine pc_if (fun _ => ?_) (fun _ => ?_)
    · refine pc_sv (ft_qf_X13_misplaced (ft_n S F)) ?_; intro u6 Qu6
      have Fu6 : FSr h u6 := ft_t F Qu6
      exact pc_ret Fu6
    · refine pc_xl ?_; intro v8 _
      refine pc_xl ?_; intro h9 Eh9
      have Fh9 : FSr h h9 := by rw [Eh9]; exact ft_u F (by omega)
      exact pc_ret Fh9
  · exact pc_ret F
theorem ft_qj_X13_isDeep_37 {s0 : Int} {h : ms_M} (S : ¬ h 160 9 = 0) : Pc (qj_X13_isDeep_37 nn s0 h) (fun u => FSr h u.2) := by
  have F : FSr h h := ft_r
  unfold qj_X13_isDeep_37
  refine pc_sv (ft_qf_X13_wrong (ft_n S F)) ?_; intro u3 Qu3
  have Fu3 : FSr h u3 := ft_t F Qu3
  exact pc_ret Fu3
theorem ft_qf_X13_isDeep {a1 : Int} {h : ms_M} (S : ¬ h 160 9 = 0) : Pc (qf_X13_isDeep nn a1 h) (fun u => FSr h u.2) := by
  have F : FSr h h := ft_r
  unfold qf_X13_isDeep
  refine pc_if (fun _ => ?_) (fun _ => ?_)
  · refine pc_if (fun _ => ?_) (fun _ => ?_)
    · refine pc_rA ?_; intro _ _ v7 _
      refine pc_if (fun _ => ?_) (fun _ => ?_)
      · exact pc_imp (ft_qj_X13_isDeep_37 (ft_n S F)) (fun _ q => ft_t F q)
      · exact pc_imp (ft_qj_X13_isDeep_37 (ft_n S F)) (fun _ q => ft_t F q)
    · exact pc_ret F
  · exact pc_ret F
theorem ft_qf_X13_name {h : ms_M} (S : ¬ h 160 9 = 0) : Pc (qf_X13_name nn h) (fun u => FSr h u.2) := by
  have F : FSr h h := ft_r
  unfold qf_X13_name
  refine pc_if (fun _ => ?_) (fun _ => ?_)
  · refine pc_rA ?_; intro _ _ v4 _
    refine pc_if (fun _ => ?_) (fun _ => ?_)
    · refine pc_xl ?_; intro v6 _
      refine pc_xl ?_; intro h7 Eh7
      have Fh7 : FSr h h7 := by rw [Eh7]; exact ft_u F (by omega)
      refine pc_xl ?_; intro v9 _
      exact pc_ret Fh7
    · refine pc_sv (ft_qf_X13_misplaced (ft_n S F)) ?_; intro u11 Qu11
      have Fu11 : FSr h u11 := ft_t F Qu11
      exact pc_ret Fu11
  · exact pc_ret F
theorem ft_qj_X13_type_96 {h : ms_M} (S : ¬ h 160 9 = 0) : Pc (qj_X13_type_96 nn h) (fun u => FSr h u) := by
  have F : FSr h h := ft_r
  unfold qj_X13_type_96
  refine pc_if (fun _ => ?_) (fun _ => ?_)
  · exact pc_ret F
  · refine pc_se ?_; intro u4 _
    refine pc_if (fun _ => ?_) (fun _ => ?_)
    · refine pc_xl ?_; intro v6 _
      refine pc_xl ?_; intro h7 Eh7
      have Fh7 : FSr h h7 := by rw [Eh7]; exact ft_u F (by omega)
      refine pc_sv (ft_qf_X13_sign_ (ft_n S Fh7)) ?_; intro u9 Qu9
      have Fu9 : FSr h u9 := ft_t Fh7 Qu9
      refine pc_xl ?_; intro h10 Eh10
      have Fh10 : FSr h h10 := by rw [Eh10]; exact ft_u Fu9 (by omega)
      exact pc_ret Fh10
    · exact pc_ret F
theorem ft_qj_X13_type_68 {s0 : Int} {h : ms_M} (S : ¬ h 160 9 = 0) : Pc (qj_X13_type_68 nn s0 h) (fun u => FSr h u) := by
  have F : FSr h h := ft_r
  unfold qj_X13_type_68
  refine pc_xl ?_; intro h13 Eh13
  have Fh13 : FSr h h13 := by rw [Eh13]; exact ft_u F (by omega)
  refine pc_if (fun _ => ?_) (fun _ => ?_)
  · refine pc_sv (ft_qf_X13_name (ft_n S Fh13)) ?_; intro u16 Qu16
    have Fu16 : FSr h u16.2 := ft_t Fh13 Qu16
    exact pc_imp (ft_qj_X13_type_96 (ft_n S Fu16)) (fun _ q => ft_t Fu16 q)
  · refine pc_xl ?_; intro v18 _
    refine pc_xl ?_; intro h19 Eh19
    have Fh19 : FSr h h19 := by rw [Eh19]; exact ft_u Fh13 (by omega)
    exact pc_imp (ft_qj_X13_type_96 (ft_n S Fh19)) (fun _ q => ft_t Fh19 q)
theorem ft_qf_X13_type {h : ms_M} (S : ¬ h 160 9 = 0) : Pc (qf_X13_type nn h) (fun u => FSr h u) := by
  have F : FSr h h := ft_r
  unfold qf_X13_type
  refine pc_if (fun _ => ?_) (fun _ => ?_)
  · refine pc_xl ?_; intro h23 Eh23
    have Fh23 : FSr h h23 := by rw [Eh23]; exact ft_u F (by omega)
    refine pc_xl ?_; intro h24 Eh24
    have Fh24 : FSr h h24 := by rw [Eh24]; exact ft_u Fh23 (by omega)
    refine pc_se ?_; intro u27 _
    refine pc_if (fun _ => ?_) (fun _ => ?_)
    · refine pc_se ?_; intro u30 _
      refine pc_if (fun _ => ?_) (fun _ => ?_)
      · exact pc_imp (ft_qj_X13_type_68 (ft_n S Fh24)) (fun _ q => ft_t Fh24 q)
      · exact pc_imp (ft_qj_X13_type_68 (ft_n S Fh24)) (fun _ q => ft_t Fh24 q)
    · refine pc_xl ?_; intro h32 Eh32
      have Fh32 : FSr h h32 := by rw [Eh32]; exact ft_u Fh24 (by omega)
      refine pc_xl ?_; intro v34 _
      refine pc_xl ?_; intro h35 Eh35
      have Fh35 : FSr h h35 := by rw [Eh35]; exact ft_u Fh32 (by omega)
      exact pc_ret Fh35
  · exact pc_ret F
theorem ft_qf_X13_word {a1 : Int} {h : ms_M} (S : ¬ h 160 9 = 0) : Pc (qf_X13_word nn a1 h) (fun u => FSr h u) := by
  have F : FSr h h := ft_r
  unfold qf_X13_word
  refine pc_if (fun _ => ?_) (fun _ => ?_)
  · refine pc_se ?_; intro u4 _
    refine pc_if (fun _ => ?_) (fun _ => ?_)
    · refine pc_sv (ft_qf_X13_misplaced (ft_n S F)) ?_; intro u6 Qu6
      have Fu6 : FSr h u6 := ft_t F Qu6
      exact pc_ret Fu6
    · refine pc_xl ?_; intro v8 _
      refine pc_xl ?_; intro h9 Eh9
      have Fh9 : FSr h h9 := by rw [Eh9]; exact ft_u F (by omega)
      exact pc_ret Fh9
  · exact pc_ret F
def FSrG_X13_expression (rc : tq_X13_expression) : Prop := (∀ {a1 : Int} {h : ms_M}, ¬ h 160 9 = 0 → Pc (rc.1 a1 h) (fun u => FSr h u.2)) ∧ (∀ {a1 : Int} {a2 : Int} {h : ms_M}, ¬ h 160 9 = 0 → Pc (rc.2.1 a1 a2 h) (fun u => FSr h u.2)) ∧ (∀ {a1 : Int} {h : ms_M}, ¬ h 160 9 = 0 → Pc (rc.2.2.1 a1 h) (fun u => FSr h u.2)) ∧ (∀ {a1 : Int} {h : ms_M}, ¬ h 160 9 = 0 → Pc (rc.2.2.2.1 a1 h) (fun u => FSr h u.2)) ∧ (∀ {a1 : Int} {h : ms_M}, ¬ h 160 9 = 0 → Pc (rc.2.2.2.2.1 a1 h) (fun u => FSr h u.2)) ∧ (∀ {a1 : Int} {h : ms_M}, ¬ h 160 9 = 0 → Pc (rc.2.2.2.2.2.1 a1 h) (fun u => FSr h u.2)) ∧ (∀ {a1 : Int} {h : ms_M}, ¬ h 160 9 = 0 → Pc (rc.2.2.2.2.2.2 a1 h) (fun u => FSr h u.2))
theorem ft_qo_X13_expression {rc : tq_X13_expression} {a1 : Int} (G : FSrG_X13_expression rc) {h : ms_M} (S : ¬ h 160 9 = 0) : Pc (qo_X13_expression nn rc a1 h) (fun u => FSr h u.2) := by
  have F : FSr h h := ft_r
  unfold qo_X13_expression
  refine pc_sv (ft_qf_X13_isDeep (ft_n S F)) ?_; intro u2 Qu2
  have Fu2 : FSr h u2.2 := ft_t F Qu2
  refine pc_if (fun _ => ?_) (fun _ => ?_)
  · refine pc_xl ?_; intro v4 _
    refine pc_sv (G.2.1 (ft_n S Fu2)) ?_; intro u6 Qu6
    have Fu6 : FSr h u6.2 := ft_t Fu2 Qu6
    refine pc_if (fun _ => ?_) (fun _ => ?_)
    · exact pc_ret Fu6
    · refine pc_se ?_; intro u10 _
      refine pc_if (fun _ => ?_) (fun _ => ?_)
      · refine pc_sv (ft_qf_X13_add (ft_n S Fu6)) ?_; intro u13 Qu13
        have Fu13 : FSr h u13.2 := ft_t Fu6 Qu13
        refine pc_xl ?_; intro v15 _
        refine pc_xl ?_; intro h16 Eh16
        have Fh16 : FSr h h16 := by rw [Eh16]; exact ft_u Fu13 (by omega)
        refine pc_wA ?_; intro _ _ h18 Eh18
        have Fh18 : FSr h h18 := by rw [Eh18]; exact ft_u Fh16 (by omega)
        refine pc_xl ?_; intro v20 _
        refine pc_sv (G.1 (ft_n S Fh18)) ?_; intro u22 Qu22
        have Fu22 : FSr h u22.2 := ft_t Fh18 Qu22
        refine pc_wA ?_; intro _ _ h23 Eh23
        have Fh23 : FSr h h23 := by rw [Eh23]; exact ft_u Fu22 (by omega)
        refine pc_sv (ft_qf_X13_sign_ (ft_n S Fh23)) ?_; intro u25 Qu25
        have Fu25 : FSr h u25 := ft_t Fh23 Qu25
        refine pc_xl ?_; intro v27 _
        refine pc_sv (G.1 (ft_n S Fu25)) ?_; intro u29 Qu29
        have Fu29 : FSr h u29.2 := ft_t Fu25 Qu29
        refine pc_wA ?_; intro _ _ h30 Eh30
        have Fh30 : FSr h h30 := by rw [Eh30]; exact ft_u Fu29 (by omega)
        exact pc_ret Fh30
      · exact pc_ret Fu6
  · exact pc_ret Fu2
theorem ft_qj_X13_sides_157 {rc : tq_X13_expression} {l1 : Int} {l2 : Int} {l3 : Int} {l4 : Int} {l6 : Int} (G : FSrG_X13_expression rc) {qkk_37 : Int → Int → Int → Int → Int → Int → ms_M → Option (Int × ms_M)} (Hqkk_37 : ∀ (z0 : Int) (z1 : Int) (z2 : Int) (z3 : Int) (z4 : Int) (z5 : Int) (z6 : ms_M), ¬ z6 160 9 = 0 → Pc (qkk_37 z0 z1 z2 z3 z4 z5 z6) (fun u => FSr z6 u.2)) {h : ms_M} (S : ¬ h 160 9 = 0) : Pc (qj_X13_sides_157 nn rc qkk_37 l1 l2 l3 l4 l6 h) (fun u => FSr h u.2) := by
  have F : FSr h h := ft_r
  unfold qj_X13_sides_157
  refine pc_if (fun _ => ?_) (fun _ => ?_)
  · exact pc_imp (Hqkk_37 _ _ _ _ _ _ _ (ft_n S F)) (fun _ q => ft_t F q)
  · refine pc_se ?_; intro u4 _
    exact pc_imp (Hqkk_37 _ _ _ _ _ _ _ (ft_n S F)) (fun _ q => ft_t F q)
theorem ft_qw_X13_sides_37 {rc : tq_X13_expression} (G : FSrG_X13_expression rc) : ∀ (k : Nat) (l1 : Int) (l2 : Int) (l3 : Int) (l4 : Int) (l5 : Int) (l6 : Int) (h : ms_M), ¬ h 160 9 = 0 → Pc (qw_X13_sides_37 nn rc k l1 l2 l3 l4 l5 l6 h) (fun u => FSr h u.2) := by
  intro k
  induction k with
  | zero => intros; exact pc_none
  | succ k ih =>
    intro l1 l2 l3 l4 l5 l6 h S
    have F : FSr h h := ft_r
    unfold qw_X13_sides_37
    refine pc_if (fun _ => ?_) (fun _ => ?_)
    · exact pc_ret F
    · refine pc_if (fun _ => ?_) (fun _ => ?_)
      · exact pc_ret F
      · refine pc_if (fun _ => ?_) (fun _ => ?_)
        · exact pc_ret F
        · refine pc_xl ?_; intro v9 _
          refine pc_xl ?_; intro h10 Eh10
          have Fh10 : FSr h h10 := by rw [Eh10]; exact ft_u F (by omega)
          refine pc_se ?_; intro u12 _
          refine pc_if (fun _ => ?_) (fun _ => ?_)
          · refine pc_sv (ft_qf_X13_add (ft_n S Fh10)) ?_; intro u14 Qu14
            have Fu14 : FSr h u14.2 := ft_t Fh10 Qu14
            refine pc_wA ?_; intro _ _ h16 Eh16
            have Fh16 : FSr h h16 := by rw [Eh16]; exact ft_u Fu14 (by omega)
            refine pc_xl ?_; intro v18 _
            refine pc_sv (G.2.1 (ft_n S Fh16)) ?_; intro u20 Qu20
            have Fu20 : FSr h u20.2 := ft_t Fh16 Qu20
            refine pc_wA ?_; intro _ _ h21 Eh21
            have Fh21 : FSr h h21 := by rw [Eh21]; exact ft_u Fu20 (by omega)
            exact pc_imp (ft_qj_X13_sides_157 G (fun _ _ _ _ _ _ _ S => ih _ _ _ _ _ _ _ S) (ft_n S Fh21)) (fun _ q => ft_t Fh21 q)
          · refine pc_sv (ft_qf_X13_name (ft_n S Fh10)) ?_; intro u23 Qu23
            have Fu23 : FSr h u23.2 := ft_t Fh10 Qu23
            refine pc_sv (ft_qf_X13_add (ft_n S Fu23)) ?_; intro u25 Qu25
            have Fu25 : FSr h u25.2 := ft_t Fu23 Qu25
            refine pc_wA ?_; intro _ _ h27 Eh27
            have Fh27 : FSr h h27 := by rw [Eh27]; exact ft_u Fu25 (by omega)
            exact pc_imp (ft_qj_X13_sides_157 G (fun _ _ _ _ _ _ _ S => ih _ _ _ _ _ _ _ S) (ft_n S Fh27)) (fun _ q => ft_t Fh27 q)
theorem ft_qo_X13_sides {rc : tq_X13_expression} {a1 : Int} {a2 : Int} (G : FSrG_X13_expression rc) {h : ms_M} (S : ¬ h 160 9 = 0) : Pc (qo_X13_sides nn rc a1 a2 h) (fun u => FSr h u.2) := by
  have F : FSr h h := ft_r
  unfold qo_X13_sides
  refine pc_sv (G.2.2.1 (ft_n S F)) ?_; intro u34 Qu34
  have Fu34 : FSr h u34.2 := ft_t F Qu34
  refine pc_if (fun _ => ?_) (fun _ => ?_)
  · exact pc_imp (ft_qw_X13_sides_37 G _ _ _ _ _ _ _ _ (ft_n S Fu34)) (fun _ q => ft_t Fu34 q)
  · refine pc_se ?_; intro u38 _
    exact pc_imp (ft_qw_X13_sides_37 G _ _ _ _ _ _ _ _ (ft_n S Fu34)) (fun _ q => ft_t Fu34 q)
theorem ft_qj_X13_unary_141 {rc : tq_X13_expression} {l1 : Int} {l4 : Int} {s0 : Int} {s1 : Int} (G : FSrG_X13_expression rc) {h : ms_M} (S : ¬ h 160 9 = 0) : Pc (qj_X13_unary_141 nn rc l1 l4 s0 s1 h) (fun u => FSr h u.2) := by
  have F : FSr h h := ft_r
  unfold qj_X13_unary_141
  refine pc_xl ?_; intro v1 _
  refine pc_xl ?_; intro h2 Eh2
  have Fh2 : FSr h h2 := by rw [Eh2]; exact ft_u F (by omega)
  refine pc_xl ?_; intro v4 _
  refine pc_sv (G.2.2.1 (ft_n S Fh2)) ?_; intro u6 Qu6
  have Fu6 : FSr h u6.2 := ft_t Fh2 Qu6
  refine pc_wA ?_; intro _ _ h7 Eh7
  have Fh7 : FSr h h7 := by rw [Eh7]; exact ft_u Fu6 (by omega)
  exact pc_ret Fh7
theorem ft_qj_X13_unary_118 {rc : tq_X13_expression} {l1 : Int} {l2 : Int} {s0 : Int} {s1 : Int} (G : FSrG_X13_expression rc) {h : ms_M} (S : ¬ h 160 9 = 0) : Pc (qj_X13_unary_118 nn rc l1 l2 s0 s1 h) (fun u => FSr h u.2) := by
  have F : FSr h h := ft_r
  unfold qj_X13_unary_118
  refine pc_sv (ft_qf_X13_add (ft_n S F)) ?_; intro u10 Qu10
  have Fu10 : FSr h u10.2 := ft_t F Qu10
  refine pc_if (fun _ => ?_) (fun _ => ?_)
  · exact pc_imp (ft_qj_X13_unary_141 G (ft_n S Fu10)) (fun _ q => ft_t Fu10 q)
  · exact pc_imp (ft_qj_X13_unary_141 G (ft_n S Fu10)) (fun _ q => ft_t Fu10 q)
theorem ft_qj_X13_unary_78 {rc : tq_X13_expression} {l1 : Int} {l2 : Int} {s0 : Int} (G : FSrG_X13_expression rc) {h : ms_M} (S : ¬ h 160 9 = 0) : Pc (qj_X13_unary_78 nn rc l1 l2 s0 h) (fun u => FSr h u.2) := by
  have F : FSr h h := ft_r
  unfold qj_X13_unary_78
  refine pc_if (fun _ => ?_) (fun _ => ?_)
  · refine pc_sv (ft_qf_X13_isDeep (ft_n S F)) ?_; intro u14 Qu14
    have Fu14 : FSr h u14.2 := ft_t F Qu14
    refine pc_if (fun _ => ?_) (fun _ => ?_)
    · refine pc_if (fun _ => ?_) (fun _ => ?_)
      · exact pc_imp (ft_qj_X13_unary_118 G (ft_n S Fu14)) (fun _ q => ft_t Fu14 q)
      · refine pc_xl ?_; intro v17 _
        exact pc_imp (ft_qj_X13_unary_118 G (ft_n S Fu14)) (fun _ q => ft_t Fu14 q)
    · exact pc_ret Fu14
  · refine pc_sv (G.2.2.2.2.1 (ft_n S F)) ?_; intro u21 Qu21
    have Fu21 : FSr h u21.2 := ft_t F Qu21
    exact pc_ret Fu21
theorem ft_qo_X13_unary {rc : tq_X13_expression} {a1 : Int} (G : FSrG_X13_expression rc) {h : ms_M} (S : ¬ h 160 9 = 0) : Pc (qo_X13_unary nn rc a1 h) (fun u => FSr h u.2) := by
  have F : FSr h h := ft_r
  unfold qo_X13_unary
  refine pc_if (fun _ => ?_) (fun _ => ?_)
  · refine pc_se ?_; intro u25 _
    refine pc_se ?_; intro u28 _
    refine pc_if (fun _ => ?_) (fun _ => ?_)
    · refine pc_se ?_; intro u31 _
      refine pc_if (fun _ => ?_) (fun _ => ?_)
      · refine pc_se ?_; intro u34 _
        refine pc_if (fun _ => ?_) (fun _ => ?_)
        · refine pc_if (fun _ => ?_) (fun _ => ?_)
          · exact pc_imp (ft_qj_X13_unary_78 G (ft_n S F)) (fun _ q => ft_t F q)
          · exact pc_imp (ft_qj_X13_unary_78 G (ft_n S F)) (fun _ q => ft_t F q)
        · exact pc_imp (ft_qj_X13_unary_78 G (ft_n S F)) (fun _ q => ft_t F q)
      · exact pc_imp (ft_qj_X13_unary_78 G (ft_n S F)) (fun _ q => ft_t F q)
    · exact pc_imp (ft_qj_X13_unary_78 G (ft_n S F)) (fun _ q => ft_t F q)
  · exact pc_ret F
theorem ft_qj_X13_arguments_113 {rc : tq_X13_expression} {l2 : Int} (G : FSrG_X13_expression rc) {h : ms_M} (S : ¬ h 160 9 = 0) : Pc (qj_X13_arguments_113 nn rc l2 h) (fun u => FSr h u.2) := by
  have F : FSr h h := ft_r
  unfold qj_X13_arguments_113
  refine pc_sv (ft_qf_X13_sign_ (ft_n S F)) ?_; intro u2 Qu2
  have Fu2 : FSr h u2 := ft_t F Qu2
  exact pc_ret Fu2
theorem ft_qj_X13_arguments_41 {rc : tq_X13_expression} {l1 : Int} {l2 : Int} {l3 : Int} (G : FSrG_X13_expression rc) {qkk_10 : Int → Int → Int → ms_M → Option (Int × ms_M)} (Hqkk_10 : ∀ (z0 : Int) (z1 : Int) (z2 : Int) (z3 : ms_M), ¬ z3 160 9 = 0 → Pc (qkk_10 z0 z1 z2 z3) (fun u => FSr z3 u.2)) {h : ms_M} (S : ¬ h 160 9 = 0) : Pc (qj_X13_arguments_41 nn rc qkk_10 l1 l2 l3 h) (fun u => FSr h u.2) := by
  have F : FSr h h := ft_r
  unfold qj_X13_arguments_41
  refine pc_sv (G.1 (ft_n S F)) ?_; intro u4 Qu4
  have Fu4 : FSr h u4.2 := ft_t F Qu4
  refine pc_if (fun _ => ?_) (fun _ => ?_)
  · refine pc_rA ?_; intro _ _ v7 _
    refine pc_rA ?_; intro _ _ v9 _
    refine pc_sv (ft_qf_X13_add (ft_n S Fu4)) ?_; intro u11 Qu11
    have Fu11 : FSr h u11.2 := ft_t Fu4 Qu11
    refine pc_wA ?_; intro _ _ h13 Eh13
    have Fh13 : FSr h h13 := by rw [Eh13]; exact ft_u Fu11 (by omega)
    refine pc_if (fun _ => ?_) (fun _ => ?_)
    · refine pc_wA ?_; intro _ _ h15 Eh15
      have Fh15 : FSr h h15 := by rw [Eh15]; exact ft_u Fh13 (by omega)
      exact pc_imp (Hqkk_10 _ _ _ _ (ft_n S Fh15)) (fun _ q => ft_t Fh15 q)
    · exact pc_imp (Hqkk_10 _ _ _ _ (ft_n S Fh13)) (fun _ q => ft_t Fh13 q)
  · exact pc_ret Fu4
theorem ft_qw_X13_arguments_10 {rc : tq_X13_expression} (G : FSrG_X13_expression rc) : ∀ (k : Nat) (l1 : Int) (l2 : Int) (l3 : Int) (h : ms_M), ¬ h 160 9 = 0 → Pc (qw_X13_arguments_10 nn rc k l1 l2 l3 h) (fun u => FSr h u.2) := by
  intro k
  induction k with
  | zero => intros; exact pc_none
  | succ k ih =>
    intro l1 l2 l3 h S
    have F : FSr h h := ft_r
    unfold qw_X13_arguments_10
    refine pc_if (fun _ => ?_) (fun _ => ?_)
    · exact pc_imp (ft_qj_X13_arguments_113 G (ft_n S F)) (fun _ q => ft_t F q)
    · refine pc_se ?_; intro u21 _
      refine pc_if (fun _ => ?_) (fun _ => ?_)
      · exact pc_imp (ft_qj_X13_arguments_113 G (ft_n S F)) (fun _ q => ft_t F q)
      · refine pc_if (fun _ => ?_) (fun _ => ?_)
        · exact pc_imp (ft_qj_X13_arguments_41 G (fun _ _ _ _ S => ih _ _ _ _ S) (ft_n S F)) (fun _ q => ft_t F q)
        · refine pc_sv (ft_qf_X13_sign_ (ft_n S F)) ?_; intro u23 Qu23
          have Fu23 : FSr h u23 := ft_t F Qu23
          exact pc_imp (ft_qj_X13_arguments_41 G (fun _ _ _ _ S => ih _ _ _ _ S) (ft_n S Fu23)) (fun _ q => ft_t Fu23 q)
theorem ft_qo_X13_arguments {rc : tq_X13_expression} {a1 : Int} (G : FSrG_X13_expression rc) {h : ms_M} (S : ¬ h 160 9 = 0) : Pc (qo_X13_arguments nn rc a1 h) (fun u => FSr h u.2) := by
  have F : FSr h h := ft_r
  unfold qo_X13_arguments
  refine pc_sv (ft_qf_X13_sign_ (ft_n S F)) ?_; intro u28 Qu28
  have Fu28 : FSr h u28 := ft_t F Qu28
  exact pc_imp (ft_qw_X13_arguments_10 G _ _ _ _ _ (ft_n S Fu28)) (fun _ q => ft_t Fu28 q)
theorem ft_qj_X13_postfix_194 {rc : tq_X13_expression} {l1 : Int} {l2 : Int} {l4 : Int} (G : FSrG_X13_expression rc) {qkk_11 : Int → Int → Int → ms_M → Option (Int × ms_M)} (Hqkk_11 : ∀ (z0 : Int) (z1 : Int) (z2 : Int) (z3 : ms_M), ¬ z3 160 9 = 0 → Pc (qkk_11 z0 z1 z2 z3) (fun u => FSr z3 u.2)) {h : ms_M} (S : ¬ h 160 9 = 0) : Pc (qj_X13_postfix_194 nn rc qkk_11 l1 l2 l4 h) (fun u => FSr h u.2) := by
  have F : FSr h h := ft_r
  unfold qj_X13_postfix_194
  refine pc_sv (ft_qf_X13_sign_ (ft_n S F)) ?_; intro u2 Qu2
  have Fu2 : FSr h u2 := ft_t F Qu2
  exact pc_imp (Hqkk_11 _ _ _ _ (ft_n S Fu2)) (fun _ q => ft_t Fu2 q)
theorem ft_qj_X13_postfix_44 {rc : tq_X13_expression} {l1 : Int} {l2 : Int} {l3 : Int} (G : FSrG_X13_expression rc) {qkk_11 : Int → Int → Int → ms_M → Option (Int × ms_M)} (Hqkk_11 : ∀ (z0 : Int) (z1 : Int) (z2 : Int) (z3 : ms_M), ¬ z3 160 9 = 0 → Pc (qkk_11 z0 z1 z2 z3) (fun u => FSr z3 u.2)) {h : ms_M} (S : ¬ h 160 9 = 0) : Pc (qj_X13_postfix_44 nn rc qkk_11 l1 l2 l3 h) (fun u => FSr h u.2) := by
  have F : FSr h h := ft_r
  unfold qj_X13_postfix_44
  refine pc_se ?_; intro u5 _
  refine pc_if (fun _ => ?_) (fun _ => ?_)
  · refine pc_sv (ft_qf_X13_add (ft_n S F)) ?_; intro u8 Qu8
    have Fu8 : FSr h u8.2 := ft_t F Qu8
    refine pc_xl ?_; intro v10 _
    refine pc_xl ?_; intro h11 Eh11
    have Fh11 : FSr h h11 := by rw [Eh11]; exact ft_u Fu8 (by omega)
    refine pc_wA ?_; intro _ _ h13 Eh13
    have Fh13 : FSr h h13 := by rw [Eh13]; exact ft_u Fh11 (by omega)
    refine pc_sv (G.1 (ft_n S Fh13)) ?_; intro u16 Qu16
    have Fu16 : FSr h u16.2 := ft_t Fh13 Qu16
    refine pc_wA ?_; intro _ _ h17 Eh17
    have Fh17 : FSr h h17 := by rw [Eh17]; exact ft_u Fu16 (by omega)
    exact pc_imp (ft_qj_X13_postfix_194 G Hqkk_11 (ft_n S Fh17)) (fun _ q => ft_t Fh17 q)
  · refine pc_sv (ft_qf_X13_add (ft_n S F)) ?_; intro u19 Qu19
    have Fu19 : FSr h u19.2 := ft_t F Qu19
    refine pc_wA ?_; intro _ _ h22 Eh22
    have Fh22 : FSr h h22 := by rw [Eh22]; exact ft_u Fu19 (by omega)
    refine pc_xl ?_; intro v24 _
    refine pc_xl ?_; intro h25 Eh25
    have Fh25 : FSr h h25 := by rw [Eh25]; exact ft_u Fh22 (by omega)
    refine pc_sv (ft_qf_X13_name (ft_n S Fh25)) ?_; intro u28 Qu28
    have Fu28 : FSr h u28.2 := ft_t Fh25 Qu28
    refine pc_wA ?_; intro _ _ h29 Eh29
    have Fh29 : FSr h h29 := by rw [Eh29]; exact ft_u Fu28 (by omega)
    refine pc_wA ?_; intro _ _ h31 Eh31
    have Fh31 : FSr h h31 := by rw [Eh31]; exact ft_u Fh29 (by omega)
    refine pc_if (fun _ => ?_) (fun _ => ?_)
    · exact pc_imp (Hqkk_11 _ _ _ _ (ft_n S Fh31)) (fun _ q => ft_t Fh31 q)
    · refine pc_se ?_; intro u35 _
      refine pc_if (fun _ => ?_) (fun _ => ?_)
      · exact pc_imp (Hqkk_11 _ _ _ _ (ft_n S Fh31)) (fun _ q => ft_t Fh31 q)
      · refine pc_wA ?_; intro _ _ h37 Eh37
        have Fh37 : FSr h h37 := by rw [Eh37]; exact ft_u Fh31 (by omega)
        refine pc_sv (G.2.2.2.1 (ft_n S Fh37)) ?_; intro u40 Qu40
        have Fu40 : FSr h u40.2 := ft_t Fh37 Qu40
        refine pc_wA ?_; intro _ _ h41 Eh41
        have Fh41 : FSr h h41 := by rw [Eh41]; exact ft_u Fu40 (by omega)
        exact pc_imp (Hqkk_11 _ _ _ _ (ft_n S Fh41)) (fun _ q => ft_t Fh41 q)
theorem ft_qw_X13_postfix_11 {rc : tq_X13_expression} (G : FSrG_X13_expression rc) : ∀ (k : Nat) (l1 : Int) (l2 : Int) (l3 : Int) (h : ms_M), ¬ h 160 9 = 0 → Pc (qw_X13_postfix_11 nn rc k l1 l2 l3 h) (fun u => FSr h u.2) := by
  intro k
  induction k with
  | zero => intros; exact pc_none
  | succ k ih =>
    intro l1 l2 l3 h S
    have F : FSr h h := ft_r
    unfold qw_X13_postfix_11
    refine pc_if (fun _ => ?_) (fun _ => ?_)
    · exact pc_ret F
    · refine pc_se ?_; intro u48 _
      refine pc_if (fun _ => ?_) (fun _ => ?_)
      · exact pc_imp (ft_qj_X13_postfix_44 G (fun _ _ _ _ S => ih _ _ _ _ S) (ft_n S F)) (fun _ q => ft_t F q)
      · refine pc_se ?_; intro u51 _
        refine pc_if (fun _ => ?_) (fun _ => ?_)
        · exact pc_ret F
        · exact pc_imp (ft_qj_X13_postfix_44 G (fun _ _ _ _ S => ih _ _ _ _ S) (ft_n S F)) (fun _ q => ft_t F q)
theorem ft_qo_X13_postfix {rc : tq_X13_expression} {a1 : Int} (G : FSrG_X13_expression rc) {h : ms_M} (S : ¬ h 160 9 = 0) : Pc (qo_X13_postfix nn rc a1 h) (fun u => FSr h u.2) := by
  have F : FSr h h := ft_r
  unfold qo_X13_postfix
  refine pc_sv (G.2.2.2.2.2.1 (ft_n S F)) ?_; intro u57 Qu57
  have Fu57 : FSr h u57.2 := ft_t F Qu57
  exact pc_imp (ft_qw_X13_postfix_11 G _ _ _ _ _ (ft_n S Fu57)) (fun _ q => ft_t Fu57 q)
theorem ft_qj_X13_primary_283 {rc : tq_X13_expression} (G : FSrG_X13_expression rc) {h : ms_M} (S : ¬ h 160 9 = 0) : Pc (qj_X13_primary_283 nn rc h) (fun u => FSr h u.2) := by
  have F : FSr h h := ft_r
  unfold qj_X13_primary_283
  refine pc_sv (ft_qf_X13_misplaced (ft_n S F)) ?_; intro u2 Qu2
  have Fu2 : FSr h u2 := ft_t F Qu2
  exact pc_ret Fu2
theorem ft_qj_X13_primary_264 {rc : tq_X13_expression} {l2 : Int} {s0 : Int} (G : FSrG_X13_expression rc) {h : ms_M} (S : ¬ h 160 9 = 0) : Pc (qj_X13_primary_264 nn rc l2 s0 h) (fun u => FSr h u.2) := by
  have F : FSr h h := ft_r
  unfold qj_X13_primary_264
  refine pc_sv (ft_qf_X13_add (ft_n S F)) ?_; intro u4 Qu4
  have Fu4 : FSr h u4.2 := ft_t F Qu4
  exact pc_ret Fu4
theorem ft_qj_X13_primary_215 {rc : tq_X13_expression} {l2 : Int} {l4 : Int} (G : FSrG_X13_expression rc) {h : ms_M} (S : ¬ h 160 9 = 0) : Pc (qj_X13_primary_215 nn rc l2 l4 h) (fun u => FSr h u.2) := by
  have F : FSr h h := ft_r
  unfold qj_X13_primary_215
  refine pc_xl ?_; intro v6 _
  refine pc_xl ?_; intro h7 Eh7
  have Fh7 : FSr h h7 := by rw [Eh7]; exact ft_u F (by omega)
  refine pc_if (fun _ => ?_) (fun _ => ?_)
  · refine pc_if (fun _ => ?_) (fun _ => ?_)
    · refine pc_if (fun _ => ?_) (fun _ => ?_)
      · exact pc_imp (ft_qj_X13_primary_264 G (ft_n S Fh7)) (fun _ q => ft_t Fh7 q)
      · exact pc_imp (ft_qj_X13_primary_264 G (ft_n S Fh7)) (fun _ q => ft_t Fh7 q)
    · exact pc_imp (ft_qj_X13_primary_264 G (ft_n S Fh7)) (fun _ q => ft_t Fh7 q)
  · exact pc_imp (ft_qj_X13_primary_264 G (ft_n S Fh7)) (fun _ q => ft_t Fh7 q)
theorem ft_qj_X13_primary_138 {rc : tq_X13_expression} {l2 : Int} {l3 : Int} (G : FSrG_X13_expression rc) {h : ms_M} (S : ¬ h 160 9 = 0) : Pc (qj_X13_primary_138 nn rc l2 l3 h) (fun u => FSr h u.2) := by
  have F : FSr h h := ft_r
  unfold qj_X13_primary_138
  refine pc_if (fun _ => ?_) (fun _ => ?_)
  · refine pc_wA ?_; intro _ _ h13 Eh13
    have Fh13 : FSr h h13 := by rw [Eh13]; exact ft_u F (by omega)
    refine pc_wZ ?_; intro _ _ h15 Eh15
    have Fh15 : FSr h h15 := by rw [Eh15]; exact ft_u Fh13 (by omega)
    exact pc_ret Fh15
  · exact pc_ret F
theorem ft_qo_X13_primary {rc : tq_X13_expression} {a1 : Int} (G : FSrG_X13_expression rc) {h : ms_M} (S : ¬ h 160 9 = 0) : Pc (qo_X13_primary nn rc a1 h) (fun u => FSr h u.2) := by
  have F : FSr h h := ft_r
  unfold qo_X13_primary
  refine pc_rA ?_; intro _ _ v20 _
  refine pc_if (fun _ => ?_) (fun _ => ?_)
  · refine pc_rA ?_; intro _ _ v23 _
    refine pc_if (fun _ => ?_) (fun _ => ?_)
    · refine pc_se ?_; intro u26 _
      refine pc_if (fun _ => ?_) (fun _ => ?_)
      · refine pc_rA ?_; intro _ _ v29 _
        refine pc_if (fun _ => ?_) (fun _ => ?_)
        · exact pc_imp (ft_qj_X13_primary_283 G (ft_n S F)) (fun _ q => ft_t F q)
        · refine pc_rA ?_; intro _ _ v32 _
          refine pc_if (fun _ => ?_) (fun _ => ?_)
          · exact pc_imp (ft_qj_X13_primary_215 G (ft_n S F)) (fun _ q => ft_t F q)
          · refine pc_if (fun _ => ?_) (fun _ => ?_)
            · exact pc_imp (ft_qj_X13_primary_215 G (ft_n S F)) (fun _ q => ft_t F q)
            · refine pc_if (fun _ => ?_) (fun _ => ?_)
              · exact pc_imp (ft_qj_X13_primary_215 G (ft_n S F)) (fun _ q => ft_t F q)
              · refine pc_if (fun _ => ?_) (fun _ => ?_)
                · refine pc_if (fun _ => ?_) (fun _ => ?_)
                  · exact pc_imp (ft_qj_X13_primary_283 G (ft_n S F)) (fun _ q => ft_t F q)
                  · refine pc_sv (G.2.2.2.2.2.2 (ft_n S F)) ?_; intro u34 Qu34
                    have Fu34 : FSr h u34.2 := ft_t F Qu34
                    exact pc_ret Fu34
                · exact pc_imp (ft_qj_X13_primary_215 G (ft_n S F)) (fun _ q => ft_t F q)
      · refine pc_xl ?_; intro v42 _
        refine pc_xl ?_; intro h43 Eh43
        have Fh43 : FSr h h43 := by rw [Eh43]; exact ft_u F (by omega)
        refine pc_sv (G.1 (ft_n S Fh43)) ?_; intro u45 Qu45
        have Fu45 : FSr h u45.2 := ft_t Fh43 Qu45
        refine pc_sv (ft_qf_X13_sign_ (ft_n S Fu45)) ?_; intro u47 Qu47
        have Fu47 : FSr h u47 := ft_t Fu45 Qu47
        exact pc_imp (ft_qj_X13_primary_138 G (ft_n S Fu47)) (fun _ q => ft_t Fu47 q)
    · refine pc_xl ?_; intro v50 _
      refine pc_xl ?_; intro h51 Eh51
      have Fh51 : FSr h h51 := by rw [Eh51]; exact ft_u F (by omega)
      refine pc_sv (ft_qf_X13_add (ft_n S Fh51)) ?_; intro u53 Qu53
      have Fu53 : FSr h u53.2 := ft_t Fh51 Qu53
      refine pc_se ?_; intro u56 _
      refine pc_if (fun _ => ?_) (fun _ => ?_)
      · exact pc_ret Fu53
      · refine pc_wA ?_; intro _ _ h58 Eh58
        have Fh58 : FSr h h58 := by rw [Eh58]; exact ft_u Fu53 (by omega)
        refine pc_sv (G.2.2.2.1 (ft_n S Fh58)) ?_; intro u61 Qu61
        have Fu61 : FSr h u61.2 := ft_t Fh58 Qu61
        refine pc_wA ?_; intro _ _ h62 Eh62
        have Fh62 : FSr h h62 := by rw [Eh62]; exact ft_u Fu61 (by omega)
        exact pc_ret Fh62
  · refine pc_xl ?_; intro v66 _
    refine pc_xl ?_; intro h67 Eh67
    have Fh67 : FSr h h67 := by rw [Eh67]; exact ft_u F (by omega)
    refine pc_sv (ft_qf_X13_add (ft_n S Fh67)) ?_; intro u69 Qu69
    have Fu69 : FSr h u69.2 := ft_t Fh67 Qu69
    exact pc_ret Fu69
theorem ft_qj_X13_fresh_142 {rc : tq_X13_expression} {l1 : Int} {l4 : Int} (G : FSrG_X13_expression rc) {h : ms_M} (S : ¬ h 160 9 = 0) : Pc (qj_X13_fresh_142 nn rc l1 l4 h) (fun u => FSr h u.2) := by
  have F : FSr h h := ft_r
  unfold qj_X13_fresh_142
  refine pc_sv (G.1 (ft_n S F)) ?_; intro u3 Qu3
  have Fu3 : FSr h u3.2 := ft_t F Qu3
  refine pc_wA ?_; intro _ _ h4 Eh4
  have Fh4 : FSr h h4 := by rw [Eh4]; exact ft_u Fu3 (by omega)
  refine pc_sv (ft_qf_X13_sign_ (ft_n S Fh4)) ?_; intro u6 Qu6
  have Fu6 : FSr h u6 := ft_t Fh4 Qu6
  exact pc_ret Fu6
theorem ft_qo_X13_fresh {rc : tq_X13_expression} {a1 : Int} (G : FSrG_X13_expression rc) {h : ms_M} (S : ¬ h 160 9 = 0) : Pc (qo_X13_fresh nn rc a1 h) (fun u => FSr h u.2) := by
  have F : FSr h h := ft_r
  unfold qo_X13_fresh
  refine pc_xl ?_; intro v9 _
  refine pc_xl ?_; intro h10 Eh10
  have Fh10 : FSr h h10 := by rw [Eh10]; exact ft_u F (by omega)
  refine pc_se ?_; intro u13 _
  refine pc_if (fun _ => ?_) (fun _ => ?_)
  · refine pc_sv (ft_qf_X13_name (ft_n S Fh10)) ?_; intro u15 Qu15
    have Fu15 : FSr h u15.2 := ft_t Fh10 Qu15
    refine pc_if (fun _ => ?_) (fun _ => ?_)
    · refine pc_sv (ft_qf_X13_add (ft_n S Fu15)) ?_; intro u18 Qu18
      have Fu18 : FSr h u18.2 := ft_t Fu15 Qu18
      refine pc_se ?_; intro u21 _
      refine pc_if (fun _ => ?_) (fun _ => ?_)
      · refine pc_sv (ft_qf_X13_sign_ (ft_n S Fu18)) ?_; intro u23 Qu23
        have Fu23 : FSr h u23 := ft_t Fu18 Qu23
        refine pc_sv (ft_qf_X13_sign_ (ft_n S Fu23)) ?_; intro u25 Qu25
        have Fu25 : FSr h u25 := ft_t Fu23 Qu25
        exact pc_ret Fu25
      · refine pc_wA ?_; intro _ _ h27 Eh27
        have Fh27 : FSr h h27 := by rw [Eh27]; exact ft_u Fu18 (by omega)
        refine pc_wA ?_; intro _ _ h30 Eh30
        have Fh30 : FSr h h30 := by rw [Eh30]; exact ft_u Fh27 (by omega)
        refine pc_xl ?_; intro v32 _
        refine pc_xl ?_; intro h33 Eh33
        have Fh33 : FSr h h33 := by rw [Eh33]; exact ft_u Fh30 (by omega)
        exact pc_imp (ft_qj_X13_fresh_142 G (ft_n S Fh33)) (fun _ q => ft_t Fh33 q)
    · exact pc_ret Fu15
  · refine pc_xl ?_; intro v37 _
    refine pc_xl ?_; intro h38 Eh38
    have Fh38 : FSr h h38 := by rw [Eh38]; exact ft_u Fh10 (by omega)
    refine pc_sv (ft_qf_X13_add (ft_n S Fh38)) ?_; intro u41 Qu41
    have Fu41 : FSr h u41.2 := ft_t Fh38 Qu41
    refine pc_sv (ft_qf_X13_sign_ (ft_n S Fu41)) ?_; intro u43 Qu43
    have Fu43 : FSr h u43 := ft_t Fu41 Qu43
    refine pc_sv (G.1 (ft_n S Fu43)) ?_; intro u46 Qu46
    have Fu46 : FSr h u46.2 := ft_t Fu43 Qu46
    refine pc_wA ?_; intro _ _ h47 Eh47
    have Fh47 : FSr h h47 := by rw [Eh47]; exact ft_u Fu46 (by omega)
    refine pc_sv (ft_qf_X13_sign_ (ft_n S Fh47)) ?_; intro u49 Qu49
    have Fu49 : FSr h u49 := ft_t Fh47 Qu49
    exact pc_ret Fu49
theorem ftg_X13_expression (nn : Nat) : ∀ d, FSrG_X13_expression (qg_X13_expression nn d) := by
  intro d
  induction d with
  | zero => exact ⟨fun _ => pc_none, fun _ => pc_none, fun _ => pc_none, fun _ => pc_none, fun _ => pc_none, fun _ => pc_none, fun _ => pc_none⟩
  | succ d ih => exact ⟨fun S => ft_qo_X13_expression ih S, fun S => ft_qo_X13_sides ih S, fun S => ft_qo_X13_unary ih S, fun S => ft_qo_X13_arguments ih S, fun S => ft_qo_X13_postfix ih S, fun S => ft_qo_X13_primary ih S, fun S => ft_qo_X13_fresh ih S⟩
theorem ft_qf_X13_expression {a1 : Int} (S : ¬ h 160 9 = 0) : Pc (qf_X13_expression nn a1 h) (fun u => FSr h u.2) := (ftg_X13_expression nn 700).1 S
theorem ft_qj_X13_plain_89 {l2 : Int} {h : ms_M} (S : ¬ h 160 9 = 0) : Pc (qj_X13_plain_89 nn l2 h) (fun u => FSr h u.2) := by
  have F : FSr h h := ft_r
  unfold qj_X13_plain_89
  refine pc_sv (ft_qf_X13_sign_ (ft_n S F)) ?_; intro u2 Qu2
  have Fu2 : FSr h u2 := ft_t F Qu2
  exact pc_ret Fu2
theorem ft_qf_X13_plain {a1 : Int} {h : ms_M} (S : ¬ h 160 9 = 0) : Pc (qf_X13_plain nn a1 h) (fun u => FSr h u.2) := by
  have F : FSr h h := ft_r
  unfold qf_X13_plain
  refine pc_sv (ft_qf_X13_add (ft_n S F)) ?_; intro u6 Qu6
  have Fu6 : FSr h u6.2 := ft_t F Qu6
  refine pc_xl ?_; intro v8 _
  refine pc_sv (ft_qf_X13_expression (ft_n S Fu6)) ?_; intro u10 Qu10
  have Fu10 : FSr h u10.2 := ft_t Fu6 Qu10
  refine pc_wA ?_; intro _ _ h11 Eh11
  have Fh11 : FSr h h11 := by rw [Eh11]; exact ft_u Fu10 (by omega)
  refine pc_if (fun _ => ?_) (fun _ => ?_)
  · exact pc_imp (ft_qj_X13_plain_89 (ft_n S Fh11)) (fun _ q => ft_t Fh11 q)
  · refine pc_se ?_; intro u15 _
    refine pc_if (fun _ => ?_) (fun _ => ?_)
    · exact pc_imp (ft_qj_X13_plain_89 (ft_n S Fh11)) (fun _ q => ft_t Fh11 q)
    · refine pc_wA ?_; intro _ _ h17 Eh17
      have Fh17 : FSr h h17 := by rw [Eh17]; exact ft_u Fh11 (by omega)
      refine pc_wA ?_; intro _ _ h20 Eh20
      have Fh20 : FSr h h20 := by rw [Eh20]; exact ft_u Fh17 (by omega)
      refine pc_xl ?_; intro v22 _
      refine pc_xl ?_; intro h23 Eh23
      have Fh23 : FSr h h23 := by rw [Eh23]; exact ft_u Fh20 (by omega)
      refine pc_xl ?_; intro v25 _
      refine pc_sv (ft_qf_X13_expression (ft_n S Fh23)) ?_; intro u27 Qu27
      have Fu27 : FSr h u27.2 := ft_t Fh23 Qu27
      refine pc_wA ?_; intro _ _ h28 Eh28
      have Fh28 : FSr h h28 := by rw [Eh28]; exact ft_u Fu27 (by omega)
      exact pc_imp (ft_qj_X13_plain_89 (ft_n S Fh28)) (fun _ q => ft_t Fh28 q)
def FSrG_X13_block (rc : tq_X13_block) : Prop := (∀ {a1 : Int} {h : ms_M}, ¬ h 160 9 = 0 → Pc (rc.1 a1 h) (fun u => FSr h u.2)) ∧ (∀ {a1 : Int} {h : ms_M}, ¬ h 160 9 = 0 → Pc (rc.2 a1 h) (fun u => FSr h u.2))
theorem ft_qj_X13_block_79 {rc : tq_X13_block} {l2 : Int} (G : FSrG_X13_block rc) {h : ms_M} (S : ¬ h 160 9 = 0) : Pc (qj_X13_block_79 nn rc l2 h) (fun u => FSr h u.2) := by
  have F : FSr h h := ft_r
  unfold qj_X13_block_79
  refine pc_sv (ft_qf_X13_sign_ (ft_n S F)) ?_; intro u2 Qu2
  have Fu2 : FSr h u2 := ft_t F Qu2
  exact pc_ret Fu2
theorem ft_qw_X13_block_22 {rc : tq_X13_block} (G : FSrG_X13_block rc) : ∀ (k : Nat) (l1 : Int) (l2 : Int) (l3 : Int) (h : ms_M), ¬ h 160 9 = 0 → Pc (qw_X13_block_22 nn rc k l1 l2 l3 h) (fun u => FSr h u.2) := by
  intro k
  induction k with
  | zero => intros; exact pc_none
  | succ k ih =>
    intro l1 l2 l3 h S
    have F : FSr h h := ft_r
    unfold qw_X13_block_22
    refine pc_if (fun _ => ?_) (fun _ => ?_)
    · exact pc_imp (ft_qj_X13_block_79 G (ft_n S F)) (fun _ q => ft_t F q)
    · refine pc_se ?_; intro u6 _
      refine pc_if (fun _ => ?_) (fun _ => ?_)
      · exact pc_imp (ft_qj_X13_block_79 G (ft_n S F)) (fun _ q => ft_t F q)
      · refine pc_sv (G.2 (ft_n S F)) ?_; intro u8 Qu8
        have Fu8 : FSr h u8.2 := ft_t F Qu8
        refine pc_if (fun _ => ?_) (fun _ => ?_)
        · refine pc_wA ?_; intro _ _ h10 Eh10
          have Fh10 : FSr h h10 := by rw [Eh10]; exact ft_u Fu8 (by omega)
          exact pc_imp (ih _ _ _ _ (ft_n S Fh10)) (fun _ q => ft_t Fh10 q)
        · refine pc_wA ?_; intro _ _ h12 Eh12
          have Fh12 : FSr h h12 := by rw [Eh12]; exact ft_u Fu8 (by omega)
          exact pc_imp (ih _ _ _ _ (ft_n S Fh12)) (fun _ q => ft_t Fh12 q)
theorem ft_qo_X13_block {rc : tq_X13_block} {a1 : Int} (G : FSrG_X13_block rc) {h : ms_M} (S : ¬ h 160 9 = 0) : Pc (qo_X13_block nn rc a1 h) (fun u => FSr h u.2) := by
  have F : FSr h h := ft_r
  unfold qo_X13_block
  refine pc_sv (ft_qf_X13_add (ft_n S F)) ?_; intro u19 Qu19
  have Fu19 : FSr h u19.2 := ft_t F Qu19
  refine pc_sv (ft_qf_X13_sign_ (ft_n S Fu19)) ?_; intro u21 Qu21
  have Fu21 : FSr h u21 := ft_t Fu19 Qu21
  exact pc_imp (ft_qw_X13_block_22 G _ _ _ _ _ (ft_n S Fu21)) (fun _ q => ft_t Fu21 q)
theorem ft_qj_X13_statement_755 {rc : tq_X13_block} {l1 : Int} (G : FSrG_X13_block rc) {h : ms_M} (S : ¬ h 160 9 = 0) : Pc (qj_X13_statement_755 nn rc l1 h) (fun u => FSr h u.2) := by
  have F : FSr h h := ft_r
  unfold qj_X13_statement_755
  refine pc_sv (ft_qf_X13_plain (ft_n S F)) ?_; intro u2 Qu2
  have Fu2 : FSr h u2.2 := ft_t F Qu2
  exact pc_ret Fu2
theorem ft_qj_X13_statement_698 {rc : tq_X13_block} {l3 : Int} (G : FSrG_X13_block rc) {h : ms_M} (S : ¬ h 160 9 = 0) : Pc (qj_X13_statement_698 nn rc l3 h) (fun u => FSr h u.2) := by
  have F : FSr h h := ft_r
  unfold qj_X13_statement_698
  exact pc_ret F
theorem ft_qj_X13_statement_562 {rc : tq_X13_block} {l3 : Int} (G : FSrG_X13_block rc) {h : ms_M} (S : ¬ h 160 9 = 0) : Pc (qj_X13_statement_562 nn rc l3 h) (fun u => FSr h u.2) := by
  have F : FSr h h := ft_r
  unfold qj_X13_statement_562
  refine pc_sv (ft_qf_X13_sign_ (ft_n S F)) ?_; intro u4 Qu4
  have Fu4 : FSr h u4 := ft_t F Qu4
  exact pc_ret Fu4
theorem ft_qj_X13_statement_487 {rc : tq_X13_block} {l2 : Int} {s0 : Int} (G : FSrG_X13_block rc) {h : ms_M} (S : ¬ h 160 9 = 0) : Pc (qj_X13_statement_487 nn rc l2 s0 h) (fun u => FSr h u.2) := by
  have F : FSr h h := ft_r
  unfold qj_X13_statement_487
  refine pc_sv (ft_qf_X13_add (ft_n S F)) ?_; intro u7 Qu7
  have Fu7 : FSr h u7.2 := ft_t F Qu7
  refine pc_xl ?_; intro v9 _
  refine pc_xl ?_; intro h10 Eh10
  have Fh10 : FSr h h10 := by rw [Eh10]; exact ft_u Fu7 (by omega)
  refine pc_sv (ft_qf_X13_sign_ (ft_n S Fh10)) ?_; intro u12 Qu12
  have Fu12 : FSr h u12 := ft_t Fh10 Qu12
  exact pc_ret Fu12
theorem ft_qj_X13_statement_467 {rc : tq_X13_block} {l2 : Int} (G : FSrG_X13_block rc) {h : ms_M} (S : ¬ h 160 9 = 0) : Pc (qj_X13_statement_467 nn rc l2 h) (fun u => FSr h u.2) := by
  have F : FSr h h := ft_r
  unfold qj_X13_statement_467
  refine pc_rA ?_; intro _ _ v15 _
  refine pc_if (fun _ => ?_) (fun _ => ?_)
  · exact pc_imp (ft_qj_X13_statement_487 G (ft_n S F)) (fun _ q => ft_t F q)
  · exact pc_imp (ft_qj_X13_statement_487 G (ft_n S F)) (fun _ q => ft_t F q)
theorem ft_qj_X13_statement_432 {rc : tq_X13_block} {l1 : Int} {l3 : Int} {s0 : Int} {s1 : Int} (G : FSrG_X13_block rc) {h : ms_M} (S : ¬ h 160 9 = 0) : Pc (qj_X13_statement_432 nn rc l1 l3 s0 s1 h) (fun u => FSr h u.2) := by
  have F : FSr h h := ft_r
  unfold qj_X13_statement_432
  refine pc_wA ?_; intro _ _ h17 Eh17
  have Fh17 : FSr h h17 := by rw [Eh17]; exact ft_u F (by omega)
  refine pc_xl ?_; intro v19 _
  refine pc_sv (ft_qf_X13_expression (ft_n S Fh17)) ?_; intro u21 Qu21
  have Fu21 : FSr h u21.2 := ft_t Fh17 Qu21
  refine pc_wA ?_; intro _ _ h22 Eh22
  have Fh22 : FSr h h22 := by rw [Eh22]; exact ft_u Fu21 (by omega)
  refine pc_sv (ft_qf_X13_sign_ (ft_n S Fh22)) ?_; intro u24 Qu24
  have Fu24 : FSr h u24 := ft_t Fh22 Qu24
  refine pc_xl ?_; intro v26 _
  refine pc_sv (G.2 (ft_n S Fu24)) ?_; intro u28 Qu28
  have Fu28 : FSr h u28.2 := ft_t Fu24 Qu28
  refine pc_wA ?_; intro _ _ h29 Eh29
  have Fh29 : FSr h h29 := by rw [Eh29]; exact ft_u Fu28 (by omega)
  exact pc_ret Fh29
theorem ft_qj_X13_statement_431 {rc : tq_X13_block} {l1 : Int} {l3 : Int} {s0 : Int} (G : FSrG_X13_block rc) {h : ms_M} (S : ¬ h 160 9 = 0) : Pc (qj_X13_statement_431 nn rc l1 l3 s0 h) (fun u => FSr h u.2) := by
  have F : FSr h h := ft_r
  unfold qj_X13_statement_431
  exact pc_imp (ft_qj_X13_statement_432 G (ft_n S F)) (fun _ q => ft_t F q)
theorem ft_qj_X13_statement_310 {rc : tq_X13_block} {l1 : Int} {l3 : Int} (G : FSrG_X13_block rc) {h : ms_M} (S : ¬ h 160 9 = 0) : Pc (qj_X13_statement_310 nn rc l1 l3 h) (fun u => FSr h u.2) := by
  have F : FSr h h := ft_r
  unfold qj_X13_statement_310
  refine pc_xl ?_; intro v31 _
  refine pc_sv (G.2 (ft_n S F)) ?_; intro u33 Qu33
  have Fu33 : FSr h u33.2 := ft_t F Qu33
  refine pc_wA ?_; intro _ _ h34 Eh34
  have Fh34 : FSr h h34 := by rw [Eh34]; exact ft_u Fu33 (by omega)
  refine pc_if (fun _ => ?_) (fun _ => ?_)
  · exact pc_ret Fh34
  · refine pc_se ?_; intro u38 _
    refine pc_if (fun _ => ?_) (fun _ => ?_)
    · exact pc_ret Fh34
    · refine pc_xl ?_; intro v40 _
      refine pc_xl ?_; intro h41 Eh41
      have Fh41 : FSr h h41 := by rw [Eh41]; exact ft_u Fh34 (by omega)
      refine pc_xl ?_; intro v43 _
      refine pc_sv (G.2 (ft_n S Fh41)) ?_; intro u45 Qu45
      have Fu45 : FSr h u45.2 := ft_t Fh41 Qu45
      refine pc_wA ?_; intro _ _ h46 Eh46
      have Fh46 : FSr h h46 := by rw [Eh46]; exact ft_u Fu45 (by omega)
      exact pc_ret Fh46
theorem ft_qj_X13_statement_78 {rc : tq_X13_block} {l1 : Int} {l3 : Int} {s0 : Int} {s1 : Int} {s2 : Int} (G : FSrG_X13_block rc) {h : ms_M} (S : ¬ h 160 9 = 0) : Pc (qj_X13_statement_78 nn rc l1 l3 s0 s1 s2 h) (fun u => FSr h u.2) := by
  have F : FSr h h := ft_r
  unfold qj_X13_statement_78
  refine pc_xl ?_; intro v49 _
  refine pc_wA ?_; intro _ _ h50 Eh50
  have Fh50 : FSr h h50 := by rw [Eh50]; exact ft_u F (by omega)
  refine pc_wA ?_; intro _ _ h53 Eh53
  have Fh53 : FSr h h53 := by rw [Eh53]; exact ft_u Fh50 (by omega)
  refine pc_sv (ft_qf_X13_name (ft_n S Fh53)) ?_; intro u56 Qu56
  have Fu56 : FSr h u56.2 := ft_t Fh53 Qu56
  refine pc_wA ?_; intro _ _ h57 Eh57
  have Fh57 : FSr h h57 := by rw [Eh57]; exact ft_u Fu56 (by omega)
  refine pc_wA ?_; intro _ _ h60 Eh60
  have Fh60 : FSr h h60 := by rw [Eh60]; exact ft_u Fh57 (by omega)
  refine pc_sv (ft_qf_X13_sign_ (ft_n S Fh60)) ?_; intro u62 Qu62
  have Fu62 : FSr h u62 := ft_t Fh60 Qu62
  refine pc_xl ?_; intro v64 _
  refine pc_sv (ft_qf_X13_expression (ft_n S Fu62)) ?_; intro u66 Qu66
  have Fu66 : FSr h u66.2 := ft_t Fu62 Qu66
  refine pc_wA ?_; intro _ _ h67 Eh67
  have Fh67 : FSr h h67 := by rw [Eh67]; exact ft_u Fu66 (by omega)
  refine pc_sv (ft_qf_X13_sign_ (ft_n S Fh67)) ?_; intro u69 Qu69
  have Fu69 : FSr h u69 := ft_t Fh67 Qu69
  exact pc_ret Fu69
theorem ft_qo_X13_statement {rc : tq_X13_block} {a1 : Int} (G : FSrG_X13_block rc) {h : ms_M} (S : ¬ h 160 9 = 0) : Pc (qo_X13_statement nn rc a1 h) (fun u => FSr h u.2) := by
  have F : FSr h h := ft_r
  unfold qo_X13_statement
  refine pc_sv (ft_qf_X13_isDeep (ft_n S F)) ?_; intro u71 Qu71
  have Fu71 : FSr h u71.2 := ft_t F Qu71
  refine pc_if (fun _ => ?_) (fun _ => ?_)
  · refine pc_se ?_; intro u75 _
    refine pc_if (fun _ => ?_) (fun _ => ?_)
    · refine pc_se ?_; intro u77 _
      refine pc_if (fun _ => ?_) (fun _ => ?_)
      · refine pc_rA ?_; intro _ _ v80 _
        refine pc_if (fun _ => ?_) (fun _ => ?_)
        · refine pc_rA ?_; intro _ _ v83 _
          refine pc_if (fun _ => ?_) (fun _ => ?_)
          · exact pc_imp (ft_qj_X13_statement_467 G (ft_n S Fu71)) (fun _ q => ft_t Fu71 q)
          · refine pc_if (fun _ => ?_) (fun _ => ?_)
            · exact pc_imp (ft_qj_X13_statement_467 G (ft_n S Fu71)) (fun _ q => ft_t Fu71 q)
            · refine pc_if (fun _ => ?_) (fun _ => ?_)
              · refine pc_sv (ft_qf_X13_add (ft_n S Fu71)) ?_; intro u86 Qu86
                have Fu86 : FSr h u86.2 := ft_t Fu71 Qu86
                refine pc_xl ?_; intro v88 _
                refine pc_xl ?_; intro h89 Eh89
                have Fh89 : FSr h h89 := by rw [Eh89]; exact ft_u Fu86 (by omega)
                refine pc_sv (ft_qf_X13_sign_ (ft_n S Fh89)) ?_; intro u91 Qu91
                have Fu91 : FSr h u91 := ft_t Fh89 Qu91
                refine pc_xl ?_; intro v93 _
                refine pc_sv (ft_qf_X13_expression (ft_n S Fu91)) ?_; intro u95 Qu95
                have Fu95 : FSr h u95.2 := ft_t Fu91 Qu95
                refine pc_wA ?_; intro _ _ h96 Eh96
                have Fh96 : FSr h h96 := by rw [Eh96]; exact ft_u Fu95 (by omega)
                refine pc_sv (ft_qf_X13_sign_ (ft_n S Fh96)) ?_; intro u98 Qu98
                have Fu98 : FSr h u98 := ft_t Fh96 Qu98
                exact pc_imp (ft_qj_X13_statement_310 G (ft_n S Fu98)) (fun _ q => ft_t Fu98 q)
              · refine pc_if (fun _ => ?_) (fun _ => ?_)
                · refine pc_sv (ft_qf_X13_add (ft_n S Fu71)) ?_; intro u101 Qu101
                  have Fu101 : FSr h u101.2 := ft_t Fu71 Qu101
                  refine pc_xl ?_; intro v103 _
                  refine pc_xl ?_; intro h104 Eh104
                  have Fh104 : FSr h h104 := by rw [Eh104]; exact ft_u Fu101 (by omega)
                  refine pc_sv (ft_qf_X13_sign_ (ft_n S Fh104)) ?_; intro u106 Qu106
                  have Fu106 : FSr h u106 := ft_t Fh104 Qu106
                  refine pc_xl ?_; intro v108 _
                  refine pc_sv (ft_qf_X13_expression (ft_n S Fu106)) ?_; intro u110 Qu110
                  have Fu110 : FSr h u110.2 := ft_t Fu106 Qu110
                  refine pc_wA ?_; intro _ _ h111 Eh111
                  have Fh111 : FSr h h111 := by rw [Eh111]; exact ft_u Fu110 (by omega)
                  refine pc_sv (ft_qf_X13_sign_ (ft_n S Fh111)) ?_; intro u113 Qu113
                  have Fu113 : FSr h u113 := ft_t Fh111 Qu113
                  refine pc_sv (ft_qf_X13_sign_ (ft_n S Fu113)) ?_; intro u115 Qu115
                  have Fu115 : FSr h u115 := ft_t Fu113 Qu115
                  exact pc_ret Fu115
                · refine pc_if (fun _ => ?_) (fun _ => ?_)
                  · refine pc_sv (ft_qf_X13_add (ft_n S Fu71)) ?_; intro u118 Qu118
                    have Fu118 : FSr h u118.2 := ft_t Fu71 Qu118
                    refine pc_xl ?_; intro v120 _
                    refine pc_xl ?_; intro h121 Eh121
                    have Fh121 : FSr h h121 := by rw [Eh121]; exact ft_u Fu118 (by omega)
                    refine pc_se ?_; intro u124 _
                    refine pc_if (fun _ => ?_) (fun _ => ?_)
                    · exact pc_imp (ft_qj_X13_statement_562 G (ft_n S Fh121)) (fun _ q => ft_t Fh121 q)
                    · refine pc_xl ?_; intro v126 _
                      refine pc_sv (ft_qf_X13_expression (ft_n S Fh121)) ?_; intro u128 Qu128
                      have Fu128 : FSr h u128.2 := ft_t Fh121 Qu128
                      refine pc_wA ?_; intro _ _ h129 Eh129
                      have Fh129 : FSr h h129 := by rw [Eh129]; exact ft_u Fu128 (by omega)
                      exact pc_imp (ft_qj_X13_statement_562 G (ft_n S Fh129)) (fun _ q => ft_t Fh129 q)
                  · refine pc_if (fun _ => ?_) (fun _ => ?_)
                    · refine pc_sv (ft_qf_X13_add (ft_n S Fu71)) ?_; intro u133 Qu133
                      have Fu133 : FSr h u133.2 := ft_t Fu71 Qu133
                      refine pc_xl ?_; intro v135 _
                      refine pc_xl ?_; intro h136 Eh136
                      have Fh136 : FSr h h136 := by rw [Eh136]; exact ft_u Fu133 (by omega)
                      refine pc_xl ?_; intro v138 _
                      refine pc_sv (ft_qf_X13_expression (ft_n S Fh136)) ?_; intro u140 Qu140
                      have Fu140 : FSr h u140.2 := ft_t Fh136 Qu140
                      refine pc_wA ?_; intro _ _ h141 Eh141
                      have Fh141 : FSr h h141 := by rw [Eh141]; exact ft_u Fu140 (by omega)
                      refine pc_sv (ft_qf_X13_sign_ (ft_n S Fh141)) ?_; intro u143 Qu143
                      have Fu143 : FSr h u143 := ft_t Fh141 Qu143
                      exact pc_ret Fu143
                    · refine pc_if (fun _ => ?_) (fun _ => ?_)
                      · refine pc_sv (ft_qf_X13_add (ft_n S Fu71)) ?_; intro u146 Qu146
                        have Fu146 : FSr h u146.2 := ft_t Fu71 Qu146
                        refine pc_xl ?_; intro v148 _
                        refine pc_xl ?_; intro h149 Eh149
                        have Fh149 : FSr h h149 := by rw [Eh149]; exact ft_u Fu146 (by omega)
                        refine pc_xl ?_; intro v151 _
                        refine pc_sv (G.1 (ft_n S Fh149)) ?_; intro u153 Qu153
                        have Fu153 : FSr h u153.2 := ft_t Fh149 Qu153
                        refine pc_wA ?_; intro _ _ h154 Eh154
                        have Fh154 : FSr h h154 := by rw [Eh154]; exact ft_u Fu153 (by omega)
                        refine pc_sv (ft_qf_X13_word (ft_n S Fh154)) ?_; intro u156 Qu156
                        have Fu156 : FSr h u156 := ft_t Fh154 Qu156
                        refine pc_sv (ft_qf_X13_sign_ (ft_n S Fu156)) ?_; intro u158 Qu158
                        have Fu158 : FSr h u158 := ft_t Fu156 Qu158
                        refine pc_sv (ft_qf_X13_name (ft_n S Fu158)) ?_; intro u161 Qu161
                        have Fu161 : FSr h u161.2 := ft_t Fu158 Qu161
                        refine pc_wA ?_; intro _ _ h162 Eh162
                        have Fh162 : FSr h h162 := by rw [Eh162]; exact ft_u Fu161 (by omega)
                        refine pc_sv (ft_qf_X13_name (ft_n S Fh162)) ?_; intro u165 Qu165
                        have Fu165 : FSr h u165.2 := ft_t Fh162 Qu165
                        refine pc_wA ?_; intro _ _ h166 Eh166
                        have Fh166 : FSr h h166 := by rw [Eh166]; exact ft_u Fu165 (by omega)
                        refine pc_sv (ft_qf_X13_sign_ (ft_n S Fh166)) ?_; intro u168 Qu168
                        have Fu168 : FSr h u168 := ft_t Fh166 Qu168
                        refine pc_xl ?_; intro v170 _
                        refine pc_sv (G.1 (ft_n S Fu168)) ?_; intro u172 Qu172
                        have Fu172 : FSr h u172.2 := ft_t Fu168 Qu172
                        refine pc_wA ?_; intro _ _ h173 Eh173
                        have Fh173 : FSr h h173 := by rw [Eh173]; exact ft_u Fu172 (by omega)
                        exact pc_imp (ft_qj_X13_statement_698 G (ft_n S Fh173)) (fun _ q => ft_t Fh173 q)
                      · refine pc_if (fun _ => ?_) (fun _ => ?_)
                        · refine pc_sv (ft_qf_X13_add (ft_n S Fu71)) ?_; intro u176 Qu176
                          have Fu176 : FSr h u176.2 := ft_t Fu71 Qu176
                          refine pc_xl ?_; intro v178 _
                          refine pc_xl ?_; intro h179 Eh179
                          have Fh179 : FSr h h179 := by rw [Eh179]; exact ft_u Fu176 (by omega)
                          refine pc_sv (ft_qf_X13_sign_ (ft_n S Fh179)) ?_; intro u181 Qu181
                          have Fu181 : FSr h u181 := ft_t Fh179 Qu181
                          refine pc_se ?_; intro u185 _
                          refine pc_if (fun _ => ?_) (fun _ => ?_)
                          · exact pc_imp (ft_qj_X13_statement_431 G (ft_n S Fu181)) (fun _ q => ft_t Fu181 q)
                          · refine pc_xl ?_; intro v187 _
                            refine pc_se ?_; intro u189 _
                            refine pc_if (fun _ => ?_) (fun _ => ?_)
                            · exact pc_imp (ft_qj_X13_statement_431 G (ft_n S Fu181)) (fun _ q => ft_t Fu181 q)
                            · exact pc_imp (ft_qj_X13_statement_432 G (ft_n S Fu181)) (fun _ q => ft_t Fu181 q)
                        · exact pc_imp (ft_qj_X13_statement_755 G (ft_n S Fu71)) (fun _ q => ft_t Fu71 q)
        · refine pc_sv (ft_qf_X13_plain (ft_n S Fu71)) ?_; intro u193 Qu193
          have Fu193 : FSr h u193.2 := ft_t Fu71 Qu193
          exact pc_ret Fu193
      · refine pc_sv (ft_qf_X13_type (ft_n S Fu71)) ?_; intro u196 Qu196
        have Fu196 : FSr h u196 := ft_t Fu71 Qu196
        refine pc_sv (ft_qf_X13_add (ft_n S Fu196)) ?_; intro u198 Qu198
        have Fu198 : FSr h u198.2 := ft_t Fu196 Qu198
        refine pc_xl ?_; intro v201 _
        refine pc_if (fun _ => ?_) (fun _ => ?_)
        · exact pc_imp (ft_qj_X13_statement_78 G (ft_n S Fu198)) (fun _ q => ft_t Fu198 q)
        · exact pc_imp (ft_qj_X13_statement_78 G (ft_n S Fu198)) (fun _ q => ft_t Fu198 q)
    · refine pc_xl ?_; intro v205 _
      refine pc_sv (G.1 (ft_n S Fu71)) ?_; intro u207 Qu207
      have Fu207 : FSr h u207.2 := ft_t Fu71 Qu207
      exact pc_ret Fu207
  · exact pc_ret Fu71
theorem ftg_X13_block (nn : Nat) : ∀ d, FSrG_X13_block (qg_X13_block nn d) := by
  intro d
  induction d with
  | zero => exact ⟨fun _ => pc_none, fun _ => pc_none⟩
  | succ d ih => exact ⟨fun S => ft_qo_X13_block ih S, fun S => ft_qo_X13_statement ih S⟩
theorem ft_qf_X13_block {a1 : Int} (S : ¬ h 160 9 = 0) : Pc (qf_X13_block nn a1 h) (fun u => FSr h u.2) := (ftg_X13_block nn 160).1 S
theorem ft_qj_X13_member_360 {l3 : Int} {h : ms_M} (S : ¬ h 160 9 = 0) : Pc (qj_X13_member_360 nn l3 h) (fun u => FSr h u) := by
  have F : FSr h h := ft_r
  unfold qj_X13_member_360
  refine pc_sv (ft_qf_X13_sign_ (ft_n S F)) ?_; intro u2 Qu2
  have Fu2 : FSr h u2 := ft_t F Qu2
  refine pc_sv (ft_qf_X13_block (ft_n S Fu2)) ?_; intro u5 Qu5
  have Fu5 : FSr h u5.2 := ft_t Fu2 Qu5
  refine pc_wA ?_; intro _ _ h6 Eh6
  have Fh6 : FSr h h6 := by rw [Eh6]; exact ft_u Fu5 (by omega)
  exact pc_ret Fh6
theorem ft_qj_X13_member_269 {l3 : Int} {qkk_234 : Int → ms_M → Option ms_M} (Hqkk_234 : ∀ (z0 : Int) (z1 : ms_M), ¬ z1 160 9 = 0 → Pc (qkk_234 z0 z1) (fun u => FSr z1 u)) {h : ms_M} (S : ¬ h 160 9 = 0) : Pc (qj_X13_member_269 nn qkk_234 l3 h) (fun u => FSr h u) := by
  have F : FSr h h := ft_r
  unfold qj_X13_member_269
  refine pc_sv (ft_qf_X13_type (ft_n S F)) ?_; intro u8 Qu8
  have Fu8 : FSr h u8 := ft_t F Qu8
  refine pc_sv (ft_qf_X13_name (ft_n S Fu8)) ?_; intro u10 Qu10
  have Fu10 : FSr h u10.2 := ft_t Fu8 Qu10
  refine pc_if (fun _ => ?_) (fun _ => ?_)
  · refine pc_wA ?_; intro _ _ h15 Eh15
    have Fh15 : FSr h h15 := by rw [Eh15]; exact ft_u Fu10 (by omega)
    refine pc_wA ?_; intro _ _ h19 Eh19
    have Fh19 : FSr h h19 := by rw [Eh19]; exact ft_u Fh15 (by omega)
    refine pc_wZ ?_; intro _ _ h23 Eh23
    have Fh23 : FSr h h23 := by rw [Eh23]; exact ft_u Fh19 (by omega)
    refine pc_wA ?_; intro _ _ h26 Eh26
    have Fh26 : FSr h h26 := by rw [Eh26]; exact ft_u Fh23 (by omega)
    refine pc_xl ?_; intro v28 _
    refine pc_xl ?_; intro h29 Eh29
    have Fh29 : FSr h h29 := by rw [Eh29]; exact ft_u Fh26 (by omega)
    refine pc_rA ?_; intro _ _ v31 _
    refine pc_xl ?_; intro v32 _
    refine pc_wA ?_; intro _ _ h33 Eh33
    have Fh33 : FSr h h33 := by rw [Eh33]; exact ft_u Fh29 (by omega)
    exact pc_imp (Hqkk_234 _ _ (ft_n S Fh33)) (fun _ q => ft_t Fh33 q)
  · exact pc_ret Fu10
theorem ft_qw_X13_member_234 : ∀ (k : Nat) (l3 : Int) (h : ms_M), ¬ h 160 9 = 0 → Pc (qw_X13_member_234 nn k l3 h) (fun u => FSr h u) := by
  intro k
  induction k with
  | zero => intros; exact pc_none
  | succ k ih =>
    intro l3 h S
    have F : FSr h h := ft_r
    unfold qw_X13_member_234
    refine pc_if (fun _ => ?_) (fun _ => ?_)
    · exact pc_imp (ft_qj_X13_member_360 (ft_n S F)) (fun _ q => ft_t F q)
    · refine pc_se ?_; intro u38 _
      refine pc_if (fun _ => ?_) (fun _ => ?_)
      · exact pc_imp (ft_qj_X13_member_360 (ft_n S F)) (fun _ q => ft_t F q)
      · refine pc_rA ?_; intro _ _ v40 _
        refine pc_if (fun _ => ?_) (fun _ => ?_)
        · exact pc_imp (ft_qj_X13_member_269 (fun _ _ S => ih _ _ S) (ft_n S F)) (fun _ q => ft_t F q)
        · refine pc_sv (ft_qf_X13_sign_ (ft_n S F)) ?_; intro u42 Qu42
          have Fu42 : FSr h u42 := ft_t F Qu42
          exact pc_imp (ft_qj_X13_member_269 (fun _ _ S => ih _ _ S) (ft_n S Fu42)) (fun _ q => ft_t Fu42 q)
theorem ft_qj_X13_member_170 {l1 : Int} {l2 : Int} {l3 : Int} {s0 : Int} {s1 : Int} {h : ms_M} (S : ¬ h 160 9 = 0) : Pc (qj_X13_member_170 nn l1 l2 l3 s0 s1 h) (fun u => FSr h u) := by
  have F : FSr h h := ft_r
  unfold qj_X13_member_170
  refine pc_wA ?_; intro _ _ h46 Eh46
  have Fh46 : FSr h h46 := by rw [Eh46]; exact ft_u F (by omega)
  refine pc_if (fun _ => ?_) (fun _ => ?_)
  · refine pc_xl ?_; intro v49 _
    refine pc_xl ?_; intro h50 Eh50
    have Fh50 : FSr h h50 := by rw [Eh50]; exact ft_u Fh46 (by omega)
    refine pc_if (fun _ => ?_) (fun _ => ?_)
    · refine pc_sv (ft_qf_X13_sign_ (ft_n S Fh50)) ?_; intro u52 Qu52
      have Fu52 : FSr h u52 := ft_t Fh50 Qu52
      exact pc_imp (ft_qw_X13_member_234 _ _ _ (ft_n S Fu52)) (fun _ q => ft_t Fu52 q)
    · refine pc_if (fun _ => ?_) (fun _ => ?_)
      · refine pc_sv (ft_qf_X13_sign_ (ft_n S Fh50)) ?_; intro u54 Qu54
        have Fu54 : FSr h u54 := ft_t Fh50 Qu54
        exact pc_imp (ft_qw_X13_member_234 _ _ _ (ft_n S Fu54)) (fun _ q => ft_t Fu54 q)
      · refine pc_se ?_; intro u57 _
        refine pc_if (fun _ => ?_) (fun _ => ?_)
        · refine pc_sv (ft_qf_X13_sign_ (ft_n S Fh50)) ?_; intro u59 Qu59
          have Fu59 : FSr h u59 := ft_t Fh50 Qu59
          exact pc_imp (ft_qw_X13_member_234 _ _ _ (ft_n S Fu59)) (fun _ q => ft_t Fu59 q)
        · refine pc_xl ?_; intro v61 _
          refine pc_xl ?_; intro h62 Eh62
          have Fh62 : FSr h h62 := by rw [Eh62]; exact ft_u Fh50 (by omega)
          refine pc_wA ?_; intro _ _ h64 Eh64
          have Fh64 : FSr h h64 := by rw [Eh64]; exact ft_u Fh62 (by omega)
          exact pc_ret Fh64
  · exact pc_ret Fh46
theorem ft_qj_X13_member_75 {l1 : Int} {l2 : Int} {h : ms_M} (S : ¬ h 160 9 = 0) : Pc (qj_X13_member_75 nn l1 l2 h) (fun u => FSr h u) := by
  have F : FSr h h := ft_r
  unfold qj_X13_member_75
  refine pc_wA ?_; intro _ _ h72 Eh72
  have Fh72 : FSr h h72 := by rw [Eh72]; exact ft_u F (by omega)
  refine pc_wA ?_; intro _ _ h75 Eh75
  have Fh75 : FSr h h75 := by rw [Eh75]; exact ft_u Fh72 (by omega)
  refine pc_wZ ?_; intro _ _ h78 Eh78
  have Fh78 : FSr h h78 := by rw [Eh78]; exact ft_u Fh75 (by omega)
  refine pc_sv (ft_qf_X13_name (ft_n S Fh78)) ?_; intro u81 Qu81
  have Fu81 : FSr h u81.2 := ft_t Fh78 Qu81
  refine pc_wA ?_; intro _ _ h82 Eh82
  have Fh82 : FSr h h82 := by rw [Eh82]; exact ft_u Fu81 (by omega)
  refine pc_xl ?_; intro v85 _
  refine pc_wA ?_; intro _ _ h86 Eh86
  have Fh86 : FSr h h86 := by rw [Eh86]; exact ft_u Fh82 (by omega)
  refine pc_wA ?_; intro _ _ h89 Eh89
  have Fh89 : FSr h h89 := by rw [Eh89]; exact ft_u Fh86 (by omega)
  refine pc_wA ?_; intro _ _ h91 Eh91
  have Fh91 : FSr h h91 := by rw [Eh91]; exact ft_u Fh89 (by omega)
  refine pc_wA ?_; intro _ _ h93 Eh93
  have Fh93 : FSr h h93 := by rw [Eh93]; exact ft_u Fh91 (by omega)
  refine pc_if (fun _ => ?_) (fun _ => ?_)
  · exact pc_imp (ft_qj_X13_member_170 (ft_n S Fh93)) (fun _ q => ft_t Fh93 q)
  · exact pc_imp (ft_qj_X13_member_170 (ft_n S Fh93)) (fun _ q => ft_t Fh93 q)
theorem ft_qj_X13_member_25 {l1 : Int} {h : ms_M} (S : ¬ h 160 9 = 0) : Pc (qj_X13_member_25 nn l1 h) (fun u => FSr h u) := by
  have F : FSr h h := ft_r
  unfold qj_X13_member_25
  refine pc_se ?_; intro u98 _
  refine pc_if (fun _ => ?_) (fun _ => ?_)
  · refine pc_sv (ft_qf_X13_type (ft_n S F)) ?_; intro u100 Qu100
    have Fu100 : FSr h u100 := ft_t F Qu100
    exact pc_imp (ft_qj_X13_member_75 (ft_n S Fu100)) (fun _ q => ft_t Fu100 q)
  · refine pc_xl ?_; intro h101 Eh101
    have Fh101 : FSr h h101 := by rw [Eh101]; exact ft_u F (by omega)
    refine pc_xl ?_; intro h102 Eh102
    have Fh102 : FSr h h102 := by rw [Eh102]; exact ft_u Fh101 (by omega)
    refine pc_xl ?_; intro h104 Eh104
    have Fh104 : FSr h h104 := by rw [Eh104]; exact ft_u Fh102 (by omega)
    refine pc_xl ?_; intro v106 _
    refine pc_xl ?_; intro h107 Eh107
    have Fh107 : FSr h h107 := by rw [Eh107]; exact ft_u Fh104 (by omega)
    exact pc_imp (ft_qj_X13_member_75 (ft_n S Fh107)) (fun _ q => ft_t Fh107 q)
theorem ft_qf_X13_member {h : ms_M} (S : ¬ h 160 9 = 0) : Pc (qf_X13_member nn h) (fun u => FSr h u) := by
  have F : FSr h h := ft_r
  unfold qf_X13_member
  refine pc_se ?_; intro u111 _
  refine pc_if (fun _ => ?_) (fun _ => ?_)
  · exact pc_imp (ft_qj_X13_member_25 (ft_n S F)) (fun _ q => ft_t F q)
  · refine pc_xl ?_; intro v113 _
    refine pc_xl ?_; intro h114 Eh114
    have Fh114 : FSr h h114 := by rw [Eh114]; exact ft_u F (by omega)
    exact pc_imp (ft_qj_X13_member_25 (ft_n S Fh114)) (fun _ q => ft_t Fh114 q)
theorem ft_qj_X13_program_143 {qkk_25 : ms_M → Option ms_M} (Hqkk_25 : ∀ (z0 : ms_M), ¬ z0 160 9 = 0 → Pc (qkk_25 z0) (fun u => FSr z0 u)) {h : ms_M} (S : ¬ h 160 9 = 0) : Pc (qj_X13_program_143 nn qkk_25 h) (fun u => FSr h u) := by
  have F : FSr h h := ft_r
  unfold qj_X13_program_143
  refine pc_sv (ft_qf_X13_sign_ (ft_n S F)) ?_; intro u2 Qu2
  have Fu2 : FSr h u2 := ft_t F Qu2
  refine pc_if (fun _ => ?_) (fun _ => ?_)
  · exact pc_ret Fu2
  · refine pc_rA ?_; intro _ _ v6 _
    refine pc_if (fun _ => ?_) (fun _ => ?_)
    · exact pc_imp (Hqkk_25 _ (ft_n S Fu2)) (fun _ q => ft_t Fu2 q)
    · exact pc_ret Fu2
theorem ft_qw_X13_program_116 {qkk_25 : ms_M → Option ms_M} (Hqkk_25 : ∀ (z0 : ms_M), ¬ z0 160 9 = 0 → Pc (qkk_25 z0) (fun u => FSr z0 u)) : ∀ (k : Nat) (h : ms_M), ¬ h 160 9 = 0 → Pc (qw_X13_program_116 nn qkk_25 k h) (fun u => FSr h u) := by
  intro k
  induction k with
  | zero => intros; exact pc_none
  | succ k ih =>
    intro h S
    have F : FSr h h := ft_r
    unfold qw_X13_program_116
    refine pc_if (fun _ => ?_) (fun _ => ?_)
    · exact pc_imp (ft_qj_X13_program_143 Hqkk_25 (ft_n S F)) (fun _ q => ft_t F q)
    · refine pc_se ?_; intro u12 _
      refine pc_if (fun _ => ?_) (fun _ => ?_)
      · exact pc_imp (ft_qj_X13_program_143 Hqkk_25 (ft_n S F)) (fun _ q => ft_t F q)
      · refine pc_sv (ft_qf_X13_member (ft_n S F)) ?_; intro u14 Qu14
        have Fu14 : FSr h u14 := ft_t F Qu14
        exact pc_imp (ih _ (ft_n S Fu14)) (fun _ q => ft_t Fu14 q)
theorem ft_qj_X13_program_72 {l1 : Int} {l2 : Int} {qkk_25 : ms_M → Option ms_M} (Hqkk_25 : ∀ (z0 : ms_M), ¬ z0 160 9 = 0 → Pc (qkk_25 z0) (fun u => FSr z0 u)) {h : ms_M} (S : ¬ h 160 9 = 0) : Pc (qj_X13_program_72 nn qkk_25 l1 l2 h) (fun u => FSr h u) := by
  have F : FSr h h := ft_r
  unfold qj_X13_program_72
  refine pc_if (fun _ => ?_) (fun _ => ?_)
  · refine pc_wA ?_; intro _ _ h20 Eh20
    have Fh20 : FSr h h20 := by rw [Eh20]; exact ft_u F (by omega)
    refine pc_wA ?_; intro _ _ h23 Eh23
    have Fh23 : FSr h h23 := by rw [Eh23]; exact ft_u Fh20 (by omega)
    refine pc_xl ?_; intro v25 _
    refine pc_xl ?_; intro h26 Eh26
    have Fh26 : FSr h h26 := by rw [Eh26]; exact ft_u Fh23 (by omega)
    refine pc_sv (ft_qf_X13_sign_ (ft_n S Fh26)) ?_; intro u28 Qu28
    have Fu28 : FSr h u28 := ft_t Fh26 Qu28
    exact pc_imp (ft_qw_X13_program_116 Hqkk_25 _ _ (ft_n S Fu28)) (fun _ q => ft_t Fu28 q)
  · exact pc_ret F
theorem ft_qw_X13_program_25 : ∀ (k : Nat) (h : ms_M), ¬ h 160 9 = 0 → Pc (qw_X13_program_25 nn k h) (fun u => FSr h u) := by
  intro k
  induction k with
  | zero => intros; exact pc_none
  | succ k ih =>
    intro h S
    have F : FSr h h := ft_r
    unfold qw_X13_program_25
    refine pc_sv (ft_qf_X13_word (ft_n S F)) ?_; intro u31 Qu31
    have Fu31 : FSr h u31 := ft_t F Qu31
    refine pc_sv (ft_qf_X13_name (ft_n S Fu31)) ?_; intro u33 Qu33
    have Fu33 : FSr h u33.2 := ft_t Fu31 Qu33
    refine pc_if (fun _ => ?_) (fun _ => ?_)
    · exact pc_imp (ft_qj_X13_program_72 (fun _ S => ih _ S) (ft_n S Fu33)) (fun _ q => ft_t Fu33 q)
    · refine pc_se ?_; intro u37 _
      refine pc_if (fun _ => ?_) (fun _ => ?_)
      · exact pc_imp (ft_qj_X13_program_72 (fun _ S => ih _ S) (ft_n S Fu33)) (fun _ q => ft_t Fu33 q)
      · refine pc_xl ?_; intro v39 _
        refine pc_xl ?_; intro h40 Eh40
        have Fh40 : FSr h h40 := by rw [Eh40]; exact ft_u Fu33 (by omega)
        refine pc_sv (ft_qf_X13_name (ft_n S Fh40)) ?_; intro u42 Qu42
        have Fu42 : FSr h u42.2 := ft_t Fh40 Qu42
        exact pc_imp (ft_qj_X13_program_72 (fun _ S => ih _ S) (ft_n S Fu42)) (fun _ q => ft_t Fu42 q)
theorem ft_qf_X13_program {h : ms_M} (S : ¬ h 160 9 = 0) : Pc (qf_X13_program nn h) (fun u => FSr h u) := by
  have F : FSr h h := ft_r
  unfold qf_X13_program
  refine pc_xl ?_; intro h45 Eh45
  have Fh45 : FSr h h45 := by rw [Eh45]; exact ft_u F (by omega)
  refine pc_xl ?_; intro h46 Eh46
  have Fh46 : FSr h h46 := by rw [Eh46]; exact ft_u Fh45 (by omega)
  refine pc_xl ?_; intro h47 Eh47
  have Fh47 : FSr h h47 := by rw [Eh47]; exact ft_u Fh46 (by omega)
  refine pc_xl ?_; intro h48 Eh48
  have Fh48 : FSr h h48 := by rw [Eh48]; exact ft_u Fh47 (by omega)
  refine pc_xl ?_; intro h49 Eh49
  have Fh49 : FSr h h49 := by rw [Eh49]; exact ft_u Fh48 (by omega)
  exact pc_imp (ft_qw_X13_program_25 _ _ (ft_n S Fh49)) (fun _ q => ft_t Fh49 q)
end

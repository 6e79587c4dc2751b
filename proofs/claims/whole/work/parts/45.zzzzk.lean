/- IMAGES: what a method tells, as rows -/
def sq_L {α : Type} (F : Nat → List α) : Nat → Nat → List α
  | _, 0 => []
  | j, n + 1 => F j ++ sq_L F (j + 1) n
/-- a FRAME: the class's row s, the reference's row f -/
def fr_O (h m : ms_M) (s f : Nat) : List WO := (1, h 40 s, m 208 f) :: (0, h 41 (52 * s), m 210 f) :: (sq_L (fun i => [(2, h 41 (52 * s + 2 + i), m 212 ((m 209 f).toNat + i))]) 0 (m 210 f).toNat ++ ((0, h 41 (52 * s + 1), m 211 f) :: sq_L (fun i => [(2, h 41 (52 * s + 2 + i), m 212 ((m 209 f).toNat + i))]) (m 210 f).toNat (m 211 f).toNat))
def fr_L (h m : ms_M) (fi : Nat → Nat) : Nat → Nat → List WO := sq_L (fun i => fr_O h m (h 42 i).toNat (fi i))
def hd_L (h m : ms_M) : Nat → Nat → List WO := sq_L (fun k => [(1, h 39 (4 * k), m 213 k), (1, h 39 (4 * k + 1), m 214 k), (1, h 39 (4 * k + 2), m 215 k), (3, h 39 (4 * k + 3), m 216 k)])
def cd_L (h m : ms_M) : Nat → Nat → List WO := sq_L (fun x => [(0, h 35 x, m 206 x)])
def mt_L (h m : ms_M) (l4 : Int) (fi : Nat → Nat) : List WO := (0, h 34 4, m 160 71) :: (0, h 34 8, l4) :: (1, h 34 1, m 160 68) :: (cd_L h m 0 (h 34 1).toNat ++ ((0, h 34 10, m 160 84) :: (hd_L h m 0 (h 34 10).toNat ++ ((0, h 34 14, m 160 78) :: fr_L h m fi 0 (h 34 14).toNat))))
section
variable {nn : Nat} {X : BCx} {v v2 t x : Int} {h g u m m0 w h0 : ms_M} {Z : ms_M → Prop} {L R : List WO}
theorem sv_mk {α β : Type} {x : Option α} {F : α → Option β} {a : α} {r : β} (e : x = some a) (f : F a = some r) : mx_sv x F = some r := by rw [e]; exact f
theorem c_ptf : Pc (qf_X6_put nn v h) (fun u => WFc h u) := fun u eu => ⟨fun z => (show u 45 5 = h 45 5 from ff_X6_put nn u eu 45 5 rfl).trans z, fun cc y z1 z2 => ff_X6_put nn u eu cc y (nw_of (by unfold wl_X6_put; simp only [List.mem_cons, List.not_mem_nil, or_false]; omega) (by unfold wf_X6_put; simp only [List.mem_cons, List.not_mem_nil, or_false, Prod.mk.injEq]; omega))⟩
theorem c_prf : Pc (qf_X6_putPair nn v h) (fun u => WFc h u) := fun u eu => ⟨fun z => (show u 45 5 = h 45 5 from ff_X6_putPair nn u eu 45 5 rfl).trans z, fun cc y z1 z2 => ff_X6_putPair nn u eu cc y (nw_of (by unfold wl_X6_putPair; simp only [List.mem_cons, List.not_mem_nil, or_false]; omega) (by unfold wf_X6_putPair; simp only [List.mem_cons, List.not_mem_nil, or_false, Prod.mk.injEq]; omega))⟩
theorem r_tlf : Pc (qf_X13_tell nn v m) (fun w => WFr m w) := fun u eu cc y z1 z2 z3 => ff_X13_tell nn u eu cc y (nw_of (by unfold wl_X13_tell; simp only [List.mem_cons, List.not_mem_nil, or_false]; omega) (by unfold wf_X13_tell; simp only [List.mem_cons, List.not_mem_nil, or_false, Prod.mk.injEq]; omega))
theorem r_tpf : Pc (qf_X13_tellPair nn v m) (fun w => WFr m w) := fun u eu cc y z1 z2 z3 => ff_X13_tellPair nn u eu cc y (nw_of (by unfold wl_X13_tellPair; simp only [List.mem_cons, List.not_mem_nil, or_false]; omega) (by unfold wf_X13_tellPair; simp only [List.mem_cons, List.not_mem_nil, or_false, Prod.mk.injEq]; omega))
theorem r_ttf : Pc (qf_X13_tellType nn v m) (fun w => WFr m w) := fun u eu cc y z1 z2 z3 => ff_X13_tellType nn u eu cc y (nw_of (by unfold wl_X13_tellType; simp only [List.mem_cons, List.not_mem_nil, or_false]; omega) (by unfold wf_X13_tellType; simp only [List.mem_cons, List.not_mem_nil, or_false, Prod.mk.injEq]; omega))
theorem r_ccf : Pc (qf_X13_classConstant nn v m) (fun w => WFr m w.2) := fun u eu cc y z1 z2 z3 => ff_X13_classConstant nn u eu cc y (nw_of (by unfold wl_X13_classConstant; simp only [List.mem_cons, List.not_mem_nil, or_false]; omega) (by unfold wf_X13_classConstant; simp only [List.mem_cons, List.not_mem_nil, or_false, Prod.mk.injEq]; omega))
theorem c_ccf : Pc (qf_X6_classOf nn t h) (fun u => WFc h u.2) := fun u eu => wfc_c (c_clf u eu) (c_cl5 u eu)
theorem oc_wf {o : WO} : Pc (oc_1 nn o h) (fun u => WFc h u) := by
  unfold oc_1
  refine pc_if (fun _ => c_ptf) (fun _ => ?_)
  refine pc_if (fun _ => c_prf) (fun _ => ?_)
  refine pc_if (fun _ => ?_) (fun _ => ?_)
  · unfold oc_T
    refine pc_se ?_; intro u6 _
    refine pc_if (fun _ => ?_) (fun _ => c_ptf)
    refine pc_if (fun _ => ?_) (fun _ => c_ptf)
    refine pc_sv c_ptf ?_; intro u8 q8
    refine pc_sv c_ccf ?_; intro u10 q10
    exact pc_imp c_ptf (fun u q => wfc_t q8 (wfc_t q10 q))
  · refine pc_sv c_ccf ?_; intro u10 q10
    exact pc_imp c_ptf (fun u q => wfc_t q10 q)
theorem or_wf {o : WO} : Pc (or_1 nn o m) (fun w => WFr m w) := by
  unfold or_1
  refine pc_if (fun _ => r_tlf) (fun _ => ?_)
  refine pc_if (fun _ => r_tpf) (fun _ => ?_)
  refine pc_if (fun _ => r_ttf) (fun _ => ?_)
  refine pc_sv r_ccf ?_; intro u10 q10
  exact pc_imp r_tlf (fun u q => wfr_t q10 q)
theorem oc_in {o : WO} (H : Pc (oc_L nn (o :: L) h) Z) (H0 : WFc h0 h) : Pc (oc_1 nn o h) (fun u => Pc (oc_L nn L u) Z ∧ WFc h0 u) := fun u eu => ⟨fun r er => H r (sv_mk eu er), wfc_t H0 (oc_wf u eu)⟩
theorem or_in {o : WO} (H : Pc (or_L nn (o :: L) m) Z) (H0 : WFr m0 m) : Pc (or_1 nn o m) (fun u => Pc (or_L nn L u) Z ∧ WFr m0 u) := fun u eu => ⟨fun r er => H r (sv_mk eu er), wfr_t H0 (or_wf u eu)⟩
theorem oc_i0 (H : Pc (oc_L nn ((0, v, v2) :: L) h) Z) (H0 : WFc h0 h) : Pc (qf_X6_put nn v h) (fun u => Pc (oc_L nn L u) Z ∧ WFc h0 u) := by
  have y := oc_in H H0
  unfold oc_1 at y
  rw [if_pos rfl] at y
  exact y
theorem oc_i1 (H : Pc (oc_L nn ((1, v, v2) :: L) h) Z) (H0 : WFc h0 h) : Pc (qf_X6_putPair nn v h) (fun u => Pc (oc_L nn L u) Z ∧ WFc h0 u) := by
  have y := oc_in H H0
  unfold oc_1 at y
  rw [if_neg (show ¬ (1 : Int) = 0 by decide), if_pos rfl] at y
  exact y
theorem oc_i2 (H : Pc (oc_L nn ((2, v, v2) :: L) h) Z) (H0 : WFc h0 h) : Pc (oc_T nn v h) (fun u => Pc (oc_L nn L u) Z ∧ WFc h0 u) := by
  have y := oc_in H H0
  unfold oc_1 at y
  rw [if_neg (show ¬ (2 : Int) = 0 by decide), if_neg (show ¬ (2 : Int) = 1 by decide), if_pos rfl] at y
  exact y
theorem oc_i3 {α : Type} {Q : α → Prop} {K : ms_M → Option α} (H : Pc (oc_L nn ((3, v, v2) :: L) h) Z) (H0 : WFc h0 h) (HK : ∀ u, Pc (oc_L nn L u) Z → WFc h0 u → Pc (K u) Q) : Pc (mx_sv (qf_X6_classOf nn v h) fun u31 => mx_sv (qf_X6_put nn u31.1 u31.2) K) Q := by
  have y := oc_in H H0
  unfold oc_1 at y
  rw [if_neg (show ¬ (3 : Int) = 0 by decide), if_neg (show ¬ (3 : Int) = 1 by decide), if_neg (show ¬ (3 : Int) = 2 by decide)] at y
  refine pc_se ?_; intro a ea
  refine pc_se ?_; intro b eb
  obtain ⟨y1, y2⟩ := y b (sv_mk ea eb)
  exact HK b y1 y2
theorem oc_Tk {α : Type} {Q : α → Prop} {K : ms_M → Option α} {P : ms_M → Prop} (HT : Pc (oc_T nn t h) P) (HK : ∀ u, P u → Pc (K u) Q) : Pc (mx_sv (qf_X4_isNumber nn t h) fun u6 => if u6 = 0 then (if ¬ t = 300 then (mx_sv (qf_X6_put nn 3 h) fun u8 => mx_sv (qf_X6_classOf nn t u8) fun u10 => mx_sv (qf_X6_put nn u10.1 u10.2) K) else (mx_sv (qf_X6_put nn 2 h) K)) else (mx_sv (qf_X6_put nn 1 h) K)) Q := by
  unfold oc_T at HT
  refine pc_se ?_; intro u6 e6
  refine pc_if (fun z => ?_) (fun z => ?_)
  · refine pc_if (fun z3 => ?_) (fun z3 => ?_)
    · refine pc_se ?_; intro u8 e8
      refine pc_se ?_; intro u10 e10
      refine pc_se ?_; intro u12 e12
      refine HK u12 (HT u12 (sv_mk e6 ?_))
      rw [if_pos z, if_pos z3]
      exact sv_mk e8 (sv_mk e10 e12)
    · refine pc_se ?_; intro u12 e12
      refine HK u12 (HT u12 (sv_mk e6 ?_))
      rw [if_pos z, if_neg z3]
      exact e12
  · refine pc_se ?_; intro u12 e12
    refine HK u12 (HT u12 (sv_mk e6 ?_))
    rw [if_neg z]
    exact e12
theorem or_i0 (H : Pc (or_L nn ((0, v, v2) :: L) m) Z) (H0 : WFr m0 m) : Pc (qf_X13_tell nn v2 m) (fun u => Pc (or_L nn L u) Z ∧ WFr m0 u) := by
  have y := or_in H H0
  unfold or_1 at y
  rw [if_pos rfl] at y
  exact y
theorem or_i1 (H : Pc (or_L nn ((1, v, v2) :: L) m) Z) (H0 : WFr m0 m) : Pc (qf_X13_tellPair nn v2 m) (fun u => Pc (or_L nn L u) Z ∧ WFr m0 u) := by
  have y := or_in H H0
  unfold or_1 at y
  rw [if_neg (show ¬ (1 : Int) = 0 by decide), if_pos rfl] at y
  exact y
theorem or_i2 (H : Pc (or_L nn ((2, v, v2) :: L) m) Z) (H0 : WFr m0 m) : Pc (qf_X13_tellType nn v2 m) (fun u => Pc (or_L nn L u) Z ∧ WFr m0 u) := by
  have y := or_in H H0
  unfold or_1 at y
  rw [if_neg (show ¬ (2 : Int) = 0 by decide), if_neg (show ¬ (2 : Int) = 1 by decide), if_pos rfl] at y
  exact y
theorem or_i3 {α : Type} {Q : α → Prop} {K : ms_M → Option α} (H : Pc (or_L nn ((3, v, v2) :: L) m) Z) (H0 : WFr m0 m) (HK : ∀ u, Pc (or_L nn L u) Z → WFr m0 u → Pc (K u) Q) : Pc (mx_sv (qf_X13_classConstant nn v2 m) fun u74 => mx_sv (qf_X13_tell nn u74.1 u74.2) K) Q := by
  have y := or_in H H0
  unfold or_1 at y
  rw [if_neg (show ¬ (3 : Int) = 0 by decide), if_neg (show ¬ (3 : Int) = 1 by decide), if_neg (show ¬ (3 : Int) = 2 by decide)] at y
  refine pc_se ?_; intro a ea
  refine pc_se ?_; intro b eb
  obtain ⟨y1, y2⟩ := y b (sv_mk ea eb)
  exact HK b y1 y2
/-- types of the class -/
theorem c_wT {G : Nat → Int} {l2 l3 : Int} {b0 : Nat} : ∀ (n j fuel : Nat) (h : ms_M) (l4 : Int), WFc h0 h → l4 = ((b0 + j : Nat) : Int) → l2 + l3 = ((b0 + j + n : Nat) : Int) → (0 ≤ l2 ∧ 0 ≤ l3 ∧ l2 + l3 ≤ 5200) → Pc (oc_L nn (sq_L (fun i => [(2, h0 41 (b0 + i), G i)]) j n ++ R) h) Z → Pc (qw_X1_writeTypes_3 nn fuel l2 l3 l4 h) (fun u => Pc (oc_L nn R u) Z ∧ WFc h0 u) := by
  intro n
  induction n with
  | zero =>
    intro j fuel h l4 H0 e4 e5 bl H
    cases fuel with
    | zero => exact fun _ z => nomatch z
    | succ fuel =>
      unfold qw_X1_writeTypes_3
      refine pc_add (by omega) ?_; intro v1 e1
      exact pc_if (fun _ => pc_ret ⟨H, H0⟩) (fun z => absurd (show v1 ≤ l4 by omega) z)
  | succ n ih =>
    intro j fuel h l4 H0 e4 e5 bl H
    cases fuel with
    | zero => exact fun _ z => nomatch z
    | succ fuel =>
      unfold qw_X1_writeTypes_3
      refine pc_add (by omega) ?_; intro v1 e1
      refine pc_if (fun z => absurd z (by omega)) (fun _ => ?_)
      refine pc_if (fun z => absurd z (by omega)) (fun _ => ?_)
      refine pc_rA ?_; intro _ _ v5 e5'
      rw [H0.2 41 _ (by omega) (by omega), show l4.toNat = b0 + j by omega] at e5'
      rw [e5']
      have HT := oc_i2 (L := sq_L (fun i => [(2, h0 41 (b0 + i), G i)]) (j + 1) n ++ R) H H0
      refine oc_Tk (K := fun u12 => xl (oq_add l4 1) fun v13 => qw_X1_writeTypes_3 nn fuel l2 l3 v13 u12) HT (fun u q => ?_)
      refine pc_add (by omega) ?_; intro v13 e13
      exact ih (j + 1) fuel u v13 q.2 (by omega) (by omega) bl q.1
/-- a FRAME of the class -/
theorem c_wF {s f : Nat} {a2 : Int} (H0 : WFc h0 h) (ea : a2 = (s : Int)) (s1 : s < 100) (bl : (0 ≤ m0 210 f ∧ m0 210 f ≤ 30) ∧ 0 ≤ m0 211 f ∧ m0 211 f ≤ 20) (e1 : m0 210 f = h0 41 (52 * s) ∧ m0 211 f = h0 41 (52 * s + 1)) (H : Pc (oc_L nn (fr_O h0 m0 s f ++ R) h) Z) : Pc (qf_X1_writeFrame nn a2 h) (fun u => Pc (oc_L nn R u) Z ∧ WFc h0 u) := by
  unfold fr_O at H
  rw [List.cons_append, List.cons_append, List.append_assoc, List.cons_append] at H
  unfold qf_X1_writeFrame
  refine pc_xl ?_; intro v1 e1'
  rw [oq_mul_eq (by omega) (by omega) (by omega)] at e1'
  refine pc_rA ?_; intro _ _ v3 e3
  rw [H0.2 41 _ (by omega) (by omega), show v1.toNat = 52 * s by omega] at e3
  refine pc_add (by omega) ?_; intro v5 e5
  refine pc_rA ?_; intro _ _ v6 e6
  rw [H0.2 41 _ (by omega) (by omega), show v5.toNat = 52 * s + 1 by omega] at e6
  refine pc_rA ?_; intro _ _ v8 e8
  rw [H0.2 40 _ (by omega) (by omega), show a2.toNat = s by omega] at e8
  rw [e8]
  refine pc_sv (oc_i1 H H0) ?_; intro u10 ⟨H10, W10⟩
  rw [e3]
  refine pc_sv (oc_i0 H10 W10) ?_; intro u12 ⟨H12, W12⟩
  refine pc_add (by omega) ?_; intro v13 e13
  refine pc_sv (c_wT (b0 := 52 * s + 2) (m0 210 f).toNat 0 nn u12 v13 W12 (by omega) (by omega) (by omega) H12) ?_; intro u15 ⟨H15, W15⟩
  rw [e6]
  refine pc_sv (oc_i0 H15 W15) ?_; intro u17 ⟨H17, W17⟩
  refine pc_add (by omega) ?_; intro v18 e18
  refine pc_add (by omega) ?_; intro v19 e19
  refine pc_sv (c_wT (b0 := 52 * s + 2) (m0 211 f).toNat (m0 210 f).toNat nn u17 v19 W17 (by omega) (by omega) (by omega) H17) ?_; intro u21 q21
  exact pc_ret q21
/-- all FRAMES of the class -/
theorem c_w147 {fi : Nat → Nat} (FB : ∀ i : Nat, (i : Int) < h0 34 14 → (0 ≤ h0 42 i ∧ h0 42 i < 100) ∧ ((0 ≤ m0 210 (fi i) ∧ m0 210 (fi i) ≤ 30) ∧ 0 ≤ m0 211 (fi i) ∧ m0 211 (fi i) ≤ 20) ∧ m0 210 (fi i) = h0 41 (52 * (h0 42 i).toNat) ∧ m0 211 (fi i) = h0 41 (52 * (h0 42 i).toNat + 1)) (b14 : 0 ≤ h0 34 14 ∧ h0 34 14 ≤ 100) : ∀ (n j fuel : Nat) (h : ms_M), WFc h0 h → ((j + n : Nat) : Int) = h0 34 14 → Pc (oc_L nn (fr_L h0 m0 fi j n) h) Z → Pc (qw_X1_writeTo_147 nn fuel (j : Int) h) (fun u => Z u) := by
  intro n
  induction n with
  | zero =>
    intro j fuel h H0 e H
    cases fuel with
    | zero => exact fun _ z => nomatch z
    | succ fuel =>
      unfold qw_X1_writeTo_147
      rw [H0.2 34 14 (by omega) (by omega)]
      exact pc_if (fun _ => H) (fun z => absurd (show h0 34 14 ≤ (j : Int) by omega) z)
  | succ n ih =>
    intro j fuel h H0 e H
    cases fuel with
    | zero => exact fun _ z => nomatch z
    | succ fuel =>
      unfold qw_X1_writeTo_147
      rw [H0.2 34 14 (by omega) (by omega)]
      refine pc_if (fun z => absurd z (by omega)) (fun _ => ?_)
      refine pc_rA ?_; intro _ _ v3 e3
      rw [H0.2 42 _ (by omega) (by omega), Int.toNat_natCast] at e3
      obtain ⟨f1, f2, f3⟩ := FB j (by omega)
      refine pc_sv (c_wF (R := fr_L h0 m0 fi (j + 1) n) (s := (h0 42 j).toNat) (f := fi j) H0 (by omega) (by omega) f2 f3 H) ?_; intro u5 ⟨H5, W5⟩
      refine pc_add (by omega) ?_; intro v6 e6
      rw [show v6 = ((j + 1 : Nat) : Int) by omega]
      exact ih (j + 1) fuel u5 W5 (by omega) H5
theorem c_w69 (b10 : 0 ≤ h0 34 10 ∧ h0 34 10 ≤ 20) (HR : ∀ u, WFc h0 u → Pc (oc_L nn R u) Z → Pc (mx_sv (qf_X6_put nn (u 34 14) u) fun u11 => qw_X1_writeTo_147 nn nn 0 u11) Z) : ∀ (n j fuel : Nat) (h : ms_M), WFc h0 h → ((j + n : Nat) : Int) = h0 34 10 → Pc (oc_L nn (hd_L h0 m0 j n ++ R) h) Z → Pc (qw_X1_writeTo_69 nn fuel (j : Int) h) Z := by
  intro n
  induction n with
  | zero =>
    intro j fuel h H0 e H
    cases fuel with
    | zero => exact fun _ z => nomatch z
    | succ fuel =>
      unfold qw_X1_writeTo_69
      have e10 := H0.2 34 10 (by omega) (by omega)
      exact pc_if (fun _ => HR h H0 H) (fun z => absurd (show h 34 10 ≤ (j : Int) by omega) z)
  | succ n ih =>
    intro j fuel h H0 e H
    cases fuel with
    | zero => exact fun _ z => nomatch z
    | succ fuel =>
      unfold qw_X1_writeTo_69
      have e10 := H0.2 34 10 (by omega) (by omega)
      refine pc_if (fun z => absurd z (by omega)) (fun _ => ?_)
      refine pc_xl ?_; intro v12 e12
      rw [oq_mul_eq (by omega) (by omega) (by omega)] at e12
      refine pc_rA ?_; intro _ _ v14 e14
      rw [H0.2 39 _ (by omega) (by omega), show v12.toNat = 4 * j by omega] at e14
      rw [e14]
      have H1 : Pc (oc_L nn ((1, h0 39 (4 * j), m0 213 j) :: (1, h0 39 (4 * j + 1), m0 214 j) :: (1, h0 39 (4 * j + 2), m0 215 j) :: (3, h0 39 (4 * j + 3), m0 216 j) :: (hd_L h0 m0 (j + 1) n ++ R)) h) Z := H
      refine pc_sv (oc_i1 H1 H0) ?_; intro u16 ⟨H16, W16⟩
      refine pc_add (by omega) ?_; intro v18 e18
      refine pc_rA ?_; intro _ _ v19 e19
      rw [W16.2 39 _ (by omega) (by omega), show v18.toNat = 4 * j + 1 by omega] at e19
      rw [e19]
      refine pc_sv (oc_i1 H16 W16) ?_; intro u21 ⟨H21, W21⟩
      refine pc_add (by omega) ?_; intro v23 e23
      refine pc_rA ?_; intro _ _ v24 e24
      rw [W21.2 39 _ (by omega) (by omega), show v23.toNat = 4 * j + 2 by omega] at e24
      rw [e24]
      refine pc_sv (oc_i1 H21 W21) ?_; intro u26 ⟨H26, W26⟩
      refine pc_add (by omega) ?_; intro v28 e28
      refine pc_rA ?_; intro _ _ v29 e29
      rw [W26.2 39 _ (by omega) (by omega), show v28.toNat = 4 * j + 3 by omega] at e29
      rw [e29]
      refine oc_i3 (K := fun u33 => xl (oq_add (j : Int) 1) fun v34 => qw_X1_writeTo_69 nn fuel v34 u33) H26 W26 (fun u33 H33 W33 => ?_)
      refine pc_add (by omega) ?_; intro v34 e34
      rw [show v34 = ((j + 1 : Nat) : Int) by omega]
      exact ih (j + 1) fuel u33 W33 (by omega) H33
theorem c_w26 (b1 : 0 ≤ h0 34 1 ∧ h0 34 1 ≤ 1500) (HR : ∀ u, WFc h0 u → Pc (oc_L nn R u) Z → Pc (qj_X1_writeTo_59 nn u) Z) : ∀ (n j fuel : Nat) (h : ms_M), WFc h0 h → ((j + n : Nat) : Int) = h0 34 1 → Pc (oc_L nn (cd_L h0 m0 j n ++ R) h) Z → Pc (qw_X1_writeTo_26 nn fuel (j : Int) h) Z := by
  intro n
  induction n with
  | zero =>
    intro j fuel h H0 e H
    cases fuel with
    | zero => exact fun _ z => nomatch z
    | succ fuel =>
      unfold qw_X1_writeTo_26
      have e10 := H0.2 34 1 (by omega) (by omega)
      exact pc_if (fun _ => HR h H0 H) (fun z => absurd (show h 34 1 ≤ (j : Int) by omega) z)
  | succ n ih =>
    intro j fuel h H0 e H
    cases fuel with
    | zero => exact fun _ z => nomatch z
    | succ fuel =>
      unfold qw_X1_writeTo_26
      have e10 := H0.2 34 1 (by omega) (by omega)
      refine pc_if (fun z => absurd z (by omega)) (fun _ => ?_)
      refine pc_if (fun z => absurd z (by omega)) (fun _ => ?_)
      refine pc_rA ?_; intro _ _ v43 e43
      rw [H0.2 35 _ (by omega) (by omega), Int.toNat_natCast] at e43
      rw [e43]
      have H1 : Pc (oc_L nn ((0, h0 35 j, m0 206 j) :: (cd_L h0 m0 (j + 1) n ++ R)) h) Z := H
      refine pc_sv (oc_i0 H1 H0) ?_; intro u45 ⟨H45, W45⟩
      refine pc_add (by omega) ?_; intro v46 e46
      rw [show v46 = ((j + 1 : Nat) : Int) by omega]
      exact ih (j + 1) fuel u45 W45 (by omega) H45
/-- writeTo is the rows -/
theorem c_writeTo {l4 : Int} {fi : Nat → Nat} (b1 : 0 ≤ h0 34 1 ∧ h0 34 1 ≤ 1500) (b10 : 0 ≤ h0 34 10 ∧ h0 34 10 ≤ 20) (b14 : 0 ≤ h0 34 14 ∧ h0 34 14 ≤ 100) (FB : ∀ i : Nat, (i : Int) < h0 34 14 → (0 ≤ h0 42 i ∧ h0 42 i < 100) ∧ ((0 ≤ m0 210 (fi i) ∧ m0 210 (fi i) ≤ 30) ∧ 0 ≤ m0 211 (fi i) ∧ m0 211 (fi i) ≤ 20) ∧ m0 210 (fi i) = h0 41 (52 * (h0 42 i).toNat) ∧ m0 211 (fi i) = h0 41 (52 * (h0 42 i).toNat + 1)) (H : Pc (oc_L nn (mt_L h0 m0 l4 fi) h0) Z) : Pc (qf_X1_writeTo nn h0) Z := by
  unfold mt_L at H
  unfold qf_X1_writeTo
  refine pc_sv (oc_i0 H wfc_r) ?_; intro u51 ⟨H51, W51⟩
  rw [W51.2 34 8 (by omega) (by omega)]
  refine pc_sv (oc_i0 H51 W51) ?_; intro u54 ⟨H54, W54⟩
  rw [W54.2 34 1 (by omega) (by omega)]
  refine pc_sv (oc_i1 H54 W54) ?_; intro u57 ⟨H57, W57⟩
  refine c_w26 b1 (fun u W Hu => ?_) (h0 34 1).toNat 0 nn u57 W57 (by omega) H57
  unfold qj_X1_writeTo_59
  rw [W.2 34 10 (by omega) (by omega)]
  refine pc_sv (oc_i0 Hu W) ?_; intro u38 ⟨H38, W38⟩
  refine c_w69 b10 (fun u2 W2 Hu2 => ?_) (h0 34 10).toNat 0 nn u38 W38 (by omega) H38
  rw [W2.2 34 14 (by omega) (by omega)]
  refine pc_sv (oc_i0 Hu2 W2) ?_; intro u11 ⟨H11, W11⟩
  exact c_w147 FB b14 (h0 34 14).toNat 0 nn u11 W11 (by omega) H11
end

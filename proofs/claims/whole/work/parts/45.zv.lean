/- E of both sides: signs; the class's flat loop as a continuation -/
/-- where the class is about to close signs, the next token being of kind kq -/
def CLP (nn : Nat) (rc : tq_X10_readValue) (kq dp st bs tn c : Int) (u : ms_M) (Z : ms_M → Prop) : Prop := (0 ≤ st_T kq → ∀ f k : Nat, Pc (qw_X10_readValue_54 nn rc (qw_X10_readValue_30 nn rc k) f dp st bs tn c u) Z) ∧ (st_T kq < 0 → ∀ f : Nat, Pc (qw_X10_readValue_129 nn rc f dp st bs c u) Z)
/-- the signs that wait -/
def SGn (dp l bs : Int) (h : ms_M) : Prop := (0 ≤ l ∧ l ≤ 10) ∧ h 49 10 ≤ 10 * (dp - 1) + l ∧ (0 ≤ bs ∧ bs ≤ h 49 10) ∧ (bs < h 49 10 → st_T (h 50 (h 49 10 - 1).toNat) < l)
/-- sides of at least l -/
def S1 (nn : Nat) (X : BCx) (dp i l a b : Int) (p q : Nat) (e : Int) : Prop := st_T (bK X q) ≤ l → ∀ (d d2 k : Nat) (h r : ms_M) (st bs tn : Int) (Z : ms_M → Int × ms_M → Prop), EPr X dp p h r → SGn dp l bs h → (0 ≤ r 160 57 ∧ r 160 57 + (b - a) < 9000 ∧ b ≤ 9000) → (0 ≤ tn ∧ tn ≤ (p : Int)) → (∀ (u : ms_M) (v : Int × ms_M) (c tn : Int), EOk nn X i a b p q e h r u v → (0 ≤ c ∧ c + u 49 10 ≤ 419) → (0 ≤ tn ∧ tn + 1 ≤ (q : Int)) → CLP nn (qg_X10_readValue nn d) (bK X q) (dp - 1) st bs tn c u (fun uF => Z uF v)) → (∀ (uF : ms_M) (v : Int × ms_M), (SFj uF v.2 ∨ VDj X i a b p q e h r uF v) → Z uF v) → Pc (mx_sv ((qg_X10_readValue nn d).2.2.1 dp h) fun u49 => qw_X10_readValue_30 nn (qg_X10_readValue nn d) k (dp - 1) st bs tn u49) (fun uF => Pc ((qg_X13_condition nn d2).2.2.1 e r) (fun v => Z uF v))
section
variable {nn : Nat} {X : BCx} {dp i l a b e : Int} {p q : Nat} {h g u r w m : ms_M} {v : Int × ms_M}
/-- sides that are one U -/
theorem s1_su (Y : CXs X) (hd : dp ≤ 40) (H : E2 nn X dp i a b p q e) : S1 nn X dp i l a b p q e := by
  intro _ d d2 k h r st bs tn Z Q SG b57 ht HC HF
  have G := fsg_X10_readValue nn d
  refine p2_sa (pc_imp (H d d2 h r Q b57) (fun u Hu => pc_imp Hu (fun v hv => ?_)))
  rcases hv with (S | S) | K
  · exact pc_imp (fs_qw_X10_readValue_30 G k _ _ _ _ u S.1) (fun uF F => HF uF v (.inl (sf_c S F)))
  · exact pc_imp (fs_qw_X10_readValue_30 G k _ _ _ _ u (vd_n S)) (fun uF F => HF uF v (.inr (vd_c S F)))
  · have x3 := K.1.1.2.2.1
    have x2 := K.1.1.2.1
    have c3 := Y.1.2.1
    have o1 := K.1.2.2.1.2.2.1
    obtain ⟨g1, g2⟩ := HC u v 0 tn K ⟨Int.le_refl _, by have := SG.2.1; have := SG.1; omega⟩ (by omega)
    cases k with
    | zero => exact pc_none
    | succ k =>
      unfold qw_X10_readValue_30
      refine pc_if (fun z => absurd z (by omega)) (fun _ => ?_)
      refine pc_sv (c_kind Y.1 (pk_b Q K.1) x2 K.1.1.1 K.1.1.2.2.2.1) ?_; intro u40 q40
      rw [q40]
      refine pc_sv c_lev ?_; intro u41 q41
      exact pc_if (fun z => g2 (by omega) nn) (fun z => g1 (by omega) nn k)
theorem s1_rk (H : S1 nn X dp i l a b p q e) (hs : st_T (bK X q) ≤ l) (d d2 k : Nat) (h r : ms_M) (st bs tn : Int) (Z : ms_M → Int × ms_M → Prop) (Q : EPr X dp p h r) (SG : SGn dp l bs h) (b57 : 0 ≤ r 160 57 ∧ r 160 57 + (b - a) < 9000 ∧ b ≤ 9000) (lb : a ≤ b) (ht : 0 ≤ tn ∧ tn ≤ (p : Int)) (HC : ∀ (u : ms_M) (v : Int × ms_M) (c tn : Int), EOk nn X i a b p q e h r u v → RKp r v.2 → (0 ≤ c ∧ c + u 49 10 ≤ 419) → (0 ≤ tn ∧ tn + 1 ≤ (q : Int)) → CLP nn (qg_X10_readValue nn d) (bK X q) (dp - 1) st bs tn c u (fun uF => Z uF v)) (HF : ∀ (uF : ms_M) (v : Int × ms_M), (SFj uF v.2 ∨ VDj X i a b p q e h r uF v) → RKp r v.2 → Z uF v) : Pc (mx_sv ((qg_X10_readValue nn d).2.2.1 dp h) fun u49 => qw_X10_readValue_30 nn (qg_X10_readValue nn d) k (dp - 1) st bs tn u49) (fun uF => Pc ((qg_X13_condition nn d2).2.2.1 e r) (fun v => Z uF v)) := by
  have W := H hs d d2 k h r st bs tn (fun uF v => RKp r v.2 → Z uF v) Q SG b57 ht (fun u v c tn K hc ht => ⟨fun z f k uF eF RK => (HC u v c tn K RK hc ht).1 z f k uF eF, fun z f uF eF RK => (HC u v c tn K RK hc ht).2 z f uF eF⟩) (fun uF v S RK => HF uF v S RK)
  have RK := (rkg_condition nn d2).2.2.1 (a1 := e) (h := r) (by omega)
  exact pc_imp W (fun uF Hu => pc_imp (pc_and Hu RK) (fun v y => y.1 y.2))
/-- what the class's loop does where a sign comes and the open ones are weaker -/
theorem c_v54 {rc : tq_X10_readValue} {t : Nat} {st bs tn c : Int} {f k : Nat} {s : Int} {Z : ms_M → Prop} (Y : CXs X) (TB : TBc (bK X) (bP X) (bc X) u) (tc : t < bc X) (hp : u 2 10 = (t : Int)) (hf : u 2 11 = 0) (sk : st_T (bK X t) = s) (hc : c ≤ 419) (ho : 0 ≤ u 49 10 ∧ u 49 10 ≤ 419) (top : bs < u 49 10 → st_T (u 50 (u 49 10 - 1).toNat) < s) (H : Pc (qj_X10_readValue_90 nn rc (qw_X10_readValue_30 nn rc k) dp st bs tn u) Z) : Pc (qw_X10_readValue_54 nn rc (qw_X10_readValue_30 nn rc k) f dp st bs tn c u) Z := by
  cases f with
  | zero => exact pc_none
  | succ f =>
    unfold qw_X10_readValue_54
    refine pc_if (fun z => absurd z (by omega)) (fun _ => ?_)
    refine pc_sv (c_kind Y.1 TB tc hp hf) ?_; intro u29 q29
    rw [q29]
    refine pc_sv c_lev ?_; intro u30 q30
    have D : Pc (qf_X10_isSignDue nn bs u30 u) (fun y => y = 0) := by
      unfold qf_X10_isSignDue
      refine pc_if (fun _ => pc_ret rfl) (fun z => ?_)
      refine pc_sub (by omega) ?_; intro v4 e4
      refine pc_rA ?_; intro _ _ v5 e5
      rw [e4] at e5
      refine pc_sv c_lev ?_; intro u6 q6
      have := top (by omega)
      rw [← e5] at this
      exact pc_if (fun _ => pc_ret rfl) (fun z2 => absurd (show u6 < u30 by omega) z2)
    refine pc_sv D ?_; intro u32 q32
    exact pc_if (fun _ => H) (fun z => absurd q32 z)
/-- .. and where the open one is due -/
theorem c_due {rc : tq_X10_readValue} {qt : Nat} {st bs tn c : Int} {s : Int} {Z : ms_M → Prop} (Y : CXs X) (TB : TBc (bK X) (bP X) (bc X) u) (tc : qt < bc X) (hp : u 2 10 = (qt : Int)) (hf : u 2 11 = 0) (hc : 0 ≤ c ∧ c ≤ 418) (ho : bs < u 49 10 ∧ 1 ≤ u 49 10 ∧ u 49 10 ≤ 419) (top : st_T (u 50 (u 49 10 - 1).toNat) = s) (s0 : 0 ≤ s ∧ st_T (bK X qt) ≤ s) (H : Pc (qf_X10_closeSign nn u) (fun u34 => CLP nn rc (bK X qt) dp st bs tn (c + 1) u34 Z)) : CLP nn rc (bK X qt) dp st bs tn c u Z := by
  have D : ∀ y : Int, y ≤ s + 1 → Pc (qf_X10_isSignDue nn bs y u) (fun y => y = 1) := fun y hy => by
    unfold qf_X10_isSignDue
    refine pc_if (fun z => absurd z (by omega)) (fun z => ?_)
    refine pc_sub (by omega) ?_; intro v4 e4
    refine pc_rA ?_; intro _ _ v5 e5
    rw [e4, ] at e5
    refine pc_sv c_lev ?_; intro u6 q6
    rw [e5, top] at q6
    exact pc_if (fun z2 => absurd z2 (by omega)) (fun _ => pc_ret rfl)
  refine ⟨fun z f k => ?_, fun z f => ?_⟩
  · cases f with
    | zero => exact pc_none
    | succ f =>
      unfold qw_X10_readValue_54
      refine pc_if (fun z => absurd z (by omega)) (fun _ => ?_)
      refine pc_sv (c_kind Y.1 TB tc hp hf) ?_; intro u29 q29
      rw [q29]
      refine pc_sv c_lev ?_; intro u30 q30
      refine pc_sv (D u30 (by omega)) ?_; intro u32 q32
      refine pc_if (fun z => absurd z (by omega)) (fun _ => ?_)
      refine pc_sv H ?_; intro u34 q34
      refine pc_add (by omega) ?_; intro v35 e35
      rw [e35]
      exact q34.1 z f k
  · cases f with
    | zero => exact pc_none
    | succ f =>
      unfold qw_X10_readValue_129
      refine pc_if (fun z => absurd z (by omega)) (fun _ => ?_)
      refine pc_sv (D 1 (by omega)) ?_; intro u8 q8
      refine pc_if (fun z => absurd z (by omega)) (fun _ => ?_)
      refine pc_sv H ?_; intro u34 q34
      refine pc_add (by omega) ?_; intro v35 e35
      rw [e35]
      exact q34.2 z f
/-- FAULTS go through -/
theorem clp_f {rc : tq_X10_readValue} (G : FScG_X10_readValue rc) {kq st bs tn c : Int} (S : ¬ u 2 11 = 0) {Z : ms_M → Prop} (H : ∀ uF : ms_M, FSc u uF → Z uF) : CLP nn rc kq dp st bs tn c u Z := ⟨fun _ f k => pc_imp (fs_qw_X10_readValue_54 G (fun z0 z1 z2 z3 z4 S4 => fs_qw_X10_readValue_30 G k z0 z1 z2 z3 z4 S4) f _ _ _ _ _ u S) H, fun _ f => pc_imp (fs_qw_X10_readValue_129 G f _ _ _ _ u S) H⟩
/-- a sign behind sides: STEP is one turn of the class's loop and the rule of e -/
theorem s1_led {t : Nat} {ix s : Int} (Y : CXs X) (ne : 0 ≤ a ∧ a ≤ e ∧ e < b) (r1 : a ≤ bT X 170 e.toNat ∧ bT X 170 e.toNat < e) (CH : S1 nn X dp ix s a e p t (bT X 170 e.toNat)) (sk : st_T (bK X t) = s ∧ 0 ≤ s ∧ s ≤ 9 ∧ l ≤ s) (kn : bT X 167 e.toNat = 37 ∨ bT X 167 e.toNat = 38) (VOID : ∀ (r2 : ms_M) (d2 : Nat) (y : Int × ms_M), TBq (bK X) (bP X) (bc X) r2 → (∀ cc x : Nat, ((163 ≤ cc ∧ cc ≤ 173) ∨ cc = 177) → r2 cc x = bT X cc x) → r2 160 9 = 0 → r2 174 (bT X 170 e.toNat).toNat = 3 → (0 ≤ bT X 168 (bT X 170 e.toNat).toNat ∧ bT X 168 (bT X 170 e.toNat).toNat < (bc X : Int)) → HDr (bK X) (bP X) (bV X) (bC X) (bc X) (bn X) r2 → (qg_X13_condition nn d2).2.2.2.1 e r2 = some y → y.2 160 9 = 6 ∧ y.2 160 10 = bP X (bT X 168 (bT X 170 e.toNat).toNat).toNat) (STEP : st_T (bK X q) ≤ l → ∀ (d d2 k : Nat) (h r r1 u1 : ms_M) (v1 : Int × ms_M) (st bs tn : Int) (Z : ms_M → Int × ms_M → Prop), EPr X dp p h r → SGn dp l bs h → (0 ≤ r 160 57 ∧ r 160 57 + (b - a) < 9000 ∧ b ≤ 9000) → RFe a b r r1 → EPr X dp p h r1 → EOk nn X ix a e p t (bT X 170 e.toNat) h r1 u1 v1 → FM01 nn X ix a e p t (bT X 170 e.toNat) h u1 v1.2 → ¬ u1 49 12 = 303 → (0 ≤ tn ∧ tn + 1 ≤ (t : Int)) → (∀ (u : ms_M) (v : Int × ms_M) (c tn : Int), EOk nn X 0 a b p q e h r u v → (0 ≤ c ∧ c + u 49 10 ≤ 419) → (0 ≤ tn ∧ tn + 1 ≤ (q : Int)) → CLP nn (qg_X10_readValue nn d) (bK X q) (dp - 1) st bs tn c u (fun uF => Z uF v)) → (∀ (uF : ms_M) (v : Int × ms_M), (SFj uF v.2 ∨ VDj X 0 a b p q e h r uF v) → Z uF v) → Pc (qj_X10_readValue_90 nn (qg_X10_readValue nn d) (qw_X10_readValue_30 nn (qg_X10_readValue nn d) k) (dp - 1) st bs tn u1) (fun uF => ∀ r2 : ms_M, r2 = up_M v1.2 160 57 (r 160 57) → Pc ((qg_X13_condition nn d2).2.2.2.1 e r2) (fun y => ∀ z : ms_M, z = up_M y.2 174 e.toNat y.1 → (¬ z 160 9 = 0 → Z uF (0, z)) ∧ (z 160 9 = 0 → Z uF (y.1, z))))) : S1 nn X dp 0 l a b p q e := by
  intro hs d d2 k h r st bs tn Z Q SG b57 ht HC HF
  have Q0 := Q
  obtain ⟨B, ⟨q1, q2, q3, q4⟩, fx, ox⟩ := Q0
  have T : ∀ cc : Nat, 163 ≤ cc ∧ cc ≤ 173 → r cc e.toNat = bT X cc e.toNat := fun cc z => B.2.2.2.2.2.1 cc e.toNat (by omega)
  have c3 := Y.1.2.1
  obtain ⟨s1, s2, s3, s4⟩ := sk
  have tk : t < bc X := Classical.byContradiction fun z => by
    have := Y.1.1 t (by omega)
    rw [this] at s1
    have : st_T 0 = -1 := by decide
    omega
  have n51 : ¬ bK X t = 51 := fun z => by
    rw [z] at s1
    have : st_T 51 = -1 := by decide
    omega
  have n46 : ¬ bK X t = 46 := fun z => by
    rw [z] at s1
    have : st_T 46 = -1 := by decide
    omega
  cases d2 with
  | zero => exact fun _ _ => pc_none
  | succ d2 =>
    have G := fsg_X10_readValue nn d
    generalize hr1 : up_M (up_M r 199 (r 160 57).toNat e) 160 57 (r 160 57 + 1) = r1'
    have E1 : ∀ cc x : Nat, ¬ cc = 199 → ¬ (cc = 160 ∧ x = 57) → r1' cc x = r cc x := fun cc x z1 z2 => by rw [← hr1, up_n (by omega), up_n (by omega)]
    have s57 : r1' 160 57 = r 160 57 + 1 := by rw [← hr1, up_s]
    have s199 : r1' 199 (r 160 57).toNat = e := by rw [← hr1, up_n (by omega), up_s]
    have B1 : BX X h r1' := bx_k B (fun _ _ _ => rfl) (fun cc x z => E1 cc x (by omega) (by omega))
    have Q1 : EPr X dp p h r1' := ⟨B1, ⟨q1, q2, q3, by rw [E1 160 9 (by omega) (by omega)]; exact q4⟩, fx, ox⟩
    have R1 : RFe a b r r1' := ⟨fun cc x z1 z2 z3 => E1 cc x z2 (by omega), fun cc x z1 z2 z3 => E1 cc x (by omega) (by omega)⟩
    have SG1 : SGn dp s bs h := ⟨by omega, by have := SG.2.1; omega, SG.2.2.1, fun z => by have := SG.2.2.2 z; omega⟩
    -- from what the child leaves up to the rule of e
    have UP : ∀ (v1 : Int × ms_M), RKp r1' v1.2 → v1.2 160 57 = r 160 57 + 1 ∧ v1.2 199 (r 160 57).toNat = e := fun v1 RK => ⟨by rw [RK.1]; exact s57, by rw [RK.2 _ (by omega)]; exact s199⟩
    have W : Pc (mx_sv ((qg_X10_readValue nn d).2.2.1 dp h) fun u49 => qw_X10_readValue_30 nn (qg_X10_readValue nn d) k (dp - 1) st bs tn u49) (fun uF => Pc ((qg_X13_condition nn (d2 + 1)).2.2.1 (bT X 170 e.toNat) r1') (fun v1 => ∀ k2 : Nat, Pc (qw_X13_worked_65 nn (qg_X13_condition nn d2) k2 e (r 160 57) v1.2) (Z uF))) := by
      refine s1_rk CH (by omega) d (d2 + 1) k h r1' st bs tn (fun uF v1 => ∀ k2 : Nat, Pc (qw_X13_worked_65 nn (qg_X13_condition nn d2) k2 e (r 160 57) v1.2) (Z uF)) Q1 SG1 (by omega) (by omega) ht (fun u v1 c tn2 K RK hc ht2 => ⟨fun _ f k => ?_, fun z => absurd z (by omega)⟩) (fun uF v1 S RK k2 => ?_)
      · -- the class's loop
        obtain ⟨w57, w199⟩ := UP v1 RK
        have FX : FM01 nn X ix a e p t (bT X 170 e.toNat) h u v1.2 := by
          have KF := K.2.2 n51
          rcases K.1.2.2.2.2 with F | F | F | F
          · exact F
          · exact absurd F.1.1 (by omega)
          · exact absurd F.1.1 (by omega)
          · exact absurd F.1.1 (by omega)
        have n303 : ¬ u 49 12 = 303 := fun z => by
          rcases FX.1 with ⟨-, -, -, y⟩ | ⟨-, -, y⟩
          · exact n46 (y z).1
          · exact y z
        have o10 := K.1.2.2.1.2.2.1
        have STP := STEP hs d d2 k h r r1' u v1 st bs tn2 Z Q SG b57 R1 Q1 K FX n303 ht2 HC HF
        have PR : Pc (qj_X10_readValue_90 nn (qg_X10_readValue nn d) (qw_X10_readValue_30 nn (qg_X10_readValue nn d) k) (dp - 1) st bs tn2 u) (fun uF => ∀ k2 : Nat, Pc (qw_X13_worked_65 nn (qg_X13_condition nn d2) k2 e (r 160 57) v1.2) (Z uF)) := by
          refine pc_imp STP (fun uF Hu k2 => ?_)
          refine wk_pop (rk_rule d2) (by omega) (by omega) w57 w199 (fun z => absurd K.1.1.2.2.2.2 z) (fun _ => ?_) k2
          exact pc_imp (Hu _ rfl) (fun y Hy => fun z ez => ⟨(Hy z ez).2, (Hy z ez).1⟩)
        refine c_v54 Y (pk_b Q1 K.1) tk K.1.1.1 K.1.1.2.2.2.1 s1 (by have := ox.1; omega) (by have := ox.1; omega) (fun z => ?_) PR
        rw [o10] at z ⊢
        have sb := SG.2.2.1
        rw [K.1.2.2.1.2.2.2 50 _ (by omega) (by omega) (by omega)]
        have := SG.2.2.2 z
        omega
      · -- a FAULT in the child
        obtain ⟨w57, w199⟩ := UP v1 RK
        rcases S with S | S
        · refine wk_pop (rk_rule d2) (by omega) (by omega) w57 w199 (fun _ z ez => ?_) (fun z => absurd z (sf_r S)) k2
          exact HF uF (0, z) (.inl ⟨S.1, by show z 160 9 = _; rw [ez, up_n (by omega), up_n (by omega)]; exact S.2.1, by show z 160 10 = _; rw [ez, up_n (by omega), up_n (by omega)]; exact S.2.2⟩)
        · obtain ⟨⟨s1, s2, s3, s4⟩, ⟨s5, s6, s7⟩, s8⟩ := S
          refine wk_pop (rk_rule d2) (by omega) (by omega) w57 w199 (fun z => absurd s6 z) (fun _ => fun y ey z ez => ?_) k2
          have TQ1 : TBq (bK X) (bP X) (bc X) r1' := B1.1.1.2.2.1
          obtain ⟨w1, w2⟩ := VOID (up_M v1.2 160 57 (r 160 57)) d2 y (tbq_f TQ1 (fun cc x z => by rw [up_n (by omega)]; exact s8.1 cc x (by omega) (by omega) (by omega))) (fun cc x z => by rw [up_n (by omega), s8.1 cc x (by omega) (by omega) (by omega)]; exact B1.2.2.2.2.2.1 cc x z) (by rw [up_n (by omega)]; exact s6) (by rw [up_n (by omega)]; exact s7) ⟨s3, s4.1⟩ (hdr_k B1.1.1.2.2 (fun cc x z => by rw [up_n (by omega)]; exact s8.1 cc x (by omega) (by omega) (by omega))) ey
          have z9 : z 160 9 = 6 := by rw [ez, up_n (by omega)]; exact w1
          have z10 : z 160 10 = bP X (bT X 168 (bT X 170 e.toNat).toNat).toNat := by rw [ez, up_n (by omega)]; exact w2
          refine ⟨fun x => absurd x (by omega), fun _ => HF uF (0, z) (.inl ⟨by omega, ?_, ?_⟩)⟩
          · show z 160 9 = uF 2 11
            rw [z9, s1]
          · show z 160 10 = uF 2 12
            rw [z10, s2]
    refine pc_imp W (fun uF Hu => ?_)
    have LED : Pc (qf_X13_isLed nn e r) (fun u => ¬ u = 0) := by
      unfold qf_X13_isLed
      refine pc_rA ?_; intro _ _ v2 e2
      rw [T 167 (by omega)] at e2
      refine pc_if (fun _ => pc_ret (by decide)) (fun z => ?_)
      exact pc_if (fun _ => pc_ret (by decide)) (fun z2 => absurd kn (by omega))
    refine wk_ldd (rk_rule d2) (Q := Z uF) (R := fun v1 => ∀ k2 : Nat, Pc (qw_X13_worked_65 nn (qg_X13_condition nn d2) k2 e (r 160 57) v1.2) (Z uF)) (fun z Hz k2 => Hz k2) rfl (by omega) q4 LED (by rw [T 170 (by omega)]; omega) (fun g eg => ?_)
    rw [T 170 (by omega), eg, hr1]
    exact Hu
end

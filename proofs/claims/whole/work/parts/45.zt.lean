/- E of both sides: kin of a class: CAST and instanceof -/
/-- whether a type goes with a class -/
def KNo (X : BCx) (t c : Int) : Prop := (t = 300 ∨ (0 ≤ t ∧ t ≤ 200)) ∧ (FTS (bB X 180) t c ∨ FTS (bB X 180) c t)
/-- what op, pop, push do on both sides -/
def CKr (nn : Nat) (X : BCx) (o c t : Int) (u8 u : ms_M) : Prop := (∀ cc x : Nat, ¬ (cc = 34 ∧ (x = 1 ∨ x = 3 ∨ x = 4)) → ¬ (cc = 35 ∨ cc = 36) → ¬ (cc = 45 ∧ (x = 4 ∨ x = 5)) → ¬ (cc = 46 ∨ cc = 47) → u cc x = u8 cc x) ∧ (u 34 1 = u8 34 1 + 2 ∧ 1 ≤ u 34 3 ∧ u 34 3 ≤ u8 34 3 + 1) ∧ (1 ≤ u8 34 3 → u 34 3 = u8 34 3) ∧ (20 < u 34 3 ∨ u 36 (u 34 3 - 1).toNat = t) ∧ (1 ≤ u8 34 3 → ∀ (PB : Nat → Prop) (WL : Int → Int → Prop) (L : List (Int × Int)) (w : ms_M), MKx X PB WL L u8 w → Pc (mx_sv (qf_X13_put nn o w) fun w1 => mx_sv (qf_X13_classConstant nn (ty_T c) w1) fun w2 => mx_sv (qf_X13_put nn w2.1 w2.2) fun w3 => mx_sv (qf_X13_turn nn 1 (ty_T t) w3) fun w4 => some w4) (fun w2 => MKx X PB WL L u w2 ∧ w2 160 88 = w 160 88))
section
variable {nn : Nat} {X : BCx} {dp i a b e t : Int} {p q : Nat} {h g u r w m : ms_M} {v : Int × ms_M}
theorem hd_u (Y : CXs X) : ∀ k : Nat, k < bn X → -1 ≤ bB X 180 k ∧ bB X 180 k < 8 + (bn X : Int) := fun k hk => upk_b Y.2.1 hk (Y.2.2.2.2.2.2.1.2.1.2.1 k hk)
theorem bx_180 (B : BX X h r) : r 180 = bB X 180 := funext (fun x => B.2.2.2.2.2.2.1 180 x (by omega))
theorem c_fit (Y : CXs X) (B : BX X h r) {s t : Int} (vs : VTn (bn X) s) (vt : VTn (bn X) t) : Pc (qf_X4_fits nn 12 s t h) (fun u => (u = 1 ∧ FTS (bB X 180) s t) ∨ (u = 0 ∧ ¬ FTS (bB X 180) s t)) := by
  have e := bx_180 B
  have OK := B.1.2.1.2.2.1
  have KN := B.1.2.1.2.2.2
  rw [e] at OK KN
  exact c_fits Y.2.1 Y.2.2.1 (hd_u Y) OK KN vs vt
theorem c_fit1 (Y : CXs X) (B : BX X h r) {s t : Int} (vs : VTn (bn X) s) (vt : VTn (bn X) t) : Pc (qf_X4_oneFits nn s t h) (fun u => (u = 1 ∧ (FTS (bB X 180) s t ∨ FTS (bB X 180) t s)) ∨ (u = 0 ∧ ¬ (FTS (bB X 180) s t ∨ FTS (bB X 180) t s))) := by
  have e := bx_180 B
  have OK := B.1.2.1.2.2.1
  have KN := B.1.2.1.2.2.2
  rw [e] at OK KN
  exact c_one Y.2.1 Y.2.2.1 (hd_u Y) OK KN vs vt
theorem r_fit (Y : CXs X) (e : r 180 = bB X 180) {s t : Int} (vs : VTn (bn X) s) (vt : VTn (bn X) t) : Pc (qf_X13_fits nn (ty_T s) (ty_T t) r) (fun u => (u = 1 ∧ FTS (bB X 180) s t) ∨ (u = 0 ∧ ¬ FTS (bB X 180) s t)) := by
  have B := hd_u Y
  rw [← e] at B ⊢
  exact r_fits Y.2.2.1 B vs vt
theorem r_goT (Y : CXs X) (e : r 180 = bB X 180) {s t : Int} (vs : VTn (bn X) s) (vt : VTn (bn X) t) : Pc (qf_X13_goTogether nn (ty_T s) (ty_T t) r) (fun u => (u = 1 ∧ (((ty_T s < 2 ∨ ty_T t < 2) ∧ s = t) ∨ (¬ (ty_T s < 2 ∨ ty_T t < 2) ∧ (FTS (bB X 180) s t ∨ FTS (bB X 180) t s)))) ∨ (u = 0 ∧ ¬ (((ty_T s < 2 ∨ ty_T t < 2) ∧ s = t) ∨ (¬ (ty_T s < 2 ∨ ty_T t < 2) ∧ (FTS (bB X 180) s t ∨ FTS (bB X 180) t s))))) := by
  have B := hd_u Y
  rw [← e] at B ⊢
  exact r_go Y.2.2.1 B vs vt
/-- the class: want kin of c -/
theorem c_kinOf (Y : CXs X) (B : BX X h r) (hf : h 2 11 = 0) {tk : Nat} {x c : Int} (ht : tk < bc X) (hx : x = (tk : Int)) (vt : VTn (bn X) (h 49 12)) (vc : 0 ≤ c ∧ c < 8 + (bn X : Int)) : Pc (qf_X10_wantKinOf nn c x h) (fun u => (KNo X (h 49 12) c ∧ u = h) ∨ (¬ KNo X (h 49 12) c ∧ u 2 11 = 6 ∧ u 2 12 = bP X tk)) := by
  have TB : TBc (bK X) (bP X) (bc X) h := B.1.1.1.1
  have TL : ¬ KNo X (h 49 12) c → Pc (qj_X10_wantKinOf_30 nn x h) (fun u => (KNo X (h 49 12) c ∧ u = h) ∨ (¬ KNo X (h 49 12) c ∧ u 2 11 = 6 ∧ u 2 12 = bP X tk)) := fun z => by
    unfold qj_X10_wantKinOf_30
    refine pc_sv (c_want0 TB hf ht hx) ?_; intro u2 s
    exact pc_ret (.inr ⟨z, s⟩)
  unfold qf_X10_wantKinOf
  have IR : Pc (qf_X4_isReference nn (h 49 12) h) (fun u => (u = 1 ∧ (h 49 12 = 300 ∨ (0 ≤ h 49 12 ∧ h 49 12 ≤ 200))) ∨ (u = 0 ∧ ¬ (h 49 12 = 300 ∨ (0 ≤ h 49 12 ∧ h 49 12 ≤ 200)))) := by
    unfold qf_X4_isReference
    refine pc_if (fun z => pc_ret (.inl ⟨rfl, .inl z⟩)) (fun z => ?_)
    refine pc_if (fun z2 => pc_ret (.inr ⟨rfl, by omega⟩)) (fun z2 => ?_)
    exact pc_if (fun z3 => pc_ret (.inr ⟨rfl, by omega⟩)) (fun z3 => pc_ret (.inl ⟨rfl, by omega⟩))
  refine pc_sv IR ?_; intro u4 q4
  refine pc_if (fun z => TL (fun y => ?_)) (fun z => ?_)
  · rcases q4 with ⟨y1, y2⟩ | ⟨y1, y2⟩
    · omega
    · exact y2 y.1
  · rcases q4 with ⟨y1, y2⟩ | ⟨y1, y2⟩
    · refine pc_sv (c_fit1 Y B vt (t := c) (by unfold VTn; omega)) ?_; intro u8 q8
      refine pc_if (fun z8 => TL (fun y => ?_)) (fun z8 => ?_)
      · rcases q8 with ⟨w1, w2⟩ | ⟨w1, w2⟩
        · omega
        · exact w2 y.2
      · rcases q8 with ⟨w1, w2⟩ | ⟨w1, w2⟩
        · refine pc_sv c_want1 ?_; intro u10 q10
          exact pc_ret (.inl ⟨⟨y2, w2⟩, q10⟩)
        · exact absurd w1 z8
    · exact absurd y1 z
/-- the reference -/
theorem r_kinOf {rc : tq_X13_condition} (Y : CXs X) (TQ : TBq (bK X) (bP X) (bc X) r) (e8 : r 180 = bB X 180) (hf : r 160 9 = 0) {tk : Nat} {c : Int} (ht : tk < bc X) (hx : r 168 e.toNat = (tk : Int)) (vt : VTn (bn X) t) (n303 : ¬ t = 303) (vc : 0 ≤ c ∧ c < 8 + (bn X : Int)) : Pc (qj_X13_rule_539 nn rc e (ty_T t) c r) (fun u => (KNo X t c ∧ (u.1 = if r 167 e.toNat = 38 then 1 else ty_T c) ∧ u.2 = up_M r 176 e.toNat (ty_T c)) ∨ (¬ KNo X t c ∧ u.2 160 9 = 6 ∧ u.2 160 10 = bP X tk)) := by
  have n8 := Y.2.2.1
  have cc := ty_c (vtn_v n8 vt)
  have cd := ty_c (t := c) (.inr (.inr (.inr (.inr (.inr (.inl (by omega)))))))
  unfold qj_X13_rule_539
  refine pc_xl ?_; intro v13 e13
  rw [oq_mul_eq (by omega) (by omega) (by omega)] at e13
  refine pc_add (by omega) ?_; intro v14 e14
  rw [show v14 = ty_T c by omega]
  have TL : ¬ KNo X t c → Pc (qj_X13_rule_562 nn rc e (ty_T c) r) (fun u => (KNo X t c ∧ (u.1 = if r 167 e.toNat = 38 then 1 else ty_T c) ∧ u.2 = up_M r 176 e.toNat (ty_T c)) ∨ (¬ KNo X t c ∧ u.2 160 9 = 6 ∧ u.2 160 10 = bP X tk)) := fun z => by
    unfold qj_X13_rule_562
    refine pc_rA ?_; intro _ _ v10 e10
    rw [hx] at e10
    refine pc_sv (r_wrong TQ ht hf e10) ?_; intro u12 ⟨w1, w2⟩
    unfold qj_X13_rule_574
    refine pc_wA ?_; intro _ _ h5 e5
    refine pc_rA ?_; intro _ _ v7 e7
    have f1 : h5 160 9 = 6 := by rw [e5, up_n (by omega)]; exact w1
    have f2 : h5 160 10 = bP X tk := by rw [e5, up_n (by omega)]; exact w2
    exact pc_if (fun _ => pc_ret (.inr ⟨z, f1, f2⟩)) (fun _ => pc_ret (.inr ⟨z, f1, f2⟩))
  refine pc_sv (r_isTh n8 vt) ?_; intro u15 q15
  refine pc_if (fun z => TL (fun y => ?_)) (fun z => ?_)
  · have := y.1
    omega
  · refine pc_sv (r_goT Y e8 vt (t := c) (by unfold VTn; omega)) ?_; intro u17 q17
    have ir : t = 300 ∨ (0 ≤ t ∧ t ≤ 200) := by omega
    have nlt : ¬ (ty_T t < 2 ∨ ty_T c < 2) := by omega
    refine pc_if (fun z2 => ?_) (fun z2 => TL (fun y => ?_))
    · rcases q17 with ⟨y1, y2⟩ | ⟨y1, y2⟩
      · have ok : KNo X t c := by
          rcases y2 with ⟨w1, w2⟩ | ⟨w1, w2⟩
          · exact absurd w1 nlt
          · exact ⟨ir, w2⟩
        unfold qj_X13_rule_574
        refine pc_wA ?_; intro _ _ h5 e5
        refine pc_rA ?_; intro _ _ v7 e7
        rw [e5, up_n (by omega)] at e7
        refine pc_if (fun y => pc_ret (.inl ⟨ok, ?_, e5⟩)) (fun y => pc_ret (.inl ⟨ok, ?_, e5⟩))
        · exact (if_neg (by rw [← e7]; exact y)).symm
        · exact (if_pos (by rw [← e7]; exact Classical.byContradiction y)).symm
      · exact absurd y1 z2
    · rcases q17 with ⟨y1, y2⟩ | ⟨y1, y2⟩
      · omega
      · exact y2 (.inr ⟨nlt, y.2⟩)
/-- the class's part of CKr -/
theorem c_kr {o c : Int} {u8 : ms_M} {K : ms_M → Option ms_M} {QQ : ms_M → Prop} (Y : CXs X) (l1 : 0 ≤ u8 34 1 ∧ u8 34 1 ≤ 900000) (l3 : 0 ≤ u8 34 3 ∧ u8 34 3 ≤ 900000) (vc : 0 ≤ c ∧ c < 8 + (bn X : Int)) (ho : in_R o) (vt : VTn (bn X) t ∧ ¬ t = 303) (HK : ∀ u15 : ms_M, CKr nn X o c t u8 u15 → Pc (K u15) QQ) : Pc (mx_sv (qf_X6_classOf nn c u8) fun u7 => mx_sv (qf_X1_op_ nn o u7.1 u7.2) fun u9 => mx_sv (qf_X1_pop nn 1 u9) fun u12 => mx_sv (qf_X1_push nn t u12) fun u15 => K u15) QQ := by
  refine pc_sv (pc_and c_clf (fun u eu => eu)) ?_; intro u7 ⟨G7, e7⟩
  have b1 := G7 34 1 (by omega) (by omega) (by omega)
  have b3 := G7 34 3 (by omega) (by omega) (by omega)
  refine pc_sv (c_op2 (by omega)) ?_; intro u9 ⟨g1, A1, A2⟩
  have c3 : u9 34 3 = u8 34 3 := by rw [A2.2.2 34 3 (by omega) (by omega), A1.2.2 34 3 (by omega) (by omega)]; exact b3
  have c1 : u9 34 1 = u8 34 1 + 2 := by rw [A2.1, A1.1]; omega
  refine pc_sv (c_pop (by omega) (by omega)) ?_; intro u12 A3
  have d3 : u12 34 3 = if 0 < u8 34 3 - 1 then u8 34 3 - 1 else 0 := by rw [A3.1, c3]
  have d3' : 0 ≤ u12 34 3 ∧ u12 34 3 ≤ u8 34 3 ∧ (1 ≤ u8 34 3 → u12 34 3 = u8 34 3 - 1) := by rw [d3]; split <;> omega
  refine pc_sv (c_push (by omega)) ?_; intro u15 A4
  have e3 := A4.1
  have e1 : u15 34 1 = u8 34 1 + 2 := by rw [A4.2.2.2 34 1 (by omega) (by omega), A3.2 34 1 (by omega)]; exact c1
  refine HK u15 ⟨fun cc x z1 z2 z3 z4 => ?_, ⟨e1, by omega, by omega⟩, fun z => by omega, ?_, fun z PB WL L w M => ?_⟩
  · rw [A4.2.2.2 cc x (by omega) (by omega), A3.2 cc x (by omega), A2.2.2 cc x (by omega) (by omega), A1.2.2 cc x (by omega) (by omega)]
    exact G7 cc x (by omega) (by omega) (by omega)
  · by_cases z : u12 34 3 < 20
    · right
      rw [e3, show (u12 34 3 + 1 - 1).toNat = (u12 34 3).toNat by omega]
      exact A4.2.2.1 z
    · left; omega
  · have tn : ¬ ty_T t = 3 := fun y => vt.2 ((ty_3 (X := X) Y.2.2.1 vt.1).mp y)
    refine m_opC Y M (by omega) e7 A1 A2 (.inl vc) ho (fun w3 M3 l3' _ => ?_) rfl
    refine pc_sv (m_turnG M3 A3 A4 (by omega) (by omega) ⟨rfl, vt⟩ tn rfl) ?_; intro w4 ⟨M4, l4⟩
    exact pc_ret ⟨mkx_c M4 (fun cc x z1 z2 z3 => by rw [up_n (by omega), up_n (by omega)]), by rw [l4]; exact l3'⟩
theorem pc_svr {n : Int} {c : Nat} {j val : Int} {x : Option ms_M} {F : Int → ms_M → Option ms_M} {QQ : ms_M → Prop} (H1 : Pc x (fun u => u c j.toNat = val)) (H : Pc (mx_sv x fun u => F val u) QQ) : Pc (mx_sv x fun u => rd_A n c j u fun v => F v u) QQ := by
  cases hx : x with
  | none => exact fun r e => nomatch e
  | some y =>
    show Pc (rd_A n c j y fun v => F v y) QQ
    refine pc_rA ?_; intro _ _ v ev
    rw [H1 y hx] at ev
    rw [ev]
    rw [hx] at H
    exact H
/-- the making's part -/
theorem w_kr {o c l2 : Int} {u8 u15 : ms_M} {PB : Nat → Prop} {WL : Int → Int → Prop} {L : List (Int × Int)} {rc : tq_X13_work} (CK : CKr nn X o c t u8 u15) (h1 : 1 ≤ u8 34 3) (M : MKx X PB WL L u8 m) (bl : u8 34 1 ≤ 900000) (m6 : m 176 e.toNat = ty_T c) (hl : l2 = ty_T t) : Pc (qj_X13_workOne_630 nn rc e l2 o m) (fun w2 => MKx X PB WL L u15 w2 ∧ w2 160 88 = m 160 88) := by
  have R := CK.2.2.2.2 h1 PB WL L m M
  obtain ⟨-, -, ⟨m1, m2, m3, m4⟩, -⟩ := mk_t M
  unfold qj_X13_workOne_630
  rw [hl]
  exact pc_svr (val := ty_T c) (pc_imp (r_put (by omega)) (fun u b => (b.2.2 176 _ (by omega) (by omega)).trans m6)) R
end

/- E of both sides: a field behind a point -/
section
variable {nn : Nat} {X : BCx} {K P V : Nat → Int} {c : Nat} {dp i a b e t : Int} {p q : Nat} {h g u r w m : ms_M} {v : Int × ms_M}
theorem cx4 : (List.range 8).all (fun j => decide (cx_ (1000000000 + 4) ((j : Nat) : Int) = 32 ↔ (j = 0 ∨ j = 7))) = true := by decide +kernel
/-- a NAME that is length has six letters -/
theorem nmr_len (NR : NMr K V c r) {i : Nat} (hi : i < c) (ki : K i = 2) (h8 : V i = 8) : r 165 i = 6 := by
  obtain ⟨-, a2, -, -, a5⟩ := NR.1 i hi ki
  by_cases ex : ∃ k : Nat, MA_ (1000000000 + 4) 8 (r 164 i) (r 165 i) r k
  · obtain ⟨k, m1, m2, m3, -⟩ := ex
    have C : ∀ j : Nat, j < 8 → (cx_ (1000000000 + 4) (j : Int) = 32 ↔ (j = 0 ∨ j = 7)) := fun j hj => of_decide_eq_true (List.all_eq_true.mp cx4 j (List.mem_range.mpr hj))
    have k0 := (C k (by omega)).mp m1
    have e : (k : Int) + r 165 i + 1 = ((k + (r 165 i).toNat + 1 : Nat) : Int) := by omega
    rw [e] at m3
    have k7 := (C _ (by omega)).mp m3
    omega
  · exfalso
    rcases a5 (-1) (.inl ⟨rfl, fun k hk => ex ⟨k, hk⟩⟩) with ⟨-, z⟩ | ⟨z, -⟩
    · exact z h8
    · exact absurd z (by decide)
theorem r_isTh (n8 : bn X ≤ 8) (V1 : VTn (bn X) t) : Pc (qf_X13_isThing nn (ty_T t) r) (fun u => (u = 1 ∧ (t = 300 ∨ (0 ≤ t ∧ t ≤ 200))) ∨ (u = 0 ∧ (t = 301 ∨ t = 302 ∨ t = 303))) := by
  have c := ty_c (vtn_v n8 V1)
  unfold VTn at V1
  unfold qf_X13_isThing
  refine pc_if (fun z => pc_ret (.inl ⟨rfl, by omega⟩)) (fun z => ?_)
  refine pc_if (fun z2 => pc_ret (.inl ⟨rfl, by omega⟩)) (fun z2 => ?_)
  exact pc_if (fun z3 => pc_ret (.inr ⟨rfl, by omega⟩)) (fun z3 => pc_ret (.inl ⟨rfl, by omega⟩))
theorem c_isCl : Pc (qf_X4_isClass nn t h) (fun u => (u = 1 ∧ 0 ≤ t ∧ t < 16) ∨ (u = 0 ∧ ¬ (0 ≤ t ∧ t < 16))) := by
  unfold qf_X4_isClass
  refine pc_if (fun z => pc_ret (.inr ⟨rfl, by omega⟩)) (fun z => ?_)
  exact pc_if (fun z2 => pc_ret (.inr ⟨rfl, by omega⟩)) (fun z2 => pc_ret (.inl ⟨rfl, by omega⟩))
theorem c_nmG {x c : Int} : Pc (qf_X10_nameField nn c x h) (fun u => (u 49 11 = 3 ∧ u 49 13 = c ∧ u 49 14 = x ∧ (0 ≤ x ∧ x < 96 → u 49 12 = h 19 x.toNat)) ∧ ∀ cc y : Nat, ¬ (cc = 49 ∧ (y = 11 ∨ y = 12 ∨ y = 13 ∨ y = 14)) → u cc y = h cc y) := by
  by_cases hx : 0 ≤ x ∧ x < 96
  · exact pc_imp (c_nmF hx) (fun u q => ⟨⟨q.1.1, q.1.2.1, q.1.2.2.1, fun _ => q.1.2.2.2⟩, q.2⟩)
  · unfold qf_X10_nameField
    refine pc_xl ?_; intro h1 e1
    refine pc_xl ?_; intro h2 e2
    refine pc_xl ?_; intro h3 e3
    refine pc_se ?_; intro u6 _
    refine pc_xl ?_; intro h7 e7
    refine pc_ret ⟨⟨?_, ?_, ?_, fun z => absurd z hx⟩, fun cc y z => ?_⟩
    · rw [e7, up_n (by omega), e3, up_n (by omega), e2, up_n (by omega), e1, up_s]
    · rw [e7, up_n (by omega), e3, up_n (by omega), e2, up_s]
    · rw [e7, up_n (by omega), e3, up_s]
    · rw [e7, up_n (by omega), e3, up_n (by omega), e2, up_n (by omega), e1, up_n (by omega)]
theorem c_want1 {x : Int} : Pc (qf_X10_wantType nn 1 x h) (fun y => y = h) := by
  unfold qf_X10_wantType
  exact pc_if (fun _ => pc_ret rfl) (fun z => absurd (by decide) z)
theorem c_want0 {tk : Nat} {x : Int} (TB : TBc (bK X) (bP X) (bc X) h) (hf : h 2 11 = 0) (ht : tk < bc X) (hx : x = (tk : Int)) : Pc (qf_X10_wantType nn 0 x h) (fun y => y 2 11 = 6 ∧ y 2 12 = bP X tk) := by
  unfold qf_X10_wantType
  refine pc_if (fun z => absurd rfl z) (fun _ => ?_)
  refine pc_sv (c_tell TB hf ht hx) ?_; intro u3 ⟨t1, _⟩
  exact pc_ret t1
end
section
variable {nn : Nat} {X : BCx} {dp i a b e : Int} {p q : Nat} {h g u r w m : ms_M} {v : Int × ms_M}
theorem p3_pf {t : Nat} {ix : Int} (Y : CXs X) (ne : 0 ≤ a ∧ a ≤ e ∧ e < b) (nd : bT X 167 e.toNat = 30 ∧ bT X 168 e.toNat = ((t + 1 : Nat) : Int) ∧ bT X 172 e.toNat = (t : Int)) (kk : bK X t = 48 ∧ bK X (t + 1) = 2 ∧ ¬ bK X (t + 2) = 40 ∧ q = t + 2) (r1 : a ≤ bT X 170 e.toNat ∧ bT X 170 e.toNat < e) (CH : P3 nn X dp ix a e p t (bT X 170 e.toNat)) (pt : p < t) : P3 nn X dp 0 a b p q e := by
  intro d d2 h r Z Q b57 HB HC HF
  obtain ⟨k48, k2, k40, hq⟩ := kk
  have BK := Y.1
  have SK := Y.2.1
  have n8 := Y.2.2.1
  have c3 := BK.2.1
  have t1c : t + 1 < bc X := tb_lt BK (by omega)
  have tc : t < bc X := by omega
  have t2c : t + 2 < bc X := jp_lt BK t1c (by omega)
  refine p3_led Y ne r1 CH (.inl k48) (fun r B => r_led4 (by rw [B.2.2.2.2.2.1 167 e.toNat (by omega), nd.1]; omega)) (fun r _ _ _ z => absurd z k40) (fun r2 d2 y _ TQ TT hf g3 tk ey => ?_) (fun d d2 r r1' u9 v1 Q Q1 b57 R1 K9 FX n303 => ?_) d d2 r Z Q b57 HC HF (by omega)
  · cases d2 with
    | zero => exact absurd ey (fun z => nomatch z)
    | succ d2 =>
      have W : Pc (qo_X13_rule nn (qg_X13_condition nn d2) e r2) (fun y => y.2 160 9 = 6 ∧ y.2 160 10 = bP X (bT X 168 (bT X 170 e.toNat).toNat).toNat) := by
        unfold qo_X13_rule
        refine pc_rA ?_; intro _ _ v83 e83
        rw [TT 167 e.toNat (by omega), nd.1] at e83
        rw [e83]
        refine pc_if (fun z => absurd z (by decide)) (fun _ => ?_)
        refine pc_if (fun z => absurd z (by decide)) (fun _ => ?_)
        refine pc_if (fun z => absurd z (by decide)) (fun _ => ?_)
        refine pc_if (fun z => absurd z (by decide)) (fun _ => ?_)
        refine pc_if (fun z => absurd z (by decide)) (fun _ => ?_)
        refine pc_if (fun z => absurd z (by decide)) (fun _ => ?_)
        refine pc_if (fun z => absurd z (by decide)) (fun _ => ?_)
        refine pc_if (fun z => absurd z (by decide)) (fun _ => ?_)
        refine pc_if (fun z => absurd z (by decide)) (fun _ => ?_)
        refine pc_if (fun z => absurd z (by decide)) (fun _ => ?_)
        refine pc_if (fun _ => ?_) (fun z => absurd rfl z)
        unfold qf_X13_field
        refine pc_sv (pc_sv (r_led3 TQ hf (TT 170 e.toNat (by omega)) g3 (tk := (bT X 168 (bT X 170 e.toNat).toNat).toNat) (by rw [TT 168 _ (by omega)]; omega) (by omega)) (fun u16 s => pc_if (Q := fun y : Int × ms_M => y.2 160 9 = 6 ∧ y.2 160 10 = bP X (bT X 168 (bT X 170 e.toNat).toNat).toNat) (fun z => absurd z (by have := s.2.1; omega)) (fun _ => pc_ret s.2))) ?_; intro u164 q164
        exact pc_ret q164
      exact W y ey
  · have Q0 := Q
    obtain ⟨B, ⟨q1, q2, q3, q4⟩, ⟨f1, f2, f3⟩, o1⟩ := Q0
    rw [if_neg (show ¬ ¬ bK X t = 48 by omega)]
    obtain ⟨⟨x1, x2, x3, x4, x5⟩, ⟨x6, x7, x8⟩, ⟨x9, x10, x11⟩, ⟨x12, x13, x14⟩, -⟩ := K9
    obtain ⟨⟨y1, -⟩, y2⟩ := FX.2.2 (by omega)
    rw [if_neg n303] at y1
    have V7 := x7
    unfold VTn at V7
    have tyA := ty_c (vtn_v n8 x7)
    have B9 : BX X u9 v1.2 := bx_e Q1.1 x9 x10
    have TB9 : TBc (bK X) (bP X) (bc X) u9 := B9.1.1.1.1
    have VL9 : VLc (bK X) (bV X) (bc X) u9 := B9.1.1.1.2.1
    cases d with
    | zero => exact pc_none
    | succ d =>
      have G := fsg_X10_readValue nn d
      show Pc (qo_X10_readBehindPoint nn (qg_X10_readValue nn d) (p : Int) dp u9) _
      -- the reference's rule, given what the class leaves
      have RULE : ∀ (u13 : ms_M), (∀ (r2 : ms_M), r2 = up_M v1.2 160 57 (r 160 57) → BX X u9 r2 → r2 160 9 = 0 → (∀ cc x : Nat, ((163 ≤ cc ∧ cc ≤ 173) ∨ cc = 177) → r2 cc x = bT X cc x) → Pc (if ty_T (u9 49 12) = 2 then (qj_X13_field_27 nn e r2) else (mx_sv (qf_X13_isThing nn (ty_T (u9 49 12)) r2) fun u18 => if ¬ u18 = 0 then (mx_sv (qf_X13_isArray nn (ty_T (u9 49 12)) r2) fun u19 => if u19 = 0 then (xl (oq_sub (ty_T (u9 49 12)) 8) fun v20 => xl (Int.tdiv v20 2) fun v21 => rd_A 9000 168 e r2 fun v23 => mx_sv (qf_X13_memberOf nn v21 v23 0 r2) fun u25 => if ¬ u25 = (-1) then (qj_X13_field_151 nn e u25 r2) else (rd_A 9000 168 e r2 fun v27 => mx_sv (qf_X13_wrong nn 5 v27 r2) fun u29 => qj_X13_field_151 nn e u25 u29)) else (wr_A 9000 175 e (-1) r2 fun h32 => rd_A 9000 168 e h32 fun v35 => rd_A 3002 165 v35 h32 fun v36 => if ¬ v36 = 6 then (qj_X13_field_98 nn e h32) else (rd_A 9000 168 e h32 fun v39 => rd_A 3002 164 v39 h32 fun v40 => mx_sv (qf_X13_among nn (1000000000 + 4) v40 6 h32) fun u42 => if ¬ u42 = 0 then (qj_X13_field_98 nn e h32) else (qj_X13_field_99 nn e 1 h32)))) else (qj_X13_field_27 nn e r2))) (fun y => ∀ z : ms_M, z = up_M y.2 174 e.toNat y.1 → (¬ z 160 9 = 0 → SFj u13 z) ∧ (z 160 9 = 0 → VDj X 0 a b p q e h r u13 (y.1, z) ∨ POk nn X 0 a b p q e h r u13 (y.1, z)))) → ∀ r2 : ms_M, r2 = up_M v1.2 160 57 (r 160 57) → Pc ((qg_X13_condition nn d2).2.2.2.1 e r2) (fun y => ∀ z : ms_M, z = up_M y.2 174 e.toNat y.1 → (¬ z 160 9 = 0 → SFj u13 z) ∧ (z 160 9 = 0 → VDj X 0 a b p q e h r u13 (y.1, z) ∨ POk nn X 0 a b p q e h r u13 (y.1, z))) := fun u13 HN r2 er2 => by
        have E2 : ∀ cc x : Nat, ¬ (cc = 160 ∧ x = 57) → r2 cc x = v1.2 cc x := fun cc x z => by rw [er2, up_n z]
        have B2 : BX X u9 r2 := bx_k B9 (fun _ _ _ => rfl) (fun cc x z => E2 cc x (by omega))
        have T2 := B2.2.2.2.2.2.1
        have a174 : r2 174 (bT X 170 e.toNat).toNat = ty_T (u9 49 12) := by rw [E2 174 _ (by omega), x8]; exact x6
        have hf : r2 160 9 = 0 := by rw [E2 160 9 (by omega)]; exact x5
        cases d2 with
        | zero => exact pc_none
        | succ d2 =>
          show Pc (qo_X13_rule nn (qg_X13_condition nn d2) e r2) _
          unfold qo_X13_rule
          refine pc_rA ?_; intro _ _ v83 e83
          rw [T2 167 e.toNat (by omega), nd.1] at e83
          rw [e83]
          refine pc_if (fun z => absurd z (by decide)) (fun _ => ?_)
          refine pc_if (fun z => absurd z (by decide)) (fun _ => ?_)
          refine pc_if (fun z => absurd z (by decide)) (fun _ => ?_)
          refine pc_if (fun z => absurd z (by decide)) (fun _ => ?_)
          refine pc_if (fun z => absurd z (by decide)) (fun _ => ?_)
          refine pc_if (fun z => absurd z (by decide)) (fun _ => ?_)
          refine pc_if (fun z => absurd z (by decide)) (fun _ => ?_)
          refine pc_if (fun z => absurd z (by decide)) (fun _ => ?_)
          refine pc_if (fun z => absurd z (by decide)) (fun _ => ?_)
          refine pc_if (fun z => absurd z (by decide)) (fun _ => ?_)
          refine pc_if (fun _ => ?_) (fun z => absurd rfl z)
          unfold qf_X13_field
          refine pc_sv (P := fun y => ∀ z : ms_M, z = up_M y.2 174 e.toNat y.1 → (¬ z 160 9 = 0 → SFj u13 z) ∧ (z 160 9 = 0 → VDj X 0 a b p q e h r u13 (y.1, z) ∨ POk nn X 0 a b p q e h r u13 (y.1, z))) ?_ (fun u164 q164 => pc_ret q164)
          refine pc_sv (r_ledv (X := X) hf (T2 170 e.toNat (by omega)) a174 (fun z => n303 ((ty_3 (X := X) n8 x7).mp z))) ?_; intro u16 q16
          rw [q16]
          dsimp only
          refine pc_if (fun _ => HN r2 er2 B2 hf T2) (fun z => absurd hf z)
      -- a FAULT on both sides
      have FLT : ∀ (u13 r2 z : ms_M) (k : Int) (tk : Nat) (y : Int × ms_M), (u13 2 11 = k ∧ u13 2 12 = bP X tk) → ¬ k = 0 → (y.2 160 9 = k ∧ y.2 160 10 = bP X tk) → z = up_M y.2 174 e.toNat y.1 → (¬ z 160 9 = 0 → SFj u13 z) ∧ (z 160 9 = 0 → VDj X 0 a b p q e h r u13 (y.1, z) ∨ POk nn X 0 a b p q e h r u13 (y.1, z)) := fun u13 r2 z k tk y s1 k0 s2 ez => by
        have z9 : z 160 9 = k := by rw [ez, up_n (by omega)]; exact s2.1
        have z10 : z 160 10 = bP X tk := by rw [ez, up_n (by omega)]; exact s2.2
        exact ⟨fun _ => ⟨by rw [s1.1]; exact k0, by rw [z9, s1.1], by rw [z10, s1.2]⟩, fun w => absurd (z9.symm.trans w) k0⟩
      -- wrong(6, three)
      have R27 : ∀ r2 : ms_M, BX X u9 r2 → r2 160 9 = 0 → Pc (qj_X13_field_27 nn e r2) (fun y => y.2 160 9 = 6 ∧ y.2 160 10 = bP X t) := fun r2 B2 hf => by
        unfold qj_X13_field_27
        refine pc_rA ?_; intro _ _ v12 e12
        rw [B2.2.2.2.2.2.1 172 e.toNat (by omega), nd.2.2] at e12
        refine pc_sv (r_wrong B2.1.1.2.2.1 tc hf e12) ?_; intro u14 w1
        exact pc_ret w1
      unfold qo_X10_readBehindPoint
      rw [x1]
      refine pc_add (by omega) ?_; intro v47 e47
      refine pc_sv (c_valueAt BK TB9 VL9 (t := t + 1) k2 (by omega)) ?_; intro u50 q50
      rw [q50]
      refine pc_add (by omega) ?_; intro v52 e52
      refine pc_sv (c_kindAt BK TB9 (t := t + 2) (by omega)) ?_; intro u54 q54
      refine pc_if (fun _ => ?_) (fun z => absurd (show ¬ u54 = 40 by omega) z)
      unfold qj_X10_readBehindPoint_40
      refine pc_sv c_arr2 ?_; intro u40 q40
      refine pc_if (fun z40 => ?_) (fun z40 => ?_)
      · -- an array
        have ar : 100 ≤ u9 49 12 ∧ u9 49 12 ≤ 200 := by omega
        unfold qj_X10_readBehindPoint_67 qj_X10_readBehindPoint_72
        refine pc_sub (by omega) ?_; intro v27 e27
        refine pc_sv c_want1 ?_; intro u29 q29
        rw [q29]
        refine pc_if (fun _ => ?_) (fun z => absurd rfl z)
        refine pc_se ?_; intro u33 _
        unfold qj_X10_readBehindPoint_112
        refine pc_if (fun z => absurd z z40) (fun _ => ?_)
        refine pc_if (fun z => absurd rfl z) (fun _ => ?_)
        -- the reference's side of length
        have RL : ∀ (r2 : ms_M) (QQ : Int × ms_M → Prop), BX X u9 r2 → r2 160 9 = 0 → ((bV X (t + 1) = 8 → QQ (0, up_M r2 175 e.toNat (-1))) ∧ (¬ bV X (t + 1) = 8 → ∀ w : ms_M, (w 160 9 = 5 ∧ w 160 10 = bP X (t + 1)) → QQ (0, w))) → Pc (if ty_T (u9 49 12) = 2 then (qj_X13_field_27 nn e r2) else (mx_sv (qf_X13_isThing nn (ty_T (u9 49 12)) r2) fun u18 => if ¬ u18 = 0 then (mx_sv (qf_X13_isArray nn (ty_T (u9 49 12)) r2) fun u19 => if u19 = 0 then (xl (oq_sub (ty_T (u9 49 12)) 8) fun v20 => xl (Int.tdiv v20 2) fun v21 => rd_A 9000 168 e r2 fun v23 => mx_sv (qf_X13_memberOf nn v21 v23 0 r2) fun u25 => if ¬ u25 = (-1) then (qj_X13_field_151 nn e u25 r2) else (rd_A 9000 168 e r2 fun v27 => mx_sv (qf_X13_wrong nn 5 v27 r2) fun u29 => qj_X13_field_151 nn e u25 u29)) else (wr_A 9000 175 e (-1) r2 fun h32 => rd_A 9000 168 e h32 fun v35 => rd_A 3002 165 v35 h32 fun v36 => if ¬ v36 = 6 then (qj_X13_field_98 nn e h32) else (rd_A 9000 168 e h32 fun v39 => rd_A 3002 164 v39 h32 fun v40 => mx_sv (qf_X13_among nn (1000000000 + 4) v40 6 h32) fun u42 => if ¬ u42 = 0 then (qj_X13_field_98 nn e h32) else (qj_X13_field_99 nn e 1 h32)))) else (qj_X13_field_27 nn e r2))) QQ := fun r2 QQ B2 hf HQ => by
          have T2 := B2.2.2.2.2.2.1
          have NR : NMr (bK X) (bV X) (bc X) r2 := B2.1.1.2.2.2.1
          obtain ⟨-, nr2, nr3, -, nr5⟩ := NR.1 (t + 1) t1c k2
          refine pc_if (fun z => absurd z (by omega)) (fun _ => ?_)
          refine pc_sv (r_isTh n8 x7) ?_; intro u18 q18
          refine pc_if (fun _ => ?_) (fun z => absurd (show ¬ u18 = 0 by omega) z)
          refine pc_sv (r_isArr n8 x7) ?_; intro u19 q19
          refine pc_if (fun z => absurd z (by omega)) (fun _ => ?_)
          refine pc_wA ?_; intro _ _ h32 e32
          have E3 : ∀ cc x : Nat, ¬ cc = 175 → h32 cc x = r2 cc x := fun cc x z => by rw [e32, up_n (by omega)]
          have TQ3 : TBq (bK X) (bP X) (bc X) h32 := tbq_f B2.1.1.2.2.1 (fun cc x z => E3 cc x (by omega))
          have R98 : ¬ bV X (t + 1) = 8 → Pc (qj_X13_field_98 nn e h32) QQ := fun n8' => by
            unfold qj_X13_field_98 qj_X13_field_99
            refine pc_if (fun z => absurd rfl z) (fun _ => ?_)
            refine pc_rA ?_; intro _ _ v7 e7
            rw [E3 168 _ (by omega), T2 168 e.toNat (by omega), nd.2.1] at e7
            refine pc_sv (r_wrong TQ3 t1c (by rw [E3 160 9 (by omega)]; exact hf) e7) ?_; intro u9' w1
            exact pc_ret (HQ.2 n8' u9' w1)
          refine pc_rA ?_; intro _ _ v35 e35
          rw [E3 168 _ (by omega), T2 168 e.toNat (by omega), nd.2.1] at e35
          refine pc_rA ?_; intro _ _ v36 e36
          rw [e35, Int.toNat_natCast, E3 165 _ (by omega)] at e36
          refine pc_if (fun z => R98 (fun y8 => z (e36.trans (nmr_len NR t1c k2 y8)))) (fun z => ?_)
          have w6 : r2 165 (t + 1) = 6 := e36.symm.trans (Classical.byContradiction z)
          refine pc_rA ?_; intro _ _ v39 e39
          rw [E3 168 _ (by omega), T2 168 e.toNat (by omega), nd.2.1] at e39
          refine pc_rA ?_; intro _ _ v40 e40
          rw [e39, Int.toNat_natCast, E3 164 _ (by omega)] at e40
          refine pc_sv (aq_c XT_4 (by omega) (by decide)) ?_; intro u42 q42
          have q42' := ams_k (fun k => E3 162 k (by omega)) q42
          rw [e40, ← w6] at q42'
          rcases nr5 u42 (by rw [w6] at q42' ⊢; exact q42') with ⟨s1, s2⟩ | ⟨s1, s2⟩
          · exact pc_if (fun _ => R98 s2) (fun y => absurd (show ¬ u42 = 0 by omega) y)
          · refine pc_if (fun y => absurd s1 y) (fun _ => ?_)
            unfold qj_X13_field_99
            refine pc_if (fun _ => pc_ret (by rw [e32]; exact HQ.1 s2)) (fun y => absurd (by decide) y)
        refine pc_if (fun z8 => ?_) (fun z8 => ?_)
        · -- its length
          unfold qj_X10_readBehindPoint_149
          refine pc_add (by omega) ?_; intro v2 e2
          refine pc_xl ?_; intro h3 e3
          rw [show v2 = ((t + 2 : Nat) : Int) by omega] at e3
          have E3 : ∀ cc x : Nat, ¬ (cc = 2 ∧ x = 10) → h3 cc x = u9 cc x := fun cc x z => by rw [e3, up_n z]
          refine pc_if (fun _ => ?_) (fun z => absurd rfl z)
          refine pc_if (fun z => absurd z z40) (fun _ => ?_)
          have l3 := E3 34 1 (by omega)
          have h33 := E3 34 3 (by omega)
          refine pc_sv (c_op (by omega)) ?_; intro u9' A1
          have h39 : u9' 34 3 = u9 34 3 := by rw [A1.2.2 34 3 (by omega) (by omega)]; exact h33
          refine pc_sv (c_pop (by omega) (by omega)) ?_; intro u12 A3
          have h12 : u12 34 3 = h 34 3 := by rw [A3.1, h39]; split <;> omega
          refine pc_sv (c_give (by omega)) ?_; intro u14 ⟨g8, CP, eu⟩
          have G12 : ∀ cc x : Nat, ¬ (cc = 34 ∧ (x = 1 ∨ x = 3)) → ¬ cc = 35 → ¬ (cc = 2 ∧ x = 10) → u12 cc x = u9 cc x := fun cc x z1 z2 z3 => by rw [A3.2 cc x (by omega), A1.2.2 cc x (by omega) (by omega)]; exact E3 cc x z3
          have l12 : u12 34 1 = u9 34 1 + 1 := by rw [A3.2 34 1 (by omega), A1.1]; omega
          have t11 : u14 49 11 = 0 := by rw [eu, up_s]
          have t12 : u14 49 12 = 301 := by rw [eu, up_n (by omega), up_s]
          have t3 : u14 34 3 = h 34 3 + 1 := by rw [eu, up_n (by omega), up_n (by omega), CP.1, h12]
          refine pc_ret (RULE u14 (fun r2 er2 B2 hf T2 => ?_))
          refine RL r2 _ B2 hf ⟨fun _ => ?_, fun y => absurd z8 y⟩
          intro z (ez : z = up_M (up_M r2 175 e.toNat (-1)) 174 e.toNat 0)
          have E2 : ∀ cc x : Nat, ¬ (cc = 160 ∧ x = 57) → r2 cc x = v1.2 cc x := fun cc x z => by rw [er2, up_n z]
          refine ⟨fun y => absurd (by rw [ez, up_n (by omega), up_n (by omega)]; exact hf) y, fun _ => .inr ?_⟩
          rw [hq]
          refine pok_give (t := 301) (g := u12) (v := up_M r2 175 e.toNat (-1)) Q ⟨t2c, by omega⟩ ne ?_ ?_ ?_ ?_ ?_ ?_ ?_ CP eu ⟨.inl rfl, by decide⟩ ?_ (by rw [up_n (by omega)]; exact hf) (by rw [ez]; rfl) ?_
          · exact cfe_t x9 (fun cc x a1 a2 a3 a4 a5 a6 a7 a8 => G12 cc x (by omega) (by omega) (by omega))
          · exact sgb_t x11 ⟨G12 49 10 (by omega) (by omega) (by omega), fun cc x z1 z2 z3 => G12 cc x (by omega) (by omega) (by omega)⟩
          · rw [A3.2 2 10 (by omega), A1.2.2 2 10 (by omega) (by omega), e3, up_s]
          · rw [G12 2 11 (by omega) (by omega) (by omega)]; exact x4
          · exact frc_k x12 (fun cc x z => G12 cc x (by omega) (by omega) (by omega))
          · omega
          · omega
          · refine ⟨fun cc x s1 s2 s3 => ?_, fun cc x s1 s2 s3 => ?_⟩
            · rw [up_n (by omega), E2 cc x (by omega), x10.1 cc x s1 s2 s3]; exact R1.1 cc x s1 s2 s3
            · rw [up_n (by omega), E2 cc x (by omega), x10.2 cc x s1 s2 (by omega)]; exact R1.2 cc x s1 s2 s3
          · refine ⟨.inr ⟨t11, by omega, by rw [t12]; decide⟩, fun _ => .inl ⟨by omega, by omega, fun _ => by rw [up_n (by omega), up_s]⟩, fun _ => ⟨⟨by rw [t12, if_neg (by decide)]; exact t3, top_g CP (by omega) eu⟩, ?_⟩⟩
            have M1 : MKC nn X (bT X 170 e.toNat) a e p t h h3 (up_M (up_M r2 175 e.toNat (-1)) 174 e.toNat (ty_T 301)) := mkc_v (mkc_w y2 (fun _ _ _ _ _ => rfl) (fun cc x s1 s2 s3 => E3 cc x (by omega)) (Nat.le_refl _) (Nat.le_refl _)) (fun cc x s1 s2 s3 s4 => by rw [up_n (by omega), up_n (by omega)]; exact E2 cc x (by omega))
            refine mkc_led (.inl (.inl nd.1)) ne M1 (by omega) (fun PB WL L m d M A z1 z2 => ?_)
            obtain ⟨MT, -, ⟨m1, m2, m3, m4⟩, -⟩ := mk_t M
            have a4 : m 174 e.toNat = 0 := by rw [A 174 e.toNat (by omega) (by omega) (by omega) (by omega), up_s]; rfl
            have a5 : m 175 e.toNat = -1 := by rw [A 175 e.toNat (by omega) (by omega) (by omega) (by omega), up_n (by omega), up_s]
            unfold qo_X13_workOne
            refine pc_rA ?_; intro _ _ v59 e59
            rw [a4] at e59
            refine pc_rA ?_; intro _ _ v61 e61
            rw [MT 167 e.toNat (by omega), nd.1] at e61
            rw [e59, e61]
            refine pc_if (fun z => absurd z (by decide)) (fun _ => ?_)
            refine pc_if (fun z => absurd z (by decide)) (fun _ => ?_)
            refine pc_if (fun z => absurd z (by decide)) (fun _ => ?_)
            refine pc_if (fun z => absurd z (by decide)) (fun _ => ?_)
            refine pc_if (fun z => absurd z (by decide)) (fun _ => ?_)
            refine pc_if (fun z => absurd z (by decide)) (fun _ => ?_)
            refine pc_if (fun z => absurd z (by decide)) (fun _ => ?_)
            refine pc_if (fun z => absurd z (by decide)) (fun _ => ?_)
            refine pc_if (fun z => absurd z (by decide)) (fun _ => ?_)
            refine pc_if (fun z => absurd z (by decide)) (fun _ => ?_)
            refine pc_if (fun _ => ?_) (fun z => absurd rfl z)
            refine pc_rA ?_; intro _ _ v159 e159
            rw [a5] at e159
            refine pc_if (fun z => absurd e159 z) (fun _ => ?_)
            refine pc_sv (r_put (by omega)) ?_; intro u175 b1
            unfold qj_X13_workOne_479
            have M2 := mk_op M A1 b1 (fun _ => rfl) (by unfold in_R; omega)
            refine pc_sv (m_turnG M2 A3 CP (by omega) (by omega) ⟨rfl, .inl rfl, by decide⟩ (by decide) eu) ?_; intro w5 ⟨M3, l5⟩
            exact pc_ret ⟨M3, by rw [l5, b1.2.2 160 88 (by omega) (by omega)]; omega⟩
        · -- no such field
          unfold qj_X10_readBehindPoint_140
          refine pc_sv (c_tell TB9 x4 t1c (by omega)) ?_; intro u22 ⟨s1, _⟩
          have S22 : ¬ u22 2 11 = 0 := by omega
          refine pc_imp (fs_qj_X10_readBehindPoint_149 G S22) (fun u F => RULE u (fun r2 er2 B2 hf T2 => ?_))
          refine RL r2 _ B2 hf ⟨fun y => absurd y z8, fun _ w hw => ?_⟩
          exact fun z ez => FLT u r2 z 5 (t + 1) (0, w) ⟨by rw [F.1]; exact s1.1, by rw [F.2]; exact s1.2⟩ (by decide) hw ez
      · -- no array
        have nar : ¬ (100 ≤ u9 49 12 ∧ u9 49 12 ≤ 200) := by omega
        refine pc_sv c_isCl ?_; intro u42 q42
        refine pc_if (fun z42 => ?_) (fun z42 => ?_)
        · -- neither: TYPE
          unfold qj_X10_readBehindPoint_72
          refine pc_sub (by omega) ?_; intro v27 e27
          refine pc_sv (c_want0 TB9 x4 tc (by omega)) ?_; intro u29 s1
          have S29 : ¬ u29 2 11 = 0 := by omega
          refine pc_if (fun _ => ?_) (fun z => absurd rfl z)
          refine pc_se ?_; intro u33 _
          refine pc_imp (fs_qj_X10_readBehindPoint_112 G S29) (fun u F => RULE u (fun r2 er2 B2 hf T2 => ?_))
          have FIN : Pc (qj_X13_field_27 nn e r2) (fun y => ∀ z : ms_M, z = up_M y.2 174 e.toNat y.1 → (¬ z 160 9 = 0 → SFj u z) ∧ (z 160 9 = 0 → VDj X 0 a b p q e h r u (y.1, z) ∨ POk nn X 0 a b p q e h r u (y.1, z))) := pc_imp (R27 r2 B2 hf) (fun y hy z ez => FLT u r2 z 6 t y ⟨by rw [F.1]; exact s1.1, by rw [F.2]; exact s1.2⟩ (by decide) hy ez)
          refine pc_if (fun _ => FIN) (fun z2 => ?_)
          refine pc_sv (r_isTh n8 x7) ?_; intro u18 q18
          refine pc_if (fun z => absurd z (by omega)) (fun _ => FIN)
        · -- a class
          have cl : 0 ≤ u9 49 12 ∧ u9 49 12 < 8 + (bn X : Int) := by omega
          unfold qj_X10_readBehindPoint_67 qj_X10_readBehindPoint_72
          refine pc_sub (by omega) ?_; intro v27 e27
          refine pc_sv c_want1 ?_; intro u29 q29
          rw [q29]
          refine pc_if (fun _ => ?_) (fun z => absurd rfl z)
          refine pc_se ?_; intro u33 e33
          unfold qj_X10_readBehindPoint_112
          have z40' : u40 = 0 := by omega
          refine pc_if (fun _ => ?_) (fun z => absurd z40' z)
          -- the reference looks it up, too
          have RC : ∀ (r2 : ms_M) (QQ : Int × ms_M → Prop), BX X u9 r2 → (∀ u25 : Int, LKR (bV X) (bM X) 0 (bV X (t + 1)) r2 u33 u25 → Pc (if ¬ u25 = (-1) then (qj_X13_field_151 nn e u25 r2) else (rd_A 9000 168 e r2 fun v27 => mx_sv (qf_X13_wrong nn 5 v27 r2) fun u29 => qj_X13_field_151 nn e u25 u29)) QQ) → Pc (if ty_T (u9 49 12) = 2 then (qj_X13_field_27 nn e r2) else (mx_sv (qf_X13_isThing nn (ty_T (u9 49 12)) r2) fun u18 => if ¬ u18 = 0 then (mx_sv (qf_X13_isArray nn (ty_T (u9 49 12)) r2) fun u19 => if u19 = 0 then (xl (oq_sub (ty_T (u9 49 12)) 8) fun v20 => xl (Int.tdiv v20 2) fun v21 => rd_A 9000 168 e r2 fun v23 => mx_sv (qf_X13_memberOf nn v21 v23 0 r2) fun u25 => if ¬ u25 = (-1) then (qj_X13_field_151 nn e u25 r2) else (rd_A 9000 168 e r2 fun v27 => mx_sv (qf_X13_wrong nn 5 v27 r2) fun u29 => qj_X13_field_151 nn e u25 u29)) else (wr_A 9000 175 e (-1) r2 fun h32 => rd_A 9000 168 e h32 fun v35 => rd_A 3002 165 v35 h32 fun v36 => if ¬ v36 = 6 then (qj_X13_field_98 nn e h32) else (rd_A 9000 168 e h32 fun v39 => rd_A 3002 164 v39 h32 fun v40 => mx_sv (qf_X13_among nn (1000000000 + 4) v40 6 h32) fun u42 => if ¬ u42 = 0 then (qj_X13_field_98 nn e h32) else (qj_X13_field_99 nn e 1 h32)))) else (qj_X13_field_27 nn e r2))) QQ := fun r2 QQ B2 HQ => by
            have T2 := B2.2.2.2.2.2.1
            refine pc_if (fun z => absurd z (by omega)) (fun _ => ?_)
            refine pc_sv (r_isTh n8 x7) ?_; intro u18 q18
            refine pc_if (fun _ => ?_) (fun z => absurd (show ¬ u18 = 0 by omega) z)
            refine pc_sv (r_isArr n8 x7) ?_; intro u19 q19
            refine pc_if (fun _ => ?_) (fun z => absurd (show u19 = 0 by omega) z)
            refine pc_sub (by omega) ?_; intro v20 e20
            refine pc_xl ?_; intro v21 e21
            have d2 : v21 = u9 49 12 := by rw [e21, Int.tdiv_eq_ediv_of_nonneg (by omega)]; omega
            rw [d2]
            refine pc_rA ?_; intro _ _ v23 e23
            rw [T2 168 e.toNat (by omega), nd.2.1] at e23
            rw [e23]
            refine pc_sv (j_fieldOf (nn := nn) BK SK B2.1 (t := t + 1) k2 (a := u9 49 12) (by omega) u33 e33) ?_; intro u25 q25
            exact HQ u25 q25
          refine pc_if (fun z33 => ?_) (fun z33 => ?_)
          · -- found
            unfold qj_X10_readBehindPoint_149
            refine pc_add (by omega) ?_; intro v2 e2
            refine pc_xl ?_; intro h3 e3
            rw [show v2 = ((t + 2 : Nat) : Int) by omega] at e3
            have E3 : ∀ cc x : Nat, ¬ (cc = 2 ∧ x = 10) → h3 cc x = u9 cc x := fun cc x z => by rw [e3, up_n z]
            refine pc_if (fun _ => ?_) (fun z => absurd rfl z)
            refine pc_if (fun _ => ?_) (fun z => absurd z40' z)
            rw [E3 49 12 (by omega)]
            refine pc_sv c_nmG ?_; intro u6 ⟨⟨n1, n2, n3, n4'⟩, n5⟩
            have N5 : ∀ cc x : Nat, ¬ (cc = 49 ∧ (x = 11 ∨ x = 12 ∨ x = 13 ∨ x = 14)) → ¬ (cc = 2 ∧ x = 10) → u6 cc x = u9 cc x := fun cc x z1 z2 => by rw [n5 cc x z1]; exact E3 cc x z2
            refine pc_ret (RULE u6 (fun r2 er2 B2 hf T2 => ?_))
            have E2 : ∀ cc x : Nat, ¬ (cc = 160 ∧ x = 57) → r2 cc x = v1.2 cc x := fun cc x z => by rw [er2, up_n z]
            refine RC r2 _ B2 (fun u25 L => ?_)
            rcases L with ⟨y, -⟩ | ⟨j, k, j1, k8, ms, vn, y25, y33⟩
            · exact absurd y z33
            · obtain ⟨x96, ty1, ty2, ty3⟩ := fld_ty Y B2 j1 k8 ms y33
              have n4 := n4' x96
              obtain ⟨MX, -, -⟩ := mbx_of B2 (.inl rfl) j1 k8 ms y33
              refine pc_if (fun _ => ?_) (fun z => absurd (show ¬ u25 = -1 by omega) z)
              unfold qj_X13_field_151
              refine pc_wA ?_; intro _ _ h2 e2'
              refine pc_if (fun _ => ?_) (fun z => absurd (show ¬ u25 = -1 by omega) z)
              refine pc_rA ?_; intro _ _ v4 e4
              rw [y25, Int.toNat_natCast, e2', up_n (by omega), ty1] at e4
              have t12 : u6 49 12 = u9 19 u33.toNat := by rw [n4]; exact E3 19 _ (by omega)
              refine pc_ret (fun z (ez : z = up_M h2 174 e.toNat v4) => ?_)
              have z9 : z 160 9 = 0 := by rw [ez, up_n (by omega), e2', up_n (by omega)]; exact hf
              refine ⟨fun y => absurd z9 y, fun _ => .inr ?_⟩
              rw [hq]
              have l1 := N5 34 1 (by omega) (by omega)
              have l3 := N5 34 3 (by omega) (by omega)
              have RR : RFe a b r z := by
                refine ⟨fun cc x s1 s2 s3 => ?_, fun cc x s1 s2 s3 => ?_⟩
                · rw [ez, up_n (by omega), e2', up_n (by omega), E2 cc x (by omega), x10.1 cc x s1 s2 s3]; exact R1.1 cc x s1 s2 s3
                · rw [ez, up_n (by omega), e2', up_n (by omega), E2 cc x (by omega), x10.2 cc x s1 s2 (by omega)]; exact R1.2 cc x s1 s2 s3
              refine ⟨⟨?_, t2c, by omega, ?_, z9⟩, ⟨?_, ?_, ?_⟩, ⟨?_, RR, ?_⟩, ⟨?_, by omega, by omega⟩, .inr (.inr (.inl ⟨⟨n1, rfl, by rw [n2]; exact cl, by rw [t12]; exact ty3⟩, ⟨?_, by omega, by omega⟩, .inr ⟨nd.1, r1, ?_, ?_⟩⟩))⟩
              · rw [n5 2 10 (by omega), e3, up_s]
              · rw [N5 2 11 (by omega) (by omega)]; exact x4
              · show v4 = ty_T (u6 49 12)
                rw [t12]; exact e4
              · rw [t12]; exact ty2
              · show z 174 e.toNat = v4
                rw [ez, up_s]
              · exact cfe_t x9 (fun cc x a1 a2 a3 a4 a5 a6 a7 a8 => N5 cc x (by omega) (by omega))
              · exact sgb_t x11 ⟨N5 49 10 (by omega) (by omega), fun cc x z1 z2 z3 => N5 cc x (by omega) (by omega)⟩
              · exact frc_k x12 (fun cc x z => N5 cc x (by omega) (by omega))
              · show MBx X 0 (u6 49 14) (z 175 e.toNat)
                rw [n3, ez, up_n (by omega), e2', up_s, y25]; exact MX
              · show z 174 _ = _
                rw [n2, ez, up_n (by omega), e2', up_n (by omega), E2 174 _ (by omega), x8]; exact x6
              · refine mkc_v (v1 := v1.2) (mkc_w y2 (fun _ _ _ _ _ => rfl) (fun cc x s1 s2 s3 => N5 cc x (by omega) (by omega)) (Nat.le_refl _) (by omega)) (fun cc x s1 s2 s3 s4 => ?_)
                show z cc x = _
                rw [ez, up_n (by omega), e2', up_n (by omega), E2 cc x (by omega)]
          · -- not found
            have u33' : u33 = -1 := Classical.byContradiction z33
            unfold qj_X10_readBehindPoint_140
            refine pc_sv (c_tell TB9 x4 t1c (by omega)) ?_; intro u22 ⟨s1, _⟩
            have S22 : ¬ u22 2 11 = 0 := by omega
            refine pc_imp (fs_qj_X10_readBehindPoint_149 G S22) (fun u F => RULE u (fun r2 er2 B2 hf T2 => ?_))
            refine RC r2 _ B2 (fun u25 L => ?_)
            have n25 : u25 = -1 := by
              rcases L with ⟨-, y⟩ | ⟨j, k, -, -, -, -, -, y⟩
              · exact y
              · exact absurd u33' (by omega)
            refine pc_if (fun z => absurd n25 z) (fun _ => ?_)
            refine pc_rA ?_; intro _ _ v27' e27'
            rw [T2 168 e.toNat (by omega), nd.2.1] at e27'
            refine pc_sv (r_wrong B2.1.1.2.2.1 t1c hf e27') ?_; intro u29' w1
            refine pc_imp (ft_qj_X13_field_151 (by omega)) (fun y F3 z ez => FLT u r2 z 5 (t + 1) y ⟨by rw [F.1]; exact s1.1, by rw [F.2]; exact s1.2⟩ (by decide) ⟨by rw [F3.1]; exact w1.1, by rw [F3.2]; exact w1.2⟩ ez)
end

/- calls: behind the ARGS -/
/-- what the class leaves where the call is right; fx: the method is fixed -/
def CLRq (nn : Nat) (X : BCx) (e c st : Int) (x t n : Nat) (j op kp : Int) (u uF : ms_M) : Prop := (uF 2 10 = ((t + 1 : Nat) : Int) ∧ uF 2 11 = 0 ∧ uF 49 11 = 1 ∧ uF 49 12 = u 24 x ∧ (u 24 x = 303 → bK X (t + 1) = 46 ∧ st = u 49 18)) ∧ (∀ cc y : Nat, ¬ (cc = 2 ∧ y = 10) → ¬ (cc = 34 ∧ (y = 1 ∨ y = 3 ∨ y = 4)) → ¬ (cc = 35 ∨ cc = 36) → ¬ (cc = 45 ∧ (y = 4 ∨ y = 5)) → ¬ (cc = 46 ∨ cc = 47) → ¬ (cc = 49 ∧ (y = 11 ∨ y = 12)) → uF cc y = u cc y) ∧ (uF 34 1 = u 34 1 + 2 ∧ 0 ≤ uF 34 3 ∧ uF 34 3 ≤ u 34 3 + 1) ∧ (kp ≤ u 34 3 → uF 34 3 = u 34 3 - kp + (if u 24 x = 303 then 0 else 1)) ∧ (uF 49 12 = 303 ∨ 20 < uF 34 3 ∨ uF 36 (uF 34 3 - 1).toNat = uF 49 12) ∧ (kp ≤ u 34 3 → ∀ (rc : tq_X13_work) (PB : Nat → Prop) (WL : Int → Int → Prop) (L : List (Int × Int)) (w : ms_M), MKx X PB WL L u w → w 175 e.toNat = j → w 174 e.toNat = ty_T (u 24 x) → Pc (qj_X13_workCall_65 nn rc e c kp op w) (fun w2 => MKx X PB WL L uF w2 ∧ w2 160 88 = w 160 88))
section
variable {nn : Nat} {X : BCx} {dp i l a b e s k : Int} {p q t tk : Nat} {h g u r w m v : ms_M}
theorem c_mof {c x : Int} : Pc (qf_X6_methodOf nn c x h) (fun u => ∀ cc y : Nat, ¬ (cc = 45 ∧ (y = 4 ∨ y = 5)) → ¬ cc = 46 → ¬ cc = 47 → u.2 cc y = h cc y) := fun u eu cc y z1 z2 z3 => ff_X6_methodOf nn u eu cc y (nw_of (by unfold wl_X6_methodOf; simp only [List.mem_cons, List.not_mem_nil, or_false]; omega) (by unfold wf_X6_methodOf; simp only [List.mem_cons, List.not_mem_nil, or_false, Prod.mk.injEq]; omega))
theorem m_turn0 {PB : Nat → Prop} {WL : Int → Int → Prop} {L : List (Int × Int)} {kp : Int} (M : MKx X PB WL L h m) (A : CPo kp h g) (hk : 0 ≤ kp ∧ kp ≤ h 34 3) (b3 : h 34 3 ≤ 1000000) : Pc (qf_X13_turn nn kp 3 m) (fun w => MKx X PB WL L g w ∧ w 160 88 = m 160 88) := by
  obtain ⟨-, -, ⟨m1, m2, m3, m4⟩, -⟩ := mk_t M
  unfold qf_X13_turn
  refine pc_sub (by omega) ?_; intro v2 e2
  refine pc_xl ?_; intro h3 e3
  refine pc_if (fun _ => pc_ret ⟨mk_pop M A hk (by rw [e3, e2]), by rw [e3, up_n (by omega)]⟩) (fun z => absurd rfl z)
theorem c_call {rc : tq_X10_readValue} {rc2 : tq_X13_condition} {c at_ st how fit rt : Int} {x j n : Nat} (G : FScG_X10_readValue rc) (Y : CXs X) (B : BX X u v) (MF : MTf X u v x j) (MB : MBx X 1 (x : Int) (j : Int)) (hc : 0 ≤ c ∧ c < 8 + (bn X : Int)) (k41 : bK X t = 41) (u10 : u 2 10 = (t : Int)) (tc : t < bc X) (u11 : u 2 11 = 0) (v9 : v 160 9 = 0) (hat : at_ = (tk : Int)) (kc : tk < bc X) (ne : 0 ≤ e) (e68 : bT X 168 e.toNat = (tk : Int)) (way : fit = 0 ↔ ((v 182 j = 2 ∧ how = 1) ∨ (v 182 j = 1 ∧ how = 2))) (hr : rt = 0 ∨ rt = 1) (l1 : 0 ≤ u 34 1 ∧ u 34 1 ≤ 900000) (l3 : 0 ≤ u 34 3 ∧ u 34 3 ≤ 2999) : Pc (qj_X10_readCall_128 nn rc c (x : Int) at_ how st (n : Int) rt u) (fun uF => Pc (qj_X13_called_110 nn rc2 e (j : Int) (if fit = 0 then 0 else rt) (n : Int) v) (fun y => SFj uF y.2 ∨ (y = (3, v) ∧ u 24 x = 303 ∧ uF 2 11 = 6 ∧ uF 2 12 = bP X tk ∧ ¬ (bK X (t + 1) = 46 ∧ st = u 49 18)) ∨ (y = (ty_T (u 24 x), v) ∧ ¬ fit = 0 ∧ CLRq nn X e c st x t n (j : Int) (if v 182 j = 2 then 184 else 182) (if v 182 j = 2 then (n : Int) else (n : Int) + 1) u uF))) := by
  have n8 := Y.2.2.1
  have c3 := Y.1.2.1
  have t1c : t + 1 < bc X := jp_lt Y.1 tc (by omega)
  have TQ : TBq (bK X) (bP X) (bc X) v := B.1.1.2.2.1
  have v68 : v 168 e.toNat = (tk : Int) := (B.2.2.2.2.2.1 168 _ (by omega)).trans e68
  -- the reference: right, or not
  have RB : ¬ (¬ fit = 0 ∧ rt = 1 ∧ (n : Int) = v 189 j) → Pc (qj_X13_called_110 nn rc2 e (j : Int) (if fit = 0 then 0 else rt) (n : Int) v) (fun y => y.2 160 9 = 6 ∧ y.2 160 10 = bP X tk) := fun nok => by
    have P126 : Pc (qj_X13_called_126 nn rc2 e (j : Int) v) (fun y => y.2 160 9 = 6 ∧ y.2 160 10 = bP X tk) := by
      unfold qj_X13_called_126 qj_X13_called_138
      refine pc_rA ?_; intro _ _ v4 e4
      rw [v68] at e4
      refine pc_sv (r_wrong TQ kc v9 e4) ?_; intro u6 w1
      refine pc_rA ?_; intro _ _ v2 _
      exact pc_ret w1
    unfold qj_X13_called_110
    refine pc_if (fun _ => P126) (fun z => ?_)
    refine pc_rA ?_; intro _ _ v8 e8
    rw [Int.toNat_natCast] at e8
    refine pc_if (fun z2 => absurd ⟨?_, ?_, by omega⟩ nok) (fun _ => P126)
    · intro f
      rw [if_pos f] at z
      exact z rfl
    · by_cases f : fit = 0
      · rw [if_pos f] at z
        exact absurd rfl z
      · rw [if_neg f] at z
        omega
  have RG : (¬ fit = 0 ∧ rt = 1 ∧ (n : Int) = v 189 j) → Pc (qj_X13_called_110 nn rc2 e (j : Int) (if fit = 0 then 0 else rt) (n : Int) v) (fun y => y = (ty_T (u 24 x), v)) := fun ⟨o1, o2, o3⟩ => by
    rw [if_neg o1, o2]
    unfold qj_X13_called_110 qj_X13_called_138
    refine pc_if (fun z => absurd z (by decide)) (fun _ => ?_)
    refine pc_rA ?_; intro _ _ v8 e8
    rw [Int.toNat_natCast] at e8
    refine pc_if (fun _ => ?_) (fun z => absurd (show (n : Int) = v8 by omega) z)
    refine pc_rA ?_; intro _ _ v2 e2
    rw [Int.toNat_natCast, MF.2.2.2.2.2.2] at e2
    exact pc_ret (by rw [e2])
  unfold qj_X10_readCall_128
  rw [u10]
  refine pc_add (by omega) ?_; intro v28 e28
  refine pc_xl ?_; intro h29 e29
  rw [show v28 = ((t + 1 : Nat) : Int) by omega] at e29
  have E : ∀ cc y : Nat, ¬ (cc = 2 ∧ y = 10) → h29 cc y = u cc y := fun cc y z => by rw [e29, up_n z]
  have f29 : h29 2 11 = 0 := by rw [E 2 11 (by omega)]; exact u11
  have B29 : BX X h29 v := bx_k B (fun cc y z => E cc y (by omega)) (fun _ _ _ => rfl)
  have TB29 : TBc (bK X) (bP X) (bc X) h29 := B29.1.1.1.1
  have MF29 : MTf X h29 v x j := mtf_k MF (fun cc y z => E cc y (by omega)) (fun _ _ _ => rfl)
  have a1 := E 34 1 (by omega)
  have a3 := E 34 3 (by omega)
  refine pc_if (fun _ => ?_) (fun z => absurd f29 z)
  -- a wrong call
  have P0 : ∀ l9 : Int, ¬ (¬ fit = 0 ∧ rt = 1 ∧ (n : Int) = v 189 j) → Pc (qj_X10_readCall_223 nn rc c (x : Int) at_ st (n : Int) l9 0 h29) (fun uF => Pc (qj_X13_called_110 nn rc2 e (j : Int) (if fit = 0 then 0 else rt) (n : Int) v) (fun y => SFj uF y.2 ∨ (y = (3, v) ∧ u 24 x = 303 ∧ uF 2 11 = 6 ∧ uF 2 12 = bP X tk ∧ ¬ (bK X (t + 1) = 46 ∧ st = u 49 18)) ∨ (y = (ty_T (u 24 x), v) ∧ ¬ fit = 0 ∧ CLRq nn X e c st x t n (j : Int) (if v 182 j = 2 then 184 else 182) (if v 182 j = 2 then (n : Int) else (n : Int) + 1) u uF))) := fun l9 nok => by
    unfold qj_X10_readCall_223
    refine c_wf TB29 f29 kc hat (fun g S => ?_) (fun uF y => pc_imp (RB nok) (fun y' w => .inl ⟨by omega, by rw [w.1, y.1], by rw [w.2, y.2]⟩))
    exact pc_if (fun _ => fs_qj_X10_readCall_245 G S) (fun _ => fs_qj_X10_readCall_245 G S)
  -- a right one
  have P1 : ∀ l9 op kp : Int, (¬ fit = 0 ∧ rt = 1 ∧ (n : Int) = v 189 j) → op = (if v 182 j = 2 then 184 else 182) → kp = (if v 182 j = 2 then (n : Int) else (n : Int) + 1) → ((l9 = 0 ∧ v 182 j = 1) ∨ (l9 = 1 ∧ v 182 j = 2)) → Pc (qj_X10_readCall_245 nn rc c (x : Int) at_ st (n : Int) l9 op h29) (fun uF => Pc (qj_X13_called_110 nn rc2 e (j : Int) (if fit = 0 then 0 else rt) (n : Int) v) (fun y => SFj uF y.2 ∨ (y = (3, v) ∧ u 24 x = 303 ∧ uF 2 11 = 6 ∧ uF 2 12 = bP X tk ∧ ¬ (bK X (t + 1) = 46 ∧ st = u 49 18)) ∨ (y = (ty_T (u 24 x), v) ∧ ¬ fit = 0 ∧ CLRq nn X e c st x t n (j : Int) (if v 182 j = 2 then 184 else 182) (if v 182 j = 2 then (n : Int) else (n : Int) + 1) u uF))) := fun l9 op kp ok hop hkp h9 => by
    rw [← hop, ← hkp]
    have inop : in_R op := by rw [hop]; unfold in_R; split <;> omega
    have m6 := MF.2.2.1
    have k0 : 0 ≤ kp ∧ kp ≤ 1000 := by rw [hkp]; split <;> omega
    have REF := RG ok
    unfold qj_X10_readCall_245
    refine pc_sv (P := fun k => qf_X6_methodOf nn c (x : Int) h29 = some k ∧ ∀ cc y : Nat, ¬ (cc = 45 ∧ (y = 4 ∨ y = 5)) → ¬ cc = 46 → ¬ cc = 47 → k.2 cc y = h29 cc y) (fun k ek => ⟨ek, c_mof k ek⟩) ?_; intro u10' ⟨e10, U10⟩
    have b1 := U10 34 1 (by omega) (by omega) (by omega)
    have b3 := U10 34 3 (by omega) (by omega) (by omega)
    refine pc_sv (c_op2 (by omega)) ?_; intro u12 ⟨g1, A1, A2⟩
    have d1 : u12 34 1 = u 34 1 + 2 := by rw [A2.1, A1.1]; omega
    have d3 : u12 34 3 = u 34 3 := by rw [A2.2.2 34 3 (by omega) (by omega), A1.2.2 34 3 (by omega) (by omega)]; omega
    have U12 : ∀ cc y : Nat, ¬ (cc = 34 ∧ y = 1) → ¬ cc = 35 → ¬ (cc = 45 ∧ (y = 4 ∨ y = 5)) → ¬ (cc = 46 ∨ cc = 47) → u12 cc y = h29 cc y := fun cc y z1 z2 z3 z4 => by rw [A2.2.2 cc y z1 (by omega), A1.2.2 cc y z1 (by omega)]; exact U10 cc y z3 (by omega) (by omega)
    have P275 : Pc (qj_X10_readCall_275 nn rc (x : Int) at_ st kp u12) (fun uF => Pc (qj_X13_called_110 nn rc2 e (j : Int) (if fit = 0 then 0 else rt) (n : Int) v) (fun y => SFj uF y.2 ∨ (y = (3, v) ∧ u 24 x = 303 ∧ uF 2 11 = 6 ∧ uF 2 12 = bP X tk ∧ ¬ (bK X (t + 1) = 46 ∧ st = u 49 18)) ∨ (y = (ty_T (u 24 x), v) ∧ ¬ fit = 0 ∧ CLRq nn X e c st x t n (j : Int) op kp u uF))) := by
      unfold qj_X10_readCall_275
      refine pc_sv (c_pop k0 (by omega)) ?_; intro u2 A3
      have c2 : 0 ≤ u2 34 3 ∧ u2 34 3 ≤ u 34 3 ∧ (kp ≤ u 34 3 → u2 34 3 = u 34 3 - kp) := by rw [A3.1, d3]; split <;> omega
      have U2 : ∀ cc y : Nat, ¬ (cc = 34 ∧ (y = 1 ∨ y = 3)) → ¬ cc = 35 → ¬ (cc = 45 ∧ (y = 4 ∨ y = 5)) → ¬ (cc = 46 ∨ cc = 47) → u2 cc y = h29 cc y := fun cc y z1 z2 z3 z4 => by rw [A3.2 cc y (by omega)]; exact U12 cc y (by omega) z2 z3 z4
      have MF2 : MTf X u2 v x j := mtf_k MF29 (fun cc y z => U2 cc y (by omega) (by omega) (by omega) (by omega)) (fun _ _ _ => rfl)
      refine pc_sv (c_resO MF2) ?_; intro u5 q5
      have e24 : u2 24 x = u 24 x := by rw [U2 24 x (by omega) (by omega) (by omega) (by omega)]; exact E 24 x (by omega)
      rw [e24] at q5
      rw [q5]
      have TB2 : TBc (bK X) (bP X) (bc X) u2 := tbc_k TB29 (fun cc y z => U2 cc y (by omega) (by omega) (by omega) (by omega))
      have p2 : u2 2 10 = ((t + 1 : Nat) : Int) := by rw [U2 2 10 (by omega) (by omega) (by omega) (by omega), e29, up_s]
      have f2 : u2 2 11 = 0 := by rw [U2 2 11 (by omega) (by omega) (by omega) (by omega)]; exact f29
      have a18 : u2 49 18 = u 49 18 := by rw [U2 49 18 (by omega) (by omega) (by omega) (by omega)]; exact E 49 18 (by omega)
      have l2 : u2 34 1 = u 34 1 + 2 := by rw [A3.2 34 1 (by omega)]; exact d1
      -- the making up to turn
      have MK1 : ∀ (rc : tq_X13_work) (PB : Nat → Prop) (WL : Int → Int → Prop) (L : List (Int × Int)) (w : ms_M) (QQ : ms_M → Prop), MKx X PB WL L u w → w 175 e.toNat = (j : Int) → w 174 e.toNat = ty_T (u 24 x) → (∀ w4 : ms_M, MKx X PB WL L u12 w4 → w4 160 88 = w 160 88 → Pc (mx_sv (qf_X13_turn nn kp (ty_T (u 24 x)) w4) fun u12 => some u12) QQ) → Pc (qj_X13_workCall_65 nn rc e c kp op w) QQ := fun rc PB WL L w QQ M w5 w4' HK => by
        have M29 : MKx X PB WL L h29 w := mkx_c M (fun cc y z1 z2 z3 => E cc y (by omega))
        obtain ⟨-, -, ⟨m1, m2, m3, m4⟩, -⟩ := mk_t M29
        unfold qj_X13_workCall_65
        refine pc_sv (r_put (by omega)) ?_; intro w1 b1'
        obtain ⟨p1, p2', p3, p4⟩ := mk_plp M29 b1'
        refine pc_rA ?_; intro _ _ v4 e4
        rw [b1'.2.2 175 _ (by omega) (by omega), w5] at e4
        rw [e4]
        refine pc_sv (j_methC Y p4 TB29 B29.1.1.1.2.1 p3 p1 p2' MB hc u10' e10) ?_; intro w3 ⟨PC, SP⟩
        refine pc_sv (r_put (by rw [PC.2.2.2.2.1 160 68 (by omega) (by omega), b1'.1]; omega)) ?_; intro w4 b2
        have M1 : MKx X PB WL L u12 w4 := mk_opc M29 b1' PC SP A1 A2 b2 inop
        refine pc_rA ?_; intro _ _ v10 e10'
        rw [b2.2.2 174 _ (by omega) (by omega), PC.2.2.2.2.1 174 _ (by omega) (by omega), b1'.2.2 174 _ (by omega) (by omega), w4'] at e10'
        rw [e10']
        exact HK w4 M1 (by rw [b2.2.2 160 88 (by omega) (by omega), PC.2.2.2.2.1 160 88 (by omega) (by omega), b1'.2.2 160 88 (by omega) (by omega)])
      refine pc_sv (P := fun uF => Pc (qj_X13_called_110 nn rc2 e (j : Int) (if fit = 0 then 0 else rt) (n : Int) v) (fun y => SFj uF y.2 ∨ (y = (3, v) ∧ u 24 x = 303 ∧ uF 2 11 = 6 ∧ uF 2 12 = bP X tk ∧ ¬ (bK X (t + 1) = 46 ∧ st = u 49 18)) ∨ (y = (ty_T (u 24 x), v) ∧ ¬ fit = 0 ∧ CLRq nn X e c st x t n (j : Int) op kp u uF))) ?_ (fun u7 h7 => pc_ret h7)
      unfold qf_X10_closeCall
      by_cases v3 : u 24 x = 303
      · rw [if_pos v3]
        have t3 : ty_T (u 24 x) = 3 := by rw [v3]; rfl
        have P35 : ¬ (bK X (t + 1) = 46 ∧ st = u 49 18) → Pc (qj_X10_closeCall_35 nn (u 24 x) at_ u2) (fun uF => Pc (qj_X13_called_110 nn rc2 e (j : Int) (if fit = 0 then 0 else rt) (n : Int) v) (fun y => SFj uF y.2 ∨ (y = (3, v) ∧ u 24 x = 303 ∧ uF 2 11 = 6 ∧ uF 2 12 = bP X tk ∧ ¬ (bK X (t + 1) = 46 ∧ st = u 49 18)) ∨ (y = (ty_T (u 24 x), v) ∧ ¬ fit = 0 ∧ CLRq nn X e c st x t n (j : Int) op kp u uF))) := fun NP => by
          unfold qj_X10_closeCall_35 qj_X10_closeCall_45
          refine pc_sv (c_tell TB2 f2 kc hat) ?_; intro u5' ⟨s1, s2⟩
          refine pc_xl ?_; intro h1 e1
          refine pc_xl ?_; intro h2 e2
          refine pc_ret (pc_imp REF (fun y ey => .inr (.inl ⟨by rw [ey, t3], v3, ?_, ?_, NP⟩)))
          · rw [e2, up_n (by omega), e1, up_n (by omega)]; exact s1.1
          · rw [e2, up_n (by omega), e1, up_n (by omega)]; exact s1.2
        refine pc_if (fun y => P35 (fun w => y (by rw [a18]; exact w.2))) (fun z => ?_)
        refine pc_sv (c_kind Y.1 TB2 t1c p2 f2) ?_; intro u9 q9
        refine pc_if (fun z2 => ?_) (fun y => P35 (fun w => y (by omega)))
        unfold qj_X10_closeCall_45
        refine pc_xl ?_; intro h1 e1
        refine pc_xl ?_; intro h2 e2
        refine pc_ret (pc_imp REF (fun y ey => .inr (.inr ⟨ey, ok.1, ?_⟩)))
        have E2 : ∀ cc y : Nat, ¬ (cc = 49 ∧ (y = 11 ∨ y = 12)) → h2 cc y = u2 cc y := fun cc y z => by rw [e2, up_n (by omega), e1, up_n (by omega)]
        have t12 : h2 49 12 = u 24 x := by rw [e2, up_n (by omega), e1, up_s]
        refine ⟨⟨by rw [E2 2 10 (by omega)]; exact p2, by rw [E2 2 11 (by omega)]; exact f2, by rw [e2, up_s], t12, fun _ => ⟨by omega, by rw [← a18]; exact Classical.byContradiction z⟩⟩, fun cc y z1 z2 z3 z4 z5 z6 => by rw [E2 cc y z6, U2 cc y (by omega) (by omega) z4 z5]; exact E cc y z1, ⟨by rw [E2 34 1 (by omega)]; exact l2, by rw [E2 34 3 (by omega)]; omega, by rw [E2 34 3 (by omega)]; omega⟩, fun kk => by rw [E2 34 3 (by omega), c2.2.2 kk, if_pos v3]; omega, .inl (t12.trans v3), fun kk rc PB WL L w M w5 w4 => MK1 rc PB WL L w _ M w5 w4 (fun w4 M4 l4 => ?_)⟩
        rw [t3]
        refine pc_sv (m_turn0 M4 A3 (by omega) (by omega)) ?_; intro w6 ⟨M6, l6⟩
        exact pc_ret ⟨mkx_c M6 (fun cc y z1 z2 z3 => E2 cc y (by omega)), by rw [l6]; exact l4⟩
      · rw [if_neg v3]
        refine pc_sv (c_give (by omega)) ?_; intro u13 ⟨g2, A4, e13⟩
        unfold qj_X10_closeCall_45
        refine pc_xl ?_; intro h1 e1
        refine pc_xl ?_; intro h2 e2
        refine pc_ret (pc_imp REF (fun y ey => .inr (.inr ⟨ey, ok.1, ?_⟩)))
        have E13 : ∀ cc y : Nat, ¬ (cc = 49 ∧ (y = 11 ∨ y = 12)) → h2 cc y = u13 cc y := fun cc y z => by rw [e2, up_n (by omega), e1, up_n (by omega)]
        have E2 : ∀ cc y : Nat, ¬ (cc = 49 ∧ (y = 11 ∨ y = 12)) → h2 cc y = g2 cc y := fun cc y z => by rw [E13 cc y z, e13, up_n (by omega), up_n (by omega)]
        have EG : ∀ cc y : Nat, ¬ (cc = 49 ∧ (y = 11 ∨ y = 12)) → ¬ (cc = 34 ∧ (y = 3 ∨ y = 4)) → ¬ cc = 36 → h2 cc y = u2 cc y := fun cc y z1 z2 z3 => by rw [E2 cc y z1]; exact A4.2.2.2 cc y z2 (by omega)
        have t12 : h2 49 12 = u 24 x := by rw [e2, up_n (by omega), e1, up_s]
        have s3 : h2 34 3 = u2 34 3 + 1 := by rw [E2 34 3 (by omega)]; exact A4.1
        have tn : ¬ ty_T (u 24 x) = 3 := fun z => v3 ((ty_3 (X := X) n8 MF.2.2.2.2.1).mp z)
        refine ⟨⟨by rw [EG 2 10 (by omega) (by omega) (by omega)]; exact p2, by rw [EG 2 11 (by omega) (by omega) (by omega)]; exact f2, by rw [e2, up_s], t12, fun z => absurd z v3⟩, fun cc y z1 z2 z3 z4 z5 z6 => by rw [EG cc y z6 (by omega) (by omega), U2 cc y (by omega) (by omega) z4 z5]; exact E cc y z1, ⟨by rw [EG 34 1 (by omega) (by omega) (by omega)]; exact l2, by omega, by omega⟩, fun kk => by rw [s3, c2.2.2 kk, if_neg v3], cp_top A4 (by omega) s3 (fun y => E2 36 y (by omega)) t12, fun kk rc PB WL L w M w5 w4 => MK1 rc PB WL L w _ M w5 w4 (fun w4 M4 l4 => ?_)⟩
        refine pc_sv (m_turnG M4 A3 A4 (by omega) (by omega) ⟨rfl, MF.2.2.2.2.1, v3⟩ tn rfl) ?_; intro w6 ⟨M6, l6⟩
        exact pc_ret ⟨mkx_c M6 (fun cc y z1 z2 z3 => by rw [E2 cc y (by omega), up_n (by omega), up_n (by omega)]), by rw [l6]; exact l4⟩
    rcases h9 with ⟨z1, z2⟩ | ⟨z1, z2⟩
    · rw [if_pos z1]
      refine pc_add (by omega) ?_; intro v14 e14
      rw [show v14 = kp by rw [hkp, if_neg (by omega)]; omega]
      exact P275
    · rw [if_neg (by omega), show (n : Int) = kp by rw [hkp, if_pos z2]]
      rw [show kp = (n : Int) by rw [hkp, if_pos z2]] at P275 ⊢
      exact P275
  have P192 : ∀ l9 s0 : Int, ((l9 = 0 ∧ v 182 j = 1) ∨ (l9 = 1 ∧ v 182 j = 2)) → (fit = 0 ↔ ¬ s0 = 0) → Pc (qj_X10_readCall_192 nn rc c (x : Int) at_ st (n : Int) rt l9 s0 h29) (fun uF => Pc (qj_X13_called_110 nn rc2 e (j : Int) (if fit = 0 then 0 else rt) (n : Int) v) (fun y => SFj uF y.2 ∨ (y = (3, v) ∧ u 24 x = 303 ∧ uF 2 11 = 6 ∧ uF 2 12 = bP X tk ∧ ¬ (bK X (t + 1) = 46 ∧ st = u 49 18)) ∨ (y = (ty_T (u 24 x), v) ∧ ¬ fit = 0 ∧ CLRq nn X e c st x t n (j : Int) (if v 182 j = 2 then 184 else 182) (if v 182 j = 2 then (n : Int) else (n : Int) + 1) u uF))) := fun l9 s0 h9 hs => by
    unfold qj_X10_readCall_192 qj_X10_readCall_222
    refine pc_if (fun z => P0 l9 (fun y => by omega)) (fun z1 => ?_)
    refine pc_if (fun z => P0 l9 (fun y => y.1 (hs.mpr z))) (fun z2 => ?_)
    refine pc_sv (c_parN MF29) ?_; intro u22 q22
    refine pc_if (fun z => P0 l9 (fun y => z (by omega))) (fun z3 => ?_)
    have ok : ¬ fit = 0 ∧ rt = 1 ∧ (n : Int) = v 189 j := ⟨fun y => z2 (hs.mp y), by omega, by omega⟩
    unfold qj_X10_readCall_223
    refine pc_sv c_want1 ?_; intro u17 e17
    rw [e17]
    refine pc_if (fun z => P1 l9 182 _ ok ?_ rfl h9) (fun z => P1 l9 184 _ ok ?_ rfl h9)
    · rw [if_neg (by omega)]
    · rw [if_pos (by omega)]
  refine pc_sv (c_fixd MF29) ?_; intro u34 q34
  refine pc_if (fun z => ?_) (fun z => ?_)
  · refine pc_if (fun z2 => P192 u34 0 (.inl ⟨z, by omega⟩) ?_) (fun z2 => P192 u34 1 (.inl ⟨z, by omega⟩) ?_)
    · rw [way]; omega
    · rw [way]; omega
  · refine pc_if (fun z2 => P192 u34 0 (.inr ⟨by omega, by omega⟩) ?_) (fun z2 => P192 u34 1 (.inr ⟨by omega, by omega⟩) ?_)
    · rw [way]; omega
    · rw [way]; omega
end

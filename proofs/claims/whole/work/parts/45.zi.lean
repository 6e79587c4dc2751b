/- E of both sides: what is made anew -/
section
variable {nn : Nat} {X : BCx} {dp i a b e : Int} {p q p1 q1 : Nat} {h h1 g g1 g2 u u1 r w m : ms_M} {v : Int × ms_M}
/-- the class that a NAME means, in the class's reading -/
theorem c_rnc {t : Nat} {x y : Int} (Y : CXs X) (B : BX X h r) (hf : h 2 11 = 0) (kt : bK X t = 2) (hx : x = (t : Int)) : Pc (qf_X10_readNamedClass nn x y h) (fun u => (CLz (fun k => bV X (bC X k)) (bn X) (bV X t) u.1 ∧ ¬ u.1 = -1 ∧ u.2 = up_M h 2 10 y) ∨ (CLz (fun k => bV X (bC X k)) (bn X) (bV X t) (-1) ∧ u.1 = -1 ∧ u.2 2 11 = 5 ∧ u.2 2 12 = bP X t)) := by
  have TB : TBc (bK X) (bP X) (bc X) h := B.1.1.1.1
  have VL : VLc (bK X) (bV X) (bc X) h := B.1.1.1.2.1
  have NC := B.1.1.2.1
  unfold qf_X10_readNamedClass
  refine pc_sv (c_classAt Y.1 Y.2.1 TB VL NC kt hx) ?_; intro u5 q5
  refine pc_if (fun z => ?_) (fun z => ?_)
  · unfold qj_X10_readNamedClass_23
    refine pc_xl ?_; intro h2 e2
    exact pc_ret (.inl ⟨q5, z, e2⟩)
  · have z' : u5 = -1 := Classical.byContradiction z
    rw [z'] at q5
    refine pc_sv (c_tell TB hf (tb_lt Y.1 (by omega)) hx) ?_; intro u8 ⟨⟨t1, t2⟩, _⟩
    unfold qj_X10_readNamedClass_23
    refine pc_xl ?_; intro h2 e2
    refine pc_ret (.inr ⟨q5, z', ?_, ?_⟩)
    · show h2 2 11 = 5
      rw [e2, up_n (by omega)]; exact t1
    · show h2 2 12 = bP X t
      rw [e2, up_n (by omega)]; exact t2
theorem clz_v {x y : Int} (A : CLz (fun k => bV X (bC X k)) (bn X) x y) (hx : 0 ≤ x) (n : ¬ y = -1) : 0 ≤ y ∧ y < 8 + (bn X : Int) := by
  have := cls_b A hx
  omega
theorem j_classC (Y : CXs X) (H : TXE (bK X) (bV X) (bC X) (bW X) (bn X) (bA X) (bB X) h m) (S : SPL m []) (R : PLR h m) (MB : MBd m) {t : Int} (vt : (0 ≤ t ∧ t < 8 + (bn X : Int)) ∨ (100 ≤ t ∧ t < 108 + (bn X : Int)) ∨ t = 200) : Pc (qf_X6_classOf nn t h) (fun u => Pc (qf_X13_classConstant nn (ty_T t) m) (fun w => PCo h m u w ∧ SPL w.2 [])) := j_class3 Y.2.2.1 H.1.1 H.1.2.1 H.1.2.2 H.2.2.2.2.1 S R MB vt
theorem c_clf {t : Int} : Pc (qf_X6_classOf nn t h) (fun u => ∀ cc y : Nat, ¬ (cc = 45 ∧ (y = 4 ∨ y = 5)) → ¬ cc = 46 → ¬ cc = 47 → u.2 cc y = h cc y) := fun u eu cc y z1 z2 z3 => ff_X6_classOf nn u eu cc y (nw_of (by unfold wl_X6_classOf; simp only [List.mem_cons, List.not_mem_nil, or_false]; omega) (by unfold wf_X6_classOf; simp only [List.mem_cons, List.not_mem_nil, or_false, Prod.mk.injEq]; omega))
/-- a byte, then the index of a CLASS -/
theorem m_opC {c o : Int} {k : Int × ms_M} {PB : Nat → Prop} {WL : Int → Int → Prop} {L : List (Int × Int)} {Kf : ms_M → Option ms_M} {Q : ms_M → Prop} (Y : CXs X) (M : MKx X PB WL L h m) (bl : h 34 1 ≤ 1000000) (ec : qf_X6_classOf nn c h = some k) (A1 : COp o k.2 g1) (A2 : COp k.1 g1 g2) (vt : (0 ≤ c ∧ c < 8 + (bn X : Int)) ∨ (100 ≤ c ∧ c < 108 + (bn X : Int)) ∨ c = 200) (ho : in_R o) (HK : ∀ w : ms_M, MKx X PB WL L g2 w → w 160 88 = m 160 88 → (∀ cc x : Nat, 174 ≤ cc → cc ≤ 176 → w cc x = m cc x) → Pc (Kf w) Q) {y : Int} (ey : y = ty_T c) : Pc (mx_sv (qf_X13_put nn o m) fun w1 => mx_sv (qf_X13_classConstant nn y w1) fun w2 => mx_sv (qf_X13_put nn w2.1 w2.2) fun w3 => Kf w3) Q := by
  obtain ⟨-, -, ⟨m1, m2, m3, m4⟩, -⟩ := mk_t M
  rw [ey]
  refine pc_sv (r_put (by omega)) ?_; intro w1 b1
  obtain ⟨p1, p2, p3, p4⟩ := mk_plp M b1
  refine pc_sv (j_classC Y p4 p3 p1 p2 vt k ec) ?_; intro w2 ⟨PC, SP⟩
  refine pc_sv (r_put (by rw [PC.2.2.2.2.1 160 68 (by omega) (by omega), b1.1]; omega)) ?_; intro w3 b2
  refine HK w3 (mk_opc M b1 PC SP A1 A2 b2 ho) ?_ (fun cc x z1 z2 => ?_)
  · rw [b2.2.2 160 88 (by omega) (by omega), PC.2.2.2.2.1 160 88 (by omega) (by omega), b1.2.2 160 88 (by omega) (by omega)]
  · rw [b2.2.2 cc x (by omega) (by omega), PC.2.2.2.2.1 cc x (by omega) (by omega), b1.2.2 cc x (by omega) (by omega)]
/-- new K() -/
theorem p_made (Y : CXs X) (Q : EPr X dp p h r) (b57 : 0 ≤ r 160 57 ∧ r 160 57 ≤ 10000) (ne : 0 ≤ a ∧ a ≤ e ∧ e < b) (nd : bT X 167 e.toNat = 27 ∧ bT X 168 e.toNat = ((p + 1 : Nat) : Int)) (kk : bK X p = 21 ∧ bK X (p + 1) = 2 ∧ bK X (p + 2) = 40 ∧ bK X (p + 3) = 41) (d d2 : Nat) : Pc (qo_X10_readNew nn (qg_X10_readValue nn d) dp h) (fun u => Pc ((qg_X13_condition nn d2).2.2.1 e r) (fun v => (SFj u v.2 ∨ VDj X 0 a b p (p + 4) e h r u v) ∨ POk nn X 0 a b p (p + 4) e h r u v)) := by
  have Q0 := Q
  obtain ⟨B, ⟨q1, q2, q3, q4⟩, ⟨f1, f2, f3⟩, o1⟩ := Q0
  have T : ∀ cc : Nat, 163 ≤ cc ∧ cc ≤ 173 → r cc e.toNat = bT X cc e.toNat := fun cc z => B.2.2.2.2.2.1 cc e.toNat (by omega)
  have BK := Y.1
  have n8 := Y.2.2.1
  have c3 := BK.2.1
  have H := B.1
  have TB : TBc (bK X) (bP X) (bc X) h := H.1.1.1
  have TQ : TBq (bK X) (bP X) (bc X) r := H.1.2.2.1
  obtain ⟨k0, k1, k2, k3⟩ := kk
  have p3 : p + 3 < bc X := tb_lt BK (by omega)
  have p4 : p + 4 < bc X := jp_lt BK p3 (by omega)
  have v0 := (H.1.2.2.2.1.1 (p + 1) (by omega) k1).1.1
  have nl : ¬ bT X 167 e.toNat = 30 ∧ ¬ bT X 167 e.toNat = 31 ∧ ¬ bT X 167 e.toNat = 32 ∧ ¬ bT X 167 e.toNat = 37 ∧ ¬ bT X 167 e.toNat = 38 := by omega
  -- the reference
  have RULE : ∀ (RES : Int × ms_M → Prop), (∀ u139 : Int, CLz (fun k => bV X (bC X k)) (bn X) (bV X (p + 1)) u139 → Pc (if ¬ u139 = (-1) then (qj_X13_rule_256 nn (qg_X13_condition nn 0) u139 r) else (rd_A 9000 168 e r fun v141 => mx_sv (qf_X13_wrong nn 5 v141 r) fun u143 => qj_X13_rule_256 nn (qg_X13_condition nn 0) u139 u143)) (fun u => ∀ z : ms_M, z = up_M u.2 174 e.toNat u.1 → (z 160 9 = 0 → RES (u.1, z)) ∧ (¬ z 160 9 = 0 → RES (0, z)))) → Pc ((qg_X13_condition nn d2).2.2.1 e r) RES := fun RES HN => by
    refine w_one b57 q4 (r_nled (by rw [T 167 (by omega)]; exact nl)) (fun d => ?_) d2
    unfold qo_X13_rule
    refine pc_rA ?_; intro _ _ v83 e83
    rw [T 167 (by omega), nd.1] at e83
    rw [e83]
    refine pc_if (fun z => absurd z (by decide)) (fun _ => ?_)
    refine pc_if (fun z => absurd z (by decide)) (fun _ => ?_)
    refine pc_if (fun z => absurd z (by decide)) (fun _ => ?_)
    refine pc_if (fun z => absurd z (by decide)) (fun _ => ?_)
    refine pc_if (fun z => absurd z (by decide)) (fun _ => ?_)
    refine pc_if (fun z => absurd z (by decide)) (fun _ => ?_)
    refine pc_if (fun z => absurd z (by decide)) (fun _ => ?_)
    refine pc_if (fun _ => ?_) (fun z => absurd rfl z)
    refine pc_rA ?_; intro _ _ v137 e137
    rw [T 168 (by omega), nd.2] at e137
    refine pc_sv (r_classOf BK Y.2.1 H.1.2.2 k1 e137) ?_; intro u139 q139
    exact HN u139 q139
  unfold qo_X10_readNew
  rw [q1]
  refine pc_add (by omega) ?_; intro v54 e54
  refine pc_sv (c_kindAt BK TB (t := p + 1) (by omega)) ?_; intro u57 q57
  refine pc_if (fun _ => ?_) (fun z => absurd (show ¬ u57 = 20 by omega) z)
  unfold qj_X10_readNew_28
  refine pc_if (fun _ => ?_) (fun z => absurd rfl z)
  refine pc_sv (c_rnc Y B q3 k1 (x := v54) (y := v54) (by omega)) ?_; intro u50 q50
  rcases q50 with ⟨cl, cn, eu⟩ | ⟨cl, cn, t1, t2⟩
  · have cb := clz_v cl v0 cn
    unfold qj_X10_readNew_43
    refine pc_if (fun _ => ?_) (fun z => absurd cn z)
    refine pc_add (by omega) ?_; intro v22 e22
    rw [eu]
    have TB2 : TBc (bK X) (bP X) (bc X) (up_M h 2 10 v54) := tbc_k TB (fun cc y z => up_n (by omega))
    refine pc_sv (c_kindAt BK TB2 (t := p + 2) (by omega)) ?_; intro u24 q24
    refine pc_if (fun z => absurd (show u24 = 40 by omega) z) (fun _ => ?_)
    refine pc_add (by omega) ?_; intro v37 e37
    refine pc_xl ?_; intro h38 e38
    have E38 : ∀ cc x : Nat, ¬ (cc = 2 ∧ x = 10) → h38 cc x = h cc x := fun cc x z => by rw [e38, up_n z, up_n z]
    refine pc_sv (pc_and c_clf (fun u eu => eu)) ?_; intro u42 ⟨G42, e42⟩
    refine pc_sv (c_op2 (by rw [G42 34 1 (by omega) (by omega) (by omega), E38 34 1 (by omega)]; omega)) ?_; intro u44 ⟨g1, A1, A2⟩
    have G44 : ∀ cc x : Nat, ¬ (cc = 34 ∧ x = 1) → ¬ cc = 35 → ¬ (cc = 45 ∧ (x = 4 ∨ x = 5)) → ¬ (cc = 46 ∨ cc = 47) → u44 cc x = h38 cc x := fun cc x z1 z2 z3 z4 => by rw [A2.2.2 cc x (by omega) (by omega), A1.2.2 cc x (by omega) (by omega)]; exact G42 cc x z3 (by omega) (by omega)
    have G45 : ∀ cc x : Nat, ¬ (cc = 34 ∧ x = 1) → ¬ cc = 35 → ¬ (cc = 45 ∧ (x = 4 ∨ x = 5)) → ¬ (cc = 46 ∨ cc = 47) → ¬ (cc = 2 ∧ x = 10) → u44 cc x = h cc x := fun cc x z1 z2 z3 z4 z5 => by rw [G44 cc x z1 z2 z3 z4]; exact E38 cc x z5
    have l44 : u44 34 1 = h 34 1 + 2 := by rw [A2.1, A1.1, G42 34 1 (by omega) (by omega) (by omega), E38 34 1 (by omega)]; omega
    refine pc_sv (c_give (by rw [G45 34 3 (by omega) (by omega) (by omega) (by omega) (by omega)]; omega)) ?_; intro u46 ⟨g3, CP, eu46⟩
    refine pc_ret (RULE _ (fun u139 cl2 => ?_))
    have ec := cls_d cl2 cl
    rw [ec]
    refine pc_if (fun _ => ?_) (fun z => absurd cn z)
    unfold qj_X13_rule_256
    refine pc_xl ?_; intro v73 e73
    rw [oq_mul_eq (by omega) (by omega) (by omega)] at e73
    refine pc_add (by omega) ?_; intro v74 e74
    have vt : VTn (bn X) u50.1 ∧ ¬ u50.1 = 303 := ⟨by unfold VTn; omega, by omega⟩
    have ty : ty_T u50.1 = v74 := by
      have c := ty_c (vtn_v n8 vt.1)
      omega
    refine pc_ret (fun zz (ez : zz = up_M r 174 e.toNat v74) => ⟨fun _ => .inr ?_, fun y => absurd (by rw [ez, up_n (by omega)]; exact q4) y⟩)
    have u11 : u46 49 11 = 0 := by rw [eu46, up_s]
    have u12 : u46 49 12 = u50.1 := by rw [eu46, up_n (by omega), up_s]
    have u3 : u46 34 3 = h 34 3 + 1 := by rw [eu46, up_n (by omega), up_n (by omega), CP.1, G45 34 3 (by omega) (by omega) (by omega) (by omega) (by omega)]
    refine pok_give (t := u50.1) (g := u44) (v := r) Q ⟨p4, by omega⟩ ne ?_ ?_ ?_ ?_ ?_ ?_ ?_ CP eu46 vt rfe_r q4 (by rw [ez, ty]) ?_
    · exact fun cc x a1 a2 a3 a4 a5 a6 a7 a8 => G45 cc x (by omega) (by omega) (by omega) (by omega) (by omega)
    · exact ⟨G45 49 10 (by omega) (by omega) (by omega) (by omega) (by omega), fun cc x z1 z2 z3 => G45 cc x (by omega) (by omega) (by omega) (by omega) (by omega)⟩
    · rw [G44 2 10 (by omega) (by omega) (by omega) (by omega), e38, up_s]; omega
    · rw [G45 2 11 (by omega) (by omega) (by omega) (by omega) (by omega)]; exact q3
    · exact frc_k f1 (fun cc x z => G45 cc x (by omega) (by omega) (by omega) (by omega) (by omega))
    · omega
    · rw [G45 34 3 (by omega) (by omega) (by omega) (by omega) (by omega)]; omega
    · refine ⟨.inr ⟨u11, by omega, by rw [u12]; exact vt.2⟩, fun _ => .inl ⟨by omega, by omega, fun z => absurd z nl.1⟩, fun _ => ⟨⟨by rw [u12, if_neg vt.2]; exact u3, top_g CP (by rw [G45 34 3 (by omega) (by omega) (by omega) (by omega) (by omega)]; omega) eu46⟩, ?_⟩⟩
      refine mkc_leaf nl ne (fun PB WL L m d M A => ?_) (by omega)
      have MT := (mk_t M).1
      have a4 : m 174 e.toNat = ty_T u50.1 := by rw [A 174 e.toNat (by omega) (by omega) (by omega) (by omega), up_s]
      have M1 : MKx X PB WL L h38 m := mkx_c M (fun cc x z1 z2 z3 => E38 cc x (by omega))
      unfold qo_X13_workOne
      refine pc_rA ?_; intro _ _ v59 e59
      rw [a4] at e59
      refine pc_rA ?_; intro _ _ v61 e61
      rw [MT 167 e.toNat (by omega), nd.1] at e61
      rw [e61]
      refine pc_if (fun z => absurd z (by decide)) (fun _ => ?_)
      refine pc_if (fun z => absurd z (by decide)) (fun _ => ?_)
      refine pc_if (fun z => absurd z (by decide)) (fun _ => ?_)
      refine pc_if (fun z => absurd z (by decide)) (fun _ => ?_)
      refine pc_if (fun z => absurd z (by decide)) (fun _ => ?_)
      refine pc_if (fun z => absurd z (by decide)) (fun _ => ?_)
      refine pc_if (fun z => absurd z (by decide)) (fun _ => ?_)
      refine pc_if (fun _ => ?_) (fun z => absurd rfl z)
      refine m_opC Y M1 (by rw [E38 34 1 (by omega)]; omega) e42 A1 A2 (.inl cb) (by unfold in_R; omega) (fun w Mw lw _ => ?_) e59
      refine pc_sv r_push ?_; intro u134 b3
      exact pc_ret ⟨mkx_give Mw CP b3 ⟨e59, vt⟩ eu46, by rw [b3.2.2.2.2 160 88 (by omega) (by omega)]; exact lw⟩
  · unfold qj_X10_readNew_43
    refine pc_if (fun z => absurd cn z) (fun _ => ?_)
    refine pc_ret (RULE _ (fun u139 cl2 => ?_))
    have ec := cls_d cl2 cl
    refine pc_if (fun z => absurd ec z) (fun _ => ?_)
    refine pc_rA ?_; intro _ _ v141 e141
    rw [T 168 (by omega), nd.2] at e141
    refine pc_sv (r_wrong TQ (p := p + 1) (by omega) q4 e141) ?_; intro u143 ⟨w1, w2⟩
    refine pc_imp (ft_qj_X13_rule_256 (ftg_X13_condition nn 0) (by omega)) (fun y F => fun zz ez => ?_)
    have y9 : zz 160 9 = 5 := by rw [ez, up_n (by omega), F.1]; exact w1
    have y10 : zz 160 10 = bP X (p + 1) := by rw [ez, up_n (by omega), F.2]; exact w2
    refine ⟨fun y => absurd y (by omega), fun _ => .inl (.inl ⟨by omega, ?_, ?_⟩)⟩
    · show zz 160 9 = u50.2 2 11
      rw [y9, t1]
    · show zz 160 10 = u50.2 2 12
      rw [y10, t2]
end

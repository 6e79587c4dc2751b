/- E of both sides: a sign with two sides: the core -/
section
variable {nn : Nat} {X : BCx} {dp i l a b e s k : Int} {p q t : Nat} {h g u r w m : ms_M} {v : Int × ms_M}
theorem clp_i {rc : tq_X10_readValue} {kq st bs tn c : Int} {Z Z2 : ms_M → Prop} (C : CLP nn rc kq dp st bs tn c u Z) (H : ∀ uF, Z uF → Z2 uF) : CLP nn rc kq dp st bs tn c u Z2 := ⟨fun z f k => pc_imp (C.1 z f k) H, fun z f => pc_imp (C.2 z f) H⟩
theorem st_9 : st_T k ≤ 9 := by
  by_cases z : 0 ≤ st_T k
  · have D : k = 19 ∨ k = 52 ∨ k = 53 ∨ k = 54 ∨ k = 55 ∨ k = 56 ∨ k = 57 ∨ k = 58 ∨ k = 59 ∨ k = 60 ∨ k = 61 ∨ k = 62 ∨ k = 63 ∨ k = 64 ∨ k = 65 ∨ k = 66 ∨ k = 67 ∨ k = 68 ∨ k = 69 ∨ k = 70 := by have := st_dis z; omega
    rcases D with rfl | rfl | rfl | rfl | rfl | rfl | rfl | rfl | rfl | rfl | rfl | rfl | rfl | rfl | rfl | rfl | rfl | rfl | rfl | rfl <;> decide
  · omega
/-- left side void -/
theorem r_bothV {d : Nat} {tk t1 : Nat} (TQ : TBq (bK X) (bP X) (bc X) r) (T8 : ∀ cc x : Nat, 163 ≤ cc ∧ cc ≤ 173 → r cc x = bT X cc x) (hf : r 160 9 = 0) (g3 : r 174 (bT X 170 e.toNat).toNat = 3) (e3 : bT X 168 (bT X 170 e.toNat).toNat = (t1 : Int)) (ht : t1 < bc X) : Pc (qo_X13_both nn (qg_X13_condition nn d) e r) (fun y => y.2 160 9 = 6 ∧ y.2 160 10 = bP X t1) := by
  have G := ftg_X13_condition nn d
  have LED : Pc (qf_X13_led nn e r) (fun u => u.1 = 3 ∧ u.2 160 9 = 6 ∧ u.2 160 10 = bP X t1) := r_led3 TQ hf (T8 170 _ (by omega)) g3 (by rw [T8 168 _ (by omega)]; exact e3) ht
  have P36 : Pc (qj_X13_both_36 nn (qg_X13_condition nn d) e r) (fun y => y.2 160 9 = 6 ∧ y.2 160 10 = bP X t1) := by
    unfold qj_X13_both_36
    refine pc_sv LED ?_; intro u37 ⟨q1, q2, q3⟩
    refine pc_if (fun z => absurd z (by omega)) (fun _ => ?_)
    refine pc_rA ?_; intro _ _ v40 _
    refine pc_rA ?_; intro _ _ v41 _
    refine pc_sv (ft_qf_X13_wrong (h := u37.2) (by omega)) ?_; intro u43 F
    exact pc_imp (ft_qj_X13_both_62 G (h := u43) (by rw [F.1]; omega)) (fun y F2 => ⟨by rw [F2.1, F.1]; exact q2, by rw [F2.2, F.2]; exact q3⟩)
  unfold qo_X13_both
  refine pc_rA ?_; intro _ _ v47 _
  refine pc_rA ?_; intro _ _ v48 _
  refine pc_sv pc_any ?_; intro u49 _
  refine pc_if (fun _ => P36) (fun _ => ?_)
  refine pc_sv pc_any ?_; intro u50 _
  refine pc_if (fun _ => ?_) (fun _ => P36)
  refine pc_sv LED ?_; intro u52 ⟨q1, q2, q3⟩
  refine pc_rA ?_; intro _ _ v54 _
  refine pc_rA ?_; intro _ _ v56 _
  refine pc_sv (G.2.2.1 (h := u52.2) (by omega)) ?_; intro u58 F1
  refine pc_sv (ft_qf_X13_side (h := u58.2) (by rw [F1.1]; omega)) ?_; intro u60 F2
  refine pc_if (fun z => absurd z (by rw [F2.1, F1.1]; omega)) (fun _ => pc_ret ⟨?_, ?_⟩)
  · exact F2.1.trans (F1.1.trans q2)
  · exact F2.2.trans (F1.2.trans q3)
/-- behind the opened sign: the right side, and the closing -/
theorem sb_core {iy st bs tn : Int} {tke o d d4 kf : Nat} {r2 u18 : ms_M} {Z : ms_M → Int × ms_M → Prop} {ok : Int → Prop} {rt : Int → Int} (Y : CXs X) (hd : dp ≤ 40) (ne : 0 ≤ a ∧ a ≤ e ∧ e < b) (nd : bT X 167 e.toNat = 37) (Q : EPr X dp p h r) (SG : SGn dp l bs h) (sk : 0 ≤ s ∧ s ≤ 9 ∧ l ≤ s) (hs : st_T (bK X q) ≤ l) (b57 : 0 ≤ r2 160 57 ∧ r2 160 57 + (b - a) < 9000 ∧ b ≤ 9000) (Q18 : EPr X dp (t + 1) u18 r2) (RR : RFe a b r r2) (C18 : CFe h u18) (ho : h 49 10 = (o : Int)) (o18 : u18 49 10 = (o : Int) + 1) (S18 : ∀ cc x : Nat, 50 ≤ cc → cc ≤ 54 → x < o → u18 cc x = h cc x) (r50 : st_T (u18 50 o) = s) (L18 : u18 34 1 + 20 * (p : Int) ≤ h 34 1 + 20 * (t : Int) + 4) (H18 : u18 34 3 + (p : Int) ≤ h 34 3 + (t : Int)) (a18 : u18 49 18 = h 49 18) (pt : p < t) (tq : t + 1 < q) (ht : 0 ≤ tn ∧ tn ≤ (t : Int)) (CR : S1 nn X dp iy (s + 1) (e + 1) b (t + 1) q (bT X 171 e.toNat)) (vrt : ∀ x : Int, ok x → VTn (bn X) x → ¬ x = 303 → VTn (bn X) (rt x) ∧ ¬ rt x = 303) (CLOSE : ∀ (u2 : ms_M) (v2 : Int × ms_M), EOk nn X iy (e + 1) b (t + 1) q (bT X 171 e.toNat) u18 r2 u2 v2 → ¬ u2 49 12 = 303 → Pc (qf_X10_closeSign nn u2) (fun u => (ok (u2 49 12) ∧ CSq X (p : Int) (rt (u2 49 12)) u2 u ∧ (¬ bK X q = 51 → FM01 nn X iy (e + 1) b (t + 1) q (bT X 171 e.toNat) u18 u2 v2.2 → ∀ z : ms_M, z = up_M v2.2 174 e.toNat (ty_T (rt (u2 49 12))) → u 34 3 = h 34 3 + 1 ∧ MKC nn X e a b p q h u z)) ∨ (¬ ok (u2 49 12) ∧ u 2 11 = 6 ∧ u 2 12 = bP X tke))) (HC : ∀ (u : ms_M) (v : Int × ms_M) (c tn : Int), EOk nn X 0 a b p q e h r u v → (0 ≤ c ∧ c + u 49 10 ≤ 419) → (0 ≤ tn ∧ tn + 1 ≤ (q : Int)) → CLP nn (qg_X10_readValue nn d) (bK X q) (dp - 1) st bs tn c u (fun uF => Z uF v)) (HF : ∀ (uF : ms_M) (v : Int × ms_M), (SFj uF v.2 ∨ VDj X 0 a b p q e h r uF v) → Z uF v) : Pc (mx_sv ((qg_X10_readValue nn d).2.2.1 dp u18) fun u49 => qw_X10_readValue_30 nn (qg_X10_readValue nn d) kf (dp - 1) st bs (tn + 1) u49) (fun uF => Pc ((qg_X13_condition nn d4).2.2.1 (bT X 171 e.toNat) r2) (fun v2 => ∀ y : Int × ms_M, RB X e ok rt tke v2 y → ∀ z : ms_M, z = up_M y.2 174 e.toNat y.1 → (¬ z 160 9 = 0 → Z uF (0, z)) ∧ (z 160 9 = 0 → Z uF (y.1, z)))) := by
  have G := fsg_X10_readValue nn d
  have c3 := Y.1.2.1
  have n8 := Y.2.2.1
  obtain ⟨B, ⟨q1, q2, q3, q4⟩, ⟨f1, f2, f3⟩, o1⟩ := Q
  -- a FAULT of both
  have FB : ∀ (uF : ms_M) (y : Int × ms_M) (c pl : Int), ¬ c = 0 → uF 2 11 = c → uF 2 12 = pl → y.2 160 9 = c → y.2 160 10 = pl → ∀ z : ms_M, z = up_M y.2 174 e.toNat y.1 → (¬ z 160 9 = 0 → Z uF (0, z)) ∧ (z 160 9 = 0 → Z uF (y.1, z)) := fun uF y c pl c0 a1 a2 a3 a4 z ez => by
    have z9 : z 160 9 = c := by rw [ez, up_n (by omega)]; exact a3
    have z10 : z 160 10 = pl := by rw [ez, up_n (by omega)]; exact a4
    exact ⟨fun _ => HF uF (0, z) (.inl ⟨by omega, by show z 160 9 = _; rw [z9, a1], by show z 160 10 = _; rw [z10, a2]⟩), fun y => absurd (z9.symm.trans y) c0⟩
  have SG18 : SGn dp (s + 1) bs u18 := ⟨by omega, by have := SG.2.1; omega, by have := SG.2.2.1; omega, fun _ => by rw [o18, show (o : Int) + 1 - 1 = (o : Int) by omega, Int.toNat_natCast, r50]; omega⟩
  refine CR (by omega) d d4 kf u18 r2 st bs (tn + 1) (fun uF v2 => ∀ y : Int × ms_M, RB X e ok rt tke v2 y → ∀ z : ms_M, z = up_M y.2 174 e.toNat y.1 → (¬ z 160 9 = 0 → Z uF (0, z)) ∧ (z 160 9 = 0 → Z uF (y.1, z))) Q18 SG18 (by omega) (by omega) (fun u2 v2 c tn2 K2 hc ht2 => ?_) (fun uF v2 S y hy => ?_)
  · obtain ⟨⟨x1, x2, x3, x4, x5⟩, ⟨x6, x7, x8⟩, ⟨x9, x10, x11⟩, ⟨x12, x13, x14⟩, x15⟩ := K2.1
    have n303 : ¬ u2 49 12 = 303 := fun z => by
      have w18 : u2 49 18 = h 49 18 := by rw [x9 49 18 (by omega) (by omega) (by omega) (by omega) (by omega) (by omega) (by omega) (by omega)]; exact a18
      rcases x15 with F | F | F | F
      · rcases F.1 with ⟨-, -, -, y⟩ | ⟨-, -, y⟩
        · have := (y z).2
          omega
        · exact y z
      · exact F.2.1.2.2.2.2 z
      · exact F.1.2.2.2 z
      · exact F.1.2.2.2 z
    have TB2 := pk_b Q18 K2.1
    have o2 : u2 49 10 = (o : Int) + 1 := by rw [x11.1]; exact o18
    have e50 : u2 50 o = u18 50 o := x11.2 50 o (by omega) (by omega) (by omega)
    refine c_due (s := s) Y TB2 x2 x1 x4 (by omega) (by have := SG.2.2.1; omega) (by rw [o2, show (o : Int) + 1 - 1 = (o : Int) by omega, Int.toNat_natCast, e50]; exact r50) (by omega) ?_
    refine pc_imp (CLOSE u2 v2 K2 n303) (fun u hu => ?_)
    rcases hu with ⟨w1, w2, w3⟩ | ⟨w1, w2, w3⟩
    · -- all is well
      generalize hz : up_M v2.2 174 e.toNat (ty_T (rt (u2 49 12))) = z0
      obtain ⟨y1, y2, ⟨y3, y4⟩, ⟨y5, y6, y7, y8⟩, y9⟩ := w2
      obtain ⟨vr1, vr2⟩ := vrt _ w1 x7 n303
      have z9 : z0 160 9 = 0 := by rw [← hz, up_n (by omega)]; exact x5
      have CF : CFe h u := cfe_t C18 (cfe_t x9 (fun cc x z1 z2 z3 z4 z5 z6 z7 z8 => y1 cc x z2 z3 z4 (by omega)))
      have RF : RFe a b r z0 := by
        have R1 : RFe a b r v2.2 := rfe_t RR x10 ⟨Int.le_refl _, Int.le_refl _⟩ ⟨by omega, Int.le_refl _⟩
        exact ⟨fun cc x z1 z2 z3 => by rw [← hz, up_n (by omega)]; exact R1.1 cc x z1 z2 z3, fun cc x z1 z2 z3 => by rw [← hz, up_n (by omega)]; exact R1.2 cc x z1 z2 z3⟩
      have SB : SGb h u := ⟨by omega, fun cc x z1 z2 z3 => by rw [y1 cc x (by omega) (by omega) (by omega) (by omega), x11.2 cc x z1 z2 (by omega)]; exact S18 cc x z1 z2 (by omega)⟩
      have EE : EOk nn X 0 a b p q e h r u (ty_T (rt (u2 49 12)), z0) := by
        refine ⟨⟨⟨by rw [y1 2 10 (by omega) (by omega) (by omega) (by omega)]; exact x1, x2, by omega, by rw [y1 2 11 (by omega) (by omega) (by omega) (by omega)]; exact x4, z9⟩, ⟨by rw [y7], by rw [y7]; exact vr1, by show z0 174 e.toNat = _; rw [← hz, up_s]⟩, ⟨CF, RF, SB⟩, ⟨y2, ⟨by omega, by omega⟩, y4.1, by omega⟩, .inl ⟨.inr ⟨y6, fun z => by have := z.2; omega, by rw [y7]; exact vr2⟩, fun _ => .inl ⟨by omega, by omega, fun z => by omega⟩, fun nq => ?_⟩⟩, y8, fun _ => .inl y6⟩
        have FR : FM01 nn X iy (e + 1) b (t + 1) q (bT X 171 e.toNat) u18 u2 v2.2 := by
          have KF := K2.2.2 nq
          rcases x15 with F | F | F | F
          · exact F
          · exact absurd F.1.1 (by omega)
          · exact absurd F.1.1 (by omega)
          · exact absurd F.1.1 (by omega)
        obtain ⟨j1, j2⟩ := w3 nq FR z0 hz.symm
        exact ⟨⟨by rw [if_neg (by rw [y7]; exact vr2)]; exact j1, y9⟩, j2⟩
      refine clp_i (HC u (ty_T (rt (u2 49 12)), z0) (c + 1) tn2 EE (by omega) ht2) (fun uF HZ y hy z ez => ?_)
      rcases hy.2.2 x5 (u2 49 12) x7 n303 x6 with ⟨-, ey⟩ | ⟨ny, -⟩
      · rw [ey] at ez
        have ezz : z = z0 := by rw [ez, ← hz]
        rw [ezz, ey]
        exact ⟨fun z => absurd z9 z, fun _ => HZ⟩
      · exact absurd w1 ny
    · refine clp_f G (by omega) (fun uF F y hy => ?_)
      rcases hy.2.2 x5 (u2 49 12) x7 n303 x6 with ⟨ny, -⟩ | ⟨-, y1, y2⟩
      · exact absurd ny w1
      · exact FB uF y 6 _ (by omega) (by rw [F.1]; exact w2) (by rw [F.2]; exact w3) y1 y2
  · rcases S with S | S
    · have F := hy.1 (sf_r S)
      exact FB uF y (uF 2 11) (uF 2 12) S.1 rfl rfl (F.1.trans S.2.1) (F.2.trans S.2.2)
    · obtain ⟨⟨s1, s2, s3, s4⟩, ⟨s5, s6, s7⟩, s8⟩ := S
      obtain ⟨y1, y2⟩ := hy.2.1 s6 s5
      exact FB uF y 6 _ (by omega) s1 s2 y1 (y2 ⟨s3, s4.1⟩)
end

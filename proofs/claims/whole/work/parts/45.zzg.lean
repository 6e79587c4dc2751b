/- ?: on both sides: the making -/
section
variable {nn : Nat} {X : BCx} {dp i l a b e s k : Int} {p q t uu : Nat} {h g u r w m : ms_M} {v : ms_M} {PB : Nat → Prop} {WL : Int → Int → Prop} {L : List (Int × Int)}
/-- what work leaves of the nodes and of the row -/
theorem wk_k (d : Nat) {x : Int} (b : 0 ≤ m 160 57 ∧ m 160 57 ≤ 10000) : Pc ((qg_X13_work nn d).1 x m) (fun z => (∀ cc y : Nat, 174 ≤ cc → cc ≤ 176 → z cc y = m cc y) ∧ z 160 57 = m 160 57) := pc_imp (pc_and (wk_an d) ((rkg_work nn d).1 (a1 := x) (h := m) b)) (fun z y => ⟨y.1, y.2.1⟩)
theorem m_choice {d : Nat} {ty y0 : Int} {u1 g1 h21 u24 g3 g4 h38 u41 u46 g5 g6 g7 : ms_M} (ne : 0 ≤ a ∧ a ≤ e ∧ e < b) (yb : e < y0 ∧ y0 ≤ b) (M : MKx X PB WL L h m) (C1 : MKC nn X (bT X 170 e.toNat) a e p t h u1 v) (A1 : CJu 153 1 u1 g1) (E1 : ∀ cc x : Nat, ¬ (cc = 2 ∧ x = 10) → h21 cc x = g1 cc x) (C2 : MKC nn X (bT X 171 e.toNat) (e + 1) y0 (t + 1) uu h21 u24 v) (A2 : CJu 167 1 u24 g3) (A3 : CAH (u1 34 1) g3 g4) (E2 : ∀ cc x : Nat, ¬ (cc = 2 ∧ x = 10) → h38 cc x = g4 cc x) (C3 : MKC nn X (bT X 172 e.toNat) y0 b (uu + 1) q h38 u41 v) (E4 : ∀ cc x : Nat, ¬ cc = 49 → u46 cc x = u41 cc x) (A4 : CPo 1 u46 g5) (A5 : CPu ty g5 g6) (A6 : CAH (u24 34 1) g6 g7) (E3 : ∀ cc x : Nat, ¬ cc = 49 → u cc x = g7 cc x) (nd : bT X 167 e.toNat = 39) (AM : AN a b v m) (g74 : v 174 e.toNat = ty_T ty) (b57 : 0 ≤ m 160 57 ∧ m 160 57 + (b - a) < 9000) (b88 : m 160 88 + 4 * (q : Int) ≤ 2000000000 + 4 * (p : Int)) (pt : p < t ∧ t + 1 < uu ∧ uu + 1 < q ∧ q ≤ 3001) (s1 : u1 34 3 = h 34 3 + 1) (s2 : u24 34 3 = h21 34 3 + 1) (s3 : u41 34 3 = h38 34 3 + 1) (h3 : 0 ≤ h 34 3 ∧ h 34 3 ≤ 2996) (l1 : u1 34 1 ≤ 800000) (l2 : u24 34 1 ≤ 800000) (l3 : u41 34 1 ≤ 800000) (vq : VTn (bn X) ty ∧ ¬ ty = 303) : Pc (qo_X13_workOne nn (qg_X13_work nn d) e m) (fun w => MKx X PB WL L u w ∧ (m 160 88 ≤ w 160 88 ∧ w 160 88 + 4 * (p : Int) ≤ m 160 88 + 4 * (q : Int))) := by
  have MT := (mk_t M).1
  have lb0 := mk_88 M
  refine wo_39 (t := ty_T ty) (by rw [MT 167 _ (by omega)]; exact nd) ((AM 174 e.toNat (by omega) (by omega) (by omega) (by omega)).trans g74) ?_
  refine pc_sv (r_lab (by omega)) ?_; intro u63 q63
  rw [q63]
  dsimp only
  have ML1 : MKx X PB WL L h (up_M m 160 88 (m 160 88 + 1)) := mk_lab M rfl
  generalize hm1 : up_M m 160 88 (m 160 88 + 1) = w1 at *
  have f1 : w1 160 88 = m 160 88 + 1 := by rw [← hm1, up_s]
  have F1 : ∀ cc x : Nat, ¬ (cc = 160 ∧ x = 88) → w1 cc x = m cc x := fun cc x z => by rw [← hm1, up_n z]
  refine pc_sv (r_lab (by omega)) ?_; intro u65 q65
  rw [q65]
  dsimp only
  have ML2 : MKx X PB WL L h (up_M w1 160 88 (w1 160 88 + 1)) := mk_lab ML1 rfl
  generalize hm2 : up_M w1 160 88 (w1 160 88 + 1) = w2 at *
  have f2 : w2 160 88 = m 160 88 + 2 := by rw [← hm2, up_s, f1]; omega
  have F2 : ∀ cc x : Nat, ¬ (cc = 160 ∧ x = 88) → w2 cc x = m cc x := fun cc x z => by rw [← hm2, up_n z]; exact F1 cc x z
  rw [show w1 160 88 + 1 = m 160 88 + 2 by omega]
  refine pc_rA ?_; intro _ _ v67 e67
  rw [F2 170 _ (by omega), MT 170 _ (by omega)] at e67
  rw [e67]
  have w57 : w2 160 57 = m 160 57 := F2 160 57 (by omega)
  have AM2 : AN a b v w2 := an_m AM (fun cc x z1 z2 => F2 cc x (by omega))
  refine pc_sv (pc_and (C1 d PB WL L w2 ML2 (an_s AM2 ⟨Int.le_refl _, by omega⟩ (fun _ _ _ _ _ _ => rfl)) (by omega) (by omega)) (wk_k d (by omega))) ?_; intro u69 ⟨⟨M69, lb1, lb2⟩, AN69, k57⟩
  obtain ⟨-, -, ⟨n1, n2, n3, n4⟩, -⟩ := mk_t M69
  refine pc_sub (by omega) ?_; intro v71 e71
  refine pc_xl ?_; intro h72 e72
  have x68 : h72 160 68 = u69 160 68 := by rw [e72, up_n (by omega)]
  refine pc_sv (r_jump (by omega)) ?_; intro u74 B1
  have MJ : MKx X PB WL (L ++ [(u69 160 68, m 160 88 + 1)]) g1 u74 := mk_jump (m1 := h72) M69 A1 (by omega) (by rw [e72, e71]) B1 (by unfold in_R; omega) (by omega)
  have MJ2 : MKx X PB WL (L ++ [(u69 160 68, m 160 88 + 1)]) h21 u74 := mkx_c MJ (fun cc x z1 z2 z3 => E1 cc x (by omega))
  have B1f := B1.2.2.2.2.2.2
  have G74 : ∀ cc x : Nat, ¬ (cc = 160 ∧ (x = 68 ∨ x = 87 ∨ x = 70)) → ¬ cc = 206 → ¬ (cc = 217 ∨ cc = 218) → u74 cc x = u69 cc x := fun cc x z1 z2 z3 => by rw [B1f cc x (by omega) (by omega) (by omega), e72, up_n (by omega)]
  have t88 := G74 160 88 (by omega) (by omega) (by omega)
  have t57 := G74 160 57 (by omega) (by omega) (by omega)
  have AM4 : AN a b v u74 := an_m AM2 (fun cc x z1 z2 => by rw [G74 cc x (by omega) (by omega) (by omega)]; exact AN69 cc x z1 z2)
  refine pc_rA ?_; intro _ _ v76 e76
  rw [(mk_t MJ2).1 171 _ (by omega)] at e76
  rw [e76]
  refine pc_sv (pc_and (C2 d PB WL _ u74 MJ2 (an_s AM4 ⟨by omega, by omega⟩ (fun _ _ _ _ _ _ => rfl)) (by omega) (by omega)) (wk_k d (by omega))) ?_; intro u78 ⟨⟨M78, lb3, lb4⟩, AN78, k78⟩
  obtain ⟨-, -, ⟨p1, p2, p3, p4⟩, -⟩ := mk_t M78
  have a3 : g1 34 3 = h 34 3 := by rw [A1.2.1]; split <;> omega
  have c3 := E1 34 3 (by omega)
  refine pc_sub (by omega) ?_; intro v80 e80
  refine pc_xl ?_; intro h81 e81
  have y68 : h81 160 68 = u78 160 68 := by rw [e81, up_n (by omega)]
  refine pc_sv (r_jump (by omega)) ?_; intro u83 B2
  have MJ3 : MKx X PB WL (L ++ [(u69 160 68, m 160 88 + 1)] ++ [(u78 160 68, m 160 88 + 2)]) g3 u83 := mk_jump (m1 := h81) M78 A2 (by omega) (by rw [e81, e80]) B2 (by unfold in_R; omega) (by omega)
  have B2f := B2.2.2.2.2.2.2
  have G83 : ∀ cc x : Nat, ¬ (cc = 160 ∧ (x = 68 ∨ x = 87 ∨ x = 70)) → ¬ cc = 206 → ¬ (cc = 217 ∨ cc = 218) → u83 cc x = u78 cc x := fun cc x z1 z2 z3 => by rw [B2f cc x (by omega) (by omega) (by omega), e81, up_n (by omega)]
  have d1 := A2.1
  have d3 : g3 34 3 = h 34 3 := by rw [A2.2.1]; split <;> omega
  have w83 : u83 160 57 = m 160 57 := by rw [G83 160 57 (by omega) (by omega) (by omega), k78, t57, k57]; exact w57
  refine pc_sv (pc_and (mk_aim (A := L) (B := [(u78 160 68, m 160 88 + 2)]) (j := u1 34 1) (f := m 160 88 + 1) MJ3 (by rw [List.append_assoc, n1]; rfl) (mk_nL M (by omega)) (fun z => by
    rcases z with z | z
    · have z2 : m 160 88 + 2 = m 160 88 + 1 := z
      omega
    · exact z) A3 rfl (by omega) (by omega)) (rk_qf_X13_stands (by omega))) ?_; intro u86 ⟨⟨M86, FE86, v86⟩, RK86⟩
  obtain ⟨Fx4, U4⟩ := cah_fr MJ3.1.2.2.1.1.1 A3
  have x43 : g4 34 3 = g3 34 3 := U4 34 3 (by omega) (by omega) (by omega)
  have M86' : MKx X PB WL (L ++ [(u78 160 68, m 160 88 + 2)]) h38 u86 := mkx_c M86 (fun cc x z1 z2 z3 => E2 cc x (by omega))
  have c38 := E2 34 3 (by omega)
  have w86 : u86 160 57 = m 160 57 := by rw [RK86.1]; exact w83
  have l86 : u86 160 88 = u78 160 88 := by rw [v86]; exact G83 160 88 (by omega) (by omega) (by omega)
  have AM6 : AN a b v u86 := an_m AM4 (fun cc x z1 z2 => by rw [FE86.1 cc x (by omega) (by omega) (by omega), G83 cc x (by omega) (by omega) (by omega)]; exact AN78 cc x z1 z2)
  refine pc_rA ?_; intro _ _ v88 e88
  rw [(mk_t M86').1 172 _ (by omega)] at e88
  rw [e88]
  refine pc_sv (C3 d PB WL _ u86 M86' (an_s AM6 ⟨by omega, Int.le_refl _⟩ (fun _ _ _ _ _ _ => rfl)) (by omega) (by omega)) ?_; intro u90 ⟨M90, lb5, lb6⟩
  have M90' : MKx X PB WL (L ++ [(u78 160 68, m 160 88 + 2)]) u46 u90 := mkx_c M90 (fun cc x z1 z2 z3 => E4 cc x z2)
  obtain ⟨-, -, ⟨r1, r2, r3, r4⟩, -⟩ := mk_t M90'
  have z43 := E4 34 3 (by omega)
  have z41 := E4 34 1 (by omega)
  refine pc_sub (by omega) ?_; intro v92 e92
  refine pc_xl ?_; intro h93 e93
  have MP : MKx X PB WL (L ++ [(u78 160 68, m 160 88 + 2)]) g5 h93 := mk_pop M90' A4 (by omega) (by rw [e93, e92])
  refine pc_sv r_push ?_; intro u95 B3
  have MP2 : MKx X PB WL (L ++ [(u78 160 68, m 160 88 + 2)]) g6 u95 := mk_push MP A5 B3 ⟨rfl, vq⟩
  have q51 : g5 34 1 = u41 34 1 := by rw [A4.2 34 1 (by omega)]; exact z41
  have q53 : g5 34 3 = u41 34 3 - 1 := by rw [A4.1]; split <;> omega
  have q61 : g6 34 1 = g5 34 1 := A5.2.2.2 34 1 (by omega) (by omega)
  have q63' : g6 34 3 = g5 34 3 + 1 := A5.1
  have w95 : u95 160 88 = u90 160 88 := by rw [B3.2.2.2.2 160 88 (by omega) (by omega), e93, up_n (by omega)]
  refine pc_sv (mk_aim (A := L) (B := []) (j := u24 34 1) (f := m 160 88 + 2) MP2 (by rw [p1]) (mk_nL M (by omega)) (fun z => z) A6 rfl (by omega) (by omega)) ?_; intro u98 ⟨M98, _, v98⟩
  rw [List.append_nil] at M98
  unfold qj_X13_workOne_775
  exact pc_ret ⟨mkx_c M98 (fun cc x z1 z2 z3 => E3 cc x z2), by rw [v98, w95]; omega⟩
end

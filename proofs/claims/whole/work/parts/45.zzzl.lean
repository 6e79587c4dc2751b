/- S of both sides: if, its condition and its first S -/
section
variable {nn : Nat} {X : BCx} {dp i a b a1 b1 a2 b2 e s bb lb lh d d1 o en k ix y0 f x j l : Int} {p q t uu : Nat} {h g u r w w1 w2 m z v vF : ms_M} {PB PB2 : Nat → Prop} {WL WL2 : Int → Int → Prop} {L L2 Z1 Z : List (Int × Int)}
theorem skk_l (K : SKl X a b p q bb h r u v) (pq : p < q) : SKk X a b p q bb h r u v := ⟨⟨K.1.1, K.1.2.1, pq, K.1.2.2.2⟩, K.2⟩
/-- behind a condition -/
theorem cd_sk (Q : SPq X d p bb h r) (Wb : BRw X) (t1c : t + 1 < bc X) (pt : p + 2 < t) (K : EOz nn X i a1 b1 (p + 2) t e (up_M h 2 10 ((p + 2 : Nat) : Int)) r u (1, v)) (kt : ¬ bK X t = 51) (u12 : u 49 12 = 302) (FX : FM01 nn X i a1 b1 (p + 2) t e (up_M h 2 10 ((p + 2 : Nat) : Int)) u v) (SE : SEq h r u v) (J : CJu 153 1 (up_M u 2 10 ((t + 1 : Nat) : Int)) g) : SKl X a1 b1 p (t + 1) bb h r g v ∧ g 34 1 = u 34 1 + 3 ∧ h 34 1 ≤ u 34 1 ∧ g 34 7 = h 34 7 ∧ g 33 12 = h 33 12 ∧ v 160 50 = r 160 50 := by
  have Q0 := Q
  obtain ⟨⟨B, ⟨q1, q2, q3, q4⟩, ⟨f1, f2, f3⟩, o1⟩, ⟨h3, h10, r57, h7⟩, ⟨LP, l54, br⟩, -⟩ := Q0
  obtain ⟨⟨x1, x2, x3, x4, x5⟩, ⟨x6, x7, x8⟩, ⟨x9, x10, x11⟩, ⟨x12, x13, x14⟩, -⟩ := K.1
  obtain ⟨⟨y1, -⟩, -⟩ := FX.2.2 kt
  have E14 : ∀ cc x : Nat, ¬ (cc = 2 ∧ x = 10) → up_M h 2 10 ((p + 2 : Nat) : Int) cc x = h cc x := fun cc x z => up_n z
  rw [if_neg (by omega), E14 34 3 (by omega)] at y1
  rw [E14 34 1 (by omega)] at x13
  have CE : CFe h u := fun cc x a1 a2 a3 a4 a5 a6 a7 a8 => by rw [x9 cc x a1 a2 a3 a4 a5 a6 a7 a8]; exact E14 cc x (by omega)
  have CE1 : ∀ cc x : Nat, ¬ ((cc = 2 ∧ (x = 10 ∨ x = 11 ∨ x = 12)) ∨ (cc = 34 ∧ (x = 1 ∨ x = 3 ∨ x = 4 ∨ x = 14 ∨ x = 15)) ∨ cc = 35 ∨ cc = 36 ∨ (40 ≤ cc ∧ cc ≤ 42) ∨ (cc = 45 ∧ (x = 4 ∨ x = 5)) ∨ cc = 46 ∨ cc = 47 ∨ (cc = 49 ∧ 10 ≤ x ∧ x ≤ 15) ∨ (50 ≤ cc ∧ cc ≤ 54)) → u cc x = h cc x := fun cc x q => CE cc x (by omega) (by omega) (by omega) (by omega) (by omega) (by omega) (by omega) (by omega)
  have ju : up_M u 2 10 ((t + 1 : Nat) : Int) 34 1 = u 34 1 := up_n (by omega)
  have ju3 : up_M u 2 10 ((t + 1 : Nat) : Int) 34 3 = u 34 3 := up_n (by omega)
  have g1 : g 34 1 = u 34 1 + 3 := by rw [J.1, ju]
  have g3 : g 34 3 = 0 := by rw [J.2.1, ju3]; split <;> omega
  have GU : ∀ cc x : Nat, ¬ ((cc = 2 ∧ x = 10) ∨ (cc = 34 ∧ (x = 1 ∨ x = 3)) ∨ (cc = 35 ∧ u 34 1 ≤ (x : Int))) → g cc x = u cc x := fun cc x q => by rw [J.2.2.2 cc x (by omega) (by rw [ju]; omega)]; exact up_n (by omega)
  have gp : g 2 10 = ((t + 1 : Nat) : Int) := by rw [J.2.2.2 2 10 (by omega) (by omega), up_s]
  have g7 : g 34 7 = h 34 7 := by rw [GU 34 7 (by omega)]; exact CE1 34 7 (by omega)
  have g12 : g 33 12 = h 33 12 := by rw [GU 33 12 (by omega)]; exact CE1 33 12 (by omega)
  have Cu : CFs h u := cfs_e CE SE.1.1 SE.1.2
  have Cg : CFs h g := cfs_t Cu (cfs_o (fun cc x q => GU cc x (by omega)) (by omega))
  have B14 : BX X (up_M h 2 10 ((p + 2 : Nat) : Int)) r := bx_k B (fun cc x z => E14 cc x (by omega)) (fun _ _ _ => rfl)
  have Bg : BX X g v := bx_k (bx_e B14 x9 x10) (fun cc x q => GU cc x (by omega)) (fun _ _ _ => rfl)
  have bm := brw_l Wb (p := p) (q := t + 1) (by omega) t1c
  have R1 : RFz a1 b1 r v := rfs_e x10 SE.2 ⟨Int.le_refl _, Int.le_refl _⟩
  refine ⟨⟨⟨gp, t1c, by omega, by rw [GU 2 11 (by omega)]; exact x4, x5⟩, ⟨Bg, Cg, R1⟩, ⟨frc_k x12 (fun cc x q => GU cc x (by omega)), by omega, g3, by rw [GU 49 10 (by omega), x11.1, E14 49 10 (by omega)]; exact h10, by rw [GU 49 18 (by omega), CE1 49 18 (by omega)]; omega⟩, by omega, by omega, lpx_k LP Cg.2.1.1 Cg.2.1.2.1 g12 Cg.2.2.2.2.1 Cg.2.1.2.2.2 R1.2.2.1.1 (x10.1 198 _ (by omega) (by omega) (by omega))⟩, g1, SE.1.1, g7, g12, x10.1 160 50 (by omega) (by omega) (by omega)⟩
/-- .. in the making, l its label -/
theorem cd_mk {Rr : Int × ms_M → Prop} {Fm : ms_M → Option (Int × ms_M)} (K : EOz nn X i a1 b1 (p + 2) t e (up_M h 2 10 ((p + 2 : Nat) : Int)) r u (1, v)) (kt : ¬ bK X t = 51) (u12 : u 49 12 = 302) (FX : FM01 nn X i a1 b1 (p + 2) t e (up_M h 2 10 ((p + 2 : Nat) : Int)) u v) (J : CJu 153 1 (up_M u 2 10 ((t + 1 : Nat) : Int)) g) (u1 : u 34 1 ≤ 900000) (u3 : u 34 3 ≤ 3000) (M : MKx X PB WL L h m) (A : AN a1 b1 v m) (m57 : m 160 57 = 0) (nb : 0 ≤ a1 ∧ a1 ≤ b1 ∧ b1 ≤ 8999) (lb' : m 160 88 + 4 * (t : Int) ≤ 2000000000 + 4 * ((p + 2 : Nat) : Int)) (hl : l ≤ m 160 88) (HR : ∀ w : ms_M, MKx X PB WL (L ++ [(u 34 1, l)]) g w → MWf m w → (m 160 88 ≤ w 160 88 ∧ w 160 88 + 4 * ((p + 2 : Nat) : Int) ≤ m 160 88 + 4 * (t : Int)) → (∀ cc x : Nat, ((163 ≤ cc ∧ cc ≤ 173) ∨ cc = 177) → w cc x = m cc x) → w 160 50 = m 160 50 → Pc (Fm w) Rr) : Pc (mx_sv (qf_X13_work nn e m) fun u70 => xl (oq_sub (u70 160 70) 1) fun v72 => xl (up_M u70 160 70 v72) fun h73 => mx_sv (qf_X13_jump nn 153 l h73) fun u75 => Fm u75) Rr := by
  obtain ⟨⟨y1, -⟩, y2⟩ := FX.2.2 kt
  rw [if_neg (by omega)] at y1
  obtain ⟨-, -, -, ⟨-, -, x14⟩, -⟩ := K.1
  have x3 : 1 ≤ u 34 3 := by
    have h0 := M.2.1.2.2.1
    rw [show up_M h 2 10 ((p + 2 : Nat) : Int) 34 3 = h 34 3 from up_n (by omega)] at y1
    omega
  refine pc_sv (se_m y2 (mkx_c M (fun cc x q1 q2 q3 => up_n (by omega))) A m57 nb lb') ?_; intro w0 ⟨⟨Mw, lw⟩, Fw, Ew⟩
  have sk := Mw.2.1
  have cb := Mw.1.1.1
  have b70 : w0 160 70 ≤ 3000 := by omega
  refine pc_sub (by omega) ?_; intro v72 e72
  refine pc_xl ?_; intro h73 e73
  refine pc_sv (r_jump (by rw [e73, up_n (by omega)]; omega)) ?_; intro w2 RJ
  have W5 := RJ.2.2.2.2.2.2
  have M2 : MKx X PB WL (L ++ [(w0 160 68, l)]) g w2 := mk_jump (mkx_c Mw (fun cc x q1 q2 q3 => up_n (by omega))) J ⟨by omega, by rw [up_n (by omega)]; exact x3⟩ (by rw [e73, e72]) RJ (by unfold in_R; omega) (by omega)
  have E2 : ∀ cc x : Nat, ¬ ((cc = 160 ∧ (x = 68 ∨ x = 70 ∨ x = 87)) ∨ cc = 206 ∨ cc = 217 ∨ cc = 218) → w2 cc x = w0 cc x := fun cc x q => by rw [W5 cc x (by omega) (by omega) (by omega), e73, up_n (by omega)]
  rw [← cb.1] at M2
  exact HR w2 M2 (mwf_t Fw (mwf_o (fun cc x q => E2 cc x (by omega)))) (by rw [E2 160 88 (by omega)]; exact lw) (fun cc x q => by rw [E2 cc x (by omega)]; exact Ew cc x (by omega)) (by rw [E2 160 50 (by omega)]; exact Ew 160 50 (by omega))
/-- a start that changes no jumps of loops -/
theorem mg_pre (A2 : MWf m w1 ∧ m 160 88 ≤ w1 160 88 ∧ w1 160 88 + 4 * (p : Int) ≤ m 160 88 + 4 * (t : Int)) (e54 : v 160 54 = r 160 54) (c9 : g 33 9 = h 33 9 ∧ g 33 10 = h 33 10) (c12 : g 33 12 = h 33 12) (B : MGq X PB WL L lb lh t q g v u w1 w) : MGq X PB WL L lb lh p q h r u m w := by
  obtain ⟨⟨Z2, M2, z1, z2, z3, z4⟩, F, l1, l2⟩ := B
  rw [c9.1, c9.2] at M2
  rw [c12] at z3
  exact ⟨⟨Z2, M2, z1, fun y => z2 (by omega), z3, fun j hj => by rw [← c9.1]; exact z4 j hj⟩, mwf_t A2.1 F, by omega, by omega⟩
end

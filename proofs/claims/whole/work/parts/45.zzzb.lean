/- S of both sides: an E, then one op (print, throw, return) -/
section
variable {nn : Nat} {X : BCx} {dp i a b a1 b1 a2 b2 e s bb lb lh d o en k : Int} {p q t p2 : Nat} {h g u r w m z h16 g1 g2 m1 : ms_M} {v : Int × ms_M} {PB : Nat → Prop} {WL : Int → Int → Prop} {L : List (Int × Int)}
/-- put behind a pop: the other way round -/
theorem rp_swap (e1 : m1 = up_M m 160 70 (m 160 70 - k)) (B : RPt o m1 w) : ∃ w1 : ms_M, RPt o m w1 ∧ w = up_M w1 160 70 (w1 160 70 - k) := by
  obtain ⟨b1, b2, b3⟩ := B
  have x68 : m1 160 68 = m 160 68 := by rw [e1, up_n (by omega)]
  have w70 : w 160 70 = m 160 70 - k := by rw [b3 160 70 (by omega) (by omega), e1, up_s]
  rw [x68] at b1 b2 b3
  refine ⟨up_M w 160 70 (m 160 70), ⟨by rw [up_n (by omega)]; exact b1, fun z => by rw [up_n (by omega)]; exact b2 z, fun cc x z1 z2 => ?_⟩, ?_⟩
  · by_cases q : cc = 160 ∧ x = 70
    · rw [q.1, q.2, up_s]
    · rw [up_n q, b3 cc x z1 z2, e1, up_n q]
  · funext cc x
    by_cases q : cc = 160 ∧ x = 70
    · rw [q.1, q.2, up_s, up_s]; exact w70
    · rw [up_n q, up_n q]
theorem mkx_oppop (M : MKx X PB WL L h m) (A1 : COp o h g1) (A2 : CPo k g1 g2) (hk : 0 ≤ k ∧ k ≤ h 34 3) (e1 : m1 = up_M m 160 70 (m 160 70 - k)) (B : RPt o m1 w) (oR : in_R o) : MKx X PB WL L g2 w := by
  obtain ⟨w1, B1, ew⟩ := rp_swap e1 B
  have M1 : MKx X PB WL L g1 w1 := mk_op M A1 B1 (fun _ => rfl) oR
  exact mk_pop M1 A2 (by rw [A1.2.2 34 3 (by omega) (by omega)]; exact hk) ew
/-- what stands before an S and is read once more -/
theorem sl_eo (Y : CXs X) (Wb : BRw X) (Q : SPq X d p bb h r) (ne : 0 ≤ a ∧ a ≤ s ∧ s < b) (nb : b ≤ 8999) (E16 : ∀ cc x : Nat, ¬ (cc = 2 ∧ x = 10) → h16 cc x = h cc x) (K : EOz nn X i (s + 1) b p2 t e h16 r u v) (FX : FM01 nn X i (s + 1) b p2 t e h16 u v.2) (n3 : ¬ u 49 12 = 303) (kt : ¬ bK X t = 51) (SE : SEq h16 r u v.2) (A1 : COp o u g1) (A2 : CPo 1 g1 g2) (ez : z = up_M g2 2 10 (q : Int)) (pq : p < p2 ∧ t < q ∧ q < bc X) (oR : in_R o) (hen : en = 0 ∨ en = 1) (MP : ∀ (d2 : Nat) (m : ms_M) (R : Int × ms_M → Prop), (∀ cc x : Nat, ((163 ≤ cc ∧ cc ≤ 173) ∨ cc = 177) → m cc x = bT X cc x) → (∀ cc x : Nat, (178 ≤ cc ∧ cc ≤ 195) → m cc x = bB X cc x) → m 160 51 = r 160 51 → Pc (qf_X13_work nn e m) (fun w => (∀ cc x : Nat, ¬ ((cc = 160 ∧ (x = 57 ∨ x = 62 ∨ x = 64 ∨ x = 66 ∨ x = 68 ∨ x = 70 ∨ x = 71 ∨ x = 78 ∨ x = 79 ∨ x = 87 ∨ x = 88)) ∨ (199 ≤ cc ∧ cc ≤ 212) ∨ cc = 217 ∨ cc = 218) → w cc x = m cc x) ∧ Pc (xl (oq_sub (w 160 70) 1) fun v2 => xl (up_M w 160 70 v2) fun h3 => mx_sv (qf_X13_put nn o h3) fun u5 => some (en, u5)) R) → Pc ((qg_X13_make nn d2).1 s m) R) : SOk nn X s a b p q bb h r (en, z) (en, v.2) := by
  have Q0 := Q
  obtain ⟨⟨B, ⟨q1, q2, q3, q4⟩, ⟨f1, f2, f3⟩, o1⟩, ⟨h3, h10, r57, h7⟩, ⟨LP, l54, br⟩, -⟩ := Q0
  obtain ⟨⟨x1, x2, x3, x4, x5⟩, ⟨x6, x7, x8⟩, ⟨x9, x10, x11⟩, ⟨x12, x13, x14⟩, -⟩ := K.1
  obtain ⟨⟨y1, -⟩, y2⟩ := FX.2.2 kt
  rw [if_neg n3] at y1
  have e1 := E16 34 1 (by omega)
  have e3 := E16 34 3 (by omega)
  have e7 := E16 34 7 (by omega)
  have c3 := Y.1.2.1
  have Z : ∀ cc x : Nat, ¬ ((cc = 2 ∧ x = 10) ∨ (cc = 34 ∧ (x = 1 ∨ x = 3)) ∨ (cc = 35 ∧ x = (u 34 1).toNat)) → z cc x = u cc x := fun cc x q => by rw [ez, up_n (by omega), A2.2 cc x (by omega)]; exact A1.2.2 cc x (by omega) (by omega)
  have z1 : z 34 1 = u 34 1 + 1 := by rw [ez, up_n (by omega), A2.2 34 1 (by omega)]; exact A1.1
  have z3 : z 34 3 = 0 := by rw [ez, up_n (by omega), A2.1, A1.2.2 34 3 (by omega) (by omega)]; split <;> omega
  have CE : CFe h u := fun cc x a1 a2 a3 a4 a5 a6 a7 a8 => by rw [x9 cc x a1 a2 a3 a4 a5 a6 a7 a8]; exact E16 cc x (by omega)
  have Cu : CFs h u := cfs_e CE (by have := SE.1.1; omega) (fun x hx => by rw [SE.1.2 x (by omega)]; exact E16 35 x (by omega))
  have Cz : CFs h z := cfs_t Cu (cfs_o (fun cc x q => Z cc x (by omega)) (by omega))
  have B16 : BX X h16 r := bx_k B (fun cc x z => E16 cc x (by omega)) (fun _ _ _ => rfl)
  have Bu : BX X u v.2 := bx_e B16 x9 x10
  have Bz : BX X z v.2 := bx_k Bu (fun cc x q => Z cc x (by omega)) (fun _ _ _ => rfl)
  have u18 : u 49 18 = h 49 18 := CE 49 18 (by omega) (by omega) (by omega) (by omega) (by omega) (by omega) (by omega) (by omega)
  have u10 : u 49 10 = 0 := by rw [x11.1, E16 49 10 (by omega)]; exact h10
  refine ⟨⟨rfl, hen⟩, sk_leaf Q Wb ⟨by show z 2 10 = _; rw [ez, up_s], by omega, by omega, by show z 2 11 = 0; rw [Z 2 11 (by omega)]; exact x4, x5⟩ Bz Cz (rfs_e x10 SE.2 ⟨by omega, Int.le_refl _⟩) ?_ ?_ (x10.1 198 _ (by omega) (by omega) (by omega)) (frc_k x12 (fun cc x q => Z cc x (by omega))) (by show z 34 1 + _ ≤ _; omega) z3 (by show z 49 10 = 0; rw [Z 49 10 (by omega)]; exact u10) (by show z 49 18 ≤ _; rw [Z 49 18 (by omega)]; omega), ?_⟩
  · show z 33 12 = _
    rw [Z 33 12 (by omega)]; exact CE 33 12 (by omega) (by omega) (by omega) (by omega) (by omega) (by omega) (by omega) (by omega)
  · show z 34 7 = _
    rw [Z 34 7 (by omega)]; exact CE 34 7 (by omega) (by omega) (by omega) (by omega) (by omega) (by omega) (by omega) (by omega)
  · intro d2 PB WL L lb lh m I
    obtain ⟨⟨M, AM⟩, ⟨m57, m88, m54, m51⟩, -, WN, CO⟩ := I
    obtain ⟨MT, MTB, -⟩ := mk_t M
    refine MP d2 m _ MT MTB m51 ?_
    refine pc_imp (se_m (a := s + 1) (b := b) y2 (mkx_c M (fun cc x q1 q2 q3 => E16 cc x (by omega))) (an_s AM ⟨by omega, Int.le_refl _⟩ (fun _ _ _ _ _ _ => rfl)) m57 (by omega) (by omega)) (fun w W => ⟨W.2.2, ?_⟩)
    obtain ⟨⟨Mw, lw⟩, Fw, Ew⟩ := W
    have sk := Mw.2.1
    have cb := Mw.1.1.1
    refine pc_sub (by omega) ?_; intro v2 e2
    refine pc_xl ?_; intro h3' e3'
    refine pc_sv (r_put (by rw [e3', up_n (by omega)]; omega)) ?_; intro u5 B5
    have M5 : MKx X PB WL L g2 u5 := mkx_oppop Mw A1 A2 (by omega) (by rw [e3', e2]) B5 oR
    have E5 : ∀ cc x : Nat, ¬ (cc = 160 ∧ (x = 68 ∨ x = 70)) → ¬ cc = 206 → u5 cc x = w cc x := fun cc x q1 q2 => by rw [B5.2.2 cc x (by omega) (by omega), e3', up_n (by omega)]
    have l88 := E5 160 88 (by omega) (by omega)
    exact pc_ret ⟨rfl, mg_nil (mkx_c M5 (fun cc x q1 q2 q3 => by show z cc x = _; rw [ez, up_n (by omega)])) (mwf_t Fw (mwf_o (fun cc x q => E5 cc x (by omega) (by omega)))) (by show _ ≤ u5 160 88; omega) (by show u5 160 88 + _ ≤ _; omega) (by show z 33 12 = _; rw [Z 33 12 (by omega)]; exact CE 33 12 (by omega) (by omega) (by omega) (by omega) (by omega) (by omega) (by omega) (by omega))⟩
end

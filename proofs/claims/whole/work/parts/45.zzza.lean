/- S of both sides: an E within -/
def SEq (h r u v : ms_M) : Prop := (h 34 1 ≤ u 34 1 ∧ ∀ x : Nat, (x : Int) < h 34 1 → u 35 x = h 35 x) ∧ v 160 57 = r 160 57
section
variable {nn : Nat} {X : BCx} {dp i a b a1 b1 a2 b2 e bb lb lh d : Int} {p q t : Nat} {h g u r w m v z : ms_M} {PB : Nat → Prop} {WL : Int → Int → Prop} {L : List (Int × Int)}
theorem brw_le (Wb : BRw X) : ∀ (k p : Nat), p + k < bc X → bP X p ≤ bP X (p + k) := by
  intro k
  induction k with
  | zero => intro p _; exact Int.le_refl _
  | succ k ih =>
    intro p hp
    have a1 := ih p (by omega)
    have a2 := Wb.1 (p + k) (by omega)
    rw [show p + (k + 1) = p + k + 1 by omega]
    omega
theorem brw_l (Wb : BRw X) (pq : p ≤ q) (qc : q < bc X) : bP X p ≤ bP X q := by
  have := brw_le Wb (q - p) p (by omega)
  rw [show p + (q - p) = q by omega] at this
  exact this
theorem se_by {dc : Nat} (Y : CXs X) (Q : EPr X dp p h r) (hd : dp ≤ 42) : Pc ((qg_X10_readValue nn dc).1 dp h) (fun u => 0 ≤ u 34 1 → h 34 1 ≤ u 34 1 ∧ ∀ x : Nat, (x : Int) < h 34 1 → u 35 x = h 35 x) := by
  obtain ⟨-, ⟨q1, q2, q3, q4⟩, ⟨f1, f2, f3⟩, o1⟩ := Q
  have c3 := Y.1.2.1
  refine pc_imp ((byg (h 34 1) (h 49 10) nn dc).1 trivial) (fun u B u0 => ?_)
  obtain ⟨I, F⟩ := B ⟨.inl ⟨Int.le_refl _, by omega⟩, f2.1, ⟨o1.1, Int.le_refl _, by omega⟩, fun i h1 h2 => by omega⟩
  exact ⟨by have := I.1; omega, F⟩
theorem se_gd {dc d2 : Nat} (Y : CXs X) (H : E0 nn X dp i a b p q e) (ek : ENDk (bK X q)) (Q : EPr X dp p h r) (r57 : r 160 57 = 0) (nb : 0 ≤ a ∧ a ≤ b ∧ b ≤ 8999) (na : bK X q = 46 → ¬ h 49 18 = (p : Int)) (hd : dp ≤ 42) : Pc ((qg_X10_readValue nn dc).1 dp h) (fun u => Pc ((qg_X13_condition nn d2).2.1 e r) (fun v => SFj u v.2 ∨ ((EOz nn X i a b p q e h r u v ∧ ¬ u 49 12 = 303 ∧ (¬ bK X q = 51 → FM01 nn X i a b p q e h u v.2)) ∧ SEq h r u v.2))) := by
  have T8 : ∀ cc y : Nat, 163 ≤ cc ∧ cc ≤ 173 → r cc y = bT X cc y := fun cc y z => Q.1.2.2.2.2.2.1 cc y (by omega)
  have J := j_given3 (x := (qg_X10_readValue nn dc).1 dp h) Q.1.1.1.2.2.1 T8 Y.2.2.1 (fun d2 => H ek dc d2 h r Q (by omega)) na d2
  refine pc_imp (pc_and J (se_by Y Q hd)) (fun u Hu => ?_)
  refine pc_imp (pc_and Hu.1 ((rkg_condition nn d2).2.1 (a1 := e) (h := r) (by omega))) (fun v y => ?_)
  rcases y.1 with S | K
  · exact .inl S
  · exact .inr ⟨K, Hu.2 K.1.1.2.2.2.1.2.1.1, y.2.1⟩
theorem se_g (Y : CXs X) (H : E0 nn X dp i a b p q e) (ek : ENDk (bK X q)) (Q : EPr X dp p h r) (r57 : r 160 57 = 0) (nb : 0 ≤ a ∧ a ≤ b ∧ b ≤ 8999) (na : bK X q = 46 → ¬ h 49 18 = (p : Int)) (hd : dp ≤ 42) : Pc (qf_X10_readWhole nn dp h) (fun u => Pc (qf_X13_given nn e r) (fun v => SFj u v.2 ∨ ((EOz nn X i a b p q e h r u v ∧ ¬ u 49 12 = 303 ∧ (¬ bK X q = 51 → FM01 nn X i a b p q e h u v.2)) ∧ SEq h r u v.2))) := by
  unfold qf_X10_readWhole
  exact pc_sv (se_gd (dc := 420) (d2 := 1600) Y H ek Q r57 nb na hd) (fun u Hu => pc_ret Hu)
theorem se_w (Y : CXs X) (H : E0 nn X dp i a b p q e) (ek : ENDk (bK X q)) (Q : EPr X dp p h r) (r57 : r 160 57 = 0) (nb : 0 ≤ a ∧ a ≤ b ∧ b ≤ 8999) (hd : dp ≤ 42) : Pc (qf_X10_readWhole nn dp h) (fun u => Pc (qf_X13_worked nn e r) (fun v => (SFj u v.2 ∨ VDj X i a b p q e h r u v) ∨ (EOz nn X i a b p q e h r u v ∧ SEq h r u v.2))) := by
  unfold qf_X10_readWhole
  refine pc_sv (pc_and (H ek 420 1600 h r Q (by omega)) (se_by Y Q hd)) (fun u Hu => pc_ret ?_)
  refine pc_imp (pc_and Hu.1 ((rkg_condition nn 1600).2.2.1 (a1 := e) (h := r) (by omega))) (fun v y => ?_)
  rcases y.1 with S | K
  · exact .inl S
  · exact .inr ⟨K, Hu.2 K.1.2.2.2.1.2.1.1, y.2.1⟩
/-- a condition in brackets, behind its word at p -/
theorem se_c (Y : CXs X) (H : E0 nn X dp i a b (p + 2) t e) (kt : bK X t = 41) (Q : EPr X dp p h r) (r57 : r 160 57 = 0) (nb : 0 ≤ a ∧ a ≤ e ∧ e < b ∧ b ≤ 8999) (al : h 49 18 ≤ (p : Int)) (hd : dp ≤ 42) (pt : p + 2 < t) (bg : bT X 169 e.toNat = ((p + 2 : Nat) : Int)) : Pc (qf_X10_readCondition nn dp h) (fun x => Pc (qf_X13_condition nn e r) (fun v => SFj x.2 v ∨ ∃ u, (EOz nn X i a b (p + 2) t e (up_M h 2 10 ((p + 2 : Nat) : Int)) r u (1, v) ∧ u 49 12 = 302 ∧ FM01 nn X i a b (p + 2) t e (up_M h 2 10 ((p + 2 : Nat) : Int)) u v) ∧ SEq h r u v ∧ x.1 = u 34 1 ∧ CJu 153 1 (up_M u 2 10 ((t + 1 : Nat) : Int)) x.2)) := by
  have Q0 := Q
  obtain ⟨B, ⟨q1, q2, q3, q4⟩, ⟨f1, f2, f3⟩, o1⟩ := Q0
  have c3 := Y.1.2.1
  have tc : t < bc X := tb_lt Y.1 (by omega)
  have t1c : t + 1 < bc X := jp_lt Y.1 tc (by omega)
  unfold qf_X10_readCondition
  rw [q1]
  refine pc_add (by omega) ?_; intro v12 e12
  refine pc_xl ?_; intro h14 e14
  rw [show v12 = ((p + 2 : Nat) : Int) by omega] at e14
  have E14 : ∀ cc x : Nat, ¬ (cc = 2 ∧ x = 10) → h14 cc x = h cc x := fun cc x z => by rw [e14, up_n z]
  have Q14 : EPr X dp (p + 2) h14 r := epr_in Q E14 (by rw [e14, up_s]) (by omega) (by omega)
  have TB14 := Q14.1.1.1.1.1
  rw [← e14]
  have FS39 : ∀ (s : Int) (g : ms_M), ¬ g 2 11 = 0 → Pc (qj_X10_readCondition_39 nn v12 s g) (fun u => FSc g u.2) := fun s g S => fs_qj_X10_readCondition_39 S
  show Pc (mx_sv ((qg_X10_readValue nn 420).1 dp h14) fun u16 => if ¬ (u16 49 12) = 302 then (qj_X10_readCondition_39 nn v12 0 u16) else (qj_X10_readCondition_39 nn v12 1 u16)) (fun x => Pc ((qg_X13_condition nn 1600).1 e r) (fun v => SFj x.2 v ∨ ∃ u, (EOz nn X i a b (p + 2) t e h14 r u (1, v) ∧ u 49 12 = 302 ∧ FM01 nn X i a b (p + 2) t e h14 u v) ∧ SEq h r u v ∧ x.1 = u 34 1 ∧ CJu 153 1 (up_M u 2 10 ((t + 1 : Nat) : Int)) x.2))
  refine pc_sv (se_gd (dc := 420) (d2 := 1599) Y H (.inl kt) Q14 r57 (by omega) (fun z => by omega) hd) ?_; intro u16 H16
  have COND : ∀ {Z : ms_M → Prop}, (∀ v : Int × ms_M, (SFj u16 v.2 ∨ ((EOz nn X i a b (p + 2) t e h14 r u16 v ∧ ¬ u16 49 12 = 303 ∧ (¬ bK X t = 51 → FM01 nn X i a b (p + 2) t e h14 u16 v.2)) ∧ SEq h14 r u16 v.2)) → Pc (if v.1 = 1 then (some v.2) else (rd_A 9000 169 e v.2 fun v4 => mx_sv (qf_X13_wrong nn 6 v4 v.2) fun u6 => some u6)) Z) → Pc ((qg_X13_condition nn 1600).1 e r) Z := fun {Z} HH => by
    show Pc (qo_X13_condition nn (qg_X13_condition nn 1599) e r) Z
    unfold qo_X13_condition
    exact pc_sv H16 (fun v hv => HH v hv)
  have SFp : ∀ (x : Int × ms_M) (v : Int × ms_M), FSc u16 x.2 → SFj u16 v.2 → Pc (if v.1 = 1 then (some v.2) else (rd_A 9000 169 e v.2 fun v4 => mx_sv (qf_X13_wrong nn 6 v4 v.2) fun u6 => some u6)) (fun w => SFj x.2 w ∨ ∃ u, (EOz nn X i a b (p + 2) t e h14 r u (1, w) ∧ u 49 12 = 302 ∧ FM01 nn X i a b (p + 2) t e h14 u w) ∧ SEq h r u w ∧ x.1 = u 34 1 ∧ CJu 153 1 (up_M u 2 10 ((t + 1 : Nat) : Int)) x.2) := fun x v F S => by
    refine pc_if (fun _ => pc_ret (.inl (sf_c S F))) (fun _ => ?_)
    refine pc_rA ?_; intro _ _ v4 _
    refine pc_sv (ft_qf_X13_wrong (sf_r S)) ?_; intro u6 F6
    exact pc_ret (.inl (sf_c ⟨S.1, by rw [F6.1]; exact S.2.1, by rw [F6.2]; exact S.2.2⟩ F))
  have Y3 := Y.2.2.1
  by_cases ok : u16 2 11 = 0
  · by_cases ty : u16 49 12 = 302
    · rw [if_neg (fun z => z ty)]
      unfold qj_X10_readCondition_39
      refine pc_sv c_want1 ?_; intro u2 q2'
      rw [q2']
      refine pc_xl ?_; intro v5 e5
      refine pc_xl ?_; intro h6 e6
      intro x ex
      refine COND (fun v hv => ?_)
      rcases hv with S | ⟨⟨K, n3, FM⟩, SE⟩
      · exact absurd ok S.1
      · have FX := FM (by omega)
        obtain ⟨⟨x1, x2, x3, x4, x5⟩, ⟨x6, x7, x8⟩, ⟨x9, x10, x11⟩, ⟨x12, x13, x14⟩, -⟩ := K.1
        have v1 : v.1 = 1 := by rw [x6, ty]; rfl
        rw [if_pos v1]
        refine pc_ret (.inr ⟨u16, ⟨by rw [← v1]; exact K, ty, FX⟩, ⟨by rw [← E14 34 1 (by omega)]; exact ⟨SE.1.1, fun y hy => by rw [SE.1.2 y hy]; exact E14 35 y (by omega)⟩, SE.2⟩, ?_⟩)
        have x1' : oq_add (u16 2 10) 1 = ((t + 1 : Nat) : Int) := by rw [x1, oq_add_eq (by omega) (by omega) (by omega)]; omega
        rw [e5, x1'] at e6
        have eq14 := E14 34 1 (by omega)
        have eq3 := E14 34 3 (by omega)
        have CJ : Pc (mx_sv (qf_X1_jump nn 153 1 h6) fun u9 => some (u9.1, u9.2)) (fun x => x.1 = u16 34 1 ∧ CJu 153 1 (up_M u16 2 10 ((t + 1 : Nat) : Int)) x.2) := by
          refine pc_sv (c_jump (by omega) (by rw [e6, up_n (by omega)]; omega) (by rw [e6, up_n (by omega)]; omega)) ?_; intro u9 ⟨q9, r9⟩
          refine pc_ret ⟨?_, ?_⟩
          · show u9.1 = u16 34 1
            rw [q9, e6, up_n (by omega)]
          · show CJu 153 1 _ u9.2
            rw [← e6]; exact r9
        exact CJ x ex
    · rw [if_pos ty]
      intro x ex
      refine COND (fun v hv => ?_)
      rcases hv with S | ⟨⟨K, n3, FM⟩, SE⟩
      · exact absurd ok S.1
      · obtain ⟨⟨x1, x2, x3, x4, x5⟩, ⟨x6, x7, x8⟩, ⟨x9, x10, x11⟩, -, -⟩ := K.1
        have tyc := ty_c (vtn_v Y3 x7)
        have v1 : ¬ v.1 = 1 := by rw [x6]; omega
        rw [if_neg v1]
        have B16 : BX X u16 v.2 := bx_e Q14.1 x9 x10
        have C0 : Pc (qj_X10_readCondition_39 nn v12 0 u16) (fun x => x.2 2 11 = 6 ∧ x.2 2 12 = bP X (p + 2)) := by
          unfold qj_X10_readCondition_39
          refine pc_sv (c_want0 B16.1.1.1.1 ok (tk := p + 2) (by omega) (by omega)) ?_; intro u2 s2
          refine pc_xl ?_; intro v5 _
          refine pc_xl ?_; intro h6 e6
          have S6 : ¬ h6 2 11 = 0 := by rw [e6, up_n (by omega)]; omega
          refine pc_sv (fs_qf_X1_jump S6) ?_; intro u9 F9
          refine pc_ret ⟨?_, ?_⟩
          · show u9.2 2 11 = 6
            rw [F9.1, e6, up_n (by omega)]; exact s2.1
          · show u9.2 2 12 = _
            rw [F9.2, e6, up_n (by omega)]; exact s2.2
        obtain ⟨s1, s2⟩ := C0 x ex
        refine pc_rA ?_; intro _ _ v4 e4
        rw [B16.2.2.2.2.2.1 169 _ (by omega), bg] at e4
        refine pc_sv (r_wrong B16.1.1.2.2.1 (p := p + 2) (by omega) x5 e4) ?_; intro u6 w1
        exact pc_ret (.inl ⟨by omega, by rw [w1.1, s1], by rw [w1.2, s2]⟩)
  · have FSX : Pc (if ¬ (u16 49 12) = 302 then (qj_X10_readCondition_39 nn v12 0 u16) else (qj_X10_readCondition_39 nn v12 1 u16)) (fun u => FSc u16 u.2) := pc_if (fun _ => FS39 0 u16 ok) (fun _ => FS39 1 u16 ok)
    intro x ex
    refine COND (fun v hv => ?_)
    rcases hv with S | ⟨⟨K, -⟩, -⟩
    · exact SFp x v (FSX x ex) S
    · exact absurd K.1.1.2.2.2.1 ok
/-- the making of an E within -/
theorem se_m (Cm : MKC nn X e a b p q h u v) (M : MKx X PB WL L h m) (A : AN a b v m) (m57 : m 160 57 = 0) (nb : 0 ≤ a ∧ a ≤ b ∧ b ≤ 8999) (l : m 160 88 + 4 * (q : Int) ≤ 2000000000 + 4 * (p : Int)) : Pc (qf_X13_work nn e m) (fun w => (MKx X PB WL L u w ∧ (m 160 88 ≤ w 160 88 ∧ w 160 88 + 4 * (p : Int) ≤ m 160 88 + 4 * (q : Int))) ∧ MWf m w ∧ ∀ cc x : Nat, ¬ ((cc = 160 ∧ (x = 57 ∨ x = 62 ∨ x = 64 ∨ x = 66 ∨ x = 68 ∨ x = 70 ∨ x = 71 ∨ x = 78 ∨ x = 79 ∨ x = 87 ∨ x = 88)) ∨ (199 ≤ cc ∧ cc ≤ 212) ∨ cc = 217 ∨ cc = 218) → w cc x = m cc x) := by
  intro w ew
  have W1 := Cm 1450 PB WL L m M A (by omega) l w ew
  have RK := (rkg_work nn 1450).1 (a1 := e) (h := m) (by omega) w ew
  have F : ∀ cc x : Nat, ¬ ((cc = 160 ∧ (x = 57 ∨ x = 62 ∨ x = 64 ∨ x = 66 ∨ x = 68 ∨ x = 70 ∨ x = 71 ∨ x = 78 ∨ x = 79 ∨ x = 87 ∨ x = 88)) ∨ (199 ≤ cc ∧ cc ≤ 212) ∨ cc = 217 ∨ cc = 218) → w cc x = m cc x := fun cc x q => ff_X13_work nn w ew cc x (nw_of (by unfold wl_X13_work; simp only [List.mem_cons, List.not_mem_nil, or_false]; omega) (by unfold wf_X13_work; simp only [List.mem_cons, List.not_mem_nil, or_false, Prod.mk.injEq]; omega))
  exact ⟨W1, ⟨⟨RK.1, F 160 54 (by omega), F 160 51 (by omega)⟩, fun cc x q1 q2 => F cc x (by omega), fun x _ => ⟨F 219 x (by omega), F 220 x (by omega)⟩⟩, F⟩
/-- an S that leaves variables and breaks as they are -/
theorem sk_leaf (Q : SPq X d p bb h r) (Wb : BRw X) (pos : z 2 10 = (q : Int) ∧ q < bc X ∧ p < q ∧ z 2 11 = 0 ∧ v 160 9 = 0) (B : BX X z v) (Cf : CFs h z) (Rf : RFz a b r v) (c12 : z 33 12 = h 33 12) (c7 : z 34 7 = h 34 7) (v98 : v 198 (r 160 54).toNat = r 198 (r 160 54).toNat) (F : FRc z) (l1 : z 34 1 + 20 * (p : Int) ≤ h 34 1 + 20 * (q : Int)) (z3 : z 34 3 = 0) (z10 : z 49 10 = 0) (z18 : z 49 18 ≤ (q : Int)) : SKk X a b p q bb h r z v := by
  have bm := brw_l Wb (p := p) (q := q) (by omega) pos.2.1
  exact ⟨pos, ⟨B, Cf, Rf⟩, ⟨F, l1, z3, z10, z18⟩, by omega, by omega, lpx_k Q.2.2.1.1 Cf.2.1.1 Cf.2.1.2.1 c12 Cf.2.2.2.2.1 Cf.2.1.2.2.2 Rf.2.2.1.1 v98⟩
end

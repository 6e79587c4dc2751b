/- E of both sides: a sign is opened; && and || -/
/-- what opening leaves in the class -/
def OSr (t o : Nat) (k j : Int) (h u : ms_M) : Prop := (u 2 10 = ((t + 1 : Nat) : Int) ∧ u 49 10 = (o : Int) + 1 ∧ u 50 o = k ∧ u 51 o = (t : Int) ∧ u 52 o = h 49 15 ∧ u 53 o = h 49 12 ∧ u 54 o = j) ∧ (∀ cc x : Nat, ¬ (cc = 2 ∧ x = 10) → ¬ (cc = 49 ∧ x = 10) → ¬ (50 ≤ cc ∧ cc ≤ 54 ∧ x = o) → ¬ (cc = 34 ∧ (x = 1 ∨ x = 3)) → ¬ cc = 35 → u cc x = h cc x) ∧ ((SGk k ∧ u 34 1 = h 34 1 ∧ u 34 3 = h 34 3 ∧ ∀ x : Nat, u 35 x = h 35 x) ∨ ((k = 67 ∨ k = 69) ∧ j = h 34 1 ∧ ∃ h1 g1 : ms_M, (∀ cc x : Nat, ¬ (50 ≤ cc ∧ cc ≤ 54) → h1 cc x = h cc x) ∧ CJu (if k = 67 then 153 else 154) 1 h1 g1 ∧ ∀ cc x : Nat, ¬ (cc = 2 ∧ x = 10) → ¬ (cc = 49 ∧ x = 10) → ¬ (50 ≤ cc ∧ cc ≤ 54) → u cc x = g1 cc x))
/-- && and || are closed: what the class makes -/
def CSh (k j : Int) (h u : ms_M) : Prop := ∃ g1 g2 g3 g4 g5 : ms_M, CJu 167 0 h g1 ∧ CPo 1 g1 g2 ∧ CAH j g2 g3 ∧ COp (if k = 67 then 3 else 4) g3 g4 ∧ CPu 302 g4 g5 ∧ CAH (h 34 1) g5 u
/-- what closing leaves in the class, with any sign -/
def CSq (X : BCx) (pp rt : Int) (u2 u : ms_M) : Prop := (∀ cc x : Nat, ¬ (cc = 34 ∧ (x = 1 ∨ x = 3 ∨ x = 4 ∨ x = 14 ∨ x = 15)) → ¬ (cc = 35 ∨ cc = 36) → ¬ (40 ≤ cc ∧ cc ≤ 42) → ¬ (cc = 49 ∧ (x = 10 ∨ x = 11 ∨ x = 12 ∨ x = 15)) → u cc x = u2 cc x) ∧ FRc u ∧ ((u2 34 1 ≤ u 34 1 ∧ u 34 1 ≤ u2 34 1 + 10) ∧ (0 ≤ u 34 3 ∧ u 34 3 ≤ u2 34 3 + 1)) ∧ (u 49 10 = u2 49 10 - 1 ∧ u 49 11 = 0 ∧ u 49 12 = rt ∧ u 49 15 = pp) ∧ (u 49 12 = 303 ∨ 20 < u 34 3 ∨ u 36 (u 34 3 - 1).toNat = u 49 12)
section
variable {nn : Nat} {X : BCx} {dp i l a b e s k : Int} {p q t o : Nat} {h g u r w m : ms_M} {v : Int × ms_M} {PB : Nat → Prop} {WL : Int → Int → Prop} {L : List (Int × Int)}
theorem csr_q {pp rt : Int} {u2 : ms_M} (C : CSr X pp rt u2 u) : CSq X pp rt u2 u := ⟨C.1, C.2.1, ⟨C.2.2.1.1, C.2.2.1.2.1⟩, C.2.2.2.1, C.2.2.2.2⟩
theorem c_openS (Y : CXs X) (TB : TBc (bK X) (bP X) (bc X) h) (tc : t < bc X) (hp : h 2 10 = (t : Int)) (hf : h 2 11 = 0) (ho : h 49 10 = (o : Int)) (o4 : o < 420) (hk : bK X t = k) (kk : SGk k ∨ k = 67 ∨ k = 69) (f15 : h 49 15 = (p : Int)) (pc : p < bc X) (l1 : 0 ≤ h 34 1 ∧ h 34 1 ≤ 900000) (l3 : 0 ≤ h 34 3 ∧ h 34 3 ≤ 2999) : Pc (qf_X10_openSign nn h) (fun u => ((SGk k ∨ h 49 12 = 302) ∧ ∃ j, OSr t o k j h u) ∨ ((k = 67 ∨ k = 69) ∧ ¬ h 49 12 = 302 ∧ u 2 11 = 6 ∧ u 2 12 = bP X p)) := by
  have c3 := Y.1.2.1
  unfold qf_X10_openSign
  refine pc_sv (c_kind Y.1 TB tc hp hf) ?_; intro u22 q22
  rw [hk] at q22
  rw [q22]
  refine pc_if (fun z => absurd z (by omega)) (fun _ => ?_)
  refine pc_wA ?_; intro _ _ h28 e28
  rw [ho, Int.toNat_natCast] at e28
  have E28 : ∀ cc x : Nat, ¬ (cc = 50 ∧ x = o) → h28 cc x = h cc x := fun cc x z => by rw [e28, up_n z]
  rw [E28 49 10 (by omega), E28 2 10 (by omega), ho, hp]
  refine pc_wA ?_; intro _ _ h33 e33
  rw [Int.toNat_natCast] at e33
  have E33 : ∀ cc x : Nat, ¬ (50 ≤ cc ∧ cc ≤ 51 ∧ x = o) → h33 cc x = h cc x := fun cc x z => by rw [e33, up_n (by omega)]; exact E28 cc x (by omega)
  rw [E33 49 10 (by omega), E33 49 15 (by omega), ho]
  refine pc_wA ?_; intro _ _ h37 e37
  rw [Int.toNat_natCast] at e37
  have E37 : ∀ cc x : Nat, ¬ (50 ≤ cc ∧ cc ≤ 52 ∧ x = o) → h37 cc x = h cc x := fun cc x z => by rw [e37, up_n (by omega)]; exact E33 cc x (by omega)
  rw [E37 49 10 (by omega), E37 49 12 (by omega), ho]
  refine pc_wA ?_; intro _ _ h41 e41
  rw [Int.toNat_natCast] at e41
  have E41 : ∀ cc x : Nat, ¬ (50 ≤ cc ∧ cc ≤ 53 ∧ x = o) → h41 cc x = h cc x := fun cc x z => by rw [e41, up_n (by omega)]; exact E37 cc x (by omega)
  rw [E41 49 10 (by omega), ho]
  refine pc_wA ?_; intro _ _ h44 e44
  rw [Int.toNat_natCast] at e44
  have E44 : ∀ cc x : Nat, ¬ (50 ≤ cc ∧ cc ≤ 54 ∧ x = o) → h44 cc x = h cc x := fun cc x z => by rw [e44, up_n (by omega)]; exact E41 cc x (by omega)
  have r50 : h44 50 o = k := by rw [e44, up_n (by omega), e41, up_n (by omega), e37, up_n (by omega), e33, up_n (by omega), e28, up_s]
  have r51 : h44 51 o = (t : Int) := by rw [e44, up_n (by omega), e41, up_n (by omega), e37, up_n (by omega), e33, up_s]
  have r52 : h44 52 o = h 49 15 := by rw [e44, up_n (by omega), e41, up_n (by omega), e37, up_s]
  have r53 : h44 53 o = h 49 12 := by rw [e44, up_n (by omega), e41, up_s]
  have r54 : h44 54 o = -1 := by rw [e44, up_s]
  have P149 : ∀ g : ms_M, g 49 10 = (o : Int) → g 2 10 = (t : Int) → Pc (qj_X10_openSign_149 nn g) (fun u => u = up_M (up_M g 49 10 ((o : Int) + 1)) 2 10 ((t + 1 : Nat) : Int)) := fun g g1 g2 => by
    unfold qj_X10_openSign_149 qj_X10_openSign_159
    rw [g1]
    refine pc_add (by omega) ?_; intro v6 e6
    refine pc_xl ?_; intro h7 e7
    rw [show h7 2 10 = (t : Int) by rw [e7, up_n (by omega)]; exact g2]
    refine pc_add (by omega) ?_; intro v3 e3
    refine pc_xl ?_; intro h4 e4
    exact pc_ret (by rw [e4, e7, e6, e3]; rfl)
  have o44 : h44 49 10 = (o : Int) := by rw [E44 49 10 (by omega)]; exact ho
  have p44 : h44 2 10 = (t : Int) := by rw [E44 2 10 (by omega)]; exact hp
  have TB44 : TBc (bK X) (bP X) (bc X) h44 := tbc_k TB (fun cc y z => E44 cc y (by omega))
  have f44 : h44 2 11 = 0 := by rw [E44 2 11 (by omega)]; exact hf
  have P94 : (k = 67 ∨ k = 69) → Pc (qj_X10_openSign_94 nn k h44) (fun u => ((SGk k ∨ h 49 12 = 302) ∧ ∃ j, OSr t o k j h u) ∨ ((k = 67 ∨ k = 69) ∧ ¬ h 49 12 = 302 ∧ u 2 11 = 6 ∧ u 2 12 = bP X p)) := fun k2 => by
    unfold qj_X10_openSign_94
    rw [E44 49 12 (by omega)]
    refine pc_if (fun z => ?_) (fun z => ?_)
    · unfold qj_X10_openSign_110
      rw [E44 49 15 (by omega)]
      refine c_wf TB44 f44 pc f15 (fun g S => ?_) (fun u y => .inr ⟨k2, z, y⟩)
      exact pc_if (fun _ => fs_qj_X10_openSign_144 S) (fun _ => fs_qj_X10_openSign_144 S)
    · have z2 : h 49 12 = 302 := Classical.byContradiction z
      unfold qj_X10_openSign_110
      refine pc_sv c_want1 ?_; intro u13 e13
      rw [e13, o44]
      have P144 : ∀ op : Int, op = (if k = 67 then 153 else 154) → Pc (qj_X10_openSign_144 nn op (o : Int) h44) (fun u => ((SGk k ∨ h 49 12 = 302) ∧ ∃ j, OSr t o k j h u) ∨ ((k = 67 ∨ k = 69) ∧ ¬ h 49 12 = 302 ∧ u 2 11 = 6 ∧ u 2 12 = bP X p)) := fun op hop => by
        unfold qj_X10_openSign_144
        refine pc_sv (c_jump (by omega) (by rw [E44 34 1 (by omega)]; omega) (by rw [E44 34 3 (by omega)]; omega)) ?_; intro u9 ⟨j1, J⟩
        rw [E44 34 1 (by omega)] at j1
        refine pc_wA ?_; intro _ _ h10 e10
        rw [Int.toNat_natCast] at e10
        have E10 : ∀ cc x : Nat, ¬ (cc = 54 ∧ x = o) → h10 cc x = u9.2 cc x := fun cc x z => by rw [e10, up_n z]
        have J4 := J.2.2.2
        have E9 : ∀ cc x : Nat, ¬ (cc = 34 ∧ (x = 1 ∨ x = 3)) → ¬ cc = 35 → u9.2 cc x = h44 cc x := fun cc x z1 z2 => J4 cc x z1 (by omega)
        refine pc_imp (P149 h10 (by rw [E10 49 10 (by omega), E9 49 10 (by omega) (by omega)]; exact o44) (by rw [E10 2 10 (by omega), E9 2 10 (by omega) (by omega)]; exact p44)) (fun u eu => .inl ⟨.inr z2, u9.1, ?_⟩)
        have EU : ∀ cc x : Nat, ¬ (cc = 2 ∧ x = 10) → ¬ (cc = 49 ∧ x = 10) → u cc x = h10 cc x := fun cc x z1 z2 => by rw [eu, up_n z1, up_n z2]
        refine ⟨⟨by rw [eu, up_s], by rw [eu, up_n (by omega), up_s], ?_, ?_, ?_, ?_, ?_⟩, fun cc x z1 z2 z3 z4 z5 => ?_, .inr ⟨k2, j1, h44, u9.2, fun cc x z => E44 cc x (by omega), by rw [← hop]; exact J, fun cc x z1 z2 z3 => ?_⟩⟩
        · rw [EU 50 o (by omega) (by omega), E10 50 o (by omega), E9 50 o (by omega) (by omega)]; exact r50
        · rw [EU 51 o (by omega) (by omega), E10 51 o (by omega), E9 51 o (by omega) (by omega)]; exact r51
        · rw [EU 52 o (by omega) (by omega), E10 52 o (by omega), E9 52 o (by omega) (by omega)]; exact r52
        · rw [EU 53 o (by omega) (by omega), E10 53 o (by omega), E9 53 o (by omega) (by omega)]; exact r53
        · rw [EU 54 o (by omega) (by omega), e10, up_s]
        · rw [EU cc x z1 z2, E10 cc x (by omega), E9 cc x z4 z5]; exact E44 cc x z3
        · rw [EU cc x z1 z2, E10 cc x (by omega)]
      exact pc_if (fun y => P144 154 (by rw [if_neg y])) (fun y => P144 153 (by rw [if_pos (Classical.byContradiction y)]))
  refine pc_if (fun z => P94 (.inl z)) (fun z1 => ?_)
  refine pc_if (fun z2 => ?_) (fun z => P94 (.inr (Classical.byContradiction z)))
  have sk : SGk k := by
    rcases kk with y | y | y
    · exact y
    · exact absurd y z1
    · exact absurd y z2
  refine pc_imp (P149 h44 o44 p44) (fun u eu => .inl ⟨.inl sk, -1, ?_⟩)
  have EU : ∀ cc x : Nat, ¬ (cc = 2 ∧ x = 10) → ¬ (cc = 49 ∧ x = 10) → u cc x = h44 cc x := fun cc x z1 z2 => by rw [eu, up_n z1, up_n z2]
  refine ⟨⟨by rw [eu, up_s], by rw [eu, up_n (by omega), up_s], ?_, ?_, ?_, ?_, ?_⟩, fun cc x z1 z2 z3 z4 z5 => ?_, .inl ⟨sk, ?_, ?_, fun x => ?_⟩⟩
  · rw [EU 50 o (by omega) (by omega)]; exact r50
  · rw [EU 51 o (by omega) (by omega)]; exact r51
  · rw [EU 52 o (by omega) (by omega)]; exact r52
  · rw [EU 53 o (by omega) (by omega)]; exact r53
  · rw [EU 54 o (by omega) (by omega)]; exact r54
  · rw [EU cc x z1 z2]; exact E44 cc x z3
  · rw [EU 34 1 (by omega) (by omega)]; exact E44 34 1 (by omega)
  · rw [EU 34 3 (by omega) (by omega)]; exact E44 34 3 (by omega)
  · rw [EU 35 x (by omega) (by omega)]; exact E44 35 x (by omega)
/-- && and || are closed -/
theorem c_closeH {tk : Nat} {pp j : Int} {u2 : ms_M} (Y : CXs X) (B : BX X u2 r) (hf : u2 2 11 = 0) (ho : u2 49 10 = (o : Int) + 1) (o4 : o < 420) (hk : u2 50 o = k) (kk : k = 67 ∨ k = 69) (hpp : u2 52 o = pp) (hj : u2 54 o = j) (j0 : 0 ≤ j ∧ j ≤ 900000) (h15 : u2 49 15 = (tk : Int)) (tc : tk < bc X) (Fc : FRc u2) (l1 : 0 ≤ u2 34 1 ∧ u2 34 1 ≤ 900000) (l3 : 0 ≤ u2 34 3 ∧ u2 34 3 ≤ 2999) : Pc (qf_X10_closeSign nn u2) (fun u => (u2 49 12 = 302 ∧ CSq X pp 302 u2 u ∧ (1 ≤ u2 34 3 → u 34 3 = u2 34 3) ∧ ∃ h1 g1 : ms_M, (∀ cc x : Nat, ¬ cc = 49 → h1 cc x = u2 cc x) ∧ CSh k j h1 g1 ∧ ∀ cc x : Nat, ¬ cc = 49 → u cc x = g1 cc x) ∨ (¬ u2 49 12 = 302 ∧ u 2 11 = 6 ∧ u 2 12 = bP X tk)) := by
  have h7 : 0 ≤ u2 34 7 := by have := B.2.1.1; omega
  unfold qf_X10_closeSign
  refine pc_sub (by omega) ?_; intro v60 e60
  rw [show v60 = (o : Int) by omega]
  refine pc_xl ?_; intro h61 e61
  have E : ∀ cc x : Nat, ¬ (cc = 49 ∧ x = 10) → h61 cc x = u2 cc x := fun cc x z => by rw [e61, up_n z]
  have o61 : h61 49 10 = (o : Int) := by rw [e61, up_s]
  have B61 : BX X h61 r := bx_k B (fun cc x z => E cc x (by omega)) (fun _ _ _ => rfl)
  have TB61 : TBc (bK X) (bP X) (bc X) h61 := B61.1.1.1.1
  have f61 : h61 2 11 = 0 := by rw [E 2 11 (by omega)]; exact hf
  refine pc_rA ?_; intro _ _ v64 e64
  rw [o61, Int.toNat_natCast, E 50 o (by omega), hk] at e64
  refine pc_rA ?_; intro _ _ v67 e67
  rw [e64]
  have P42 : Pc (qj_X10_closeSign_42 nn k h61) (fun u => (u2 49 12 = 302 ∧ CSq X pp 302 u2 u ∧ (1 ≤ u2 34 3 → u 34 3 = u2 34 3) ∧ ∃ h1 g1 : ms_M, (∀ cc x : Nat, ¬ cc = 49 → h1 cc x = u2 cc x) ∧ CSh k j h1 g1 ∧ ∀ cc x : Nat, ¬ cc = 49 → u cc x = g1 cc x) ∨ (¬ u2 49 12 = 302 ∧ u 2 11 = 6 ∧ u 2 12 = bP X tk)) := by
    unfold qj_X10_closeSign_42
    refine pc_rA ?_; intro _ _ v56 e56
    rw [o61, Int.toNat_natCast, E 54 o (by omega), hj] at e56
    rw [e56]
    unfold qf_X10_closeShort
    rw [E 49 12 (by omega)]
    by_cases z : u2 49 12 = 302
    · rw [if_neg (fun y => y z)]
      unfold qj_X10_closeShort_16
      refine p2_m ?_
      refine pc_imp c_want1 (fun u12 e12 => ?_)
      rw [e12]
      refine p2_m ?_
      refine pc_imp (c_jump (by omega) (by rw [E 34 1 (by omega)]; omega) (by rw [E 34 3 (by omega)]; omega)) (fun u15 hu15 => ?_)
      obtain ⟨j1, A1⟩ := hu15
      have a1 := A1.1
      have a3 : u15.2 34 3 = h61 34 3 := by rw [A1.2.1]; rw [E 34 3 (by omega)]; split <;> omega
      have U1 := A1.2.2.2
      rw [E 34 1 (by omega)] at a1 j1
      rw [E 34 3 (by omega)] at a3
      refine p2_m ?_
      refine pc_imp (c_pop (by omega) (by omega)) (fun u18 A2 => ?_)
      have b3 : 0 ≤ u18 34 3 ∧ u18 34 3 ≤ u2 34 3 ∧ (1 ≤ u2 34 3 → u18 34 3 = u2 34 3 - 1) := by rw [A2.1, a3]; split <;> omega
      have b1 : u18 34 1 = u2 34 1 + 3 := by rw [A2.2 34 1 (by omega)]; exact a1
      have U2 : ∀ cc x : Nat, ¬ (cc = 34 ∧ (x = 1 ∨ x = 3)) → ¬ cc = 35 → u18 cc x = h61 cc x := fun cc x z1 z2 => by rw [A2.2 cc x (by omega)]; exact U1 cc x (by omega) (by omega)
      have F18 : FRc u18 := frc_k Fc (fun cc x z => by rw [U2 cc x (by omega) (by omega)]; exact E cc x (by omega))
      refine p2_m ?_
      refine pc_imp (c_aimHere (by omega) (by omega) (by rw [U2 34 7 (by omega) (by omega), E 34 7 (by omega)]; exact h7) (by omega) F18) (fun u21 A3 => ?_)
      obtain ⟨F21, U3⟩ := cah_fr F18 A3
      have c1 : u21 34 1 = u2 34 1 + 3 := by rw [U3 34 1 (by omega) (by omega) (by omega)]; exact b1
      have c3' : u21 34 3 = u18 34 3 := U3 34 3 (by omega) (by omega) (by omega)
      have FIN : ∀ o2 : Int, o2 = (if k = 67 then 3 else 4) → Pc (mx_sv (qj_X10_closeShort_66 nn u15.1 o2 u21) fun u58 => qj_X10_closeSign_293 nn u58) (fun u => (u2 49 12 = 302 ∧ CSq X pp 302 u2 u ∧ (1 ≤ u2 34 3 → u 34 3 = u2 34 3) ∧ ∃ h1 g1 : ms_M, (∀ cc x : Nat, ¬ cc = 49 → h1 cc x = u2 cc x) ∧ CSh k j h1 g1 ∧ ∀ cc x : Nat, ¬ cc = 49 → u cc x = g1 cc x) ∨ (¬ u2 49 12 = 302 ∧ u 2 11 = 6 ∧ u 2 12 = bP X tk)) := fun o2 ho2 => by
        unfold qj_X10_closeShort_66
        refine p2_m ?_
        refine pc_imp (c_op (by omega)) (fun u2' A4 => ?_)
        have d3 : u2' 34 3 = u18 34 3 := by rw [A4.2.2 34 3 (by omega) (by omega)]; exact c3'
        refine p2_m ?_
        refine pc_imp (c_push (by omega)) (fun u5 A5 => ?_)
        have f1 : u5 34 1 = u2 34 1 + 4 := by rw [A5.2.2.2 34 1 (by omega) (by omega), A4.1, c1]; omega
        have f3 : u5 34 3 = u18 34 3 + 1 := by rw [A5.1, d3]
        have U5 : ∀ cc x : Nat, ¬ (cc = 34 ∧ (x = 1 ∨ x = 3 ∨ x = 4)) → ¬ (cc = 35 ∨ cc = 36) → u5 cc x = u21 cc x := fun cc x z1 z2 => by rw [A5.2.2.2 cc x (by omega) (by omega)]; exact A4.2.2 cc x (by omega) (by omega)
        have F5 : FRc u5 := frc_k F21 (fun cc x z => U5 cc x (by omega) (by omega))
        refine p2_m ?_
        refine pc_imp (c_aimHere (j := u15.1) (by omega) (by omega) (by rw [U5 34 7 (by omega) (by omega), U3 34 7 (by omega) (by omega) (by omega), U2 34 7 (by omega) (by omega), E 34 7 (by omega)]; exact h7) (by omega) F5) (fun u8 A6 => ?_)
        obtain ⟨F8, U8⟩ := cah_fr F5 A6
        refine p2_x ?_
        intro h9 e9
        rw [mx_svs]
        have E9 : ∀ cc x : Nat, ¬ (cc = 49 ∧ x = 12) → h9 cc x = u8 cc x := fun cc x z => by rw [e9, up_n z]
        have TOT : ∀ cc x : Nat, ¬ (cc = 34 ∧ (x = 1 ∨ x = 3 ∨ x = 4 ∨ x = 14 ∨ x = 15)) → ¬ (cc = 35 ∨ cc = 36) → ¬ (40 ≤ cc ∧ cc ≤ 42) → u8 cc x = h61 cc x := fun cc x z1 z2 z3 => by rw [U8 cc x (by omega) z3 (by omega), U5 cc x (by omega) z2, U3 cc x (by omega) z3 (by omega), U2 cc x (by omega) (by omega)]
        have o9 : h9 49 10 = (o : Int) := by rw [E9 49 10 (by omega), TOT 49 10 (by omega) (by omega) (by omega)]; exact o61
        refine pc_imp (c_293 o9) (fun u eu => .inl ⟨z, ?_⟩)
        have p9 : h9 52 o = pp := by rw [E9 52 o (by omega), TOT 52 o (by omega) (by omega) (by omega), E 52 o (by omega)]; exact hpp
        rw [p9] at eu
        have EU : ∀ cc x : Nat, ¬ (cc = 49 ∧ (x = 11 ∨ x = 12 ∨ x = 15)) → u cc x = u8 cc x := fun cc x z => by rw [eu, up_n (by omega), up_n (by omega)]; exact E9 cc x (by omega)
        have g1 : u 34 1 = u2 34 1 + 4 := by rw [EU 34 1 (by omega), U8 34 1 (by omega) (by omega) (by omega)]; exact f1
        have g3 : u 34 3 = u18 34 3 + 1 := by rw [EU 34 3 (by omega), U8 34 3 (by omega) (by omega) (by omega)]; exact f3
        have t12 : u 49 12 = 302 := by rw [eu, up_n (by omega), up_n (by omega), e9, up_s]
        refine ⟨⟨fun cc x z1 z2 z3 z4 => by rw [EU cc x (by omega), TOT cc x z1 z2 z3]; exact E cc x (by omega), frc_k F8 (fun cc x z => EU cc x (by omega)), ⟨by omega, by omega⟩, ⟨?_, ?_, t12, ?_⟩, ?_⟩, by omega, ?_⟩
        · rw [EU 49 10 (by omega), TOT 49 10 (by omega) (by omega) (by omega), o61]; omega
        · rw [eu, up_s]
        · rw [eu, up_n (by omega), up_s]
        · exact cp_top A5 (by omega) (by omega) (fun x => by rw [EU 36 x (by omega), U8 36 x (by omega) (by omega) (by omega)]) t12
        · refine ⟨h61, u8, fun cc x z => E cc x (by omega), ⟨u15.2, u18, u21, u2', u5, A1, A2, A3, by rw [← ho2]; exact A4, A5, ?_⟩, fun cc x z => EU cc x (by omega)⟩
          rw [E 34 1 (by omega), ← j1]
          exact A6
      by_cases k7 : k = 67
      · rw [if_neg (fun y => y k7)]
        exact FIN 3 (by rw [if_pos k7])
      · rw [if_pos k7]
        exact FIN 4 (by rw [if_neg k7])
    · rw [if_pos z]
      unfold qj_X10_closeShort_16
      rw [E 49 15 (by omega)]
      refine p2_m ?_
      refine pc_imp (c_want0 TB61 f61 tc h15) (fun u12 s => ?_)
      have S : ¬ u12 2 11 = 0 := by omega
      have TAIL : Pc (mx_sv (qf_X1_jump nn 167 0 u12) fun u15 => mx_sv (qf_X1_pop nn 1 u15.2) fun u18 => mx_sv (qf_X1_aimHere nn j u18) fun u21 => if ¬ k = 67 then (qj_X10_closeShort_66 nn u15.1 4 u21) else (qj_X10_closeShort_66 nn u15.1 3 u21)) (fun u => FSc u12 u) := by
        refine pc_sv (fs_qf_X1_jump S) ?_; intro u15 F1
        have S1 : ¬ u15.2 2 11 = 0 := by rw [F1.1]; exact S
        refine pc_sv (fs_qf_X1_pop S1) ?_; intro u18 F2
        have S2 : ¬ u18 2 11 = 0 := by rw [F2.1]; exact S1
        refine pc_sv (fs_qf_X1_aimHere S2) ?_; intro u21 F3
        have S3 : ¬ u21 2 11 = 0 := by rw [F3.1]; exact S2
        exact pc_if (fun _ => pc_imp (fs_qj_X10_closeShort_66 S3) (fun u F4 => fs_t F1 (fs_t F2 (fs_t F3 F4)))) (fun _ => pc_imp (fs_qj_X10_closeShort_66 S3) (fun u F4 => fs_t F1 (fs_t F2 (fs_t F3 F4))))
      refine pc_sv TAIL ?_; intro u58 F
      exact pc_imp (fs_qj_X10_closeSign_293 (by rw [F.1]; exact S)) (fun u F2 => .inr ⟨z, by rw [F2.1, F.1]; exact s.1, by rw [F2.2, F.2]; exact s.2⟩)
  refine pc_if (fun _ => P42) (fun z1 => ?_)
  exact pc_if (fun z2 => absurd kk (by omega)) (fun _ => P42)
end

/- S of both sides: BLOCK -/
/-- behind the last S of a BLOCK -/
def S7k (nn : Nat) (X : BCx) (e a b : Int) (p q : Nat) (bb l2 l3 l5 : Int) (h r : ms_M) (x y : Int × ms_M) : Prop := ∃ (en : Int) (g v : ms_M), (en = 0 ∨ en = 1) ∧ x = (en, up_M (up_M g 2 10 ((q + 1 : Nat) : Int)) 34 7 l2) ∧ y = (en, up_M v 160 50 l5) ∧ SKl X a b p q bb h r g v ∧ ∀ (kf : Nat) (had : Int) (d2 : Nat) (PB : Nat → Prop) (WL : Int → Int → Prop) (L : List (Int × Int)) (lb lh : Int) (m : ms_M), MGi X PB WL L lb lh a b p q h r v m → Pc (qw_X13_make_80 nn (qg_X13_make nn d2) kf had l3 e m) (fun w => w.1 = en ∧ ∃ w1, w.2 = up_M w1 160 50 had ∧ MGq X PB WL L lb lh p q h r g m w1)
def S7 (nn : Nat) (X : BCx) (d a b : Int) (p q : Nat) (e : Int) : Prop := ∀ (dc dr k k2 : Nat) (h r : ms_M) (bb l2 l3 l4 l5 : Int), SPq X d p bb h r → UNr X a b r → (l3 = 0 ∨ l3 = 1) → (0 ≤ l4 ∧ l4 ≤ (p : Int)) → Pc (qw_X0_readBlock_26 nn (qg_X0_readBlock nn dc) k d l2 l3 l4 h) (fun x => Pc (qw_X13_ruled_88 nn (qg_X13_ruled nn dr) k2 l5 l3 e r) (fun y => SFj x.2 y.2 ∨ S7k nn X e a b p q bb l2 l3 l5 h r x y))
def S8 (nn : Nat) (X : BCx) (d a b : Int) (p q : Nat) (s : Int) : Prop := ∀ (dc dr : Nat) (h r : ms_M) (bb : Int), SPq X d p bb h r → UNr X a b r → Pc ((qg_X0_readBlock nn dc).1 d h) (fun x => Pc ((qg_X13_ruled nn dr) s r) (fun y => SFj x.2 y.2 ∨ SOk nn X s a b p q bb h r x y))
section
variable {nn : Nat} {X : BCx} {dp i a b a1 b1 a2 b2 e s bb lb lh d d1 o en k ix y0 : Int} {p q t uu : Nat} {h g u r w w1 m z v vF : ms_M} {PB : Nat → Prop} {WL : Int → Int → Prop} {L Z1 : List (Int × Int)}
theorem s7_ln (Y : CXs X) (kp : bK X p = 43) (pc : p + 1 < bc X) : S7 nn X d a b p p (-1) := by
  intro dc dr k k2 h r bb l2 l3 l4 l5 Q U hl h4
  have Q0 := Q
  obtain ⟨⟨B, ⟨q1, q2, q3, q4⟩, ⟨f1, f2, f3⟩, o1⟩, -⟩ := Q0
  have c3 := Y.1.2.1
  cases k with
  | zero => exact fun _ z => nomatch z
  | succ k =>
    unfold qw_X0_readBlock_26
    refine pc_if (fun z => absurd z (by omega)) (fun _ => ?_)
    refine pc_if (fun z => absurd q3 z) (fun _ => ?_)
    refine pc_sv (c_kind Y.1 B.1.1.1.1 q2 q1 q3) ?_; intro u15 q15
    refine pc_if (fun _ => ?_) (fun z => absurd (show u15 = 43 by omega) z)
    unfold qj_X0_readBlock_88
    rw [q1]
    refine pc_add (by omega) ?_; intro v3 e3
    refine pc_xl ?_; intro h4' e4
    refine pc_xl ?_; intro h6 e6
    refine pc_ck (fun _ => pc_ret ?_)
    cases k2 with
    | zero => exact fun _ z => nomatch z
    | succ k2 =>
      unfold qw_X13_ruled_88
      refine pc_if (fun _ => ?_) (fun z => absurd rfl z)
      unfold qj_X13_ruled_140
      refine pc_xl ?_; intro h141 e141
      refine pc_ck (fun _ => pc_ret (.inr ⟨l3, h, r, hl, ?_, ?_, skl_0 Q, fun kf had d2 PB WL L lb lh m I => ?_⟩))
      · rw [e6, e4, show v3 = ((p + 1 : Nat) : Int) by omega]
      · rw [e141]
      · cases kf with
        | zero => exact fun _ z => nomatch z
        | succ kf =>
          unfold qw_X13_make_80
          refine pc_if (fun _ => ?_) (fun z => absurd rfl z)
          refine pc_xl ?_; intro h32 e32
          exact pc_ck (fun _ => pc_ret ⟨rfl, m, e32, mg_nil I.1.1 mwf_r (Int.le_refl _) (Int.le_refl _) rfl⟩)
theorem s7_lc (Y : CXs X) (pc : p + 1 < bc X) (ne : 0 ≤ a ∧ a ≤ e ∧ e < y0 ∧ y0 ≤ b) (n43 : ¬ bK X p = 43) (bg : bT X 169 e.toNat = (p : Int)) (H6 : S6 nn X d a y0 p t e) (H7 : S7 nn X d y0 b t q (bT X 173 e.toNat)) : S7 nn X d a b p q e := by
  intro dc dr k k2 h r bb l2 l3 l4 l5 Q U hl h4
  have Q0 := Q
  obtain ⟨⟨B, ⟨q1, q2, q3, q4⟩, ⟨f1, f2, f3⟩, o1⟩, ⟨h3, h10, r57, h7⟩, ⟨LP, l54, br⟩, -⟩ := Q0
  have T : ∀ cc y : Nat, ((163 ≤ cc ∧ cc ≤ 173) ∨ cc = 177) → r cc y = bT X cc y := B.2.2.2.2.2.1
  have c3 := Y.1.2.1
  have G := fsg_X0_readBlock nn dc
  have Gr : FSrG_X13_ruled (qg_X13_ruled nn dr) := ftg_X13_ruled nn dr
  cases k with
  | zero => exact fun _ z => nomatch z
  | succ k =>
    unfold qw_X0_readBlock_26
    refine pc_if (fun z => absurd z (by omega)) (fun _ => ?_)
    refine pc_if (fun z => absurd q3 z) (fun _ => ?_)
    refine pc_sv (c_kind Y.1 B.1.1.1.1 q2 q1 q3) ?_; intro u15 q15
    refine pc_if (fun z => absurd z (by omega)) (fun _ => ?_)
    refine pc_if (fun z3 => ?_) (fun z3 => ?_)
    · -- it can be reached
      unfold qj_X0_readBlock_76
      refine pc_sv (H6 dc dr h r bb Q (unr_k U ⟨Int.le_refl _, ne.2.2.2⟩ (fun _ _ _ _ _ _ => rfl))) ?_; intro u9 H9
      refine pc_xl ?_; intro v10 e10
      intro x ex
      cases k2 with
      | zero => exact fun _ z => nomatch z
      | succ k2 =>
        unfold qw_X13_ruled_88
        refine pc_if (fun z => absurd z (by omega)) (fun _ => ?_)
        refine pc_if (fun z => absurd q4 z) (fun _ => ?_)
        refine pc_if (fun _ => ?_) (fun z => absurd z3 z)
        refine pc_sv H9 ?_; intro y hy
        unfold qj_X13_ruled_128
        refine pc_rA ?_; intro _ _ v144 e144
        rcases hy with S | ⟨⟨e1, e2⟩, SK, MG⟩
        · have F := fs_qw_X0_readBlock_26 G k d l2 u9.1 v10 u9.2 S.1 x ex
          refine pc_imp (ft_qw_X13_ruled_88 Gr k2 l5 y.1 v144 y.2 (sf_r S)) (fun y2 Fy => .inl ?_)
          exact sf_c ⟨S.1, by rw [Fy.1]; exact S.2.1, by rw [Fy.2]; exact S.2.2⟩ F
        · have SL := skl_k SK
          rw [SK.2.1.1.2.2.2.2.2.1 173 _ (by omega)] at e144
          rw [e144, ← e1]
          have e10' : v10 = l4 + 1 := by rw [e10, oq_add_eq (by omega) (by omega) (by omega)]
          have U7 : UNr X y0 b y.2 := unr_k U ⟨by omega, Int.le_refl _⟩ (fun cc x c1 c2 c4 c5 => SK.2.1.2.2.2.1 cc x (by omega) (by omega) (by omega))
          have W := H7 dc dr k k2 u9.2 y.2 bb l2 u9.1 v10 l5 (spq_n Q SL) U7 e2 (by have := SK.1.2.2.1; omega) x ex
          refine pc_imp W (fun y2 H2 => ?_)
          rcases H2 with S | ⟨en, g, v, k1, k2', k3, k4, k5⟩
          · exact .inl S
          · refine .inr ⟨en, g, v, k1, k2', k3, skl_t SL k4 ⟨Int.le_refl _, ne.2.2.2⟩ ⟨by omega, Int.le_refl _⟩, fun kf had d2 PB WL L lb lh m I => ?_⟩
            cases kf with
            | zero => exact fun _ z => nomatch z
            | succ kf =>
              unfold qw_X13_make_80
              refine pc_if (fun z => absurd z (by omega)) (fun _ => ?_)
              have R7 := k4.2.1.2.2
              have A1 : AN a y0 y.2 m := an_s I.1.2 ⟨Int.le_refl _, ne.2.2.2⟩ (fun cc x c1 c2 c4 c5 => R7.2.1 cc x c1 c2 (by omega))
              have I1 : MGi X PB WL L lb lh a y0 p t h r y.2 m := ⟨⟨I.1.1, A1⟩, ⟨I.2.1.1, by have := I.2.1.2.1; have := k4.1.2.2.1; omega, I.2.1.2.2⟩, I.2.2⟩
              refine pc_sv (MG d2 PB WL L lb lh m I1) ?_; intro w ⟨wen, ⟨Z1, MZ⟩, Fw⟩
              refine pc_rA ?_; intro _ _ v37 e37
              rw [MZ.1.1.2.2.2.2.2.2.2.2.2.2.2 173 _ (by omega)] at e37
              rw [e37, wen]
              have I2 := mgi_n (a2 := y0) (b2 := b) I LP SL MZ Fw (an_m (an_s I.1.2 ⟨by omega, Int.le_refl _⟩ (fun _ _ _ _ _ _ => rfl)) (fun cc x c1 c2 => Fw.1.2.1 cc x c1 c2))
              have c9 := SK.2.1.2.1.2.1
              have c0 : 0 ≤ h 33 12 := by have := LP.1; omega
              refine pc_imp (k5 kf had d2 _ _ _ lb lh w.2 I2) (fun w2 y3 => ?_)
              obtain ⟨z1, w3, z2, z3'⟩ := y3
              exact ⟨z1, w3, z2, mg_seq MZ Fw SK.2.1.2.2.2.2.1.1 k4.2.1.2.1 ⟨c9.1, c9.2.1⟩ c0 z3'⟩
    · -- dead
      have l30 : l3 = 0 := Classical.byContradiction z3
      refine pc_sv (c_tell B.1.1.1.1 q3 q2 q1) ?_; intro u20 ⟨s1, _⟩
      refine pc_imp (fs_qj_X0_readBlock_76 G (fun z0 z1 z2 z3 z4 S4 => fs_qw_X0_readBlock_26 G k z0 z1 z2 z3 z4 S4) (h := u20) (by omega)) (fun x F => ?_)
      cases k2 with
      | zero => exact fun _ z => nomatch z
      | succ k2 =>
        unfold qw_X13_ruled_88
        refine pc_if (fun z => absurd z (by omega)) (fun _ => ?_)
        refine pc_if (fun z => absurd q4 z) (fun _ => ?_)
        refine pc_if (fun z => absurd l30 z) (fun _ => ?_)
        refine pc_rA ?_; intro _ _ v149 e149
        rw [T 169 _ (by omega), bg] at e149
        refine pc_sv (r_wrong B.1.1.2.2.1 q2 q4 e149) ?_; intro u151 w1
        unfold qj_X13_ruled_128
        refine pc_rA ?_; intro _ _ v144 _
        refine pc_imp (ft_qw_X13_ruled_88 Gr k2 l5 l3 v144 u151 (by omega)) (fun y Fy => .inl ?_)
        exact sf_mk (c := 9) (pl := bP X p) (by decide) (by rw [F.1]; exact s1.1) (by rw [F.2]; exact s1.2) (Fy.1.trans w1.1) (Fy.2.trans w1.2)
end

/- the aim of a jump, and the FRAME there, on both sides -/
/-- a jump of the class gets the place where the CODE has come to -/
def CAH (j : Int) (h u : ms_M) : Prop := ∃ (g1 : ms_M) (s : Int) (g2 : ms_M), CAm j (h 34 1) h g1 ∧ SLc (h 34 1) g1 s g2 ∧ FLc s (h 34 7) (h 34 3) g2 u
/-- what the making of an E leaves as it is -/
def MFe (m w : ms_M) : Prop := (∀ cc x : Nat, ¬ (cc = 160 ∧ (x = 57 ∨ x = 62 ∨ x = 64 ∨ x = 66 ∨ x = 68 ∨ x = 70 ∨ x = 71 ∨ x = 78 ∨ x = 79 ∨ x = 87 ∨ x = 88)) → ¬ (199 ≤ cc ∧ cc ≤ 212) → ¬ (cc = 217 ∨ cc = 218) → w cc x = m cc x) ∧ m 160 88 ≤ w 160 88
section
variable {nn : Nat} {K V : Nat → Int} {C : Nat → Nat} {W : Nat → List Int} {n F : Nat} {own : Int} {a b T h g u m w v : ms_M} {PB : Nat → Prop} {WL : Int → Int → Prop} {L L2 : List (Int × Int)}
theorem mfe_r : MFe m m := ⟨fun _ _ _ _ _ => rfl, Int.le_refl _⟩
theorem mfe_t (A : MFe m w) (B : MFe w v) : MFe m v := ⟨fun cc x z1 z2 z3 => (B.1 cc x z1 z2 z3).trans (A.1 cc x z1 z2 z3), Int.le_trans A.2 B.2⟩
theorem gd_at {e d : Int × Int} (B : List (Int × Int)) : ∀ A : List (Int × Int), (A ++ e :: B).getD A.length d = e := by
  intro A
  induction A with
  | nil => rfl
  | cons x A ih =>
    show (A ++ e :: B).getD A.length d = e
    exact ih
theorem gd_rm {e d : Int × Int} (B : List (Int × Int)) : ∀ (A : List (Int × Int)) (i : Nat), (A ++ B).getD i d = (A ++ e :: B).getD (if i < A.length then i else i + 1) d := by
  intro A
  induction A with
  | nil =>
    intro i
    rw [if_neg (show ¬ i < ([] : List (Int × Int)).length from Nat.not_lt_zero i)]
    rfl
  | cons x A ih =>
    intro i
    cases i with
    | zero =>
      rw [if_pos (show 0 < (x :: A).length from Nat.succ_pos _)]
      rfl
    | succ i =>
      have q := ih i
      by_cases z : i < A.length
      · rw [if_pos z] at q
        rw [if_pos (show i + 1 < (x :: A).length from Nat.succ_lt_succ z)]
        show (A ++ B).getD i d = (A ++ e :: B).getD i d
        exact q
      · rw [if_neg z] at q
        rw [if_neg (show ¬ i + 1 < (x :: A).length from fun y => z (Nat.lt_of_succ_lt_succ y))]
        show (A ++ B).getD i d = (A ++ e :: B).getD (i + 1) d
        exact q
theorem jlb_rm {A B : List (Int × Int)} {e : Int × Int} (J : JLb (A ++ e :: B) m) (e1 : m 160 68 ≤ w 160 68) (e2 : m 160 88 ≤ w 160 88) : JLb (A ++ B) w := by
  obtain ⟨j1, j2, j3, j4⟩ := J
  have l1 : (A ++ e :: B).length = A.length + (B.length + 1) := by rw [List.length_append]; rfl
  have l2 : (A ++ B).length = A.length + B.length := List.length_append
  rw [l1] at j1 j2 j3
  refine ⟨by rw [l2]; omega, fun i hi => ?_, fun i k ik hk => ?_, by omega⟩
  · rw [l2] at hi
    rw [gd_rm (e := e) B A i]
    have := j2 (if i < A.length then i else i + 1) (by split <;> omega)
    omega
  · rw [l2] at hk
    rw [gd_rm (e := e) B A i, gd_rm (e := e) B A k]
    refine j3 _ _ ?_ ?_
    · split <;> split <;> omega
    · split <;> omega
theorem cah_fr {j : Int} (Fc : FRc h) (X : CAH j h u) : FRc u ∧ (∀ cc x : Nat, ¬ cc = 35 → ¬ (40 ≤ cc ∧ cc ≤ 42) → ¬ (cc = 34 ∧ (x = 14 ∨ x = 15)) → u cc x = h cc x) := by
  obtain ⟨g1, s, g2, CA, SL, FL⟩ := X
  have e := CA.2
  have F1 : FRc g1 := frc_k Fc (fun cc x z => e cc x (fun y => absurd y (by omega)))
  obtain ⟨G, -⟩ := sl_sk F1 SL
  have F2 : FRc g2 := SL.1
  rcases FL with ⟨-, -, a3⟩ | ⟨-, -, a3⟩
  · exact ⟨frc_k F2 (fun cc x z => a3 cc x (by omega)), fun cc x z1 z2 z3 => by rw [a3 cc x (by omega), G cc x (by omega) (by omega) (by omega)]; exact e cc x (fun y => absurd y z1)⟩
  · exact ⟨frc_k F2 (fun cc x z => a3 cc x (by omega)), fun cc x z1 z2 z3 => by rw [a3 cc x (by omega), G cc x (by omega) (by omega) (by omega)]; exact e cc x (fun y => absurd y z1)⟩
theorem c_aimHere {j : Int} (hj : -1 ≤ j ∧ j ≤ 1000000) (hl : 0 ≤ h 34 1 ∧ h 34 1 ≤ 1000000) (h7 : 0 ≤ h 34 7) (h3 : 0 ≤ h 34 3) (Fc : FRc h) : Pc (qf_X1_aimHere nn j h) (fun u => CAH j h u) := by
  unfold qf_X1_aimHere
  refine pc_sv (c_aim hj hl) ?_; intro u3 q3
  have e := q3.2
  have x1 : u3 34 1 = h 34 1 := e 34 1 (fun z => absurd z (by omega))
  rw [x1]
  have F3 : FRc u3 := frc_k Fc (fun cc x z => e cc x (fun y => absurd y (by omega)))
  refine pc_sv (c_slot hl.1 F3) ?_; intro u6 q6
  obtain ⟨G, SK⟩ := sl_sk F3 q6
  have f14 := q6.1.1
  rw [G 34 7 (by omega) (by omega) (by omega), G 34 3 (by omega) (by omega) (by omega), e 34 7 (fun z => absurd z (by omega)), e 34 3 (fun z => absurd z (by omega))]
  have hs : -1 ≤ u6.1 ∧ u6.1 < 100 := by
    rcases SK with ⟨z, -⟩ | ⟨k, z1, z2, -⟩
    · omega
    · omega
  refine pc_sv (c_fill hs h7 h3) ?_; intro u10 q10
  exact pc_ret ⟨u3, u6.1, u6.2, q3, q6, q10⟩
/-- the bytes of one aim -/
theorem cb_aim {j x : Int} {B : Nat → Int} (C : CBY PB h m) (A : CAm j x h g) (ex : x = h 34 1) (hj : 0 ≤ j ∧ j + 3 ≤ m 160 68) (e68 : w 160 68 = m 160 68) (eB : ∀ y : Nat, w 206 y = (if j + 2 < 12000 then b2_L x j (m 206) else m 206) y) : CBY PB g w := by
  obtain ⟨⟨c1, c2⟩, c3⟩ := C
  obtain ⟨a1, a2⟩ := A
  have g1 : g 34 1 = h 34 1 := a2 34 1 (fun z => absurd z (by omega))
  have g5 : g 45 5 = h 45 5 := a2 45 5 (fun z => absurd z (by omega))
  refine ⟨by omega, fun o l y hy p => ?_⟩
  rw [g5] at o
  obtain ⟨d1, d2⟩ := a1 hj.1 (by omega)
  rw [eB y, if_pos (show j + 2 < 12000 by omega)]
  unfold b2_L
  by_cases q2 : y = (j + 2).toNat
  · rw [if_pos q2, show y = j.toNat + 2 by omega, d2]
    exact by_rel (by unfold in_R; omega)
  · rw [if_neg q2]
    by_cases q1 : y = (j + 1).toNat
    · rw [if_pos q1, show y = j.toNat + 1 by omega, d1]
      exact by_rel (oq_shr_R _ _)
    · rw [if_neg q1, a2 35 y (fun _ => by omega)]
      exact c3 o (by omega) y (by omega) p
/-- one jump that waits for its label gets its aim -/
theorem mk_aim {j f x : Int} {A B : List (Int × Int)} (M : MK K V C W n F own a b T PB WL L h m) (eL : L = A ++ (j, f) :: B) (nA : ¬ hs_L f A) (nB : ¬ hs_L f B) (X : CAH j h u) (ex : x = m 160 68) (bl : h 34 1 ≤ 990000) (b3 : h 34 3 ≤ 3000) : Pc (qf_X13_stands nn f x m) (fun w => MK K V C W n F own a b T PB WL (A ++ B) u w ∧ MFe m w ∧ w 160 88 = m 160 88) := by
  obtain ⟨⟨c, ⟨J, JB⟩, FK, MB⟩, SK⟩ := M
  rw [eL] at J JB FK
  have l1 : (A ++ (j, f) :: B).length = A.length + (B.length + 1) := by rw [List.length_append]; rfl
  have l2 : (A ++ B).length = A.length + B.length := List.length_append
  have hh : hs_L f (A ++ (j, f) :: B) := (hs_app A _).mpr (.inr (.inl rfl))
  have hfl : fl_L f (A ++ (j, f) :: B) = A ++ B := by
    rw [fl_app, fl_no A nA]
    show A ++ (if f = f then fl_L f B else (j, f) :: fl_L f B) = A ++ B
    rw [if_pos rfl, fl_no B nB]
  have ham : am_L f x (A ++ (j, f) :: B) (m 206) = (if j + 2 < 12000 then b2_L x j (m 206) else m 206) := by
    rw [am_app, am_no A _ nA]
    show am_L f x B (if f = f ∧ j + 2 < 12000 then b2_L x j (m 206) else m 206) = _
    rw [am_no B _ nB]
    by_cases z : j + 2 < 12000
    · rw [if_pos ⟨rfl, z⟩, if_pos z]
    · rw [if_neg (fun y => z y.2), if_neg z]
  have hjx : 0 ≤ j ∧ j + 3 ≤ m 160 68 := by
    have q := JB.2.1 A.length (by rw [l1]; omega)
    rw [gd_at] at q
    exact ⟨q.1, q.2.1⟩
  have c1 := c.1
  obtain ⟨⟨k1, k2, k3⟩, ⟨k4, k5⟩, k6⟩ := FK
  rw [l1] at k4 k6
  have MB0 := MB
  obtain ⟨⟨⟨s1, s2, s3⟩, s4, s5⟩, HD, -, -, ⟨⟨t1, t2⟩, t3, t4, -, -⟩⟩ := MB0
  have SK0 := SK
  obtain ⟨⟨y1, y2, y3, y4⟩, y5⟩ := SK0
  have F1 : F ≤ 1 := by
    rcases s4 with z | ⟨z, -⟩ <;> omega
  have r78 := k2.1
  refine r_stands J (by omega) JB.1 (fun i hi => by have := JB.2.1 i hi; omega) (fun w1 JW BW WF => .inr ⟨hh, ?_⟩)
  rw [hfl] at JW
  rw [ham] at BW
  have X0 := X
  obtain ⟨g1, s, g2, CA, SL, FL⟩ := X
  have e := CA.2
  have G1 : ∀ cc y : Nat, ¬ cc = 35 → g1 cc y = h cc y := fun cc y z => e cc y (fun q => absurd q z)
  have W1 : ∀ cc y : Nat, ¬ (cc = 206 ∨ cc = 217 ∨ cc = 218) → ¬ (cc = 160 ∧ y = 87) → w1 cc y = m cc y := WF
  have Fc1 : FRc g1 := frc_k k1 (fun cc y z => G1 cc y (by omega))
  have Fr1 : FRr w1 := frr_k k2 (fun cc y z => W1 cc y (by omega) (by omega))
  refine pc_imp (r_frame (F := F) Fr1 (by rw [W1 160 53 (by omega) (by omega)]; exact t3) (by rw [W1 160 70 (by omega) (by omega)]; omega) (by rw [W1 160 50 (by omega) (by omega)]; omega) (by rw [W1 160 79 (by omega) (by omega)]; exact k3) (by rw [W1 160 52 (by omega) (by omega)]; omega) (by rw [W1 160 78 (by omega) (by omega)]; omega)) (fun w q => ?_)
  obtain ⟨Fw, fi, RF⟩ := q
  have C1 : CBY PB g1 w1 := cb_aim (B := m 206) c CA rfl hjx (W1 160 68 (by omega) (by omega)) (fun y => by rw [BW y, ex, c1.1])
  have RW := RF.2.2.2.2
  have FB := frk_both (WL := WL) (L2 := A ++ B) (F := F) (h := g1) (m := w1) Fc1 Fr1 (by rw [W1 160 79 (by omega) (by omega)]; exact k3) (by rw [l2, W1 160 78 (by omega) (by omega), W1 160 68 (by omega) (by omega), W1 160 84 (by omega) (by omega)]; omega) (fun z => by
    obtain ⟨z1, z2, z3⟩ := z
    rw [G1 34 1 (by omega)] at z1
    rw [G1 34 8 (by omega)] at z2
    rw [G1 34 4 (by omega)] at z3
    have q := (k6 ⟨z1, z2, z3⟩).1
    rw [l2, W1 160 79 (by omega) (by omega), W1 160 68 (by omega) (by omega), W1 160 84 (by omega) (by omega)]
    omega) (fun p k z => by rw [W1 160 68 (by omega) (by omega)]; exact k5 p k z) (fun z => by
    obtain ⟨z1, z2, z3⟩ := z
    rw [G1 34 1 (by omega)] at z1
    rw [G1 34 8 (by omega)] at z2
    rw [G1 34 4 (by omega)] at z3
    exact frj_k (k6 ⟨z1, z2, z3⟩).2 (fun cc y z => G1 cc y (by omega)) (fun cc y z => W1 cc y (by omega) (by omega))) (by rw [W1 160 84 (by omega) (by omega), G1 34 15 (by omega)]; exact fun z => (HD.2.2.1 z).2) SL FL SL.1 (by rw [ex, ← c1.1] at RF; exact RF) Fw (by rw [W1 160 68 (by omega) (by omega)]; exact c1.1) (by rw [G1 34 1 (by omega), W1 160 68 (by omega) (by omega)]; exact c1.1) (by rw [G1 34 8 (by omega)]; omega) (by rw [G1 34 4 (by omega)]; omega) (by rw [W1 160 50 (by omega) (by omega)]; exact s1) (by rw [W1 160 70 (by omega) (by omega)]; exact y1) (by rw [W1 160 50 (by omega) (by omega)]; exact s2) F1 (by
    rw [W1 160 52 (by omega) (by omega), G1 38 0 (by omega)]
    rcases s4 with z | ⟨z1, -, z2⟩
    · exact .inl z
    · exact .inr ⟨z1, ⟨by rw [z2]; exact t4.1, t2.2 0 (by omega)⟩⟩) (fun i hi => by
    rw [W1 160 50 (by omega) (by omega)] at hi
    rw [W1 197 i (by omega) (by omega), G1 38 _ (by omega)]
    exact ⟨(s5 i hi).2.2.2, t2.2 _ (by omega)⟩) (fun i hi i20 => by
    rw [W1 160 70 (by omega) (by omega)] at hi
    rw [W1 207 i (by omega) (by omega), G1 36 _ (by omega)]
    exact y5 i (by omega) i20)
  obtain ⟨FK2, UF, U15⟩ := FB
  have UH : ∀ cc y : Nat, ¬ cc = 35 → ¬ (40 ≤ cc ∧ cc ≤ 42) → ¬ (cc = 34 ∧ (y = 14 ∨ y = 15)) → u cc y = h cc y := fun cc y z1 z2 z3 => (UF cc y z2 z3).trans (G1 cc y z1)
  have WM : ∀ cc y : Nat, ¬ (cc = 206 ∨ cc = 217 ∨ cc = 218) → ¬ (208 ≤ cc ∧ cc ≤ 212) → ¬ (cc = 160 ∧ (y = 78 ∨ y = 79 ∨ y = 87)) → w cc y = m cc y := fun cc y z1 z2 z3 => (RW cc y (by omega) (by omega) (by omega)).trans (W1 cc y z1 (by omega))
  refine ⟨⟨⟨cby_k C1 (fun cc y z => UF cc y (by omega) (by omega)) (fun cc y z => RW cc y (by omega) (by omega) (by omega)), ⟨jl_k JW (fun cc y z => RW cc y (by omega) (by omega) (by omega)), jlb_rm JB (by rw [WM 160 68 (by omega) (by omega) (by omega)]; exact Int.le_refl _) (by rw [WM 160 88 (by omega) (by omega) (by omega)]; exact Int.le_refl _)⟩, FK2, mb_k MB (fun cc y z => UH cc y (by omega) (by omega) (by omega)) (fun z => U15 (by rw [G1 34 15 (by omega)]; exact z)) (fun cc y z => WM cc y (by omega) (by omega) (by omega))⟩, skj_k SK (fun cc y z => UH cc y (by omega) (by omega) (by omega)) (fun cc y z => WM cc y (by omega) (by omega) (by omega))⟩, ⟨fun cc y z1 z2 z3 => WM cc y (by omega) (by omega) (by omega), by rw [WM 160 88 (by omega) (by omega) (by omega)]; exact Int.le_refl _⟩, WM 160 88 (by omega) (by omega) (by omega)⟩
/-- nothing waits for that label -/
theorem mk_none {f x : Int} (M : MK K V C W n F own a b T PB WL L h m) (nL : ¬ hs_L f L) (hx : 0 ≤ x ∧ x ≤ 1000000) (bl : h 34 1 ≤ 1000000) : Pc (qf_X13_stands nn f x m) (fun w => MK K V C W n F own a b T PB WL L h w ∧ MFe m w ∧ w 160 88 = m 160 88) := by
  have M0 := M
  obtain ⟨⟨c, ⟨J, JB⟩, FK, MB⟩, SK⟩ := M
  have c1 := c.1
  refine r_stands J hx JB.1 (fun i hi => by have := JB.2.1 i hi; omega) (fun w1 JW BW WF => .inl ⟨nL, ?_⟩)
  rw [fl_no L nL] at JW
  rw [am_no L _ nL] at BW
  have E : ∀ cc y : Nat, ¬ (cc = 217 ∨ cc = 218) → ¬ (cc = 160 ∧ y = 87) → w1 cc y = m cc y := fun cc y z1 z2 => by
    by_cases q : cc = 206
    · rw [q]; exact BW y
    · exact WF cc y (by omega) z2
  have x68 := E 160 68 (by omega) (by omega)
  have x88 := E 160 88 (by omega) (by omega)
  refine ⟨⟨⟨cby_k c (fun _ _ _ => rfl) (fun cc y z => E cc y (by omega) (by omega)), ⟨JW, jlb_k JB (by omega) (by omega)⟩, frk_k FK (fun _ _ _ => rfl) ⟨Int.le_refl _, Int.le_refl _, Int.le_refl _⟩ (fun cc y z => E cc y (by omega) (by omega)) (by omega) (by omega) (by omega), mb_k MB (fun _ _ _ => rfl) id (fun cc y z => E cc y (by omega) (by omega))⟩, skj_k SK (fun _ _ _ => rfl) (fun cc y z => E cc y (by omega) (by omega))⟩, ⟨fun cc y z1 z2 z3 => E cc y (by omega) (by omega), by omega⟩, x88⟩
end

/- a class is closed, both sides -/
section
variable {nn : Nat} {X : BCx} {a b : Nat → Int} {p q : Nat → Nat} {L0 : Int} {k j i n : Nat} {h g u r v m m0 w y R0 : ms_M}
theorem c_tokC (Y : CXs X) (kn : k < bn X) (J : JBw X h r) : Pc (qf_X2_tokenOfClass nn (k : Int) h) (fun t => t = ((bC X k : Nat) : Int)) := by
  have n8 := Y.2.2.1
  obtain ⟨-, -, h11, h15⟩ := J.1.1.1
  unfold qf_X2_tokenOfClass
  refine pc_if (fun z => absurd z (by omega)) (fun _ => pc_if (fun z => absurd z (by omega)) (fun _ => ?_))
  refine pc_rA ?_; intro _ _ v3 e3
  rw [Int.toNat_natCast, h15 k kn] at e3
  exact pc_ret e3
theorem m_rest {qkk : Int → Int → ms_M → Option ms_M} {u28 : ms_M} (w9 : w 160 9 = 0) (w28 : w 160 28 = (bM X : Int)) (T : ∀ cc x : Nat, (178 ≤ cc ∧ cc ≤ 195) → w cc x = bB X cc x) (zN : ∀ i : Nat, j ≤ i → i < bM X → ¬ MSm (bB X) k 1 i) : ∀ (d f2 : Nat) (j2 : Nat), j ≤ j2 → j2 + d = bM X → qw_X13_makeClass_143 nn qkk f2 (k : Int) 1 (j2 : Int) w = some u28 → qkk (k : Int) 2 w = some u28 := by
  intro d
  induction d with
  | zero =>
    intro f2 j2 h1 h2 e
    rcases m_143 (X := X) w9 w28 T (by omega) f2 u28 e with ⟨-, z⟩ | ⟨z, -⟩ | ⟨z, -⟩
    · exact z
    · omega
    · omega
  | succ d ih =>
    intro f2 j2 h1 h2 e
    rcases m_143 (X := X) w9 w28 T (by omega) f2 u28 e with ⟨z, -⟩ | ⟨-, -, f3, e3⟩ | ⟨-, z, -⟩
    · omega
    · exact ih f3 (j2 + 1) (by omega) (by omega) e3
    · exact absurd z (zN j2 h1 (by omega))
theorem rs_close (Y : CXs X) (kn : k < bn X) (R0f : R0F X R0) (J : JBw X h r) (hj : j ≤ bM X) (zN : ∀ i : Nat, j ≤ i → i < bM X → ¬ MSm (bB X) k 1 i) (R : RST nn X a b p L0 R0 k j h r) : Pc (qf_X0_closeClass nn (k : Int) h) (fun A => RSB nn X a b p L0 R0 (k + 1) j A.1 r ∧ JBw X A.1 r) := by
  have n8 := Y.2.2.1
  have k8 : k < 8 := by omega
  have BK := Y.1
  have CK := Y.2.1.2.1 k kn
  have HD := Y.2.2.2.2.2.2.1
  have tkc : bC X k < bc X := tb_lt BK (by rw [CK.1]; decide)
  have f11 := J.2.1.1
  have TK := c_tokC (nn := nn) Y kn J
  intro A eA
  obtain ⟨A7, AE⟩ := fr_cc A eA
  have A7' : A.1 33 7 = h 33 7 ∨ (h 33 7 = -1 ∧ A.1 33 7 = ((bC X k : Nat) : Int)) := by
    rcases A7 with z | ⟨z, e⟩
    · exact .inl z
    · exact .inr ⟨z, TK _ e⟩
  refine ⟨⟨?_, fun y B F e => ?_⟩, jb_k J (fun cc x z => AE cc x (by omega) (by omega) (by omega)) (fun _ _ _ => rfl)⟩
  · rcases A7' with z | ⟨-, z⟩
    · rw [z]; exact R.1
    · rw [z]; exact .inr ⟨by omega, by rw [Int.toNat_natCast]; exact tkc⟩
  rcases R.2 y B F e with T | ⟨z7, f, f1, f2, w, u28, ⟨W1, W2, W3, W4, W5⟩, e1, e2⟩
  · refine .inl (tmf_k T ?_)
    rcases A7' with z | ⟨z, -⟩
    · exact z
    · exact absurd z T.1.1
  have T := W1.2.1.2.2.2.2.2
  obtain ⟨y28, y24, yT⟩ := fin_28 F R0f
  have w28 : w 160 28 = (bM X : Int) := by rw [W4 160 28 (by omega)]; exact y28
  have e3 := m_rest (X := X) W2.1 w28 T zN (bM X - j) f2 j (Nat.le_refl _) (by omega) e1
  have TQ : TBq (bK X) (bP X) (bc X) w := tbq_f Y.2.2.2.2.1 (fun cc x z => by rw [W4 cc x (by omega)]; exact yT cc x (by omega))
  have m178 : w 178 k = ((bC X k : Nat) : Int) := by rw [T 178 _ (by omega)]; exact (HD.1.2.2.2.2.2 k kn).1
  have NT : NTB h := W1.2.1.1.1
  obtain ⟨⟨by1, by2⟩, by3⟩ := W1.2.2
  have L12 := (HD.2.2.1.1 k k8).2.2
  have mm : mcn_T (bB X) k 1 j ≤ mcn_T (bB X) k 1 (bM X) := by
    have := mcn_m (r := bB X) (k := k) (s := 1) (i := j) (bM X - j)
    rw [show j + (bM X - j) = bM X by omega] at this; exact this
  have l7 : 0 ≤ h 45 7 ∧ h 45 7 ≤ 100000000 := by omega
  have l97 : 0 ≤ w 160 97 ∧ w 160 97 ≤ 100000000 := by omega
  have V := c_ccV (m := w) NT l7 W1.1.1 f11 z7 k8 (fun t et => by rw [TK t et]; omega) A eA
  have K1 : ∀ v29 : Int, v29 = oq_add (k : Int) 1 → v29 = ((k + 1 : Nat) : Int) := fun v29 ev => by
    rw [ev, oq_add_eq (by omega) (by omega) (by omega)]; omega
  have e2' : qw_X13_compile_110 nn f ((k + 1 : Nat) : Int) u28 = some B := by
    rw [← K1 _ rfl]; exact e2
  have ST : ∀ {Z : ms_M → Prop} (g1 : Nat), Pc (qw_X13_makeClass_261 nn nn (k : Int) (3 + w 160 97) 1 w) Z → Pc (qw_X13_makeClass_68 nn g1 (k : Int) 2 w) Z := fun {Z} g1 H => by
    cases g1 with
    | zero => exact fun _ z => nomatch z
    | succ g1 =>
      unfold qw_X13_makeClass_68
      refine pc_if (fun _ => ?_) (fun z => absurd (show (2 : Int) ≤ 2 by omega) z)
      refine pc_add (by omega) ?_; intro v102 e102
      rw [e102]; exact H
  have MUCH : A.1 33 7 = ((bC X k : Nat) : Int) → u28 160 9 = 11 ∧ u28 160 10 = bP X (bC X k) → TMF X A.1 B := fun q7 w1 => by
    obtain ⟨B1, B2⟩ := r_F110 (by omega) f _ B e2'
    refine ⟨⟨by omega, by omega, by rw [q7, Int.toNat_natCast]; exact tkc⟩, B1, by rw [B2]; exact w1.1, ?_⟩
    rw [B2, q7, Int.toNat_natCast]; exact w1.2
  rcases V with ⟨tm, tk⟩ | ⟨q7, cn, v, K, s6, FC, EA, LN, CI⟩
  · refine .inl (MUCH (TK _ tk) ?_)
    rcases tm with ⟨o5, o62⟩ | ⟨cn, K, s6⟩
    · exact ST f1 (r_261o o62 W2.1 (fun l2 => r_352 TQ tkc m178 W2.1) nn _ _) u28 e3
    · have e7 := (by3 K.1).1
      have a := r_261 (nn := nn) (k := k) (Z := fun u => u 160 9 = 11 ∧ u 160 10 = bP X (bC X k)) K.2.2.2.2 K.2.2.2.1 K.2.2.1 W2.1 l97 (fun z => absurd z (by omega)) (fun _ => r_352 TQ tkc m178 W2.1) nn 0 (Nat.zero_le _)
      rw [show 3 + w 160 97 + ((sm_T w 0 : Nat) : Int) = 3 + w 160 97 by show 3 + w 160 97 + ((0 : Nat) : Int) = _; omega] at a
      exact ST f1 a u28 e3
  · refine .inr ⟨q7, f, u28, ?_, e2'⟩
    have e7 := (by3 K.1).1
    have a := r_261 (nn := nn) (k := k) (Z := fun u => u 224 k = 3 + w 160 97 + (sm_T w cn : Int) ∧ RIM w cn (w 160 97) (w 225) (fun x => u 223 (6000 * k + x)) ∧ ∀ cc y : Nat, ¬ (cc = 223 ∧ 6000 * k ≤ y ∧ y < 6000 * k + (3 + w 160 97 + (sm_T w cn : Int)).toNat) → ¬ (cc = 224 ∧ y = k) → u cc y = w cc y) K.2.2.2.2 K.2.2.2.1 K.2.2.1 W2.1 l97 (fun _ => r_364 K.2.2.2.2 K.2.2.2.1 K.2.2.1 W2.1 l97.1 k8 rfl (by omega)) (fun z => absurd z (by omega)) nn 0 (Nat.zero_le _)
    rw [show 3 + w 160 97 + ((sm_T w 0 : Nat) : Int) = 3 + w 160 97 by show 3 + w 160 97 + ((0 : Nat) : Int) = _; omega] at a
    obtain ⟨u224, RI, UE⟩ := ST f1 a u28 e3
    have c1 := FC.1
    refine ⟨⟨by rw [UE 160 9 (by omega) (by omega)]; exact W2.1, txe_k W1.2.1 (fun cc x z => AE cc x (by omega) (by omega) (by omega)) (fun cc x z => UE cc x (by omega) (by omega))⟩, ?_, fun cc x z => by rw [UE cc x (by omega) (by omega)]; exact W4 cc x z, fun c hc => ?_⟩
    · obtain ⟨l1, D, l2, l3⟩ := W3
      have e88 := UE 160 88 (by omega) (by omega)
      exact ⟨by omega, D, by omega, l3⟩
    have AC : ∀ cc x : Nat, ¬ (cc = 43 ∧ x = k) → A.1 cc x = v cc x := fun cc x z => by rw [EA, up_n z]
    have cnA : cn_M A.1 = cn_M h + 1 := by
      have := FC.2.1
      unfold cn_M at *
      rw [AC 900000 0 (by omega)]; exact this
    by_cases ck : c = k
    · refine ⟨cn_M h, by rw [ck, EA, up_s], by omega, ?_, by rw [ck, u224]; omega, fun x hx => ?_⟩
      · rw [ck, u224, ← e7, ← LN]
        unfold ln_I
        rw [if_neg (by omega), if_neg (by omega)]
        exact AC 900001 _ (by omega)
      · rw [ck, u224] at hx
        rw [ck, AC (cn_M h) x (by omega)]
        refine im_eq (h := h) (m := w) K.2.2.2.2 K.2.2.2.1 CI (by rw [e7]; exact RI) (fun x hx => ?_) (by rw [e7]; exact hx)
        exact (by3 K.1).2 x hx (by omega)
    · obtain ⟨id, i1, i2, i3, i4, i5⟩ := W5 c (by omega)
      have VE : ∀ x : Nat, v id x = h id x := fun x => FC.2.2 id x (by omega) (by omega) (by omega)
      refine ⟨id, ?_, by omega, ?_, by rw [UE 224 c (by omega) (by omega)]; exact i4, fun x hx => ?_⟩
      · rw [AC 43 c (by omega), FC.2.2 43 c (by omega) (by omega) (by omega)]; exact i1
      · rw [UE 224 c (by omega) (by omega), ← i3]
        unfold ln_I
        rw [if_neg (by omega), if_neg (by omega), AC 900001 id (by omega)]
        exact FC.2.2 900001 id (by omega) (by omega) (by omega)
      · rw [UE 224 c (by omega) (by omega)] at hx
        rw [UE 223 _ (by omega) (by omega), AC id x (by omega), VE x]
        exact i5 x hx
end

/- the methods of a class: steps -/
/-- what the rules began with -/
def R0F (X : BCx) (R0 : ms_M) : Prop := (R0 160 9 = 0 ∧ R0 160 24 = (bn X : Int) ∧ R0 160 28 = (bM X : Int)) ∧ ∀ cc x : Nat, ((163 ≤ cc ∧ cc ≤ 173) ∨ cc = 177) → R0 cc x = bT X cc x
section
variable {nn : Nat} {X : BCx} {a b : Nat → Int} {p q : Nat → Nat} {L0 : Int} {k j i n : Nat} {h g u r v m m0 w y R0 : ms_M}
theorem fin_28 (F : FIN X a b R0 j r y) (R : R0F X R0) : y 160 28 = (bM X : Int) ∧ y 160 24 = (bn X : Int) ∧ ∀ cc x : Nat, ((163 ≤ cc ∧ cc ≤ 173) ∨ cc = 177) → y cc x = bT X cc x := by
  refine ⟨?_, ?_, fun cc x z => ?_⟩
  · rw [F.1 160 28 (by omega) (by omega) (by omega)]; exact R.1.2.2
  · rw [F.1 160 24 (by omega) (by omega) (by omega)]; exact R.1.2.1
  · rw [F.1 cc x (by omega) (by omega) (by omega)]; exact R.2 cc x z
theorem tmf_k {B : Int × ms_M} (T : TMF X h B) (e : u 33 7 = h 33 7) : TMF X u B := by
  unfold TMF at *
  rw [e]; exact T
theorem lbb_m (L : LBB X p L0 j w) : LBB X p L0 (j + 1) w := by
  obtain ⟨l1, D, l2, l3⟩ := L
  exact ⟨l1, D, l2, fun i hi => l3 i (by omega)⟩
theorem rs_skip (R0f : R0F X R0) (hj : j < bM X) (ms : ¬ MSm (bB X) k 1 j) (R : RST nn X a b p L0 R0 k j h r) : RST nn X a b p L0 R0 k (j + 1) h r := by
  refine ⟨R.1, fun y B F e => ?_⟩
  rcases R.2 y B (fin_k F) e with T | ⟨z7, f, f1, f2, w, u28, ⟨W1, W2, W3, W4, W5⟩, e1, e2⟩
  · exact .inl T
  · refine .inr ⟨z7, ?_⟩
    have T := W1.2.1.2.2.2.2.2
    rcases m_143 (X := X) W2.1 (by rw [W4 160 28 (by omega)]; exact (fin_28 F R0f).1) T (by omega) f2 u28 e1 with ⟨z, -⟩ | ⟨-, -, f3, e3⟩ | ⟨-, z, -⟩
    · omega
    · exact ⟨f, f1, f3, w, u28, ⟨by rw [mcn_n ms]; exact W1, W2, lbb_m W3, W4, W5⟩, e3, e2⟩
    · exact absurd z ms
theorem rs_meth (Y : CXs X) (k8 : k < 8) (R0f : R0F X R0) (L1 : L0 ≤ 1600000000) (MB : MBO X a b p q) (hj : j < bM X) (ms : MSm (bB X) k 1 j) (eu : qf_X0_makeMethod nn (k : Int) ((mcn_T (bB X) k 1 j : Nat) : Int) h = some u) (JM : JMr nn (xm_X X k j) j (a j) (b j) (p j) (q j) h r u v) (R : RST nn X a b p L0 R0 k j h r) : RST nn X a b p L0 R0 k (j + 1) u v := by
  have b182 : 0 < bB X 182 j := by
    rcases ms.2 with ⟨z, z2⟩ | ⟨-, z2⟩
    · omega
    · exact absurd z2 (by decide)
  have BK := Y.1
  obtain ⟨-, -, -, -, -, -, HD, -, -, -⟩ := Y
  have d2 := HD.2.2.2.2.1 j hj
  have tkc : (bB X 186 j).toNat < bc X := tb_lt BK (by rw [d2.2]; decide)
  obtain ⟨i1, i2⟩ := mb_ix HD.2.2.1 hj k8 (.inr rfl) ms
  obtain ⟨M1, M2⟩ := MB
  obtain ⟨-, A1, P1, -, -, -⟩ := M1 j hj b182
  obtain ⟨-, RF, TM, tm, JM⟩ := JM
  have tm' : (TM ∧ (h 33 7 = -1 → u 33 7 = bB X 186 j) ∧ (¬ h 33 7 = -1 → u 33 7 = h 33 7)) ∨ (¬ TM ∧ u 33 7 = h 33 7) := tm
  have S7 : ¬ h 33 7 = -1 → u 33 7 = h 33 7 := fun z => by
    rcases tm' with ⟨-, -, t⟩ | ⟨-, t⟩
    · exact t z
    · exact t
  refine ⟨?_, fun y B F e => ?_⟩
  · by_cases z : h 33 7 = -1
    · rcases tm' with ⟨-, t, -⟩ | ⟨-, t⟩
      · rw [t z]; exact .inr ⟨d2.1, tkc⟩
      · rw [t]; exact R.1
    · rw [S7 z]; exact R.1
  have FJ : FIN X a b R0 j r y := ⟨F.1, fun i hi hM h2 cc x c1 c2 x1 x2 => by
    have o := (M2 i j hi hj h2 b182).1
    rw [F.2 i (by omega) hM h2 cc x c1 c2 x1 x2]
    exact RF cc x (by omega) (by omega) (by omega) (by omega)⟩
  rcases R.2 y B FJ e with T | ⟨z7, f, f1, f2, w, u28, ⟨W1, W2, W3, W4, W5⟩, e1, e2⟩
  · exact .inl (tmf_k T (S7 T.1.1))
  have T := W1.2.1.2.2.2.2.2
  obtain ⟨y28, y24, yT⟩ := fin_28 F R0f
  rcases m_143 (X := X) W2.1 (by rw [W4 160 28 (by omega)]; exact y28) T (by omega) f2 u28 e1 with ⟨z, -⟩ | ⟨-, z, -⟩ | ⟨-, -, f3, u66, e66, e3⟩
  · omega
  · exact absurd ms z
  obtain ⟨l1, D, l2, l3⟩ := W3
  have l4 := l3 j (Nat.le_refl _) hj b182
  have MP : MPr (xm_X X k j) (100 + 20000 * (mcn_T (bB X) k 1 j : Nat)) (a j) (b j) (p j) (q j) h v w := by
    refine ⟨W1, by omega, fun cc x c1 c2 x1 x2 => ?_, ⟨W2.1, W2.2, l1, by omega⟩, fun cc x z => ?_⟩
    · rw [W4 cc x (by omega)]; exact F.2 j (by omega) hj b182 cc x c1 c2 x1 x2
    · rw [W4 cc x (by omega)]; exact yT cc x z
  rcases JM _ w MP u66 e66 with ⟨t, t9, t10⟩ | ⟨t, PX, t9, t88⟩
  · refine .inl ?_
    have u7 : u 33 7 = bB X 186 j := by
      rcases tm' with ⟨-, t2, -⟩ | ⟨t2, -⟩
      · exact t2 z7
      · exact absurd t t2
    have q28 := m_f143 (by omega) f3 u28 e3
    rw [q28] at e2
    obtain ⟨B1, B2⟩ := r_F110 (by omega) f _ B e2
    refine ⟨⟨by omega, by omega, by rw [u7]; exact tkc⟩, B1, by rw [B2]; exact t9, ?_⟩
    rw [B2, u7]; exact t10
  · have u7 : u 33 7 = h 33 7 := by
      rcases tm' with ⟨t2, -⟩ | ⟨-, t2⟩
      · exact absurd t2 t
      · exact t2
    refine .inr ⟨u7.trans z7, f, f1, f3, u66, u28, ⟨?_, ⟨t9, ?_⟩, ⟨by omega, q j, by omega, fun i hi hM h2 => (M2 j i (by omega) hM b182 h2).2⟩, fun cc x z => ?_, ?_⟩, e3, e2⟩
    · rw [mcn_s ms, show (100 + 20000 * ((mcn_T (bB X) k 1 j + 1 : Nat) : Int)) = 100 + 20000 * ((mcn_T (bB X) k 1 j : Nat) : Int) + 20000 by omega]
      exact PX
    · exact (ff_X13_makeMethod nn u66 e66 160 52 rfl).trans W2.2
    · exact (ff_X13_makeMethod nn u66 e66 cc x (nw_of (by unfold wl_X13_makeMethod; simp only [List.mem_cons, List.not_mem_nil, or_false]; omega) (by unfold wf_X13_makeMethod; simp only [List.mem_cons, List.not_mem_nil, or_false, Prod.mk.injEq]; omega))).trans (W4 cc x z)
    · refine img_k W5 (fun cc x z => ff_X0_makeMethod nn u eu cc x (nw_of (by unfold wl_X0_makeMethod; simp only [List.mem_cons, List.not_mem_nil, or_false]; omega) (by unfold wf_X0_makeMethod; simp only [List.mem_cons, List.not_mem_nil, or_false, Prod.mk.injEq]; omega))) (fun cc x z => ff_X13_makeMethod nn u66 e66 cc x (nw_of (by unfold wl_X13_makeMethod; simp only [List.mem_cons, List.not_mem_nil, or_false]; omega) (by unfold wf_X13_makeMethod; simp only [List.mem_cons, List.not_mem_nil, or_false, Prod.mk.injEq]; omega)))
/-- the making of a class, as far as its methods -/
theorem rs_begin (Y : CXs X) (kn : k < bn X) (M8 : bM X ≤ 100000) (R0f : R0F X R0) (J : JBw X h r) (hj : j ≤ bM X) (z0 : ∀ i : Nat, i < j → ¬ MSm (bB X) k 1 i) (R : RSB nn X a b p L0 R0 k j h r) : Pc (qf_X0_beginClass nn (k : Int) h) (fun u => RST nn X a b p L0 R0 k j u r ∧ JBw X u r) := by
  have n8 := Y.2.2.1
  have mc0 : ∀ i : Nat, i ≤ j → mcn_T (bB X) k 1 i = 0 := by
    intro i
    induction i with
    | zero => intro _; rfl
    | succ i ih => intro hi; rw [mcn_n (z0 i (by omega))]; exact ih (by omega)
  refine pc_imp (j_begC Y kn J M8) (fun u ⟨E, HM⟩ => ⟨⟨by rw [E 33 7 (by omega) (by omega)]; exact R.1, fun y B F e => ?_⟩, jb_k J (fun cc x z => E cc x (by omega) (by omega)) (fun _ _ _ => rfl)⟩)
  have e7 : u 33 7 = h 33 7 := E 33 7 (by omega) (by omega)
  rcases R.2 y B F e with T | ⟨z7, f, w, ⟨⟨w9, TX⟩, W3, W4, W5⟩, e2⟩
  · exact .inl (tmf_k T e7)
  obtain ⟨y28, y24, yT⟩ := fin_28 F R0f
  refine .inr ⟨e7.trans z7, ?_⟩
  have w24 : w 160 24 = (bn X : Int) := by rw [W4 160 24 (by omega)]; exact y24
  have w28 : w 160 28 = (bM X : Int) := by rw [W4 160 28 (by omega)]; exact y28
  have ST : ∀ f : Nat, Pc (qw_X13_compile_110 nn f (k : Int) w) (fun B => ∃ (f3 : Nat) (u28 : ms_M), qf_X13_makeClass nn (k : Int) w = some u28 ∧ (xl (oq_add (k : Int) 1) fun v29 => qw_X13_compile_110 nn f3 v29 u28) = some B) := fun f => by
    cases f with
    | zero => exact fun _ z => nomatch z
    | succ f3 =>
      rw [show qw_X13_compile_110 nn (f3 + 1) (k : Int) w = (if (w 160 24) ≤ (k : Int) then (qj_X13_compile_136 nn w) else (if ¬ (w 160 9) = 0 then (qj_X13_compile_136 nn w) else (mx_sv (qf_X13_makeClass nn (k : Int) w) fun u28 => xl (oq_add (k : Int) 1) fun v29 => qw_X13_compile_110 nn f3 v29 u28))) from rfl]
      refine pc_if (fun z => absurd z (by omega)) (fun _ => pc_if (fun z => absurd w9 z) (fun _ => ?_))
      refine pc_se ?_; intro u28 g28
      exact fun B eB => ⟨f3, u28, g28, eB⟩
  obtain ⟨f3, u28, g28, e3⟩ := ST f B e2
  obtain ⟨f1, w', P', MC, w52, e4⟩ := HM w ⟨TX, ⟨w9, w24, w28⟩, fun cc x z => by rw [W4 cc x (by omega)]; exact yT cc x z⟩ u28 g28
  have w9' : w' 160 9 = 0 := by rw [MC 160 9 (by omega) (by omega) (by omega)]; exact w9
  have w28' : w' 160 28 = (bM X : Int) := by rw [MC 160 28 (by omega) (by omega) (by omega)]; exact w28
  have SK : ∀ i : Nat, i ≤ j → ∃ f2, qw_X13_makeClass_143 nn (qw_X13_makeClass_68 nn f1) f2 (k : Int) 1 (i : Int) w' = some u28 := by
    intro i
    induction i with
    | zero => intro _; exact ⟨nn, e4⟩
    | succ i ih =>
      intro hi
      obtain ⟨f2, e5⟩ := ih (by omega)
      rcases m_143 (X := X) w9' w28' P'.2.1.2.2.2.2.2 (by omega) f2 u28 e5 with ⟨z, -⟩ | ⟨-, -, f3, e6⟩ | ⟨-, z, -⟩
      · omega
      · exact ⟨f3, e6⟩
      · exact absurd z (z0 i (by omega))
  obtain ⟨f2, e5⟩ := SK j (Nat.le_refl _)
  refine ⟨f3, f1, f2, w', u28, ⟨by rw [mc0 j (Nat.le_refl _)]; exact P', ⟨w9', w52⟩, ?_, fun cc x z => ?_, ?_⟩, e5, e3⟩
  · obtain ⟨l1, D, l2, l3⟩ := W3
    have e88 := MC 160 88 (by omega) (by omega) (by omega)
    exact ⟨by omega, D, by omega, l3⟩
  · rw [MC cc x (by omega) (by omega) (by omega)]; exact W4 cc x z
  · exact img_k W5 (fun cc x z => E cc x (by omega) (by omega)) (fun cc x z => MC cc x (by omega) (by omega) (by omega))
end

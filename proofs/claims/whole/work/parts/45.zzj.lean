section
/- calls: a method of both sides -/
/-- what is known of method x of the class, j of the reference -/
def MTf (X : BCx) (h r : ms_M) (x j : Nat) : Prop := (x < 96 ∧ ((x % 12 : Nat) : Int) < h 21 (x / 12)) ∧ ((r 182 j = 2 ∧ h 25 x = 1) ∨ (r 182 j = 1 ∧ h 25 x = 0)) ∧ (h 27 x = r 189 j ∧ 0 ≤ r 189 j ∧ r 189 j ≤ 6 ∧ 0 ≤ r 188 j ∧ r 188 j ≤ 1500) ∧ (∀ i : Nat, (i : Int) < r 189 j → VTn (bn X) (h 29 (6 * x + i)) ∧ ¬ h 29 (6 * x + i) = 303 ∧ r 195 ((r 188 j).toNat + i) = ty_T (h 29 (6 * x + i))) ∧ VTn (bn X) (h 24 x) ∧ ¬ h 24 x = 300 ∧ r 187 j = ty_T (h 24 x)
section
variable {nn : Nat} {X : BCx} {dp i l a b e s k : Int} {p q t : Nat} {h g u r w m : ms_M} {v : Int × ms_M}
theorem mtf_of (Y : CXs X) (B : BX X h r) {x j : Int} (MB : MBx X 1 x j) : ∃ xn jn : Nat, x = (xn : Int) ∧ j = (jn : Int) ∧ MTf X h r xn jn := by
  obtain ⟨BK, -, n8, -, -, -, HD, s0, -, TM⟩ := Y
  obtain ⟨ji, kk, ⟨j1, k8⟩, ms, ej, ex⟩ := MB
  have MT := HD.2.2.1
  obtain ⟨i1, i2⟩ := mb_ix MT j1 k8 (.inr rfl) ms
  obtain ⟨⟨f1, f2⟩, f3, ⟨f4, f5, f6, f7⟩, f8, -, -⟩ := MT.2.2.1 ji kk j1 k8 ms
  have c21 := (MT.1 kk k8).1.2
  obtain ⟨vt, v188, vp⟩ := TM ji kk j1 k8 ms
  have HA := B.2.2.2.2.2.2.2.1
  have HB := B.2.2.2.2.2.2.1
  generalize ec : mcn_T (bB X) kk 1 ji = cn at *
  refine ⟨12 * kk + cn, ji, ex, ej, ⟨by omega, ?_⟩, ?_, ⟨?_, ?_⟩, fun i hi => ?_, ?_, ?_, ?_⟩
  · rw [show (12 * kk + cn) / 12 = kk by omega, show (12 * kk + cn) % 12 = cn by omega, HA 21 _ (by omega), c21]; omega
  · rw [HB 182 _ (by omega), HA 25 _ (by omega)]; exact f3
  · rw [HA 27 _ (by omega), HB 189 _ (by omega)]; exact f4
  · rw [HB 189 _ (by omega), HB 188 _ (by omega)]; exact ⟨f5, f6, f7, v188⟩
  · rw [HB 189 _ (by omega)] at hi
    rw [HA 29 _ (by omega), HB 188 _ (by omega), HB 195 _ (by omega)]
    exact ⟨vp i hi, (f8 i hi).2.2.1, (f8 i hi).2.1.2.2⟩
  · rw [HA 24 _ (by omega)]; exact vt
  · rw [HA 24 _ (by omega)]; exact f2.2.1
  · rw [HA 24 _ (by omega), HB 187 _ (by omega)]; exact f2.2.2
theorem mtf_k {x j : Nat} (M : MTf X h r x j) (e1 : ∀ cc y : Nat, 21 ≤ cc ∧ cc ≤ 29 → g cc y = h cc y) (e2 : ∀ cc y : Nat, 182 ≤ cc ∧ cc ≤ 195 → w cc y = r cc y) : MTf X g w x j := by
  obtain ⟨m1, m2, m3, m4, m5, m6, m7⟩ := M
  refine ⟨⟨m1.1, by rw [e1 21 _ (by omega)]; exact m1.2⟩, by rw [e1 25 _ (by omega), e2 182 _ (by omega)]; exact m2, by rw [e1 27 _ (by omega), e2 189 _ (by omega), e2 188 _ (by omega)]; exact m3, fun i hi => ?_, by rw [e1 24 _ (by omega)]; exact m5, by rw [e1 24 _ (by omega)]; exact m6, by rw [e1 24 _ (by omega), e2 187 _ (by omega)]; exact m7⟩
  rw [e2 189 _ (by omega)] at hi
  rw [e1 29 _ (by omega), e2 188 _ (by omega), e2 195 _ (by omega)]
  exact m4 i hi
theorem c_isMt {x : Nat} (h1 : x < 96 ∧ ((x % 12 : Nat) : Int) < h 21 (x / 12)) : Pc (qf_X2_isMethod nn (x : Int) h) (fun y => y = 1) := by
  unfold qf_X2_isMethod
  refine pc_if (fun z => absurd z (by omega)) (fun _ => ?_)
  refine pc_if (fun z => absurd z (by omega)) (fun _ => ?_)
  refine pc_xl ?_; intro v3 e3
  refine pc_xl ?_; intro v5 e5
  have y3 : v3 = ((x % 12 : Nat) : Int) := by rw [e3, Int.tmod_eq_emod_of_nonneg (by omega)]; omega
  have y5 : v5 = ((x / 12 : Nat) : Int) := by rw [e5, Int.tdiv_eq_ediv_of_nonneg (by omega)]; omega
  refine pc_rA ?_; intro _ _ v6 e6
  rw [y5, Int.toNat_natCast] at e6
  exact pc_if (fun z => absurd z (by omega)) (fun _ => pc_ret rfl)
theorem c_fixd {x j : Nat} (M : MTf X h r x j) : Pc (qf_X2_isFixed nn (x : Int) h) (fun y => (y = 1 ∧ r 182 j = 2) ∨ (y = 0 ∧ r 182 j = 1)) := by
  unfold qf_X2_isFixed
  refine pc_sv (c_isMt M.1) ?_; intro u2 q2
  refine pc_if (fun z => absurd z (by omega)) (fun _ => ?_)
  refine pc_rA ?_; intro _ _ v4 e4
  rw [Int.toNat_natCast] at e4
  have := M.2.1
  exact pc_if (fun z => pc_ret (.inr ⟨rfl, by omega⟩)) (fun z => pc_ret (.inl ⟨rfl, by omega⟩))
theorem c_parN {x j : Nat} (M : MTf X h r x j) : Pc (qf_X2_parametersOf nn (x : Int) h) (fun y => y = r 189 j) := by
  unfold qf_X2_parametersOf
  refine pc_sv (c_isMt M.1) ?_; intro u2 q2
  refine pc_if (fun z => absurd z (by omega)) (fun _ => ?_)
  refine pc_rA ?_; intro _ _ v4 e4
  rw [Int.toNat_natCast] at e4
  exact pc_ret (by rw [e4]; exact M.2.2.1.1)
theorem c_parTy {x j n : Nat} (M : MTf X h r x j) : Pc (qf_X2_parameterType nn (x : Int) (n : Int) h) (fun y => ((n : Int) < r 189 j ∧ y = h 29 (6 * x + n)) ∨ (¬ (n : Int) < r 189 j ∧ y = 305)) := by
  unfold qf_X2_parameterType
  refine pc_if (fun z => absurd z (by omega)) (fun _ => ?_)
  refine pc_sv (c_parN M) ?_; intro u2 q2
  refine pc_if (fun z => pc_ret (.inr ⟨by omega, rfl⟩)) (fun z => ?_)
  have := M.1.1
  have := M.2.2.1
  refine pc_xl ?_; intro v4 e4
  rw [oq_mul_eq (by omega) (by omega) (by omega)] at e4
  refine pc_add (by omega) ?_; intro v5 e5
  refine pc_rA ?_; intro _ _ v6 e6
  rw [show v5.toNat = 6 * x + n by omega] at e6
  exact pc_ret (.inl ⟨by omega, e6⟩)
theorem c_resO {x j : Nat} (M : MTf X h r x j) : Pc (qf_X2_resultOf nn (x : Int) h) (fun y => y = h 24 x) := by
  unfold qf_X2_resultOf
  refine pc_sv (c_isMt M.1) ?_; intro u2 q2
  refine pc_if (fun z => absurd z (by omega)) (fun _ => ?_)
  refine pc_rA ?_; intro _ _ v4 e4
  rw [Int.toNat_natCast] at e4
  exact pc_ret e4
/-- nothing fits what is not there -/
theorem c_fit5 {s : Int} (vs : VTn (bn X) s) (n8 : bn X ≤ 8) : Pc (qf_X4_fits nn 12 s 305 h) (fun u => u = 0) := by
  have V := vtn_v n8 vs
  unfold VTy at V
  unfold qf_X4_fits
  refine pc_if (fun _ => ?_) (fun z => absurd (show ¬ s = 305 by omega) z)
  have P71 : Pc (qj_X4_fits_71 nn 12 s 305 h) (fun u => u = 0) := by
    have P122 : Pc (qj_X4_fits_122 nn 12 s 305 h) (fun u => u = 0) := by
      unfold qj_X4_fits_122 qj_X4_fits_123
      exact pc_if (fun _ => pc_ret rfl) (fun z => absurd rfl z)
    unfold qj_X4_fits_71
    refine pc_if (fun _ => ?_) (fun z => absurd (show ¬ (305 : Int) = 0 by decide) z)
    refine pc_if (fun _ => P122) (fun _ => ?_)
    refine pc_if (fun _ => P122) (fun _ => ?_)
    refine pc_if (fun _ => P122) (fun _ => ?_)
    exact pc_if (fun _ => P122) (fun z => absurd (show (116 : Int) ≤ 305 by decide) z)
  refine pc_if (fun _ => ?_) (fun _ => ?_)
  · refine pc_if (fun _ => P71) (fun _ => ?_)
    refine pc_if (fun _ => P71) (fun _ => ?_)
    refine pc_if (fun z => absurd z (by decide)) (fun _ => ?_)
    exact pc_if (fun _ => pc_ret rfl) (fun z => absurd (by decide) z)
  · refine pc_if (fun z => absurd z (by decide)) (fun _ => ?_)
    exact pc_if (fun _ => pc_ret rfl) (fun z => absurd (by decide) z)
end
end
section
/- calls: the ARGS of both sides -/
/-- the making of ARGS, n of them: what the class has done -/
def MKA (nn : Nat) (X : BCx) (k a b : Int) (p q n : Nat) (h u v : ms_M) : Prop := ∀ (d f : Nat) (l1 l2 l3 l4 : Int) (PB : Nat → Prop) (WL : Int → Int → Prop) (L : List (Int × Int)) (m : ms_M) (Q : ms_M → Prop), MKx X PB WL L h m → AN a b v m → (0 ≤ m 160 57 ∧ m 160 57 + (b - a) < 9000) → m 160 88 + 4 * (q : Int) ≤ 2000000000 + 4 * (p : Int) → (0 ≤ l4 ∧ l4 ≤ 10000 - 2 * (n : Int)) → (∀ (f2 : Nat) (w : ms_M), MKx X PB WL L u w → (m 160 88 ≤ w 160 88 ∧ w 160 88 + 4 * (p : Int) ≤ m 160 88 + 4 * (q : Int)) → (∀ cc x : Nat, 174 ≤ cc → cc ≤ 176 → w cc x = m cc x) → w 160 57 = m 160 57 → Pc (qw_X13_workCall_19 nn (qg_X13_work nn d) f2 l1 l2 l3 (l4 + (n : Int)) (-1) w) Q) → Pc (qw_X13_workCall_19 nn (qg_X13_work nn d) f l1 l2 l3 l4 k m) Q
/-- behind n ARGS, at the bracket t -/
def AOk (nn : Nat) (X : BCx) (k a b : Int) (p t n : Nat) (h r u v : ms_M) : Prop := (u 2 10 = (t : Int) ∧ t < bc X ∧ p ≤ t ∧ u 2 11 = 0 ∧ v 160 9 = 0) ∧ (CFe h u ∧ RFe a b r v ∧ SGb h u ∧ RKp r v) ∧ (FRc u ∧ (0 ≤ u 34 1 ∧ u 34 1 + 20 * (p : Int) ≤ h 34 1 + 20 * (t : Int)) ∧ u 34 3 = h 34 3 + (n : Int) ∧ p + n ≤ t) ∧ MKA nn X k a b p t n h u v
/-- those ARGS: the class's loop and the reference's -/
def A5 (nn : Nat) (X : BCx) (dp a b : Int) (p t : Nat) (k : Int) : Prop := ∀ (d d2 f f2 : Nat) (h r : ms_M) (c at_ how st e fit : Int) (x j n : Nat) (rt gd tn : Int) (Z : ms_M → Int × ms_M → Prop), EPr X dp p h r → (0 ≤ r 160 57 ∧ r 160 57 + (b - a) < 9000 ∧ b ≤ 9000) → MTf X h r x j → ((rt = 0 ∨ rt = 1) ∧ (fit = 0 ∨ fit = 1) ∧ gd = (if fit = 0 then 0 else rt)) → (0 ≤ tn ∧ tn ≤ (p : Int)) → n ≤ p → h 49 18 < (p : Int) → (∀ (u v : ms_M) (n2 : Nat) (rt2 : Int), AOk nn X k a b p t n2 h r u v → (rt2 = 0 ∨ rt2 = 1) → Pc (qj_X10_readCall_128 nn (qg_X10_readValue nn d) c (x : Int) at_ how st ((n + n2 : Nat) : Int) rt2 u) (fun uF => Pc (qj_X13_called_110 nn (qg_X13_condition nn d2) e (j : Int) (if fit = 0 then 0 else rt2) ((n + n2 : Nat) : Int) v) (Z uF))) → (∀ (u v : ms_M) (n2 : Nat) (rt2 gd2 : Int), SFj u v → Pc (qj_X10_readCall_128 nn (qg_X10_readValue nn d) c (x : Int) at_ how st ((n + n2 : Nat) : Int) rt2 u) (fun uF => Pc (qj_X13_called_110 nn (qg_X13_condition nn d2) e (j : Int) gd2 ((n + n2 : Nat) : Int) v) (Z uF))) → Pc (qw_X10_readCall_22 nn (qg_X10_readValue nn d) f c (x : Int) at_ how st dp (n : Int) rt tn h) (fun uF => Pc (qw_X13_called_23 nn (qg_X13_condition nn d2) f2 e (j : Int) gd (n : Int) k r) (Z uF))
section
variable {nn : Nat} {X : BCx} {dp i l a b e s k : Int} {p q t n : Nat} {h g u r w m : ms_M} {v : Int × ms_M}
theorem mka_0 {v : ms_M} : MKA nn X (-1) a b p q 0 h h v → True := fun _ => trivial
/-- one of them: the class and the reference, up to the comma or the bracket -/
theorem a5_step {ix : Int} (Y : CXs X) (ne : 0 ≤ a ∧ a ≤ k ∧ k < b) (n41 : ¬ bK X p = 41) (H : E0 nn X dp ix a k p t (bT X 170 k.toNat)) (kt : bK X t = 41 ∨ bK X t = 47) (pt : p < t) (d d2 f f2 : Nat) (h r : ms_M) (c at_ how st e fit : Int) (x j n : Nat) (rt gd tn : Int) (Z : ms_M → Int × ms_M → Prop) (Q : EPr X dp p h r) (b57 : 0 ≤ r 160 57 ∧ r 160 57 + (b - a) < 9000 ∧ b ≤ 9000) (MF : MTf X h r x j) (hg : (rt = 0 ∨ rt = 1) ∧ (fit = 0 ∨ fit = 1) ∧ gd = (if fit = 0 then 0 else rt)) (ht : 0 ≤ tn ∧ tn ≤ (p : Int)) (np : n ≤ p) (al : h 49 18 < (p : Int)) (HC : ∀ (f f2 : Nat) (u h2 : ms_M) (v : Int × ms_M) (rt2 : Int), EOz nn X ix a k p t (bT X 170 k.toNat) h r u v → FM01 nn X ix a k p t (bT X 170 k.toNat) h u v.2 → ¬ u 49 12 = 303 → RKp r v.2 → (rt2 = 0 ∨ rt2 = 1) → ((bK X t = 41 ∧ h2 = u) ∨ (bK X t = 47 ∧ h2 = up_M u 2 10 ((t + 1 : Nat) : Int))) → Pc (qw_X10_readCall_22 nn (qg_X10_readValue nn d) f c (x : Int) at_ how st dp ((n + 1 : Nat) : Int) rt2 (tn + 1) h2) (fun uF => Pc (qw_X13_called_23 nn (qg_X13_condition nn d2) f2 e (j : Int) (if fit = 0 then 0 else rt2) ((n + 1 : Nat) : Int) (bT X 173 k.toNat) v.2) (Z uF))) (HF : ∀ (u v : ms_M) (n2 : Nat) (rt2 gd2 : Int), SFj u v → Pc (qj_X10_readCall_128 nn (qg_X10_readValue nn d) c (x : Int) at_ how st ((n + n2 : Nat) : Int) rt2 u) (fun uF => Pc (qj_X13_called_110 nn (qg_X13_condition nn d2) e (j : Int) gd2 ((n + n2 : Nat) : Int) v) (Z uF))) : Pc (qw_X10_readCall_22 nn (qg_X10_readValue nn d) f c (x : Int) at_ how st dp (n : Int) rt tn h) (fun uF => Pc (qw_X13_called_23 nn (qg_X13_condition nn d2) f2 e (j : Int) gd (n : Int) k r) (Z uF)) := by
  have Q0 := Q
  obtain ⟨B, ⟨q1, q2, q3, q4⟩, ⟨f1, f2', f3⟩, o1⟩ := Q0
  have TB : TBc (bK X) (bP X) (bc X) h := B.1.1.1.1
  have TQ : TBq (bK X) (bP X) (bc X) r := B.1.1.2.2.1
  have T8 : ∀ cc x : Nat, 163 ≤ cc ∧ cc ≤ 173 → r cc x = bT X cc x := fun cc x z => B.2.2.2.2.2.1 cc x (by omega)
  have n8 := Y.2.2.1
  have c3 := Y.1.2.1
  have G := fsg_X10_readValue nn d
  have Gt := ftg_X13_condition nn d2
  obtain ⟨hr, hf, hgd⟩ := hg
  have tc : t < bc X := tb_lt Y.1 (by omega)
  cases f with
  | zero => exact pc_none
  | succ f =>
    cases f2 with
    | zero => exact fun _ _ => pc_none
    | succ f2 =>
      unfold qw_X10_readCall_22
      refine pc_if (fun z => absurd z (by omega)) (fun _ => ?_)
      refine pc_if (fun z => absurd q3 z) (fun _ => ?_)
      refine pc_sv (c_kind Y.1 TB q2 q1 q3) ?_; intro u54 q54
      refine pc_if (fun z => absurd (q54.symm.trans z) n41) (fun _ => ?_)
      have GV := j_given (nn := nn) (X := X) (x := (qg_X10_readValue nn d).1 dp h) TQ T8 n8 (fun d2 => H (by unfold ENDk; omega) d d2 h r Q (by omega)) (fun z => by omega) (by omega)
      -- the reference's turn
      have RT : ∀ {QQ : Int × ms_M → Prop}, Pc ((qg_X13_condition nn d2).2.1 (bT X 170 k.toNat) r) (fun v => Pc (if gd = 0 then (qj_X13_called_92 nn (qg_X13_condition nn d2) (qw_X13_called_23 nn (qg_X13_condition nn d2) f2) e (j : Int) (n : Int) k v.2) else (rd_A 800 189 (j : Int) v.2 fun v20 => if v20 ≤ (n : Int) then (qj_X13_called_92 nn (qg_X13_condition nn d2) (qw_X13_called_23 nn (qg_X13_condition nn d2) f2) e (j : Int) (n : Int) k v.2) else (rd_A 800 188 (j : Int) v.2 fun v23 => xl (oq_add v23 (n : Int)) fun v24 => rd_A 1500 195 v24 v.2 fun v25 => mx_sv (qf_X13_fits nn v.1 v25 v.2) fun u27 => if u27 = 0 then (qj_X13_called_92 nn (qg_X13_condition nn d2) (qw_X13_called_23 nn (qg_X13_condition nn d2) f2) e (j : Int) (n : Int) k v.2) else (qj_X13_called_93 nn (qg_X13_condition nn d2) (qw_X13_called_23 nn (qg_X13_condition nn d2) f2) e (j : Int) (n : Int) k 1 v.2)))) QQ) → Pc (qw_X13_called_23 nn (qg_X13_condition nn d2) (f2 + 1) e (j : Int) gd (n : Int) k r) QQ := fun {QQ} HH => by
        unfold qw_X13_called_23
        refine pc_if (fun z => absurd z (by omega)) (fun _ => ?_)
        refine pc_if (fun z => absurd q4 z) (fun _ => ?_)
        refine pc_rA ?_; intro _ _ v16 e16
        rw [T8 170 _ (by omega)] at e16
        rw [e16]
        exact pc_sb HH
      refine pc_imp (?_ : Pc _ (fun uF => Pc ((qg_X13_condition nn d2).2.1 (bT X 170 k.toNat) r) (fun v => Pc (if gd = 0 then (qj_X13_called_92 nn (qg_X13_condition nn d2) (qw_X13_called_23 nn (qg_X13_condition nn d2) f2) e (j : Int) (n : Int) k v.2) else (rd_A 800 189 (j : Int) v.2 fun v20 => if v20 ≤ (n : Int) then (qj_X13_called_92 nn (qg_X13_condition nn d2) (qw_X13_called_23 nn (qg_X13_condition nn d2) f2) e (j : Int) (n : Int) k v.2) else (rd_A 800 188 (j : Int) v.2 fun v23 => xl (oq_add v23 (n : Int)) fun v24 => rd_A 1500 195 v24 v.2 fun v25 => mx_sv (qf_X13_fits nn v.1 v25 v.2) fun u27 => if u27 = 0 then (qj_X13_called_92 nn (qg_X13_condition nn d2) (qw_X13_called_23 nn (qg_X13_condition nn d2) f2) e (j : Int) (n : Int) k v.2) else (qj_X13_called_93 nn (qg_X13_condition nn d2) (qw_X13_called_23 nn (qg_X13_condition nn d2) f2) e (j : Int) (n : Int) k 1 v.2)))) (Z uF)))) (fun uF HH => RT HH)
      refine p2_sa (pc_imp (GV d2) (fun u Hu => pc_imp (pc_and Hu ((rkg_condition nn d2).2.1 (a1 := bT X 170 k.toNat) (h := r) (by omega))) (fun v hv => ?_)))
      obtain ⟨hv, RK⟩ := hv
      -- where the reference goes on with gd2
      have RG : ∀ {QQ : Int × ms_M → Prop} (gd2 : Int), BX X u v.2 → v.2 160 9 = 0 → Pc (qw_X13_called_23 nn (qg_X13_condition nn d2) f2 e (j : Int) gd2 ((n + 1 : Nat) : Int) (bT X 173 k.toNat) v.2) QQ → Pc (qj_X13_called_93 nn (qg_X13_condition nn d2) (qw_X13_called_23 nn (qg_X13_condition nn d2) f2) e (j : Int) (n : Int) k gd2 v.2) QQ := fun {QQ} gd2 B2 _ HH => by
        unfold qj_X13_called_93
        refine pc_add (by omega) ?_; intro v11 e11
        refine pc_rA ?_; intro _ _ v13 e13
        rw [B2.2.2.2.2.2.1 173 _ (by omega)] at e13
        rw [e13, show v11 = ((n + 1 : Nat) : Int) by omega]
        exact HH
      rcases hv with S | ⟨K, FX, n303⟩
      · -- a FAULT on both sides
        have CF : ∀ (rt2 : Int), Pc (qj_X10_readCall_92 nn (qg_X10_readValue nn d) (qw_X10_readCall_22 nn (qg_X10_readValue nn d) f) c (x : Int) at_ how st dp (n : Int) tn rt2 u) (fun uF => ∀ (vv : ms_M) (gd2 : Int), SFj u vv → Pc (qj_X13_called_110 nn (qg_X13_condition nn d2) e (j : Int) gd2 ((n + 1 : Nat) : Int) vv) (Z uF)) := fun rt2 => by
          have END : ∀ (g : ms_M) (tn2 : Int), FSc u g → Pc (qw_X10_readCall_22 nn (qg_X10_readValue nn d) f c (x : Int) at_ how st dp ((n + 1 : Nat) : Int) rt2 tn2 g) (fun uF => ∀ (vv : ms_M) (gd2 : Int), SFj u vv → Pc (qj_X13_called_110 nn (qg_X13_condition nn d2) e (j : Int) gd2 ((n + 1 : Nat) : Int) vv) (Z uF)) := fun g tn2 F => by
            cases f with
            | zero => exact pc_none
            | succ f =>
              have P128 : Pc (qj_X10_readCall_128 nn (qg_X10_readValue nn d) c (x : Int) at_ how st ((n + 1 : Nat) : Int) rt2 g) (fun uF => ∀ (vv : ms_M) (gd2 : Int), SFj u vv → Pc (qj_X13_called_110 nn (qg_X13_condition nn d2) e (j : Int) gd2 ((n + 1 : Nat) : Int) vv) (Z uF)) := fun uF eF vv gd2 S2 => HF g vv 1 rt2 gd2 (sf_c S2 F) uF eF
              unfold qw_X10_readCall_22
              refine pc_if (fun _ => P128) (fun _ => ?_)
              exact pc_if (fun _ => P128) (fun z => absurd (show ¬ g 2 11 = 0 by rw [F.1]; exact S.1) z)
          unfold qj_X10_readCall_92
          refine pc_add (by omega) ?_; intro v39 e39
          rw [show v39 = ((n + 1 : Nat) : Int) by omega]
          refine pc_sv pc_any ?_; intro u42 _
          refine pc_if (fun _ => ?_) (fun _ => ?_)
          · refine pc_xl ?_; intro v43 _
            exact END u v43 fs_r
          · refine pc_xl ?_; intro v46 _
            refine pc_xl ?_; intro h47 e47
            refine pc_xl ?_; intro v48 _
            exact END h47 v48 ⟨by rw [e47, up_n (by omega)], by rw [e47, up_n (by omega)]⟩
        have CF2 : Pc (if rt = 0 then (qj_X10_readCall_91 nn (qg_X10_readValue nn d) (qw_X10_readCall_22 nn (qg_X10_readValue nn d) f) c (x : Int) at_ how st dp (n : Int) tn u) else (mx_sv (qf_X2_parameterType nn (x : Int) (n : Int) u) fun u61 => mx_sv (qf_X4_fits nn 12 (u 49 12) u61 u) fun u63 => if u63 = 0 then (qj_X10_readCall_91 nn (qg_X10_readValue nn d) (qw_X10_readCall_22 nn (qg_X10_readValue nn d) f) c (x : Int) at_ how st dp (n : Int) tn u) else (qj_X10_readCall_92 nn (qg_X10_readValue nn d) (qw_X10_readCall_22 nn (qg_X10_readValue nn d) f) c (x : Int) at_ how st dp (n : Int) tn 1 u))) (fun uF => ∀ (vv : ms_M) (gd2 : Int), SFj u vv → Pc (qj_X13_called_110 nn (qg_X13_condition nn d2) e (j : Int) gd2 ((n + 1 : Nat) : Int) vv) (Z uF)) := by
          unfold qj_X10_readCall_91
          refine pc_if (fun _ => CF 0) (fun _ => ?_)
          refine pc_sv pc_any ?_; intro u61 _
          refine pc_sv pc_any ?_; intro u63 _
          exact pc_if (fun _ => CF 0) (fun _ => CF 1)
        refine pc_imp CF2 (fun uF HU => ?_)
        have S9 := sf_r S
        have RE : ∀ gd2 : Int, Pc (qj_X13_called_93 nn (qg_X13_condition nn d2) (qw_X13_called_23 nn (qg_X13_condition nn d2) f2) e (j : Int) (n : Int) k gd2 v.2) (Z uF) := fun gd2 => by
          unfold qj_X13_called_93
          refine pc_add (by omega) ?_; intro v11 e11
          rw [show v11 = ((n + 1 : Nat) : Int) by omega]
          refine pc_rA ?_; intro _ _ v13 _
          cases f2 with
          | zero => exact pc_none
          | succ f2 =>
            unfold qw_X13_called_23
            refine pc_if (fun _ => HU v.2 gd2 S) (fun _ => ?_)
            exact pc_if (fun _ => HU v.2 gd2 S) (fun z => absurd S9 z)
        unfold qj_X13_called_92
        refine pc_if (fun _ => RE 0) (fun _ => ?_)
        refine pc_rA ?_; intro _ _ v20 _
        refine pc_if (fun _ => RE 0) (fun _ => ?_)
        refine pc_rA ?_; intro _ _ v23 _
        refine pc_xl ?_; intro v24 _
        refine pc_rA ?_; intro _ _ v25 _
        refine pc_sv pc_any ?_; intro u27 _
        exact pc_if (fun _ => RE 0) (fun _ => RE 1)
      · have K0 := K.1
        obtain ⟨⟨x1, x2, x3, x4, x5⟩, ⟨x6, x7, x8⟩, ⟨x9, x10, x11⟩, ⟨x12, x13, x14⟩, -⟩ := K0
        have B2 : BX X u v.2 := bx_e B x9 x10
        have MF2 : MTf X u v.2 x j := mtf_k MF (fun cc y z => x9 cc y (by omega) (by omega) (by omega) (by omega) (by omega) (by omega) (by omega) (by omega)) (fun cc y z => x10.1 cc y (by omega) (by omega) (by omega))
        -- the class goes on with rt2
        have CG : ∀ rt2 : Int, (rt2 = 0 ∨ rt2 = 1) → Pc (qj_X10_readCall_92 nn (qg_X10_readValue nn d) (qw_X10_readCall_22 nn (qg_X10_readValue nn d) f) c (x : Int) at_ how st dp (n : Int) tn rt2 u) (fun uF => Pc (qw_X13_called_23 nn (qg_X13_condition nn d2) f2 e (j : Int) (if fit = 0 then 0 else rt2) ((n + 1 : Nat) : Int) (bT X 173 k.toNat) v.2) (Z uF)) := fun rt2 h2 => by
          unfold qj_X10_readCall_92
          refine pc_add (by omega) ?_; intro v39 e39
          rw [show v39 = ((n + 1 : Nat) : Int) by omega]
          refine pc_sv (c_kind Y.1 B2.1.1.1.1 x2 x1 x4) ?_; intro u42 q42
          refine pc_if (fun z => ?_) (fun z => ?_)
          · refine pc_add (by omega) ?_; intro v43 e43
            rw [e43]
            exact HC f f2 u u v rt2 K FX n303 RK h2 (.inl ⟨by omega, rfl⟩)
          · rw [x1]
            refine pc_add (by omega) ?_; intro v46 e46
            refine pc_xl ?_; intro h47 e47
            refine pc_add (by omega) ?_; intro v48 e48
            rw [e48]
            exact HC f f2 u h47 v rt2 K FX n303 RK h2 (.inr ⟨by omega, by rw [e47]; congr 1⟩)
        -- the reference with what the class found
        have RR : ∀ {uF : ms_M} (rt2 : Int), (rt2 = 0 ∨ rt2 = 1) → (rt = 0 → rt2 = 0) → (¬ rt = 0 → ((rt2 = 1 ∧ (n : Int) < v.2 189 j ∧ FTS (bB X 180) (u 49 12) (u 29 (6 * x + n))) ∨ (rt2 = 0 ∧ ¬ ((n : Int) < v.2 189 j ∧ FTS (bB X 180) (u 49 12) (u 29 (6 * x + n)))))) → Pc (qw_X13_called_23 nn (qg_X13_condition nn d2) f2 e (j : Int) (if fit = 0 then 0 else rt2) ((n + 1 : Nat) : Int) (bT X 173 k.toNat) v.2) (Z uF) → Pc (if gd = 0 then (qj_X13_called_92 nn (qg_X13_condition nn d2) (qw_X13_called_23 nn (qg_X13_condition nn d2) f2) e (j : Int) (n : Int) k v.2) else (rd_A 800 189 (j : Int) v.2 fun v20 => if v20 ≤ (n : Int) then (qj_X13_called_92 nn (qg_X13_condition nn d2) (qw_X13_called_23 nn (qg_X13_condition nn d2) f2) e (j : Int) (n : Int) k v.2) else (rd_A 800 188 (j : Int) v.2 fun v23 => xl (oq_add v23 (n : Int)) fun v24 => rd_A 1500 195 v24 v.2 fun v25 => mx_sv (qf_X13_fits nn v.1 v25 v.2) fun u27 => if u27 = 0 then (qj_X13_called_92 nn (qg_X13_condition nn d2) (qw_X13_called_23 nn (qg_X13_condition nn d2) f2) e (j : Int) (n : Int) k v.2) else (qj_X13_called_93 nn (qg_X13_condition nn d2) (qw_X13_called_23 nn (qg_X13_condition nn d2) f2) e (j : Int) (n : Int) k 1 v.2)))) (Z uF) := fun {uF} rt2 h2 h3 h4 HU => by
          unfold qj_X13_called_92
          have AS : ∀ gd2 : Int, gd2 = (if fit = 0 then 0 else rt2) → Pc (qj_X13_called_93 nn (qg_X13_condition nn d2) (qw_X13_called_23 nn (qg_X13_condition nn d2) f2) e (j : Int) (n : Int) k gd2 v.2) (Z uF) := fun gd2 hg2 => RG gd2 B2 x5 (by rw [hg2]; exact HU)
          by_cases fz : fit = 0
          · have g0 : gd = 0 := by rw [hgd, if_pos fz]
            rw [if_pos g0]
            exact AS 0 (by rw [if_pos fz])
          · rw [if_neg fz] at hgd
            refine pc_if (fun z => AS 0 (by rw [if_neg fz, h3 (by omega)])) (fun z => ?_)
            have h4 := h4 (by omega)
            refine pc_rA ?_; intro _ _ v20 e20
            rw [Int.toNat_natCast] at e20
            refine pc_if (fun z2 => AS 0 ?_) (fun z2 => ?_)
            · rw [if_neg fz]
              rcases h4 with y | y
              · omega
              · exact y.1.symm
            have m3 := MF2.2.2.1
            refine pc_rA ?_; intro _ _ v23 e23
            rw [Int.toNat_natCast] at e23
            refine pc_add (by omega) ?_; intro v24 e24
            refine pc_rA ?_; intro _ _ v25 e25
            obtain ⟨p1, p2, p3⟩ := MF2.2.2.2.1 n (by omega)
            rw [show v24.toNat = (v.2 188 j).toNat + n by omega, p3] at e25
            rw [e25, x6]
            refine pc_sv (r_fit Y (bx_180 B2) x7 p1) ?_; intro u27 q27
            refine pc_if (fun z3 => AS 0 ?_) (fun z3 => AS 1 ?_)
            · rw [if_neg fz]
              rcases h4 with y | y
              · rcases q27 with w | w
                · omega
                · exact absurd y.2.2 w.2
              · exact y.1.symm
            · rw [if_neg fz]
              rcases h4 with y | y
              · exact y.1.symm
              · rcases q27 with w | w
                · exact absurd ⟨by omega, w.2⟩ y.2
                · exact absurd w.1 z3
        unfold qj_X10_readCall_91
        refine pc_if (fun z => ?_) (fun z => ?_)
        · exact pc_imp (CG 0 (.inl rfl)) (fun uF HU => RR 0 (.inl rfl) (fun _ => rfl) (fun z2 => absurd z z2) HU)
        · refine pc_sv (c_parTy (n := n) MF2) ?_; intro u61 q61
          rcases q61 with ⟨y1, y2⟩ | ⟨y1, y2⟩
          · obtain ⟨p1, p2, p3⟩ := MF2.2.2.2.1 n y1
            rw [y2]
            refine pc_sv (c_fit Y B2 x7 p1) ?_; intro u63 q63
            refine pc_if (fun z3 => ?_) (fun z3 => ?_)
            · refine pc_imp (CG 0 (.inl rfl)) (fun uF HU => RR 0 (.inl rfl) (fun _ => rfl) (fun _ => .inr ⟨rfl, fun f => ?_⟩) HU)
              rcases q63 with w | w
              · omega
              · exact w.2 f.2
            · refine pc_imp (CG 1 (.inr rfl)) (fun uF HU => RR 1 (.inr rfl) (fun z2 => absurd z2 z) (fun _ => .inl ⟨rfl, y1, ?_⟩) HU)
              rcases q63 with w | w
              · exact w.2
              · exact absurd w.1 z3
          · rw [y2]
            refine pc_sv (c_fit5 x7 n8) ?_; intro u63 q63
            refine pc_if (fun z3 => ?_) (fun z3 => absurd q63 z3)
            exact pc_imp (CG 0 (.inl rfl)) (fun uF HU => RR 0 (.inl rfl) (fun _ => rfl) (fun _ => .inr ⟨rfl, fun f => y1 f.1⟩) HU)
end
end
section
/- calls: the ARGS of both sides, all -/
/-- ARGS with their brackets; t is the closing one -/
def A4 (nn : Nat) (X : BCx) (dp a b : Int) (p t : Nat) (k : Int) : Prop := ∀ (d d2 : Nat) (h r : ms_M) (c at_ how st e fit : Int) (x j : Nat) (Z : ms_M → Int × ms_M → Prop), EPr X dp p h r → (0 ≤ r 160 57 ∧ r 160 57 + (b - a) < 9000 ∧ b ≤ 9000) → MTf X h r x j → (fit = 0 ∨ fit = 1) → (∀ (u v : ms_M) (n2 : Nat) (rt2 : Int), AOk nn X k a b (p + 1) t n2 (up_M h 2 10 ((p + 1 : Nat) : Int)) r u v → (rt2 = 0 ∨ rt2 = 1) → Pc (qj_X10_readCall_128 nn (qg_X10_readValue nn d) c (x : Int) at_ how st (n2 : Int) rt2 u) (fun uF => Pc (qj_X13_called_110 nn (qg_X13_condition nn d2) e (j : Int) (if fit = 0 then 0 else rt2) (n2 : Int) v) (Z uF))) → (∀ (u v : ms_M) (n2 : Nat) (rt2 gd2 : Int), SFj u v → Pc (qj_X10_readCall_128 nn (qg_X10_readValue nn d) c (x : Int) at_ how st (n2 : Int) rt2 u) (fun uF => Pc (qj_X13_called_110 nn (qg_X13_condition nn d2) e (j : Int) gd2 (n2 : Int) v) (Z uF))) → Pc (qo_X10_readCall nn (qg_X10_readValue nn d) c (x : Int) at_ how st dp h) (fun uF => Pc (qw_X13_called_23 nn (qg_X13_condition nn d2) nn e (j : Int) fit 0 k r) (Z uF))
section
variable {nn : Nat} {X : BCx} {dp i l a b e s k : Int} {p q t t2 n : Nat} {h g u r w m : ms_M} {v : Int × ms_M}
theorem a5_ao {ix : Int} (Y : CXs X) (ne : 0 ≤ a ∧ a ≤ k ∧ k < b) (n41 : ¬ bK X p = 41) (H : E0 nn X dp ix a k p t (bT X 170 k.toNat)) (kt : bK X t = 41) (nx : bT X 173 k.toNat = -1) (pt : p < t) : A5 nn X dp a b p t k := by
  intro d d2 f f2 h r c at_ how st e fit x j n rt gd tn Z Q b57 MF hg ht np al HC HF
  have B := Q.1
  refine a5_step Y ne n41 H (.inl kt) pt d d2 f f2 h r c at_ how st e fit x j n rt gd tn Z Q b57 MF hg ht np al (fun f f2 u h2 v rt2 K FX n303 RK hr2 hh => ?_) HF
  have hh2 : h2 = u := by
    rcases hh with y | y
    · exact y.2
    · omega
  rw [hh2, nx]
  obtain ⟨⟨x1, x2, x3, x4, x5⟩, ⟨x6, x7, x8⟩, ⟨x9, x10, x11⟩, ⟨x12, x13, x14⟩, -⟩ := K.1
  obtain ⟨⟨FH, -⟩, FM⟩ := FX.2.2 (by omega)
  rw [if_neg n303] at FH
  have B2 : BX X u v.2 := bx_e B x9 x10
  have AO : AOk nn X k a b p t 1 h r u v.2 := by
    refine ⟨⟨x1, x2, by omega, x4, x5⟩, ⟨x9, ⟨x10.1, fun cc x z1 z2 z3 => x10.2 cc x z1 z2 (by omega)⟩, x11, RK⟩, ⟨x12, x13, by omega, by omega⟩, fun d f l1 l2 l3 l4 PB WL L m QQ M A b5 b8 hl HH => ?_⟩
    cases f with
    | zero => exact pc_none
    | succ f =>
      unfold qw_X13_workCall_19
      refine pc_if (fun z => absurd z (by omega)) (fun _ => ?_)
      refine pc_rA ?_; intro _ _ v15 e15
      rw [(mk_t M).1 170 _ (by omega)] at e15
      rw [e15]
      refine pc_sv (pc_and (FM d PB WL L m M (an_s A ⟨Int.le_refl _, by omega⟩ (fun _ _ _ _ _ _ => rfl)) (by omega) b8) (wk_k d (by omega))) ?_; intro u17 ⟨⟨M17, lb⟩, an, k57⟩
      refine pc_add (by omega) ?_; intro v18 e18
      refine pc_rA ?_; intro _ _ v20 e20
      rw [(mk_t M17).1 173 _ (by omega), nx] at e20
      rw [e18, e20]
      exact HH f u17 M17 lb an k57
  have P128 : Pc (qj_X10_readCall_128 nn (qg_X10_readValue nn d) c (x : Int) at_ how st ((n + 1 : Nat) : Int) rt2 u) (fun uF => Pc (qw_X13_called_23 nn (qg_X13_condition nn d2) f2 e (j : Int) (if fit = 0 then 0 else rt2) ((n + 1 : Nat) : Int) (-1) v.2) (Z uF)) := by
    refine pc_imp (HC u v.2 1 rt2 AO hr2) (fun uF HU => ?_)
    cases f2 with
    | zero => exact pc_none
    | succ f2 =>
      unfold qw_X13_called_23
      exact pc_if (fun _ => HU) (fun z => absurd rfl z)
  cases f with
  | zero => exact pc_none
  | succ f =>
    unfold qw_X10_readCall_22
    refine pc_if (fun _ => P128) (fun _ => ?_)
    refine pc_if (fun _ => P128) (fun _ => ?_)
    refine pc_sv (c_kind Y.1 B2.1.1.1.1 x2 x1 x4) ?_; intro u54 q54
    exact pc_if (fun _ => P128) (fun z => absurd (q54.trans kt) z)
theorem a5_am {ix : Int} (Y : CXs X) (ne : 0 ≤ a ∧ a ≤ k ∧ k < b) (n41 : ¬ bK X p = 41) (H : E0 nn X dp ix a k p t (bT X 170 k.toNat)) (kt : bK X t = 47) (HR : A5 nn X dp (k + 1) b (t + 1) t2 (bT X 173 k.toNat)) (pt : p < t ∧ t + 1 ≤ t2) : A5 nn X dp a b p t2 k := by
  intro d d2 f f2 h r c at_ how st e fit x j n rt gd tn Z Q b57 MF hg ht np al HC HF
  have B := Q.1
  have c3 := Y.1.2.1
  have Q0 := Q
  obtain ⟨-, ⟨q1, q2, q3, q4⟩, ⟨f1, f2', f3⟩, o1⟩ := Q0
  refine a5_step Y ne n41 H (.inr kt) pt.1 d d2 f f2 h r c at_ how st e fit x j n rt gd tn Z Q b57 MF hg ht np al (fun f f2 u h2 v rt2 K FX n303 RK hr2 hh => ?_) HF
  have hh2 : h2 = up_M u 2 10 ((t + 1 : Nat) : Int) := by
    rcases hh with y | y
    · omega
    · exact y.2
  obtain ⟨⟨x1, x2, x3, x4, x5⟩, ⟨x6, x7, x8⟩, ⟨x9, x10, x11⟩, ⟨x12, x13, x14⟩, -⟩ := K.1
  obtain ⟨⟨FH, -⟩, FM⟩ := FX.2.2 (by omega)
  rw [if_neg n303] at FH
  have tc1 : t + 1 < bc X := jp_lt Y.1 x2 (by omega)
  have E2 : ∀ cc x : Nat, ¬ (cc = 2 ∧ x = 10) → h2 cc x = u cc x := fun cc x z => by rw [hh2, up_n z]
  have B2 : BX X u v.2 := bx_e B x9 x10
  have a18 : h2 49 18 = h 49 18 := by rw [E2 49 18 (by omega)]; exact x9 49 18 (by omega) (by omega) (by omega) (by omega) (by omega) (by omega) (by omega) (by omega)
  have o10 : h2 49 10 = h 49 10 := by rw [E2 49 10 (by omega)]; exact x11.1
  have e21 := E2 34 1 (by omega)
  have e23 := E2 34 3 (by omega)
  have Q2 : EPr X dp (t + 1) h2 v.2 := ⟨bx_k B2 (fun cc x z => E2 cc x (by omega)) (fun _ _ _ => rfl), ⟨by rw [hh2, up_s], tc1, by rw [E2 2 11 (by omega)]; exact x4, x5⟩, ⟨frc_k x12 (fun cc x z => E2 cc x (by omega)), ⟨by omega, by omega⟩, by omega, by omega⟩, by omega, by omega, by omega⟩
  have RK57 := RK.1
  refine HR d d2 f f2 h2 v.2 c at_ how st e fit x j (n + 1) rt2 (if fit = 0 then 0 else rt2) (tn + 1) Z Q2 (by omega) (mtf_k MF (fun cc y z => by rw [E2 cc y (by omega)]; exact x9 cc y (by omega) (by omega) (by omega) (by omega) (by omega) (by omega) (by omega) (by omega)) (fun cc y z => x10.1 cc y (by omega) (by omega) (by omega))) ⟨hr2, hg.2.1, rfl⟩ (by omega) (by omega) (by omega) (fun u' v' n2 rt3 AO hr3 => ?_) (fun u' v' n2 rt3 gd3 S => ?_)
  · have AO2 : AOk nn X k a b p t2 (n2 + 1) h r u' v' := by
      obtain ⟨⟨y1, y2, y3, y4, y5⟩, ⟨y6, y7, y8, y9⟩, ⟨y10, y11, y12, y13⟩, MA⟩ := AO
      refine ⟨⟨y1, y2, by omega, y4, y5⟩, ⟨cfe_t x9 (cfe_t (g := h2) (fun cc x z1 z2 z3 z4 z5 z6 z7 z8 => E2 cc x (by omega)) y6), rfe_t x10 y7 ⟨Int.le_refl _, by omega⟩ ⟨by omega, Int.le_refl _⟩, sgb_t x11 (sgb_t (g := h2) ⟨E2 49 10 (by omega), fun cc x z1 z2 z3 => E2 cc x (by omega)⟩ y8), ⟨by rw [y9.1]; exact RK.1, fun j hj => by rw [y9.2 j (by rw [RK.1]; exact hj)]; exact RK.2 j hj⟩⟩, ⟨y10, by omega, by omega, by omega⟩, fun d f l1 l2 l3 l4 PB WL L m QQ M A b5 b8 hl HH => ?_⟩
      cases f with
      | zero => exact pc_none
      | succ f =>
        unfold qw_X13_workCall_19
        refine pc_if (fun z => absurd z (by omega)) (fun _ => ?_)
        refine pc_rA ?_; intro _ _ v15 e15
        rw [(mk_t M).1 170 _ (by omega)] at e15
        rw [e15]
        have AE : AN a k v.2 m := an_s A ⟨Int.le_refl _, by omega⟩ (fun cc x c1 c2 c4 c5 => y7.2 cc x c1 c2 (by omega))
        refine pc_sv (pc_and (FM d PB WL L m M AE (by omega) (by omega)) (wk_k d (by omega))) ?_; intro u17 ⟨⟨M17, lb⟩, an, k57⟩
        refine pc_add (by omega) ?_; intro v18 e18
        refine pc_rA ?_; intro _ _ v20 e20
        rw [(mk_t M17).1 173 _ (by omega)] at e20
        rw [e18, e20]
        have M2 : MKx X PB WL L h2 u17 := mkx_c M17 (fun cc x z1 z2 z3 => E2 cc x (by omega))
        refine MA d f l1 l2 l3 (l4 + 1) PB WL L u17 QQ M2 (an_s (an_m A an) ⟨by omega, Int.le_refl _⟩ (fun _ _ _ _ _ _ => rfl)) (by omega) (by omega) (by omega) (fun f3 w Mw lw aw kw => ?_)
        have W := HH f3 w Mw (by omega) (fun cc x c1 c2 => by rw [aw cc x c1 c2]; exact an cc x c1 c2) (by rw [kw]; exact k57)
        rw [show l4 + 1 + (n2 : Int) = l4 + ((n2 + 1 : Nat) : Int) by omega]
        exact W
    have W := HC u' v' (n2 + 1) rt3 AO2 hr3
    rw [show n + (n2 + 1) = n + 1 + n2 by omega] at W
    exact W
  · have W := HF u' v' (n2 + 1) rt3 gd3 S
    rw [show n + (n2 + 1) = n + 1 + n2 by omega] at W
    exact W
theorem a4_al (Y : CXs X) (k40 : bK X p = 40) (H : A5 nn X dp a b (p + 1) t k) : A4 nn X dp a b p t k := by
  intro d d2 h r c at_ how st e fit x j Z Q b57 MF hf HC HF
  have Q0 := Q
  obtain ⟨B, ⟨q1, q2, q3, q4⟩, ⟨f1, f2, f3⟩, o1⟩ := Q0
  have c3 := Y.1.2.1
  have p1c : p + 1 < bc X := jp_lt Y.1 q2 (by omega)
  unfold qo_X10_readCall
  rw [q1]
  refine pc_add (by omega) ?_; intro v71 e71
  refine pc_xl ?_; intro h72 e72
  rw [show v71 = ((p + 1 : Nat) : Int) by omega] at e72
  have E : ∀ cc x : Nat, ¬ (cc = 2 ∧ x = 10) → h72 cc x = h cc x := fun cc x z => by rw [e72, up_n z]
  have Q1 : EPr X dp (p + 1) h72 r := epr_in Q E (by rw [e72, up_s]) (by omega) p1c
  refine H d d2 nn nn h72 r c at_ how st e fit x j 0 1 fit 0 Z Q1 b57 (mtf_k MF (fun cc y z => E cc y (by omega)) (fun _ _ _ => rfl)) ⟨.inr rfl, hf, by rcases hf with z | z <;> rw [z] <;> rfl⟩ (by omega) (by omega) (by rw [E 49 18 (by omega)]; omega) (fun u v n2 rt2 AO hr => ?_) (fun u v n2 rt2 gd2 S => ?_)
  · rw [Nat.zero_add]
    rw [e72] at AO
    exact HC u v n2 rt2 AO hr
  · rw [Nat.zero_add]
    exact HF u v n2 rt2 gd2 S
theorem a4_an (Y : CXs X) (k40 : bK X p = 40) (k41 : bK X (p + 1) = 41) : A4 nn X dp a b p (p + 1) (-1) := by
  intro d d2 h r c at_ how st e fit x j Z Q b57 MF hf HC HF
  have Q0 := Q
  obtain ⟨B, ⟨q1, q2, q3, q4⟩, ⟨f1, f2, f3⟩, o1⟩ := Q0
  have c3 := Y.1.2.1
  have p1c : p + 1 < bc X := jp_lt Y.1 q2 (by omega)
  unfold qo_X10_readCall
  rw [q1]
  refine pc_add (by omega) ?_; intro v71 e71
  refine pc_xl ?_; intro h72 e72
  rw [show v71 = ((p + 1 : Nat) : Int) by omega] at e72
  have E : ∀ cc x : Nat, ¬ (cc = 2 ∧ x = 10) → h72 cc x = h cc x := fun cc x z => by rw [e72, up_n z]
  have Q1 : EPr X dp (p + 1) h72 r := epr_in Q E (by rw [e72, up_s]) (by omega) p1c
  have AO : AOk nn X (-1) a b (p + 1) (p + 1) 0 (up_M h 2 10 ((p + 1 : Nat) : Int)) r h72 r := by
    rw [← e72]
    refine ⟨⟨by rw [e72, up_s], p1c, Nat.le_refl _, Q1.2.1.2.2.1, q4⟩, ⟨cfe_r, rfe_r, sgb_r, rfl, fun _ _ => rfl⟩, ⟨Q1.2.2.1.1, ⟨Q1.2.2.1.2.1.1, Int.le_refl _⟩, by omega, by omega⟩, fun d f l1 l2 l3 l4 PB WL L m QQ M A b5 b8 hl HH => ?_⟩
    have W := HH f m M (by omega) (fun _ _ _ _ => rfl) rfl
    rw [show l4 + ((0 : Nat) : Int) = l4 by omega] at W
    exact W
  have RC : ∀ (uF : ms_M) (f2 : Nat), Pc (qj_X13_called_110 nn (qg_X13_condition nn d2) e (j : Int) fit 0 r) (Z uF) → Pc (qw_X13_called_23 nn (qg_X13_condition nn d2) f2 e (j : Int) fit 0 (-1) r) (Z uF) := fun uF f2 HU => by
    cases f2 with
    | zero => exact pc_none
    | succ n3 =>
      unfold qw_X13_called_23
      exact pc_if (fun _ => HU) (fun z => absurd rfl z)
  have P128 : Pc (qj_X10_readCall_128 nn (qg_X10_readValue nn d) c (x : Int) at_ how st 0 1 h72) (fun uF => Pc (qw_X13_called_23 nn (qg_X13_condition nn d2) nn e (j : Int) fit 0 (-1) r) (Z uF)) := by
    refine pc_imp (HC h72 r 0 1 AO (.inr rfl)) (fun uF HU => RC uF nn ?_)
    have e1 : (if fit = 0 then 0 else (1 : Int)) = fit := by rcases hf with z | z <;> rw [z] <;> rfl
    rw [e1] at HU
    exact HU
  have CL : ∀ f : Nat, Pc (qw_X10_readCall_22 nn (qg_X10_readValue nn d) f c (x : Int) at_ how st dp 0 1 0 h72) (fun uF => Pc (qw_X13_called_23 nn (qg_X13_condition nn d2) nn e (j : Int) fit 0 (-1) r) (Z uF)) := fun f => by
    cases f with
    | zero => exact pc_none
    | succ n3 =>
      unfold qw_X10_readCall_22
      refine pc_if (fun _ => P128) (fun _ => ?_)
      refine pc_if (fun _ => P128) (fun _ => ?_)
      refine pc_sv (c_kind Y.1 Q1.1.1.1.1.1 p1c Q1.2.1.1 Q1.2.1.2.2.1) ?_; intro u54 q54
      exact pc_if (fun _ => P128) (fun z => absurd (q54.trans k41) z)
  exact CL nn
end
end
section
/- calls: behind the ARGS -/
/-- what the class leaves where the call is right; fx: the method is fixed -/
def CLRq (nn : Nat) (X : BCx) (e c st : Int) (x t n : Nat) (j op kp : Int) (u uF : ms_M) : Prop := (uF 2 10 = ((t + 1 : Nat) : Int) ∧ uF 2 11 = 0 ∧ uF 49 11 = 1 ∧ uF 49 12 = u 24 x ∧ (u 24 x = 303 → bK X (t + 1) = 46 ∧ st = u 49 18)) ∧ (∀ cc y : Nat, ¬ (cc = 2 ∧ y = 10) → ¬ (cc = 34 ∧ (y = 1 ∨ y = 3 ∨ y = 4)) → ¬ (cc = 35 ∨ cc = 36) → ¬ (cc = 45 ∧ (y = 4 ∨ y = 5)) → ¬ (cc = 46 ∨ cc = 47) → ¬ (cc = 49 ∧ (y = 11 ∨ y = 12)) → uF cc y = u cc y) ∧ (uF 34 1 = u 34 1 + 2 ∧ 0 ≤ uF 34 3 ∧ uF 34 3 ≤ u 34 3 + 1) ∧ (kp ≤ u 34 3 → uF 34 3 = u 34 3 - kp + (if u 24 x = 303 then 0 else 1)) ∧ (uF 49 12 = 303 ∨ 20 < uF 34 3 ∨ uF 36 (uF 34 3 - 1).toNat = uF 49 12) ∧ (kp ≤ u 34 3 → ∀ (rc : tq_X13_work) (PB : Nat → Prop) (WL : Int → Int → Prop) (L : List (Int × Int)) (w : ms_M), MKx X PB WL L u w → w 175 e.toNat = j → w 174 e.toNat = ty_T (u 24 x) → Pc (qj_X13_workCall_65 nn rc e c kp op w) (fun w2 => MKx X PB WL L uF w2 ∧ w2 160 88 = w 160 88))
section
variable {nn : Nat} {X : BCx} {dp i l a b e s k : Int} {p q t tk : Nat} {h g u r w m v : ms_M}
theorem c_mof {c x : Int} : Pc (qf_X6_methodOf nn c x h) (fun u => ∀ cc y : Nat, ¬ (cc = 45 ∧ (y = 4 ∨ y = 5)) → ¬ cc = 46 → ¬ cc = 47 → u.2 cc y = h cc y) := fun u eu cc y z1 z2 z3 => ff_X6_methodOf nn u eu cc y (nw_of (by unfold wl_X6_methodOf; simp only [List.mem_cons, List.not_mem_nil, or_false]; omega) (by unfold wf_X6_methodOf; simp only [List.mem_cons, List.not_mem_nil, or_false, Prod.mk.injEq]; omega))
theorem m_turn0 {PB : Nat → Prop} {WL : Int → Int → Prop} {L : List (Int × Int)} {kp : Int} (M : MKx X PB WL L h m) (A : CPo kp h g) (hk : 0 ≤ kp ∧ kp ≤ h 34 3) (b3 : h 34 3 ≤ 1000000) : Pc (qf_X13_turn nn kp 3 m) (fun w => MKx X PB WL L g w ∧ w 160 88 = m 160 88) := by
  obtain ⟨-, -, ⟨m1, m2, m3, m4⟩, -⟩ := mk_t M
  unfold qf_X13_turn
  refine pc_sub (by omega) ?_; intro v2 e2
  refine pc_xl ?_; intro h3 e3
  refine pc_if (fun _ => pc_ret ⟨mk_pop M A hk (by rw [e3, e2]), by rw [e3, up_n (by omega)]⟩) (fun z => absurd rfl z)
theorem c_call {rc : tq_X10_readValue} {rc2 : tq_X13_condition} {c at_ st how fit rt : Int} {x j n : Nat} (G : FScG_X10_readValue rc) (Y : CXs X) (B : BX X u v) (MF : MTf X u v x j) (MB : MBx X 1 (x : Int) (j : Int)) (hc : 0 ≤ c ∧ c < 8 + (bn X : Int)) (k41 : bK X t = 41) (u10 : u 2 10 = (t : Int)) (tc : t < bc X) (u11 : u 2 11 = 0) (v9 : v 160 9 = 0) (hat : at_ = (tk : Int)) (kc : tk < bc X) (ne : 0 ≤ e) (e68 : bT X 168 e.toNat = (tk : Int)) (way : fit = 0 ↔ ((v 182 j = 2 ∧ how = 1) ∨ (v 182 j = 1 ∧ how = 2))) (hr : rt = 0 ∨ rt = 1) (l1 : 0 ≤ u 34 1 ∧ u 34 1 ≤ 900000) (l3 : 0 ≤ u 34 3 ∧ u 34 3 ≤ 2999) : Pc (qj_X10_readCall_128 nn rc c (x : Int) at_ how st (n : Int) rt u) (fun uF => Pc (qj_X13_called_110 nn rc2 e (j : Int) (if fit = 0 then 0 else rt) (n : Int) v) (fun y => SFj uF y.2 ∨ (y = (3, v) ∧ u 24 x = 303 ∧ uF 2 11 = 6 ∧ uF 2 12 = bP X tk ∧ ¬ (bK X (t + 1) = 46 ∧ st = u 49 18)) ∨ (y = (ty_T (u 24 x), v) ∧ ¬ fit = 0 ∧ CLRq nn X e c st x t n (j : Int) (if v 182 j = 2 then 184 else 182) (if v 182 j = 2 then (n : Int) else (n : Int) + 1) u uF))) := by
  have n8 := Y.2.2.1
  have c3 := Y.1.2.1
  have t1c : t + 1 < bc X := jp_lt Y.1 tc (by omega)
  have TQ : TBq (bK X) (bP X) (bc X) v := B.1.1.2.2.1
  have v68 : v 168 e.toNat = (tk : Int) := (B.2.2.2.2.2.1 168 _ (by omega)).trans e68
  -- the reference: right, or not
  have RB : ¬ (¬ fit = 0 ∧ rt = 1 ∧ (n : Int) = v 189 j) → Pc (qj_X13_called_110 nn rc2 e (j : Int) (if fit = 0 then 0 else rt) (n : Int) v) (fun y => y.2 160 9 = 6 ∧ y.2 160 10 = bP X tk) := fun nok => by
    have P126 : Pc (qj_X13_called_126 nn rc2 e (j : Int) v) (fun y => y.2 160 9 = 6 ∧ y.2 160 10 = bP X tk) := by
      unfold qj_X13_called_126 qj_X13_called_138
      refine pc_rA ?_; intro _ _ v4 e4
      rw [v68] at e4
      refine pc_sv (r_wrong TQ kc v9 e4) ?_; intro u6 w1
      refine pc_rA ?_; intro _ _ v2 _
      exact pc_ret w1
    unfold qj_X13_called_110
    refine pc_if (fun _ => P126) (fun z => ?_)
    refine pc_rA ?_; intro _ _ v8 e8
    rw [Int.toNat_natCast] at e8
    refine pc_if (fun z2 => absurd ⟨?_, ?_, by omega⟩ nok) (fun _ => P126)
    · intro f
      rw [if_pos f] at z
      exact z rfl
    · by_cases f : fit = 0
      · rw [if_pos f] at z
        exact absurd rfl z
      · rw [if_neg f] at z
        omega
  have RG : (¬ fit = 0 ∧ rt = 1 ∧ (n : Int) = v 189 j) → Pc (qj_X13_called_110 nn rc2 e (j : Int) (if fit = 0 then 0 else rt) (n : Int) v) (fun y => y = (ty_T (u 24 x), v)) := fun ⟨o1, o2, o3⟩ => by
    rw [if_neg o1, o2]
    unfold qj_X13_called_110 qj_X13_called_138
    refine pc_if (fun z => absurd z (by decide)) (fun _ => ?_)
    refine pc_rA ?_; intro _ _ v8 e8
    rw [Int.toNat_natCast] at e8
    refine pc_if (fun _ => ?_) (fun z => absurd (show (n : Int) = v8 by omega) z)
    refine pc_rA ?_; intro _ _ v2 e2
    rw [Int.toNat_natCast, MF.2.2.2.2.2.2] at e2
    exact pc_ret (by rw [e2])
  unfold qj_X10_readCall_128
  rw [u10]
  refine pc_add (by omega) ?_; intro v28 e28
  refine pc_xl ?_; intro h29 e29
  rw [show v28 = ((t + 1 : Nat) : Int) by omega] at e29
  have E : ∀ cc y : Nat, ¬ (cc = 2 ∧ y = 10) → h29 cc y = u cc y := fun cc y z => by rw [e29, up_n z]
  have f29 : h29 2 11 = 0 := by rw [E 2 11 (by omega)]; exact u11
  have B29 : BX X h29 v := bx_k B (fun cc y z => E cc y (by omega)) (fun _ _ _ => rfl)
  have TB29 : TBc (bK X) (bP X) (bc X) h29 := B29.1.1.1.1
  have MF29 : MTf X h29 v x j := mtf_k MF (fun cc y z => E cc y (by omega)) (fun _ _ _ => rfl)
  have a1 := E 34 1 (by omega)
  have a3 := E 34 3 (by omega)
  refine pc_if (fun _ => ?_) (fun z => absurd f29 z)
  -- a wrong call
  have P0 : ∀ l9 : Int, ¬ (¬ fit = 0 ∧ rt = 1 ∧ (n : Int) = v 189 j) → Pc (qj_X10_readCall_223 nn rc c (x : Int) at_ st (n : Int) l9 0 h29) (fun uF => Pc (qj_X13_called_110 nn rc2 e (j : Int) (if fit = 0 then 0 else rt) (n : Int) v) (fun y => SFj uF y.2 ∨ (y = (3, v) ∧ u 24 x = 303 ∧ uF 2 11 = 6 ∧ uF 2 12 = bP X tk ∧ ¬ (bK X (t + 1) = 46 ∧ st = u 49 18)) ∨ (y = (ty_T (u 24 x), v) ∧ ¬ fit = 0 ∧ CLRq nn X e c st x t n (j : Int) (if v 182 j = 2 then 184 else 182) (if v 182 j = 2 then (n : Int) else (n : Int) + 1) u uF))) := fun l9 nok => by
    unfold qj_X10_readCall_223
    refine c_wf TB29 f29 kc hat (fun g S => ?_) (fun uF y => pc_imp (RB nok) (fun y' w => .inl ⟨by omega, by rw [w.1, y.1], by rw [w.2, y.2]⟩))
    exact pc_if (fun _ => fs_qj_X10_readCall_245 G S) (fun _ => fs_qj_X10_readCall_245 G S)
  -- a right one
  have P1 : ∀ l9 op kp : Int, (¬ fit = 0 ∧ rt = 1 ∧ (n : Int) = v 189 j) → op = (if v 182 j = 2 then 184 else 182) → kp = (if v 182 j = 2 then (n : Int) else (n : Int) + 1) → ((l9 = 0 ∧ v 182 j = 1) ∨ (l9 = 1 ∧ v 182 j = 2)) → Pc (qj_X10_readCall_245 nn rc c (x : Int) at_ st (n : Int) l9 op h29) (fun uF => Pc (qj_X13_called_110 nn rc2 e (j : Int) (if fit = 0 then 0 else rt) (n : Int) v) (fun y => SFj uF y.2 ∨ (y = (3, v) ∧ u 24 x = 303 ∧ uF 2 11 = 6 ∧ uF 2 12 = bP X tk ∧ ¬ (bK X (t + 1) = 46 ∧ st = u 49 18)) ∨ (y = (ty_T (u 24 x), v) ∧ ¬ fit = 0 ∧ CLRq nn X e c st x t n (j : Int) (if v 182 j = 2 then 184 else 182) (if v 182 j = 2 then (n : Int) else (n : Int) + 1) u uF))) := fun l9 op kp ok hop hkp h9 => by
    rw [← hop, ← hkp]
    have inop : in_R op := by rw [hop]; unfold in_R; split <;> omega
    have m6 := MF.2.2.1
    have k0 : 0 ≤ kp ∧ kp ≤ 1000 := by rw [hkp]; split <;> omega
    have REF := RG ok
    unfold qj_X10_readCall_245
    refine pc_sv (P := fun k => qf_X6_methodOf nn c (x : Int) h29 = some k ∧ ∀ cc y : Nat, ¬ (cc = 45 ∧ (y = 4 ∨ y = 5)) → ¬ cc = 46 → ¬ cc = 47 → k.2 cc y = h29 cc y) (fun k ek => ⟨ek, c_mof k ek⟩) ?_; intro u10' ⟨e10, U10⟩
    have b1 := U10 34 1 (by omega) (by omega) (by omega)
    have b3 := U10 34 3 (by omega) (by omega) (by omega)
    refine pc_sv (c_op2 (by omega)) ?_; intro u12 ⟨g1, A1, A2⟩
    have d1 : u12 34 1 = u 34 1 + 2 := by rw [A2.1, A1.1]; omega
    have d3 : u12 34 3 = u 34 3 := by rw [A2.2.2 34 3 (by omega) (by omega), A1.2.2 34 3 (by omega) (by omega)]; omega
    have U12 : ∀ cc y : Nat, ¬ (cc = 34 ∧ y = 1) → ¬ cc = 35 → ¬ (cc = 45 ∧ (y = 4 ∨ y = 5)) → ¬ (cc = 46 ∨ cc = 47) → u12 cc y = h29 cc y := fun cc y z1 z2 z3 z4 => by rw [A2.2.2 cc y z1 (by omega), A1.2.2 cc y z1 (by omega)]; exact U10 cc y z3 (by omega) (by omega)
    have P275 : Pc (qj_X10_readCall_275 nn rc (x : Int) at_ st kp u12) (fun uF => Pc (qj_X13_called_110 nn rc2 e (j : Int) (if fit = 0 then 0 else rt) (n : Int) v) (fun y => SFj uF y.2 ∨ (y = (3, v) ∧ u 24 x = 303 ∧ uF 2 11 = 6 ∧ uF 2 12 = bP X tk ∧ ¬ (bK X (t + 1) = 46 ∧ st = u 49 18)) ∨ (y = (ty_T (u 24 x), v) ∧ ¬ fit = 0 ∧ CLRq nn X e c st x t n (j : Int) op kp u uF))) := by
      unfold qj_X10_readCall_275
      refine pc_sv (c_pop k0 (by omega)) ?_; intro u2 A3
      have c2 : 0 ≤ u2 34 3 ∧ u2 34 3 ≤ u 34 3 ∧ (kp ≤ u 34 3 → u2 34 3 = u 34 3 - kp) := by rw [A3.1, d3]; split <;> omega
      have U2 : ∀ cc y : Nat, ¬ (cc = 34 ∧ (y = 1 ∨ y = 3)) → ¬ cc = 35 → ¬ (cc = 45 ∧ (y = 4 ∨ y = 5)) → ¬ (cc = 46 ∨ cc = 47) → u2 cc y = h29 cc y := fun cc y z1 z2 z3 z4 => by rw [A3.2 cc y (by omega)]; exact U12 cc y (by omega) z2 z3 z4
      have MF2 : MTf X u2 v x j := mtf_k MF29 (fun cc y z => U2 cc y (by omega) (by omega) (by omega) (by omega)) (fun _ _ _ => rfl)
      refine pc_sv (c_resO MF2) ?_; intro u5 q5
      have e24 : u2 24 x = u 24 x := by rw [U2 24 x (by omega) (by omega) (by omega) (by omega)]; exact E 24 x (by omega)
      rw [e24] at q5
      rw [q5]
      have TB2 : TBc (bK X) (bP X) (bc X) u2 := tbc_k TB29 (fun cc y z => U2 cc y (by omega) (by omega) (by omega) (by omega))
      have p2 : u2 2 10 = ((t + 1 : Nat) : Int) := by rw [U2 2 10 (by omega) (by omega) (by omega) (by omega), e29, up_s]
      have f2 : u2 2 11 = 0 := by rw [U2 2 11 (by omega) (by omega) (by omega) (by omega)]; exact f29
      have a18 : u2 49 18 = u 49 18 := by rw [U2 49 18 (by omega) (by omega) (by omega) (by omega)]; exact E 49 18 (by omega)
      have l2 : u2 34 1 = u 34 1 + 2 := by rw [A3.2 34 1 (by omega)]; exact d1
      -- the making up to turn
      have MK1 : ∀ (rc : tq_X13_work) (PB : Nat → Prop) (WL : Int → Int → Prop) (L : List (Int × Int)) (w : ms_M) (QQ : ms_M → Prop), MKx X PB WL L u w → w 175 e.toNat = (j : Int) → w 174 e.toNat = ty_T (u 24 x) → (∀ w4 : ms_M, MKx X PB WL L u12 w4 → w4 160 88 = w 160 88 → Pc (mx_sv (qf_X13_turn nn kp (ty_T (u 24 x)) w4) fun u12 => some u12) QQ) → Pc (qj_X13_workCall_65 nn rc e c kp op w) QQ := fun rc PB WL L w QQ M w5 w4' HK => by
        have M29 : MKx X PB WL L h29 w := mkx_c M (fun cc y z1 z2 z3 => E cc y (by omega))
        obtain ⟨-, -, ⟨m1, m2, m3, m4⟩, -⟩ := mk_t M29
        unfold qj_X13_workCall_65
        refine pc_sv (r_put (by omega)) ?_; intro w1 b1'
        obtain ⟨p1, p2', p3, p4⟩ := mk_plp M29 b1'
        refine pc_rA ?_; intro _ _ v4 e4
        rw [b1'.2.2 175 _ (by omega) (by omega), w5] at e4
        rw [e4]
        refine pc_sv (j_methC Y p4 TB29 B29.1.1.1.2.1 p3 p1 p2' MB hc u10' e10) ?_; intro w3 ⟨PC, SP⟩
        refine pc_sv (r_put (by rw [PC.2.2.2.2.1 160 68 (by omega) (by omega), b1'.1]; omega)) ?_; intro w4 b2
        have M1 : MKx X PB WL L u12 w4 := mk_opc M29 b1' PC SP A1 A2 b2 inop
        refine pc_rA ?_; intro _ _ v10 e10'
        rw [b2.2.2 174 _ (by omega) (by omega), PC.2.2.2.2.1 174 _ (by omega) (by omega), b1'.2.2 174 _ (by omega) (by omega), w4'] at e10'
        rw [e10']
        exact HK w4 M1 (by rw [b2.2.2 160 88 (by omega) (by omega), PC.2.2.2.2.1 160 88 (by omega) (by omega), b1'.2.2 160 88 (by omega) (by omega)])
      refine pc_sv (P := fun uF => Pc (qj_X13_called_110 nn rc2 e (j : Int) (if fit = 0 then 0 else rt) (n : Int) v) (fun y => SFj uF y.2 ∨ (y = (3, v) ∧ u 24 x = 303 ∧ uF 2 11 = 6 ∧ uF 2 12 = bP X tk ∧ ¬ (bK X (t + 1) = 46 ∧ st = u 49 18)) ∨ (y = (ty_T (u 24 x), v) ∧ ¬ fit = 0 ∧ CLRq nn X e c st x t n (j : Int) op kp u uF))) ?_ (fun u7 h7 => pc_ret h7)
      unfold qf_X10_closeCall
      by_cases v3 : u 24 x = 303
      · rw [if_pos v3]
        have t3 : ty_T (u 24 x) = 3 := by rw [v3]; rfl
        have P35 : ¬ (bK X (t + 1) = 46 ∧ st = u 49 18) → Pc (qj_X10_closeCall_35 nn (u 24 x) at_ u2) (fun uF => Pc (qj_X13_called_110 nn rc2 e (j : Int) (if fit = 0 then 0 else rt) (n : Int) v) (fun y => SFj uF y.2 ∨ (y = (3, v) ∧ u 24 x = 303 ∧ uF 2 11 = 6 ∧ uF 2 12 = bP X tk ∧ ¬ (bK X (t + 1) = 46 ∧ st = u 49 18)) ∨ (y = (ty_T (u 24 x), v) ∧ ¬ fit = 0 ∧ CLRq nn X e c st x t n (j : Int) op kp u uF))) := fun NP => by
          unfold qj_X10_closeCall_35 qj_X10_closeCall_45
          refine pc_sv (c_tell TB2 f2 kc hat) ?_; intro u5' ⟨s1, s2⟩
          refine pc_xl ?_; intro h1 e1
          refine pc_xl ?_; intro h2 e2
          refine pc_ret (pc_imp REF (fun y ey => .inr (.inl ⟨by rw [ey, t3], v3, ?_, ?_, NP⟩)))
          · rw [e2, up_n (by omega), e1, up_n (by omega)]; exact s1.1
          · rw [e2, up_n (by omega), e1, up_n (by omega)]; exact s1.2
        refine pc_if (fun y => P35 (fun w => y (by rw [a18]; exact w.2))) (fun z => ?_)
        refine pc_sv (c_kind Y.1 TB2 t1c p2 f2) ?_; intro u9 q9
        refine pc_if (fun z2 => ?_) (fun y => P35 (fun w => y (by omega)))
        unfold qj_X10_closeCall_45
        refine pc_xl ?_; intro h1 e1
        refine pc_xl ?_; intro h2 e2
        refine pc_ret (pc_imp REF (fun y ey => .inr (.inr ⟨ey, ok.1, ?_⟩)))
        have E2 : ∀ cc y : Nat, ¬ (cc = 49 ∧ (y = 11 ∨ y = 12)) → h2 cc y = u2 cc y := fun cc y z => by rw [e2, up_n (by omega), e1, up_n (by omega)]
        have t12 : h2 49 12 = u 24 x := by rw [e2, up_n (by omega), e1, up_s]
        refine ⟨⟨by rw [E2 2 10 (by omega)]; exact p2, by rw [E2 2 11 (by omega)]; exact f2, by rw [e2, up_s], t12, fun _ => ⟨by omega, by rw [← a18]; exact Classical.byContradiction z⟩⟩, fun cc y z1 z2 z3 z4 z5 z6 => by rw [E2 cc y z6, U2 cc y (by omega) (by omega) z4 z5]; exact E cc y z1, ⟨by rw [E2 34 1 (by omega)]; exact l2, by rw [E2 34 3 (by omega)]; omega, by rw [E2 34 3 (by omega)]; omega⟩, fun kk => by rw [E2 34 3 (by omega), c2.2.2 kk, if_pos v3]; omega, .inl (t12.trans v3), fun kk rc PB WL L w M w5 w4 => MK1 rc PB WL L w _ M w5 w4 (fun w4 M4 l4 => ?_)⟩
        rw [t3]
        refine pc_sv (m_turn0 M4 A3 (by omega) (by omega)) ?_; intro w6 ⟨M6, l6⟩
        exact pc_ret ⟨mkx_c M6 (fun cc y z1 z2 z3 => E2 cc y (by omega)), by rw [l6]; exact l4⟩
      · rw [if_neg v3]
        refine pc_sv (c_give (by omega)) ?_; intro u13 ⟨g2, A4, e13⟩
        unfold qj_X10_closeCall_45
        refine pc_xl ?_; intro h1 e1
        refine pc_xl ?_; intro h2 e2
        refine pc_ret (pc_imp REF (fun y ey => .inr (.inr ⟨ey, ok.1, ?_⟩)))
        have E13 : ∀ cc y : Nat, ¬ (cc = 49 ∧ (y = 11 ∨ y = 12)) → h2 cc y = u13 cc y := fun cc y z => by rw [e2, up_n (by omega), e1, up_n (by omega)]
        have E2 : ∀ cc y : Nat, ¬ (cc = 49 ∧ (y = 11 ∨ y = 12)) → h2 cc y = g2 cc y := fun cc y z => by rw [E13 cc y z, e13, up_n (by omega), up_n (by omega)]
        have EG : ∀ cc y : Nat, ¬ (cc = 49 ∧ (y = 11 ∨ y = 12)) → ¬ (cc = 34 ∧ (y = 3 ∨ y = 4)) → ¬ cc = 36 → h2 cc y = u2 cc y := fun cc y z1 z2 z3 => by rw [E2 cc y z1]; exact A4.2.2.2 cc y z2 (by omega)
        have t12 : h2 49 12 = u 24 x := by rw [e2, up_n (by omega), e1, up_s]
        have s3 : h2 34 3 = u2 34 3 + 1 := by rw [E2 34 3 (by omega)]; exact A4.1
        have tn : ¬ ty_T (u 24 x) = 3 := fun z => v3 ((ty_3 (X := X) n8 MF.2.2.2.2.1).mp z)
        refine ⟨⟨by rw [EG 2 10 (by omega) (by omega) (by omega)]; exact p2, by rw [EG 2 11 (by omega) (by omega) (by omega)]; exact f2, by rw [e2, up_s], t12, fun z => absurd z v3⟩, fun cc y z1 z2 z3 z4 z5 z6 => by rw [EG cc y z6 (by omega) (by omega), U2 cc y (by omega) (by omega) z4 z5]; exact E cc y z1, ⟨by rw [EG 34 1 (by omega) (by omega) (by omega)]; exact l2, by omega, by omega⟩, fun kk => by rw [s3, c2.2.2 kk, if_neg v3], cp_top A4 (by omega) s3 (fun y => E2 36 y (by omega)) t12, fun kk rc PB WL L w M w5 w4 => MK1 rc PB WL L w _ M w5 w4 (fun w4 M4 l4 => ?_)⟩
        refine pc_sv (m_turnG M4 A3 A4 (by omega) (by omega) ⟨rfl, MF.2.2.2.2.1, v3⟩ tn rfl) ?_; intro w6 ⟨M6, l6⟩
        exact pc_ret ⟨mkx_c M6 (fun cc y z1 z2 z3 => by rw [E2 cc y (by omega), up_n (by omega), up_n (by omega)]), by rw [l6]; exact l4⟩
    rcases h9 with ⟨z1, z2⟩ | ⟨z1, z2⟩
    · rw [if_pos z1]
      refine pc_add (by omega) ?_; intro v14 e14
      rw [show v14 = kp by rw [hkp, if_neg (by omega)]; omega]
      exact P275
    · rw [if_neg (by omega), show (n : Int) = kp by rw [hkp, if_pos z2]]
      rw [show kp = (n : Int) by rw [hkp, if_pos z2]] at P275 ⊢
      exact P275
  have P192 : ∀ l9 s0 : Int, ((l9 = 0 ∧ v 182 j = 1) ∨ (l9 = 1 ∧ v 182 j = 2)) → (fit = 0 ↔ ¬ s0 = 0) → Pc (qj_X10_readCall_192 nn rc c (x : Int) at_ st (n : Int) rt l9 s0 h29) (fun uF => Pc (qj_X13_called_110 nn rc2 e (j : Int) (if fit = 0 then 0 else rt) (n : Int) v) (fun y => SFj uF y.2 ∨ (y = (3, v) ∧ u 24 x = 303 ∧ uF 2 11 = 6 ∧ uF 2 12 = bP X tk ∧ ¬ (bK X (t + 1) = 46 ∧ st = u 49 18)) ∨ (y = (ty_T (u 24 x), v) ∧ ¬ fit = 0 ∧ CLRq nn X e c st x t n (j : Int) (if v 182 j = 2 then 184 else 182) (if v 182 j = 2 then (n : Int) else (n : Int) + 1) u uF))) := fun l9 s0 h9 hs => by
    unfold qj_X10_readCall_192 qj_X10_readCall_222
    refine pc_if (fun z => P0 l9 (fun y => by omega)) (fun z1 => ?_)
    refine pc_if (fun z => P0 l9 (fun y => y.1 (hs.mpr z))) (fun z2 => ?_)
    refine pc_sv (c_parN MF29) ?_; intro u22 q22
    refine pc_if (fun z => P0 l9 (fun y => z (by omega))) (fun z3 => ?_)
    have ok : ¬ fit = 0 ∧ rt = 1 ∧ (n : Int) = v 189 j := ⟨fun y => z2 (hs.mp y), by omega, by omega⟩
    unfold qj_X10_readCall_223
    refine pc_sv c_want1 ?_; intro u17 e17
    rw [e17]
    refine pc_if (fun z => P1 l9 182 _ ok ?_ rfl h9) (fun z => P1 l9 184 _ ok ?_ rfl h9)
    · rw [if_neg (by omega)]
    · rw [if_pos (by omega)]
  refine pc_sv (c_fixd MF29) ?_; intro u34 q34
  refine pc_if (fun z => ?_) (fun z => ?_)
  · refine pc_if (fun z2 => P192 u34 0 (.inl ⟨z, by omega⟩) ?_) (fun z2 => P192 u34 1 (.inl ⟨z, by omega⟩) ?_)
    · rw [way]; omega
    · rw [way]; omega
  · refine pc_if (fun z2 => P192 u34 0 (.inr ⟨by omega, by omega⟩) ?_) (fun z2 => P192 u34 1 (.inr ⟨by omega, by omega⟩) ?_)
    · rw [way]; omega
    · rw [way]; omega
end
end
section
/- calls: from the bracket on -/
/-- what a call comes to -/
def CPO (nn : Nat) (X : BCx) (a b e c st fit : Int) (x j pa t tk : Nat) (hA rA uF : ms_M) (y : Int × ms_M) : Prop := SFj uF y.2 ∨ ∃ (u v : ms_M) (n : Nat), AOk nn X (bT X 171 e.toNat) a b (pa + 1) t n (up_M hA 2 10 ((pa + 1 : Nat) : Int)) rA u v ∧ ((y = (3, v) ∧ u 24 x = 303 ∧ uF 2 11 = 6 ∧ uF 2 12 = bP X tk ∧ ¬ (bK X (t + 1) = 46 ∧ st = u 49 18)) ∨ (y = (ty_T (u 24 x), v) ∧ ¬ fit = 0 ∧ CLRq nn X e c st x t n (j : Int) (if v 182 j = 2 then 184 else 182) (if v 182 j = 2 then (n : Int) else (n : Int) + 1) u uF))
section
variable {nn : Nat} {X : BCx} {dp i l a b e s k c st fit how at_ : Int} {p q t tk pa x j : Nat} {h hA g u r rA w m v : ms_M}
theorem call_core (Y : CXs X) (ne : 0 ≤ e) (A : A4 nn X dp a b pa t (bT X 171 e.toNat)) (k41 : bK X t = 41) (Q : EPr X dp pa hA rA) (b57 : 0 ≤ rA 160 57 ∧ rA 160 57 + (b - a) < 9000 ∧ b ≤ 9000) (MF : MTf X hA rA x j) (MB : MBx X 1 (x : Int) (j : Int)) (hc : 0 ≤ c ∧ c < 8 + (bn X : Int)) (hat : at_ = (tk : Int)) (kc : tk < bc X) (e68 : bT X 168 e.toNat = (tk : Int)) (hf : fit = 0 ∨ fit = 1) (way : fit = 0 ↔ ((rA 182 j = 2 ∧ how = 1) ∨ (rA 182 j = 1 ∧ how = 2))) (d d2 : Nat) (Zp : ms_M → Int × ms_M → Prop) (HZ : ∀ uF y, CPO nn X a b e c st fit x j pa t tk hA rA uF y → Zp uF y) : Pc (qo_X10_readCall nn (qg_X10_readValue nn d) c (x : Int) at_ how st dp hA) (fun uF => Pc (qo_X13_called nn (qg_X13_condition nn d2) e (j : Int) fit rA) (Zp uF)) := by
  obtain ⟨B, ⟨q1, q2, q3, q4⟩, ⟨f1, f2, f3⟩, o1⟩ := Q
  have Q : EPr X dp pa hA rA := ⟨B, ⟨q1, q2, q3, q4⟩, ⟨f1, f2, f3⟩, o1⟩
  have c3 := Y.1.2.1
  have G := fsg_X10_readValue nn d
  have Gt := ftg_X13_condition nn d2
  have tc : t < bc X := tb_lt Y.1 (by omega)
  have W : Pc (qo_X10_readCall nn (qg_X10_readValue nn d) c (x : Int) at_ how st dp hA) (fun uF => Pc (qw_X13_called_23 nn (qg_X13_condition nn d2) nn e (j : Int) fit 0 (bT X 171 e.toNat) rA) (Zp uF)) := by
    refine A d d2 hA rA c at_ how st e fit x j Zp Q b57 MF hf (fun u v n2 rt2 AO hr => ?_) (fun u v n2 rt2 gd2 S => ?_)
    · obtain ⟨⟨y1, y2, y3, y4, y5⟩, ⟨y6, y7, y8, y9⟩, ⟨y10, y11, y12, y13⟩, MA⟩ := AO
      have E : ∀ cc y : Nat, ¬ (cc = 2 ∧ y = 10) → up_M hA 2 10 ((pa + 1 : Nat) : Int) cc y = hA cc y := fun cc y z => up_n z
      have B2 : BX X u v := bx_e (bx_k B (fun cc y z => E cc y (by omega)) (fun _ _ _ => rfl)) y6 y7
      have MF2 : MTf X u v x j := mtf_k MF (fun cc y z => by rw [y6 cc y (by omega) (by omega) (by omega) (by omega) (by omega) (by omega) (by omega) (by omega)]; exact E cc y (by omega)) (fun cc y z => y7.1 cc y (by omega) (by omega) (by omega))
      have e1 := E 34 1 (by omega)
      have e3 := E 34 3 (by omega)
      rw [e1] at y11
      rw [e3] at y12
      have v182 : v 182 j = rA 182 j := y7.1 182 j (by omega) (by omega) (by omega)
      refine pc_imp (c_call (fit := fit) (st := st) (how := how) (n := n2) G Y B2 MF2 MB hc k41 y1 y2 y4 y5 hat kc ne e68 (by rw [v182]; exact way) hr (by omega) (by omega)) (fun uF HU => pc_imp HU (fun y hy => HZ uF y ?_))
      rcases hy with S | S | S
      · exact .inl S
      · exact .inr ⟨u, v, n2, ⟨⟨y1, y2, y3, y4, y5⟩, ⟨y6, y7, y8, y9⟩, ⟨y10, by rw [e1]; exact y11, by rw [e3]; exact y12, y13⟩, MA⟩, .inl S⟩
      · exact .inr ⟨u, v, n2, ⟨⟨y1, y2, y3, y4, y5⟩, ⟨y6, y7, y8, y9⟩, ⟨y10, by rw [e1]; exact y11, by rw [e3]; exact y12, y13⟩, MA⟩, .inr S⟩
    · exact pj_sf (o := fun u => u) (q := fun y => y.2) S (fs_qj_X10_readCall_128 G S.1) (ft_qj_X13_called_110 Gt (sf_r S)) (fun uF y S2 => HZ uF y (.inl S2))
  refine pc_imp W (fun uF HU => ?_)
  unfold qo_X13_called
  refine pc_if (fun _ => ?_) (fun z => absurd q4 z)
  refine pc_rA ?_; intro _ _ v35 e35
  rw [B.2.2.2.2.2.1 171 _ (by omega)] at e35
  rw [e35]
  exact HU
/-- the making of a call from its ARGS on -/
theorem m_wcall {PB : Nat → Prop} {WL : Int → Int → Prop} {L : List (Int × Int)} {d n : Nat} {a3 op kp : Int} {h1 uF : ms_M} (M : MKx X PB WL L h1 m) (MA : MKA nn X (bT X 171 e.toNat) a b (pa + 1) t n h1 u v) (CM : ∀ (rc : tq_X13_work) (PB : Nat → Prop) (WL : Int → Int → Prop) (L : List (Int × Int)) (w : ms_M), MKx X PB WL L u w → w 175 e.toNat = (j : Int) → w 174 e.toNat = ty_T (u 24 x) → Pc (qj_X13_workCall_65 nn rc e c kp op w) (fun w2 => MKx X PB WL L uF w2 ∧ w2 160 88 = w 160 88)) (AM : AN a b v m) (w5 : m 175 e.toNat = (j : Int)) (w4 : m 174 e.toNat = ty_T (u 24 x)) (h3 : (a3 = 0 ∧ op = 182 ∧ kp = (n : Int) + 1) ∨ (a3 = 1 ∧ op = 184 ∧ kp = (n : Int))) (b57 : 0 ≤ m 160 57 ∧ m 160 57 + (b - a) < 9000) (b88 : m 160 88 + 4 * (t : Int) ≤ 2000000000 + 4 * ((pa + 1 : Nat) : Int)) (n3 : n ≤ 3001) : Pc (qo_X13_workCall nn (qg_X13_work nn d) e c a3 m) (fun w => MKx X PB WL L uF w ∧ (m 160 88 ≤ w 160 88 ∧ w 160 88 + 4 * ((pa + 1 : Nat) : Int) ≤ m 160 88 + 4 * (t : Int))) := by
  have MT := (mk_t M).1
  have P9 : ∀ l4 : Int, (0 ≤ l4 ∧ l4 ≤ 1) → kp = l4 + (n : Int) → Pc (qj_X13_workCall_9 nn (qg_X13_work nn d) e c a3 l4 m) (fun w => MKx X PB WL L uF w ∧ (m 160 88 ≤ w 160 88 ∧ w 160 88 + 4 * ((pa + 1 : Nat) : Int) ≤ m 160 88 + 4 * (t : Int))) := fun l4 hl hk => by
    unfold qj_X13_workCall_9
    refine pc_rA ?_; intro _ _ v23 e23
    rw [MT 171 _ (by omega)] at e23
    rw [e23]
    refine MA d nn e c a3 l4 PB WL L m _ M AM b57 b88 (by omega) (fun f2 w Mw lw aw kw => ?_)
    cases f2 with
    | zero => exact pc_none
    | succ f2 =>
      have P65 : ∀ o : Int, o = op → Pc (qj_X13_workCall_65 nn (qg_X13_work nn d) e c (l4 + (n : Int)) o w) (fun w2 => MKx X PB WL L uF w2 ∧ (m 160 88 ≤ w2 160 88 ∧ w2 160 88 + 4 * ((pa + 1 : Nat) : Int) ≤ m 160 88 + 4 * (t : Int))) := fun o ho => by
        rw [ho, ← hk]
        exact pc_imp (CM _ PB WL L w Mw (by rw [aw 175 _ (by omega) (by omega)]; exact w5) (by rw [aw 174 _ (by omega) (by omega)]; exact w4)) (fun w2 y => ⟨y.1, by rw [y.2]; exact lw⟩)
      unfold qw_X13_workCall_19
      refine pc_if (fun _ => ?_) (fun z => absurd rfl z)
      exact pc_if (fun z => P65 182 (by omega)) (fun z => P65 184 (by omega))
  unfold qo_X13_workCall
  exact pc_if (fun z => P9 1 (by omega) (by omega)) (fun z => P9 0 (by omega) (by omega))
/-- a call that is right -/
theorem pok_call {n : Nat} {kp op dl : Int} {uF z : ms_M} (Y : CXs X) (Q : EPr X dp p h r) (ne : 0 ≤ a ∧ a ≤ e ∧ e < b) (nk : bT X 167 e.toNat = 26 ∨ bT X 167 e.toNat = 31) (k41 : bK X t = 41) (C1 : CFe h hA) (R1 : RFe a b r rA) (S1 : SGb h hA) (FA : FRc hA) (l1 : hA 34 1 + 20 * (p : Int) ≤ h 34 1 + 20 * (pa : Int)) (l3 : hA 34 3 = h 34 3 + dl) (dl0 : 0 ≤ dl ∧ dl + (p : Int) ≤ (pa : Int)) (MFA : MTf X hA rA x j) (AO : AOk nn X (bT X 171 e.toNat) (e + 1) b (pa + 1) t n (up_M hA 2 10 ((pa + 1 : Nat) : Int)) rA u v) (CL : CLRq nn X e c st x t n (j : Int) op kp u uF) (hst : st = (p : Int)) (hkp : kp = (n : Int) + dl) (ez : z = up_M v 174 e.toNat (ty_T (u 24 x))) (MC : ¬ bK X (t + 1) = 51 → MKC nn X e a b p (t + 1) h uF z) : POk nn X 0 a b p (t + 1) e h r uF (ty_T (u 24 x), z) := by
  obtain ⟨⟨y1, y2, y3, y4, y5⟩, ⟨y6, y7, y8, y9⟩, ⟨y10, y11, y12, y13⟩, -⟩ := AO
  obtain ⟨⟨z1, z2, z3, z4, z5⟩, z6, ⟨z7, z8, z9⟩, z10, z11, -⟩ := CL
  have c3 := Y.1.2.1
  have h30 := Q.2.2.1.2.2.1
  have E : ∀ cc y : Nat, ¬ (cc = 2 ∧ y = 10) → up_M hA 2 10 ((pa + 1 : Nat) : Int) cc y = hA cc y := fun cc y z => up_n z
  have e1 := E 34 1 (by omega)
  have e3 := E 34 3 (by omega)
  have e24 : u 24 x = hA 24 x := by rw [y6 24 x (by omega) (by omega) (by omega) (by omega) (by omega) (by omega) (by omega) (by omega)]; exact E 24 x (by omega)
  have v24 : VTn (bn X) (u 24 x) := by rw [e24]; exact MFA.2.2.2.2.1
  have t1c : t + 1 < bc X := jp_lt Y.1 y2 (by omega)
  have CF : CFe h uF := cfe_t C1 (cfe_t (g := up_M hA 2 10 ((pa + 1 : Nat) : Int)) (fun cc y a1 a2 a3 a4 a5 a6 a7 a8 => E cc y (by omega)) (cfe_t y6 (fun cc y a1 a2 a3 a4 a5 a6 a7 a8 => z6 cc y (by omega) (by omega) (by omega) a5 a6 (by omega))))
  have SB : SGb h uF := sgb_t S1 (sgb_t (g := up_M hA 2 10 ((pa + 1 : Nat) : Int)) ⟨E 49 10 (by omega), fun cc y a1 a2 a3 => E cc y (by omega)⟩ (sgb_t y8 ⟨z6 49 10 (by omega) (by omega) (by omega) (by omega) (by omega) (by omega), fun cc y a1 a2 a3 => z6 cc y (by omega) (by omega) (by omega) (by omega) (by omega) (by omega)⟩))
  have R2 : RFe a b r v := rfe_t R1 y7 ⟨Int.le_refl _, Int.le_refl _⟩ ⟨by omega, Int.le_refl _⟩
  have RF : RFe a b r z := ⟨fun cc y a1 a2 a3 => by rw [ez, up_n (by omega)]; exact R2.1 cc y a1 a2 a3, fun cc y a1 a2 a3 => by rw [ez, up_n (by omega)]; exact R2.2 cc y a1 a2 a3⟩
  refine ⟨⟨z1, t1c, by omega, z2, by show z 160 9 = 0; rw [ez, up_n (by omega)]; exact y5⟩, ⟨by rw [z4], by rw [z4]; exact v24, by show z 174 e.toNat = _; rw [ez, up_s]⟩, ⟨CF, RF, SB⟩, ⟨frc_k y10 (fun cc y a => z6 cc y (by omega) (by omega) (by omega) (by omega) (by omega) (by omega)), ⟨by omega, by omega⟩, z8, by omega⟩, .inl ⟨.inl ⟨z3, rfl, nk, fun w => ?_⟩, fun _ => .inl ⟨by omega, by omega, fun w => by omega⟩, fun nq => ⟨⟨?_, z11⟩, MC nq⟩⟩⟩
  · obtain ⟨w1, w2⟩ := z5 (z4.symm.trans w)
    exact ⟨w1, by rw [z6 49 18 (by omega) (by omega) (by omega) (by omega) (by omega) (by omega), ← w2]; exact hst⟩
  · rw [z10 (by omega), z4]
    omega
end
end
section
/- calls: a method of one's own -/
def CRq (nn : Nat) (X : BCx) (a b : Int) (p q : Nat) (e : Int) (h r uF : ms_M) (y : Int × ms_M) : Prop := ∀ z : ms_M, z = up_M y.2 174 e.toNat y.1 → (z 160 9 = 0 → (SFj uF z ∨ VDj X 0 a b p q e h r uF (y.1, z)) ∨ POk nn X 0 a b p q e h r uF (y.1, z)) ∧ (¬ z 160 9 = 0 → (SFj uF z ∨ VDj X 0 a b p q e h r uF (0, z)) ∨ POk nn X 0 a b p q e h r uF (0, z))
section
variable {nn : Nat} {X : BCx} {dp i l a b e s k c st fit how at_ : Int} {p q t tk pa x j : Nat} {h hA g u r rA w m v : ms_M}
theorem crq_f {uF : ms_M} {y : Int × ms_M} {c pl : Int} (c0 : ¬ c = 0) (a1 : uF 2 11 = c) (a2 : uF 2 12 = pl) (a3 : y.2 160 9 = c) (a4 : y.2 160 10 = pl) : CRq nn X a b p q e h r uF y := fun z ez => by
  have z9 : z 160 9 = c := by rw [ez, up_n (by omega)]; exact a3
  have z10 : z 160 10 = pl := by rw [ez, up_n (by omega)]; exact a4
  exact ⟨fun y => absurd (z9.symm.trans y) c0, fun _ => .inl (.inl ⟨by omega, by rw [z9, a1], by rw [z10, a2]⟩)⟩
/-- a call that comes out: void where a value is wanted, or right -/
theorem crq_c {uF : ms_M} {y : Int × ms_M} {dl : Int} (Y : CXs X) (Q : EPr X dp p h r) (ne : 0 ≤ a ∧ a ≤ e ∧ e < b) (nk : bT X 167 e.toNat = 26 ∨ bT X 167 e.toNat = 31) (k41 : bK X t = 41) (e68 : bT X 168 e.toNat = (tk : Int)) (kc : tk < bc X) (C1 : CFe h hA) (R1 : RFe a b r rA) (S1 : SGb h hA) (FA : FRc hA) (l1 : hA 34 1 + 20 * (p : Int) ≤ h 34 1 + 20 * (pa : Int)) (l3 : hA 34 3 = h 34 3 + dl) (dl0 : 0 ≤ dl ∧ dl + (p : Int) ≤ (pa : Int)) (MFA : MTf X hA rA x j) (hst : st = (p : Int)) (hdl : ¬ fit = 0 → (rA 182 j = 2 ∧ dl = 0) ∨ (rA 182 j = 1 ∧ dl = 1)) (MC : ∀ (u v z : ms_M) (n : Nat), AOk nn X (bT X 171 e.toNat) (e + 1) b (pa + 1) t n (up_M hA 2 10 ((pa + 1 : Nat) : Int)) rA u v → (∀ (rc : tq_X13_work) (PB : Nat → Prop) (WL : Int → Int → Prop) (L : List (Int × Int)) (w : ms_M), MKx X PB WL L u w → w 175 e.toNat = (j : Int) → w 174 e.toNat = ty_T (u 24 x) → Pc (qj_X13_workCall_65 nn rc e c (if rA 182 j = 2 then (n : Int) else (n : Int) + 1) (if rA 182 j = 2 then 184 else 182) w) (fun w2 => MKx X PB WL L uF w2 ∧ w2 160 88 = w 160 88)) → z = up_M v 174 e.toNat (ty_T (u 24 x)) → ¬ fit = 0 → MKC nn X e a b p (t + 1) h uF z) (C : CPO nn X (e + 1) b e c st fit x j pa t tk hA rA uF y) : CRq nn X a b p (t + 1) e h r uF y := by
  rcases C with S | ⟨u, v, n, AO, C⟩
  · exact crq_f S.1 rfl rfl S.2.1 S.2.2
  · have v9 := AO.1.2.2.2.2
    have R2 : RFe a b r v := rfe_t R1 AO.2.1.2.1 ⟨Int.le_refl _, Int.le_refl _⟩ ⟨by omega, Int.le_refl _⟩
    have v182 : v 182 j = rA 182 j := AO.2.1.2.1.1 182 j (by omega) (by omega) (by omega)
    rcases C with ⟨ey, -, w1, w2, w3⟩ | ⟨ey, nf, CL⟩
    · rw [ey]
      intro z ez
      have z9 : z 160 9 = 0 := by rw [ez, up_n (by omega)]; exact v9
      refine ⟨fun _ => .inl (.inr ⟨⟨w1, by rw [e68, Int.toNat_natCast]; exact w2, by omega, by omega, fun _ k46 h18 => w3 ⟨k46, by rw [hst, AO.2.1.1 49 18 (by omega) (by omega) (by omega) (by omega) (by omega) (by omega) (by omega) (by omega), up_n (by omega), C1 49 18 (by omega) (by omega) (by omega) (by omega) (by omega) (by omega) (by omega) (by omega)]; exact h18.symm⟩⟩, ⟨rfl, z9, by show z 174 e.toNat = 3; rw [ez, up_s]⟩, ?_⟩), fun y => absurd z9 y⟩
      exact ⟨fun cc y a1 a2 a3 => by show z cc y = _; rw [ez, up_n (by omega)]; exact R2.1 cc y a1 a2 a3, fun cc y a1 a2 a3 => by show z cc y = _; rw [ez, up_n (by omega)]; exact R2.2 cc y a1 a2 a3⟩
    · rw [ey]
      rw [v182] at CL
      intro z ez
      have z9 : z 160 9 = 0 := by rw [ez, up_n (by omega)]; exact v9
      have hk : (if rA 182 j = 2 then (n : Int) else (n : Int) + 1) = (n : Int) + dl := by
        have := hdl nf
        split <;> omega
      have ku : (if rA 182 j = 2 then (n : Int) else (n : Int) + 1) ≤ u 34 3 := by
        have := AO.2.2.1.2.2.1
        rw [show up_M hA 2 10 ((pa + 1 : Nat) : Int) 34 3 = hA 34 3 from up_n (by omega)] at this
        have := Q.2.2.1.2.2.1
        omega
      exact ⟨fun _ => .inr (pok_call Y Q ne nk k41 C1 R1 S1 FA l1 l3 dl0 MFA AO CL hst hk ez (fun _ => MC u v z n AO (CL.2.2.2.2.2 ku) ez nf)), fun y => absurd z9 y⟩
theorem p_own (Y : CXs X) (Q : EPr X dp p h r) (b57 : 0 ≤ r 160 57 ∧ r 160 57 + (b - a) < 9000 ∧ b ≤ 9000) (ne : 0 ≤ a ∧ a ≤ e ∧ e < b) (nd : bT X 167 e.toNat = 26 ∧ bT X 168 e.toNat = (p : Int)) (kp : bK X p = 2) (k40 : bK X (p + 1) = 40) (k41 : bK X t = 41) (pt : p + 1 < t) (A : A4 nn X dp (e + 1) b (p + 1) t (bT X 171 e.toNat)) (d d2 : Nat) : Pc (qo_X10_readNamed nn (qg_X10_readValue nn d) dp h) (fun u => Pc ((qg_X13_condition nn d2).2.2.1 e r) (fun v => (SFj u v.2 ∨ VDj X 0 a b p (t + 1) e h r u v) ∨ POk nn X 0 a b p (t + 1) e h r u v)) := by
  have Q0 := Q
  obtain ⟨B, ⟨q1, q2, q3, q4⟩, ⟨f1, f2, f3⟩, o1⟩ := Q0
  have T : ∀ cc : Nat, 163 ≤ cc ∧ cc ≤ 173 → r cc e.toNat = bT X cc e.toNat := fun cc z => B.2.2.2.2.2.1 cc e.toNat (by omega)
  have BK := Y.1
  have own := Y.2.2.2.1
  have c3 := BK.2.1
  have TB : TBc (bK X) (bP X) (bc X) h := B.1.1.1.1
  have VL : VLc (bK X) (bV X) (bc X) h := B.1.1.1.2.1
  have TQ : TBq (bK X) (bP X) (bc X) r := B.1.1.2.2.1
  have p1 : p + 1 < bc X := jp_lt BK q2 (by omega)
  have nl : ¬ bT X 167 e.toNat = 30 ∧ ¬ bT X 167 e.toNat = 31 ∧ ¬ bT X 167 e.toNat = 32 ∧ ¬ bT X 167 e.toNat = 37 ∧ ¬ bT X 167 e.toNat = 38 := by omega
  have G := fsg_X10_readValue nn d
  unfold qo_X10_readNamed
  rw [q1]
  refine pc_sv (c_valueAt BK TB VL kp rfl) ?_; intro u37 q37
  refine pc_add (by omega) ?_; intro v40 e40
  refine pc_xl ?_; intro h41 e41
  rw [show v40 = ((p + 1 : Nat) : Int) by omega] at e41
  have E41 : ∀ cc x : Nat, ¬ (cc = 2 ∧ x = 10) → h41 cc x = h cc x := fun cc x z => by rw [e41, up_n z]
  have B1 : BX X h41 r := bx_k B (fun cc x z => E41 cc x (by omega)) (fun _ _ _ => rfl)
  have TB1 : TBc (bK X) (bP X) (bc X) h41 := B1.1.1.1.1
  have f41 : h41 2 11 = 0 := by rw [E41 2 11 (by omega)]; exact q3
  have p41 : h41 2 10 = ((p + 1 : Nat) : Int) := by rw [e41, up_s]
  refine pc_sv (c_kind BK TB1 p1 p41 f41) ?_; intro u44 q44
  refine pc_if (fun z => absurd (show u44 = 40 by omega) z) (fun _ => ?_)
  have w16 : h41 49 16 = bo X := by rw [E41 49 16 (by omega)]; exact B.2.2.1.1
  rw [w16]
  -- the reference
  have RULE : ∀ (RES : Int × ms_M → Prop), (∀ d : Nat, Pc (rd_A 9000 168 e r fun v114 => mx_sv (qf_X13_memberOf nn (r 160 52) v114 1 r) fun u116 => wr_A 9000 175 e u116 r fun h117 => rd_A 9000 175 e h117 fun v119 => if ¬ v119 = (-1) then (if (h117 160 53) = 0 then (qj_X13_rule_216 nn (qg_X13_condition nn d) e h117) else (rd_A 9000 175 e h117 fun v123 => rd_A 800 182 v123 h117 fun v124 => if ¬ v124 = 1 then (qj_X13_rule_216 nn (qg_X13_condition nn d) e h117) else (rd_A 9000 168 e h117 fun v126 => mx_sv (qf_X13_wrong nn 7 v126 h117) fun u128 => qj_X13_rule_216 nn (qg_X13_condition nn d) e u128))) else (rd_A 9000 168 e h117 fun v132 => mx_sv (qf_X13_wrong nn 5 v132 h117) fun u134 => qj_X13_rule_216 nn (qg_X13_condition nn d) e u134)) (fun u => ∀ z : ms_M, z = up_M u.2 174 e.toNat u.1 → (z 160 9 = 0 → RES (u.1, z)) ∧ (¬ z 160 9 = 0 → RES (0, z)))) → Pc ((qg_X13_condition nn d2).2.2.1 e r) RES := fun RES HN => w_one (by omega) q4 (r_nled (by rw [T 167 (by omega)]; exact nl)) (fun d => ru_26 ((T 167 (by omega)).trans nd.1) (HN d)) d2
  unfold qf_X10_methodNamed
  refine p2_m ?_
  refine pc_imp (c_valueAt BK TB1 B1.1.1.1.2.1 kp rfl) (fun u4 q4' => ?_)
  rw [q4']
  refine p2_m ?_
  intro u6 e6
  have JM := j_methodOf (nn := nn) BK Y.2.1 B1.1 kp (a := bo X) (by omega) u6 e6
  -- the reference up to its member
  have RM : ∀ {QQ : Int × ms_M → Prop} (d : Nat), (∀ j : Int, LKR (bV X) (bM X) 1 (bV X p) r u6 j → ∀ h117 : ms_M, h117 = up_M r 175 e.toNat j → Pc (if ¬ j = (-1) then (if (h117 160 53) = 0 then (qj_X13_rule_216 nn (qg_X13_condition nn d) e h117) else (rd_A 9000 175 e h117 fun v123 => rd_A 800 182 v123 h117 fun v124 => if ¬ v124 = 1 then (qj_X13_rule_216 nn (qg_X13_condition nn d) e h117) else (rd_A 9000 168 e h117 fun v126 => mx_sv (qf_X13_wrong nn 7 v126 h117) fun u128 => qj_X13_rule_216 nn (qg_X13_condition nn d) e u128))) else (rd_A 9000 168 e h117 fun v132 => mx_sv (qf_X13_wrong nn 5 v132 h117) fun u134 => qj_X13_rule_216 nn (qg_X13_condition nn d) e u134)) QQ) → Pc (rd_A 9000 168 e r fun v114 => mx_sv (qf_X13_memberOf nn (r 160 52) v114 1 r) fun u116 => wr_A 9000 175 e u116 r fun h117 => rd_A 9000 175 e h117 fun v119 => if ¬ v119 = (-1) then (if (h117 160 53) = 0 then (qj_X13_rule_216 nn (qg_X13_condition nn d) e h117) else (rd_A 9000 175 e h117 fun v123 => rd_A 800 182 v123 h117 fun v124 => if ¬ v124 = 1 then (qj_X13_rule_216 nn (qg_X13_condition nn d) e h117) else (rd_A 9000 168 e h117 fun v126 => mx_sv (qf_X13_wrong nn 7 v126 h117) fun u128 => qj_X13_rule_216 nn (qg_X13_condition nn d) e u128))) else (rd_A 9000 168 e h117 fun v132 => mx_sv (qf_X13_wrong nn 5 v132 h117) fun u134 => qj_X13_rule_216 nn (qg_X13_condition nn d) e u134)) QQ := fun {QQ} d HH => by
    refine pc_rA ?_; intro _ _ v114 e114
    rw [T 168 (by omega), nd.2] at e114
    rw [e114, B.2.2.1.2]
    refine pc_sv JM ?_; intro u116 q116
    refine pc_wA ?_; intro _ _ h117 e117
    refine pc_rA ?_; intro _ _ v119 e119
    rw [e117, up_s] at e119
    rw [e119]
    exact HH u116 q116 h117 e117
  by_cases z6 : u6 = -1
  · -- no such method
    rw [if_neg (fun y => y z6)]
    refine p2_m ?_
    refine pc_imp (c_tell TB1 f41 q2 rfl) (fun u9 s9 => ?_)
    rw [mx_svs]
    dsimp only
    rw [if_pos z6]
    have S9 : ¬ u9 2 11 = 0 := by rw [s9.1.1]; decide
    unfold qj_X10_readNamed_76
    refine pc_sv (G.2.2.2.2.2.2.2.2 S9) ?_; intro u32 F
    refine pc_ret (RULE _ (fun d => RM d (fun j LK h117 e117 => ?_)))
    have j1 : j = -1 := by
      rcases LK with y | ⟨jj, kk, -, -, -, -, -, y⟩
      · exact y.2
      · omega
    refine pc_if (fun z => absurd j1 z) (fun _ => ?_)
    refine pc_rA ?_; intro _ _ v132 e132
    rw [e117, up_n (by omega), T 168 (by omega), nd.2] at e132
    refine pc_sv (r_wrong (tbq_f TQ (fun cc y z => by rw [e117, up_n (by omega)])) q2 (by rw [e117, up_n (by omega)]; exact q4) e132) ?_; intro u134 w1
    refine pc_imp (ft_qj_X13_rule_216 (ftg_X13_condition nn d) (h := u134) (by omega)) (fun y Fy => ?_)
    exact crq_f (nn := nn) (X := X) (a := a) (b := b) (p := p) (q := t + 1) (e := e) (h := h) (r := r) (c := 5) (pl := bP X p) (by omega) (by rw [F.1]; exact s9.1.1) (by rw [F.2]; exact s9.1.2) (Fy.1.trans w1.1) (Fy.2.trans w1.2)
  · rw [if_pos z6, mx_svs]
    dsimp only
    rw [if_neg z6]
    -- the member of both sides
    cases hm : qf_X13_memberOf nn (bo X) (p : Int) 1 r with
    | none =>
      refine fun u _ => RULE _ (fun d => ?_)
      refine pc_rA ?_; intro _ _ v114 e114
      rw [T 168 (by omega), nd.2] at e114
      rw [e114, B.2.2.1.2, hm]
      exact fun _ z => nomatch z
    | some j0 =>
      have MB : MBx X 1 u6 j0 := by
        rcases JM j0 hm with y | ⟨jj, kk, h1, h2, h3, h4, h5, h6⟩
        · exact absurd y.1 z6
        · rw [h5]
          exact (mbx_of B (.inr rfl) h1 h2 h3 h6).1
      obtain ⟨xn, jn, ex, ej, MF⟩ := mtf_of Y B1 MB
      rw [ex] at MB ⊢
      rw [ej] at MB hm
      have T2 : ∀ cc x : Nat, (178 ≤ cc ∧ cc ≤ 195) → r cc x = bB X cc x := fun cc x z => B.2.2.2.2.2.2.1 cc x z
      generalize hrA : up_M r 175 e.toNat (jn : Int) = rA
      have ER : ∀ cc y : Nat, ¬ (cc = 175 ∧ y = e.toNat) → rA cc y = r cc y := fun cc y z => by rw [← hrA, up_n z]
      have rA5 : rA 175 e.toNat = (jn : Int) := by rw [← hrA, up_s]
      have RRA : RFe a b r rA := ⟨fun cc y z1 z2 z3 => ER cc y (by omega), fun cc y z1 z2 z3 => ER cc y (by omega)⟩
      have still := B.2.2.2.1
      -- the reference goes on to the call
      have REFC : ∀ {RES : Int × ms_M → Prop}, (r 160 53 = 0 ∨ ¬ r 182 jn = 1) → (∀ d4 : Nat, Pc (qo_X13_called nn (qg_X13_condition nn d4) e (jn : Int) 1 rA) (fun u => ∀ z : ms_M, z = up_M u.2 174 e.toNat u.1 → (z 160 9 = 0 → RES (u.1, z)) ∧ (¬ z 160 9 = 0 → RES (0, z)))) → Pc ((qg_X13_condition nn d2).2.2.1 e r) RES := fun {RES} hs HH => by
        refine RULE _ (fun d => ?_)
        have P216 : Pc (qj_X13_rule_216 nn (qg_X13_condition nn d) e rA) (fun u => ∀ z : ms_M, z = up_M u.2 174 e.toNat u.1 → (z 160 9 = 0 → RES (u.1, z)) ∧ (¬ z 160 9 = 0 → RES (0, z))) := by
          unfold qj_X13_rule_216
          refine pc_rA ?_; intro _ _ v76 e76
          rw [rA5] at e76
          rw [e76]
          cases d with
          | zero => exact fun _ z => nomatch z
          | succ d4 => exact pc_sb (pc_imp (HH d4) (fun y hy => pc_ret hy))
        refine pc_rA ?_; intro _ _ v114 e114
        rw [T 168 (by omega), nd.2] at e114
        rw [e114, B.2.2.1.2, hm, mx_svs]
        refine pc_wA ?_; intro _ _ h117 e117
        rw [hrA] at e117
        rw [e117]
        refine pc_rA ?_; intro _ _ v119 e119
        rw [rA5] at e119
        rw [e119]
        refine pc_if (fun _ => ?_) (fun z => absurd (show ¬ (jn : Int) = -1 by omega) z)
        refine pc_if (fun _ => P216) (fun z53 => ?_)
        refine pc_rA ?_; intro _ _ v123 e123
        rw [rA5] at e123
        refine pc_rA ?_; intro _ _ v124 e124
        rw [e123, Int.toNat_natCast, ER 182 _ (by omega)] at e124
        rw [ER 160 53 (by omega)] at z53
        refine pc_if (fun _ => P216) (fun z => ?_)
        rcases hs with y | y
        · exact absurd y z53
        · exact absurd (show ¬ v124 = 1 by rw [e124]; exact y) z
      have CORE : ∀ (hA : ms_M) (dl : Int), EPr X dp (p + 1) hA r → CFe h hA → SGb h hA → hA 34 1 + 20 * (p : Int) ≤ h 34 1 + 20 * ((p + 1 : Nat) : Int) → hA 34 3 = h 34 3 + dl → (r 160 53 = 0 ∨ ¬ r 182 jn = 1) → ((r 182 jn = 2 ∧ dl = 0 ∧ ∀ cc y : Nat, ¬ (cc = 2 ∧ y = 10) → hA cc y = h cc y) ∨ (r 182 jn = 1 ∧ dl = 1 ∧ CTh h41 hA)) → Pc (qj_X10_readNamed_76 nn (qg_X10_readValue nn d) dp (p : Int) (xn : Int) hA) (fun u => Pc ((qg_X13_condition nn d2).2.2.1 e r) (fun v => (SFj u v.2 ∨ VDj X 0 a b p (t + 1) e h r u v) ∨ POk nn X 0 a b p (t + 1) e h r u v)) := fun hA dl QA CA SA lA1 lA3 hs kind => by
        have QA2 : EPr X dp (p + 1) hA rA := ⟨bx_k QA.1 (fun _ _ _ => rfl) (fun cc y z => ER cc y (by omega)), ⟨QA.2.1.1, QA.2.1.2.1, QA.2.1.2.2.1, by rw [ER 160 9 (by omega)]; exact q4⟩, QA.2.2⟩
        have MFA : MTf X hA rA xn jn := mtf_k MF (fun cc y z => by rw [CA cc y (by omega) (by omega) (by omega) (by omega) (by omega) (by omega) (by omega) (by omega)]; exact (E41 cc y (by omega)).symm) (fun cc y z => ER cc y (by omega))
        have rA57 := ER 160 57 (by omega)
        unfold qj_X10_readNamed_76
        rw [QA.1.2.2.1.1]
        cases d with
        | zero => exact fun _ z => nomatch z
        | succ d =>
          refine pc_sv (P := fun uF => ∀ d4 : Nat, Pc (qo_X13_called nn (qg_X13_condition nn d4) e (jn : Int) 1 rA) (CRq nn X a b p (t + 1) e h r uF)) ?_ (fun u32 H32 => pc_ret (REFC hs H32))
          show Pc (qo_X10_readCall nn (qg_X10_readValue nn d) (bo X) (xn : Int) (p : Int) 0 (p : Int) dp hA) _
          intro uF eF d4
          refine call_core (c := bo X) (at_ := (p : Int)) (how := 0) (st := (p : Int)) (fit := 1) (tk := p) Y (by omega) A k41 QA2 (by omega) MFA MB (by omega) rfl q2 nd.2 (.inr rfl) ⟨fun z => by omega, fun z => by omega⟩ d d4 (fun uF y => CRq nn X a b p (t + 1) e h r uF y) (fun uF y C => ?_) uF eF
          have k182 := ER 182 jn (by omega)
          refine crq_c (dl := dl) (c := bo X) (st := (p : Int)) (fit := 1) (tk := p) Y Q ne (.inl nd.1) k41 nd.2 q2 CA RRA SA QA.2.2.1.1 lA1 lA3 (by omega) MFA rfl (fun _ => by rcases kind with y | y <;> omega) (fun u v z n AO CM ez _ => ?_) C
          have vA : ∀ cc : Nat, 174 ≤ cc → cc ≤ 176 → v cc e.toNat = rA cc e.toNat := fun cc c1 c2 => AO.2.1.2.1.2 cc _ c1 c2 (by omega)
          refine mkc_one nl ne (fun PB WL L m dd M AM b1 b2 => ?_)
          obtain ⟨MT, MTB, -, -, m52, -, -⟩ := mk_t M
          have a4 : m 174 e.toNat = ty_T (u 24 xn) := by rw [AM 174 e.toNat (by omega) (by omega) (by omega) (by omega), ez, up_s]
          have a5 : m 175 e.toNat = (jn : Int) := by rw [AM 175 e.toNat (by omega) (by omega) (by omega) (by omega), ez, up_n (by omega), vA 175 (by omega) (by omega)]; exact rA5
          have o52 : m 160 52 = bo X := by
            have n8 := Y.2.2.1
            have := ty_c (vtn_v Y.2.2.1 (show VTn (bn X) (bo X) from .inr (.inr (.inr (.inr (.inr (.inl (by omega))))))))
            omega
          have AM2 : AN (e + 1) b v m := an_s AM ⟨by omega, Int.le_refl _⟩ (fun cc y c1 c2 c4 c5 => by rw [ez, up_n (by omega)])
          have h1p : ∀ cc y : Nat, ¬ (cc = 2 ∧ y = 10) → up_M hA 2 10 ((p + 1 + 1 : Nat) : Int) cc y = hA cc y := fun cc y z => up_n z
          have t3 : t < bc X := AO.1.2.1
          have nt : p + 1 + 1 + n ≤ t := AO.2.2.1.2.2.2
          -- the call itself
          have WC : ∀ (w : ms_M) (a3 : Int), MKx X PB WL L hA w → w 160 88 = m 160 88 → w 160 57 = m 160 57 → w 160 52 = m 160 52 → (∀ cc y : Nat, 174 ≤ cc → cc ≤ 176 → w cc y = m cc y) → ((a3 = 0 ∧ r 182 jn = 1) ∨ (a3 = 1 ∧ r 182 jn = 2)) → Pc (qj_X13_workOne_268 nn (qg_X13_work nn dd) e a3 w) (fun w => MKx X PB WL L uF w ∧ (m 160 88 ≤ w 160 88 ∧ w 160 88 + 4 * (p : Int) ≤ m 160 88 + 4 * ((t + 1 : Nat) : Int))) := fun w a3 Mw l8 l5 l52 aw h3 => by
            unfold qj_X13_workOne_268
            rw [l52, o52]
            cases dd with
            | zero => exact fun _ z => nomatch z
            | succ dd =>
              have Mw1 : MKx X PB WL L (up_M hA 2 10 ((p + 1 + 1 : Nat) : Int)) w := mkx_c Mw (fun cc y z1 z2 z3 => h1p cc y (by omega))
              refine pc_sb (pc_imp (m_wcall (pa := p + 1) (t := t) (x := xn) (j := jn) (c := bo X) (a3 := a3) Mw1 AO.2.2.2 CM (an_m AM2 aw) (by rw [aw 175 _ (by omega) (by omega)]; exact a5) (by rw [aw 174 _ (by omega) (by omega)]; exact a4) ?_ (by omega) (by omega) (by omega)) (fun w2 y => pc_ret ⟨y.1, by omega⟩))
              rcases h3 with y | y
              · exact .inl ⟨y.1, by rw [if_neg (by omega)], by rw [if_neg (by omega)]⟩
              · exact .inr ⟨y.1, by rw [if_pos (by omega)], by rw [if_pos (by omega)]⟩
          refine wo_26 ((MT 167 _ (by omega)).trans nd.1) a4 ?_
          refine pc_rA ?_; intro _ _ v124 e124
          rw [a5] at e124
          refine pc_rA ?_; intro _ _ v125 e125
          rw [e124, Int.toNat_natCast, MTB 182 _ (by omega), ← T2 182 _ (by omega)] at e125
          unfold qj_X13_workOne_259
          rcases kind with ⟨y1, y2, y3⟩ | ⟨y1, y2, y3⟩
          · refine pc_if (fun z => absurd (show v125 = 2 by omega) z) (fun _ => ?_)
            refine pc_if (fun _ => ?_) (fun z => absurd (show ¬ (1 : Int) = 0 by decide) z)
            exact WC m 1 (mkx_c M (fun cc y z1 z2 z3 => y3 cc y (by omega))) rfl rfl rfl (fun _ _ _ _ => rfl) (.inr ⟨rfl, y1⟩)
          · refine pc_if (fun _ => ?_) (fun z => absurd (show ¬ v125 = 2 by omega) z)
            refine pc_if (fun z => absurd rfl z) (fun _ => ?_)
            have M41 : MKx X PB WL L h41 m := mkx_c M (fun cc y z1 z2 z3 => E41 cc y (by omega))
            have SF : Pc (qf_X13_self nn m) (fun w => (MKx X PB WL L hA w ∧ w 160 88 = m 160 88) ∧ (w 160 57 = m 160 57 ∧ w 160 52 = m 160 52 ∧ ∀ cc y : Nat, 174 ≤ cc → cc ≤ 176 → w cc y = m cc y)) := by
              refine pc_and (m_self y3 w16 Y M41 (by rw [E41 34 1 (by omega)]; omega)) (fun w ew => ?_)
              have FW : ∀ cc y : Nat, ¬ (cc = 160 ∧ (y = 68 ∨ y = 70 ∨ y = 71)) → ¬ (cc = 206 ∨ cc = 207) → w cc y = m cc y := fun cc y c1 c2 => ff_X13_self nn w ew cc y (nw_of (by unfold wl_X13_self; simp only [List.mem_cons, List.not_mem_nil, or_false]; omega) (by unfold wf_X13_self; simp only [List.mem_cons, List.not_mem_nil, or_false, Prod.mk.injEq]; omega))
              exact ⟨FW 160 57 (by omega) (by omega), FW 160 52 (by omega) (by omega), fun cc y c1 c2 => FW cc y (by omega) (by omega)⟩
            refine pc_sv SF ?_; intro w ⟨⟨Mw, l8⟩, l5, l52, aw⟩
            exact WC w 0 Mw l8 l5 l52 aw (.inl ⟨rfl, y1⟩)
      have e411 := E41 34 1 (by omega)
      have e413 := E41 34 3 (by omega)
      have Q41 : EPr X dp (p + 1) h41 r := epr_in Q E41 p41 (by omega) p1
      refine pc_sv (c_fixd MF) ?_; intro u58 q58
      refine pc_if (fun z => ?_) (fun z => ?_)
      · have k2 : r 182 jn = 2 := by omega
        exact CORE h41 0 Q41 (fun cc y a1 a2 a3 a4 a5 a6 a7 a8 => E41 cc y (by omega)) ⟨E41 49 10 (by omega), fun cc y a1 a2 a3 => E41 cc y (by omega)⟩ (by omega) (by omega) (.inr (by omega)) (.inl ⟨k2, rfl, E41⟩)
      · have k1 : r 182 jn = 1 := by omega
        refine pc_sv (c_this TB1 f41 q2 rfl (by omega) (by omega)) ?_; intro u60 q60
        rcases q60 with ⟨s0, CT⟩ | ⟨s0, s1, s2⟩
        · obtain ⟨⟨g1, g2, g3, g4⟩, g5⟩ := cth_f CT
          have W60 : ∀ cc y : Nat, ¬ (cc = 2 ∧ y = 10) → ¬ (cc = 34 ∧ (y = 1 ∨ y = 3 ∨ y = 4)) → ¬ (cc = 35 ∨ cc = 36) → ¬ (cc = 49 ∧ (y = 11 ∨ y = 12)) → u60 cc y = h cc y := fun cc y a1 a2 a3 a4 => by rw [g5 cc y a2 a3 a4]; exact E41 cc y a1
          have Q60 : EPr X dp (p + 1) u60 r := ⟨bx_k B (fun cc y z => W60 cc y (by omega) (by omega) (by omega) (by omega)) (fun _ _ _ => rfl), ⟨by rw [g5 2 10 (by omega) (by omega) (by omega)]; exact p41, p1, by rw [g5 2 11 (by omega) (by omega) (by omega)]; exact f41, q4⟩, ⟨frc_k f1 (fun cc y z => W60 cc y (by omega) (by omega) (by omega) (by omega)), ⟨by omega, by omega⟩, by omega, by omega⟩, by rw [W60 49 10 (by omega) (by omega) (by omega) (by omega)]; exact o1.1, by rw [W60 49 10 (by omega) (by omega) (by omega) (by omega)]; exact o1.2.1, by rw [W60 49 18 (by omega) (by omega) (by omega) (by omega)]; omega⟩
          have st0 : r 160 53 = 0 := by
            rw [E41 49 17 (by omega)] at s0
            rcases still with y | y
            · exact y.1
            · exact absurd s0 y.2.1
          exact CORE u60 1 Q60 (fun cc y a1 a2 a3 a4 a5 a6 a7 a8 => W60 cc y (by omega) (by omega) (by omega) (by omega)) ⟨W60 49 10 (by omega) (by omega) (by omega) (by omega), fun cc y a1 a2 a3 => W60 cc y (by omega) (by omega) (by omega) (by omega)⟩ (by omega) (by omega) (.inl st0) (.inr ⟨k1, rfl, CT⟩)
        · have S60 : ¬ u60 2 11 = 0 := by omega
          unfold qj_X10_readNamed_76
          refine pc_sv (G.2.2.2.2.2.2.2.2 S60) ?_; intro u32 F
          refine pc_ret (RULE _ (fun d => ?_))
          refine pc_rA ?_; intro _ _ v114 e114
          rw [T 168 (by omega), nd.2] at e114
          rw [e114, B.2.2.1.2, hm, mx_svs]
          refine pc_wA ?_; intro _ _ h117 e117
          rw [hrA] at e117
          rw [e117]
          refine pc_rA ?_; intro _ _ v119 e119
          rw [rA5] at e119
          rw [e119]
          refine pc_if (fun _ => ?_) (fun z => absurd (show ¬ (jn : Int) = -1 by omega) z)
          refine pc_if (fun z53 => ?_) (fun z53 => ?_)
          · rw [ER 160 53 (by omega)] at z53
            rw [E41 49 17 (by omega)] at s0
            rcases still with y | y
            · exact absurd y.2.1 s0
            · exact absurd z53 y.1
          refine pc_rA ?_; intro _ _ v123 e123
          rw [rA5] at e123
          refine pc_rA ?_; intro _ _ v124 e124
          rw [e123, Int.toNat_natCast, ER 182 _ (by omega)] at e124
          refine pc_if (fun z => absurd (show v124 = 1 by omega) z) (fun _ => ?_)
          refine pc_rA ?_; intro _ _ v126 e126
          rw [ER 168 _ (by omega), T 168 (by omega), nd.2] at e126
          refine pc_sv (r_wrong (tbq_f TQ (fun cc y z => ER cc y (by omega))) q2 (by rw [ER 160 9 (by omega)]; exact q4) e126) ?_; intro u128 w1
          refine pc_imp (ft_qj_X13_rule_216 (ftg_X13_condition nn d) (h := u128) (by omega)) (fun y Fy => ?_)
          exact crq_f (nn := nn) (X := X) (a := a) (b := b) (p := p) (q := t + 1) (e := e) (h := h) (r := r) (c := 7) (pl := bP X p) (by omega) (by rw [F.1]; exact s1) (by rw [F.2]; exact s2) (Fy.1.trans w1.1) (Fy.2.trans w1.2)
theorem p3_pc (Y : CXs X) (ne : 0 ≤ a ∧ a ≤ e ∧ e < b) (nd : bT X 167 e.toNat = 26 ∧ bT X 168 e.toNat = (p : Int)) (kp : bK X p = 2) (k40 : bK X (p + 1) = 40) (k41 : bK X t = 41) (pt : p + 1 < t) (A : A4 nn X dp (e + 1) b (p + 1) t (bT X 171 e.toNat)) (hq : q = t + 1) : P3 nn X dp 0 a b p q e := by
  intro d d2 h r Z Q b57 HB HC HF
  subst hq
  have Q0 := Q
  obtain ⟨B, ⟨q1, q2, q3, q4⟩, -, -⟩ := Q0
  have TB : TBc (bK X) (bP X) (bc X) h := B.1.1.1.1
  unfold qo_X10_readPrimary
  refine pc_sv (c_kind Y.1 TB q2 q1 q3) ?_; intro u25 q25
  refine pc_if (fun _ => ?_) (fun z => absurd (show u25 = 2 by omega) z)
  refine p3_fin Y Q ?_ HC HF q1
  cases d with
  | zero => exact pc_none
  | succ d => exact p_own Y Q b57 ne nd kp k40 k41 pt A d d2
end
end
section
/- calls: by a class's name -/
section
variable {nn : Nat} {X : BCx} {dp i l a b e s k c st fit how at_ : Int} {p q t tk pa x j : Nat} {h hA g u r rA w m v : ms_M}
/-- the making of a call by a class -/
theorem mkc_o31 {v : ms_M} (k : bT X 167 e.toNat = 31) (n1 : ¬ v 176 e.toNat = -1) (ne : 0 ≤ a ∧ a ≤ e ∧ e < b) (R : ∀ (PB : Nat → Prop) (WL : Int → Int → Prop) (L : List (Int × Int)) (m : ms_M) (d : Nat), MKx X PB WL L h m → AN a b v m → (0 ≤ m 160 57 ∧ m 160 57 + (b - a) < 9000) → m 160 88 + 4 * (q : Int) ≤ 2000000000 + 4 * (p : Int) → Pc (qo_X13_workOne nn (qg_X13_work nn d) e m) (fun w => MKx X PB WL L u w ∧ (m 160 88 ≤ w 160 88 ∧ w 160 88 + 4 * (p : Int) ≤ m 160 88 + 4 * (q : Int)))) : MKC nn X e a b p q h u v := fun d PB WL L m M A z1 z2 => by
  have T := (mk_t M).1 167 e.toNat (by omega)
  have T6 := A 176 e.toNat (by omega) (by omega) (by omega) (by omega)
  refine m_one (by omega) ?_ (fun d => R PB WL L m d M A z1 z2) d
  unfold qf_X13_isLedInWords
  refine pc_rA ?_; intro _ _ v2 e2
  rw [T, k] at e2
  rw [e2]
  refine pc_if (fun z => absurd z (by decide)) (fun _ => ?_)
  refine pc_if (fun z => absurd z (by decide)) (fun _ => ?_)
  refine pc_if (fun z => absurd z (by decide)) (fun _ => ?_)
  refine pc_if (fun z => absurd z (by decide)) (fun _ => ?_)
  refine pc_if (fun z => absurd rfl z) (fun _ => ?_)
  refine pc_rA ?_; intro _ _ v4 e4
  rw [T6] at e4
  exact pc_if (fun _ => pc_ret rfl) (fun z => absurd (show ¬ v4 = -1 by rw [e4]; exact n1) z)
theorem c_mnm {y : Int} (Y : CXs X) (TB : TBc (bK X) (bP X) (bc X) h) (VL : VLc (bK X) (bV X) (bc X) h) (hf : h 2 11 = 0) (kt : bK X tk = 2) (tc : tk < bc X) (hx : y = (tk : Int)) : Pc (qf_X10_methodNamed nn c y h) (fun u => ∃ u6, qf_X2_methodOf nn c (bV X tk) h = some u6 ∧ ((¬ u6 = -1 ∧ u = (u6, h)) ∨ (u6 = -1 ∧ u.2 2 11 = 5 ∧ u.2 2 12 = bP X tk))) := by
  unfold qf_X10_methodNamed
  refine pc_sv (c_valueAt Y.1 TB VL kt hx) ?_; intro u4 q4
  rw [q4]
  refine pc_se ?_; intro u6 e6
  refine pc_if (fun z => pc_ret ⟨u6, e6, .inl ⟨z, rfl⟩⟩) (fun z => ?_)
  refine pc_sv (c_tell TB hf tc hx) ?_; intro u9 s9
  exact pc_ret ⟨u6, e6, .inr ⟨Classical.byContradiction z, s9.1.1, s9.1.2⟩⟩
theorem c_icp2 {y : Int} (Y : CXs X) (TB : TBc (bK X) (bP X) (bc X) h) (kk : bK X tk = 48 ∧ bK X (tk + 1) = 2 ∧ bK X (tk + 2) = 40) (hx : y = (tk : Int)) (tc : tk < bc X) : Pc (qf_X10_isCallBehindPoint nn y h) (fun u => u = 1) := by
  have c3 := Y.1.2.1
  unfold qf_X10_isCallBehindPoint
  refine pc_sv (c_kindAt Y.1 TB (t := tk) hx) ?_; intro u3 q3
  refine pc_if (fun z => absurd (show u3 = 48 by omega) z) (fun _ => ?_)
  refine pc_add (by omega) ?_; intro v5 e5
  refine pc_sv (c_kindAt Y.1 TB (t := tk + 1) (by omega)) ?_; intro u7 q7
  refine pc_if (fun z => absurd (show u7 = 2 by omega) z) (fun _ => ?_)
  refine pc_add (by omega) ?_; intro v9 e9
  refine pc_sv (c_kindAt Y.1 TB (t := tk + 2) (by omega)) ?_; intro u11 q11
  exact pc_if (fun z => absurd (show u11 = 40 by omega) z) (fun _ => pc_ret rfl)
/-- is it by class: the reference -/
theorem r_ibc {h1 : ms_M} (Y : CXs X) (B : BX X h1 r) (k1 : r 160 52 = bo X) (kp : bK X p = 2) (pc : p < bc X) (e70 : r 170 e.toNat = k) (no : r 167 k.toNat = 25 ∧ r 168 k.toNat = (p : Int) ∧ r 177 k.toNat = 0) (e47 : qf_X1_localOf nn (bV X p) h1 = some (-1)) (e51 : qf_X2_fieldOf nn (bo X) (bV X p) h1 = some (-1)) : Pc (qf_X13_isByClass nn e r) (fun u => u = 1) := by
  have own := Y.2.2.2.1
  have NR : NMr (bK X) (bV X) (bc X) r := B.1.1.2.2.2.1
  unfold qf_X13_isByClass
  refine pc_rA ?_; intro _ _ v2 e2
  rw [e70] at e2
  rw [e2]
  refine pc_rA ?_; intro _ _ v4 e4
  refine pc_if (fun z => absurd (e4.trans no.1) z) (fun _ => ?_)
  refine pc_rA ?_; intro _ _ v6 e6
  refine pc_if (fun z => absurd (e6.trans no.2.2) z) (fun _ => ?_)
  refine pc_rA ?_; intro _ _ v8 e8
  rw [no.2.1] at e8
  refine pc_sv (j_loc Y.1 NR B.2.1 kp rfl e8 _ e47) ?_; intro u10 L
  have n10 : u10 = -1 := by
    rcases L with y | ⟨s, y1, y2, y3⟩
    · exact y.2
    · omega
  refine pc_if (fun z => absurd n10 z) (fun _ => ?_)
  refine pc_rA ?_; intro _ _ v13 e13
  rw [no.2.1] at e13
  rw [e13, k1]
  refine pc_sv (j_fieldOf (nn := nn) Y.1 Y.2.1 B.1 kp (a := bo X) (by omega) _ e51) ?_; intro u15 L2
  have n15 : u15 = -1 := by
    rcases L2 with y | ⟨jj, kk, -, -, -, -, -, y⟩
    · exact y.2
    · omega
  exact pc_if (fun z => absurd n15 z) (fun _ => pc_ret rfl)
theorem p_bycl (Y : CXs X) (Q : EPr X dp p h r) (b57 : 0 ≤ r 160 57 ∧ r 160 57 + (b - a) < 9000 ∧ b ≤ 9000) (ne : 0 ≤ a ∧ a ≤ e ∧ e < b) (nd : bT X 167 e.toNat = 31 ∧ bT X 168 e.toNat = ((p + 2 : Nat) : Int)) (r1 : a ≤ bT X 170 e.toNat ∧ bT X 170 e.toNat < e) (no : bT X 167 (bT X 170 e.toNat).toNat = 25 ∧ bT X 168 (bT X 170 e.toNat).toNat = (p : Int) ∧ bT X 177 (bT X 170 e.toNat).toNat = 0) (kk : bK X p = 2 ∧ bK X (p + 1) = 48 ∧ bK X (p + 2) = 2 ∧ bK X (p + 3) = 40) (k41 : bK X t = 41) (pt : p + 3 < t) (A : A4 nn X dp (e + 1) b (p + 3) t (bT X 171 e.toNat)) (e47 : qf_X1_localOf nn (bV X p) (up_M h 2 10 ((p + 1 : Nat) : Int)) = some (-1)) (e51 : qf_X2_fieldOf nn (bo X) (bV X p) (up_M h 2 10 ((p + 1 : Nat) : Int)) = some (-1)) (d d2 : Nat) : Pc (qo_X10_readNamed nn (qg_X10_readValue nn d) dp h) (fun u => Pc ((qg_X13_condition nn d2).2.2.1 e r) (fun v => (SFj u v.2 ∨ VDj X 0 a b p (t + 1) e h r u v) ∨ POk nn X 0 a b p (t + 1) e h r u v)) := by
  have Q0 := Q
  obtain ⟨B, ⟨q1, q2, q3, q4⟩, ⟨f1, f2, f3⟩, o1⟩ := Q0
  obtain ⟨kp, k48, kp2, k40⟩ := kk
  have T : ∀ cc y : Nat, ((163 ≤ cc ∧ cc ≤ 173) ∨ cc = 177) → r cc y = bT X cc y := fun cc y z => B.2.2.2.2.2.1 cc y z
  have BK := Y.1
  have own := Y.2.2.2.1
  have c3 := BK.2.1
  have TB : TBc (bK X) (bP X) (bc X) h := B.1.1.1.1
  have VL : VLc (bK X) (bV X) (bc X) h := B.1.1.1.2.1
  have TQ : TBq (bK X) (bP X) (bc X) r := B.1.1.2.2.1
  have p1 : p + 1 < bc X := jp_lt BK q2 (by omega)
  have p2 : p + 2 < bc X := jp_lt BK p1 (by omega)
  have p3 : p + 3 < bc X := jp_lt BK p2 (by omega)
  have G := fsg_X10_readValue nn d
  generalize hob : bT X 170 e.toNat = ob at r1 no
  unfold qo_X10_readNamed
  rw [q1]
  refine pc_sv (c_valueAt BK TB VL kp rfl) ?_; intro u37 q37
  refine pc_add (by omega) ?_; intro v40 e40
  refine pc_xl ?_; intro h41 e41
  rw [show v40 = ((p + 1 : Nat) : Int) by omega] at e41
  rw [← e41] at e47 e51
  have E41 : ∀ cc x : Nat, ¬ (cc = 2 ∧ x = 10) → h41 cc x = h cc x := fun cc x z => by rw [e41, up_n z]
  have B1 : BX X h41 r := bx_k B (fun cc x z => E41 cc x (by omega)) (fun _ _ _ => rfl)
  have TB1 : TBc (bK X) (bP X) (bc X) h41 := B1.1.1.1.1
  have f41 : h41 2 11 = 0 := by rw [E41 2 11 (by omega)]; exact q3
  have p41 : h41 2 10 = ((p + 1 : Nat) : Int) := by rw [e41, up_s]
  refine pc_sv (c_kind BK TB1 p1 p41 f41) ?_; intro u44 q44
  refine pc_if (fun _ => ?_) (fun z => absurd (show ¬ u44 = 40 by omega) z)
  have w16 : h41 49 16 = bo X := by rw [E41 49 16 (by omega)]; exact B.2.2.1.1
  rw [q37, e47, mx_svs]
  refine pc_if (fun z => absurd rfl z) (fun _ => ?_)
  rw [w16, e51, mx_svs]
  unfold qj_X10_readNamed_123
  refine pc_if (fun _ => ?_) (fun z => absurd rfl z)
  refine pc_if (fun _ => ?_) (fun z => absurd rfl z)
  refine pc_add (by omega) ?_; intro v1 e1
  refine pc_sv (c_icp2 Y TB1 (tk := p + 1) ⟨k48, kp2, k40⟩ (by omega) p1) ?_; intro u3 q3'
  refine pc_if (fun z => absurd z (by omega)) (fun _ => ?_)
  refine pc_add (by omega) ?_; intro v7 e7
  -- the reference
  have IBC : Pc (qf_X13_isByClass nn e r) (fun u => u = 1) := r_ibc (k := ob) Y B1 B.2.2.1.2 kp q2 (by rw [T 170 _ (by omega)]; exact hob) ⟨by rw [T 167 _ (by omega)]; exact no.1, by rw [T 168 _ (by omega)]; exact no.2.1, by rw [T 177 _ (by omega)]; exact no.2.2⟩ e47 e51
  have NLED : Pc (qf_X13_isLed nn e r) (fun u => u = 0) := by
    unfold qf_X13_isLed
    refine pc_rA ?_; intro _ _ v2 e2
    rw [T 167 _ (by omega), nd.1] at e2
    rw [e2]
    refine pc_if (fun z => absurd z (by decide)) (fun _ => ?_)
    refine pc_if (fun z => absurd z (by decide)) (fun _ => ?_)
    refine pc_if (fun z => absurd z (by decide)) (fun _ => ?_)
    refine pc_if (fun z => absurd z (by decide)) (fun _ => ?_)
    refine pc_if (fun z => absurd rfl z) (fun _ => ?_)
    refine pc_sv IBC ?_; intro u4 q4
    exact pc_if (fun _ => pc_ret rfl) (fun z => absurd (show ¬ u4 = 0 by omega) z)
  have RULE : ∀ (RES : Int × ms_M → Prop), (∀ d : Nat, Pc (qo_X13_invoked nn (qg_X13_condition nn d) e r) (fun u => ∀ z : ms_M, z = up_M u.2 174 e.toNat u.1 → (z 160 9 = 0 → RES (u.1, z)) ∧ (¬ z 160 9 = 0 → RES (0, z)))) → Pc ((qg_X13_condition nn d2).2.2.1 e r) RES := fun RES HN => w_one (by omega) q4 NLED (fun d => ru_31 ((T 167 _ (by omega)).trans nd.1) (by
    cases d with
    | zero => exact fun _ z => nomatch z
    | succ d => exact pc_sb (pc_imp (HN d) (fun y hy => pc_ret hy)))) d2
  have INV : ∀ {QQ : Int × ms_M → Prop} (d : Nat), (∀ u59 : Int, CLz (fun k => bV X (bC X k)) (bn X) (bV X p) u59 → Pc (if ¬ u59 = (-1) then (qj_X13_invoked_46 nn (qg_X13_condition nn d) e ob 1 u59 r) else (rd_A 9000 168 ob r fun v61 => mx_sv (qf_X13_wrong nn 5 v61 r) fun u63 => qj_X13_invoked_46 nn (qg_X13_condition nn d) e ob 1 u59 u63)) QQ) → Pc (qo_X13_invoked nn (qg_X13_condition nn d) e r) QQ := fun {QQ} d HH => by
    unfold qo_X13_invoked
    refine pc_rA ?_; intro _ _ v40 e40
    rw [T 170 _ (by omega), hob] at e40
    rw [e40]
    refine pc_sv IBC ?_; intro u42 q42
    rw [q42]
    refine pc_if (fun z => absurd z (by decide)) (fun _ => ?_)
    refine pc_rA ?_; intro _ _ v57 e57
    rw [T 168 _ (by omega), no.2.1] at e57
    refine pc_sv (r_classOf BK Y.2.1 B.1.1.2.2 kp e57) ?_; intro u59 q59
    exact HH u59 q59
  refine pc_sv (c_rnc Y B1 f41 kp rfl) ?_; intro u9 q9
  rcases q9 with ⟨cl, cn, e9⟩ | ⟨cl, cn, t1, t2⟩
  · -- the class
    have cb := cls_b cl (Y.2.1.2.2 p kp).1
    generalize u9.1 = c at cl cn cb ⊢
    rw [e9]
    generalize hhA : up_M h41 2 10 v7 = hA
    have EA : ∀ cc x : Nat, ¬ (cc = 2 ∧ x = 10) → hA cc x = h cc x := fun cc x z => by rw [← hhA, up_n z]; exact E41 cc x z
    have hA10 : hA 2 10 = ((p + 3 : Nat) : Int) := by rw [← hhA, up_s]; omega
    have BA : BX X hA r := bx_k B (fun cc x z => EA cc x (by omega)) (fun _ _ _ => rfl)
    have QA : EPr X dp (p + 3) hA r := epr_in Q EA hA10 (by omega) p3
    have fA : hA 2 11 = 0 := by rw [EA 2 11 (by omega)]; exact q3
    refine pc_add (by omega) ?_; intro v10 e10
    refine pc_sv (c_mnm Y BA.1.1.1.1 BA.1.1.1.2.1 fA kp2 p2 (by omega)) ?_; intro u12 ⟨u6, e6, q12⟩
    refine pc_add (by omega) ?_; intro v13 e13
    generalize hrB : up_M (up_M r 174 ob.toNat 3) 176 e.toNat c = rB
    have EB : ∀ cc y : Nat, ¬ (cc = 174 ∧ y = ob.toNat) → ¬ (cc = 176 ∧ y = e.toNat) → rB cc y = r cc y := fun cc y z1 z2 => by rw [← hrB, up_n z2, up_n z1]
    have BB : BX X hA rB := bx_k BA (fun _ _ _ => rfl) (fun cc y z => EB cc y (by omega) (by omega))
    have JM := j_methodOf (nn := nn) BK Y.2.1 BB.1 kp2 (a := c) (by omega) u6 e6
    -- the reference up to its member
    have REFM : ∀ {RES : Int × ms_M → Prop}, (∀ (d : Nat) (u18 : Int), qf_X13_memberOf nn c ((p + 2 : Nat) : Int) 1 rB = some u18 → LKR (bV X) (bM X) 1 (bV X (p + 2)) rB u6 u18 → ∀ h19 : ms_M, h19 = up_M rB 175 e.toNat u18 → Pc (if ¬ u18 = (-1) then (qj_X13_invoked_193 nn (qg_X13_condition nn d) e 1 h19) else (rd_A 9000 168 e h19 fun v23 => mx_sv (qf_X13_wrong nn 5 v23 h19) fun u25 => qj_X13_invoked_193 nn (qg_X13_condition nn d) e 1 u25)) (fun u => ∀ z : ms_M, z = up_M u.2 174 e.toNat u.1 → (z 160 9 = 0 → RES (u.1, z)) ∧ (¬ z 160 9 = 0 → RES (0, z)))) → Pc ((qg_X13_condition nn d2).2.2.1 e r) RES := fun {RES} HH => by
      refine RULE _ (fun d => INV d (fun u59 cl2 => ?_))
      have ec := cls_d cl2 cl
      rw [ec]
      refine pc_if (fun _ => ?_) (fun z => absurd cn z)
      unfold qj_X13_invoked_46
      refine pc_wA ?_; intro _ _ h38 e38
      unfold qj_X13_invoked_128
      refine pc_if (fun _ => ?_) (fun z => absurd (by rw [e38, up_n (by omega)]; exact q4) z)
      refine pc_if (fun z => absurd z (by decide)) (fun _ => ?_)
      unfold qj_X13_invoked_152
      refine pc_wA ?_; intro _ _ h13 e13
      rw [e38, hrB] at e13
      rw [e13]
      refine pc_rA ?_; intro _ _ v16 e16
      rw [EB 168 _ (by omega) (by omega), T 168 _ (by omega), nd.2] at e16
      rw [e16]
      refine pc_se ?_; intro u18 e18
      refine pc_wA ?_; intro _ _ h19 e19
      refine pc_rA ?_; intro _ _ v21 e21
      rw [e19, up_s] at e21
      rw [e21]
      exact HH d u18 e18 (JM u18 e18) h19 e19
    rcases q12 with ⟨n6, e12⟩ | ⟨n6, s1, s2⟩
    · -- its method
      rw [e12]
      dsimp only
      cases hm : qf_X13_memberOf nn c ((p + 2 : Nat) : Int) 1 rB with
      | none => exact fun u _ => REFM (fun d u18 e18 => by rw [hm] at e18; exact nomatch e18)
      | some j0 =>
        have MB : MBx X 1 u6 j0 := by
          rcases JM j0 hm with y | ⟨jj, kk, h1, h2, h3, h4, h5, h6⟩
          · exact absurd y.1 n6
          · rw [h5]
            exact (mbx_of BB (.inr rfl) h1 h2 h3 h6).1
        obtain ⟨xn, jn, ex, ej, MF⟩ := mtf_of Y BB MB
        rw [ex] at MB ⊢
        rw [ej] at MB hm
        generalize hrA : up_M rB 175 e.toNat (jn : Int) = rA
        have ER : ∀ cc y : Nat, ¬ (cc = 175 ∧ y = e.toNat) → rA cc y = rB cc y := fun cc y z => by rw [← hrA, up_n z]
        have rA5 : rA 175 e.toNat = (jn : Int) := by rw [← hrA, up_s]
        have rA6 : rA 176 e.toNat = c := by rw [ER 176 _ (by omega), ← hrB, up_s]
        have RRA : RFe a b r rA := ⟨fun cc y z1 z2 z3 => by rw [ER cc y (by omega)]; exact EB cc y (by omega) (by omega), fun cc y z1 z2 z3 => by rw [ER cc y (by omega)]; exact EB cc y (by omega) (by omega)⟩
        have MFA : MTf X hA rA xn jn := mtf_k MF (fun _ _ _ => rfl) (fun cc y z => ER cc y (by omega))
        have QA2 : EPr X dp (p + 3) hA rA := ⟨bx_k BB (fun _ _ _ => rfl) (fun cc y z => ER cc y (by omega)), ⟨QA.2.1.1, QA.2.1.2.1, QA.2.1.2.2.1, by rw [ER 160 9 (by omega), EB 160 9 (by omega) (by omega)]; exact q4⟩, QA.2.2⟩
        have rA9 : rA 160 9 = 0 := QA2.2.1.2.2.2
        have rA57 : rA 160 57 = r 160 57 := by rw [ER 160 57 (by omega)]; exact EB 160 57 (by omega) (by omega)
        have REFC : ∀ {RES : Int × ms_M → Prop}, (∀ (d4 : Nat) (fit : Int), ((fit = 1 ∧ rA 182 jn = 2) ∨ (fit = 0 ∧ rA 182 jn = 1)) → Pc (qo_X13_called nn (qg_X13_condition nn d4) e (jn : Int) fit rA) (fun u => ∀ z : ms_M, z = up_M u.2 174 e.toNat u.1 → (z 160 9 = 0 → RES (u.1, z)) ∧ (¬ z 160 9 = 0 → RES (0, z)))) → Pc ((qg_X13_condition nn d2).2.2.1 e r) RES := fun {RES} HH => by
          refine REFM (fun d u18 e18 _ h19 e19 => ?_)
          have e18' : u18 = (jn : Int) := Option.some.inj (e18.symm.trans hm)
          rw [e18', hrA] at e19
          rw [e18', e19]
          refine pc_if (fun _ => ?_) (fun z => absurd (show ¬ (jn : Int) = -1 by omega) z)
          have C7 : ∀ fit : Int, ((fit = 1 ∧ rA 182 jn = 2) ∨ (fit = 0 ∧ rA 182 jn = 1)) → Pc (qj_X13_invoked_237 nn (qg_X13_condition nn d) fit (jn : Int) e rA) (fun u => ∀ z : ms_M, z = up_M u.2 174 e.toNat u.1 → (z 160 9 = 0 → RES (u.1, z)) ∧ (¬ z 160 9 = 0 → RES (0, z))) := fun fit hfit => by
            unfold qj_X13_invoked_237
            cases d with
            | zero => exact fun _ z => nomatch z
            | succ d4 => exact pc_sb (pc_imp (HH d4 fit hfit) (fun y hy => pc_ret hy))
          unfold qj_X13_invoked_193
          refine pc_rA ?_; intro _ _ v5 e5
          rw [rA5] at e5
          rw [e5]
          refine pc_if (fun z => absurd rA9 z) (fun _ => ?_)
          refine pc_rA ?_; intro _ _ v9 e9
          rw [rA5] at e9
          refine pc_rA ?_; intro _ _ v10 e10
          rw [e9, Int.toNat_natCast] at e10
          have k12 := MFA.2.1
          refine pc_if (fun z => ?_) (fun z => ?_)
          · unfold qj_X13_invoked_228
            exact pc_if (fun _ => C7 0 (.inr ⟨rfl, by omega⟩)) (fun z => absurd (by decide) z)
          · unfold qj_X13_invoked_228 qj_X13_invoked_232
            exact pc_if (fun z => absurd rfl z) (fun _ => C7 1 (.inl ⟨rfl, by omega⟩))
        cases d with
        | zero => exact fun _ z => nomatch z
        | succ d =>
          refine pc_sv (P := fun uF => ∀ (d4 : Nat) (fit : Int), ((fit = 1 ∧ rA 182 jn = 2) ∨ (fit = 0 ∧ rA 182 jn = 1)) → Pc (qo_X13_called nn (qg_X13_condition nn d4) e (jn : Int) fit rA) (CRq nn X a b p (t + 1) e h r uF)) ?_ (fun u32 H32 => pc_ret (REFC H32))
          show Pc (qo_X10_readCall nn (qg_X10_readValue nn d) c (xn : Int) v13 2 (p : Int) dp hA) _
          intro uF eF d4 fit hfit
          refine call_core (c := c) (at_ := v13) (how := 2) (st := (p : Int)) (fit := fit) (tk := p + 2) Y (by omega) A k41 QA2 (by omega) MFA MB (by omega) (by omega) p2 nd.2 (by omega) ⟨fun z => by omega, fun z => by omega⟩ d d4 (fun uF y => CRq nn X a b p (t + 1) e h r uF y) (fun uF y C => ?_) uF eF
          have l1A := EA 34 1 (by omega)
          have l3A := EA 34 3 (by omega)
          refine crq_c (dl := 0) (c := c) (st := (p : Int)) (fit := fit) (tk := p + 2) Y Q ne (.inr nd.1) k41 nd.2 p2 (fun cc y a1 a2 a3 a4 a5 a6 a7 a8 => EA cc y (by omega)) RRA ⟨EA 49 10 (by omega), fun cc y z1 z2 z3 => EA cc y (by omega)⟩ QA.2.2.1.1 (by omega) (by omega) (by omega) MFA rfl (fun _ => by omega) (fun u v z n AO CM ez nf => ?_) C
          have vA : ∀ cc : Nat, 174 ≤ cc → cc ≤ 176 → v cc e.toNat = rA cc e.toNat := fun cc c1 c2 => AO.2.1.2.1.2 cc _ c1 c2 (by omega)
          have z6 : z 176 e.toNat = c := by rw [ez, up_n (by omega), vA 176 (by omega) (by omega)]; exact rA6
          refine mkc_o31 nd.1 (by rw [z6]; exact cn) ne (fun PB WL L m dd M AM b1 b2 => ?_)
          obtain ⟨MT, -, -, -⟩ := mk_t M
          have a4 : m 174 e.toNat = ty_T (u 24 xn) := by rw [AM 174 e.toNat (by omega) (by omega) (by omega) (by omega), ez, up_s]
          have a5 : m 175 e.toNat = (jn : Int) := by rw [AM 175 e.toNat (by omega) (by omega) (by omega) (by omega), ez, up_n (by omega), vA 175 (by omega) (by omega)]; exact rA5
          have a6 : m 176 e.toNat = c := by rw [AM 176 e.toNat (by omega) (by omega) (by omega) (by omega)]; exact z6
          have AM2 : AN (e + 1) b v m := an_s AM ⟨by omega, Int.le_refl _⟩ (fun cc y c1 c2 c4 c5 => by rw [ez, up_n (by omega)])
          have t3 : t < bc X := AO.1.2.1
          have nt : p + 3 + 1 + n ≤ t := AO.2.2.1.2.2.2
          have Mw1 : MKx X PB WL L (up_M hA 2 10 ((p + 3 + 1 : Nat) : Int)) m := mkx_c M (fun cc y z1 z2 z3 => by rw [up_n (by omega)]; exact EA cc y (by omega))
          refine wo_31 ((MT 167 _ (by omega)).trans nd.1) a4 ?_
          refine pc_rA ?_; intro _ _ v178 e178
          rw [a6] at e178
          refine pc_if (fun _ => ?_) (fun z => absurd (show ¬ v178 = -1 by rw [e178]; exact cn) z)
          refine pc_rA ?_; intro _ _ v180 e180
          rw [a6] at e180
          rw [e180]
          unfold qj_X13_workOne_316
          refine pc_rA ?_; intro _ _ v28 e28
          rw [a6] at e28
          refine pc_if (fun z => absurd (e28.symm.trans z) cn) (fun _ => ?_)
          cases dd with
          | zero => exact fun _ z => nomatch z
          | succ dd =>
            refine pc_sb (pc_imp (m_wcall (pa := p + 3) (t := t) (x := xn) (j := jn) (c := c) (a3 := 1) Mw1 AO.2.2.2 CM AM2 a5 a4 (.inr ⟨rfl, by rw [if_pos (by omega)], by rw [if_pos (by omega)]⟩) (by omega) (by omega) (by omega)) (fun w2 y => pc_ret ⟨y.1, by omega⟩))
    · -- no such method
      have S12 : ¬ u12.2 2 11 = 0 := by omega
      refine pc_sv (G.2.2.2.2.2.2.2.2 S12) ?_; intro u32 F
      refine pc_ret (REFM (fun d u18 e18 LK h19 e19 => ?_))
      have j1 : u18 = -1 := by
        rcases LK with y | ⟨jj, kk, -, -, -, -, -, y⟩
        · exact y.2
        · omega
      refine pc_if (fun z => absurd j1 z) (fun _ => ?_)
      refine pc_rA ?_; intro _ _ v23 e23
      rw [e19, up_n (by omega), EB 168 _ (by omega) (by omega), T 168 _ (by omega), nd.2] at e23
      refine pc_sv (r_wrong (tbq_f TQ (fun cc y z => by rw [e19, up_n (by omega)]; exact EB cc y (by omega) (by omega))) p2 (by rw [e19, up_n (by omega), EB 160 9 (by omega) (by omega)]; exact q4) e23) ?_; intro u25 w1
      refine pc_imp (ft_qj_X13_invoked_193 (ftg_X13_condition nn d) (h := u25) (by omega)) (fun y Fy => ?_)
      exact crq_f (nn := nn) (X := X) (a := a) (b := b) (p := p) (q := t + 1) (e := e) (h := h) (r := r) (c := 5) (pl := bP X (p + 2)) (by omega) (by rw [F.1]; exact s1) (by rw [F.2]; exact s2) (Fy.1.trans w1.1) (Fy.2.trans w1.2)
  · -- no such class
    have S9 : ¬ u9.2 2 11 = 0 := by omega
    refine pc_add (by omega) ?_; intro v10 e10
    refine pc_sv (fs_qf_X10_methodNamed S9) ?_; intro u12 F1
    refine pc_add (by omega) ?_; intro v13 e13
    have S12 : ¬ u12.2 2 11 = 0 := by rw [F1.1]; exact S9
    refine pc_sv (G.2.2.2.2.2.2.2.2 S12) ?_; intro u32 F
    refine pc_ret (RULE _ (fun d => INV d (fun u59 cl2 => ?_)))
    have ec := cls_d cl2 cl
    refine pc_if (fun z => absurd ec z) (fun _ => ?_)
    refine pc_rA ?_; intro _ _ v61 e61
    rw [T 168 _ (by omega), no.2.1] at e61
    refine pc_sv (r_wrong TQ q2 q4 e61) ?_; intro u63 w1
    refine pc_imp (ft_qj_X13_invoked_46 (ftg_X13_condition nn d) (h := u63) (by omega)) (fun y Fy => ?_)
    exact crq_f (nn := nn) (X := X) (a := a) (b := b) (p := p) (q := t + 1) (e := e) (h := h) (r := r) (c := 5) (pl := bP X p) (by omega) (by rw [F.1, F1.1]; exact t1) (by rw [F.2, F1.2]; exact t2) (Fy.1.trans w1.1) (Fy.2.trans w1.2)
end
end

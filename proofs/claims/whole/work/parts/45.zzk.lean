/- calls: the ARGS of both sides -/
/-- the making of ARGS, n of them: what the class has done -/
def MKA (nn : Nat) (X : BCx) (k a b : Int) (p q n : Nat) (h u v : ms_M) : Prop := ∀ (d f : Nat) (l1 l2 l3 l4 : Int) (PB : Nat → Prop) (WL : Int → Int → Prop) (L : List (Int × Int)) (m : ms_M) (Q : ms_M → Prop), MKx X PB WL L h m → AN a b v m → (0 ≤ m 160 57 ∧ m 160 57 + (b - a) < 9000) → m 160 88 + 4 * (q : Int) ≤ 2000000000 + 4 * (p : Int) → (0 ≤ l4 ∧ l4 ≤ 10000 - 2 * (n : Int)) → (∀ (f2 : Nat) (w : ms_M), MKx X PB WL L u w → (m 160 88 ≤ w 160 88 ∧ w 160 88 + 4 * (p : Int) ≤ m 160 88 + 4 * (q : Int)) → (∀ cc x : Nat, 174 ≤ cc → cc ≤ 176 → w cc x = m cc x) → w 160 57 = m 160 57 → Pc (qw_X13_workCall_19 nn (qg_X13_work nn d) f2 l1 l2 l3 (l4 + (n : Int)) (-1) w) Q) → Pc (qw_X13_workCall_19 nn (qg_X13_work nn d) f l1 l2 l3 l4 k m) Q
/-- behind n ARGS, at the bracket t -/
def AOk (nn : Nat) (X : BCx) (k a b : Int) (p t n : Nat) (h r u v : ms_M) : Prop := (u 2 10 = (t : Int) ∧ t < bc X ∧ p ≤ t ∧ u 2 11 = 0 ∧ v 160 9 = 0) ∧ (CFe h u ∧ RFe a b r v ∧ SGb h u ∧ RKp r v) ∧ (FRc u ∧ (0 ≤ u 34 1 ∧ u 34 1 + 20 * (p : Int) ≤ h 34 1 + 20 * (t : Int)) ∧ u 34 3 = h 34 3 + (n : Int) ∧ p + n ≤ t) ∧ MKA nn X k a b p t n h u v
/-- those ARGS: the class's loop and the reference's -/
def A5 (nn : Nat) (X : BCx) (dp a b : Int) (p t : Nat) (k : Int) : Prop := ∀ (d d2 f f2 : Nat) (h r : ms_M) (c at_ how st e fit : Int) (x j n : Nat) (rt gd tn : Int) (Z : ms_M → Int × ms_M → Prop), EPr X dp p h r → (0 ≤ r 160 57 ∧ r 160 57 + (b - a) < 9000 ∧ b ≤ 9000) → MTf X h r x j → ((rt = 0 ∨ rt = 1) ∧ (fit = 0 ∨ fit = 1) ∧ gd = (if fit = 0 then 0 else rt)) → (0 ≤ tn ∧ tn ≤ (p : Int)) → n ≤ p → h 49 18 < (p : Int) → (∀ (u v : ms_M) (n2 : Nat) (rt2 : Int), AOk nn X k a b p t n2 h r u v → (rt2 = 0 ∨ rt2 = 1) → Pc (qj_X10_readCall_128 nn (qg_X10_readValue nn d) c (x : Int) at_ how st ((n + n2 : Nat) : Int) rt2 u) (fun uF => Pc (qj_X13_called_110 nn (qg_X13_condition nn d2) e (j : Int) (if fit = 0 then 0 else rt2) ((n + n2 : Nat) : Int) v) (Z uF))) → (∀ (u v : ms_M) (n2 : Nat) (rt2 gd2 : Int), SFj u v → Pc (qj_X10_readCall_128 nn (qg_X10_readValue nn d) c (x : Int) at_ how st ((n + n2 : Nat) : Int) rt2 u) (fun uF => Pc (qj_X13_called_110 nn (qg_X13_condition nn d2) e (j : Int) gd2 ((n + n2 : Nat) : Int) v) (Z uF))) → Pc (qw_X10_readCall_22 nn (qg_X10_readValue nn d) f c (x : Int) at_ how st dp (n : Int) rt tn h) (fun uF => Pc (qw_X13_called_23 nn (qg_X13_condition nn d2) f2 e (j : Int) gd (n : Int) k r) (Z uF))
section
variable {nn : Nat} {X : BCx} {dp i l a b e s k : Int} {p q t n : Nat} {h g u r w m : ms_M} {v : Int × ms_M}
theorem mka_0 {v : ms_M} : MKA nn X (-1) a b p q 0 h h v → True := fun _ => trivial
/-- one of them: the class and the reference, up to the comma or the bracket -/
theorem a5_step {ix : Int} (Y : CXs X) (ne : 0 ≤ a ∧ a ≤ k ∧ k < b) (n41 : ¬ bK X p = 41) (H : E0 nn X dp ix a k p t (bT X 170 k.toNat)) (kt : bK X t = 41 ∨ bK X t = 47) (pt : p < t) (d d2 f f2 : Nat) (h r : ms_M) (c at_ how st e fit : Int) (x j n : Nat) (rt gd tn : Int) (Z : ms_M → Int × ms_M → Prop) (Q : EPr X dp p h r) (b57 : 0 ≤ r 160 57 ∧ r 160 57 + (b - a) < 9000 ∧ b ≤ 9000) (MF : MTf X h r x j) (hg : (rt = 0 ∨ rt = 1) ∧ (fit = 0 ∨ fit = 1) ∧ gd = (if fit = 0 then 0 else rt)) (ht : 0 ≤ tn ∧ tn ≤ (p : Int)) (np : n ≤ p) (al : h 49 18 < (p : Int)) (HC : ∀ (f f2 : Nat) (u h2 : ms_M) (v : Int × ms_M) (rt2 : Int), EOz nn X ix a k p t (bT X 170 k.toNat) h r u v → FM01 nn X ix a k p t (bT X 170 k.toNat) h u v.2 → ¬ u 49 12 = 303 → RKp r v.2 → (rt2 = 0 ∨ rt2 = 1) → ((bK X t = 41 ∧ h2 = u) ∨ (bK X t = 47 ∧ h2 = up_M u 2 10 ((t + 1 : Nat) : Int))) → Pc (qw_X10_readCall_22 nn (qg_X10_readValue nn d) f c (x : Int) at_ how st dp ((n + 1 : Nat) : Int) rt2 (tn + 1) h2) (fun uF => Pc (qw_X13_called_23 nn (qg_X13_condition nn d2) f2 e (j : Int) (if fit = 0 then 0 else rt2) ((n + 1 : Nat) : Int) (bT X 173 k.toNat) v.2) (Z uF))) (HF : ∀ (u v : ms_M) (n2 : Nat) (rt2 gd2 : Int), SFj u v → Pc (qj_X10_readCall_128 nn (qg_X10_readValue nn d) c (x : Int) at_ how st ((n + n2 : Nat) : Int) rt2 u) (fun uF => Pc (qj_X13_called_110 nn (qg_X13_condition nn d2) e (j : Int) gd2 ((n + n2 : Nat) : Int) v) (Z uF))) : Pc (qw_X10_readCall_22 nn (qg_X10_readValue nn d) f c (x : Int) at_ how st dp (n : Int) rt tn h) (fun uF => Pc (qw_X13_called_23 nn (qg_X13_condition nn d2) f2 e (j : Int) gd (n : Int) k r) (Z uF)) := by
  have Q0 := Q
  obtain ⟨B, ⟨q1, q2, q3, q4⟩, ⟨f1, f2', f3⟩, o1⟩ := Q0
  have TB : TBc (bK X) (bP X) (bc X) h := B.1.1.1.1
  have TQ : TBq (bK X) (bP X) (bc X) r := B.1.1.2.2.1
  have T8 : ∀ cc x : Nat, 163 ≤ cc ∧ cc ≤ 173 → r cc x = bT X cc x := fun cc x z => B.2.2.2.2.2.1 cc x (by omega)
  have n8 := Y.2.2.1
  have c3 := Y.1.2.1
  have G := fsg_X10_readValue nn d
  have Gt := ftg_X13_condition nn d2
  obtain ⟨hr, hf, hgd⟩ := hg
  have tc : t < bc X := tb_lt Y.1 (by omega)
  cases f with
  | zero => exact pc_none
  | succ f =>
    cases f2 with
    | zero => exact fun _ _ => pc_none
    | succ f2 =>
      unfold qw_X10_readCall_22
      refine pc_if (fun z => absurd z (by omega)) (fun _ => ?_)
      refine pc_if (fun z => absurd q3 z) (fun _ => ?_)
      refine pc_sv (c_kind Y.1 TB q2 q1 q3) ?_; intro u54 q54
      refine pc_if (fun z => absurd (q54.symm.trans z) n41) (fun _ => ?_)
      have GV := j_given (nn := nn) (X := X) (x := (qg_X10_readValue nn d).1 dp h) TQ T8 n8 (fun d2 => H (by unfold ENDk; omega) d d2 h r Q (by omega)) (fun z => by omega) (by omega)
      -- the reference's turn
      have RT : ∀ {QQ : Int × ms_M → Prop}, Pc ((qg_X13_condition nn d2).2.1 (bT X 170 k.toNat) r) (fun v => Pc (if gd = 0 then (qj_X13_called_92 nn (qg_X13_condition nn d2) (qw_X13_called_23 nn (qg_X13_condition nn d2) f2) e (j : Int) (n : Int) k v.2) else (rd_A 800 189 (j : Int) v.2 fun v20 => if v20 ≤ (n : Int) then (qj_X13_called_92 nn (qg_X13_condition nn d2) (qw_X13_called_23 nn (qg_X13_condition nn d2) f2) e (j : Int) (n : Int) k v.2) else (rd_A 800 188 (j : Int) v.2 fun v23 => xl (oq_add v23 (n : Int)) fun v24 => rd_A 1500 195 v24 v.2 fun v25 => mx_sv (qf_X13_fits nn v.1 v25 v.2) fun u27 => if u27 = 0 then (qj_X13_called_92 nn (qg_X13_condition nn d2) (qw_X13_called_23 nn (qg_X13_condition nn d2) f2) e (j : Int) (n : Int) k v.2) else (qj_X13_called_93 nn (qg_X13_condition nn d2) (qw_X13_called_23 nn (qg_X13_condition nn d2) f2) e (j : Int) (n : Int) k 1 v.2)))) QQ) → Pc (qw_X13_called_23 nn (qg_X13_condition nn d2) (f2 + 1) e (j : Int) gd (n : Int) k r) QQ := fun {QQ} HH => by
        unfold qw_X13_called_23
        refine pc_if (fun z => absurd z (by omega)) (fun _ => ?_)
        refine pc_if (fun z => absurd q4 z) (fun _ => ?_)
        refine pc_rA ?_; intro _ _ v16 e16
        rw [T8 170 _ (by omega)] at e16
        rw [e16]
        exact pc_sb HH
      refine pc_imp (?_ : Pc _ (fun uF => Pc ((qg_X13_condition nn d2).2.1 (bT X 170 k.toNat) r) (fun v => Pc (if gd = 0 then (qj_X13_called_92 nn (qg_X13_condition nn d2) (qw_X13_called_23 nn (qg_X13_condition nn d2) f2) e (j : Int) (n : Int) k v.2) else (rd_A 800 189 (j : Int) v.2 fun v20 => if v20 ≤ (n : Int) then (qj_X13_called_92 nn (qg_X13_condition nn d2) (qw_X13_called_23 nn (qg_X13_condition nn d2) f2) e (j : Int) (n : Int) k v.2) else (rd_A 800 188 (j : Int) v.2 fun v23 => xl (oq_add v23 (n : Int)) fun v24 => rd_A 1500 195 v24 v.2 fun v25 => mx_sv (qf_X13_fits nn v.1 v25 v.2) fun u27 => if u27 = 0 then (qj_X13_called_92 nn (qg_X13_condition nn d2) (qw_X13_called_23 nn (qg_X13_condition nn d2) f2) e (j : Int) (n : Int) k v.2) else (qj_X13_called_93 nn (qg_X13_condition nn d2) (qw_X13_called_23 nn (qg_X13_condition nn d2) f2) e (j : Int) (n : Int) k 1 v.2)))) (Z uF)))) (fun uF HH => RT HH)
      refine p2_sa (pc_imp (GV d2) (fun u Hu => pc_imp (pc_and Hu ((rkg_condition nn d2).2.1 (a1 := bT X 170 k.toNat) (h := r) (by omega))) (fun v hv => ?_)))
      obtain ⟨hv, RK⟩ := hv
      -- where the reference goes on with gd2
      have RG : ∀ {QQ : Int × ms_M → Prop} (gd2 : Int), BX X u v.2 → v.2 160 9 = 0 → Pc (qw_X13_called_23 nn (qg_X13_condition nn d2) f2 e (j : Int) gd2 ((n + 1 : Nat) : Int) (bT X 173 k.toNat) v.2) QQ → Pc (qj_X13_called_93 nn (qg_X13_condition nn d2) (qw_X13_called_23 nn (qg_X13_condition nn d2) f2) e (j : Int) (n : Int) k gd2 v.2) QQ := fun {QQ} gd2 B2 _ HH => by
        unfold qj_X13_called_93
        refine pc_add (by omega) ?_; intro v11 e11
        refine pc_rA ?_; intro _ _ v13 e13
        rw [B2.2.2.2.2.2.1 173 _ (by omega)] at e13
        rw [e13, show v11 = ((n + 1 : Nat) : Int) by omega]
        exact HH
      rcases hv with S | ⟨K, FX, n303⟩
      · -- a FAULT on both sides
        have CF : ∀ (rt2 : Int), Pc (qj_X10_readCall_92 nn (qg_X10_readValue nn d) (qw_X10_readCall_22 nn (qg_X10_readValue nn d) f) c (x : Int) at_ how st dp (n : Int) tn rt2 u) (fun uF => ∀ (vv : ms_M) (gd2 : Int), SFj u vv → Pc (qj_X13_called_110 nn (qg_X13_condition nn d2) e (j : Int) gd2 ((n + 1 : Nat) : Int) vv) (Z uF)) := fun rt2 => by
          have END : ∀ (g : ms_M) (tn2 : Int), FSc u g → Pc (qw_X10_readCall_22 nn (qg_X10_readValue nn d) f c (x : Int) at_ how st dp ((n + 1 : Nat) : Int) rt2 tn2 g) (fun uF => ∀ (vv : ms_M) (gd2 : Int), SFj u vv → Pc (qj_X13_called_110 nn (qg_X13_condition nn d2) e (j : Int) gd2 ((n + 1 : Nat) : Int) vv) (Z uF)) := fun g tn2 F => by
            cases f with
            | zero => exact pc_none
            | succ f =>
              have P128 : Pc (qj_X10_readCall_128 nn (qg_X10_readValue nn d) c (x : Int) at_ how st ((n + 1 : Nat) : Int) rt2 g) (fun uF => ∀ (vv : ms_M) (gd2 : Int), SFj u vv → Pc (qj_X13_called_110 nn (qg_X13_condition nn d2) e (j : Int) gd2 ((n + 1 : Nat) : Int) vv) (Z uF)) := fun uF eF vv gd2 S2 => HF g vv 1 rt2 gd2 (sf_c S2 F) uF eF
              unfold qw_X10_readCall_22
              refine pc_if (fun _ => P128) (fun _ => ?_)
              exact pc_if (fun _ => P128) (fun z => absurd (show ¬ g 2 11 = 0 by rw [F.1]; exact S.1) z)
          unfold qj_X10_readCall_92
          refine pc_add (by omega) ?_; intro v39 e39
          rw [show v39 = ((n + 1 : Nat) : Int) by omega]
          refine pc_sv pc_any ?_; intro u42 _
          refine pc_if (fun _ => ?_) (fun _ => ?_)
          · refine pc_xl ?_; intro v43 _
            exact END u v43 fs_r
          · refine pc_xl ?_; intro v46 _
            refine pc_xl ?_; intro h47 e47
            refine pc_xl ?_; intro v48 _
            exact END h47 v48 ⟨by rw [e47, up_n (by omega)], by rw [e47, up_n (by omega)]⟩
        have CF2 : Pc (if rt = 0 then (qj_X10_readCall_91 nn (qg_X10_readValue nn d) (qw_X10_readCall_22 nn (qg_X10_readValue nn d) f) c (x : Int) at_ how st dp (n : Int) tn u) else (mx_sv (qf_X2_parameterType nn (x : Int) (n : Int) u) fun u61 => mx_sv (qf_X4_fits nn 12 (u 49 12) u61 u) fun u63 => if u63 = 0 then (qj_X10_readCall_91 nn (qg_X10_readValue nn d) (qw_X10_readCall_22 nn (qg_X10_readValue nn d) f) c (x : Int) at_ how st dp (n : Int) tn u) else (qj_X10_readCall_92 nn (qg_X10_readValue nn d) (qw_X10_readCall_22 nn (qg_X10_readValue nn d) f) c (x : Int) at_ how st dp (n : Int) tn 1 u))) (fun uF => ∀ (vv : ms_M) (gd2 : Int), SFj u vv → Pc (qj_X13_called_110 nn (qg_X13_condition nn d2) e (j : Int) gd2 ((n + 1 : Nat) : Int) vv) (Z uF)) := by
          unfold qj_X10_readCall_91
          refine pc_if (fun _ => CF 0) (fun _ => ?_)
          refine pc_sv pc_any ?_; intro u61 _
          refine pc_sv pc_any ?_; intro u63 _
          exact pc_if (fun _ => CF 0) (fun _ => CF 1)
        refine pc_imp CF2 (fun uF HU => ?_)
        have S9 := sf_r S
        have RE : ∀ gd2 : Int, Pc (qj_X13_called_93 nn (qg_X13_condition nn d2) (qw_X13_called_23 nn (qg_X13_condition nn d2) f2) e (j : Int) (n : Int) k gd2 v.2) (Z uF) := fun gd2 => by
          unfold qj_X13_called_93
          refine pc_add (by omega) ?_; intro v11 e11
          rw [show v11 = ((n + 1 : Nat) : Int) by omega]
          refine pc_rA ?_; intro _ _ v13 _
          cases f2 with
          | zero => exact pc_none
          | succ f2 =>
            unfold qw_X13_called_23
            refine pc_if (fun _ => HU v.2 gd2 S) (fun _ => ?_)
            exact pc_if (fun _ => HU v.2 gd2 S) (fun z => absurd S9 z)
        unfold qj_X13_called_92
        refine pc_if (fun _ => RE 0) (fun _ => ?_)
        refine pc_rA ?_; intro _ _ v20 _
        refine pc_if (fun _ => RE 0) (fun _ => ?_)
        refine pc_rA ?_; intro _ _ v23 _
        refine pc_xl ?_; intro v24 _
        refine pc_rA ?_; intro _ _ v25 _
        refine pc_sv pc_any ?_; intro u27 _
        exact pc_if (fun _ => RE 0) (fun _ => RE 1)
      · have K0 := K.1
        obtain ⟨⟨x1, x2, x3, x4, x5⟩, ⟨x6, x7, x8⟩, ⟨x9, x10, x11⟩, ⟨x12, x13, x14⟩, -⟩ := K0
        have B2 : BX X u v.2 := bx_e B x9 x10
        have MF2 : MTf X u v.2 x j := mtf_k MF (fun cc y z => x9 cc y (by omega) (by omega) (by omega) (by omega) (by omega) (by omega) (by omega) (by omega)) (fun cc y z => x10.1 cc y (by omega) (by omega) (by omega))
        -- the class goes on with rt2
        have CG : ∀ rt2 : Int, (rt2 = 0 ∨ rt2 = 1) → Pc (qj_X10_readCall_92 nn (qg_X10_readValue nn d) (qw_X10_readCall_22 nn (qg_X10_readValue nn d) f) c (x : Int) at_ how st dp (n : Int) tn rt2 u) (fun uF => Pc (qw_X13_called_23 nn (qg_X13_condition nn d2) f2 e (j : Int) (if fit = 0 then 0 else rt2) ((n + 1 : Nat) : Int) (bT X 173 k.toNat) v.2) (Z uF)) := fun rt2 h2 => by
          unfold qj_X10_readCall_92
          refine pc_add (by omega) ?_; intro v39 e39
          rw [show v39 = ((n + 1 : Nat) : Int) by omega]
          refine pc_sv (c_kind Y.1 B2.1.1.1.1 x2 x1 x4) ?_; intro u42 q42
          refine pc_if (fun z => ?_) (fun z => ?_)
          · refine pc_add (by omega) ?_; intro v43 e43
            rw [e43]
            exact HC f f2 u u v rt2 K FX n303 RK h2 (.inl ⟨by omega, rfl⟩)
          · rw [x1]
            refine pc_add (by omega) ?_; intro v46 e46
            refine pc_xl ?_; intro h47 e47
            refine pc_add (by omega) ?_; intro v48 e48
            rw [e48]
            exact HC f f2 u h47 v rt2 K FX n303 RK h2 (.inr ⟨by omega, by rw [e47]; congr 1⟩)
        -- the reference with what the class found
        have RR : ∀ {uF : ms_M} (rt2 : Int), (rt2 = 0 ∨ rt2 = 1) → (rt = 0 → rt2 = 0) → (¬ rt = 0 → ((rt2 = 1 ∧ (n : Int) < v.2 189 j ∧ FTS (bB X 180) (u 49 12) (u 29 (6 * x + n))) ∨ (rt2 = 0 ∧ ¬ ((n : Int) < v.2 189 j ∧ FTS (bB X 180) (u 49 12) (u 29 (6 * x + n)))))) → Pc (qw_X13_called_23 nn (qg_X13_condition nn d2) f2 e (j : Int) (if fit = 0 then 0 else rt2) ((n + 1 : Nat) : Int) (bT X 173 k.toNat) v.2) (Z uF) → Pc (if gd = 0 then (qj_X13_called_92 nn (qg_X13_condition nn d2) (qw_X13_called_23 nn (qg_X13_condition nn d2) f2) e (j : Int) (n : Int) k v.2) else (rd_A 800 189 (j : Int) v.2 fun v20 => if v20 ≤ (n : Int) then (qj_X13_called_92 nn (qg_X13_condition nn d2) (qw_X13_called_23 nn (qg_X13_condition nn d2) f2) e (j : Int) (n : Int) k v.2) else (rd_A 800 188 (j : Int) v.2 fun v23 => xl (oq_add v23 (n : Int)) fun v24 => rd_A 1500 195 v24 v.2 fun v25 => mx_sv (qf_X13_fits nn v.1 v25 v.2) fun u27 => if u27 = 0 then (qj_X13_called_92 nn (qg_X13_condition nn d2) (qw_X13_called_23 nn (qg_X13_condition nn d2) f2) e (j : Int) (n : Int) k v.2) else (qj_X13_called_93 nn (qg_X13_condition nn d2) (qw_X13_called_23 nn (qg_X13_condition nn d2) f2) e (j : Int) (n : Int) k 1 v.2)))) (Z uF) := fun {uF} rt2 h2 h3 h4 HU => by
          unfold qj_X13_called_92
          have AS : ∀ gd2 : Int, gd2 = (if fit = 0 then 0 else rt2) → Pc (qj_X13_called_93 nn (qg_X13_condition nn d2) (qw_X13_called_23 nn (qg_X13_condition nn d2) f2) e (j : Int) (n : Int) k gd2 v.2) (Z uF) := fun gd2 hg2 => RG gd2 B2 x5 (by rw [hg2]; exact HU)
          by_cases fz : fit = 0
          · have g0 : gd = 0 := by rw [hgd, if_pos fz]
            rw [if_pos g0]
            exact AS 0 (by rw [if_pos fz])
          · rw [if_neg fz] at hgd
            refine pc_if (fun z => AS 0 (by rw [if_neg fz, h3 (by omega)])) (fun z => ?_)
            have h4 := h4 (by omega)
            refine pc_rA ?_; intro _ _ v20 e20
            rw [Int.toNat_natCast] at e20
            refine pc_if (fun z2 => AS 0 ?_) (fun z2 => ?_)
            · rw [if_neg fz]
              rcases h4 with y | y
              · omega
              · exact y.1.symm
            have m3 := MF2.2.2.1
            refine pc_rA ?_; intro _ _ v23 e23
            rw [Int.toNat_natCast] at e23
            refine pc_add (by omega) ?_; intro v24 e24
            refine pc_rA ?_; intro _ _ v25 e25
            obtain ⟨p1, p2, p3⟩ := MF2.2.2.2.1 n (by omega)
            rw [show v24.toNat = (v.2 188 j).toNat + n by omega, p3] at e25
            rw [e25, x6]
            refine pc_sv (r_fit Y (bx_180 B2) x7 p1) ?_; intro u27 q27
            refine pc_if (fun z3 => AS 0 ?_) (fun z3 => AS 1 ?_)
            · rw [if_neg fz]
              rcases h4 with y | y
              · rcases q27 with w | w
                · omega
                · exact absurd y.2.2 w.2
              · exact y.1.symm
            · rw [if_neg fz]
              rcases h4 with y | y
              · exact y.1.symm
              · rcases q27 with w | w
                · exact absurd ⟨by omega, w.2⟩ y.2
                · exact absurd w.1 z3
        unfold qj_X10_readCall_91
        refine pc_if (fun z => ?_) (fun z => ?_)
        · exact pc_imp (CG 0 (.inl rfl)) (fun uF HU => RR 0 (.inl rfl) (fun _ => rfl) (fun z2 => absurd z z2) HU)
        · refine pc_sv (c_parTy (n := n) MF2) ?_; intro u61 q61
          rcases q61 with ⟨y1, y2⟩ | ⟨y1, y2⟩
          · obtain ⟨p1, p2, p3⟩ := MF2.2.2.2.1 n y1
            rw [y2]
            refine pc_sv (c_fit Y B2 x7 p1) ?_; intro u63 q63
            refine pc_if (fun z3 => ?_) (fun z3 => ?_)
            · refine pc_imp (CG 0 (.inl rfl)) (fun uF HU => RR 0 (.inl rfl) (fun _ => rfl) (fun _ => .inr ⟨rfl, fun f => ?_⟩) HU)
              rcases q63 with w | w
              · omega
              · exact w.2 f.2
            · refine pc_imp (CG 1 (.inr rfl)) (fun uF HU => RR 1 (.inr rfl) (fun z2 => absurd z2 z) (fun _ => .inl ⟨rfl, y1, ?_⟩) HU)
              rcases q63 with w | w
              · exact w.2
              · exact absurd w.1 z3
          · rw [y2]
            refine pc_sv (c_fit5 x7 n8) ?_; intro u63 q63
            refine pc_if (fun z3 => ?_) (fun z3 => absurd q63 z3)
            exact pc_imp (CG 0 (.inl rfl)) (fun uF HU => RR 0 (.inl rfl) (fun _ => rfl) (fun _ => .inr ⟨rfl, fun f => y1 f.1⟩) HU)
end

/- E of both sides: ?: -/
section
variable {nn : Nat} {X : BCx} {dp i l a b e s k x : Int} {p q t uu : Nat} {h g u r w m : ms_M} {v : Int × ms_M}
theorem j_given3 {x : Option ms_M} (TQ : TBq (bK X) (bP X) (bc X) r) (T8 : ∀ cc y : Nat, 163 ≤ cc ∧ cc ≤ 173 → r cc y = bT X cc y) (n8 : bn X ≤ 8) (H : ∀ d2 : Nat, Pc x (fun u => Pc ((qg_X13_condition nn d2).2.2.1 e r) (fun v => (SFj u v.2 ∨ VDj X i a b p q e h r u v) ∨ EOz nn X i a b p q e h r u v))) (na : bK X q = 46 → ¬ h 49 18 = (p : Int)) : ∀ d2 : Nat, Pc x (fun u => Pc ((qg_X13_condition nn d2).2.1 e r) (fun v => SFj u v.2 ∨ (EOz nn X i a b p q e h r u v ∧ ¬ u 49 12 = 303 ∧ (¬ bK X q = 51 → FM01 nn X i a b p q e h u v.2)))) := by
  intro d2
  cases d2 with
  | zero => exact fun _ _ => pc_none
  | succ d2 =>
    refine pc_imp (H d2) (fun u Hu => ?_)
    refine r_given TQ T8 (pc_imp Hu (fun v1 hv y hy => ?_))
    rcases hv with (S | S) | K
    · exact .inl (sf_k S fs_r (hy.1 (sf_r S)))
    · obtain ⟨⟨s1, s2, s3, s4⟩, ⟨s5, s6, s7⟩, s8⟩ := S
      obtain ⟨y1, y2⟩ := hy.2.1 s6 s5
      exact .inl ⟨by omega, by omega, by rw [y2 ⟨s3, s4.1⟩]; exact s2.symm⟩
    · have K0 := K
      obtain ⟨K, -, KF⟩ := K
      have c18 : u 49 18 = h 49 18 := K.2.2.1.1 49 18 (by omega) (by omega) (by omega) (by omega) (by omega) (by omega) (by omega) (by omega)
      have n303 : ¬ u 49 12 = 303 := fun z => by
        rcases K.2.2.2.2 with F | F | F | F
        · rcases F.1 with ⟨-, -, -, y⟩ | ⟨-, -, y⟩
          · exact na (y z).1 (c18.symm.trans (y z).2)
          · exact y z
        · exact F.2.1.2.2.2.2 z
        · exact F.1.2.2.2 z
        · exact F.1.2.2.2 z
      have n3 : ¬ v1.1 = 3 := fun z => n303 ((ty_3 (X := X) n8 K.2.1.2.1).mp (by rw [← K.2.1.1]; exact z))
      rw [hy.2.2 K.1.2.2.2.2 n3]
      refine .inr ⟨K0, n303, fun nq => ?_⟩
      have := KF nq
      rcases K.2.2.2.2 with F | F | F | F
      · exact F
      · exact absurd F.1.1 (by omega)
      · exact absurd F.1.1 (by omega)
      · exact absurd F.1.1 (by omega)
theorem r_condA {Q : ms_M → Prop} (Y : CXs X) (TQ : TBq (bK X) (bP X) (bc X) r) (T8 : ∀ cc y : Nat, 163 ≤ cc ∧ cc ≤ 173 → r cc y = bT X cc y) (lab : bT X 169 x.toNat = (p : Int)) (pc : p < bc X) (H : ∀ d : Nat, Pc ((qg_X13_condition nn d).2.2.1 x r) (fun v1 => ∀ w, CDN X x p v1 w → Q w)) (d : Nat) : Pc ((qg_X13_condition nn d).1 x r) Q := by
  cases d with
  | zero => exact fun r e => nomatch e
  | succ d =>
    cases d with
    | zero => exact fun r e => nomatch e
    | succ d => exact r_cond Y TQ T8 lab pc (H d)
/-- the rest of the rule of ?: behind its condition -/
def rst_R (nn : Nat) (rc : tq_X13_condition) (e : Int) (w : ms_M) : Option (Int × ms_M) := rd_A 9000 171 e w fun v89 => mx_sv (rc.2.1 v89 w) fun u91 => rd_A 9000 172 e u91.2 fun v93 => mx_sv (rc.2.1 v93 u91.2) fun u95 => mx_sv (qf_X13_goTogether nn u91.1 u95.1 u95.2) fun u97 => if ¬ u97 = 0 then (qj_X13_rule_657 nn rc u91.1 u95.1 u95.2) else (rd_A 9000 168 e u95.2 fun v99 => mx_sv (qf_X13_wrong nn 6 v99 u95.2) fun u101 => qj_X13_rule_657 nn rc u91.1 u95.1 u101)
theorem rst_f2 {rc : tq_X13_condition} {c1 c2 : Int} (S : ¬ w 160 9 = 0) (G : FSrG_X13_condition rc) : Pc (mx_sv (qf_X13_goTogether nn c1 c2 w) fun u97 => if ¬ u97 = 0 then (qj_X13_rule_657 nn rc c1 c2 w) else (rd_A 9000 168 e w fun v99 => mx_sv (qf_X13_wrong nn 6 v99 w) fun u101 => qj_X13_rule_657 nn rc c1 c2 u101)) (fun y => FSr w y.2) := by
  refine pc_sv pc_any ?_; intro u97 _
  refine pc_if (fun _ => ft_qj_X13_rule_657 G S) (fun _ => ?_)
  refine pc_rA ?_; intro _ _ v99 _
  refine pc_sv (ft_qf_X13_wrong S) ?_; intro u101 F
  exact pc_imp (ft_qj_X13_rule_657 G (by rw [F.1]; exact S)) (fun y F2 => ft_t F F2)
theorem rst_f1 {rc : tq_X13_condition} {c1 : Int} (S : ¬ w 160 9 = 0) (G : FSrG_X13_condition rc) : Pc (rd_A 9000 172 e w fun v93 => mx_sv (rc.2.1 v93 w) fun u95 => mx_sv (qf_X13_goTogether nn c1 u95.1 u95.2) fun u97 => if ¬ u97 = 0 then (qj_X13_rule_657 nn rc c1 u95.1 u95.2) else (rd_A 9000 168 e u95.2 fun v99 => mx_sv (qf_X13_wrong nn 6 v99 u95.2) fun u101 => qj_X13_rule_657 nn rc c1 u95.1 u101)) (fun y => FSr w y.2) := by
  refine pc_rA ?_; intro _ _ v93 _
  refine pc_sv (G.2.1 S) ?_; intro u95 F
  exact pc_imp (rst_f2 (w := u95.2) (by rw [F.1]; exact S) G) (fun y F2 => ft_t F F2)
theorem rst_f {rc : tq_X13_condition} (S : ¬ w 160 9 = 0) (G : FSrG_X13_condition rc) : Pc (rst_R nn rc e w) (fun y => FSr w y.2) := by
  unfold rst_R
  refine pc_rA ?_; intro _ _ v89 _
  refine pc_sv (G.2.1 S) ?_; intro u91 F
  exact pc_imp (rst_f1 (w := u91.2) (by rw [F.1]; exact S) G) (fun y F2 => ft_t F F2)
/-- the class's readChoice behind a FAULT, from three places on -/
theorem chf_3 {rc : tq_X10_readValue} {j c l3 : Int} (S : ¬ g 2 11 = 0) (G : FScG_X10_readValue rc) : Pc (mx_sv (qf_X10_isPair nn c (g 49 12) g) fun u44 => mx_sv (qf_X10_wantType nn u44 l3 g) fun u46 => mx_sv (qf_X4_fits nn 12 c (u46 49 12) u46) fun u50 => if u50 = 0 then (qj_X10_readChoice_158 nn rc j c u46) else (qj_X10_readChoice_158 nn rc j (u46 49 12) u46)) (fun u => FSc g u) := by
  refine pc_sv pc_any ?_; intro u44 _
  refine pc_sv (fs_qf_X10_wantType S) ?_; intro u46 F
  have S1 : ¬ u46 2 11 = 0 := by rw [F.1]; exact S
  refine pc_sv pc_any ?_; intro u50 _
  exact pc_if (fun _ => pc_imp (fs_qj_X10_readChoice_158 G S1) (fun u F2 => fs_t F F2)) (fun _ => pc_imp (fs_qj_X10_readChoice_158 G S1) (fun u F2 => fs_t F F2))
theorem chf_2 {rc : tq_X10_readValue} {j1 l3 l2 : Int} (S : ¬ g 2 11 = 0) (G : FScG_X10_readValue rc) : Pc (mx_sv (qf_X1_jump nn 167 0 g) fun u28 => mx_sv (qf_X1_pop nn 1 u28.2) fun u31 => mx_sv (qf_X1_aimHere nn j1 u31) fun u34 => xl (oq_add (u34 2 10) 1) fun v37 => xl (up_M u34 2 10 v37) fun h38 => xl (oq_add l2 1) fun v39 => mx_sv (rc.1 v39 h38) fun u41 => mx_sv (qf_X10_isPair nn (g 49 12) (u41 49 12) u41) fun u44 => mx_sv (qf_X10_wantType nn u44 l3 u41) fun u46 => mx_sv (qf_X4_fits nn 12 (g 49 12) (u46 49 12) u46) fun u50 => if u50 = 0 then (qj_X10_readChoice_158 nn rc u28.1 (g 49 12) u46) else (qj_X10_readChoice_158 nn rc u28.1 (u46 49 12) u46)) (fun u => FSc g u) := by
  refine pc_sv (fs_qf_X1_jump S) ?_; intro u28 F1
  have S1 : ¬ u28.2 2 11 = 0 := by rw [F1.1]; exact S
  refine pc_sv (fs_qf_X1_pop S1) ?_; intro u31 F2
  have S2 : ¬ u31 2 11 = 0 := by rw [F2.1]; exact S1
  refine pc_sv (fs_qf_X1_aimHere S2) ?_; intro u34 F3
  have S3 : ¬ u34 2 11 = 0 := by rw [F3.1]; exact S2
  refine pc_xl ?_; intro v37 _
  refine pc_xl ?_; intro h38 e38
  have F4 : FSc u34 h38 := ⟨by rw [e38, up_n (by omega)], by rw [e38, up_n (by omega)]⟩
  refine pc_xl ?_; intro v39 _
  refine pc_sv (G.1 (h := h38) (by rw [F4.1]; exact S3)) ?_; intro u41 F5
  exact pc_imp (chf_3 (g := u41) (by rw [F5.1, F4.1]; exact S3) G) (fun u F6 => fs_t F1 (fs_t F2 (fs_t F3 (fs_t F4 (fs_t F5 F6)))))
theorem chf_1 {rc : tq_X10_readValue} {l3 l2 : Int} (S : ¬ g 2 11 = 0) (G : FScG_X10_readValue rc) : Pc (mx_sv (qf_X1_jump nn 153 1 g) fun u17 => xl (oq_add (u17.2 2 10) 1) fun v20 => xl (up_M u17.2 2 10 v20) fun h21 => xl (oq_add l2 1) fun v22 => mx_sv (rc.1 v22 h21) fun u24 => mx_sv (qf_X1_jump nn 167 0 u24) fun u28 => mx_sv (qf_X1_pop nn 1 u28.2) fun u31 => mx_sv (qf_X1_aimHere nn u17.1 u31) fun u34 => xl (oq_add (u34 2 10) 1) fun v37 => xl (up_M u34 2 10 v37) fun h38 => xl (oq_add l2 1) fun v39 => mx_sv (rc.1 v39 h38) fun u41 => mx_sv (qf_X10_isPair nn (u24 49 12) (u41 49 12) u41) fun u44 => mx_sv (qf_X10_wantType nn u44 l3 u41) fun u46 => mx_sv (qf_X4_fits nn 12 (u24 49 12) (u46 49 12) u46) fun u50 => if u50 = 0 then (qj_X10_readChoice_158 nn rc u28.1 (u24 49 12) u46) else (qj_X10_readChoice_158 nn rc u28.1 (u46 49 12) u46)) (fun u => FSc g u) := by
  refine pc_sv (fs_qf_X1_jump S) ?_; intro u17 F1
  have S1 : ¬ u17.2 2 11 = 0 := by rw [F1.1]; exact S
  refine pc_xl ?_; intro v20 _
  refine pc_xl ?_; intro h21 e21
  have F2 : FSc u17.2 h21 := ⟨by rw [e21, up_n (by omega)], by rw [e21, up_n (by omega)]⟩
  refine pc_xl ?_; intro v22 _
  refine pc_sv (G.1 (h := h21) (by rw [F2.1]; exact S1)) ?_; intro u24 F3
  exact pc_imp (chf_2 (g := u24) (by rw [F3.1, F2.1]; exact S1) G) (fun u F4 => fs_t F1 (fs_t F2 (fs_t F3 F4)))
end

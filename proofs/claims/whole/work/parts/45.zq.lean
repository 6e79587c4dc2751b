/- E of both sides: signs ahead of a U -/
section
variable {nn : Nat} {X : BCx} {dp i a b e : Int} {p q : Nat} {h g u r w m : ms_M} {v : Int × ms_M}
theorem j_given2 {x : Option ms_M} (TQ : TBq (bK X) (bP X) (bc X) r) (T8 : ∀ cc y : Nat, 163 ≤ cc ∧ cc ≤ 173 → r cc y = bT X cc y) (n8 : bn X ≤ 8) (H : ∀ d2 : Nat, Pc x (fun u => Pc ((qg_X13_condition nn d2).2.2.1 e r) (fun v => (SFj u v.2 ∨ VDj X i a b p q e h r u v) ∨ EOk nn X i a b p q e h r u v))) (na : bK X q = 46 → ¬ h 49 18 = (p : Int)) : ∀ d2 : Nat, Pc x (fun u => Pc ((qg_X13_condition nn d2).2.1 e r) (fun v => SFj u v.2 ∨ (EOk nn X i a b p q e h r u v ∧ ¬ u 49 12 = 303 ∧ (¬ bK X q = 51 → FM01 nn X i a b p q e h u v.2)))) := by
  intro d2
  cases d2 with
  | zero => exact fun _ _ => pc_none
  | succ d2 =>
    refine pc_imp (H d2) (fun u Hu => ?_)
    show Pc (qo_X13_given nn (qg_X13_condition nn d2) e r) _
    unfold qo_X13_given
    refine pc_sv Hu ?_; intro u2 hv
    rcases hv with (S | S) | K
    · refine pc_if (fun _ => pc_ret (.inl S)) (fun _ => ?_)
      refine pc_rA ?_; intro _ _ v4 e4
      refine pc_sv (ft_qf_X13_wrong (sf_r S)) ?_; intro u6 F
      exact pc_ret (.inl (sf_k S fs_r F))
    · obtain ⟨⟨s1, s2, s3, s4⟩, ⟨s5, s6, s7⟩, s8⟩ := S
      refine pc_if (fun z => absurd s5 z) (fun _ => ?_)
      refine pc_rA ?_; intro _ _ v4 e4
      rw [s8.1 168 _ (by omega) (by omega) (by omega), T8 168 _ (by omega)] at e4
      have TQ2 : TBq (bK X) (bP X) (bc X) u2.2 := tbq_f TQ (fun cc y z => s8.1 cc y (by omega) (by omega) (by omega))
      refine pc_sv (r_wrong TQ2 (p := (bT X 168 e.toNat).toNat) (by omega) s6 (k := 6) (x := v4) (by omega)) ?_; intro u6 ⟨w1, w2⟩
      exact pc_ret (.inl ⟨by omega, by show u6 160 9 = _; omega, by show u6 160 10 = _; omega⟩)
    · have K0 := K
      obtain ⟨K, K15, KF⟩ := K
      have A18 : u 49 18 = h 49 18 := K.2.2.1.1 49 18 (by omega) (by omega) (by omega) (by omega) (by omega) (by omega) (by omega) (by omega)
      have n303 : ¬ u 49 12 = 303 := fun z => by
        rcases K.2.2.2.2 with F | F | F | F
        · rcases F.1 with ⟨-, -, -, y⟩ | ⟨-, -, y⟩
          · obtain ⟨y1, y2⟩ := y z
            exact na y1 (by rw [← A18]; exact y2)
          · exact y z
        · exact F.2.1.2.2.2.2 z
        · exact F.1.2.2.2 z
        · exact F.1.2.2.2 z
      have n3 : ¬ u2.1 = 3 := by
        rw [K.2.1.1]
        exact fun z => n303 ((ty_3 (X := X) n8 K.2.1.2.1).mp z)
      refine pc_if (fun _ => pc_ret (.inr ⟨K0, n303, fun n51 => ?_⟩)) (fun z => absurd n3 z)
      have := KF n51
      rcases K.2.2.2.2 with F | F | F | F
      · exact F
      · exact absurd F.1.1 (by omega)
      · exact absurd F.1.1 (by omega)
      · exact absurd F.1.1 (by omega)
/-- push and pop leave the stack as it was -/
theorem sk_touch {nC : Nat} {t : Int} {g1 g2 : ms_M} (S : SKJ nC h m) (A : CPu t h g1) (E : ∀ cc x : Nat, (cc = 34 ∧ (x = 3 ∨ x = 4)) ∨ cc = 36 → g2 cc x = g1 cc x) (B : CPo 1 g2 g) : g 34 3 = h 34 3 ∧ (g 34 4 = if h 34 4 < h 34 3 + 1 then h 34 3 + 1 else h 34 4) ∧ ∀ i : Nat, (i : Int) < h 34 3 → g 36 i = h 36 i := by
  have s3 := S.1.2.2.1
  refine ⟨?_, ?_, fun i hi => ?_⟩
  · rw [B.1, E 34 3 (by omega), A.1]; split <;> omega
  · rw [B.2 34 4 (by omega), E 34 4 (by omega), A.2.1]
  · rw [B.2 36 i (by omega), E 36 i (by omega), A.2.2.2 36 i (by omega) (by omega)]
/-- the end of closeUnary -/
theorem eok_un {t1 : Int} {u8 u10 : ms_M} {v1 : Int × ms_M} {ix : Int} (Y : CXs X) (Q : EPr X dp p h r) (ne : 0 ≤ a ∧ a ≤ e ∧ e < b) (nk : 33 ≤ bT X 167 e.toNat ∧ bT X 167 e.toNat ≤ 36) (E5 : ∀ cc x : Nat, ¬ (cc = 2 ∧ x = 10) → g cc x = h cc x) (pq : p + 1 < q) {p2 : Nat} (hp2 : p < p2) (K : POk nn X ix (e + 1) b p2 q (bT X 170 e.toNat) g r u8 v1) (U : ∀ cc x : Nat, ¬ (cc = 34 ∧ (x = 1 ∨ x = 3 ∨ x = 4 ∨ x = 14 ∨ x = 15)) → ¬ (cc = 35 ∨ cc = 36) → ¬ (40 ≤ cc ∧ cc ≤ 42) → ¬ (cc = 45 ∧ (x = 4 ∨ x = 5)) → ¬ (cc = 46 ∨ cc = 47) → ¬ (cc = 49 ∧ (x = 11 ∨ x = 12)) → u10 cc x = u8 cc x) (Fu : FRc u10) (l1 : u8 34 1 ≤ u10 34 1 ∧ u10 34 1 ≤ u8 34 1 + 10) (l3 : 0 ≤ u10 34 3 ∧ u10 34 3 ≤ u8 34 3 + 1) (f11 : u10 49 11 = 0) (f12 : u10 49 12 = t1) (vt : VTn (bn X) t1 ∧ ¬ t1 = 303) {vv z : ms_M} (R : RFe a b r vv) (v9 : vv 160 9 = 0) (ez : z = up_M vv 174 e.toNat (ty_T t1)) (MC : ¬ bK X q = 51 → (u10 34 3 = h 34 3 + 1 ∧ (u10 49 12 = 303 ∨ 20 < u10 34 3 ∨ u10 36 (u10 34 3 - 1).toNat = u10 49 12)) ∧ MKC nn X e a b p q h u10 z) : EOk nn X 0 a b p q e h r (up_M u10 49 15 (p : Int)) (ty_T t1, z) := by
  obtain ⟨⟨x1, x2, x3, x4, x5⟩, -, ⟨x9, x10, x11⟩, ⟨x12, x13, x14⟩, -⟩ := K
  rw [E5 34 1 (by omega)] at x13
  rw [E5 34 3 (by omega)] at x14
  have KP : POk nn X 0 a b p q e h r u10 (ty_T t1, z) := by
    refine ⟨⟨by rw [U 2 10 (by omega) (by omega) (by omega) (by omega) (by omega) (by omega)]; exact x1, x2, by omega, by rw [U 2 11 (by omega) (by omega) (by omega) (by omega) (by omega) (by omega)]; exact x4, ?_⟩, ⟨?_, ?_, ?_⟩, ⟨?_, ?_, ?_⟩, ⟨Fu, by omega, by omega⟩, .inl ⟨.inr ⟨f11, by omega, by rw [f12]; exact vt.2⟩, fun _ => .inl ⟨by omega, by omega, fun y => absurd y (by omega)⟩, fun n51 => ⟨⟨by rw [f12, if_neg vt.2]; exact (MC n51).1.1, (MC n51).1.2⟩, (MC n51).2⟩⟩⟩
    · show z 160 9 = 0
      rw [ez, up_n (by omega)]; exact v9
    · show ty_T t1 = ty_T (u10 49 12)
      rw [f12]
    · rw [f12]; exact vt.1
    · show z 174 e.toNat = ty_T t1
      rw [ez, up_s]
    · exact cfe_t (cfe_w x9 E5 (fun _ _ _ _ => rfl)) (fun cc x a1 a2 a3 a4 a5 a6 a7 a8 => U cc x (by omega) (by omega) (by omega) (by omega) (by omega) (by omega))
    · show RFe a b r z
      rw [ez]
      exact ⟨fun cc x z1 z2 z3 => by rw [up_n (by omega)]; exact R.1 cc x z1 z2 z3, fun cc x z1 z2 z3 => by rw [up_n (by omega)]; exact R.2 cc x z1 z2 z3⟩
    · refine ⟨by rw [U 49 10 (by omega) (by omega) (by omega) (by omega) (by omega) (by omega), x11.1]; exact E5 49 10 (by omega), fun cc x z1 z2 z3 => ?_⟩
      rw [U cc x (by omega) (by omega) (by omega) (by omega) (by omega) (by omega), x11.2 cc x z1 z2 (by rw [E5 49 10 (by omega)]; exact z3)]
      exact E5 cc x (by omega)
  exact ⟨pok_c KP (fun cc x z => up_n z), up_s, fun _ => .inl (by rw [up_n (by omega)]; exact f11)⟩
end

/- compile, whole: from heads to bodies -/
section
variable {nn : Nat} {K P V : Nat → Int} {C : Nat → Nat} {c n N mt : Nat} {q : Int} {h g u r v w m : ms_M} {T : Nat → Int}
/-- heads do not look at the kinds' names (rows 20, 26) -/
theorem hds_n (H : HDS K P V C c n N mt q h r) (e1 : ∀ cc x : Nat, (3 ≤ cc ∧ cc ≤ 5) ∨ (13 ≤ cc ∧ cc ≤ 29 ∧ ¬ cc = 20 ∧ ¬ cc = 26) ∨ (cc = 2 ∧ x = 3) ∨ (cc = 11 ∧ x = 2) → g cc x = h cc x) : HDS K P V C c n N mt q g r := by
  have H' : HDS K P V C c n N mt q (fun cc y => if cc = 20 ∨ cc = 26 then h cc y else g cc y) r := hds_k H (fun cc x z => by
    show (if cc = 20 ∨ cc = 26 then h cc x else g cc x) = h cc x
    by_cases y : cc = 20 ∨ cc = 26
    · rw [if_pos y]
    · rw [if_neg y]; exact e1 cc x (by omega)) (fun _ _ _ => rfl)
  exact H'
/-- a break takes six bytes -/
theorem g_brw {X : BCx} (H : TKFn T mt u v) (eK : bK X = kn_T u) (eP : bP X = u 4) (ec : bc X = (u 2 3).toNat) : BRw X := by
  obtain ⟨-, -, -, ⟨GP0, GP1, GP2⟩⟩ := tkf_b H
  obtain ⟨-, -, -, ⟨⟨c1, c2⟩, -⟩, -, -, -, po⟩ := H
  have mo : ∀ i : Nat, i < (u 2 3).toNat → 0 ≤ u 4 i := fun i hi => by
    by_cases z : (i : Int) + 1 < u 2 3
    · exact (po.1 i z).1
    · exact (po.2 i (by omega)).1
  unfold BRw
  rw [eK, eP, ec]
  refine ⟨fun i hi => by have := (po.1 i (by omega)).2.1; omega, fun i hi ki => ?_, fun i hi => ⟨mo i hi, GP2 i hi⟩⟩
  have k3 : u 3 i = 11 := by unfold kn_T at ki; rw [if_pos (by omega)] at ki; exact ki
  have a1 := (po.1 i (by omega)).2.2.2 k3
  have a2 := (po.1 (i + 1) (by omega)).2.1
  rw [show i + 2 = i + 1 + 1 from rfl]
  omega
/-- types of members are valid -/
theorem g_vtn {a b : ms_M} {N0 p0 q0 a0 b0 : Int} {pp qq aa bb : Nat → Int} (S : CKd K V C n N) (n8 : n ≤ 8) (M : MTB V C n mt q a b) (ME : MEM K b N0 0 mt p0 q0 a0 b0 pp qq aa bb) (hp : 0 ≤ p0) : (∀ j k : Nat, j < mt → k < 8 → MSm b k 0 j → VTn n (a 19 (12 * k + mcn_T b k 0 j))) ∧ ∀ j k : Nat, j < mt → k < 8 → MSm b k 1 j → VTn n (a 24 (12 * k + mcn_T b k 1 j)) ∧ ∀ i : Nat, (i : Int) < b 189 j → VTn n (a 29 (6 * (12 * k + mcn_T b k 1 j) + i)) := by
  refine ⟨fun j k hj hk ms => ?_, fun j k hj hk ms => ?_⟩
  · obtain ⟨m1, m2, m3, m4, -⟩ := ME j (Nat.zero_le _) hj
    obtain ⟨t1, -, -⟩ := rmb_t (by omega) m1 m4.1
    exact (tys_n S n8 t1 (M.2.1 j k hj hk ms).2.2.2).1
  · obtain ⟨m1, m2, m3, m4, -⟩ := ME j (Nat.zero_le _) hj
    obtain ⟨t1, -, t3⟩ := rmb_t (by omega) m1 m4.1
    obtain ⟨x1, x2, x3, x4, x5, x6⟩ := M.2.2.1 j k hj hk ms
    refine ⟨(tys_n S n8 t1 x6).1, fun i hi => ?_⟩
    exact (tys_n S n8 (t3 i hi) (x4 i hi).2.2.2).1
end

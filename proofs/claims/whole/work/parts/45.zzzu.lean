/- while: the breaks of the class -/
section
variable {nn : Nat} {X : BCx} {dp i a b e s bb lb lh d : Int} {p q t : Nat} {h g u r w m v z : ms_M}
/-- the places of the breaks as a list -/
theorem brl_ex {c0 c1 : Int} (c : 0 ≤ c0 ∧ c0 ≤ c1) : ∃ js : List Int, BRl h c0 c1 js ∧ ∀ j ∈ js, ∃ x : Nat, c0 ≤ (x : Int) ∧ (x : Int) < c1 ∧ j = h 44 x := by
  refine ⟨(List.range (c1 - c0).toNat).map (fun i => h 44 (c0.toNat + i)), ⟨by rw [List.length_map, List.length_range]; omega, fun i hi => ?_⟩, fun j hj => ?_⟩
  · rw [List.length_map, List.length_range] at hi
    simp [hi]
  · obtain ⟨i, hi, ej⟩ := List.mem_map.mp hj
    have hi := List.mem_range.mp hi
    exact ⟨c0.toNat + i, by omega, by omega, ej.symm⟩
/-- several aims: what stays -/
theorem chs_o {n0 : Int} (n00 : 0 ≤ n0) : ∀ (js : List Int) (g z : ms_M), FRc g → (∀ j ∈ js, n0 ≤ j) → CHs js g z → FRc z ∧ ∀ cc x : Nat, ¬ (cc = 35 ∧ n0 ≤ (x : Int)) → ¬ (40 ≤ cc ∧ cc ≤ 42) → ¬ (cc = 34 ∧ (x = 14 ∨ x = 15)) → z cc x = g cc x := by
  intro js
  induction js with
  | nil =>
    intro g z Fc _ H
    have H : z = g := H
    rw [H]
    exact ⟨Fc, fun _ _ _ _ _ => rfl⟩
  | cons j js ih =>
    intro g z Fc hj H
    obtain ⟨g1, A, H2⟩ := H
    obtain ⟨Fz, E⟩ := ih g1 z (cah_fr Fc A).1 (fun j2 h2 => hj j2 (List.mem_cons_of_mem _ h2)) H2
    obtain ⟨E1, -⟩ := cah_o Fc (.inl (hj j (List.mem_cons_self ..))) n00 A
    exact ⟨Fz, fun cc x q1 q2 q3 => (E cc x q1 q2 q3).trans (E1 cc x q1 q2 q3)⟩
theorem c_breaks {rc : tq_X0_readBlock} {l2 l3 l4 l8 : Int} : ∀ (js : List Int) (k : Nat) (l9 : Int) (h : ms_M), FRc h → (0 ≤ h 34 1 ∧ h 34 1 ≤ 1000000) → 0 ≤ h 34 7 → 0 ≤ h 34 3 → 0 ≤ l9 → h 33 12 ≤ 500 → BRl h l9 (h 33 12) js → (∀ j ∈ js, 0 ≤ j ∧ j ≤ 1000000) → Pc (qw_X0_readWhile_148 nn rc k l2 l3 l4 l8 l9 h) (fun x => ∃ u, CHs js h u ∧ x = (l8, up_M (up_M (up_M u 33 12 l4) 33 9 l2) 33 10 l3)) := by
  intro js
  induction js with
  | nil =>
    intro k l9 h Fc h1 h7 h3 h9 h5 B _
    cases k with
    | zero => exact fun _ z => nomatch z
    | succ k =>
      have l0 : ((0 : Nat) : Int) = h 33 12 - l9 := B.1
      unfold qw_X0_readWhile_148
      refine pc_if (fun _ => ?_) (fun z => absurd (show h 33 12 ≤ l9 by omega) z)
      unfold qj_X0_readWhile_187
      refine pc_xl ?_; intro a1 e1
      refine pc_xl ?_; intro a2 e2
      refine pc_xl ?_; intro a3 e3
      exact pc_ck (fun _ => pc_ret ⟨h, rfl, by rw [e3, e2, e1]⟩)
  | cons j js ih =>
    intro k l9 h Fc h1 h7 h3 h9 h5 B hj
    cases k with
    | zero => exact fun _ z => nomatch z
    | succ k =>
      have l0 : ((js.length + 1 : Nat) : Int) = h 33 12 - l9 := B.1
      have b0 : h 44 (l9.toNat + 0) = j := B.2 0 (by show 0 < js.length + 1; omega)
      have hj0 := hj j (List.mem_cons_self ..)
      unfold qw_X0_readWhile_148
      refine pc_if (fun z => absurd z (by omega)) (fun _ => ?_)
      refine pc_if (fun z => absurd z (by omega)) (fun _ => ?_)
      refine pc_rA ?_; intro _ _ v10 e10
      rw [show v10 = j from e10.trans b0]
      refine pc_sv (c_aimHere (by omega) h1 h7 h3 Fc) ?_; intro g A
      obtain ⟨E, -⟩ := cah_o (n0 := 0) Fc (.inl hj0.1) (by omega) A
      have e12 := E 33 12 (by omega) (by omega) (by omega)
      have e1 := E 34 1 (by omega) (by omega) (by omega)
      refine pc_add (by omega) ?_; intro v13 e13
      refine pc_imp (ih k v13 g (cah_fr Fc A).1 (by omega) (by rw [E 34 7 (by omega) (by omega) (by omega)]; exact h7) (by rw [E 34 3 (by omega) (by omega) (by omega)]; exact h3) (by omega) (by omega) ⟨by omega, fun i hi => ?_⟩ (fun j2 h2 => hj j2 (List.mem_cons_of_mem _ h2))) (fun x y => ?_)
      · rw [E 44 _ (by omega) (by omega) (by omega)]
        have y := B.2 (i + 1) (by show i + 1 < js.length + 1; omega)
        rw [show v13.toNat + i = l9.toNat + (i + 1) by omega, y]
        rfl
      · obtain ⟨u, C, ex⟩ := y
        exact ⟨u, ⟨g, A, C⟩, ex⟩
/-- is it while (true) -/
theorem c_iswt (Y : CXs X) (TB : TBc (bK X) (bP X) (bc X) h) (q1 : h 2 10 = (p : Int)) (pc : p < bc X) (k1 : bK X (p + 1) = 40) : Pc (qf_X9_isWhileTrue nn h) (fun u => (u = 1 ∧ bK X (p + 2) = 28 ∧ bK X (p + 3) = 41) ∨ (u = 0 ∧ ¬ (bK X (p + 2) = 28 ∧ bK X (p + 3) = 41))) := by
  have c3 := Y.1.2.1
  unfold qf_X9_isWhileTrue
  refine pc_add (by omega) ?_; intro v2 e2
  refine pc_sv (c_kindAt Y.1 TB (t := p + 1) (by omega)) ?_; intro u4 q4
  refine pc_if (fun z => absurd (show u4 = 40 by omega) z) (fun _ => ?_)
  refine pc_add (by omega) ?_; intro v6 e6
  refine pc_sv (c_kindAt Y.1 TB (t := p + 2) (by omega)) ?_; intro u8 q8
  refine pc_if (fun z => pc_ret (.inr ⟨rfl, by omega⟩)) (fun z => ?_)
  refine pc_add (by omega) ?_; intro v10 e10
  refine pc_sv (c_kindAt Y.1 TB (t := p + 3) (by omega)) ?_; intro u12 q12
  exact pc_if (fun z => pc_ret (.inr ⟨rfl, by omega⟩)) (fun z => pc_ret (.inl ⟨rfl, by omega⟩))
end

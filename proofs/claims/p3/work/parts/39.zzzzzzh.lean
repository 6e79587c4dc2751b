/- THE CALLS THAT ONLY READ ARE SAFE ON BOTH SIDES -/
section
variable {nn : Nat} {h : ms_M} {P L : Int}
theorem ok_ex {α : Type} {x : Option α} {Q : α → Prop} (k : Ok_ x Q) : ∃ a, x = some a := by
  obtain ⟨a, e, -⟩ := k; exact ⟨a, e⟩
theorem bs_fault (hn : 1000000 ≤ nn) {a : Int} (r : in_R a) (B : BVa nn P L h) : (∃ x, qf_X12_fault nn a h = some x) ∧ ∃ y, qf_X13_fault nn a h = some y :=
  ⟨ok_ex (vf_X12_fault hn r.1 r.2 B.1.1.1), ok_ex (vf_X13_fault hn r.1 r.2 B.1.1.1)⟩
theorem bs_image (hn : 1000000 ≤ nn) {a b : Int} (r : in_R a) (r2 : in_R b) (B : BVa nn P L h) : (∃ x, qf_X12_image nn a b h = some x) ∧ ∃ y, qf_X13_image nn a b h = some y :=
  ⟨ok_ex (vf_X12_image B.1.1.1), ok_ex (vf_X13_image hn r.1 r.2 r2.1 r2.2 B.1.1.1)⟩
theorem bs_where (hn : 1000000 ≤ nn) {a : Int} (r : in_R a) (B : BVa nn P L h) : (∃ x, qf_X12_where nn a h = some x) ∧ ∃ y, qf_X13_where nn a h = some y :=
  ⟨ok_ex (vf_X12_where hn r.1 r.2 B.1.1.1), ok_ex (vf_X13_where hn r.1 r.2 B.1.1.1)⟩
theorem bs_out (hn : 1000000 ≤ nn) {a : Int} (r : in_R a) (B : BVa nn P L h) : (∃ x, qf_X12_out nn a h = some x) ∧ ∃ y, qf_X13_out nn a h = some y :=
  ⟨ok_ex (vf_X12_out hn r.1 r.2 B.1.1.1), ok_ex (vf_X13_out hn r.1 r.2 B.1.1.1)⟩
theorem bs_type (hn : 1000000 ≤ nn) {a b : Int} (r : in_R a) (r2 : in_R b) (B : BVa nn P L h) : (∃ x, qf_X12_type nn a b h = some x) ∧ ∃ y, qf_X13_type_ nn a b h = some y :=
  ⟨ok_ex (vf_X12_type hn r.1 r.2 r2.1 r2.2 B.1.1.1), ok_ex (rv_type hn B.1.1.1 B.2.2.1 r)⟩
theorem rgo_d (G : RGO nn h) : 1 ≤ h 160 149 ∧ h 160 149 ≤ 60 := by
  obtain ⟨ω, g, X, hd, -⟩ := G; exact hd
theorem ok_iT {α : Type} {c : Prop} {d : Decidable c} {x y : Option α} (h1 : c → ∃ a, x = some a) (h2 : ¬ c → ∃ a, y = some a) : ∃ a, (if c then x else y) = some a := by
  by_cases q : c
  · rw [if_pos q]; exact h1 q
  · rw [if_neg q]; exact h2 q
theorem ok_rdx {n : Int} {c : Nat} {j : Int} (q : 0 ≤ j ∧ j < n) : ∃ a, (rd_A n c j h fun v => some v) = some a := by
  unfold rd_A
  rw [if_pos q]; exact ⟨_, rfl⟩
theorem bs_look (hn : 1000000 ≤ nn) {a : Int} (r : in_R a) (B : BVa nn P L h) : (∃ x, qf_X12_look nn a h = some x) ∧ ∃ y, qf_X13_look nn a h = some y := by
  refine ⟨ok_ex (vf_X12_look hn r.1 r.2 B.1.1.1), ?_⟩
  have dd : ∀ {c : Nat}, ¬ ¬ h 160 138 = 1 → ∃ y, (xl (oq_sub (h 160 149) 1) fun v => rd_A 60 c v h fun w => some w) = some y := by
    intro c q
    have D := rgo_d (B.2.2.2.2.1 (Decidable.not_not.1 q))
    rw [xl_eq, oq_sub_eq (by omega) (by omega) (by omega)]
    exact ok_rdx (by omega)
  unfold qf_X13_look qj_X13_look_93 qj_X13_look_252
  have s : ∀ {v : Int}, ∃ y, (some v : Option Int) = some y := ⟨_, rfl⟩
  refine ok_iT (fun _ => s) (fun _ => ok_iT (fun _ => ok_iT (fun _ => s) (fun _ => ok_iT (fun _ => s) (fun _ => s))) (fun _ => ?_))
  refine ok_iT (fun _ => ok_iT (fun _ => s) (fun _ => s)) (fun _ => ok_iT (fun _ => ok_iT (fun _ => s) (fun _ => s)) (fun _ => ok_iT (fun _ => ok_iT (fun _ => s) (fun _ => s)) (fun _ => ok_iT (fun _ => ok_iT (fun _ => s) (fun _ => s)) (fun _ => ok_iT (fun _ => ok_iT (fun _ => s) (fun _ => s)) (fun _ => ?_)))))
  refine ok_iT (fun _ => ok_iT (fun _ => s) (fun q => dd q)) (fun _ => ok_iT (fun _ => ok_iT (fun _ => s) (fun q => dd q)) (fun _ => ok_iT (fun _ => ok_iT (fun _ => s) (fun q => dd q)) (fun _ => ok_iT (fun _ => ok_iT (fun _ => s) (fun q => dd q)) (fun _ => ?_))))
  exact ok_iT (fun _ => s) (fun _ => ok_iT (fun _ => ok_iT (fun _ => s) (fun _ => s)) (fun _ => ok_iT (fun _ => s) (fun _ => s)))
end

/- S of both sides: what if, while and try stand on -/
def MGy (lb lh : Int) (h r u : ms_M) (Z : List (Int × Int)) : Prop := (∀ e ∈ Z, e.2 = lb ∨ e.2 = lh) ∧ (r 160 54 = 0 → Z = []) ∧ BRl u (h 33 12) (u 33 12) (pl_L lh Z) ∧ (∀ j, (j, lb) ∈ Z → AMd u j (h 33 9)) ∧ ∀ j, (j, lb) ∈ Z → 0 ≤ j ∧ j + 3 ≤ u 34 1
section
variable {nn : Nat} {X : BCx} {dp i a b a1 b1 a2 b2 e s bb lb lh d d1 o en k ix y0 f x j l : Int} {p q t uu : Nat} {h g u r w w1 w2 m z v vF : ms_M} {PB PB2 : Nat → Prop} {WL WL2 : Int → Int → Prop} {L L2 Z1 Z : List (Int × Int)}
theorem mgy_of (G : MGz X PB WL L lb lh h r u w Z) : MGy lb lh h r u Z := ⟨G.2.1, G.2.2.1, G.2.2.2.1, G.2.2.2.2, fun j hj => by
  have jb := (jlb_m G.1.1.2.1.2).1 (j, lb) (List.mem_append_right _ hj)
  have jb : 0 ≤ j ∧ j + 3 ≤ w 160 68 ∧ lb ≤ w 160 88 := jb
  have c1 := G.1.1.1.1
  omega⟩
theorem mgy_k (G : MGy lb lh h r g Z) (C : CFs g u) (e12 : u 33 12 = g 33 12) (c0 : 0 ≤ h 33 12) : MGy lb lh h r u Z := by
  obtain ⟨y1, y2, y3, y4, y5⟩ := G
  have l1 := C.2.2.2.2.1
  refine ⟨y1, y2, ⟨by rw [e12]; exact y3.1, fun i hi => ?_⟩, fun j hj lt => ?_, fun j hj => by have := y5 j hj; omega⟩
  · rw [C.2.2.2.1.1 _ (by have := y3.1; omega)]; exact y3.2 i hi
  · have jb := y5 j hj
    rw [C.2.2.2.2.2 _ (by omega), C.2.2.2.2.2 _ (by omega)]
    exact y4 j hj lt
theorem mg_seq2 (A : MGy lb lh h r g Z1) (A2 : MWf m w1 ∧ m 160 88 ≤ w1 160 88 ∧ w1 160 88 + 4 * (p : Int) ≤ m 160 88 + 4 * (t : Int)) (e54 : v 160 54 = r 160 54) (C : CFs g u) (c9 : g 33 9 = h 33 9 ∧ g 33 10 = h 33 10) (c0 : 0 ≤ h 33 12) (B : MGq X (PBz PB lb Z1) (WLz WL (h 33 9) (h 33 10) lb Z1) (L ++ Z1) lb lh t q g v u w1 w) : MGq X PB WL L lb lh p q h r u m w := by
  obtain ⟨⟨Z2, M2, z1, z2, z3, z4⟩, F, l1, l2⟩ := B
  obtain ⟨y1, y2, y3, y4, y5⟩ := A
  rw [c9.1, c9.2] at M2
  rw [pbz_a, wlz_a, List.append_assoc] at M2
  refine ⟨⟨Z1 ++ Z2, M2, fun e he => (List.mem_append.mp he).elim (y1 e) (z1 e), fun z => by rw [y2 z, z2 (by omega)]; rfl, by rw [pl_app]; exact brl_app y3 z3 c0 C.2.2.2.1.1, fun j hj => ?_⟩, mwf_t A2.1 F, by omega, by omega⟩
  rcases List.mem_append.mp hj with hj | hj
  · have jb := y5 j hj
    intro lt
    rw [C.2.2.2.2.2 _ (by omega), C.2.2.2.2.2 _ (by omega)]
    exact y4 j hj lt
  · rw [← c9.1]; exact z4 j hj
theorem mgi_n2 (I : MGi X PB WL L lb lh a b p q h r vF m) (LP : LPx bb h r) (k7 : CFs h g) (k8 : RFz a1 b1 r v) (M : MKx X (PBz PB lb Z1) (WLz WL (h 33 9) (h 33 10) lb Z1) L2 g w1) (Zy : r 160 54 = 0 → Z1 = []) (F : MWf m w1 ∧ m 160 88 ≤ w1 160 88 ∧ w1 160 88 + 4 * (p : Int) ≤ m 160 88 + 4 * (t : Int)) (A2 : AN a2 b2 vF w1) (uq : uu ≤ q) : MGi X (PBz PB lb Z1) (WLz WL (h 33 9) (h 33 10) lb Z1) L2 lb lh a2 b2 t uu g v vF w1 := by
  obtain ⟨-, ⟨m57, m88, m54, m51⟩, LB, WN, CO⟩ := I
  have v54 := k8.2.2.1.1
  have l7 := k7.2.1.2.2.2
  have LP10 : 0 < r 160 54 → h 33 10 ≤ h 34 7 := fun y => by
    rcases LP.2 with z | z
    · omega
    · exact z.2.2.1.2
  have Z0 : ∀ j, (j, lb) ∈ Z1 → 0 < r 160 54 ∨ r 160 54 < 0 := fun j hj => by
    by_cases y : r 160 54 = 0
    · rw [Zy y] at hj; exact nomatch hj
    · omega
  have LPn : 0 ≤ r 160 54 := by
    rcases LP.2 with z | z <;> omega
  refine ⟨⟨M, A2⟩, ⟨by rw [F.1.1.1]; exact m57, by omega, by rw [F.1.1.2.1, m54, v54], by rw [F.1.1.2.2, m51]; exact (k8.1 160 51 (by omega)).symm⟩, fun y => ?_, fun p' n' y => ?_, fun y k' y2 => ?_⟩
  · rw [v54] at y ⊢
    obtain ⟨b1, b2, b3, b4⟩ := LB y
    have f := F.1.2.2 (r 160 54).toNat (by rw [m54]; omega)
    exact ⟨f.1.trans b1, f.2.trans b2, b3, by omega⟩
  · rcases y with y | ⟨⟨j, y1⟩, y2, y3⟩
    · have := WN p' n' y; omega
    · have := Z0 j y1
      have := LP10 (by omega)
      omega
  · rw [v54] at y
    rw [k7.2.1.1] at y2
    rw [k7.2.1.2.1]
    rcases y2 with y2 | ⟨-, -, y3⟩
    · exact CO y k' y2
    · exact y3
theorem hs_z (y1 : ∀ e ∈ Z, e.2 = lb ∨ e.2 = lh) (n : ¬ f = lb ∧ ¬ f = lh) : ¬ hs_L f Z := fun y => by
  obtain ⟨j, hj⟩ := (hs_mem Z).mp y
  have y : f = lb ∨ f = lh := y1 (j, f) hj
  omega
theorem cah_o {n0 : Int} (Fc : FRc g) (hj : n0 ≤ j ∨ j = -1) (n00 : 0 ≤ n0) (A : CAH j g z) : (∀ cc x : Nat, ¬ (cc = 35 ∧ n0 ≤ (x : Int)) → ¬ (40 ≤ cc ∧ cc ≤ 42) → ¬ (cc = 34 ∧ (x = 14 ∨ x = 15)) → z cc x = g cc x) ∧ ∀ x : Nat, ¬ x = (j + 1).toNat → ¬ x = (j + 2).toNat → z 35 x = g 35 x := by
  have A0 := A
  obtain ⟨g1, s, g2, CA, SL, FL⟩ := A
  have E := (cah_fr Fc A0).2
  have F1 : FRc g1 := frc_k Fc (fun cc y z => CA.2 cc y (fun y => by omega))
  obtain ⟨K3, -⟩ := sl_sk F1 SL
  have Z35 : ∀ x : Nat, z 35 x = g1 35 x := fun x => by
    rcases FL with ⟨-, -, a3⟩ | ⟨-, -, a3⟩
    · rw [a3 35 x (by omega)]; exact K3 35 x (by omega) (by omega) (by omega)
    · rw [a3 35 x (by omega)]; exact K3 35 x (by omega) (by omega) (by omega)
  refine ⟨fun cc x q1 q2 q3 => ?_, fun x q1 q2 => ?_⟩
  · by_cases q : cc = 35
    · rw [q, Z35 x]
      exact CA.2 35 x (fun _ y => by omega)
    · exact E cc x q q2 q3
  · rw [Z35 x]
    exact CA.2 35 x (fun _ y => by omega)
/-- an aim behind an S: its jump stands within -/
theorem sk_aim (K : SKk X a b p q bb h r g v) (f2 : 0 ≤ h 34 1) (hj : h 34 1 ≤ j) (A : CAH j g z) : SKk X a b p q bb h r z v := by
  obtain ⟨⟨k1, k2, k3, k4, k5⟩, ⟨k6, k7, k8⟩, ⟨k9, k10, k11, k12, k13⟩, k14, k15, k16⟩ := K
  obtain ⟨E, -⟩ := cah_o k9 (.inl hj) f2 A
  have z1 := E 34 1 (by omega) (by omega) (by omega)
  have z7 := E 34 7 (by omega) (by omega) (by omega)
  have z12 := E 33 12 (by omega) (by omega) (by omega)
  refine ⟨⟨by rw [E 2 10 (by omega) (by omega) (by omega)]; exact k1, k2, k3, by rw [E 2 11 (by omega) (by omega) (by omega)]; exact k4, k5⟩, ⟨bx_k k6 (fun cc x q => E cc x (by omega) (by omega) (by omega)) (fun _ _ _ => rfl), ?_, k8⟩, ⟨(cah_fr k9 A).1, by omega, by rw [E 34 3 (by omega) (by omega) (by omega)]; exact k11, by rw [E 49 10 (by omega) (by omega) (by omega)]; exact k12, by rw [E 49 18 (by omega) (by omega) (by omega)]; exact k13⟩, by omega, by omega, lpx_k k16 (E 33 9 (by omega) (by omega) (by omega)) (E 33 10 (by omega) (by omega) (by omega)) z12 (by omega) (by omega) rfl rfl⟩
  obtain ⟨a1, ⟨a2, a3, a4, a5⟩, a6, a7, a8, a9⟩ := k7
  exact ⟨fun cc x q => by rw [E cc x (by omega) (by omega) (by omega)]; exact a1 cc x q, ⟨by rw [E 33 9 (by omega) (by omega) (by omega)]; exact a2, by rw [E 33 10 (by omega) (by omega) (by omega)]; exact a3, by omega, by omega⟩, fun x hx => ⟨by rw [E 37 x (by omega) (by omega) (by omega)]; exact (a6 x hx).1, by rw [E 38 x (by omega) (by omega) (by omega)]; exact (a6 x hx).2⟩, ⟨fun x hx => by rw [E 44 x (by omega) (by omega) (by omega)]; exact a7.1 x hx, fun x c1 c2 => by
    have y := a7.2 x c1 (by omega)
    rw [E 44 x (by omega) (by omega) (by omega)]; omega⟩, by omega, fun x hx => by rw [E 35 x (by omega) (by omega) (by omega)]; exact a9 x hx⟩
theorem mwf_st {l x : Int} (ew : qf_X13_stands nn l x m = some w) : MWf m w := mwf_o (fun cc y q => ff_X13_stands nn w ew cc y (nw_of (by unfold wl_X13_stands; simp only [List.mem_cons, List.not_mem_nil, or_false]; omega) (by unfold wf_X13_stands; simp only [List.mem_cons, List.not_mem_nil, or_false, Prod.mk.injEq]; omega)))
/-- one waiting jump gets its aim, jumps of loops before and behind it -/
theorem mk_aim2 {f x j : Int} {A B : List (Int × Int)} (M : MKx X PB WL (A ++ (j, f) :: B) g w) (nA : ¬ hs_L f A) (nB : ¬ hs_L f B) (C : CAH j g z) (ex : x = w 160 68) (bl : g 34 1 ≤ 990000) (b3 : g 34 3 ≤ 3000) : Pc (qf_X13_stands nn f x w) (fun w2 => MKx X PB WL (A ++ B) z w2 ∧ MWf w w2 ∧ w2 160 88 = w 160 88) := fun w2 ew => by
  obtain ⟨M2, -, l2⟩ := mk_aim M rfl nA nB C ex bl b3 w2 ew
  exact ⟨M2, mwf_st ew, l2⟩
/-- .. the aims of a loop's jumps stay -/
theorem amd_aim {A : Int} (hA : AMd g j A) (E : ∀ x : Nat, ¬ x = (k + 1).toNat → ¬ x = (k + 2).toNat → z 35 x = g 35 x) (d1 : 0 ≤ j ∧ 0 ≤ k ∧ (j + 3 ≤ k ∨ k + 3 ≤ j)) : AMd z j A := fun lt => by
  rw [E _ (by omega) (by omega), E _ (by omega) (by omega)]
  exact hA lt
theorem mgq_aim (G : MGq X PB WL (L ++ [(j, f)]) lb lh p q h r g m w) (nf : ¬ hs_L f L ∧ ¬ f = lb ∧ ¬ f = lh) (Fc : FRc g) (C : CAH j g z) (j0 : 0 ≤ j) (ex : x = w 160 68) (bl : g 34 1 ≤ 990000) (b3 : g 34 3 ≤ 3000) : Pc (qf_X13_stands nn f x w) (fun w2 => MGq X PB WL L lb lh p q h r z m w2) := by
  obtain ⟨⟨Z, M, y1, y2, y3, y4⟩, F, l1, l2⟩ := G
  rw [List.append_assoc] at M
  obtain ⟨E, E35⟩ := cah_o (n0 := 0) Fc (.inl j0) (by omega) C
  have PW := (jlb_m M.1.2.1.2).2
  refine pc_imp (mk_aim2 (A := L) (B := Z) M nf.1 (hs_z y1 nf.2) C ex bl b3) (fun w2 q => ?_)
  obtain ⟨M2, F2, l3⟩ := q
  refine ⟨⟨Z, M2, y1, y2, ⟨by rw [E 33 12 (by omega) (by omega) (by omega)]; exact y3.1, fun i hi => by rw [E 44 _ (by omega) (by omega) (by omega)]; exact y3.2 i hi⟩, fun j2 hj2 => ?_⟩, mwf_t F F2, by omega, by omega⟩
  have p2 := List.pairwise_append.mp PW
  have p3 := List.pairwise_cons.mp p2.2.1
  have p4 : j + 3 ≤ j2 := p3.1 (j2, lb) hj2
  exact amd_aim (y4 j2 hj2) E35 ⟨by omega, j0, .inr p4⟩
end

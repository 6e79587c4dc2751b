/- while: the class behind the S of a loop -/
/-- the class behind the S: back, the condition's aim, the breaks' aims -/
def CWt (A l4 l5 l7 en4 : Int) (h6 gC gD z0 : ms_M) (js : List Int) : Prop := ((en4 = 0 ∧ gC = h6) ∨ (¬ en4 = 0 ∧ CJb A (h6 34 7) h6 gC)) ∧ ((¬ l5 = 0 ∧ gD = gC) ∨ (l5 = 0 ∧ CAH l7 gC gD)) ∧ (BRl gD l4 (gD 33 12) js ∧ CHs js gD z0)
section
variable {nn : Nat} {X : BCx} {dp i a b e s bb lb lh d A y0 hb l1 l2 l3 l4 l5 l6 l7 en4 : Int} {p q t t2 : Nat} {h h6 g u r w m v z : ms_M}
theorem c_whT {rc : tq_X0_readBlock} (F6 : FRc h6) (b1 : 0 ≤ A ∧ A ≤ h6 34 1 ∧ h6 34 1 ≤ 900000) (b3 : h6 34 3 = 0) (b7 : 0 ≤ h6 34 7) (b4 : 0 ≤ l4 ∧ l4 ≤ h6 33 12 ∧ h6 33 12 ≤ 500) (bk : ∀ x : Nat, l4 ≤ (x : Int) → (x : Int) < h6 33 12 → A ≤ h6 44 x ∧ h6 44 x + 3 ≤ h6 34 1) (bl : l5 = 0 → A ≤ l7 ∧ l7 ≤ 1000000) : Pc (if en4 = 0 then (qj_X0_readWhile_109 nn rc l2 l3 l4 l5 l7 h6) else (mx_sv (qf_X1_jumpBack nn A (h6 34 7) h6) fun u33 => qj_X0_readWhile_109 nn rc l2 l3 l4 l5 l7 u33)) (fun x => ∃ (gC gD z0 : ms_M) (js : List Int) (en : Int), CWt A l4 l5 l7 en4 h6 gC gD z0 js ∧ x = (en, up_M (up_M (up_M z0 33 12 l4) 33 9 l2) 33 10 l3) ∧ ((en = 0 ∧ ¬ l5 = 0 ∧ h6 33 12 = l4) ∨ (en = 1 ∧ (l5 = 0 ∨ ¬ h6 33 12 = l4))) ∧ (∀ cc x : Nat, ¬ (cc = 34 ∧ (x = 1 ∨ x = 3 ∨ x = 14 ∨ x = 15)) → ¬ (cc = 35 ∧ A ≤ (x : Int)) → ¬ (40 ≤ cc ∧ cc ≤ 42) → z0 cc x = h6 cc x) ∧ (h6 34 1 ≤ z0 34 1 ∧ z0 34 1 ≤ h6 34 1 + 3) ∧ z0 34 3 = 0 ∧ FRc z0) := by
  -- behind the jump back
  have T : ∀ gC : ms_M, ((en4 = 0 ∧ gC = h6) ∨ (¬ en4 = 0 ∧ CJb A (h6 34 7) h6 gC)) → FRc gC → (∀ cc x : Nat, ¬ (cc = 34 ∧ (x = 1 ∨ x = 3 ∨ x = 14 ∨ x = 15)) → ¬ (cc = 35 ∧ A ≤ (x : Int)) → ¬ (40 ≤ cc ∧ cc ≤ 42) → gC cc x = h6 cc x) → (h6 34 1 ≤ gC 34 1 ∧ gC 34 1 ≤ h6 34 1 + 3) → gC 34 3 = 0 → Pc (qj_X0_readWhile_109 nn rc l2 l3 l4 l5 l7 gC) (fun x => ∃ (gC gD z0 : ms_M) (js : List Int) (en : Int), CWt A l4 l5 l7 en4 h6 gC gD z0 js ∧ x = (en, up_M (up_M (up_M z0 33 12 l4) 33 9 l2) 33 10 l3) ∧ ((en = 0 ∧ ¬ l5 = 0 ∧ h6 33 12 = l4) ∨ (en = 1 ∧ (l5 = 0 ∨ ¬ h6 33 12 = l4))) ∧ (∀ cc x : Nat, ¬ (cc = 34 ∧ (x = 1 ∨ x = 3 ∨ x = 14 ∨ x = 15)) → ¬ (cc = 35 ∧ A ≤ (x : Int)) → ¬ (40 ≤ cc ∧ cc ≤ 42) → z0 cc x = h6 cc x) ∧ (h6 34 1 ≤ z0 34 1 ∧ z0 34 1 ≤ h6 34 1 + 3) ∧ z0 34 3 = 0 ∧ FRc z0) := fun gC hC FC EC c1 c3 => by
    have c12 := EC 33 12 (by omega) (by omega) (by omega)
    have c7 := EC 34 7 (by omega) (by omega) (by omega)
    -- the breaks
    have T148 : ∀ (gD : ms_M) (en : Int), ((¬ l5 = 0 ∧ gD = gC) ∨ (l5 = 0 ∧ CAH l7 gC gD)) → FRc gD → (∀ cc x : Nat, ¬ (cc = 34 ∧ (x = 14 ∨ x = 15)) → ¬ (cc = 35 ∧ A ≤ (x : Int)) → ¬ (40 ≤ cc ∧ cc ≤ 42) → gD cc x = gC cc x) → ((en = 0 ∧ ¬ l5 = 0 ∧ h6 33 12 = l4) ∨ (en = 1 ∧ (l5 = 0 ∨ ¬ h6 33 12 = l4))) → Pc (qw_X0_readWhile_148 nn rc nn l2 l3 l4 en l4 gD) (fun x => ∃ (gC gD z0 : ms_M) (js : List Int) (en : Int), CWt A l4 l5 l7 en4 h6 gC gD z0 js ∧ x = (en, up_M (up_M (up_M z0 33 12 l4) 33 9 l2) 33 10 l3) ∧ ((en = 0 ∧ ¬ l5 = 0 ∧ h6 33 12 = l4) ∨ (en = 1 ∧ (l5 = 0 ∨ ¬ h6 33 12 = l4))) ∧ (∀ cc x : Nat, ¬ (cc = 34 ∧ (x = 1 ∨ x = 3 ∨ x = 14 ∨ x = 15)) → ¬ (cc = 35 ∧ A ≤ (x : Int)) → ¬ (40 ≤ cc ∧ cc ≤ 42) → z0 cc x = h6 cc x) ∧ (h6 34 1 ≤ z0 34 1 ∧ z0 34 1 ≤ h6 34 1 + 3) ∧ z0 34 3 = 0 ∧ FRc z0) := fun gD en hD FD ED hen => by
      have d12 := ED 33 12 (by omega) (by omega) (by omega)
      have d1 := ED 34 1 (by omega) (by omega) (by omega)
      have d3 := ED 34 3 (by omega) (by omega) (by omega)
      have d7 := ED 34 7 (by omega) (by omega) (by omega)
      obtain ⟨js, BJ, hj⟩ := brl_ex (h := gD) (c0 := l4) (c1 := gD 33 12) (by omega)
      have hj2 : ∀ j ∈ js, A ≤ j ∧ j + 3 ≤ h6 34 1 := fun j hm => by
        obtain ⟨x, x1, x2, ej⟩ := hj j hm
        rw [ej, ED 44 x (by omega) (by omega) (by omega), EC 44 x (by omega) (by omega) (by omega)]
        exact bk x x1 (by omega)
      refine pc_imp (c_breaks (l2 := l2) (l3 := l3) (l4 := l4) (l8 := en) js nn l4 gD FD (by omega) (by omega) (by omega) b4.1 (by omega) BJ (fun j hm => by have := hj2 j hm; omega)) (fun x y => ?_)
      obtain ⟨z0, CH, ex⟩ := y
      obtain ⟨Fz, EZ⟩ := chs_o b1.1 js gD z0 FD (fun j hm => (hj2 j hm).1) CH
      have y1 := EZ 34 1 (by omega) (by omega) (by omega)
      exact ⟨gC, gD, z0, js, en, ⟨hC, hD, BJ, CH⟩, ex, hen, fun cc x q1 q2 q3 => by rw [EZ cc x q2 q3 (by omega), ED cc x (by omega) q2 q3]; exact EC cc x q1 q2 q3, by omega, by rw [EZ 34 3 (by omega) (by omega) (by omega)]; omega, Fz⟩
    have T128 : ∀ en : Int, ((en = 0 ∧ ¬ l5 = 0 ∧ h6 33 12 = l4) ∨ (en = 1 ∧ (l5 = 0 ∨ ¬ h6 33 12 = l4))) → Pc (qj_X0_readWhile_128 nn rc l2 l3 l4 l5 l7 en gC) (fun x => ∃ (gC gD z0 : ms_M) (js : List Int) (en : Int), CWt A l4 l5 l7 en4 h6 gC gD z0 js ∧ x = (en, up_M (up_M (up_M z0 33 12 l4) 33 9 l2) 33 10 l3) ∧ ((en = 0 ∧ ¬ l5 = 0 ∧ h6 33 12 = l4) ∨ (en = 1 ∧ (l5 = 0 ∨ ¬ h6 33 12 = l4))) ∧ (∀ cc x : Nat, ¬ (cc = 34 ∧ (x = 1 ∨ x = 3 ∨ x = 14 ∨ x = 15)) → ¬ (cc = 35 ∧ A ≤ (x : Int)) → ¬ (40 ≤ cc ∧ cc ≤ 42) → z0 cc x = h6 cc x) ∧ (h6 34 1 ≤ z0 34 1 ∧ z0 34 1 ≤ h6 34 1 + 3) ∧ z0 34 3 = 0 ∧ FRc z0) := fun en hen => by
      unfold qj_X0_readWhile_128
      refine pc_if (fun z => T148 gC en (.inl ⟨z, rfl⟩) FC (fun _ _ _ _ _ => rfl) hen) (fun z => ?_)
      have l50 : l5 = 0 := Classical.byContradiction z
      have bl2 := bl l50
      refine pc_sv (c_aimHere (by omega) (by omega) (by omega) (by omega) FC) ?_; intro gD CA
      obtain ⟨E, -⟩ := cah_o FC (.inl bl2.1) b1.1 CA
      exact T148 gD en (.inr ⟨l50, CA⟩) (cah_fr FC CA).1 (fun cc x q1 q2 q3 => E cc x q2 q3 q1) hen
    unfold qj_X0_readWhile_109 qj_X0_readWhile_123
    refine pc_if (fun z => T128 1 (.inr ⟨rfl, .inl z⟩)) (fun z => ?_)
    exact pc_if (fun y => T128 0 (.inl ⟨rfl, z, by omega⟩)) (fun y => T128 1 (.inr ⟨rfl, .inr (by omega)⟩))
  refine pc_if (fun z => T h6 (.inl ⟨z, rfl⟩) F6 (fun _ _ _ _ _ => rfl) (by omega) b3) (fun z => ?_)
  refine pc_sv (c_jback (by omega) (by omega) (by omega) b7 F6) ?_; intro gC J
  obtain ⟨FC, j1, j3, EJ, -⟩ := cjb_f F6 (by omega) J
  exact T gC (.inr ⟨z, J⟩) FC (fun cc x q1 q2 q3 => EJ cc x (by omega) (by omega) q3) (by omega) (by rw [j3 (by omega)]; exact b3)
end

section LCMP
variable {p : Program} {l : Launch} {e : Env} {R : Room} {s : State} {m : MethodId} {args : Array Value} {below : List Frame} {meth : Method} {c : Code} {H : Heap} {locs : List Loc} {cells slots : Nat} {Q : State → Prop} {cc : ByteArray} {pc : Nat} {ls : Array Slot} {rest : List Value}
theorem pw_lcmp (hexec : p.tables.exec = Jvm.exec) (hb : c.code = cc) {x y : Int64} (hdg : decode cc pc = .ok (.lcmp, 1)) (k : W p l e R s m args below meth c H locs cells slots Q (F0 m (pc + 1) ls (.int (if y < x then 1 else if x = y then 0 else -1) :: rest))) : W p l e R s m args below meth c H locs cells slots Q (F0 m pc ls (.long y :: .long x :: rest)) := by
  intro T hT X
  obtain ⟨t, a, b⟩ := k T hT X
  refine ⟨t, ?_, b⟩
  jvm_step X.here [X.here.top, hexec, hb, hdg]
  by_cases h1 : y < x
  · rw [if_pos h1]; rw [if_pos h1] at a; exact a
  · rw [if_neg h1]; rw [if_neg h1] at a
    by_cases h2 : x = y
    · rw [if_pos h2]; rw [if_pos h2] at a; exact a
    · rw [if_neg h2]; rw [if_neg h2] at a; exact a
theorem pw_ldcwS (hexec : p.tables.exec = Jvm.exec) (hb : c.code = cc) {own tx : String} {index q : Nat} (hown : s.vm.findClass own = some m.cls) (hZ : vk_R own index tx q s) (hdg : decode cc pc = .ok (.ldc_w index, 3)) (k : W p l e R s m args below meth c H locs cells slots Q (F0 m (pc + 3) ls (.ref q :: rest))) : W p l e R s m args below meth c H locs cells slots Q (F0 m pc ls rest) := by
  intro T hT X
  obtain ⟨t, a1, b1⟩ := k T hT X
  refine ⟨t, ?_, b1⟩
  obtain ⟨k, cf, i, a', hk, hcf, hcp, -, hr, hev⟩ := Cond.stringRef_spec hown hZ.1
  cases hZ.2.symm.trans hev
  obtain ⟨k', hk', he⟩ := X.warmed.alike.2.2 _ _ hk
  have hr' : k'.resolved[index]? = some (some (.string q)) := by
    rcases X.warmed.entry hk hk' index with h | ⟨h, -⟩
    · rw [h]; exact hr
    · rw [hr] at h; cases h
  jvm_step X.here [hexec, hb, hdg, ldc_w.wp_string (e := e) (s := T) (f := F0 m pc ls rest) X.here.top hk' (by rw [he]; exact hcf) hcp hr']
  exact a1
end LCMP
theorem ox_ch {α : Type} {i : Int32} {n : Nat} {x : Option α} {y : α} (h : (if i < 0 then none else if n ≤ i.toNatClampNeg then none else if 2147483648 ≤ n then none else x) = some y) : (∃ j : Nat, i = nI j ∧ i.toNatClampNeg = j ∧ j < n ∧ n < 2 ^ 31) ∧ x = some y := by
  by_cases h1 : i < 0
  · rw [if_pos h1] at h; cases h
  · rw [if_neg h1] at h
    by_cases h2 : n ≤ i.toNatClampNeg
    · rw [if_pos h2] at h; cases h
    · rw [if_neg h2] at h
      by_cases h3 : 2147483648 ≤ n
      · rw [if_pos h3] at h; cases h
      · rw [if_neg h3] at h
        obtain ⟨j, hj, e⟩ := nI_of h1
        have ec : i.toNatClampNeg = j := by rw [e]; exact nI_clamp hj
        exact ⟨⟨j, e, ec, by omega, by omega⟩, h⟩
theorem jn_use {p : Program} {l : Launch} {e : Env} {R : Room} {s : State} {m : MethodId} {args : Array Value} {below : List Frame} {meth : Method} {c : Code} {cells slots : Nat} {Q : State → Prop} {α : Type} {H0 : Heap} {L0 : List Loc} {f0 : JFrame} (Hf : α → Heap) (Lf : α → List Loc) (Ff : α → JFrame) (J : α → Prop) (hj : ∀ x : α, J x → W p l e R s m args below meth c (Hf x) (Lf x) cells slots Q (Ff x)) (hk : (∀ x : α, J x → W p l e R s m args below meth c (Hf x) (Lf x) cells slots Q (Ff x)) → W p l e R s m args below meth c H0 L0 cells slots Q f0) : W p l e R s m args below meth c H0 L0 cells slots Q f0 := hk hj
theorem ox_nz {α : Type} {i : Int32} {x : Option α} {y : α} (h : (if i = 0 then none else x) = some y) : ¬ i = 0 ∧ x = some y := by
  by_cases h1 : i = 0
  · rw [if_pos h1] at h; cases h
  · rw [if_neg h1] at h; exact ⟨h1, h⟩
def cp_ok (sp dp n : Int32) (n0 n1 : Nat) : Bool := !(decide (sp < 0)) && !(decide (dp < 0)) && !(decide (n < 0)) && decide (sp.toNatClampNeg + n.toNatClampNeg ≤ n0) && decide (dp.toNatClampNeg + n.toNatClampNeg ≤ n1)
def cp_fit (ty : FieldType) (f : Nat → Int32) (sp n : Int32) : Bool := (List.range n.toNatClampNeg).all (fun i => fits ty (.int (f (sp.toNatClampNeg + i))))
theorem ox_cp {α : Type} {sp dp n : Int32} {n0 n1 : Nat} {x : Option α} {y : α} (h : (if cp_ok sp dp n n0 n1 = true then x else none) = some y) : ((¬ sp < 0) ∧ (¬ dp < 0) ∧ (¬ n < 0) ∧ sp.toNatClampNeg + n.toNatClampNeg ≤ n0 ∧ dp.toNatClampNeg + n.toNatClampNeg ≤ n1) ∧ x = some y := by
  by_cases h1 : cp_ok sp dp n n0 n1 = true
  · rw [if_pos h1] at h; refine ⟨?_, h⟩; simp only [cp_ok, Bool.and_eq_true, Bool.not_eq_true', decide_eq_false_iff_not, decide_eq_true_eq] at h1; exact ⟨h1.1.1.1.1, h1.1.1.1.2, h1.1.1.2, h1.1.2, h1.2⟩
  · rw [if_neg h1] at h; cases h
theorem ox_fit {α : Type} {ty : FieldType} {f : Nat → Int32} {sp n : Int32} {x : Option α} {y : α} (h : (if cp_fit ty f sp n = true then x else none) = some y) : (∀ i, i < n.toNatClampNeg → fits ty (.int (f (sp.toNatClampNeg + i))) = true) ∧ x = some y := by
  by_cases h1 : cp_fit ty f sp n = true
  · rw [if_pos h1] at h; exact ⟨fun i hi => List.all_eq_true.mp h1 i (List.mem_range.mpr hi), h⟩
  · rw [if_neg h1] at h; cases h

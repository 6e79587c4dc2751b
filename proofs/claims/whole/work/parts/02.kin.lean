set_option maxHeartbeats 4000000 in
set_option maxRecDepth 100000 in
/-- Kin.isClass: 1 for 0 .. 15, else 0 -/
theorem ct_isClass (l : Launch) (sz : Nat) (p0 : Int32) : Met l yX4_isClass wsX4_isClass ({ frames := 0, cells := 0, slots := 0, locals := 0 }) (va_Pc [.int p0] (fun U => U.heap.size = sz)) (va_Qi (fun (r : Int32) (_ : Unit) => (¬ p0 < 0 ∧ p0 < 16 ∧ r = 1) ∨ (¬ (¬ p0 < 0 ∧ p0 < 16) ∧ r = 0)) (fun _ _ => True) (va_A [] sz)) 0 0 (va_A [] sz) := by
  refine Met.ofW (cc := cX4_isClass) (maxL := 1) (ret := (some .boolean)) (by decide) rfl ?_
  intro p e s m args below meth c s₁ B hml hv
  obtain ⟨rfl, hsz⟩ := hv
  have hx := B.exec
  have hb := B.bytes
  have hr := B.returns
  have hlocks := B.notSynchronized
  subst hsz
  have hS : va_S (va_A [] s.heap.size) s.heap s.heap [] := va_S.rf
  have hl := lv_entry ([.int p0]) (n := 1) (Nat.le_of_ble_eq_true rfl)
  rw [lg_entry_eq]
  generalize (lg_sl ([.int p0]) ++ List.replicate (1 - (lg_sl ([.int p0])).length) Slot.unset).toArray = ls at hl ⊢
  have hl : lv_has ls 1 [(0, .int p0)] := hl
  refine lv_iload_n hx hb dX4_isClass_0 rfl (lv_at hl 0 rfl) ?_
  refine lv_if_lt (tgt := 14) hx hb dX4_isClass_1 (by decide) (fun c_1 => ?_) (fun c_1 => ?_)
  · refine lv_iconst (v := 0) hx hb dX4_isClass_14 (by decide) ?_
    exact W.zret hx hb hr (by decide) (fun t ht hW => ⟨⟨0, (), rfl, Or.inr ⟨fun h => h.1 c_1, rfl⟩, trivial⟩, hS.F ht⟩) hS.2.2 dX4_isClass_15
  · refine lv_iload_n hx hb dX4_isClass_4 rfl (lv_at hl 0 rfl) ?_
    refine lv_bipush (v := 16) hx hb dX4_isClass_5 (by decide) ?_
    refine lv_icmp_ge (tgt := 14) hx hb dX4_isClass_7 (by decide) (fun c_2 => ?_) (fun c_2 => ?_)
    · refine lv_iconst (v := 0) hx hb dX4_isClass_14 (by decide) ?_
      exact W.zret hx hb hr (by decide) (fun t ht hW => ⟨⟨0, (), rfl, Or.inr ⟨fun h => absurd h.2 (Int32.not_lt.mpr c_2), rfl⟩, trivial⟩, hS.F ht⟩) hS.2.2 dX4_isClass_15
    · refine lv_iconst (v := 1) hx hb dX4_isClass_10 (by decide) ?_
      refine lv_goto (tgt := 15) hx hb dX4_isClass_11 (by decide) ?_
      exact W.zret hx hb hr (by decide) (fun t ht hW => ⟨⟨1, (), rfl, Or.inl ⟨c_1, Int32.not_le.mp c_2, rfl⟩, trivial⟩, hS.F ht⟩) hS.2.2 dX4_isClass_15

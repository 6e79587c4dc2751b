/- try: what is caught -/
section
variable {nn : Nat} {X : BCx} {a b s d : Int} {p t q : Nat} {h r z w m : ms_M}
/-- the class named behind catch: class and rules -/
theorem j_catch (Y : CXs X) (B : BX X h r) (q4 : r 160 9 = 0) (kt : bK X t = 2) {x : Int} (hx : x = (t : Int)) : Pc (qf_X2_classAt nn x h) (fun u => Pc (qf_X13_typeOf nn 3 (t : Int) 0 r) (fun v => (CLz (fun k => bV X (bC X k)) (bn X) (bV X t) u ∧ ((∃ ty : Int, TYS (bV X) (bC X) (bn X) (t : Int) 3 0 ty ∧ v.1 = ty_T ty) ∧ v.2 = r) ∨ (CLz (fun k => bV X (bC X k)) (bn X) (bV X t) u ∧ CLz (fun k => bV X (bC X k)) (bn X) (bV X t) (-1) ∧ v.2 160 9 = 5 ∧ v.2 160 10 = bP X t)))) := by
  refine pc_imp (c_classAt Y.1 Y.2.1 B.1.1.1.1 B.1.1.1.2.1 B.1.1.2.1 kt hx) (fun u C => ?_)
  refine pc_imp (r_type Y.1 Y.2.1 Y.2.2.1 B.1.1.2.2 q4 (p := t) (.inr (.inr (.inr ⟨rfl, kt⟩))) (.inl rfl)) (fun v y => ?_)
  rcases y with y | y
  · exact .inl ⟨C, y⟩
  · exact .inr ⟨C, y.2⟩
end

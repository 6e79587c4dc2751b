/- while: the making from the loop's S on -/
section
variable {nn : Nat} {K V : Nat → Int} {C : Nat → Nat} {W : Nat → List Int} {n F : Nat} {own : Int} {a b T h g u m w v z : ms_M} {PB : Nat → Prop} {WL : Int → Int → Prop} {L L2 : List (Int × Int)}
/-- the count of loops does not matter -/
theorem mk_r4 (M : MK K V C W n F own a b T PB WL L h m) (e2 : ∀ cc x : Nat, ¬ (cc = 160 ∧ (x = 54 ∨ x = 57)) → ¬ (cc = 219 ∨ cc = 220) → ¬ (174 ≤ cc ∧ cc ≤ 176) → ¬ (198 ≤ cc ∧ cc ≤ 199) → w cc x = m cc x) : MK K V C W n F own a b T PB WL L h w := by
  obtain ⟨⟨c, ⟨j, jb⟩, f, mb⟩, sk⟩ := M
  have x68 := e2 160 68 (by omega) (by omega) (by omega) (by omega)
  refine ⟨⟨cby_k c (fun _ _ _ => rfl) (fun cc x z => e2 cc x (by omega) (by omega) (by omega) (by omega)), ⟨jl_k j (fun cc x z => e2 cc x (by omega) (by omega) (by omega) (by omega)), jlb_k jb (by omega) (by rw [e2 160 88 (by omega) (by omega) (by omega) (by omega)]; exact Int.le_refl _)⟩, frk_k f (fun _ _ _ => rfl) ⟨Int.le_refl _, Int.le_refl _, Int.le_refl _⟩ (fun cc x z => e2 cc x (by omega) (by omega) (by omega) (by omega)) (by omega) (by omega) (by omega), mb_k mb (fun _ _ _ => rfl) id (fun cc x z => e2 cc x (by omega) (by omega) (by omega) (by omega))⟩, skj_k sk (fun _ _ _ => rfl) (fun cc x z => e2 cc x (by omega) (by omega) (by omega) (by omega))⟩
end

section
section
variable {h r : ms_M} {a b e : Int} {F G : Nat → Int → Int → Int → Prop}
/-- an expression that the rules have seen without a FAULT: what is used has a value -/
def y0 (h : ms_M) (F : Nat → Int → Int → Int → Prop) (a b e : Int) : Prop :=
  (0 ≤ a ∧ a ≤ e ∧ e < b) ∧
  ((20 ≤ h 167 e.toNat ∧ h 167 e.toNat ≤ 25) ∨ (h 167 e.toNat = 27) ∨
   (h 167 e.toNat = 26 ∧ F 1 (e + 1) b (h 171 e.toNat)) ∨
   ((h 167 e.toNat = 28 ∨ h 167 e.toNat = 29) ∧ (((e + 1) ≤ (h 170 e.toNat) ∧ (h 170 e.toNat) < b ∧ ¬ h 174 (h 170 e.toNat).toNat = 3) ∧ F 0 (e + 1) b (h 170 e.toNat))) ∨
   ((h 167 e.toNat = 30 ∨ h 167 e.toNat = 38) ∧ ((a ≤ (h 170 e.toNat) ∧ (h 170 e.toNat) < e ∧ ¬ h 174 (h 170 e.toNat).toNat = 3) ∧ F 0 a e (h 170 e.toNat))) ∨
   (h 167 e.toNat = 31 ∧ (¬ h 176 e.toNat = -1 ∨ ((a ≤ (h 170 e.toNat) ∧ (h 170 e.toNat) < e ∧ ¬ h 174 (h 170 e.toNat).toNat = 3) ∧ F 0 a e (h 170 e.toNat))) ∧ F 1 (e + 1) b (h 171 e.toNat)) ∨
   ((h 167 e.toNat = 32 ∨ h 167 e.toNat = 37) ∧ ((a ≤ (h 170 e.toNat) ∧ (h 170 e.toNat) < e ∧ ¬ h 174 (h 170 e.toNat).toNat = 3) ∧ F 0 a e (h 170 e.toNat)) ∧ (((e + 1) ≤ (h 171 e.toNat) ∧ (h 171 e.toNat) < b ∧ ¬ h 174 (h 171 e.toNat).toNat = 3) ∧ F 0 (e + 1) b (h 171 e.toNat))) ∨
   ((33 ≤ h 167 e.toNat ∧ h 167 e.toNat ≤ 36) ∧ (((e + 1) ≤ (h 170 e.toNat) ∧ (h 170 e.toNat) < b ∧ ¬ h 174 (h 170 e.toNat).toNat = 3) ∧ F 0 (e + 1) b (h 170 e.toNat))) ∨
   (h 167 e.toNat = 39 ∧ ((a ≤ (h 170 e.toNat) ∧ (h 170 e.toNat) < e ∧ ¬ h 174 (h 170 e.toNat).toNat = 3) ∧ F 0 a e (h 170 e.toNat)) ∧ ∃ y, (e < y ∧ y ≤ b) ∧ (((e + 1) ≤ (h 171 e.toNat) ∧ (h 171 e.toNat) < y ∧ ¬ h 174 (h 171 e.toNat).toNat = 3) ∧ F 0 (e + 1) y (h 171 e.toNat)) ∧ ((y ≤ (h 172 e.toNat) ∧ (h 172 e.toNat) < b ∧ ¬ h 174 (h 172 e.toNat).toNat = 3) ∧ F 0 y b (h 172 e.toNat))))
def y1 (h : ms_M) (F : Nat → Int → Int → Int → Prop) (a b e : Int) : Prop :=
  e = -1 ∨ ((0 ≤ a ∧ a ≤ e ∧ e < b) ∧ ((a ≤ (h 170 e.toNat) ∧ (h 170 e.toNat) < e ∧ ¬ h 174 (h 170 e.toNat).toNat = 3) ∧ F 0 a e (h 170 e.toNat)) ∧ F 1 (e + 1) b (h 173 e.toNat))
def y2 (h : ms_M) (F : Nat → Int → Int → Int → Prop) (a b e : Int) : Prop :=
  (0 ≤ a ∧ a ≤ e ∧ e < b) ∧
  ((h 167 e.toNat = 1 ∧ F 3 (e + 1) b (h 170 e.toNat)) ∨
   (h 167 e.toNat = 2 ∧ (((e + 1) ≤ (h 170 e.toNat) ∧ (h 170 e.toNat) < b ∧ ¬ h 174 (h 170 e.toNat).toNat = 3) ∧ F 0 (e + 1) b (h 170 e.toNat))) ∨
   (h 167 e.toNat = 3 ∧ (h 171 e.toNat) ≤ b ∧ (((e + 1) ≤ (h 170 e.toNat) ∧ (h 170 e.toNat) < (h 171 e.toNat) ∧ ¬ h 174 (h 170 e.toNat).toNat = 3) ∧ F 0 (e + 1) (h 171 e.toNat) (h 170 e.toNat)) ∧ (((h 172 e.toNat) = -1 ∧ ((e < (h 171 e.toNat) ∧ (h 171 e.toNat) < b) ∧ F 2 (h 171 e.toNat) b (h 171 e.toNat))) ∨ ((h 172 e.toNat) < b ∧ ((e < (h 171 e.toNat) ∧ (h 171 e.toNat) < (h 172 e.toNat)) ∧ F 2 (h 171 e.toNat) (h 172 e.toNat) (h 171 e.toNat)) ∧ ((e < (h 172 e.toNat) ∧ (h 172 e.toNat) < b) ∧ F 2 (h 172 e.toNat) b (h 172 e.toNat))))) ∨
   (h 167 e.toNat = 4 ∧ (((e + 1) ≤ (h 170 e.toNat) ∧ (h 170 e.toNat) < (h 171 e.toNat) ∧ ¬ h 174 (h 170 e.toNat).toNat = 3) ∧ F 0 (e + 1) (h 171 e.toNat) (h 170 e.toNat)) ∧ ((e < (h 171 e.toNat) ∧ (h 171 e.toNat) < b) ∧ F 2 (h 171 e.toNat) b (h 171 e.toNat))) ∨
   (h 167 e.toNat = 5 ∨ h 167 e.toNat = 6) ∨
   (h 167 e.toNat = 7 ∧ ((h 170 e.toNat) = -1 ∨ (((e + 1) ≤ (h 170 e.toNat) ∧ (h 170 e.toNat) < b ∧ ¬ h 174 (h 170 e.toNat).toNat = 3) ∧ F 0 (e + 1) b (h 170 e.toNat)))) ∨
   ((h 167 e.toNat = 8 ∨ h 167 e.toNat = 10) ∧ (((e + 1) ≤ (h 170 e.toNat) ∧ (h 170 e.toNat) < b ∧ ¬ h 174 (h 170 e.toNat).toNat = 3) ∧ F 0 (e + 1) b (h 170 e.toNat))) ∨
   ((h 167 e.toNat = 11 ∧ e + 1 ≤ (h 170 e.toNat) ∧ (h 170 e.toNat) < b ∧ (h 167 (h 170 e.toNat).toNat = 26 ∨ h 167 (h 170 e.toNat).toNat = 31)) ∧ F 0 (e + 1) b (h 170 e.toNat)) ∨
   ((h 167 e.toNat = 12 ∧ (h 167 (h 170 e.toNat).toNat = 25 ∨ h 167 (h 170 e.toNat).toNat = 32 ∨ (h 167 (h 170 e.toNat).toNat = 30 ∧ 0 ≤ h 175 (h 170 e.toNat).toNat))) ∧ ∃ y, (e < y ∧ y ≤ b) ∧ (((e + 1) ≤ (h 170 e.toNat) ∧ (h 170 e.toNat) < y ∧ ¬ h 174 (h 170 e.toNat).toNat = 3) ∧ F 0 (e + 1) y (h 170 e.toNat)) ∧ ((y ≤ (h 171 e.toNat) ∧ (h 171 e.toNat) < b ∧ ¬ h 174 (h 171 e.toNat).toNat = 3) ∧ F 0 y b (h 171 e.toNat))) ∨
   (h 167 e.toNat = 9 ∧ ((h 171 e.toNat) < b ∧ ((e < (h 170 e.toNat) ∧ (h 170 e.toNat) < (h 171 e.toNat)) ∧ F 2 (h 170 e.toNat) (h 171 e.toNat) (h 170 e.toNat))) ∧ ((e < (h 171 e.toNat) ∧ (h 171 e.toNat) < b) ∧ F 2 (h 171 e.toNat) b (h 171 e.toNat))))
def y3 (h : ms_M) (F : Nat → Int → Int → Int → Prop) (a b e : Int) : Prop :=
  e = -1 ∨ ((0 ≤ a ∧ a ≤ e ∧ e < b) ∧ (((h 173 e.toNat) = -1 ∧ F 2 e b e) ∨ ((e < (h 173 e.toNat) ∧ (h 173 e.toNat) < b) ∧ F 2 e (h 173 e.toNat) e ∧ F 3 (h 173 e.toNat) b (h 173 e.toNat))))
def YY (h : ms_M) : Nat → Nat → Int → Int → Int → Prop
  | 0 => fun _ _ _ _ => False
  | n + 1 => fun s => match s with
    | 0 => y0 h (YY h n)
    | 1 => y1 h (YY h n)
    | 2 => y2 h (YY h n)
    | _ => y3 h (YY h n)
theorem y0_map {a0 b0 : Int} (H : ∀ s a b e, F s a b e → a0 ≤ a → b ≤ b0 → G s a b e) (A : ∀ (c x : Nat), (c = 167 ∨ (170 ≤ c ∧ c ≤ 175)) → a0 ≤ (x : Int) → (x : Int) < b0 → r c x = h c x) (B : ∀ x : Nat, a0 ≤ (x : Int) → (x : Int) < b0 → h 167 x = 31 → r 176 x = h 176 x) (h5 : a0 ≤ a) (h6 : b ≤ b0) (x : y0 h F a b e) : y0 r G a b e := by
  obtain ⟨⟨q1, q2, q3⟩, x⟩ := x
  have k7 := A 167 e.toNat (by decide) (by omega) (by omega)
  have k0 := A 170 e.toNat (by decide) (by omega) (by omega)
  have k1 := A 171 e.toNat (by decide) (by omega) (by omega)
  have k2 := A 172 e.toNat (by decide) (by omega) (by omega)
  have k3 := A 173 e.toNat (by decide) (by omega) (by omega)
  have k4 := A 174 e.toNat (by decide) (by omega) (by omega)
  have k6 := B e.toNat (by omega) (by omega)
  refine ⟨⟨q1, q2, q3⟩, ?_⟩
  rw [k7, k0, k1, k2]
  rcases x with x | x | ⟨k, x⟩ | ⟨k, x⟩ | ⟨k, x⟩ | ⟨k, x, y⟩ | ⟨k, x, y⟩ | ⟨k, x⟩ | ⟨k, x, w, wr, y, z⟩
  · exact .inl x
  · exact .inr (.inl x)
  · exact .inr (.inr (.inl ⟨k, H _ _ _ _ x (by omega) (by omega)⟩))
  · exact .inr (.inr (.inr (.inl ⟨k, ⟨⟨x.1.1, x.1.2.1, by rw [A 174 (h 170 e.toNat).toNat (by decide) (by omega) (by omega)]; exact x.1.2.2⟩, H _ _ _ _ x.2 (by omega) (by omega)⟩⟩)))
  · exact .inr (.inr (.inr (.inr (.inl ⟨k, ⟨⟨x.1.1, x.1.2.1, by rw [A 174 (h 170 e.toNat).toNat (by decide) (by omega) (by omega)]; exact x.1.2.2⟩, H _ _ _ _ x.2 (by omega) (by omega)⟩⟩))))
  · refine .inr (.inr (.inr (.inr (.inr (.inl ⟨k, ?_, H _ _ _ _ y (by omega) (by omega)⟩)))))
    rw [k6 k]
    rcases x with x | x
    · exact .inl x
    · exact .inr ⟨⟨x.1.1, x.1.2.1, by rw [A 174 (h 170 e.toNat).toNat (by decide) (by omega) (by omega)]; exact x.1.2.2⟩, H _ _ _ _ x.2 (by omega) (by omega)⟩
  · exact .inr (.inr (.inr (.inr (.inr (.inr (.inl ⟨k, ⟨⟨x.1.1, x.1.2.1, by rw [A 174 (h 170 e.toNat).toNat (by decide) (by omega) (by omega)]; exact x.1.2.2⟩, H _ _ _ _ x.2 (by omega) (by omega)⟩, ⟨⟨y.1.1, y.1.2.1, by rw [A 174 (h 171 e.toNat).toNat (by decide) (by omega) (by omega)]; exact y.1.2.2⟩, H _ _ _ _ y.2 (by omega) (by omega)⟩⟩))))))
  · exact .inr (.inr (.inr (.inr (.inr (.inr (.inr (.inl ⟨k, ⟨⟨x.1.1, x.1.2.1, by rw [A 174 (h 170 e.toNat).toNat (by decide) (by omega) (by omega)]; exact x.1.2.2⟩, H _ _ _ _ x.2 (by omega) (by omega)⟩⟩)))))))
  · exact .inr (.inr (.inr (.inr (.inr (.inr (.inr (.inr ⟨k, ⟨⟨x.1.1, x.1.2.1, by rw [A 174 (h 170 e.toNat).toNat (by decide) (by omega) (by omega)]; exact x.1.2.2⟩, H _ _ _ _ x.2 (by omega) (by omega)⟩, w, wr, ⟨⟨y.1.1, y.1.2.1, by rw [A 174 (h 171 e.toNat).toNat (by decide) (by omega) (by omega)]; exact y.1.2.2⟩, H _ _ _ _ y.2 (by omega) (by omega)⟩, ⟨⟨z.1.1, z.1.2.1, by rw [A 174 (h 172 e.toNat).toNat (by decide) (by omega) (by omega)]; exact z.1.2.2⟩, H _ _ _ _ z.2 (by omega) (by omega)⟩⟩)))))))
theorem y1_map {a0 b0 : Int} (H : ∀ s a b e, F s a b e → a0 ≤ a → b ≤ b0 → G s a b e) (A : ∀ (c x : Nat), (c = 167 ∨ (170 ≤ c ∧ c ≤ 175)) → a0 ≤ (x : Int) → (x : Int) < b0 → r c x = h c x) (B : ∀ x : Nat, a0 ≤ (x : Int) → (x : Int) < b0 → h 167 x = 31 → r 176 x = h 176 x) (h5 : a0 ≤ a) (h6 : b ≤ b0) (x : y1 h F a b e) : y1 r G a b e := by
  rcases x with x | ⟨⟨q1, q2, q3⟩, x, y⟩
  · exact .inl x
  have k7 := A 167 e.toNat (by decide) (by omega) (by omega)
  have k0 := A 170 e.toNat (by decide) (by omega) (by omega)
  have k1 := A 171 e.toNat (by decide) (by omega) (by omega)
  have k2 := A 172 e.toNat (by decide) (by omega) (by omega)
  have k3 := A 173 e.toNat (by decide) (by omega) (by omega)
  have k4 := A 174 e.toNat (by decide) (by omega) (by omega)
  refine .inr ⟨⟨q1, q2, q3⟩, ?_⟩
  rw [k0, k3]
  exact ⟨⟨⟨x.1.1, x.1.2.1, by rw [A 174 (h 170 e.toNat).toNat (by decide) (by omega) (by omega)]; exact x.1.2.2⟩, H _ _ _ _ x.2 (by omega) (by omega)⟩, H _ _ _ _ y (by omega) (by omega)⟩
theorem y2_map {a0 b0 : Int} (H : ∀ s a b e, F s a b e → a0 ≤ a → b ≤ b0 → G s a b e) (A : ∀ (c x : Nat), (c = 167 ∨ (170 ≤ c ∧ c ≤ 175)) → a0 ≤ (x : Int) → (x : Int) < b0 → r c x = h c x) (B : ∀ x : Nat, a0 ≤ (x : Int) → (x : Int) < b0 → h 167 x = 31 → r 176 x = h 176 x) (h5 : a0 ≤ a) (h6 : b ≤ b0) (x : y2 h F a b e) : y2 r G a b e := by
  obtain ⟨⟨q1, q2, q3⟩, x⟩ := x
  have k7 := A 167 e.toNat (by decide) (by omega) (by omega)
  have k0 := A 170 e.toNat (by decide) (by omega) (by omega)
  have k1 := A 171 e.toNat (by decide) (by omega) (by omega)
  have k2 := A 172 e.toNat (by decide) (by omega) (by omega)
  have k3 := A 173 e.toNat (by decide) (by omega) (by omega)
  have k4 := A 174 e.toNat (by decide) (by omega) (by omega)
  refine ⟨⟨q1, q2, q3⟩, ?_⟩
  rw [k7, k0, k1, k2]
  rcases x with ⟨k, x⟩ | ⟨k, x⟩ | ⟨k, w, x, z⟩ | ⟨k, x, y⟩ | k | ⟨k, x⟩ | ⟨k, x⟩ | ⟨k, x⟩ | ⟨k, w, wr, x, y⟩ | ⟨k, ⟨w0, x⟩, y⟩
  · exact .inl ⟨k, H _ _ _ _ x (by omega) (by omega)⟩
  · exact .inr (.inl ⟨k, ⟨⟨x.1.1, x.1.2.1, by rw [A 174 (h 170 e.toNat).toNat (by decide) (by omega) (by omega)]; exact x.1.2.2⟩, H _ _ _ _ x.2 (by omega) (by omega)⟩⟩)
  · refine .inr (.inr (.inl ⟨k, w, ⟨⟨x.1.1, x.1.2.1, by rw [A 174 (h 170 e.toNat).toNat (by decide) (by omega) (by omega)]; exact x.1.2.2⟩, H _ _ _ _ x.2 (by omega) (by omega)⟩, ?_⟩))
    rcases z with ⟨z, y⟩ | ⟨w0, y, z⟩
    · exact .inl ⟨z, ⟨y.1, H _ _ _ _ y.2 (by omega) (by omega)⟩⟩
    · exact .inr ⟨w0, ⟨y.1, H _ _ _ _ y.2 (by omega) (by omega)⟩, ⟨z.1, H _ _ _ _ z.2 (by omega) (by omega)⟩⟩
  · have y1 := y.1
    exact .inr (.inr (.inr (.inl ⟨k, ⟨⟨x.1.1, x.1.2.1, by rw [A 174 (h 170 e.toNat).toNat (by decide) (by omega) (by omega)]; exact x.1.2.2⟩, H _ _ _ _ x.2 (by omega) (by omega)⟩, ⟨y.1, H _ _ _ _ y.2 (by omega) (by omega)⟩⟩)))
  · exact .inr (.inr (.inr (.inr (.inl k))))
  · refine .inr (.inr (.inr (.inr (.inr (.inl ⟨k, ?_⟩)))))
    rcases x with x | x
    · exact .inl x
    · exact .inr ⟨⟨x.1.1, x.1.2.1, by rw [A 174 (h 170 e.toNat).toNat (by decide) (by omega) (by omega)]; exact x.1.2.2⟩, H _ _ _ _ x.2 (by omega) (by omega)⟩
  · exact .inr (.inr (.inr (.inr (.inr (.inr (.inl ⟨k, ⟨⟨x.1.1, x.1.2.1, by rw [A 174 (h 170 e.toNat).toNat (by decide) (by omega) (by omega)]; exact x.1.2.2⟩, H _ _ _ _ x.2 (by omega) (by omega)⟩⟩))))))
  · exact .inr (.inr (.inr (.inr (.inr (.inr (.inr (.inl ⟨⟨k.1, k.2.1, k.2.2.1, by rw [A 167 (h 170 e.toNat).toNat (by decide) (by omega) (by omega)]; exact k.2.2.2⟩, H _ _ _ _ x (by omega) (by omega)⟩)))))))
  · exact .inr (.inr (.inr (.inr (.inr (.inr (.inr (.inr (.inl ⟨⟨k.1, by rw [A 167 (h 170 e.toNat).toNat (by decide) (by have := x.1; omega) (by have := x.1; omega), A 175 (h 170 e.toNat).toNat (by decide) (by have := x.1; omega) (by have := x.1; omega)]; exact k.2⟩, w, wr, ⟨⟨x.1.1, x.1.2.1, by rw [A 174 (h 170 e.toNat).toNat (by decide) (by omega) (by omega)]; exact x.1.2.2⟩, H _ _ _ _ x.2 (by omega) (by omega)⟩, ⟨⟨y.1.1, y.1.2.1, by rw [A 174 (h 171 e.toNat).toNat (by decide) (by omega) (by omega)]; exact y.1.2.2⟩, H _ _ _ _ y.2 (by omega) (by omega)⟩⟩))))))))
  · exact .inr (.inr (.inr (.inr (.inr (.inr (.inr (.inr (.inr ⟨k, ⟨w0, ⟨x.1, H _ _ _ _ x.2 (by omega) (by omega)⟩⟩, ⟨y.1, H _ _ _ _ y.2 (by omega) (by omega)⟩⟩))))))))
theorem y3_map {a0 b0 : Int} (H : ∀ s a b e, F s a b e → a0 ≤ a → b ≤ b0 → G s a b e) (A : ∀ (c x : Nat), (c = 167 ∨ (170 ≤ c ∧ c ≤ 175)) → a0 ≤ (x : Int) → (x : Int) < b0 → r c x = h c x) (B : ∀ x : Nat, a0 ≤ (x : Int) → (x : Int) < b0 → h 167 x = 31 → r 176 x = h 176 x) (h5 : a0 ≤ a) (h6 : b ≤ b0) (x : y3 h F a b e) : y3 r G a b e := by
  rcases x with x | ⟨⟨q1, q2, q3⟩, x⟩
  · exact .inl x
  have k7 := A 167 e.toNat (by decide) (by omega) (by omega)
  have k0 := A 170 e.toNat (by decide) (by omega) (by omega)
  have k1 := A 171 e.toNat (by decide) (by omega) (by omega)
  have k2 := A 172 e.toNat (by decide) (by omega) (by omega)
  have k3 := A 173 e.toNat (by decide) (by omega) (by omega)
  have k4 := A 174 e.toNat (by decide) (by omega) (by omega)
  refine .inr ⟨⟨q1, q2, q3⟩, ?_⟩
  rw [k3]
  rcases x with ⟨w, x⟩ | ⟨w, x, y⟩
  · exact .inl ⟨w, H _ _ _ _ x (by omega) (by omega)⟩
  · exact .inr ⟨w, H _ _ _ _ x (by omega) (by omega), H _ _ _ _ y (by omega) (by omega)⟩
theorem yy_map {a0 b0 : Int} (A : ∀ (c x : Nat), (c = 167 ∨ (170 ≤ c ∧ c ≤ 175)) → a0 ≤ (x : Int) → (x : Int) < b0 → r c x = h c x) (B : ∀ x : Nat, a0 ≤ (x : Int) → (x : Int) < b0 → h 167 x = 31 → r 176 x = h 176 x) : ∀ (n s : Nat) (a b e : Int), YY h n s a b e → a0 ≤ a → b ≤ b0 → YY r n s a b e := by
  intro n
  induction n with
  | zero => intro s a b e x; exact False.elim x
  | succ n ih =>
    intro s a b e x h5 h6
    match s, x with
    | 0, x => exact y0_map ih A B h5 h6 x
    | 1, x => exact y1_map ih A B h5 h6 x
    | 2, x => exact y2_map ih A B h5 h6 x
    | s + 3, x => exact y3_map ih A B h5 h6 x
theorem yy_s : ∀ (n s : Nat) (a b e : Int), YY h n s a b e → ∀ k, YY h (n + k) s a b e := by
  intro n
  induction n with
  | zero => intro s a b e x; exact False.elim x
  | succ n ih =>
    intro s a b e x k
    have hh : ∀ s a b e, YY h n s a b e → YY h (n + k) s a b e := fun s a b e y => ih s a b e y k
    have z : n + 1 + k = (n + k) + 1 := by omega
    rw [z]
    match s, x with
    | 0, x => exact y0_map (a0 := a) (b0 := b) (fun s a b e y _ _ => hh s a b e y) (fun _ _ _ _ _ => rfl) (fun _ _ _ _ => rfl) (by omega) (by omega) x
    | 1, x => exact y1_map (a0 := a) (b0 := b) (fun s a b e y _ _ => hh s a b e y) (fun _ _ _ _ _ => rfl) (fun _ _ _ _ => rfl) (by omega) (by omega) x
    | 2, x => exact y2_map (a0 := a) (b0 := b) (fun s a b e y _ _ => hh s a b e y) (fun _ _ _ _ _ => rfl) (fun _ _ _ _ => rfl) (by omega) (by omega) x
    | s + 3, x => exact y3_map (a0 := a) (b0 := b) (fun s a b e y _ _ => hh s a b e y) (fun _ _ _ _ _ => rfl) (fun _ _ _ _ => rfl) (by omega) (by omega) x
theorem yy_le {n k s : Nat} (x : YY h n s a b e) (hk : n ≤ k) : YY h k s a b e := by
  have := yy_s n s a b e x (k - n)
  rwa [show n + (k - n) = k by omega] at this
def YT (h : ms_M) (s : Nat) (a b e : Int) : Prop := ∃ n, YY h n s a b e
theorem yt_fr {s : Nat} (x : YT h s a b e) (A : ∀ (c x : Nat), (c = 167 ∨ (170 ≤ c ∧ c ≤ 175)) → a ≤ (x : Int) → (x : Int) < b → r c x = h c x) (B : ∀ x : Nat, a ≤ (x : Int) → (x : Int) < b → h 167 x = 31 → r 176 x = h 176 x) : YT r s a b e := by
  obtain ⟨n, x⟩ := x
  exact ⟨n, yy_map A B n s a b e x (Int.le_refl _) (Int.le_refl _)⟩
theorem yt_o0 (x : YT h 0 a b e) : y0 h (YT h) a b e := by
  obtain ⟨n, x⟩ := x
  cases n with
  | zero => exact False.elim x
  | succ n => exact y0_map (a0 := a) (b0 := b) (fun s a b e y _ _ => ⟨n, y⟩) (fun _ _ _ _ _ => rfl) (fun _ _ _ _ => rfl) (by omega) (by omega) x
theorem yt_o1 (x : YT h 1 a b e) : y1 h (YT h) a b e := by
  obtain ⟨n, x⟩ := x
  cases n with
  | zero => exact False.elim x
  | succ n => exact y1_map (a0 := a) (b0 := b) (fun s a b e y _ _ => ⟨n, y⟩) (fun _ _ _ _ _ => rfl) (fun _ _ _ _ => rfl) (by omega) (by omega) x
theorem yt_o2 (x : YT h 2 a b e) : y2 h (YT h) a b e := by
  obtain ⟨n, x⟩ := x
  cases n with
  | zero => exact False.elim x
  | succ n => exact y2_map (a0 := a) (b0 := b) (fun s a b e y _ _ => ⟨n, y⟩) (fun _ _ _ _ _ => rfl) (fun _ _ _ _ => rfl) (by omega) (by omega) x
theorem yt_o3 (x : YT h 3 a b e) : y3 h (YT h) a b e := by
  obtain ⟨n, x⟩ := x
  cases n with
  | zero => exact False.elim x
  | succ n => exact y3_map (a0 := a) (b0 := b) (fun s a b e y _ _ => ⟨n, y⟩) (fun _ _ _ _ _ => rfl) (fun _ _ _ _ => rfl) (by omega) (by omega) x
theorem yt_n {z : ms_M} {v j : Int} {s : Nat} (E : z = up_M h 174 j.toNat v) (hj : 0 ≤ j) (x : YT h s a b e) (hr : b ≤ j ∨ j + 1 ≤ a) : YT z s a b e := yt_fr x (fun c y h1 h2 h3 => by rw [E]; exact up_n (by omega)) (fun y _ _ _ => by rw [E]; exact up_n (by omega))
/-- the type of e is written down -/
theorem yr_up {z : ms_M} {v : Int} (x : y0 h (YT h) a b e) (E : z = up_M h 174 e.toNat v) : y0 z (YT z) a b e := by
  obtain ⟨⟨q1, q2, q3⟩, x⟩ := x
  have n : ∀ (c x : Nat), ¬ (c = 174 ∧ x = e.toNat) → z c x = h c x := fun c x w => by rw [E]; exact up_n w
  have g4 : ∀ y : Nat, y ≠ e.toNat → z 174 y = h 174 y := fun y w => n 174 y (by omega)
  have H : ∀ (s : Nat) (a b c : Int), YT h s a b c → (b ≤ e ∨ e + 1 ≤ a) → YT z s a b c := fun s a b c y w => yt_n E (by omega) y w
  unfold y0
  rw [n 167 _ (by omega), n 170 _ (by omega), n 171 _ (by omega), n 172 _ (by omega), n 176 _ (by omega)]
  refine ⟨⟨q1, q2, q3⟩, ?_⟩
  rcases x with x | x | ⟨k, x⟩ | ⟨k, x⟩ | ⟨k, x⟩ | ⟨k, x, y⟩ | ⟨k, x, y⟩ | ⟨k, x⟩ | ⟨k, x, w, wr, y, u⟩
  · exact .inl x
  · exact .inr (.inl x)
  · exact .inr (.inr (.inl ⟨k, H _ _ _ _ x (by omega)⟩))
  · exact .inr (.inr (.inr (.inl ⟨k, ⟨⟨x.1.1, x.1.2.1, by rw [g4 (h 170 e.toNat).toNat (by omega)]; exact x.1.2.2⟩, H _ _ _ _ x.2 (by omega)⟩⟩)))
  · exact .inr (.inr (.inr (.inr (.inl ⟨k, ⟨⟨x.1.1, x.1.2.1, by rw [g4 (h 170 e.toNat).toNat (by omega)]; exact x.1.2.2⟩, H _ _ _ _ x.2 (by omega)⟩⟩))))
  · refine .inr (.inr (.inr (.inr (.inr (.inl ⟨k, ?_, H _ _ _ _ y (by omega)⟩)))))
    rcases x with x | x
    · exact .inl x
    · exact .inr ⟨⟨x.1.1, x.1.2.1, by rw [g4 (h 170 e.toNat).toNat (by omega)]; exact x.1.2.2⟩, H _ _ _ _ x.2 (by omega)⟩
  · exact .inr (.inr (.inr (.inr (.inr (.inr (.inl ⟨k, ⟨⟨x.1.1, x.1.2.1, by rw [g4 (h 170 e.toNat).toNat (by omega)]; exact x.1.2.2⟩, H _ _ _ _ x.2 (by omega)⟩, ⟨⟨y.1.1, y.1.2.1, by rw [g4 (h 171 e.toNat).toNat (by omega)]; exact y.1.2.2⟩, H _ _ _ _ y.2 (by omega)⟩⟩))))))
  · exact .inr (.inr (.inr (.inr (.inr (.inr (.inr (.inl ⟨k, ⟨⟨x.1.1, x.1.2.1, by rw [g4 (h 170 e.toNat).toNat (by omega)]; exact x.1.2.2⟩, H _ _ _ _ x.2 (by omega)⟩⟩)))))))
  · exact .inr (.inr (.inr (.inr (.inr (.inr (.inr (.inr ⟨k, ⟨⟨x.1.1, x.1.2.1, by rw [g4 (h 170 e.toNat).toNat (by omega)]; exact x.1.2.2⟩, H _ _ _ _ x.2 (by omega)⟩, w, wr, ⟨⟨y.1.1, y.1.2.1, by rw [g4 (h 171 e.toNat).toNat (by omega)]; exact y.1.2.2⟩, H _ _ _ _ y.2 (by omega)⟩, ⟨⟨u.1.1, u.1.2.1, by rw [g4 (h 172 e.toNat).toNat (by omega)]; exact u.1.2.2⟩, H _ _ _ _ u.2 (by omega)⟩⟩)))))))
theorem yt_i0 (H : y0 h (YT h) a b e) : YT h 0 a b e := by
  obtain ⟨q, x⟩ := H
  rcases x with x | x | ⟨k, n, x⟩ | ⟨k, w, n, x⟩ | ⟨k, w, n, x⟩ | ⟨k, x, ⟨p, y⟩⟩ | ⟨k, ⟨w, n, x⟩, ⟨v, p, y⟩⟩ | ⟨k, w, n, x⟩ | ⟨k, ⟨u, n, x⟩, w, wr, ⟨v, p, y⟩, ⟨t, o, z⟩⟩
  · exact ⟨1, q, .inl x⟩
  · exact ⟨1, q, .inr (.inl x)⟩
  · exact ⟨n + 1, q, .inr (.inr (.inl ⟨k, x⟩))⟩
  · exact ⟨n + 1, q, .inr (.inr (.inr (.inl ⟨k, w, x⟩)))⟩
  · exact ⟨n + 1, q, .inr (.inr (.inr (.inr (.inl ⟨k, w, x⟩))))⟩
  · rcases x with x | ⟨w, n, x⟩
    · exact ⟨p + 1, q, .inr (.inr (.inr (.inr (.inr (.inl ⟨k, .inl x, y⟩)))))⟩
    · exact ⟨n + p + 1, q, .inr (.inr (.inr (.inr (.inr (.inl ⟨k, .inr ⟨w, yy_le x (by omega)⟩, yy_le y (by omega)⟩)))))⟩
  · exact ⟨n + p + 1, q, .inr (.inr (.inr (.inr (.inr (.inr (.inl ⟨k, ⟨w, yy_le x (by omega)⟩, ⟨v, yy_le y (by omega)⟩⟩))))))⟩
  · exact ⟨n + 1, q, .inr (.inr (.inr (.inr (.inr (.inr (.inr (.inl ⟨k, w, x⟩)))))))⟩
  · exact ⟨n + p + o + 1, q, .inr (.inr (.inr (.inr (.inr (.inr (.inr (.inr ⟨k, ⟨u, yy_le x (by omega)⟩, w, wr, ⟨v, yy_le y (by omega)⟩, ⟨t, yy_le z (by omega)⟩⟩)))))))⟩
theorem yt_i1 (H : y1 h (YT h) a b e) : YT h 1 a b e := by
  rcases H with x | ⟨q, ⟨w, n, x⟩, ⟨p, y⟩⟩
  · exact ⟨1, .inl x⟩
  · exact ⟨n + p + 1, .inr ⟨q, ⟨w, yy_le x (by omega)⟩, yy_le y (by omega)⟩⟩
theorem yt_i2 (H : y2 h (YT h) a b e) : YT h 2 a b e := by
  obtain ⟨q, x⟩ := H
  rcases x with ⟨k, n, x⟩ | ⟨k, w, n, x⟩ | ⟨k, w, ⟨v, n, x⟩, z⟩ | ⟨k, ⟨v, n, x⟩, ⟨u, p, y⟩⟩ | k | ⟨k, x⟩ | ⟨k, w, n, x⟩ | ⟨k, n, x⟩ | ⟨k, w, wr, ⟨v, n, x⟩, ⟨u, p, y⟩⟩ | ⟨k, ⟨w0, v, n, x⟩, ⟨u, p, y⟩⟩
  · exact ⟨n + 1, q, .inl ⟨k, x⟩⟩
  · exact ⟨n + 1, q, .inr (.inl ⟨k, w, x⟩)⟩
  · rcases z with ⟨z, u, p, y⟩ | ⟨w0, ⟨u, p, y⟩, ⟨t, o, z⟩⟩
    · exact ⟨n + p + 1, q, .inr (.inr (.inl ⟨k, w, ⟨v, yy_le x (by omega)⟩, .inl ⟨z, u, yy_le y (by omega)⟩⟩))⟩
    · exact ⟨n + p + o + 1, q, .inr (.inr (.inl ⟨k, w, ⟨v, yy_le x (by omega)⟩, .inr ⟨w0, ⟨u, yy_le y (by omega)⟩, ⟨t, yy_le z (by omega)⟩⟩⟩))⟩
  · exact ⟨n + p + 1, q, .inr (.inr (.inr (.inl ⟨k, ⟨v, yy_le x (by omega)⟩, ⟨u, yy_le y (by omega)⟩⟩)))⟩
  · exact ⟨1, q, .inr (.inr (.inr (.inr (.inl k))))⟩
  · rcases x with x | ⟨w, n, x⟩
    · exact ⟨1, q, .inr (.inr (.inr (.inr (.inr (.inl ⟨k, .inl x⟩)))))⟩
    · exact ⟨n + 1, q, .inr (.inr (.inr (.inr (.inr (.inl ⟨k, .inr ⟨w, x⟩⟩)))))⟩
  · exact ⟨n + 1, q, .inr (.inr (.inr (.inr (.inr (.inr (.inl ⟨k, w, x⟩))))))⟩
  · exact ⟨n + 1, q, .inr (.inr (.inr (.inr (.inr (.inr (.inr (.inl ⟨k, x⟩)))))))⟩
  · exact ⟨n + p + 1, q, .inr (.inr (.inr (.inr (.inr (.inr (.inr (.inr (.inl ⟨k, w, wr, ⟨v, yy_le x (by omega)⟩, ⟨u, yy_le y (by omega)⟩⟩))))))))⟩
  · exact ⟨n + p + 1, q, .inr (.inr (.inr (.inr (.inr (.inr (.inr (.inr (.inr ⟨k, ⟨w0, v, yy_le x (by omega)⟩, ⟨u, yy_le y (by omega)⟩⟩))))))))⟩
theorem yt_i3 (H : y3 h (YT h) a b e) : YT h 3 a b e := by
  rcases H with x | ⟨q, x⟩
  · exact ⟨1, .inl x⟩
  · rcases x with ⟨w, n, x⟩ | ⟨w, ⟨n, x⟩, ⟨p, y⟩⟩
    · exact ⟨n + 1, .inr ⟨q, .inl ⟨w, x⟩⟩⟩
    · exact ⟨n + p + 1, .inr ⟨q, .inr ⟨w, yy_le x (by omega), yy_le y (by omega)⟩⟩⟩
section
variable {t g : ms_M} {lo hi : Int}
/-- the tree's cells are t's -/
def TC (t g : ms_M) : Prop := ∀ c x : Nat, (c = 167 ∨ (170 ≤ c ∧ c ≤ 173)) → g c x = t c x
/-- an operand: seen, and with a value -/
def OV (g : ms_M) (lo hi c : Int) : Prop := (lo ≤ c ∧ c < hi ∧ ¬ g 174 c.toNat = 3) ∧ YT g 0 lo hi c
theorem yl_leaf (B : TC t g) (q : 0 ≤ a ∧ a ≤ e ∧ e < b) (hk : (20 ≤ t 167 e.toNat ∧ t 167 e.toNat ≤ 25) ∨ t 167 e.toNat = 27) : y0 g (YT g) a b e := ⟨q, by
  rw [B 167 _ (by decide)]
  rcases hk with k | k
  · exact .inl k
  · exact .inr (.inl k)⟩
theorem yl_26 (B : TC t g) (q : 0 ≤ a ∧ a ≤ e ∧ e < b) (hk : t 167 e.toNat = 26) (x : YT g 1 (e + 1) b (t 171 e.toNat)) : y0 g (YT g) a b e := ⟨q, by
  rw [B 167 _ (by decide), B 171 _ (by decide)]
  exact .inr (.inr (.inl ⟨hk, x⟩))⟩
theorem yl_28 (B : TC t g) (q : 0 ≤ a ∧ a ≤ e ∧ e < b) (hk : t 167 e.toNat = 28 ∨ t 167 e.toNat = 29) (x : OV g (e + 1) b (t 170 e.toNat)) : y0 g (YT g) a b e := ⟨q, by
  rw [B 167 _ (by decide), B 170 _ (by decide)]
  exact .inr (.inr (.inr (.inl ⟨hk, x⟩)))⟩
theorem yl_30 (B : TC t g) (q : 0 ≤ a ∧ a ≤ e ∧ e < b) (hk : t 167 e.toNat = 30 ∨ t 167 e.toNat = 38) (x : OV g a e (t 170 e.toNat)) : y0 g (YT g) a b e := ⟨q, by
  rw [B 167 _ (by decide), B 170 _ (by decide)]
  exact .inr (.inr (.inr (.inr (.inl ⟨hk, x⟩))))⟩
theorem yl_31 (B : TC t g) (q : 0 ≤ a ∧ a ≤ e ∧ e < b) (hk : t 167 e.toNat = 31) (x : ¬ g 176 e.toNat = -1 ∨ OV g a e (t 170 e.toNat)) (y : YT g 1 (e + 1) b (t 171 e.toNat)) : y0 g (YT g) a b e := ⟨q, by
  rw [B 167 _ (by decide), B 170 _ (by decide), B 171 _ (by decide)]
  exact .inr (.inr (.inr (.inr (.inr (.inl ⟨hk, x, y⟩)))))⟩
theorem yl_37 (B : TC t g) (q : 0 ≤ a ∧ a ≤ e ∧ e < b) (hk : t 167 e.toNat = 32 ∨ t 167 e.toNat = 37) (x : OV g a e (t 170 e.toNat)) (y : OV g (e + 1) b (t 171 e.toNat)) : y0 g (YT g) a b e := ⟨q, by
  rw [B 167 _ (by decide), B 170 _ (by decide), B 171 _ (by decide)]
  exact .inr (.inr (.inr (.inr (.inr (.inr (.inl ⟨hk, x, y⟩))))))⟩
theorem yl_33 (B : TC t g) (q : 0 ≤ a ∧ a ≤ e ∧ e < b) (hk : 33 ≤ t 167 e.toNat ∧ t 167 e.toNat ≤ 36) (x : OV g (e + 1) b (t 170 e.toNat)) : y0 g (YT g) a b e := ⟨q, by
  rw [B 167 _ (by decide), B 170 _ (by decide)]
  exact .inr (.inr (.inr (.inr (.inr (.inr (.inr (.inl ⟨hk, x⟩)))))))⟩
theorem yl_39 {p : Int} (B : TC t g) (q : 0 ≤ a ∧ a ≤ e ∧ e < b) (hk : t 167 e.toNat = 39) (x : OV g a e (t 170 e.toNat)) (hp : e < p ∧ p ≤ b) (y : OV g (e + 1) p (t 171 e.toNat)) (z : OV g p b (t 172 e.toNat)) : y0 g (YT g) a b e := ⟨q, by
  rw [B 167 _ (by decide), B 170 _ (by decide), B 171 _ (by decide), B 172 _ (by decide)]
  exact .inr (.inr (.inr (.inr (.inr (.inr (.inr (.inr ⟨hk, x, p, hp, y, z⟩)))))))⟩
/-- a statement that has been seen -/
theorem zl_2 (B : TC t g) (q : 0 ≤ a ∧ a ≤ e ∧ e < b) (hk : t 167 e.toNat = 2) (x : OV g (e + 1) b (t 170 e.toNat)) : y2 g (YT g) a b e := ⟨q, by
  rw [B 167 _ (by decide), B 170 _ (by decide)]
  exact .inr (.inl ⟨hk, x⟩)⟩
theorem zl_3a (B : TC t g) (q : 0 ≤ a ∧ a ≤ e ∧ e < b) (hk : t 167 e.toNat = 3 ∧ t 172 e.toNat = -1) (x : OV g (e + 1) (t 171 e.toNat) (t 170 e.toNat)) (w : e < t 171 e.toNat ∧ t 171 e.toNat < b) (y : YT g 2 (t 171 e.toNat) b (t 171 e.toNat)) : y2 g (YT g) a b e := ⟨q, by
  rw [B 167 _ (by decide), B 170 _ (by decide), B 171 _ (by decide), B 172 _ (by decide)]
  exact .inr (.inr (.inl ⟨hk.1, by omega, x, .inl ⟨hk.2, w, y⟩⟩))⟩
theorem zl_3b (B : TC t g) (q : 0 ≤ a ∧ a ≤ e ∧ e < b) (hk : t 167 e.toNat = 3) (x : OV g (e + 1) (t 171 e.toNat) (t 170 e.toNat)) (w : e < t 171 e.toNat ∧ t 171 e.toNat < t 172 e.toNat) (y : YT g 2 (t 171 e.toNat) (t 172 e.toNat) (t 171 e.toNat)) (v : e < t 172 e.toNat ∧ t 172 e.toNat < b) (z : YT g 2 (t 172 e.toNat) b (t 172 e.toNat)) : y2 g (YT g) a b e := ⟨q, by
  rw [B 167 _ (by decide), B 170 _ (by decide), B 171 _ (by decide), B 172 _ (by decide)]
  exact .inr (.inr (.inl ⟨hk, by omega, x, .inr ⟨v.2, ⟨w, y⟩, ⟨v, z⟩⟩⟩))⟩
theorem zl_4 (B : TC t g) (q : 0 ≤ a ∧ a ≤ e ∧ e < b) (hk : t 167 e.toNat = 4) (x : OV g (e + 1) (t 171 e.toNat) (t 170 e.toNat)) (w : e < t 171 e.toNat ∧ t 171 e.toNat < b) (y : YT g 2 (t 171 e.toNat) b (t 171 e.toNat)) : y2 g (YT g) a b e := ⟨q, by
  rw [B 167 _ (by decide), B 170 _ (by decide), B 171 _ (by decide)]
  exact .inr (.inr (.inr (.inl ⟨hk, x, w, y⟩)))⟩
theorem zl_5 (B : TC t g) (q : 0 ≤ a ∧ a ≤ e ∧ e < b) (hk : t 167 e.toNat = 5 ∨ t 167 e.toNat = 6) : y2 g (YT g) a b e := ⟨q, by
  rw [B 167 _ (by decide)]
  exact .inr (.inr (.inr (.inr (.inl hk))))⟩
theorem zl_7a (B : TC t g) (q : 0 ≤ a ∧ a ≤ e ∧ e < b) (hk : t 167 e.toNat = 7 ∧ t 170 e.toNat = -1) : y2 g (YT g) a b e := ⟨q, by
  rw [B 167 _ (by decide), B 170 _ (by decide)]
  exact .inr (.inr (.inr (.inr (.inr (.inl ⟨hk.1, .inl hk.2⟩)))))⟩
theorem zl_7b (B : TC t g) (q : 0 ≤ a ∧ a ≤ e ∧ e < b) (hk : t 167 e.toNat = 7) (x : OV g (e + 1) b (t 170 e.toNat)) : y2 g (YT g) a b e := ⟨q, by
  rw [B 167 _ (by decide), B 170 _ (by decide)]
  exact .inr (.inr (.inr (.inr (.inr (.inl ⟨hk, .inr x⟩)))))⟩
theorem zl_8 (B : TC t g) (q : 0 ≤ a ∧ a ≤ e ∧ e < b) (hk : t 167 e.toNat = 8 ∨ t 167 e.toNat = 10) (x : OV g (e + 1) b (t 170 e.toNat)) : y2 g (YT g) a b e := ⟨q, by
  rw [B 167 _ (by decide), B 170 _ (by decide)]
  exact .inr (.inr (.inr (.inr (.inr (.inr (.inl ⟨hk, x⟩))))))⟩
theorem zl_11 (B : TC t g) (q : 0 ≤ a ∧ a ≤ e ∧ e < b) (hk : t 167 e.toNat = 11) (w : e + 1 ≤ t 170 e.toNat ∧ t 170 e.toNat < b ∧ (t 167 (t 170 e.toNat).toNat = 26 ∨ t 167 (t 170 e.toNat).toNat = 31)) (x : YT g 0 (e + 1) b (t 170 e.toNat)) : y2 g (YT g) a b e := ⟨q, by
  rw [B 167 e.toNat (by decide), B 170 _ (by decide), B 167 (t 170 e.toNat).toNat (by decide)]
  exact .inr (.inr (.inr (.inr (.inr (.inr (.inr (.inl ⟨⟨hk, w⟩, x⟩)))))))⟩
theorem zl_12 {p : Int} (B : TC t g) (q : 0 ≤ a ∧ a ≤ e ∧ e < b) (hk : t 167 e.toNat = 12) (hp : e < p ∧ p ≤ b) (x : OV g (e + 1) p (t 170 e.toNat)) (y : OV g p b (t 171 e.toNat)) (k : t 167 (t 170 e.toNat).toNat = 25 ∨ t 167 (t 170 e.toNat).toNat = 32 ∨ (t 167 (t 170 e.toNat).toNat = 30 ∧ 0 ≤ g 175 (t 170 e.toNat).toNat)) : y2 g (YT g) a b e := ⟨q, by
  rw [B 167 e.toNat (by decide), B 170 _ (by decide), B 171 _ (by decide), B 167 (t 170 e.toNat).toNat (by decide)]
  exact .inr (.inr (.inr (.inr (.inr (.inr (.inr (.inr (.inl ⟨⟨hk, k⟩, p, hp, x, y⟩))))))))⟩
theorem zl_9 (B : TC t g) (q : 0 ≤ a ∧ a ≤ e ∧ e < b) (hk : t 167 e.toNat = 9) (w : e < t 170 e.toNat ∧ t 170 e.toNat < t 171 e.toNat) (x : YT g 2 (t 170 e.toNat) (t 171 e.toNat) (t 170 e.toNat)) (v : e < t 171 e.toNat ∧ t 171 e.toNat < b) (y : YT g 2 (t 171 e.toNat) b (t 171 e.toNat)) : y2 g (YT g) a b e := ⟨q, by
  rw [B 167 _ (by decide), B 170 _ (by decide), B 171 _ (by decide)]
  exact .inr (.inr (.inr (.inr (.inr (.inr (.inr (.inr (.inr ⟨hk, ⟨v.2, w, x⟩, ⟨v, y⟩⟩))))))))⟩
end
/-- types and slots are written between a and b alone -/
def FG (a b : Int) (h r : ms_M) : Prop := ∀ x : Nat, ((x : Int) < a ∨ b ≤ (x : Int)) → r 174 x = h 174 x ∧ r 176 x = h 176 x ∧ r 175 x = h 175 x
theorem fg_rf : FG a b h h := fun _ _ => ⟨rfl, rfl, rfl⟩
theorem fg_tr {g : ms_M} {a2 b2 a3 b3 : Int} (x : FG a2 b2 h g) (y : FG a3 b3 g r) (w : (b2 ≤ a2 ∨ (a ≤ a2 ∧ b2 ≤ b)) ∧ (b3 ≤ a3 ∨ (a ≤ a3 ∧ b3 ≤ b))) : FG a b h r := fun k hk => by
  have p : r 174 k = g 174 k ∧ r 176 k = g 176 k ∧ r 175 k = g 175 k := y k (by omega)
  have q : g 174 k = h 174 k ∧ g 176 k = h 176 k ∧ g 175 k = h 175 k := x k (by omega)
  exact ⟨p.1.trans q.1, p.2.1.trans q.2.1, p.2.2.trans q.2.2⟩
theorem fg_up {z : ms_M} {c : Nat} {j v : Int} (E : z = up_M h c j.toNat v) (hj : 0 ≤ j) : FG j (j + 1) h z := fun k hk => by rw [E]; exact ⟨up_n (by omega), up_n (by omega), up_n (by omega)⟩
theorem fg_fd {z : ms_M} {k : Nat} {v : Int} (E : z = up_M h 160 k v) : FG 0 0 h z := fun k hk => by rw [E]; exact ⟨up_n (by omega), up_n (by omega), up_n (by omega)⟩
/-- a typed tree is left by what is written elsewhere -/
theorem yt_fg {s : Nat} {a2 b2 : Int} {t : ms_M} (B1 : TC t h) (B2 : TC t r) (F : FG a2 b2 h r) (w : b2 ≤ a ∨ b ≤ a2 ∨ b2 ≤ a2) (x : YT h s a b e) : YT r s a b e := yt_fr x (fun c y h1 h2 h3 => by
  by_cases q : c = 174
  · rw [q]; exact (F y (by omega)).1
  · by_cases q2 : c = 175
    · rw [q2]; exact (F y (by omega)).2.2
    · rw [B2 c y (by omega), B1 c y (by omega)]) (fun y h2 h3 _ => (F y (by omega)).2.1)
theorem ov_fg {a2 b2 : Int} {t : ms_M} (B1 : TC t h) (B2 : TC t r) (F : FG a2 b2 h r) (ha : 0 ≤ a) (w : b2 ≤ a ∨ b ≤ a2 ∨ b2 ≤ a2) (x : OV h a b e) : OV r a b e := by
  obtain ⟨⟨x1, x2, x3⟩, x4⟩ := x
  exact ⟨⟨x1, x2, by rw [(F e.toNat (by omega)).1]; exact x3⟩, yt_fg B1 B2 F w x4⟩
end
end
section
section
variable {m : Int} {t h g r z : ms_M} {d a b e : Int}
theorem te_k26 (T : TE m h 0 d a b e) (hk : h 167 e.toNat = 26) : 4 ≤ d ∧ TE m h 1 (d - 3 - m) (e + 1) b (h 171 e.toNat) := by
  obtain ⟨q, x⟩ := te_o0 T
  rcases x with x | x | x | x | x | x | x | x | x | x
  · exfalso; omega
  · exfalso; omega
  · exact ⟨x.1.2, x.2⟩
  · exfalso; have := x.1; omega
  · exfalso; have := x.1; omega
  · exfalso; have := x.1; omega
  · exfalso; have := x.1; omega
  · exfalso; have := x.1; omega
  · exfalso; have := x.1; omega
  · exfalso; have := x.1; omega
theorem te_k28 (T : TE m h 0 d a b e) (hk : h 167 e.toNat = 28 ∨ h 167 e.toNat = 29) : (h 167 e.toNat = 28 ∨ (0 ≤ h 172 e.toNat ∧ h 172 e.toNat ≤ 3001)) ∧ TE m h 0 (d - 2 - m) (e + 1) b (h 170 e.toNat) := by
  obtain ⟨q, x⟩ := te_o0 T
  rcases x with x | x | x | x | x | x | x | x | x | x
  · exfalso; omega
  · exfalso; omega
  · exfalso; have := x.1; omega
  · exact ⟨by rcases x.1 with y | y; exact .inl y; exact .inr y.2, x.2⟩
  · exfalso; have := x.1; omega
  · exfalso; have := x.1; omega
  · exfalso; have := x.1; omega
  · exfalso; have := x.1; omega
  · exfalso; have := x.1; omega
  · exfalso; have := x.1; omega
theorem te_k30 (T : TE m h 0 d a b e) (hk : h 167 e.toNat = 30) : (0 ≤ h 172 e.toNat ∧ h 172 e.toNat ≤ 3001) ∧ TE m h 0 d a e (h 170 e.toNat) := by
  obtain ⟨q, x⟩ := te_o0 T
  rcases x with x | x | x | x | x | x | x | x | x | x
  · exfalso; omega
  · exfalso; omega
  · exfalso; have := x.1; omega
  · exfalso; have := x.1; omega
  · exact ⟨x.1.2, x.2⟩
  · exfalso; have := x.1; omega
  · exfalso; have := x.1; omega
  · exfalso; have := x.1; omega
  · exfalso; have := x.1; omega
  · exfalso; have := x.1; omega
theorem te_k31 (T : TE m h 0 d a b e) (hk : h 167 e.toNat = 31) : 4 ≤ d ∧ (0 ≤ h 172 e.toNat ∧ h 172 e.toNat ≤ 3001) ∧ TE m h 0 d a e (h 170 e.toNat) ∧ TE m h 1 (d - 3 - 2 * m) (e + 1) b (h 171 e.toNat) := by
  obtain ⟨q, x⟩ := te_o0 T
  rcases x with x | x | x | x | x | x | x | x | x | x
  · exfalso; omega
  · exfalso; omega
  · exfalso; have := x.1; omega
  · exfalso; have := x.1; omega
  · exfalso; have := x.1; omega
  · exact ⟨x.1.2.1, x.1.2.2, x.2⟩
  · exfalso; have := x.1; omega
  · exfalso; have := x.1; omega
  · exfalso; have := x.1; omega
  · exfalso; have := x.1; omega
theorem te_k37 (T : TE m h 0 d a b e) (hk : h 167 e.toNat = 32 ∨ h 167 e.toNat = 37) : TE m h 0 d a e (h 170 e.toNat) ∧ TE m h 0 (d - 3) (e + 1) b (h 171 e.toNat) := by
  obtain ⟨q, x⟩ := te_o0 T
  rcases x with x | x | x | x | x | x | x | x | x | x
  · exfalso; omega
  · exfalso; omega
  · exfalso; have := x.1; omega
  · exfalso; have := x.1; omega
  · exfalso; have := x.1; omega
  · exfalso; have := x.1; omega
  · exact x.2
  · exfalso; have := x.1; omega
  · exfalso; have := x.1; omega
  · exfalso; have := x.1; omega
theorem te_k33 (T : TE m h 0 d a b e) (hk : 33 ≤ h 167 e.toNat ∧ h 167 e.toNat ≤ 36) : TE m h 0 (d - 2 - 2 * m) (e + 1) b (h 170 e.toNat) := by
  obtain ⟨q, x⟩ := te_o0 T
  rcases x with x | x | x | x | x | x | x | x | x | x
  · exfalso; omega
  · exfalso; omega
  · exfalso; have := x.1; omega
  · exfalso; have := x.1; omega
  · exfalso; have := x.1; omega
  · exfalso; have := x.1; omega
  · exfalso; have := x.1; omega
  · exact x.2
  · exfalso; have := x.1; omega
  · exfalso; have := x.1; omega
theorem te_k38 (T : TE m h 0 d a b e) (hk : h 167 e.toNat = 38) : TE m h 0 d a e (h 170 e.toNat) := by
  obtain ⟨q, x⟩ := te_o0 T
  rcases x with x | x | x | x | x | x | x | x | x | x
  · exfalso; omega
  · exfalso; omega
  · exfalso; have := x.1; omega
  · exfalso; have := x.1; omega
  · exfalso; have := x.1; omega
  · exfalso; have := x.1; omega
  · exfalso; have := x.1; omega
  · exfalso; have := x.1; omega
  · exact x.2
  · exfalso; have := x.1; omega
theorem te_k39 (T : TE m h 0 d a b e) (hk : h 167 e.toNat = 39) : TE m h 0 (d - 2 - 2 * m) a e (h 170 e.toNat) ∧ TE m h 0 (d - 2 - 2 * m) (e + 1) b (h 171 e.toNat) ∧ TE m h 0 (d - 2 - 2 * m) (e + 1) b (h 172 e.toNat) := by
  obtain ⟨q, x⟩ := te_o0 T
  rcases x with x | x | x | x | x | x | x | x | x | x
  · exfalso; omega
  · exfalso; omega
  · exfalso; have := x.1; omega
  · exfalso; have := x.1; omega
  · exfalso; have := x.1; omega
  · exfalso; have := x.1; omega
  · exfalso; have := x.1; omega
  · exfalso; have := x.1; omega
  · exfalso; have := x.1; omega
  · exact (by obtain ⟨_, x1, w, wr, y, z⟩ := x; exact ⟨x1, te_wd y (by omega) (by omega) (by omega) (by omega), te_wd z (by omega) (by omega) (by omega) (by omega)⟩)
theorem te_x39 (T : TE m h 0 d a b e) (hk : h 167 e.toNat = 39) : TE m h 0 (d - 2 - 2 * m) a e (h 170 e.toNat) ∧ ∃ y, (e < y ∧ y ≤ b) ∧ TE m h 0 (d - 2 - 2 * m) (e + 1) y (h 171 e.toNat) ∧ TE m h 0 (d - 2 - 2 * m) y b (h 172 e.toNat) := by
  obtain ⟨q, x⟩ := te_o0 T
  rcases x with x | x | x | x | x | x | x | x | x | x
  · exfalso; omega
  · exfalso; omega
  · exfalso; have := x.1; omega
  · exfalso; have := x.1; omega
  · exfalso; have := x.1; omega
  · exfalso; have := x.1; omega
  · exfalso; have := x.1; omega
  · exfalso; have := x.1; omega
  · exfalso; have := x.1; omega
  · exact x.2
theorem te_x3 (T : TE m h 2 d a b e) (hk : h 167 e.toNat = 3) : TE m h 0 (RE m 1) (e + 1) (h 171 e.toNat) (h 170 e.toNat) ∧ ((h 172 e.toNat = -1 ∧ (e < h 171 e.toNat ∧ h 171 e.toNat < b ∧ h 169 e.toNat ≤ h 169 (h 171 e.toNat).toNat) ∧ TE m h 2 (d - 1) (h 171 e.toNat) b (h 171 e.toNat)) ∨ (h 172 e.toNat < b ∧ ((e < h 171 e.toNat ∧ h 171 e.toNat < h 172 e.toNat ∧ h 169 e.toNat ≤ h 169 (h 171 e.toNat).toNat) ∧ TE m h 2 (d - 1) (h 171 e.toNat) (h 172 e.toNat) (h 171 e.toNat)) ∧ ((e < h 172 e.toNat ∧ h 172 e.toNat < b ∧ h 169 e.toNat ≤ h 169 (h 172 e.toNat).toNat) ∧ TE m h 2 (d - 1) (h 172 e.toNat) b (h 172 e.toNat)))) := by
  obtain ⟨q, x⟩ := te_o2 T
  rcases x with x | x | x | x | x | x | x | x | x
  · exfalso; have := x.1; omega
  · exfalso; have := x.1.1; omega
  · exact x.2
  · exfalso; have := x.1; omega
  · exfalso; omega
  · exfalso; have := x.1; omega
  · exfalso; have := x.1; omega
  · exfalso; have := x.1; omega
  · exfalso; have := x.1.1; omega
theorem te_x4 (T : TE m h 2 d a b e) (hk : h 167 e.toNat = 4) : TE m h 0 (RE m 1) (e + 1) (h 171 e.toNat) (h 170 e.toNat) ∧ ((e < h 171 e.toNat ∧ h 171 e.toNat < b ∧ h 169 e.toNat ≤ h 169 (h 171 e.toNat).toNat) ∧ TE m h 2 (d - 1) (h 171 e.toNat) b (h 171 e.toNat)) := by
  obtain ⟨q, x⟩ := te_o2 T
  rcases x with x | x | x | x | x | x | x | x | x
  · exfalso; have := x.1; omega
  · exfalso; have := x.1.1; omega
  · exfalso; have := x.1; omega
  · exact x.2
  · exfalso; omega
  · exfalso; have := x.1; omega
  · exfalso; have := x.1; omega
  · exfalso; have := x.1; omega
  · exfalso; have := x.1.1; omega
theorem te_x12 (T : TE m h 2 d a b e) (hk : h 167 e.toNat = 12) : ∃ y, (e < y ∧ y ≤ b) ∧ TE m h 0 (RE m 1) (e + 1) y (h 170 e.toNat) ∧ TE m h 0 (RE m 1) y b (h 171 e.toNat) := by
  obtain ⟨q, x⟩ := te_o2 T
  rcases x with x | x | x | x | x | x | x | x | x
  · exfalso; have := x.1; omega
  · exfalso; have := x.1.1; omega
  · exfalso; have := x.1; omega
  · exfalso; have := x.1; omega
  · exfalso; omega
  · exfalso; have := x.1; omega
  · exfalso; have := x.1; omega
  · exact x.2
  · exfalso; have := x.1.1; omega
theorem te_x9 (T : TE m h 2 d a b e) (hk : h 167 e.toNat = 9) : ((h 171 e.toNat) < b ∧ ((e < (h 170 e.toNat) ∧ (h 170 e.toNat) < (h 171 e.toNat) ∧ h 169 e.toNat ≤ h 169 (h 170 e.toNat).toNat) ∧ TE m h 2 (d - 1) (h 170 e.toNat) (h 171 e.toNat) (h 170 e.toNat))) ∧ ((e < (h 171 e.toNat) ∧ (h 171 e.toNat) < b ∧ h 169 e.toNat ≤ h 169 (h 171 e.toNat).toNat) ∧ TE m h 2 (d - 1) (h 171 e.toNat) b (h 171 e.toNat)) ∧ h 169 e.toNat + 4 ≤ h 169 (h 171 e.toNat).toNat := by
  obtain ⟨q, x⟩ := te_o2 T
  rcases x with x | x | x | x | x | x | x | x | x
  · exfalso; have := x.1; omega
  · exfalso; have := x.1.1; omega
  · exfalso; have := x.1; omega
  · exfalso; have := x.1; omega
  · exfalso; omega
  · exfalso; have := x.1; omega
  · exfalso; have := x.1; omega
  · exfalso; have := x.1; omega
  · exact x.2
theorem te_rg (T : TE m h 0 d a b e) : 0 ≤ a ∧ a ≤ e ∧ e < b ∧ 1 ≤ d := (te_o0 T).1
theorem te_kd (T : TE m h 0 d a b e) : 20 ≤ h 167 e.toNat ∧ h 167 e.toNat ≤ 39 := by
  obtain ⟨q, x⟩ := te_o0 T
  rcases x with x | x | x | x | x | x | x | x | x | x
  · omega
  · omega
  · have := x.1; omega
  · have := x.1; omega
  · have := x.1; omega
  · have := x.1; omega
  · have := x.1; omega
  · have := x.1; omega
  · have := x.1; omega
  · have := x.1; omega
theorem te_s1 (T : TE m h 2 d a b e) (hk : h 167 e.toNat = 1) : ((h 170 e.toNat) = -1 ∨ (e < (h 170 e.toNat) ∧ (h 170 e.toNat) < b ∧ h 169 e.toNat ≤ h 169 (h 170 e.toNat).toNat)) ∧ TE m h 3 (d - 1) (e + 1) b (h 170 e.toNat) := by
  obtain ⟨q, x⟩ := te_o2 T
  rcases x with x | x | x | x | x | x | x | x | x
  · exact x.2
  · exfalso; have := x.1.1; omega
  · exfalso; have := x.1; omega
  · exfalso; have := x.1; omega
  · exfalso; omega
  · exfalso; have := x.1; omega
  · exfalso; have := x.1; omega
  · exfalso; have := x.1; omega
  · exfalso; have := x.1.1; omega
theorem te_s2 (T : TE m h 2 d a b e) (hk : h 167 e.toNat = 2) : 0 ≤ h 176 e.toNat ∧ (0 ≤ h 172 e.toNat ∧ h 172 e.toNat ≤ 12007) ∧ TE m h 0 (RE m 1) (e + 1) b (h 170 e.toNat) := by
  obtain ⟨q, x⟩ := te_o2 T
  rcases x with x | x | x | x | x | x | x | x | x
  · exfalso; have := x.1; omega
  · exact ⟨x.1.2.1, x.1.2.2, x.2⟩
  · exfalso; have := x.1; omega
  · exfalso; have := x.1; omega
  · exfalso; omega
  · exfalso; have := x.1; omega
  · exfalso; have := x.1; omega
  · exfalso; have := x.1; omega
  · exfalso; have := x.1.1; omega
theorem te_s3 (T : TE m h 2 d a b e) (hk : h 167 e.toNat = 3) : TE m h 0 (RE m 1) (e + 1) b (h 170 e.toNat) ∧ ((e < (h 171 e.toNat) ∧ (h 171 e.toNat) < b ∧ h 169 e.toNat ≤ h 169 (h 171 e.toNat).toNat) ∧ TE m h 2 (d - 1) (h 171 e.toNat) b (h 171 e.toNat)) ∧ ((h 172 e.toNat) = -1 ∨ ((e < (h 172 e.toNat) ∧ (h 172 e.toNat) < b ∧ h 169 e.toNat ≤ h 169 (h 172 e.toNat).toNat) ∧ TE m h 2 (d - 1) (h 172 e.toNat) b (h 172 e.toNat))) := by
  obtain ⟨q, x⟩ := te_o2 T
  rcases x with x | x | x | x | x | x | x | x | x
  · exfalso; have := x.1; omega
  · exfalso; have := x.1.1; omega
  · exact (by obtain ⟨_, x1, z⟩ := x; rcases z with ⟨z, w, y⟩ | ⟨w0, ⟨w1, y⟩, ⟨w4, z⟩⟩; exact ⟨te_wd x1 (by omega) (by omega) (by omega) (by omega), ⟨w, y⟩, .inl z⟩; exact ⟨te_wd x1 (by omega) (by omega) (by omega) (by omega), ⟨⟨w1.1, by omega, w1.2.2⟩, te_wd y (by omega) (by omega) (by omega) (by omega)⟩, .inr ⟨w4, z⟩⟩)
  · exfalso; have := x.1; omega
  · exfalso; omega
  · exfalso; have := x.1; omega
  · exfalso; have := x.1; omega
  · exfalso; have := x.1; omega
  · exfalso; have := x.1.1; omega
theorem te_s4 (T : TE m h 2 d a b e) (hk : h 167 e.toNat = 4) : TE m h 0 (RE m 1) (e + 1) b (h 170 e.toNat) ∧ ((e < (h 171 e.toNat) ∧ (h 171 e.toNat) < b ∧ h 169 e.toNat ≤ h 169 (h 171 e.toNat).toNat) ∧ TE m h 2 (d - 1) (h 171 e.toNat) b (h 171 e.toNat)) := by
  obtain ⟨q, x⟩ := te_o2 T
  rcases x with x | x | x | x | x | x | x | x | x
  · exfalso; have := x.1; omega
  · exfalso; have := x.1.1; omega
  · exfalso; have := x.1; omega
  · exact (by obtain ⟨_, x1, w, y⟩ := x; exact ⟨te_wd x1 (by omega) (by omega) (by omega) (by omega), w, y⟩)
  · exfalso; omega
  · exfalso; have := x.1; omega
  · exfalso; have := x.1; omega
  · exfalso; have := x.1; omega
  · exfalso; have := x.1.1; omega
theorem te_s7 (T : TE m h 2 d a b e) (hk : h 167 e.toNat = 7) : (h 170 e.toNat) = -1 ∨ TE m h 0 (RE m 1) (e + 1) b (h 170 e.toNat) := by
  obtain ⟨q, x⟩ := te_o2 T
  rcases x with x | x | x | x | x | x | x | x | x
  · exfalso; have := x.1; omega
  · exfalso; have := x.1.1; omega
  · exfalso; have := x.1; omega
  · exfalso; have := x.1; omega
  · exfalso; omega
  · exact x.2
  · exfalso; have := x.1; omega
  · exfalso; have := x.1; omega
  · exfalso; have := x.1.1; omega
theorem te_s8 (T : TE m h 2 d a b e) (hk : h 167 e.toNat = 8 ∨ h 167 e.toNat = 10 ∨ h 167 e.toNat = 11) : TE m h 0 (RE m 1) (e + 1) b (h 170 e.toNat) := by
  obtain ⟨q, x⟩ := te_o2 T
  rcases x with x | x | x | x | x | x | x | x | x
  · exfalso; have := x.1; omega
  · exfalso; have := x.1.1; omega
  · exfalso; have := x.1; omega
  · exfalso; have := x.1; omega
  · exfalso; omega
  · exfalso; have := x.1; omega
  · exact x.2
  · exfalso; have := x.1; omega
  · exfalso; have := x.1.1; omega
theorem te_s12 (T : TE m h 2 d a b e) (hk : h 167 e.toNat = 12) : TE m h 0 (RE m 1) (e + 1) b (h 170 e.toNat) ∧ TE m h 0 (RE m 1) (e + 1) b (h 171 e.toNat) := by
  obtain ⟨q, x⟩ := te_o2 T
  rcases x with x | x | x | x | x | x | x | x | x
  · exfalso; have := x.1; omega
  · exfalso; have := x.1.1; omega
  · exfalso; have := x.1; omega
  · exfalso; have := x.1; omega
  · exfalso; omega
  · exfalso; have := x.1; omega
  · exfalso; have := x.1; omega
  · exact (by obtain ⟨_, w, wr, x1, y⟩ := x; exact ⟨te_wd x1 (by omega) (by omega) (by omega) (by omega), te_wd y (by omega) (by omega) (by omega) (by omega)⟩)
  · exfalso; have := x.1.1; omega
theorem te_s9 (T : TE m h 2 d a b e) (hk : h 167 e.toNat = 9) : (0 ≤ h 176 e.toNat ∧ h 176 e.toNat ≤ 3000) ∧ ((e < (h 170 e.toNat) ∧ (h 170 e.toNat) < b ∧ h 169 e.toNat ≤ h 169 (h 170 e.toNat).toNat) ∧ TE m h 2 (d - 1) (h 170 e.toNat) b (h 170 e.toNat)) ∧ ((e < (h 171 e.toNat) ∧ (h 171 e.toNat) < b ∧ h 169 e.toNat ≤ h 169 (h 171 e.toNat).toNat) ∧ TE m h 2 (d - 1) (h 171 e.toNat) b (h 171 e.toNat)) ∧ h 169 e.toNat + 4 ≤ h 169 (h 171 e.toNat).toNat := by
  obtain ⟨q, x⟩ := te_o2 T
  rcases x with x | x | x | x | x | x | x | x | x
  · exfalso; have := x.1; omega
  · exfalso; have := x.1.1; omega
  · exfalso; have := x.1; omega
  · exfalso; have := x.1; omega
  · exfalso; omega
  · exfalso; have := x.1; omega
  · exfalso; have := x.1; omega
  · exfalso; have := x.1; omega
  · exact (by obtain ⟨k, ⟨w0, w1, x1⟩, ⟨w2, y⟩, w3⟩ := x; exact ⟨k.2, ⟨⟨w1.1, by omega, w1.2.2⟩, te_wd x1 (by omega) (by omega) (by omega) (by omega)⟩, ⟨w2, y⟩, w3⟩)
theorem te_sk (T : TE m h 2 d a b e) : (1 ≤ h 167 e.toNat ∧ h 167 e.toNat ≤ 12) ∧ 0 ≤ a ∧ a ≤ e ∧ e < b ∧ 0 ≤ d := by
  obtain ⟨q, x⟩ := te_o2 T
  refine ⟨?_, q⟩
  rcases x with x | x | x | x | x | x | x | x | x
  · have := x.1; omega
  · have := x.1.1; omega
  · have := x.1; omega
  · have := x.1; omega
  · omega
  · have := x.1; omega
  · have := x.1; omega
  · have := x.1; omega
  · have := x.1.1; omega
def bl_ : List Nat := [174, 175, 176, 196, 197, 198, 199]
def bf_ : List (Nat × Nat) := [(160, 9), (160, 10), (160, 50), (160, 51), (160, 52), (160, 53), (160, 54), (160, 57)]
/-- what the rules of bodies leave -/
def BF (t h : ms_M) : Prop := ∀ c k, nw_F bl_ bf_ false false c k = true → h c k = t c k
/-- what is called, and the types and classes that are kept with a node, are within their rows -/
def YX (t h : ms_M) : Prop := ∀ x : Nat, (x : Int) < t 160 22 → (20 ≤ t 167 x → h 175 x < t 160 28) ∧ ((t 167 x = 36 ∨ t 167 x = 38) → h 176 x < 24 + 2 * t 160 24) ∧ (t 167 x = 31 → h 176 x < 8 + t 160 24)
/-- what they keep -/
def YI (t h : ms_M) : Prop := VS_ h ∧ BF t h ∧ (∀ x : Nat, (x : Int) < t 160 22 → h 174 x < 24 + 2 * t 160 24) ∧ (∀ s : Nat, (s : Int) < h 160 50 → 0 ≤ h 197 s ∧ h 197 s < 24 + 2 * t 160 24) ∧ ((∀ x : Nat, (t 167 x = 2 ∨ t 167 x = 9) → h 176 x = t 176 x) ∧ YX t h) ∧ (8 ≤ h 160 52 ∧ h 160 52 < 8 + t 160 24) ∧ h 160 51 < t 160 28
/-- what heads left -/
def SF (t : ms_M) : Prop := HW_ t ∧ AC_ t ∧ (∀ m : Nat, (m : Int) < t 160 28 → t 187 m < 24 + 2 * t 160 24 ∧ ∀ k : Nat, (k : Int) < t 189 m → t 195 ((t 188 m).toNat + k) < 24 + 2 * t 160 24) ∧ t 160 24 ≤ 8 ∧ (∀ m : Nat, (m : Int) < t 160 28 → t 189 m ≤ 6) ∧ MC_ t
/-- what stays as it was behind an expression -/
def Ke (h r : ms_M) : Prop := (r 160 50 = h 160 50 ∧ r 160 51 = h 160 51 ∧ r 160 52 = h 160 52 ∧ r 160 53 = h 160 53 ∧ r 160 54 = h 160 54 ∧ r 160 57 = h 160 57 ∧ (r 160 9 = 0 → h 160 9 = 0)) ∧ ∀ j : Nat, (j : Int) < h 160 57 → r 199 j = h 199 j
theorem ke_rf : Ke h h := ⟨⟨rfl, rfl, rfl, rfl, rfl, rfl, id⟩, fun _ _ => rfl⟩
theorem ke_tr (x : Ke h g) (y : Ke g r) : Ke h r := ⟨⟨by rw [y.1.1, x.1.1], by rw [y.1.2.1, x.1.2.1], by rw [y.1.2.2.1, x.1.2.2.1], by rw [y.1.2.2.2.1, x.1.2.2.2.1], by rw [y.1.2.2.2.2.1, x.1.2.2.2.2.1], by rw [y.1.2.2.2.2.2.1, x.1.2.2.2.2.2.1], fun w => x.1.2.2.2.2.2.2 (y.1.2.2.2.2.2.2 w)⟩, fun j hj => by rw [y.2 j (by rw [x.1.2.2.2.2.2.1]; exact hj), x.2 j hj]⟩
theorem bf_fr {L : List Nat} {LF : List (Nat × Nat)} (B : BF t h) (F : ∀ c k, nw_F L LF false false c k = true → r c k = h c k) (hs : (L.all (fun x => bl_.contains x) && (LF.all (fun x => bf_.contains x) && ((!false || false) && (!false || false)))) = true) : BF t r := fun c k w => by rw [F c k (nw_sub hs c k w)]; exact B c k w
theorem bf_a {c k : Nat} {v : Int} (B : BF t h) (hc : bl_.contains c = true) : BF t (up_M h c k v) := fun c2 k2 w => by
  have n := nw_ne hc c2 k2 w
  rw [up_n (by omega)]; exact B c2 k2 w
theorem bf_f {c k : Nat} {v : Int} (B : BF t h) (hc : bf_.contains (c, k) = true) : BF t (up_M h c k v) := fun c2 k2 w => by
  have n := nw_nf hc c2 k2 w
  rw [up_n n]; exact B c2 k2 w
theorem yi_174 {j v : Int} (Y : YI t h) (hv : -1 ≤ v ∧ v ≤ 900) (hl : v < 24 + 2 * t 160 24) (E : z = up_M h 174 j.toNat v) : YI t z ∧ Ke h z := by
  subst E
  obtain ⟨V, B, y1, y2, y3, y4, y5⟩ := Y
  refine ⟨⟨wA_174 V hv, bf_a B rfl, fun x hx => ?_, fun s hs => ?_, ⟨fun x w1 => ?_, fun x hx => ?_⟩, ?_, ?_⟩, ⟨⟨up_n (by omega), up_n (by omega), up_n (by omega), up_n (by omega), up_n (by omega), up_n (by omega), fun w => ?_⟩, fun j _ => up_n (by omega)⟩⟩
  · unfold up_M
    split
    · exact hl
    · exact y1 x hx
  · rw [up_n (by omega)] at *; exact y2 s hs
  · rw [up_n (by omega)]; exact y3.1 x w1
  · rw [up_n (by omega), up_n (by omega)]; exact y3.2 x hx
  · rw [up_n (by omega)]; exact y4
  · rw [up_n (by omega)]; exact y5
  · rwa [up_n (by omega)] at w
theorem yi_175 {j v : Int} (Y : YI t h) (hv : -1 ≤ v ∧ v ≤ 799) (hm : v < t 160 28) (E : z = up_M h 175 j.toNat v) : YI t z ∧ Ke h z := by
  subst E
  obtain ⟨V, B, y1, y2, y3, y4, y5⟩ := Y
  refine ⟨⟨wA_175 V hv, bf_a B rfl, fun x hx => ?_, fun s hs => ?_, ⟨fun x w1 => ?_, fun x hx => ?_⟩, ?_, ?_⟩, ⟨⟨up_n (by omega), up_n (by omega), up_n (by omega), up_n (by omega), up_n (by omega), up_n (by omega), fun w => ?_⟩, fun j _ => up_n (by omega)⟩⟩
  · rw [up_n (by omega)]; exact y1 x hx
  · rw [up_n (by omega)] at *; exact y2 s hs
  · rw [up_n (by omega)]; exact y3.1 x w1
  · obtain ⟨p1, p2, p3⟩ := y3.2 x hx
    have e6 : up_M h 175 j.toNat v 176 x = h 176 x := up_n (by omega)
    rw [e6]
    refine ⟨fun w => ?_, p2, p3⟩
    unfold up_M
    split
    · exact hm
    · exact p1 w
  · rw [up_n (by omega)]; exact y4
  · rw [up_n (by omega)]; exact y5
  · rwa [up_n (by omega)] at w
theorem yi_176 {j v : Int} (Y : YI t h) (hv : -1 ≤ v ∧ v ≤ 3001) (hn : ¬ (t 167 j.toNat = 2 ∨ t 167 j.toNat = 9)) (hx2 : ((t 167 j.toNat = 36 ∨ t 167 j.toNat = 38) → v < 24 + 2 * t 160 24) ∧ (t 167 j.toNat = 31 → v < 8 + t 160 24)) (E : z = up_M h 176 j.toNat v) : YI t z ∧ Ke h z := by
  subst E
  obtain ⟨V, B, y1, y2, y3, y4, y5⟩ := Y
  refine ⟨⟨wA_176 V hv, bf_a B rfl, fun x hx => ?_, fun s hs => ?_, ⟨fun x w1 => ?_, fun x hx => ?_⟩, ?_, ?_⟩, ⟨⟨up_n (by omega), up_n (by omega), up_n (by omega), up_n (by omega), up_n (by omega), up_n (by omega), fun w => ?_⟩, fun j _ => up_n (by omega)⟩⟩
  · rw [up_n (by omega)]; exact y1 x hx
  · rw [up_n (by omega)] at *; exact y2 s hs
  · unfold up_M
    split
    · rename_i q
      rw [q.2] at w1; exact absurd w1 hn
    · exact y3.1 x w1
  · obtain ⟨p1, p2, p3⟩ := y3.2 x hx
    have e5 : up_M h 176 j.toNat v 175 x = h 175 x := up_n (by omega)
    rw [e5]
    by_cases q : x = j.toNat
    · rw [q, up_s]
      rw [q] at p1
      exact ⟨p1, hx2.1, hx2.2⟩
    · rw [up_n (by omega)]
      exact ⟨p1, p2, p3⟩
  · rw [up_n (by omega)]; exact y4
  · rw [up_n (by omega)]; exact y5
  · rwa [up_n (by omega)] at w
theorem yi_198 {j : Nat} {v : Int} (Y : YI t h) (hv : 0 ≤ v ∧ v ≤ 1) (E : z = up_M h 198 j v) : YI t z ∧ Ke h z := by
  subst E
  obtain ⟨V, B, y1, y2, y3, y4, y5⟩ := Y
  refine ⟨⟨wA_198 V hv, bf_a B rfl, fun x hx => ?_, fun s hs => ?_, ⟨fun x w1 => ?_, fun x hx => ?_⟩, ?_, ?_⟩, ⟨⟨up_n (by omega), up_n (by omega), up_n (by omega), up_n (by omega), up_n (by omega), up_n (by omega), fun w => ?_⟩, fun j _ => up_n (by omega)⟩⟩
  · rw [up_n (by omega)]; exact y1 x hx
  · rw [up_n (by omega)] at *; exact y2 s hs
  · rw [up_n (by omega)]; exact y3.1 x w1
  · rw [up_n (by omega), up_n (by omega)]; exact y3.2 x hx
  · rw [up_n (by omega)]; exact y4
  · rw [up_n (by omega)]; exact y5
  · rwa [up_n (by omega)] at w
theorem yi_199 {j v : Int} (Y : YI t h) (hv : 0 ≤ v ∧ v ≤ 8999) (E : z = up_M h 199 j.toNat v) : YI t z ∧ (z 160 50 = h 160 50 ∧ z 160 51 = h 160 51 ∧ z 160 52 = h 160 52 ∧ z 160 53 = h 160 53 ∧ z 160 54 = h 160 54 ∧ z 160 57 = h 160 57 ∧ z 160 9 = h 160 9) := by
  subst E
  obtain ⟨V, B, y1, y2, y3, y4, y5⟩ := Y
  refine ⟨⟨wA_199 V hv, bf_a B rfl, fun x hx => ?_, fun s hs => ?_, ⟨fun x w1 => ?_, fun x hx => ?_⟩, ?_, ?_⟩, ⟨up_n (by omega), up_n (by omega), up_n (by omega), up_n (by omega), up_n (by omega), up_n (by omega), up_n (by omega)⟩⟩
  · rw [up_n (by omega)]; exact y1 x hx
  · rw [up_n (by omega)] at *; exact y2 s hs
  · rw [up_n (by omega)]; exact y3.1 x w1
  · rw [up_n (by omega), up_n (by omega)]; exact y3.2 x hx
  · rw [up_n (by omega)]; exact y4
  · rw [up_n (by omega)]; exact y5
theorem yi_57 {v : Int} (Y : YI t h) (hv : 0 ≤ v ∧ v ≤ 9000) (E : z = up_M h 160 57 v) : YI t z ∧ (z 160 50 = h 160 50 ∧ z 160 51 = h 160 51 ∧ z 160 52 = h 160 52 ∧ z 160 53 = h 160 53 ∧ z 160 54 = h 160 54 ∧ z 160 57 = v ∧ z 160 9 = h 160 9) ∧ ∀ j, z 199 j = h 199 j := by
  subst E
  obtain ⟨V, B, y1, y2, y3, y4, y5⟩ := Y
  refine ⟨⟨wF_160_57 V hv, bf_f B rfl, fun x hx => ?_, fun s hs => ?_, ⟨fun x w1 => ?_, fun x hx => ?_⟩, ?_, ?_⟩, ⟨up_n (by omega), up_n (by omega), up_n (by omega), up_n (by omega), up_n (by omega), up_s, up_n (by omega)⟩, fun j => up_n (by omega)⟩
  · rw [up_n (by omega)]; exact y1 x hx
  · rw [up_n (by omega)] at *; exact y2 s hs
  · rw [up_n (by omega)]; exact y3.1 x w1
  · rw [up_n (by omega), up_n (by omega)]; exact y3.2 x hx
  · rw [up_n (by omega)]; exact y4
  · rw [up_n (by omega)]; exact y5
theorem yi_54 {v : Int} (Y : YI t h) (hv : 0 ≤ v ∧ v ≤ 2999) (E : z = up_M h 160 54 v) : YI t z ∧ (z 160 50 = h 160 50 ∧ z 160 51 = h 160 51 ∧ z 160 52 = h 160 52 ∧ z 160 53 = h 160 53 ∧ z 160 54 = v ∧ z 160 57 = h 160 57 ∧ z 160 9 = h 160 9) ∧ ∀ j, z 199 j = h 199 j := by
  subst E
  obtain ⟨V, B, y1, y2, y3, y4, y5⟩ := Y
  refine ⟨⟨wF_160_54 V hv, bf_f B rfl, fun x hx => ?_, fun s hs => ?_, ⟨fun x w1 => ?_, fun x hx => ?_⟩, ?_, ?_⟩, ⟨up_n (by omega), up_n (by omega), up_n (by omega), up_n (by omega), up_s, up_n (by omega), up_n (by omega)⟩, fun j => up_n (by omega)⟩
  · rw [up_n (by omega)]; exact y1 x hx
  · rw [up_n (by omega)] at *; exact y2 s hs
  · rw [up_n (by omega)]; exact y3.1 x w1
  · rw [up_n (by omega), up_n (by omega)]; exact y3.2 x hx
  · rw [up_n (by omega)]; exact y4
  · rw [up_n (by omega)]; exact y5
/-- sight goes back -/
theorem yi_50 {v : Int} (Y : YI t h) (hv : 0 ≤ v ∧ v ≤ h 160 50) (E : z = up_M h 160 50 v) : YI t z ∧ (z 160 50 = v ∧ z 160 51 = h 160 51 ∧ z 160 52 = h 160 52 ∧ z 160 53 = h 160 53 ∧ z 160 54 = h 160 54 ∧ z 160 57 = h 160 57 ∧ z 160 9 = h 160 9) ∧ ∀ j, z 199 j = h 199 j := by
  subst E
  obtain ⟨V, B, y1, y2, y3, y4, y5⟩ := Y
  have g := gF_160_50 V
  refine ⟨⟨wF_160_50 V (by omega), bf_f B rfl, fun x hx => ?_, fun s hs => ?_, ⟨fun x w1 => ?_, fun x hx => ?_⟩, ?_, ?_⟩, ⟨up_s, up_n (by omega), up_n (by omega), up_n (by omega), up_n (by omega), up_n (by omega), up_n (by omega)⟩, fun j => up_n (by omega)⟩
  · rw [up_n (by omega)]; exact y1 x hx
  · rw [up_s] at hs; rw [up_n (by omega)]; exact y2 s (by omega)
  · rw [up_n (by omega)]; exact y3.1 x w1
  · rw [up_n (by omega), up_n (by omega)]; exact y3.2 x hx
  · rw [up_n (by omega)]; exact y4
  · rw [up_n (by omega)]; exact y5
theorem ok_sv {α β : Type} {Q : β → Prop} {x : Option α} {P : α → Prop} {F : α → Option β} (hx : Ok_ x P) (h : ∀ a, P a → Ok_ (F a) Q) : Ok_ (mx_sv x F) Q := by
  obtain ⟨a, ea, p⟩ := hx
  rw [ea, mx_svs]; exact h a p
theorem ok_pc {α : Type} {x : Option α} {P R : α → Prop} (hx : Ok_ x P) (h : Pc x R) : Ok_ x (fun a => P a ∧ R a) := by
  obtain ⟨a, ea, p⟩ := hx
  exact ⟨a, ea, p, h a ea⟩
theorem ok_im {α : Type} {x : Option α} {P R : α → Prop} (hx : Ok_ x P) (h : ∀ a, P a → R a) : Ok_ x R := by
  obtain ⟨a, ea, p⟩ := hx
  exact ⟨a, ea, h a p⟩
theorem vy_wrong {nn : Nat} (hn : 1000000 ≤ nn) (Y : YI t h) {k v : Int} (hk : 1 ≤ k ∧ k ≤ 11) (hv : 0 ≤ v ∧ v ≤ 3001) : Ok_ (qf_X13_wrong nn k v h) (fun r => YI t r ∧ Ke h r ∧ ¬ r 160 9 = 0 ∧ FG 0 0 h r) := by
  obtain ⟨u, eu, V, q⟩ := vf_X13_wrong hn hk.1 hk.2 hv.1 hv.2 Y.1
  have F : ∀ c k, nw_F wl_X13_wrong wf_X13_wrong false false c k = true → u c k = h c k := fun c k w => (ff_X13_wrong nn) _ eu c k w
  have S := (pc_wrong (nn := nn) (h := h) (k := k) (t := v) (by omega) u eu).1
  refine ⟨u, eu, ⟨V, bf_fr Y.2.1 F rfl, fun x hx => ?_, fun s hs => ?_, ⟨fun x w1 => ?_, fun x hx => ?_⟩, ?_, ?_⟩, ⟨⟨F 160 50 rfl, F 160 51 rfl, F 160 52 rfl, F 160 53 rfl, F 160 54 rfl, F 160 57 rfl, S.2.1⟩, fun j _ => F 199 j (nw_ar rfl j)⟩, q, fun x _ => ⟨F 174 x (nw_ar rfl x), F 176 x (nw_ar rfl x), F 175 x (nw_ar rfl x)⟩⟩
  · rw [F 174 x (nw_ar rfl x)]; exact Y.2.2.1 x hx
  · rw [F 160 50 rfl] at hs; rw [F 197 s (nw_ar rfl s)]; exact Y.2.2.2.1 s hs
  · rw [F 176 x (nw_ar rfl x)]; exact Y.2.2.2.2.1.1 x w1
  · rw [F 176 x (nw_ar rfl x), F 175 x (nw_ar rfl x)]; exact Y.2.2.2.2.1.2 x hx
  · rw [F 160 52 rfl]; exact Y.2.2.2.2.2.1
  · rw [F 160 51 rfl]; exact Y.2.2.2.2.2.2
theorem bf_tc (B : BF t h) : TC t h := fun c x hc => by
  have q : c = 167 ∨ c = 170 ∨ c = 171 ∨ c = 172 ∨ c = 173 := by omega
  rcases q with q | q | q | q | q
  · subst q; exact B _ _ (nw_ar rfl _)
  · subst q; exact B _ _ (nw_ar rfl _)
  · subst q; exact B _ _ (nw_ar rfl _)
  · subst q; exact B _ _ (nw_ar rfl _)
  · subst q; exact B _ _ (nw_ar rfl _)
theorem yi_hw (Y : YI t h) (H : HW_ t) : HW_ h := hw_eq H (fun k => Y.2.1 164 k (nw_ar rfl k)) (fun k => Y.2.1 165 k (nw_ar rfl k)) (fun k => Y.2.1 188 k (nw_ar rfl k)) (fun k => Y.2.1 189 k (nw_ar rfl k))
theorem yi_ac (Y : YI t h) (H : AC_ t) : AC_ h := ac_eq H (fun k => Y.2.1 180 k (nw_ar rfl k)) (Y.2.1 160 24 rfl)
/-- while there is no FAULT: types are 0 and more, what is called is found -/
def MI (t h : ms_M) : Prop := h 160 9 = 0 → ∀ x : Nat, (x : Int) < t 160 22 → 0 ≤ h 174 x ∧ ((t 167 x = 26 ∨ t 167 x = 31) → 0 ≤ h 175 x)
theorem mi_dead (h1 : ¬ h 160 9 = 0) : MI t h := fun y => absurd y h1
theorem mi_up {c : Nat} {j v : Int} (N : MI t h) (E : z = up_M h c j.toNat v) (hc : c ≠ 160 ∧ c ≠ 174 ∧ c ≠ 175) : MI t z := fun y x hx => by
  subst E
  rw [up_n (by omega)] at y
  rw [up_n (by omega), up_n (by omega)]
  exact N y x hx
theorem mi_fd {k : Nat} {v : Int} (N : MI t h) (E : z = up_M h 160 k v) (hc : k ≠ 9) : MI t z := fun y x hx => by
  subst E
  rw [up_n (by omega)] at y
  rw [up_n (by omega), up_n (by omega)]
  exact N y x hx
theorem mi_174 {j v : Int} (N : MI t h) (E : z = up_M h 174 j.toNat v) (hv : h 160 9 = 0 → 0 ≤ v) : MI t z := fun y x hx => by
  subst E
  rw [up_n (by omega)] at y
  have q := N y x hx
  refine ⟨?_, by rw [up_n (by omega)]; exact q.2⟩
  unfold up_M
  split
  · exact hv y
  · exact q.1
theorem mi_175 {j v : Int} (N : MI t h) (E : z = up_M h 175 j.toNat v) (hv : 0 ≤ v ∨ ¬ (t 167 j.toNat = 26 ∨ t 167 j.toNat = 31)) : MI t z := fun y x hx => by
  subst E
  rw [up_n (by omega)] at y
  have q := N y x hx
  refine ⟨by rw [up_n (by omega)]; exact q.1, fun w => ?_⟩
  unfold up_M
  split
  · rename_i p
    rcases hv with u | u
    · exact u
    · rw [p.2] at w; exact absurd w u
  · exact q.2 w
theorem td_2 (x : Int) : 2 * Int.tdiv x 2 < x + 2 ∧ x - 2 < 2 * Int.tdiv x 2 ∧ (x < 0 ∨ Int.tdiv x 2 = x / 2) := by
  by_cases q : 0 ≤ x
  · rw [Int.tdiv_eq_ediv_of_nonneg q]; omega
  · have e : Int.tdiv x 2 = - Int.tdiv (-x) 2 := by rw [Int.neg_tdiv, Int.neg_neg]
    rw [e, Int.tdiv_eq_ediv_of_nonneg (by omega)]; omega
theorem ok_div4 {α : Type} {Q : α → Prop} {x : Int} {F : Int → Option α} (hx : 0 ≤ x) (h : ∀ v, v = x / 4 → Ok_ (F v) Q) : Ok_ (xl (Int.tdiv x 4) F) Q := h _ (Int.tdiv_eq_ediv_of_nonneg hx)
theorem ok_div2 {α : Type} {Q : α → Prop} {x : Int} {F : Int → Option α} (h : ∀ v, 2 * v < x + 2 → x - 2 < 2 * v → (x < 0 ∨ v = x / 2) → Ok_ (F v) Q) : Ok_ (xl (Int.tdiv x 2) F) Q := h _ (td_2 x).1 (td_2 x).2.1 (td_2 x).2.2
end
end
section
section
variable {nn : Nat} {t h : ms_M}
theorem pc_sub {α : Type} {Q : α → Prop} {x y : Int} {F : Int → Option α} (r : (-2147483648 ≤ x ∧ x ≤ 2147483647) ∧ (-2147483648 ≤ y ∧ y ≤ 2147483647) ∧ (-2147483648 ≤ x - y ∧ x - y ≤ 2147483647)) (h : ∀ v, v = x - y → Pc (F v) Q) : Pc (xl (oq_sub x y) F) Q := h _ (oq_sub_eq r.1 r.2.1 r.2.2)
theorem pc_sight7 {l1 : Int} : ∀ (k : Nat) (l2 : Int), Pc (qw_X13_sightOf_7 nn k l1 l2 h) (fun u => u = -1 ∨ u ≤ l2) := by
  intro k
  induction k with
  | zero => intros; exact pc_none
  | succ k ih =>
    intro l2
    unfold qw_X13_sightOf_7
    refine pc_if (fun _ => pc_ret (.inl rfl)) (fun C => ?_)
    refine pc_rA ?_; intro b0 b1 v2 _
    refine pc_se ?_; intro u4 _
    refine pc_if (fun _ => ?_) (fun _ => pc_ret (.inr (Int.le_refl _)))
    refine pc_add (by omega) ?_; intro v5 e5
    exact pc_imp (ih v5) (fun u p => by omega)
theorem pc_sightOf {a : Int} (V : VS_ h) : Pc (qf_X13_sightOf nn a h) (fun u => u = -1 ∨ u < h 160 50) := by
  have g := gF_160_50 V
  unfold qf_X13_sightOf
  refine pc_sub (by omega) ?_; intro v9 e9
  exact pc_imp (pc_sight7 nn v9) (fun u p => by omega)
theorem pc_mo12 {qk : Int → Int → Int → ms_M → Option Int} (hk : ∀ a b c, Pc (qk a b c h) (fun u => u = -1 ∨ u < h 160 28)) : ∀ (k : Nat) (l2 l3 l4 l5 : Int), Pc (qw_X13_memberOf_12 nn qk k l2 l3 l4 l5 h) (fun u => u = -1 ∨ u < h 160 28) := by
  intro k
  induction k with
  | zero => intros; exact pc_none
  | succ k ih =>
    intro l2 l3 l4 l5
    have J : ∀ s, l5 < h 160 28 → Pc (qj_X13_memberOf_51 nn qk (qw_X13_memberOf_12 nn qk k) l2 l3 l4 l5 s h) (fun u => u = -1 ∨ u < h 160 28) := by
      intro s hl
      unfold qj_X13_memberOf_51
      refine pc_if (fun _ => ?_) (fun _ => ?_)
      · refine pc_xl ?_; intro v1 _
        exact ih _ _ _ _
      · refine pc_rA ?_; intro _ _ v3 _
        refine pc_se ?_; intro u5 _
        refine pc_if (fun _ => ?_) (fun _ => pc_ret (.inr hl))
        refine pc_xl ?_; intro v1 _
        exact ih _ _ _ _
    unfold qw_X13_memberOf_12
    refine pc_if (fun _ => ?_) (fun C => ?_)
    · refine pc_se ?_; intro u11 _
      exact hk _ _ _
    · refine pc_rA ?_; intro _ _ v13 _
      refine pc_xl ?_; intro v14 _
      refine pc_if (fun _ => ?_) (fun _ => ?_)
      · refine pc_xl ?_; intro v15 _
        exact ih _ _ _ _
      · refine pc_rA ?_; intro _ _ v17 _
        exact pc_if (fun _ => J _ (by omega)) (fun _ => J _ (by omega))
theorem pc_mo3 : ∀ (k : Nat) (l2 l3 l4 : Int), Pc (qw_X13_memberOf_3 nn k l2 l3 l4 h) (fun u => u = -1 ∨ u < h 160 28) := by
  intro k
  induction k with
  | zero => intros; exact pc_none
  | succ k ih =>
    intro l2 l3 l4
    unfold qw_X13_memberOf_3
    exact pc_if (fun _ => pc_ret (.inl rfl)) (fun _ => pc_mo12 (fun a b c => ih a b c) nn _ _ _ _)
theorem pc_memberOf {a b c : Int} : Pc (qf_X13_memberOf nn a b c h) (fun u => u = -1 ∨ u < h 160 28) := by
  unfold qf_X13_memberOf
  exact pc_mo3 nn _ _ _
theorem pc_class28 {l1 : Int} : ∀ (k : Nat) (l3 : Int), Pc (qw_X13_classOf_28 nn k l1 l3 h) (fun u => u = -1 ∨ u < 8 + h 160 24) := by
  intro k
  induction k with
  | zero => intros; exact pc_none
  | succ k ih =>
    intro l3
    unfold qw_X13_classOf_28
    refine pc_if (fun _ => pc_ret (.inl rfl)) (fun C => ?_)
    refine pc_rA ?_; intro b0 b1 v3 _
    refine pc_se ?_; intro u5 _
    refine pc_if (fun _ => ?_) (fun _ => ?_)
    · refine pc_xl ?_; intro v6 _
      exact ih v6
    · refine pc_add (by omega) ?_; intro v7 e7
      exact pc_ret (.inr (by omega))
theorem vy_classOf (hn : 1000000 ≤ nn) (Y : YI t h) (S : SF t) {a : Int} (ha : 0 ≤ a ∧ a ≤ 3001) : Ok_ (qf_X13_classOf nn a h) (fun u => -1 ≤ u ∧ u ≤ 407 ∧ u < 8 + t 160 24) := by
  have N := yi_hw Y S.1
  have z := N.1 a.toNat (by omega)
  have g := gF_160_24 Y.1
  have q24 : h 160 24 = t 160 24 := Y.2.1 160 24 rfl
  unfold qf_X13_classOf
  refine ok_rd (by omega) (gA_164 Y.1) ?_; intro v11 e11 a11 b11
  refine ok_rd (by omega) (gA_165 Y.1) ?_; intro v13 e13 a13 b13
  obtain ⟨u, eu, qu⟩ := am_ok (nn := nn) (p := v11) (n := v13) hn XT_3 Y.1 (by omega) (by omega) (by omega)
  have q := qa_3 (by omega) qu
  rw [eu, mx_svs]
  refine ok_if (fun C => ?_) (fun C => ok_ret ⟨by omega, by omega, by omega⟩)
  refine ok_im (ok_pc (vw_X13_classOf_28 hn (l1 := a) (by omega) Y.1 N nn 0 (by omega) (by omega)) (pc_class28 nn 0)) (fun w p => ?_)
  have p1 : -1 ≤ w ∧ w ≤ 407 := p.1
  have p2 := p.2
  exact ⟨by omega, by omega, by omega⟩
theorem vy_sightOf (hn : 1000000 ≤ nn) (Y : YI t h) (S : SF t) {a : Int} (ha : 0 ≤ a ∧ a ≤ 3001) : Ok_ (qf_X13_sightOf nn a h) (fun u => -1 ≤ u ∧ u ≤ 2999 ∧ (u = -1 ∨ u < h 160 50)) := by
  refine ok_im (ok_pc (vf_X13_sightOf hn ha.1 ha.2 Y.1 (yi_hw Y S.1)) (pc_sightOf Y.1)) (fun w p => ?_)
  have p1 : -1 ≤ w ∧ w ≤ 2999 := p.1
  exact ⟨by omega, by omega, p.2⟩
theorem vy_memberOf (hn : 1000000 ≤ nn) (Y : YI t h) (S : SF t) {a b c : Int} (ha : -1 ≤ a ∧ a < 8 + t 160 24) (hb : 0 ≤ b ∧ b ≤ 3001) : Ok_ (qf_X13_memberOf nn a b c h) (fun u => -1 ≤ u ∧ u ≤ 799 ∧ (u = -1 ∨ u < t 160 28)) := by
  have q24 : h 160 24 = t 160 24 := Y.2.1 160 24 rfl
  have q28 : h 160 28 = t 160 28 := Y.2.1 160 28 rfl
  refine ok_im (ok_pc (vf_X13_memberOf hn Y.1 (yi_hw Y S.1) (yi_ac Y S.2.1) (by omega) hb) pc_memberOf) (fun w p => ?_)
  have p1 : -1 ≤ w ∧ w ≤ 799 := p.1
  have p2 := p.2
  exact ⟨by omega, by omega, by omega⟩
theorem vy_fits (hn : 1000000 ≤ nn) (Y : YI t h) (S : SF t) {a b : Int} (ha : -1 ≤ a ∧ a ≤ 900 ∧ a < 24 + 2 * t 160 24) (hb : -1 ≤ b ∧ b ≤ 900) : Ok_ (qf_X13_fits nn a b h) (fun u => 0 ≤ u ∧ u ≤ 1) := by
  have q24 : h 160 24 = t 160 24 := Y.2.1 160 24 rfl
  exact vf_X13_fits hn Y.1 (yi_ac Y S.2.1) (by omega) hb
theorem vy_goTogether (hn : 1000000 ≤ nn) (Y : YI t h) (S : SF t) {a b : Int} (ha : -1 ≤ a ∧ a ≤ 900 ∧ a < 24 + 2 * t 160 24) (hb : -1 ≤ b ∧ b ≤ 900 ∧ b < 24 + 2 * t 160 24) : Ok_ (qf_X13_goTogether nn a b h) (fun u => 0 ≤ u ∧ u ≤ 1) := by
  have q24 : h 160 24 = t 160 24 := Y.2.1 160 24 rfl
  exact vf_X13_goTogether hn Y.1 (yi_ac Y S.2.1) (by omega) (by omega)
theorem vy_isThing {a : Int} : Ok_ (qf_X13_isThing nn a h) (fun u => (0 ≤ u ∧ u ≤ 1) ∧ (u = 0 ∨ a = 2 ∨ a = 4 ∨ 8 ≤ a)) := by
  unfold qf_X13_isThing
  refine ok_if (fun C => ok_ret ⟨by decide, by omega⟩) (fun C => ?_)
  refine ok_if (fun C2 => ok_ret ⟨by decide, by omega⟩) (fun C2 => ?_)
  exact ok_if (fun C3 => ok_ret ⟨by decide, by omega⟩) (fun C3 => ok_ret ⟨by decide, by omega⟩)
theorem vy_isArray {a : Int} : Ok_ (qf_X13_isArray nn a h) (fun u => (0 ≤ u ∧ u ≤ 1) ∧ (¬ u = 0 ∨ ¬ a = 4) ∧ (u = 0 ∨ a = 4 ∨ 9 ≤ a)) := by
  unfold qf_X13_isArray
  refine ok_if (fun C => ok_ret ⟨by decide, by omega⟩) (fun C => ?_)
  refine ok_if (fun C2 => ok_ret ⟨by decide, by omega⟩) (fun C2 => ?_)
  refine ok_xl ?_; intro v1 e1
  refine ok_if (fun C3 => ok_ret ⟨by decide, by omega⟩) (fun C3 => ok_ret ⟨by decide, ?_⟩)
  by_cases q : a = 8
  · exfalso; apply C3; rw [e1, q]; decide
  · omega
theorem vy_local (Y : YI t h) {a : Int} (ha : 0 ≤ a ∧ a ≤ 2999) : Ok_ (qf_X13_local nn a h) (fun u => 0 ≤ u ∧ u ≤ 3000) := by
  unfold qf_X13_local
  refine ok_if (fun C => ?_) (fun C => ok_ret (by omega))
  refine ok_add (by omega) ?_; intro v e
  exact ok_ret (by omega)
theorem vy_among4 (hn : 1000000 ≤ nn) (Y : YI t h) {p : Int} (hp : 0 ≤ p ∧ p + 6 ≤ 3000) : Ok_ (qf_X13_among nn (1000000000 + 4) p 6 h) (fun _ => True) := ok_im (am_ok (nn := nn) (p := p) (n := 6) hn XT_4 Y.1 (by omega) (by omega) (by omega)) (fun _ _ => trivial)
theorem vy_strength (hn : 1000000 ≤ nn) (Y : YI t h) {a : Int} (ha : 0 ≤ a ∧ a ≤ 3001) : Ok_ (qf_X13_strength nn a h) (fun u => -1 ≤ u ∧ u ≤ 9) := vf_X13_strength hn ha.1 ha.2 Y.1
theorem vy_sign (hn : 1000000 ≤ nn) (Y : YI t h) {a b c : Int} (ha : (0 ≤ a ∧ a ≤ 62) ∧ (33 ≤ b ∧ b ≤ 124) ∧ (38 ≤ c ∧ c ≤ 124)) : Ok_ (qf_X13_sign nn a b c h) (fun _ => True) := ok_im (vf_X13_sign hn ha.1.1 ha.1.2 ha.2.1.1 ha.2.1.2 ha.2.2.1 ha.2.2.2 Y.1) (fun _ _ => trivial)
/-- what an expression's rules leave: its type, and the same sight, loops, rows; types are written between a and b -/
def QY (t h : ms_M) (a b : Int) (u : Int × ms_M) : Prop := YI t u.2 ∧ MI t u.2 ∧ Ke h u.2 ∧ (-1 ≤ u.1 ∧ u.1 ≤ 900 ∧ u.1 < 24 + 2 * t 160 24 ∧ (u.2 160 9 = 0 → 0 ≤ u.1)) ∧ FG a b h u.2
def QZ (t h : ms_M) (a b : Int) (r : ms_M) : Prop := YI t r ∧ MI t r ∧ Ke h r ∧ FG a b h r
/-- what a led node's rule wants: what it is led by has been seen -/
def HR (nn : Nat) (t h : ms_M) (a e : Int) : Prop := h 160 9 = 0 → ((t 167 e.toNat = 30 ∨ t 167 e.toNat = 32 ∨ t 167 e.toNat = 37 ∨ t 167 e.toNat = 38) → YT h 0 a e (t 170 e.toNat)) ∧ (t 167 e.toNat = 31 → (∃ w, qf_X13_isByClass nn e h = some w ∧ ¬ w = 0) ∨ YT h 0 a e (t 170 e.toNat))
def GR (nn : Nat) (t : ms_M) (g : Int) (rc : tq_X13_condition) : Prop :=
  (∀ e d a b h, YI t h → MI t h → TE 1 t 0 d a b e → b ≤ t 160 22 → d + 3 ≤ g → h 160 57 + b ≤ 9000 → Ok_ (rc.1 e h) (fun r => QZ t h a b r ∧ (r 160 9 = 0 → OV r a b e))) ∧
  (∀ e d a b h, YI t h → MI t h → TE 1 t 0 d a b e → b ≤ t 160 22 → d + 2 ≤ g → h 160 57 + b ≤ 9000 → Ok_ (rc.2.1 e h) (fun u => QY t h a b u ∧ (u.2 160 9 = 0 → OV u.2 a b e))) ∧
  (∀ e d a b h, YI t h → MI t h → TE 1 t 0 d a b e → b ≤ t 160 22 → d + 1 ≤ g → h 160 57 + b ≤ 9000 → Ok_ (rc.2.2.1 e h) (fun u => QY t h a b u ∧ (u.2 160 9 = 0 → YT u.2 0 a b e ∧ u.2 174 e.toNat = u.1))) ∧
  (∀ e d a b h, YI t h → MI t h → TE 1 t 0 d a b e → b ≤ t 160 22 → d ≤ g → h 160 57 + b ≤ 9000 → HR nn t h a e → Ok_ (rc.2.2.2.1 e h) (fun u => QY t h a b u ∧ (u.2 160 9 = 0 → y0 u.2 (YT u.2) a b e))) ∧
  (∀ e d a b h, YI t h → MI t h → TE 1 t 0 d a b e → b ≤ t 160 22 → d - 1 ≤ g → h 160 57 + b ≤ 9000 → t 167 e.toNat = 37 → HR nn t h a e → Ok_ (rc.2.2.2.2.1 e h) (fun u => QY t h a b u ∧ (u.2 160 9 = 0 → y0 u.2 (YT u.2) a b e))) ∧
  (∀ e d a b h, YI t h → MI t h → TE 1 t 0 d a b e → b ≤ t 160 22 → d - 1 ≤ g → h 160 57 + b ≤ 9000 → t 167 e.toNat = 31 → HR nn t h a e → Ok_ (rc.2.2.2.2.2.1 e h) (fun u => QY t h a b u ∧ (u.2 160 9 = 0 → y0 u.2 (YT u.2) a b e))) ∧
  (∀ e m f d a b h, YI t h → MI t h → TE 1 t 1 d a b (t 171 e.toNat) → b ≤ t 160 22 → d + 3 ≤ g → h 160 57 + b ≤ 9000 → 1 ≤ g → (0 ≤ e ∧ e < t 160 22) → (¬ h 160 9 = 0 ∨ (0 ≤ m ∧ m < t 160 28)) → (f = 0 ∨ f = 1) → (0 ≤ a ∧ a ≤ 9000) → Ok_ (rc.2.2.2.2.2.2 e m f h) (fun u => QY t h a b u ∧ (u.2 160 9 = 0 → YT u.2 1 a b (t 171 e.toNat))))
end
end

section
variable {h r : ms_M} {a b e : Int} {F G : Nat → Int → Int → Int → Prop}
/-- an expression that the rules have seen without a FAULT: what is used has a value -/
def y0 (h : ms_M) (F : Nat → Int → Int → Int → Prop) (a b e : Int) : Prop :=
  (0 ≤ a ∧ a ≤ e ∧ e < b) ∧
  ((20 ≤ h 167 e.toNat ∧ h 167 e.toNat ≤ 25) ∨ (h 167 e.toNat = 27) ∨
   (h 167 e.toNat = 26 ∧ F 1 (e + 1) b (h 171 e.toNat)) ∨
   ((h 167 e.toNat = 28 ∨ h 167 e.toNat = 29) ∧ (((e + 1) ≤ (h 170 e.toNat) ∧ (h 170 e.toNat) < b ∧ ¬ h 174 (h 170 e.toNat).toNat = 3) ∧ F 0 (e + 1) b (h 170 e.toNat))) ∨
   ((h 167 e.toNat = 30 ∨ h 167 e.toNat = 38) ∧ ((a ≤ (h 170 e.toNat) ∧ (h 170 e.toNat) < e ∧ ¬ h 174 (h 170 e.toNat).toNat = 3) ∧ F 0 a e (h 170 e.toNat))) ∨
   (h 167 e.toNat = 31 ∧ (¬ h 176 e.toNat = -1 ∨ ((a ≤ (h 170 e.toNat) ∧ (h 170 e.toNat) < e ∧ ¬ h 174 (h 170 e.toNat).toNat = 3) ∧ F 0 a e (h 170 e.toNat))) ∧ F 1 (e + 1) b (h 171 e.toNat)) ∨
   ((h 167 e.toNat = 32 ∨ h 167 e.toNat = 37) ∧ ((a ≤ (h 170 e.toNat) ∧ (h 170 e.toNat) < e ∧ ¬ h 174 (h 170 e.toNat).toNat = 3) ∧ F 0 a e (h 170 e.toNat)) ∧ (((e + 1) ≤ (h 171 e.toNat) ∧ (h 171 e.toNat) < b ∧ ¬ h 174 (h 171 e.toNat).toNat = 3) ∧ F 0 (e + 1) b (h 171 e.toNat))) ∨
   ((33 ≤ h 167 e.toNat ∧ h 167 e.toNat ≤ 36) ∧ (((e + 1) ≤ (h 170 e.toNat) ∧ (h 170 e.toNat) < b ∧ ¬ h 174 (h 170 e.toNat).toNat = 3) ∧ F 0 (e + 1) b (h 170 e.toNat))) ∨
   (h 167 e.toNat = 39 ∧ ((a ≤ (h 170 e.toNat) ∧ (h 170 e.toNat) < e ∧ ¬ h 174 (h 170 e.toNat).toNat = 3) ∧ F 0 a e (h 170 e.toNat)) ∧ ∃ y, (e < y ∧ y ≤ b) ∧ (((e + 1) ≤ (h 171 e.toNat) ∧ (h 171 e.toNat) < y ∧ ¬ h 174 (h 171 e.toNat).toNat = 3) ∧ F 0 (e + 1) y (h 171 e.toNat)) ∧ ((y ≤ (h 172 e.toNat) ∧ (h 172 e.toNat) < b ∧ ¬ h 174 (h 172 e.toNat).toNat = 3) ∧ F 0 y b (h 172 e.toNat))))
def y1 (h : ms_M) (F : Nat → Int → Int → Int → Prop) (a b e : Int) : Prop :=
  e = -1 ∨ ((0 ≤ a ∧ a ≤ e ∧ e < b) ∧ ((a ≤ (h 170 e.toNat) ∧ (h 170 e.toNat) < e ∧ ¬ h 174 (h 170 e.toNat).toNat = 3) ∧ F 0 a e (h 170 e.toNat)) ∧ F 1 (e + 1) b (h 173 e.toNat))
def y2 (h : ms_M) (F : Nat → Int → Int → Int → Prop) (a b e : Int) : Prop :=
  (0 ≤ a ∧ a ≤ e ∧ e < b) ∧
  ((h 167 e.toNat = 1 ∧ F 3 (e + 1) b (h 170 e.toNat)) ∨
   (h 167 e.toNat = 2 ∧ (((e + 1) ≤ (h 170 e.toNat) ∧ (h 170 e.toNat) < b ∧ ¬ h 174 (h 170 e.toNat).toNat = 3) ∧ F 0 (e + 1) b (h 170 e.toNat))) ∨
   (h 167 e.toNat = 3 ∧ (h 171 e.toNat) ≤ b ∧ (((e + 1) ≤ (h 170 e.toNat) ∧ (h 170 e.toNat) < (h 171 e.toNat) ∧ ¬ h 174 (h 170 e.toNat).toNat = 3) ∧ F 0 (e + 1) (h 171 e.toNat) (h 170 e.toNat)) ∧ (((h 172 e.toNat) = -1 ∧ ((e < (h 171 e.toNat) ∧ (h 171 e.toNat) < b) ∧ F 2 (h 171 e.toNat) b (h 171 e.toNat))) ∨ ((h 172 e.toNat) < b ∧ ((e < (h 171 e.toNat) ∧ (h 171 e.toNat) < (h 172 e.toNat)) ∧ F 2 (h 171 e.toNat) (h 172 e.toNat) (h 171 e.toNat)) ∧ ((e < (h 172 e.toNat) ∧ (h 172 e.toNat) < b) ∧ F 2 (h 172 e.toNat) b (h 172 e.toNat))))) ∨
   (h 167 e.toNat = 4 ∧ (((e + 1) ≤ (h 170 e.toNat) ∧ (h 170 e.toNat) < (h 171 e.toNat) ∧ ¬ h 174 (h 170 e.toNat).toNat = 3) ∧ F 0 (e + 1) (h 171 e.toNat) (h 170 e.toNat)) ∧ ((e < (h 171 e.toNat) ∧ (h 171 e.toNat) < b) ∧ F 2 (h 171 e.toNat) b (h 171 e.toNat))) ∨
   (h 167 e.toNat = 5 ∨ h 167 e.toNat = 6) ∨
   (h 167 e.toNat = 7 ∧ ((h 170 e.toNat) = -1 ∨ (((e + 1) ≤ (h 170 e.toNat) ∧ (h 170 e.toNat) < b ∧ ¬ h 174 (h 170 e.toNat).toNat = 3) ∧ F 0 (e + 1) b (h 170 e.toNat)))) ∨
   ((h 167 e.toNat = 8 ∨ h 167 e.toNat = 10) ∧ (((e + 1) ≤ (h 170 e.toNat) ∧ (h 170 e.toNat) < b ∧ ¬ h 174 (h 170 e.toNat).toNat = 3) ∧ F 0 (e + 1) b (h 170 e.toNat))) ∨
   ((h 167 e.toNat = 11 ∧ e + 1 ≤ (h 170 e.toNat) ∧ (h 170 e.toNat) < b ∧ (h 167 (h 170 e.toNat).toNat = 26 ∨ h 167 (h 170 e.toNat).toNat = 31)) ∧ F 0 (e + 1) b (h 170 e.toNat)) ∨
   ((h 167 e.toNat = 12 ∧ (h 167 (h 170 e.toNat).toNat = 25 ∨ h 167 (h 170 e.toNat).toNat = 32 ∨ (h 167 (h 170 e.toNat).toNat = 30 ∧ 0 ≤ h 175 (h 170 e.toNat).toNat))) ∧ ∃ y, (e < y ∧ y ≤ b) ∧ (((e + 1) ≤ (h 170 e.toNat) ∧ (h 170 e.toNat) < y ∧ ¬ h 174 (h 170 e.toNat).toNat = 3) ∧ F 0 (e + 1) y (h 170 e.toNat)) ∧ ((y ≤ (h 171 e.toNat) ∧ (h 171 e.toNat) < b ∧ ¬ h 174 (h 171 e.toNat).toNat = 3) ∧ F 0 y b (h 171 e.toNat))) ∨
   (h 167 e.toNat = 9 ∧ ((h 171 e.toNat) < b ∧ ((e < (h 170 e.toNat) ∧ (h 170 e.toNat) < (h 171 e.toNat)) ∧ F 2 (h 170 e.toNat) (h 171 e.toNat) (h 170 e.toNat))) ∧ ((e < (h 171 e.toNat) ∧ (h 171 e.toNat) < b) ∧ F 2 (h 171 e.toNat) b (h 171 e.toNat))))
def y3 (h : ms_M) (F : Nat → Int → Int → Int → Prop) (a b e : Int) : Prop :=
  e = -1 ∨ ((0 ≤ a ∧ a ≤ e ∧ e < b) ∧ (((h 173 e.toNat) = -1 ∧ F 2 e b e) ∨ ((e < (h 173 e.toNat) ∧ (h 173 e.toNat) < b) ∧ F 2 e (h 173 e.toNat) e ∧ F 3 (h 173 e.toNat) b (h 173 e.toNat))))
def YY (h : ms_M) : Nat → Nat → Int → Int → Int → Prop
  | 0 => fun _ _ _ _ => False
  | n + 1 => fun s => match s with
    | 0 => y0 h (YY h n)
    | 1 => y1 h (YY h n)
    | 2 => y2 h (YY h n)
    | _ => y3 h (YY h n)
theorem y0_map {a0 b0 : Int} (H : ∀ s a b e, F s a b e → a0 ≤ a → b ≤ b0 → G s a b e) (A : ∀ (c x : Nat), (c = 167 ∨ (170 ≤ c ∧ c ≤ 175)) → a0 ≤ (x : Int) → (x : Int) < b0 → r c x = h c x) (B : ∀ x : Nat, a0 ≤ (x : Int) → (x : Int) < b0 → h 167 x = 31 → r 176 x = h 176 x) (h5 : a0 ≤ a) (h6 : b ≤ b0) (x : y0 h F a b e) : y0 r G a b e := by
  obtain ⟨⟨q1, q2, q3⟩, x⟩ := x
  have k7 := A 167 e.toNat (by decide) (by omega) (by omega)
  have k0 := A 170 e.toNat (by decide) (by omega) (by omega)
  have k1 := A 171 e.toNat (by decide) (by omega) (by omega)
  have k2 := A 172 e.toNat (by decide) (by omega) (by omega)
  have k3 := A 173 e.toNat (by decide) (by omega) (by omega)
  have k4 := A 174 e.toNat (by decide) (by omega) (by omega)
  have k6 := B e.toNat (by omega) (by omega)
  refine ⟨⟨q1, q2, q3⟩, ?_⟩
  rw [k7, k0, k1, k2]
  rcases x with x | x | ⟨k, x⟩ | ⟨k, x⟩ | ⟨k, x⟩ | ⟨k, x, y⟩ | ⟨k, x, y⟩ | ⟨k, x⟩ | ⟨k, x, w, wr, y, z⟩
  · exact .inl x
  · exact .inr (.inl x)
  · exact .inr (.inr (.inl ⟨k, H _ _ _ _ x (by omega) (by omega)⟩))
  · exact .inr (.inr (.inr (.inl ⟨k, ⟨⟨x.1.1, x.1.2.1, by rw [A 174 (h 170 e.toNat).toNat (by decide) (by omega) (by omega)]; exact x.1.2.2⟩, H _ _ _ _ x.2 (by omega) (by omega)⟩⟩)))
  · exact .inr (.inr (.inr (.inr (.inl ⟨k, ⟨⟨x.1.1, x.1.2.1, by rw [A 174 (h 170 e.toNat).toNat (by decide) (by omega) (by omega)]; exact x.1.2.2⟩, H _ _ _ _ x.2 (by omega) (by omega)⟩⟩))))
  · refine .inr (.inr (.inr (.inr (.inr (.inl ⟨k, ?_, H _ _ _ _ y (by omega) (by omega)⟩)))))
    rw [k6 k]
    rcases x with x | x
    · exact .inl x
    · exact .inr ⟨⟨x.1.1, x.1.2.1, by rw [A 174 (h 170 e.toNat).toNat (by decide) (by omega) (by omega)]; exact x.1.2.2⟩, H _ _ _ _ x.2 (by omega) (by omega)⟩
  · exact .inr (.inr (.inr (.inr (.inr (.inr (.inl ⟨k, ⟨⟨x.1.1, x.1.2.1, by rw [A 174 (h 170 e.toNat).toNat (by decide) (by omega) (by omega)]; exact x.1.2.2⟩, H _ _ _ _ x.2 (by omega) (by omega)⟩, ⟨⟨y.1.1, y.1.2.1, by rw [A 174 (h 171 e.toNat).toNat (by decide) (by omega) (by omega)]; exact y.1.2.2⟩, H _ _ _ _ y.2 (by omega) (by omega)⟩⟩))))))
  · exact .inr (.inr (.inr (.inr (.inr (.inr (.inr (.inl ⟨k, ⟨⟨x.1.1, x.1.2.1, by rw [A 174 (h 170 e.toNat).toNat (by decide) (by omega) (by omega)]; exact x.1.2.2⟩, H _ _ _ _ x.2 (by omega) (by omega)⟩⟩)))))))
  · exact .inr (.inr (.inr (.inr (.inr (.inr (.inr (.inr ⟨k, ⟨⟨x.1.1, x.1.2.1, by rw [A 174 (h 170 e.toNat).toNat (by decide) (by omega) (by omega)]; exact x.1.2.2⟩, H _ _ _ _ x.2 (by omega) (by omega)⟩, w, wr, ⟨⟨y.1.1, y.1.2.1, by rw [A 174 (h 171 e.toNat).toNat (by decide) (by omega) (by omega)]; exact y.1.2.2⟩, H _ _ _ _ y.2 (by omega) (by omega)⟩, ⟨⟨z.1.1, z.1.2.1, by rw [A 174 (h 172 e.toNat).toNat (by decide) (by omega) (by omega)]; exact z.1.2.2⟩, H _ _ _ _ z.2 (by omega) (by omega)⟩⟩)))))))
theorem y1_map {a0 b0 : Int} (H : ∀ s a b e, F s a b e → a0 ≤ a → b ≤ b0 → G s a b e) (A : ∀ (c x : Nat), (c = 167 ∨ (170 ≤ c ∧ c ≤ 175)) → a0 ≤ (x : Int) → (x : Int) < b0 → r c x = h c x) (B : ∀ x : Nat, a0 ≤ (x : Int) → (x : Int) < b0 → h 167 x = 31 → r 176 x = h 176 x) (h5 : a0 ≤ a) (h6 : b ≤ b0) (x : y1 h F a b e) : y1 r G a b e := by
  rcases x with x | ⟨⟨q1, q2, q3⟩, x, y⟩
  · exact .inl x
  have k7 := A 167 e.toNat (by decide) (by omega) (by omega)
  have k0 := A 170 e.toNat (by decide) (by omega) (by omega)
  have k1 := A 171 e.toNat (by decide) (by omega) (by omega)
  have k2 := A 172 e.toNat (by decide) (by omega) (by omega)
  have k3 := A 173 e.toNat (by decide) (by omega) (by omega)
  have k4 := A 174 e.toNat (by decide) (by omega) (by omega)
  refine .inr ⟨⟨q1, q2, q3⟩, ?_⟩
  rw [k0, k3]
  exact ⟨⟨⟨x.1.1, x.1.2.1, by rw [A 174 (h 170 e.toNat).toNat (by decide) (by omega) (by omega)]; exact x.1.2.2⟩, H _ _ _ _ x.2 (by omega) (by omega)⟩, H _ _ _ _ y (by omega) (by omega)⟩
theorem y2_map {a0 b0 : Int} (H : ∀ s a b e, F s a b e → a0 ≤ a → b ≤ b0 → G s a b e) (A : ∀ (c x : Nat), (c = 167 ∨ (170 ≤ c ∧ c ≤ 175)) → a0 ≤ (x : Int) → (x : Int) < b0 → r c x = h c x) (B : ∀ x : Nat, a0 ≤ (x : Int) → (x : Int) < b0 → h 167 x = 31 → r 176 x = h 176 x) (h5 : a0 ≤ a) (h6 : b ≤ b0) (x : y2 h F a b e) : y2 r G a b e := by
  obtain ⟨⟨q1, q2, q3⟩, x⟩ := x
  have k7 := A 167 e.toNat (by decide) (by omega) (by omega)
  have k0 := A 170 e.toNat (by decide) (by omega) (by omega)
  have k1 := A 171 e.toNat (by decide) (by omega) (by omega)
  have k2 := A 172 e.toNat (by decide) (by omega) (by omega)
  have k3 := A 173 e.toNat (by decide) (by omega) (by omega)
  have k4 := A 174 e.toNat (by decide) (by omega) (by omega)
  refine ⟨⟨q1, q2, q3⟩, ?_⟩
  rw [k7, k0, k1, k2]
  rcases x with ⟨k, x⟩ | ⟨k, x⟩ | ⟨k, w, x, z⟩ | ⟨k, x, y⟩ | k | ⟨k, x⟩ | ⟨k, x⟩ | ⟨k, x⟩ | ⟨k, w, wr, x, y⟩ | ⟨k, ⟨w0, x⟩, y⟩
  · exact .inl ⟨k, H _ _ _ _ x (by omega) (by omega)⟩
  · exact .inr (.inl ⟨k, ⟨⟨x.1.1, x.1.2.1, by rw [A 174 (h 170 e.toNat).toNat (by decide) (by omega) (by omega)]; exact x.1.2.2⟩, H _ _ _ _ x.2 (by omega) (by omega)⟩⟩)
  · refine .inr (.inr (.inl ⟨k, w, ⟨⟨x.1.1, x.1.2.1, by rw [A 174 (h 170 e.toNat).toNat (by decide) (by omega) (by omega)]; exact x.1.2.2⟩, H _ _ _ _ x.2 (by omega) (by omega)⟩, ?_⟩))
    rcases z with ⟨z, y⟩ | ⟨w0, y, z⟩
    · exact .inl ⟨z, ⟨y.1, H _ _ _ _ y.2 (by omega) (by omega)⟩⟩
    · exact .inr ⟨w0, ⟨y.1, H _ _ _ _ y.2 (by omega) (by omega)⟩, ⟨z.1, H _ _ _ _ z.2 (by omega) (by omega)⟩⟩
  · have y1 := y.1
    exact .inr (.inr (.inr (.inl ⟨k, ⟨⟨x.1.1, x.1.2.1, by rw [A 174 (h 170 e.toNat).toNat (by decide) (by omega) (by omega)]; exact x.1.2.2⟩, H _ _ _ _ x.2 (by omega) (by omega)⟩, ⟨y.1, H _ _ _ _ y.2 (by omega) (by omega)⟩⟩)))
  · exact .inr (.inr (.inr (.inr (.inl k))))
  · refine .inr (.inr (.inr (.inr (.inr (.inl ⟨k, ?_⟩)))))
    rcases x with x | x
    · exact .inl x
    · exact .inr ⟨⟨x.1.1, x.1.2.1, by rw [A 174 (h 170 e.toNat).toNat (by decide) (by omega) (by omega)]; exact x.1.2.2⟩, H _ _ _ _ x.2 (by omega) (by omega)⟩
  · exact .inr (.inr (.inr (.inr (.inr (.inr (.inl ⟨k, ⟨⟨x.1.1, x.1.2.1, by rw [A 174 (h 170 e.toNat).toNat (by decide) (by omega) (by omega)]; exact x.1.2.2⟩, H _ _ _ _ x.2 (by omega) (by omega)⟩⟩))))))
  · exact .inr (.inr (.inr (.inr (.inr (.inr (.inr (.inl ⟨⟨k.1, k.2.1, k.2.2.1, by rw [A 167 (h 170 e.toNat).toNat (by decide) (by omega) (by omega)]; exact k.2.2.2⟩, H _ _ _ _ x (by omega) (by omega)⟩)))))))
  · exact .inr (.inr (.inr (.inr (.inr (.inr (.inr (.inr (.inl ⟨⟨k.1, by rw [A 167 (h 170 e.toNat).toNat (by decide) (by have := x.1; omega) (by have := x.1; omega), A 175 (h 170 e.toNat).toNat (by decide) (by have := x.1; omega) (by have := x.1; omega)]; exact k.2⟩, w, wr, ⟨⟨x.1.1, x.1.2.1, by rw [A 174 (h 170 e.toNat).toNat (by decide) (by omega) (by omega)]; exact x.1.2.2⟩, H _ _ _ _ x.2 (by omega) (by omega)⟩, ⟨⟨y.1.1, y.1.2.1, by rw [A 174 (h 171 e.toNat).toNat (by decide) (by omega) (by omega)]; exact y.1.2.2⟩, H _ _ _ _ y.2 (by omega) (by omega)⟩⟩))))))))
  · exact .inr (.inr (.inr (.inr (.inr (.inr (.inr (.inr (.inr ⟨k, ⟨w0, ⟨x.1, H _ _ _ _ x.2 (by omega) (by omega)⟩⟩, ⟨y.1, H _ _ _ _ y.2 (by omega) (by omega)⟩⟩))))))))
theorem y3_map {a0 b0 : Int} (H : ∀ s a b e, F s a b e → a0 ≤ a → b ≤ b0 → G s a b e) (A : ∀ (c x : Nat), (c = 167 ∨ (170 ≤ c ∧ c ≤ 175)) → a0 ≤ (x : Int) → (x : Int) < b0 → r c x = h c x) (B : ∀ x : Nat, a0 ≤ (x : Int) → (x : Int) < b0 → h 167 x = 31 → r 176 x = h 176 x) (h5 : a0 ≤ a) (h6 : b ≤ b0) (x : y3 h F a b e) : y3 r G a b e := by
  rcases x with x | ⟨⟨q1, q2, q3⟩, x⟩
  · exact .inl x
  have k7 := A 167 e.toNat (by decide) (by omega) (by omega)
  have k0 := A 170 e.toNat (by decide) (by omega) (by omega)
  have k1 := A 171 e.toNat (by decide) (by omega) (by omega)
  have k2 := A 172 e.toNat (by decide) (by omega) (by omega)
  have k3 := A 173 e.toNat (by decide) (by omega) (by omega)
  have k4 := A 174 e.toNat (by decide) (by omega) (by omega)
  refine .inr ⟨⟨q1, q2, q3⟩, ?_⟩
  rw [k3]
  rcases x with ⟨w, x⟩ | ⟨w, x, y⟩
  · exact .inl ⟨w, H _ _ _ _ x (by omega) (by omega)⟩
  · exact .inr ⟨w, H _ _ _ _ x (by omega) (by omega), H _ _ _ _ y (by omega) (by omega)⟩
theorem yy_map {a0 b0 : Int} (A : ∀ (c x : Nat), (c = 167 ∨ (170 ≤ c ∧ c ≤ 175)) → a0 ≤ (x : Int) → (x : Int) < b0 → r c x = h c x) (B : ∀ x : Nat, a0 ≤ (x : Int) → (x : Int) < b0 → h 167 x = 31 → r 176 x = h 176 x) : ∀ (n s : Nat) (a b e : Int), YY h n s a b e → a0 ≤ a → b ≤ b0 → YY r n s a b e := by
  intro n
  induction n with
  | zero => intro s a b e x; exact False.elim x
  | succ n ih =>
    intro s a b e x h5 h6
    match s, x with
    | 0, x => exact y0_map ih A B h5 h6 x
    | 1, x => exact y1_map ih A B h5 h6 x
    | 2, x => exact y2_map ih A B h5 h6 x
    | s + 3, x => exact y3_map ih A B h5 h6 x
theorem yy_s : ∀ (n s : Nat) (a b e : Int), YY h n s a b e → ∀ k, YY h (n + k) s a b e := by
  intro n
  induction n with
  | zero => intro s a b e x; exact False.elim x
  | succ n ih =>
    intro s a b e x k
    have hh : ∀ s a b e, YY h n s a b e → YY h (n + k) s a b e := fun s a b e y => ih s a b e y k
    have z : n + 1 + k = (n + k) + 1 := by omega
    rw [z]
    match s, x with
    | 0, x => exact y0_map (a0 := a) (b0 := b) (fun s a b e y _ _ => hh s a b e y) (fun _ _ _ _ _ => rfl) (fun _ _ _ _ => rfl) (by omega) (by omega) x
    | 1, x => exact y1_map (a0 := a) (b0 := b) (fun s a b e y _ _ => hh s a b e y) (fun _ _ _ _ _ => rfl) (fun _ _ _ _ => rfl) (by omega) (by omega) x
    | 2, x => exact y2_map (a0 := a) (b0 := b) (fun s a b e y _ _ => hh s a b e y) (fun _ _ _ _ _ => rfl) (fun _ _ _ _ => rfl) (by omega) (by omega) x
    | s + 3, x => exact y3_map (a0 := a) (b0 := b) (fun s a b e y _ _ => hh s a b e y) (fun _ _ _ _ _ => rfl) (fun _ _ _ _ => rfl) (by omega) (by omega) x
theorem yy_le {n k s : Nat} (x : YY h n s a b e) (hk : n ≤ k) : YY h k s a b e := by
  have := yy_s n s a b e x (k - n)
  rwa [show n + (k - n) = k by omega] at this
def YT (h : ms_M) (s : Nat) (a b e : Int) : Prop := ∃ n, YY h n s a b e
theorem yt_fr {s : Nat} (x : YT h s a b e) (A : ∀ (c x : Nat), (c = 167 ∨ (170 ≤ c ∧ c ≤ 175)) → a ≤ (x : Int) → (x : Int) < b → r c x = h c x) (B : ∀ x : Nat, a ≤ (x : Int) → (x : Int) < b → h 167 x = 31 → r 176 x = h 176 x) : YT r s a b e := by
  obtain ⟨n, x⟩ := x
  exact ⟨n, yy_map A B n s a b e x (Int.le_refl _) (Int.le_refl _)⟩
theorem yt_o0 (x : YT h 0 a b e) : y0 h (YT h) a b e := by
  obtain ⟨n, x⟩ := x
  cases n with
  | zero => exact False.elim x
  | succ n => exact y0_map (a0 := a) (b0 := b) (fun s a b e y _ _ => ⟨n, y⟩) (fun _ _ _ _ _ => rfl) (fun _ _ _ _ => rfl) (by omega) (by omega) x
theorem yt_o1 (x : YT h 1 a b e) : y1 h (YT h) a b e := by
  obtain ⟨n, x⟩ := x
  cases n with
  | zero => exact False.elim x
  | succ n => exact y1_map (a0 := a) (b0 := b) (fun s a b e y _ _ => ⟨n, y⟩) (fun _ _ _ _ _ => rfl) (fun _ _ _ _ => rfl) (by omega) (by omega) x
theorem yt_o2 (x : YT h 2 a b e) : y2 h (YT h) a b e := by
  obtain ⟨n, x⟩ := x
  cases n with
  | zero => exact False.elim x
  | succ n => exact y2_map (a0 := a) (b0 := b) (fun s a b e y _ _ => ⟨n, y⟩) (fun _ _ _ _ _ => rfl) (fun _ _ _ _ => rfl) (by omega) (by omega) x
theorem yt_o3 (x : YT h 3 a b e) : y3 h (YT h) a b e := by
  obtain ⟨n, x⟩ := x
  cases n with
  | zero => exact False.elim x
  | succ n => exact y3_map (a0 := a) (b0 := b) (fun s a b e y _ _ => ⟨n, y⟩) (fun _ _ _ _ _ => rfl) (fun _ _ _ _ => rfl) (by omega) (by omega) x
theorem yt_n {z : ms_M} {v j : Int} {s : Nat} (E : z = up_M h 174 j.toNat v) (hj : 0 ≤ j) (x : YT h s a b e) (hr : b ≤ j ∨ j + 1 ≤ a) : YT z s a b e := yt_fr x (fun c y h1 h2 h3 => by rw [E]; exact up_n (by omega)) (fun y _ _ _ => by rw [E]; exact up_n (by omega))
/-- the type of e is written down -/
theorem yr_up {z : ms_M} {v : Int} (x : y0 h (YT h) a b e) (E : z = up_M h 174 e.toNat v) : y0 z (YT z) a b e := by
  obtain ⟨⟨q1, q2, q3⟩, x⟩ := x
  have n : ∀ (c x : Nat), ¬ (c = 174 ∧ x = e.toNat) → z c x = h c x := fun c x w => by rw [E]; exact up_n w
  have g4 : ∀ y : Nat, y ≠ e.toNat → z 174 y = h 174 y := fun y w => n 174 y (by omega)
  have H : ∀ (s : Nat) (a b c : Int), YT h s a b c → (b ≤ e ∨ e + 1 ≤ a) → YT z s a b c := fun s a b c y w => yt_n E (by omega) y w
  unfold y0
  rw [n 167 _ (by omega), n 170 _ (by omega), n 171 _ (by omega), n 172 _ (by omega), n 176 _ (by omega)]
  refine ⟨⟨q1, q2, q3⟩, ?_⟩
  rcases x with x | x | ⟨k, x⟩ | ⟨k, x⟩ | ⟨k, x⟩ | ⟨k, x, y⟩ | ⟨k, x, y⟩ | ⟨k, x⟩ | ⟨k, x, w, wr, y, u⟩
  · exact .inl x
  · exact .inr (.inl x)
  · exact .inr (.inr (.inl ⟨k, H _ _ _ _ x (by omega)⟩))
  · exact .inr (.inr (.inr (.inl ⟨k, ⟨⟨x.1.1, x.1.2.1, by rw [g4 (h 170 e.toNat).toNat (by omega)]; exact x.1.2.2⟩, H _ _ _ _ x.2 (by omega)⟩⟩)))
  · exact .inr (.inr (.inr (.inr (.inl ⟨k, ⟨⟨x.1.1, x.1.2.1, by rw [g4 (h 170 e.toNat).toNat (by omega)]; exact x.1.2.2⟩, H _ _ _ _ x.2 (by omega)⟩⟩))))
  · refine .inr (.inr (.inr (.inr (.inr (.inl ⟨k, ?_, H _ _ _ _ y (by omega)⟩)))))
    rcases x with x | x
    · exact .inl x
    · exact .inr ⟨⟨x.1.1, x.1.2.1, by rw [g4 (h 170 e.toNat).toNat (by omega)]; exact x.1.2.2⟩, H _ _ _ _ x.2 (by omega)⟩
  · exact .inr (.inr (.inr (.inr (.inr (.inr (.inl ⟨k, ⟨⟨x.1.1, x.1.2.1, by rw [g4 (h 170 e.toNat).toNat (by omega)]; exact x.1.2.2⟩, H _ _ _ _ x.2 (by omega)⟩, ⟨⟨y.1.1, y.1.2.1, by rw [g4 (h 171 e.toNat).toNat (by omega)]; exact y.1.2.2⟩, H _ _ _ _ y.2 (by omega)⟩⟩))))))
  · exact .inr (.inr (.inr (.inr (.inr (.inr (.inr (.inl ⟨k, ⟨⟨x.1.1, x.1.2.1, by rw [g4 (h 170 e.toNat).toNat (by omega)]; exact x.1.2.2⟩, H _ _ _ _ x.2 (by omega)⟩⟩)))))))
  · exact .inr (.inr (.inr (.inr (.inr (.inr (.inr (.inr ⟨k, ⟨⟨x.1.1, x.1.2.1, by rw [g4 (h 170 e.toNat).toNat (by omega)]; exact x.1.2.2⟩, H _ _ _ _ x.2 (by omega)⟩, w, wr, ⟨⟨y.1.1, y.1.2.1, by rw [g4 (h 171 e.toNat).toNat (by omega)]; exact y.1.2.2⟩, H _ _ _ _ y.2 (by omega)⟩, ⟨⟨u.1.1, u.1.2.1, by rw [g4 (h 172 e.toNat).toNat (by omega)]; exact u.1.2.2⟩, H _ _ _ _ u.2 (by omega)⟩⟩)))))))
theorem yt_i0 (H : y0 h (YT h) a b e) : YT h 0 a b e := by
  obtain ⟨q, x⟩ := H
  rcases x with x | x | ⟨k, n, x⟩ | ⟨k, w, n, x⟩ | ⟨k, w, n, x⟩ | ⟨k, x, ⟨p, y⟩⟩ | ⟨k, ⟨w, n, x⟩, ⟨v, p, y⟩⟩ | ⟨k, w, n, x⟩ | ⟨k, ⟨u, n, x⟩, w, wr, ⟨v, p, y⟩, ⟨t, o, z⟩⟩
  · exact ⟨1, q, .inl x⟩
  · exact ⟨1, q, .inr (.inl x)⟩
  · exact ⟨n + 1, q, .inr (.inr (.inl ⟨k, x⟩))⟩
  · exact ⟨n + 1, q, .inr (.inr (.inr (.inl ⟨k, w, x⟩)))⟩
  · exact ⟨n + 1, q, .inr (.inr (.inr (.inr (.inl ⟨k, w, x⟩))))⟩
  · rcases x with x | ⟨w, n, x⟩
    · exact ⟨p + 1, q, .inr (.inr (.inr (.inr (.inr (.inl ⟨k, .inl x, y⟩)))))⟩
    · exact ⟨n + p + 1, q, .inr (.inr (.inr (.inr (.inr (.inl ⟨k, .inr ⟨w, yy_le x (by omega)⟩, yy_le y (by omega)⟩)))))⟩
  · exact ⟨n + p + 1, q, .inr (.inr (.inr (.inr (.inr (.inr (.inl ⟨k, ⟨w, yy_le x (by omega)⟩, ⟨v, yy_le y (by omega)⟩⟩))))))⟩
  · exact ⟨n + 1, q, .inr (.inr (.inr (.inr (.inr (.inr (.inr (.inl ⟨k, w, x⟩)))))))⟩
  · exact ⟨n + p + o + 1, q, .inr (.inr (.inr (.inr (.inr (.inr (.inr (.inr ⟨k, ⟨u, yy_le x (by omega)⟩, w, wr, ⟨v, yy_le y (by omega)⟩, ⟨t, yy_le z (by omega)⟩⟩)))))))⟩
theorem yt_i1 (H : y1 h (YT h) a b e) : YT h 1 a b e := by
  rcases H with x | ⟨q, ⟨w, n, x⟩, ⟨p, y⟩⟩
  · exact ⟨1, .inl x⟩
  · exact ⟨n + p + 1, .inr ⟨q, ⟨w, yy_le x (by omega)⟩, yy_le y (by omega)⟩⟩
theorem yt_i2 (H : y2 h (YT h) a b e) : YT h 2 a b e := by
  obtain ⟨q, x⟩ := H
  rcases x with ⟨k, n, x⟩ | ⟨k, w, n, x⟩ | ⟨k, w, ⟨v, n, x⟩, z⟩ | ⟨k, ⟨v, n, x⟩, ⟨u, p, y⟩⟩ | k | ⟨k, x⟩ | ⟨k, w, n, x⟩ | ⟨k, n, x⟩ | ⟨k, w, wr, ⟨v, n, x⟩, ⟨u, p, y⟩⟩ | ⟨k, ⟨w0, v, n, x⟩, ⟨u, p, y⟩⟩
  · exact ⟨n + 1, q, .inl ⟨k, x⟩⟩
  · exact ⟨n + 1, q, .inr (.inl ⟨k, w, x⟩)⟩
  · rcases z with ⟨z, u, p, y⟩ | ⟨w0, ⟨u, p, y⟩, ⟨t, o, z⟩⟩
    · exact ⟨n + p + 1, q, .inr (.inr (.inl ⟨k, w, ⟨v, yy_le x (by omega)⟩, .inl ⟨z, u, yy_le y (by omega)⟩⟩))⟩
    · exact ⟨n + p + o + 1, q, .inr (.inr (.inl ⟨k, w, ⟨v, yy_le x (by omega)⟩, .inr ⟨w0, ⟨u, yy_le y (by omega)⟩, ⟨t, yy_le z (by omega)⟩⟩⟩))⟩
  · exact ⟨n + p + 1, q, .inr (.inr (.inr (.inl ⟨k, ⟨v, yy_le x (by omega)⟩, ⟨u, yy_le y (by omega)⟩⟩)))⟩
  · exact ⟨1, q, .inr (.inr (.inr (.inr (.inl k))))⟩
  · rcases x with x | ⟨w, n, x⟩
    · exact ⟨1, q, .inr (.inr (.inr (.inr (.inr (.inl ⟨k, .inl x⟩)))))⟩
    · exact ⟨n + 1, q, .inr (.inr (.inr (.inr (.inr (.inl ⟨k, .inr ⟨w, x⟩⟩)))))⟩
  · exact ⟨n + 1, q, .inr (.inr (.inr (.inr (.inr (.inr (.inl ⟨k, w, x⟩))))))⟩
  · exact ⟨n + 1, q, .inr (.inr (.inr (.inr (.inr (.inr (.inr (.inl ⟨k, x⟩)))))))⟩
  · exact ⟨n + p + 1, q, .inr (.inr (.inr (.inr (.inr (.inr (.inr (.inr (.inl ⟨k, w, wr, ⟨v, yy_le x (by omega)⟩, ⟨u, yy_le y (by omega)⟩⟩))))))))⟩
  · exact ⟨n + p + 1, q, .inr (.inr (.inr (.inr (.inr (.inr (.inr (.inr (.inr ⟨k, ⟨w0, v, yy_le x (by omega)⟩, ⟨u, yy_le y (by omega)⟩⟩))))))))⟩
theorem yt_i3 (H : y3 h (YT h) a b e) : YT h 3 a b e := by
  rcases H with x | ⟨q, x⟩
  · exact ⟨1, .inl x⟩
  · rcases x with ⟨w, n, x⟩ | ⟨w, ⟨n, x⟩, ⟨p, y⟩⟩
    · exact ⟨n + 1, .inr ⟨q, .inl ⟨w, x⟩⟩⟩
    · exact ⟨n + p + 1, .inr ⟨q, .inr ⟨w, yy_le x (by omega), yy_le y (by omega)⟩⟩⟩
section
variable {t g : ms_M} {lo hi : Int}
/-- the tree's cells are t's -/
def TC (t g : ms_M) : Prop := ∀ c x : Nat, (c = 167 ∨ (170 ≤ c ∧ c ≤ 173)) → g c x = t c x
/-- an operand: seen, and with a value -/
def OV (g : ms_M) (lo hi c : Int) : Prop := (lo ≤ c ∧ c < hi ∧ ¬ g 174 c.toNat = 3) ∧ YT g 0 lo hi c
theorem yl_leaf (B : TC t g) (q : 0 ≤ a ∧ a ≤ e ∧ e < b) (hk : (20 ≤ t 167 e.toNat ∧ t 167 e.toNat ≤ 25) ∨ t 167 e.toNat = 27) : y0 g (YT g) a b e := ⟨q, by
  rw [B 167 _ (by decide)]
  rcases hk with k | k
  · exact .inl k
  · exact .inr (.inl k)⟩
theorem yl_26 (B : TC t g) (q : 0 ≤ a ∧ a ≤ e ∧ e < b) (hk : t 167 e.toNat = 26) (x : YT g 1 (e + 1) b (t 171 e.toNat)) : y0 g (YT g) a b e := ⟨q, by
  rw [B 167 _ (by decide), B 171 _ (by decide)]
  exact .inr (.inr (.inl ⟨hk, x⟩))⟩
theorem yl_28 (B : TC t g) (q : 0 ≤ a ∧ a ≤ e ∧ e < b) (hk : t 167 e.toNat = 28 ∨ t 167 e.toNat = 29) (x : OV g (e + 1) b (t 170 e.toNat)) : y0 g (YT g) a b e := ⟨q, by
  rw [B 167 _ (by decide), B 170 _ (by decide)]
  exact .inr (.inr (.inr (.inl ⟨hk, x⟩)))⟩
theorem yl_30 (B : TC t g) (q : 0 ≤ a ∧ a ≤ e ∧ e < b) (hk : t 167 e.toNat = 30 ∨ t 167 e.toNat = 38) (x : OV g a e (t 170 e.toNat)) : y0 g (YT g) a b e := ⟨q, by
  rw [B 167 _ (by decide), B 170 _ (by decide)]
  exact .inr (.inr (.inr (.inr (.inl ⟨hk, x⟩))))⟩
theorem yl_31 (B : TC t g) (q : 0 ≤ a ∧ a ≤ e ∧ e < b) (hk : t 167 e.toNat = 31) (x : ¬ g 176 e.toNat = -1 ∨ OV g a e (t 170 e.toNat)) (y : YT g 1 (e + 1) b (t 171 e.toNat)) : y0 g (YT g) a b e := ⟨q, by
  rw [B 167 _ (by decide), B 170 _ (by decide), B 171 _ (by decide)]
  exact .inr (.inr (.inr (.inr (.inr (.inl ⟨hk, x, y⟩)))))⟩
theorem yl_37 (B : TC t g) (q : 0 ≤ a ∧ a ≤ e ∧ e < b) (hk : t 167 e.toNat = 32 ∨ t 167 e.toNat = 37) (x : OV g a e (t 170 e.toNat)) (y : OV g (e + 1) b (t 171 e.toNat)) : y0 g (YT g) a b e := ⟨q, by
  rw [B 167 _ (by decide), B 170 _ (by decide), B 171 _ (by decide)]
  exact .inr (.inr (.inr (.inr (.inr (.inr (.inl ⟨hk, x, y⟩))))))⟩
theorem yl_33 (B : TC t g) (q : 0 ≤ a ∧ a ≤ e ∧ e < b) (hk : 33 ≤ t 167 e.toNat ∧ t 167 e.toNat ≤ 36) (x : OV g (e + 1) b (t 170 e.toNat)) : y0 g (YT g) a b e := ⟨q, by
  rw [B 167 _ (by decide), B 170 _ (by decide)]
  exact .inr (.inr (.inr (.inr (.inr (.inr (.inr (.inl ⟨hk, x⟩)))))))⟩
theorem yl_39 {p : Int} (B : TC t g) (q : 0 ≤ a ∧ a ≤ e ∧ e < b) (hk : t 167 e.toNat = 39) (x : OV g a e (t 170 e.toNat)) (hp : e < p ∧ p ≤ b) (y : OV g (e + 1) p (t 171 e.toNat)) (z : OV g p b (t 172 e.toNat)) : y0 g (YT g) a b e := ⟨q, by
  rw [B 167 _ (by decide), B 170 _ (by decide), B 171 _ (by decide), B 172 _ (by decide)]
  exact .inr (.inr (.inr (.inr (.inr (.inr (.inr (.inr ⟨hk, x, p, hp, y, z⟩)))))))⟩
/-- a statement that has been seen -/
theorem zl_2 (B : TC t g) (q : 0 ≤ a ∧ a ≤ e ∧ e < b) (hk : t 167 e.toNat = 2) (x : OV g (e + 1) b (t 170 e.toNat)) : y2 g (YT g) a b e := ⟨q, by
  rw [B 167 _ (by decide), B 170 _ (by decide)]
  exact .inr (.inl ⟨hk, x⟩)⟩
theorem zl_3a (B : TC t g) (q : 0 ≤ a ∧ a ≤ e ∧ e < b) (hk : t 167 e.toNat = 3 ∧ t 172 e.toNat = -1) (x : OV g (e + 1) (t 171 e.toNat) (t 170 e.toNat)) (w : e < t 171 e.toNat ∧ t 171 e.toNat < b) (y : YT g 2 (t 171 e.toNat) b (t 171 e.toNat)) : y2 g (YT g) a b e := ⟨q, by
  rw [B 167 _ (by decide), B 170 _ (by decide), B 171 _ (by decide), B 172 _ (by decide)]
  exact .inr (.inr (.inl ⟨hk.1, by omega, x, .inl ⟨hk.2, w, y⟩⟩))⟩
theorem zl_3b (B : TC t g) (q : 0 ≤ a ∧ a ≤ e ∧ e < b) (hk : t 167 e.toNat = 3) (x : OV g (e + 1) (t 171 e.toNat) (t 170 e.toNat)) (w : e < t 171 e.toNat ∧ t 171 e.toNat < t 172 e.toNat) (y : YT g 2 (t 171 e.toNat) (t 172 e.toNat) (t 171 e.toNat)) (v : e < t 172 e.toNat ∧ t 172 e.toNat < b) (z : YT g 2 (t 172 e.toNat) b (t 172 e.toNat)) : y2 g (YT g) a b e := ⟨q, by
  rw [B 167 _ (by decide), B 170 _ (by decide), B 171 _ (by decide), B 172 _ (by decide)]
  exact .inr (.inr (.inl ⟨hk, by omega, x, .inr ⟨v.2, ⟨w, y⟩, ⟨v, z⟩⟩⟩))⟩
theorem zl_4 (B : TC t g) (q : 0 ≤ a ∧ a ≤ e ∧ e < b) (hk : t 167 e.toNat = 4) (x : OV g (e + 1) (t 171 e.toNat) (t 170 e.toNat)) (w : e < t 171 e.toNat ∧ t 171 e.toNat < b) (y : YT g 2 (t 171 e.toNat) b (t 171 e.toNat)) : y2 g (YT g) a b e := ⟨q, by
  rw [B 167 _ (by decide), B 170 _ (by decide), B 171 _ (by decide)]
  exact .inr (.inr (.inr (.inl ⟨hk, x, w, y⟩)))⟩
theorem zl_5 (B : TC t g) (q : 0 ≤ a ∧ a ≤ e ∧ e < b) (hk : t 167 e.toNat = 5 ∨ t 167 e.toNat = 6) : y2 g (YT g) a b e := ⟨q, by
  rw [B 167 _ (by decide)]
  exact .inr (.inr (.inr (.inr (.inl hk))))⟩
theorem zl_7a (B : TC t g) (q : 0 ≤ a ∧ a ≤ e ∧ e < b) (hk : t 167 e.toNat = 7 ∧ t 170 e.toNat = -1) : y2 g (YT g) a b e := ⟨q, by
  rw [B 167 _ (by decide), B 170 _ (by decide)]
  exact .inr (.inr (.inr (.inr (.inr (.inl ⟨hk.1, .inl hk.2⟩)))))⟩
theorem zl_7b (B : TC t g) (q : 0 ≤ a ∧ a ≤ e ∧ e < b) (hk : t 167 e.toNat = 7) (x : OV g (e + 1) b (t 170 e.toNat)) : y2 g (YT g) a b e := ⟨q, by
  rw [B 167 _ (by decide), B 170 _ (by decide)]
  exact .inr (.inr (.inr (.inr (.inr (.inl ⟨hk, .inr x⟩)))))⟩
theorem zl_8 (B : TC t g) (q : 0 ≤ a ∧ a ≤ e ∧ e < b) (hk : t 167 e.toNat = 8 ∨ t 167 e.toNat = 10) (x : OV g (e + 1) b (t 170 e.toNat)) : y2 g (YT g) a b e := ⟨q, by
  rw [B 167 _ (by decide), B 170 _ (by decide)]
  exact .inr (.inr (.inr (.inr (.inr (.inr (.inl ⟨hk, x⟩))))))⟩
theorem zl_11 (B : TC t g) (q : 0 ≤ a ∧ a ≤ e ∧ e < b) (hk : t 167 e.toNat = 11) (w : e + 1 ≤ t 170 e.toNat ∧ t 170 e.toNat < b ∧ (t 167 (t 170 e.toNat).toNat = 26 ∨ t 167 (t 170 e.toNat).toNat = 31)) (x : YT g 0 (e + 1) b (t 170 e.toNat)) : y2 g (YT g) a b e := ⟨q, by
  rw [B 167 e.toNat (by decide), B 170 _ (by decide), B 167 (t 170 e.toNat).toNat (by decide)]
  exact .inr (.inr (.inr (.inr (.inr (.inr (.inr (.inl ⟨⟨hk, w⟩, x⟩)))))))⟩
theorem zl_12 {p : Int} (B : TC t g) (q : 0 ≤ a ∧ a ≤ e ∧ e < b) (hk : t 167 e.toNat = 12) (hp : e < p ∧ p ≤ b) (x : OV g (e + 1) p (t 170 e.toNat)) (y : OV g p b (t 171 e.toNat)) (k : t 167 (t 170 e.toNat).toNat = 25 ∨ t 167 (t 170 e.toNat).toNat = 32 ∨ (t 167 (t 170 e.toNat).toNat = 30 ∧ 0 ≤ g 175 (t 170 e.toNat).toNat)) : y2 g (YT g) a b e := ⟨q, by
  rw [B 167 e.toNat (by decide), B 170 _ (by decide), B 171 _ (by decide), B 167 (t 170 e.toNat).toNat (by decide)]
  exact .inr (.inr (.inr (.inr (.inr (.inr (.inr (.inr (.inl ⟨⟨hk, k⟩, p, hp, x, y⟩))))))))⟩
theorem zl_9 (B : TC t g) (q : 0 ≤ a ∧ a ≤ e ∧ e < b) (hk : t 167 e.toNat = 9) (w : e < t 170 e.toNat ∧ t 170 e.toNat < t 171 e.toNat) (x : YT g 2 (t 170 e.toNat) (t 171 e.toNat) (t 170 e.toNat)) (v : e < t 171 e.toNat ∧ t 171 e.toNat < b) (y : YT g 2 (t 171 e.toNat) b (t 171 e.toNat)) : y2 g (YT g) a b e := ⟨q, by
  rw [B 167 _ (by decide), B 170 _ (by decide), B 171 _ (by decide)]
  exact .inr (.inr (.inr (.inr (.inr (.inr (.inr (.inr (.inr ⟨hk, ⟨v.2, w, x⟩, ⟨v, y⟩⟩))))))))⟩
end
/-- types and slots are written between a and b alone -/
def FG (a b : Int) (h r : ms_M) : Prop := ∀ x : Nat, ((x : Int) < a ∨ b ≤ (x : Int)) → r 174 x = h 174 x ∧ r 176 x = h 176 x ∧ r 175 x = h 175 x
theorem fg_rf : FG a b h h := fun _ _ => ⟨rfl, rfl, rfl⟩
theorem fg_tr {g : ms_M} {a2 b2 a3 b3 : Int} (x : FG a2 b2 h g) (y : FG a3 b3 g r) (w : (b2 ≤ a2 ∨ (a ≤ a2 ∧ b2 ≤ b)) ∧ (b3 ≤ a3 ∨ (a ≤ a3 ∧ b3 ≤ b))) : FG a b h r := fun k hk => by
  have p : r 174 k = g 174 k ∧ r 176 k = g 176 k ∧ r 175 k = g 175 k := y k (by omega)
  have q : g 174 k = h 174 k ∧ g 176 k = h 176 k ∧ g 175 k = h 175 k := x k (by omega)
  exact ⟨p.1.trans q.1, p.2.1.trans q.2.1, p.2.2.trans q.2.2⟩
theorem fg_up {z : ms_M} {c : Nat} {j v : Int} (E : z = up_M h c j.toNat v) (hj : 0 ≤ j) : FG j (j + 1) h z := fun k hk => by rw [E]; exact ⟨up_n (by omega), up_n (by omega), up_n (by omega)⟩
theorem fg_fd {z : ms_M} {k : Nat} {v : Int} (E : z = up_M h 160 k v) : FG 0 0 h z := fun k hk => by rw [E]; exact ⟨up_n (by omega), up_n (by omega), up_n (by omega)⟩
/-- a typed tree is left by what is written elsewhere -/
theorem yt_fg {s : Nat} {a2 b2 : Int} {t : ms_M} (B1 : TC t h) (B2 : TC t r) (F : FG a2 b2 h r) (w : b2 ≤ a ∨ b ≤ a2 ∨ b2 ≤ a2) (x : YT h s a b e) : YT r s a b e := yt_fr x (fun c y h1 h2 h3 => by
  by_cases q : c = 174
  · rw [q]; exact (F y (by omega)).1
  · by_cases q2 : c = 175
    · rw [q2]; exact (F y (by omega)).2.2
    · rw [B2 c y (by omega), B1 c y (by omega)]) (fun y h2 h3 _ => (F y (by omega)).2.1)
theorem ov_fg {a2 b2 : Int} {t : ms_M} (B1 : TC t h) (B2 : TC t r) (F : FG a2 b2 h r) (ha : 0 ≤ a) (w : b2 ≤ a ∨ b ≤ a2 ∨ b2 ≤ a2) (x : OV h a b e) : OV r a b e := by
  obtain ⟨⟨x1, x2, x3⟩, x4⟩ := x
  exact ⟨⟨x1, x2, by rw [(F e.toNat (by omega)).1]; exact x3⟩, yt_fg B1 B2 F w x4⟩
end

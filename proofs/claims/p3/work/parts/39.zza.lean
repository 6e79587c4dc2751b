section
variable {m : Int} {h r : ms_M} {d d2 a a2 b b2 e : Int} {F G : Nat → Int → Int → Int → Int → Prop}
/-- how deep an expression of nest d goes: m = 0 in make's words, m = 1 in the rules' -/
def RE (m d : Int) : Int := if m = 0 then 35 * (40 - d) + 1 else 39 * (40 - d) + 1
theorem re_1 (hd : d ≤ 40) : 1 ≤ RE m d := by unfold RE; split <;> omega
theorem re_s (hm : m = 0 ∨ m = 1) : RE m d = RE m (d + 1) + 35 + 4 * m := by unfold RE; split <;> omega
theorem re_le (hd : d ≤ d2) : RE m d2 ≤ RE m d := by unfold RE; split <;> omega
/-- an expression's node e: it and all below it lie in [a, b); d: how deep -/
def t0 (m : Int) (h : ms_M) (F : Nat → Int → Int → Int → Int → Prop) (d a b e : Int) : Prop :=
  (0 ≤ a ∧ a ≤ e ∧ e < b ∧ 1 ≤ d) ∧
  ((20 ≤ h 167 e.toNat ∧ h 167 e.toNat ≤ 25) ∨ (h 167 e.toNat = 27) ∨
   ((h 167 e.toNat = 26 ∧ 4 ≤ d) ∧ F 1 (d - 3 - m) (e + 1) b (h 171 e.toNat)) ∨
   ((h 167 e.toNat = 28 ∨ (h 167 e.toNat = 29 ∧ 0 ≤ (h 172 e.toNat) ∧ (h 172 e.toNat) ≤ 3001)) ∧ F 0 (d - 2 - m) (e + 1) b (h 170 e.toNat)) ∨
   ((h 167 e.toNat = 30 ∧ 0 ≤ (h 172 e.toNat) ∧ (h 172 e.toNat) ≤ 3001) ∧ F 0 d a e (h 170 e.toNat)) ∨
   ((h 167 e.toNat = 31 ∧ 4 ≤ d ∧ 0 ≤ (h 172 e.toNat) ∧ (h 172 e.toNat) ≤ 3001) ∧ F 0 d a e (h 170 e.toNat) ∧ F 1 (d - 3 - 2 * m) (e + 1) b (h 171 e.toNat)) ∨
   ((h 167 e.toNat = 32 ∨ h 167 e.toNat = 37) ∧ F 0 d a e (h 170 e.toNat) ∧ F 0 (d - 3) (e + 1) b (h 171 e.toNat)) ∨
   ((33 ≤ h 167 e.toNat ∧ h 167 e.toNat ≤ 36) ∧ F 0 (d - 2 - 2 * m) (e + 1) b (h 170 e.toNat)) ∨
   (h 167 e.toNat = 38 ∧ F 0 d a e (h 170 e.toNat)) ∨
   (h 167 e.toNat = 39 ∧ F 0 (d - 2 - 2 * m) a e (h 170 e.toNat) ∧ ∃ y, (e < y ∧ y ≤ b) ∧ F 0 (d - 2 - 2 * m) (e + 1) y (h 171 e.toNat) ∧ F 0 (d - 2 - 2 * m) y b (h 172 e.toNat)))
/-- a row of arguments -/
def t1 (h : ms_M) (F : Nat → Int → Int → Int → Int → Prop) (d a b e : Int) : Prop :=
  e = -1 ∨ ((0 ≤ a ∧ a ≤ e ∧ e < b) ∧ F 0 d a e (h 170 e.toNat) ∧ F 1 d (e + 1) b (h 173 e.toNat))
/-- a statement's node e: all below it lies in [e + 1, b) -/
def t2 (m : Int) (h : ms_M) (F : Nat → Int → Int → Int → Int → Prop) (d a b e : Int) : Prop :=
  (0 ≤ a ∧ a ≤ e ∧ e < b ∧ 0 ≤ d) ∧
  ((h 167 e.toNat = 1 ∧ ((h 170 e.toNat) = -1 ∨ (e < (h 170 e.toNat) ∧ (h 170 e.toNat) < b ∧ h 169 e.toNat ≤ h 169 (h 170 e.toNat).toNat)) ∧ F 3 (d - 1) (e + 1) b (h 170 e.toNat)) ∨
   ((h 167 e.toNat = 2 ∧ 0 ≤ h 176 e.toNat ∧ 0 ≤ (h 172 e.toNat) ∧ (h 172 e.toNat) ≤ 12007) ∧ F 0 (RE m 1) (e + 1) b (h 170 e.toNat)) ∨
   (h 167 e.toNat = 3 ∧ F 0 (RE m 1) (e + 1) (h 171 e.toNat) (h 170 e.toNat) ∧ (((h 172 e.toNat) = -1 ∧ ((e < (h 171 e.toNat) ∧ (h 171 e.toNat) < b ∧ h 169 e.toNat ≤ h 169 (h 171 e.toNat).toNat) ∧ F 2 (d - 1) (h 171 e.toNat) b (h 171 e.toNat))) ∨ ((h 172 e.toNat) < b ∧ ((e < (h 171 e.toNat) ∧ (h 171 e.toNat) < (h 172 e.toNat) ∧ h 169 e.toNat ≤ h 169 (h 171 e.toNat).toNat) ∧ F 2 (d - 1) (h 171 e.toNat) (h 172 e.toNat) (h 171 e.toNat)) ∧ ((e < (h 172 e.toNat) ∧ (h 172 e.toNat) < b ∧ h 169 e.toNat ≤ h 169 (h 172 e.toNat).toNat) ∧ F 2 (d - 1) (h 172 e.toNat) b (h 172 e.toNat))))) ∨
   (h 167 e.toNat = 4 ∧ F 0 (RE m 1) (e + 1) (h 171 e.toNat) (h 170 e.toNat) ∧ ((e < (h 171 e.toNat) ∧ (h 171 e.toNat) < b ∧ h 169 e.toNat ≤ h 169 (h 171 e.toNat).toNat) ∧ F 2 (d - 1) (h 171 e.toNat) b (h 171 e.toNat))) ∨
   (h 167 e.toNat = 5 ∨ h 167 e.toNat = 6) ∨
   (h 167 e.toNat = 7 ∧ ((h 170 e.toNat) = -1 ∨ F 0 (RE m 1) (e + 1) b (h 170 e.toNat))) ∨
   ((h 167 e.toNat = 8 ∨ h 167 e.toNat = 10 ∨ h 167 e.toNat = 11) ∧ F 0 (RE m 1) (e + 1) b (h 170 e.toNat)) ∨
   (h 167 e.toNat = 12 ∧ ∃ y, (e < y ∧ y ≤ b) ∧ F 0 (RE m 1) (e + 1) y (h 170 e.toNat) ∧ F 0 (RE m 1) y b (h 171 e.toNat)) ∨
   ((h 167 e.toNat = 9 ∧ 0 ≤ h 176 e.toNat ∧ h 176 e.toNat ≤ 3000) ∧ ((h 171 e.toNat) < b ∧ ((e < (h 170 e.toNat) ∧ (h 170 e.toNat) < (h 171 e.toNat) ∧ h 169 e.toNat ≤ h 169 (h 170 e.toNat).toNat) ∧ F 2 (d - 1) (h 170 e.toNat) (h 171 e.toNat) (h 170 e.toNat))) ∧ ((e < (h 171 e.toNat) ∧ (h 171 e.toNat) < b ∧ h 169 e.toNat ≤ h 169 (h 171 e.toNat).toNat) ∧ F 2 (d - 1) (h 171 e.toNat) b (h 171 e.toNat)) ∧ h 169 e.toNat + 4 ≤ h 169 (h 171 e.toNat).toNat))
/-- a row of statements -/
def t3 (h : ms_M) (F : Nat → Int → Int → Int → Int → Prop) (d a b e : Int) : Prop :=
  e = -1 ∨ ((0 ≤ a ∧ a ≤ e ∧ e < b) ∧ (((h 173 e.toNat) = -1 ∧ F 2 d e b e) ∨ ((e < (h 173 e.toNat) ∧ (h 173 e.toNat) < b) ∧ F 2 d e (h 173 e.toNat) e ∧ F 3 d (h 173 e.toNat) b (h 173 e.toNat) ∧ h 169 e.toNat ≤ h 169 (h 173 e.toNat).toNat ∧ (h 167 e.toNat = 2 → h 169 e.toNat + 2 ≤ h 169 (h 173 e.toNat).toNat))))
def TT (m : Int) (h : ms_M) : Nat → Nat → Int → Int → Int → Int → Prop
  | 0 => fun _ _ _ _ _ => False
  | n + 1 => fun s => match s with
    | 0 => t0 m h (TT m h n)
    | 1 => t1 h (TT m h n)
    | 2 => t2 m h (TT m h n)
    | _ => t3 h (TT m h n)
theorem tt_0 {n : Nat} : TT m h (n + 1) 0 d a b e = t0 m h (TT m h n) d a b e := rfl
theorem tt_1 {n : Nat} : TT m h (n + 1) 1 d a b e = t1 h (TT m h n) d a b e := rfl
theorem tt_2 {n : Nat} : TT m h (n + 1) 2 d a b e = t2 m h (TT m h n) d a b e := rfl
theorem tt_3 {n s : Nat} : TT m h (n + 1) (s + 3) d a b e = t3 h (TT m h n) d a b e := rfl
theorem t0_map {a0 b0 : Int} (H : ∀ s, s ≤ 1 → ∀ d a b d2 a2 b2 e, F s d a b e → d ≤ d2 → 0 ≤ a2 → a2 ≤ a → b ≤ b2 → a0 ≤ a → b ≤ b0 → G s d2 a2 b2 e) (A : ∀ (c x : Nat), (c = 167 ∨ (170 ≤ c ∧ c ≤ 173)) → a0 ≤ (x : Int) → (x : Int) < b0 → r c x = h c x) (h1 : d ≤ d2) (h2 : 0 ≤ a2) (h3 : a2 ≤ a) (h4 : b ≤ b2) (h5 : a0 ≤ a) (h6 : b ≤ b0) (x : t0 m h F d a b e) : t0 m r G d2 a2 b2 e := by
  obtain ⟨⟨q1, q2, q3, q4⟩, x⟩ := x
  have k7 := A 167 e.toNat (by decide) (by omega) (by omega)
  have k0 := A 170 e.toNat (by decide) (by omega) (by omega)
  have k1 := A 171 e.toNat (by decide) (by omega) (by omega)
  have k2 := A 172 e.toNat (by decide) (by omega) (by omega)
  have k3 := A 173 e.toNat (by decide) (by omega) (by omega)
  refine ⟨⟨h2, by omega, by omega, by omega⟩, ?_⟩
  rw [k7, k0, k1, k2]
  rcases x with x | x | ⟨k, x⟩ | ⟨k, x⟩ | ⟨k, x⟩ | ⟨k, x, y⟩ | ⟨k, x, y⟩ | ⟨k, x⟩ | ⟨k, x⟩ | ⟨k, x, w, wr, y, z⟩
  · exact .inl x
  · exact .inr (.inl x)
  · exact .inr (.inr (.inl ⟨⟨k.1, by omega⟩, H 1 (by decide) _ _ _ _ _ _ _ x (by omega) (by omega) (by omega) (by omega) (by omega) (by omega)⟩))
  · exact .inr (.inr (.inr (.inl ⟨k, H 0 (by decide) _ _ _ _ _ _ _ x (by omega) (by omega) (by omega) (by omega) (by omega) (by omega)⟩)))
  · exact .inr (.inr (.inr (.inr (.inl ⟨k, H 0 (by decide) _ _ _ _ _ _ _ x (by omega) (by omega) (by omega) (by omega) (by omega) (by omega)⟩))))
  · exact .inr (.inr (.inr (.inr (.inr (.inl ⟨⟨k.1, by omega, k.2.2⟩, H 0 (by decide) _ _ _ _ _ _ _ x (by omega) (by omega) (by omega) (by omega) (by omega) (by omega), H 1 (by decide) _ _ _ _ _ _ _ y (by omega) (by omega) (by omega) (by omega) (by omega) (by omega)⟩)))))
  · exact .inr (.inr (.inr (.inr (.inr (.inr (.inl ⟨k, H 0 (by decide) _ _ _ _ _ _ _ x (by omega) (by omega) (by omega) (by omega) (by omega) (by omega), H 0 (by decide) _ _ _ _ _ _ _ y (by omega) (by omega) (by omega) (by omega) (by omega) (by omega)⟩))))))
  · exact .inr (.inr (.inr (.inr (.inr (.inr (.inr (.inl ⟨k, H 0 (by decide) _ _ _ _ _ _ _ x (by omega) (by omega) (by omega) (by omega) (by omega) (by omega)⟩)))))))
  · exact .inr (.inr (.inr (.inr (.inr (.inr (.inr (.inr (.inl ⟨k, H 0 (by decide) _ _ _ _ _ _ _ x (by omega) (by omega) (by omega) (by omega) (by omega) (by omega)⟩))))))))
  · exact .inr (.inr (.inr (.inr (.inr (.inr (.inr (.inr (.inr ⟨k, H 0 (by decide) _ _ _ _ _ _ _ x (by omega) (by omega) (by omega) (by omega) (by omega) (by omega), w, ⟨wr.1, by omega⟩, H 0 (by decide) _ _ _ _ _ _ _ y (by omega) (by omega) (by omega) (by omega) (by omega) (by omega), H 0 (by decide) _ _ _ _ _ _ _ z (by omega) (by omega) (by omega) (by omega) (by omega) (by omega)⟩))))))))
theorem t1_map {a0 b0 : Int} (H : ∀ s, s ≤ 1 → ∀ d a b d2 a2 b2 e, F s d a b e → d ≤ d2 → 0 ≤ a2 → a2 ≤ a → b ≤ b2 → a0 ≤ a → b ≤ b0 → G s d2 a2 b2 e) (A : ∀ (c x : Nat), (c = 167 ∨ (170 ≤ c ∧ c ≤ 173)) → a0 ≤ (x : Int) → (x : Int) < b0 → r c x = h c x) (h1 : d ≤ d2) (h2 : 0 ≤ a2) (h3 : a2 ≤ a) (h4 : b ≤ b2) (h5 : a0 ≤ a) (h6 : b ≤ b0) (x : t1 h F d a b e) : t1 r G d2 a2 b2 e := by
  rcases x with x | ⟨⟨q1, q2, q3⟩, x, y⟩
  · exact .inl x
  have k7 := A 167 e.toNat (by decide) (by omega) (by omega)
  have k0 := A 170 e.toNat (by decide) (by omega) (by omega)
  have k1 := A 171 e.toNat (by decide) (by omega) (by omega)
  have k2 := A 172 e.toNat (by decide) (by omega) (by omega)
  have k3 := A 173 e.toNat (by decide) (by omega) (by omega)
  refine .inr ⟨⟨h2, by omega, by omega⟩, ?_⟩
  rw [k0, k3]
  exact ⟨H 0 (by decide) _ _ _ _ _ _ _ x (by omega) (by omega) (by omega) (by omega) (by omega) (by omega), H 1 (by decide) _ _ _ _ _ _ _ y (by omega) (by omega) (by omega) (by omega) (by omega) (by omega)⟩
theorem t2_map {b0 : Int} (H : ∀ s d a b d2 a2 b2 f, F s d a b f → d ≤ d2 → 0 ≤ a2 → a2 ≤ a → b ≤ b2 → e + 1 ≤ a → b ≤ b0 → G s d2 a2 b2 f) (k7 : r 167 e.toNat = h 167 e.toNat) (k0 : r 170 e.toNat = h 170 e.toNat) (k1 : r 171 e.toNat = h 171 e.toNat) (k2 : r 172 e.toNat = h 172 e.toNat) (A9 : ∀ x : Nat, e ≤ (x : Int) → (x : Int) < b0 → r 169 x = h 169 x) (k6 : (h 167 e.toNat = 2 ∨ h 167 e.toNat = 9) → r 176 e.toNat = h 176 e.toNat) (h1 : d ≤ d2) (h2 : 0 ≤ a2) (h3 : a2 ≤ a) (h4 : b ≤ b2) (h6 : b ≤ b0) (x : t2 m h F d a b e) : t2 m r G d2 a2 b2 e := by
  obtain ⟨⟨q1, q2, q3, q4⟩, x⟩ := x
  have k9 := A9 e.toNat (by omega) (by omega)
  refine ⟨⟨h2, by omega, by omega, by omega⟩, ?_⟩
  rw [k7, k0, k1, k2, k9]
  rcases x with ⟨k, w, x⟩ | ⟨⟨k, w⟩, x⟩ | ⟨k, x, z⟩ | ⟨k, x, ⟨w, y⟩⟩ | k | ⟨k, x⟩ | ⟨k, x⟩ | ⟨k, w, wr, x, y⟩ | ⟨⟨k, w⟩, ⟨w0, w1, x⟩, ⟨w2, y⟩, w3⟩
  · refine .inl ⟨k, ?_, H _ _ _ _ _ _ _ _ x (by omega) (by omega) (by omega) (by omega) (by omega) (by omega)⟩
    rcases w with w | w
    · exact .inl w
    · exact .inr ⟨w.1, by omega, by rw [A9 (h 170 e.toNat).toNat (by omega) (by omega)]; exact w.2.2⟩
  · exact .inr (.inl ⟨⟨k, by rw [k6 (.inl k)]; exact w⟩, H _ _ _ _ _ _ _ _ x (by omega) (by omega) (by omega) (by omega) (by omega) (by omega)⟩)
  · refine .inr (.inr (.inl ⟨k, ?_, ?_⟩))
    · rcases z with ⟨_, w, _⟩ | ⟨w0, ⟨w, _⟩, _⟩
      · exact H _ _ _ _ _ _ _ _ x (by omega) (by omega) (by omega) (by omega) (by omega) (by omega)
      · exact H _ _ _ _ _ _ _ _ x (by omega) (by omega) (by omega) (by omega) (by omega) (by omega)
    · rcases z with ⟨z, w, y⟩ | ⟨w0, ⟨w1, y⟩, ⟨w4, z⟩⟩
      · exact .inl ⟨z, ⟨w.1, by omega, by rw [A9 (h 171 e.toNat).toNat (by omega) (by omega)]; exact w.2.2⟩, H _ _ _ _ _ _ _ _ y (by omega) (by omega) (by omega) (by omega) (by omega) (by omega)⟩
      · exact .inr ⟨by omega, ⟨⟨w1.1, by omega, by rw [A9 (h 171 e.toNat).toNat (by omega) (by omega)]; exact w1.2.2⟩, H _ _ _ _ _ _ _ _ y (by omega) (by omega) (by omega) (by omega) (by omega) (by omega)⟩, ⟨⟨w4.1, by omega, by rw [A9 (h 172 e.toNat).toNat (by omega) (by omega)]; exact w4.2.2⟩, H _ _ _ _ _ _ _ _ z (by omega) (by omega) (by omega) (by omega) (by omega) (by omega)⟩⟩
  · exact .inr (.inr (.inr (.inl ⟨k, H _ _ _ _ _ _ _ _ x (by omega) (by omega) (by omega) (by omega) (by omega) (by omega), ⟨⟨w.1, by omega, by rw [A9 (h 171 e.toNat).toNat (by omega) (by omega)]; exact w.2.2⟩, H _ _ _ _ _ _ _ _ y (by omega) (by omega) (by omega) (by omega) (by omega) (by omega)⟩⟩)))
  · exact .inr (.inr (.inr (.inr (.inl k))))
  · refine .inr (.inr (.inr (.inr (.inr (.inl ⟨k, ?_⟩)))))
    rcases x with x | x
    · exact .inl x
    · exact .inr (H _ _ _ _ _ _ _ _ x (by omega) (by omega) (by omega) (by omega) (by omega) (by omega))
  · exact .inr (.inr (.inr (.inr (.inr (.inr (.inl ⟨k, H _ _ _ _ _ _ _ _ x (by omega) (by omega) (by omega) (by omega) (by omega) (by omega)⟩))))))
  · exact .inr (.inr (.inr (.inr (.inr (.inr (.inr (.inl ⟨k, w, ⟨wr.1, by omega⟩, H _ _ _ _ _ _ _ _ x (by omega) (by omega) (by omega) (by omega) (by omega) (by omega), H _ _ _ _ _ _ _ _ y (by omega) (by omega) (by omega) (by omega) (by omega) (by omega)⟩)))))))
  · exact .inr (.inr (.inr (.inr (.inr (.inr (.inr (.inr ⟨⟨k, by rw [k6 (.inr k)]; exact w⟩, ⟨by omega, ⟨w1.1, by omega, by rw [A9 (h 170 e.toNat).toNat (by omega) (by omega)]; exact w1.2.2⟩, H _ _ _ _ _ _ _ _ x (by omega) (by omega) (by omega) (by omega) (by omega) (by omega)⟩, ⟨⟨w2.1, by omega, by rw [A9 (h 171 e.toNat).toNat (by omega) (by omega)]; exact w2.2.2⟩, H _ _ _ _ _ _ _ _ y (by omega) (by omega) (by omega) (by omega) (by omega) (by omega)⟩, by rw [A9 (h 171 e.toNat).toNat (by omega) (by omega)]; exact w3⟩)))))))
theorem t3_map {a0 b0 : Int} (H : ∀ s d a b d2 a2 b2 e, F s d a b e → d ≤ d2 → 0 ≤ a2 → a2 ≤ a → b ≤ b2 → a0 ≤ a → b ≤ b0 → G s d2 a2 b2 e) (A : ∀ (c x : Nat), (c = 167 ∨ (170 ≤ c ∧ c ≤ 173)) → a0 ≤ (x : Int) → (x : Int) < b0 → r c x = h c x) (A9 : ∀ x : Nat, a0 ≤ (x : Int) → (x : Int) < b0 → r 169 x = h 169 x) (B : ∀ x : Nat, a0 ≤ (x : Int) → (x : Int) < b0 → (h 167 x = 2 ∨ h 167 x = 9) → r 176 x = h 176 x) (h1 : d ≤ d2) (h2 : 0 ≤ a2) (h3 : a2 ≤ a) (h4 : b ≤ b2) (h5 : a0 ≤ a) (h6 : b ≤ b0) (x : t3 h F d a b e) : t3 r G d2 a2 b2 e := by
  rcases x with x | ⟨⟨q1, q2, q3⟩, x⟩
  · exact .inl x
  have k7 := A 167 e.toNat (by decide) (by omega) (by omega)
  have k9 := A9 e.toNat (by omega) (by omega)
  have k0 := A 170 e.toNat (by decide) (by omega) (by omega)
  have k1 := A 171 e.toNat (by decide) (by omega) (by omega)
  have k2 := A 172 e.toNat (by decide) (by omega) (by omega)
  have k3 := A 173 e.toNat (by decide) (by omega) (by omega)
  refine .inr ⟨⟨h2, by omega, by omega⟩, ?_⟩
  rw [k3, k9, k7]
  rcases x with ⟨w, x⟩ | ⟨w, x, y, w1, w2⟩
  · exact .inl ⟨w, H _ _ _ _ _ _ _ _ x (by omega) (by omega) (by omega) (by omega) (by omega) (by omega)⟩
  · refine .inr ⟨⟨w.1, by omega⟩, H _ _ _ _ _ _ _ _ x (by omega) (by omega) (by omega) (by omega) (by omega) (by omega), H _ _ _ _ _ _ _ _ y (by omega) (by omega) (by omega) (by omega) (by omega) (by omega), ?_⟩
    rw [A9 (h 173 e.toNat).toNat (by omega) (by omega)]
    exact ⟨w1, w2⟩
/-- the same tree in other cells, and in a wider range -/
theorem tt_map {a0 b0 : Int} (A : ∀ (c x : Nat), (c = 167 ∨ (170 ≤ c ∧ c ≤ 173)) → a0 ≤ (x : Int) → (x : Int) < b0 → r c x = h c x) (A9 : ∀ x : Nat, a0 ≤ (x : Int) → (x : Int) < b0 → r 169 x = h 169 x) (B : ∀ x : Nat, a0 ≤ (x : Int) → (x : Int) < b0 → (h 167 x = 2 ∨ h 167 x = 9) → r 176 x = h 176 x) : ∀ (n s : Nat) (d a b d2 a2 b2 e : Int), TT m h n s d a b e → d ≤ d2 → 0 ≤ a2 → a2 ≤ a → b ≤ b2 → a0 ≤ a → b ≤ b0 → TT m r n s d2 a2 b2 e := by
  intro n
  induction n with
  | zero => intro s d a b d2 a2 b2 e x; exact False.elim x
  | succ n ih =>
    intro s d a b d2 a2 b2 e x h1 h2 h3 h4 h5 h6
    match s, x with
    | 0, x => exact t0_map (fun s _ => ih s) A h1 h2 h3 h4 h5 h6 x
    | 1, x => exact t1_map (fun s _ => ih s) A h1 h2 h3 h4 h5 h6 x
    | 2, x =>
      have q := (show t2 m h (TT m h n) d a b e from x).1
      exact t2_map (b0 := b0) (fun s d a b d2 a2 b2 f y z1 z2 z3 z4 z5 z6 => ih s d a b d2 a2 b2 f y z1 z2 z3 z4 (by omega) z6) (A 167 _ (by decide) (by omega) (by omega)) (A 170 _ (by decide) (by omega) (by omega)) (A 171 _ (by decide) (by omega) (by omega)) (A 172 _ (by decide) (by omega) (by omega)) (fun x z1 z2 => A9 x (by omega) z2) (B e.toNat (by omega) (by omega)) h1 h2 h3 h4 h6 x
    | s + 3, x => exact t3_map ih A A9 B h1 h2 h3 h4 h5 h6 x
theorem tt_s : ∀ (n s : Nat) (d a b e : Int), TT m h n s d a b e → ∀ k, TT m h (n + k) s d a b e := by
  intro n
  induction n with
  | zero => intro s d a b e x; exact False.elim x
  | succ n ih =>
    intro s d a b e x k
    have hh : ∀ s d a b d2 a2 b2 e, TT m h n s d a b e → d ≤ d2 → 0 ≤ a2 → a2 ≤ a → b ≤ b2 → a ≤ a → b ≤ b → TT m h (n + k) s d2 a2 b2 e := fun s d a b d2 a2 b2 e y z1 z2 z3 z4 _ _ => tt_map (a0 := a) (b0 := b) (fun _ _ _ _ _ => rfl) (fun _ _ _ => rfl) (fun _ _ _ _ => rfl) _ _ _ _ _ _ _ _ _ (ih _ _ _ _ _ y k) z1 z2 z3 z4 (by omega) (by omega)
    have z : n + 1 + k = (n + k) + 1 := by omega
    rw [z]
    match s, x with
    | 0, x => exact t0_map (a0 := a) (b0 := b) (fun s _ d a b d2 a2 b2 e y z1 z2 z3 z4 _ _ => hh s d a b d2 a2 b2 e y z1 z2 z3 z4 (by omega) (by omega)) (fun _ _ _ _ _ => rfl) (by omega) (show t0 m h (TT m h n) d a b e from x).1.1 (by omega) (by omega) (by omega) (by omega) x
    | 1, x =>
      rcases (show t1 h (TT m h n) d a b e from x) with x | x
      · exact .inl x
      · exact t1_map (a0 := a) (b0 := b) (fun s _ d a b d2 a2 b2 e y z1 z2 z3 z4 _ _ => hh s d a b d2 a2 b2 e y z1 z2 z3 z4 (by omega) (by omega)) (fun _ _ _ _ _ => rfl) (by omega) x.1.1 (by omega) (by omega) (by omega) (by omega) (.inr x)
    | 2, x => exact t2_map (b0 := b) (fun s d a b d2 a2 b2 e y z1 z2 z3 z4 _ _ => hh s d a b d2 a2 b2 e y z1 z2 z3 z4 (by omega) (by omega)) rfl rfl rfl rfl (fun _ _ _ => rfl) (fun _ => rfl) (by omega) (show t2 m h (TT m h n) d a b e from x).1.1 (by omega) (by omega) (by omega) x
    | s + 3, x =>
      rcases (show t3 h (TT m h n) d a b e from x) with x | x
      · exact .inl x
      · exact t3_map (a0 := a) (b0 := b) (fun s d a b d2 a2 b2 e y z1 z2 z3 z4 _ _ => hh s d a b d2 a2 b2 e y z1 z2 z3 z4 (by omega) (by omega)) (fun _ _ _ _ _ => rfl) (fun _ _ _ => rfl) (fun _ _ _ _ => rfl) (by omega) x.1.1 (by omega) (by omega) (by omega) (by omega) (.inr x)
theorem tt_le {n k s : Nat} (x : TT m h n s d a b e) (hk : n ≤ k) : TT m h k s d a b e := by
  have := tt_s n s d a b e x (k - n)
  rwa [show n + (k - n) = k by omega] at this
/-- a tree below e (s: 0 an expression, 1 a row of arguments, 2 a statement, 3 a row of statements) -/
def TE (m : Int) (h : ms_M) (s : Nat) (d a b e : Int) : Prop := ∃ n, TT m h n s d a b e
theorem te_map {s : Nat} {a0 b0 : Int} (A : ∀ (c x : Nat), (c = 167 ∨ (170 ≤ c ∧ c ≤ 173)) → a0 ≤ (x : Int) → (x : Int) < b0 → r c x = h c x) (A9 : ∀ x : Nat, a0 ≤ (x : Int) → (x : Int) < b0 → r 169 x = h 169 x) (B : ∀ x : Nat, a0 ≤ (x : Int) → (x : Int) < b0 → (h 167 x = 2 ∨ h 167 x = 9) → r 176 x = h 176 x) (x : TE m h s d a b e) (h1 : d ≤ d2) (h2 : 0 ≤ a2) (h3 : a2 ≤ a) (h4 : b ≤ b2) (h5 : a0 ≤ a) (h6 : b ≤ b0) : TE m r s d2 a2 b2 e := by
  obtain ⟨n, x⟩ := x
  exact ⟨n, tt_map A A9 B n s d a b d2 a2 b2 e x h1 h2 h3 h4 h5 h6⟩
theorem te_wd {s : Nat} (x : TE m h s d a b e) (h1 : d ≤ d2) (h2 : 0 ≤ a2) (h3 : a2 ≤ a) (h4 : b ≤ b2) : TE m h s d2 a2 b2 e := te_map (a0 := a) (b0 := b) (fun _ _ _ _ _ => rfl) (fun _ _ _ => rfl) (fun _ _ _ _ => rfl) x h1 h2 h3 h4 (by omega) (by omega)
/-- leaving a row of statements or arguments as it is, and going to other cells -/
theorem te_fr {s : Nat} (x : TE m h s d a b e) (ha : 0 ≤ a) (A : ∀ (c x : Nat), 167 ≤ c → c ≤ 177 → a ≤ (x : Int) → (x : Int) < b → r c x = h c x) : TE m r s d a b e := te_map (a0 := a) (b0 := b) (fun c x h1 h3 h4 => A c x (by omega) (by omega) h3 h4) (fun x h3 h4 => A 169 x (by decide) (by decide) h3 h4) (fun x h1 h2 _ => A 176 x (by decide) (by decide) h1 h2) x (by omega) ha (by omega) (by omega) (by omega) (by omega)
theorem tt_01 {a0 b0 : Int} (A : ∀ (c x : Nat), (c = 167 ∨ (170 ≤ c ∧ c ≤ 173)) → a0 ≤ (x : Int) → (x : Int) < b0 → r c x = h c x) : ∀ (n s : Nat), s ≤ 1 → ∀ (d a b d2 a2 b2 e : Int), TT m h n s d a b e → d ≤ d2 → 0 ≤ a2 → a2 ≤ a → b ≤ b2 → a0 ≤ a → b ≤ b0 → TT m r n s d2 a2 b2 e := by
  intro n
  induction n with
  | zero => intro s _ d a b d2 a2 b2 e x; exact False.elim x
  | succ n ih =>
    intro s hs d a b d2 a2 b2 e x h1 h2 h3 h4 h5 h6
    match s, hs, x with
    | 0, _, x => exact t0_map ih A h1 h2 h3 h4 h5 h6 x
    | 1, _, x => exact t1_map ih A h1 h2 h3 h4 h5 h6 x
/-- an expression's tree leaves out where it begins -/
theorem te_01 {s : Nat} (hs : s ≤ 1) (A : ∀ (c x : Nat), (c = 167 ∨ (170 ≤ c ∧ c ≤ 173)) → r c x = h c x) (ha : 0 ≤ a) (x : TE m h s d a b e) : TE m r s d a b e := by
  obtain ⟨n, x⟩ := x
  exact ⟨n, tt_01 (a0 := a) (b0 := b) (fun c x h1 _ _ => A c x h1) n s hs d a b d a b e x (by omega) ha (by omega) (by omega) (by omega) (by omega)⟩
theorem tt_te {n : Nat} : ∀ s d a b d2 a2 b2 e, TT m h n s d a b e → d ≤ d2 → 0 ≤ a2 → a2 ≤ a → b ≤ b2 → True → True → TE m h s d2 a2 b2 e := fun _ _ _ _ _ _ _ _ y z1 z2 z3 z4 _ _ => te_wd ⟨n, y⟩ z1 z2 z3 z4
theorem te_o0 (x : TE m h 0 d a b e) : t0 m h (TE m h) d a b e := by
  obtain ⟨n, x⟩ := x
  cases n with
  | zero => exact False.elim x
  | succ n => exact t0_map (a0 := a) (b0 := b) (fun s _ d a b d2 a2 b2 e y z1 z2 z3 z4 _ _ => te_wd ⟨n, y⟩ z1 z2 z3 z4) (fun _ _ _ _ _ => rfl) (by omega) (show t0 m h (TT m h n) d a b e from x).1.1 (by omega) (by omega) (by omega) (by omega) x
theorem te_o1 (x : TE m h 1 d a b e) : t1 h (TE m h) d a b e := by
  obtain ⟨n, x⟩ := x
  cases n with
  | zero => exact False.elim x
  | succ n =>
    rcases (show t1 h (TT m h n) d a b e from x) with x | x
    · exact .inl x
    · exact t1_map (a0 := a) (b0 := b) (fun s _ d a b d2 a2 b2 e y z1 z2 z3 z4 _ _ => te_wd ⟨n, y⟩ z1 z2 z3 z4) (fun _ _ _ _ _ => rfl) (by omega) x.1.1 (by omega) (by omega) (by omega) (by omega) (.inr x)
theorem te_o2 (x : TE m h 2 d a b e) : t2 m h (TE m h) d a b e := by
  obtain ⟨n, x⟩ := x
  cases n with
  | zero => exact False.elim x
  | succ n => exact t2_map (b0 := b) (fun s d a b d2 a2 b2 e y z1 z2 z3 z4 _ _ => te_wd ⟨n, y⟩ z1 z2 z3 z4) rfl rfl rfl rfl (fun _ _ _ => rfl) (fun _ => rfl) (by omega) (show t2 m h (TT m h n) d a b e from x).1.1 (by omega) (by omega) (by omega) x
theorem te_o3 (x : TE m h 3 d a b e) : t3 h (TE m h) d a b e := by
  obtain ⟨n, x⟩ := x
  cases n with
  | zero => exact False.elim x
  | succ n =>
    rcases (show t3 h (TT m h n) d a b e from x) with x | x
    · exact .inl x
    · exact t3_map (a0 := a) (b0 := b) (fun s d a b d2 a2 b2 e y z1 z2 z3 z4 _ _ => te_wd ⟨n, y⟩ z1 z2 z3 z4) (fun _ _ _ _ _ => rfl) (fun _ _ _ => rfl) (fun _ _ _ _ => rfl) (by omega) x.1.1 (by omega) (by omega) (by omega) (by omega) (.inr x)
theorem te_i0 (H : t0 m h (TE m h) d a b e) : TE m h 0 d a b e := by
  obtain ⟨q, x⟩ := H
  rcases x with x | x | ⟨k, n, x⟩ | ⟨k, n, x⟩ | ⟨k, n, x⟩ | ⟨k, ⟨n, x⟩, ⟨p, y⟩⟩ | ⟨k, ⟨n, x⟩, ⟨p, y⟩⟩ | ⟨k, n, x⟩ | ⟨k, n, x⟩ | ⟨k, ⟨n, x⟩, w, wr, ⟨p, y⟩, ⟨o, z⟩⟩
  · exact ⟨1, q, .inl x⟩
  · exact ⟨1, q, .inr (.inl x)⟩
  · exact ⟨n + 1, q, .inr (.inr (.inl ⟨k, x⟩))⟩
  · exact ⟨n + 1, q, .inr (.inr (.inr (.inl ⟨k, x⟩)))⟩
  · exact ⟨n + 1, q, .inr (.inr (.inr (.inr (.inl ⟨k, x⟩))))⟩
  · exact ⟨n + p + 1, q, .inr (.inr (.inr (.inr (.inr (.inl ⟨k, tt_le x (by omega), tt_le y (by omega)⟩)))))⟩
  · exact ⟨n + p + 1, q, .inr (.inr (.inr (.inr (.inr (.inr (.inl ⟨k, tt_le x (by omega), tt_le y (by omega)⟩))))))⟩
  · exact ⟨n + 1, q, .inr (.inr (.inr (.inr (.inr (.inr (.inr (.inl ⟨k, x⟩)))))))⟩
  · exact ⟨n + 1, q, .inr (.inr (.inr (.inr (.inr (.inr (.inr (.inr (.inl ⟨k, x⟩))))))))⟩
  · exact ⟨n + p + o + 1, q, .inr (.inr (.inr (.inr (.inr (.inr (.inr (.inr (.inr ⟨k, tt_le x (by omega), w, wr, tt_le y (by omega), tt_le z (by omega)⟩))))))))⟩
theorem te_i1 (H : t1 h (TE m h) d a b e) : TE m h 1 d a b e := by
  rcases H with x | ⟨q, ⟨n, x⟩, ⟨p, y⟩⟩
  · exact ⟨1, .inl x⟩
  · exact ⟨n + p + 1, .inr ⟨q, tt_le x (by omega), tt_le y (by omega)⟩⟩
theorem te_i2 (H : t2 m h (TE m h) d a b e) : TE m h 2 d a b e := by
  obtain ⟨q, x⟩ := H
  rcases x with ⟨k, w, ⟨n, x⟩⟩ | ⟨k, ⟨n, x⟩⟩ | ⟨k, ⟨n, x⟩, z⟩ | ⟨k, ⟨n, x⟩, ⟨w, ⟨p, y⟩⟩⟩ | k | ⟨k, x⟩ | ⟨k, ⟨n, x⟩⟩ | ⟨k, w, wr, ⟨n, x⟩, ⟨p, y⟩⟩ | ⟨k, ⟨w0, w1, ⟨n, x⟩⟩, ⟨w2, ⟨p, y⟩⟩, w3⟩
  · exact ⟨n + 1, q, .inl ⟨k, w, x⟩⟩
  · exact ⟨n + 1, q, .inr (.inl ⟨k, x⟩)⟩
  · rcases z with ⟨z, w, ⟨p, y⟩⟩ | ⟨w0, ⟨w1, ⟨p, y⟩⟩, ⟨w4, ⟨o, z⟩⟩⟩
    · exact ⟨n + p + 1, q, .inr (.inr (.inl ⟨k, tt_le x (by omega), .inl ⟨z, w, tt_le y (by omega)⟩⟩))⟩
    · exact ⟨n + p + o + 1, q, .inr (.inr (.inl ⟨k, tt_le x (by omega), .inr ⟨w0, ⟨w1, tt_le y (by omega)⟩, ⟨w4, tt_le z (by omega)⟩⟩⟩))⟩
  · exact ⟨n + p + 1, q, .inr (.inr (.inr (.inl ⟨k, tt_le x (by omega), ⟨w, tt_le y (by omega)⟩⟩)))⟩
  · exact ⟨1, q, .inr (.inr (.inr (.inr (.inl k))))⟩
  · rcases x with x | ⟨n, x⟩
    · exact ⟨1, q, .inr (.inr (.inr (.inr (.inr (.inl ⟨k, .inl x⟩)))))⟩
    · exact ⟨n + 1, q, .inr (.inr (.inr (.inr (.inr (.inl ⟨k, .inr x⟩)))))⟩
  · exact ⟨n + 1, q, .inr (.inr (.inr (.inr (.inr (.inr (.inl ⟨k, x⟩))))))⟩
  · exact ⟨n + p + 1, q, .inr (.inr (.inr (.inr (.inr (.inr (.inr (.inl ⟨k, w, wr, tt_le x (by omega), tt_le y (by omega)⟩)))))))⟩
  · exact ⟨n + p + 1, q, .inr (.inr (.inr (.inr (.inr (.inr (.inr (.inr ⟨k, ⟨w0, w1, tt_le x (by omega)⟩, ⟨w2, tt_le y (by omega)⟩, w3⟩)))))))⟩
/-- a statement whose own next is written -/
theorem te_2x (x : TE m h 2 d e b e) (h0 : 0 ≤ e) (A : ∀ (c x : Nat), 167 ≤ c → c ≤ 177 → e ≤ (x : Int) → (x : Int) < b → ¬ (c = 173 ∧ x = e.toNat) → r c x = h c x) : TE m r 2 d e b e := by
  have q := (te_o2 x).1
  refine te_i2 (t2_map (b0 := b) (F := TE m h) (G := TE m r) (fun s d a b d2 a2 b2 f y z1 z2 z3 z4 z5 z6 => te_map (a0 := a) (b0 := b) (fun c x h1 h3 h4 => A c x (by omega) (by omega) (by omega) (by omega) (by omega)) (fun x h3 h4 => A 169 x (by decide) (by decide) (by omega) (by omega) (by omega)) (fun x h3 h4 _ => A 176 x (by decide) (by decide) (by omega) (by omega) (by omega)) y z1 z2 z3 z4 (by omega) (by omega)) ?_ ?_ ?_ ?_ ?_ ?_ (Int.le_refl d) h0 (Int.le_refl e) (Int.le_refl b) (Int.le_refl b) (te_o2 x))
  · exact A 167 _ (by decide) (by decide) (by omega) (by omega) (by omega)
  · exact A 170 _ (by decide) (by decide) (by omega) (by omega) (by omega)
  · exact A 171 _ (by decide) (by decide) (by omega) (by omega) (by omega)
  · exact A 172 _ (by decide) (by decide) (by omega) (by omega) (by omega)
  · exact fun x z1 z2 => A 169 x (by decide) (by decide) (by omega) (by omega) (by omega)
  · exact fun _ => A 176 _ (by decide) (by decide) (by omega) (by omega) (by omega)
theorem te_i3 (H : t3 h (TE m h) d a b e) : TE m h 3 d a b e := by
  rcases H with x | ⟨q, x⟩
  · exact ⟨1, .inl x⟩
  · rcases x with ⟨w, ⟨n, x⟩⟩ | ⟨w, ⟨n, x⟩, ⟨p, y⟩, w2⟩
    · exact ⟨n + 1, .inr ⟨q, .inl ⟨w, x⟩⟩⟩
    · exact ⟨n + p + 1, .inr ⟨q, .inr ⟨w, tt_le x (by omega), tt_le y (by omega), w2⟩⟩⟩
end

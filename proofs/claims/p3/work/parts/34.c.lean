/-- the memory that the new objects are -/
def rd_H (h : mx_H) (c k : Nat) : Int := match h[c]? with
  | some (.inl (_, _, .inl f)) => (f k).toInt
  | some (.inl (_, _, .inr (.inr (.inr (.inr f))))) => (match f k with
    | none => -1
    | some b => (b : Int))
  | some (.inr (_, fs)) => (match fs[k]? with
    | some (.int v) => v.toInt
    | some (.ref b) => (b : Int)
    | _ => -1)
  | _ => 0
def M_H (h : mx_H) : ms_M := fun c k => if c = 900000 then (if k = 0 then 256 else 0) else if c < 256 then rd_H h c k else 0
theorem sh_Lel : ∀ {fs : List Value} {xs : List Nat}, sh_L fs xs = true → fs.length = xs.length ∧ ∀ (k : Nat) (v : Value), fs[k]? = some v → ∃ x, xs[k]? = some x ∧ sh_V v x = true
  | [], [], _ => ⟨rfl, fun k v h => by cases h⟩
  | [], _ :: _, h => by cases h
  | _ :: _, [], h => by cases h
  | v :: vs, x :: xs, h => by
    have h1 := (Bool.and_eq_true _ _ ▸ (h : (sh_V v x && sh_L vs xs) = true) : sh_V v x = true ∧ sh_L vs xs = true)
    obtain ⟨h2, h3⟩ := sh_Lel h1.2
    refine ⟨by simp [h2], fun k w hw => ?_⟩
    cases k with
    | zero => cases hw; exact ⟨x, rfl, h1.1⟩
    | succ k => exact h3 k w hw
theorem ly_all : (List.range 256).all (fun c => Nat.ble (ly_T c) 5) = true := by decide +kernel
theorem cl_H {h : mx_H} {c : Nat} (hc : c < 256) (hs : sh_E c h[c]? = true) : some (cl_M (M_H h) c) = h[c]? := by
  have e1 : M_H h c = rd_H h c := by funext k; unfold M_H; rw [if_neg (by omega), if_pos hc]
  cases he : h[c]? with
  | none => rw [he] at hs; cases hs
  | some e =>
    rw [he] at hs
    match e, he, hs with
    | .inl (ty, n, .inl f), he, hs =>
      have h1 := (Bool.and_eq_true _ _ ▸ (hs : (sh_T ty c && Nat.beq n (ly_N c)) = true) : _ ∧ _)
      have h2 : n = ly_N c := Nat.eq_of_beq_eq_true h1.2
      have h3 : (fun i => Int32.ofInt (M_H h c i)) = f := by
        funext i; rw [e1]; unfold rd_H; rw [he]; exact Int32.ofInt_toInt _
      cases ty with
      | int => rw [cl_0 (Nat.eq_of_beq_eq_true h1.1), h3, h2]
      | byte => rw [cl_1 (Nat.eq_of_beq_eq_true h1.1), h3, ln_fix hc, h2]; rfl
      | boolean => rw [cl_2 (Nat.eq_of_beq_eq_true h1.1), h3, h2]
      | _ => cases h1.1
    | .inl (ty, n, .inr (.inr (.inr (.inr f)))), he, hs =>
      have h1 := (Bool.and_eq_true _ _ ▸ (hs : (sh_Q ty c && Nat.beq n (ly_N c)) = true) : _ ∧ _)
      have h2 : n = ly_N c := Nat.eq_of_beq_eq_true h1.2
      have h3 : (fun i => rf_O (M_H h c i)) = f := by
        funext i; rw [e1]; unfold rd_H; rw [he]
        show rf_O (match f i with | none => -1 | some b => (b : Int)) = f i
        cases f i with
        | none => exact rf_n.symm
        | some b => exact (rf_s b).symm
      cases ty with
      | object s =>
        have h4 := (Bool.and_eq_true _ _ ▸ (h1.1 : (Nat.beq (ly_T c) 3 && decide (s = RX3)) = true) : _ ∧ _)
        rw [cl_3 (Nat.eq_of_beq_eq_true h4.1), h3, h2, of_decide_eq_true h4.2]
      | array t =>
        cases t with
        | byte => rw [cl_4 (Nat.eq_of_beq_eq_true h1.1), h3, h2]
        | _ => cases h1.1
      | _ => cases h1.1
    | .inl (ty, n, .inr (.inl f)), he, hs => cases hs
    | .inl (ty, n, .inr (.inr (.inl f))), he, hs => cases hs
    | .inl (ty, n, .inr (.inr (.inr (.inl f)))), he, hs => cases hs
    | .inr (ci, fs), he, hs =>
      have h1 := (Bool.and_eq_true _ _ ▸ (hs : (Nat.beq (ly_T c) 5 && (Nat.beq ci (ly_N c) && sh_L fs (ly_A c).2.2)) = true) : _ ∧ _)
      have h2 := (Bool.and_eq_true _ _ ▸ h1.2 : _ ∧ _)
      obtain ⟨h3, h4⟩ := sh_Lel h2.2
      rw [cl_5 (Nat.eq_of_beq_eq_true h1.1), (Nat.eq_of_beq_eq_true h2.1 : ci = _)]
      congr 3
      apply List.ext_getElem?
      intro k
      rw [List.getElem?_mapIdx]
      cases hk : fs[k]? with
      | none =>
        rw [List.getElem?_eq_none (by rw [← h3]; exact List.getElem?_eq_none_iff.mp hk)]; rfl
      | some v =>
        obtain ⟨x, h5, h6⟩ := h4 k v hk
        rw [h5]
        show some (fd_V (M_H h) c k x) = some v
        congr 1
        unfold fd_V
        rw [e1]
        unfold rd_H
        rw [he]
        simp only [hk]
        cases v with
        | int w => cases (Nat.eq_of_beq_eq_true h6 : x = 0); rw [if_pos rfl, Int32.ofInt_toInt]
        | null => cases (Nat.eq_of_beq_eq_true h6 : x = 1); rw [if_neg (by decide), if_pos rfl, ← rf_n]; rfl
        | ref b =>
          have h7 := (Bool.and_eq_true _ _ ▸ (h6 : (Nat.ble (b + 1) 256 && (Nat.beq x 1 || Nat.beq x (b + 2))) = true) : _ ∧ _)
          rcases (Bool.or_eq_true _ _ ▸ h7.2 : Nat.beq x 1 = true ∨ Nat.beq x (b + 2) = true) with h8 | h8
          · cases (Nat.eq_of_beq_eq_true h8 : x = 1); rw [if_neg (by decide), if_pos rfl, ← rf_s]; rfl
          · have h9 : x = b + 2 := Nat.eq_of_beq_eq_true h8
            rw [if_neg (by omega), if_neg (by omega), h9]; rfl
        | _ => cases h6
theorem sh_Fel {f : Nat → Int32} {lo n A B k : Nat} (h : sh_F f lo n A B = true) (h1 : lo ≤ k) (h2 : k < lo + n) : -(A : Int) ≤ (f k).toInt ∧ (f k).toInt ≤ B := by
  unfold sh_F at h
  have h3 := List.all_eq_true.mp h (k - lo) (List.mem_range.mpr (by omega))
  have h4 : lo + (k - lo) = k := by omega
  rw [h4] at h3
  have h5 := (Bool.and_eq_true _ _ ▸ h3 : _ ∧ _)
  have h6 := Nat.le_of_ble_eq_true h5.1
  have h7 := Nat.le_of_ble_eq_true h5.2
  omega

theorem cm_turn {nn : Nat} {s h : ms_M} (C0 : CK s h) {a1 a2 : Int} (r1 : 0 ≤ a1 ∧ a1 ≤ h 160 70) (r2 : a2 = 3 ∨ (0 ≤ a2 ∧ a2 < 40)) (h70 : h 160 70 - a1 ≤ 2999) : Ok_ (qf_X13_turn nn a1 a2 h) (fun r => CK s r ∧ (r 160 50 = h 160 50 ∧ r 160 52 = h 160 52 ∧ r 160 54 = h 160 54 ∧ r 160 57 = h 160 57 ∧ r 160 72 = h 160 72 ∧ r 160 84 = h 160 84 ∧ r 160 87 = h 160 87) ∧ (((a2 = 3 ∧ r 160 70 = h 160 70 - a1) ∨ (¬ a2 = 3 ∧ r 160 70 = h 160 70 - a1 + 1)) ∧ r 160 68 = h 160 68 ∧ r 160 78 = h 160 78 ∧ r 160 88 = h 160 88) ∧ (∀ i : Nat, (i : Int) < h 160 87 → r 217 i = h 217 i ∧ r 218 i = h 218 i) ∧ (∀ j : Nat, r 199 j = h 199 j)) := by
  unfold qf_X13_turn
  have J0 : ∀ i : Nat, (i : Int) < h 160 87 → h 217 i = h 217 i ∧ h 218 i = h 218 i := fun _ _ => ⟨rfl, rfl⟩
  have R0 : ∀ j : Nat, h 199 j = h 199 j := fun _ => rfl
  have g50 := gF_160_50 C0.1
  have k50_h : h 160 50 = h 160 50 := rfl
  have g52 := gF_160_52 C0.1
  have k52_h : h 160 52 = h 160 52 := rfl
  have g54 := gF_160_54 C0.1
  have k54_h : h 160 54 = h 160 54 := rfl
  have g57 := gF_160_57 C0.1
  have k57_h : h 160 57 = h 160 57 := rfl
  have g68 := gF_160_68 C0.1
  have k68_h : h 160 68 = h 160 68 := rfl
  have g70 := gF_160_70 C0.1
  have k70_h : h 160 70 = h 160 70 := rfl
  have g72 := gF_160_72 C0.1
  have k72_h : h 160 72 = h 160 72 := rfl
  have g78 := gF_160_78 C0.1
  have k78_h : h 160 78 = h 160 78 := rfl
  have g84 := gF_160_84 C0.1
  have k84_h : h 160 84 = h 160 84 := rfl
  have g87 := gF_160_87 C0.1
  have k87_h : h 160 87 = h 160 87 := rfl
  have g88 := gF_160_88 C0.1
  have k88_h : h 160 88 = h 160 88 := rfl
  refine ok_sub (by omega) ?_; intro v2 e_v2
  refine ok_xl ?_; intro h3 E_h3
  obtain ⟨C_h3, k70_h3, N_h3⟩ := cm_pop C0 E_h3 (by omega)
  have k50_h3x : h3 160 50 = h 160 50 := (N_h3 160 50 (by decide)).trans k50_h
  have k52_h3x : h3 160 52 = h 160 52 := (N_h3 160 52 (by decide)).trans k52_h
  have k54_h3x : h3 160 54 = h 160 54 := (N_h3 160 54 (by decide)).trans k54_h
  have k57_h3x : h3 160 57 = h 160 57 := (N_h3 160 57 (by decide)).trans k57_h
  have k68_h3x : h3 160 68 = h 160 68 := (N_h3 160 68 (by decide)).trans k68_h
  have k70_h3x : h3 160 70 = h 160 70 - a1 := by omega
  have k72_h3x : h3 160 72 = h 160 72 := (N_h3 160 72 (by decide)).trans k72_h
  have k78_h3x : h3 160 78 = h 160 78 := (N_h3 160 78 (by decide)).trans k78_h
  have k84_h3x : h3 160 84 = h 160 84 := (N_h3 160 84 (by decide)).trans k84_h
  have k87_h3x : h3 160 87 = h 160 87 := (N_h3 160 87 (by decide)).trans k87_h
  have k88_h3x : h3 160 88 = h 160 88 := (N_h3 160 88 (by decide)).trans k88_h
  have J1 : ∀ i : Nat, (i : Int) < h 160 87 → h3 217 i = h 217 i ∧ h3 218 i = h 218 i := fun i hi => by rw [show h3 217 i = h 217 i from N_h3 217 i (by omega), show h3 218 i = h 218 i from N_h3 218 i (by omega)]; exact J0 i hi
  have R2 : ∀ j : Nat, h3 199 j = h 199 j := fun j => (show h3 199 j = h 199 j from N_h3 199 j (by omega)).trans (R0 j)
  clear k50_h k52_h k54_h k57_h k68_h k70_h k72_h k78_h k84_h k87_h k88_h k70_h3
  refine ok_if (fun C3 => ?_) (fun C3 => ?_)
  · skip
    exact ok_ret ⟨C_h3, by omega, by omega, J1, R2⟩
  · skip
    refine ok_sv (cm_push C_h3 (by omega) (by omega)) ?_; intro u5 P_u5
    obtain ⟨C_u5, k70_u5, N_u5⟩ := P_u5
    have k50_u5x : u5 160 50 = h 160 50 := (N_u5 160 50 (by decide) (by decide)).trans k50_h3x
    have k52_u5x : u5 160 52 = h 160 52 := (N_u5 160 52 (by decide) (by decide)).trans k52_h3x
    have k54_u5x : u5 160 54 = h 160 54 := (N_u5 160 54 (by decide) (by decide)).trans k54_h3x
    have k57_u5x : u5 160 57 = h 160 57 := (N_u5 160 57 (by decide) (by decide)).trans k57_h3x
    have k68_u5x : u5 160 68 = h 160 68 := (N_u5 160 68 (by decide) (by decide)).trans k68_h3x
    have k70_u5x : u5 160 70 = h 160 70 - a1 + 1 := by omega
    have k72_u5x : u5 160 72 = h 160 72 := (N_u5 160 72 (by decide) (by decide)).trans k72_h3x
    have k78_u5x : u5 160 78 = h 160 78 := (N_u5 160 78 (by decide) (by decide)).trans k78_h3x
    have k84_u5x : u5 160 84 = h 160 84 := (N_u5 160 84 (by decide) (by decide)).trans k84_h3x
    have k87_u5x : u5 160 87 = h 160 87 := (N_u5 160 87 (by decide) (by decide)).trans k87_h3x
    have k88_u5x : u5 160 88 = h 160 88 := (N_u5 160 88 (by decide) (by decide)).trans k88_h3x
    have J4 : ∀ i : Nat, (i : Int) < h 160 87 → u5 217 i = h 217 i ∧ u5 218 i = h 218 i := fun i hi => by rw [show u5 217 i = h3 217 i from N_u5 217 i (by decide) (by omega), show u5 218 i = h3 218 i from N_u5 218 i (by decide) (by omega)]; exact J1 i hi
    have R5 : ∀ j : Nat, u5 199 j = h 199 j := fun j => (show u5 199 j = h3 199 j from N_u5 199 j (by decide) (by omega)).trans (R2 j)
    clear k50_h3x k52_h3x k54_h3x k57_h3x k68_h3x k70_h3x k72_h3x k78_h3x k84_h3x k87_h3x k88_h3x k70_u5
    exact ok_ret ⟨C_u5, by omega, by omega, J4, R5⟩
theorem cm_self {nn : Nat} (hn : 1000000 ≤ nn) {s h : ms_M} (C0 : CK s h) (h68 : h 160 68 ≤ 800000000) (h70 : h 160 70 ≤ 2999) : Ok_ (qf_X13_self nn h) (fun r => CK s r ∧ (r 160 50 = h 160 50 ∧ r 160 52 = h 160 52 ∧ r 160 54 = h 160 54 ∧ r 160 57 = h 160 57 ∧ r 160 72 = h 160 72 ∧ r 160 84 = h 160 84 ∧ r 160 87 = h 160 87) ∧ (r 160 70 = h 160 70 + 1 ∧ r 160 68 = h 160 68 + 2 ∧ r 160 78 = h 160 78 ∧ r 160 88 = h 160 88) ∧ (∀ i : Nat, (i : Int) < h 160 87 → r 217 i = h 217 i ∧ r 218 i = h 218 i) ∧ (∀ j : Nat, r 199 j = h 199 j)) := by
  unfold qf_X13_self
  have J0 : ∀ i : Nat, (i : Int) < h 160 87 → h 217 i = h 217 i ∧ h 218 i = h 218 i := fun _ _ => ⟨rfl, rfl⟩
  have R0 : ∀ j : Nat, h 199 j = h 199 j := fun _ => rfl
  have g50 := gF_160_50 C0.1
  have k50_h : h 160 50 = h 160 50 := rfl
  have g52 := gF_160_52 C0.1
  have k52_h : h 160 52 = h 160 52 := rfl
  have g54 := gF_160_54 C0.1
  have k54_h : h 160 54 = h 160 54 := rfl
  have g57 := gF_160_57 C0.1
  have k57_h : h 160 57 = h 160 57 := rfl
  have g68 := gF_160_68 C0.1
  have k68_h : h 160 68 = h 160 68 := rfl
  have g70 := gF_160_70 C0.1
  have k70_h : h 160 70 = h 160 70 := rfl
  have g72 := gF_160_72 C0.1
  have k72_h : h 160 72 = h 160 72 := rfl
  have g78 := gF_160_78 C0.1
  have k78_h : h 160 78 = h 160 78 := rfl
  have g84 := gF_160_84 C0.1
  have k84_h : h 160 84 = h 160 84 := rfl
  have g87 := gF_160_87 C0.1
  have k87_h : h 160 87 = h 160 87 := rfl
  have g88 := gF_160_88 C0.1
  have k88_h : h 160 88 = h 160 88 := rfl
  have o52 := C0.2.2.1.2.2.2
  refine ok_sv (cm_put hn C0 (by omega) (by omega)) ?_; intro u2 P_u2
  obtain ⟨C_u2, k68_u2, N_u2⟩ := P_u2
  have k50_u2x : u2 160 50 = h 160 50 := (N_u2 160 50 (by decide) (by decide)).trans k50_h
  have k52_u2x : u2 160 52 = h 160 52 := (N_u2 160 52 (by decide) (by decide)).trans k52_h
  have k54_u2x : u2 160 54 = h 160 54 := (N_u2 160 54 (by decide) (by decide)).trans k54_h
  have k57_u2x : u2 160 57 = h 160 57 := (N_u2 160 57 (by decide) (by decide)).trans k57_h
  have k68_u2x : u2 160 68 = h 160 68 + 1 := by omega
  have k70_u2x : u2 160 70 = h 160 70 := (N_u2 160 70 (by decide) (by decide)).trans k70_h
  have k72_u2x : u2 160 72 = h 160 72 := (N_u2 160 72 (by decide) (by decide)).trans k72_h
  have k78_u2x : u2 160 78 = h 160 78 := (N_u2 160 78 (by decide) (by decide)).trans k78_h
  have k84_u2x : u2 160 84 = h 160 84 := (N_u2 160 84 (by decide) (by decide)).trans k84_h
  have k87_u2x : u2 160 87 = h 160 87 := (N_u2 160 87 (by decide) (by decide)).trans k87_h
  have k88_u2x : u2 160 88 = h 160 88 := (N_u2 160 88 (by decide) (by decide)).trans k88_h
  have J1 : ∀ i : Nat, (i : Int) < h 160 87 → u2 217 i = h 217 i ∧ u2 218 i = h 218 i := fun i hi => by rw [show u2 217 i = h 217 i from N_u2 217 i (by decide) (by omega), show u2 218 i = h 218 i from N_u2 218 i (by decide) (by omega)]; exact J0 i hi
  have R2 : ∀ j : Nat, u2 199 j = h 199 j := fun j => (show u2 199 j = h 199 j from N_u2 199 j (by decide) (by omega)).trans (R0 j)
  clear k50_h k52_h k54_h k57_h k68_h k70_h k72_h k78_h k84_h k87_h k88_h k68_u2
  refine ok_sv (cm_put hn C_u2 (by omega) (by omega)) ?_; intro u4 P_u4
  obtain ⟨C_u4, k68_u4, N_u4⟩ := P_u4
  have k50_u4x : u4 160 50 = h 160 50 := (N_u4 160 50 (by decide) (by decide)).trans k50_u2x
  have k52_u4x : u4 160 52 = h 160 52 := (N_u4 160 52 (by decide) (by decide)).trans k52_u2x
  have k54_u4x : u4 160 54 = h 160 54 := (N_u4 160 54 (by decide) (by decide)).trans k54_u2x
  have k57_u4x : u4 160 57 = h 160 57 := (N_u4 160 57 (by decide) (by decide)).trans k57_u2x
  have k68_u4x : u4 160 68 = h 160 68 + 1 + 1 := by omega
  have k70_u4x : u4 160 70 = h 160 70 := (N_u4 160 70 (by decide) (by decide)).trans k70_u2x
  have k72_u4x : u4 160 72 = h 160 72 := (N_u4 160 72 (by decide) (by decide)).trans k72_u2x
  have k78_u4x : u4 160 78 = h 160 78 := (N_u4 160 78 (by decide) (by decide)).trans k78_u2x
  have k84_u4x : u4 160 84 = h 160 84 := (N_u4 160 84 (by decide) (by decide)).trans k84_u2x
  have k87_u4x : u4 160 87 = h 160 87 := (N_u4 160 87 (by decide) (by decide)).trans k87_u2x
  have k88_u4x : u4 160 88 = h 160 88 := (N_u4 160 88 (by decide) (by decide)).trans k88_u2x
  have J3 : ∀ i : Nat, (i : Int) < h 160 87 → u4 217 i = h 217 i ∧ u4 218 i = h 218 i := fun i hi => by rw [show u4 217 i = u2 217 i from N_u4 217 i (by decide) (by omega), show u4 218 i = u2 218 i from N_u4 218 i (by decide) (by omega)]; exact J1 i hi
  have R4 : ∀ j : Nat, u4 199 j = h 199 j := fun j => (show u4 199 j = u2 199 j from N_u4 199 j (by decide) (by omega)).trans (R2 j)
  clear k50_u2x k52_u2x k54_u2x k57_u2x k68_u2x k70_u2x k72_u2x k78_u2x k84_u2x k87_u2x k88_u2x k68_u4
  refine ok_mul (by omega) ?_; intro v6 e_v6
  refine ok_add (by omega) ?_; intro v7 e_v7
  refine ok_sv (cm_push C_u4 (by omega) (by omega)) ?_; intro u9 P_u9
  obtain ⟨C_u9, k70_u9, N_u9⟩ := P_u9
  have k50_u9x : u9 160 50 = h 160 50 := (N_u9 160 50 (by decide) (by decide)).trans k50_u4x
  have k52_u9x : u9 160 52 = h 160 52 := (N_u9 160 52 (by decide) (by decide)).trans k52_u4x
  have k54_u9x : u9 160 54 = h 160 54 := (N_u9 160 54 (by decide) (by decide)).trans k54_u4x
  have k57_u9x : u9 160 57 = h 160 57 := (N_u9 160 57 (by decide) (by decide)).trans k57_u4x
  have k68_u9x : u9 160 68 = h 160 68 + 1 + 1 := (N_u9 160 68 (by decide) (by decide)).trans k68_u4x
  have k70_u9x : u9 160 70 = h 160 70 + 1 := by omega
  have k72_u9x : u9 160 72 = h 160 72 := (N_u9 160 72 (by decide) (by decide)).trans k72_u4x
  have k78_u9x : u9 160 78 = h 160 78 := (N_u9 160 78 (by decide) (by decide)).trans k78_u4x
  have k84_u9x : u9 160 84 = h 160 84 := (N_u9 160 84 (by decide) (by decide)).trans k84_u4x
  have k87_u9x : u9 160 87 = h 160 87 := (N_u9 160 87 (by decide) (by decide)).trans k87_u4x
  have k88_u9x : u9 160 88 = h 160 88 := (N_u9 160 88 (by decide) (by decide)).trans k88_u4x
  have J5 : ∀ i : Nat, (i : Int) < h 160 87 → u9 217 i = h 217 i ∧ u9 218 i = h 218 i := fun i hi => by rw [show u9 217 i = u4 217 i from N_u9 217 i (by decide) (by omega), show u9 218 i = u4 218 i from N_u9 218 i (by decide) (by omega)]; exact J3 i hi
  have R6 : ∀ j : Nat, u9 199 j = h 199 j := fun j => (show u9 199 j = u4 199 j from N_u9 199 j (by decide) (by omega)).trans (R4 j)
  clear k50_u4x k52_u4x k54_u4x k57_u4x k68_u4x k70_u4x k72_u4x k78_u4x k84_u4x k87_u4x k88_u4x k70_u9
  exact ok_ret ⟨C_u9, by omega, by omega, J5, R6⟩
set_option maxHeartbeats 4000000 in
theorem cm_truth {nn : Nat} (hn : 1000000 ≤ nn) {s h : ms_M} (C0 : CK s h) {a1 a2 : Int} (r1 : 153 ≤ a1 ∧ a1 ≤ 167) (r2 : 0 ≤ a2 ∧ a2 ≤ h 160 70) (h70 : h 160 70 - a2 ≤ 2998) (h68 : h 160 68 ≤ 700000000) (h87 : h 160 87 ≤ 2997) (h78 : h 160 78 ≤ 6197) (h88 : h 160 88 ≤ 1900000000) : Ok_ (qf_X13_truth nn a1 a2 h) (fun r => CK s r ∧ (r 160 50 = h 160 50 ∧ r 160 52 = h 160 52 ∧ r 160 54 = h 160 54 ∧ r 160 57 = h 160 57 ∧ r 160 72 = h 160 72 ∧ r 160 84 = h 160 84 ∧ r 160 87 = h 160 87) ∧ (r 160 70 = h 160 70 - a2 + 1 ∧ r 160 68 = h 160 68 + 8 ∧ (h 160 78 ≤ r 160 78 ∧ r 160 78 ≤ h 160 78 + 2) ∧ r 160 88 = h 160 88 + 2) ∧ (∀ i : Nat, (i : Int) < h 160 87 → r 217 i = h 217 i ∧ r 218 i = h 218 i) ∧ (∀ j : Nat, r 199 j = h 199 j)) := by
  unfold qf_X13_truth
  have J0 : ∀ i : Nat, (i : Int) < h 160 87 → h 217 i = h 217 i ∧ h 218 i = h 218 i := fun _ _ => ⟨rfl, rfl⟩
  have R0 : ∀ j : Nat, h 199 j = h 199 j := fun _ => rfl
  have g50 := gF_160_50 C0.1
  have k50_h : h 160 50 = h 160 50 := rfl
  have g52 := gF_160_52 C0.1
  have k52_h : h 160 52 = h 160 52 := rfl
  have g54 := gF_160_54 C0.1
  have k54_h : h 160 54 = h 160 54 := rfl
  have g57 := gF_160_57 C0.1
  have k57_h : h 160 57 = h 160 57 := rfl
  have g68 := gF_160_68 C0.1
  have k68_h : h 160 68 = h 160 68 := rfl
  have g70 := gF_160_70 C0.1
  have k70_h : h 160 70 = h 160 70 := rfl
  have g72 := gF_160_72 C0.1
  have k72_h : h 160 72 = h 160 72 := rfl
  have g78 := gF_160_78 C0.1
  have k78_h : h 160 78 = h 160 78 := rfl
  have g84 := gF_160_84 C0.1
  have k84_h : h 160 84 = h 160 84 := rfl
  have g87 := gF_160_87 C0.1
  have k87_h : h 160 87 = h 160 87 := rfl
  have g88 := gF_160_88 C0.1
  have k88_h : h 160 88 = h 160 88 := rfl
  refine ok_sv (cm_label C0 (by omega)) ?_; intro u2 P_u2
  obtain ⟨C_u2, l_u2, k88_u2, N_u2⟩ := P_u2
  have m_u2 : u2.1 = h 160 88 + 1 := by omega
  have k50_u2x : u2.2 160 50 = h 160 50 := (N_u2 160 50 (by decide)).trans k50_h
  have k52_u2x : u2.2 160 52 = h 160 52 := (N_u2 160 52 (by decide)).trans k52_h
  have k54_u2x : u2.2 160 54 = h 160 54 := (N_u2 160 54 (by decide)).trans k54_h
  have k57_u2x : u2.2 160 57 = h 160 57 := (N_u2 160 57 (by decide)).trans k57_h
  have k68_u2x : u2.2 160 68 = h 160 68 := (N_u2 160 68 (by decide)).trans k68_h
  have k70_u2x : u2.2 160 70 = h 160 70 := (N_u2 160 70 (by decide)).trans k70_h
  have k72_u2x : u2.2 160 72 = h 160 72 := (N_u2 160 72 (by decide)).trans k72_h
  have k78_u2x : u2.2 160 78 = h 160 78 := (N_u2 160 78 (by decide)).trans k78_h
  have k84_u2x : u2.2 160 84 = h 160 84 := (N_u2 160 84 (by decide)).trans k84_h
  have k87_u2x : u2.2 160 87 = h 160 87 := (N_u2 160 87 (by decide)).trans k87_h
  have k88_u2x : u2.2 160 88 = h 160 88 + 1 := by omega
  have J1 : ∀ i : Nat, (i : Int) < h 160 87 → u2.2 217 i = h 217 i ∧ u2.2 218 i = h 218 i := fun i hi => by rw [show u2.2 217 i = h 217 i from N_u2 217 i (by omega), show u2.2 218 i = h 218 i from N_u2 218 i (by omega)]; exact J0 i hi
  have R2 : ∀ j : Nat, u2.2 199 j = h 199 j := fun j => (show u2.2 199 j = h 199 j from N_u2 199 j (by omega)).trans (R0 j)
  clear k50_h k52_h k54_h k57_h k68_h k70_h k72_h k78_h k84_h k87_h k88_h k88_u2 l_u2
  refine ok_sv (cm_label C_u2 (by omega)) ?_; intro u4 P_u4
  obtain ⟨C_u4, l_u4, k88_u4, N_u4⟩ := P_u4
  have m_u4 : u4.1 = h 160 88 + 1 + 1 := by omega
  have k50_u4x : u4.2 160 50 = h 160 50 := (N_u4 160 50 (by decide)).trans k50_u2x
  have k52_u4x : u4.2 160 52 = h 160 52 := (N_u4 160 52 (by decide)).trans k52_u2x
  have k54_u4x : u4.2 160 54 = h 160 54 := (N_u4 160 54 (by decide)).trans k54_u2x
  have k57_u4x : u4.2 160 57 = h 160 57 := (N_u4 160 57 (by decide)).trans k57_u2x
  have k68_u4x : u4.2 160 68 = h 160 68 := (N_u4 160 68 (by decide)).trans k68_u2x
  have k70_u4x : u4.2 160 70 = h 160 70 := (N_u4 160 70 (by decide)).trans k70_u2x
  have k72_u4x : u4.2 160 72 = h 160 72 := (N_u4 160 72 (by decide)).trans k72_u2x
  have k78_u4x : u4.2 160 78 = h 160 78 := (N_u4 160 78 (by decide)).trans k78_u2x
  have k84_u4x : u4.2 160 84 = h 160 84 := (N_u4 160 84 (by decide)).trans k84_u2x
  have k87_u4x : u4.2 160 87 = h 160 87 := (N_u4 160 87 (by decide)).trans k87_u2x
  have k88_u4x : u4.2 160 88 = h 160 88 + 1 + 1 := by omega
  have J3 : ∀ i : Nat, (i : Int) < h 160 87 → u4.2 217 i = h 217 i ∧ u4.2 218 i = h 218 i := fun i hi => by rw [show u4.2 217 i = u2.2 217 i from N_u4 217 i (by omega), show u4.2 218 i = u2.2 218 i from N_u4 218 i (by omega)]; exact J1 i hi
  have R4 : ∀ j : Nat, u4.2 199 j = h 199 j := fun j => (show u4.2 199 j = u2.2 199 j from N_u4 199 j (by omega)).trans (R2 j)
  clear k50_u2x k52_u2x k54_u2x k57_u2x k68_u2x k70_u2x k72_u2x k78_u2x k84_u2x k87_u2x k88_u2x k88_u4 l_u4
  refine ok_sub (by omega) ?_; intro v6 e_v6
  refine ok_xl ?_; intro h7 E_h7
  obtain ⟨C_h7, k70_h7, N_h7⟩ := cm_pop C_u4 E_h7 (by omega)
  have k50_h7x : h7 160 50 = h 160 50 := (N_h7 160 50 (by decide)).trans k50_u4x
  have k52_h7x : h7 160 52 = h 160 52 := (N_h7 160 52 (by decide)).trans k52_u4x
  have k54_h7x : h7 160 54 = h 160 54 := (N_h7 160 54 (by decide)).trans k54_u4x
  have k57_h7x : h7 160 57 = h 160 57 := (N_h7 160 57 (by decide)).trans k57_u4x
  have k68_h7x : h7 160 68 = h 160 68 := (N_h7 160 68 (by decide)).trans k68_u4x
  have k70_h7x : h7 160 70 = h 160 70 - a2 := by omega
  have k72_h7x : h7 160 72 = h 160 72 := (N_h7 160 72 (by decide)).trans k72_u4x
  have k78_h7x : h7 160 78 = h 160 78 := (N_h7 160 78 (by decide)).trans k78_u4x
  have k84_h7x : h7 160 84 = h 160 84 := (N_h7 160 84 (by decide)).trans k84_u4x
  have k87_h7x : h7 160 87 = h 160 87 := (N_h7 160 87 (by decide)).trans k87_u4x
  have k88_h7x : h7 160 88 = h 160 88 + 1 + 1 := (N_h7 160 88 (by decide)).trans k88_u4x
  have J5 : ∀ i : Nat, (i : Int) < h 160 87 → h7 217 i = h 217 i ∧ h7 218 i = h 218 i := fun i hi => by rw [show h7 217 i = u4.2 217 i from N_h7 217 i (by omega), show h7 218 i = u4.2 218 i from N_h7 218 i (by omega)]; exact J3 i hi
  have R6 : ∀ j : Nat, h7 199 j = h 199 j := fun j => (show h7 199 j = u4.2 199 j from N_h7 199 j (by omega)).trans (R4 j)
  clear k50_u4x k52_u4x k54_u4x k57_u4x k68_u4x k70_u4x k72_u4x k78_u4x k84_u4x k87_u4x k88_u4x k70_h7
  refine ok_sv (cm_jump hn C_h7 (by omega) (by omega) (by omega) (by omega)) ?_; intro u9 P_u9
  obtain ⟨C_u9, k68_u9, k87_u9, n_u9, p_u9, N_u9⟩ := P_u9
  have J7 : ∀ i : Nat, (i : Int) < h 160 87 → u9 217 i = h 217 i ∧ u9 218 i = h 218 i := fun i hi => by rw [(p_u9 i (by omega)).1, (p_u9 i (by omega)).2]; exact J5 i hi
  have E8 : u9 218 (h 160 87).toNat = u2.1 := by rw [show h 160 87 = h7 160 87 by omega]; exact n_u9
  have k50_u9x : u9 160 50 = h 160 50 := (N_u9 160 50 rfl).trans k50_h7x
  have k52_u9x : u9 160 52 = h 160 52 := (N_u9 160 52 rfl).trans k52_h7x
  have k54_u9x : u9 160 54 = h 160 54 := (N_u9 160 54 rfl).trans k54_h7x
  have k57_u9x : u9 160 57 = h 160 57 := (N_u9 160 57 rfl).trans k57_h7x
  have k68_u9x : u9 160 68 = h 160 68 + 3 := by omega
  have k70_u9x : u9 160 70 = h 160 70 - a2 := (N_u9 160 70 rfl).trans k70_h7x
  have k72_u9x : u9 160 72 = h 160 72 := (N_u9 160 72 rfl).trans k72_h7x
  have k78_u9x : u9 160 78 = h 160 78 := (N_u9 160 78 rfl).trans k78_h7x
  have k84_u9x : u9 160 84 = h 160 84 := (N_u9 160 84 rfl).trans k84_h7x
  have k87_u9x : u9 160 87 = h 160 87 + 1 := by omega
  have k88_u9x : u9 160 88 = h 160 88 + 1 + 1 := (N_u9 160 88 rfl).trans k88_h7x
  have R9 : ∀ j : Nat, u9 199 j = h 199 j := fun j => (show u9 199 j = h7 199 j from N_u9 199 j (nw_ar rfl j)).trans (R6 j)
  clear k50_h7x k52_h7x k54_h7x k57_h7x k68_h7x k70_h7x k72_h7x k78_h7x k84_h7x k87_h7x k88_h7x k68_u9 k87_u9
  refine ok_sv (cm_put hn C_u9 (by omega) (by omega)) ?_; intro u11 P_u11
  obtain ⟨C_u11, k68_u11, N_u11⟩ := P_u11
  have k50_u11x : u11 160 50 = h 160 50 := (N_u11 160 50 (by decide) (by decide)).trans k50_u9x
  have k52_u11x : u11 160 52 = h 160 52 := (N_u11 160 52 (by decide) (by decide)).trans k52_u9x
  have k54_u11x : u11 160 54 = h 160 54 := (N_u11 160 54 (by decide) (by decide)).trans k54_u9x
  have k57_u11x : u11 160 57 = h 160 57 := (N_u11 160 57 (by decide) (by decide)).trans k57_u9x
  have k68_u11x : u11 160 68 = h 160 68 + 3 + 1 := by omega
  have k70_u11x : u11 160 70 = h 160 70 - a2 := (N_u11 160 70 (by decide) (by decide)).trans k70_u9x
  have k72_u11x : u11 160 72 = h 160 72 := (N_u11 160 72 (by decide) (by decide)).trans k72_u9x
  have k78_u11x : u11 160 78 = h 160 78 := (N_u11 160 78 (by decide) (by decide)).trans k78_u9x
  have k84_u11x : u11 160 84 = h 160 84 := (N_u11 160 84 (by decide) (by decide)).trans k84_u9x
  have k87_u11x : u11 160 87 = h 160 87 + 1 := (N_u11 160 87 (by decide) (by decide)).trans k87_u9x
  have k88_u11x : u11 160 88 = h 160 88 + 1 + 1 := (N_u11 160 88 (by decide) (by decide)).trans k88_u9x
  have J10 : ∀ i : Nat, (i : Int) < h 160 87 → u11 217 i = h 217 i ∧ u11 218 i = h 218 i := fun i hi => by rw [show u11 217 i = u9 217 i from N_u11 217 i (by decide) (by omega), show u11 218 i = u9 218 i from N_u11 218 i (by decide) (by omega)]; exact J7 i hi
  have E11 : u11 218 (h 160 87).toNat = u2.1 := (show u11 218 _ = u9 218 _ from N_u11 218 _ (by decide) (by omega)).trans E8
  have R12 : ∀ j : Nat, u11 199 j = h 199 j := fun j => (show u11 199 j = u9 199 j from N_u11 199 j (by decide) (by omega)).trans (R9 j)
  clear k50_u9x k52_u9x k54_u9x k57_u9x k68_u9x k70_u9x k72_u9x k78_u9x k84_u9x k87_u9x k88_u9x k68_u11
  refine ok_sv (cm_push C_u11 (by omega) (by omega)) ?_; intro u13 P_u13
  obtain ⟨C_u13, k70_u13, N_u13⟩ := P_u13
  have k50_u13x : u13 160 50 = h 160 50 := (N_u13 160 50 (by decide) (by decide)).trans k50_u11x
  have k52_u13x : u13 160 52 = h 160 52 := (N_u13 160 52 (by decide) (by decide)).trans k52_u11x
  have k54_u13x : u13 160 54 = h 160 54 := (N_u13 160 54 (by decide) (by decide)).trans k54_u11x
  have k57_u13x : u13 160 57 = h 160 57 := (N_u13 160 57 (by decide) (by decide)).trans k57_u11x
  have k68_u13x : u13 160 68 = h 160 68 + 3 + 1 := (N_u13 160 68 (by decide) (by decide)).trans k68_u11x
  have k70_u13x : u13 160 70 = h 160 70 - a2 + 1 := by omega
  have k72_u13x : u13 160 72 = h 160 72 := (N_u13 160 72 (by decide) (by decide)).trans k72_u11x
  have k78_u13x : u13 160 78 = h 160 78 := (N_u13 160 78 (by decide) (by decide)).trans k78_u11x
  have k84_u13x : u13 160 84 = h 160 84 := (N_u13 160 84 (by decide) (by decide)).trans k84_u11x
  have k87_u13x : u13 160 87 = h 160 87 + 1 := (N_u13 160 87 (by decide) (by decide)).trans k87_u11x
  have k88_u13x : u13 160 88 = h 160 88 + 1 + 1 := (N_u13 160 88 (by decide) (by decide)).trans k88_u11x
  have J13 : ∀ i : Nat, (i : Int) < h 160 87 → u13 217 i = h 217 i ∧ u13 218 i = h 218 i := fun i hi => by rw [show u13 217 i = u11 217 i from N_u13 217 i (by decide) (by omega), show u13 218 i = u11 218 i from N_u13 218 i (by decide) (by omega)]; exact J10 i hi
  have E14 : u13 218 (h 160 87).toNat = u2.1 := (show u13 218 _ = u11 218 _ from N_u13 218 _ (by decide) (by omega)).trans E11
  have R15 : ∀ j : Nat, u13 199 j = h 199 j := fun j => (show u13 199 j = u11 199 j from N_u13 199 j (by decide) (by omega)).trans (R12 j)
  clear k50_u11x k52_u11x k54_u11x k57_u11x k68_u11x k70_u11x k72_u11x k78_u11x k84_u11x k87_u11x k88_u11x k70_u13
  refine ok_sub (by omega) ?_; intro v15 e_v15
  refine ok_xl ?_; intro h16 E_h16
  obtain ⟨C_h16, k70_h16, N_h16⟩ := cm_pop C_u13 E_h16 (by omega)
  have k50_h16x : h16 160 50 = h 160 50 := (N_h16 160 50 (by decide)).trans k50_u13x
  have k52_h16x : h16 160 52 = h 160 52 := (N_h16 160 52 (by decide)).trans k52_u13x
  have k54_h16x : h16 160 54 = h 160 54 := (N_h16 160 54 (by decide)).trans k54_u13x
  have k57_h16x : h16 160 57 = h 160 57 := (N_h16 160 57 (by decide)).trans k57_u13x
  have k68_h16x : h16 160 68 = h 160 68 + 3 + 1 := (N_h16 160 68 (by decide)).trans k68_u13x
  have k70_h16x : h16 160 70 = h 160 70 - a2 + 1 - 1 := by omega
  have k72_h16x : h16 160 72 = h 160 72 := (N_h16 160 72 (by decide)).trans k72_u13x
  have k78_h16x : h16 160 78 = h 160 78 := (N_h16 160 78 (by decide)).trans k78_u13x
  have k84_h16x : h16 160 84 = h 160 84 := (N_h16 160 84 (by decide)).trans k84_u13x
  have k87_h16x : h16 160 87 = h 160 87 + 1 := (N_h16 160 87 (by decide)).trans k87_u13x
  have k88_h16x : h16 160 88 = h 160 88 + 1 + 1 := (N_h16 160 88 (by decide)).trans k88_u13x
  have J16 : ∀ i : Nat, (i : Int) < h 160 87 → h16 217 i = h 217 i ∧ h16 218 i = h 218 i := fun i hi => by rw [show h16 217 i = u13 217 i from N_h16 217 i (by omega), show h16 218 i = u13 218 i from N_h16 218 i (by omega)]; exact J13 i hi
  have E17 : h16 218 (h 160 87).toNat = u2.1 := (show h16 218 _ = u13 218 _ from N_h16 218 _ (by omega)).trans E14
  have R18 : ∀ j : Nat, h16 199 j = h 199 j := fun j => (show h16 199 j = u13 199 j from N_h16 199 j (by omega)).trans (R15 j)
  clear k50_u13x k52_u13x k54_u13x k57_u13x k68_u13x k70_u13x k72_u13x k78_u13x k84_u13x k87_u13x k88_u13x k70_h16
  refine ok_sv (cm_jump hn C_h16 (by omega) (by omega) (by omega) (by omega)) ?_; intro u18 P_u18
  obtain ⟨C_u18, k68_u18, k87_u18, n_u18, p_u18, N_u18⟩ := P_u18
  have J19 : ∀ i : Nat, (i : Int) < h 160 87 → u18 217 i = h 217 i ∧ u18 218 i = h 218 i := fun i hi => by rw [(p_u18 i (by omega)).1, (p_u18 i (by omega)).2]; exact J16 i hi
  have E20 : u18 218 (h 160 87).toNat = u2.1 := ((p_u18 _ (by omega)).2).trans E17
  have E21 : u18 218 (h 160 87 + 1).toNat = u4.1 := by rw [show h 160 87 + 1 = h16 160 87 by omega]; exact n_u18
  have k50_u18x : u18 160 50 = h 160 50 := (N_u18 160 50 rfl).trans k50_h16x
  have k52_u18x : u18 160 52 = h 160 52 := (N_u18 160 52 rfl).trans k52_h16x
  have k54_u18x : u18 160 54 = h 160 54 := (N_u18 160 54 rfl).trans k54_h16x
  have k57_u18x : u18 160 57 = h 160 57 := (N_u18 160 57 rfl).trans k57_h16x
  have k68_u18x : u18 160 68 = h 160 68 + 3 + 1 + 3 := by omega
  have k70_u18x : u18 160 70 = h 160 70 - a2 + 1 - 1 := (N_u18 160 70 rfl).trans k70_h16x
  have k72_u18x : u18 160 72 = h 160 72 := (N_u18 160 72 rfl).trans k72_h16x
  have k78_u18x : u18 160 78 = h 160 78 := (N_u18 160 78 rfl).trans k78_h16x
  have k84_u18x : u18 160 84 = h 160 84 := (N_u18 160 84 rfl).trans k84_h16x
  have k87_u18x : u18 160 87 = h 160 87 + 1 + 1 := by omega
  have k88_u18x : u18 160 88 = h 160 88 + 1 + 1 := (N_u18 160 88 rfl).trans k88_h16x
  have R22 : ∀ j : Nat, u18 199 j = h 199 j := fun j => (show u18 199 j = h16 199 j from N_u18 199 j (nw_ar rfl j)).trans (R18 j)
  clear k50_h16x k52_h16x k54_h16x k57_h16x k68_h16x k70_h16x k72_h16x k78_h16x k84_h16x k87_h16x k88_h16x k68_u18 k87_u18
  have H23 : ∀ i : Nat, (i : Int) < h 160 87 → ¬ u18 218 i = u2.1 := fun i hi => by rw [(J19 i hi).2]; have := C0.2.2.2.2.1 i hi; omega
  refine ok_sv (cm_stands hn C_u18 (by omega) H23 (by omega) (by omega)) ?_; intro u21 P_u21
  obtain ⟨C_u21, k87_u21, k78_u21, p_u21, q_u21, N_u21⟩ := P_u21
  have J24 : ∀ i : Nat, (i : Int) < h 160 87 → u21 217 i = h 217 i ∧ u21 218 i = h 218 i := fun i hi => by rw [(p_u21 i hi).1, (p_u21 i hi).2]; exact J19 i hi
  have A25 : ∀ i : Nat, h 160 87 ≤ (i : Int) → (i : Int) < u21 160 87 → u21 218 i = u4.1 := fun i h1 h2 => by
    obtain ⟨w1, j, j1, j2, _⟩ := q_u21 i h1 h2
    by_cases w : (j : Int) = h 160 87
    · exfalso; apply w1; rw [j2, show j = (h 160 87).toNat by omega]; exact E20
    · rw [j2, show j = (h 160 87 + 1).toNat by omega]; exact E21
  have k50_u21x : u21 160 50 = h 160 50 := (N_u21 160 50 rfl).trans k50_u18x
  have k52_u21x : u21 160 52 = h 160 52 := (N_u21 160 52 rfl).trans k52_u18x
  have k54_u21x : u21 160 54 = h 160 54 := (N_u21 160 54 rfl).trans k54_u18x
  have k57_u21x : u21 160 57 = h 160 57 := (N_u21 160 57 rfl).trans k57_u18x
  have k68_u21x : u21 160 68 = h 160 68 + 3 + 1 + 3 := (N_u21 160 68 rfl).trans k68_u18x
  have k70_u21x : u21 160 70 = h 160 70 - a2 + 1 - 1 := (N_u21 160 70 rfl).trans k70_u18x
  have k72_u21x : u21 160 72 = h 160 72 := (N_u21 160 72 rfl).trans k72_u18x
  have k78_u21x : h 160 78 ≤ u21 160 78 ∧ u21 160 78 ≤ h 160 78 + 1 := by omega
  have k84_u21x : u21 160 84 = h 160 84 := (N_u21 160 84 rfl).trans k84_u18x
  have k87_u21x : h 160 87 ≤ u21 160 87 ∧ u21 160 87 ≤ h 160 87 + 1 + 1 := by omega
  have k88_u21x : u21 160 88 = h 160 88 + 1 + 1 := (N_u21 160 88 rfl).trans k88_u18x
  have R26 : ∀ j : Nat, u21 199 j = h 199 j := fun j => (show u21 199 j = u18 199 j from N_u21 199 j (nw_ar rfl j)).trans (R22 j)
  clear k50_u18x k52_u18x k54_u18x k57_u18x k68_u18x k70_u18x k72_u18x k78_u18x k84_u18x k87_u18x k88_u18x k87_u21 k78_u21
  refine ok_sv (cm_put hn C_u21 (by omega) (by omega)) ?_; intro u23 P_u23
  obtain ⟨C_u23, k68_u23, N_u23⟩ := P_u23
  have k50_u23x : u23 160 50 = h 160 50 := (N_u23 160 50 (by decide) (by decide)).trans k50_u21x
  have k52_u23x : u23 160 52 = h 160 52 := (N_u23 160 52 (by decide) (by decide)).trans k52_u21x
  have k54_u23x : u23 160 54 = h 160 54 := (N_u23 160 54 (by decide) (by decide)).trans k54_u21x
  have k57_u23x : u23 160 57 = h 160 57 := (N_u23 160 57 (by decide) (by decide)).trans k57_u21x
  have k68_u23x : u23 160 68 = h 160 68 + 3 + 1 + 3 + 1 := by omega
  have k70_u23x : u23 160 70 = h 160 70 - a2 + 1 - 1 := (N_u23 160 70 (by decide) (by decide)).trans k70_u21x
  have k72_u23x : u23 160 72 = h 160 72 := (N_u23 160 72 (by decide) (by decide)).trans k72_u21x
  have k78_u23x : h 160 78 ≤ u23 160 78 ∧ u23 160 78 ≤ h 160 78 + 1 := by rw [show u23 160 78 = _ from N_u23 160 78 (by decide) (by decide)]; exact k78_u21x
  have k84_u23x : u23 160 84 = h 160 84 := (N_u23 160 84 (by decide) (by decide)).trans k84_u21x
  have k87_u23x : h 160 87 ≤ u23 160 87 ∧ u23 160 87 ≤ h 160 87 + 1 + 1 := by rw [show u23 160 87 = _ from N_u23 160 87 (by decide) (by decide)]; exact k87_u21x
  have k88_u23x : u23 160 88 = h 160 88 + 1 + 1 := (N_u23 160 88 (by decide) (by decide)).trans k88_u21x
  have J27 : ∀ i : Nat, (i : Int) < h 160 87 → u23 217 i = h 217 i ∧ u23 218 i = h 218 i := fun i hi => by rw [show u23 217 i = u21 217 i from N_u23 217 i (by decide) (by omega), show u23 218 i = u21 218 i from N_u23 218 i (by decide) (by omega)]; exact J24 i hi
  have A28 : ∀ i : Nat, h 160 87 ≤ (i : Int) → (i : Int) < u23 160 87 → u23 218 i = u4.1 := fun i h1 h2 => (show u23 218 i = u21 218 i from N_u23 218 i (by decide) (by omega)).trans (A25 i h1 (by rw [← show u23 160 87 = u21 160 87 from N_u23 160 87 (by decide) (by decide)]; exact h2))
  have R29 : ∀ j : Nat, u23 199 j = h 199 j := fun j => (show u23 199 j = u21 199 j from N_u23 199 j (by decide) (by omega)).trans (R26 j)
  clear k50_u21x k52_u21x k54_u21x k57_u21x k68_u21x k70_u21x k72_u21x k78_u21x k84_u21x k87_u21x k88_u21x k68_u23
  refine ok_sv (cm_push C_u23 (by omega) (by omega)) ?_; intro u25 P_u25
  obtain ⟨C_u25, k70_u25, N_u25⟩ := P_u25
  have k50_u25x : u25 160 50 = h 160 50 := (N_u25 160 50 (by decide) (by decide)).trans k50_u23x
  have k52_u25x : u25 160 52 = h 160 52 := (N_u25 160 52 (by decide) (by decide)).trans k52_u23x
  have k54_u25x : u25 160 54 = h 160 54 := (N_u25 160 54 (by decide) (by decide)).trans k54_u23x
  have k57_u25x : u25 160 57 = h 160 57 := (N_u25 160 57 (by decide) (by decide)).trans k57_u23x
  have k68_u25x : u25 160 68 = h 160 68 + 3 + 1 + 3 + 1 := (N_u25 160 68 (by decide) (by decide)).trans k68_u23x
  have k70_u25x : u25 160 70 = h 160 70 - a2 + 1 - 1 + 1 := by omega
  have k72_u25x : u25 160 72 = h 160 72 := (N_u25 160 72 (by decide) (by decide)).trans k72_u23x
  have k78_u25x : h 160 78 ≤ u25 160 78 ∧ u25 160 78 ≤ h 160 78 + 1 := by rw [show u25 160 78 = _ from N_u25 160 78 (by decide) (by decide)]; exact k78_u23x
  have k84_u25x : u25 160 84 = h 160 84 := (N_u25 160 84 (by decide) (by decide)).trans k84_u23x
  have k87_u25x : h 160 87 ≤ u25 160 87 ∧ u25 160 87 ≤ h 160 87 + 1 + 1 := by rw [show u25 160 87 = _ from N_u25 160 87 (by decide) (by decide)]; exact k87_u23x
  have k88_u25x : u25 160 88 = h 160 88 + 1 + 1 := (N_u25 160 88 (by decide) (by decide)).trans k88_u23x
  have J30 : ∀ i : Nat, (i : Int) < h 160 87 → u25 217 i = h 217 i ∧ u25 218 i = h 218 i := fun i hi => by rw [show u25 217 i = u23 217 i from N_u25 217 i (by decide) (by omega), show u25 218 i = u23 218 i from N_u25 218 i (by decide) (by omega)]; exact J27 i hi
  have A31 : ∀ i : Nat, h 160 87 ≤ (i : Int) → (i : Int) < u25 160 87 → u25 218 i = u4.1 := fun i h1 h2 => (show u25 218 i = u23 218 i from N_u25 218 i (by decide) (by omega)).trans (A28 i h1 (by rw [← show u25 160 87 = u23 160 87 from N_u25 160 87 (by decide) (by decide)]; exact h2))
  have R32 : ∀ j : Nat, u25 199 j = h 199 j := fun j => (show u25 199 j = u23 199 j from N_u25 199 j (by decide) (by omega)).trans (R29 j)
  clear k50_u23x k52_u23x k54_u23x k57_u23x k68_u23x k70_u23x k72_u23x k78_u23x k84_u23x k87_u23x k88_u23x k70_u25
  have H33 : ∀ i : Nat, (i : Int) < h 160 87 → ¬ u25 218 i = u4.1 := fun i hi => by rw [(J30 i hi).2]; have := C0.2.2.2.2.1 i hi; omega
  refine ok_sv (cm_stands hn C_u25 (by omega) H33 (by omega) (by omega)) ?_; intro u28 P_u28
  obtain ⟨C_u28, k87_u28, k78_u28, p_u28, q_u28, N_u28⟩ := P_u28
  have J34 : ∀ i : Nat, (i : Int) < h 160 87 → u28 217 i = h 217 i ∧ u28 218 i = h 218 i := fun i hi => by rw [(p_u28 i hi).1, (p_u28 i hi).2]; exact J30 i hi
  have k87x_u28 : u28 160 87 = h 160 87 := by
    by_cases w : u28 160 87 = h 160 87
    · exact w
    · exfalso
      obtain ⟨w1, j, j1, j2, _⟩ := q_u28 (h 160 87).toNat (by omega) (by omega)
      apply w1; rw [j2]; exact A31 j j1.1 j1.2
  have k50_u28x : u28 160 50 = h 160 50 := (N_u28 160 50 rfl).trans k50_u25x
  have k52_u28x : u28 160 52 = h 160 52 := (N_u28 160 52 rfl).trans k52_u25x
  have k54_u28x : u28 160 54 = h 160 54 := (N_u28 160 54 rfl).trans k54_u25x
  have k57_u28x : u28 160 57 = h 160 57 := (N_u28 160 57 rfl).trans k57_u25x
  have k68_u28x : u28 160 68 = h 160 68 + 3 + 1 + 3 + 1 := (N_u28 160 68 rfl).trans k68_u25x
  have k70_u28x : u28 160 70 = h 160 70 - a2 + 1 - 1 + 1 := (N_u28 160 70 rfl).trans k70_u25x
  have k72_u28x : u28 160 72 = h 160 72 := (N_u28 160 72 rfl).trans k72_u25x
  have k78_u28x : h 160 78 ≤ u28 160 78 ∧ u28 160 78 ≤ h 160 78 + 1 + 1 := by omega
  have k84_u28x : u28 160 84 = h 160 84 := (N_u28 160 84 rfl).trans k84_u25x
  have k87_u28x : u28 160 87 = h 160 87 := by omega
  have k88_u28x : u28 160 88 = h 160 88 + 1 + 1 := (N_u28 160 88 rfl).trans k88_u25x
  have R35 : ∀ j : Nat, u28 199 j = h 199 j := fun j => (show u28 199 j = u25 199 j from N_u28 199 j (nw_ar rfl j)).trans (R32 j)
  clear k50_u25x k52_u25x k54_u25x k57_u25x k68_u25x k70_u25x k72_u25x k78_u25x k84_u25x k87_u25x k88_u25x k87_u28 k78_u28 k87x_u28
  exact ok_ret ⟨C_u28, by omega, by omega, J34, R35⟩

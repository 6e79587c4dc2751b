theorem cw_turn {nn : Nat} {s h : ms_M} {w : Int} (C0 : CW s w h) {a1 a2 : Int} (r1 : 0 ≤ a1 ∧ a1 ≤ h 160 70) (r2 : a2 = 3 ∨ (0 ≤ a2 ∧ a2 < 24 + 2 * s 160 24)) (h70 : h 160 70 - a1 ≤ 2999) : Ok_ (qf_X13_turn nn a1 a2 h) (QG s h w (h 160 70 - a1 + tv a2) 0 0) := by
  unfold qf_X13_turn
  have J0 : ∀ i : Nat, (i : Int) < h 160 87 → h 217 i = h 217 i ∧ h 218 i = h 218 i := fun _ _ => ⟨rfl, rfl⟩
  have R0 : ∀ j : Nat, (j : Int) < h 160 57 → h 199 j = h 199 j := fun _ _ => rfl
  have g50 := gF_160_50 C0.1.1
  have k50_h : h 160 50 = h 160 50 := rfl
  have g54 := gF_160_54 C0.1.1
  have k54_h : h 160 54 = h 160 54 := rfl
  have g57 := gF_160_57 C0.1.1
  have k57_h : h 160 57 = h 160 57 := rfl
  have g68 := gF_160_68 C0.1.1
  have k68_h : h 160 68 = h 160 68 := rfl
  have g70 := gF_160_70 C0.1.1
  have k70_h : h 160 70 = h 160 70 := rfl
  have g72 := gF_160_72 C0.1.1
  have k72_h : h 160 72 = h 160 72 := rfl
  have g78 := gF_160_78 C0.1.1
  have k78_h : h 160 78 = h 160 78 := rfl
  have g84 := gF_160_84 C0.1.1
  have k84_h : h 160 84 = h 160 84 := rfl
  have g87 := gF_160_87 C0.1.1
  have k87_h : h 160 87 = h 160 87 := rfl
  have g88 := gF_160_88 C0.1.1
  have k88_h : h 160 88 = h 160 88 := rfl
  have g24x := gF_160_24 C0.1.1
  have q24x : h 160 24 = s 160 24 := C0.1.2.1 160 24 rfl
  have tvr := tv_r (t := a2)
  refine ok_sub (by omega) ?_; intro v2 e_v2
  refine ok_xl ?_; intro h3 E_h3
  obtain ⟨C_h3, k70_h3, N_h3⟩ := cw_pop C0 E_h3 (by omega)
  have k50_h3x : h3 160 50 = h 160 50 := (N_h3 160 50 (by decide)).trans k50_h
  have k54_h3x : h3 160 54 = h 160 54 := (N_h3 160 54 (by decide)).trans k54_h
  have k57_h3x : h3 160 57 = h 160 57 := (N_h3 160 57 (by decide)).trans k57_h
  have k68_h3x : h3 160 68 = h 160 68 := (N_h3 160 68 (by decide)).trans k68_h
  have k70_h3x : h3 160 70 = h 160 70 - a1 := by omega
  have k72_h3x : h3 160 72 = h 160 72 := (N_h3 160 72 (by decide)).trans k72_h
  have k78_h3x : h3 160 78 = h 160 78 := (N_h3 160 78 (by decide)).trans k78_h
  have k84_h3x : h3 160 84 = h 160 84 := (N_h3 160 84 (by decide)).trans k84_h
  have k87_h3x : h3 160 87 = h 160 87 := (N_h3 160 87 (by decide)).trans k87_h
  have k88_h3x : h3 160 88 = h 160 88 := (N_h3 160 88 (by decide)).trans k88_h
  have J1 : ∀ i : Nat, (i : Int) < h 160 87 → h3 217 i = h 217 i ∧ h3 218 i = h 218 i := fun i hi => by rw [show h3 217 i = h 217 i from N_h3 217 i (by omega), show h3 218 i = h 218 i from N_h3 218 i (by omega)]; exact J0 i hi
  have R2 : ∀ j : Nat, (j : Int) < h 160 57 → h3 199 j = h 199 j := fun j hj => (show h3 199 j = h 199 j from N_h3 199 j (by omega)).trans (R0 j hj)
  clear k50_h k54_h k57_h k68_h k70_h k72_h k78_h k84_h k87_h k88_h k70_h3 E_h3
  refine ok_if (fun C3 => ?_) (fun C3 => ?_)
  · skip
    exact ok_ret ⟨cw_le C_h3 (by omega), by omega, by omega, by omega, by omega, by omega, J1, R2⟩
  · skip
    refine ok_sv (cw_push C_h3 (by omega) (by omega)) ?_; intro u5 P_u5
    obtain ⟨C_u5, k70_u5, N_u5⟩ := P_u5
    have k50_u5x : u5 160 50 = h 160 50 := (N_u5 160 50 (by decide) (by decide)).trans k50_h3x
    have k54_u5x : u5 160 54 = h 160 54 := (N_u5 160 54 (by decide) (by decide)).trans k54_h3x
    have k57_u5x : u5 160 57 = h 160 57 := (N_u5 160 57 (by decide) (by decide)).trans k57_h3x
    have k68_u5x : u5 160 68 = h 160 68 := (N_u5 160 68 (by decide) (by decide)).trans k68_h3x
    have k70_u5x : u5 160 70 = h 160 70 - a1 + 1 := by omega
    have k72_u5x : u5 160 72 = h 160 72 := (N_u5 160 72 (by decide) (by decide)).trans k72_h3x
    have k78_u5x : u5 160 78 = h 160 78 := (N_u5 160 78 (by decide) (by decide)).trans k78_h3x
    have k84_u5x : u5 160 84 = h 160 84 := (N_u5 160 84 (by decide) (by decide)).trans k84_h3x
    have k87_u5x : u5 160 87 = h 160 87 := (N_u5 160 87 (by decide) (by decide)).trans k87_h3x
    have k88_u5x : u5 160 88 = h 160 88 := (N_u5 160 88 (by decide) (by decide)).trans k88_h3x
    have J4 : ∀ i : Nat, (i : Int) < h 160 87 → u5 217 i = h 217 i ∧ u5 218 i = h 218 i := fun i hi => by rw [show u5 217 i = h3 217 i from N_u5 217 i (by decide) (by omega), show u5 218 i = h3 218 i from N_u5 218 i (by decide) (by omega)]; exact J1 i hi
    have R5 : ∀ j : Nat, (j : Int) < h 160 57 → u5 199 j = h 199 j := fun j hj => (show u5 199 j = h3 199 j from N_u5 199 j (by decide) (by omega)).trans (R2 j hj)
    clear k50_h3x k54_h3x k57_h3x k68_h3x k70_h3x k72_h3x k78_h3x k84_h3x k87_h3x k88_h3x k70_u5
    exact ok_ret ⟨cw_le C_u5 (by omega), by omega, by omega, by omega, by omega, by omega, J4, R5⟩
theorem cw_self {nn : Nat} (hn : 1000000 ≤ nn) {s h : ms_M} (S : GZ s) {w : Int} (C0 : CW s w h) (h68 : h 160 68 ≤ 800000000) (h70 : h 160 70 ≤ 2999) : Ok_ (qf_X13_self nn h) (QG s h w (h 160 70 + 1) 10 0) := by
  unfold qf_X13_self
  have J0 : ∀ i : Nat, (i : Int) < h 160 87 → h 217 i = h 217 i ∧ h 218 i = h 218 i := fun _ _ => ⟨rfl, rfl⟩
  have R0 : ∀ j : Nat, (j : Int) < h 160 57 → h 199 j = h 199 j := fun _ _ => rfl
  have g50 := gF_160_50 C0.1.1
  have k50_h : h 160 50 = h 160 50 := rfl
  have g54 := gF_160_54 C0.1.1
  have k54_h : h 160 54 = h 160 54 := rfl
  have g57 := gF_160_57 C0.1.1
  have k57_h : h 160 57 = h 160 57 := rfl
  have g68 := gF_160_68 C0.1.1
  have k68_h : h 160 68 = h 160 68 := rfl
  have g70 := gF_160_70 C0.1.1
  have k70_h : h 160 70 = h 160 70 := rfl
  have g72 := gF_160_72 C0.1.1
  have k72_h : h 160 72 = h 160 72 := rfl
  have g78 := gF_160_78 C0.1.1
  have k78_h : h 160 78 = h 160 78 := rfl
  have g84 := gF_160_84 C0.1.1
  have k84_h : h 160 84 = h 160 84 := rfl
  have g87 := gF_160_87 C0.1.1
  have k87_h : h 160 87 = h 160 87 := rfl
  have g88 := gF_160_88 C0.1.1
  have k88_h : h 160 88 = h 160 88 := rfl
  have g24x := gF_160_24 C0.1.1
  have q24x : h 160 24 = s 160 24 := C0.1.2.1 160 24 rfl
  have o52 := S.2.2.1.1
  refine ok_sv (cw_put hn C0 (by omega) (by omega)) ?_; intro u2 P_u2
  obtain ⟨C_u2, k68_u2, N_u2⟩ := P_u2
  have k50_u2x : u2 160 50 = h 160 50 := (N_u2 160 50 (by decide) (by decide)).trans k50_h
  have k54_u2x : u2 160 54 = h 160 54 := (N_u2 160 54 (by decide) (by decide)).trans k54_h
  have k57_u2x : u2 160 57 = h 160 57 := (N_u2 160 57 (by decide) (by decide)).trans k57_h
  have k68_u2x : u2 160 68 = h 160 68 + 1 := by omega
  have k70_u2x : u2 160 70 = h 160 70 := (N_u2 160 70 (by decide) (by decide)).trans k70_h
  have k72_u2x : u2 160 72 = h 160 72 := (N_u2 160 72 (by decide) (by decide)).trans k72_h
  have k78_u2x : u2 160 78 = h 160 78 := (N_u2 160 78 (by decide) (by decide)).trans k78_h
  have k84_u2x : u2 160 84 = h 160 84 := (N_u2 160 84 (by decide) (by decide)).trans k84_h
  have k87_u2x : u2 160 87 = h 160 87 := (N_u2 160 87 (by decide) (by decide)).trans k87_h
  have k88_u2x : u2 160 88 = h 160 88 := (N_u2 160 88 (by decide) (by decide)).trans k88_h
  have J1 : ∀ i : Nat, (i : Int) < h 160 87 → u2 217 i = h 217 i ∧ u2 218 i = h 218 i := fun i hi => by rw [show u2 217 i = h 217 i from N_u2 217 i (by decide) (by omega), show u2 218 i = h 218 i from N_u2 218 i (by decide) (by omega)]; exact J0 i hi
  have R2 : ∀ j : Nat, (j : Int) < h 160 57 → u2 199 j = h 199 j := fun j hj => (show u2 199 j = h 199 j from N_u2 199 j (by decide) (by omega)).trans (R0 j hj)
  clear k50_h k54_h k57_h k68_h k70_h k72_h k78_h k84_h k87_h k88_h k68_u2
  refine ok_sv (cw_put hn C_u2 (by omega) (by omega)) ?_; intro u4 P_u4
  obtain ⟨C_u4, k68_u4, N_u4⟩ := P_u4
  have k50_u4x : u4 160 50 = h 160 50 := (N_u4 160 50 (by decide) (by decide)).trans k50_u2x
  have k54_u4x : u4 160 54 = h 160 54 := (N_u4 160 54 (by decide) (by decide)).trans k54_u2x
  have k57_u4x : u4 160 57 = h 160 57 := (N_u4 160 57 (by decide) (by decide)).trans k57_u2x
  have k68_u4x : u4 160 68 = h 160 68 + 1 + 1 := by omega
  have k70_u4x : u4 160 70 = h 160 70 := (N_u4 160 70 (by decide) (by decide)).trans k70_u2x
  have k72_u4x : u4 160 72 = h 160 72 := (N_u4 160 72 (by decide) (by decide)).trans k72_u2x
  have k78_u4x : u4 160 78 = h 160 78 := (N_u4 160 78 (by decide) (by decide)).trans k78_u2x
  have k84_u4x : u4 160 84 = h 160 84 := (N_u4 160 84 (by decide) (by decide)).trans k84_u2x
  have k87_u4x : u4 160 87 = h 160 87 := (N_u4 160 87 (by decide) (by decide)).trans k87_u2x
  have k88_u4x : u4 160 88 = h 160 88 := (N_u4 160 88 (by decide) (by decide)).trans k88_u2x
  have J3 : ∀ i : Nat, (i : Int) < h 160 87 → u4 217 i = h 217 i ∧ u4 218 i = h 218 i := fun i hi => by rw [show u4 217 i = u2 217 i from N_u4 217 i (by decide) (by omega), show u4 218 i = u2 218 i from N_u4 218 i (by decide) (by omega)]; exact J1 i hi
  have R4 : ∀ j : Nat, (j : Int) < h 160 57 → u4 199 j = h 199 j := fun j hj => (show u4 199 j = u2 199 j from N_u4 199 j (by decide) (by omega)).trans (R2 j hj)
  clear k50_u2x k54_u2x k57_u2x k68_u2x k70_u2x k72_u2x k78_u2x k84_u2x k87_u2x k88_u2x k68_u4
  have o_v6 : (u4 160 52) = s 160 52 := C_u4.1.2.1 160 52 rfl
  refine ok_mul (by omega) ?_; intro v6 e_v6
  refine ok_add (by omega) ?_; intro v7 e_v7
  refine ok_sv (cw_push C_u4 (by omega) (by omega)) ?_; intro u9 P_u9
  obtain ⟨C_u9, k70_u9, N_u9⟩ := P_u9
  have k50_u9x : u9 160 50 = h 160 50 := (N_u9 160 50 (by decide) (by decide)).trans k50_u4x
  have k54_u9x : u9 160 54 = h 160 54 := (N_u9 160 54 (by decide) (by decide)).trans k54_u4x
  have k57_u9x : u9 160 57 = h 160 57 := (N_u9 160 57 (by decide) (by decide)).trans k57_u4x
  have k68_u9x : u9 160 68 = h 160 68 + 1 + 1 := (N_u9 160 68 (by decide) (by decide)).trans k68_u4x
  have k70_u9x : u9 160 70 = h 160 70 + 1 := by omega
  have k72_u9x : u9 160 72 = h 160 72 := (N_u9 160 72 (by decide) (by decide)).trans k72_u4x
  have k78_u9x : u9 160 78 = h 160 78 := (N_u9 160 78 (by decide) (by decide)).trans k78_u4x
  have k84_u9x : u9 160 84 = h 160 84 := (N_u9 160 84 (by decide) (by decide)).trans k84_u4x
  have k87_u9x : u9 160 87 = h 160 87 := (N_u9 160 87 (by decide) (by decide)).trans k87_u4x
  have k88_u9x : u9 160 88 = h 160 88 := (N_u9 160 88 (by decide) (by decide)).trans k88_u4x
  have J5 : ∀ i : Nat, (i : Int) < h 160 87 → u9 217 i = h 217 i ∧ u9 218 i = h 218 i := fun i hi => by rw [show u9 217 i = u4 217 i from N_u9 217 i (by decide) (by omega), show u9 218 i = u4 218 i from N_u9 218 i (by decide) (by omega)]; exact J3 i hi
  have R6 : ∀ j : Nat, (j : Int) < h 160 57 → u9 199 j = h 199 j := fun j hj => (show u9 199 j = u4 199 j from N_u9 199 j (by decide) (by omega)).trans (R4 j hj)
  clear k50_u4x k54_u4x k57_u4x k68_u4x k70_u4x k72_u4x k78_u4x k84_u4x k87_u4x k88_u4x k70_u9
  exact ok_ret ⟨cw_le C_u9 (by omega), by omega, by omega, by omega, by omega, by omega, J5, R6⟩
set_option maxHeartbeats 4000000 in
theorem cw_truth {nn : Nat} (hn : 1000000 ≤ nn) {s h : ms_M} {w : Int} (C0 : CW s w h) {a1 a2 : Int} (r1 : 153 ≤ a1 ∧ a1 ≤ 167) (r2 : 0 ≤ a2 ∧ a2 ≤ h 160 70) (h70 : h 160 70 - a2 ≤ 2998) (h68 : h 160 68 ≤ 700000000) (h87 : h 160 87 ≤ 2997) (h78 : h 160 78 ≤ 6197) (h88 : h 160 88 ≤ 1900000000) : Ok_ (qf_X13_truth nn a1 a2 h) (QG s h w (h 160 70 - a2 + 1) 10 2) := by
  unfold qf_X13_truth
  have J0 : ∀ i : Nat, (i : Int) < h 160 87 → h 217 i = h 217 i ∧ h 218 i = h 218 i := fun _ _ => ⟨rfl, rfl⟩
  have R0 : ∀ j : Nat, (j : Int) < h 160 57 → h 199 j = h 199 j := fun _ _ => rfl
  have g50 := gF_160_50 C0.1.1
  have k50_h : h 160 50 = h 160 50 := rfl
  have g54 := gF_160_54 C0.1.1
  have k54_h : h 160 54 = h 160 54 := rfl
  have g57 := gF_160_57 C0.1.1
  have k57_h : h 160 57 = h 160 57 := rfl
  have g68 := gF_160_68 C0.1.1
  have k68_h : h 160 68 = h 160 68 := rfl
  have g70 := gF_160_70 C0.1.1
  have k70_h : h 160 70 = h 160 70 := rfl
  have g72 := gF_160_72 C0.1.1
  have k72_h : h 160 72 = h 160 72 := rfl
  have g78 := gF_160_78 C0.1.1
  have k78_h : h 160 78 = h 160 78 := rfl
  have g84 := gF_160_84 C0.1.1
  have k84_h : h 160 84 = h 160 84 := rfl
  have g87 := gF_160_87 C0.1.1
  have k87_h : h 160 87 = h 160 87 := rfl
  have g88 := gF_160_88 C0.1.1
  have k88_h : h 160 88 = h 160 88 := rfl
  have g24x := gF_160_24 C0.1.1
  have q24x : h 160 24 = s 160 24 := C0.1.2.1 160 24 rfl
  refine ok_sv (cw_label C0 (by omega)) ?_; intro u2 P_u2
  obtain ⟨C_u2, l_u2, k88_u2, N_u2⟩ := P_u2
  have m_u2 : u2.1 = h 160 88 + 1 := by omega
  have L1 : u2.1 = u2.2 160 88 := by omega
  have k50_u2x : u2.2 160 50 = h 160 50 := (N_u2 160 50 (by decide)).trans k50_h
  have k54_u2x : u2.2 160 54 = h 160 54 := (N_u2 160 54 (by decide)).trans k54_h
  have k57_u2x : u2.2 160 57 = h 160 57 := (N_u2 160 57 (by decide)).trans k57_h
  have k68_u2x : u2.2 160 68 = h 160 68 := (N_u2 160 68 (by decide)).trans k68_h
  have k70_u2x : u2.2 160 70 = h 160 70 := (N_u2 160 70 (by decide)).trans k70_h
  have k72_u2x : u2.2 160 72 = h 160 72 := (N_u2 160 72 (by decide)).trans k72_h
  have k78_u2x : u2.2 160 78 = h 160 78 := (N_u2 160 78 (by decide)).trans k78_h
  have k84_u2x : u2.2 160 84 = h 160 84 := (N_u2 160 84 (by decide)).trans k84_h
  have k87_u2x : u2.2 160 87 = h 160 87 := (N_u2 160 87 (by decide)).trans k87_h
  have k88_u2x : u2.2 160 88 = h 160 88 + 1 := by omega
  have J2 : ∀ i : Nat, (i : Int) < h 160 87 → u2.2 217 i = h 217 i ∧ u2.2 218 i = h 218 i := fun i hi => by rw [show u2.2 217 i = h 217 i from N_u2 217 i (by omega), show u2.2 218 i = h 218 i from N_u2 218 i (by omega)]; exact J0 i hi
  have R3 : ∀ j : Nat, (j : Int) < h 160 57 → u2.2 199 j = h 199 j := fun j hj => (show u2.2 199 j = h 199 j from N_u2 199 j (by omega)).trans (R0 j hj)
  clear k50_h k54_h k57_h k68_h k70_h k72_h k78_h k84_h k87_h k88_h k88_u2 l_u2 L1
  refine ok_sv (cw_label C_u2 (by omega)) ?_; intro u4 P_u4
  obtain ⟨C_u4, l_u4, k88_u4, N_u4⟩ := P_u4
  have m_u4 : u4.1 = h 160 88 + 1 + 1 := by omega
  have L4 : u4.1 = u4.2 160 88 := by omega
  have k50_u4x : u4.2 160 50 = h 160 50 := (N_u4 160 50 (by decide)).trans k50_u2x
  have k54_u4x : u4.2 160 54 = h 160 54 := (N_u4 160 54 (by decide)).trans k54_u2x
  have k57_u4x : u4.2 160 57 = h 160 57 := (N_u4 160 57 (by decide)).trans k57_u2x
  have k68_u4x : u4.2 160 68 = h 160 68 := (N_u4 160 68 (by decide)).trans k68_u2x
  have k70_u4x : u4.2 160 70 = h 160 70 := (N_u4 160 70 (by decide)).trans k70_u2x
  have k72_u4x : u4.2 160 72 = h 160 72 := (N_u4 160 72 (by decide)).trans k72_u2x
  have k78_u4x : u4.2 160 78 = h 160 78 := (N_u4 160 78 (by decide)).trans k78_u2x
  have k84_u4x : u4.2 160 84 = h 160 84 := (N_u4 160 84 (by decide)).trans k84_u2x
  have k87_u4x : u4.2 160 87 = h 160 87 := (N_u4 160 87 (by decide)).trans k87_u2x
  have k88_u4x : u4.2 160 88 = h 160 88 + 1 + 1 := by omega
  have J5 : ∀ i : Nat, (i : Int) < h 160 87 → u4.2 217 i = h 217 i ∧ u4.2 218 i = h 218 i := fun i hi => by rw [show u4.2 217 i = u2.2 217 i from N_u4 217 i (by omega), show u4.2 218 i = u2.2 218 i from N_u4 218 i (by omega)]; exact J2 i hi
  have R6 : ∀ j : Nat, (j : Int) < h 160 57 → u4.2 199 j = h 199 j := fun j hj => (show u4.2 199 j = u2.2 199 j from N_u4 199 j (by omega)).trans (R3 j hj)
  clear k50_u2x k54_u2x k57_u2x k68_u2x k70_u2x k72_u2x k78_u2x k84_u2x k87_u2x k88_u2x k88_u4 l_u4 L4
  refine ok_sub (by omega) ?_; intro v6 e_v6
  refine ok_xl ?_; intro h7 E_h7
  obtain ⟨C_h7, k70_h7, N_h7⟩ := cw_pop C_u4 E_h7 (by omega)
  have k50_h7x : h7 160 50 = h 160 50 := (N_h7 160 50 (by decide)).trans k50_u4x
  have k54_h7x : h7 160 54 = h 160 54 := (N_h7 160 54 (by decide)).trans k54_u4x
  have k57_h7x : h7 160 57 = h 160 57 := (N_h7 160 57 (by decide)).trans k57_u4x
  have k68_h7x : h7 160 68 = h 160 68 := (N_h7 160 68 (by decide)).trans k68_u4x
  have k70_h7x : h7 160 70 = h 160 70 - a2 := by omega
  have k72_h7x : h7 160 72 = h 160 72 := (N_h7 160 72 (by decide)).trans k72_u4x
  have k78_h7x : h7 160 78 = h 160 78 := (N_h7 160 78 (by decide)).trans k78_u4x
  have k84_h7x : h7 160 84 = h 160 84 := (N_h7 160 84 (by decide)).trans k84_u4x
  have k87_h7x : h7 160 87 = h 160 87 := (N_h7 160 87 (by decide)).trans k87_u4x
  have k88_h7x : h7 160 88 = h 160 88 + 1 + 1 := (N_h7 160 88 (by decide)).trans k88_u4x
  have J7 : ∀ i : Nat, (i : Int) < h 160 87 → h7 217 i = h 217 i ∧ h7 218 i = h 218 i := fun i hi => by rw [show h7 217 i = u4.2 217 i from N_h7 217 i (by omega), show h7 218 i = u4.2 218 i from N_h7 218 i (by omega)]; exact J5 i hi
  have R8 : ∀ j : Nat, (j : Int) < h 160 57 → h7 199 j = h 199 j := fun j hj => (show h7 199 j = u4.2 199 j from N_h7 199 j (by omega)).trans (R6 j hj)
  clear k50_u4x k54_u4x k57_u4x k68_u4x k70_u4x k72_u4x k78_u4x k84_u4x k87_u4x k88_u4x k70_h7 E_h7
  refine ok_sv (cw_jump hn C_h7 (by omega) (by omega) (by omega) (by omega)) ?_; intro u9 P_u9
  obtain ⟨C_u9, k68_u9, k87_u9, n_u9, p_u9, N_u9⟩ := P_u9
  have J9 : ∀ i : Nat, (i : Int) < h 160 87 → u9 217 i = h 217 i ∧ u9 218 i = h 218 i := fun i hi => by rw [(p_u9 i (by omega)).1, (p_u9 i (by omega)).2]; exact J7 i hi
  have E10 : u9 218 (h 160 87).toNat = u2.1 := by rw [show h 160 87 = h7 160 87 by omega]; exact n_u9
  have k50_u9x : u9 160 50 = h 160 50 := (N_u9 160 50 rfl).trans k50_h7x
  have k54_u9x : u9 160 54 = h 160 54 := (N_u9 160 54 rfl).trans k54_h7x
  have k57_u9x : u9 160 57 = h 160 57 := (N_u9 160 57 rfl).trans k57_h7x
  have k68_u9x : u9 160 68 = h 160 68 + 3 := by omega
  have k70_u9x : u9 160 70 = h 160 70 - a2 := (N_u9 160 70 rfl).trans k70_h7x
  have k72_u9x : u9 160 72 = h 160 72 := (N_u9 160 72 rfl).trans k72_h7x
  have k78_u9x : u9 160 78 = h 160 78 := (N_u9 160 78 rfl).trans k78_h7x
  have k84_u9x : u9 160 84 = h 160 84 := (N_u9 160 84 rfl).trans k84_h7x
  have k87_u9x : u9 160 87 = h 160 87 + 1 := by omega
  have k88_u9x : u9 160 88 = h 160 88 + 1 + 1 := (N_u9 160 88 rfl).trans k88_h7x
  have R11 : ∀ j : Nat, (j : Int) < h 160 57 → u9 199 j = h 199 j := fun j hj => (show u9 199 j = h7 199 j from N_u9 199 j (nw_ar rfl j)).trans (R8 j hj)
  clear k50_h7x k54_h7x k57_h7x k68_h7x k70_h7x k72_h7x k78_h7x k84_h7x k87_h7x k88_h7x k68_u9 k87_u9
  refine ok_sv (cw_put hn C_u9 (by omega) (by omega)) ?_; intro u11 P_u11
  obtain ⟨C_u11, k68_u11, N_u11⟩ := P_u11
  have k50_u11x : u11 160 50 = h 160 50 := (N_u11 160 50 (by decide) (by decide)).trans k50_u9x
  have k54_u11x : u11 160 54 = h 160 54 := (N_u11 160 54 (by decide) (by decide)).trans k54_u9x
  have k57_u11x : u11 160 57 = h 160 57 := (N_u11 160 57 (by decide) (by decide)).trans k57_u9x
  have k68_u11x : u11 160 68 = h 160 68 + 3 + 1 := by omega
  have k70_u11x : u11 160 70 = h 160 70 - a2 := (N_u11 160 70 (by decide) (by decide)).trans k70_u9x
  have k72_u11x : u11 160 72 = h 160 72 := (N_u11 160 72 (by decide) (by decide)).trans k72_u9x
  have k78_u11x : u11 160 78 = h 160 78 := (N_u11 160 78 (by decide) (by decide)).trans k78_u9x
  have k84_u11x : u11 160 84 = h 160 84 := (N_u11 160 84 (by decide) (by decide)).trans k84_u9x
  have k87_u11x : u11 160 87 = h 160 87 + 1 := (N_u11 160 87 (by decide) (by decide)).trans k87_u9x
  have k88_u11x : u11 160 88 = h 160 88 + 1 + 1 := (N_u11 160 88 (by decide) (by decide)).trans k88_u9x
  have J12 : ∀ i : Nat, (i : Int) < h 160 87 → u11 217 i = h 217 i ∧ u11 218 i = h 218 i := fun i hi => by rw [show u11 217 i = u9 217 i from N_u11 217 i (by decide) (by omega), show u11 218 i = u9 218 i from N_u11 218 i (by decide) (by omega)]; exact J9 i hi
  have E13 : u11 218 (h 160 87).toNat = u2.1 := (show u11 218 _ = u9 218 _ from N_u11 218 _ (by decide) (by omega)).trans E10
  have R14 : ∀ j : Nat, (j : Int) < h 160 57 → u11 199 j = h 199 j := fun j hj => (show u11 199 j = u9 199 j from N_u11 199 j (by decide) (by omega)).trans (R11 j hj)
  clear k50_u9x k54_u9x k57_u9x k68_u9x k70_u9x k72_u9x k78_u9x k84_u9x k87_u9x k88_u9x k68_u11
  refine ok_sv (cw_push C_u11 (by omega) (by omega)) ?_; intro u13 P_u13
  obtain ⟨C_u13, k70_u13, N_u13⟩ := P_u13
  have k50_u13x : u13 160 50 = h 160 50 := (N_u13 160 50 (by decide) (by decide)).trans k50_u11x
  have k54_u13x : u13 160 54 = h 160 54 := (N_u13 160 54 (by decide) (by decide)).trans k54_u11x
  have k57_u13x : u13 160 57 = h 160 57 := (N_u13 160 57 (by decide) (by decide)).trans k57_u11x
  have k68_u13x : u13 160 68 = h 160 68 + 3 + 1 := (N_u13 160 68 (by decide) (by decide)).trans k68_u11x
  have k70_u13x : u13 160 70 = h 160 70 - a2 + 1 := by omega
  have k72_u13x : u13 160 72 = h 160 72 := (N_u13 160 72 (by decide) (by decide)).trans k72_u11x
  have k78_u13x : u13 160 78 = h 160 78 := (N_u13 160 78 (by decide) (by decide)).trans k78_u11x
  have k84_u13x : u13 160 84 = h 160 84 := (N_u13 160 84 (by decide) (by decide)).trans k84_u11x
  have k87_u13x : u13 160 87 = h 160 87 + 1 := (N_u13 160 87 (by decide) (by decide)).trans k87_u11x
  have k88_u13x : u13 160 88 = h 160 88 + 1 + 1 := (N_u13 160 88 (by decide) (by decide)).trans k88_u11x
  have J15 : ∀ i : Nat, (i : Int) < h 160 87 → u13 217 i = h 217 i ∧ u13 218 i = h 218 i := fun i hi => by rw [show u13 217 i = u11 217 i from N_u13 217 i (by decide) (by omega), show u13 218 i = u11 218 i from N_u13 218 i (by decide) (by omega)]; exact J12 i hi
  have E16 : u13 218 (h 160 87).toNat = u2.1 := (show u13 218 _ = u11 218 _ from N_u13 218 _ (by decide) (by omega)).trans E13
  have R17 : ∀ j : Nat, (j : Int) < h 160 57 → u13 199 j = h 199 j := fun j hj => (show u13 199 j = u11 199 j from N_u13 199 j (by decide) (by omega)).trans (R14 j hj)
  clear k50_u11x k54_u11x k57_u11x k68_u11x k70_u11x k72_u11x k78_u11x k84_u11x k87_u11x k88_u11x k70_u13
  refine ok_sub (by omega) ?_; intro v15 e_v15
  refine ok_xl ?_; intro h16 E_h16
  obtain ⟨C_h16, k70_h16, N_h16⟩ := cw_pop C_u13 E_h16 (by omega)
  have k50_h16x : h16 160 50 = h 160 50 := (N_h16 160 50 (by decide)).trans k50_u13x
  have k54_h16x : h16 160 54 = h 160 54 := (N_h16 160 54 (by decide)).trans k54_u13x
  have k57_h16x : h16 160 57 = h 160 57 := (N_h16 160 57 (by decide)).trans k57_u13x
  have k68_h16x : h16 160 68 = h 160 68 + 3 + 1 := (N_h16 160 68 (by decide)).trans k68_u13x
  have k70_h16x : h16 160 70 = h 160 70 - a2 + 1 - 1 := by omega
  have k72_h16x : h16 160 72 = h 160 72 := (N_h16 160 72 (by decide)).trans k72_u13x
  have k78_h16x : h16 160 78 = h 160 78 := (N_h16 160 78 (by decide)).trans k78_u13x
  have k84_h16x : h16 160 84 = h 160 84 := (N_h16 160 84 (by decide)).trans k84_u13x
  have k87_h16x : h16 160 87 = h 160 87 + 1 := (N_h16 160 87 (by decide)).trans k87_u13x
  have k88_h16x : h16 160 88 = h 160 88 + 1 + 1 := (N_h16 160 88 (by decide)).trans k88_u13x
  have J18 : ∀ i : Nat, (i : Int) < h 160 87 → h16 217 i = h 217 i ∧ h16 218 i = h 218 i := fun i hi => by rw [show h16 217 i = u13 217 i from N_h16 217 i (by omega), show h16 218 i = u13 218 i from N_h16 218 i (by omega)]; exact J15 i hi
  have E19 : h16 218 (h 160 87).toNat = u2.1 := (show h16 218 _ = u13 218 _ from N_h16 218 _ (by omega)).trans E16
  have R20 : ∀ j : Nat, (j : Int) < h 160 57 → h16 199 j = h 199 j := fun j hj => (show h16 199 j = u13 199 j from N_h16 199 j (by omega)).trans (R17 j hj)
  clear k50_u13x k54_u13x k57_u13x k68_u13x k70_u13x k72_u13x k78_u13x k84_u13x k87_u13x k88_u13x k70_h16 E_h16
  refine ok_sv (cw_jump hn C_h16 (by omega) (by omega) (by omega) (by omega)) ?_; intro u18 P_u18
  obtain ⟨C_u18, k68_u18, k87_u18, n_u18, p_u18, N_u18⟩ := P_u18
  have J21 : ∀ i : Nat, (i : Int) < h 160 87 → u18 217 i = h 217 i ∧ u18 218 i = h 218 i := fun i hi => by rw [(p_u18 i (by omega)).1, (p_u18 i (by omega)).2]; exact J18 i hi
  have E22 : u18 218 (h 160 87).toNat = u2.1 := ((p_u18 _ (by omega)).2).trans E19
  have E23 : u18 218 (h 160 87 + 1).toNat = u4.1 := by rw [show h 160 87 + 1 = h16 160 87 by omega]; exact n_u18
  have k50_u18x : u18 160 50 = h 160 50 := (N_u18 160 50 rfl).trans k50_h16x
  have k54_u18x : u18 160 54 = h 160 54 := (N_u18 160 54 rfl).trans k54_h16x
  have k57_u18x : u18 160 57 = h 160 57 := (N_u18 160 57 rfl).trans k57_h16x
  have k68_u18x : u18 160 68 = h 160 68 + 3 + 1 + 3 := by omega
  have k70_u18x : u18 160 70 = h 160 70 - a2 + 1 - 1 := (N_u18 160 70 rfl).trans k70_h16x
  have k72_u18x : u18 160 72 = h 160 72 := (N_u18 160 72 rfl).trans k72_h16x
  have k78_u18x : u18 160 78 = h 160 78 := (N_u18 160 78 rfl).trans k78_h16x
  have k84_u18x : u18 160 84 = h 160 84 := (N_u18 160 84 rfl).trans k84_h16x
  have k87_u18x : u18 160 87 = h 160 87 + 1 + 1 := by omega
  have k88_u18x : u18 160 88 = h 160 88 + 1 + 1 := (N_u18 160 88 rfl).trans k88_h16x
  have R24 : ∀ j : Nat, (j : Int) < h 160 57 → u18 199 j = h 199 j := fun j hj => (show u18 199 j = h16 199 j from N_u18 199 j (nw_ar rfl j)).trans (R20 j hj)
  clear k50_h16x k54_h16x k57_h16x k68_h16x k70_h16x k72_h16x k78_h16x k84_h16x k87_h16x k88_h16x k68_u18 k87_u18
  have H25 : ∀ i : Nat, (i : Int) < h 160 87 → ¬ u18 218 i = u2.1 := fun i hi => by rw [(J21 i hi).2]; have := C0.1.2.2.2.2.1 i hi; omega
  refine ok_sv (cw_stands hn C_u18 (by omega) H25 (by omega) (by omega)) ?_; intro u21 P_u21
  obtain ⟨C_u21, k87_u21, k78_u21, p_u21, q_u21, N_u21⟩ := P_u21
  have J26 : ∀ i : Nat, (i : Int) < h 160 87 → u21 217 i = h 217 i ∧ u21 218 i = h 218 i := fun i hi => by rw [(p_u21 i hi).1, (p_u21 i hi).2]; exact J21 i hi
  have A27 : ∀ i : Nat, h 160 87 ≤ (i : Int) → (i : Int) < u21 160 87 → u21 218 i = u4.1 := fun i h1 h2 => by
    obtain ⟨w1, j, j1, j2, _⟩ := q_u21 i h1 h2
    by_cases w : (j : Int) = h 160 87
    · exfalso; apply w1; rw [j2, show j = (h 160 87).toNat by omega]; exact E22
    · rw [j2, show j = (h 160 87 + 1).toNat by omega]; exact E23
  have k50_u21x : u21 160 50 = h 160 50 := (N_u21 160 50 rfl).trans k50_u18x
  have k54_u21x : u21 160 54 = h 160 54 := (N_u21 160 54 rfl).trans k54_u18x
  have k57_u21x : u21 160 57 = h 160 57 := (N_u21 160 57 rfl).trans k57_u18x
  have k68_u21x : u21 160 68 = h 160 68 + 3 + 1 + 3 := (N_u21 160 68 rfl).trans k68_u18x
  have k70_u21x : u21 160 70 = h 160 70 - a2 + 1 - 1 := (N_u21 160 70 rfl).trans k70_u18x
  have k72_u21x : u21 160 72 = h 160 72 := (N_u21 160 72 rfl).trans k72_u18x
  have k78_u21x : h 160 78 ≤ u21 160 78 ∧ u21 160 78 ≤ h 160 78 + 1 := by omega
  have k84_u21x : u21 160 84 = h 160 84 := (N_u21 160 84 rfl).trans k84_u18x
  have k87_u21x : h 160 87 ≤ u21 160 87 ∧ u21 160 87 ≤ h 160 87 + 1 + 1 := by omega
  have k88_u21x : u21 160 88 = h 160 88 + 1 + 1 := (N_u21 160 88 rfl).trans k88_u18x
  have R28 : ∀ j : Nat, (j : Int) < h 160 57 → u21 199 j = h 199 j := fun j hj => (show u21 199 j = u18 199 j from N_u21 199 j (nw_ar rfl j)).trans (R24 j hj)
  clear k50_u18x k54_u18x k57_u18x k68_u18x k70_u18x k72_u18x k78_u18x k84_u18x k87_u18x k88_u18x k87_u21 k78_u21
  refine ok_sv (cw_put hn C_u21 (by omega) (by omega)) ?_; intro u23 P_u23
  obtain ⟨C_u23, k68_u23, N_u23⟩ := P_u23
  have k50_u23x : u23 160 50 = h 160 50 := (N_u23 160 50 (by decide) (by decide)).trans k50_u21x
  have k54_u23x : u23 160 54 = h 160 54 := (N_u23 160 54 (by decide) (by decide)).trans k54_u21x
  have k57_u23x : u23 160 57 = h 160 57 := (N_u23 160 57 (by decide) (by decide)).trans k57_u21x
  have k68_u23x : u23 160 68 = h 160 68 + 3 + 1 + 3 + 1 := by omega
  have k70_u23x : u23 160 70 = h 160 70 - a2 + 1 - 1 := (N_u23 160 70 (by decide) (by decide)).trans k70_u21x
  have k72_u23x : u23 160 72 = h 160 72 := (N_u23 160 72 (by decide) (by decide)).trans k72_u21x
  have k78_u23x : h 160 78 ≤ u23 160 78 ∧ u23 160 78 ≤ h 160 78 + 1 := by rw [show u23 160 78 = _ from N_u23 160 78 (by decide) (by decide)]; exact k78_u21x
  have k84_u23x : u23 160 84 = h 160 84 := (N_u23 160 84 (by decide) (by decide)).trans k84_u21x
  have k87_u23x : h 160 87 ≤ u23 160 87 ∧ u23 160 87 ≤ h 160 87 + 1 + 1 := by rw [show u23 160 87 = _ from N_u23 160 87 (by decide) (by decide)]; exact k87_u21x
  have k88_u23x : u23 160 88 = h 160 88 + 1 + 1 := (N_u23 160 88 (by decide) (by decide)).trans k88_u21x
  have J29 : ∀ i : Nat, (i : Int) < h 160 87 → u23 217 i = h 217 i ∧ u23 218 i = h 218 i := fun i hi => by rw [show u23 217 i = u21 217 i from N_u23 217 i (by decide) (by omega), show u23 218 i = u21 218 i from N_u23 218 i (by decide) (by omega)]; exact J26 i hi
  have A30 : ∀ i : Nat, h 160 87 ≤ (i : Int) → (i : Int) < u23 160 87 → u23 218 i = u4.1 := fun i h1 h2 => (show u23 218 i = u21 218 i from N_u23 218 i (by decide) (by omega)).trans (A27 i h1 (by rw [← show u23 160 87 = u21 160 87 from N_u23 160 87 (by decide) (by decide)]; exact h2))
  have R31 : ∀ j : Nat, (j : Int) < h 160 57 → u23 199 j = h 199 j := fun j hj => (show u23 199 j = u21 199 j from N_u23 199 j (by decide) (by omega)).trans (R28 j hj)
  clear k50_u21x k54_u21x k57_u21x k68_u21x k70_u21x k72_u21x k78_u21x k84_u21x k87_u21x k88_u21x k68_u23
  refine ok_sv (cw_push C_u23 (by omega) (by omega)) ?_; intro u25 P_u25
  obtain ⟨C_u25, k70_u25, N_u25⟩ := P_u25
  have k50_u25x : u25 160 50 = h 160 50 := (N_u25 160 50 (by decide) (by decide)).trans k50_u23x
  have k54_u25x : u25 160 54 = h 160 54 := (N_u25 160 54 (by decide) (by decide)).trans k54_u23x
  have k57_u25x : u25 160 57 = h 160 57 := (N_u25 160 57 (by decide) (by decide)).trans k57_u23x
  have k68_u25x : u25 160 68 = h 160 68 + 3 + 1 + 3 + 1 := (N_u25 160 68 (by decide) (by decide)).trans k68_u23x
  have k70_u25x : u25 160 70 = h 160 70 - a2 + 1 - 1 + 1 := by omega
  have k72_u25x : u25 160 72 = h 160 72 := (N_u25 160 72 (by decide) (by decide)).trans k72_u23x
  have k78_u25x : h 160 78 ≤ u25 160 78 ∧ u25 160 78 ≤ h 160 78 + 1 := by rw [show u25 160 78 = _ from N_u25 160 78 (by decide) (by decide)]; exact k78_u23x
  have k84_u25x : u25 160 84 = h 160 84 := (N_u25 160 84 (by decide) (by decide)).trans k84_u23x
  have k87_u25x : h 160 87 ≤ u25 160 87 ∧ u25 160 87 ≤ h 160 87 + 1 + 1 := by rw [show u25 160 87 = _ from N_u25 160 87 (by decide) (by decide)]; exact k87_u23x
  have k88_u25x : u25 160 88 = h 160 88 + 1 + 1 := (N_u25 160 88 (by decide) (by decide)).trans k88_u23x
  have J32 : ∀ i : Nat, (i : Int) < h 160 87 → u25 217 i = h 217 i ∧ u25 218 i = h 218 i := fun i hi => by rw [show u25 217 i = u23 217 i from N_u25 217 i (by decide) (by omega), show u25 218 i = u23 218 i from N_u25 218 i (by decide) (by omega)]; exact J29 i hi
  have A33 : ∀ i : Nat, h 160 87 ≤ (i : Int) → (i : Int) < u25 160 87 → u25 218 i = u4.1 := fun i h1 h2 => (show u25 218 i = u23 218 i from N_u25 218 i (by decide) (by omega)).trans (A30 i h1 (by rw [← show u25 160 87 = u23 160 87 from N_u25 160 87 (by decide) (by decide)]; exact h2))
  have R34 : ∀ j : Nat, (j : Int) < h 160 57 → u25 199 j = h 199 j := fun j hj => (show u25 199 j = u23 199 j from N_u25 199 j (by decide) (by omega)).trans (R31 j hj)
  clear k50_u23x k54_u23x k57_u23x k68_u23x k70_u23x k72_u23x k78_u23x k84_u23x k87_u23x k88_u23x k70_u25
  have H35 : ∀ i : Nat, (i : Int) < h 160 87 → ¬ u25 218 i = u4.1 := fun i hi => by rw [(J32 i hi).2]; have := C0.1.2.2.2.2.1 i hi; omega
  refine ok_sv (cw_stands hn C_u25 (by omega) H35 (by omega) (by omega)) ?_; intro u28 P_u28
  obtain ⟨C_u28, k87_u28, k78_u28, p_u28, q_u28, N_u28⟩ := P_u28
  have J36 : ∀ i : Nat, (i : Int) < h 160 87 → u28 217 i = h 217 i ∧ u28 218 i = h 218 i := fun i hi => by rw [(p_u28 i hi).1, (p_u28 i hi).2]; exact J32 i hi
  have k87x_u28 : u28 160 87 = h 160 87 := by
    by_cases w : u28 160 87 = h 160 87
    · exact w
    · exfalso
      obtain ⟨w1, j, j1, j2, _⟩ := q_u28 (h 160 87).toNat (by omega) (by omega)
      apply w1; rw [j2]; exact A33 j j1.1 j1.2
  have k50_u28x : u28 160 50 = h 160 50 := (N_u28 160 50 rfl).trans k50_u25x
  have k54_u28x : u28 160 54 = h 160 54 := (N_u28 160 54 rfl).trans k54_u25x
  have k57_u28x : u28 160 57 = h 160 57 := (N_u28 160 57 rfl).trans k57_u25x
  have k68_u28x : u28 160 68 = h 160 68 + 3 + 1 + 3 + 1 := (N_u28 160 68 rfl).trans k68_u25x
  have k70_u28x : u28 160 70 = h 160 70 - a2 + 1 - 1 + 1 := (N_u28 160 70 rfl).trans k70_u25x
  have k72_u28x : u28 160 72 = h 160 72 := (N_u28 160 72 rfl).trans k72_u25x
  have k78_u28x : h 160 78 ≤ u28 160 78 ∧ u28 160 78 ≤ h 160 78 + 1 + 1 := by omega
  have k84_u28x : u28 160 84 = h 160 84 := (N_u28 160 84 rfl).trans k84_u25x
  have k87_u28x : u28 160 87 = h 160 87 := by omega
  have k88_u28x : u28 160 88 = h 160 88 + 1 + 1 := (N_u28 160 88 rfl).trans k88_u25x
  have R37 : ∀ j : Nat, (j : Int) < h 160 57 → u28 199 j = h 199 j := fun j hj => (show u28 199 j = u25 199 j from N_u28 199 j (nw_ar rfl j)).trans (R34 j hj)
  clear k50_u25x k54_u25x k57_u25x k68_u25x k70_u25x k72_u25x k78_u25x k84_u25x k87_u25x k88_u25x k87_u28 k78_u28 k87x_u28
  exact ok_ret ⟨cw_le C_u28 (by omega), by omega, by omega, by omega, by omega, by omega, J36, R37⟩
theorem cw_number {nn : Nat} (hn : 1000000 ≤ nn) {s h : ms_M} (S : GZ s) {w : Int} (C0 : CW s w h) {a1 : Int} (r1 : 0 ≤ a1 ∧ a1 ≤ 3001) (hw : w ≤ 3000) (h68 : h 160 68 ≤ 700000000) (h70 : h 160 70 ≤ 2998) : Ok_ (qf_X13_number nn a1 h) (QG s h (w + 2) (h 160 70 + 1) 10 0) := by
  unfold qf_X13_number
  have J0 : ∀ i : Nat, (i : Int) < h 160 87 → h 217 i = h 217 i ∧ h 218 i = h 218 i := fun _ _ => ⟨rfl, rfl⟩
  have R0 : ∀ j : Nat, (j : Int) < h 160 57 → h 199 j = h 199 j := fun _ _ => rfl
  have g50 := gF_160_50 C0.1.1
  have k50_h : h 160 50 = h 160 50 := rfl
  have g54 := gF_160_54 C0.1.1
  have k54_h : h 160 54 = h 160 54 := rfl
  have g57 := gF_160_57 C0.1.1
  have k57_h : h 160 57 = h 160 57 := rfl
  have g68 := gF_160_68 C0.1.1
  have k68_h : h 160 68 = h 160 68 := rfl
  have g70 := gF_160_70 C0.1.1
  have k70_h : h 160 70 = h 160 70 := rfl
  have g72 := gF_160_72 C0.1.1
  have k72_h : h 160 72 = h 160 72 := rfl
  have g78 := gF_160_78 C0.1.1
  have k78_h : h 160 78 = h 160 78 := rfl
  have g84 := gF_160_84 C0.1.1
  have k84_h : h 160 84 = h 160 84 := rfl
  have g87 := gF_160_87 C0.1.1
  have k87_h : h 160 87 = h 160 87 := rfl
  have g88 := gF_160_88 C0.1.1
  have k88_h : h 160 88 = h 160 88 := rfl
  have g24x := gF_160_24 C0.1.1
  have q24x : h 160 24 = s 160 24 := C0.1.2.1 160 24 rfl
  refine ok_rd (by omega) (gA_166 C0.1.1) ?_; intro v4 e_v4 a_v4 b_v4
  have t_v4 : v4 = s 166 (a1).toNat := by rw [e_v4]; exact C0.1.2.1 166 _ (nw_ar rfl _)
  clear e_v4
  refine ok_if (fun C1 => ?_) (fun C1 => ?_)
  · skip
    refine ok_if (fun C2 => ?_) (fun C2 => ?_)
    · skip
      refine ok_sv (cw_put hn C0 (by omega) (by omega)) ?_; intro u6 P_u6
      obtain ⟨C_u6, k68_u6, N_u6⟩ := P_u6
      have k50_u6x : u6 160 50 = h 160 50 := (N_u6 160 50 (by decide) (by decide)).trans k50_h
      have k54_u6x : u6 160 54 = h 160 54 := (N_u6 160 54 (by decide) (by decide)).trans k54_h
      have k57_u6x : u6 160 57 = h 160 57 := (N_u6 160 57 (by decide) (by decide)).trans k57_h
      have k68_u6x : u6 160 68 = h 160 68 + 1 := by omega
      have k70_u6x : u6 160 70 = h 160 70 := (N_u6 160 70 (by decide) (by decide)).trans k70_h
      have k72_u6x : u6 160 72 = h 160 72 := (N_u6 160 72 (by decide) (by decide)).trans k72_h
      have k78_u6x : u6 160 78 = h 160 78 := (N_u6 160 78 (by decide) (by decide)).trans k78_h
      have k84_u6x : u6 160 84 = h 160 84 := (N_u6 160 84 (by decide) (by decide)).trans k84_h
      have k87_u6x : u6 160 87 = h 160 87 := (N_u6 160 87 (by decide) (by decide)).trans k87_h
      have k88_u6x : u6 160 88 = h 160 88 := (N_u6 160 88 (by decide) (by decide)).trans k88_h
      have J3 : ∀ i : Nat, (i : Int) < h 160 87 → u6 217 i = h 217 i ∧ u6 218 i = h 218 i := fun i hi => by rw [show u6 217 i = h 217 i from N_u6 217 i (by decide) (by omega), show u6 218 i = h 218 i from N_u6 218 i (by decide) (by omega)]; exact J0 i hi
      have R4 : ∀ j : Nat, (j : Int) < h 160 57 → u6 199 j = h 199 j := fun j hj => (show u6 199 j = h 199 j from N_u6 199 j (by decide) (by omega)).trans (R0 j hj)
      clear k50_h k54_h k57_h k68_h k70_h k72_h k78_h k84_h k87_h k88_h k68_u6
      refine ok_sv (cw_int hn C_u6 (by omega) (by omega)) ?_; intro u8 P_u8
      obtain ⟨C_u8, N_u8, x_u8⟩ := P_u8
      have k50_u8x : u8.2 160 50 = h 160 50 := (N_u8 160 50 (by decide) (by decide)).trans k50_u6x
      have k54_u8x : u8.2 160 54 = h 160 54 := (N_u8 160 54 (by decide) (by decide)).trans k54_u6x
      have k57_u8x : u8.2 160 57 = h 160 57 := (N_u8 160 57 (by decide) (by decide)).trans k57_u6x
      have k68_u8x : u8.2 160 68 = h 160 68 + 1 := (N_u8 160 68 (by decide) (by decide)).trans k68_u6x
      have k70_u8x : u8.2 160 70 = h 160 70 := (N_u8 160 70 (by decide) (by decide)).trans k70_u6x
      have k72_u8x : u8.2 160 72 = h 160 72 := (N_u8 160 72 (by decide) (by decide)).trans k72_u6x
      have k78_u8x : u8.2 160 78 = h 160 78 := (N_u8 160 78 (by decide) (by decide)).trans k78_u6x
      have k84_u8x : u8.2 160 84 = h 160 84 := (N_u8 160 84 (by decide) (by decide)).trans k84_u6x
      have k87_u8x : u8.2 160 87 = h 160 87 := (N_u8 160 87 (by decide) (by decide)).trans k87_u6x
      have k88_u8x : u8.2 160 88 = h 160 88 := (N_u8 160 88 (by decide) (by decide)).trans k88_u6x
      have J5 : ∀ i : Nat, (i : Int) < h 160 87 → u8.2 217 i = h 217 i ∧ u8.2 218 i = h 218 i := fun i hi => by rw [show u8.2 217 i = u6 217 i from N_u8 217 i (by decide) (by omega), show u8.2 218 i = u6 218 i from N_u8 218 i (by decide) (by omega)]; exact J3 i hi
      have R6 : ∀ j : Nat, (j : Int) < h 160 57 → u8.2 199 j = h 199 j := fun j hj => (show u8.2 199 j = u6 199 j from N_u8 199 j (by decide) (by omega)).trans (R4 j hj)
      clear k50_u6x k54_u6x k57_u6x k68_u6x k70_u6x k72_u6x k78_u6x k84_u6x k87_u6x k88_u6x
      refine ok_sv (cw_put hn C_u8 (by omega) (by omega)) ?_; intro u10 P_u10
      obtain ⟨C_u10, k68_u10, N_u10⟩ := P_u10
      have k50_u10x : u10 160 50 = h 160 50 := (N_u10 160 50 (by decide) (by decide)).trans k50_u8x
      have k54_u10x : u10 160 54 = h 160 54 := (N_u10 160 54 (by decide) (by decide)).trans k54_u8x
      have k57_u10x : u10 160 57 = h 160 57 := (N_u10 160 57 (by decide) (by decide)).trans k57_u8x
      have k68_u10x : u10 160 68 = h 160 68 + 1 + 1 := by omega
      have k70_u10x : u10 160 70 = h 160 70 := (N_u10 160 70 (by decide) (by decide)).trans k70_u8x
      have k72_u10x : u10 160 72 = h 160 72 := (N_u10 160 72 (by decide) (by decide)).trans k72_u8x
      have k78_u10x : u10 160 78 = h 160 78 := (N_u10 160 78 (by decide) (by decide)).trans k78_u8x
      have k84_u10x : u10 160 84 = h 160 84 := (N_u10 160 84 (by decide) (by decide)).trans k84_u8x
      have k87_u10x : u10 160 87 = h 160 87 := (N_u10 160 87 (by decide) (by decide)).trans k87_u8x
      have k88_u10x : u10 160 88 = h 160 88 := (N_u10 160 88 (by decide) (by decide)).trans k88_u8x
      have J7 : ∀ i : Nat, (i : Int) < h 160 87 → u10 217 i = h 217 i ∧ u10 218 i = h 218 i := fun i hi => by rw [show u10 217 i = u8.2 217 i from N_u10 217 i (by decide) (by omega), show u10 218 i = u8.2 218 i from N_u10 218 i (by decide) (by omega)]; exact J5 i hi
      have R8 : ∀ j : Nat, (j : Int) < h 160 57 → u10 199 j = h 199 j := fun j hj => (show u10 199 j = u8.2 199 j from N_u10 199 j (by decide) (by omega)).trans (R6 j hj)
      clear k50_u8x k54_u8x k57_u8x k68_u8x k70_u8x k72_u8x k78_u8x k84_u8x k87_u8x k88_u8x k68_u10
      unfold qj_X13_number_60
      refine ok_sv (cw_push C_u10 (by omega) (by omega)) ?_; intro u2 P_u2
      obtain ⟨C_u2, k70_u2, N_u2⟩ := P_u2
      have k50_u2x : u2 160 50 = h 160 50 := (N_u2 160 50 (by decide) (by decide)).trans k50_u10x
      have k54_u2x : u2 160 54 = h 160 54 := (N_u2 160 54 (by decide) (by decide)).trans k54_u10x
      have k57_u2x : u2 160 57 = h 160 57 := (N_u2 160 57 (by decide) (by decide)).trans k57_u10x
      have k68_u2x : u2 160 68 = h 160 68 + 1 + 1 := (N_u2 160 68 (by decide) (by decide)).trans k68_u10x
      have k70_u2x : u2 160 70 = h 160 70 + 1 := by omega
      have k72_u2x : u2 160 72 = h 160 72 := (N_u2 160 72 (by decide) (by decide)).trans k72_u10x
      have k78_u2x : u2 160 78 = h 160 78 := (N_u2 160 78 (by decide) (by decide)).trans k78_u10x
      have k84_u2x : u2 160 84 = h 160 84 := (N_u2 160 84 (by decide) (by decide)).trans k84_u10x
      have k87_u2x : u2 160 87 = h 160 87 := (N_u2 160 87 (by decide) (by decide)).trans k87_u10x
      have k88_u2x : u2 160 88 = h 160 88 := (N_u2 160 88 (by decide) (by decide)).trans k88_u10x
      have J9 : ∀ i : Nat, (i : Int) < h 160 87 → u2 217 i = h 217 i ∧ u2 218 i = h 218 i := fun i hi => by rw [show u2 217 i = u10 217 i from N_u2 217 i (by decide) (by omega), show u2 218 i = u10 218 i from N_u2 218 i (by decide) (by omega)]; exact J7 i hi
      have R10 : ∀ j : Nat, (j : Int) < h 160 57 → u2 199 j = h 199 j := fun j hj => (show u2 199 j = u10 199 j from N_u2 199 j (by decide) (by omega)).trans (R8 j hj)
      clear k50_u10x k54_u10x k57_u10x k68_u10x k70_u10x k72_u10x k78_u10x k84_u10x k87_u10x k88_u10x k70_u2
      exact ok_ret ⟨cw_le C_u2 (by omega), by omega, by omega, by omega, by omega, by omega, J9, R10⟩
    · skip
      refine ok_sv (cw_put hn C0 (by omega) (by omega)) ?_; intro u12 P_u12
      obtain ⟨C_u12, k68_u12, N_u12⟩ := P_u12
      have k50_u12x : u12 160 50 = h 160 50 := (N_u12 160 50 (by decide) (by decide)).trans k50_h
      have k54_u12x : u12 160 54 = h 160 54 := (N_u12 160 54 (by decide) (by decide)).trans k54_h
      have k57_u12x : u12 160 57 = h 160 57 := (N_u12 160 57 (by decide) (by decide)).trans k57_h
      have k68_u12x : u12 160 68 = h 160 68 + 1 := by omega
      have k70_u12x : u12 160 70 = h 160 70 := (N_u12 160 70 (by decide) (by decide)).trans k70_h
      have k72_u12x : u12 160 72 = h 160 72 := (N_u12 160 72 (by decide) (by decide)).trans k72_h
      have k78_u12x : u12 160 78 = h 160 78 := (N_u12 160 78 (by decide) (by decide)).trans k78_h
      have k84_u12x : u12 160 84 = h 160 84 := (N_u12 160 84 (by decide) (by decide)).trans k84_h
      have k87_u12x : u12 160 87 = h 160 87 := (N_u12 160 87 (by decide) (by decide)).trans k87_h
      have k88_u12x : u12 160 88 = h 160 88 := (N_u12 160 88 (by decide) (by decide)).trans k88_h
      have J11 : ∀ i : Nat, (i : Int) < h 160 87 → u12 217 i = h 217 i ∧ u12 218 i = h 218 i := fun i hi => by rw [show u12 217 i = h 217 i from N_u12 217 i (by decide) (by omega), show u12 218 i = h 218 i from N_u12 218 i (by decide) (by omega)]; exact J0 i hi
      have R12 : ∀ j : Nat, (j : Int) < h 160 57 → u12 199 j = h 199 j := fun j hj => (show u12 199 j = h 199 j from N_u12 199 j (by decide) (by omega)).trans (R0 j hj)
      clear k50_h k54_h k57_h k68_h k70_h k72_h k78_h k84_h k87_h k88_h k68_u12
      refine ok_sv (cw_put hn C_u12 (by omega) (by omega)) ?_; intro u14 P_u14
      obtain ⟨C_u14, k68_u14, N_u14⟩ := P_u14
      have k50_u14x : u14 160 50 = h 160 50 := (N_u14 160 50 (by decide) (by decide)).trans k50_u12x
      have k54_u14x : u14 160 54 = h 160 54 := (N_u14 160 54 (by decide) (by decide)).trans k54_u12x
      have k57_u14x : u14 160 57 = h 160 57 := (N_u14 160 57 (by decide) (by decide)).trans k57_u12x
      have k68_u14x : u14 160 68 = h 160 68 + 1 + 1 := by omega
      have k70_u14x : u14 160 70 = h 160 70 := (N_u14 160 70 (by decide) (by decide)).trans k70_u12x
      have k72_u14x : u14 160 72 = h 160 72 := (N_u14 160 72 (by decide) (by decide)).trans k72_u12x
      have k78_u14x : u14 160 78 = h 160 78 := (N_u14 160 78 (by decide) (by decide)).trans k78_u12x
      have k84_u14x : u14 160 84 = h 160 84 := (N_u14 160 84 (by decide) (by decide)).trans k84_u12x
      have k87_u14x : u14 160 87 = h 160 87 := (N_u14 160 87 (by decide) (by decide)).trans k87_u12x
      have k88_u14x : u14 160 88 = h 160 88 := (N_u14 160 88 (by decide) (by decide)).trans k88_u12x
      have J13 : ∀ i : Nat, (i : Int) < h 160 87 → u14 217 i = h 217 i ∧ u14 218 i = h 218 i := fun i hi => by rw [show u14 217 i = u12 217 i from N_u14 217 i (by decide) (by omega), show u14 218 i = u12 218 i from N_u14 218 i (by decide) (by omega)]; exact J11 i hi
      have R14 : ∀ j : Nat, (j : Int) < h 160 57 → u14 199 j = h 199 j := fun j hj => (show u14 199 j = u12 199 j from N_u14 199 j (by decide) (by omega)).trans (R12 j hj)
      clear k50_u12x k54_u12x k57_u12x k68_u12x k70_u12x k72_u12x k78_u12x k84_u12x k87_u12x k88_u12x k68_u14
      unfold qj_X13_number_60
      refine ok_sv (cw_push C_u14 (by omega) (by omega)) ?_; intro u2 P_u2
      obtain ⟨C_u2, k70_u2, N_u2⟩ := P_u2
      have k50_u2x : u2 160 50 = h 160 50 := (N_u2 160 50 (by decide) (by decide)).trans k50_u14x
      have k54_u2x : u2 160 54 = h 160 54 := (N_u2 160 54 (by decide) (by decide)).trans k54_u14x
      have k57_u2x : u2 160 57 = h 160 57 := (N_u2 160 57 (by decide) (by decide)).trans k57_u14x
      have k68_u2x : u2 160 68 = h 160 68 + 1 + 1 := (N_u2 160 68 (by decide) (by decide)).trans k68_u14x
      have k70_u2x : u2 160 70 = h 160 70 + 1 := by omega
      have k72_u2x : u2 160 72 = h 160 72 := (N_u2 160 72 (by decide) (by decide)).trans k72_u14x
      have k78_u2x : u2 160 78 = h 160 78 := (N_u2 160 78 (by decide) (by decide)).trans k78_u14x
      have k84_u2x : u2 160 84 = h 160 84 := (N_u2 160 84 (by decide) (by decide)).trans k84_u14x
      have k87_u2x : u2 160 87 = h 160 87 := (N_u2 160 87 (by decide) (by decide)).trans k87_u14x
      have k88_u2x : u2 160 88 = h 160 88 := (N_u2 160 88 (by decide) (by decide)).trans k88_u14x
      have J15 : ∀ i : Nat, (i : Int) < h 160 87 → u2 217 i = h 217 i ∧ u2 218 i = h 218 i := fun i hi => by rw [show u2 217 i = u14 217 i from N_u2 217 i (by decide) (by omega), show u2 218 i = u14 218 i from N_u2 218 i (by decide) (by omega)]; exact J13 i hi
      have R16 : ∀ j : Nat, (j : Int) < h 160 57 → u2 199 j = h 199 j := fun j hj => (show u2 199 j = u14 199 j from N_u2 199 j (by decide) (by omega)).trans (R14 j hj)
      clear k50_u14x k54_u14x k57_u14x k68_u14x k70_u14x k72_u14x k78_u14x k84_u14x k87_u14x k88_u14x k70_u2
      exact ok_ret ⟨cw_le C_u2 (by omega), by omega, by omega, by omega, by omega, by omega, J15, R16⟩
  · skip
    refine ok_add (by omega) ?_; intro v16 e_v16
    refine ok_sv (cw_put hn C0 (by omega) (by omega)) ?_; intro u18 P_u18
    obtain ⟨C_u18, k68_u18, N_u18⟩ := P_u18
    have k50_u18x : u18 160 50 = h 160 50 := (N_u18 160 50 (by decide) (by decide)).trans k50_h
    have k54_u18x : u18 160 54 = h 160 54 := (N_u18 160 54 (by decide) (by decide)).trans k54_h
    have k57_u18x : u18 160 57 = h 160 57 := (N_u18 160 57 (by decide) (by decide)).trans k57_h
    have k68_u18x : u18 160 68 = h 160 68 + 1 := by omega
    have k70_u18x : u18 160 70 = h 160 70 := (N_u18 160 70 (by decide) (by decide)).trans k70_h
    have k72_u18x : u18 160 72 = h 160 72 := (N_u18 160 72 (by decide) (by decide)).trans k72_h
    have k78_u18x : u18 160 78 = h 160 78 := (N_u18 160 78 (by decide) (by decide)).trans k78_h
    have k84_u18x : u18 160 84 = h 160 84 := (N_u18 160 84 (by decide) (by decide)).trans k84_h
    have k87_u18x : u18 160 87 = h 160 87 := (N_u18 160 87 (by decide) (by decide)).trans k87_h
    have k88_u18x : u18 160 88 = h 160 88 := (N_u18 160 88 (by decide) (by decide)).trans k88_h
    have J17 : ∀ i : Nat, (i : Int) < h 160 87 → u18 217 i = h 217 i ∧ u18 218 i = h 218 i := fun i hi => by rw [show u18 217 i = h 217 i from N_u18 217 i (by decide) (by omega), show u18 218 i = h 218 i from N_u18 218 i (by decide) (by omega)]; exact J0 i hi
    have R18 : ∀ j : Nat, (j : Int) < h 160 57 → u18 199 j = h 199 j := fun j hj => (show u18 199 j = h 199 j from N_u18 199 j (by decide) (by omega)).trans (R0 j hj)
    clear k50_h k54_h k57_h k68_h k70_h k72_h k78_h k84_h k87_h k88_h k68_u18
    unfold qj_X13_number_60
    refine ok_sv (cw_push C_u18 (by omega) (by omega)) ?_; intro u2 P_u2
    obtain ⟨C_u2, k70_u2, N_u2⟩ := P_u2
    have k50_u2x : u2 160 50 = h 160 50 := (N_u2 160 50 (by decide) (by decide)).trans k50_u18x
    have k54_u2x : u2 160 54 = h 160 54 := (N_u2 160 54 (by decide) (by decide)).trans k54_u18x
    have k57_u2x : u2 160 57 = h 160 57 := (N_u2 160 57 (by decide) (by decide)).trans k57_u18x
    have k68_u2x : u2 160 68 = h 160 68 + 1 := (N_u2 160 68 (by decide) (by decide)).trans k68_u18x
    have k70_u2x : u2 160 70 = h 160 70 + 1 := by omega
    have k72_u2x : u2 160 72 = h 160 72 := (N_u2 160 72 (by decide) (by decide)).trans k72_u18x
    have k78_u2x : u2 160 78 = h 160 78 := (N_u2 160 78 (by decide) (by decide)).trans k78_u18x
    have k84_u2x : u2 160 84 = h 160 84 := (N_u2 160 84 (by decide) (by decide)).trans k84_u18x
    have k87_u2x : u2 160 87 = h 160 87 := (N_u2 160 87 (by decide) (by decide)).trans k87_u18x
    have k88_u2x : u2 160 88 = h 160 88 := (N_u2 160 88 (by decide) (by decide)).trans k88_u18x
    have J19 : ∀ i : Nat, (i : Int) < h 160 87 → u2 217 i = h 217 i ∧ u2 218 i = h 218 i := fun i hi => by rw [show u2 217 i = u18 217 i from N_u2 217 i (by decide) (by omega), show u2 218 i = u18 218 i from N_u2 218 i (by decide) (by omega)]; exact J17 i hi
    have R20 : ∀ j : Nat, (j : Int) < h 160 57 → u2 199 j = h 199 j := fun j hj => (show u2 199 j = u18 199 j from N_u2 199 j (by decide) (by omega)).trans (R18 j hj)
    clear k50_u18x k54_u18x k57_u18x k68_u18x k70_u18x k72_u18x k78_u18x k84_u18x k87_u18x k88_u18x k70_u2
    exact ok_ret ⟨cw_le C_u2 (by omega), by omega, by omega, by omega, by omega, by omega, J19, R20⟩
theorem vm_operation {nn : Nat} (hn : 1000000 ≤ nn) {h : ms_M} (V : VS_ h) {a : Int} : Ok_ (qf_X13_operation nn a h) (fun u => 96 ≤ u ∧ u ≤ 130) := by
  unfold qf_X13_operation
  refine ok_if (fun _ => ?_) (fun _ => ok_ret (by decide))
  refine ok_if (fun _ => ?_) (fun _ => ok_ret (by decide))
  refine ok_if (fun _ => ?_) (fun _ => ok_ret (by decide))
  refine ok_if (fun _ => ?_) (fun _ => ok_ret (by decide))
  refine ok_if (fun _ => ?_) (fun _ => ok_ret (by decide))
  refine ok_if (fun _ => ?_) (fun _ => ok_ret (by decide))
  refine ok_if (fun _ => ?_) (fun _ => ok_ret (by decide))
  refine ok_if (fun _ => ?_) (fun _ => ok_ret (by decide))
  refine ok_sv (vf_X13_sign hn (by omega) (by omega) (by omega) (by omega) (by omega) (by omega) V) ?_; intro u1 _
  refine ok_if (fun _ => ?_) (fun _ => ok_ret (by decide))
  refine ok_sv (vf_X13_sign hn (by omega) (by omega) (by omega) (by omega) (by omega) (by omega) V) ?_; intro u2 _
  exact ok_if (fun _ => ok_ret (by decide)) (fun _ => ok_ret (by decide))
set_option maxHeartbeats 20000000 in
theorem wo_workOne {nn : Nat} (hn : 1000000 ≤ nn) {s : ms_M} (S : GZ s) {g : Int} {rc : tq_X13_work} (G : WG s g rc) {e d a b a2 b2 w : Int} {h : ms_M} (C0 : CW s w h) (T : TE 0 s 0 d a b e) (Y : YT s 0 a2 b2 e) (gv0 : gv s e) (hb : b ≤ s 160 22) (hd : d ≤ g + 1) {x q : Int} (hx : (x = e ∧ q = 1 ∧ led s e) ∨ (x = a ∧ q = 0 ∧ ¬ led s e)) (B : BD h (Cm s b - Cm s x) a b d (w - q) (h 160 70 - q)) : Ok_ (qo_X13_workOne nn rc e h) (QK s h (w + (Cm s b - Cm s x) + 1 - q) (h 160 70 - q + dv s e) (Cm s b - Cm s x)) := by
  unfold qo_X13_workOne
  have J0 : ∀ i : Nat, (i : Int) < h 160 87 → h 217 i = h 217 i ∧ h 218 i = h 218 i := fun _ _ => ⟨rfl, rfl⟩
  have R0 : ∀ j : Nat, (j : Int) < h 160 57 → h 199 j = h 199 j := fun _ _ => rfl
  have g50 := gF_160_50 C0.1.1
  have k50_h : h 160 50 = h 160 50 := rfl
  have g54 := gF_160_54 C0.1.1
  have k54_h : h 160 54 = h 160 54 := rfl
  have g57 := gF_160_57 C0.1.1
  have k57_h : h 160 57 = h 160 57 := rfl
  have g68 := gF_160_68 C0.1.1
  have k68_h : h 160 68 = h 160 68 := rfl
  have g70 := gF_160_70 C0.1.1
  have k70_h : h 160 70 = h 160 70 := rfl
  have g72 := gF_160_72 C0.1.1
  have k72_h : h 160 72 = h 160 72 := rfl
  have g78 := gF_160_78 C0.1.1
  have k78_h : h 160 78 = h 160 78 := rfl
  have g84 := gF_160_84 C0.1.1
  have k84_h : h 160 84 = h 160 84 := rfl
  have g87 := gF_160_87 C0.1.1
  have k87_h : h 160 87 = h 160 87 := rfl
  have g88 := gF_160_88 C0.1.1
  have k88_h : h 160 88 = h 160 88 := rfl
  have g24x := gF_160_24 C0.1.1
  have q24x : h 160 24 = s 160 24 := C0.1.2.1 160 24 rfl
  obtain ⟨⟨bd1, bd0⟩, bd2, bd3, bd4, bd5, bd6, bd7⟩ := B
  have rg := te_rg T
  have kd := te_kd T
  have g24 := gF_160_24 S.1
  have s24 := S.2.1.2.1
  have s22 := S.2.2.1.2
  have s28 := S.2.1.2.2.2.1
  have s52 := S.2.2.1.1
  have cm1 := cm_mono (s := s) (a := a) (b := e) (by omega) (by omega)
  have cm2 := cm_mono (s := s) (a := e + 1) (b := b) (by omega) (by omega)
  have cm3 := cm_at (s := s) (e := e) (by omega)
  refine ok_rd (by omega) (gA_174 C0.1.1) ?_; intro v59 e_v59 a_v59 b_v59
  have t_v59 : v59 = s 174 (e).toNat := by rw [e_v59]; exact C0.1.2.1 174 _ (nw_ar rfl _)
  clear e_v59
  have l_v59 := (S.2.2.2 (e).toNat (by omega)).1; rw [← t_v59] at l_v59
  refine ok_rd (by omega) (gA_167 C0.1.1) ?_; intro v61 e_v61 a_v61 b_v61
  have t_v61 : v61 = s 167 (e).toNat := by rw [e_v61]; exact C0.1.2.1 167 _ (nw_ar rfl _)
  clear e_v61
  refine ok_if (fun C1 => ?_) (fun C1 => ?_)
  · skip
    have hk : s 167 e.toNat = 20 := by omega
    rw [hk, show wt 20 = 1 by decide] at cm3
    obtain ⟨hx1, hx2⟩ : a = x ∧ q = 0 := by rcases hx with z | z; exact absurd z.2.2 (by unfold led; omega); exact ⟨z.1.symm, z.2.1⟩
    subst hx1 hx2
    clear hx
    have hE : dv s e = tv v59 := by rw [t_v59]; rfl
    have hG : ¬ v59 = 3 := by rw [t_v59]; rcases gv0 with z | z | z; exact z; exfalso; omega; exfalso; omega
    have hD : tv v59 = 1 := if_neg hG
    clear gv0
    refine ok_rd (by omega) (gA_168 C0.1.1) ?_; intro v100 e_v100 a_v100 b_v100
    have t_v100 : v100 = s 168 (e).toNat := by rw [e_v100]; exact C0.1.2.1 168 _ (nw_ar rfl _)
    clear e_v100
    refine ok_sv (cw_number hn S C0 (by omega) (by omega) (by omega) (by omega)) ?_; intro u102 P_u102
    obtain ⟨C_u102, p70_u102, p68_u102, p78_u102, p88_u102, ⟨p50_u102, p54_u102, p57_u102, p72_u102, p84_u102, p87_u102⟩, J_u102, R_u102⟩ := P_u102
    have J2 : ∀ i : Nat, (i : Int) < h 160 87 → u102 217 i = h 217 i ∧ u102 218 i = h 218 i := fun i hi => by rw [(J_u102 i (by omega)).1, (J_u102 i (by omega)).2]; exact J0 i hi
    have R3 : ∀ j : Nat, (j : Int) < h 160 57 → u102 199 j = h 199 j := fun j hj => (R_u102 j (by omega)).trans (R0 j hj)
    have k50_u102x : u102 160 50 = h 160 50 := (p50_u102).trans k50_h
    have k54_u102x : u102 160 54 = h 160 54 := (p54_u102).trans k54_h
    have k57_u102x : u102 160 57 = h 160 57 := (p57_u102).trans k57_h
    have k68_u102x : h 160 68 ≤ u102 160 68 ∧ u102 160 68 ≤ h 160 68 + 10 := by omega
    have k70_u102x : u102 160 70 = h 160 70 + 1 := by omega
    have k72_u102x : u102 160 72 = h 160 72 := (p72_u102).trans k72_h
    have k78_u102x : h 160 78 ≤ u102 160 78 ∧ u102 160 78 ≤ h 160 78 + 0 := by omega
    have k84_u102x : u102 160 84 = h 160 84 := (p84_u102).trans k84_h
    have k87_u102x : u102 160 87 = h 160 87 := (p87_u102).trans k87_h
    have k88_u102x : h 160 88 ≤ u102 160 88 ∧ u102 160 88 ≤ h 160 88 + 0 := by omega
    clear k50_h k54_h k57_h k68_h k70_h k72_h k78_h k84_h k87_h k88_h p70_u102 p68_u102 p78_u102 p88_u102 p50_u102 p54_u102 p57_u102 p72_u102 p84_u102 p87_u102 J_u102 R_u102
    exact ok_ret ⟨cw_le C_u102 (by omega), by omega, by omega, by omega, by omega, by omega, J2, R3⟩
  · skip
    refine ok_if (fun C4 => ?_) (fun C4 => ?_)
    · skip
      have hk : s 167 e.toNat = 21 := by omega
      rw [hk, show wt 21 = 1 by decide] at cm3
      obtain ⟨hx1, hx2⟩ : a = x ∧ q = 0 := by rcases hx with z | z; exact absurd z.2.2 (by unfold led; omega); exact ⟨z.1.symm, z.2.1⟩
      subst hx1 hx2
      clear hx
      have hE : dv s e = tv v59 := by rw [t_v59]; rfl
      have hG : ¬ v59 = 3 := by rw [t_v59]; rcases gv0 with z | z | z; exact z; exfalso; omega; exfalso; omega
      have hD : tv v59 = 1 := if_neg hG
      clear gv0
      unfold qj_X13_workOne_115
      refine ok_rd (by omega) (gA_167 C0.1.1) ?_; intro v53 e_v53 a_v53 b_v53
      have t_v53 : v53 = s 167 (e).toNat := by rw [e_v53]; exact C0.1.2.1 167 _ (nw_ar rfl _)
      clear e_v53
      have d_v53 : v61 = v53 := by rw [t_v53, t_v61]
      subst d_v53
      refine ok_if (fun C5 => ?_) (fun C5 => ?_)
      · skip
        exfalso; omega
      · skip
        unfold qj_X13_workOne_147
        refine ok_sv (cw_put hn C0 (by omega) (by omega)) ?_; intro u49 P_u49
        obtain ⟨C_u49, k68_u49, N_u49⟩ := P_u49
        have k50_u49x : u49 160 50 = h 160 50 := (N_u49 160 50 (by decide) (by decide)).trans k50_h
        have k54_u49x : u49 160 54 = h 160 54 := (N_u49 160 54 (by decide) (by decide)).trans k54_h
        have k57_u49x : u49 160 57 = h 160 57 := (N_u49 160 57 (by decide) (by decide)).trans k57_h
        have k68_u49x : u49 160 68 = h 160 68 + 1 := by omega
        have k70_u49x : u49 160 70 = h 160 70 := (N_u49 160 70 (by decide) (by decide)).trans k70_h
        have k72_u49x : u49 160 72 = h 160 72 := (N_u49 160 72 (by decide) (by decide)).trans k72_h
        have k78_u49x : u49 160 78 = h 160 78 := (N_u49 160 78 (by decide) (by decide)).trans k78_h
        have k84_u49x : u49 160 84 = h 160 84 := (N_u49 160 84 (by decide) (by decide)).trans k84_h
        have k87_u49x : u49 160 87 = h 160 87 := (N_u49 160 87 (by decide) (by decide)).trans k87_h
        have k88_u49x : u49 160 88 = h 160 88 := (N_u49 160 88 (by decide) (by decide)).trans k88_h
        have J6 : ∀ i : Nat, (i : Int) < h 160 87 → u49 217 i = h 217 i ∧ u49 218 i = h 218 i := fun i hi => by rw [show u49 217 i = h 217 i from N_u49 217 i (by decide) (by omega), show u49 218 i = h 218 i from N_u49 218 i (by decide) (by omega)]; exact J0 i hi
        have R7 : ∀ j : Nat, (j : Int) < h 160 57 → u49 199 j = h 199 j := fun j hj => (show u49 199 j = h 199 j from N_u49 199 j (by decide) (by omega)).trans (R0 j hj)
        clear k50_h k54_h k57_h k68_h k70_h k72_h k78_h k84_h k87_h k88_h k68_u49
        refine ok_sv (cw_push C_u49 (by omega) (by omega)) ?_; intro u51 P_u51
        obtain ⟨C_u51, k70_u51, N_u51⟩ := P_u51
        have k50_u51x : u51 160 50 = h 160 50 := (N_u51 160 50 (by decide) (by decide)).trans k50_u49x
        have k54_u51x : u51 160 54 = h 160 54 := (N_u51 160 54 (by decide) (by decide)).trans k54_u49x
        have k57_u51x : u51 160 57 = h 160 57 := (N_u51 160 57 (by decide) (by decide)).trans k57_u49x
        have k68_u51x : u51 160 68 = h 160 68 + 1 := (N_u51 160 68 (by decide) (by decide)).trans k68_u49x
        have k70_u51x : u51 160 70 = h 160 70 + 1 := by omega
        have k72_u51x : u51 160 72 = h 160 72 := (N_u51 160 72 (by decide) (by decide)).trans k72_u49x
        have k78_u51x : u51 160 78 = h 160 78 := (N_u51 160 78 (by decide) (by decide)).trans k78_u49x
        have k84_u51x : u51 160 84 = h 160 84 := (N_u51 160 84 (by decide) (by decide)).trans k84_u49x
        have k87_u51x : u51 160 87 = h 160 87 := (N_u51 160 87 (by decide) (by decide)).trans k87_u49x
        have k88_u51x : u51 160 88 = h 160 88 := (N_u51 160 88 (by decide) (by decide)).trans k88_u49x
        have J8 : ∀ i : Nat, (i : Int) < h 160 87 → u51 217 i = h 217 i ∧ u51 218 i = h 218 i := fun i hi => by rw [show u51 217 i = u49 217 i from N_u51 217 i (by decide) (by omega), show u51 218 i = u49 218 i from N_u51 218 i (by decide) (by omega)]; exact J6 i hi
        have R9 : ∀ j : Nat, (j : Int) < h 160 57 → u51 199 j = h 199 j := fun j hj => (show u51 199 j = u49 199 j from N_u51 199 j (by decide) (by omega)).trans (R7 j hj)
        clear k50_u49x k54_u49x k57_u49x k68_u49x k70_u49x k72_u49x k78_u49x k84_u49x k87_u49x k88_u49x k70_u51
        exact ok_ret ⟨cw_le C_u51 (by omega), by omega, by omega, by omega, by omega, by omega, J8, R9⟩
    · skip
      refine ok_if (fun C10 => ?_) (fun C10 => ?_)
      · skip
        have hk : s 167 e.toNat = 22 := by omega
        rw [hk, show wt 22 = 1 by decide] at cm3
        obtain ⟨hx1, hx2⟩ : a = x ∧ q = 0 := by rcases hx with z | z; exact absurd z.2.2 (by unfold led; omega); exact ⟨z.1.symm, z.2.1⟩
        subst hx1 hx2
        clear hx
        have hE : dv s e = tv v59 := by rw [t_v59]; rfl
        have hG : ¬ v59 = 3 := by rw [t_v59]; rcases gv0 with z | z | z; exact z; exfalso; omega; exfalso; omega
        have hD : tv v59 = 1 := if_neg hG
        clear gv0
        unfold qj_X13_workOne_115
        refine ok_rd (by omega) (gA_167 C0.1.1) ?_; intro v53 e_v53 a_v53 b_v53
        have t_v53 : v53 = s 167 (e).toNat := by rw [e_v53]; exact C0.1.2.1 167 _ (nw_ar rfl _)
        clear e_v53
        have d_v53 : v61 = v53 := by rw [t_v53, t_v61]
        subst d_v53
        refine ok_if (fun C11 => ?_) (fun C11 => ?_)
        · skip
          refine ok_rd (by omega) (gA_167 C0.1.1) ?_; intro v55 e_v55 a_v55 b_v55
          have t_v55 : v55 = s 167 (e).toNat := by rw [e_v55]; exact C0.1.2.1 167 _ (nw_ar rfl _)
          clear e_v55
          have d_v55 : v61 = v55 := by rw [t_v55, t_v61]
          subst d_v55
          refine ok_if (fun C12 => ?_) (fun C12 => ?_)
          · skip
            exfalso; omega
          · skip
            unfold qj_X13_workOne_147
            refine ok_sv (cw_put hn C0 (by omega) (by omega)) ?_; intro u49 P_u49
            obtain ⟨C_u49, k68_u49, N_u49⟩ := P_u49
            have k50_u49x : u49 160 50 = h 160 50 := (N_u49 160 50 (by decide) (by decide)).trans k50_h
            have k54_u49x : u49 160 54 = h 160 54 := (N_u49 160 54 (by decide) (by decide)).trans k54_h
            have k57_u49x : u49 160 57 = h 160 57 := (N_u49 160 57 (by decide) (by decide)).trans k57_h
            have k68_u49x : u49 160 68 = h 160 68 + 1 := by omega
            have k70_u49x : u49 160 70 = h 160 70 := (N_u49 160 70 (by decide) (by decide)).trans k70_h
            have k72_u49x : u49 160 72 = h 160 72 := (N_u49 160 72 (by decide) (by decide)).trans k72_h
            have k78_u49x : u49 160 78 = h 160 78 := (N_u49 160 78 (by decide) (by decide)).trans k78_h
            have k84_u49x : u49 160 84 = h 160 84 := (N_u49 160 84 (by decide) (by decide)).trans k84_h
            have k87_u49x : u49 160 87 = h 160 87 := (N_u49 160 87 (by decide) (by decide)).trans k87_h
            have k88_u49x : u49 160 88 = h 160 88 := (N_u49 160 88 (by decide) (by decide)).trans k88_h
            have J13 : ∀ i : Nat, (i : Int) < h 160 87 → u49 217 i = h 217 i ∧ u49 218 i = h 218 i := fun i hi => by rw [show u49 217 i = h 217 i from N_u49 217 i (by decide) (by omega), show u49 218 i = h 218 i from N_u49 218 i (by decide) (by omega)]; exact J0 i hi
            have R14 : ∀ j : Nat, (j : Int) < h 160 57 → u49 199 j = h 199 j := fun j hj => (show u49 199 j = h 199 j from N_u49 199 j (by decide) (by omega)).trans (R0 j hj)
            clear k50_h k54_h k57_h k68_h k70_h k72_h k78_h k84_h k87_h k88_h k68_u49
            refine ok_sv (cw_push C_u49 (by omega) (by omega)) ?_; intro u51 P_u51
            obtain ⟨C_u51, k70_u51, N_u51⟩ := P_u51
            have k50_u51x : u51 160 50 = h 160 50 := (N_u51 160 50 (by decide) (by decide)).trans k50_u49x
            have k54_u51x : u51 160 54 = h 160 54 := (N_u51 160 54 (by decide) (by decide)).trans k54_u49x
            have k57_u51x : u51 160 57 = h 160 57 := (N_u51 160 57 (by decide) (by decide)).trans k57_u49x
            have k68_u51x : u51 160 68 = h 160 68 + 1 := (N_u51 160 68 (by decide) (by decide)).trans k68_u49x
            have k70_u51x : u51 160 70 = h 160 70 + 1 := by omega
            have k72_u51x : u51 160 72 = h 160 72 := (N_u51 160 72 (by decide) (by decide)).trans k72_u49x
            have k78_u51x : u51 160 78 = h 160 78 := (N_u51 160 78 (by decide) (by decide)).trans k78_u49x
            have k84_u51x : u51 160 84 = h 160 84 := (N_u51 160 84 (by decide) (by decide)).trans k84_u49x
            have k87_u51x : u51 160 87 = h 160 87 := (N_u51 160 87 (by decide) (by decide)).trans k87_u49x
            have k88_u51x : u51 160 88 = h 160 88 := (N_u51 160 88 (by decide) (by decide)).trans k88_u49x
            have J15 : ∀ i : Nat, (i : Int) < h 160 87 → u51 217 i = h 217 i ∧ u51 218 i = h 218 i := fun i hi => by rw [show u51 217 i = u49 217 i from N_u51 217 i (by decide) (by omega), show u51 218 i = u49 218 i from N_u51 218 i (by decide) (by omega)]; exact J13 i hi
            have R16 : ∀ j : Nat, (j : Int) < h 160 57 → u51 199 j = h 199 j := fun j hj => (show u51 199 j = u49 199 j from N_u51 199 j (by decide) (by omega)).trans (R14 j hj)
            clear k50_u49x k54_u49x k57_u49x k68_u49x k70_u49x k72_u49x k78_u49x k84_u49x k87_u49x k88_u49x k70_u51
            exact ok_ret ⟨cw_le C_u51 (by omega), by omega, by omega, by omega, by omega, by omega, J15, R16⟩
        · skip
          exfalso; omega
      · skip
        refine ok_if (fun C17 => ?_) (fun C17 => ?_)
        · skip
          have hk : s 167 e.toNat = 23 := by omega
          rw [hk, show wt 23 = 1 by decide] at cm3
          obtain ⟨hx1, hx2⟩ : a = x ∧ q = 0 := by rcases hx with z | z; exact absurd z.2.2 (by unfold led; omega); exact ⟨z.1.symm, z.2.1⟩
          subst hx1 hx2
          clear hx
          have hE : dv s e = tv v59 := by rw [t_v59]; rfl
          have hG : ¬ v59 = 3 := by rw [t_v59]; rcases gv0 with z | z | z; exact z; exfalso; omega; exfalso; omega
          have hD : tv v59 = 1 := if_neg hG
          clear gv0
          unfold qj_X13_workOne_115
          refine ok_rd (by omega) (gA_167 C0.1.1) ?_; intro v53 e_v53 a_v53 b_v53
          have t_v53 : v53 = s 167 (e).toNat := by rw [e_v53]; exact C0.1.2.1 167 _ (nw_ar rfl _)
          clear e_v53
          have d_v53 : v61 = v53 := by rw [t_v53, t_v61]
          subst d_v53
          refine ok_if (fun C18 => ?_) (fun C18 => ?_)
          · skip
            refine ok_rd (by omega) (gA_167 C0.1.1) ?_; intro v55 e_v55 a_v55 b_v55
            have t_v55 : v55 = s 167 (e).toNat := by rw [e_v55]; exact C0.1.2.1 167 _ (nw_ar rfl _)
            clear e_v55
            have d_v55 : v61 = v55 := by rw [t_v55, t_v61]
            subst d_v55
            refine ok_if (fun C19 => ?_) (fun C19 => ?_)
            · skip
              unfold qj_X13_workOne_147
              refine ok_sv (cw_put hn C0 (by omega) (by omega)) ?_; intro u49 P_u49
              obtain ⟨C_u49, k68_u49, N_u49⟩ := P_u49
              have k50_u49x : u49 160 50 = h 160 50 := (N_u49 160 50 (by decide) (by decide)).trans k50_h
              have k54_u49x : u49 160 54 = h 160 54 := (N_u49 160 54 (by decide) (by decide)).trans k54_h
              have k57_u49x : u49 160 57 = h 160 57 := (N_u49 160 57 (by decide) (by decide)).trans k57_h
              have k68_u49x : u49 160 68 = h 160 68 + 1 := by omega
              have k70_u49x : u49 160 70 = h 160 70 := (N_u49 160 70 (by decide) (by decide)).trans k70_h
              have k72_u49x : u49 160 72 = h 160 72 := (N_u49 160 72 (by decide) (by decide)).trans k72_h
              have k78_u49x : u49 160 78 = h 160 78 := (N_u49 160 78 (by decide) (by decide)).trans k78_h
              have k84_u49x : u49 160 84 = h 160 84 := (N_u49 160 84 (by decide) (by decide)).trans k84_h
              have k87_u49x : u49 160 87 = h 160 87 := (N_u49 160 87 (by decide) (by decide)).trans k87_h
              have k88_u49x : u49 160 88 = h 160 88 := (N_u49 160 88 (by decide) (by decide)).trans k88_h
              have J20 : ∀ i : Nat, (i : Int) < h 160 87 → u49 217 i = h 217 i ∧ u49 218 i = h 218 i := fun i hi => by rw [show u49 217 i = h 217 i from N_u49 217 i (by decide) (by omega), show u49 218 i = h 218 i from N_u49 218 i (by decide) (by omega)]; exact J0 i hi
              have R21 : ∀ j : Nat, (j : Int) < h 160 57 → u49 199 j = h 199 j := fun j hj => (show u49 199 j = h 199 j from N_u49 199 j (by decide) (by omega)).trans (R0 j hj)
              clear k50_h k54_h k57_h k68_h k70_h k72_h k78_h k84_h k87_h k88_h k68_u49
              refine ok_sv (cw_push C_u49 (by omega) (by omega)) ?_; intro u51 P_u51
              obtain ⟨C_u51, k70_u51, N_u51⟩ := P_u51
              have k50_u51x : u51 160 50 = h 160 50 := (N_u51 160 50 (by decide) (by decide)).trans k50_u49x
              have k54_u51x : u51 160 54 = h 160 54 := (N_u51 160 54 (by decide) (by decide)).trans k54_u49x
              have k57_u51x : u51 160 57 = h 160 57 := (N_u51 160 57 (by decide) (by decide)).trans k57_u49x
              have k68_u51x : u51 160 68 = h 160 68 + 1 := (N_u51 160 68 (by decide) (by decide)).trans k68_u49x
              have k70_u51x : u51 160 70 = h 160 70 + 1 := by omega
              have k72_u51x : u51 160 72 = h 160 72 := (N_u51 160 72 (by decide) (by decide)).trans k72_u49x
              have k78_u51x : u51 160 78 = h 160 78 := (N_u51 160 78 (by decide) (by decide)).trans k78_u49x
              have k84_u51x : u51 160 84 = h 160 84 := (N_u51 160 84 (by decide) (by decide)).trans k84_u49x
              have k87_u51x : u51 160 87 = h 160 87 := (N_u51 160 87 (by decide) (by decide)).trans k87_u49x
              have k88_u51x : u51 160 88 = h 160 88 := (N_u51 160 88 (by decide) (by decide)).trans k88_u49x
              have J22 : ∀ i : Nat, (i : Int) < h 160 87 → u51 217 i = h 217 i ∧ u51 218 i = h 218 i := fun i hi => by rw [show u51 217 i = u49 217 i from N_u51 217 i (by decide) (by omega), show u51 218 i = u49 218 i from N_u51 218 i (by decide) (by omega)]; exact J20 i hi
              have R23 : ∀ j : Nat, (j : Int) < h 160 57 → u51 199 j = h 199 j := fun j hj => (show u51 199 j = u49 199 j from N_u51 199 j (by decide) (by omega)).trans (R21 j hj)
              clear k50_u49x k54_u49x k57_u49x k68_u49x k70_u49x k72_u49x k78_u49x k84_u49x k87_u49x k88_u49x k70_u51
              exact ok_ret ⟨cw_le C_u51 (by omega), by omega, by omega, by omega, by omega, by omega, J22, R23⟩
            · skip
              exfalso; omega
          · skip
            exfalso; omega
        · skip
          refine ok_if (fun C24 => ?_) (fun C24 => ?_)
          · skip
            have hk : s 167 e.toNat = 24 := by omega
            rw [hk, show wt 24 = 1 by decide] at cm3
            obtain ⟨hx1, hx2⟩ : a = x ∧ q = 0 := by rcases hx with z | z; exact absurd z.2.2 (by unfold led; omega); exact ⟨z.1.symm, z.2.1⟩
            subst hx1 hx2
            clear hx
            have hE : dv s e = tv v59 := by rw [t_v59]; rfl
            have hG : ¬ v59 = 3 := by rw [t_v59]; rcases gv0 with z | z | z; exact z; exfalso; omega; exfalso; omega
            have hD : tv v59 = 1 := if_neg hG
            clear gv0
            have o_u104 : h 160 52 = s 160 52 := C0.1.2.1 160 52 rfl
            refine ok_sv (cw_self hn S C0 (by omega) (by omega)) ?_; intro u104 P_u104
            obtain ⟨C_u104, p70_u104, p68_u104, p78_u104, p88_u104, ⟨p50_u104, p54_u104, p57_u104, p72_u104, p84_u104, p87_u104⟩, J_u104, R_u104⟩ := P_u104
            have J25 : ∀ i : Nat, (i : Int) < h 160 87 → u104 217 i = h 217 i ∧ u104 218 i = h 218 i := fun i hi => by rw [(J_u104 i (by omega)).1, (J_u104 i (by omega)).2]; exact J0 i hi
            have R26 : ∀ j : Nat, (j : Int) < h 160 57 → u104 199 j = h 199 j := fun j hj => (R_u104 j (by omega)).trans (R0 j hj)
            have k50_u104x : u104 160 50 = h 160 50 := (p50_u104).trans k50_h
            have k54_u104x : u104 160 54 = h 160 54 := (p54_u104).trans k54_h
            have k57_u104x : u104 160 57 = h 160 57 := (p57_u104).trans k57_h
            have k68_u104x : h 160 68 ≤ u104 160 68 ∧ u104 160 68 ≤ h 160 68 + 10 := by omega
            have k70_u104x : u104 160 70 = h 160 70 + 1 := by omega
            have k72_u104x : u104 160 72 = h 160 72 := (p72_u104).trans k72_h
            have k78_u104x : h 160 78 ≤ u104 160 78 ∧ u104 160 78 ≤ h 160 78 + 0 := by omega
            have k84_u104x : u104 160 84 = h 160 84 := (p84_u104).trans k84_h
            have k87_u104x : u104 160 87 = h 160 87 := (p87_u104).trans k87_h
            have k88_u104x : h 160 88 ≤ u104 160 88 ∧ u104 160 88 ≤ h 160 88 + 0 := by omega
            clear k50_h k54_h k57_h k68_h k70_h k72_h k78_h k84_h k87_h k88_h p70_u104 p68_u104 p78_u104 p88_u104 p50_u104 p54_u104 p57_u104 p72_u104 p84_u104 p87_u104 J_u104 R_u104
            exact ok_ret ⟨cw_le C_u104 (by omega), by omega, by omega, by omega, by omega, by omega, J25, R26⟩
          · skip
            refine ok_if (fun C27 => ?_) (fun C27 => ?_)
            · skip
              have hk : s 167 e.toNat = 25 := by omega
              rw [hk, show wt 25 = 1 by decide] at cm3
              obtain ⟨hx1, hx2⟩ : a = x ∧ q = 0 := by rcases hx with z | z; exact absurd z.2.2 (by unfold led; omega); exact ⟨z.1.symm, z.2.1⟩
              subst hx1 hx2
              clear hx
              have hE : dv s e = tv v59 := by rw [t_v59]; rfl
              have hG : ¬ v59 = 3 := by rw [t_v59]; rcases gv0 with z | z | z; exact z; exfalso; omega; exfalso; omega
              have hD : tv v59 = 1 := if_neg hG
              clear gv0
              refine ok_rd (by omega) (gA_175 C0.1.1) ?_; intro v106 e_v106 a_v106 b_v106
              have t_v106 : v106 = s 175 (e).toNat := by rw [e_v106]; exact C0.1.2.1 175 _ (nw_ar rfl _)
              clear e_v106
              have l_v106 := (S.2.2.2 (e).toNat (by omega)).2.1 (by omega); rw [← t_v106] at l_v106
              refine ok_if (fun C28 => ?_) (fun C28 => ?_)
              · skip
                have o_u108 : h 160 52 = s 160 52 := C0.1.2.1 160 52 rfl
                refine ok_sv (cw_self hn S C0 (by omega) (by omega)) ?_; intro u108 P_u108
                obtain ⟨C_u108, p70_u108, p68_u108, p78_u108, p88_u108, ⟨p50_u108, p54_u108, p57_u108, p72_u108, p84_u108, p87_u108⟩, J_u108, R_u108⟩ := P_u108
                have J29 : ∀ i : Nat, (i : Int) < h 160 87 → u108 217 i = h 217 i ∧ u108 218 i = h 218 i := fun i hi => by rw [(J_u108 i (by omega)).1, (J_u108 i (by omega)).2]; exact J0 i hi
                have R30 : ∀ j : Nat, (j : Int) < h 160 57 → u108 199 j = h 199 j := fun j hj => (R_u108 j (by omega)).trans (R0 j hj)
                have k50_u108x : u108 160 50 = h 160 50 := (p50_u108).trans k50_h
                have k54_u108x : u108 160 54 = h 160 54 := (p54_u108).trans k54_h
                have k57_u108x : u108 160 57 = h 160 57 := (p57_u108).trans k57_h
                have k68_u108x : h 160 68 ≤ u108 160 68 ∧ u108 160 68 ≤ h 160 68 + 10 := by omega
                have k70_u108x : u108 160 70 = h 160 70 + 1 := by omega
                have k72_u108x : u108 160 72 = h 160 72 := (p72_u108).trans k72_h
                have k78_u108x : h 160 78 ≤ u108 160 78 ∧ u108 160 78 ≤ h 160 78 + 0 := by omega
                have k84_u108x : u108 160 84 = h 160 84 := (p84_u108).trans k84_h
                have k87_u108x : u108 160 87 = h 160 87 := (p87_u108).trans k87_h
                have k88_u108x : h 160 88 ≤ u108 160 88 ∧ u108 160 88 ≤ h 160 88 + 0 := by omega
                clear k50_h k54_h k57_h k68_h k70_h k72_h k78_h k84_h k87_h k88_h p70_u108 p68_u108 p78_u108 p88_u108 p50_u108 p54_u108 p57_u108 p72_u108 p84_u108 p87_u108 J_u108 R_u108
                refine ok_sv (cw_put hn C_u108 (by omega) (by omega)) ?_; intro u110 P_u110
                obtain ⟨C_u110, k68_u110, N_u110⟩ := P_u110
                have k50_u110x : u110 160 50 = h 160 50 := (N_u110 160 50 (by decide) (by decide)).trans k50_u108x
                have k54_u110x : u110 160 54 = h 160 54 := (N_u110 160 54 (by decide) (by decide)).trans k54_u108x
                have k57_u110x : u110 160 57 = h 160 57 := (N_u110 160 57 (by decide) (by decide)).trans k57_u108x
                have k68_u110x : h 160 68 + 1 ≤ u110 160 68 ∧ u110 160 68 ≤ h 160 68 + 10 + 1 := by omega
                have k70_u110x : u110 160 70 = h 160 70 + 1 := (N_u110 160 70 (by decide) (by decide)).trans k70_u108x
                have k72_u110x : u110 160 72 = h 160 72 := (N_u110 160 72 (by decide) (by decide)).trans k72_u108x
                have k78_u110x : h 160 78 ≤ u110 160 78 ∧ u110 160 78 ≤ h 160 78 + 0 := by rw [show u110 160 78 = _ from N_u110 160 78 (by decide) (by decide)]; exact k78_u108x
                have k84_u110x : u110 160 84 = h 160 84 := (N_u110 160 84 (by decide) (by decide)).trans k84_u108x
                have k87_u110x : u110 160 87 = h 160 87 := (N_u110 160 87 (by decide) (by decide)).trans k87_u108x
                have k88_u110x : h 160 88 ≤ u110 160 88 ∧ u110 160 88 ≤ h 160 88 + 0 := by rw [show u110 160 88 = _ from N_u110 160 88 (by decide) (by decide)]; exact k88_u108x
                have J31 : ∀ i : Nat, (i : Int) < h 160 87 → u110 217 i = h 217 i ∧ u110 218 i = h 218 i := fun i hi => by rw [show u110 217 i = u108 217 i from N_u110 217 i (by decide) (by omega), show u110 218 i = u108 218 i from N_u110 218 i (by decide) (by omega)]; exact J29 i hi
                have R32 : ∀ j : Nat, (j : Int) < h 160 57 → u110 199 j = h 199 j := fun j hj => (show u110 199 j = u108 199 j from N_u110 199 j (by decide) (by omega)).trans (R30 j hj)
                clear k50_u108x k54_u108x k57_u108x k68_u108x k70_u108x k72_u108x k78_u108x k84_u108x k87_u108x k88_u108x k68_u110
                refine ok_rd (by omega) (gA_175 C_u110.1.1) ?_; intro v113 e_v113 a_v113 b_v113
                have t_v113 : v113 = s 175 (e).toNat := by rw [e_v113]; exact C_u110.1.2.1 175 _ (nw_ar rfl _)
                clear e_v113
                have d_v113 : v106 = v113 := by rw [t_v113, t_v106]
                subst d_v113
                have o_u115 : (u110 160 52) = s 160 52 := C_u110.1.2.1 160 52 rfl
                refine ok_sv (cw_member hn S.2.1 S.1 C_u110 (by omega) (by omega) (by omega)) ?_; intro u115 P_u115
                obtain ⟨C_u115, N_u115, x_u115⟩ := P_u115
                have k50_u115x : u115.2 160 50 = h 160 50 := (N_u115 160 50 (by decide) (by decide)).trans k50_u110x
                have k54_u115x : u115.2 160 54 = h 160 54 := (N_u115 160 54 (by decide) (by decide)).trans k54_u110x
                have k57_u115x : u115.2 160 57 = h 160 57 := (N_u115 160 57 (by decide) (by decide)).trans k57_u110x
                have k68_u115x : h 160 68 + 1 ≤ u115.2 160 68 ∧ u115.2 160 68 ≤ h 160 68 + 10 + 1 := by rw [show u115.2 160 68 = _ from N_u115 160 68 (by decide) (by decide)]; exact k68_u110x
                have k70_u115x : u115.2 160 70 = h 160 70 + 1 := (N_u115 160 70 (by decide) (by decide)).trans k70_u110x
                have k72_u115x : u115.2 160 72 = h 160 72 := (N_u115 160 72 (by decide) (by decide)).trans k72_u110x
                have k78_u115x : h 160 78 ≤ u115.2 160 78 ∧ u115.2 160 78 ≤ h 160 78 + 0 := by rw [show u115.2 160 78 = _ from N_u115 160 78 (by decide) (by decide)]; exact k78_u110x
                have k84_u115x : u115.2 160 84 = h 160 84 := (N_u115 160 84 (by decide) (by decide)).trans k84_u110x
                have k87_u115x : u115.2 160 87 = h 160 87 := (N_u115 160 87 (by decide) (by decide)).trans k87_u110x
                have k88_u115x : h 160 88 ≤ u115.2 160 88 ∧ u115.2 160 88 ≤ h 160 88 + 0 := by rw [show u115.2 160 88 = _ from N_u115 160 88 (by decide) (by decide)]; exact k88_u110x
                have J33 : ∀ i : Nat, (i : Int) < h 160 87 → u115.2 217 i = h 217 i ∧ u115.2 218 i = h 218 i := fun i hi => by rw [show u115.2 217 i = u110 217 i from N_u115 217 i (by decide) (by omega), show u115.2 218 i = u110 218 i from N_u115 218 i (by decide) (by omega)]; exact J31 i hi
                have R34 : ∀ j : Nat, (j : Int) < h 160 57 → u115.2 199 j = h 199 j := fun j hj => (show u115.2 199 j = u110 199 j from N_u115 199 j (by decide) (by omega)).trans (R32 j hj)
                clear k50_u110x k54_u110x k57_u110x k68_u110x k70_u110x k72_u110x k78_u110x k84_u110x k87_u110x k88_u110x
                refine ok_sv (cw_put hn C_u115 (by omega) (by omega)) ?_; intro u117 P_u117
                obtain ⟨C_u117, k68_u117, N_u117⟩ := P_u117
                have k50_u117x : u117 160 50 = h 160 50 := (N_u117 160 50 (by decide) (by decide)).trans k50_u115x
                have k54_u117x : u117 160 54 = h 160 54 := (N_u117 160 54 (by decide) (by decide)).trans k54_u115x
                have k57_u117x : u117 160 57 = h 160 57 := (N_u117 160 57 (by decide) (by decide)).trans k57_u115x
                have k68_u117x : h 160 68 + 1 + 1 ≤ u117 160 68 ∧ u117 160 68 ≤ h 160 68 + 10 + 1 + 1 := by omega
                have k70_u117x : u117 160 70 = h 160 70 + 1 := (N_u117 160 70 (by decide) (by decide)).trans k70_u115x
                have k72_u117x : u117 160 72 = h 160 72 := (N_u117 160 72 (by decide) (by decide)).trans k72_u115x
                have k78_u117x : h 160 78 ≤ u117 160 78 ∧ u117 160 78 ≤ h 160 78 + 0 := by rw [show u117 160 78 = _ from N_u117 160 78 (by decide) (by decide)]; exact k78_u115x
                have k84_u117x : u117 160 84 = h 160 84 := (N_u117 160 84 (by decide) (by decide)).trans k84_u115x
                have k87_u117x : u117 160 87 = h 160 87 := (N_u117 160 87 (by decide) (by decide)).trans k87_u115x
                have k88_u117x : h 160 88 ≤ u117 160 88 ∧ u117 160 88 ≤ h 160 88 + 0 := by rw [show u117 160 88 = _ from N_u117 160 88 (by decide) (by decide)]; exact k88_u115x
                have J35 : ∀ i : Nat, (i : Int) < h 160 87 → u117 217 i = h 217 i ∧ u117 218 i = h 218 i := fun i hi => by rw [show u117 217 i = u115.2 217 i from N_u117 217 i (by decide) (by omega), show u117 218 i = u115.2 218 i from N_u117 218 i (by decide) (by omega)]; exact J33 i hi
                have R36 : ∀ j : Nat, (j : Int) < h 160 57 → u117 199 j = h 199 j := fun j hj => (show u117 199 j = u115.2 199 j from N_u117 199 j (by decide) (by omega)).trans (R34 j hj)
                clear k50_u115x k54_u115x k57_u115x k68_u115x k70_u115x k72_u115x k78_u115x k84_u115x k87_u115x k88_u115x k68_u117
                refine ok_sv (cw_turn C_u117 (by omega) (by omega) (by omega)) ?_; intro u119 P_u119
                obtain ⟨C_u119, p70_u119, p68_u119, p78_u119, p88_u119, ⟨p50_u119, p54_u119, p57_u119, p72_u119, p84_u119, p87_u119⟩, J_u119, R_u119⟩ := P_u119
                have J37 : ∀ i : Nat, (i : Int) < h 160 87 → u119 217 i = h 217 i ∧ u119 218 i = h 218 i := fun i hi => by rw [(J_u119 i (by omega)).1, (J_u119 i (by omega)).2]; exact J35 i hi
                have R38 : ∀ j : Nat, (j : Int) < h 160 57 → u119 199 j = h 199 j := fun j hj => (R_u119 j (by omega)).trans (R36 j hj)
                have k50_u119x : u119 160 50 = h 160 50 := (p50_u119).trans k50_u117x
                have k54_u119x : u119 160 54 = h 160 54 := (p54_u119).trans k54_u117x
                have k57_u119x : u119 160 57 = h 160 57 := (p57_u119).trans k57_u117x
                have k68_u119x : h 160 68 + 1 + 1 ≤ u119 160 68 ∧ u119 160 68 ≤ h 160 68 + 10 + 1 + 1 + 0 := by omega
                have k70_u119x : u119 160 70 = h 160 70 + 1 - 1 + tv v59 := by omega
                have k72_u119x : u119 160 72 = h 160 72 := (p72_u119).trans k72_u117x
                have k78_u119x : h 160 78 ≤ u119 160 78 ∧ u119 160 78 ≤ h 160 78 + 0 + 0 := by omega
                have k84_u119x : u119 160 84 = h 160 84 := (p84_u119).trans k84_u117x
                have k87_u119x : u119 160 87 = h 160 87 := (p87_u119).trans k87_u117x
                have k88_u119x : h 160 88 ≤ u119 160 88 ∧ u119 160 88 ≤ h 160 88 + 0 + 0 := by omega
                clear k50_u117x k54_u117x k57_u117x k68_u117x k70_u117x k72_u117x k78_u117x k84_u117x k87_u117x k88_u117x p70_u119 p68_u119 p78_u119 p88_u119 p50_u119 p54_u119 p57_u119 p72_u119 p84_u119 p87_u119 J_u119 R_u119
                exact ok_ret ⟨cw_le C_u119 (by omega), by omega, by omega, by omega, by omega, by omega, J37, R38⟩
              · skip
                refine ok_if (fun C39 => ?_) (fun C39 => ?_)
                · skip
                  unfold qj_X13_workOne_184
                  refine ok_sv (cw_put hn C0 (by omega) (by omega)) ?_; intro u41 P_u41
                  obtain ⟨C_u41, k68_u41, N_u41⟩ := P_u41
                  have k50_u41x : u41 160 50 = h 160 50 := (N_u41 160 50 (by decide) (by decide)).trans k50_h
                  have k54_u41x : u41 160 54 = h 160 54 := (N_u41 160 54 (by decide) (by decide)).trans k54_h
                  have k57_u41x : u41 160 57 = h 160 57 := (N_u41 160 57 (by decide) (by decide)).trans k57_h
                  have k68_u41x : u41 160 68 = h 160 68 + 1 := by omega
                  have k70_u41x : u41 160 70 = h 160 70 := (N_u41 160 70 (by decide) (by decide)).trans k70_h
                  have k72_u41x : u41 160 72 = h 160 72 := (N_u41 160 72 (by decide) (by decide)).trans k72_h
                  have k78_u41x : u41 160 78 = h 160 78 := (N_u41 160 78 (by decide) (by decide)).trans k78_h
                  have k84_u41x : u41 160 84 = h 160 84 := (N_u41 160 84 (by decide) (by decide)).trans k84_h
                  have k87_u41x : u41 160 87 = h 160 87 := (N_u41 160 87 (by decide) (by decide)).trans k87_h
                  have k88_u41x : u41 160 88 = h 160 88 := (N_u41 160 88 (by decide) (by decide)).trans k88_h
                  have J40 : ∀ i : Nat, (i : Int) < h 160 87 → u41 217 i = h 217 i ∧ u41 218 i = h 218 i := fun i hi => by rw [show u41 217 i = h 217 i from N_u41 217 i (by decide) (by omega), show u41 218 i = h 218 i from N_u41 218 i (by decide) (by omega)]; exact J0 i hi
                  have R41 : ∀ j : Nat, (j : Int) < h 160 57 → u41 199 j = h 199 j := fun j hj => (show u41 199 j = h 199 j from N_u41 199 j (by decide) (by omega)).trans (R0 j hj)
                  clear k50_h k54_h k57_h k68_h k70_h k72_h k78_h k84_h k87_h k88_h k68_u41
                  refine ok_rd (by omega) (gA_176 C_u41.1.1) ?_; intro v43 e_v43 a_v43 b_v43
                  have t_v43 : v43 = s 176 (e).toNat := by rw [e_v43]; exact C_u41.1.2.1 176 _ (nw_ar rfl _)
                  clear e_v43
                  refine ok_sv (cw_put hn C_u41 (by omega) (by omega)) ?_; intro u45 P_u45
                  obtain ⟨C_u45, k68_u45, N_u45⟩ := P_u45
                  have k50_u45x : u45 160 50 = h 160 50 := (N_u45 160 50 (by decide) (by decide)).trans k50_u41x
                  have k54_u45x : u45 160 54 = h 160 54 := (N_u45 160 54 (by decide) (by decide)).trans k54_u41x
                  have k57_u45x : u45 160 57 = h 160 57 := (N_u45 160 57 (by decide) (by decide)).trans k57_u41x
                  have k68_u45x : u45 160 68 = h 160 68 + 1 + 1 := by omega
                  have k70_u45x : u45 160 70 = h 160 70 := (N_u45 160 70 (by decide) (by decide)).trans k70_u41x
                  have k72_u45x : u45 160 72 = h 160 72 := (N_u45 160 72 (by decide) (by decide)).trans k72_u41x
                  have k78_u45x : u45 160 78 = h 160 78 := (N_u45 160 78 (by decide) (by decide)).trans k78_u41x
                  have k84_u45x : u45 160 84 = h 160 84 := (N_u45 160 84 (by decide) (by decide)).trans k84_u41x
                  have k87_u45x : u45 160 87 = h 160 87 := (N_u45 160 87 (by decide) (by decide)).trans k87_u41x
                  have k88_u45x : u45 160 88 = h 160 88 := (N_u45 160 88 (by decide) (by decide)).trans k88_u41x
                  have J42 : ∀ i : Nat, (i : Int) < h 160 87 → u45 217 i = h 217 i ∧ u45 218 i = h 218 i := fun i hi => by rw [show u45 217 i = u41 217 i from N_u45 217 i (by decide) (by omega), show u45 218 i = u41 218 i from N_u45 218 i (by decide) (by omega)]; exact J40 i hi
                  have R43 : ∀ j : Nat, (j : Int) < h 160 57 → u45 199 j = h 199 j := fun j hj => (show u45 199 j = u41 199 j from N_u45 199 j (by decide) (by omega)).trans (R41 j hj)
                  clear k50_u41x k54_u41x k57_u41x k68_u41x k70_u41x k72_u41x k78_u41x k84_u41x k87_u41x k88_u41x k68_u45
                  refine ok_sv (cw_push C_u45 (by omega) (by omega)) ?_; intro u47 P_u47
                  obtain ⟨C_u47, k70_u47, N_u47⟩ := P_u47
                  have k50_u47x : u47 160 50 = h 160 50 := (N_u47 160 50 (by decide) (by decide)).trans k50_u45x
                  have k54_u47x : u47 160 54 = h 160 54 := (N_u47 160 54 (by decide) (by decide)).trans k54_u45x
                  have k57_u47x : u47 160 57 = h 160 57 := (N_u47 160 57 (by decide) (by decide)).trans k57_u45x
                  have k68_u47x : u47 160 68 = h 160 68 + 1 + 1 := (N_u47 160 68 (by decide) (by decide)).trans k68_u45x
                  have k70_u47x : u47 160 70 = h 160 70 + 1 := by omega
                  have k72_u47x : u47 160 72 = h 160 72 := (N_u47 160 72 (by decide) (by decide)).trans k72_u45x
                  have k78_u47x : u47 160 78 = h 160 78 := (N_u47 160 78 (by decide) (by decide)).trans k78_u45x
                  have k84_u47x : u47 160 84 = h 160 84 := (N_u47 160 84 (by decide) (by decide)).trans k84_u45x
                  have k87_u47x : u47 160 87 = h 160 87 := (N_u47 160 87 (by decide) (by decide)).trans k87_u45x
                  have k88_u47x : u47 160 88 = h 160 88 := (N_u47 160 88 (by decide) (by decide)).trans k88_u45x
                  have J44 : ∀ i : Nat, (i : Int) < h 160 87 → u47 217 i = h 217 i ∧ u47 218 i = h 218 i := fun i hi => by rw [show u47 217 i = u45 217 i from N_u47 217 i (by decide) (by omega), show u47 218 i = u45 218 i from N_u47 218 i (by decide) (by omega)]; exact J42 i hi
                  have R45 : ∀ j : Nat, (j : Int) < h 160 57 → u47 199 j = h 199 j := fun j hj => (show u47 199 j = u45 199 j from N_u47 199 j (by decide) (by omega)).trans (R43 j hj)
                  clear k50_u45x k54_u45x k57_u45x k68_u45x k70_u45x k72_u45x k78_u45x k84_u45x k87_u45x k88_u45x k70_u47
                  exact ok_ret ⟨cw_le C_u47 (by omega), by omega, by omega, by omega, by omega, by omega, J44, R45⟩
                · skip
                  unfold qj_X13_workOne_184
                  refine ok_sv (cw_put hn C0 (by omega) (by omega)) ?_; intro u41 P_u41
                  obtain ⟨C_u41, k68_u41, N_u41⟩ := P_u41
                  have k50_u41x : u41 160 50 = h 160 50 := (N_u41 160 50 (by decide) (by decide)).trans k50_h
                  have k54_u41x : u41 160 54 = h 160 54 := (N_u41 160 54 (by decide) (by decide)).trans k54_h
                  have k57_u41x : u41 160 57 = h 160 57 := (N_u41 160 57 (by decide) (by decide)).trans k57_h
                  have k68_u41x : u41 160 68 = h 160 68 + 1 := by omega
                  have k70_u41x : u41 160 70 = h 160 70 := (N_u41 160 70 (by decide) (by decide)).trans k70_h
                  have k72_u41x : u41 160 72 = h 160 72 := (N_u41 160 72 (by decide) (by decide)).trans k72_h
                  have k78_u41x : u41 160 78 = h 160 78 := (N_u41 160 78 (by decide) (by decide)).trans k78_h
                  have k84_u41x : u41 160 84 = h 160 84 := (N_u41 160 84 (by decide) (by decide)).trans k84_h
                  have k87_u41x : u41 160 87 = h 160 87 := (N_u41 160 87 (by decide) (by decide)).trans k87_h
                  have k88_u41x : u41 160 88 = h 160 88 := (N_u41 160 88 (by decide) (by decide)).trans k88_h
                  have J46 : ∀ i : Nat, (i : Int) < h 160 87 → u41 217 i = h 217 i ∧ u41 218 i = h 218 i := fun i hi => by rw [show u41 217 i = h 217 i from N_u41 217 i (by decide) (by omega), show u41 218 i = h 218 i from N_u41 218 i (by decide) (by omega)]; exact J0 i hi
                  have R47 : ∀ j : Nat, (j : Int) < h 160 57 → u41 199 j = h 199 j := fun j hj => (show u41 199 j = h 199 j from N_u41 199 j (by decide) (by omega)).trans (R0 j hj)
                  clear k50_h k54_h k57_h k68_h k70_h k72_h k78_h k84_h k87_h k88_h k68_u41
                  refine ok_rd (by omega) (gA_176 C_u41.1.1) ?_; intro v43 e_v43 a_v43 b_v43
                  have t_v43 : v43 = s 176 (e).toNat := by rw [e_v43]; exact C_u41.1.2.1 176 _ (nw_ar rfl _)
                  clear e_v43
                  refine ok_sv (cw_put hn C_u41 (by omega) (by omega)) ?_; intro u45 P_u45
                  obtain ⟨C_u45, k68_u45, N_u45⟩ := P_u45
                  have k50_u45x : u45 160 50 = h 160 50 := (N_u45 160 50 (by decide) (by decide)).trans k50_u41x
                  have k54_u45x : u45 160 54 = h 160 54 := (N_u45 160 54 (by decide) (by decide)).trans k54_u41x
                  have k57_u45x : u45 160 57 = h 160 57 := (N_u45 160 57 (by decide) (by decide)).trans k57_u41x
                  have k68_u45x : u45 160 68 = h 160 68 + 1 + 1 := by omega
                  have k70_u45x : u45 160 70 = h 160 70 := (N_u45 160 70 (by decide) (by decide)).trans k70_u41x
                  have k72_u45x : u45 160 72 = h 160 72 := (N_u45 160 72 (by decide) (by decide)).trans k72_u41x
                  have k78_u45x : u45 160 78 = h 160 78 := (N_u45 160 78 (by decide) (by decide)).trans k78_u41x
                  have k84_u45x : u45 160 84 = h 160 84 := (N_u45 160 84 (by decide) (by decide)).trans k84_u41x
                  have k87_u45x : u45 160 87 = h 160 87 := (N_u45 160 87 (by decide) (by decide)).trans k87_u41x
                  have k88_u45x : u45 160 88 = h 160 88 := (N_u45 160 88 (by decide) (by decide)).trans k88_u41x
                  have J48 : ∀ i : Nat, (i : Int) < h 160 87 → u45 217 i = h 217 i ∧ u45 218 i = h 218 i := fun i hi => by rw [show u45 217 i = u41 217 i from N_u45 217 i (by decide) (by omega), show u45 218 i = u41 218 i from N_u45 218 i (by decide) (by omega)]; exact J46 i hi
                  have R49 : ∀ j : Nat, (j : Int) < h 160 57 → u45 199 j = h 199 j := fun j hj => (show u45 199 j = u41 199 j from N_u45 199 j (by decide) (by omega)).trans (R47 j hj)
                  clear k50_u41x k54_u41x k57_u41x k68_u41x k70_u41x k72_u41x k78_u41x k84_u41x k87_u41x k88_u41x k68_u45
                  refine ok_sv (cw_push C_u45 (by omega) (by omega)) ?_; intro u47 P_u47
                  obtain ⟨C_u47, k70_u47, N_u47⟩ := P_u47
                  have k50_u47x : u47 160 50 = h 160 50 := (N_u47 160 50 (by decide) (by decide)).trans k50_u45x
                  have k54_u47x : u47 160 54 = h 160 54 := (N_u47 160 54 (by decide) (by decide)).trans k54_u45x
                  have k57_u47x : u47 160 57 = h 160 57 := (N_u47 160 57 (by decide) (by decide)).trans k57_u45x
                  have k68_u47x : u47 160 68 = h 160 68 + 1 + 1 := (N_u47 160 68 (by decide) (by decide)).trans k68_u45x
                  have k70_u47x : u47 160 70 = h 160 70 + 1 := by omega
                  have k72_u47x : u47 160 72 = h 160 72 := (N_u47 160 72 (by decide) (by decide)).trans k72_u45x
                  have k78_u47x : u47 160 78 = h 160 78 := (N_u47 160 78 (by decide) (by decide)).trans k78_u45x
                  have k84_u47x : u47 160 84 = h 160 84 := (N_u47 160 84 (by decide) (by decide)).trans k84_u45x
                  have k87_u47x : u47 160 87 = h 160 87 := (N_u47 160 87 (by decide) (by decide)).trans k87_u45x
                  have k88_u47x : u47 160 88 = h 160 88 := (N_u47 160 88 (by decide) (by decide)).trans k88_u45x
                  have J50 : ∀ i : Nat, (i : Int) < h 160 87 → u47 217 i = h 217 i ∧ u47 218 i = h 218 i := fun i hi => by rw [show u47 217 i = u45 217 i from N_u47 217 i (by decide) (by omega), show u47 218 i = u45 218 i from N_u47 218 i (by decide) (by omega)]; exact J48 i hi
                  have R51 : ∀ j : Nat, (j : Int) < h 160 57 → u47 199 j = h 199 j := fun j hj => (show u47 199 j = u45 199 j from N_u47 199 j (by decide) (by omega)).trans (R49 j hj)
                  clear k50_u45x k54_u45x k57_u45x k68_u45x k70_u45x k72_u45x k78_u45x k84_u45x k87_u45x k88_u45x k70_u47
                  exact ok_ret ⟨cw_le C_u47 (by omega), by omega, by omega, by omega, by omega, by omega, J50, R51⟩
            · skip
              refine ok_if (fun C52 => ?_) (fun C52 => ?_)
              · skip
                have hk : s 167 e.toNat = 26 := by omega
                rw [hk, show wt 26 = 1 by decide] at cm3
                obtain ⟨hx1, hx2⟩ : a = x ∧ q = 0 := by rcases hx with z | z; exact absurd z.2.2 (by unfold led; omega); exact ⟨z.1.symm, z.2.1⟩
                subst hx1 hx2
                clear hx
                have hE : dv s e = tv v59 := by rw [t_v59]; rfl
                clear gv0
                refine ok_rd (by omega) (gA_175 C0.1.1) ?_; intro v124 e_v124 a_v124 b_v124
                have t_v124 : v124 = s 175 (e).toNat := by rw [e_v124]; exact C0.1.2.1 175 _ (nw_ar rfl _)
                clear e_v124
                have l_v124 := (S.2.2.2 (e).toNat (by omega)).2.1 (by omega); rw [← t_v124] at l_v124
                have m_v124 := (S.2.2.2 (e).toNat (by omega)).2.2.1 (by omega); rw [← t_v124] at m_v124
                refine ok_rd (by omega) (gA_182 C0.1.1) ?_; intro v125 e_v125 a_v125 b_v125
                have t_v125 : v125 = s 182 (v124).toNat := by rw [e_v125]; exact C0.1.2.1 182 _ (nw_ar rfl _)
                clear e_v125
                refine ok_if (fun C53 => ?_) (fun C53 => ?_)
                · skip
                  unfold qj_X13_workOne_259
                  rw [if_neg (by decide)]
                  have o_u38 : h 160 52 = s 160 52 := C0.1.2.1 160 52 rfl
                  refine ok_sv (cw_self hn S C0 (by omega) (by omega)) ?_; intro u38 P_u38
                  obtain ⟨C_u38, p70_u38, p68_u38, p78_u38, p88_u38, ⟨p50_u38, p54_u38, p57_u38, p72_u38, p84_u38, p87_u38⟩, J_u38, R_u38⟩ := P_u38
                  have J54 : ∀ i : Nat, (i : Int) < h 160 87 → u38 217 i = h 217 i ∧ u38 218 i = h 218 i := fun i hi => by rw [(J_u38 i (by omega)).1, (J_u38 i (by omega)).2]; exact J0 i hi
                  have R55 : ∀ j : Nat, (j : Int) < h 160 57 → u38 199 j = h 199 j := fun j hj => (R_u38 j (by omega)).trans (R0 j hj)
                  have k50_u38x : u38 160 50 = h 160 50 := (p50_u38).trans k50_h
                  have k54_u38x : u38 160 54 = h 160 54 := (p54_u38).trans k54_h
                  have k57_u38x : u38 160 57 = h 160 57 := (p57_u38).trans k57_h
                  have k68_u38x : h 160 68 ≤ u38 160 68 ∧ u38 160 68 ≤ h 160 68 + 10 := by omega
                  have k70_u38x : u38 160 70 = h 160 70 + 1 := by omega
                  have k72_u38x : u38 160 72 = h 160 72 := (p72_u38).trans k72_h
                  have k78_u38x : h 160 78 ≤ u38 160 78 ∧ u38 160 78 ≤ h 160 78 + 0 := by omega
                  have k84_u38x : u38 160 84 = h 160 84 := (p84_u38).trans k84_h
                  have k87_u38x : u38 160 87 = h 160 87 := (p87_u38).trans k87_h
                  have k88_u38x : h 160 88 ≤ u38 160 88 ∧ u38 160 88 ≤ h 160 88 + 0 := by omega
                  clear k50_h k54_h k57_h k68_h k70_h k72_h k78_h k84_h k87_h k88_h p70_u38 p68_u38 p78_u38 p88_u38 p50_u38 p54_u38 p57_u38 p72_u38 p84_u38 p87_u38 J_u38 R_u38
                  unfold qj_X13_workOne_268
                  have o_u36 : (u38 160 52) = s 160 52 := C_u38.1.2.1 160 52 rfl
                  refine ok_sv (G.2.2.1 e _ _ _ _ _ _ _ _ _ C_u38 T Y (by omega) (by omega) (by omega) (by omega) (by omega) ⟨⟨by omega, by omega⟩, by omega, by omega, by omega, by omega, by omega, by omega⟩) ?_; intro u36 P_u36
                  obtain ⟨C_u36, p70_u36, p68_u36, p78_u36, p88_u36, ⟨p50_u36, p54_u36, p57_u36, p72_u36, p84_u36, p87_u36⟩, J_u36, R_u36⟩ := P_u36
                  have J56 : ∀ i : Nat, (i : Int) < h 160 87 → u36 217 i = h 217 i ∧ u36 218 i = h 218 i := fun i hi => by rw [(J_u36 i (by omega)).1, (J_u36 i (by omega)).2]; exact J54 i hi
                  have R57 : ∀ j : Nat, (j : Int) < h 160 57 → u36 199 j = h 199 j := fun j hj => (R_u36 j (by omega)).trans (R55 j hj)
                  have k50_u36x : u36 160 50 = h 160 50 := (p50_u36).trans k50_u38x
                  have k54_u36x : u36 160 54 = h 160 54 := (p54_u36).trans k54_u38x
                  have k57_u36x : u36 160 57 = h 160 57 := (p57_u36).trans k57_u38x
                  have k68_u36x : h 160 68 ≤ u36 160 68 ∧ u36 160 68 ≤ h 160 68 + 10 + (20 * (Cm s b - Cm s (e + 1)) + 5) := by omega
                  have k70_u36x : u36 160 70 = h 160 70 + 1 - (1 - 0) + dv s e := by omega
                  have k72_u36x : u36 160 72 = h 160 72 := (p72_u36).trans k72_u38x
                  have k78_u36x : h 160 78 ≤ u36 160 78 ∧ u36 160 78 ≤ h 160 78 + 0 + (2 * (Cm s b - Cm s (e + 1))) := by omega
                  have k84_u36x : u36 160 84 = h 160 84 := (p84_u36).trans k84_u38x
                  have k87_u36x : u36 160 87 = h 160 87 := (p87_u36).trans k87_u38x
                  have k88_u36x : h 160 88 ≤ u36 160 88 ∧ u36 160 88 ≤ h 160 88 + 0 + (2 * (Cm s b - Cm s (e + 1))) := by omega
                  clear k50_u38x k54_u38x k57_u38x k68_u38x k70_u38x k72_u38x k78_u38x k84_u38x k87_u38x k88_u38x p70_u36 p68_u36 p78_u36 p88_u36 p50_u36 p54_u36 p57_u36 p72_u36 p84_u36 p87_u36 J_u36 R_u36
                  exact ok_ret ⟨cw_le C_u36 (by omega), by omega, by omega, by omega, by omega, by omega, J56, R57⟩
                · skip
                  unfold qj_X13_workOne_259
                  rw [if_pos (by decide)]
                  unfold qj_X13_workOne_268
                  have o_u36 : (h 160 52) = s 160 52 := C0.1.2.1 160 52 rfl
                  refine ok_sv (G.2.2.1 e _ _ _ _ _ _ _ _ _ C0 T Y (by omega) (by omega) (by omega) (by omega) (by omega) ⟨⟨by omega, by omega⟩, by omega, by omega, by omega, by omega, by omega, by omega⟩) ?_; intro u36 P_u36
                  obtain ⟨C_u36, p70_u36, p68_u36, p78_u36, p88_u36, ⟨p50_u36, p54_u36, p57_u36, p72_u36, p84_u36, p87_u36⟩, J_u36, R_u36⟩ := P_u36
                  have J58 : ∀ i : Nat, (i : Int) < h 160 87 → u36 217 i = h 217 i ∧ u36 218 i = h 218 i := fun i hi => by rw [(J_u36 i (by omega)).1, (J_u36 i (by omega)).2]; exact J0 i hi
                  have R59 : ∀ j : Nat, (j : Int) < h 160 57 → u36 199 j = h 199 j := fun j hj => (R_u36 j (by omega)).trans (R0 j hj)
                  have k50_u36x : u36 160 50 = h 160 50 := (p50_u36).trans k50_h
                  have k54_u36x : u36 160 54 = h 160 54 := (p54_u36).trans k54_h
                  have k57_u36x : u36 160 57 = h 160 57 := (p57_u36).trans k57_h
                  have k68_u36x : h 160 68 ≤ u36 160 68 ∧ u36 160 68 ≤ h 160 68 + (20 * (Cm s b - Cm s (e + 1)) + 5) := by omega
                  have k70_u36x : u36 160 70 = h 160 70 - (1 - 1) + dv s e := by omega
                  have k72_u36x : u36 160 72 = h 160 72 := (p72_u36).trans k72_h
                  have k78_u36x : h 160 78 ≤ u36 160 78 ∧ u36 160 78 ≤ h 160 78 + (2 * (Cm s b - Cm s (e + 1))) := by omega
                  have k84_u36x : u36 160 84 = h 160 84 := (p84_u36).trans k84_h
                  have k87_u36x : u36 160 87 = h 160 87 := (p87_u36).trans k87_h
                  have k88_u36x : h 160 88 ≤ u36 160 88 ∧ u36 160 88 ≤ h 160 88 + (2 * (Cm s b - Cm s (e + 1))) := by omega
                  clear k50_h k54_h k57_h k68_h k70_h k72_h k78_h k84_h k87_h k88_h p70_u36 p68_u36 p78_u36 p88_u36 p50_u36 p54_u36 p57_u36 p72_u36 p84_u36 p87_u36 J_u36 R_u36
                  exact ok_ret ⟨cw_le C_u36 (by omega), by omega, by omega, by omega, by omega, by omega, J58, R59⟩
              · skip
                refine ok_if (fun C60 => ?_) (fun C60 => ?_)
                · skip
                  have hk : s 167 e.toNat = 27 := by omega
                  rw [hk, show wt 27 = 1 by decide] at cm3
                  obtain ⟨hx1, hx2⟩ : a = x ∧ q = 0 := by rcases hx with z | z; exact absurd z.2.2 (by unfold led; omega); exact ⟨z.1.symm, z.2.1⟩
                  subst hx1 hx2
                  clear hx
                  have hE : dv s e = tv v59 := by rw [t_v59]; rfl
                  have hG : ¬ v59 = 3 := by rw [t_v59]; rcases gv0 with z | z | z; exact z; exfalso; omega; exfalso; omega
                  have hD : tv v59 = 1 := if_neg hG
                  clear gv0
                  refine ok_sv (cw_put hn C0 (by omega) (by omega)) ?_; intro u128 P_u128
                  obtain ⟨C_u128, k68_u128, N_u128⟩ := P_u128
                  have k50_u128x : u128 160 50 = h 160 50 := (N_u128 160 50 (by decide) (by decide)).trans k50_h
                  have k54_u128x : u128 160 54 = h 160 54 := (N_u128 160 54 (by decide) (by decide)).trans k54_h
                  have k57_u128x : u128 160 57 = h 160 57 := (N_u128 160 57 (by decide) (by decide)).trans k57_h
                  have k68_u128x : u128 160 68 = h 160 68 + 1 := by omega
                  have k70_u128x : u128 160 70 = h 160 70 := (N_u128 160 70 (by decide) (by decide)).trans k70_h
                  have k72_u128x : u128 160 72 = h 160 72 := (N_u128 160 72 (by decide) (by decide)).trans k72_h
                  have k78_u128x : u128 160 78 = h 160 78 := (N_u128 160 78 (by decide) (by decide)).trans k78_h
                  have k84_u128x : u128 160 84 = h 160 84 := (N_u128 160 84 (by decide) (by decide)).trans k84_h
                  have k87_u128x : u128 160 87 = h 160 87 := (N_u128 160 87 (by decide) (by decide)).trans k87_h
                  have k88_u128x : u128 160 88 = h 160 88 := (N_u128 160 88 (by decide) (by decide)).trans k88_h
                  have J61 : ∀ i : Nat, (i : Int) < h 160 87 → u128 217 i = h 217 i ∧ u128 218 i = h 218 i := fun i hi => by rw [show u128 217 i = h 217 i from N_u128 217 i (by decide) (by omega), show u128 218 i = h 218 i from N_u128 218 i (by decide) (by omega)]; exact J0 i hi
                  have R62 : ∀ j : Nat, (j : Int) < h 160 57 → u128 199 j = h 199 j := fun j hj => (show u128 199 j = h 199 j from N_u128 199 j (by decide) (by omega)).trans (R0 j hj)
                  clear k50_h k54_h k57_h k68_h k70_h k72_h k78_h k84_h k87_h k88_h k68_u128
                  refine ok_sv (cw_class hn S.2.1 S.1 C_u128 (by omega) (by omega)) ?_; intro u130 P_u130
                  obtain ⟨C_u130, N_u130, x_u130⟩ := P_u130
                  have k50_u130x : u130.2 160 50 = h 160 50 := (N_u130 160 50 (by decide) (by decide)).trans k50_u128x
                  have k54_u130x : u130.2 160 54 = h 160 54 := (N_u130 160 54 (by decide) (by decide)).trans k54_u128x
                  have k57_u130x : u130.2 160 57 = h 160 57 := (N_u130 160 57 (by decide) (by decide)).trans k57_u128x
                  have k68_u130x : u130.2 160 68 = h 160 68 + 1 := (N_u130 160 68 (by decide) (by decide)).trans k68_u128x
                  have k70_u130x : u130.2 160 70 = h 160 70 := (N_u130 160 70 (by decide) (by decide)).trans k70_u128x
                  have k72_u130x : u130.2 160 72 = h 160 72 := (N_u130 160 72 (by decide) (by decide)).trans k72_u128x
                  have k78_u130x : u130.2 160 78 = h 160 78 := (N_u130 160 78 (by decide) (by decide)).trans k78_u128x
                  have k84_u130x : u130.2 160 84 = h 160 84 := (N_u130 160 84 (by decide) (by decide)).trans k84_u128x
                  have k87_u130x : u130.2 160 87 = h 160 87 := (N_u130 160 87 (by decide) (by decide)).trans k87_u128x
                  have k88_u130x : u130.2 160 88 = h 160 88 := (N_u130 160 88 (by decide) (by decide)).trans k88_u128x
                  have J63 : ∀ i : Nat, (i : Int) < h 160 87 → u130.2 217 i = h 217 i ∧ u130.2 218 i = h 218 i := fun i hi => by rw [show u130.2 217 i = u128 217 i from N_u130 217 i (by decide) (by omega), show u130.2 218 i = u128 218 i from N_u130 218 i (by decide) (by omega)]; exact J61 i hi
                  have R64 : ∀ j : Nat, (j : Int) < h 160 57 → u130.2 199 j = h 199 j := fun j hj => (show u130.2 199 j = u128 199 j from N_u130 199 j (by decide) (by omega)).trans (R62 j hj)
                  clear k50_u128x k54_u128x k57_u128x k68_u128x k70_u128x k72_u128x k78_u128x k84_u128x k87_u128x k88_u128x
                  refine ok_sv (cw_put hn C_u130 (by omega) (by omega)) ?_; intro u132 P_u132
                  obtain ⟨C_u132, k68_u132, N_u132⟩ := P_u132
                  have k50_u132x : u132 160 50 = h 160 50 := (N_u132 160 50 (by decide) (by decide)).trans k50_u130x
                  have k54_u132x : u132 160 54 = h 160 54 := (N_u132 160 54 (by decide) (by decide)).trans k54_u130x
                  have k57_u132x : u132 160 57 = h 160 57 := (N_u132 160 57 (by decide) (by decide)).trans k57_u130x
                  have k68_u132x : u132 160 68 = h 160 68 + 1 + 1 := by omega
                  have k70_u132x : u132 160 70 = h 160 70 := (N_u132 160 70 (by decide) (by decide)).trans k70_u130x
                  have k72_u132x : u132 160 72 = h 160 72 := (N_u132 160 72 (by decide) (by decide)).trans k72_u130x
                  have k78_u132x : u132 160 78 = h 160 78 := (N_u132 160 78 (by decide) (by decide)).trans k78_u130x
                  have k84_u132x : u132 160 84 = h 160 84 := (N_u132 160 84 (by decide) (by decide)).trans k84_u130x
                  have k87_u132x : u132 160 87 = h 160 87 := (N_u132 160 87 (by decide) (by decide)).trans k87_u130x
                  have k88_u132x : u132 160 88 = h 160 88 := (N_u132 160 88 (by decide) (by decide)).trans k88_u130x
                  have J65 : ∀ i : Nat, (i : Int) < h 160 87 → u132 217 i = h 217 i ∧ u132 218 i = h 218 i := fun i hi => by rw [show u132 217 i = u130.2 217 i from N_u132 217 i (by decide) (by omega), show u132 218 i = u130.2 218 i from N_u132 218 i (by decide) (by omega)]; exact J63 i hi
                  have R66 : ∀ j : Nat, (j : Int) < h 160 57 → u132 199 j = h 199 j := fun j hj => (show u132 199 j = u130.2 199 j from N_u132 199 j (by decide) (by omega)).trans (R64 j hj)
                  clear k50_u130x k54_u130x k57_u130x k68_u130x k70_u130x k72_u130x k78_u130x k84_u130x k87_u130x k88_u130x k68_u132
                  refine ok_sv (cw_push C_u132 (by omega) (by omega)) ?_; intro u134 P_u134
                  obtain ⟨C_u134, k70_u134, N_u134⟩ := P_u134
                  have k50_u134x : u134 160 50 = h 160 50 := (N_u134 160 50 (by decide) (by decide)).trans k50_u132x
                  have k54_u134x : u134 160 54 = h 160 54 := (N_u134 160 54 (by decide) (by decide)).trans k54_u132x
                  have k57_u134x : u134 160 57 = h 160 57 := (N_u134 160 57 (by decide) (by decide)).trans k57_u132x
                  have k68_u134x : u134 160 68 = h 160 68 + 1 + 1 := (N_u134 160 68 (by decide) (by decide)).trans k68_u132x
                  have k70_u134x : u134 160 70 = h 160 70 + 1 := by omega
                  have k72_u134x : u134 160 72 = h 160 72 := (N_u134 160 72 (by decide) (by decide)).trans k72_u132x
                  have k78_u134x : u134 160 78 = h 160 78 := (N_u134 160 78 (by decide) (by decide)).trans k78_u132x
                  have k84_u134x : u134 160 84 = h 160 84 := (N_u134 160 84 (by decide) (by decide)).trans k84_u132x
                  have k87_u134x : u134 160 87 = h 160 87 := (N_u134 160 87 (by decide) (by decide)).trans k87_u132x
                  have k88_u134x : u134 160 88 = h 160 88 := (N_u134 160 88 (by decide) (by decide)).trans k88_u132x
                  have J67 : ∀ i : Nat, (i : Int) < h 160 87 → u134 217 i = h 217 i ∧ u134 218 i = h 218 i := fun i hi => by rw [show u134 217 i = u132 217 i from N_u134 217 i (by decide) (by omega), show u134 218 i = u132 218 i from N_u134 218 i (by decide) (by omega)]; exact J65 i hi
                  have R68 : ∀ j : Nat, (j : Int) < h 160 57 → u134 199 j = h 199 j := fun j hj => (show u134 199 j = u132 199 j from N_u134 199 j (by decide) (by omega)).trans (R66 j hj)
                  clear k50_u132x k54_u132x k57_u132x k68_u132x k70_u132x k72_u132x k78_u132x k84_u132x k87_u132x k88_u132x k70_u134
                  exact ok_ret ⟨cw_le C_u134 (by omega), by omega, by omega, by omega, by omega, by omega, J67, R68⟩
                · skip
                  refine ok_if (fun C69 => ?_) (fun C69 => ?_)
                  · skip
                    have hk : s 167 e.toNat = 28 := by omega
                    rw [hk, show wt 28 = 1 by decide] at cm3
                    obtain ⟨hx1, hx2⟩ : a = x ∧ q = 0 := by rcases hx with z | z; exact absurd z.2.2 (by unfold led; omega); exact ⟨z.1.symm, z.2.1⟩
                    subst hx1 hx2
                    clear hx
                    have hE : dv s e = tv v59 := by rw [t_v59]; rfl
                    have hG : ¬ v59 = 3 := by rw [t_v59]; rcases gv0 with z | z | z; exact z; exfalso; omega; exfalso; omega
                    have hD : tv v59 = 1 := if_neg hG
                    clear gv0
                    refine ok_rd (by omega) (gA_170 C0.1.1) ?_; intro v136 e_v136 a_v136 b_v136
                    have t_v136 : v136 = s 170 (e).toNat := by rw [e_v136]; exact C0.1.2.1 170 _ (nw_ar rfl _)
                    clear e_v136
                    have T_u138 : TE 0 s 0 (d - 2 - 0) (e + 1) b v136 := by rw [t_v136]; exact (te_k28 T (by omega)).2
                    have Y_u138 := yo_28 Y (by omega); rw [← t_v136] at Y_u138
                    have g_u138 := te_rg T_u138
                    have D_u138 : dv s v136 = 1 := if_neg Y_u138.1
                    have m_u138 := cm_mono (s := s) (a := (e + 1)) (b := b) (by omega) (by omega)
                    refine ok_sv (G.1 v136 _ _ _ _ _ _ _ C0 T_u138 Y_u138.2 (.inl Y_u138.1) (by omega) (by omega) ⟨⟨by omega, by omega⟩, by omega, by omega, by omega, by omega, by omega, by omega⟩) ?_; intro u138 P_u138
                    rw [D_u138] at P_u138
                    obtain ⟨C_u138, p70_u138, p68_u138, p78_u138, p88_u138, ⟨p50_u138, p54_u138, p57_u138, p72_u138, p84_u138, p87_u138⟩, J_u138, R_u138⟩ := P_u138
                    have J70 : ∀ i : Nat, (i : Int) < h 160 87 → u138 217 i = h 217 i ∧ u138 218 i = h 218 i := fun i hi => by rw [(J_u138 i (by omega)).1, (J_u138 i (by omega)).2]; exact J0 i hi
                    have R71 : ∀ j : Nat, (j : Int) < h 160 57 → u138 199 j = h 199 j := fun j hj => (R_u138 j (by omega)).trans (R0 j hj)
                    have k50_u138x : u138 160 50 = h 160 50 := (p50_u138).trans k50_h
                    have k54_u138x : u138 160 54 = h 160 54 := (p54_u138).trans k54_h
                    have k57_u138x : u138 160 57 = h 160 57 := (p57_u138).trans k57_h
                    have k68_u138x : h 160 68 ≤ u138 160 68 ∧ u138 160 68 ≤ h 160 68 + 20 * (Cm s b - Cm s (e + 1)) := by omega
                    have k70_u138x : u138 160 70 = h 160 70 + 1 := by omega
                    have k72_u138x : u138 160 72 = h 160 72 := (p72_u138).trans k72_h
                    have k78_u138x : h 160 78 ≤ u138 160 78 ∧ u138 160 78 ≤ h 160 78 + 2 * (Cm s b - Cm s (e + 1)) := by omega
                    have k84_u138x : u138 160 84 = h 160 84 := (p84_u138).trans k84_h
                    have k87_u138x : u138 160 87 = h 160 87 := (p87_u138).trans k87_h
                    have k88_u138x : h 160 88 ≤ u138 160 88 ∧ u138 160 88 ≤ h 160 88 + 2 * (Cm s b - Cm s (e + 1)) := by omega
                    clear k50_h k54_h k57_h k68_h k70_h k72_h k78_h k84_h k87_h k88_h p70_u138 p68_u138 p78_u138 p88_u138 p50_u138 p54_u138 p57_u138 p72_u138 p84_u138 p87_u138 J_u138 R_u138
                    clear T_u138 Y_u138 D_u138
                    refine ok_sv (cw_put hn C_u138 (by omega) (by omega)) ?_; intro u140 P_u140
                    obtain ⟨C_u140, k68_u140, N_u140⟩ := P_u140
                    have k50_u140x : u140 160 50 = h 160 50 := (N_u140 160 50 (by decide) (by decide)).trans k50_u138x
                    have k54_u140x : u140 160 54 = h 160 54 := (N_u140 160 54 (by decide) (by decide)).trans k54_u138x
                    have k57_u140x : u140 160 57 = h 160 57 := (N_u140 160 57 (by decide) (by decide)).trans k57_u138x
                    have k68_u140x : h 160 68 + 1 ≤ u140 160 68 ∧ u140 160 68 ≤ h 160 68 + 20 * (Cm s b - Cm s (e + 1)) + 1 := by omega
                    have k70_u140x : u140 160 70 = h 160 70 + 1 := (N_u140 160 70 (by decide) (by decide)).trans k70_u138x
                    have k72_u140x : u140 160 72 = h 160 72 := (N_u140 160 72 (by decide) (by decide)).trans k72_u138x
                    have k78_u140x : h 160 78 ≤ u140 160 78 ∧ u140 160 78 ≤ h 160 78 + 2 * (Cm s b - Cm s (e + 1)) := by rw [show u140 160 78 = _ from N_u140 160 78 (by decide) (by decide)]; exact k78_u138x
                    have k84_u140x : u140 160 84 = h 160 84 := (N_u140 160 84 (by decide) (by decide)).trans k84_u138x
                    have k87_u140x : u140 160 87 = h 160 87 := (N_u140 160 87 (by decide) (by decide)).trans k87_u138x
                    have k88_u140x : h 160 88 ≤ u140 160 88 ∧ u140 160 88 ≤ h 160 88 + 2 * (Cm s b - Cm s (e + 1)) := by rw [show u140 160 88 = _ from N_u140 160 88 (by decide) (by decide)]; exact k88_u138x
                    have J72 : ∀ i : Nat, (i : Int) < h 160 87 → u140 217 i = h 217 i ∧ u140 218 i = h 218 i := fun i hi => by rw [show u140 217 i = u138 217 i from N_u140 217 i (by decide) (by omega), show u140 218 i = u138 218 i from N_u140 218 i (by decide) (by omega)]; exact J70 i hi
                    have R73 : ∀ j : Nat, (j : Int) < h 160 57 → u140 199 j = h 199 j := fun j hj => (show u140 199 j = u138 199 j from N_u140 199 j (by decide) (by omega)).trans (R71 j hj)
                    clear k50_u138x k54_u138x k57_u138x k68_u138x k70_u138x k72_u138x k78_u138x k84_u138x k87_u138x k88_u138x k68_u140
                    refine ok_sv (cw_put hn C_u140 (by omega) (by omega)) ?_; intro u142 P_u142
                    obtain ⟨C_u142, k68_u142, N_u142⟩ := P_u142
                    have k50_u142x : u142 160 50 = h 160 50 := (N_u142 160 50 (by decide) (by decide)).trans k50_u140x
                    have k54_u142x : u142 160 54 = h 160 54 := (N_u142 160 54 (by decide) (by decide)).trans k54_u140x
                    have k57_u142x : u142 160 57 = h 160 57 := (N_u142 160 57 (by decide) (by decide)).trans k57_u140x
                    have k68_u142x : h 160 68 + 1 + 1 ≤ u142 160 68 ∧ u142 160 68 ≤ h 160 68 + 20 * (Cm s b - Cm s (e + 1)) + 1 + 1 := by omega
                    have k70_u142x : u142 160 70 = h 160 70 + 1 := (N_u142 160 70 (by decide) (by decide)).trans k70_u140x
                    have k72_u142x : u142 160 72 = h 160 72 := (N_u142 160 72 (by decide) (by decide)).trans k72_u140x
                    have k78_u142x : h 160 78 ≤ u142 160 78 ∧ u142 160 78 ≤ h 160 78 + 2 * (Cm s b - Cm s (e + 1)) := by rw [show u142 160 78 = _ from N_u142 160 78 (by decide) (by decide)]; exact k78_u140x
                    have k84_u142x : u142 160 84 = h 160 84 := (N_u142 160 84 (by decide) (by decide)).trans k84_u140x
                    have k87_u142x : u142 160 87 = h 160 87 := (N_u142 160 87 (by decide) (by decide)).trans k87_u140x
                    have k88_u142x : h 160 88 ≤ u142 160 88 ∧ u142 160 88 ≤ h 160 88 + 2 * (Cm s b - Cm s (e + 1)) := by rw [show u142 160 88 = _ from N_u142 160 88 (by decide) (by decide)]; exact k88_u140x
                    have J74 : ∀ i : Nat, (i : Int) < h 160 87 → u142 217 i = h 217 i ∧ u142 218 i = h 218 i := fun i hi => by rw [show u142 217 i = u140 217 i from N_u142 217 i (by decide) (by omega), show u142 218 i = u140 218 i from N_u142 218 i (by decide) (by omega)]; exact J72 i hi
                    have R75 : ∀ j : Nat, (j : Int) < h 160 57 → u142 199 j = h 199 j := fun j hj => (show u142 199 j = u140 199 j from N_u142 199 j (by decide) (by omega)).trans (R73 j hj)
                    clear k50_u140x k54_u140x k57_u140x k68_u140x k70_u140x k72_u140x k78_u140x k84_u140x k87_u140x k88_u140x k68_u142
                    refine ok_sv (cw_turn C_u142 (by omega) (by omega) (by omega)) ?_; intro u144 P_u144
                    obtain ⟨C_u144, p70_u144, p68_u144, p78_u144, p88_u144, ⟨p50_u144, p54_u144, p57_u144, p72_u144, p84_u144, p87_u144⟩, J_u144, R_u144⟩ := P_u144
                    have J76 : ∀ i : Nat, (i : Int) < h 160 87 → u144 217 i = h 217 i ∧ u144 218 i = h 218 i := fun i hi => by rw [(J_u144 i (by omega)).1, (J_u144 i (by omega)).2]; exact J74 i hi
                    have R77 : ∀ j : Nat, (j : Int) < h 160 57 → u144 199 j = h 199 j := fun j hj => (R_u144 j (by omega)).trans (R75 j hj)
                    have k50_u144x : u144 160 50 = h 160 50 := (p50_u144).trans k50_u142x
                    have k54_u144x : u144 160 54 = h 160 54 := (p54_u144).trans k54_u142x
                    have k57_u144x : u144 160 57 = h 160 57 := (p57_u144).trans k57_u142x
                    have k68_u144x : h 160 68 + 1 + 1 ≤ u144 160 68 ∧ u144 160 68 ≤ h 160 68 + 20 * (Cm s b - Cm s (e + 1)) + 1 + 1 + 0 := by omega
                    have k70_u144x : u144 160 70 = h 160 70 + 1 - 1 + tv v59 := by omega
                    have k72_u144x : u144 160 72 = h 160 72 := (p72_u144).trans k72_u142x
                    have k78_u144x : h 160 78 ≤ u144 160 78 ∧ u144 160 78 ≤ h 160 78 + 2 * (Cm s b - Cm s (e + 1)) + 0 := by omega
                    have k84_u144x : u144 160 84 = h 160 84 := (p84_u144).trans k84_u142x
                    have k87_u144x : u144 160 87 = h 160 87 := (p87_u144).trans k87_u142x
                    have k88_u144x : h 160 88 ≤ u144 160 88 ∧ u144 160 88 ≤ h 160 88 + 2 * (Cm s b - Cm s (e + 1)) + 0 := by omega
                    clear k50_u142x k54_u142x k57_u142x k68_u142x k70_u142x k72_u142x k78_u142x k84_u142x k87_u142x k88_u142x p70_u144 p68_u144 p78_u144 p88_u144 p50_u144 p54_u144 p57_u144 p72_u144 p84_u144 p87_u144 J_u144 R_u144
                    exact ok_ret ⟨cw_le C_u144 (by omega), by omega, by omega, by omega, by omega, by omega, J76, R77⟩
                  · skip
                    refine ok_if (fun C78 => ?_) (fun C78 => ?_)
                    · skip
                      have hk : s 167 e.toNat = 29 := by omega
                      rw [hk, show wt 29 = 1 by decide] at cm3
                      obtain ⟨hx1, hx2⟩ : a = x ∧ q = 0 := by rcases hx with z | z; exact absurd z.2.2 (by unfold led; omega); exact ⟨z.1.symm, z.2.1⟩
                      subst hx1 hx2
                      clear hx
                      have hE : dv s e = tv v59 := by rw [t_v59]; rfl
                      have hG : ¬ v59 = 3 := by rw [t_v59]; rcases gv0 with z | z | z; exact z; exfalso; omega; exfalso; omega
                      have hD : tv v59 = 1 := if_neg hG
                      clear gv0
                      refine ok_rd (by omega) (gA_170 C0.1.1) ?_; intro v146 e_v146 a_v146 b_v146
                      have t_v146 : v146 = s 170 (e).toNat := by rw [e_v146]; exact C0.1.2.1 170 _ (nw_ar rfl _)
                      clear e_v146
                      have T_u148 : TE 0 s 0 (d - 2 - 0) (e + 1) b v146 := by rw [t_v146]; exact (te_k28 T (by omega)).2
                      have Y_u148 := yo_28 Y (by omega); rw [← t_v146] at Y_u148
                      have g_u148 := te_rg T_u148
                      have D_u148 : dv s v146 = 1 := if_neg Y_u148.1
                      have m_u148 := cm_mono (s := s) (a := (e + 1)) (b := b) (by omega) (by omega)
                      refine ok_sv (G.1 v146 _ _ _ _ _ _ _ C0 T_u148 Y_u148.2 (.inl Y_u148.1) (by omega) (by omega) ⟨⟨by omega, by omega⟩, by omega, by omega, by omega, by omega, by omega, by omega⟩) ?_; intro u148 P_u148
                      rw [D_u148] at P_u148
                      obtain ⟨C_u148, p70_u148, p68_u148, p78_u148, p88_u148, ⟨p50_u148, p54_u148, p57_u148, p72_u148, p84_u148, p87_u148⟩, J_u148, R_u148⟩ := P_u148
                      have J79 : ∀ i : Nat, (i : Int) < h 160 87 → u148 217 i = h 217 i ∧ u148 218 i = h 218 i := fun i hi => by rw [(J_u148 i (by omega)).1, (J_u148 i (by omega)).2]; exact J0 i hi
                      have R80 : ∀ j : Nat, (j : Int) < h 160 57 → u148 199 j = h 199 j := fun j hj => (R_u148 j (by omega)).trans (R0 j hj)
                      have k50_u148x : u148 160 50 = h 160 50 := (p50_u148).trans k50_h
                      have k54_u148x : u148 160 54 = h 160 54 := (p54_u148).trans k54_h
                      have k57_u148x : u148 160 57 = h 160 57 := (p57_u148).trans k57_h
                      have k68_u148x : h 160 68 ≤ u148 160 68 ∧ u148 160 68 ≤ h 160 68 + 20 * (Cm s b - Cm s (e + 1)) := by omega
                      have k70_u148x : u148 160 70 = h 160 70 + 1 := by omega
                      have k72_u148x : u148 160 72 = h 160 72 := (p72_u148).trans k72_h
                      have k78_u148x : h 160 78 ≤ u148 160 78 ∧ u148 160 78 ≤ h 160 78 + 2 * (Cm s b - Cm s (e + 1)) := by omega
                      have k84_u148x : u148 160 84 = h 160 84 := (p84_u148).trans k84_h
                      have k87_u148x : u148 160 87 = h 160 87 := (p87_u148).trans k87_h
                      have k88_u148x : h 160 88 ≤ u148 160 88 ∧ u148 160 88 ≤ h 160 88 + 2 * (Cm s b - Cm s (e + 1)) := by omega
                      clear k50_h k54_h k57_h k68_h k70_h k72_h k78_h k84_h k87_h k88_h p70_u148 p68_u148 p78_u148 p88_u148 p50_u148 p54_u148 p57_u148 p72_u148 p84_u148 p87_u148 J_u148 R_u148
                      clear T_u148 Y_u148 D_u148
                      refine ok_sv (cw_put hn C_u148 (by omega) (by omega)) ?_; intro u150 P_u150
                      obtain ⟨C_u150, k68_u150, N_u150⟩ := P_u150
                      have k50_u150x : u150 160 50 = h 160 50 := (N_u150 160 50 (by decide) (by decide)).trans k50_u148x
                      have k54_u150x : u150 160 54 = h 160 54 := (N_u150 160 54 (by decide) (by decide)).trans k54_u148x
                      have k57_u150x : u150 160 57 = h 160 57 := (N_u150 160 57 (by decide) (by decide)).trans k57_u148x
                      have k68_u150x : h 160 68 + 1 ≤ u150 160 68 ∧ u150 160 68 ≤ h 160 68 + 20 * (Cm s b - Cm s (e + 1)) + 1 := by omega
                      have k70_u150x : u150 160 70 = h 160 70 + 1 := (N_u150 160 70 (by decide) (by decide)).trans k70_u148x
                      have k72_u150x : u150 160 72 = h 160 72 := (N_u150 160 72 (by decide) (by decide)).trans k72_u148x
                      have k78_u150x : h 160 78 ≤ u150 160 78 ∧ u150 160 78 ≤ h 160 78 + 2 * (Cm s b - Cm s (e + 1)) := by rw [show u150 160 78 = _ from N_u150 160 78 (by decide) (by decide)]; exact k78_u148x
                      have k84_u150x : u150 160 84 = h 160 84 := (N_u150 160 84 (by decide) (by decide)).trans k84_u148x
                      have k87_u150x : u150 160 87 = h 160 87 := (N_u150 160 87 (by decide) (by decide)).trans k87_u148x
                      have k88_u150x : h 160 88 ≤ u150 160 88 ∧ u150 160 88 ≤ h 160 88 + 2 * (Cm s b - Cm s (e + 1)) := by rw [show u150 160 88 = _ from N_u150 160 88 (by decide) (by decide)]; exact k88_u148x
                      have J81 : ∀ i : Nat, (i : Int) < h 160 87 → u150 217 i = h 217 i ∧ u150 218 i = h 218 i := fun i hi => by rw [show u150 217 i = u148 217 i from N_u150 217 i (by decide) (by omega), show u150 218 i = u148 218 i from N_u150 218 i (by decide) (by omega)]; exact J79 i hi
                      have R82 : ∀ j : Nat, (j : Int) < h 160 57 → u150 199 j = h 199 j := fun j hj => (show u150 199 j = u148 199 j from N_u150 199 j (by decide) (by omega)).trans (R80 j hj)
                      clear k50_u148x k54_u148x k57_u148x k68_u148x k70_u148x k72_u148x k78_u148x k84_u148x k87_u148x k88_u148x k68_u150
                      refine ok_sub (by omega) ?_; intro v151 e_v151
                      refine ok_sv (cw_class hn S.2.1 S.1 C_u150 (by omega) (by omega)) ?_; intro u153 P_u153
                      obtain ⟨C_u153, N_u153, x_u153⟩ := P_u153
                      have k50_u153x : u153.2 160 50 = h 160 50 := (N_u153 160 50 (by decide) (by decide)).trans k50_u150x
                      have k54_u153x : u153.2 160 54 = h 160 54 := (N_u153 160 54 (by decide) (by decide)).trans k54_u150x
                      have k57_u153x : u153.2 160 57 = h 160 57 := (N_u153 160 57 (by decide) (by decide)).trans k57_u150x
                      have k68_u153x : h 160 68 + 1 ≤ u153.2 160 68 ∧ u153.2 160 68 ≤ h 160 68 + 20 * (Cm s b - Cm s (e + 1)) + 1 := by rw [show u153.2 160 68 = _ from N_u153 160 68 (by decide) (by decide)]; exact k68_u150x
                      have k70_u153x : u153.2 160 70 = h 160 70 + 1 := (N_u153 160 70 (by decide) (by decide)).trans k70_u150x
                      have k72_u153x : u153.2 160 72 = h 160 72 := (N_u153 160 72 (by decide) (by decide)).trans k72_u150x
                      have k78_u153x : h 160 78 ≤ u153.2 160 78 ∧ u153.2 160 78 ≤ h 160 78 + 2 * (Cm s b - Cm s (e + 1)) := by rw [show u153.2 160 78 = _ from N_u153 160 78 (by decide) (by decide)]; exact k78_u150x
                      have k84_u153x : u153.2 160 84 = h 160 84 := (N_u153 160 84 (by decide) (by decide)).trans k84_u150x
                      have k87_u153x : u153.2 160 87 = h 160 87 := (N_u153 160 87 (by decide) (by decide)).trans k87_u150x
                      have k88_u153x : h 160 88 ≤ u153.2 160 88 ∧ u153.2 160 88 ≤ h 160 88 + 2 * (Cm s b - Cm s (e + 1)) := by rw [show u153.2 160 88 = _ from N_u153 160 88 (by decide) (by decide)]; exact k88_u150x
                      have J83 : ∀ i : Nat, (i : Int) < h 160 87 → u153.2 217 i = h 217 i ∧ u153.2 218 i = h 218 i := fun i hi => by rw [show u153.2 217 i = u150 217 i from N_u153 217 i (by decide) (by omega), show u153.2 218 i = u150 218 i from N_u153 218 i (by decide) (by omega)]; exact J81 i hi
                      have R84 : ∀ j : Nat, (j : Int) < h 160 57 → u153.2 199 j = h 199 j := fun j hj => (show u153.2 199 j = u150 199 j from N_u153 199 j (by decide) (by omega)).trans (R82 j hj)
                      clear k50_u150x k54_u150x k57_u150x k68_u150x k70_u150x k72_u150x k78_u150x k84_u150x k87_u150x k88_u150x
                      refine ok_sv (cw_put hn C_u153 (by omega) (by omega)) ?_; intro u155 P_u155
                      obtain ⟨C_u155, k68_u155, N_u155⟩ := P_u155
                      have k50_u155x : u155 160 50 = h 160 50 := (N_u155 160 50 (by decide) (by decide)).trans k50_u153x
                      have k54_u155x : u155 160 54 = h 160 54 := (N_u155 160 54 (by decide) (by decide)).trans k54_u153x
                      have k57_u155x : u155 160 57 = h 160 57 := (N_u155 160 57 (by decide) (by decide)).trans k57_u153x
                      have k68_u155x : h 160 68 + 1 + 1 ≤ u155 160 68 ∧ u155 160 68 ≤ h 160 68 + 20 * (Cm s b - Cm s (e + 1)) + 1 + 1 := by omega
                      have k70_u155x : u155 160 70 = h 160 70 + 1 := (N_u155 160 70 (by decide) (by decide)).trans k70_u153x
                      have k72_u155x : u155 160 72 = h 160 72 := (N_u155 160 72 (by decide) (by decide)).trans k72_u153x
                      have k78_u155x : h 160 78 ≤ u155 160 78 ∧ u155 160 78 ≤ h 160 78 + 2 * (Cm s b - Cm s (e + 1)) := by rw [show u155 160 78 = _ from N_u155 160 78 (by decide) (by decide)]; exact k78_u153x
                      have k84_u155x : u155 160 84 = h 160 84 := (N_u155 160 84 (by decide) (by decide)).trans k84_u153x
                      have k87_u155x : u155 160 87 = h 160 87 := (N_u155 160 87 (by decide) (by decide)).trans k87_u153x
                      have k88_u155x : h 160 88 ≤ u155 160 88 ∧ u155 160 88 ≤ h 160 88 + 2 * (Cm s b - Cm s (e + 1)) := by rw [show u155 160 88 = _ from N_u155 160 88 (by decide) (by decide)]; exact k88_u153x
                      have J85 : ∀ i : Nat, (i : Int) < h 160 87 → u155 217 i = h 217 i ∧ u155 218 i = h 218 i := fun i hi => by rw [show u155 217 i = u153.2 217 i from N_u155 217 i (by decide) (by omega), show u155 218 i = u153.2 218 i from N_u155 218 i (by decide) (by omega)]; exact J83 i hi
                      have R86 : ∀ j : Nat, (j : Int) < h 160 57 → u155 199 j = h 199 j := fun j hj => (show u155 199 j = u153.2 199 j from N_u155 199 j (by decide) (by omega)).trans (R84 j hj)
                      clear k50_u153x k54_u153x k57_u153x k68_u153x k70_u153x k72_u153x k78_u153x k84_u153x k87_u153x k88_u153x k68_u155
                      refine ok_sv (cw_turn C_u155 (by omega) (by omega) (by omega)) ?_; intro u157 P_u157
                      obtain ⟨C_u157, p70_u157, p68_u157, p78_u157, p88_u157, ⟨p50_u157, p54_u157, p57_u157, p72_u157, p84_u157, p87_u157⟩, J_u157, R_u157⟩ := P_u157
                      have J87 : ∀ i : Nat, (i : Int) < h 160 87 → u157 217 i = h 217 i ∧ u157 218 i = h 218 i := fun i hi => by rw [(J_u157 i (by omega)).1, (J_u157 i (by omega)).2]; exact J85 i hi
                      have R88 : ∀ j : Nat, (j : Int) < h 160 57 → u157 199 j = h 199 j := fun j hj => (R_u157 j (by omega)).trans (R86 j hj)
                      have k50_u157x : u157 160 50 = h 160 50 := (p50_u157).trans k50_u155x
                      have k54_u157x : u157 160 54 = h 160 54 := (p54_u157).trans k54_u155x
                      have k57_u157x : u157 160 57 = h 160 57 := (p57_u157).trans k57_u155x
                      have k68_u157x : h 160 68 + 1 + 1 ≤ u157 160 68 ∧ u157 160 68 ≤ h 160 68 + 20 * (Cm s b - Cm s (e + 1)) + 1 + 1 + 0 := by omega
                      have k70_u157x : u157 160 70 = h 160 70 + 1 - 1 + tv v59 := by omega
                      have k72_u157x : u157 160 72 = h 160 72 := (p72_u157).trans k72_u155x
                      have k78_u157x : h 160 78 ≤ u157 160 78 ∧ u157 160 78 ≤ h 160 78 + 2 * (Cm s b - Cm s (e + 1)) + 0 := by omega
                      have k84_u157x : u157 160 84 = h 160 84 := (p84_u157).trans k84_u155x
                      have k87_u157x : u157 160 87 = h 160 87 := (p87_u157).trans k87_u155x
                      have k88_u157x : h 160 88 ≤ u157 160 88 ∧ u157 160 88 ≤ h 160 88 + 2 * (Cm s b - Cm s (e + 1)) + 0 := by omega
                      clear k50_u155x k54_u155x k57_u155x k68_u155x k70_u155x k72_u155x k78_u155x k84_u155x k87_u155x k88_u155x p70_u157 p68_u157 p78_u157 p88_u157 p50_u157 p54_u157 p57_u157 p72_u157 p84_u157 p87_u157 J_u157 R_u157
                      exact ok_ret ⟨cw_le C_u157 (by omega), by omega, by omega, by omega, by omega, by omega, J87, R88⟩
                    · skip
                      refine ok_if (fun C89 => ?_) (fun C89 => ?_)
                      · skip
                        have hk : s 167 e.toNat = 30 := by omega
                        rw [hk, show wt 30 = 2 by decide] at cm3
                        obtain ⟨hx1, hx2⟩ : e = x ∧ q = 1 := by rcases hx with z | z; exact ⟨z.1.symm, z.2.1⟩; exact absurd (by unfold led; omega) z.2.2
                        subst hx1 hx2
                        clear hx
                        have hE : dv s e = tv v59 := by rw [t_v59]; rfl
                        have hG : ¬ v59 = 3 := by rw [t_v59]; rcases gv0 with z | z | z; exact z; exfalso; omega; exfalso; omega
                        have hD : tv v59 = 1 := if_neg hG
                        clear gv0
                        refine ok_rd (by omega) (gA_175 C0.1.1) ?_; intro v159 e_v159 a_v159 b_v159
                        have t_v159 : v159 = s 175 (e).toNat := by rw [e_v159]; exact C0.1.2.1 175 _ (nw_ar rfl _)
                        clear e_v159
                        have l_v159 := (S.2.2.2 (e).toNat (by omega)).2.1 (by omega); rw [← t_v159] at l_v159
                        refine ok_if (fun C90 => ?_) (fun C90 => ?_)
                        · skip
                          refine ok_sv (cw_put hn C0 (by omega) (by omega)) ?_; intro u161 P_u161
                          obtain ⟨C_u161, k68_u161, N_u161⟩ := P_u161
                          have k50_u161x : u161 160 50 = h 160 50 := (N_u161 160 50 (by decide) (by decide)).trans k50_h
                          have k54_u161x : u161 160 54 = h 160 54 := (N_u161 160 54 (by decide) (by decide)).trans k54_h
                          have k57_u161x : u161 160 57 = h 160 57 := (N_u161 160 57 (by decide) (by decide)).trans k57_h
                          have k68_u161x : u161 160 68 = h 160 68 + 1 := by omega
                          have k70_u161x : u161 160 70 = h 160 70 := (N_u161 160 70 (by decide) (by decide)).trans k70_h
                          have k72_u161x : u161 160 72 = h 160 72 := (N_u161 160 72 (by decide) (by decide)).trans k72_h
                          have k78_u161x : u161 160 78 = h 160 78 := (N_u161 160 78 (by decide) (by decide)).trans k78_h
                          have k84_u161x : u161 160 84 = h 160 84 := (N_u161 160 84 (by decide) (by decide)).trans k84_h
                          have k87_u161x : u161 160 87 = h 160 87 := (N_u161 160 87 (by decide) (by decide)).trans k87_h
                          have k88_u161x : u161 160 88 = h 160 88 := (N_u161 160 88 (by decide) (by decide)).trans k88_h
                          have J91 : ∀ i : Nat, (i : Int) < h 160 87 → u161 217 i = h 217 i ∧ u161 218 i = h 218 i := fun i hi => by rw [show u161 217 i = h 217 i from N_u161 217 i (by decide) (by omega), show u161 218 i = h 218 i from N_u161 218 i (by decide) (by omega)]; exact J0 i hi
                          have R92 : ∀ j : Nat, (j : Int) < h 160 57 → u161 199 j = h 199 j := fun j hj => (show u161 199 j = h 199 j from N_u161 199 j (by decide) (by omega)).trans (R0 j hj)
                          clear k50_h k54_h k57_h k68_h k70_h k72_h k78_h k84_h k87_h k88_h k68_u161
                          refine ok_rd (by omega) (gA_170 C_u161.1.1) ?_; intro v164 e_v164 a_v164 b_v164
                          have t_v164 : v164 = s 170 (e).toNat := by rw [e_v164]; exact C_u161.1.2.1 170 _ (nw_ar rfl _)
                          clear e_v164
                          have c_v164 := te_rg (te_led T (by omega)); rw [← t_v164] at c_v164
                          refine ok_rd (by omega) (gA_174 C_u161.1.1) ?_; intro v165 e_v165 a_v165 b_v165
                          have t_v165 : v165 = s 174 (v164).toNat := by rw [e_v165]; exact C_u161.1.2.1 174 _ (nw_ar rfl _)
                          clear e_v165
                          have l_v165 := (S.2.2.2 (v164).toNat (by omega)).1; rw [← t_v165] at l_v165
                          refine ok_sub (by omega) ?_; intro v166 e_v166
                          refine ok_div2 ?_; intro v167 e_v167 f_v167 g_v167
                          refine ok_rd (by omega) (gA_175 C_u161.1.1) ?_; intro v169 e_v169 a_v169 b_v169
                          have t_v169 : v169 = s 175 (e).toNat := by rw [e_v169]; exact C_u161.1.2.1 175 _ (nw_ar rfl _)
                          clear e_v169
                          have d_v169 : v159 = v169 := by rw [t_v169, t_v159]
                          subst d_v169
                          refine ok_sv (cw_member hn S.2.1 S.1 C_u161 (by omega) (by omega) (by omega)) ?_; intro u171 P_u171
                          obtain ⟨C_u171, N_u171, x_u171⟩ := P_u171
                          have k50_u171x : u171.2 160 50 = h 160 50 := (N_u171 160 50 (by decide) (by decide)).trans k50_u161x
                          have k54_u171x : u171.2 160 54 = h 160 54 := (N_u171 160 54 (by decide) (by decide)).trans k54_u161x
                          have k57_u171x : u171.2 160 57 = h 160 57 := (N_u171 160 57 (by decide) (by decide)).trans k57_u161x
                          have k68_u171x : u171.2 160 68 = h 160 68 + 1 := (N_u171 160 68 (by decide) (by decide)).trans k68_u161x
                          have k70_u171x : u171.2 160 70 = h 160 70 := (N_u171 160 70 (by decide) (by decide)).trans k70_u161x
                          have k72_u171x : u171.2 160 72 = h 160 72 := (N_u171 160 72 (by decide) (by decide)).trans k72_u161x
                          have k78_u171x : u171.2 160 78 = h 160 78 := (N_u171 160 78 (by decide) (by decide)).trans k78_u161x
                          have k84_u171x : u171.2 160 84 = h 160 84 := (N_u171 160 84 (by decide) (by decide)).trans k84_u161x
                          have k87_u171x : u171.2 160 87 = h 160 87 := (N_u171 160 87 (by decide) (by decide)).trans k87_u161x
                          have k88_u171x : u171.2 160 88 = h 160 88 := (N_u171 160 88 (by decide) (by decide)).trans k88_u161x
                          have J93 : ∀ i : Nat, (i : Int) < h 160 87 → u171.2 217 i = h 217 i ∧ u171.2 218 i = h 218 i := fun i hi => by rw [show u171.2 217 i = u161 217 i from N_u171 217 i (by decide) (by omega), show u171.2 218 i = u161 218 i from N_u171 218 i (by decide) (by omega)]; exact J91 i hi
                          have R94 : ∀ j : Nat, (j : Int) < h 160 57 → u171.2 199 j = h 199 j := fun j hj => (show u171.2 199 j = u161 199 j from N_u171 199 j (by decide) (by omega)).trans (R92 j hj)
                          clear k50_u161x k54_u161x k57_u161x k68_u161x k70_u161x k72_u161x k78_u161x k84_u161x k87_u161x k88_u161x
                          refine ok_sv (cw_put hn C_u171 (by omega) (by omega)) ?_; intro u173 P_u173
                          obtain ⟨C_u173, k68_u173, N_u173⟩ := P_u173
                          have k50_u173x : u173 160 50 = h 160 50 := (N_u173 160 50 (by decide) (by decide)).trans k50_u171x
                          have k54_u173x : u173 160 54 = h 160 54 := (N_u173 160 54 (by decide) (by decide)).trans k54_u171x
                          have k57_u173x : u173 160 57 = h 160 57 := (N_u173 160 57 (by decide) (by decide)).trans k57_u171x
                          have k68_u173x : u173 160 68 = h 160 68 + 1 + 1 := by omega
                          have k70_u173x : u173 160 70 = h 160 70 := (N_u173 160 70 (by decide) (by decide)).trans k70_u171x
                          have k72_u173x : u173 160 72 = h 160 72 := (N_u173 160 72 (by decide) (by decide)).trans k72_u171x
                          have k78_u173x : u173 160 78 = h 160 78 := (N_u173 160 78 (by decide) (by decide)).trans k78_u171x
                          have k84_u173x : u173 160 84 = h 160 84 := (N_u173 160 84 (by decide) (by decide)).trans k84_u171x
                          have k87_u173x : u173 160 87 = h 160 87 := (N_u173 160 87 (by decide) (by decide)).trans k87_u171x
                          have k88_u173x : u173 160 88 = h 160 88 := (N_u173 160 88 (by decide) (by decide)).trans k88_u171x
                          have J95 : ∀ i : Nat, (i : Int) < h 160 87 → u173 217 i = h 217 i ∧ u173 218 i = h 218 i := fun i hi => by rw [show u173 217 i = u171.2 217 i from N_u173 217 i (by decide) (by omega), show u173 218 i = u171.2 218 i from N_u173 218 i (by decide) (by omega)]; exact J93 i hi
                          have R96 : ∀ j : Nat, (j : Int) < h 160 57 → u173 199 j = h 199 j := fun j hj => (show u173 199 j = u171.2 199 j from N_u173 199 j (by decide) (by omega)).trans (R94 j hj)
                          clear k50_u171x k54_u171x k57_u171x k68_u171x k70_u171x k72_u171x k78_u171x k84_u171x k87_u171x k88_u171x k68_u173
                          unfold qj_X13_workOne_479
                          refine ok_sv (cw_turn C_u173 (by omega) (by omega) (by omega)) ?_; intro u26 P_u26
                          obtain ⟨C_u26, p70_u26, p68_u26, p78_u26, p88_u26, ⟨p50_u26, p54_u26, p57_u26, p72_u26, p84_u26, p87_u26⟩, J_u26, R_u26⟩ := P_u26
                          have J97 : ∀ i : Nat, (i : Int) < h 160 87 → u26 217 i = h 217 i ∧ u26 218 i = h 218 i := fun i hi => by rw [(J_u26 i (by omega)).1, (J_u26 i (by omega)).2]; exact J95 i hi
                          have R98 : ∀ j : Nat, (j : Int) < h 160 57 → u26 199 j = h 199 j := fun j hj => (R_u26 j (by omega)).trans (R96 j hj)
                          have k50_u26x : u26 160 50 = h 160 50 := (p50_u26).trans k50_u173x
                          have k54_u26x : u26 160 54 = h 160 54 := (p54_u26).trans k54_u173x
                          have k57_u26x : u26 160 57 = h 160 57 := (p57_u26).trans k57_u173x
                          have k68_u26x : h 160 68 + 1 + 1 ≤ u26 160 68 ∧ u26 160 68 ≤ h 160 68 + 1 + 1 + 0 := by omega
                          have k70_u26x : u26 160 70 = h 160 70 - 1 + tv v59 := by omega
                          have k72_u26x : u26 160 72 = h 160 72 := (p72_u26).trans k72_u173x
                          have k78_u26x : h 160 78 ≤ u26 160 78 ∧ u26 160 78 ≤ h 160 78 + 0 := by omega
                          have k84_u26x : u26 160 84 = h 160 84 := (p84_u26).trans k84_u173x
                          have k87_u26x : u26 160 87 = h 160 87 := (p87_u26).trans k87_u173x
                          have k88_u26x : h 160 88 ≤ u26 160 88 ∧ u26 160 88 ≤ h 160 88 + 0 := by omega
                          clear k50_u173x k54_u173x k57_u173x k68_u173x k70_u173x k72_u173x k78_u173x k84_u173x k87_u173x k88_u173x p70_u26 p68_u26 p78_u26 p88_u26 p50_u26 p54_u26 p57_u26 p72_u26 p84_u26 p87_u26 J_u26 R_u26
                          exact ok_ret ⟨cw_le C_u26 (by omega), by omega, by omega, by omega, by omega, by omega, J97, R98⟩
                        · skip
                          refine ok_sv (cw_put hn C0 (by omega) (by omega)) ?_; intro u175 P_u175
                          obtain ⟨C_u175, k68_u175, N_u175⟩ := P_u175
                          have k50_u175x : u175 160 50 = h 160 50 := (N_u175 160 50 (by decide) (by decide)).trans k50_h
                          have k54_u175x : u175 160 54 = h 160 54 := (N_u175 160 54 (by decide) (by decide)).trans k54_h
                          have k57_u175x : u175 160 57 = h 160 57 := (N_u175 160 57 (by decide) (by decide)).trans k57_h
                          have k68_u175x : u175 160 68 = h 160 68 + 1 := by omega
                          have k70_u175x : u175 160 70 = h 160 70 := (N_u175 160 70 (by decide) (by decide)).trans k70_h
                          have k72_u175x : u175 160 72 = h 160 72 := (N_u175 160 72 (by decide) (by decide)).trans k72_h
                          have k78_u175x : u175 160 78 = h 160 78 := (N_u175 160 78 (by decide) (by decide)).trans k78_h
                          have k84_u175x : u175 160 84 = h 160 84 := (N_u175 160 84 (by decide) (by decide)).trans k84_h
                          have k87_u175x : u175 160 87 = h 160 87 := (N_u175 160 87 (by decide) (by decide)).trans k87_h
                          have k88_u175x : u175 160 88 = h 160 88 := (N_u175 160 88 (by decide) (by decide)).trans k88_h
                          have J99 : ∀ i : Nat, (i : Int) < h 160 87 → u175 217 i = h 217 i ∧ u175 218 i = h 218 i := fun i hi => by rw [show u175 217 i = h 217 i from N_u175 217 i (by decide) (by omega), show u175 218 i = h 218 i from N_u175 218 i (by decide) (by omega)]; exact J0 i hi
                          have R100 : ∀ j : Nat, (j : Int) < h 160 57 → u175 199 j = h 199 j := fun j hj => (show u175 199 j = h 199 j from N_u175 199 j (by decide) (by omega)).trans (R0 j hj)
                          clear k50_h k54_h k57_h k68_h k70_h k72_h k78_h k84_h k87_h k88_h k68_u175
                          unfold qj_X13_workOne_479
                          refine ok_sv (cw_turn C_u175 (by omega) (by omega) (by omega)) ?_; intro u26 P_u26
                          obtain ⟨C_u26, p70_u26, p68_u26, p78_u26, p88_u26, ⟨p50_u26, p54_u26, p57_u26, p72_u26, p84_u26, p87_u26⟩, J_u26, R_u26⟩ := P_u26
                          have J101 : ∀ i : Nat, (i : Int) < h 160 87 → u26 217 i = h 217 i ∧ u26 218 i = h 218 i := fun i hi => by rw [(J_u26 i (by omega)).1, (J_u26 i (by omega)).2]; exact J99 i hi
                          have R102 : ∀ j : Nat, (j : Int) < h 160 57 → u26 199 j = h 199 j := fun j hj => (R_u26 j (by omega)).trans (R100 j hj)
                          have k50_u26x : u26 160 50 = h 160 50 := (p50_u26).trans k50_u175x
                          have k54_u26x : u26 160 54 = h 160 54 := (p54_u26).trans k54_u175x
                          have k57_u26x : u26 160 57 = h 160 57 := (p57_u26).trans k57_u175x
                          have k68_u26x : h 160 68 + 1 ≤ u26 160 68 ∧ u26 160 68 ≤ h 160 68 + 1 + 0 := by omega
                          have k70_u26x : u26 160 70 = h 160 70 - 1 + tv v59 := by omega
                          have k72_u26x : u26 160 72 = h 160 72 := (p72_u26).trans k72_u175x
                          have k78_u26x : h 160 78 ≤ u26 160 78 ∧ u26 160 78 ≤ h 160 78 + 0 := by omega
                          have k84_u26x : u26 160 84 = h 160 84 := (p84_u26).trans k84_u175x
                          have k87_u26x : u26 160 87 = h 160 87 := (p87_u26).trans k87_u175x
                          have k88_u26x : h 160 88 ≤ u26 160 88 ∧ u26 160 88 ≤ h 160 88 + 0 := by omega
                          clear k50_u175x k54_u175x k57_u175x k68_u175x k70_u175x k72_u175x k78_u175x k84_u175x k87_u175x k88_u175x p70_u26 p68_u26 p78_u26 p88_u26 p50_u26 p54_u26 p57_u26 p72_u26 p84_u26 p87_u26 J_u26 R_u26
                          exact ok_ret ⟨cw_le C_u26 (by omega), by omega, by omega, by omega, by omega, by omega, J101, R102⟩
                      · skip
                        refine ok_if (fun C103 => ?_) (fun C103 => ?_)
                        · skip
                          have hk : s 167 e.toNat = 31 := by omega
                          rw [hk, show wt 31 = 2 by decide] at cm3
                          have hE : dv s e = tv v59 := by rw [t_v59]; rfl
                          clear gv0
                          refine ok_rd (by omega) (gA_176 C0.1.1) ?_; intro v178 e_v178 a_v178 b_v178
                          have t_v178 : v178 = s 176 (e).toNat := by rw [e_v178]; exact C0.1.2.1 176 _ (nw_ar rfl _)
                          clear e_v178
                          have l_v178 := (S.2.2.2 (e).toNat (by omega)).2.2.2.2 (by omega); rw [← t_v178] at l_v178
                          refine ok_if (fun C104 => ?_) (fun C104 => ?_)
                          · skip
                            obtain ⟨hx1, hx2⟩ : a = x ∧ q = 0 := by rcases hx with z | z; exact absurd z.2.2 (by unfold led; omega); exact ⟨z.1.symm, z.2.1⟩
                            subst hx1 hx2; clear hx
                            refine ok_rd (by omega) (gA_176 C0.1.1) ?_; intro v180 e_v180 a_v180 b_v180
                            have t_v180 : v180 = s 176 (e).toNat := by rw [e_v180]; exact C0.1.2.1 176 _ (nw_ar rfl _)
                            clear e_v180
                            have d_v180 : v178 = v180 := by rw [t_v180, t_v178]
                            subst d_v180
                            unfold qj_X13_workOne_316
                            refine ok_rd (by omega) (gA_176 C0.1.1) ?_; intro v28 e_v28 a_v28 b_v28
                            have t_v28 : v28 = s 176 (e).toNat := by rw [e_v28]; exact C0.1.2.1 176 _ (nw_ar rfl _)
                            clear e_v28
                            have d_v28 : v178 = v28 := by rw [t_v28, t_v178]
                            subst d_v28
                            refine ok_if (fun C105 => ?_) (fun C105 => ?_)
                            · skip
                              exfalso; omega
                            · skip
                              refine ok_sv (G.2.2.1 e _ _ _ _ _ _ _ _ _ C0 T Y (by omega) (by omega) (by omega) (by omega) (by omega) ⟨⟨by omega, by omega⟩, by omega, by omega, by omega, by omega, by omega, by omega⟩) ?_; intro u32 P_u32
                              obtain ⟨C_u32, p70_u32, p68_u32, p78_u32, p88_u32, ⟨p50_u32, p54_u32, p57_u32, p72_u32, p84_u32, p87_u32⟩, J_u32, R_u32⟩ := P_u32
                              have J106 : ∀ i : Nat, (i : Int) < h 160 87 → u32 217 i = h 217 i ∧ u32 218 i = h 218 i := fun i hi => by rw [(J_u32 i (by omega)).1, (J_u32 i (by omega)).2]; exact J0 i hi
                              have R107 : ∀ j : Nat, (j : Int) < h 160 57 → u32 199 j = h 199 j := fun j hj => (R_u32 j (by omega)).trans (R0 j hj)
                              have k50_u32x : u32 160 50 = h 160 50 := (p50_u32).trans k50_h
                              have k54_u32x : u32 160 54 = h 160 54 := (p54_u32).trans k54_h
                              have k57_u32x : u32 160 57 = h 160 57 := (p57_u32).trans k57_h
                              have k68_u32x : h 160 68 ≤ u32 160 68 ∧ u32 160 68 ≤ h 160 68 + (20 * (Cm s b - Cm s (e + 1)) + 5) := by omega
                              have k70_u32x : u32 160 70 = h 160 70 - (1 - 1) + dv s e := by omega
                              have k72_u32x : u32 160 72 = h 160 72 := (p72_u32).trans k72_h
                              have k78_u32x : h 160 78 ≤ u32 160 78 ∧ u32 160 78 ≤ h 160 78 + (2 * (Cm s b - Cm s (e + 1))) := by omega
                              have k84_u32x : u32 160 84 = h 160 84 := (p84_u32).trans k84_h
                              have k87_u32x : u32 160 87 = h 160 87 := (p87_u32).trans k87_h
                              have k88_u32x : h 160 88 ≤ u32 160 88 ∧ u32 160 88 ≤ h 160 88 + (2 * (Cm s b - Cm s (e + 1))) := by omega
                              clear k50_h k54_h k57_h k68_h k70_h k72_h k78_h k84_h k87_h k88_h p70_u32 p68_u32 p78_u32 p88_u32 p50_u32 p54_u32 p57_u32 p72_u32 p84_u32 p87_u32 J_u32 R_u32
                              exact ok_ret ⟨cw_le C_u32 (by omega), by omega, by omega, by omega, by omega, by omega, J106, R107⟩
                          · skip
                            obtain ⟨hx1, hx2⟩ : e = x ∧ q = 1 := by rcases hx with z | z; exact ⟨z.1.symm, z.2.1⟩; exact absurd (by unfold led; omega) z.2.2
                            subst hx1 hx2; clear hx
                            refine ok_rd (by omega) (gA_170 C0.1.1) ?_; intro v183 e_v183 a_v183 b_v183
                            have t_v183 : v183 = s 170 (e).toNat := by rw [e_v183]; exact C0.1.2.1 170 _ (nw_ar rfl _)
                            clear e_v183
                            have c_v183 := te_rg (te_led T (by omega)); rw [← t_v183] at c_v183
                            refine ok_rd (by omega) (gA_174 C0.1.1) ?_; intro v184 e_v184 a_v184 b_v184
                            have t_v184 : v184 = s 174 (v183).toNat := by rw [e_v184]; exact C0.1.2.1 174 _ (nw_ar rfl _)
                            clear e_v184
                            have l_v184 := (S.2.2.2 (v183).toNat (by omega)).1; rw [← t_v184] at l_v184
                            refine ok_sub (by omega) ?_; intro v185 e_v185
                            refine ok_div2 ?_; intro v186 e_v186 f_v186 g_v186
                            unfold qj_X13_workOne_316
                            refine ok_rd (by omega) (gA_176 C0.1.1) ?_; intro v28 e_v28 a_v28 b_v28
                            have t_v28 : v28 = s 176 (e).toNat := by rw [e_v28]; exact C0.1.2.1 176 _ (nw_ar rfl _)
                            clear e_v28
                            have d_v28 : v178 = v28 := by rw [t_v28, t_v178]
                            subst d_v28
                            refine ok_if (fun C108 => ?_) (fun C108 => ?_)
                            · skip
                              refine ok_sv (G.2.2.1 e _ _ _ _ _ _ _ _ _ C0 T Y (by omega) (by omega) (by omega) (by omega) (by omega) ⟨⟨by omega, by omega⟩, by omega, by omega, by omega, by omega, by omega, by omega⟩) ?_; intro u30 P_u30
                              obtain ⟨C_u30, p70_u30, p68_u30, p78_u30, p88_u30, ⟨p50_u30, p54_u30, p57_u30, p72_u30, p84_u30, p87_u30⟩, J_u30, R_u30⟩ := P_u30
                              have J109 : ∀ i : Nat, (i : Int) < h 160 87 → u30 217 i = h 217 i ∧ u30 218 i = h 218 i := fun i hi => by rw [(J_u30 i (by omega)).1, (J_u30 i (by omega)).2]; exact J0 i hi
                              have R110 : ∀ j : Nat, (j : Int) < h 160 57 → u30 199 j = h 199 j := fun j hj => (R_u30 j (by omega)).trans (R0 j hj)
                              have k50_u30x : u30 160 50 = h 160 50 := (p50_u30).trans k50_h
                              have k54_u30x : u30 160 54 = h 160 54 := (p54_u30).trans k54_h
                              have k57_u30x : u30 160 57 = h 160 57 := (p57_u30).trans k57_h
                              have k68_u30x : h 160 68 ≤ u30 160 68 ∧ u30 160 68 ≤ h 160 68 + (20 * (Cm s b - Cm s (e + 1)) + 5) := by omega
                              have k70_u30x : u30 160 70 = h 160 70 - (1 - 0) + dv s e := by omega
                              have k72_u30x : u30 160 72 = h 160 72 := (p72_u30).trans k72_h
                              have k78_u30x : h 160 78 ≤ u30 160 78 ∧ u30 160 78 ≤ h 160 78 + (2 * (Cm s b - Cm s (e + 1))) := by omega
                              have k84_u30x : u30 160 84 = h 160 84 := (p84_u30).trans k84_h
                              have k87_u30x : u30 160 87 = h 160 87 := (p87_u30).trans k87_h
                              have k88_u30x : h 160 88 ≤ u30 160 88 ∧ u30 160 88 ≤ h 160 88 + (2 * (Cm s b - Cm s (e + 1))) := by omega
                              clear k50_h k54_h k57_h k68_h k70_h k72_h k78_h k84_h k87_h k88_h p70_u30 p68_u30 p78_u30 p88_u30 p50_u30 p54_u30 p57_u30 p72_u30 p84_u30 p87_u30 J_u30 R_u30
                              exact ok_ret ⟨cw_le C_u30 (by omega), by omega, by omega, by omega, by omega, by omega, J109, R110⟩
                            · skip
                              exfalso; omega
                        · skip
                          refine ok_if (fun C111 => ?_) (fun C111 => ?_)
                          · skip
                            have hk : s 167 e.toNat = 32 := by omega
                            rw [hk, show wt 32 = 1 by decide] at cm3
                            obtain ⟨hx1, hx2⟩ : e = x ∧ q = 1 := by rcases hx with z | z; exact ⟨z.1.symm, z.2.1⟩; exact absurd (by unfold led; omega) z.2.2
                            subst hx1 hx2
                            clear hx
                            have hE : dv s e = tv v59 := by rw [t_v59]; rfl
                            have hG : ¬ v59 = 3 := by rw [t_v59]; rcases gv0 with z | z | z; exact z; exfalso; omega; exfalso; omega
                            have hD : tv v59 = 1 := if_neg hG
                            clear gv0
                            refine ok_rd (by omega) (gA_171 C0.1.1) ?_; intro v189 e_v189 a_v189 b_v189
                            have t_v189 : v189 = s 171 (e).toNat := by rw [e_v189]; exact C0.1.2.1 171 _ (nw_ar rfl _)
                            clear e_v189
                            have c_v189 := te_rg (te_k37 T (by omega)).2; rw [← t_v189] at c_v189
                            have T_u191 : TE 0 s 0 (d - 3) (e + 1) b v189 := by rw [t_v189]; exact (te_k37 T (by omega)).2
                            have Y_u191 := (yo_32 Y (by omega)).2; rw [← t_v189] at Y_u191
                            have g_u191 := te_rg T_u191
                            have D_u191 : dv s v189 = 1 := if_neg Y_u191.1
                            have m_u191 := cm_mono (s := s) (a := (e + 1)) (b := b) (by omega) (by omega)
                            refine ok_sv (G.1 v189 _ _ _ _ _ _ _ C0 T_u191 Y_u191.2 (.inl Y_u191.1) (by omega) (by omega) ⟨⟨by omega, by omega⟩, by omega, by omega, by omega, by omega, by omega, by omega⟩) ?_; intro u191 P_u191
                            rw [D_u191] at P_u191
                            obtain ⟨C_u191, p70_u191, p68_u191, p78_u191, p88_u191, ⟨p50_u191, p54_u191, p57_u191, p72_u191, p84_u191, p87_u191⟩, J_u191, R_u191⟩ := P_u191
                            have J112 : ∀ i : Nat, (i : Int) < h 160 87 → u191 217 i = h 217 i ∧ u191 218 i = h 218 i := fun i hi => by rw [(J_u191 i (by omega)).1, (J_u191 i (by omega)).2]; exact J0 i hi
                            have R113 : ∀ j : Nat, (j : Int) < h 160 57 → u191 199 j = h 199 j := fun j hj => (R_u191 j (by omega)).trans (R0 j hj)
                            have k50_u191x : u191 160 50 = h 160 50 := (p50_u191).trans k50_h
                            have k54_u191x : u191 160 54 = h 160 54 := (p54_u191).trans k54_h
                            have k57_u191x : u191 160 57 = h 160 57 := (p57_u191).trans k57_h
                            have k68_u191x : h 160 68 ≤ u191 160 68 ∧ u191 160 68 ≤ h 160 68 + 20 * (Cm s b - Cm s (e + 1)) := by omega
                            have k70_u191x : u191 160 70 = h 160 70 + 1 := by omega
                            have k72_u191x : u191 160 72 = h 160 72 := (p72_u191).trans k72_h
                            have k78_u191x : h 160 78 ≤ u191 160 78 ∧ u191 160 78 ≤ h 160 78 + 2 * (Cm s b - Cm s (e + 1)) := by omega
                            have k84_u191x : u191 160 84 = h 160 84 := (p84_u191).trans k84_h
                            have k87_u191x : u191 160 87 = h 160 87 := (p87_u191).trans k87_h
                            have k88_u191x : h 160 88 ≤ u191 160 88 ∧ u191 160 88 ≤ h 160 88 + 2 * (Cm s b - Cm s (e + 1)) := by omega
                            clear k50_h k54_h k57_h k68_h k70_h k72_h k78_h k84_h k87_h k88_h p70_u191 p68_u191 p78_u191 p88_u191 p50_u191 p54_u191 p57_u191 p72_u191 p84_u191 p87_u191 J_u191 R_u191
                            clear T_u191 Y_u191 D_u191
                            refine ok_if (fun C114 => ?_) (fun C114 => ?_)
                            · skip
                              unfold qj_X13_workOne_508
                              refine ok_sv (cw_put hn C_u191 (by omega) (by omega)) ?_; intro u22 P_u22
                              obtain ⟨C_u22, k68_u22, N_u22⟩ := P_u22
                              have k50_u22x : u22 160 50 = h 160 50 := (N_u22 160 50 (by decide) (by decide)).trans k50_u191x
                              have k54_u22x : u22 160 54 = h 160 54 := (N_u22 160 54 (by decide) (by decide)).trans k54_u191x
                              have k57_u22x : u22 160 57 = h 160 57 := (N_u22 160 57 (by decide) (by decide)).trans k57_u191x
                              have k68_u22x : h 160 68 + 1 ≤ u22 160 68 ∧ u22 160 68 ≤ h 160 68 + 20 * (Cm s b - Cm s (e + 1)) + 1 := by omega
                              have k70_u22x : u22 160 70 = h 160 70 + 1 := (N_u22 160 70 (by decide) (by decide)).trans k70_u191x
                              have k72_u22x : u22 160 72 = h 160 72 := (N_u22 160 72 (by decide) (by decide)).trans k72_u191x
                              have k78_u22x : h 160 78 ≤ u22 160 78 ∧ u22 160 78 ≤ h 160 78 + 2 * (Cm s b - Cm s (e + 1)) := by rw [show u22 160 78 = _ from N_u22 160 78 (by decide) (by decide)]; exact k78_u191x
                              have k84_u22x : u22 160 84 = h 160 84 := (N_u22 160 84 (by decide) (by decide)).trans k84_u191x
                              have k87_u22x : u22 160 87 = h 160 87 := (N_u22 160 87 (by decide) (by decide)).trans k87_u191x
                              have k88_u22x : h 160 88 ≤ u22 160 88 ∧ u22 160 88 ≤ h 160 88 + 2 * (Cm s b - Cm s (e + 1)) := by rw [show u22 160 88 = _ from N_u22 160 88 (by decide) (by decide)]; exact k88_u191x
                              have J115 : ∀ i : Nat, (i : Int) < h 160 87 → u22 217 i = h 217 i ∧ u22 218 i = h 218 i := fun i hi => by rw [show u22 217 i = u191 217 i from N_u22 217 i (by decide) (by omega), show u22 218 i = u191 218 i from N_u22 218 i (by decide) (by omega)]; exact J112 i hi
                              have R116 : ∀ j : Nat, (j : Int) < h 160 57 → u22 199 j = h 199 j := fun j hj => (show u22 199 j = u191 199 j from N_u22 199 j (by decide) (by omega)).trans (R113 j hj)
                              clear k50_u191x k54_u191x k57_u191x k68_u191x k70_u191x k72_u191x k78_u191x k84_u191x k87_u191x k88_u191x k68_u22
                              refine ok_sv (cw_turn C_u22 (by omega) (by omega) (by omega)) ?_; intro u24 P_u24
                              obtain ⟨C_u24, p70_u24, p68_u24, p78_u24, p88_u24, ⟨p50_u24, p54_u24, p57_u24, p72_u24, p84_u24, p87_u24⟩, J_u24, R_u24⟩ := P_u24
                              have J117 : ∀ i : Nat, (i : Int) < h 160 87 → u24 217 i = h 217 i ∧ u24 218 i = h 218 i := fun i hi => by rw [(J_u24 i (by omega)).1, (J_u24 i (by omega)).2]; exact J115 i hi
                              have R118 : ∀ j : Nat, (j : Int) < h 160 57 → u24 199 j = h 199 j := fun j hj => (R_u24 j (by omega)).trans (R116 j hj)
                              have k50_u24x : u24 160 50 = h 160 50 := (p50_u24).trans k50_u22x
                              have k54_u24x : u24 160 54 = h 160 54 := (p54_u24).trans k54_u22x
                              have k57_u24x : u24 160 57 = h 160 57 := (p57_u24).trans k57_u22x
                              have k68_u24x : h 160 68 + 1 ≤ u24 160 68 ∧ u24 160 68 ≤ h 160 68 + 20 * (Cm s b - Cm s (e + 1)) + 1 + 0 := by omega
                              have k70_u24x : u24 160 70 = h 160 70 + 1 - 2 + tv v59 := by omega
                              have k72_u24x : u24 160 72 = h 160 72 := (p72_u24).trans k72_u22x
                              have k78_u24x : h 160 78 ≤ u24 160 78 ∧ u24 160 78 ≤ h 160 78 + 2 * (Cm s b - Cm s (e + 1)) + 0 := by omega
                              have k84_u24x : u24 160 84 = h 160 84 := (p84_u24).trans k84_u22x
                              have k87_u24x : u24 160 87 = h 160 87 := (p87_u24).trans k87_u22x
                              have k88_u24x : h 160 88 ≤ u24 160 88 ∧ u24 160 88 ≤ h 160 88 + 2 * (Cm s b - Cm s (e + 1)) + 0 := by omega
                              clear k50_u22x k54_u22x k57_u22x k68_u22x k70_u22x k72_u22x k78_u22x k84_u22x k87_u22x k88_u22x p70_u24 p68_u24 p78_u24 p88_u24 p50_u24 p54_u24 p57_u24 p72_u24 p84_u24 p87_u24 J_u24 R_u24
                              exact ok_ret ⟨cw_le C_u24 (by omega), by omega, by omega, by omega, by omega, by omega, J117, R118⟩
                            · skip
                              unfold qj_X13_workOne_508
                              refine ok_sv (cw_put hn C_u191 (by omega) (by omega)) ?_; intro u22 P_u22
                              obtain ⟨C_u22, k68_u22, N_u22⟩ := P_u22
                              have k50_u22x : u22 160 50 = h 160 50 := (N_u22 160 50 (by decide) (by decide)).trans k50_u191x
                              have k54_u22x : u22 160 54 = h 160 54 := (N_u22 160 54 (by decide) (by decide)).trans k54_u191x
                              have k57_u22x : u22 160 57 = h 160 57 := (N_u22 160 57 (by decide) (by decide)).trans k57_u191x
                              have k68_u22x : h 160 68 + 1 ≤ u22 160 68 ∧ u22 160 68 ≤ h 160 68 + 20 * (Cm s b - Cm s (e + 1)) + 1 := by omega
                              have k70_u22x : u22 160 70 = h 160 70 + 1 := (N_u22 160 70 (by decide) (by decide)).trans k70_u191x
                              have k72_u22x : u22 160 72 = h 160 72 := (N_u22 160 72 (by decide) (by decide)).trans k72_u191x
                              have k78_u22x : h 160 78 ≤ u22 160 78 ∧ u22 160 78 ≤ h 160 78 + 2 * (Cm s b - Cm s (e + 1)) := by rw [show u22 160 78 = _ from N_u22 160 78 (by decide) (by decide)]; exact k78_u191x
                              have k84_u22x : u22 160 84 = h 160 84 := (N_u22 160 84 (by decide) (by decide)).trans k84_u191x
                              have k87_u22x : u22 160 87 = h 160 87 := (N_u22 160 87 (by decide) (by decide)).trans k87_u191x
                              have k88_u22x : h 160 88 ≤ u22 160 88 ∧ u22 160 88 ≤ h 160 88 + 2 * (Cm s b - Cm s (e + 1)) := by rw [show u22 160 88 = _ from N_u22 160 88 (by decide) (by decide)]; exact k88_u191x
                              have J119 : ∀ i : Nat, (i : Int) < h 160 87 → u22 217 i = h 217 i ∧ u22 218 i = h 218 i := fun i hi => by rw [show u22 217 i = u191 217 i from N_u22 217 i (by decide) (by omega), show u22 218 i = u191 218 i from N_u22 218 i (by decide) (by omega)]; exact J112 i hi
                              have R120 : ∀ j : Nat, (j : Int) < h 160 57 → u22 199 j = h 199 j := fun j hj => (show u22 199 j = u191 199 j from N_u22 199 j (by decide) (by omega)).trans (R113 j hj)
                              clear k50_u191x k54_u191x k57_u191x k68_u191x k70_u191x k72_u191x k78_u191x k84_u191x k87_u191x k88_u191x k68_u22
                              refine ok_sv (cw_turn C_u22 (by omega) (by omega) (by omega)) ?_; intro u24 P_u24
                              obtain ⟨C_u24, p70_u24, p68_u24, p78_u24, p88_u24, ⟨p50_u24, p54_u24, p57_u24, p72_u24, p84_u24, p87_u24⟩, J_u24, R_u24⟩ := P_u24
                              have J121 : ∀ i : Nat, (i : Int) < h 160 87 → u24 217 i = h 217 i ∧ u24 218 i = h 218 i := fun i hi => by rw [(J_u24 i (by omega)).1, (J_u24 i (by omega)).2]; exact J119 i hi
                              have R122 : ∀ j : Nat, (j : Int) < h 160 57 → u24 199 j = h 199 j := fun j hj => (R_u24 j (by omega)).trans (R120 j hj)
                              have k50_u24x : u24 160 50 = h 160 50 := (p50_u24).trans k50_u22x
                              have k54_u24x : u24 160 54 = h 160 54 := (p54_u24).trans k54_u22x
                              have k57_u24x : u24 160 57 = h 160 57 := (p57_u24).trans k57_u22x
                              have k68_u24x : h 160 68 + 1 ≤ u24 160 68 ∧ u24 160 68 ≤ h 160 68 + 20 * (Cm s b - Cm s (e + 1)) + 1 + 0 := by omega
                              have k70_u24x : u24 160 70 = h 160 70 + 1 - 2 + tv v59 := by omega
                              have k72_u24x : u24 160 72 = h 160 72 := (p72_u24).trans k72_u22x
                              have k78_u24x : h 160 78 ≤ u24 160 78 ∧ u24 160 78 ≤ h 160 78 + 2 * (Cm s b - Cm s (e + 1)) + 0 := by omega
                              have k84_u24x : u24 160 84 = h 160 84 := (p84_u24).trans k84_u22x
                              have k87_u24x : u24 160 87 = h 160 87 := (p87_u24).trans k87_u22x
                              have k88_u24x : h 160 88 ≤ u24 160 88 ∧ u24 160 88 ≤ h 160 88 + 2 * (Cm s b - Cm s (e + 1)) + 0 := by omega
                              clear k50_u22x k54_u22x k57_u22x k68_u22x k70_u22x k72_u22x k78_u22x k84_u22x k87_u22x k88_u22x p70_u24 p68_u24 p78_u24 p88_u24 p50_u24 p54_u24 p57_u24 p72_u24 p84_u24 p87_u24 J_u24 R_u24
                              exact ok_ret ⟨cw_le C_u24 (by omega), by omega, by omega, by omega, by omega, by omega, J121, R122⟩
                          · skip
                            refine ok_if (fun C123 => ?_) (fun C123 => ?_)
                            · skip
                              have hk : s 167 e.toNat = 33 := by omega
                              rw [hk, show wt 33 = 1 by decide] at cm3
                              obtain ⟨hx1, hx2⟩ : a = x ∧ q = 0 := by rcases hx with z | z; exact absurd z.2.2 (by unfold led; omega); exact ⟨z.1.symm, z.2.1⟩
                              subst hx1 hx2
                              clear hx
                              have hE : dv s e = tv v59 := by rw [t_v59]; rfl
                              have hG : ¬ v59 = 3 := by rw [t_v59]; rcases gv0 with z | z | z; exact z; exfalso; omega; exfalso; omega
                              have hD : tv v59 = 1 := if_neg hG
                              clear gv0
                              refine ok_rd (by omega) (gA_170 C0.1.1) ?_; intro v194 e_v194 a_v194 b_v194
                              have t_v194 : v194 = s 170 (e).toNat := by rw [e_v194]; exact C0.1.2.1 170 _ (nw_ar rfl _)
                              clear e_v194
                              have T_u196 : TE 0 s 0 (d - 2 - 2 * 0) (e + 1) b v194 := by rw [t_v194]; exact te_k33 T (by omega)
                              have Y_u196 := yo_33 Y (by omega); rw [← t_v194] at Y_u196
                              have g_u196 := te_rg T_u196
                              have D_u196 : dv s v194 = 1 := if_neg Y_u196.1
                              have m_u196 := cm_mono (s := s) (a := (e + 1)) (b := b) (by omega) (by omega)
                              refine ok_sv (G.1 v194 _ _ _ _ _ _ _ C0 T_u196 Y_u196.2 (.inl Y_u196.1) (by omega) (by omega) ⟨⟨by omega, by omega⟩, by omega, by omega, by omega, by omega, by omega, by omega⟩) ?_; intro u196 P_u196
                              rw [D_u196] at P_u196
                              obtain ⟨C_u196, p70_u196, p68_u196, p78_u196, p88_u196, ⟨p50_u196, p54_u196, p57_u196, p72_u196, p84_u196, p87_u196⟩, J_u196, R_u196⟩ := P_u196
                              have J124 : ∀ i : Nat, (i : Int) < h 160 87 → u196 217 i = h 217 i ∧ u196 218 i = h 218 i := fun i hi => by rw [(J_u196 i (by omega)).1, (J_u196 i (by omega)).2]; exact J0 i hi
                              have R125 : ∀ j : Nat, (j : Int) < h 160 57 → u196 199 j = h 199 j := fun j hj => (R_u196 j (by omega)).trans (R0 j hj)
                              have k50_u196x : u196 160 50 = h 160 50 := (p50_u196).trans k50_h
                              have k54_u196x : u196 160 54 = h 160 54 := (p54_u196).trans k54_h
                              have k57_u196x : u196 160 57 = h 160 57 := (p57_u196).trans k57_h
                              have k68_u196x : h 160 68 ≤ u196 160 68 ∧ u196 160 68 ≤ h 160 68 + 20 * (Cm s b - Cm s (e + 1)) := by omega
                              have k70_u196x : u196 160 70 = h 160 70 + 1 := by omega
                              have k72_u196x : u196 160 72 = h 160 72 := (p72_u196).trans k72_h
                              have k78_u196x : h 160 78 ≤ u196 160 78 ∧ u196 160 78 ≤ h 160 78 + 2 * (Cm s b - Cm s (e + 1)) := by omega
                              have k84_u196x : u196 160 84 = h 160 84 := (p84_u196).trans k84_h
                              have k87_u196x : u196 160 87 = h 160 87 := (p87_u196).trans k87_h
                              have k88_u196x : h 160 88 ≤ u196 160 88 ∧ u196 160 88 ≤ h 160 88 + 2 * (Cm s b - Cm s (e + 1)) := by omega
                              clear k50_h k54_h k57_h k68_h k70_h k72_h k78_h k84_h k87_h k88_h p70_u196 p68_u196 p78_u196 p88_u196 p50_u196 p54_u196 p57_u196 p72_u196 p84_u196 p87_u196 J_u196 R_u196
                              clear T_u196 Y_u196 D_u196
                              refine ok_sv (cw_put hn C_u196 (by omega) (by omega)) ?_; intro u198 P_u198
                              obtain ⟨C_u198, k68_u198, N_u198⟩ := P_u198
                              have k50_u198x : u198 160 50 = h 160 50 := (N_u198 160 50 (by decide) (by decide)).trans k50_u196x
                              have k54_u198x : u198 160 54 = h 160 54 := (N_u198 160 54 (by decide) (by decide)).trans k54_u196x
                              have k57_u198x : u198 160 57 = h 160 57 := (N_u198 160 57 (by decide) (by decide)).trans k57_u196x
                              have k68_u198x : h 160 68 + 1 ≤ u198 160 68 ∧ u198 160 68 ≤ h 160 68 + 20 * (Cm s b - Cm s (e + 1)) + 1 := by omega
                              have k70_u198x : u198 160 70 = h 160 70 + 1 := (N_u198 160 70 (by decide) (by decide)).trans k70_u196x
                              have k72_u198x : u198 160 72 = h 160 72 := (N_u198 160 72 (by decide) (by decide)).trans k72_u196x
                              have k78_u198x : h 160 78 ≤ u198 160 78 ∧ u198 160 78 ≤ h 160 78 + 2 * (Cm s b - Cm s (e + 1)) := by rw [show u198 160 78 = _ from N_u198 160 78 (by decide) (by decide)]; exact k78_u196x
                              have k84_u198x : u198 160 84 = h 160 84 := (N_u198 160 84 (by decide) (by decide)).trans k84_u196x
                              have k87_u198x : u198 160 87 = h 160 87 := (N_u198 160 87 (by decide) (by decide)).trans k87_u196x
                              have k88_u198x : h 160 88 ≤ u198 160 88 ∧ u198 160 88 ≤ h 160 88 + 2 * (Cm s b - Cm s (e + 1)) := by rw [show u198 160 88 = _ from N_u198 160 88 (by decide) (by decide)]; exact k88_u196x
                              have J126 : ∀ i : Nat, (i : Int) < h 160 87 → u198 217 i = h 217 i ∧ u198 218 i = h 218 i := fun i hi => by rw [show u198 217 i = u196 217 i from N_u198 217 i (by decide) (by omega), show u198 218 i = u196 218 i from N_u198 218 i (by decide) (by omega)]; exact J124 i hi
                              have R127 : ∀ j : Nat, (j : Int) < h 160 57 → u198 199 j = h 199 j := fun j hj => (show u198 199 j = u196 199 j from N_u198 199 j (by decide) (by omega)).trans (R125 j hj)
                              clear k50_u196x k54_u196x k57_u196x k68_u196x k70_u196x k72_u196x k78_u196x k84_u196x k87_u196x k88_u196x k68_u198
                              exact ok_ret ⟨cw_le C_u198 (by omega), by omega, by omega, by omega, by omega, by omega, J126, R127⟩
                            · skip
                              refine ok_if (fun C128 => ?_) (fun C128 => ?_)
                              · skip
                                have hk : s 167 e.toNat = 34 := by omega
                                rw [hk, show wt 34 = 1 by decide] at cm3
                                obtain ⟨hx1, hx2⟩ : a = x ∧ q = 0 := by rcases hx with z | z; exact absurd z.2.2 (by unfold led; omega); exact ⟨z.1.symm, z.2.1⟩
                                subst hx1 hx2
                                clear hx
                                have hE : dv s e = tv v59 := by rw [t_v59]; rfl
                                have hG : ¬ v59 = 3 := by rw [t_v59]; rcases gv0 with z | z | z; exact z; exfalso; omega; exfalso; omega
                                have hD : tv v59 = 1 := if_neg hG
                                clear gv0
                                refine ok_rd (by omega) (gA_170 C0.1.1) ?_; intro v200 e_v200 a_v200 b_v200
                                have t_v200 : v200 = s 170 (e).toNat := by rw [e_v200]; exact C0.1.2.1 170 _ (nw_ar rfl _)
                                clear e_v200
                                have T_u202 : TE 0 s 0 (d - 2 - 2 * 0) (e + 1) b v200 := by rw [t_v200]; exact te_k33 T (by omega)
                                have Y_u202 := yo_33 Y (by omega); rw [← t_v200] at Y_u202
                                have g_u202 := te_rg T_u202
                                have D_u202 : dv s v200 = 1 := if_neg Y_u202.1
                                have m_u202 := cm_mono (s := s) (a := (e + 1)) (b := b) (by omega) (by omega)
                                refine ok_sv (G.1 v200 _ _ _ _ _ _ _ C0 T_u202 Y_u202.2 (.inl Y_u202.1) (by omega) (by omega) ⟨⟨by omega, by omega⟩, by omega, by omega, by omega, by omega, by omega, by omega⟩) ?_; intro u202 P_u202
                                rw [D_u202] at P_u202
                                obtain ⟨C_u202, p70_u202, p68_u202, p78_u202, p88_u202, ⟨p50_u202, p54_u202, p57_u202, p72_u202, p84_u202, p87_u202⟩, J_u202, R_u202⟩ := P_u202
                                have J129 : ∀ i : Nat, (i : Int) < h 160 87 → u202 217 i = h 217 i ∧ u202 218 i = h 218 i := fun i hi => by rw [(J_u202 i (by omega)).1, (J_u202 i (by omega)).2]; exact J0 i hi
                                have R130 : ∀ j : Nat, (j : Int) < h 160 57 → u202 199 j = h 199 j := fun j hj => (R_u202 j (by omega)).trans (R0 j hj)
                                have k50_u202x : u202 160 50 = h 160 50 := (p50_u202).trans k50_h
                                have k54_u202x : u202 160 54 = h 160 54 := (p54_u202).trans k54_h
                                have k57_u202x : u202 160 57 = h 160 57 := (p57_u202).trans k57_h
                                have k68_u202x : h 160 68 ≤ u202 160 68 ∧ u202 160 68 ≤ h 160 68 + 20 * (Cm s b - Cm s (e + 1)) := by omega
                                have k70_u202x : u202 160 70 = h 160 70 + 1 := by omega
                                have k72_u202x : u202 160 72 = h 160 72 := (p72_u202).trans k72_h
                                have k78_u202x : h 160 78 ≤ u202 160 78 ∧ u202 160 78 ≤ h 160 78 + 2 * (Cm s b - Cm s (e + 1)) := by omega
                                have k84_u202x : u202 160 84 = h 160 84 := (p84_u202).trans k84_h
                                have k87_u202x : u202 160 87 = h 160 87 := (p87_u202).trans k87_h
                                have k88_u202x : h 160 88 ≤ u202 160 88 ∧ u202 160 88 ≤ h 160 88 + 2 * (Cm s b - Cm s (e + 1)) := by omega
                                clear k50_h k54_h k57_h k68_h k70_h k72_h k78_h k84_h k87_h k88_h p70_u202 p68_u202 p78_u202 p88_u202 p50_u202 p54_u202 p57_u202 p72_u202 p84_u202 p87_u202 J_u202 R_u202
                                clear T_u202 Y_u202 D_u202
                                refine ok_sv (cw_truth hn C_u202 (by omega) (by omega) (by omega) (by omega) (by omega) (by omega) (by omega)) ?_; intro u204 P_u204
                                obtain ⟨C_u204, p70_u204, p68_u204, p78_u204, p88_u204, ⟨p50_u204, p54_u204, p57_u204, p72_u204, p84_u204, p87_u204⟩, J_u204, R_u204⟩ := P_u204
                                have J131 : ∀ i : Nat, (i : Int) < h 160 87 → u204 217 i = h 217 i ∧ u204 218 i = h 218 i := fun i hi => by rw [(J_u204 i (by omega)).1, (J_u204 i (by omega)).2]; exact J129 i hi
                                have R132 : ∀ j : Nat, (j : Int) < h 160 57 → u204 199 j = h 199 j := fun j hj => (R_u204 j (by omega)).trans (R130 j hj)
                                have k50_u204x : u204 160 50 = h 160 50 := (p50_u204).trans k50_u202x
                                have k54_u204x : u204 160 54 = h 160 54 := (p54_u204).trans k54_u202x
                                have k57_u204x : u204 160 57 = h 160 57 := (p57_u204).trans k57_u202x
                                have k68_u204x : h 160 68 ≤ u204 160 68 ∧ u204 160 68 ≤ h 160 68 + 20 * (Cm s b - Cm s (e + 1)) + 10 := by omega
                                have k70_u204x : u204 160 70 = h 160 70 + 1 - 1 + 1 := by omega
                                have k72_u204x : u204 160 72 = h 160 72 := (p72_u204).trans k72_u202x
                                have k78_u204x : h 160 78 ≤ u204 160 78 ∧ u204 160 78 ≤ h 160 78 + 2 * (Cm s b - Cm s (e + 1)) + 2 := by omega
                                have k84_u204x : u204 160 84 = h 160 84 := (p84_u204).trans k84_u202x
                                have k87_u204x : u204 160 87 = h 160 87 := (p87_u204).trans k87_u202x
                                have k88_u204x : h 160 88 ≤ u204 160 88 ∧ u204 160 88 ≤ h 160 88 + 2 * (Cm s b - Cm s (e + 1)) + 2 := by omega
                                clear k50_u202x k54_u202x k57_u202x k68_u202x k70_u202x k72_u202x k78_u202x k84_u202x k87_u202x k88_u202x p70_u204 p68_u204 p78_u204 p88_u204 p50_u204 p54_u204 p57_u204 p72_u204 p84_u204 p87_u204 J_u204 R_u204
                                exact ok_ret ⟨cw_le C_u204 (by omega), by omega, by omega, by omega, by omega, by omega, J131, R132⟩
                              · skip
                                refine ok_if (fun C133 => ?_) (fun C133 => ?_)
                                · skip
                                  have hk : s 167 e.toNat = 35 := by omega
                                  rw [hk, show wt 35 = 1 by decide] at cm3
                                  obtain ⟨hx1, hx2⟩ : a = x ∧ q = 0 := by rcases hx with z | z; exact absurd z.2.2 (by unfold led; omega); exact ⟨z.1.symm, z.2.1⟩
                                  subst hx1 hx2
                                  clear hx
                                  have hE : dv s e = tv v59 := by rw [t_v59]; rfl
                                  have hG : ¬ v59 = 3 := by rw [t_v59]; rcases gv0 with z | z | z; exact z; exfalso; omega; exfalso; omega
                                  have hD : tv v59 = 1 := if_neg hG
                                  clear gv0
                                  refine ok_rd (by omega) (gA_170 C0.1.1) ?_; intro v206 e_v206 a_v206 b_v206
                                  have t_v206 : v206 = s 170 (e).toNat := by rw [e_v206]; exact C0.1.2.1 170 _ (nw_ar rfl _)
                                  clear e_v206
                                  have T_u208 : TE 0 s 0 (d - 2 - 2 * 0) (e + 1) b v206 := by rw [t_v206]; exact te_k33 T (by omega)
                                  have Y_u208 := yo_33 Y (by omega); rw [← t_v206] at Y_u208
                                  have g_u208 := te_rg T_u208
                                  have D_u208 : dv s v206 = 1 := if_neg Y_u208.1
                                  have m_u208 := cm_mono (s := s) (a := (e + 1)) (b := b) (by omega) (by omega)
                                  refine ok_sv (G.1 v206 _ _ _ _ _ _ _ C0 T_u208 Y_u208.2 (.inl Y_u208.1) (by omega) (by omega) ⟨⟨by omega, by omega⟩, by omega, by omega, by omega, by omega, by omega, by omega⟩) ?_; intro u208 P_u208
                                  rw [D_u208] at P_u208
                                  obtain ⟨C_u208, p70_u208, p68_u208, p78_u208, p88_u208, ⟨p50_u208, p54_u208, p57_u208, p72_u208, p84_u208, p87_u208⟩, J_u208, R_u208⟩ := P_u208
                                  have J134 : ∀ i : Nat, (i : Int) < h 160 87 → u208 217 i = h 217 i ∧ u208 218 i = h 218 i := fun i hi => by rw [(J_u208 i (by omega)).1, (J_u208 i (by omega)).2]; exact J0 i hi
                                  have R135 : ∀ j : Nat, (j : Int) < h 160 57 → u208 199 j = h 199 j := fun j hj => (R_u208 j (by omega)).trans (R0 j hj)
                                  have k50_u208x : u208 160 50 = h 160 50 := (p50_u208).trans k50_h
                                  have k54_u208x : u208 160 54 = h 160 54 := (p54_u208).trans k54_h
                                  have k57_u208x : u208 160 57 = h 160 57 := (p57_u208).trans k57_h
                                  have k68_u208x : h 160 68 ≤ u208 160 68 ∧ u208 160 68 ≤ h 160 68 + 20 * (Cm s b - Cm s (e + 1)) := by omega
                                  have k70_u208x : u208 160 70 = h 160 70 + 1 := by omega
                                  have k72_u208x : u208 160 72 = h 160 72 := (p72_u208).trans k72_h
                                  have k78_u208x : h 160 78 ≤ u208 160 78 ∧ u208 160 78 ≤ h 160 78 + 2 * (Cm s b - Cm s (e + 1)) := by omega
                                  have k84_u208x : u208 160 84 = h 160 84 := (p84_u208).trans k84_h
                                  have k87_u208x : u208 160 87 = h 160 87 := (p87_u208).trans k87_h
                                  have k88_u208x : h 160 88 ≤ u208 160 88 ∧ u208 160 88 ≤ h 160 88 + 2 * (Cm s b - Cm s (e + 1)) := by omega
                                  clear k50_h k54_h k57_h k68_h k70_h k72_h k78_h k84_h k87_h k88_h p70_u208 p68_u208 p78_u208 p88_u208 p50_u208 p54_u208 p57_u208 p72_u208 p84_u208 p87_u208 J_u208 R_u208
                                  clear T_u208 Y_u208 D_u208
                                  refine ok_sv (cw_put hn C_u208 (by omega) (by omega)) ?_; intro u210 P_u210
                                  obtain ⟨C_u210, k68_u210, N_u210⟩ := P_u210
                                  have k50_u210x : u210 160 50 = h 160 50 := (N_u210 160 50 (by decide) (by decide)).trans k50_u208x
                                  have k54_u210x : u210 160 54 = h 160 54 := (N_u210 160 54 (by decide) (by decide)).trans k54_u208x
                                  have k57_u210x : u210 160 57 = h 160 57 := (N_u210 160 57 (by decide) (by decide)).trans k57_u208x
                                  have k68_u210x : h 160 68 + 1 ≤ u210 160 68 ∧ u210 160 68 ≤ h 160 68 + 20 * (Cm s b - Cm s (e + 1)) + 1 := by omega
                                  have k70_u210x : u210 160 70 = h 160 70 + 1 := (N_u210 160 70 (by decide) (by decide)).trans k70_u208x
                                  have k72_u210x : u210 160 72 = h 160 72 := (N_u210 160 72 (by decide) (by decide)).trans k72_u208x
                                  have k78_u210x : h 160 78 ≤ u210 160 78 ∧ u210 160 78 ≤ h 160 78 + 2 * (Cm s b - Cm s (e + 1)) := by rw [show u210 160 78 = _ from N_u210 160 78 (by decide) (by decide)]; exact k78_u208x
                                  have k84_u210x : u210 160 84 = h 160 84 := (N_u210 160 84 (by decide) (by decide)).trans k84_u208x
                                  have k87_u210x : u210 160 87 = h 160 87 := (N_u210 160 87 (by decide) (by decide)).trans k87_u208x
                                  have k88_u210x : h 160 88 ≤ u210 160 88 ∧ u210 160 88 ≤ h 160 88 + 2 * (Cm s b - Cm s (e + 1)) := by rw [show u210 160 88 = _ from N_u210 160 88 (by decide) (by decide)]; exact k88_u208x
                                  have J136 : ∀ i : Nat, (i : Int) < h 160 87 → u210 217 i = h 217 i ∧ u210 218 i = h 218 i := fun i hi => by rw [show u210 217 i = u208 217 i from N_u210 217 i (by decide) (by omega), show u210 218 i = u208 218 i from N_u210 218 i (by decide) (by omega)]; exact J134 i hi
                                  have R137 : ∀ j : Nat, (j : Int) < h 160 57 → u210 199 j = h 199 j := fun j hj => (show u210 199 j = u208 199 j from N_u210 199 j (by decide) (by omega)).trans (R135 j hj)
                                  clear k50_u208x k54_u208x k57_u208x k68_u208x k70_u208x k72_u208x k78_u208x k84_u208x k87_u208x k88_u208x k68_u210
                                  refine ok_sv (cw_push C_u210 (by omega) (by omega)) ?_; intro u212 P_u212
                                  obtain ⟨C_u212, k70_u212, N_u212⟩ := P_u212
                                  have k50_u212x : u212 160 50 = h 160 50 := (N_u212 160 50 (by decide) (by decide)).trans k50_u210x
                                  have k54_u212x : u212 160 54 = h 160 54 := (N_u212 160 54 (by decide) (by decide)).trans k54_u210x
                                  have k57_u212x : u212 160 57 = h 160 57 := (N_u212 160 57 (by decide) (by decide)).trans k57_u210x
                                  have k68_u212x : h 160 68 + 1 ≤ u212 160 68 ∧ u212 160 68 ≤ h 160 68 + 20 * (Cm s b - Cm s (e + 1)) + 1 := by rw [show u212 160 68 = _ from N_u212 160 68 (by decide) (by decide)]; exact k68_u210x
                                  have k70_u212x : u212 160 70 = h 160 70 + 1 + 1 := by omega
                                  have k72_u212x : u212 160 72 = h 160 72 := (N_u212 160 72 (by decide) (by decide)).trans k72_u210x
                                  have k78_u212x : h 160 78 ≤ u212 160 78 ∧ u212 160 78 ≤ h 160 78 + 2 * (Cm s b - Cm s (e + 1)) := by rw [show u212 160 78 = _ from N_u212 160 78 (by decide) (by decide)]; exact k78_u210x
                                  have k84_u212x : u212 160 84 = h 160 84 := (N_u212 160 84 (by decide) (by decide)).trans k84_u210x
                                  have k87_u212x : u212 160 87 = h 160 87 := (N_u212 160 87 (by decide) (by decide)).trans k87_u210x
                                  have k88_u212x : h 160 88 ≤ u212 160 88 ∧ u212 160 88 ≤ h 160 88 + 2 * (Cm s b - Cm s (e + 1)) := by rw [show u212 160 88 = _ from N_u212 160 88 (by decide) (by decide)]; exact k88_u210x
                                  have J138 : ∀ i : Nat, (i : Int) < h 160 87 → u212 217 i = h 217 i ∧ u212 218 i = h 218 i := fun i hi => by rw [show u212 217 i = u210 217 i from N_u212 217 i (by decide) (by omega), show u212 218 i = u210 218 i from N_u212 218 i (by decide) (by omega)]; exact J136 i hi
                                  have R139 : ∀ j : Nat, (j : Int) < h 160 57 → u212 199 j = h 199 j := fun j hj => (show u212 199 j = u210 199 j from N_u212 199 j (by decide) (by omega)).trans (R137 j hj)
                                  clear k50_u210x k54_u210x k57_u210x k68_u210x k70_u210x k72_u210x k78_u210x k84_u210x k87_u210x k88_u210x k70_u212
                                  refine ok_sv (cw_put hn C_u212 (by omega) (by omega)) ?_; intro u214 P_u214
                                  obtain ⟨C_u214, k68_u214, N_u214⟩ := P_u214
                                  have k50_u214x : u214 160 50 = h 160 50 := (N_u214 160 50 (by decide) (by decide)).trans k50_u212x
                                  have k54_u214x : u214 160 54 = h 160 54 := (N_u214 160 54 (by decide) (by decide)).trans k54_u212x
                                  have k57_u214x : u214 160 57 = h 160 57 := (N_u214 160 57 (by decide) (by decide)).trans k57_u212x
                                  have k68_u214x : h 160 68 + 1 + 1 ≤ u214 160 68 ∧ u214 160 68 ≤ h 160 68 + 20 * (Cm s b - Cm s (e + 1)) + 1 + 1 := by omega
                                  have k70_u214x : u214 160 70 = h 160 70 + 1 + 1 := (N_u214 160 70 (by decide) (by decide)).trans k70_u212x
                                  have k72_u214x : u214 160 72 = h 160 72 := (N_u214 160 72 (by decide) (by decide)).trans k72_u212x
                                  have k78_u214x : h 160 78 ≤ u214 160 78 ∧ u214 160 78 ≤ h 160 78 + 2 * (Cm s b - Cm s (e + 1)) := by rw [show u214 160 78 = _ from N_u214 160 78 (by decide) (by decide)]; exact k78_u212x
                                  have k84_u214x : u214 160 84 = h 160 84 := (N_u214 160 84 (by decide) (by decide)).trans k84_u212x
                                  have k87_u214x : u214 160 87 = h 160 87 := (N_u214 160 87 (by decide) (by decide)).trans k87_u212x
                                  have k88_u214x : h 160 88 ≤ u214 160 88 ∧ u214 160 88 ≤ h 160 88 + 2 * (Cm s b - Cm s (e + 1)) := by rw [show u214 160 88 = _ from N_u214 160 88 (by decide) (by decide)]; exact k88_u212x
                                  have J140 : ∀ i : Nat, (i : Int) < h 160 87 → u214 217 i = h 217 i ∧ u214 218 i = h 218 i := fun i hi => by rw [show u214 217 i = u212 217 i from N_u214 217 i (by decide) (by omega), show u214 218 i = u212 218 i from N_u214 218 i (by decide) (by omega)]; exact J138 i hi
                                  have R141 : ∀ j : Nat, (j : Int) < h 160 57 → u214 199 j = h 199 j := fun j hj => (show u214 199 j = u212 199 j from N_u214 199 j (by decide) (by omega)).trans (R139 j hj)
                                  clear k50_u212x k54_u212x k57_u212x k68_u212x k70_u212x k72_u212x k78_u212x k84_u212x k87_u212x k88_u212x k68_u214
                                  refine ok_sv (cw_turn C_u214 (by omega) (by omega) (by omega)) ?_; intro u216 P_u216
                                  have tv0_u216 : tv 0 = 1 := by decide
                                  obtain ⟨C_u216, p70_u216, p68_u216, p78_u216, p88_u216, ⟨p50_u216, p54_u216, p57_u216, p72_u216, p84_u216, p87_u216⟩, J_u216, R_u216⟩ := P_u216
                                  have J142 : ∀ i : Nat, (i : Int) < h 160 87 → u216 217 i = h 217 i ∧ u216 218 i = h 218 i := fun i hi => by rw [(J_u216 i (by omega)).1, (J_u216 i (by omega)).2]; exact J140 i hi
                                  have R143 : ∀ j : Nat, (j : Int) < h 160 57 → u216 199 j = h 199 j := fun j hj => (R_u216 j (by omega)).trans (R141 j hj)
                                  have k50_u216x : u216 160 50 = h 160 50 := (p50_u216).trans k50_u214x
                                  have k54_u216x : u216 160 54 = h 160 54 := (p54_u216).trans k54_u214x
                                  have k57_u216x : u216 160 57 = h 160 57 := (p57_u216).trans k57_u214x
                                  have k68_u216x : h 160 68 + 1 + 1 ≤ u216 160 68 ∧ u216 160 68 ≤ h 160 68 + 20 * (Cm s b - Cm s (e + 1)) + 1 + 1 + 0 := by omega
                                  have k70_u216x : u216 160 70 = h 160 70 + 1 + 1 - 2 + tv 0 := by omega
                                  have k72_u216x : u216 160 72 = h 160 72 := (p72_u216).trans k72_u214x
                                  have k78_u216x : h 160 78 ≤ u216 160 78 ∧ u216 160 78 ≤ h 160 78 + 2 * (Cm s b - Cm s (e + 1)) + 0 := by omega
                                  have k84_u216x : u216 160 84 = h 160 84 := (p84_u216).trans k84_u214x
                                  have k87_u216x : u216 160 87 = h 160 87 := (p87_u216).trans k87_u214x
                                  have k88_u216x : h 160 88 ≤ u216 160 88 ∧ u216 160 88 ≤ h 160 88 + 2 * (Cm s b - Cm s (e + 1)) + 0 := by omega
                                  clear k50_u214x k54_u214x k57_u214x k68_u214x k70_u214x k72_u214x k78_u214x k84_u214x k87_u214x k88_u214x p70_u216 p68_u216 p78_u216 p88_u216 p50_u216 p54_u216 p57_u216 p72_u216 p84_u216 p87_u216 J_u216 R_u216
                                  exact ok_ret ⟨cw_le C_u216 (by omega), by omega, by omega, by omega, by omega, by omega, J142, R143⟩
                                · skip
                                  refine ok_if (fun C144 => ?_) (fun C144 => ?_)
                                  · skip
                                    have hk : s 167 e.toNat = 36 := by omega
                                    rw [hk, show wt 36 = 1 by decide] at cm3
                                    obtain ⟨hx1, hx2⟩ : a = x ∧ q = 0 := by rcases hx with z | z; exact absurd z.2.2 (by unfold led; omega); exact ⟨z.1.symm, z.2.1⟩
                                    subst hx1 hx2
                                    clear hx
                                    have hE : dv s e = tv v59 := by rw [t_v59]; rfl
                                    have hG : ¬ v59 = 3 := by rw [t_v59]; rcases gv0 with z | z | z; exact z; exfalso; omega; exfalso; omega
                                    have hD : tv v59 = 1 := if_neg hG
                                    clear gv0
                                    unfold qj_X13_workOne_588
                                    refine ok_rd (by omega) (gA_167 C0.1.1) ?_; intro v15 e_v15 a_v15 b_v15
                                    have t_v15 : v15 = s 167 (e).toNat := by rw [e_v15]; exact C0.1.2.1 167 _ (nw_ar rfl _)
                                    clear e_v15
                                    have d_v15 : v61 = v15 := by rw [t_v15, t_v61]
                                    subst d_v15
                                    refine ok_if (fun C145 => ?_) (fun C145 => ?_)
                                    · skip
                                      exfalso; omega
                                    · skip
                                      refine ok_rd (by omega) (gA_170 C0.1.1) ?_; intro v17 e_v17 a_v17 b_v17
                                      have t_v17 : v17 = s 170 (e).toNat := by rw [e_v17]; exact C0.1.2.1 170 _ (nw_ar rfl _)
                                      clear e_v17
                                      have T_u19 : TE 0 s 0 (d - 2 - 2 * 0) (e + 1) b v17 := by rw [t_v17]; exact te_k33 T (by omega)
                                      have Y_u19 := yo_33 Y (by omega); rw [← t_v17] at Y_u19
                                      have g_u19 := te_rg T_u19
                                      have D_u19 : dv s v17 = 1 := if_neg Y_u19.1
                                      have m_u19 := cm_mono (s := s) (a := (e + 1)) (b := b) (by omega) (by omega)
                                      refine ok_sv (G.1 v17 _ _ _ _ _ _ _ C0 T_u19 Y_u19.2 (.inl Y_u19.1) (by omega) (by omega) ⟨⟨by omega, by omega⟩, by omega, by omega, by omega, by omega, by omega, by omega⟩) ?_; intro u19 P_u19
                                      rw [D_u19] at P_u19
                                      obtain ⟨C_u19, p70_u19, p68_u19, p78_u19, p88_u19, ⟨p50_u19, p54_u19, p57_u19, p72_u19, p84_u19, p87_u19⟩, J_u19, R_u19⟩ := P_u19
                                      have J146 : ∀ i : Nat, (i : Int) < h 160 87 → u19 217 i = h 217 i ∧ u19 218 i = h 218 i := fun i hi => by rw [(J_u19 i (by omega)).1, (J_u19 i (by omega)).2]; exact J0 i hi
                                      have R147 : ∀ j : Nat, (j : Int) < h 160 57 → u19 199 j = h 199 j := fun j hj => (R_u19 j (by omega)).trans (R0 j hj)
                                      have k50_u19x : u19 160 50 = h 160 50 := (p50_u19).trans k50_h
                                      have k54_u19x : u19 160 54 = h 160 54 := (p54_u19).trans k54_h
                                      have k57_u19x : u19 160 57 = h 160 57 := (p57_u19).trans k57_h
                                      have k68_u19x : h 160 68 ≤ u19 160 68 ∧ u19 160 68 ≤ h 160 68 + 20 * (Cm s b - Cm s (e + 1)) := by omega
                                      have k70_u19x : u19 160 70 = h 160 70 + 1 := by omega
                                      have k72_u19x : u19 160 72 = h 160 72 := (p72_u19).trans k72_h
                                      have k78_u19x : h 160 78 ≤ u19 160 78 ∧ u19 160 78 ≤ h 160 78 + 2 * (Cm s b - Cm s (e + 1)) := by omega
                                      have k84_u19x : u19 160 84 = h 160 84 := (p84_u19).trans k84_h
                                      have k87_u19x : u19 160 87 = h 160 87 := (p87_u19).trans k87_h
                                      have k88_u19x : h 160 88 ≤ u19 160 88 ∧ u19 160 88 ≤ h 160 88 + 2 * (Cm s b - Cm s (e + 1)) := by omega
                                      clear k50_h k54_h k57_h k68_h k70_h k72_h k78_h k84_h k87_h k88_h p70_u19 p68_u19 p78_u19 p88_u19 p50_u19 p54_u19 p57_u19 p72_u19 p84_u19 p87_u19 J_u19 R_u19
                                      clear T_u19 Y_u19 D_u19
                                      unfold qj_X13_workOne_609
                                      refine ok_rd (by omega) (gA_167 C_u19.1.1) ?_; intro v12 e_v12 a_v12 b_v12
                                      have t_v12 : v12 = s 167 (e).toNat := by rw [e_v12]; exact C_u19.1.2.1 167 _ (nw_ar rfl _)
                                      clear e_v12
                                      have d_v12 : v61 = v12 := by rw [t_v12, t_v61]
                                      subst d_v12
                                      refine ok_if (fun C148 => ?_) (fun C148 => ?_)
                                      · skip
                                        exfalso; omega
                                      · skip
                                        unfold qj_X13_workOne_630
                                        refine ok_sv (cw_put hn C_u19 (by omega) (by omega)) ?_; intro u2 P_u2
                                        obtain ⟨C_u2, k68_u2, N_u2⟩ := P_u2
                                        have k50_u2x : u2 160 50 = h 160 50 := (N_u2 160 50 (by decide) (by decide)).trans k50_u19x
                                        have k54_u2x : u2 160 54 = h 160 54 := (N_u2 160 54 (by decide) (by decide)).trans k54_u19x
                                        have k57_u2x : u2 160 57 = h 160 57 := (N_u2 160 57 (by decide) (by decide)).trans k57_u19x
                                        have k68_u2x : h 160 68 + 1 ≤ u2 160 68 ∧ u2 160 68 ≤ h 160 68 + 20 * (Cm s b - Cm s (e + 1)) + 1 := by omega
                                        have k70_u2x : u2 160 70 = h 160 70 + 1 := (N_u2 160 70 (by decide) (by decide)).trans k70_u19x
                                        have k72_u2x : u2 160 72 = h 160 72 := (N_u2 160 72 (by decide) (by decide)).trans k72_u19x
                                        have k78_u2x : h 160 78 ≤ u2 160 78 ∧ u2 160 78 ≤ h 160 78 + 2 * (Cm s b - Cm s (e + 1)) := by rw [show u2 160 78 = _ from N_u2 160 78 (by decide) (by decide)]; exact k78_u19x
                                        have k84_u2x : u2 160 84 = h 160 84 := (N_u2 160 84 (by decide) (by decide)).trans k84_u19x
                                        have k87_u2x : u2 160 87 = h 160 87 := (N_u2 160 87 (by decide) (by decide)).trans k87_u19x
                                        have k88_u2x : h 160 88 ≤ u2 160 88 ∧ u2 160 88 ≤ h 160 88 + 2 * (Cm s b - Cm s (e + 1)) := by rw [show u2 160 88 = _ from N_u2 160 88 (by decide) (by decide)]; exact k88_u19x
                                        have J149 : ∀ i : Nat, (i : Int) < h 160 87 → u2 217 i = h 217 i ∧ u2 218 i = h 218 i := fun i hi => by rw [show u2 217 i = u19 217 i from N_u2 217 i (by decide) (by omega), show u2 218 i = u19 218 i from N_u2 218 i (by decide) (by omega)]; exact J146 i hi
                                        have R150 : ∀ j : Nat, (j : Int) < h 160 57 → u2 199 j = h 199 j := fun j hj => (show u2 199 j = u19 199 j from N_u2 199 j (by decide) (by omega)).trans (R147 j hj)
                                        clear k50_u19x k54_u19x k57_u19x k68_u19x k70_u19x k72_u19x k78_u19x k84_u19x k87_u19x k88_u19x k68_u2
                                        refine ok_rd (by omega) (gA_176 C_u2.1.1) ?_; intro v4 e_v4 a_v4 b_v4
                                        have t_v4 : v4 = s 176 (e).toNat := by rw [e_v4]; exact C_u2.1.2.1 176 _ (nw_ar rfl _)
                                        clear e_v4
                                        have l_v4 := (S.2.2.2 (e).toNat (by omega)).2.2.2.1 (by omega); rw [← t_v4] at l_v4
                                        refine ok_sv (cw_class hn S.2.1 S.1 C_u2 (by omega) (by omega)) ?_; intro u6 P_u6
                                        obtain ⟨C_u6, N_u6, x_u6⟩ := P_u6
                                        have k50_u6x : u6.2 160 50 = h 160 50 := (N_u6 160 50 (by decide) (by decide)).trans k50_u2x
                                        have k54_u6x : u6.2 160 54 = h 160 54 := (N_u6 160 54 (by decide) (by decide)).trans k54_u2x
                                        have k57_u6x : u6.2 160 57 = h 160 57 := (N_u6 160 57 (by decide) (by decide)).trans k57_u2x
                                        have k68_u6x : h 160 68 + 1 ≤ u6.2 160 68 ∧ u6.2 160 68 ≤ h 160 68 + 20 * (Cm s b - Cm s (e + 1)) + 1 := by rw [show u6.2 160 68 = _ from N_u6 160 68 (by decide) (by decide)]; exact k68_u2x
                                        have k70_u6x : u6.2 160 70 = h 160 70 + 1 := (N_u6 160 70 (by decide) (by decide)).trans k70_u2x
                                        have k72_u6x : u6.2 160 72 = h 160 72 := (N_u6 160 72 (by decide) (by decide)).trans k72_u2x
                                        have k78_u6x : h 160 78 ≤ u6.2 160 78 ∧ u6.2 160 78 ≤ h 160 78 + 2 * (Cm s b - Cm s (e + 1)) := by rw [show u6.2 160 78 = _ from N_u6 160 78 (by decide) (by decide)]; exact k78_u2x
                                        have k84_u6x : u6.2 160 84 = h 160 84 := (N_u6 160 84 (by decide) (by decide)).trans k84_u2x
                                        have k87_u6x : u6.2 160 87 = h 160 87 := (N_u6 160 87 (by decide) (by decide)).trans k87_u2x
                                        have k88_u6x : h 160 88 ≤ u6.2 160 88 ∧ u6.2 160 88 ≤ h 160 88 + 2 * (Cm s b - Cm s (e + 1)) := by rw [show u6.2 160 88 = _ from N_u6 160 88 (by decide) (by decide)]; exact k88_u2x
                                        have J151 : ∀ i : Nat, (i : Int) < h 160 87 → u6.2 217 i = h 217 i ∧ u6.2 218 i = h 218 i := fun i hi => by rw [show u6.2 217 i = u2 217 i from N_u6 217 i (by decide) (by omega), show u6.2 218 i = u2 218 i from N_u6 218 i (by decide) (by omega)]; exact J149 i hi
                                        have R152 : ∀ j : Nat, (j : Int) < h 160 57 → u6.2 199 j = h 199 j := fun j hj => (show u6.2 199 j = u2 199 j from N_u6 199 j (by decide) (by omega)).trans (R150 j hj)
                                        clear k50_u2x k54_u2x k57_u2x k68_u2x k70_u2x k72_u2x k78_u2x k84_u2x k87_u2x k88_u2x
                                        refine ok_sv (cw_put hn C_u6 (by omega) (by omega)) ?_; intro u8 P_u8
                                        obtain ⟨C_u8, k68_u8, N_u8⟩ := P_u8
                                        have k50_u8x : u8 160 50 = h 160 50 := (N_u8 160 50 (by decide) (by decide)).trans k50_u6x
                                        have k54_u8x : u8 160 54 = h 160 54 := (N_u8 160 54 (by decide) (by decide)).trans k54_u6x
                                        have k57_u8x : u8 160 57 = h 160 57 := (N_u8 160 57 (by decide) (by decide)).trans k57_u6x
                                        have k68_u8x : h 160 68 + 1 + 1 ≤ u8 160 68 ∧ u8 160 68 ≤ h 160 68 + 20 * (Cm s b - Cm s (e + 1)) + 1 + 1 := by omega
                                        have k70_u8x : u8 160 70 = h 160 70 + 1 := (N_u8 160 70 (by decide) (by decide)).trans k70_u6x
                                        have k72_u8x : u8 160 72 = h 160 72 := (N_u8 160 72 (by decide) (by decide)).trans k72_u6x
                                        have k78_u8x : h 160 78 ≤ u8 160 78 ∧ u8 160 78 ≤ h 160 78 + 2 * (Cm s b - Cm s (e + 1)) := by rw [show u8 160 78 = _ from N_u8 160 78 (by decide) (by decide)]; exact k78_u6x
                                        have k84_u8x : u8 160 84 = h 160 84 := (N_u8 160 84 (by decide) (by decide)).trans k84_u6x
                                        have k87_u8x : u8 160 87 = h 160 87 := (N_u8 160 87 (by decide) (by decide)).trans k87_u6x
                                        have k88_u8x : h 160 88 ≤ u8 160 88 ∧ u8 160 88 ≤ h 160 88 + 2 * (Cm s b - Cm s (e + 1)) := by rw [show u8 160 88 = _ from N_u8 160 88 (by decide) (by decide)]; exact k88_u6x
                                        have J153 : ∀ i : Nat, (i : Int) < h 160 87 → u8 217 i = h 217 i ∧ u8 218 i = h 218 i := fun i hi => by rw [show u8 217 i = u6.2 217 i from N_u8 217 i (by decide) (by omega), show u8 218 i = u6.2 218 i from N_u8 218 i (by decide) (by omega)]; exact J151 i hi
                                        have R154 : ∀ j : Nat, (j : Int) < h 160 57 → u8 199 j = h 199 j := fun j hj => (show u8 199 j = u6.2 199 j from N_u8 199 j (by decide) (by omega)).trans (R152 j hj)
                                        clear k50_u6x k54_u6x k57_u6x k68_u6x k70_u6x k72_u6x k78_u6x k84_u6x k87_u6x k88_u6x k68_u8
                                        refine ok_sv (cw_turn C_u8 (by omega) (by omega) (by omega)) ?_; intro u10 P_u10
                                        obtain ⟨C_u10, p70_u10, p68_u10, p78_u10, p88_u10, ⟨p50_u10, p54_u10, p57_u10, p72_u10, p84_u10, p87_u10⟩, J_u10, R_u10⟩ := P_u10
                                        have J155 : ∀ i : Nat, (i : Int) < h 160 87 → u10 217 i = h 217 i ∧ u10 218 i = h 218 i := fun i hi => by rw [(J_u10 i (by omega)).1, (J_u10 i (by omega)).2]; exact J153 i hi
                                        have R156 : ∀ j : Nat, (j : Int) < h 160 57 → u10 199 j = h 199 j := fun j hj => (R_u10 j (by omega)).trans (R154 j hj)
                                        have k50_u10x : u10 160 50 = h 160 50 := (p50_u10).trans k50_u8x
                                        have k54_u10x : u10 160 54 = h 160 54 := (p54_u10).trans k54_u8x
                                        have k57_u10x : u10 160 57 = h 160 57 := (p57_u10).trans k57_u8x
                                        have k68_u10x : h 160 68 + 1 + 1 ≤ u10 160 68 ∧ u10 160 68 ≤ h 160 68 + 20 * (Cm s b - Cm s (e + 1)) + 1 + 1 + 0 := by omega
                                        have k70_u10x : u10 160 70 = h 160 70 + 1 - 1 + tv v59 := by omega
                                        have k72_u10x : u10 160 72 = h 160 72 := (p72_u10).trans k72_u8x
                                        have k78_u10x : h 160 78 ≤ u10 160 78 ∧ u10 160 78 ≤ h 160 78 + 2 * (Cm s b - Cm s (e + 1)) + 0 := by omega
                                        have k84_u10x : u10 160 84 = h 160 84 := (p84_u10).trans k84_u8x
                                        have k87_u10x : u10 160 87 = h 160 87 := (p87_u10).trans k87_u8x
                                        have k88_u10x : h 160 88 ≤ u10 160 88 ∧ u10 160 88 ≤ h 160 88 + 2 * (Cm s b - Cm s (e + 1)) + 0 := by omega
                                        clear k50_u8x k54_u8x k57_u8x k68_u8x k70_u8x k72_u8x k78_u8x k84_u8x k87_u8x k88_u8x p70_u10 p68_u10 p78_u10 p88_u10 p50_u10 p54_u10 p57_u10 p72_u10 p84_u10 p87_u10 J_u10 R_u10
                                        exact ok_ret ⟨cw_le C_u10 (by omega), by omega, by omega, by omega, by omega, by omega, J155, R156⟩
                                  · skip
                                    refine ok_if (fun C157 => ?_) (fun C157 => ?_)
                                    · skip
                                      have hk : s 167 e.toNat = 37 := by omega
                                      rw [hk, show wt 37 = 1 by decide] at cm3
                                      obtain ⟨hx1, hx2⟩ : e = x ∧ q = 1 := by rcases hx with z | z; exact ⟨z.1.symm, z.2.1⟩; exact absurd (by unfold led; omega) z.2.2
                                      subst hx1 hx2
                                      clear hx
                                      have hE : dv s e = tv v59 := by rw [t_v59]; rfl
                                      have hG : ¬ v59 = 3 := by rw [t_v59]; rcases gv0 with z | z | z; exact z; exfalso; omega; exfalso; omega
                                      have hD : tv v59 = 1 := if_neg hG
                                      clear gv0
                                      refine ok_sv (G.2.2.2 e _ _ _ _ _ _ _ C0 T Y hk (by rw [← t_v59]; exact hG) (by omega) (by omega) ⟨⟨by omega, by omega⟩, by omega, by omega, by omega, by omega, by omega, by omega⟩) ?_; intro u218 P_u218
                                      obtain ⟨C_u218, p70_u218, p68_u218, p78_u218, p88_u218, ⟨p50_u218, p54_u218, p57_u218, p72_u218, p84_u218, p87_u218⟩, J_u218, R_u218⟩ := P_u218
                                      have J158 : ∀ i : Nat, (i : Int) < h 160 87 → u218 217 i = h 217 i ∧ u218 218 i = h 218 i := fun i hi => by rw [(J_u218 i (by omega)).1, (J_u218 i (by omega)).2]; exact J0 i hi
                                      have R159 : ∀ j : Nat, (j : Int) < h 160 57 → u218 199 j = h 199 j := fun j hj => (R_u218 j (by omega)).trans (R0 j hj)
                                      have k50_u218x : u218 160 50 = h 160 50 := (p50_u218).trans k50_h
                                      have k54_u218x : u218 160 54 = h 160 54 := (p54_u218).trans k54_h
                                      have k57_u218x : u218 160 57 = h 160 57 := (p57_u218).trans k57_h
                                      have k68_u218x : h 160 68 ≤ u218 160 68 ∧ u218 160 68 ≤ h 160 68 + 20 * (Cm s b - Cm s e) := by omega
                                      have k70_u218x : u218 160 70 = h 160 70 := by omega
                                      have k72_u218x : u218 160 72 = h 160 72 := (p72_u218).trans k72_h
                                      have k78_u218x : h 160 78 ≤ u218 160 78 ∧ u218 160 78 ≤ h 160 78 + 2 * (Cm s b - Cm s e) := by omega
                                      have k84_u218x : u218 160 84 = h 160 84 := (p84_u218).trans k84_h
                                      have k87_u218x : u218 160 87 = h 160 87 := (p87_u218).trans k87_h
                                      have k88_u218x : h 160 88 ≤ u218 160 88 ∧ u218 160 88 ≤ h 160 88 + 2 * (Cm s b - Cm s e) := by omega
                                      clear k50_h k54_h k57_h k68_h k70_h k72_h k78_h k84_h k87_h k88_h p70_u218 p68_u218 p78_u218 p88_u218 p50_u218 p54_u218 p57_u218 p72_u218 p84_u218 p87_u218 J_u218 R_u218
                                      exact ok_ret ⟨cw_le C_u218 (by omega), by omega, by omega, by omega, by omega, by omega, J158, R159⟩
                                    · skip
                                      refine ok_if (fun C160 => ?_) (fun C160 => ?_)
                                      · skip
                                        have hk : s 167 e.toNat = 38 := by omega
                                        rw [hk, show wt 38 = 1 by decide] at cm3
                                        obtain ⟨hx1, hx2⟩ : e = x ∧ q = 1 := by rcases hx with z | z; exact ⟨z.1.symm, z.2.1⟩; exact absurd (by unfold led; omega) z.2.2
                                        subst hx1 hx2
                                        clear hx
                                        have hE : dv s e = tv v59 := by rw [t_v59]; rfl
                                        have hG : ¬ v59 = 3 := by rw [t_v59]; rcases gv0 with z | z | z; exact z; exfalso; omega; exfalso; omega
                                        have hD : tv v59 = 1 := if_neg hG
                                        clear gv0
                                        unfold qj_X13_workOne_588
                                        refine ok_rd (by omega) (gA_167 C0.1.1) ?_; intro v15 e_v15 a_v15 b_v15
                                        have t_v15 : v15 = s 167 (e).toNat := by rw [e_v15]; exact C0.1.2.1 167 _ (nw_ar rfl _)
                                        clear e_v15
                                        have d_v15 : v61 = v15 := by rw [t_v15, t_v61]
                                        subst d_v15
                                        refine ok_if (fun C161 => ?_) (fun C161 => ?_)
                                        · skip
                                          unfold qj_X13_workOne_609
                                          refine ok_rd (by omega) (gA_167 C0.1.1) ?_; intro v12 e_v12 a_v12 b_v12
                                          have t_v12 : v12 = s 167 (e).toNat := by rw [e_v12]; exact C0.1.2.1 167 _ (nw_ar rfl _)
                                          clear e_v12
                                          have d_v12 : v61 = v12 := by rw [t_v12, t_v61]
                                          subst d_v12
                                          refine ok_if (fun C162 => ?_) (fun C162 => ?_)
                                          · skip
                                            unfold qj_X13_workOne_630
                                            refine ok_sv (cw_put hn C0 (by omega) (by omega)) ?_; intro u2 P_u2
                                            obtain ⟨C_u2, k68_u2, N_u2⟩ := P_u2
                                            have k50_u2x : u2 160 50 = h 160 50 := (N_u2 160 50 (by decide) (by decide)).trans k50_h
                                            have k54_u2x : u2 160 54 = h 160 54 := (N_u2 160 54 (by decide) (by decide)).trans k54_h
                                            have k57_u2x : u2 160 57 = h 160 57 := (N_u2 160 57 (by decide) (by decide)).trans k57_h
                                            have k68_u2x : u2 160 68 = h 160 68 + 1 := by omega
                                            have k70_u2x : u2 160 70 = h 160 70 := (N_u2 160 70 (by decide) (by decide)).trans k70_h
                                            have k72_u2x : u2 160 72 = h 160 72 := (N_u2 160 72 (by decide) (by decide)).trans k72_h
                                            have k78_u2x : u2 160 78 = h 160 78 := (N_u2 160 78 (by decide) (by decide)).trans k78_h
                                            have k84_u2x : u2 160 84 = h 160 84 := (N_u2 160 84 (by decide) (by decide)).trans k84_h
                                            have k87_u2x : u2 160 87 = h 160 87 := (N_u2 160 87 (by decide) (by decide)).trans k87_h
                                            have k88_u2x : u2 160 88 = h 160 88 := (N_u2 160 88 (by decide) (by decide)).trans k88_h
                                            have J163 : ∀ i : Nat, (i : Int) < h 160 87 → u2 217 i = h 217 i ∧ u2 218 i = h 218 i := fun i hi => by rw [show u2 217 i = h 217 i from N_u2 217 i (by decide) (by omega), show u2 218 i = h 218 i from N_u2 218 i (by decide) (by omega)]; exact J0 i hi
                                            have R164 : ∀ j : Nat, (j : Int) < h 160 57 → u2 199 j = h 199 j := fun j hj => (show u2 199 j = h 199 j from N_u2 199 j (by decide) (by omega)).trans (R0 j hj)
                                            clear k50_h k54_h k57_h k68_h k70_h k72_h k78_h k84_h k87_h k88_h k68_u2
                                            refine ok_rd (by omega) (gA_176 C_u2.1.1) ?_; intro v4 e_v4 a_v4 b_v4
                                            have t_v4 : v4 = s 176 (e).toNat := by rw [e_v4]; exact C_u2.1.2.1 176 _ (nw_ar rfl _)
                                            clear e_v4
                                            have l_v4 := (S.2.2.2 (e).toNat (by omega)).2.2.2.1 (by omega); rw [← t_v4] at l_v4
                                            refine ok_sv (cw_class hn S.2.1 S.1 C_u2 (by omega) (by omega)) ?_; intro u6 P_u6
                                            obtain ⟨C_u6, N_u6, x_u6⟩ := P_u6
                                            have k50_u6x : u6.2 160 50 = h 160 50 := (N_u6 160 50 (by decide) (by decide)).trans k50_u2x
                                            have k54_u6x : u6.2 160 54 = h 160 54 := (N_u6 160 54 (by decide) (by decide)).trans k54_u2x
                                            have k57_u6x : u6.2 160 57 = h 160 57 := (N_u6 160 57 (by decide) (by decide)).trans k57_u2x
                                            have k68_u6x : u6.2 160 68 = h 160 68 + 1 := (N_u6 160 68 (by decide) (by decide)).trans k68_u2x
                                            have k70_u6x : u6.2 160 70 = h 160 70 := (N_u6 160 70 (by decide) (by decide)).trans k70_u2x
                                            have k72_u6x : u6.2 160 72 = h 160 72 := (N_u6 160 72 (by decide) (by decide)).trans k72_u2x
                                            have k78_u6x : u6.2 160 78 = h 160 78 := (N_u6 160 78 (by decide) (by decide)).trans k78_u2x
                                            have k84_u6x : u6.2 160 84 = h 160 84 := (N_u6 160 84 (by decide) (by decide)).trans k84_u2x
                                            have k87_u6x : u6.2 160 87 = h 160 87 := (N_u6 160 87 (by decide) (by decide)).trans k87_u2x
                                            have k88_u6x : u6.2 160 88 = h 160 88 := (N_u6 160 88 (by decide) (by decide)).trans k88_u2x
                                            have J165 : ∀ i : Nat, (i : Int) < h 160 87 → u6.2 217 i = h 217 i ∧ u6.2 218 i = h 218 i := fun i hi => by rw [show u6.2 217 i = u2 217 i from N_u6 217 i (by decide) (by omega), show u6.2 218 i = u2 218 i from N_u6 218 i (by decide) (by omega)]; exact J163 i hi
                                            have R166 : ∀ j : Nat, (j : Int) < h 160 57 → u6.2 199 j = h 199 j := fun j hj => (show u6.2 199 j = u2 199 j from N_u6 199 j (by decide) (by omega)).trans (R164 j hj)
                                            clear k50_u2x k54_u2x k57_u2x k68_u2x k70_u2x k72_u2x k78_u2x k84_u2x k87_u2x k88_u2x
                                            refine ok_sv (cw_put hn C_u6 (by omega) (by omega)) ?_; intro u8 P_u8
                                            obtain ⟨C_u8, k68_u8, N_u8⟩ := P_u8
                                            have k50_u8x : u8 160 50 = h 160 50 := (N_u8 160 50 (by decide) (by decide)).trans k50_u6x
                                            have k54_u8x : u8 160 54 = h 160 54 := (N_u8 160 54 (by decide) (by decide)).trans k54_u6x
                                            have k57_u8x : u8 160 57 = h 160 57 := (N_u8 160 57 (by decide) (by decide)).trans k57_u6x
                                            have k68_u8x : u8 160 68 = h 160 68 + 1 + 1 := by omega
                                            have k70_u8x : u8 160 70 = h 160 70 := (N_u8 160 70 (by decide) (by decide)).trans k70_u6x
                                            have k72_u8x : u8 160 72 = h 160 72 := (N_u8 160 72 (by decide) (by decide)).trans k72_u6x
                                            have k78_u8x : u8 160 78 = h 160 78 := (N_u8 160 78 (by decide) (by decide)).trans k78_u6x
                                            have k84_u8x : u8 160 84 = h 160 84 := (N_u8 160 84 (by decide) (by decide)).trans k84_u6x
                                            have k87_u8x : u8 160 87 = h 160 87 := (N_u8 160 87 (by decide) (by decide)).trans k87_u6x
                                            have k88_u8x : u8 160 88 = h 160 88 := (N_u8 160 88 (by decide) (by decide)).trans k88_u6x
                                            have J167 : ∀ i : Nat, (i : Int) < h 160 87 → u8 217 i = h 217 i ∧ u8 218 i = h 218 i := fun i hi => by rw [show u8 217 i = u6.2 217 i from N_u8 217 i (by decide) (by omega), show u8 218 i = u6.2 218 i from N_u8 218 i (by decide) (by omega)]; exact J165 i hi
                                            have R168 : ∀ j : Nat, (j : Int) < h 160 57 → u8 199 j = h 199 j := fun j hj => (show u8 199 j = u6.2 199 j from N_u8 199 j (by decide) (by omega)).trans (R166 j hj)
                                            clear k50_u6x k54_u6x k57_u6x k68_u6x k70_u6x k72_u6x k78_u6x k84_u6x k87_u6x k88_u6x k68_u8
                                            refine ok_sv (cw_turn C_u8 (by omega) (by omega) (by omega)) ?_; intro u10 P_u10
                                            obtain ⟨C_u10, p70_u10, p68_u10, p78_u10, p88_u10, ⟨p50_u10, p54_u10, p57_u10, p72_u10, p84_u10, p87_u10⟩, J_u10, R_u10⟩ := P_u10
                                            have J169 : ∀ i : Nat, (i : Int) < h 160 87 → u10 217 i = h 217 i ∧ u10 218 i = h 218 i := fun i hi => by rw [(J_u10 i (by omega)).1, (J_u10 i (by omega)).2]; exact J167 i hi
                                            have R170 : ∀ j : Nat, (j : Int) < h 160 57 → u10 199 j = h 199 j := fun j hj => (R_u10 j (by omega)).trans (R168 j hj)
                                            have k50_u10x : u10 160 50 = h 160 50 := (p50_u10).trans k50_u8x
                                            have k54_u10x : u10 160 54 = h 160 54 := (p54_u10).trans k54_u8x
                                            have k57_u10x : u10 160 57 = h 160 57 := (p57_u10).trans k57_u8x
                                            have k68_u10x : h 160 68 + 1 + 1 ≤ u10 160 68 ∧ u10 160 68 ≤ h 160 68 + 1 + 1 + 0 := by omega
                                            have k70_u10x : u10 160 70 = h 160 70 - 1 + tv v59 := by omega
                                            have k72_u10x : u10 160 72 = h 160 72 := (p72_u10).trans k72_u8x
                                            have k78_u10x : h 160 78 ≤ u10 160 78 ∧ u10 160 78 ≤ h 160 78 + 0 := by omega
                                            have k84_u10x : u10 160 84 = h 160 84 := (p84_u10).trans k84_u8x
                                            have k87_u10x : u10 160 87 = h 160 87 := (p87_u10).trans k87_u8x
                                            have k88_u10x : h 160 88 ≤ u10 160 88 ∧ u10 160 88 ≤ h 160 88 + 0 := by omega
                                            clear k50_u8x k54_u8x k57_u8x k68_u8x k70_u8x k72_u8x k78_u8x k84_u8x k87_u8x k88_u8x p70_u10 p68_u10 p78_u10 p88_u10 p50_u10 p54_u10 p57_u10 p72_u10 p84_u10 p87_u10 J_u10 R_u10
                                            exact ok_ret ⟨cw_le C_u10 (by omega), by omega, by omega, by omega, by omega, by omega, J169, R170⟩
                                          · skip
                                            exfalso; omega
                                        · skip
                                          exfalso; omega
                                      · skip
                                        have hk : s 167 e.toNat = 39 := by omega
                                        rw [hk, show wt 39 = 2 by decide] at cm3
                                        obtain ⟨hx1, hx2⟩ : a = x ∧ q = 0 := by rcases hx with z | z; exact absurd z.2.2 (by unfold led; omega); exact ⟨z.1.symm, z.2.1⟩
                                        subst hx1 hx2
                                        clear hx
                                        have hE : dv s e = tv v59 := by rw [t_v59]; rfl
                                        have hG : ¬ v59 = 3 := by rw [t_v59]; rcases gv0 with z | z | z; exact z; exfalso; omega; exfalso; omega
                                        have hD : tv v59 = 1 := if_neg hG
                                        clear gv0
                                        obtain ⟨x39, p39, hp39, y39, z39⟩ := te_x39 T (by omega)
                                        obtain ⟨u39, q39, v39, w39⟩ := yo_39 Y (by omega)
                                        have cm4 := cm_mono (s := s) (a := e + 1) (b := p39) (by omega) (by omega)
                                        have cm5 := cm_mono (s := s) (a := p39) (b := b) (by omega) (by omega)
                                        refine ok_sv (cw_label C0 (by omega)) ?_; intro u63 P_u63
                                        obtain ⟨C_u63, l_u63, k88_u63, N_u63⟩ := P_u63
                                        have m_u63 : u63.1 = h 160 88 + 1 := by omega
                                        have L171 : u63.1 = u63.2 160 88 := by omega
                                        have k50_u63x : u63.2 160 50 = h 160 50 := (N_u63 160 50 (by decide)).trans k50_h
                                        have k54_u63x : u63.2 160 54 = h 160 54 := (N_u63 160 54 (by decide)).trans k54_h
                                        have k57_u63x : u63.2 160 57 = h 160 57 := (N_u63 160 57 (by decide)).trans k57_h
                                        have k68_u63x : u63.2 160 68 = h 160 68 := (N_u63 160 68 (by decide)).trans k68_h
                                        have k70_u63x : u63.2 160 70 = h 160 70 := (N_u63 160 70 (by decide)).trans k70_h
                                        have k72_u63x : u63.2 160 72 = h 160 72 := (N_u63 160 72 (by decide)).trans k72_h
                                        have k78_u63x : u63.2 160 78 = h 160 78 := (N_u63 160 78 (by decide)).trans k78_h
                                        have k84_u63x : u63.2 160 84 = h 160 84 := (N_u63 160 84 (by decide)).trans k84_h
                                        have k87_u63x : u63.2 160 87 = h 160 87 := (N_u63 160 87 (by decide)).trans k87_h
                                        have k88_u63x : u63.2 160 88 = h 160 88 + 1 := by omega
                                        have J172 : ∀ i : Nat, (i : Int) < h 160 87 → u63.2 217 i = h 217 i ∧ u63.2 218 i = h 218 i := fun i hi => by rw [show u63.2 217 i = h 217 i from N_u63 217 i (by omega), show u63.2 218 i = h 218 i from N_u63 218 i (by omega)]; exact J0 i hi
                                        have R173 : ∀ j : Nat, (j : Int) < h 160 57 → u63.2 199 j = h 199 j := fun j hj => (show u63.2 199 j = h 199 j from N_u63 199 j (by omega)).trans (R0 j hj)
                                        clear k50_h k54_h k57_h k68_h k70_h k72_h k78_h k84_h k87_h k88_h k88_u63 l_u63 L171
                                        refine ok_sv (cw_label C_u63 (by omega)) ?_; intro u65 P_u65
                                        obtain ⟨C_u65, l_u65, k88_u65, N_u65⟩ := P_u65
                                        have m_u65 : u65.1 = h 160 88 + 1 + 1 := by omega
                                        have L174 : u65.1 = u65.2 160 88 := by omega
                                        have k50_u65x : u65.2 160 50 = h 160 50 := (N_u65 160 50 (by decide)).trans k50_u63x
                                        have k54_u65x : u65.2 160 54 = h 160 54 := (N_u65 160 54 (by decide)).trans k54_u63x
                                        have k57_u65x : u65.2 160 57 = h 160 57 := (N_u65 160 57 (by decide)).trans k57_u63x
                                        have k68_u65x : u65.2 160 68 = h 160 68 := (N_u65 160 68 (by decide)).trans k68_u63x
                                        have k70_u65x : u65.2 160 70 = h 160 70 := (N_u65 160 70 (by decide)).trans k70_u63x
                                        have k72_u65x : u65.2 160 72 = h 160 72 := (N_u65 160 72 (by decide)).trans k72_u63x
                                        have k78_u65x : u65.2 160 78 = h 160 78 := (N_u65 160 78 (by decide)).trans k78_u63x
                                        have k84_u65x : u65.2 160 84 = h 160 84 := (N_u65 160 84 (by decide)).trans k84_u63x
                                        have k87_u65x : u65.2 160 87 = h 160 87 := (N_u65 160 87 (by decide)).trans k87_u63x
                                        have k88_u65x : u65.2 160 88 = h 160 88 + 1 + 1 := by omega
                                        have J175 : ∀ i : Nat, (i : Int) < h 160 87 → u65.2 217 i = h 217 i ∧ u65.2 218 i = h 218 i := fun i hi => by rw [show u65.2 217 i = u63.2 217 i from N_u65 217 i (by omega), show u65.2 218 i = u63.2 218 i from N_u65 218 i (by omega)]; exact J172 i hi
                                        have R176 : ∀ j : Nat, (j : Int) < h 160 57 → u65.2 199 j = h 199 j := fun j hj => (show u65.2 199 j = u63.2 199 j from N_u65 199 j (by omega)).trans (R173 j hj)
                                        clear k50_u63x k54_u63x k57_u63x k68_u63x k70_u63x k72_u63x k78_u63x k84_u63x k87_u63x k88_u63x k88_u65 l_u65 L174
                                        refine ok_rd (by omega) (gA_170 C_u65.1.1) ?_; intro v67 e_v67 a_v67 b_v67
                                        have t_v67 : v67 = s 170 (e).toNat := by rw [e_v67]; exact C_u65.1.2.1 170 _ (nw_ar rfl _)
                                        clear e_v67
                                        have T_u69 : TE 0 s 0 (d - 2 - 2 * 0) a e v67 := by rw [t_v67]; exact x39
                                        have Y_u69 := u39; rw [← t_v67] at Y_u69
                                        have g_u69 := te_rg T_u69
                                        have D_u69 : dv s v67 = 1 := if_neg Y_u69.1
                                        have m_u69 := cm_mono (s := s) (a := a) (b := e) (by omega) (by omega)
                                        refine ok_sv (G.1 v67 _ _ _ _ _ _ _ C_u65 T_u69 Y_u69.2 (.inl Y_u69.1) (by omega) (by omega) ⟨⟨by omega, by omega⟩, by omega, by omega, by omega, by omega, by omega, by omega⟩) ?_; intro u69 P_u69
                                        rw [D_u69] at P_u69
                                        obtain ⟨C_u69, p70_u69, p68_u69, p78_u69, p88_u69, ⟨p50_u69, p54_u69, p57_u69, p72_u69, p84_u69, p87_u69⟩, J_u69, R_u69⟩ := P_u69
                                        have J177 : ∀ i : Nat, (i : Int) < h 160 87 → u69 217 i = h 217 i ∧ u69 218 i = h 218 i := fun i hi => by rw [(J_u69 i (by omega)).1, (J_u69 i (by omega)).2]; exact J175 i hi
                                        have R178 : ∀ j : Nat, (j : Int) < h 160 57 → u69 199 j = h 199 j := fun j hj => (R_u69 j (by omega)).trans (R176 j hj)
                                        have k50_u69x : u69 160 50 = h 160 50 := (p50_u69).trans k50_u65x
                                        have k54_u69x : u69 160 54 = h 160 54 := (p54_u69).trans k54_u65x
                                        have k57_u69x : u69 160 57 = h 160 57 := (p57_u69).trans k57_u65x
                                        have k68_u69x : h 160 68 ≤ u69 160 68 ∧ u69 160 68 ≤ h 160 68 + 20 * (Cm s e - Cm s a) := by omega
                                        have k70_u69x : u69 160 70 = h 160 70 + 1 := by omega
                                        have k72_u69x : u69 160 72 = h 160 72 := (p72_u69).trans k72_u65x
                                        have k78_u69x : h 160 78 ≤ u69 160 78 ∧ u69 160 78 ≤ h 160 78 + 2 * (Cm s e - Cm s a) := by omega
                                        have k84_u69x : u69 160 84 = h 160 84 := (p84_u69).trans k84_u65x
                                        have k87_u69x : u69 160 87 = h 160 87 := (p87_u69).trans k87_u65x
                                        have k88_u69x : h 160 88 + 1 + 1 ≤ u69 160 88 ∧ u69 160 88 ≤ h 160 88 + 1 + 1 + 2 * (Cm s e - Cm s a) := by omega
                                        clear k50_u65x k54_u65x k57_u65x k68_u65x k70_u65x k72_u65x k78_u65x k84_u65x k87_u65x k88_u65x p70_u69 p68_u69 p78_u69 p88_u69 p50_u69 p54_u69 p57_u69 p72_u69 p84_u69 p87_u69 J_u69 R_u69
                                        clear T_u69 Y_u69 D_u69
                                        refine ok_sub (by omega) ?_; intro v71 e_v71
                                        refine ok_xl ?_; intro h72 E_h72
                                        obtain ⟨C_h72, k70_h72, N_h72⟩ := cw_pop C_u69 E_h72 (by omega)
                                        have k50_h72x : h72 160 50 = h 160 50 := (N_h72 160 50 (by decide)).trans k50_u69x
                                        have k54_h72x : h72 160 54 = h 160 54 := (N_h72 160 54 (by decide)).trans k54_u69x
                                        have k57_h72x : h72 160 57 = h 160 57 := (N_h72 160 57 (by decide)).trans k57_u69x
                                        have k68_h72x : h 160 68 ≤ h72 160 68 ∧ h72 160 68 ≤ h 160 68 + 20 * (Cm s e - Cm s a) := by rw [show h72 160 68 = _ from N_h72 160 68 (by decide)]; exact k68_u69x
                                        have k70_h72x : h72 160 70 = h 160 70 + 1 - 1 := by omega
                                        have k72_h72x : h72 160 72 = h 160 72 := (N_h72 160 72 (by decide)).trans k72_u69x
                                        have k78_h72x : h 160 78 ≤ h72 160 78 ∧ h72 160 78 ≤ h 160 78 + 2 * (Cm s e - Cm s a) := by rw [show h72 160 78 = _ from N_h72 160 78 (by decide)]; exact k78_u69x
                                        have k84_h72x : h72 160 84 = h 160 84 := (N_h72 160 84 (by decide)).trans k84_u69x
                                        have k87_h72x : h72 160 87 = h 160 87 := (N_h72 160 87 (by decide)).trans k87_u69x
                                        have k88_h72x : h 160 88 + 1 + 1 ≤ h72 160 88 ∧ h72 160 88 ≤ h 160 88 + 1 + 1 + 2 * (Cm s e - Cm s a) := by rw [show h72 160 88 = _ from N_h72 160 88 (by decide)]; exact k88_u69x
                                        have J179 : ∀ i : Nat, (i : Int) < h 160 87 → h72 217 i = h 217 i ∧ h72 218 i = h 218 i := fun i hi => by rw [show h72 217 i = u69 217 i from N_h72 217 i (by omega), show h72 218 i = u69 218 i from N_h72 218 i (by omega)]; exact J177 i hi
                                        have R180 : ∀ j : Nat, (j : Int) < h 160 57 → h72 199 j = h 199 j := fun j hj => (show h72 199 j = u69 199 j from N_h72 199 j (by omega)).trans (R178 j hj)
                                        clear k50_u69x k54_u69x k57_u69x k68_u69x k70_u69x k72_u69x k78_u69x k84_u69x k87_u69x k88_u69x k70_h72 E_h72
                                        refine ok_sv (cw_jump hn C_h72 (by omega) (by omega) (by omega) (by omega)) ?_; intro u74 P_u74
                                        obtain ⟨C_u74, k68_u74, k87_u74, n_u74, p_u74, N_u74⟩ := P_u74
                                        have J181 : ∀ i : Nat, (i : Int) < h 160 87 → u74 217 i = h 217 i ∧ u74 218 i = h 218 i := fun i hi => by rw [(p_u74 i (by omega)).1, (p_u74 i (by omega)).2]; exact J179 i hi
                                        have E182 : u74 218 (h 160 87).toNat = u63.1 := by rw [show h 160 87 = h72 160 87 by omega]; exact n_u74
                                        have k50_u74x : u74 160 50 = h 160 50 := (N_u74 160 50 rfl).trans k50_h72x
                                        have k54_u74x : u74 160 54 = h 160 54 := (N_u74 160 54 rfl).trans k54_h72x
                                        have k57_u74x : u74 160 57 = h 160 57 := (N_u74 160 57 rfl).trans k57_h72x
                                        have k68_u74x : h 160 68 + 3 ≤ u74 160 68 ∧ u74 160 68 ≤ h 160 68 + 20 * (Cm s e - Cm s a) + 3 := by omega
                                        have k70_u74x : u74 160 70 = h 160 70 + 1 - 1 := (N_u74 160 70 rfl).trans k70_h72x
                                        have k72_u74x : u74 160 72 = h 160 72 := (N_u74 160 72 rfl).trans k72_h72x
                                        have k78_u74x : h 160 78 ≤ u74 160 78 ∧ u74 160 78 ≤ h 160 78 + 2 * (Cm s e - Cm s a) := by rw [show u74 160 78 = _ from N_u74 160 78 rfl]; exact k78_h72x
                                        have k84_u74x : u74 160 84 = h 160 84 := (N_u74 160 84 rfl).trans k84_h72x
                                        have k87_u74x : u74 160 87 = h 160 87 + 1 := by omega
                                        have k88_u74x : h 160 88 + 1 + 1 ≤ u74 160 88 ∧ u74 160 88 ≤ h 160 88 + 1 + 1 + 2 * (Cm s e - Cm s a) := by rw [show u74 160 88 = _ from N_u74 160 88 rfl]; exact k88_h72x
                                        have R183 : ∀ j : Nat, (j : Int) < h 160 57 → u74 199 j = h 199 j := fun j hj => (show u74 199 j = h72 199 j from N_u74 199 j (nw_ar rfl j)).trans (R180 j hj)
                                        clear k50_h72x k54_h72x k57_h72x k68_h72x k70_h72x k72_h72x k78_h72x k84_h72x k87_h72x k88_h72x k68_u74 k87_u74
                                        refine ok_rd (by omega) (gA_171 C_u74.1.1) ?_; intro v76 e_v76 a_v76 b_v76
                                        have t_v76 : v76 = s 171 (e).toNat := by rw [e_v76]; exact C_u74.1.2.1 171 _ (nw_ar rfl _)
                                        clear e_v76
                                        have T_u78 : TE 0 s 0 (d - 2 - 2 * 0) (e + 1) p39 v76 := by rw [t_v76]; exact y39
                                        have Y_u78 := v39; rw [← t_v76] at Y_u78
                                        have g_u78 := te_rg T_u78
                                        have D_u78 : dv s v76 = 1 := if_neg Y_u78.1
                                        have m_u78 := cm_mono (s := s) (a := (e + 1)) (b := p39) (by omega) (by omega)
                                        refine ok_sv (G.1 v76 _ _ _ _ _ _ _ C_u74 T_u78 Y_u78.2 (.inl Y_u78.1) (by omega) (by omega) ⟨⟨by omega, by omega⟩, by omega, by omega, by omega, by omega, by omega, by omega⟩) ?_; intro u78 P_u78
                                        rw [D_u78] at P_u78
                                        obtain ⟨C_u78, p70_u78, p68_u78, p78_u78, p88_u78, ⟨p50_u78, p54_u78, p57_u78, p72_u78, p84_u78, p87_u78⟩, J_u78, R_u78⟩ := P_u78
                                        have J184 : ∀ i : Nat, (i : Int) < h 160 87 → u78 217 i = h 217 i ∧ u78 218 i = h 218 i := fun i hi => by rw [(J_u78 i (by omega)).1, (J_u78 i (by omega)).2]; exact J181 i hi
                                        have E185 : u78 218 (h 160 87).toNat = u63.1 := ((J_u78 _ (by omega)).2).trans E182
                                        have R186 : ∀ j : Nat, (j : Int) < h 160 57 → u78 199 j = h 199 j := fun j hj => (R_u78 j (by omega)).trans (R183 j hj)
                                        have k50_u78x : u78 160 50 = h 160 50 := (p50_u78).trans k50_u74x
                                        have k54_u78x : u78 160 54 = h 160 54 := (p54_u78).trans k54_u74x
                                        have k57_u78x : u78 160 57 = h 160 57 := (p57_u78).trans k57_u74x
                                        have k68_u78x : h 160 68 + 3 ≤ u78 160 68 ∧ u78 160 68 ≤ h 160 68 + 20 * (Cm s e - Cm s a) + 3 + 20 * (Cm s p39 - Cm s (e + 1)) := by omega
                                        have k70_u78x : u78 160 70 = h 160 70 + 1 - 1 + 1 := by omega
                                        have k72_u78x : u78 160 72 = h 160 72 := (p72_u78).trans k72_u74x
                                        have k78_u78x : h 160 78 ≤ u78 160 78 ∧ u78 160 78 ≤ h 160 78 + 2 * (Cm s e - Cm s a) + 2 * (Cm s p39 - Cm s (e + 1)) := by omega
                                        have k84_u78x : u78 160 84 = h 160 84 := (p84_u78).trans k84_u74x
                                        have k87_u78x : u78 160 87 = h 160 87 + 1 := (p87_u78).trans k87_u74x
                                        have k88_u78x : h 160 88 + 1 + 1 ≤ u78 160 88 ∧ u78 160 88 ≤ h 160 88 + 1 + 1 + 2 * (Cm s e - Cm s a) + 2 * (Cm s p39 - Cm s (e + 1)) := by omega
                                        clear k50_u74x k54_u74x k57_u74x k68_u74x k70_u74x k72_u74x k78_u74x k84_u74x k87_u74x k88_u74x p70_u78 p68_u78 p78_u78 p88_u78 p50_u78 p54_u78 p57_u78 p72_u78 p84_u78 p87_u78 J_u78 R_u78
                                        clear T_u78 Y_u78 D_u78
                                        refine ok_sub (by omega) ?_; intro v80 e_v80
                                        refine ok_xl ?_; intro h81 E_h81
                                        obtain ⟨C_h81, k70_h81, N_h81⟩ := cw_pop C_u78 E_h81 (by omega)
                                        have k50_h81x : h81 160 50 = h 160 50 := (N_h81 160 50 (by decide)).trans k50_u78x
                                        have k54_h81x : h81 160 54 = h 160 54 := (N_h81 160 54 (by decide)).trans k54_u78x
                                        have k57_h81x : h81 160 57 = h 160 57 := (N_h81 160 57 (by decide)).trans k57_u78x
                                        have k68_h81x : h 160 68 + 3 ≤ h81 160 68 ∧ h81 160 68 ≤ h 160 68 + 20 * (Cm s e - Cm s a) + 3 + 20 * (Cm s p39 - Cm s (e + 1)) := by rw [show h81 160 68 = _ from N_h81 160 68 (by decide)]; exact k68_u78x
                                        have k70_h81x : h81 160 70 = h 160 70 + 1 - 1 + 1 - 1 := by omega
                                        have k72_h81x : h81 160 72 = h 160 72 := (N_h81 160 72 (by decide)).trans k72_u78x
                                        have k78_h81x : h 160 78 ≤ h81 160 78 ∧ h81 160 78 ≤ h 160 78 + 2 * (Cm s e - Cm s a) + 2 * (Cm s p39 - Cm s (e + 1)) := by rw [show h81 160 78 = _ from N_h81 160 78 (by decide)]; exact k78_u78x
                                        have k84_h81x : h81 160 84 = h 160 84 := (N_h81 160 84 (by decide)).trans k84_u78x
                                        have k87_h81x : h81 160 87 = h 160 87 + 1 := (N_h81 160 87 (by decide)).trans k87_u78x
                                        have k88_h81x : h 160 88 + 1 + 1 ≤ h81 160 88 ∧ h81 160 88 ≤ h 160 88 + 1 + 1 + 2 * (Cm s e - Cm s a) + 2 * (Cm s p39 - Cm s (e + 1)) := by rw [show h81 160 88 = _ from N_h81 160 88 (by decide)]; exact k88_u78x
                                        have J187 : ∀ i : Nat, (i : Int) < h 160 87 → h81 217 i = h 217 i ∧ h81 218 i = h 218 i := fun i hi => by rw [show h81 217 i = u78 217 i from N_h81 217 i (by omega), show h81 218 i = u78 218 i from N_h81 218 i (by omega)]; exact J184 i hi
                                        have E188 : h81 218 (h 160 87).toNat = u63.1 := (show h81 218 _ = u78 218 _ from N_h81 218 _ (by omega)).trans E185
                                        have R189 : ∀ j : Nat, (j : Int) < h 160 57 → h81 199 j = h 199 j := fun j hj => (show h81 199 j = u78 199 j from N_h81 199 j (by omega)).trans (R186 j hj)
                                        clear k50_u78x k54_u78x k57_u78x k68_u78x k70_u78x k72_u78x k78_u78x k84_u78x k87_u78x k88_u78x k70_h81 E_h81
                                        refine ok_sv (cw_jump hn C_h81 (by omega) (by omega) (by omega) (by omega)) ?_; intro u83 P_u83
                                        obtain ⟨C_u83, k68_u83, k87_u83, n_u83, p_u83, N_u83⟩ := P_u83
                                        have J190 : ∀ i : Nat, (i : Int) < h 160 87 → u83 217 i = h 217 i ∧ u83 218 i = h 218 i := fun i hi => by rw [(p_u83 i (by omega)).1, (p_u83 i (by omega)).2]; exact J187 i hi
                                        have E191 : u83 218 (h 160 87).toNat = u63.1 := ((p_u83 _ (by omega)).2).trans E188
                                        have E192 : u83 218 (h 160 87 + 1).toNat = u65.1 := by rw [show h 160 87 + 1 = h81 160 87 by omega]; exact n_u83
                                        have k50_u83x : u83 160 50 = h 160 50 := (N_u83 160 50 rfl).trans k50_h81x
                                        have k54_u83x : u83 160 54 = h 160 54 := (N_u83 160 54 rfl).trans k54_h81x
                                        have k57_u83x : u83 160 57 = h 160 57 := (N_u83 160 57 rfl).trans k57_h81x
                                        have k68_u83x : h 160 68 + 3 + 3 ≤ u83 160 68 ∧ u83 160 68 ≤ h 160 68 + 20 * (Cm s e - Cm s a) + 3 + 20 * (Cm s p39 - Cm s (e + 1)) + 3 := by omega
                                        have k70_u83x : u83 160 70 = h 160 70 + 1 - 1 + 1 - 1 := (N_u83 160 70 rfl).trans k70_h81x
                                        have k72_u83x : u83 160 72 = h 160 72 := (N_u83 160 72 rfl).trans k72_h81x
                                        have k78_u83x : h 160 78 ≤ u83 160 78 ∧ u83 160 78 ≤ h 160 78 + 2 * (Cm s e - Cm s a) + 2 * (Cm s p39 - Cm s (e + 1)) := by rw [show u83 160 78 = _ from N_u83 160 78 rfl]; exact k78_h81x
                                        have k84_u83x : u83 160 84 = h 160 84 := (N_u83 160 84 rfl).trans k84_h81x
                                        have k87_u83x : u83 160 87 = h 160 87 + 1 + 1 := by omega
                                        have k88_u83x : h 160 88 + 1 + 1 ≤ u83 160 88 ∧ u83 160 88 ≤ h 160 88 + 1 + 1 + 2 * (Cm s e - Cm s a) + 2 * (Cm s p39 - Cm s (e + 1)) := by rw [show u83 160 88 = _ from N_u83 160 88 rfl]; exact k88_h81x
                                        have R193 : ∀ j : Nat, (j : Int) < h 160 57 → u83 199 j = h 199 j := fun j hj => (show u83 199 j = h81 199 j from N_u83 199 j (nw_ar rfl j)).trans (R189 j hj)
                                        clear k50_h81x k54_h81x k57_h81x k68_h81x k70_h81x k72_h81x k78_h81x k84_h81x k87_h81x k88_h81x k68_u83 k87_u83
                                        have H194 : ∀ i : Nat, (i : Int) < h 160 87 → ¬ u83 218 i = u63.1 := fun i hi => by rw [(J190 i hi).2]; have := C0.1.2.2.2.2.1 i hi; omega
                                        refine ok_sv (cw_stands hn C_u83 (by omega) H194 (by omega) (by omega)) ?_; intro u86 P_u86
                                        obtain ⟨C_u86, k87_u86, k78_u86, p_u86, q_u86, N_u86⟩ := P_u86
                                        have J195 : ∀ i : Nat, (i : Int) < h 160 87 → u86 217 i = h 217 i ∧ u86 218 i = h 218 i := fun i hi => by rw [(p_u86 i hi).1, (p_u86 i hi).2]; exact J190 i hi
                                        have A196 : ∀ i : Nat, h 160 87 ≤ (i : Int) → (i : Int) < u86 160 87 → u86 218 i = u65.1 := fun i h1 h2 => by
                                          obtain ⟨w1, j, j1, j2, _⟩ := q_u86 i h1 h2
                                          by_cases w : (j : Int) = h 160 87
                                          · exfalso; apply w1; rw [j2, show j = (h 160 87).toNat by omega]; exact E191
                                          · rw [j2, show j = (h 160 87 + 1).toNat by omega]; exact E192
                                        have k50_u86x : u86 160 50 = h 160 50 := (N_u86 160 50 rfl).trans k50_u83x
                                        have k54_u86x : u86 160 54 = h 160 54 := (N_u86 160 54 rfl).trans k54_u83x
                                        have k57_u86x : u86 160 57 = h 160 57 := (N_u86 160 57 rfl).trans k57_u83x
                                        have k68_u86x : h 160 68 + 3 + 3 ≤ u86 160 68 ∧ u86 160 68 ≤ h 160 68 + 20 * (Cm s e - Cm s a) + 3 + 20 * (Cm s p39 - Cm s (e + 1)) + 3 := by rw [show u86 160 68 = _ from N_u86 160 68 rfl]; exact k68_u83x
                                        have k70_u86x : u86 160 70 = h 160 70 + 1 - 1 + 1 - 1 := (N_u86 160 70 rfl).trans k70_u83x
                                        have k72_u86x : u86 160 72 = h 160 72 := (N_u86 160 72 rfl).trans k72_u83x
                                        have k78_u86x : h 160 78 ≤ u86 160 78 ∧ u86 160 78 ≤ h 160 78 + 2 * (Cm s e - Cm s a) + 2 * (Cm s p39 - Cm s (e + 1)) + 1 := by omega
                                        have k84_u86x : u86 160 84 = h 160 84 := (N_u86 160 84 rfl).trans k84_u83x
                                        have k87_u86x : h 160 87 ≤ u86 160 87 ∧ u86 160 87 ≤ h 160 87 + 1 + 1 := by omega
                                        have k88_u86x : h 160 88 + 1 + 1 ≤ u86 160 88 ∧ u86 160 88 ≤ h 160 88 + 1 + 1 + 2 * (Cm s e - Cm s a) + 2 * (Cm s p39 - Cm s (e + 1)) := by rw [show u86 160 88 = _ from N_u86 160 88 rfl]; exact k88_u83x
                                        have R197 : ∀ j : Nat, (j : Int) < h 160 57 → u86 199 j = h 199 j := fun j hj => (show u86 199 j = u83 199 j from N_u86 199 j (nw_ar rfl j)).trans (R193 j hj)
                                        clear k50_u83x k54_u83x k57_u83x k68_u83x k70_u83x k72_u83x k78_u83x k84_u83x k87_u83x k88_u83x k87_u86 k78_u86
                                        refine ok_rd (by omega) (gA_172 C_u86.1.1) ?_; intro v88 e_v88 a_v88 b_v88
                                        have t_v88 : v88 = s 172 (e).toNat := by rw [e_v88]; exact C_u86.1.2.1 172 _ (nw_ar rfl _)
                                        clear e_v88
                                        have T_u90 : TE 0 s 0 (d - 2 - 2 * 0) p39 b v88 := by rw [t_v88]; exact z39
                                        have Y_u90 := w39; rw [← t_v88] at Y_u90
                                        have g_u90 := te_rg T_u90
                                        have D_u90 : dv s v88 = 1 := if_neg Y_u90.1
                                        have m_u90 := cm_mono (s := s) (a := p39) (b := b) (by omega) (by omega)
                                        refine ok_sv (G.1 v88 _ _ _ _ _ _ _ C_u86 T_u90 Y_u90.2 (.inl Y_u90.1) (by omega) (by omega) ⟨⟨by omega, by omega⟩, by omega, by omega, by omega, by omega, by omega, by omega⟩) ?_; intro u90 P_u90
                                        rw [D_u90] at P_u90
                                        obtain ⟨C_u90, p70_u90, p68_u90, p78_u90, p88_u90, ⟨p50_u90, p54_u90, p57_u90, p72_u90, p84_u90, p87_u90⟩, J_u90, R_u90⟩ := P_u90
                                        have J198 : ∀ i : Nat, (i : Int) < h 160 87 → u90 217 i = h 217 i ∧ u90 218 i = h 218 i := fun i hi => by rw [(J_u90 i (by omega)).1, (J_u90 i (by omega)).2]; exact J195 i hi
                                        have A199 : ∀ i : Nat, h 160 87 ≤ (i : Int) → (i : Int) < u90 160 87 → u90 218 i = u65.1 := fun i h1 h2 => ((J_u90 i (by omega)).2).trans (A196 i h1 (by omega))
                                        have R200 : ∀ j : Nat, (j : Int) < h 160 57 → u90 199 j = h 199 j := fun j hj => (R_u90 j (by omega)).trans (R197 j hj)
                                        have k50_u90x : u90 160 50 = h 160 50 := (p50_u90).trans k50_u86x
                                        have k54_u90x : u90 160 54 = h 160 54 := (p54_u90).trans k54_u86x
                                        have k57_u90x : u90 160 57 = h 160 57 := (p57_u90).trans k57_u86x
                                        have k68_u90x : h 160 68 + 3 + 3 ≤ u90 160 68 ∧ u90 160 68 ≤ h 160 68 + 20 * (Cm s e - Cm s a) + 3 + 20 * (Cm s p39 - Cm s (e + 1)) + 3 + 20 * (Cm s b - Cm s p39) := by omega
                                        have k70_u90x : u90 160 70 = h 160 70 + 1 - 1 + 1 - 1 + 1 := by omega
                                        have k72_u90x : u90 160 72 = h 160 72 := (p72_u90).trans k72_u86x
                                        have k78_u90x : h 160 78 ≤ u90 160 78 ∧ u90 160 78 ≤ h 160 78 + 2 * (Cm s e - Cm s a) + 2 * (Cm s p39 - Cm s (e + 1)) + 1 + 2 * (Cm s b - Cm s p39) := by omega
                                        have k84_u90x : u90 160 84 = h 160 84 := (p84_u90).trans k84_u86x
                                        have k87_u90x : h 160 87 ≤ u90 160 87 ∧ u90 160 87 ≤ h 160 87 + 1 + 1 := by rw [show u90 160 87 = _ from p87_u90]; exact k87_u86x
                                        have k88_u90x : h 160 88 + 1 + 1 ≤ u90 160 88 ∧ u90 160 88 ≤ h 160 88 + 1 + 1 + 2 * (Cm s e - Cm s a) + 2 * (Cm s p39 - Cm s (e + 1)) + 2 * (Cm s b - Cm s p39) := by omega
                                        clear k50_u86x k54_u86x k57_u86x k68_u86x k70_u86x k72_u86x k78_u86x k84_u86x k87_u86x k88_u86x p70_u90 p68_u90 p78_u90 p88_u90 p50_u90 p54_u90 p57_u90 p72_u90 p84_u90 p87_u90 J_u90 R_u90
                                        clear T_u90 Y_u90 D_u90
                                        refine ok_sub (by omega) ?_; intro v92 e_v92
                                        refine ok_xl ?_; intro h93 E_h93
                                        obtain ⟨C_h93, k70_h93, N_h93⟩ := cw_pop C_u90 E_h93 (by omega)
                                        have k50_h93x : h93 160 50 = h 160 50 := (N_h93 160 50 (by decide)).trans k50_u90x
                                        have k54_h93x : h93 160 54 = h 160 54 := (N_h93 160 54 (by decide)).trans k54_u90x
                                        have k57_h93x : h93 160 57 = h 160 57 := (N_h93 160 57 (by decide)).trans k57_u90x
                                        have k68_h93x : h 160 68 + 3 + 3 ≤ h93 160 68 ∧ h93 160 68 ≤ h 160 68 + 20 * (Cm s e - Cm s a) + 3 + 20 * (Cm s p39 - Cm s (e + 1)) + 3 + 20 * (Cm s b - Cm s p39) := by rw [show h93 160 68 = _ from N_h93 160 68 (by decide)]; exact k68_u90x
                                        have k70_h93x : h93 160 70 = h 160 70 + 1 - 1 + 1 - 1 + 1 - 1 := by omega
                                        have k72_h93x : h93 160 72 = h 160 72 := (N_h93 160 72 (by decide)).trans k72_u90x
                                        have k78_h93x : h 160 78 ≤ h93 160 78 ∧ h93 160 78 ≤ h 160 78 + 2 * (Cm s e - Cm s a) + 2 * (Cm s p39 - Cm s (e + 1)) + 1 + 2 * (Cm s b - Cm s p39) := by rw [show h93 160 78 = _ from N_h93 160 78 (by decide)]; exact k78_u90x
                                        have k84_h93x : h93 160 84 = h 160 84 := (N_h93 160 84 (by decide)).trans k84_u90x
                                        have k87_h93x : h 160 87 ≤ h93 160 87 ∧ h93 160 87 ≤ h 160 87 + 1 + 1 := by rw [show h93 160 87 = _ from N_h93 160 87 (by decide)]; exact k87_u90x
                                        have k88_h93x : h 160 88 + 1 + 1 ≤ h93 160 88 ∧ h93 160 88 ≤ h 160 88 + 1 + 1 + 2 * (Cm s e - Cm s a) + 2 * (Cm s p39 - Cm s (e + 1)) + 2 * (Cm s b - Cm s p39) := by rw [show h93 160 88 = _ from N_h93 160 88 (by decide)]; exact k88_u90x
                                        have J201 : ∀ i : Nat, (i : Int) < h 160 87 → h93 217 i = h 217 i ∧ h93 218 i = h 218 i := fun i hi => by rw [show h93 217 i = u90 217 i from N_h93 217 i (by omega), show h93 218 i = u90 218 i from N_h93 218 i (by omega)]; exact J198 i hi
                                        have A202 : ∀ i : Nat, h 160 87 ≤ (i : Int) → (i : Int) < h93 160 87 → h93 218 i = u65.1 := fun i h1 h2 => (show h93 218 i = u90 218 i from N_h93 218 i (by omega)).trans (A199 i h1 (by rw [← show h93 160 87 = u90 160 87 from N_h93 160 87 (by decide)]; exact h2))
                                        have R203 : ∀ j : Nat, (j : Int) < h 160 57 → h93 199 j = h 199 j := fun j hj => (show h93 199 j = u90 199 j from N_h93 199 j (by omega)).trans (R200 j hj)
                                        clear k50_u90x k54_u90x k57_u90x k68_u90x k70_u90x k72_u90x k78_u90x k84_u90x k87_u90x k88_u90x k70_h93 E_h93
                                        refine ok_sv (cw_push C_h93 (by omega) (by omega)) ?_; intro u95 P_u95
                                        obtain ⟨C_u95, k70_u95, N_u95⟩ := P_u95
                                        have k50_u95x : u95 160 50 = h 160 50 := (N_u95 160 50 (by decide) (by decide)).trans k50_h93x
                                        have k54_u95x : u95 160 54 = h 160 54 := (N_u95 160 54 (by decide) (by decide)).trans k54_h93x
                                        have k57_u95x : u95 160 57 = h 160 57 := (N_u95 160 57 (by decide) (by decide)).trans k57_h93x
                                        have k68_u95x : h 160 68 + 3 + 3 ≤ u95 160 68 ∧ u95 160 68 ≤ h 160 68 + 20 * (Cm s e - Cm s a) + 3 + 20 * (Cm s p39 - Cm s (e + 1)) + 3 + 20 * (Cm s b - Cm s p39) := by rw [show u95 160 68 = _ from N_u95 160 68 (by decide) (by decide)]; exact k68_h93x
                                        have k70_u95x : u95 160 70 = h 160 70 + 1 - 1 + 1 - 1 + 1 - 1 + 1 := by omega
                                        have k72_u95x : u95 160 72 = h 160 72 := (N_u95 160 72 (by decide) (by decide)).trans k72_h93x
                                        have k78_u95x : h 160 78 ≤ u95 160 78 ∧ u95 160 78 ≤ h 160 78 + 2 * (Cm s e - Cm s a) + 2 * (Cm s p39 - Cm s (e + 1)) + 1 + 2 * (Cm s b - Cm s p39) := by rw [show u95 160 78 = _ from N_u95 160 78 (by decide) (by decide)]; exact k78_h93x
                                        have k84_u95x : u95 160 84 = h 160 84 := (N_u95 160 84 (by decide) (by decide)).trans k84_h93x
                                        have k87_u95x : h 160 87 ≤ u95 160 87 ∧ u95 160 87 ≤ h 160 87 + 1 + 1 := by rw [show u95 160 87 = _ from N_u95 160 87 (by decide) (by decide)]; exact k87_h93x
                                        have k88_u95x : h 160 88 + 1 + 1 ≤ u95 160 88 ∧ u95 160 88 ≤ h 160 88 + 1 + 1 + 2 * (Cm s e - Cm s a) + 2 * (Cm s p39 - Cm s (e + 1)) + 2 * (Cm s b - Cm s p39) := by rw [show u95 160 88 = _ from N_u95 160 88 (by decide) (by decide)]; exact k88_h93x
                                        have J204 : ∀ i : Nat, (i : Int) < h 160 87 → u95 217 i = h 217 i ∧ u95 218 i = h 218 i := fun i hi => by rw [show u95 217 i = h93 217 i from N_u95 217 i (by decide) (by omega), show u95 218 i = h93 218 i from N_u95 218 i (by decide) (by omega)]; exact J201 i hi
                                        have A205 : ∀ i : Nat, h 160 87 ≤ (i : Int) → (i : Int) < u95 160 87 → u95 218 i = u65.1 := fun i h1 h2 => (show u95 218 i = h93 218 i from N_u95 218 i (by decide) (by omega)).trans (A202 i h1 (by rw [← show u95 160 87 = h93 160 87 from N_u95 160 87 (by decide) (by decide)]; exact h2))
                                        have R206 : ∀ j : Nat, (j : Int) < h 160 57 → u95 199 j = h 199 j := fun j hj => (show u95 199 j = h93 199 j from N_u95 199 j (by decide) (by omega)).trans (R203 j hj)
                                        clear k50_h93x k54_h93x k57_h93x k68_h93x k70_h93x k72_h93x k78_h93x k84_h93x k87_h93x k88_h93x k70_u95
                                        have H207 : ∀ i : Nat, (i : Int) < h 160 87 → ¬ u95 218 i = u65.1 := fun i hi => by rw [(J204 i hi).2]; have := C0.1.2.2.2.2.1 i hi; omega
                                        refine ok_sv (cw_stands hn C_u95 (by omega) H207 (by omega) (by omega)) ?_; intro u98 P_u98
                                        obtain ⟨C_u98, k87_u98, k78_u98, p_u98, q_u98, N_u98⟩ := P_u98
                                        have J208 : ∀ i : Nat, (i : Int) < h 160 87 → u98 217 i = h 217 i ∧ u98 218 i = h 218 i := fun i hi => by rw [(p_u98 i hi).1, (p_u98 i hi).2]; exact J204 i hi
                                        have k87x_u98 : u98 160 87 = h 160 87 := by
                                          by_cases w : u98 160 87 = h 160 87
                                          · exact w
                                          · exfalso
                                            obtain ⟨w1, j, j1, j2, _⟩ := q_u98 (h 160 87).toNat (by omega) (by omega)
                                            apply w1; rw [j2]; exact A205 j j1.1 j1.2
                                        have k50_u98x : u98 160 50 = h 160 50 := (N_u98 160 50 rfl).trans k50_u95x
                                        have k54_u98x : u98 160 54 = h 160 54 := (N_u98 160 54 rfl).trans k54_u95x
                                        have k57_u98x : u98 160 57 = h 160 57 := (N_u98 160 57 rfl).trans k57_u95x
                                        have k68_u98x : h 160 68 + 3 + 3 ≤ u98 160 68 ∧ u98 160 68 ≤ h 160 68 + 20 * (Cm s e - Cm s a) + 3 + 20 * (Cm s p39 - Cm s (e + 1)) + 3 + 20 * (Cm s b - Cm s p39) := by rw [show u98 160 68 = _ from N_u98 160 68 rfl]; exact k68_u95x
                                        have k70_u98x : u98 160 70 = h 160 70 + 1 - 1 + 1 - 1 + 1 - 1 + 1 := (N_u98 160 70 rfl).trans k70_u95x
                                        have k72_u98x : u98 160 72 = h 160 72 := (N_u98 160 72 rfl).trans k72_u95x
                                        have k78_u98x : h 160 78 ≤ u98 160 78 ∧ u98 160 78 ≤ h 160 78 + 2 * (Cm s e - Cm s a) + 2 * (Cm s p39 - Cm s (e + 1)) + 1 + 2 * (Cm s b - Cm s p39) + 1 := by omega
                                        have k84_u98x : u98 160 84 = h 160 84 := (N_u98 160 84 rfl).trans k84_u95x
                                        have k87_u98x : u98 160 87 = h 160 87 := by omega
                                        have k88_u98x : h 160 88 + 1 + 1 ≤ u98 160 88 ∧ u98 160 88 ≤ h 160 88 + 1 + 1 + 2 * (Cm s e - Cm s a) + 2 * (Cm s p39 - Cm s (e + 1)) + 2 * (Cm s b - Cm s p39) := by rw [show u98 160 88 = _ from N_u98 160 88 rfl]; exact k88_u95x
                                        have R209 : ∀ j : Nat, (j : Int) < h 160 57 → u98 199 j = h 199 j := fun j hj => (show u98 199 j = u95 199 j from N_u98 199 j (nw_ar rfl j)).trans (R206 j hj)
                                        clear k50_u95x k54_u95x k57_u95x k68_u95x k70_u95x k72_u95x k78_u95x k84_u95x k87_u95x k88_u95x k87_u98 k78_u98 k87x_u98
                                        unfold qj_X13_workOne_775
                                        exact ok_ret ⟨cw_le C_u98 (by omega), by omega, by omega, by omega, by omega, by omega, J208, R209⟩
set_option maxHeartbeats 20000000 in
theorem wo_workBoth {nn : Nat} (hn : 1000000 ≤ nn) {s : ms_M} (S : GZ s) {g : Int} {rc : tq_X13_work} (G : WG s g rc) {e d a b a2 b2 w : Int} {h : ms_M} (C0 : CW s w h) (T : TE 0 s 0 d a b e) (Y : YT s 0 a2 b2 e) (hk : s 167 e.toNat = 37) (hG : ¬ s 174 e.toNat = 3) (hb : b ≤ s 160 22) (hd : d - 1 ≤ g + 1) (B : BD h (Cm s b - Cm s e) a b d (w - 1) (h 160 70 - 1)) : Ok_ (qo_X13_workBoth nn rc e h) (QK s h (w + (Cm s b - Cm s e)) (h 160 70) (Cm s b - Cm s e)) := by
  unfold qo_X13_workBoth
  have J0 : ∀ i : Nat, (i : Int) < h 160 87 → h 217 i = h 217 i ∧ h 218 i = h 218 i := fun _ _ => ⟨rfl, rfl⟩
  have R0 : ∀ j : Nat, (j : Int) < h 160 57 → h 199 j = h 199 j := fun _ _ => rfl
  have g50 := gF_160_50 C0.1.1
  have k50_h : h 160 50 = h 160 50 := rfl
  have g54 := gF_160_54 C0.1.1
  have k54_h : h 160 54 = h 160 54 := rfl
  have g57 := gF_160_57 C0.1.1
  have k57_h : h 160 57 = h 160 57 := rfl
  have g68 := gF_160_68 C0.1.1
  have k68_h : h 160 68 = h 160 68 := rfl
  have g70 := gF_160_70 C0.1.1
  have k70_h : h 160 70 = h 160 70 := rfl
  have g72 := gF_160_72 C0.1.1
  have k72_h : h 160 72 = h 160 72 := rfl
  have g78 := gF_160_78 C0.1.1
  have k78_h : h 160 78 = h 160 78 := rfl
  have g84 := gF_160_84 C0.1.1
  have k84_h : h 160 84 = h 160 84 := rfl
  have g87 := gF_160_87 C0.1.1
  have k87_h : h 160 87 = h 160 87 := rfl
  have g88 := gF_160_88 C0.1.1
  have k88_h : h 160 88 = h 160 88 := rfl
  have g24x := gF_160_24 C0.1.1
  have q24x : h 160 24 = s 160 24 := C0.1.2.1 160 24 rfl
  obtain ⟨⟨bd1, bd0⟩, bd2, bd3, bd4, bd5, bd6, bd7⟩ := B
  have rg := te_rg T
  have kd := te_kd T
  have g24 := gF_160_24 S.1
  have s24 := S.2.1.2.1
  have s22 := S.2.2.1.2
  have s28 := S.2.1.2.2.2.1
  have s52 := S.2.2.1.1
  have cm1 := cm_mono (s := s) (a := a) (b := e) (by omega) (by omega)
  have cm2 := cm_mono (s := s) (a := e + 1) (b := b) (by omega) (by omega)
  have cm3 := cm_at (s := s) (e := e) (by omega)
  rw [hk, show wt 37 = 1 by decide] at cm3
  refine ok_rd (by omega) (gA_168 C0.1.1) ?_; intro v70 e_v70 a_v70 b_v70
  have t_v70 : v70 = s 168 (e).toNat := by rw [e_v70]; exact C0.1.2.1 168 _ (nw_ar rfl _)
  clear e_v70
  refine ok_rd (by omega) (gA_166 C0.1.1) ?_; intro v71 e_v71 a_v71 b_v71
  have t_v71 : v71 = s 166 (v70).toNat := by rw [e_v71]; exact C0.1.2.1 166 _ (nw_ar rfl _)
  clear e_v71
  refine ok_sv (vf_X13_sign hn (by omega) (by omega) (by omega) (by omega) (by omega) (by omega) C0.1.1) ?_; intro u72 P_u72
  clear P_u72
  refine ok_if (fun C1 => ?_) (fun C1 => ?_)
  · skip
    unfold qj_X13_workBoth_29
    rw [if_neg (by decide)]
    refine ok_sv (vf_X13_sign hn (by omega) (by omega) (by omega) (by omega) (by omega) (by omega) C0.1.1) ?_; intro u48 P_u48
    clear P_u48
    refine ok_if (fun C2 => ?_) (fun C2 => ?_)
    · skip
      refine ok_rd (by omega) (gA_171 C0.1.1) ?_; intro v50 e_v50 a_v50 b_v50
      have t_v50 : v50 = s 171 (e).toNat := by rw [e_v50]; exact C0.1.2.1 171 _ (nw_ar rfl _)
      clear e_v50
      have c_v50 := te_rg (te_k37 T (by omega)).2; rw [← t_v50] at c_v50
      have T_u52 : TE 0 s 0 (d - 3) (e + 1) b v50 := by rw [t_v50]; exact (te_k37 T (by omega)).2
      have Y_u52 := (yo_32 Y (by omega)).2; rw [← t_v50] at Y_u52
      have g_u52 := te_rg T_u52
      have D_u52 : dv s v50 = 1 := if_neg Y_u52.1
      have m_u52 := cm_mono (s := s) (a := (e + 1)) (b := b) (by omega) (by omega)
      refine ok_sv (G.1 v50 _ _ _ _ _ _ _ C0 T_u52 Y_u52.2 (.inl Y_u52.1) (by omega) (by omega) ⟨⟨by omega, by omega⟩, by omega, by omega, by omega, by omega, by omega, by omega⟩) ?_; intro u52 P_u52
      rw [D_u52] at P_u52
      obtain ⟨C_u52, p70_u52, p68_u52, p78_u52, p88_u52, ⟨p50_u52, p54_u52, p57_u52, p72_u52, p84_u52, p87_u52⟩, J_u52, R_u52⟩ := P_u52
      have J3 : ∀ i : Nat, (i : Int) < h 160 87 → u52 217 i = h 217 i ∧ u52 218 i = h 218 i := fun i hi => by rw [(J_u52 i (by omega)).1, (J_u52 i (by omega)).2]; exact J0 i hi
      have R4 : ∀ j : Nat, (j : Int) < h 160 57 → u52 199 j = h 199 j := fun j hj => (R_u52 j (by omega)).trans (R0 j hj)
      have k50_u52x : u52 160 50 = h 160 50 := (p50_u52).trans k50_h
      have k54_u52x : u52 160 54 = h 160 54 := (p54_u52).trans k54_h
      have k57_u52x : u52 160 57 = h 160 57 := (p57_u52).trans k57_h
      have k68_u52x : h 160 68 ≤ u52 160 68 ∧ u52 160 68 ≤ h 160 68 + 20 * (Cm s b - Cm s (e + 1)) := by omega
      have k70_u52x : u52 160 70 = h 160 70 + 1 := by omega
      have k72_u52x : u52 160 72 = h 160 72 := (p72_u52).trans k72_h
      have k78_u52x : h 160 78 ≤ u52 160 78 ∧ u52 160 78 ≤ h 160 78 + 2 * (Cm s b - Cm s (e + 1)) := by omega
      have k84_u52x : u52 160 84 = h 160 84 := (p84_u52).trans k84_h
      have k87_u52x : u52 160 87 = h 160 87 := (p87_u52).trans k87_h
      have k88_u52x : h 160 88 ≤ u52 160 88 ∧ u52 160 88 ≤ h 160 88 + 2 * (Cm s b - Cm s (e + 1)) := by omega
      clear k50_h k54_h k57_h k68_h k70_h k72_h k78_h k84_h k87_h k88_h p70_u52 p68_u52 p78_u52 p88_u52 p50_u52 p54_u52 p57_u52 p72_u52 p84_u52 p87_u52 J_u52 R_u52
      clear T_u52 Y_u52 D_u52
      refine ok_rd (by omega) (gA_168 C_u52.1.1) ?_; intro v54 e_v54 a_v54 b_v54
      have t_v54 : v54 = s 168 (e).toNat := by rw [e_v54]; exact C_u52.1.2.1 168 _ (nw_ar rfl _)
      clear e_v54
      have d_v54 : v70 = v54 := by rw [t_v54, t_v70]
      subst d_v54
      refine ok_sv (vf_X13_strength hn (by omega) (by omega) C_u52.1.1) ?_; intro u56 P_u56
      refine ok_if (fun C5 => ?_) (fun C5 => ?_)
      · skip
        unfold qj_X13_workBoth_190
        refine ok_rd (by omega) (gA_170 C_u52.1.1) ?_; intro v15 e_v15 a_v15 b_v15
        have t_v15 : v15 = s 170 (e).toNat := by rw [e_v15]; exact C_u52.1.2.1 170 _ (nw_ar rfl _)
        clear e_v15
        have c_v15 := te_rg (te_led T (by omega)); rw [← t_v15] at c_v15
        refine ok_rd (by omega) (gA_174 C_u52.1.1) ?_; intro v16 e_v16 a_v16 b_v16
        have t_v16 : v16 = s 174 (v15).toNat := by rw [e_v16]; exact C_u52.1.2.1 174 _ (nw_ar rfl _)
        clear e_v16
        have l_v16 := (S.2.2.2 (v15).toNat (by omega)).1; rw [← t_v16] at l_v16
        refine ok_if (fun C6 => ?_) (fun C6 => ?_)
        · skip
          unfold qj_X13_workBoth_210
          refine ok_sv (vf_X13_sign hn (by omega) (by omega) (by omega) (by omega) (by omega) (by omega) C_u52.1.1) ?_; intro u3 P_u3
          clear P_u3
          refine ok_if (fun C7 => ?_) (fun C7 => ?_)
          · skip
            refine ok_sv (vf_X13_sign hn (by omega) (by omega) (by omega) (by omega) (by omega) (by omega) C_u52.1.1) ?_; intro u4 P_u4
            clear P_u4
            refine ok_if (fun C8 => ?_) (fun C8 => ?_)
            · skip
              refine ok_if (fun C9 => ?_) (fun C9 => ?_)
              · skip
                refine ok_sv (vf_X13_sign hn (by omega) (by omega) (by omega) (by omega) (by omega) (by omega) C_u52.1.1) ?_; intro u5 P_u5
                clear P_u5
                refine ok_if (fun C10 => ?_) (fun C10 => ?_)
                · skip
                  refine ok_if (fun C11 => ?_) (fun C11 => ?_)
                  · skip
                    unfold qj_X13_workBoth_315
                    refine ok_sv (cw_truth hn C_u52 (by omega) (by omega) (by omega) (by omega) (by omega) (by omega) (by omega)) ?_; intro u2 P_u2
                    obtain ⟨C_u2, p70_u2, p68_u2, p78_u2, p88_u2, ⟨p50_u2, p54_u2, p57_u2, p72_u2, p84_u2, p87_u2⟩, J_u2, R_u2⟩ := P_u2
                    have J12 : ∀ i : Nat, (i : Int) < h 160 87 → u2 217 i = h 217 i ∧ u2 218 i = h 218 i := fun i hi => by rw [(J_u2 i (by omega)).1, (J_u2 i (by omega)).2]; exact J3 i hi
                    have R13 : ∀ j : Nat, (j : Int) < h 160 57 → u2 199 j = h 199 j := fun j hj => (R_u2 j (by omega)).trans (R4 j hj)
                    have k50_u2x : u2 160 50 = h 160 50 := (p50_u2).trans k50_u52x
                    have k54_u2x : u2 160 54 = h 160 54 := (p54_u2).trans k54_u52x
                    have k57_u2x : u2 160 57 = h 160 57 := (p57_u2).trans k57_u52x
                    have k68_u2x : h 160 68 ≤ u2 160 68 ∧ u2 160 68 ≤ h 160 68 + 20 * (Cm s b - Cm s (e + 1)) + 10 := by omega
                    have k70_u2x : u2 160 70 = h 160 70 + 1 - 2 + 1 := by omega
                    have k72_u2x : u2 160 72 = h 160 72 := (p72_u2).trans k72_u52x
                    have k78_u2x : h 160 78 ≤ u2 160 78 ∧ u2 160 78 ≤ h 160 78 + 2 * (Cm s b - Cm s (e + 1)) + 2 := by omega
                    have k84_u2x : u2 160 84 = h 160 84 := (p84_u2).trans k84_u52x
                    have k87_u2x : u2 160 87 = h 160 87 := (p87_u2).trans k87_u52x
                    have k88_u2x : h 160 88 ≤ u2 160 88 ∧ u2 160 88 ≤ h 160 88 + 2 * (Cm s b - Cm s (e + 1)) + 2 := by omega
                    clear k50_u52x k54_u52x k57_u52x k68_u52x k70_u52x k72_u52x k78_u52x k84_u52x k87_u52x k88_u52x p70_u2 p68_u2 p78_u2 p88_u2 p50_u2 p54_u2 p57_u2 p72_u2 p84_u2 p87_u2 J_u2 R_u2
                    exact ok_ret ⟨cw_le C_u2 (by omega), by omega, by omega, by omega, by omega, by omega, J12, R13⟩
                  · skip
                    unfold qj_X13_workBoth_315
                    refine ok_sv (cw_truth hn C_u52 (by omega) (by omega) (by omega) (by omega) (by omega) (by omega) (by omega)) ?_; intro u2 P_u2
                    obtain ⟨C_u2, p70_u2, p68_u2, p78_u2, p88_u2, ⟨p50_u2, p54_u2, p57_u2, p72_u2, p84_u2, p87_u2⟩, J_u2, R_u2⟩ := P_u2
                    have J14 : ∀ i : Nat, (i : Int) < h 160 87 → u2 217 i = h 217 i ∧ u2 218 i = h 218 i := fun i hi => by rw [(J_u2 i (by omega)).1, (J_u2 i (by omega)).2]; exact J3 i hi
                    have R15 : ∀ j : Nat, (j : Int) < h 160 57 → u2 199 j = h 199 j := fun j hj => (R_u2 j (by omega)).trans (R4 j hj)
                    have k50_u2x : u2 160 50 = h 160 50 := (p50_u2).trans k50_u52x
                    have k54_u2x : u2 160 54 = h 160 54 := (p54_u2).trans k54_u52x
                    have k57_u2x : u2 160 57 = h 160 57 := (p57_u2).trans k57_u52x
                    have k68_u2x : h 160 68 ≤ u2 160 68 ∧ u2 160 68 ≤ h 160 68 + 20 * (Cm s b - Cm s (e + 1)) + 10 := by omega
                    have k70_u2x : u2 160 70 = h 160 70 + 1 - 2 + 1 := by omega
                    have k72_u2x : u2 160 72 = h 160 72 := (p72_u2).trans k72_u52x
                    have k78_u2x : h 160 78 ≤ u2 160 78 ∧ u2 160 78 ≤ h 160 78 + 2 * (Cm s b - Cm s (e + 1)) + 2 := by omega
                    have k84_u2x : u2 160 84 = h 160 84 := (p84_u2).trans k84_u52x
                    have k87_u2x : u2 160 87 = h 160 87 := (p87_u2).trans k87_u52x
                    have k88_u2x : h 160 88 ≤ u2 160 88 ∧ u2 160 88 ≤ h 160 88 + 2 * (Cm s b - Cm s (e + 1)) + 2 := by omega
                    clear k50_u52x k54_u52x k57_u52x k68_u52x k70_u52x k72_u52x k78_u52x k84_u52x k87_u52x k88_u52x p70_u2 p68_u2 p78_u2 p88_u2 p50_u2 p54_u2 p57_u2 p72_u2 p84_u2 p87_u2 J_u2 R_u2
                    exact ok_ret ⟨cw_le C_u2 (by omega), by omega, by omega, by omega, by omega, by omega, J14, R15⟩
                · skip
                  unfold qj_X13_workBoth_315
                  refine ok_sv (cw_truth hn C_u52 (by omega) (by omega) (by omega) (by omega) (by omega) (by omega) (by omega)) ?_; intro u2 P_u2
                  obtain ⟨C_u2, p70_u2, p68_u2, p78_u2, p88_u2, ⟨p50_u2, p54_u2, p57_u2, p72_u2, p84_u2, p87_u2⟩, J_u2, R_u2⟩ := P_u2
                  have J16 : ∀ i : Nat, (i : Int) < h 160 87 → u2 217 i = h 217 i ∧ u2 218 i = h 218 i := fun i hi => by rw [(J_u2 i (by omega)).1, (J_u2 i (by omega)).2]; exact J3 i hi
                  have R17 : ∀ j : Nat, (j : Int) < h 160 57 → u2 199 j = h 199 j := fun j hj => (R_u2 j (by omega)).trans (R4 j hj)
                  have k50_u2x : u2 160 50 = h 160 50 := (p50_u2).trans k50_u52x
                  have k54_u2x : u2 160 54 = h 160 54 := (p54_u2).trans k54_u52x
                  have k57_u2x : u2 160 57 = h 160 57 := (p57_u2).trans k57_u52x
                  have k68_u2x : h 160 68 ≤ u2 160 68 ∧ u2 160 68 ≤ h 160 68 + 20 * (Cm s b - Cm s (e + 1)) + 10 := by omega
                  have k70_u2x : u2 160 70 = h 160 70 + 1 - 2 + 1 := by omega
                  have k72_u2x : u2 160 72 = h 160 72 := (p72_u2).trans k72_u52x
                  have k78_u2x : h 160 78 ≤ u2 160 78 ∧ u2 160 78 ≤ h 160 78 + 2 * (Cm s b - Cm s (e + 1)) + 2 := by omega
                  have k84_u2x : u2 160 84 = h 160 84 := (p84_u2).trans k84_u52x
                  have k87_u2x : u2 160 87 = h 160 87 := (p87_u2).trans k87_u52x
                  have k88_u2x : h 160 88 ≤ u2 160 88 ∧ u2 160 88 ≤ h 160 88 + 2 * (Cm s b - Cm s (e + 1)) + 2 := by omega
                  clear k50_u52x k54_u52x k57_u52x k68_u52x k70_u52x k72_u52x k78_u52x k84_u52x k87_u52x k88_u52x p70_u2 p68_u2 p78_u2 p88_u2 p50_u2 p54_u2 p57_u2 p72_u2 p84_u2 p87_u2 J_u2 R_u2
                  exact ok_ret ⟨cw_le C_u2 (by omega), by omega, by omega, by omega, by omega, by omega, J16, R17⟩
              · skip
                unfold qj_X13_workBoth_315
                refine ok_sv (cw_truth hn C_u52 (by omega) (by omega) (by omega) (by omega) (by omega) (by omega) (by omega)) ?_; intro u2 P_u2
                obtain ⟨C_u2, p70_u2, p68_u2, p78_u2, p88_u2, ⟨p50_u2, p54_u2, p57_u2, p72_u2, p84_u2, p87_u2⟩, J_u2, R_u2⟩ := P_u2
                have J18 : ∀ i : Nat, (i : Int) < h 160 87 → u2 217 i = h 217 i ∧ u2 218 i = h 218 i := fun i hi => by rw [(J_u2 i (by omega)).1, (J_u2 i (by omega)).2]; exact J3 i hi
                have R19 : ∀ j : Nat, (j : Int) < h 160 57 → u2 199 j = h 199 j := fun j hj => (R_u2 j (by omega)).trans (R4 j hj)
                have k50_u2x : u2 160 50 = h 160 50 := (p50_u2).trans k50_u52x
                have k54_u2x : u2 160 54 = h 160 54 := (p54_u2).trans k54_u52x
                have k57_u2x : u2 160 57 = h 160 57 := (p57_u2).trans k57_u52x
                have k68_u2x : h 160 68 ≤ u2 160 68 ∧ u2 160 68 ≤ h 160 68 + 20 * (Cm s b - Cm s (e + 1)) + 10 := by omega
                have k70_u2x : u2 160 70 = h 160 70 + 1 - 2 + 1 := by omega
                have k72_u2x : u2 160 72 = h 160 72 := (p72_u2).trans k72_u52x
                have k78_u2x : h 160 78 ≤ u2 160 78 ∧ u2 160 78 ≤ h 160 78 + 2 * (Cm s b - Cm s (e + 1)) + 2 := by omega
                have k84_u2x : u2 160 84 = h 160 84 := (p84_u2).trans k84_u52x
                have k87_u2x : u2 160 87 = h 160 87 := (p87_u2).trans k87_u52x
                have k88_u2x : h 160 88 ≤ u2 160 88 ∧ u2 160 88 ≤ h 160 88 + 2 * (Cm s b - Cm s (e + 1)) + 2 := by omega
                clear k50_u52x k54_u52x k57_u52x k68_u52x k70_u52x k72_u52x k78_u52x k84_u52x k87_u52x k88_u52x p70_u2 p68_u2 p78_u2 p88_u2 p50_u2 p54_u2 p57_u2 p72_u2 p84_u2 p87_u2 J_u2 R_u2
                exact ok_ret ⟨cw_le C_u2 (by omega), by omega, by omega, by omega, by omega, by omega, J18, R19⟩
            · skip
              rw [if_pos (by decide)]
              unfold qj_X13_workBoth_315
              refine ok_sv (cw_truth hn C_u52 (by omega) (by omega) (by omega) (by omega) (by omega) (by omega) (by omega)) ?_; intro u2 P_u2
              obtain ⟨C_u2, p70_u2, p68_u2, p78_u2, p88_u2, ⟨p50_u2, p54_u2, p57_u2, p72_u2, p84_u2, p87_u2⟩, J_u2, R_u2⟩ := P_u2
              have J20 : ∀ i : Nat, (i : Int) < h 160 87 → u2 217 i = h 217 i ∧ u2 218 i = h 218 i := fun i hi => by rw [(J_u2 i (by omega)).1, (J_u2 i (by omega)).2]; exact J3 i hi
              have R21 : ∀ j : Nat, (j : Int) < h 160 57 → u2 199 j = h 199 j := fun j hj => (R_u2 j (by omega)).trans (R4 j hj)
              have k50_u2x : u2 160 50 = h 160 50 := (p50_u2).trans k50_u52x
              have k54_u2x : u2 160 54 = h 160 54 := (p54_u2).trans k54_u52x
              have k57_u2x : u2 160 57 = h 160 57 := (p57_u2).trans k57_u52x
              have k68_u2x : h 160 68 ≤ u2 160 68 ∧ u2 160 68 ≤ h 160 68 + 20 * (Cm s b - Cm s (e + 1)) + 10 := by omega
              have k70_u2x : u2 160 70 = h 160 70 + 1 - 2 + 1 := by omega
              have k72_u2x : u2 160 72 = h 160 72 := (p72_u2).trans k72_u52x
              have k78_u2x : h 160 78 ≤ u2 160 78 ∧ u2 160 78 ≤ h 160 78 + 2 * (Cm s b - Cm s (e + 1)) + 2 := by omega
              have k84_u2x : u2 160 84 = h 160 84 := (p84_u2).trans k84_u52x
              have k87_u2x : u2 160 87 = h 160 87 := (p87_u2).trans k87_u52x
              have k88_u2x : h 160 88 ≤ u2 160 88 ∧ u2 160 88 ≤ h 160 88 + 2 * (Cm s b - Cm s (e + 1)) + 2 := by omega
              clear k50_u52x k54_u52x k57_u52x k68_u52x k70_u52x k72_u52x k78_u52x k84_u52x k87_u52x k88_u52x p70_u2 p68_u2 p78_u2 p88_u2 p50_u2 p54_u2 p57_u2 p72_u2 p84_u2 p87_u2 J_u2 R_u2
              exact ok_ret ⟨cw_le C_u2 (by omega), by omega, by omega, by omega, by omega, by omega, J20, R21⟩
          · skip
            rw [if_pos (by decide)]
            unfold qj_X13_workBoth_315
            refine ok_sv (cw_truth hn C_u52 (by omega) (by omega) (by omega) (by omega) (by omega) (by omega) (by omega)) ?_; intro u2 P_u2
            obtain ⟨C_u2, p70_u2, p68_u2, p78_u2, p88_u2, ⟨p50_u2, p54_u2, p57_u2, p72_u2, p84_u2, p87_u2⟩, J_u2, R_u2⟩ := P_u2
            have J22 : ∀ i : Nat, (i : Int) < h 160 87 → u2 217 i = h 217 i ∧ u2 218 i = h 218 i := fun i hi => by rw [(J_u2 i (by omega)).1, (J_u2 i (by omega)).2]; exact J3 i hi
            have R23 : ∀ j : Nat, (j : Int) < h 160 57 → u2 199 j = h 199 j := fun j hj => (R_u2 j (by omega)).trans (R4 j hj)
            have k50_u2x : u2 160 50 = h 160 50 := (p50_u2).trans k50_u52x
            have k54_u2x : u2 160 54 = h 160 54 := (p54_u2).trans k54_u52x
            have k57_u2x : u2 160 57 = h 160 57 := (p57_u2).trans k57_u52x
            have k68_u2x : h 160 68 ≤ u2 160 68 ∧ u2 160 68 ≤ h 160 68 + 20 * (Cm s b - Cm s (e + 1)) + 10 := by omega
            have k70_u2x : u2 160 70 = h 160 70 + 1 - 2 + 1 := by omega
            have k72_u2x : u2 160 72 = h 160 72 := (p72_u2).trans k72_u52x
            have k78_u2x : h 160 78 ≤ u2 160 78 ∧ u2 160 78 ≤ h 160 78 + 2 * (Cm s b - Cm s (e + 1)) + 2 := by omega
            have k84_u2x : u2 160 84 = h 160 84 := (p84_u2).trans k84_u52x
            have k87_u2x : u2 160 87 = h 160 87 := (p87_u2).trans k87_u52x
            have k88_u2x : h 160 88 ≤ u2 160 88 ∧ u2 160 88 ≤ h 160 88 + 2 * (Cm s b - Cm s (e + 1)) + 2 := by omega
            clear k50_u52x k54_u52x k57_u52x k68_u52x k70_u52x k72_u52x k78_u52x k84_u52x k87_u52x k88_u52x p70_u2 p68_u2 p78_u2 p88_u2 p50_u2 p54_u2 p57_u2 p72_u2 p84_u2 p87_u2 J_u2 R_u2
            exact ok_ret ⟨cw_le C_u2 (by omega), by omega, by omega, by omega, by omega, by omega, J22, R23⟩
        · skip
          unfold qj_X13_workBoth_210
          refine ok_sv (vf_X13_sign hn (by omega) (by omega) (by omega) (by omega) (by omega) (by omega) C_u52.1.1) ?_; intro u3 P_u3
          clear P_u3
          refine ok_if (fun C24 => ?_) (fun C24 => ?_)
          · skip
            refine ok_sv (vf_X13_sign hn (by omega) (by omega) (by omega) (by omega) (by omega) (by omega) C_u52.1.1) ?_; intro u4 P_u4
            clear P_u4
            refine ok_if (fun C25 => ?_) (fun C25 => ?_)
            · skip
              refine ok_if (fun C26 => ?_) (fun C26 => ?_)
              · skip
                refine ok_sv (vf_X13_sign hn (by omega) (by omega) (by omega) (by omega) (by omega) (by omega) C_u52.1.1) ?_; intro u5 P_u5
                clear P_u5
                refine ok_if (fun C27 => ?_) (fun C27 => ?_)
                · skip
                  refine ok_if (fun C28 => ?_) (fun C28 => ?_)
                  · skip
                    unfold qj_X13_workBoth_315
                    refine ok_sv (cw_truth hn C_u52 (by omega) (by omega) (by omega) (by omega) (by omega) (by omega) (by omega)) ?_; intro u2 P_u2
                    obtain ⟨C_u2, p70_u2, p68_u2, p78_u2, p88_u2, ⟨p50_u2, p54_u2, p57_u2, p72_u2, p84_u2, p87_u2⟩, J_u2, R_u2⟩ := P_u2
                    have J29 : ∀ i : Nat, (i : Int) < h 160 87 → u2 217 i = h 217 i ∧ u2 218 i = h 218 i := fun i hi => by rw [(J_u2 i (by omega)).1, (J_u2 i (by omega)).2]; exact J3 i hi
                    have R30 : ∀ j : Nat, (j : Int) < h 160 57 → u2 199 j = h 199 j := fun j hj => (R_u2 j (by omega)).trans (R4 j hj)
                    have k50_u2x : u2 160 50 = h 160 50 := (p50_u2).trans k50_u52x
                    have k54_u2x : u2 160 54 = h 160 54 := (p54_u2).trans k54_u52x
                    have k57_u2x : u2 160 57 = h 160 57 := (p57_u2).trans k57_u52x
                    have k68_u2x : h 160 68 ≤ u2 160 68 ∧ u2 160 68 ≤ h 160 68 + 20 * (Cm s b - Cm s (e + 1)) + 10 := by omega
                    have k70_u2x : u2 160 70 = h 160 70 + 1 - 2 + 1 := by omega
                    have k72_u2x : u2 160 72 = h 160 72 := (p72_u2).trans k72_u52x
                    have k78_u2x : h 160 78 ≤ u2 160 78 ∧ u2 160 78 ≤ h 160 78 + 2 * (Cm s b - Cm s (e + 1)) + 2 := by omega
                    have k84_u2x : u2 160 84 = h 160 84 := (p84_u2).trans k84_u52x
                    have k87_u2x : u2 160 87 = h 160 87 := (p87_u2).trans k87_u52x
                    have k88_u2x : h 160 88 ≤ u2 160 88 ∧ u2 160 88 ≤ h 160 88 + 2 * (Cm s b - Cm s (e + 1)) + 2 := by omega
                    clear k50_u52x k54_u52x k57_u52x k68_u52x k70_u52x k72_u52x k78_u52x k84_u52x k87_u52x k88_u52x p70_u2 p68_u2 p78_u2 p88_u2 p50_u2 p54_u2 p57_u2 p72_u2 p84_u2 p87_u2 J_u2 R_u2
                    exact ok_ret ⟨cw_le C_u2 (by omega), by omega, by omega, by omega, by omega, by omega, J29, R30⟩
                  · skip
                    unfold qj_X13_workBoth_315
                    refine ok_sv (cw_truth hn C_u52 (by omega) (by omega) (by omega) (by omega) (by omega) (by omega) (by omega)) ?_; intro u2 P_u2
                    obtain ⟨C_u2, p70_u2, p68_u2, p78_u2, p88_u2, ⟨p50_u2, p54_u2, p57_u2, p72_u2, p84_u2, p87_u2⟩, J_u2, R_u2⟩ := P_u2
                    have J31 : ∀ i : Nat, (i : Int) < h 160 87 → u2 217 i = h 217 i ∧ u2 218 i = h 218 i := fun i hi => by rw [(J_u2 i (by omega)).1, (J_u2 i (by omega)).2]; exact J3 i hi
                    have R32 : ∀ j : Nat, (j : Int) < h 160 57 → u2 199 j = h 199 j := fun j hj => (R_u2 j (by omega)).trans (R4 j hj)
                    have k50_u2x : u2 160 50 = h 160 50 := (p50_u2).trans k50_u52x
                    have k54_u2x : u2 160 54 = h 160 54 := (p54_u2).trans k54_u52x
                    have k57_u2x : u2 160 57 = h 160 57 := (p57_u2).trans k57_u52x
                    have k68_u2x : h 160 68 ≤ u2 160 68 ∧ u2 160 68 ≤ h 160 68 + 20 * (Cm s b - Cm s (e + 1)) + 10 := by omega
                    have k70_u2x : u2 160 70 = h 160 70 + 1 - 2 + 1 := by omega
                    have k72_u2x : u2 160 72 = h 160 72 := (p72_u2).trans k72_u52x
                    have k78_u2x : h 160 78 ≤ u2 160 78 ∧ u2 160 78 ≤ h 160 78 + 2 * (Cm s b - Cm s (e + 1)) + 2 := by omega
                    have k84_u2x : u2 160 84 = h 160 84 := (p84_u2).trans k84_u52x
                    have k87_u2x : u2 160 87 = h 160 87 := (p87_u2).trans k87_u52x
                    have k88_u2x : h 160 88 ≤ u2 160 88 ∧ u2 160 88 ≤ h 160 88 + 2 * (Cm s b - Cm s (e + 1)) + 2 := by omega
                    clear k50_u52x k54_u52x k57_u52x k68_u52x k70_u52x k72_u52x k78_u52x k84_u52x k87_u52x k88_u52x p70_u2 p68_u2 p78_u2 p88_u2 p50_u2 p54_u2 p57_u2 p72_u2 p84_u2 p87_u2 J_u2 R_u2
                    exact ok_ret ⟨cw_le C_u2 (by omega), by omega, by omega, by omega, by omega, by omega, J31, R32⟩
                · skip
                  unfold qj_X13_workBoth_315
                  refine ok_sv (cw_truth hn C_u52 (by omega) (by omega) (by omega) (by omega) (by omega) (by omega) (by omega)) ?_; intro u2 P_u2
                  obtain ⟨C_u2, p70_u2, p68_u2, p78_u2, p88_u2, ⟨p50_u2, p54_u2, p57_u2, p72_u2, p84_u2, p87_u2⟩, J_u2, R_u2⟩ := P_u2
                  have J33 : ∀ i : Nat, (i : Int) < h 160 87 → u2 217 i = h 217 i ∧ u2 218 i = h 218 i := fun i hi => by rw [(J_u2 i (by omega)).1, (J_u2 i (by omega)).2]; exact J3 i hi
                  have R34 : ∀ j : Nat, (j : Int) < h 160 57 → u2 199 j = h 199 j := fun j hj => (R_u2 j (by omega)).trans (R4 j hj)
                  have k50_u2x : u2 160 50 = h 160 50 := (p50_u2).trans k50_u52x
                  have k54_u2x : u2 160 54 = h 160 54 := (p54_u2).trans k54_u52x
                  have k57_u2x : u2 160 57 = h 160 57 := (p57_u2).trans k57_u52x
                  have k68_u2x : h 160 68 ≤ u2 160 68 ∧ u2 160 68 ≤ h 160 68 + 20 * (Cm s b - Cm s (e + 1)) + 10 := by omega
                  have k70_u2x : u2 160 70 = h 160 70 + 1 - 2 + 1 := by omega
                  have k72_u2x : u2 160 72 = h 160 72 := (p72_u2).trans k72_u52x
                  have k78_u2x : h 160 78 ≤ u2 160 78 ∧ u2 160 78 ≤ h 160 78 + 2 * (Cm s b - Cm s (e + 1)) + 2 := by omega
                  have k84_u2x : u2 160 84 = h 160 84 := (p84_u2).trans k84_u52x
                  have k87_u2x : u2 160 87 = h 160 87 := (p87_u2).trans k87_u52x
                  have k88_u2x : h 160 88 ≤ u2 160 88 ∧ u2 160 88 ≤ h 160 88 + 2 * (Cm s b - Cm s (e + 1)) + 2 := by omega
                  clear k50_u52x k54_u52x k57_u52x k68_u52x k70_u52x k72_u52x k78_u52x k84_u52x k87_u52x k88_u52x p70_u2 p68_u2 p78_u2 p88_u2 p50_u2 p54_u2 p57_u2 p72_u2 p84_u2 p87_u2 J_u2 R_u2
                  exact ok_ret ⟨cw_le C_u2 (by omega), by omega, by omega, by omega, by omega, by omega, J33, R34⟩
              · skip
                unfold qj_X13_workBoth_315
                refine ok_sv (cw_truth hn C_u52 (by omega) (by omega) (by omega) (by omega) (by omega) (by omega) (by omega)) ?_; intro u2 P_u2
                obtain ⟨C_u2, p70_u2, p68_u2, p78_u2, p88_u2, ⟨p50_u2, p54_u2, p57_u2, p72_u2, p84_u2, p87_u2⟩, J_u2, R_u2⟩ := P_u2
                have J35 : ∀ i : Nat, (i : Int) < h 160 87 → u2 217 i = h 217 i ∧ u2 218 i = h 218 i := fun i hi => by rw [(J_u2 i (by omega)).1, (J_u2 i (by omega)).2]; exact J3 i hi
                have R36 : ∀ j : Nat, (j : Int) < h 160 57 → u2 199 j = h 199 j := fun j hj => (R_u2 j (by omega)).trans (R4 j hj)
                have k50_u2x : u2 160 50 = h 160 50 := (p50_u2).trans k50_u52x
                have k54_u2x : u2 160 54 = h 160 54 := (p54_u2).trans k54_u52x
                have k57_u2x : u2 160 57 = h 160 57 := (p57_u2).trans k57_u52x
                have k68_u2x : h 160 68 ≤ u2 160 68 ∧ u2 160 68 ≤ h 160 68 + 20 * (Cm s b - Cm s (e + 1)) + 10 := by omega
                have k70_u2x : u2 160 70 = h 160 70 + 1 - 2 + 1 := by omega
                have k72_u2x : u2 160 72 = h 160 72 := (p72_u2).trans k72_u52x
                have k78_u2x : h 160 78 ≤ u2 160 78 ∧ u2 160 78 ≤ h 160 78 + 2 * (Cm s b - Cm s (e + 1)) + 2 := by omega
                have k84_u2x : u2 160 84 = h 160 84 := (p84_u2).trans k84_u52x
                have k87_u2x : u2 160 87 = h 160 87 := (p87_u2).trans k87_u52x
                have k88_u2x : h 160 88 ≤ u2 160 88 ∧ u2 160 88 ≤ h 160 88 + 2 * (Cm s b - Cm s (e + 1)) + 2 := by omega
                clear k50_u52x k54_u52x k57_u52x k68_u52x k70_u52x k72_u52x k78_u52x k84_u52x k87_u52x k88_u52x p70_u2 p68_u2 p78_u2 p88_u2 p50_u2 p54_u2 p57_u2 p72_u2 p84_u2 p87_u2 J_u2 R_u2
                exact ok_ret ⟨cw_le C_u2 (by omega), by omega, by omega, by omega, by omega, by omega, J35, R36⟩
            · skip
              rw [if_neg (by decide)]
              unfold qj_X13_workBoth_315
              refine ok_sv (cw_truth hn C_u52 (by omega) (by omega) (by omega) (by omega) (by omega) (by omega) (by omega)) ?_; intro u2 P_u2
              obtain ⟨C_u2, p70_u2, p68_u2, p78_u2, p88_u2, ⟨p50_u2, p54_u2, p57_u2, p72_u2, p84_u2, p87_u2⟩, J_u2, R_u2⟩ := P_u2
              have J37 : ∀ i : Nat, (i : Int) < h 160 87 → u2 217 i = h 217 i ∧ u2 218 i = h 218 i := fun i hi => by rw [(J_u2 i (by omega)).1, (J_u2 i (by omega)).2]; exact J3 i hi
              have R38 : ∀ j : Nat, (j : Int) < h 160 57 → u2 199 j = h 199 j := fun j hj => (R_u2 j (by omega)).trans (R4 j hj)
              have k50_u2x : u2 160 50 = h 160 50 := (p50_u2).trans k50_u52x
              have k54_u2x : u2 160 54 = h 160 54 := (p54_u2).trans k54_u52x
              have k57_u2x : u2 160 57 = h 160 57 := (p57_u2).trans k57_u52x
              have k68_u2x : h 160 68 ≤ u2 160 68 ∧ u2 160 68 ≤ h 160 68 + 20 * (Cm s b - Cm s (e + 1)) + 10 := by omega
              have k70_u2x : u2 160 70 = h 160 70 + 1 - 2 + 1 := by omega
              have k72_u2x : u2 160 72 = h 160 72 := (p72_u2).trans k72_u52x
              have k78_u2x : h 160 78 ≤ u2 160 78 ∧ u2 160 78 ≤ h 160 78 + 2 * (Cm s b - Cm s (e + 1)) + 2 := by omega
              have k84_u2x : u2 160 84 = h 160 84 := (p84_u2).trans k84_u52x
              have k87_u2x : u2 160 87 = h 160 87 := (p87_u2).trans k87_u52x
              have k88_u2x : h 160 88 ≤ u2 160 88 ∧ u2 160 88 ≤ h 160 88 + 2 * (Cm s b - Cm s (e + 1)) + 2 := by omega
              clear k50_u52x k54_u52x k57_u52x k68_u52x k70_u52x k72_u52x k78_u52x k84_u52x k87_u52x k88_u52x p70_u2 p68_u2 p78_u2 p88_u2 p50_u2 p54_u2 p57_u2 p72_u2 p84_u2 p87_u2 J_u2 R_u2
              exact ok_ret ⟨cw_le C_u2 (by omega), by omega, by omega, by omega, by omega, by omega, J37, R38⟩
          · skip
            rw [if_neg (by decide)]
            unfold qj_X13_workBoth_315
            refine ok_sv (cw_truth hn C_u52 (by omega) (by omega) (by omega) (by omega) (by omega) (by omega) (by omega)) ?_; intro u2 P_u2
            obtain ⟨C_u2, p70_u2, p68_u2, p78_u2, p88_u2, ⟨p50_u2, p54_u2, p57_u2, p72_u2, p84_u2, p87_u2⟩, J_u2, R_u2⟩ := P_u2
            have J39 : ∀ i : Nat, (i : Int) < h 160 87 → u2 217 i = h 217 i ∧ u2 218 i = h 218 i := fun i hi => by rw [(J_u2 i (by omega)).1, (J_u2 i (by omega)).2]; exact J3 i hi
            have R40 : ∀ j : Nat, (j : Int) < h 160 57 → u2 199 j = h 199 j := fun j hj => (R_u2 j (by omega)).trans (R4 j hj)
            have k50_u2x : u2 160 50 = h 160 50 := (p50_u2).trans k50_u52x
            have k54_u2x : u2 160 54 = h 160 54 := (p54_u2).trans k54_u52x
            have k57_u2x : u2 160 57 = h 160 57 := (p57_u2).trans k57_u52x
            have k68_u2x : h 160 68 ≤ u2 160 68 ∧ u2 160 68 ≤ h 160 68 + 20 * (Cm s b - Cm s (e + 1)) + 10 := by omega
            have k70_u2x : u2 160 70 = h 160 70 + 1 - 2 + 1 := by omega
            have k72_u2x : u2 160 72 = h 160 72 := (p72_u2).trans k72_u52x
            have k78_u2x : h 160 78 ≤ u2 160 78 ∧ u2 160 78 ≤ h 160 78 + 2 * (Cm s b - Cm s (e + 1)) + 2 := by omega
            have k84_u2x : u2 160 84 = h 160 84 := (p84_u2).trans k84_u52x
            have k87_u2x : u2 160 87 = h 160 87 := (p87_u2).trans k87_u52x
            have k88_u2x : h 160 88 ≤ u2 160 88 ∧ u2 160 88 ≤ h 160 88 + 2 * (Cm s b - Cm s (e + 1)) + 2 := by omega
            clear k50_u52x k54_u52x k57_u52x k68_u52x k70_u52x k72_u52x k78_u52x k84_u52x k87_u52x k88_u52x p70_u2 p68_u2 p78_u2 p88_u2 p50_u2 p54_u2 p57_u2 p72_u2 p84_u2 p87_u2 J_u2 R_u2
            exact ok_ret ⟨cw_le C_u2 (by omega), by omega, by omega, by omega, by omega, by omega, J39, R40⟩
      · skip
        refine ok_if (fun C41 => ?_) (fun C41 => ?_)
        · skip
          refine ok_sv (vm_operation hn C_u52.1.1) ?_; intro u57 P_u57
          refine ok_sv (cw_put hn C_u52 (by omega) (by omega)) ?_; intro u59 P_u59
          obtain ⟨C_u59, k68_u59, N_u59⟩ := P_u59
          have k50_u59x : u59 160 50 = h 160 50 := (N_u59 160 50 (by decide) (by decide)).trans k50_u52x
          have k54_u59x : u59 160 54 = h 160 54 := (N_u59 160 54 (by decide) (by decide)).trans k54_u52x
          have k57_u59x : u59 160 57 = h 160 57 := (N_u59 160 57 (by decide) (by decide)).trans k57_u52x
          have k68_u59x : h 160 68 + 1 ≤ u59 160 68 ∧ u59 160 68 ≤ h 160 68 + 20 * (Cm s b - Cm s (e + 1)) + 1 := by omega
          have k70_u59x : u59 160 70 = h 160 70 + 1 := (N_u59 160 70 (by decide) (by decide)).trans k70_u52x
          have k72_u59x : u59 160 72 = h 160 72 := (N_u59 160 72 (by decide) (by decide)).trans k72_u52x
          have k78_u59x : h 160 78 ≤ u59 160 78 ∧ u59 160 78 ≤ h 160 78 + 2 * (Cm s b - Cm s (e + 1)) := by rw [show u59 160 78 = _ from N_u59 160 78 (by decide) (by decide)]; exact k78_u52x
          have k84_u59x : u59 160 84 = h 160 84 := (N_u59 160 84 (by decide) (by decide)).trans k84_u52x
          have k87_u59x : u59 160 87 = h 160 87 := (N_u59 160 87 (by decide) (by decide)).trans k87_u52x
          have k88_u59x : h 160 88 ≤ u59 160 88 ∧ u59 160 88 ≤ h 160 88 + 2 * (Cm s b - Cm s (e + 1)) := by rw [show u59 160 88 = _ from N_u59 160 88 (by decide) (by decide)]; exact k88_u52x
          have J42 : ∀ i : Nat, (i : Int) < h 160 87 → u59 217 i = h 217 i ∧ u59 218 i = h 218 i := fun i hi => by rw [show u59 217 i = u52 217 i from N_u59 217 i (by decide) (by omega), show u59 218 i = u52 218 i from N_u59 218 i (by decide) (by omega)]; exact J3 i hi
          have R43 : ∀ j : Nat, (j : Int) < h 160 57 → u59 199 j = h 199 j := fun j hj => (show u59 199 j = u52 199 j from N_u59 199 j (by decide) (by omega)).trans (R4 j hj)
          clear k50_u52x k54_u52x k57_u52x k68_u52x k70_u52x k72_u52x k78_u52x k84_u52x k87_u52x k88_u52x k68_u59
          refine ok_rd (by omega) (gA_174 C_u59.1.1) ?_; intro v61 e_v61 a_v61 b_v61
          have t_v61 : v61 = s 174 (e).toNat := by rw [e_v61]; exact C_u59.1.2.1 174 _ (nw_ar rfl _)
          clear e_v61
          have l_v61 := (S.2.2.2 (e).toNat (by omega)).1; rw [← t_v61] at l_v61
          have w_v61 : tv v61 = 1 := if_neg (by rw [t_v61]; exact hG)
          refine ok_sv (cw_turn C_u59 (by omega) (by omega) (by omega)) ?_; intro u63 P_u63
          obtain ⟨C_u63, p70_u63, p68_u63, p78_u63, p88_u63, ⟨p50_u63, p54_u63, p57_u63, p72_u63, p84_u63, p87_u63⟩, J_u63, R_u63⟩ := P_u63
          have J44 : ∀ i : Nat, (i : Int) < h 160 87 → u63 217 i = h 217 i ∧ u63 218 i = h 218 i := fun i hi => by rw [(J_u63 i (by omega)).1, (J_u63 i (by omega)).2]; exact J42 i hi
          have R45 : ∀ j : Nat, (j : Int) < h 160 57 → u63 199 j = h 199 j := fun j hj => (R_u63 j (by omega)).trans (R43 j hj)
          have k50_u63x : u63 160 50 = h 160 50 := (p50_u63).trans k50_u59x
          have k54_u63x : u63 160 54 = h 160 54 := (p54_u63).trans k54_u59x
          have k57_u63x : u63 160 57 = h 160 57 := (p57_u63).trans k57_u59x
          have k68_u63x : h 160 68 + 1 ≤ u63 160 68 ∧ u63 160 68 ≤ h 160 68 + 20 * (Cm s b - Cm s (e + 1)) + 1 + 0 := by omega
          have k70_u63x : u63 160 70 = h 160 70 + 1 - 2 + tv v61 := by omega
          have k72_u63x : u63 160 72 = h 160 72 := (p72_u63).trans k72_u59x
          have k78_u63x : h 160 78 ≤ u63 160 78 ∧ u63 160 78 ≤ h 160 78 + 2 * (Cm s b - Cm s (e + 1)) + 0 := by omega
          have k84_u63x : u63 160 84 = h 160 84 := (p84_u63).trans k84_u59x
          have k87_u63x : u63 160 87 = h 160 87 := (p87_u63).trans k87_u59x
          have k88_u63x : h 160 88 ≤ u63 160 88 ∧ u63 160 88 ≤ h 160 88 + 2 * (Cm s b - Cm s (e + 1)) + 0 := by omega
          clear k50_u59x k54_u59x k57_u59x k68_u59x k70_u59x k72_u59x k78_u59x k84_u59x k87_u59x k88_u59x p70_u63 p68_u63 p78_u63 p88_u63 p50_u63 p54_u63 p57_u63 p72_u63 p84_u63 p87_u63 J_u63 R_u63
          exact ok_ret ⟨cw_le C_u63 (by omega), by omega, by omega, by omega, by omega, by omega, J44, R45⟩
        · skip
          unfold qj_X13_workBoth_190
          refine ok_rd (by omega) (gA_170 C_u52.1.1) ?_; intro v15 e_v15 a_v15 b_v15
          have t_v15 : v15 = s 170 (e).toNat := by rw [e_v15]; exact C_u52.1.2.1 170 _ (nw_ar rfl _)
          clear e_v15
          have c_v15 := te_rg (te_led T (by omega)); rw [← t_v15] at c_v15
          refine ok_rd (by omega) (gA_174 C_u52.1.1) ?_; intro v16 e_v16 a_v16 b_v16
          have t_v16 : v16 = s 174 (v15).toNat := by rw [e_v16]; exact C_u52.1.2.1 174 _ (nw_ar rfl _)
          clear e_v16
          have l_v16 := (S.2.2.2 (v15).toNat (by omega)).1; rw [← t_v16] at l_v16
          refine ok_if (fun C46 => ?_) (fun C46 => ?_)
          · skip
            unfold qj_X13_workBoth_210
            refine ok_sv (vf_X13_sign hn (by omega) (by omega) (by omega) (by omega) (by omega) (by omega) C_u52.1.1) ?_; intro u3 P_u3
            clear P_u3
            refine ok_if (fun C47 => ?_) (fun C47 => ?_)
            · skip
              refine ok_sv (vf_X13_sign hn (by omega) (by omega) (by omega) (by omega) (by omega) (by omega) C_u52.1.1) ?_; intro u4 P_u4
              clear P_u4
              refine ok_if (fun C48 => ?_) (fun C48 => ?_)
              · skip
                refine ok_if (fun C49 => ?_) (fun C49 => ?_)
                · skip
                  refine ok_sv (vf_X13_sign hn (by omega) (by omega) (by omega) (by omega) (by omega) (by omega) C_u52.1.1) ?_; intro u5 P_u5
                  clear P_u5
                  refine ok_if (fun C50 => ?_) (fun C50 => ?_)
                  · skip
                    refine ok_if (fun C51 => ?_) (fun C51 => ?_)
                    · skip
                      unfold qj_X13_workBoth_315
                      refine ok_sv (cw_truth hn C_u52 (by omega) (by omega) (by omega) (by omega) (by omega) (by omega) (by omega)) ?_; intro u2 P_u2
                      obtain ⟨C_u2, p70_u2, p68_u2, p78_u2, p88_u2, ⟨p50_u2, p54_u2, p57_u2, p72_u2, p84_u2, p87_u2⟩, J_u2, R_u2⟩ := P_u2
                      have J52 : ∀ i : Nat, (i : Int) < h 160 87 → u2 217 i = h 217 i ∧ u2 218 i = h 218 i := fun i hi => by rw [(J_u2 i (by omega)).1, (J_u2 i (by omega)).2]; exact J3 i hi
                      have R53 : ∀ j : Nat, (j : Int) < h 160 57 → u2 199 j = h 199 j := fun j hj => (R_u2 j (by omega)).trans (R4 j hj)
                      have k50_u2x : u2 160 50 = h 160 50 := (p50_u2).trans k50_u52x
                      have k54_u2x : u2 160 54 = h 160 54 := (p54_u2).trans k54_u52x
                      have k57_u2x : u2 160 57 = h 160 57 := (p57_u2).trans k57_u52x
                      have k68_u2x : h 160 68 ≤ u2 160 68 ∧ u2 160 68 ≤ h 160 68 + 20 * (Cm s b - Cm s (e + 1)) + 10 := by omega
                      have k70_u2x : u2 160 70 = h 160 70 + 1 - 2 + 1 := by omega
                      have k72_u2x : u2 160 72 = h 160 72 := (p72_u2).trans k72_u52x
                      have k78_u2x : h 160 78 ≤ u2 160 78 ∧ u2 160 78 ≤ h 160 78 + 2 * (Cm s b - Cm s (e + 1)) + 2 := by omega
                      have k84_u2x : u2 160 84 = h 160 84 := (p84_u2).trans k84_u52x
                      have k87_u2x : u2 160 87 = h 160 87 := (p87_u2).trans k87_u52x
                      have k88_u2x : h 160 88 ≤ u2 160 88 ∧ u2 160 88 ≤ h 160 88 + 2 * (Cm s b - Cm s (e + 1)) + 2 := by omega
                      clear k50_u52x k54_u52x k57_u52x k68_u52x k70_u52x k72_u52x k78_u52x k84_u52x k87_u52x k88_u52x p70_u2 p68_u2 p78_u2 p88_u2 p50_u2 p54_u2 p57_u2 p72_u2 p84_u2 p87_u2 J_u2 R_u2
                      exact ok_ret ⟨cw_le C_u2 (by omega), by omega, by omega, by omega, by omega, by omega, J52, R53⟩
                    · skip
                      unfold qj_X13_workBoth_315
                      refine ok_sv (cw_truth hn C_u52 (by omega) (by omega) (by omega) (by omega) (by omega) (by omega) (by omega)) ?_; intro u2 P_u2
                      obtain ⟨C_u2, p70_u2, p68_u2, p78_u2, p88_u2, ⟨p50_u2, p54_u2, p57_u2, p72_u2, p84_u2, p87_u2⟩, J_u2, R_u2⟩ := P_u2
                      have J54 : ∀ i : Nat, (i : Int) < h 160 87 → u2 217 i = h 217 i ∧ u2 218 i = h 218 i := fun i hi => by rw [(J_u2 i (by omega)).1, (J_u2 i (by omega)).2]; exact J3 i hi
                      have R55 : ∀ j : Nat, (j : Int) < h 160 57 → u2 199 j = h 199 j := fun j hj => (R_u2 j (by omega)).trans (R4 j hj)
                      have k50_u2x : u2 160 50 = h 160 50 := (p50_u2).trans k50_u52x
                      have k54_u2x : u2 160 54 = h 160 54 := (p54_u2).trans k54_u52x
                      have k57_u2x : u2 160 57 = h 160 57 := (p57_u2).trans k57_u52x
                      have k68_u2x : h 160 68 ≤ u2 160 68 ∧ u2 160 68 ≤ h 160 68 + 20 * (Cm s b - Cm s (e + 1)) + 10 := by omega
                      have k70_u2x : u2 160 70 = h 160 70 + 1 - 2 + 1 := by omega
                      have k72_u2x : u2 160 72 = h 160 72 := (p72_u2).trans k72_u52x
                      have k78_u2x : h 160 78 ≤ u2 160 78 ∧ u2 160 78 ≤ h 160 78 + 2 * (Cm s b - Cm s (e + 1)) + 2 := by omega
                      have k84_u2x : u2 160 84 = h 160 84 := (p84_u2).trans k84_u52x
                      have k87_u2x : u2 160 87 = h 160 87 := (p87_u2).trans k87_u52x
                      have k88_u2x : h 160 88 ≤ u2 160 88 ∧ u2 160 88 ≤ h 160 88 + 2 * (Cm s b - Cm s (e + 1)) + 2 := by omega
                      clear k50_u52x k54_u52x k57_u52x k68_u52x k70_u52x k72_u52x k78_u52x k84_u52x k87_u52x k88_u52x p70_u2 p68_u2 p78_u2 p88_u2 p50_u2 p54_u2 p57_u2 p72_u2 p84_u2 p87_u2 J_u2 R_u2
                      exact ok_ret ⟨cw_le C_u2 (by omega), by omega, by omega, by omega, by omega, by omega, J54, R55⟩
                  · skip
                    unfold qj_X13_workBoth_315
                    refine ok_sv (cw_truth hn C_u52 (by omega) (by omega) (by omega) (by omega) (by omega) (by omega) (by omega)) ?_; intro u2 P_u2
                    obtain ⟨C_u2, p70_u2, p68_u2, p78_u2, p88_u2, ⟨p50_u2, p54_u2, p57_u2, p72_u2, p84_u2, p87_u2⟩, J_u2, R_u2⟩ := P_u2
                    have J56 : ∀ i : Nat, (i : Int) < h 160 87 → u2 217 i = h 217 i ∧ u2 218 i = h 218 i := fun i hi => by rw [(J_u2 i (by omega)).1, (J_u2 i (by omega)).2]; exact J3 i hi
                    have R57 : ∀ j : Nat, (j : Int) < h 160 57 → u2 199 j = h 199 j := fun j hj => (R_u2 j (by omega)).trans (R4 j hj)
                    have k50_u2x : u2 160 50 = h 160 50 := (p50_u2).trans k50_u52x
                    have k54_u2x : u2 160 54 = h 160 54 := (p54_u2).trans k54_u52x
                    have k57_u2x : u2 160 57 = h 160 57 := (p57_u2).trans k57_u52x
                    have k68_u2x : h 160 68 ≤ u2 160 68 ∧ u2 160 68 ≤ h 160 68 + 20 * (Cm s b - Cm s (e + 1)) + 10 := by omega
                    have k70_u2x : u2 160 70 = h 160 70 + 1 - 2 + 1 := by omega
                    have k72_u2x : u2 160 72 = h 160 72 := (p72_u2).trans k72_u52x
                    have k78_u2x : h 160 78 ≤ u2 160 78 ∧ u2 160 78 ≤ h 160 78 + 2 * (Cm s b - Cm s (e + 1)) + 2 := by omega
                    have k84_u2x : u2 160 84 = h 160 84 := (p84_u2).trans k84_u52x
                    have k87_u2x : u2 160 87 = h 160 87 := (p87_u2).trans k87_u52x
                    have k88_u2x : h 160 88 ≤ u2 160 88 ∧ u2 160 88 ≤ h 160 88 + 2 * (Cm s b - Cm s (e + 1)) + 2 := by omega
                    clear k50_u52x k54_u52x k57_u52x k68_u52x k70_u52x k72_u52x k78_u52x k84_u52x k87_u52x k88_u52x p70_u2 p68_u2 p78_u2 p88_u2 p50_u2 p54_u2 p57_u2 p72_u2 p84_u2 p87_u2 J_u2 R_u2
                    exact ok_ret ⟨cw_le C_u2 (by omega), by omega, by omega, by omega, by omega, by omega, J56, R57⟩
                · skip
                  unfold qj_X13_workBoth_315
                  refine ok_sv (cw_truth hn C_u52 (by omega) (by omega) (by omega) (by omega) (by omega) (by omega) (by omega)) ?_; intro u2 P_u2
                  obtain ⟨C_u2, p70_u2, p68_u2, p78_u2, p88_u2, ⟨p50_u2, p54_u2, p57_u2, p72_u2, p84_u2, p87_u2⟩, J_u2, R_u2⟩ := P_u2
                  have J58 : ∀ i : Nat, (i : Int) < h 160 87 → u2 217 i = h 217 i ∧ u2 218 i = h 218 i := fun i hi => by rw [(J_u2 i (by omega)).1, (J_u2 i (by omega)).2]; exact J3 i hi
                  have R59 : ∀ j : Nat, (j : Int) < h 160 57 → u2 199 j = h 199 j := fun j hj => (R_u2 j (by omega)).trans (R4 j hj)
                  have k50_u2x : u2 160 50 = h 160 50 := (p50_u2).trans k50_u52x
                  have k54_u2x : u2 160 54 = h 160 54 := (p54_u2).trans k54_u52x
                  have k57_u2x : u2 160 57 = h 160 57 := (p57_u2).trans k57_u52x
                  have k68_u2x : h 160 68 ≤ u2 160 68 ∧ u2 160 68 ≤ h 160 68 + 20 * (Cm s b - Cm s (e + 1)) + 10 := by omega
                  have k70_u2x : u2 160 70 = h 160 70 + 1 - 2 + 1 := by omega
                  have k72_u2x : u2 160 72 = h 160 72 := (p72_u2).trans k72_u52x
                  have k78_u2x : h 160 78 ≤ u2 160 78 ∧ u2 160 78 ≤ h 160 78 + 2 * (Cm s b - Cm s (e + 1)) + 2 := by omega
                  have k84_u2x : u2 160 84 = h 160 84 := (p84_u2).trans k84_u52x
                  have k87_u2x : u2 160 87 = h 160 87 := (p87_u2).trans k87_u52x
                  have k88_u2x : h 160 88 ≤ u2 160 88 ∧ u2 160 88 ≤ h 160 88 + 2 * (Cm s b - Cm s (e + 1)) + 2 := by omega
                  clear k50_u52x k54_u52x k57_u52x k68_u52x k70_u52x k72_u52x k78_u52x k84_u52x k87_u52x k88_u52x p70_u2 p68_u2 p78_u2 p88_u2 p50_u2 p54_u2 p57_u2 p72_u2 p84_u2 p87_u2 J_u2 R_u2
                  exact ok_ret ⟨cw_le C_u2 (by omega), by omega, by omega, by omega, by omega, by omega, J58, R59⟩
              · skip
                rw [if_pos (by decide)]
                unfold qj_X13_workBoth_315
                refine ok_sv (cw_truth hn C_u52 (by omega) (by omega) (by omega) (by omega) (by omega) (by omega) (by omega)) ?_; intro u2 P_u2
                obtain ⟨C_u2, p70_u2, p68_u2, p78_u2, p88_u2, ⟨p50_u2, p54_u2, p57_u2, p72_u2, p84_u2, p87_u2⟩, J_u2, R_u2⟩ := P_u2
                have J60 : ∀ i : Nat, (i : Int) < h 160 87 → u2 217 i = h 217 i ∧ u2 218 i = h 218 i := fun i hi => by rw [(J_u2 i (by omega)).1, (J_u2 i (by omega)).2]; exact J3 i hi
                have R61 : ∀ j : Nat, (j : Int) < h 160 57 → u2 199 j = h 199 j := fun j hj => (R_u2 j (by omega)).trans (R4 j hj)
                have k50_u2x : u2 160 50 = h 160 50 := (p50_u2).trans k50_u52x
                have k54_u2x : u2 160 54 = h 160 54 := (p54_u2).trans k54_u52x
                have k57_u2x : u2 160 57 = h 160 57 := (p57_u2).trans k57_u52x
                have k68_u2x : h 160 68 ≤ u2 160 68 ∧ u2 160 68 ≤ h 160 68 + 20 * (Cm s b - Cm s (e + 1)) + 10 := by omega
                have k70_u2x : u2 160 70 = h 160 70 + 1 - 2 + 1 := by omega
                have k72_u2x : u2 160 72 = h 160 72 := (p72_u2).trans k72_u52x
                have k78_u2x : h 160 78 ≤ u2 160 78 ∧ u2 160 78 ≤ h 160 78 + 2 * (Cm s b - Cm s (e + 1)) + 2 := by omega
                have k84_u2x : u2 160 84 = h 160 84 := (p84_u2).trans k84_u52x
                have k87_u2x : u2 160 87 = h 160 87 := (p87_u2).trans k87_u52x
                have k88_u2x : h 160 88 ≤ u2 160 88 ∧ u2 160 88 ≤ h 160 88 + 2 * (Cm s b - Cm s (e + 1)) + 2 := by omega
                clear k50_u52x k54_u52x k57_u52x k68_u52x k70_u52x k72_u52x k78_u52x k84_u52x k87_u52x k88_u52x p70_u2 p68_u2 p78_u2 p88_u2 p50_u2 p54_u2 p57_u2 p72_u2 p84_u2 p87_u2 J_u2 R_u2
                exact ok_ret ⟨cw_le C_u2 (by omega), by omega, by omega, by omega, by omega, by omega, J60, R61⟩
            · skip
              rw [if_pos (by decide)]
              unfold qj_X13_workBoth_315
              refine ok_sv (cw_truth hn C_u52 (by omega) (by omega) (by omega) (by omega) (by omega) (by omega) (by omega)) ?_; intro u2 P_u2
              obtain ⟨C_u2, p70_u2, p68_u2, p78_u2, p88_u2, ⟨p50_u2, p54_u2, p57_u2, p72_u2, p84_u2, p87_u2⟩, J_u2, R_u2⟩ := P_u2
              have J62 : ∀ i : Nat, (i : Int) < h 160 87 → u2 217 i = h 217 i ∧ u2 218 i = h 218 i := fun i hi => by rw [(J_u2 i (by omega)).1, (J_u2 i (by omega)).2]; exact J3 i hi
              have R63 : ∀ j : Nat, (j : Int) < h 160 57 → u2 199 j = h 199 j := fun j hj => (R_u2 j (by omega)).trans (R4 j hj)
              have k50_u2x : u2 160 50 = h 160 50 := (p50_u2).trans k50_u52x
              have k54_u2x : u2 160 54 = h 160 54 := (p54_u2).trans k54_u52x
              have k57_u2x : u2 160 57 = h 160 57 := (p57_u2).trans k57_u52x
              have k68_u2x : h 160 68 ≤ u2 160 68 ∧ u2 160 68 ≤ h 160 68 + 20 * (Cm s b - Cm s (e + 1)) + 10 := by omega
              have k70_u2x : u2 160 70 = h 160 70 + 1 - 2 + 1 := by omega
              have k72_u2x : u2 160 72 = h 160 72 := (p72_u2).trans k72_u52x
              have k78_u2x : h 160 78 ≤ u2 160 78 ∧ u2 160 78 ≤ h 160 78 + 2 * (Cm s b - Cm s (e + 1)) + 2 := by omega
              have k84_u2x : u2 160 84 = h 160 84 := (p84_u2).trans k84_u52x
              have k87_u2x : u2 160 87 = h 160 87 := (p87_u2).trans k87_u52x
              have k88_u2x : h 160 88 ≤ u2 160 88 ∧ u2 160 88 ≤ h 160 88 + 2 * (Cm s b - Cm s (e + 1)) + 2 := by omega
              clear k50_u52x k54_u52x k57_u52x k68_u52x k70_u52x k72_u52x k78_u52x k84_u52x k87_u52x k88_u52x p70_u2 p68_u2 p78_u2 p88_u2 p50_u2 p54_u2 p57_u2 p72_u2 p84_u2 p87_u2 J_u2 R_u2
              exact ok_ret ⟨cw_le C_u2 (by omega), by omega, by omega, by omega, by omega, by omega, J62, R63⟩
          · skip
            unfold qj_X13_workBoth_210
            refine ok_sv (vf_X13_sign hn (by omega) (by omega) (by omega) (by omega) (by omega) (by omega) C_u52.1.1) ?_; intro u3 P_u3
            clear P_u3
            refine ok_if (fun C64 => ?_) (fun C64 => ?_)
            · skip
              refine ok_sv (vf_X13_sign hn (by omega) (by omega) (by omega) (by omega) (by omega) (by omega) C_u52.1.1) ?_; intro u4 P_u4
              clear P_u4
              refine ok_if (fun C65 => ?_) (fun C65 => ?_)
              · skip
                refine ok_if (fun C66 => ?_) (fun C66 => ?_)
                · skip
                  refine ok_sv (vf_X13_sign hn (by omega) (by omega) (by omega) (by omega) (by omega) (by omega) C_u52.1.1) ?_; intro u5 P_u5
                  clear P_u5
                  refine ok_if (fun C67 => ?_) (fun C67 => ?_)
                  · skip
                    refine ok_if (fun C68 => ?_) (fun C68 => ?_)
                    · skip
                      unfold qj_X13_workBoth_315
                      refine ok_sv (cw_truth hn C_u52 (by omega) (by omega) (by omega) (by omega) (by omega) (by omega) (by omega)) ?_; intro u2 P_u2
                      obtain ⟨C_u2, p70_u2, p68_u2, p78_u2, p88_u2, ⟨p50_u2, p54_u2, p57_u2, p72_u2, p84_u2, p87_u2⟩, J_u2, R_u2⟩ := P_u2
                      have J69 : ∀ i : Nat, (i : Int) < h 160 87 → u2 217 i = h 217 i ∧ u2 218 i = h 218 i := fun i hi => by rw [(J_u2 i (by omega)).1, (J_u2 i (by omega)).2]; exact J3 i hi
                      have R70 : ∀ j : Nat, (j : Int) < h 160 57 → u2 199 j = h 199 j := fun j hj => (R_u2 j (by omega)).trans (R4 j hj)
                      have k50_u2x : u2 160 50 = h 160 50 := (p50_u2).trans k50_u52x
                      have k54_u2x : u2 160 54 = h 160 54 := (p54_u2).trans k54_u52x
                      have k57_u2x : u2 160 57 = h 160 57 := (p57_u2).trans k57_u52x
                      have k68_u2x : h 160 68 ≤ u2 160 68 ∧ u2 160 68 ≤ h 160 68 + 20 * (Cm s b - Cm s (e + 1)) + 10 := by omega
                      have k70_u2x : u2 160 70 = h 160 70 + 1 - 2 + 1 := by omega
                      have k72_u2x : u2 160 72 = h 160 72 := (p72_u2).trans k72_u52x
                      have k78_u2x : h 160 78 ≤ u2 160 78 ∧ u2 160 78 ≤ h 160 78 + 2 * (Cm s b - Cm s (e + 1)) + 2 := by omega
                      have k84_u2x : u2 160 84 = h 160 84 := (p84_u2).trans k84_u52x
                      have k87_u2x : u2 160 87 = h 160 87 := (p87_u2).trans k87_u52x
                      have k88_u2x : h 160 88 ≤ u2 160 88 ∧ u2 160 88 ≤ h 160 88 + 2 * (Cm s b - Cm s (e + 1)) + 2 := by omega
                      clear k50_u52x k54_u52x k57_u52x k68_u52x k70_u52x k72_u52x k78_u52x k84_u52x k87_u52x k88_u52x p70_u2 p68_u2 p78_u2 p88_u2 p50_u2 p54_u2 p57_u2 p72_u2 p84_u2 p87_u2 J_u2 R_u2
                      exact ok_ret ⟨cw_le C_u2 (by omega), by omega, by omega, by omega, by omega, by omega, J69, R70⟩
                    · skip
                      unfold qj_X13_workBoth_315
                      refine ok_sv (cw_truth hn C_u52 (by omega) (by omega) (by omega) (by omega) (by omega) (by omega) (by omega)) ?_; intro u2 P_u2
                      obtain ⟨C_u2, p70_u2, p68_u2, p78_u2, p88_u2, ⟨p50_u2, p54_u2, p57_u2, p72_u2, p84_u2, p87_u2⟩, J_u2, R_u2⟩ := P_u2
                      have J71 : ∀ i : Nat, (i : Int) < h 160 87 → u2 217 i = h 217 i ∧ u2 218 i = h 218 i := fun i hi => by rw [(J_u2 i (by omega)).1, (J_u2 i (by omega)).2]; exact J3 i hi
                      have R72 : ∀ j : Nat, (j : Int) < h 160 57 → u2 199 j = h 199 j := fun j hj => (R_u2 j (by omega)).trans (R4 j hj)
                      have k50_u2x : u2 160 50 = h 160 50 := (p50_u2).trans k50_u52x
                      have k54_u2x : u2 160 54 = h 160 54 := (p54_u2).trans k54_u52x
                      have k57_u2x : u2 160 57 = h 160 57 := (p57_u2).trans k57_u52x
                      have k68_u2x : h 160 68 ≤ u2 160 68 ∧ u2 160 68 ≤ h 160 68 + 20 * (Cm s b - Cm s (e + 1)) + 10 := by omega
                      have k70_u2x : u2 160 70 = h 160 70 + 1 - 2 + 1 := by omega
                      have k72_u2x : u2 160 72 = h 160 72 := (p72_u2).trans k72_u52x
                      have k78_u2x : h 160 78 ≤ u2 160 78 ∧ u2 160 78 ≤ h 160 78 + 2 * (Cm s b - Cm s (e + 1)) + 2 := by omega
                      have k84_u2x : u2 160 84 = h 160 84 := (p84_u2).trans k84_u52x
                      have k87_u2x : u2 160 87 = h 160 87 := (p87_u2).trans k87_u52x
                      have k88_u2x : h 160 88 ≤ u2 160 88 ∧ u2 160 88 ≤ h 160 88 + 2 * (Cm s b - Cm s (e + 1)) + 2 := by omega
                      clear k50_u52x k54_u52x k57_u52x k68_u52x k70_u52x k72_u52x k78_u52x k84_u52x k87_u52x k88_u52x p70_u2 p68_u2 p78_u2 p88_u2 p50_u2 p54_u2 p57_u2 p72_u2 p84_u2 p87_u2 J_u2 R_u2
                      exact ok_ret ⟨cw_le C_u2 (by omega), by omega, by omega, by omega, by omega, by omega, J71, R72⟩
                  · skip
                    unfold qj_X13_workBoth_315
                    refine ok_sv (cw_truth hn C_u52 (by omega) (by omega) (by omega) (by omega) (by omega) (by omega) (by omega)) ?_; intro u2 P_u2
                    obtain ⟨C_u2, p70_u2, p68_u2, p78_u2, p88_u2, ⟨p50_u2, p54_u2, p57_u2, p72_u2, p84_u2, p87_u2⟩, J_u2, R_u2⟩ := P_u2
                    have J73 : ∀ i : Nat, (i : Int) < h 160 87 → u2 217 i = h 217 i ∧ u2 218 i = h 218 i := fun i hi => by rw [(J_u2 i (by omega)).1, (J_u2 i (by omega)).2]; exact J3 i hi
                    have R74 : ∀ j : Nat, (j : Int) < h 160 57 → u2 199 j = h 199 j := fun j hj => (R_u2 j (by omega)).trans (R4 j hj)
                    have k50_u2x : u2 160 50 = h 160 50 := (p50_u2).trans k50_u52x
                    have k54_u2x : u2 160 54 = h 160 54 := (p54_u2).trans k54_u52x
                    have k57_u2x : u2 160 57 = h 160 57 := (p57_u2).trans k57_u52x
                    have k68_u2x : h 160 68 ≤ u2 160 68 ∧ u2 160 68 ≤ h 160 68 + 20 * (Cm s b - Cm s (e + 1)) + 10 := by omega
                    have k70_u2x : u2 160 70 = h 160 70 + 1 - 2 + 1 := by omega
                    have k72_u2x : u2 160 72 = h 160 72 := (p72_u2).trans k72_u52x
                    have k78_u2x : h 160 78 ≤ u2 160 78 ∧ u2 160 78 ≤ h 160 78 + 2 * (Cm s b - Cm s (e + 1)) + 2 := by omega
                    have k84_u2x : u2 160 84 = h 160 84 := (p84_u2).trans k84_u52x
                    have k87_u2x : u2 160 87 = h 160 87 := (p87_u2).trans k87_u52x
                    have k88_u2x : h 160 88 ≤ u2 160 88 ∧ u2 160 88 ≤ h 160 88 + 2 * (Cm s b - Cm s (e + 1)) + 2 := by omega
                    clear k50_u52x k54_u52x k57_u52x k68_u52x k70_u52x k72_u52x k78_u52x k84_u52x k87_u52x k88_u52x p70_u2 p68_u2 p78_u2 p88_u2 p50_u2 p54_u2 p57_u2 p72_u2 p84_u2 p87_u2 J_u2 R_u2
                    exact ok_ret ⟨cw_le C_u2 (by omega), by omega, by omega, by omega, by omega, by omega, J73, R74⟩
                · skip
                  unfold qj_X13_workBoth_315
                  refine ok_sv (cw_truth hn C_u52 (by omega) (by omega) (by omega) (by omega) (by omega) (by omega) (by omega)) ?_; intro u2 P_u2
                  obtain ⟨C_u2, p70_u2, p68_u2, p78_u2, p88_u2, ⟨p50_u2, p54_u2, p57_u2, p72_u2, p84_u2, p87_u2⟩, J_u2, R_u2⟩ := P_u2
                  have J75 : ∀ i : Nat, (i : Int) < h 160 87 → u2 217 i = h 217 i ∧ u2 218 i = h 218 i := fun i hi => by rw [(J_u2 i (by omega)).1, (J_u2 i (by omega)).2]; exact J3 i hi
                  have R76 : ∀ j : Nat, (j : Int) < h 160 57 → u2 199 j = h 199 j := fun j hj => (R_u2 j (by omega)).trans (R4 j hj)
                  have k50_u2x : u2 160 50 = h 160 50 := (p50_u2).trans k50_u52x
                  have k54_u2x : u2 160 54 = h 160 54 := (p54_u2).trans k54_u52x
                  have k57_u2x : u2 160 57 = h 160 57 := (p57_u2).trans k57_u52x
                  have k68_u2x : h 160 68 ≤ u2 160 68 ∧ u2 160 68 ≤ h 160 68 + 20 * (Cm s b - Cm s (e + 1)) + 10 := by omega
                  have k70_u2x : u2 160 70 = h 160 70 + 1 - 2 + 1 := by omega
                  have k72_u2x : u2 160 72 = h 160 72 := (p72_u2).trans k72_u52x
                  have k78_u2x : h 160 78 ≤ u2 160 78 ∧ u2 160 78 ≤ h 160 78 + 2 * (Cm s b - Cm s (e + 1)) + 2 := by omega
                  have k84_u2x : u2 160 84 = h 160 84 := (p84_u2).trans k84_u52x
                  have k87_u2x : u2 160 87 = h 160 87 := (p87_u2).trans k87_u52x
                  have k88_u2x : h 160 88 ≤ u2 160 88 ∧ u2 160 88 ≤ h 160 88 + 2 * (Cm s b - Cm s (e + 1)) + 2 := by omega
                  clear k50_u52x k54_u52x k57_u52x k68_u52x k70_u52x k72_u52x k78_u52x k84_u52x k87_u52x k88_u52x p70_u2 p68_u2 p78_u2 p88_u2 p50_u2 p54_u2 p57_u2 p72_u2 p84_u2 p87_u2 J_u2 R_u2
                  exact ok_ret ⟨cw_le C_u2 (by omega), by omega, by omega, by omega, by omega, by omega, J75, R76⟩
              · skip
                rw [if_neg (by decide)]
                unfold qj_X13_workBoth_315
                refine ok_sv (cw_truth hn C_u52 (by omega) (by omega) (by omega) (by omega) (by omega) (by omega) (by omega)) ?_; intro u2 P_u2
                obtain ⟨C_u2, p70_u2, p68_u2, p78_u2, p88_u2, ⟨p50_u2, p54_u2, p57_u2, p72_u2, p84_u2, p87_u2⟩, J_u2, R_u2⟩ := P_u2
                have J77 : ∀ i : Nat, (i : Int) < h 160 87 → u2 217 i = h 217 i ∧ u2 218 i = h 218 i := fun i hi => by rw [(J_u2 i (by omega)).1, (J_u2 i (by omega)).2]; exact J3 i hi
                have R78 : ∀ j : Nat, (j : Int) < h 160 57 → u2 199 j = h 199 j := fun j hj => (R_u2 j (by omega)).trans (R4 j hj)
                have k50_u2x : u2 160 50 = h 160 50 := (p50_u2).trans k50_u52x
                have k54_u2x : u2 160 54 = h 160 54 := (p54_u2).trans k54_u52x
                have k57_u2x : u2 160 57 = h 160 57 := (p57_u2).trans k57_u52x
                have k68_u2x : h 160 68 ≤ u2 160 68 ∧ u2 160 68 ≤ h 160 68 + 20 * (Cm s b - Cm s (e + 1)) + 10 := by omega
                have k70_u2x : u2 160 70 = h 160 70 + 1 - 2 + 1 := by omega
                have k72_u2x : u2 160 72 = h 160 72 := (p72_u2).trans k72_u52x
                have k78_u2x : h 160 78 ≤ u2 160 78 ∧ u2 160 78 ≤ h 160 78 + 2 * (Cm s b - Cm s (e + 1)) + 2 := by omega
                have k84_u2x : u2 160 84 = h 160 84 := (p84_u2).trans k84_u52x
                have k87_u2x : u2 160 87 = h 160 87 := (p87_u2).trans k87_u52x
                have k88_u2x : h 160 88 ≤ u2 160 88 ∧ u2 160 88 ≤ h 160 88 + 2 * (Cm s b - Cm s (e + 1)) + 2 := by omega
                clear k50_u52x k54_u52x k57_u52x k68_u52x k70_u52x k72_u52x k78_u52x k84_u52x k87_u52x k88_u52x p70_u2 p68_u2 p78_u2 p88_u2 p50_u2 p54_u2 p57_u2 p72_u2 p84_u2 p87_u2 J_u2 R_u2
                exact ok_ret ⟨cw_le C_u2 (by omega), by omega, by omega, by omega, by omega, by omega, J77, R78⟩
            · skip
              rw [if_neg (by decide)]
              unfold qj_X13_workBoth_315
              refine ok_sv (cw_truth hn C_u52 (by omega) (by omega) (by omega) (by omega) (by omega) (by omega) (by omega)) ?_; intro u2 P_u2
              obtain ⟨C_u2, p70_u2, p68_u2, p78_u2, p88_u2, ⟨p50_u2, p54_u2, p57_u2, p72_u2, p84_u2, p87_u2⟩, J_u2, R_u2⟩ := P_u2
              have J79 : ∀ i : Nat, (i : Int) < h 160 87 → u2 217 i = h 217 i ∧ u2 218 i = h 218 i := fun i hi => by rw [(J_u2 i (by omega)).1, (J_u2 i (by omega)).2]; exact J3 i hi
              have R80 : ∀ j : Nat, (j : Int) < h 160 57 → u2 199 j = h 199 j := fun j hj => (R_u2 j (by omega)).trans (R4 j hj)
              have k50_u2x : u2 160 50 = h 160 50 := (p50_u2).trans k50_u52x
              have k54_u2x : u2 160 54 = h 160 54 := (p54_u2).trans k54_u52x
              have k57_u2x : u2 160 57 = h 160 57 := (p57_u2).trans k57_u52x
              have k68_u2x : h 160 68 ≤ u2 160 68 ∧ u2 160 68 ≤ h 160 68 + 20 * (Cm s b - Cm s (e + 1)) + 10 := by omega
              have k70_u2x : u2 160 70 = h 160 70 + 1 - 2 + 1 := by omega
              have k72_u2x : u2 160 72 = h 160 72 := (p72_u2).trans k72_u52x
              have k78_u2x : h 160 78 ≤ u2 160 78 ∧ u2 160 78 ≤ h 160 78 + 2 * (Cm s b - Cm s (e + 1)) + 2 := by omega
              have k84_u2x : u2 160 84 = h 160 84 := (p84_u2).trans k84_u52x
              have k87_u2x : u2 160 87 = h 160 87 := (p87_u2).trans k87_u52x
              have k88_u2x : h 160 88 ≤ u2 160 88 ∧ u2 160 88 ≤ h 160 88 + 2 * (Cm s b - Cm s (e + 1)) + 2 := by omega
              clear k50_u52x k54_u52x k57_u52x k68_u52x k70_u52x k72_u52x k78_u52x k84_u52x k87_u52x k88_u52x p70_u2 p68_u2 p78_u2 p88_u2 p50_u2 p54_u2 p57_u2 p72_u2 p84_u2 p87_u2 J_u2 R_u2
              exact ok_ret ⟨cw_le C_u2 (by omega), by omega, by omega, by omega, by omega, by omega, J79, R80⟩
    · skip
      unfold qj_X13_workBoth_46
      refine ok_sv (cw_label C0 (by omega)) ?_; intro u41 P_u41
      obtain ⟨C_u41, l_u41, k88_u41, N_u41⟩ := P_u41
      have m_u41 : u41.1 = h 160 88 + 1 := by omega
      have L81 : u41.1 = u41.2 160 88 := by omega
      have k50_u41x : u41.2 160 50 = h 160 50 := (N_u41 160 50 (by decide)).trans k50_h
      have k54_u41x : u41.2 160 54 = h 160 54 := (N_u41 160 54 (by decide)).trans k54_h
      have k57_u41x : u41.2 160 57 = h 160 57 := (N_u41 160 57 (by decide)).trans k57_h
      have k68_u41x : u41.2 160 68 = h 160 68 := (N_u41 160 68 (by decide)).trans k68_h
      have k70_u41x : u41.2 160 70 = h 160 70 := (N_u41 160 70 (by decide)).trans k70_h
      have k72_u41x : u41.2 160 72 = h 160 72 := (N_u41 160 72 (by decide)).trans k72_h
      have k78_u41x : u41.2 160 78 = h 160 78 := (N_u41 160 78 (by decide)).trans k78_h
      have k84_u41x : u41.2 160 84 = h 160 84 := (N_u41 160 84 (by decide)).trans k84_h
      have k87_u41x : u41.2 160 87 = h 160 87 := (N_u41 160 87 (by decide)).trans k87_h
      have k88_u41x : u41.2 160 88 = h 160 88 + 1 := by omega
      have J82 : ∀ i : Nat, (i : Int) < h 160 87 → u41.2 217 i = h 217 i ∧ u41.2 218 i = h 218 i := fun i hi => by rw [show u41.2 217 i = h 217 i from N_u41 217 i (by omega), show u41.2 218 i = h 218 i from N_u41 218 i (by omega)]; exact J0 i hi
      have R83 : ∀ j : Nat, (j : Int) < h 160 57 → u41.2 199 j = h 199 j := fun j hj => (show u41.2 199 j = h 199 j from N_u41 199 j (by omega)).trans (R0 j hj)
      clear k50_h k54_h k57_h k68_h k70_h k72_h k78_h k84_h k87_h k88_h k88_u41 l_u41 L81
      refine ok_sv (cw_label C_u41 (by omega)) ?_; intro u43 P_u43
      obtain ⟨C_u43, l_u43, k88_u43, N_u43⟩ := P_u43
      have m_u43 : u43.1 = h 160 88 + 1 + 1 := by omega
      have L84 : u43.1 = u43.2 160 88 := by omega
      have k50_u43x : u43.2 160 50 = h 160 50 := (N_u43 160 50 (by decide)).trans k50_u41x
      have k54_u43x : u43.2 160 54 = h 160 54 := (N_u43 160 54 (by decide)).trans k54_u41x
      have k57_u43x : u43.2 160 57 = h 160 57 := (N_u43 160 57 (by decide)).trans k57_u41x
      have k68_u43x : u43.2 160 68 = h 160 68 := (N_u43 160 68 (by decide)).trans k68_u41x
      have k70_u43x : u43.2 160 70 = h 160 70 := (N_u43 160 70 (by decide)).trans k70_u41x
      have k72_u43x : u43.2 160 72 = h 160 72 := (N_u43 160 72 (by decide)).trans k72_u41x
      have k78_u43x : u43.2 160 78 = h 160 78 := (N_u43 160 78 (by decide)).trans k78_u41x
      have k84_u43x : u43.2 160 84 = h 160 84 := (N_u43 160 84 (by decide)).trans k84_u41x
      have k87_u43x : u43.2 160 87 = h 160 87 := (N_u43 160 87 (by decide)).trans k87_u41x
      have k88_u43x : u43.2 160 88 = h 160 88 + 1 + 1 := by omega
      have J85 : ∀ i : Nat, (i : Int) < h 160 87 → u43.2 217 i = h 217 i ∧ u43.2 218 i = h 218 i := fun i hi => by rw [show u43.2 217 i = u41.2 217 i from N_u43 217 i (by omega), show u43.2 218 i = u41.2 218 i from N_u43 218 i (by omega)]; exact J82 i hi
      have R86 : ∀ j : Nat, (j : Int) < h 160 57 → u43.2 199 j = h 199 j := fun j hj => (show u43.2 199 j = u41.2 199 j from N_u43 199 j (by omega)).trans (R83 j hj)
      clear k50_u41x k54_u41x k57_u41x k68_u41x k70_u41x k72_u41x k78_u41x k84_u41x k87_u41x k88_u41x k88_u43 l_u43 L84
      refine ok_sub (by omega) ?_; intro v45 e_v45
      refine ok_xl ?_; intro h46 E_h46
      obtain ⟨C_h46, k70_h46, N_h46⟩ := cw_pop C_u43 E_h46 (by omega)
      have k50_h46x : h46 160 50 = h 160 50 := (N_h46 160 50 (by decide)).trans k50_u43x
      have k54_h46x : h46 160 54 = h 160 54 := (N_h46 160 54 (by decide)).trans k54_u43x
      have k57_h46x : h46 160 57 = h 160 57 := (N_h46 160 57 (by decide)).trans k57_u43x
      have k68_h46x : h46 160 68 = h 160 68 := (N_h46 160 68 (by decide)).trans k68_u43x
      have k70_h46x : h46 160 70 = h 160 70 - 1 := by omega
      have k72_h46x : h46 160 72 = h 160 72 := (N_h46 160 72 (by decide)).trans k72_u43x
      have k78_h46x : h46 160 78 = h 160 78 := (N_h46 160 78 (by decide)).trans k78_u43x
      have k84_h46x : h46 160 84 = h 160 84 := (N_h46 160 84 (by decide)).trans k84_u43x
      have k87_h46x : h46 160 87 = h 160 87 := (N_h46 160 87 (by decide)).trans k87_u43x
      have k88_h46x : h46 160 88 = h 160 88 + 1 + 1 := (N_h46 160 88 (by decide)).trans k88_u43x
      have J87 : ∀ i : Nat, (i : Int) < h 160 87 → h46 217 i = h 217 i ∧ h46 218 i = h 218 i := fun i hi => by rw [show h46 217 i = u43.2 217 i from N_h46 217 i (by omega), show h46 218 i = u43.2 218 i from N_h46 218 i (by omega)]; exact J85 i hi
      have R88 : ∀ j : Nat, (j : Int) < h 160 57 → h46 199 j = h 199 j := fun j hj => (show h46 199 j = u43.2 199 j from N_h46 199 j (by omega)).trans (R86 j hj)
      clear k50_u43x k54_u43x k57_u43x k68_u43x k70_u43x k72_u43x k78_u43x k84_u43x k87_u43x k88_u43x k70_h46 E_h46
      rw [if_pos (by decide)]
      unfold qj_X13_workBoth_82
      refine ok_sv (cw_jump hn C_h46 (by omega) (by omega) (by omega) (by omega)) ?_; intro u26 P_u26
      obtain ⟨C_u26, k68_u26, k87_u26, n_u26, p_u26, N_u26⟩ := P_u26
      have J89 : ∀ i : Nat, (i : Int) < h 160 87 → u26 217 i = h 217 i ∧ u26 218 i = h 218 i := fun i hi => by rw [(p_u26 i (by omega)).1, (p_u26 i (by omega)).2]; exact J87 i hi
      have E90 : u26 218 (h 160 87).toNat = u41.1 := by rw [show h 160 87 = h46 160 87 by omega]; exact n_u26
      have k50_u26x : u26 160 50 = h 160 50 := (N_u26 160 50 rfl).trans k50_h46x
      have k54_u26x : u26 160 54 = h 160 54 := (N_u26 160 54 rfl).trans k54_h46x
      have k57_u26x : u26 160 57 = h 160 57 := (N_u26 160 57 rfl).trans k57_h46x
      have k68_u26x : u26 160 68 = h 160 68 + 3 := by omega
      have k70_u26x : u26 160 70 = h 160 70 - 1 := (N_u26 160 70 rfl).trans k70_h46x
      have k72_u26x : u26 160 72 = h 160 72 := (N_u26 160 72 rfl).trans k72_h46x
      have k78_u26x : u26 160 78 = h 160 78 := (N_u26 160 78 rfl).trans k78_h46x
      have k84_u26x : u26 160 84 = h 160 84 := (N_u26 160 84 rfl).trans k84_h46x
      have k87_u26x : u26 160 87 = h 160 87 + 1 := by omega
      have k88_u26x : u26 160 88 = h 160 88 + 1 + 1 := (N_u26 160 88 rfl).trans k88_h46x
      have R91 : ∀ j : Nat, (j : Int) < h 160 57 → u26 199 j = h 199 j := fun j hj => (show u26 199 j = h46 199 j from N_u26 199 j (nw_ar rfl j)).trans (R88 j hj)
      clear k50_h46x k54_h46x k57_h46x k68_h46x k70_h46x k72_h46x k78_h46x k84_h46x k87_h46x k88_h46x k68_u26 k87_u26
      refine ok_rd (by omega) (gA_171 C_u26.1.1) ?_; intro v28 e_v28 a_v28 b_v28
      have t_v28 : v28 = s 171 (e).toNat := by rw [e_v28]; exact C_u26.1.2.1 171 _ (nw_ar rfl _)
      clear e_v28
      have c_v28 := te_rg (te_k37 T (by omega)).2; rw [← t_v28] at c_v28
      have T_u30 : TE 0 s 0 (d - 3) (e + 1) b v28 := by rw [t_v28]; exact (te_k37 T (by omega)).2
      have Y_u30 := (yo_32 Y (by omega)).2; rw [← t_v28] at Y_u30
      have g_u30 := te_rg T_u30
      have D_u30 : dv s v28 = 1 := if_neg Y_u30.1
      have m_u30 := cm_mono (s := s) (a := (e + 1)) (b := b) (by omega) (by omega)
      refine ok_sv (G.1 v28 _ _ _ _ _ _ _ C_u26 T_u30 Y_u30.2 (.inl Y_u30.1) (by omega) (by omega) ⟨⟨by omega, by omega⟩, by omega, by omega, by omega, by omega, by omega, by omega⟩) ?_; intro u30 P_u30
      rw [D_u30] at P_u30
      obtain ⟨C_u30, p70_u30, p68_u30, p78_u30, p88_u30, ⟨p50_u30, p54_u30, p57_u30, p72_u30, p84_u30, p87_u30⟩, J_u30, R_u30⟩ := P_u30
      have J92 : ∀ i : Nat, (i : Int) < h 160 87 → u30 217 i = h 217 i ∧ u30 218 i = h 218 i := fun i hi => by rw [(J_u30 i (by omega)).1, (J_u30 i (by omega)).2]; exact J89 i hi
      have E93 : u30 218 (h 160 87).toNat = u41.1 := ((J_u30 _ (by omega)).2).trans E90
      have R94 : ∀ j : Nat, (j : Int) < h 160 57 → u30 199 j = h 199 j := fun j hj => (R_u30 j (by omega)).trans (R91 j hj)
      have k50_u30x : u30 160 50 = h 160 50 := (p50_u30).trans k50_u26x
      have k54_u30x : u30 160 54 = h 160 54 := (p54_u30).trans k54_u26x
      have k57_u30x : u30 160 57 = h 160 57 := (p57_u30).trans k57_u26x
      have k68_u30x : h 160 68 + 3 ≤ u30 160 68 ∧ u30 160 68 ≤ h 160 68 + 3 + 20 * (Cm s b - Cm s (e + 1)) := by omega
      have k70_u30x : u30 160 70 = h 160 70 - 1 + 1 := by omega
      have k72_u30x : u30 160 72 = h 160 72 := (p72_u30).trans k72_u26x
      have k78_u30x : h 160 78 ≤ u30 160 78 ∧ u30 160 78 ≤ h 160 78 + 2 * (Cm s b - Cm s (e + 1)) := by omega
      have k84_u30x : u30 160 84 = h 160 84 := (p84_u30).trans k84_u26x
      have k87_u30x : u30 160 87 = h 160 87 + 1 := (p87_u30).trans k87_u26x
      have k88_u30x : h 160 88 + 1 + 1 ≤ u30 160 88 ∧ u30 160 88 ≤ h 160 88 + 1 + 1 + 2 * (Cm s b - Cm s (e + 1)) := by omega
      clear k50_u26x k54_u26x k57_u26x k68_u26x k70_u26x k72_u26x k78_u26x k84_u26x k87_u26x k88_u26x p70_u30 p68_u30 p78_u30 p88_u30 p50_u30 p54_u30 p57_u30 p72_u30 p84_u30 p87_u30 J_u30 R_u30
      clear T_u30 Y_u30 D_u30
      refine ok_sub (by omega) ?_; intro v32 e_v32
      refine ok_xl ?_; intro h33 E_h33
      obtain ⟨C_h33, k70_h33, N_h33⟩ := cw_pop C_u30 E_h33 (by omega)
      have k50_h33x : h33 160 50 = h 160 50 := (N_h33 160 50 (by decide)).trans k50_u30x
      have k54_h33x : h33 160 54 = h 160 54 := (N_h33 160 54 (by decide)).trans k54_u30x
      have k57_h33x : h33 160 57 = h 160 57 := (N_h33 160 57 (by decide)).trans k57_u30x
      have k68_h33x : h 160 68 + 3 ≤ h33 160 68 ∧ h33 160 68 ≤ h 160 68 + 3 + 20 * (Cm s b - Cm s (e + 1)) := by rw [show h33 160 68 = _ from N_h33 160 68 (by decide)]; exact k68_u30x
      have k70_h33x : h33 160 70 = h 160 70 - 1 + 1 - 1 := by omega
      have k72_h33x : h33 160 72 = h 160 72 := (N_h33 160 72 (by decide)).trans k72_u30x
      have k78_h33x : h 160 78 ≤ h33 160 78 ∧ h33 160 78 ≤ h 160 78 + 2 * (Cm s b - Cm s (e + 1)) := by rw [show h33 160 78 = _ from N_h33 160 78 (by decide)]; exact k78_u30x
      have k84_h33x : h33 160 84 = h 160 84 := (N_h33 160 84 (by decide)).trans k84_u30x
      have k87_h33x : h33 160 87 = h 160 87 + 1 := (N_h33 160 87 (by decide)).trans k87_u30x
      have k88_h33x : h 160 88 + 1 + 1 ≤ h33 160 88 ∧ h33 160 88 ≤ h 160 88 + 1 + 1 + 2 * (Cm s b - Cm s (e + 1)) := by rw [show h33 160 88 = _ from N_h33 160 88 (by decide)]; exact k88_u30x
      have J95 : ∀ i : Nat, (i : Int) < h 160 87 → h33 217 i = h 217 i ∧ h33 218 i = h 218 i := fun i hi => by rw [show h33 217 i = u30 217 i from N_h33 217 i (by omega), show h33 218 i = u30 218 i from N_h33 218 i (by omega)]; exact J92 i hi
      have E96 : h33 218 (h 160 87).toNat = u41.1 := (show h33 218 _ = u30 218 _ from N_h33 218 _ (by omega)).trans E93
      have R97 : ∀ j : Nat, (j : Int) < h 160 57 → h33 199 j = h 199 j := fun j hj => (show h33 199 j = u30 199 j from N_h33 199 j (by omega)).trans (R94 j hj)
      clear k50_u30x k54_u30x k57_u30x k68_u30x k70_u30x k72_u30x k78_u30x k84_u30x k87_u30x k88_u30x k70_h33 E_h33
      refine ok_sv (cw_jump hn C_h33 (by omega) (by omega) (by omega) (by omega)) ?_; intro u35 P_u35
      obtain ⟨C_u35, k68_u35, k87_u35, n_u35, p_u35, N_u35⟩ := P_u35
      have J98 : ∀ i : Nat, (i : Int) < h 160 87 → u35 217 i = h 217 i ∧ u35 218 i = h 218 i := fun i hi => by rw [(p_u35 i (by omega)).1, (p_u35 i (by omega)).2]; exact J95 i hi
      have E99 : u35 218 (h 160 87).toNat = u41.1 := ((p_u35 _ (by omega)).2).trans E96
      have E100 : u35 218 (h 160 87 + 1).toNat = u43.1 := by rw [show h 160 87 + 1 = h33 160 87 by omega]; exact n_u35
      have k50_u35x : u35 160 50 = h 160 50 := (N_u35 160 50 rfl).trans k50_h33x
      have k54_u35x : u35 160 54 = h 160 54 := (N_u35 160 54 rfl).trans k54_h33x
      have k57_u35x : u35 160 57 = h 160 57 := (N_u35 160 57 rfl).trans k57_h33x
      have k68_u35x : h 160 68 + 3 + 3 ≤ u35 160 68 ∧ u35 160 68 ≤ h 160 68 + 3 + 20 * (Cm s b - Cm s (e + 1)) + 3 := by omega
      have k70_u35x : u35 160 70 = h 160 70 - 1 + 1 - 1 := (N_u35 160 70 rfl).trans k70_h33x
      have k72_u35x : u35 160 72 = h 160 72 := (N_u35 160 72 rfl).trans k72_h33x
      have k78_u35x : h 160 78 ≤ u35 160 78 ∧ u35 160 78 ≤ h 160 78 + 2 * (Cm s b - Cm s (e + 1)) := by rw [show u35 160 78 = _ from N_u35 160 78 rfl]; exact k78_h33x
      have k84_u35x : u35 160 84 = h 160 84 := (N_u35 160 84 rfl).trans k84_h33x
      have k87_u35x : u35 160 87 = h 160 87 + 1 + 1 := by omega
      have k88_u35x : h 160 88 + 1 + 1 ≤ u35 160 88 ∧ u35 160 88 ≤ h 160 88 + 1 + 1 + 2 * (Cm s b - Cm s (e + 1)) := by rw [show u35 160 88 = _ from N_u35 160 88 rfl]; exact k88_h33x
      have R101 : ∀ j : Nat, (j : Int) < h 160 57 → u35 199 j = h 199 j := fun j hj => (show u35 199 j = h33 199 j from N_u35 199 j (nw_ar rfl j)).trans (R97 j hj)
      clear k50_h33x k54_h33x k57_h33x k68_h33x k70_h33x k72_h33x k78_h33x k84_h33x k87_h33x k88_h33x k68_u35 k87_u35
      have H102 : ∀ i : Nat, (i : Int) < h 160 87 → ¬ u35 218 i = u41.1 := fun i hi => by rw [(J98 i hi).2]; have := C0.1.2.2.2.2.1 i hi; omega
      refine ok_sv (cw_stands hn C_u35 (by omega) H102 (by omega) (by omega)) ?_; intro u38 P_u38
      obtain ⟨C_u38, k87_u38, k78_u38, p_u38, q_u38, N_u38⟩ := P_u38
      have J103 : ∀ i : Nat, (i : Int) < h 160 87 → u38 217 i = h 217 i ∧ u38 218 i = h 218 i := fun i hi => by rw [(p_u38 i hi).1, (p_u38 i hi).2]; exact J98 i hi
      have A104 : ∀ i : Nat, h 160 87 ≤ (i : Int) → (i : Int) < u38 160 87 → u38 218 i = u43.1 := fun i h1 h2 => by
        obtain ⟨w1, j, j1, j2, _⟩ := q_u38 i h1 h2
        by_cases w : (j : Int) = h 160 87
        · exfalso; apply w1; rw [j2, show j = (h 160 87).toNat by omega]; exact E99
        · rw [j2, show j = (h 160 87 + 1).toNat by omega]; exact E100
      have k50_u38x : u38 160 50 = h 160 50 := (N_u38 160 50 rfl).trans k50_u35x
      have k54_u38x : u38 160 54 = h 160 54 := (N_u38 160 54 rfl).trans k54_u35x
      have k57_u38x : u38 160 57 = h 160 57 := (N_u38 160 57 rfl).trans k57_u35x
      have k68_u38x : h 160 68 + 3 + 3 ≤ u38 160 68 ∧ u38 160 68 ≤ h 160 68 + 3 + 20 * (Cm s b - Cm s (e + 1)) + 3 := by rw [show u38 160 68 = _ from N_u38 160 68 rfl]; exact k68_u35x
      have k70_u38x : u38 160 70 = h 160 70 - 1 + 1 - 1 := (N_u38 160 70 rfl).trans k70_u35x
      have k72_u38x : u38 160 72 = h 160 72 := (N_u38 160 72 rfl).trans k72_u35x
      have k78_u38x : h 160 78 ≤ u38 160 78 ∧ u38 160 78 ≤ h 160 78 + 2 * (Cm s b - Cm s (e + 1)) + 1 := by omega
      have k84_u38x : u38 160 84 = h 160 84 := (N_u38 160 84 rfl).trans k84_u35x
      have k87_u38x : h 160 87 ≤ u38 160 87 ∧ u38 160 87 ≤ h 160 87 + 1 + 1 := by omega
      have k88_u38x : h 160 88 + 1 + 1 ≤ u38 160 88 ∧ u38 160 88 ≤ h 160 88 + 1 + 1 + 2 * (Cm s b - Cm s (e + 1)) := by rw [show u38 160 88 = _ from N_u38 160 88 rfl]; exact k88_u35x
      have R105 : ∀ j : Nat, (j : Int) < h 160 57 → u38 199 j = h 199 j := fun j hj => (show u38 199 j = u35 199 j from N_u38 199 j (nw_ar rfl j)).trans (R101 j hj)
      clear k50_u35x k54_u35x k57_u35x k68_u35x k70_u35x k72_u35x k78_u35x k84_u35x k87_u35x k88_u35x k87_u38 k78_u38
      rw [if_pos (by decide)]
      unfold qj_X13_workBoth_136
      refine ok_sv (cw_put hn C_u38 (by omega) (by omega)) ?_; intro u19 P_u19
      obtain ⟨C_u19, k68_u19, N_u19⟩ := P_u19
      have k50_u19x : u19 160 50 = h 160 50 := (N_u19 160 50 (by decide) (by decide)).trans k50_u38x
      have k54_u19x : u19 160 54 = h 160 54 := (N_u19 160 54 (by decide) (by decide)).trans k54_u38x
      have k57_u19x : u19 160 57 = h 160 57 := (N_u19 160 57 (by decide) (by decide)).trans k57_u38x
      have k68_u19x : h 160 68 + 3 + 3 + 1 ≤ u19 160 68 ∧ u19 160 68 ≤ h 160 68 + 3 + 20 * (Cm s b - Cm s (e + 1)) + 3 + 1 := by omega
      have k70_u19x : u19 160 70 = h 160 70 - 1 + 1 - 1 := (N_u19 160 70 (by decide) (by decide)).trans k70_u38x
      have k72_u19x : u19 160 72 = h 160 72 := (N_u19 160 72 (by decide) (by decide)).trans k72_u38x
      have k78_u19x : h 160 78 ≤ u19 160 78 ∧ u19 160 78 ≤ h 160 78 + 2 * (Cm s b - Cm s (e + 1)) + 1 := by rw [show u19 160 78 = _ from N_u19 160 78 (by decide) (by decide)]; exact k78_u38x
      have k84_u19x : u19 160 84 = h 160 84 := (N_u19 160 84 (by decide) (by decide)).trans k84_u38x
      have k87_u19x : h 160 87 ≤ u19 160 87 ∧ u19 160 87 ≤ h 160 87 + 1 + 1 := by rw [show u19 160 87 = _ from N_u19 160 87 (by decide) (by decide)]; exact k87_u38x
      have k88_u19x : h 160 88 + 1 + 1 ≤ u19 160 88 ∧ u19 160 88 ≤ h 160 88 + 1 + 1 + 2 * (Cm s b - Cm s (e + 1)) := by rw [show u19 160 88 = _ from N_u19 160 88 (by decide) (by decide)]; exact k88_u38x
      have J106 : ∀ i : Nat, (i : Int) < h 160 87 → u19 217 i = h 217 i ∧ u19 218 i = h 218 i := fun i hi => by rw [show u19 217 i = u38 217 i from N_u19 217 i (by decide) (by omega), show u19 218 i = u38 218 i from N_u19 218 i (by decide) (by omega)]; exact J103 i hi
      have A107 : ∀ i : Nat, h 160 87 ≤ (i : Int) → (i : Int) < u19 160 87 → u19 218 i = u43.1 := fun i h1 h2 => (show u19 218 i = u38 218 i from N_u19 218 i (by decide) (by omega)).trans (A104 i h1 (by rw [← show u19 160 87 = u38 160 87 from N_u19 160 87 (by decide) (by decide)]; exact h2))
      have R108 : ∀ j : Nat, (j : Int) < h 160 57 → u19 199 j = h 199 j := fun j hj => (show u19 199 j = u38 199 j from N_u19 199 j (by decide) (by omega)).trans (R105 j hj)
      clear k50_u38x k54_u38x k57_u38x k68_u38x k70_u38x k72_u38x k78_u38x k84_u38x k87_u38x k88_u38x k68_u19
      refine ok_sv (cw_push C_u19 (by omega) (by omega)) ?_; intro u21 P_u21
      obtain ⟨C_u21, k70_u21, N_u21⟩ := P_u21
      have k50_u21x : u21 160 50 = h 160 50 := (N_u21 160 50 (by decide) (by decide)).trans k50_u19x
      have k54_u21x : u21 160 54 = h 160 54 := (N_u21 160 54 (by decide) (by decide)).trans k54_u19x
      have k57_u21x : u21 160 57 = h 160 57 := (N_u21 160 57 (by decide) (by decide)).trans k57_u19x
      have k68_u21x : h 160 68 + 3 + 3 + 1 ≤ u21 160 68 ∧ u21 160 68 ≤ h 160 68 + 3 + 20 * (Cm s b - Cm s (e + 1)) + 3 + 1 := by rw [show u21 160 68 = _ from N_u21 160 68 (by decide) (by decide)]; exact k68_u19x
      have k70_u21x : u21 160 70 = h 160 70 - 1 + 1 - 1 + 1 := by omega
      have k72_u21x : u21 160 72 = h 160 72 := (N_u21 160 72 (by decide) (by decide)).trans k72_u19x
      have k78_u21x : h 160 78 ≤ u21 160 78 ∧ u21 160 78 ≤ h 160 78 + 2 * (Cm s b - Cm s (e + 1)) + 1 := by rw [show u21 160 78 = _ from N_u21 160 78 (by decide) (by decide)]; exact k78_u19x
      have k84_u21x : u21 160 84 = h 160 84 := (N_u21 160 84 (by decide) (by decide)).trans k84_u19x
      have k87_u21x : h 160 87 ≤ u21 160 87 ∧ u21 160 87 ≤ h 160 87 + 1 + 1 := by rw [show u21 160 87 = _ from N_u21 160 87 (by decide) (by decide)]; exact k87_u19x
      have k88_u21x : h 160 88 + 1 + 1 ≤ u21 160 88 ∧ u21 160 88 ≤ h 160 88 + 1 + 1 + 2 * (Cm s b - Cm s (e + 1)) := by rw [show u21 160 88 = _ from N_u21 160 88 (by decide) (by decide)]; exact k88_u19x
      have J109 : ∀ i : Nat, (i : Int) < h 160 87 → u21 217 i = h 217 i ∧ u21 218 i = h 218 i := fun i hi => by rw [show u21 217 i = u19 217 i from N_u21 217 i (by decide) (by omega), show u21 218 i = u19 218 i from N_u21 218 i (by decide) (by omega)]; exact J106 i hi
      have A110 : ∀ i : Nat, h 160 87 ≤ (i : Int) → (i : Int) < u21 160 87 → u21 218 i = u43.1 := fun i h1 h2 => (show u21 218 i = u19 218 i from N_u21 218 i (by decide) (by omega)).trans (A107 i h1 (by rw [← show u21 160 87 = u19 160 87 from N_u21 160 87 (by decide) (by decide)]; exact h2))
      have R111 : ∀ j : Nat, (j : Int) < h 160 57 → u21 199 j = h 199 j := fun j hj => (show u21 199 j = u19 199 j from N_u21 199 j (by decide) (by omega)).trans (R108 j hj)
      clear k50_u19x k54_u19x k57_u19x k68_u19x k70_u19x k72_u19x k78_u19x k84_u19x k87_u19x k88_u19x k70_u21
      have H112 : ∀ i : Nat, (i : Int) < h 160 87 → ¬ u21 218 i = u43.1 := fun i hi => by rw [(J109 i hi).2]; have := C0.1.2.2.2.2.1 i hi; omega
      refine ok_sv (cw_stands hn C_u21 (by omega) H112 (by omega) (by omega)) ?_; intro u24 P_u24
      obtain ⟨C_u24, k87_u24, k78_u24, p_u24, q_u24, N_u24⟩ := P_u24
      have J113 : ∀ i : Nat, (i : Int) < h 160 87 → u24 217 i = h 217 i ∧ u24 218 i = h 218 i := fun i hi => by rw [(p_u24 i hi).1, (p_u24 i hi).2]; exact J109 i hi
      have k87x_u24 : u24 160 87 = h 160 87 := by
        by_cases w : u24 160 87 = h 160 87
        · exact w
        · exfalso
          obtain ⟨w1, j, j1, j2, _⟩ := q_u24 (h 160 87).toNat (by omega) (by omega)
          apply w1; rw [j2]; exact A110 j j1.1 j1.2
      have k50_u24x : u24 160 50 = h 160 50 := (N_u24 160 50 rfl).trans k50_u21x
      have k54_u24x : u24 160 54 = h 160 54 := (N_u24 160 54 rfl).trans k54_u21x
      have k57_u24x : u24 160 57 = h 160 57 := (N_u24 160 57 rfl).trans k57_u21x
      have k68_u24x : h 160 68 + 3 + 3 + 1 ≤ u24 160 68 ∧ u24 160 68 ≤ h 160 68 + 3 + 20 * (Cm s b - Cm s (e + 1)) + 3 + 1 := by rw [show u24 160 68 = _ from N_u24 160 68 rfl]; exact k68_u21x
      have k70_u24x : u24 160 70 = h 160 70 - 1 + 1 - 1 + 1 := (N_u24 160 70 rfl).trans k70_u21x
      have k72_u24x : u24 160 72 = h 160 72 := (N_u24 160 72 rfl).trans k72_u21x
      have k78_u24x : h 160 78 ≤ u24 160 78 ∧ u24 160 78 ≤ h 160 78 + 2 * (Cm s b - Cm s (e + 1)) + 1 + 1 := by omega
      have k84_u24x : u24 160 84 = h 160 84 := (N_u24 160 84 rfl).trans k84_u21x
      have k87_u24x : u24 160 87 = h 160 87 := by omega
      have k88_u24x : h 160 88 + 1 + 1 ≤ u24 160 88 ∧ u24 160 88 ≤ h 160 88 + 1 + 1 + 2 * (Cm s b - Cm s (e + 1)) := by rw [show u24 160 88 = _ from N_u24 160 88 rfl]; exact k88_u21x
      have R114 : ∀ j : Nat, (j : Int) < h 160 57 → u24 199 j = h 199 j := fun j hj => (show u24 199 j = u21 199 j from N_u24 199 j (nw_ar rfl j)).trans (R111 j hj)
      clear k50_u21x k54_u21x k57_u21x k68_u21x k70_u21x k72_u21x k78_u21x k84_u21x k87_u21x k88_u21x k87_u24 k78_u24 k87x_u24
      exact ok_ret ⟨cw_le C_u24 (by omega), by omega, by omega, by omega, by omega, by omega, J113, R114⟩
  · skip
    unfold qj_X13_workBoth_29
    rw [if_pos (by decide)]
    unfold qj_X13_workBoth_46
    refine ok_sv (cw_label C0 (by omega)) ?_; intro u41 P_u41
    obtain ⟨C_u41, l_u41, k88_u41, N_u41⟩ := P_u41
    have m_u41 : u41.1 = h 160 88 + 1 := by omega
    have L115 : u41.1 = u41.2 160 88 := by omega
    have k50_u41x : u41.2 160 50 = h 160 50 := (N_u41 160 50 (by decide)).trans k50_h
    have k54_u41x : u41.2 160 54 = h 160 54 := (N_u41 160 54 (by decide)).trans k54_h
    have k57_u41x : u41.2 160 57 = h 160 57 := (N_u41 160 57 (by decide)).trans k57_h
    have k68_u41x : u41.2 160 68 = h 160 68 := (N_u41 160 68 (by decide)).trans k68_h
    have k70_u41x : u41.2 160 70 = h 160 70 := (N_u41 160 70 (by decide)).trans k70_h
    have k72_u41x : u41.2 160 72 = h 160 72 := (N_u41 160 72 (by decide)).trans k72_h
    have k78_u41x : u41.2 160 78 = h 160 78 := (N_u41 160 78 (by decide)).trans k78_h
    have k84_u41x : u41.2 160 84 = h 160 84 := (N_u41 160 84 (by decide)).trans k84_h
    have k87_u41x : u41.2 160 87 = h 160 87 := (N_u41 160 87 (by decide)).trans k87_h
    have k88_u41x : u41.2 160 88 = h 160 88 + 1 := by omega
    have J116 : ∀ i : Nat, (i : Int) < h 160 87 → u41.2 217 i = h 217 i ∧ u41.2 218 i = h 218 i := fun i hi => by rw [show u41.2 217 i = h 217 i from N_u41 217 i (by omega), show u41.2 218 i = h 218 i from N_u41 218 i (by omega)]; exact J0 i hi
    have R117 : ∀ j : Nat, (j : Int) < h 160 57 → u41.2 199 j = h 199 j := fun j hj => (show u41.2 199 j = h 199 j from N_u41 199 j (by omega)).trans (R0 j hj)
    clear k50_h k54_h k57_h k68_h k70_h k72_h k78_h k84_h k87_h k88_h k88_u41 l_u41 L115
    refine ok_sv (cw_label C_u41 (by omega)) ?_; intro u43 P_u43
    obtain ⟨C_u43, l_u43, k88_u43, N_u43⟩ := P_u43
    have m_u43 : u43.1 = h 160 88 + 1 + 1 := by omega
    have L118 : u43.1 = u43.2 160 88 := by omega
    have k50_u43x : u43.2 160 50 = h 160 50 := (N_u43 160 50 (by decide)).trans k50_u41x
    have k54_u43x : u43.2 160 54 = h 160 54 := (N_u43 160 54 (by decide)).trans k54_u41x
    have k57_u43x : u43.2 160 57 = h 160 57 := (N_u43 160 57 (by decide)).trans k57_u41x
    have k68_u43x : u43.2 160 68 = h 160 68 := (N_u43 160 68 (by decide)).trans k68_u41x
    have k70_u43x : u43.2 160 70 = h 160 70 := (N_u43 160 70 (by decide)).trans k70_u41x
    have k72_u43x : u43.2 160 72 = h 160 72 := (N_u43 160 72 (by decide)).trans k72_u41x
    have k78_u43x : u43.2 160 78 = h 160 78 := (N_u43 160 78 (by decide)).trans k78_u41x
    have k84_u43x : u43.2 160 84 = h 160 84 := (N_u43 160 84 (by decide)).trans k84_u41x
    have k87_u43x : u43.2 160 87 = h 160 87 := (N_u43 160 87 (by decide)).trans k87_u41x
    have k88_u43x : u43.2 160 88 = h 160 88 + 1 + 1 := by omega
    have J119 : ∀ i : Nat, (i : Int) < h 160 87 → u43.2 217 i = h 217 i ∧ u43.2 218 i = h 218 i := fun i hi => by rw [show u43.2 217 i = u41.2 217 i from N_u43 217 i (by omega), show u43.2 218 i = u41.2 218 i from N_u43 218 i (by omega)]; exact J116 i hi
    have R120 : ∀ j : Nat, (j : Int) < h 160 57 → u43.2 199 j = h 199 j := fun j hj => (show u43.2 199 j = u41.2 199 j from N_u43 199 j (by omega)).trans (R117 j hj)
    clear k50_u41x k54_u41x k57_u41x k68_u41x k70_u41x k72_u41x k78_u41x k84_u41x k87_u41x k88_u41x k88_u43 l_u43 L118
    refine ok_sub (by omega) ?_; intro v45 e_v45
    refine ok_xl ?_; intro h46 E_h46
    obtain ⟨C_h46, k70_h46, N_h46⟩ := cw_pop C_u43 E_h46 (by omega)
    have k50_h46x : h46 160 50 = h 160 50 := (N_h46 160 50 (by decide)).trans k50_u43x
    have k54_h46x : h46 160 54 = h 160 54 := (N_h46 160 54 (by decide)).trans k54_u43x
    have k57_h46x : h46 160 57 = h 160 57 := (N_h46 160 57 (by decide)).trans k57_u43x
    have k68_h46x : h46 160 68 = h 160 68 := (N_h46 160 68 (by decide)).trans k68_u43x
    have k70_h46x : h46 160 70 = h 160 70 - 1 := by omega
    have k72_h46x : h46 160 72 = h 160 72 := (N_h46 160 72 (by decide)).trans k72_u43x
    have k78_h46x : h46 160 78 = h 160 78 := (N_h46 160 78 (by decide)).trans k78_u43x
    have k84_h46x : h46 160 84 = h 160 84 := (N_h46 160 84 (by decide)).trans k84_u43x
    have k87_h46x : h46 160 87 = h 160 87 := (N_h46 160 87 (by decide)).trans k87_u43x
    have k88_h46x : h46 160 88 = h 160 88 + 1 + 1 := (N_h46 160 88 (by decide)).trans k88_u43x
    have J121 : ∀ i : Nat, (i : Int) < h 160 87 → h46 217 i = h 217 i ∧ h46 218 i = h 218 i := fun i hi => by rw [show h46 217 i = u43.2 217 i from N_h46 217 i (by omega), show h46 218 i = u43.2 218 i from N_h46 218 i (by omega)]; exact J119 i hi
    have R122 : ∀ j : Nat, (j : Int) < h 160 57 → h46 199 j = h 199 j := fun j hj => (show h46 199 j = u43.2 199 j from N_h46 199 j (by omega)).trans (R120 j hj)
    clear k50_u43x k54_u43x k57_u43x k68_u43x k70_u43x k72_u43x k78_u43x k84_u43x k87_u43x k88_u43x k70_h46 E_h46
    rw [if_neg (by decide)]
    unfold qj_X13_workBoth_82
    refine ok_sv (cw_jump hn C_h46 (by omega) (by omega) (by omega) (by omega)) ?_; intro u26 P_u26
    obtain ⟨C_u26, k68_u26, k87_u26, n_u26, p_u26, N_u26⟩ := P_u26
    have J123 : ∀ i : Nat, (i : Int) < h 160 87 → u26 217 i = h 217 i ∧ u26 218 i = h 218 i := fun i hi => by rw [(p_u26 i (by omega)).1, (p_u26 i (by omega)).2]; exact J121 i hi
    have E124 : u26 218 (h 160 87).toNat = u41.1 := by rw [show h 160 87 = h46 160 87 by omega]; exact n_u26
    have k50_u26x : u26 160 50 = h 160 50 := (N_u26 160 50 rfl).trans k50_h46x
    have k54_u26x : u26 160 54 = h 160 54 := (N_u26 160 54 rfl).trans k54_h46x
    have k57_u26x : u26 160 57 = h 160 57 := (N_u26 160 57 rfl).trans k57_h46x
    have k68_u26x : u26 160 68 = h 160 68 + 3 := by omega
    have k70_u26x : u26 160 70 = h 160 70 - 1 := (N_u26 160 70 rfl).trans k70_h46x
    have k72_u26x : u26 160 72 = h 160 72 := (N_u26 160 72 rfl).trans k72_h46x
    have k78_u26x : u26 160 78 = h 160 78 := (N_u26 160 78 rfl).trans k78_h46x
    have k84_u26x : u26 160 84 = h 160 84 := (N_u26 160 84 rfl).trans k84_h46x
    have k87_u26x : u26 160 87 = h 160 87 + 1 := by omega
    have k88_u26x : u26 160 88 = h 160 88 + 1 + 1 := (N_u26 160 88 rfl).trans k88_h46x
    have R125 : ∀ j : Nat, (j : Int) < h 160 57 → u26 199 j = h 199 j := fun j hj => (show u26 199 j = h46 199 j from N_u26 199 j (nw_ar rfl j)).trans (R122 j hj)
    clear k50_h46x k54_h46x k57_h46x k68_h46x k70_h46x k72_h46x k78_h46x k84_h46x k87_h46x k88_h46x k68_u26 k87_u26
    refine ok_rd (by omega) (gA_171 C_u26.1.1) ?_; intro v28 e_v28 a_v28 b_v28
    have t_v28 : v28 = s 171 (e).toNat := by rw [e_v28]; exact C_u26.1.2.1 171 _ (nw_ar rfl _)
    clear e_v28
    have c_v28 := te_rg (te_k37 T (by omega)).2; rw [← t_v28] at c_v28
    have T_u30 : TE 0 s 0 (d - 3) (e + 1) b v28 := by rw [t_v28]; exact (te_k37 T (by omega)).2
    have Y_u30 := (yo_32 Y (by omega)).2; rw [← t_v28] at Y_u30
    have g_u30 := te_rg T_u30
    have D_u30 : dv s v28 = 1 := if_neg Y_u30.1
    have m_u30 := cm_mono (s := s) (a := (e + 1)) (b := b) (by omega) (by omega)
    refine ok_sv (G.1 v28 _ _ _ _ _ _ _ C_u26 T_u30 Y_u30.2 (.inl Y_u30.1) (by omega) (by omega) ⟨⟨by omega, by omega⟩, by omega, by omega, by omega, by omega, by omega, by omega⟩) ?_; intro u30 P_u30
    rw [D_u30] at P_u30
    obtain ⟨C_u30, p70_u30, p68_u30, p78_u30, p88_u30, ⟨p50_u30, p54_u30, p57_u30, p72_u30, p84_u30, p87_u30⟩, J_u30, R_u30⟩ := P_u30
    have J126 : ∀ i : Nat, (i : Int) < h 160 87 → u30 217 i = h 217 i ∧ u30 218 i = h 218 i := fun i hi => by rw [(J_u30 i (by omega)).1, (J_u30 i (by omega)).2]; exact J123 i hi
    have E127 : u30 218 (h 160 87).toNat = u41.1 := ((J_u30 _ (by omega)).2).trans E124
    have R128 : ∀ j : Nat, (j : Int) < h 160 57 → u30 199 j = h 199 j := fun j hj => (R_u30 j (by omega)).trans (R125 j hj)
    have k50_u30x : u30 160 50 = h 160 50 := (p50_u30).trans k50_u26x
    have k54_u30x : u30 160 54 = h 160 54 := (p54_u30).trans k54_u26x
    have k57_u30x : u30 160 57 = h 160 57 := (p57_u30).trans k57_u26x
    have k68_u30x : h 160 68 + 3 ≤ u30 160 68 ∧ u30 160 68 ≤ h 160 68 + 3 + 20 * (Cm s b - Cm s (e + 1)) := by omega
    have k70_u30x : u30 160 70 = h 160 70 - 1 + 1 := by omega
    have k72_u30x : u30 160 72 = h 160 72 := (p72_u30).trans k72_u26x
    have k78_u30x : h 160 78 ≤ u30 160 78 ∧ u30 160 78 ≤ h 160 78 + 2 * (Cm s b - Cm s (e + 1)) := by omega
    have k84_u30x : u30 160 84 = h 160 84 := (p84_u30).trans k84_u26x
    have k87_u30x : u30 160 87 = h 160 87 + 1 := (p87_u30).trans k87_u26x
    have k88_u30x : h 160 88 + 1 + 1 ≤ u30 160 88 ∧ u30 160 88 ≤ h 160 88 + 1 + 1 + 2 * (Cm s b - Cm s (e + 1)) := by omega
    clear k50_u26x k54_u26x k57_u26x k68_u26x k70_u26x k72_u26x k78_u26x k84_u26x k87_u26x k88_u26x p70_u30 p68_u30 p78_u30 p88_u30 p50_u30 p54_u30 p57_u30 p72_u30 p84_u30 p87_u30 J_u30 R_u30
    clear T_u30 Y_u30 D_u30
    refine ok_sub (by omega) ?_; intro v32 e_v32
    refine ok_xl ?_; intro h33 E_h33
    obtain ⟨C_h33, k70_h33, N_h33⟩ := cw_pop C_u30 E_h33 (by omega)
    have k50_h33x : h33 160 50 = h 160 50 := (N_h33 160 50 (by decide)).trans k50_u30x
    have k54_h33x : h33 160 54 = h 160 54 := (N_h33 160 54 (by decide)).trans k54_u30x
    have k57_h33x : h33 160 57 = h 160 57 := (N_h33 160 57 (by decide)).trans k57_u30x
    have k68_h33x : h 160 68 + 3 ≤ h33 160 68 ∧ h33 160 68 ≤ h 160 68 + 3 + 20 * (Cm s b - Cm s (e + 1)) := by rw [show h33 160 68 = _ from N_h33 160 68 (by decide)]; exact k68_u30x
    have k70_h33x : h33 160 70 = h 160 70 - 1 + 1 - 1 := by omega
    have k72_h33x : h33 160 72 = h 160 72 := (N_h33 160 72 (by decide)).trans k72_u30x
    have k78_h33x : h 160 78 ≤ h33 160 78 ∧ h33 160 78 ≤ h 160 78 + 2 * (Cm s b - Cm s (e + 1)) := by rw [show h33 160 78 = _ from N_h33 160 78 (by decide)]; exact k78_u30x
    have k84_h33x : h33 160 84 = h 160 84 := (N_h33 160 84 (by decide)).trans k84_u30x
    have k87_h33x : h33 160 87 = h 160 87 + 1 := (N_h33 160 87 (by decide)).trans k87_u30x
    have k88_h33x : h 160 88 + 1 + 1 ≤ h33 160 88 ∧ h33 160 88 ≤ h 160 88 + 1 + 1 + 2 * (Cm s b - Cm s (e + 1)) := by rw [show h33 160 88 = _ from N_h33 160 88 (by decide)]; exact k88_u30x
    have J129 : ∀ i : Nat, (i : Int) < h 160 87 → h33 217 i = h 217 i ∧ h33 218 i = h 218 i := fun i hi => by rw [show h33 217 i = u30 217 i from N_h33 217 i (by omega), show h33 218 i = u30 218 i from N_h33 218 i (by omega)]; exact J126 i hi
    have E130 : h33 218 (h 160 87).toNat = u41.1 := (show h33 218 _ = u30 218 _ from N_h33 218 _ (by omega)).trans E127
    have R131 : ∀ j : Nat, (j : Int) < h 160 57 → h33 199 j = h 199 j := fun j hj => (show h33 199 j = u30 199 j from N_h33 199 j (by omega)).trans (R128 j hj)
    clear k50_u30x k54_u30x k57_u30x k68_u30x k70_u30x k72_u30x k78_u30x k84_u30x k87_u30x k88_u30x k70_h33 E_h33
    refine ok_sv (cw_jump hn C_h33 (by omega) (by omega) (by omega) (by omega)) ?_; intro u35 P_u35
    obtain ⟨C_u35, k68_u35, k87_u35, n_u35, p_u35, N_u35⟩ := P_u35
    have J132 : ∀ i : Nat, (i : Int) < h 160 87 → u35 217 i = h 217 i ∧ u35 218 i = h 218 i := fun i hi => by rw [(p_u35 i (by omega)).1, (p_u35 i (by omega)).2]; exact J129 i hi
    have E133 : u35 218 (h 160 87).toNat = u41.1 := ((p_u35 _ (by omega)).2).trans E130
    have E134 : u35 218 (h 160 87 + 1).toNat = u43.1 := by rw [show h 160 87 + 1 = h33 160 87 by omega]; exact n_u35
    have k50_u35x : u35 160 50 = h 160 50 := (N_u35 160 50 rfl).trans k50_h33x
    have k54_u35x : u35 160 54 = h 160 54 := (N_u35 160 54 rfl).trans k54_h33x
    have k57_u35x : u35 160 57 = h 160 57 := (N_u35 160 57 rfl).trans k57_h33x
    have k68_u35x : h 160 68 + 3 + 3 ≤ u35 160 68 ∧ u35 160 68 ≤ h 160 68 + 3 + 20 * (Cm s b - Cm s (e + 1)) + 3 := by omega
    have k70_u35x : u35 160 70 = h 160 70 - 1 + 1 - 1 := (N_u35 160 70 rfl).trans k70_h33x
    have k72_u35x : u35 160 72 = h 160 72 := (N_u35 160 72 rfl).trans k72_h33x
    have k78_u35x : h 160 78 ≤ u35 160 78 ∧ u35 160 78 ≤ h 160 78 + 2 * (Cm s b - Cm s (e + 1)) := by rw [show u35 160 78 = _ from N_u35 160 78 rfl]; exact k78_h33x
    have k84_u35x : u35 160 84 = h 160 84 := (N_u35 160 84 rfl).trans k84_h33x
    have k87_u35x : u35 160 87 = h 160 87 + 1 + 1 := by omega
    have k88_u35x : h 160 88 + 1 + 1 ≤ u35 160 88 ∧ u35 160 88 ≤ h 160 88 + 1 + 1 + 2 * (Cm s b - Cm s (e + 1)) := by rw [show u35 160 88 = _ from N_u35 160 88 rfl]; exact k88_h33x
    have R135 : ∀ j : Nat, (j : Int) < h 160 57 → u35 199 j = h 199 j := fun j hj => (show u35 199 j = h33 199 j from N_u35 199 j (nw_ar rfl j)).trans (R131 j hj)
    clear k50_h33x k54_h33x k57_h33x k68_h33x k70_h33x k72_h33x k78_h33x k84_h33x k87_h33x k88_h33x k68_u35 k87_u35
    have H136 : ∀ i : Nat, (i : Int) < h 160 87 → ¬ u35 218 i = u41.1 := fun i hi => by rw [(J132 i hi).2]; have := C0.1.2.2.2.2.1 i hi; omega
    refine ok_sv (cw_stands hn C_u35 (by omega) H136 (by omega) (by omega)) ?_; intro u38 P_u38
    obtain ⟨C_u38, k87_u38, k78_u38, p_u38, q_u38, N_u38⟩ := P_u38
    have J137 : ∀ i : Nat, (i : Int) < h 160 87 → u38 217 i = h 217 i ∧ u38 218 i = h 218 i := fun i hi => by rw [(p_u38 i hi).1, (p_u38 i hi).2]; exact J132 i hi
    have A138 : ∀ i : Nat, h 160 87 ≤ (i : Int) → (i : Int) < u38 160 87 → u38 218 i = u43.1 := fun i h1 h2 => by
      obtain ⟨w1, j, j1, j2, _⟩ := q_u38 i h1 h2
      by_cases w : (j : Int) = h 160 87
      · exfalso; apply w1; rw [j2, show j = (h 160 87).toNat by omega]; exact E133
      · rw [j2, show j = (h 160 87 + 1).toNat by omega]; exact E134
    have k50_u38x : u38 160 50 = h 160 50 := (N_u38 160 50 rfl).trans k50_u35x
    have k54_u38x : u38 160 54 = h 160 54 := (N_u38 160 54 rfl).trans k54_u35x
    have k57_u38x : u38 160 57 = h 160 57 := (N_u38 160 57 rfl).trans k57_u35x
    have k68_u38x : h 160 68 + 3 + 3 ≤ u38 160 68 ∧ u38 160 68 ≤ h 160 68 + 3 + 20 * (Cm s b - Cm s (e + 1)) + 3 := by rw [show u38 160 68 = _ from N_u38 160 68 rfl]; exact k68_u35x
    have k70_u38x : u38 160 70 = h 160 70 - 1 + 1 - 1 := (N_u38 160 70 rfl).trans k70_u35x
    have k72_u38x : u38 160 72 = h 160 72 := (N_u38 160 72 rfl).trans k72_u35x
    have k78_u38x : h 160 78 ≤ u38 160 78 ∧ u38 160 78 ≤ h 160 78 + 2 * (Cm s b - Cm s (e + 1)) + 1 := by omega
    have k84_u38x : u38 160 84 = h 160 84 := (N_u38 160 84 rfl).trans k84_u35x
    have k87_u38x : h 160 87 ≤ u38 160 87 ∧ u38 160 87 ≤ h 160 87 + 1 + 1 := by omega
    have k88_u38x : h 160 88 + 1 + 1 ≤ u38 160 88 ∧ u38 160 88 ≤ h 160 88 + 1 + 1 + 2 * (Cm s b - Cm s (e + 1)) := by rw [show u38 160 88 = _ from N_u38 160 88 rfl]; exact k88_u35x
    have R139 : ∀ j : Nat, (j : Int) < h 160 57 → u38 199 j = h 199 j := fun j hj => (show u38 199 j = u35 199 j from N_u38 199 j (nw_ar rfl j)).trans (R135 j hj)
    clear k50_u35x k54_u35x k57_u35x k68_u35x k70_u35x k72_u35x k78_u35x k84_u35x k87_u35x k88_u35x k87_u38 k78_u38
    rw [if_neg (by decide)]
    unfold qj_X13_workBoth_136
    refine ok_sv (cw_put hn C_u38 (by omega) (by omega)) ?_; intro u19 P_u19
    obtain ⟨C_u19, k68_u19, N_u19⟩ := P_u19
    have k50_u19x : u19 160 50 = h 160 50 := (N_u19 160 50 (by decide) (by decide)).trans k50_u38x
    have k54_u19x : u19 160 54 = h 160 54 := (N_u19 160 54 (by decide) (by decide)).trans k54_u38x
    have k57_u19x : u19 160 57 = h 160 57 := (N_u19 160 57 (by decide) (by decide)).trans k57_u38x
    have k68_u19x : h 160 68 + 3 + 3 + 1 ≤ u19 160 68 ∧ u19 160 68 ≤ h 160 68 + 3 + 20 * (Cm s b - Cm s (e + 1)) + 3 + 1 := by omega
    have k70_u19x : u19 160 70 = h 160 70 - 1 + 1 - 1 := (N_u19 160 70 (by decide) (by decide)).trans k70_u38x
    have k72_u19x : u19 160 72 = h 160 72 := (N_u19 160 72 (by decide) (by decide)).trans k72_u38x
    have k78_u19x : h 160 78 ≤ u19 160 78 ∧ u19 160 78 ≤ h 160 78 + 2 * (Cm s b - Cm s (e + 1)) + 1 := by rw [show u19 160 78 = _ from N_u19 160 78 (by decide) (by decide)]; exact k78_u38x
    have k84_u19x : u19 160 84 = h 160 84 := (N_u19 160 84 (by decide) (by decide)).trans k84_u38x
    have k87_u19x : h 160 87 ≤ u19 160 87 ∧ u19 160 87 ≤ h 160 87 + 1 + 1 := by rw [show u19 160 87 = _ from N_u19 160 87 (by decide) (by decide)]; exact k87_u38x
    have k88_u19x : h 160 88 + 1 + 1 ≤ u19 160 88 ∧ u19 160 88 ≤ h 160 88 + 1 + 1 + 2 * (Cm s b - Cm s (e + 1)) := by rw [show u19 160 88 = _ from N_u19 160 88 (by decide) (by decide)]; exact k88_u38x
    have J140 : ∀ i : Nat, (i : Int) < h 160 87 → u19 217 i = h 217 i ∧ u19 218 i = h 218 i := fun i hi => by rw [show u19 217 i = u38 217 i from N_u19 217 i (by decide) (by omega), show u19 218 i = u38 218 i from N_u19 218 i (by decide) (by omega)]; exact J137 i hi
    have A141 : ∀ i : Nat, h 160 87 ≤ (i : Int) → (i : Int) < u19 160 87 → u19 218 i = u43.1 := fun i h1 h2 => (show u19 218 i = u38 218 i from N_u19 218 i (by decide) (by omega)).trans (A138 i h1 (by rw [← show u19 160 87 = u38 160 87 from N_u19 160 87 (by decide) (by decide)]; exact h2))
    have R142 : ∀ j : Nat, (j : Int) < h 160 57 → u19 199 j = h 199 j := fun j hj => (show u19 199 j = u38 199 j from N_u19 199 j (by decide) (by omega)).trans (R139 j hj)
    clear k50_u38x k54_u38x k57_u38x k68_u38x k70_u38x k72_u38x k78_u38x k84_u38x k87_u38x k88_u38x k68_u19
    refine ok_sv (cw_push C_u19 (by omega) (by omega)) ?_; intro u21 P_u21
    obtain ⟨C_u21, k70_u21, N_u21⟩ := P_u21
    have k50_u21x : u21 160 50 = h 160 50 := (N_u21 160 50 (by decide) (by decide)).trans k50_u19x
    have k54_u21x : u21 160 54 = h 160 54 := (N_u21 160 54 (by decide) (by decide)).trans k54_u19x
    have k57_u21x : u21 160 57 = h 160 57 := (N_u21 160 57 (by decide) (by decide)).trans k57_u19x
    have k68_u21x : h 160 68 + 3 + 3 + 1 ≤ u21 160 68 ∧ u21 160 68 ≤ h 160 68 + 3 + 20 * (Cm s b - Cm s (e + 1)) + 3 + 1 := by rw [show u21 160 68 = _ from N_u21 160 68 (by decide) (by decide)]; exact k68_u19x
    have k70_u21x : u21 160 70 = h 160 70 - 1 + 1 - 1 + 1 := by omega
    have k72_u21x : u21 160 72 = h 160 72 := (N_u21 160 72 (by decide) (by decide)).trans k72_u19x
    have k78_u21x : h 160 78 ≤ u21 160 78 ∧ u21 160 78 ≤ h 160 78 + 2 * (Cm s b - Cm s (e + 1)) + 1 := by rw [show u21 160 78 = _ from N_u21 160 78 (by decide) (by decide)]; exact k78_u19x
    have k84_u21x : u21 160 84 = h 160 84 := (N_u21 160 84 (by decide) (by decide)).trans k84_u19x
    have k87_u21x : h 160 87 ≤ u21 160 87 ∧ u21 160 87 ≤ h 160 87 + 1 + 1 := by rw [show u21 160 87 = _ from N_u21 160 87 (by decide) (by decide)]; exact k87_u19x
    have k88_u21x : h 160 88 + 1 + 1 ≤ u21 160 88 ∧ u21 160 88 ≤ h 160 88 + 1 + 1 + 2 * (Cm s b - Cm s (e + 1)) := by rw [show u21 160 88 = _ from N_u21 160 88 (by decide) (by decide)]; exact k88_u19x
    have J143 : ∀ i : Nat, (i : Int) < h 160 87 → u21 217 i = h 217 i ∧ u21 218 i = h 218 i := fun i hi => by rw [show u21 217 i = u19 217 i from N_u21 217 i (by decide) (by omega), show u21 218 i = u19 218 i from N_u21 218 i (by decide) (by omega)]; exact J140 i hi
    have A144 : ∀ i : Nat, h 160 87 ≤ (i : Int) → (i : Int) < u21 160 87 → u21 218 i = u43.1 := fun i h1 h2 => (show u21 218 i = u19 218 i from N_u21 218 i (by decide) (by omega)).trans (A141 i h1 (by rw [← show u21 160 87 = u19 160 87 from N_u21 160 87 (by decide) (by decide)]; exact h2))
    have R145 : ∀ j : Nat, (j : Int) < h 160 57 → u21 199 j = h 199 j := fun j hj => (show u21 199 j = u19 199 j from N_u21 199 j (by decide) (by omega)).trans (R142 j hj)
    clear k50_u19x k54_u19x k57_u19x k68_u19x k70_u19x k72_u19x k78_u19x k84_u19x k87_u19x k88_u19x k70_u21
    have H146 : ∀ i : Nat, (i : Int) < h 160 87 → ¬ u21 218 i = u43.1 := fun i hi => by rw [(J143 i hi).2]; have := C0.1.2.2.2.2.1 i hi; omega
    refine ok_sv (cw_stands hn C_u21 (by omega) H146 (by omega) (by omega)) ?_; intro u24 P_u24
    obtain ⟨C_u24, k87_u24, k78_u24, p_u24, q_u24, N_u24⟩ := P_u24
    have J147 : ∀ i : Nat, (i : Int) < h 160 87 → u24 217 i = h 217 i ∧ u24 218 i = h 218 i := fun i hi => by rw [(p_u24 i hi).1, (p_u24 i hi).2]; exact J143 i hi
    have k87x_u24 : u24 160 87 = h 160 87 := by
      by_cases w : u24 160 87 = h 160 87
      · exact w
      · exfalso
        obtain ⟨w1, j, j1, j2, _⟩ := q_u24 (h 160 87).toNat (by omega) (by omega)
        apply w1; rw [j2]; exact A144 j j1.1 j1.2
    have k50_u24x : u24 160 50 = h 160 50 := (N_u24 160 50 rfl).trans k50_u21x
    have k54_u24x : u24 160 54 = h 160 54 := (N_u24 160 54 rfl).trans k54_u21x
    have k57_u24x : u24 160 57 = h 160 57 := (N_u24 160 57 rfl).trans k57_u21x
    have k68_u24x : h 160 68 + 3 + 3 + 1 ≤ u24 160 68 ∧ u24 160 68 ≤ h 160 68 + 3 + 20 * (Cm s b - Cm s (e + 1)) + 3 + 1 := by rw [show u24 160 68 = _ from N_u24 160 68 rfl]; exact k68_u21x
    have k70_u24x : u24 160 70 = h 160 70 - 1 + 1 - 1 + 1 := (N_u24 160 70 rfl).trans k70_u21x
    have k72_u24x : u24 160 72 = h 160 72 := (N_u24 160 72 rfl).trans k72_u21x
    have k78_u24x : h 160 78 ≤ u24 160 78 ∧ u24 160 78 ≤ h 160 78 + 2 * (Cm s b - Cm s (e + 1)) + 1 + 1 := by omega
    have k84_u24x : u24 160 84 = h 160 84 := (N_u24 160 84 rfl).trans k84_u21x
    have k87_u24x : u24 160 87 = h 160 87 := by omega
    have k88_u24x : h 160 88 + 1 + 1 ≤ u24 160 88 ∧ u24 160 88 ≤ h 160 88 + 1 + 1 + 2 * (Cm s b - Cm s (e + 1)) := by rw [show u24 160 88 = _ from N_u24 160 88 rfl]; exact k88_u21x
    have R148 : ∀ j : Nat, (j : Int) < h 160 57 → u24 199 j = h 199 j := fun j hj => (show u24 199 j = u21 199 j from N_u24 199 j (nw_ar rfl j)).trans (R145 j hj)
    clear k50_u21x k54_u21x k57_u21x k68_u21x k70_u21x k72_u21x k78_u21x k84_u21x k87_u21x k88_u21x k87_u24 k78_u24 k87x_u24
    exact ok_ret ⟨cw_le C_u24 (by omega), by omega, by omega, by omega, by omega, by omega, J147, R148⟩

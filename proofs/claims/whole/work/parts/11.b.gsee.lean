/-! WHAT A RUN SHOWS -/
def tg_tell (s g n o c d p a : Int32) : Int32 := if a = 0 then s else if a = 1 then g else if a = 2 then n else if a = 3 then o else if a = 4 then c else if a = 5 then d else if a = 6 then p else -1
def tg_top (st m p h a : Int32) : Int32 := if st = 1 then (if a = 7 then 8 + m / 12 else if a = 8 then m - m / 12 * 12 else if a = 9 then p else if a = 10 then h else -1) else -1
def tg_out (n : Int32) (f : Nat → Int32) (a : Int32) : Int32 := if a < 0 then 0 else if n ≤ a then 0 else if 1000 ≤ a then 0 else f a.toNatClampNeg
theorem tg_in1000 {a : Int32} (h0 : ¬ a < 0) (h1 : ¬ (1000 : Int32) ≤ a) : vp_in a 1000 := by
  obtain ⟨j, hj, rfl⟩ := nI_of h0
  exact vp_in_nI (Nat.not_le.mp fun q => h1 (show nI 1000 ≤ nI j from nI_le q hj)) (by decide)
theorem lf_tell_108 (v1 v2 v3 v4 v5 v6 v7 a1 : Int32) (hs_1 : a1 = 0) : (v1 : Int32) = tg_tell v1 v2 v3 v4 v5 v6 v7 a1 := by
  first | rfl | (subst_vars; rfl) | (simp_all [tg_tell]; done) | (subst_vars; simp_all [tg_tell]; done) | (unfold tg_tell; (repeat' split) <;> first | rfl | (exfalso; simp_all; done))
theorem lf_tell_109 (v1 v2 v3 v4 v5 v6 v7 a1 : Int32) (hs_1 : ¬ a1 = 0) (hs_2 : a1 = 1) : (v2 : Int32) = tg_tell v1 v2 v3 v4 v5 v6 v7 a1 := by
  first | rfl | (subst_vars; rfl) | (simp_all [tg_tell]; done) | (subst_vars; simp_all [tg_tell]; done) | (unfold tg_tell; (repeat' split) <;> first | rfl | (exfalso; simp_all; done))
theorem lf_tell_110 (v1 v2 v3 v4 v5 v6 v7 a1 : Int32) (hs_1 : ¬ a1 = 0) (hs_2 : ¬ a1 = 1) (hs_3 : a1 = 2) : (v3 : Int32) = tg_tell v1 v2 v3 v4 v5 v6 v7 a1 := by
  first | rfl | (subst_vars; rfl) | (simp_all [tg_tell]; done) | (subst_vars; simp_all [tg_tell]; done) | (unfold tg_tell; (repeat' split) <;> first | rfl | (exfalso; simp_all; done))
theorem lf_tell_111 (v1 v2 v3 v4 v5 v6 v7 a1 : Int32) (hs_1 : ¬ a1 = 0) (hs_2 : ¬ a1 = 1) (hs_3 : ¬ a1 = 2) (hs_4 : a1 = 3) : (v4 : Int32) = tg_tell v1 v2 v3 v4 v5 v6 v7 a1 := by
  first | rfl | (subst_vars; rfl) | (simp_all [tg_tell]; done) | (subst_vars; simp_all [tg_tell]; done) | (unfold tg_tell; (repeat' split) <;> first | rfl | (exfalso; simp_all; done))
theorem lf_tell_112 (v1 v2 v3 v4 v5 v6 v7 a1 : Int32) (hs_1 : ¬ a1 = 0) (hs_2 : ¬ a1 = 1) (hs_3 : ¬ a1 = 2) (hs_4 : ¬ a1 = 3) (hs_5 : a1 = 4) : (v5 : Int32) = tg_tell v1 v2 v3 v4 v5 v6 v7 a1 := by
  first | rfl | (subst_vars; rfl) | (simp_all [tg_tell]; done) | (subst_vars; simp_all [tg_tell]; done) | (unfold tg_tell; (repeat' split) <;> first | rfl | (exfalso; simp_all; done))
theorem lf_tell_113 (v1 v2 v3 v4 v5 v6 v7 a1 : Int32) (hs_1 : ¬ a1 = 0) (hs_2 : ¬ a1 = 1) (hs_3 : ¬ a1 = 2) (hs_4 : ¬ a1 = 3) (hs_5 : ¬ a1 = 4) (hs_6 : a1 = 5) : (v6 : Int32) = tg_tell v1 v2 v3 v4 v5 v6 v7 a1 := by
  first | rfl | (subst_vars; rfl) | (simp_all [tg_tell]; done) | (subst_vars; simp_all [tg_tell]; done) | (unfold tg_tell; (repeat' split) <;> first | rfl | (exfalso; simp_all; done))
theorem lf_tell_114 (v1 v2 v3 v4 v5 v6 v7 a1 : Int32) (hs_1 : ¬ a1 = 0) (hs_2 : ¬ a1 = 1) (hs_3 : ¬ a1 = 2) (hs_4 : ¬ a1 = 3) (hs_5 : ¬ a1 = 4) (hs_6 : ¬ a1 = 5) (hs_7 : a1 = 6) : (v7 : Int32) = tg_tell v1 v2 v3 v4 v5 v6 v7 a1 := by
  first | rfl | (subst_vars; rfl) | (simp_all [tg_tell]; done) | (subst_vars; simp_all [tg_tell]; done) | (unfold tg_tell; (repeat' split) <;> first | rfl | (exfalso; simp_all; done))
theorem lf_tell_115 (v1 v2 v3 v4 v5 v6 v7 a1 : Int32) (hs_1 : ¬ a1 = 0) (hs_2 : ¬ a1 = 1) (hs_3 : ¬ a1 = 2) (hs_4 : ¬ a1 = 3) (hs_5 : ¬ a1 = 4) (hs_6 : ¬ a1 = 5) (hs_7 : ¬ a1 = 6) : ((-1) : Int32) = tg_tell v1 v2 v3 v4 v5 v6 v7 a1 := by
  first | rfl | (subst_vars; rfl) | (simp_all [tg_tell]; done) | (subst_vars; simp_all [tg_tell]; done) | (unfold tg_tell; (repeat' split) <;> first | rfl | (exfalso; simp_all; done))
set_option maxHeartbeats 4000000 in
set_option maxRecDepth 100000 in
/-- kg_tell -/
theorem kg_tell (l : Launch) (dC : Nat → ClassId) (dI : Nat → Nat → Nat) (sz : Nat) (qo9 : Nat) (a1 : Int32) (qo7 : Nat) (v1 : Int32) (v2 : Int32) (v3 : Int32) (v4 : Int32) (v5 : Int32) (v6 : Int32) (v7 : Int32) (qo66 : Nat) (qo67 : Nat) (qo68 : Nat) (qo69 : Nat) (qo70 : Nat) (qo71 : Nat) (qo72 : Nat) (qo73 : Nat) (qo74 : Nat) (tp : Nat) (qo75 : Nat) (v19 : Int32) (v20 : Int32)  : Met l yX5_tell (.code yX5_tell cX5_tell 2 (some .int) :: VS_g2) ({ frames := 0, cells := 0, slots := 0, locals := 0 }) (va_Pc [.ref qo9, .int a1] (fun U => U.heap.size = sz ∧ va_P (dC, dI) vwCl [(qo9, .inr (5, [.ref qo7, .int v1, .int v2, .int v3, .int v4, .int v5, .int v6, .int v7, .ref qo66, .ref qo67, .ref qo68, .ref qo69, .ref qo70, .ref qo71, .ref qo72, .ref qo73, .ref qo74, .int (nI tp), .ref qo75, .int v19, .int v20]))] U.heap ∧ va_K (dC, dI) vwCl [] U ∧ va_D (fun _ => True) [(qo9, .inr (5, [.ref qo7, .int v1, .int v2, .int v3, .int v4, .int v5, .int v6, .int v7, .ref qo66, .ref qo67, .ref qo68, .ref qo69, .ref qo70, .ref qo71, .ref qo72, .ref qo73, .ref qo74, .int (nI tp), .ref qo75, .int v19, .int v20]))])) (va_Qi (fun (r : Int32) (u : Unit) => match u with | () => r = tg_tell v1 v2 v3 v4 v5 v6 v7 a1) (fun (u : Unit) (t : State) => match u with | () => va_P (dC, dI) vwCl [(qo9, .inr (5, [.ref qo7, .int v1, .int v2, .int v3, .int v4, .int v5, .int v6, .int v7, .ref qo66, .ref qo67, .ref qo68, .ref qo69, .ref qo70, .ref qo71, .ref qo72, .ref qo73, .ref qo74, .int (nI tp), .ref qo75, .int v19, .int v20]))] t.heap ∧ va_K (dC, dI) vwCl [] t ∧ va_D (va_A [(qo9, .inr (5, [.ref qo7, .int v1, .int v2, .int v3, .int v4, .int v5, .int v6, .int v7, .ref qo66, .ref qo67, .ref qo68, .ref qo69, .ref qo70, .ref qo71, .ref qo72, .ref qo73, .ref qo74, .int (nI tp), .ref qo75, .int v19, .int v20]))] sz) [(qo9, .inr (5, [.ref qo7, .int v1, .int v2, .int v3, .int v4, .int v5, .int v6, .int v7, .ref qo66, .ref qo67, .ref qo68, .ref qo69, .ref qo70, .ref qo71, .ref qo72, .ref qo73, .ref qo74, .int (nI tp), .ref qo75, .int v19, .int v20]))]) (va_A [(qo9, .inr (5, [.ref qo7, .int v1, .int v2, .int v3, .int v4, .int v5, .int v6, .int v7, .ref qo66, .ref qo67, .ref qo68, .ref qo69, .ref qo70, .ref qo71, .ref qo72, .ref qo73, .ref qo74, .int (nI tp), .ref qo75, .int v19, .int v20]))] sz)) 0 0 (va_A [(qo9, .inr (5, [.ref qo7, .int v1, .int v2, .int v3, .int v4, .int v5, .int v6, .int v7, .ref qo66, .ref qo67, .ref qo68, .ref qo69, .ref qo70, .ref qo71, .ref qo72, .ref qo73, .ref qo74, .int (nI tp), .ref qo75, .int v19, .int v20]))] sz) := by
  refine Met.ofW (cc := cX5_tell) (maxL := 2) (ret := (some .int)) (by decide) rfl ?_
  intro p e s m args below meth c s₁ B hml hv
  obtain ⟨rfl, hsz, hP, hK, hD0⟩ := hv
  have hx := B.exec
  have hb := B.bytes
  have hr := B.returns
  have hts := atoms_spec (ws := (.code yX5_tell cX5_tell 2 (some .int) :: VS_g2)) B.pre
  replace hts := fun w (h : w ∈ VS_g2) => hts w (List.mem_cons_of_mem _ h)
  have hown : s.vm.findClass RX5 = some m.cls := findClass_of_methodNamed B.named
  have hlocks := B.notSynchronized
  subst hsz
  have hD := hD0.self (sz := s.heap.size)
  generalize hAe : va_A [(qo9, .inr (5, [.ref qo7, .int v1, .int v2, .int v3, .int v4, .int v5, .int v6, .int v7, .ref qo66, .ref qo67, .ref qo68, .ref qo69, .ref qo70, .ref qo71, .ref qo72, .ref qo73, .ref qo74, .int (nI tp), .ref qo75, .int v19, .int v20]))] s.heap.size = A at hD  ⊢
  have hA : ∀ q : Nat, s.heap.size ≤ q → A q := fun q h => by rw [← hAe]; exact Or.inr h
  have hP : va_P (dC, dI) vwCl [(qo9, .inr (5, [.ref qo7, .int v1, .int v2, .int v3, .int v4, .int v5, .int v6, .int v7, .ref qo66, .ref qo67, .ref qo68, .ref qo69, .ref qo70, .ref qo71, .ref qo72, .ref qo73, .ref qo74, .int (nI tp), .ref qo75, .int v19, .int v20]))] s.heap := hP
  have hl := lv_entry ([.ref qo9, .int a1]) (n := 2) (Nat.le_of_ble_eq_true rfl)
  rw [lg_entry_eq]
  generalize (lg_sl ([.ref qo9, .int a1]) ++ List.replicate (2 - (lg_sl ([.ref qo9, .int a1])).length) Slot.unset).toArray = ls at hl ⊢
  have hl : lv_has ls 2 [(0, .ref qo9), (1, .int a1)] := hl
  obtain ⟨H, hH⟩ : ∃ H : Heap, s.heap = H := ⟨_, rfl⟩
  rw [hH] at hP ⊢
  have hS : va_S A s.heap H [] := by rw [← hH]; exact va_S.rf
  obtain ⟨locs, hlo⟩ : ∃ locs : List Loc, locs = [] := ⟨_, rfl⟩
  rw [← hlo] at hS ⊢
  refine lv_iload_n hx hb dX5_tell_0 rfl (lv_at hl 1 rfl) ?_
  by_cases hs_1 : a1 = 0
  · refine lv_tableIn (tgt := 44) hx hb dX5_tell_1 (by rw [hs_1]; decide) (by rw [hs_1]; decide) (off := 43) (by rw [hs_1]; rfl) (by decide) ?_
    refine lv_aload_n hx hb dX5_tell_44 rfl (lv_at hl 0 rfl) ?_
    refine va_get (D := (dC, dI)) (ci := 5) (v := .int v1) (C := RX5) (T := TX5) (N := 21) hx hb hts uV_g2_X5 hown hK hP 0 rfl rfl 1 (by decide) (hts (.fieldLink RX5 54 "ClassMill$Machine" "state" "I") mw_g2_0) (fun _ h9 => h9) rfl dX5_tell_45 ?_
    have hP9 := hP.sub (ws' := [(qo9, .inr (5, [.ref qo7, .int v1, .int v2, .int v3, .int v4, .int v5, .int v6, .int v7, .ref qo66, .ref qo67, .ref qo68, .ref qo69, .ref qo70, .ref qo71, .ref qo72, .ref qo73, .ref qo74, .int (nI tp), .ref qo75, .int v19, .int v20]))]) [0] rfl
    have hD9 := hD.sub (ws' := [(qo9, .inr (5, [.ref qo7, .int v1, .int v2, .int v3, .int v4, .int v5, .int v6, .int v7, .ref qo66, .ref qo67, .ref qo68, .ref qo69, .ref qo70, .ref qo71, .ref qo72, .ref qo73, .ref qo74, .int (nI tp), .ref qo75, .int v19, .int v20]))]) [0] (by decide) rfl
    have hK9 := hK.sub (tys' := []) [] rfl
    exact W.iret hx hb hr (fun t ht hW => ⟨⟨(v1), (), rfl, lf_tell_108 v1 v2 v3 v4 v5 v6 v7 a1 hs_1, by rw [ht]; exact hP9, va_K.moved hW.alike hK9, hD9⟩, hS.F ht⟩) hS.2.2 dX5_tell_48
  by_cases hs_2 : a1 = 1
  · refine lv_tableIn (tgt := 49) hx hb dX5_tell_1 (by rw [hs_2]; decide) (by rw [hs_2]; decide) (off := 48) (by rw [hs_2]; rfl) (by decide) ?_
    refine lv_aload_n hx hb dX5_tell_49 rfl (lv_at hl 0 rfl) ?_
    refine va_get (D := (dC, dI)) (ci := 5) (v := .int v2) (C := RX5) (T := TX5) (N := 21) hx hb hts uV_g2_X5 hown hK hP 0 rfl rfl 2 (by decide) (hts (.fieldLink RX5 50 "ClassMill$Machine" "gave" "I") mw_g2_1) (fun _ h9 => h9) rfl dX5_tell_50 ?_
    have hP9 := hP.sub (ws' := [(qo9, .inr (5, [.ref qo7, .int v1, .int v2, .int v3, .int v4, .int v5, .int v6, .int v7, .ref qo66, .ref qo67, .ref qo68, .ref qo69, .ref qo70, .ref qo71, .ref qo72, .ref qo73, .ref qo74, .int (nI tp), .ref qo75, .int v19, .int v20]))]) [0] rfl
    have hD9 := hD.sub (ws' := [(qo9, .inr (5, [.ref qo7, .int v1, .int v2, .int v3, .int v4, .int v5, .int v6, .int v7, .ref qo66, .ref qo67, .ref qo68, .ref qo69, .ref qo70, .ref qo71, .ref qo72, .ref qo73, .ref qo74, .int (nI tp), .ref qo75, .int v19, .int v20]))]) [0] (by decide) rfl
    have hK9 := hK.sub (tys' := []) [] rfl
    exact W.iret hx hb hr (fun t ht hW => ⟨⟨(v2), (), rfl, lf_tell_109 v1 v2 v3 v4 v5 v6 v7 a1 hs_1 hs_2, by rw [ht]; exact hP9, va_K.moved hW.alike hK9, hD9⟩, hS.F ht⟩) hS.2.2 dX5_tell_53
  by_cases hs_3 : a1 = 2
  · refine lv_tableIn (tgt := 54) hx hb dX5_tell_1 (by rw [hs_3]; decide) (by rw [hs_3]; decide) (off := 53) (by rw [hs_3]; rfl) (by decide) ?_
    refine lv_aload_n hx hb dX5_tell_54 rfl (lv_at hl 0 rfl) ?_
    refine va_get (D := (dC, dI)) (ci := 5) (v := .int v3) (C := RX5) (T := TX5) (N := 21) hx hb hts uV_g2_X5 hown hK hP 0 rfl rfl 3 (by decide) (hts (.fieldLink RX5 57 "ClassMill$Machine" "steps" "I") mw_g2_2) (fun _ h9 => h9) rfl dX5_tell_55 ?_
    have hP9 := hP.sub (ws' := [(qo9, .inr (5, [.ref qo7, .int v1, .int v2, .int v3, .int v4, .int v5, .int v6, .int v7, .ref qo66, .ref qo67, .ref qo68, .ref qo69, .ref qo70, .ref qo71, .ref qo72, .ref qo73, .ref qo74, .int (nI tp), .ref qo75, .int v19, .int v20]))]) [0] rfl
    have hD9 := hD.sub (ws' := [(qo9, .inr (5, [.ref qo7, .int v1, .int v2, .int v3, .int v4, .int v5, .int v6, .int v7, .ref qo66, .ref qo67, .ref qo68, .ref qo69, .ref qo70, .ref qo71, .ref qo72, .ref qo73, .ref qo74, .int (nI tp), .ref qo75, .int v19, .int v20]))]) [0] (by decide) rfl
    have hK9 := hK.sub (tys' := []) [] rfl
    exact W.iret hx hb hr (fun t ht hW => ⟨⟨(v3), (), rfl, lf_tell_110 v1 v2 v3 v4 v5 v6 v7 a1 hs_1 hs_2 hs_3, by rw [ht]; exact hP9, va_K.moved hW.alike hK9, hD9⟩, hS.F ht⟩) hS.2.2 dX5_tell_58
  by_cases hs_4 : a1 = 3
  · refine lv_tableIn (tgt := 59) hx hb dX5_tell_1 (by rw [hs_4]; decide) (by rw [hs_4]; decide) (off := 58) (by rw [hs_4]; rfl) (by decide) ?_
    refine lv_aload_n hx hb dX5_tell_59 rfl (lv_at hl 0 rfl) ?_
    refine va_get (D := (dC, dI)) (ci := 5) (v := .int v4) (C := RX5) (T := TX5) (N := 21) hx hb hts uV_g2_X5 hown hK hP 0 rfl rfl 4 (by decide) (hts (.fieldLink RX5 60 "ClassMill$Machine" "objects" "I") mw_g2_3) (fun _ h9 => h9) rfl dX5_tell_60 ?_
    have hP9 := hP.sub (ws' := [(qo9, .inr (5, [.ref qo7, .int v1, .int v2, .int v3, .int v4, .int v5, .int v6, .int v7, .ref qo66, .ref qo67, .ref qo68, .ref qo69, .ref qo70, .ref qo71, .ref qo72, .ref qo73, .ref qo74, .int (nI tp), .ref qo75, .int v19, .int v20]))]) [0] rfl
    have hD9 := hD.sub (ws' := [(qo9, .inr (5, [.ref qo7, .int v1, .int v2, .int v3, .int v4, .int v5, .int v6, .int v7, .ref qo66, .ref qo67, .ref qo68, .ref qo69, .ref qo70, .ref qo71, .ref qo72, .ref qo73, .ref qo74, .int (nI tp), .ref qo75, .int v19, .int v20]))]) [0] (by decide) rfl
    have hK9 := hK.sub (tys' := []) [] rfl
    exact W.iret hx hb hr (fun t ht hW => ⟨⟨(v4), (), rfl, lf_tell_111 v1 v2 v3 v4 v5 v6 v7 a1 hs_1 hs_2 hs_3 hs_4, by rw [ht]; exact hP9, va_K.moved hW.alike hK9, hD9⟩, hS.F ht⟩) hS.2.2 dX5_tell_63
  by_cases hs_5 : a1 = 4
  · refine lv_tableIn (tgt := 64) hx hb dX5_tell_1 (by rw [hs_5]; decide) (by rw [hs_5]; decide) (off := 63) (by rw [hs_5]; rfl) (by decide) ?_
    refine lv_aload_n hx hb dX5_tell_64 rfl (lv_at hl 0 rfl) ?_
    refine va_get (D := (dC, dI)) (ci := 5) (v := .int v5) (C := RX5) (T := TX5) (N := 21) hx hb hts uV_g2_X5 hown hK hP 0 rfl rfl 5 (by decide) (hts (.fieldLink RX5 63 "ClassMill$Machine" "cells" "I") mw_g2_4) (fun _ h9 => h9) rfl dX5_tell_65 ?_
    have hP9 := hP.sub (ws' := [(qo9, .inr (5, [.ref qo7, .int v1, .int v2, .int v3, .int v4, .int v5, .int v6, .int v7, .ref qo66, .ref qo67, .ref qo68, .ref qo69, .ref qo70, .ref qo71, .ref qo72, .ref qo73, .ref qo74, .int (nI tp), .ref qo75, .int v19, .int v20]))]) [0] rfl
    have hD9 := hD.sub (ws' := [(qo9, .inr (5, [.ref qo7, .int v1, .int v2, .int v3, .int v4, .int v5, .int v6, .int v7, .ref qo66, .ref qo67, .ref qo68, .ref qo69, .ref qo70, .ref qo71, .ref qo72, .ref qo73, .ref qo74, .int (nI tp), .ref qo75, .int v19, .int v20]))]) [0] (by decide) rfl
    have hK9 := hK.sub (tys' := []) [] rfl
    exact W.iret hx hb hr (fun t ht hW => ⟨⟨(v5), (), rfl, lf_tell_112 v1 v2 v3 v4 v5 v6 v7 a1 hs_1 hs_2 hs_3 hs_4 hs_5, by rw [ht]; exact hP9, va_K.moved hW.alike hK9, hD9⟩, hS.F ht⟩) hS.2.2 dX5_tell_68
  by_cases hs_6 : a1 = 5
  · refine lv_tableIn (tgt := 69) hx hb dX5_tell_1 (by rw [hs_6]; decide) (by rw [hs_6]; decide) (off := 68) (by rw [hs_6]; rfl) (by decide) ?_
    refine lv_aload_n hx hb dX5_tell_69 rfl (lv_at hl 0 rfl) ?_
    refine va_get (D := (dC, dI)) (ci := 5) (v := .int v6) (C := RX5) (T := TX5) (N := 21) hx hb hts uV_g2_X5 hown hK hP 0 rfl rfl 6 (by decide) (hts (.fieldLink RX5 66 "ClassMill$Machine" "depth" "I") mw_g2_5) (fun _ h9 => h9) rfl dX5_tell_70 ?_
    have hP9 := hP.sub (ws' := [(qo9, .inr (5, [.ref qo7, .int v1, .int v2, .int v3, .int v4, .int v5, .int v6, .int v7, .ref qo66, .ref qo67, .ref qo68, .ref qo69, .ref qo70, .ref qo71, .ref qo72, .ref qo73, .ref qo74, .int (nI tp), .ref qo75, .int v19, .int v20]))]) [0] rfl
    have hD9 := hD.sub (ws' := [(qo9, .inr (5, [.ref qo7, .int v1, .int v2, .int v3, .int v4, .int v5, .int v6, .int v7, .ref qo66, .ref qo67, .ref qo68, .ref qo69, .ref qo70, .ref qo71, .ref qo72, .ref qo73, .ref qo74, .int (nI tp), .ref qo75, .int v19, .int v20]))]) [0] (by decide) rfl
    have hK9 := hK.sub (tys' := []) [] rfl
    exact W.iret hx hb hr (fun t ht hW => ⟨⟨(v6), (), rfl, lf_tell_113 v1 v2 v3 v4 v5 v6 v7 a1 hs_1 hs_2 hs_3 hs_4 hs_5 hs_6, by rw [ht]; exact hP9, va_K.moved hW.alike hK9, hD9⟩, hS.F ht⟩) hS.2.2 dX5_tell_73
  by_cases hs_7 : a1 = 6
  · refine lv_tableIn (tgt := 74) hx hb dX5_tell_1 (by rw [hs_7]; decide) (by rw [hs_7]; decide) (off := 73) (by rw [hs_7]; rfl) (by decide) ?_
    refine lv_aload_n hx hb dX5_tell_74 rfl (lv_at hl 0 rfl) ?_
    refine va_get (D := (dC, dI)) (ci := 5) (v := .int v7) (C := RX5) (T := TX5) (N := 21) hx hb hts uV_g2_X5 hown hK hP 0 rfl rfl 7 (by decide) (hts (.fieldLink RX5 69 "ClassMill$Machine" "prints" "I") mw_g2_6) (fun _ h9 => h9) rfl dX5_tell_75 ?_
    have hP9 := hP.sub (ws' := [(qo9, .inr (5, [.ref qo7, .int v1, .int v2, .int v3, .int v4, .int v5, .int v6, .int v7, .ref qo66, .ref qo67, .ref qo68, .ref qo69, .ref qo70, .ref qo71, .ref qo72, .ref qo73, .ref qo74, .int (nI tp), .ref qo75, .int v19, .int v20]))]) [0] rfl
    have hD9 := hD.sub (ws' := [(qo9, .inr (5, [.ref qo7, .int v1, .int v2, .int v3, .int v4, .int v5, .int v6, .int v7, .ref qo66, .ref qo67, .ref qo68, .ref qo69, .ref qo70, .ref qo71, .ref qo72, .ref qo73, .ref qo74, .int (nI tp), .ref qo75, .int v19, .int v20]))]) [0] (by decide) rfl
    have hK9 := hK.sub (tys' := []) [] rfl
    exact W.iret hx hb hr (fun t ht hW => ⟨⟨(v7), (), rfl, lf_tell_114 v1 v2 v3 v4 v5 v6 v7 a1 hs_1 hs_2 hs_3 hs_4 hs_5 hs_6 hs_7, by rw [ht]; exact hP9, va_K.moved hW.alike hK9, hD9⟩, hS.F ht⟩) hS.2.2 dX5_tell_78
  refine lv_tableOut (tgt := 79) hx hb dX5_tell_1 (by have a0 := lv_neT hs_1 (a := 0) rfl; have a1 := lv_neT hs_2 (a := 1) rfl; have a2 := lv_neT hs_3 (a := 2) rfl; have a3 := lv_neT hs_4 (a := 3) rfl; have a4 := lv_neT hs_5 (a := 4) rfl; have a5 := lv_neT hs_6 (a := 5) rfl; have a6 := lv_neT hs_7 (a := 6) rfl; omega) (by decide) ?_
  refine lv_iconst (v := (-1)) hx hb dX5_tell_79 (by decide) ?_
  have hP9 := hP.sub (ws' := [(qo9, .inr (5, [.ref qo7, .int v1, .int v2, .int v3, .int v4, .int v5, .int v6, .int v7, .ref qo66, .ref qo67, .ref qo68, .ref qo69, .ref qo70, .ref qo71, .ref qo72, .ref qo73, .ref qo74, .int (nI tp), .ref qo75, .int v19, .int v20]))]) [0] rfl
  have hD9 := hD.sub (ws' := [(qo9, .inr (5, [.ref qo7, .int v1, .int v2, .int v3, .int v4, .int v5, .int v6, .int v7, .ref qo66, .ref qo67, .ref qo68, .ref qo69, .ref qo70, .ref qo71, .ref qo72, .ref qo73, .ref qo74, .int (nI tp), .ref qo75, .int v19, .int v20]))]) [0] (by decide) rfl
  have hK9 := hK.sub (tys' := []) [] rfl
  exact W.iret hx hb hr (fun t ht hW => ⟨⟨((-1)), (), rfl, lf_tell_115 v1 v2 v3 v4 v5 v6 v7 a1 hs_1 hs_2 hs_3 hs_4 hs_5 hs_6 hs_7, by rw [ht]; exact hP9, va_K.moved hW.alike hK9, hD9⟩, hS.F ht⟩) hS.2.2 dX5_tell_80
theorem lf_top_116 (v1 m p h a1 : Int32) (c_1 : v1 = 1) (hs_2 : a1 = 7) : ((8 + m / 12) : Int32) = tg_top v1 m p h a1 := by
  unfold tg_top
  rw [if_pos c_1, if_pos hs_2]
theorem lf_top_117 (v1 m p h a1 : Int32) (c_1 : v1 = 1) (hs_2 : ¬ a1 = 7) (hs_6 : a1 = 8) : ((m - m / 12 * 12) : Int32) = tg_top v1 m p h a1 := by
  unfold tg_top
  rw [if_pos c_1, if_neg hs_2, if_pos hs_6]
theorem lf_top_118 (v1 m p h a1 : Int32) (c_1 : v1 = 1) (hs_2 : ¬ a1 = 7) (hs_6 : ¬ a1 = 8) (hs_9 : a1 = 9) : (p : Int32) = tg_top v1 m p h a1 := by
  unfold tg_top
  rw [if_pos c_1, if_neg hs_2, if_neg hs_6, if_pos hs_9]
theorem lf_top_119 (v1 m p h a1 : Int32) (c_1 : v1 = 1) (hs_2 : ¬ a1 = 7) (hs_6 : ¬ a1 = 8) (hs_9 : ¬ a1 = 9) (hs_11 : a1 = 10) : (h : Int32) = tg_top v1 m p h a1 := by
  unfold tg_top
  rw [if_pos c_1, if_neg hs_2, if_neg hs_6, if_neg hs_9, if_pos hs_11]
theorem lf_top_120 (v1 m p h a1 : Int32) (c_1 : v1 = 1) (hs_2 : ¬ a1 = 7) (hs_6 : ¬ a1 = 8) (hs_9 : ¬ a1 = 9) (hs_11 : ¬ a1 = 10) : ((-1) : Int32) = tg_top v1 m p h a1 := by
  unfold tg_top
  rw [if_pos c_1, if_neg hs_2, if_neg hs_6, if_neg hs_9, if_neg hs_11]
theorem lf_top_121 (v1 m p h a1 : Int32) (c_1 : ¬ v1 = 1) : ((-1) : Int32) = tg_top v1 m p h a1 := by
  unfold tg_top
  rw [if_neg c_1]
set_option maxHeartbeats 4000000 in
set_option maxRecDepth 100000 in
/-- kg_tellTop -/
theorem kg_tellTop (l : Launch) (dC : Nat → ClassId) (dI : Nat → Nat → Nat) (sz : Nat) (qo9 : Nat) (a1 : Int32) (qo7 : Nat) (v1 : Int32) (v2 : Int32) (v3 : Int32) (v4 : Int32) (v5 : Int32) (v6 : Int32) (v7 : Int32) (qo66 : Nat) (qo67 : Nat) (qo68 : Nat) (qo69 : Nat) (qo70 : Nat) (qo71 : Nat) (qo72 : Nat) (qo73 : Nat) (qo74 : Nat) (tp : Nat) (qo75 : Nat) (v19 : Int32) (v20 : Int32) (cz1 : ClassId) (fm : (Nat → Int32)) (cz2 : ClassId) (fp : (Nat → Int32)) (cz3 : ClassId) (fh : (Nat → Int32)) (htp : tp < 60) : Met l yX5_tellTop (.code yX5_tellTop cX5_tellTop 2 (some .int) :: VS_g2) ({ frames := 0, cells := 0, slots := 0, locals := 0 }) (va_Pc [.ref qo9, .int a1] (fun U => U.heap.size = sz ∧ va_P (dC, dI) vwCl [(qo9, .inr (5, [.ref qo7, .int v1, .int v2, .int v3, .int v4, .int v5, .int v6, .int v7, .ref qo66, .ref qo67, .ref qo68, .ref qo69, .ref qo70, .ref qo71, .ref qo72, .ref qo73, .ref qo74, .int (nI tp), .ref qo75, .int v19, .int v20])), (qo70, .inl (cz1, 60, .inl fm)), (qo71, .inl (cz2, 60, .inl fp)), (qo72, .inl (cz3, 60, .inl fh))] U.heap ∧ va_K (dC, dI) vwCl [(cz1, .int), (cz2, .int), (cz3, .int)] U ∧ va_D (fun _ => True) [(qo9, .inr (5, [.ref qo7, .int v1, .int v2, .int v3, .int v4, .int v5, .int v6, .int v7, .ref qo66, .ref qo67, .ref qo68, .ref qo69, .ref qo70, .ref qo71, .ref qo72, .ref qo73, .ref qo74, .int (nI tp), .ref qo75, .int v19, .int v20])), (qo70, .inl (cz1, 60, .inl fm)), (qo71, .inl (cz2, 60, .inl fp)), (qo72, .inl (cz3, 60, .inl fh))])) (va_Qi (fun (r : Int32) (u : Unit) => match u with | () => r = tg_top v1 (fm tp) (fp tp) (fh tp) a1) (fun (u : Unit) (t : State) => match u with | () => va_P (dC, dI) vwCl [(qo9, .inr (5, [.ref qo7, .int v1, .int v2, .int v3, .int v4, .int v5, .int v6, .int v7, .ref qo66, .ref qo67, .ref qo68, .ref qo69, .ref qo70, .ref qo71, .ref qo72, .ref qo73, .ref qo74, .int (nI tp), .ref qo75, .int v19, .int v20])), (qo70, .inl (cz1, 60, .inl fm)), (qo71, .inl (cz2, 60, .inl fp)), (qo72, .inl (cz3, 60, .inl fh))] t.heap ∧ va_K (dC, dI) vwCl [(cz1, .int), (cz2, .int), (cz3, .int)] t ∧ va_D (va_A [(qo9, .inr (5, [.ref qo7, .int v1, .int v2, .int v3, .int v4, .int v5, .int v6, .int v7, .ref qo66, .ref qo67, .ref qo68, .ref qo69, .ref qo70, .ref qo71, .ref qo72, .ref qo73, .ref qo74, .int (nI tp), .ref qo75, .int v19, .int v20])), (qo70, .inl (cz1, 60, .inl fm)), (qo71, .inl (cz2, 60, .inl fp)), (qo72, .inl (cz3, 60, .inl fh))] sz) [(qo9, .inr (5, [.ref qo7, .int v1, .int v2, .int v3, .int v4, .int v5, .int v6, .int v7, .ref qo66, .ref qo67, .ref qo68, .ref qo69, .ref qo70, .ref qo71, .ref qo72, .ref qo73, .ref qo74, .int (nI tp), .ref qo75, .int v19, .int v20])), (qo70, .inl (cz1, 60, .inl fm)), (qo71, .inl (cz2, 60, .inl fp)), (qo72, .inl (cz3, 60, .inl fh))]) (va_A [(qo9, .inr (5, [.ref qo7, .int v1, .int v2, .int v3, .int v4, .int v5, .int v6, .int v7, .ref qo66, .ref qo67, .ref qo68, .ref qo69, .ref qo70, .ref qo71, .ref qo72, .ref qo73, .ref qo74, .int (nI tp), .ref qo75, .int v19, .int v20])), (qo70, .inl (cz1, 60, .inl fm)), (qo71, .inl (cz2, 60, .inl fp)), (qo72, .inl (cz3, 60, .inl fh))] sz)) 0 0 (va_A [(qo9, .inr (5, [.ref qo7, .int v1, .int v2, .int v3, .int v4, .int v5, .int v6, .int v7, .ref qo66, .ref qo67, .ref qo68, .ref qo69, .ref qo70, .ref qo71, .ref qo72, .ref qo73, .ref qo74, .int (nI tp), .ref qo75, .int v19, .int v20])), (qo70, .inl (cz1, 60, .inl fm)), (qo71, .inl (cz2, 60, .inl fp)), (qo72, .inl (cz3, 60, .inl fh))] sz) := by
  refine Met.ofW (cc := cX5_tellTop) (maxL := 2) (ret := (some .int)) (by decide) rfl ?_
  intro p e s m args below meth c s₁ B hml hv
  obtain ⟨rfl, hsz, hP, hK, hD0⟩ := hv
  have hx := B.exec
  have hb := B.bytes
  have hr := B.returns
  have hts := atoms_spec (ws := (.code yX5_tellTop cX5_tellTop 2 (some .int) :: VS_g2)) B.pre
  replace hts := fun w (h : w ∈ VS_g2) => hts w (List.mem_cons_of_mem _ h)
  have hown : s.vm.findClass RX5 = some m.cls := findClass_of_methodNamed B.named
  have hlocks := B.notSynchronized
  subst hsz
  have hD := hD0.self (sz := s.heap.size)
  generalize hAe : va_A [(qo9, .inr (5, [.ref qo7, .int v1, .int v2, .int v3, .int v4, .int v5, .int v6, .int v7, .ref qo66, .ref qo67, .ref qo68, .ref qo69, .ref qo70, .ref qo71, .ref qo72, .ref qo73, .ref qo74, .int (nI tp), .ref qo75, .int v19, .int v20])), (qo70, .inl (cz1, 60, .inl fm)), (qo71, .inl (cz2, 60, .inl fp)), (qo72, .inl (cz3, 60, .inl fh))] s.heap.size = A at hD  ⊢
  have hA : ∀ q : Nat, s.heap.size ≤ q → A q := fun q h => by rw [← hAe]; exact Or.inr h
  have hP : va_P (dC, dI) vwCl [(qo9, .inr (5, [.ref qo7, .int v1, .int v2, .int v3, .int v4, .int v5, .int v6, .int v7, .ref qo66, .ref qo67, .ref qo68, .ref qo69, .ref qo70, .ref qo71, .ref qo72, .ref qo73, .ref qo74, .int (nI tp), .ref qo75, .int v19, .int v20])), (qo70, .inl (cz1, 60, .inl fm)), (qo71, .inl (cz2, 60, .inl fp)), (qo72, .inl (cz3, 60, .inl fh))] s.heap := hP
  have hl := lv_entry ([.ref qo9, .int a1]) (n := 2) (Nat.le_of_ble_eq_true rfl)
  rw [lg_entry_eq]
  generalize (lg_sl ([.ref qo9, .int a1]) ++ List.replicate (2 - (lg_sl ([.ref qo9, .int a1])).length) Slot.unset).toArray = ls at hl ⊢
  have hl : lv_has ls 2 [(0, .ref qo9), (1, .int a1)] := hl
  obtain ⟨H, hH⟩ : ∃ H : Heap, s.heap = H := ⟨_, rfl⟩
  rw [hH] at hP ⊢
  have hS : va_S A s.heap H [] := by rw [← hH]; exact va_S.rf
  obtain ⟨locs, hlo⟩ : ∃ locs : List Loc, locs = [] := ⟨_, rfl⟩
  rw [← hlo] at hS ⊢
  refine lv_aload_n hx hb dX5_tellTop_0 rfl (lv_at hl 0 rfl) ?_
  refine va_get (D := (dC, dI)) (ci := 5) (v := .int v1) (C := RX5) (T := TX5) (N := 21) hx hb hts uV_g2_X5 hown hK hP 0 rfl rfl 1 (by decide) (hts (.fieldLink RX5 54 "ClassMill$Machine" "state" "I") mw_g2_0) (fun _ h9 => h9) rfl dX5_tellTop_1 ?_
  refine lv_iconst (v := 1) hx hb dX5_tellTop_4 (by decide) ?_
  refine lv_icmp_eq (tgt := 10) hx hb dX5_tellTop_5 (by decide) (fun c_1 => ?_) (fun c_1 => ?_)
  · have c_1_ := c_1
    refine lv_iload_n hx hb dX5_tellTop_10 rfl (lv_at hl 1 rfl) ?_
    by_cases hs_2 : a1 = 7
    · refine lv_tableIn (tgt := 40) hx hb dX5_tellTop_11 (by rw [hs_2]; decide) (by rw [hs_2]; decide) (off := 29) (by rw [hs_2]; rfl) (by decide) ?_
      refine lv_bipush (v := 8) hx hb dX5_tellTop_40 (by decide) ?_
      refine lv_aload_n hx hb dX5_tellTop_42 rfl (lv_at hl 0 rfl) ?_
      refine va_get (D := (dC, dI)) (ci := 5) (v := .ref qo70) (C := RX5) (T := TX5) (N := 21) hx hb hts uV_g2_X5 hown hK hP 0 rfl rfl 12 (by decide) (hts (.fieldLink RX5 26 "ClassMill$Machine" "methods" "[I") mw_g2_7) (fun _ h9 => h9) rfl dX5_tellTop_43 ?_
      refine lv_aload_n hx hb dX5_tellTop_46 rfl (lv_at hl 0 rfl) ?_
      refine va_get (D := (dC, dI)) (ci := 5) (v := .int (nI tp)) (C := RX5) (T := TX5) (N := 21) hx hb hts uV_g2_X5 hown hK hP 0 rfl rfl 17 (by decide) (hts (.fieldLink RX5 97 "ClassMill$Machine" "top" "I") mw_g2_8) (fun _ h9 => h9) rfl dX5_tellTop_47 ?_
      refine va_iald hx hb hK hP 1 0 rfl rfl (i := (nI tp)) (vp_in_nI (by omega) (by decide)) dX5_tellTop_50 ?_
      refine lv_topi (fun y_3 ey_3 => ?_)
      refine lv_bipush (v := 12) hx hb dX5_tellTop_51 (by decide) ?_
      refine lv_idiv hx hb dX5_tellTop_53 (by decide) ?_
      refine lv_topi (fun y_4 ey_4 => ?_)
      refine lv_iadd hx hb dX5_tellTop_54 ?_
      refine lv_topi (fun y_5 ey_5 => ?_)
      have hP9 := hP.sub (ws' := [(qo9, .inr (5, [.ref qo7, .int v1, .int v2, .int v3, .int v4, .int v5, .int v6, .int v7, .ref qo66, .ref qo67, .ref qo68, .ref qo69, .ref qo70, .ref qo71, .ref qo72, .ref qo73, .ref qo74, .int (nI tp), .ref qo75, .int v19, .int v20])), (qo70, .inl (cz1, 60, .inl fm)), (qo71, .inl (cz2, 60, .inl fp)), (qo72, .inl (cz3, 60, .inl fh))]) [0, 1, 2, 3] rfl
      have hD9 := hD.sub (ws' := [(qo9, .inr (5, [.ref qo7, .int v1, .int v2, .int v3, .int v4, .int v5, .int v6, .int v7, .ref qo66, .ref qo67, .ref qo68, .ref qo69, .ref qo70, .ref qo71, .ref qo72, .ref qo73, .ref qo74, .int (nI tp), .ref qo75, .int v19, .int v20])), (qo70, .inl (cz1, 60, .inl fm)), (qo71, .inl (cz2, 60, .inl fp)), (qo72, .inl (cz3, 60, .inl fh))]) [0, 1, 2, 3] (by decide) rfl
      have hK9 := hK.sub (tys' := [(cz1, .int), (cz2, .int), (cz3, .int)]) [0, 1, 2] rfl
      exact W.iret hx hb hr (fun t ht hW => ⟨⟨(y_5), (), rfl, by rw [ey_5, ey_4, ey_3, nI_clamp (show tp < 2 ^ 31 by omega)]; exact lf_top_116 v1 (fm tp) (fp tp) (fh tp) a1 c_1 hs_2, by rw [ht]; exact hP9, va_K.moved hW.alike hK9, hD9⟩, hS.F ht⟩) hS.2.2 dX5_tellTop_55
    by_cases hs_6 : a1 = 8
    · refine lv_tableIn (tgt := 56) hx hb dX5_tellTop_11 (by rw [hs_6]; decide) (by rw [hs_6]; decide) (off := 45) (by rw [hs_6]; rfl) (by decide) ?_
      refine lv_aload_n hx hb dX5_tellTop_56 rfl (lv_at hl 0 rfl) ?_
      refine va_get (D := (dC, dI)) (ci := 5) (v := .ref qo70) (C := RX5) (T := TX5) (N := 21) hx hb hts uV_g2_X5 hown hK hP 0 rfl rfl 12 (by decide) (hts (.fieldLink RX5 26 "ClassMill$Machine" "methods" "[I") mw_g2_7) (fun _ h9 => h9) rfl dX5_tellTop_57 ?_
      refine lv_aload_n hx hb dX5_tellTop_60 rfl (lv_at hl 0 rfl) ?_
      refine va_get (D := (dC, dI)) (ci := 5) (v := .int (nI tp)) (C := RX5) (T := TX5) (N := 21) hx hb hts uV_g2_X5 hown hK hP 0 rfl rfl 17 (by decide) (hts (.fieldLink RX5 97 "ClassMill$Machine" "top" "I") mw_g2_8) (fun _ h9 => h9) rfl dX5_tellTop_61 ?_
      refine va_iald hx hb hK hP 1 0 rfl rfl (i := (nI tp)) (vp_in_nI (by omega) (by decide)) dX5_tellTop_64 ?_
      refine lv_topi (fun y_7 ey_7 => ?_)
      refine lv_bipush (v := 12) hx hb dX5_tellTop_65 (by decide) ?_
      refine lv_irem hx hb dX5_tellTop_67 (by decide) ?_
      refine lv_topi (fun y_8 ey_8 => ?_)
      have hP9 := hP.sub (ws' := [(qo9, .inr (5, [.ref qo7, .int v1, .int v2, .int v3, .int v4, .int v5, .int v6, .int v7, .ref qo66, .ref qo67, .ref qo68, .ref qo69, .ref qo70, .ref qo71, .ref qo72, .ref qo73, .ref qo74, .int (nI tp), .ref qo75, .int v19, .int v20])), (qo70, .inl (cz1, 60, .inl fm)), (qo71, .inl (cz2, 60, .inl fp)), (qo72, .inl (cz3, 60, .inl fh))]) [0, 1, 2, 3] rfl
      have hD9 := hD.sub (ws' := [(qo9, .inr (5, [.ref qo7, .int v1, .int v2, .int v3, .int v4, .int v5, .int v6, .int v7, .ref qo66, .ref qo67, .ref qo68, .ref qo69, .ref qo70, .ref qo71, .ref qo72, .ref qo73, .ref qo74, .int (nI tp), .ref qo75, .int v19, .int v20])), (qo70, .inl (cz1, 60, .inl fm)), (qo71, .inl (cz2, 60, .inl fp)), (qo72, .inl (cz3, 60, .inl fh))]) [0, 1, 2, 3] (by decide) rfl
      have hK9 := hK.sub (tys' := [(cz1, .int), (cz2, .int), (cz3, .int)]) [0, 1, 2] rfl
      exact W.iret hx hb hr (fun t ht hW => ⟨⟨(y_8), (), rfl, by rw [ey_8, ey_7, nI_clamp (show tp < 2 ^ 31 by omega)]; exact lf_top_117 v1 (fm tp) (fp tp) (fh tp) a1 c_1 hs_2 hs_6, by rw [ht]; exact hP9, va_K.moved hW.alike hK9, hD9⟩, hS.F ht⟩) hS.2.2 dX5_tellTop_68
    by_cases hs_9 : a1 = 9
    · refine lv_tableIn (tgt := 69) hx hb dX5_tellTop_11 (by rw [hs_9]; decide) (by rw [hs_9]; decide) (off := 58) (by rw [hs_9]; rfl) (by decide) ?_
      refine lv_aload_n hx hb dX5_tellTop_69 rfl (lv_at hl 0 rfl) ?_
      refine va_get (D := (dC, dI)) (ci := 5) (v := .ref qo71) (C := RX5) (T := TX5) (N := 21) hx hb hts uV_g2_X5 hown hK hP 0 rfl rfl 13 (by decide) (hts (.fieldLink RX5 29 "ClassMill$Machine" "places" "[I") mw_g2_9) (fun _ h9 => h9) rfl dX5_tellTop_70 ?_
      refine lv_aload_n hx hb dX5_tellTop_73 rfl (lv_at hl 0 rfl) ?_
      refine va_get (D := (dC, dI)) (ci := 5) (v := .int (nI tp)) (C := RX5) (T := TX5) (N := 21) hx hb hts uV_g2_X5 hown hK hP 0 rfl rfl 17 (by decide) (hts (.fieldLink RX5 97 "ClassMill$Machine" "top" "I") mw_g2_8) (fun _ h9 => h9) rfl dX5_tellTop_74 ?_
      refine va_iald hx hb hK hP 2 1 rfl rfl (i := (nI tp)) (vp_in_nI (by omega) (by decide)) dX5_tellTop_77 ?_
      refine lv_topi (fun y_10 ey_10 => ?_)
      have hP9 := hP.sub (ws' := [(qo9, .inr (5, [.ref qo7, .int v1, .int v2, .int v3, .int v4, .int v5, .int v6, .int v7, .ref qo66, .ref qo67, .ref qo68, .ref qo69, .ref qo70, .ref qo71, .ref qo72, .ref qo73, .ref qo74, .int (nI tp), .ref qo75, .int v19, .int v20])), (qo70, .inl (cz1, 60, .inl fm)), (qo71, .inl (cz2, 60, .inl fp)), (qo72, .inl (cz3, 60, .inl fh))]) [0, 1, 2, 3] rfl
      have hD9 := hD.sub (ws' := [(qo9, .inr (5, [.ref qo7, .int v1, .int v2, .int v3, .int v4, .int v5, .int v6, .int v7, .ref qo66, .ref qo67, .ref qo68, .ref qo69, .ref qo70, .ref qo71, .ref qo72, .ref qo73, .ref qo74, .int (nI tp), .ref qo75, .int v19, .int v20])), (qo70, .inl (cz1, 60, .inl fm)), (qo71, .inl (cz2, 60, .inl fp)), (qo72, .inl (cz3, 60, .inl fh))]) [0, 1, 2, 3] (by decide) rfl
      have hK9 := hK.sub (tys' := [(cz1, .int), (cz2, .int), (cz3, .int)]) [0, 1, 2] rfl
      exact W.iret hx hb hr (fun t ht hW => ⟨⟨(y_10), (), rfl, by rw [ey_10, nI_clamp (show tp < 2 ^ 31 by omega)]; exact lf_top_118 v1 (fm tp) (fp tp) (fh tp) a1 c_1 hs_2 hs_6 hs_9, by rw [ht]; exact hP9, va_K.moved hW.alike hK9, hD9⟩, hS.F ht⟩) hS.2.2 dX5_tellTop_78
    by_cases hs_11 : a1 = 10
    · refine lv_tableIn (tgt := 79) hx hb dX5_tellTop_11 (by rw [hs_11]; decide) (by rw [hs_11]; decide) (off := 68) (by rw [hs_11]; rfl) (by decide) ?_
      refine lv_aload_n hx hb dX5_tellTop_79 rfl (lv_at hl 0 rfl) ?_
      refine va_get (D := (dC, dI)) (ci := 5) (v := .ref qo72) (C := RX5) (T := TX5) (N := 21) hx hb hts uV_g2_X5 hown hK hP 0 rfl rfl 14 (by decide) (hts (.fieldLink RX5 32 "ClassMill$Machine" "heights" "[I") mw_g2_10) (fun _ h9 => h9) rfl dX5_tellTop_80 ?_
      refine lv_aload_n hx hb dX5_tellTop_83 rfl (lv_at hl 0 rfl) ?_
      refine va_get (D := (dC, dI)) (ci := 5) (v := .int (nI tp)) (C := RX5) (T := TX5) (N := 21) hx hb hts uV_g2_X5 hown hK hP 0 rfl rfl 17 (by decide) (hts (.fieldLink RX5 97 "ClassMill$Machine" "top" "I") mw_g2_8) (fun _ h9 => h9) rfl dX5_tellTop_84 ?_
      refine va_iald hx hb hK hP 3 2 rfl rfl (i := (nI tp)) (vp_in_nI (by omega) (by decide)) dX5_tellTop_87 ?_
      refine lv_topi (fun y_12 ey_12 => ?_)
      have hP9 := hP.sub (ws' := [(qo9, .inr (5, [.ref qo7, .int v1, .int v2, .int v3, .int v4, .int v5, .int v6, .int v7, .ref qo66, .ref qo67, .ref qo68, .ref qo69, .ref qo70, .ref qo71, .ref qo72, .ref qo73, .ref qo74, .int (nI tp), .ref qo75, .int v19, .int v20])), (qo70, .inl (cz1, 60, .inl fm)), (qo71, .inl (cz2, 60, .inl fp)), (qo72, .inl (cz3, 60, .inl fh))]) [0, 1, 2, 3] rfl
      have hD9 := hD.sub (ws' := [(qo9, .inr (5, [.ref qo7, .int v1, .int v2, .int v3, .int v4, .int v5, .int v6, .int v7, .ref qo66, .ref qo67, .ref qo68, .ref qo69, .ref qo70, .ref qo71, .ref qo72, .ref qo73, .ref qo74, .int (nI tp), .ref qo75, .int v19, .int v20])), (qo70, .inl (cz1, 60, .inl fm)), (qo71, .inl (cz2, 60, .inl fp)), (qo72, .inl (cz3, 60, .inl fh))]) [0, 1, 2, 3] (by decide) rfl
      have hK9 := hK.sub (tys' := [(cz1, .int), (cz2, .int), (cz3, .int)]) [0, 1, 2] rfl
      exact W.iret hx hb hr (fun t ht hW => ⟨⟨(y_12), (), rfl, by rw [ey_12, nI_clamp (show tp < 2 ^ 31 by omega)]; exact lf_top_119 v1 (fm tp) (fp tp) (fh tp) a1 c_1 hs_2 hs_6 hs_9 hs_11, by rw [ht]; exact hP9, va_K.moved hW.alike hK9, hD9⟩, hS.F ht⟩) hS.2.2 dX5_tellTop_88
    refine lv_tableOut (tgt := 89) hx hb dX5_tellTop_11 (by have a0 := lv_neT hs_2 (a := 7) rfl; have a1 := lv_neT hs_6 (a := 8) rfl; have a2 := lv_neT hs_9 (a := 9) rfl; have a3 := lv_neT hs_11 (a := 10) rfl; omega) (by decide) ?_
    refine lv_iconst (v := (-1)) hx hb dX5_tellTop_89 (by decide) ?_
    have hP9 := hP.sub (ws' := [(qo9, .inr (5, [.ref qo7, .int v1, .int v2, .int v3, .int v4, .int v5, .int v6, .int v7, .ref qo66, .ref qo67, .ref qo68, .ref qo69, .ref qo70, .ref qo71, .ref qo72, .ref qo73, .ref qo74, .int (nI tp), .ref qo75, .int v19, .int v20])), (qo70, .inl (cz1, 60, .inl fm)), (qo71, .inl (cz2, 60, .inl fp)), (qo72, .inl (cz3, 60, .inl fh))]) [0, 1, 2, 3] rfl
    have hD9 := hD.sub (ws' := [(qo9, .inr (5, [.ref qo7, .int v1, .int v2, .int v3, .int v4, .int v5, .int v6, .int v7, .ref qo66, .ref qo67, .ref qo68, .ref qo69, .ref qo70, .ref qo71, .ref qo72, .ref qo73, .ref qo74, .int (nI tp), .ref qo75, .int v19, .int v20])), (qo70, .inl (cz1, 60, .inl fm)), (qo71, .inl (cz2, 60, .inl fp)), (qo72, .inl (cz3, 60, .inl fh))]) [0, 1, 2, 3] (by decide) rfl
    have hK9 := hK.sub (tys' := [(cz1, .int), (cz2, .int), (cz3, .int)]) [0, 1, 2] rfl
    exact W.iret hx hb hr (fun t ht hW => ⟨⟨((-1)), (), rfl, lf_top_120 v1 (fm tp) (fp tp) (fh tp) a1 c_1 hs_2 hs_6 hs_9 hs_11, by rw [ht]; exact hP9, va_K.moved hW.alike hK9, hD9⟩, hS.F ht⟩) hS.2.2 dX5_tellTop_90
  · have c_1_ := c_1
    refine lv_iconst (v := (-1)) hx hb dX5_tellTop_8 (by decide) ?_
    have hP9 := hP.sub (ws' := [(qo9, .inr (5, [.ref qo7, .int v1, .int v2, .int v3, .int v4, .int v5, .int v6, .int v7, .ref qo66, .ref qo67, .ref qo68, .ref qo69, .ref qo70, .ref qo71, .ref qo72, .ref qo73, .ref qo74, .int (nI tp), .ref qo75, .int v19, .int v20])), (qo70, .inl (cz1, 60, .inl fm)), (qo71, .inl (cz2, 60, .inl fp)), (qo72, .inl (cz3, 60, .inl fh))]) [0, 1, 2, 3] rfl
    have hD9 := hD.sub (ws' := [(qo9, .inr (5, [.ref qo7, .int v1, .int v2, .int v3, .int v4, .int v5, .int v6, .int v7, .ref qo66, .ref qo67, .ref qo68, .ref qo69, .ref qo70, .ref qo71, .ref qo72, .ref qo73, .ref qo74, .int (nI tp), .ref qo75, .int v19, .int v20])), (qo70, .inl (cz1, 60, .inl fm)), (qo71, .inl (cz2, 60, .inl fp)), (qo72, .inl (cz3, 60, .inl fh))]) [0, 1, 2, 3] (by decide) rfl
    have hK9 := hK.sub (tys' := [(cz1, .int), (cz2, .int), (cz3, .int)]) [0, 1, 2] rfl
    exact W.iret hx hb hr (fun t ht hW => ⟨⟨((-1)), (), rfl, lf_top_121 v1 (fm tp) (fp tp) (fh tp) a1 c_1, by rw [ht]; exact hP9, va_K.moved hW.alike hK9, hD9⟩, hS.F ht⟩) hS.2.2 dX5_tellTop_9
set_option maxHeartbeats 4000000 in
set_option maxRecDepth 100000 in
/-- kg_printedAt -/
theorem kg_printedAt (l : Launch) (dC : Nat → ClassId) (dI : Nat → Nat → Nat) (sz : Nat) (qo9 : Nat) (a1 : Int32) (qo7 : Nat) (v1 : Int32) (v2 : Int32) (v3 : Int32) (v4 : Int32) (v5 : Int32) (v6 : Int32) (v7 : Int32) (qo66 : Nat) (qo67 : Nat) (qo68 : Nat) (qo69 : Nat) (qo70 : Nat) (qo71 : Nat) (qo72 : Nat) (qo73 : Nat) (qo74 : Nat) (tp : Nat) (qo75 : Nat) (v19 : Int32) (v20 : Int32) (cz4 : ClassId) (fq : (Nat → Int32))  : Met l yX5_printedAt (.code yX5_printedAt cX5_printedAt 2 (some .int) :: VS_g2) ({ frames := 0, cells := 0, slots := 0, locals := 0 }) (va_Pc [.ref qo9, .int a1] (fun U => U.heap.size = sz ∧ va_P (dC, dI) vwCl [(qo9, .inr (5, [.ref qo7, .int v1, .int v2, .int v3, .int v4, .int v5, .int v6, .int v7, .ref qo66, .ref qo67, .ref qo68, .ref qo69, .ref qo70, .ref qo71, .ref qo72, .ref qo73, .ref qo74, .int (nI tp), .ref qo75, .int v19, .int v20])), (qo66, .inl (cz4, 1000, .inl fq))] U.heap ∧ va_K (dC, dI) vwCl [(cz4, .int)] U ∧ va_D (fun _ => True) [(qo9, .inr (5, [.ref qo7, .int v1, .int v2, .int v3, .int v4, .int v5, .int v6, .int v7, .ref qo66, .ref qo67, .ref qo68, .ref qo69, .ref qo70, .ref qo71, .ref qo72, .ref qo73, .ref qo74, .int (nI tp), .ref qo75, .int v19, .int v20])), (qo66, .inl (cz4, 1000, .inl fq))])) (va_Qi (fun (r : Int32) (u : Unit) => match u with | () => r = tg_out v7 fq a1) (fun (u : Unit) (t : State) => match u with | () => va_P (dC, dI) vwCl [(qo9, .inr (5, [.ref qo7, .int v1, .int v2, .int v3, .int v4, .int v5, .int v6, .int v7, .ref qo66, .ref qo67, .ref qo68, .ref qo69, .ref qo70, .ref qo71, .ref qo72, .ref qo73, .ref qo74, .int (nI tp), .ref qo75, .int v19, .int v20])), (qo66, .inl (cz4, 1000, .inl fq))] t.heap ∧ va_K (dC, dI) vwCl [(cz4, .int)] t ∧ va_D (va_A [(qo9, .inr (5, [.ref qo7, .int v1, .int v2, .int v3, .int v4, .int v5, .int v6, .int v7, .ref qo66, .ref qo67, .ref qo68, .ref qo69, .ref qo70, .ref qo71, .ref qo72, .ref qo73, .ref qo74, .int (nI tp), .ref qo75, .int v19, .int v20])), (qo66, .inl (cz4, 1000, .inl fq))] sz) [(qo9, .inr (5, [.ref qo7, .int v1, .int v2, .int v3, .int v4, .int v5, .int v6, .int v7, .ref qo66, .ref qo67, .ref qo68, .ref qo69, .ref qo70, .ref qo71, .ref qo72, .ref qo73, .ref qo74, .int (nI tp), .ref qo75, .int v19, .int v20])), (qo66, .inl (cz4, 1000, .inl fq))]) (va_A [(qo9, .inr (5, [.ref qo7, .int v1, .int v2, .int v3, .int v4, .int v5, .int v6, .int v7, .ref qo66, .ref qo67, .ref qo68, .ref qo69, .ref qo70, .ref qo71, .ref qo72, .ref qo73, .ref qo74, .int (nI tp), .ref qo75, .int v19, .int v20])), (qo66, .inl (cz4, 1000, .inl fq))] sz)) 0 0 (va_A [(qo9, .inr (5, [.ref qo7, .int v1, .int v2, .int v3, .int v4, .int v5, .int v6, .int v7, .ref qo66, .ref qo67, .ref qo68, .ref qo69, .ref qo70, .ref qo71, .ref qo72, .ref qo73, .ref qo74, .int (nI tp), .ref qo75, .int v19, .int v20])), (qo66, .inl (cz4, 1000, .inl fq))] sz) := by
  refine Met.ofW (cc := cX5_printedAt) (maxL := 2) (ret := (some .int)) (by decide) rfl ?_
  intro p e s m args below meth c s₁ B hml hv
  obtain ⟨rfl, hsz, hP, hK, hD0⟩ := hv
  have hx := B.exec
  have hb := B.bytes
  have hr := B.returns
  have hts := atoms_spec (ws := (.code yX5_printedAt cX5_printedAt 2 (some .int) :: VS_g2)) B.pre
  replace hts := fun w (h : w ∈ VS_g2) => hts w (List.mem_cons_of_mem _ h)
  have hown : s.vm.findClass RX5 = some m.cls := findClass_of_methodNamed B.named
  have hlocks := B.notSynchronized
  subst hsz
  have hD := hD0.self (sz := s.heap.size)
  generalize hAe : va_A [(qo9, .inr (5, [.ref qo7, .int v1, .int v2, .int v3, .int v4, .int v5, .int v6, .int v7, .ref qo66, .ref qo67, .ref qo68, .ref qo69, .ref qo70, .ref qo71, .ref qo72, .ref qo73, .ref qo74, .int (nI tp), .ref qo75, .int v19, .int v20])), (qo66, .inl (cz4, 1000, .inl fq))] s.heap.size = A at hD  ⊢
  have hA : ∀ q : Nat, s.heap.size ≤ q → A q := fun q h => by rw [← hAe]; exact Or.inr h
  have hP : va_P (dC, dI) vwCl [(qo9, .inr (5, [.ref qo7, .int v1, .int v2, .int v3, .int v4, .int v5, .int v6, .int v7, .ref qo66, .ref qo67, .ref qo68, .ref qo69, .ref qo70, .ref qo71, .ref qo72, .ref qo73, .ref qo74, .int (nI tp), .ref qo75, .int v19, .int v20])), (qo66, .inl (cz4, 1000, .inl fq))] s.heap := hP
  have hl := lv_entry ([.ref qo9, .int a1]) (n := 2) (Nat.le_of_ble_eq_true rfl)
  rw [lg_entry_eq]
  generalize (lg_sl ([.ref qo9, .int a1]) ++ List.replicate (2 - (lg_sl ([.ref qo9, .int a1])).length) Slot.unset).toArray = ls at hl ⊢
  have hl : lv_has ls 2 [(0, .ref qo9), (1, .int a1)] := hl
  obtain ⟨H, hH⟩ : ∃ H : Heap, s.heap = H := ⟨_, rfl⟩
  rw [hH] at hP ⊢
  have hS : va_S A s.heap H [] := by rw [← hH]; exact va_S.rf
  obtain ⟨locs, hlo⟩ : ∃ locs : List Loc, locs = [] := ⟨_, rfl⟩
  rw [← hlo] at hS ⊢
  refine lv_iload_n hx hb dX5_printedAt_0 rfl (lv_at hl 1 rfl) ?_
  refine lv_if_lt (tgt := 28) hx hb dX5_printedAt_1 (by decide) (fun c_1 => ?_) (fun c_1 => ?_)
  · have c_1_ := c_1
    refine lv_iconst (v := 0) hx hb dX5_printedAt_28 (by decide) ?_
    have hP9 := hP.sub (ws' := [(qo9, .inr (5, [.ref qo7, .int v1, .int v2, .int v3, .int v4, .int v5, .int v6, .int v7, .ref qo66, .ref qo67, .ref qo68, .ref qo69, .ref qo70, .ref qo71, .ref qo72, .ref qo73, .ref qo74, .int (nI tp), .ref qo75, .int v19, .int v20])), (qo66, .inl (cz4, 1000, .inl fq))]) [0, 1] rfl
    have hD9 := hD.sub (ws' := [(qo9, .inr (5, [.ref qo7, .int v1, .int v2, .int v3, .int v4, .int v5, .int v6, .int v7, .ref qo66, .ref qo67, .ref qo68, .ref qo69, .ref qo70, .ref qo71, .ref qo72, .ref qo73, .ref qo74, .int (nI tp), .ref qo75, .int v19, .int v20])), (qo66, .inl (cz4, 1000, .inl fq))]) [0, 1] (by decide) rfl
    have hK9 := hK.sub (tys' := [(cz4, .int)]) [0] rfl
    exact W.iret hx hb hr (fun t ht hW => ⟨⟨(0), (), rfl, by unfold tg_out; rw [if_pos c_1], by rw [ht]; exact hP9, va_K.moved hW.alike hK9, hD9⟩, hS.F ht⟩) hS.2.2 dX5_printedAt_29
  · have c_1_ := c_1
    refine lv_iload_n hx hb dX5_printedAt_4 rfl (lv_at hl 1 rfl) ?_
    refine lv_aload_n hx hb dX5_printedAt_5 rfl (lv_at hl 0 rfl) ?_
    refine va_get (D := (dC, dI)) (ci := 5) (v := .int v7) (C := RX5) (T := TX5) (N := 21) hx hb hts uV_g2_X5 hown hK hP 0 rfl rfl 7 (by decide) (hts (.fieldLink RX5 69 "ClassMill$Machine" "prints" "I") mw_g2_6) (fun _ h9 => h9) rfl dX5_printedAt_6 ?_
    refine lv_icmp_ge (tgt := 28) hx hb dX5_printedAt_9 (by decide) (fun c_2 => ?_) (fun c_2 => ?_)
    · have c_2_ := c_2
      refine lv_iconst (v := 0) hx hb dX5_printedAt_28 (by decide) ?_
      have hP9 := hP.sub (ws' := [(qo9, .inr (5, [.ref qo7, .int v1, .int v2, .int v3, .int v4, .int v5, .int v6, .int v7, .ref qo66, .ref qo67, .ref qo68, .ref qo69, .ref qo70, .ref qo71, .ref qo72, .ref qo73, .ref qo74, .int (nI tp), .ref qo75, .int v19, .int v20])), (qo66, .inl (cz4, 1000, .inl fq))]) [0, 1] rfl
      have hD9 := hD.sub (ws' := [(qo9, .inr (5, [.ref qo7, .int v1, .int v2, .int v3, .int v4, .int v5, .int v6, .int v7, .ref qo66, .ref qo67, .ref qo68, .ref qo69, .ref qo70, .ref qo71, .ref qo72, .ref qo73, .ref qo74, .int (nI tp), .ref qo75, .int v19, .int v20])), (qo66, .inl (cz4, 1000, .inl fq))]) [0, 1] (by decide) rfl
      have hK9 := hK.sub (tys' := [(cz4, .int)]) [0] rfl
      exact W.iret hx hb hr (fun t ht hW => ⟨⟨(0), (), rfl, by unfold tg_out; rw [if_neg c_1, if_pos c_2], by rw [ht]; exact hP9, va_K.moved hW.alike hK9, hD9⟩, hS.F ht⟩) hS.2.2 dX5_printedAt_29
    · have c_2_ := c_2
      refine lv_iload_n hx hb dX5_printedAt_12 rfl (lv_at hl 1 rfl) ?_
      refine lv_sipush (v := 1000) hx hb dX5_printedAt_13 (by decide) ?_
      refine lv_icmp_ge (tgt := 28) hx hb dX5_printedAt_16 (by decide) (fun c_3 => ?_) (fun c_3 => ?_)
      · have c_3_ := c_3
        refine lv_iconst (v := 0) hx hb dX5_printedAt_28 (by decide) ?_
        have hP9 := hP.sub (ws' := [(qo9, .inr (5, [.ref qo7, .int v1, .int v2, .int v3, .int v4, .int v5, .int v6, .int v7, .ref qo66, .ref qo67, .ref qo68, .ref qo69, .ref qo70, .ref qo71, .ref qo72, .ref qo73, .ref qo74, .int (nI tp), .ref qo75, .int v19, .int v20])), (qo66, .inl (cz4, 1000, .inl fq))]) [0, 1] rfl
        have hD9 := hD.sub (ws' := [(qo9, .inr (5, [.ref qo7, .int v1, .int v2, .int v3, .int v4, .int v5, .int v6, .int v7, .ref qo66, .ref qo67, .ref qo68, .ref qo69, .ref qo70, .ref qo71, .ref qo72, .ref qo73, .ref qo74, .int (nI tp), .ref qo75, .int v19, .int v20])), (qo66, .inl (cz4, 1000, .inl fq))]) [0, 1] (by decide) rfl
        have hK9 := hK.sub (tys' := [(cz4, .int)]) [0] rfl
        exact W.iret hx hb hr (fun t ht hW => ⟨⟨(0), (), rfl, by unfold tg_out; rw [if_neg c_1, if_neg c_2, if_pos c_3], by rw [ht]; exact hP9, va_K.moved hW.alike hK9, hD9⟩, hS.F ht⟩) hS.2.2 dX5_printedAt_29
      · have c_3_ := c_3
        refine lv_aload_n hx hb dX5_printedAt_19 rfl (lv_at hl 0 rfl) ?_
        refine va_get (D := (dC, dI)) (ci := 5) (v := .ref qo66) (C := RX5) (T := TX5) (N := 21) hx hb hts uV_g2_X5 hown hK hP 0 rfl rfl 8 (by decide) (hts (.fieldLink RX5 13 "ClassMill$Machine" "printed" "[I") mw_g2_11) (fun _ h9 => h9) rfl dX5_printedAt_20 ?_
        refine lv_iload_n hx hb dX5_printedAt_23 rfl (lv_at hl 1 rfl) ?_
        refine va_iald hx hb hK hP 1 0 rfl rfl (i := a1) (tg_in1000 (by assumption) (by assumption)) dX5_printedAt_24 ?_
        refine lv_topi (fun y_4 ey_4 => ?_)
        refine lv_goto (tgt := 29) hx hb dX5_printedAt_25 (by decide) ?_
        have hP9 := hP.sub (ws' := [(qo9, .inr (5, [.ref qo7, .int v1, .int v2, .int v3, .int v4, .int v5, .int v6, .int v7, .ref qo66, .ref qo67, .ref qo68, .ref qo69, .ref qo70, .ref qo71, .ref qo72, .ref qo73, .ref qo74, .int (nI tp), .ref qo75, .int v19, .int v20])), (qo66, .inl (cz4, 1000, .inl fq))]) [0, 1] rfl
        have hD9 := hD.sub (ws' := [(qo9, .inr (5, [.ref qo7, .int v1, .int v2, .int v3, .int v4, .int v5, .int v6, .int v7, .ref qo66, .ref qo67, .ref qo68, .ref qo69, .ref qo70, .ref qo71, .ref qo72, .ref qo73, .ref qo74, .int (nI tp), .ref qo75, .int v19, .int v20])), (qo66, .inl (cz4, 1000, .inl fq))]) [0, 1] (by decide) rfl
        have hK9 := hK.sub (tys' := [(cz4, .int)]) [0] rfl
        exact W.iret hx hb hr (fun t ht hW => ⟨⟨(y_4), (), rfl, by unfold tg_out; rw [if_neg c_1, if_neg c_2, if_neg c_3, ey_4], by rw [ht]; exact hP9, va_K.moved hW.alike hK9, hD9⟩, hS.F ht⟩) hS.2.2 dX5_printedAt_29
set_option maxHeartbeats 4000000 in
set_option maxRecDepth 100000 in
/-- kg_out -/
theorem kg_out (l : Launch) (dC : Nat → ClassId) (dI : Nat → Nat → Nat) (sz : Nat) (h0 : Nat) (a1 : Int32) (qo1 : Nat) (tn : Nat) (qo2 : Nat) (qo3 : Nat) (qo4 : Nat) (qo5 : Nat) (qo6 : Nat) (v7 : Int32) (qo7 : Nat) (qo8 : Nat) (qo9 : Nat) (v1 : Int32) (v2 : Int32) (v3 : Int32) (v4 : Int32) (v5 : Int32) (v6 : Int32) (qo66 : Nat) (qo67 : Nat) (qo68 : Nat) (qo69 : Nat) (qo70 : Nat) (qo71 : Nat) (qo72 : Nat) (qo73 : Nat) (qo74 : Nat) (tp : Nat) (qo75 : Nat) (v19 : Int32) (v20 : Int32) (cz4 : ClassId) (fq : (Nat → Int32))  : Met l yX12_out (.code yX12_out cX12_out 2 (some .int) :: VS_g2) ({ frames := 1, cells := 0, slots := 0, locals := 21 }) (va_Pc [.ref h0, .int a1] (fun U => U.heap.size = sz ∧ va_P (dC, dI) vwCl [(h0, .inr (12, [.ref qo1, .int (nI tn), .ref qo2, .ref qo3, .ref qo4, .ref qo5, .ref qo6, .int v7, .ref qo7, .ref qo8, .ref qo9])), (qo9, .inr (5, [.ref qo7, .int v1, .int v2, .int v3, .int v4, .int v5, .int v6, .int v7, .ref qo66, .ref qo67, .ref qo68, .ref qo69, .ref qo70, .ref qo71, .ref qo72, .ref qo73, .ref qo74, .int (nI tp), .ref qo75, .int v19, .int v20])), (qo66, .inl (cz4, 1000, .inl fq))] U.heap ∧ va_K (dC, dI) vwCl [(cz4, .int)] U ∧ va_D (fun _ => True) [(h0, .inr (12, [.ref qo1, .int (nI tn), .ref qo2, .ref qo3, .ref qo4, .ref qo5, .ref qo6, .int v7, .ref qo7, .ref qo8, .ref qo9])), (qo9, .inr (5, [.ref qo7, .int v1, .int v2, .int v3, .int v4, .int v5, .int v6, .int v7, .ref qo66, .ref qo67, .ref qo68, .ref qo69, .ref qo70, .ref qo71, .ref qo72, .ref qo73, .ref qo74, .int (nI tp), .ref qo75, .int v19, .int v20])), (qo66, .inl (cz4, 1000, .inl fq))])) (va_Qi (fun (r : Int32) (u : Unit) => match u with | () => r = tg_out v7 fq a1) (fun (u : Unit) (t : State) => match u with | () => va_P (dC, dI) vwCl [(h0, .inr (12, [.ref qo1, .int (nI tn), .ref qo2, .ref qo3, .ref qo4, .ref qo5, .ref qo6, .int v7, .ref qo7, .ref qo8, .ref qo9])), (qo9, .inr (5, [.ref qo7, .int v1, .int v2, .int v3, .int v4, .int v5, .int v6, .int v7, .ref qo66, .ref qo67, .ref qo68, .ref qo69, .ref qo70, .ref qo71, .ref qo72, .ref qo73, .ref qo74, .int (nI tp), .ref qo75, .int v19, .int v20])), (qo66, .inl (cz4, 1000, .inl fq))] t.heap ∧ va_K (dC, dI) vwCl [(cz4, .int)] t ∧ va_D (va_A [(h0, .inr (12, [.ref qo1, .int (nI tn), .ref qo2, .ref qo3, .ref qo4, .ref qo5, .ref qo6, .int v7, .ref qo7, .ref qo8, .ref qo9])), (qo9, .inr (5, [.ref qo7, .int v1, .int v2, .int v3, .int v4, .int v5, .int v6, .int v7, .ref qo66, .ref qo67, .ref qo68, .ref qo69, .ref qo70, .ref qo71, .ref qo72, .ref qo73, .ref qo74, .int (nI tp), .ref qo75, .int v19, .int v20])), (qo66, .inl (cz4, 1000, .inl fq))] sz) [(h0, .inr (12, [.ref qo1, .int (nI tn), .ref qo2, .ref qo3, .ref qo4, .ref qo5, .ref qo6, .int v7, .ref qo7, .ref qo8, .ref qo9])), (qo9, .inr (5, [.ref qo7, .int v1, .int v2, .int v3, .int v4, .int v5, .int v6, .int v7, .ref qo66, .ref qo67, .ref qo68, .ref qo69, .ref qo70, .ref qo71, .ref qo72, .ref qo73, .ref qo74, .int (nI tp), .ref qo75, .int v19, .int v20])), (qo66, .inl (cz4, 1000, .inl fq))]) (va_A [(h0, .inr (12, [.ref qo1, .int (nI tn), .ref qo2, .ref qo3, .ref qo4, .ref qo5, .ref qo6, .int v7, .ref qo7, .ref qo8, .ref qo9])), (qo9, .inr (5, [.ref qo7, .int v1, .int v2, .int v3, .int v4, .int v5, .int v6, .int v7, .ref qo66, .ref qo67, .ref qo68, .ref qo69, .ref qo70, .ref qo71, .ref qo72, .ref qo73, .ref qo74, .int (nI tp), .ref qo75, .int v19, .int v20])), (qo66, .inl (cz4, 1000, .inl fq))] sz)) 0 0 (va_A [(h0, .inr (12, [.ref qo1, .int (nI tn), .ref qo2, .ref qo3, .ref qo4, .ref qo5, .ref qo6, .int v7, .ref qo7, .ref qo8, .ref qo9])), (qo9, .inr (5, [.ref qo7, .int v1, .int v2, .int v3, .int v4, .int v5, .int v6, .int v7, .ref qo66, .ref qo67, .ref qo68, .ref qo69, .ref qo70, .ref qo71, .ref qo72, .ref qo73, .ref qo74, .int (nI tp), .ref qo75, .int v19, .int v20])), (qo66, .inl (cz4, 1000, .inl fq))] sz) := by
  refine Met.ofW (cc := cX12_out) (maxL := 2) (ret := (some .int)) (by decide) rfl ?_
  intro p e s m args below meth c s₁ B hml hv
  obtain ⟨rfl, hsz, hP, hK, hD0⟩ := hv
  have hx := B.exec
  have hb := B.bytes
  have hr := B.returns
  have hts := atoms_spec (ws := (.code yX12_out cX12_out 2 (some .int) :: VS_g2)) B.pre
  replace hts := fun w (h : w ∈ VS_g2) => hts w (List.mem_cons_of_mem _ h)
  have hown : s.vm.findClass RX12 = some m.cls := findClass_of_methodNamed B.named
  have hlocks := B.notSynchronized
  subst hsz
  have hD := hD0.self (sz := s.heap.size)
  generalize hAe : va_A [(h0, .inr (12, [.ref qo1, .int (nI tn), .ref qo2, .ref qo3, .ref qo4, .ref qo5, .ref qo6, .int v7, .ref qo7, .ref qo8, .ref qo9])), (qo9, .inr (5, [.ref qo7, .int v1, .int v2, .int v3, .int v4, .int v5, .int v6, .int v7, .ref qo66, .ref qo67, .ref qo68, .ref qo69, .ref qo70, .ref qo71, .ref qo72, .ref qo73, .ref qo74, .int (nI tp), .ref qo75, .int v19, .int v20])), (qo66, .inl (cz4, 1000, .inl fq))] s.heap.size = A at hD  ⊢
  have hA : ∀ q : Nat, s.heap.size ≤ q → A q := fun q h => by rw [← hAe]; exact Or.inr h
  have hP : va_P (dC, dI) vwCl [(h0, .inr (12, [.ref qo1, .int (nI tn), .ref qo2, .ref qo3, .ref qo4, .ref qo5, .ref qo6, .int v7, .ref qo7, .ref qo8, .ref qo9])), (qo9, .inr (5, [.ref qo7, .int v1, .int v2, .int v3, .int v4, .int v5, .int v6, .int v7, .ref qo66, .ref qo67, .ref qo68, .ref qo69, .ref qo70, .ref qo71, .ref qo72, .ref qo73, .ref qo74, .int (nI tp), .ref qo75, .int v19, .int v20])), (qo66, .inl (cz4, 1000, .inl fq))] s.heap := hP
  have hl := lv_entry ([.ref h0, .int a1]) (n := 2) (Nat.le_of_ble_eq_true rfl)
  rw [lg_entry_eq]
  generalize (lg_sl ([.ref h0, .int a1]) ++ List.replicate (2 - (lg_sl ([.ref h0, .int a1])).length) Slot.unset).toArray = ls at hl ⊢
  have hl : lv_has ls 2 [(0, .ref h0), (1, .int a1)] := hl
  obtain ⟨H, hH⟩ : ∃ H : Heap, s.heap = H := ⟨_, rfl⟩
  rw [hH] at hP ⊢
  have hS : va_S A s.heap H [] := by rw [← hH]; exact va_S.rf
  obtain ⟨locs, hlo⟩ : ∃ locs : List Loc, locs = [] := ⟨_, rfl⟩
  rw [← hlo] at hS ⊢
  refine lv_aload_n hx hb dX12_out_0 rfl (lv_at hl 0 rfl) ?_
  refine va_get (D := (dC, dI)) (ci := 12) (v := .ref qo9) (C := RX12) (T := TX12) (N := 11) hx hb hts uV_g2_X12 hown hK hP 0 rfl rfl 10 (by decide) (hts (.fieldLink RX12 69 "ClassMill" "machine" "LClassMill$Machine;") mw_g2_17) (fun _ h9 => h9) rfl dX12_out_1 ?_
  refine lv_iload_n hx hb dX12_out_4 rfl (lv_at hl 1 rfl) ?_
  have hPc := hP.sub (ws' := [(qo9, .inr (5, [.ref qo7, .int v1, .int v2, .int v3, .int v4, .int v5, .int v6, .int v7, .ref qo66, .ref qo67, .ref qo68, .ref qo69, .ref qo70, .ref qo71, .ref qo72, .ref qo73, .ref qo74, .int (nI tp), .ref qo75, .int v19, .int v20])), (qo66, .inl (cz4, 1000, .inl fq))]) [1, 2] rfl
  have hDc := hD.sub (ws' := [(qo9, .inr (5, [.ref qo7, .int v1, .int v2, .int v3, .int v4, .int v5, .int v6, .int v7, .ref qo66, .ref qo67, .ref qo68, .ref qo69, .ref qo70, .ref qo71, .ref qo72, .ref qo73, .ref qo74, .int (nI tp), .ref qo75, .int v19, .int v20])), (qo66, .inl (cz4, 1000, .inl fq))]) [1, 2] (by decide) rfl
  have hKc := hK.sub (tys' := [(cz4, .int)]) [0] rfl
  have hFc := va_free (wc := [(qo9, .inr (5, [.ref qo7, .int v1, .int v2, .int v3, .int v4, .int v5, .int v6, .int v7, .ref qo66, .ref qo67, .ref qo68, .ref qo69, .ref qo70, .ref qo71, .ref qo72, .ref qo73, .ref qo74, .int (nI tp), .ref qo75, .int v19, .int v20])), (qo66, .inl (cz4, 1000, .inl fq))]) hD hS hA [1, 2] rfl
  refine va_calli (va_runV (As := [.int a1]) (rest := []) ⟨hx, hb, hml, hown, hts⟩ (kg_printedAt l dC dI H.size qo9 a1 qo7 v1 v2 v3 v4 v5 v6 v7 qo66 qo67 qo68 qo69 qo70 qo71 qo72 qo73 qo74 tp qo75 v19 v20 cz4 fq) (cwV 1 hts gv_g2_0 rfl rfl rfl (by decide +kernel) ⟨Nat.le_of_ble_eq_true rfl, Nat.le_of_ble_eq_true rfl⟩) ⟨fun a U g mk q => by obtain ⟨q0, q1, qP, qK, qD⟩ := q; exact ⟨q0, q1, qP, va_K.moved (u := U) (U := U.calling g mk a) (Vm.Alike.refl U.vm) qK, qD⟩, va_recv hKc hPc (ci := 5) (q0 := 0) rfl rfl, fun U hU hW => ⟨rfl, by rw [hU], by rw [hU]; exact hPc, va_K.moved hW.alike hKc, hDc.weaken (fun _ _ _ _ => trivial)⟩⟩ rfl rfl hl.1 rfl (lv_room (Nat.le_of_ble_eq_true rfl)) dX12_out_5 ⟨Nat.le_of_ble_eq_true rfl, Nat.le_of_ble_eq_true rfl⟩) hS (fun q _ h => hFc q h) hFc ?_
  clear hS
  intro r_1 u t H1 locs ht hvm hw hB hz1 hk1 hS
  obtain ⟨⟩ := u
  obtain ⟨hP1, hK1, hD1⟩ := hB
  rw [ht] at hP1
  have hK1 := va_K.moved hvm.symm hK1
  try dsimp only at hw
  have hPD := va_join (wr := [(h0, .inr (12, [.ref qo1, .int (nI tn), .ref qo2, .ref qo3, .ref qo4, .ref qo5, .ref qo6, .int v7, .ref qo7, .ref qo8, .ref qo9]))]) (w1 := [(qo9, .inr (5, [.ref qo7, .int v1, .int v2, .int v3, .int v4, .int v5, .int v6, .int v7, .ref qo66, .ref qo67, .ref qo68, .ref qo69, .ref qo70, .ref qo71, .ref qo72, .ref qo73, .ref qo74, .int (nI tp), .ref qo75, .int v19, .int v20])), (qo66, .inl (cz4, 1000, .inl fq))]) hP hD [1, 2] [0] rfl rfl (by decide) (by decide) hk1 hFc hP1 hD1
  clear hP hD
  obtain ⟨hP, hD⟩ := hPD
  replace hK := (hK.sub (tys' := []) [] rfl).app hK1
  clear hPc hDc hKc hFc hP1 hK1 hD1 hz1 hk1 ht hvm
  generalize H1 = H at hP hS ⊢
  replace hP : va_P (dC, dI) vwCl [(h0, .inr (12, [.ref qo1, .int (nI tn), .ref qo2, .ref qo3, .ref qo4, .ref qo5, .ref qo6, .int v7, .ref qo7, .ref qo8, .ref qo9])), (qo9, .inr (5, [.ref qo7, .int v1, .int v2, .int v3, .int v4, .int v5, .int v6, .int v7, .ref qo66, .ref qo67, .ref qo68, .ref qo69, .ref qo70, .ref qo71, .ref qo72, .ref qo73, .ref qo74, .int (nI tp), .ref qo75, .int v19, .int v20])), (qo66, .inl (cz4, 1000, .inl fq))] H := hP
  replace hD : va_D A [(h0, .inr (12, [.ref qo1, .int (nI tn), .ref qo2, .ref qo3, .ref qo4, .ref qo5, .ref qo6, .int v7, .ref qo7, .ref qo8, .ref qo9])), (qo9, .inr (5, [.ref qo7, .int v1, .int v2, .int v3, .int v4, .int v5, .int v6, .int v7, .ref qo66, .ref qo67, .ref qo68, .ref qo69, .ref qo70, .ref qo71, .ref qo72, .ref qo73, .ref qo74, .int (nI tp), .ref qo75, .int v19, .int v20])), (qo66, .inl (cz4, 1000, .inl fq))] := hD
  replace hK : va_K (dC, dI) vwCl [(cz4, .int)] s := hK
  subst hw
  refine W.eq (g2 := F0 m 8 ls [.int (tg_out v7 fq a1)]) rfl ?_
  have hP9 := hP.sub (ws' := [(h0, .inr (12, [.ref qo1, .int (nI tn), .ref qo2, .ref qo3, .ref qo4, .ref qo5, .ref qo6, .int v7, .ref qo7, .ref qo8, .ref qo9])), (qo9, .inr (5, [.ref qo7, .int v1, .int v2, .int v3, .int v4, .int v5, .int v6, .int v7, .ref qo66, .ref qo67, .ref qo68, .ref qo69, .ref qo70, .ref qo71, .ref qo72, .ref qo73, .ref qo74, .int (nI tp), .ref qo75, .int v19, .int v20])), (qo66, .inl (cz4, 1000, .inl fq))]) [0, 1, 2] rfl
  have hD9 := hD.sub (ws' := [(h0, .inr (12, [.ref qo1, .int (nI tn), .ref qo2, .ref qo3, .ref qo4, .ref qo5, .ref qo6, .int v7, .ref qo7, .ref qo8, .ref qo9])), (qo9, .inr (5, [.ref qo7, .int v1, .int v2, .int v3, .int v4, .int v5, .int v6, .int v7, .ref qo66, .ref qo67, .ref qo68, .ref qo69, .ref qo70, .ref qo71, .ref qo72, .ref qo73, .ref qo74, .int (nI tp), .ref qo75, .int v19, .int v20])), (qo66, .inl (cz4, 1000, .inl fq))]) [0, 1, 2] (by decide) rfl
  have hK9 := hK.sub (tys' := [(cz4, .int)]) [0] rfl
  exact W.iret hx hb hr (fun t ht hW => ⟨⟨((tg_out v7 fq a1)), (), rfl, rfl, by rw [ht]; exact hP9, va_K.moved hW.alike hK9, hD9⟩, hS.F ht⟩) hS.2.2 dX12_out_8
def tg_look (n v t x y a : Int32) : Int32 := if a = 11 then n else if a = 12 then (if v = 0 then 0 else 1) else if a = 13 then t else if a < 7 then x else if 10 < a then x else y
set_option maxHeartbeats 4000000 in
set_option maxRecDepth 100000 in
/-- kg_look -/
theorem kg_look (l : Launch) (dC : Nat → ClassId) (dI : Nat → Nat → Nat) (sz : Nat) (h0 : Nat) (a1 : Int32) (qo1 : Nat) (tn : Nat) (qo2 : Nat) (qo3 : Nat) (qo4 : Nat) (qo5 : Nat) (qo6 : Nat) (v7 : Int32) (qo7 : Nat) (qo8 : Nat) (qo9 : Nat) (qo43 : Nat) (qo44 : Nat) (qo45 : Nat) (v30 : Int32) (v31 : Int32) (qo46 : Nat) (qo47 : Nat) (qo48 : Nat) (v1 : Int32) (v2 : Int32) (v3 : Int32) (v4 : Int32) (v5 : Int32) (v6 : Int32) (qo66 : Nat) (qo67 : Nat) (qo68 : Nat) (qo69 : Nat) (qo70 : Nat) (qo71 : Nat) (qo72 : Nat) (qo73 : Nat) (qo74 : Nat) (tp : Nat) (qo75 : Nat) (v19 : Int32) (v20 : Int32) (cz1 : ClassId) (fm : (Nat → Int32)) (cz2 : ClassId) (fp : (Nat → Int32)) (cz3 : ClassId) (fh : (Nat → Int32)) (htp : tp < 60) : Met l yX12_look (.code yX12_look cX12_look 2 (some .int) :: VS_g2) ({ frames := 1, cells := 0, slots := 0, locals := 21 }) (va_Pc [.ref h0, .int a1] (fun U => U.heap.size = sz ∧ va_P (dC, dI) vwCl [(h0, .inr (12, [.ref qo1, .int (nI tn), .ref qo2, .ref qo3, .ref qo4, .ref qo5, .ref qo6, .int v7, .ref qo7, .ref qo8, .ref qo9])), (qo7, .inr (7, [.ref qo43, .ref qo44, .ref qo45, .int v30, .int v31, .ref qo46, .ref qo47, .ref qo48])), (qo9, .inr (5, [.ref qo7, .int v1, .int v2, .int v3, .int v4, .int v5, .int v6, .int v7, .ref qo66, .ref qo67, .ref qo68, .ref qo69, .ref qo70, .ref qo71, .ref qo72, .ref qo73, .ref qo74, .int (nI tp), .ref qo75, .int v19, .int v20])), (qo70, .inl (cz1, 60, .inl fm)), (qo71, .inl (cz2, 60, .inl fp)), (qo72, .inl (cz3, 60, .inl fh))] U.heap ∧ va_K (dC, dI) vwCl [(cz1, .int), (cz2, .int), (cz3, .int)] U ∧ va_D (fun _ => True) [(h0, .inr (12, [.ref qo1, .int (nI tn), .ref qo2, .ref qo3, .ref qo4, .ref qo5, .ref qo6, .int v7, .ref qo7, .ref qo8, .ref qo9])), (qo7, .inr (7, [.ref qo43, .ref qo44, .ref qo45, .int v30, .int v31, .ref qo46, .ref qo47, .ref qo48])), (qo9, .inr (5, [.ref qo7, .int v1, .int v2, .int v3, .int v4, .int v5, .int v6, .int v7, .ref qo66, .ref qo67, .ref qo68, .ref qo69, .ref qo70, .ref qo71, .ref qo72, .ref qo73, .ref qo74, .int (nI tp), .ref qo75, .int v19, .int v20])), (qo70, .inl (cz1, 60, .inl fm)), (qo71, .inl (cz2, 60, .inl fp)), (qo72, .inl (cz3, 60, .inl fh))])) (va_Qi (fun (r : Int32) (u : Unit) => match u with | () => r = tg_look v30 v31 (nI tn) (tg_tell v1 v2 v3 v4 v5 v6 v7 a1) (tg_top v1 (fm tp) (fp tp) (fh tp) a1) a1) (fun (u : Unit) (t : State) => match u with | () => va_P (dC, dI) vwCl [(h0, .inr (12, [.ref qo1, .int (nI tn), .ref qo2, .ref qo3, .ref qo4, .ref qo5, .ref qo6, .int v7, .ref qo7, .ref qo8, .ref qo9])), (qo7, .inr (7, [.ref qo43, .ref qo44, .ref qo45, .int v30, .int v31, .ref qo46, .ref qo47, .ref qo48])), (qo9, .inr (5, [.ref qo7, .int v1, .int v2, .int v3, .int v4, .int v5, .int v6, .int v7, .ref qo66, .ref qo67, .ref qo68, .ref qo69, .ref qo70, .ref qo71, .ref qo72, .ref qo73, .ref qo74, .int (nI tp), .ref qo75, .int v19, .int v20])), (qo70, .inl (cz1, 60, .inl fm)), (qo71, .inl (cz2, 60, .inl fp)), (qo72, .inl (cz3, 60, .inl fh))] t.heap ∧ va_K (dC, dI) vwCl [(cz1, .int), (cz2, .int), (cz3, .int)] t ∧ va_D (va_A [(h0, .inr (12, [.ref qo1, .int (nI tn), .ref qo2, .ref qo3, .ref qo4, .ref qo5, .ref qo6, .int v7, .ref qo7, .ref qo8, .ref qo9])), (qo7, .inr (7, [.ref qo43, .ref qo44, .ref qo45, .int v30, .int v31, .ref qo46, .ref qo47, .ref qo48])), (qo9, .inr (5, [.ref qo7, .int v1, .int v2, .int v3, .int v4, .int v5, .int v6, .int v7, .ref qo66, .ref qo67, .ref qo68, .ref qo69, .ref qo70, .ref qo71, .ref qo72, .ref qo73, .ref qo74, .int (nI tp), .ref qo75, .int v19, .int v20])), (qo70, .inl (cz1, 60, .inl fm)), (qo71, .inl (cz2, 60, .inl fp)), (qo72, .inl (cz3, 60, .inl fh))] sz) [(h0, .inr (12, [.ref qo1, .int (nI tn), .ref qo2, .ref qo3, .ref qo4, .ref qo5, .ref qo6, .int v7, .ref qo7, .ref qo8, .ref qo9])), (qo7, .inr (7, [.ref qo43, .ref qo44, .ref qo45, .int v30, .int v31, .ref qo46, .ref qo47, .ref qo48])), (qo9, .inr (5, [.ref qo7, .int v1, .int v2, .int v3, .int v4, .int v5, .int v6, .int v7, .ref qo66, .ref qo67, .ref qo68, .ref qo69, .ref qo70, .ref qo71, .ref qo72, .ref qo73, .ref qo74, .int (nI tp), .ref qo75, .int v19, .int v20])), (qo70, .inl (cz1, 60, .inl fm)), (qo71, .inl (cz2, 60, .inl fp)), (qo72, .inl (cz3, 60, .inl fh))]) (va_A [(h0, .inr (12, [.ref qo1, .int (nI tn), .ref qo2, .ref qo3, .ref qo4, .ref qo5, .ref qo6, .int v7, .ref qo7, .ref qo8, .ref qo9])), (qo7, .inr (7, [.ref qo43, .ref qo44, .ref qo45, .int v30, .int v31, .ref qo46, .ref qo47, .ref qo48])), (qo9, .inr (5, [.ref qo7, .int v1, .int v2, .int v3, .int v4, .int v5, .int v6, .int v7, .ref qo66, .ref qo67, .ref qo68, .ref qo69, .ref qo70, .ref qo71, .ref qo72, .ref qo73, .ref qo74, .int (nI tp), .ref qo75, .int v19, .int v20])), (qo70, .inl (cz1, 60, .inl fm)), (qo71, .inl (cz2, 60, .inl fp)), (qo72, .inl (cz3, 60, .inl fh))] sz)) 0 0 (va_A [(h0, .inr (12, [.ref qo1, .int (nI tn), .ref qo2, .ref qo3, .ref qo4, .ref qo5, .ref qo6, .int v7, .ref qo7, .ref qo8, .ref qo9])), (qo7, .inr (7, [.ref qo43, .ref qo44, .ref qo45, .int v30, .int v31, .ref qo46, .ref qo47, .ref qo48])), (qo9, .inr (5, [.ref qo7, .int v1, .int v2, .int v3, .int v4, .int v5, .int v6, .int v7, .ref qo66, .ref qo67, .ref qo68, .ref qo69, .ref qo70, .ref qo71, .ref qo72, .ref qo73, .ref qo74, .int (nI tp), .ref qo75, .int v19, .int v20])), (qo70, .inl (cz1, 60, .inl fm)), (qo71, .inl (cz2, 60, .inl fp)), (qo72, .inl (cz3, 60, .inl fh))] sz) := by
  refine Met.ofW (cc := cX12_look) (maxL := 2) (ret := (some .int)) (by decide) rfl ?_
  intro p e s m args below meth c s₁ B hml hv
  obtain ⟨rfl, hsz, hP, hK, hD0⟩ := hv
  have hx := B.exec
  have hb := B.bytes
  have hr := B.returns
  have hts := atoms_spec (ws := (.code yX12_look cX12_look 2 (some .int) :: VS_g2)) B.pre
  replace hts := fun w (h : w ∈ VS_g2) => hts w (List.mem_cons_of_mem _ h)
  have hown : s.vm.findClass RX12 = some m.cls := findClass_of_methodNamed B.named
  have hlocks := B.notSynchronized
  subst hsz
  have hD := hD0.self (sz := s.heap.size)
  generalize hAe : va_A [(h0, .inr (12, [.ref qo1, .int (nI tn), .ref qo2, .ref qo3, .ref qo4, .ref qo5, .ref qo6, .int v7, .ref qo7, .ref qo8, .ref qo9])), (qo7, .inr (7, [.ref qo43, .ref qo44, .ref qo45, .int v30, .int v31, .ref qo46, .ref qo47, .ref qo48])), (qo9, .inr (5, [.ref qo7, .int v1, .int v2, .int v3, .int v4, .int v5, .int v6, .int v7, .ref qo66, .ref qo67, .ref qo68, .ref qo69, .ref qo70, .ref qo71, .ref qo72, .ref qo73, .ref qo74, .int (nI tp), .ref qo75, .int v19, .int v20])), (qo70, .inl (cz1, 60, .inl fm)), (qo71, .inl (cz2, 60, .inl fp)), (qo72, .inl (cz3, 60, .inl fh))] s.heap.size = A at hD  ⊢
  have hA : ∀ q : Nat, s.heap.size ≤ q → A q := fun q h => by rw [← hAe]; exact Or.inr h
  have hP : va_P (dC, dI) vwCl [(h0, .inr (12, [.ref qo1, .int (nI tn), .ref qo2, .ref qo3, .ref qo4, .ref qo5, .ref qo6, .int v7, .ref qo7, .ref qo8, .ref qo9])), (qo7, .inr (7, [.ref qo43, .ref qo44, .ref qo45, .int v30, .int v31, .ref qo46, .ref qo47, .ref qo48])), (qo9, .inr (5, [.ref qo7, .int v1, .int v2, .int v3, .int v4, .int v5, .int v6, .int v7, .ref qo66, .ref qo67, .ref qo68, .ref qo69, .ref qo70, .ref qo71, .ref qo72, .ref qo73, .ref qo74, .int (nI tp), .ref qo75, .int v19, .int v20])), (qo70, .inl (cz1, 60, .inl fm)), (qo71, .inl (cz2, 60, .inl fp)), (qo72, .inl (cz3, 60, .inl fh))] s.heap := hP
  have hl := lv_entry ([.ref h0, .int a1]) (n := 2) (Nat.le_of_ble_eq_true rfl)
  rw [lg_entry_eq]
  generalize (lg_sl ([.ref h0, .int a1]) ++ List.replicate (2 - (lg_sl ([.ref h0, .int a1])).length) Slot.unset).toArray = ls at hl ⊢
  have hl : lv_has ls 2 [(0, .ref h0), (1, .int a1)] := hl
  obtain ⟨H, hH⟩ : ∃ H : Heap, s.heap = H := ⟨_, rfl⟩
  rw [hH] at hP ⊢
  have hS : va_S A s.heap H [] := by rw [← hH]; exact va_S.rf
  obtain ⟨locs, hlo⟩ : ∃ locs : List Loc, locs = [] := ⟨_, rfl⟩
  rw [← hlo] at hS ⊢
  refine lv_iload_n hx hb dX12_look_0 rfl (lv_at hl 1 rfl) ?_
  by_cases hs_1 : a1 = 11
  · refine lv_tableIn (tgt := 28) hx hb dX12_look_1 (by rw [hs_1]; decide) (by rw [hs_1]; decide) (off := 27) (by rw [hs_1]; rfl) (by decide) ?_
    refine lv_aload_n hx hb dX12_look_28 rfl (lv_at hl 0 rfl) ?_
    refine va_get (D := (dC, dI)) (ci := 12) (v := .ref qo7) (C := RX12) (T := TX12) (N := 11) hx hb hts uV_g2_X12 hown hK hP 0 rfl rfl 8 (by decide) (hts (.fieldLink RX12 53 "ClassMill" "space" "LClassMill$Space;") mw_g2_26) (fun _ h9 => h9) rfl dX12_look_29 ?_
    refine va_get (D := (dC, dI)) (ci := 7) (v := .int v30) (C := RX7) (T := TX7) (N := 8) hx hb hts uV_g2_X7 hown hK hP 1 rfl rfl 3 (by decide) (hts (.fieldLink RX12 199 "ClassMill$Space" "count" "I") mw_g2_27) (fun _ h9 => h9) rfl dX12_look_32 ?_
    have hP9 := hP.sub (ws' := [(h0, .inr (12, [.ref qo1, .int (nI tn), .ref qo2, .ref qo3, .ref qo4, .ref qo5, .ref qo6, .int v7, .ref qo7, .ref qo8, .ref qo9])), (qo7, .inr (7, [.ref qo43, .ref qo44, .ref qo45, .int v30, .int v31, .ref qo46, .ref qo47, .ref qo48])), (qo9, .inr (5, [.ref qo7, .int v1, .int v2, .int v3, .int v4, .int v5, .int v6, .int v7, .ref qo66, .ref qo67, .ref qo68, .ref qo69, .ref qo70, .ref qo71, .ref qo72, .ref qo73, .ref qo74, .int (nI tp), .ref qo75, .int v19, .int v20])), (qo70, .inl (cz1, 60, .inl fm)), (qo71, .inl (cz2, 60, .inl fp)), (qo72, .inl (cz3, 60, .inl fh))]) [0, 1, 2, 3, 4, 5] rfl
    have hD9 := hD.sub (ws' := [(h0, .inr (12, [.ref qo1, .int (nI tn), .ref qo2, .ref qo3, .ref qo4, .ref qo5, .ref qo6, .int v7, .ref qo7, .ref qo8, .ref qo9])), (qo7, .inr (7, [.ref qo43, .ref qo44, .ref qo45, .int v30, .int v31, .ref qo46, .ref qo47, .ref qo48])), (qo9, .inr (5, [.ref qo7, .int v1, .int v2, .int v3, .int v4, .int v5, .int v6, .int v7, .ref qo66, .ref qo67, .ref qo68, .ref qo69, .ref qo70, .ref qo71, .ref qo72, .ref qo73, .ref qo74, .int (nI tp), .ref qo75, .int v19, .int v20])), (qo70, .inl (cz1, 60, .inl fm)), (qo71, .inl (cz2, 60, .inl fp)), (qo72, .inl (cz3, 60, .inl fh))]) [0, 1, 2, 3, 4, 5] (by decide) rfl
    have hK9 := hK.sub (tys' := [(cz1, .int), (cz2, .int), (cz3, .int)]) [0, 1, 2] rfl
    exact W.iret hx hb hr (fun t ht hW => ⟨⟨(v30), (), rfl, by unfold tg_look; rw [if_pos hs_1], by rw [ht]; exact hP9, va_K.moved hW.alike hK9, hD9⟩, hS.F ht⟩) hS.2.2 dX12_look_35
  by_cases hs_2 : a1 = 12
  · refine lv_tableIn (tgt := 36) hx hb dX12_look_1 (by rw [hs_2]; decide) (by rw [hs_2]; decide) (off := 35) (by rw [hs_2]; rfl) (by decide) ?_
    refine lv_aload_n hx hb dX12_look_36 rfl (lv_at hl 0 rfl) ?_
    refine va_get (D := (dC, dI)) (ci := 12) (v := .ref qo7) (C := RX12) (T := TX12) (N := 11) hx hb hts uV_g2_X12 hown hK hP 0 rfl rfl 8 (by decide) (hts (.fieldLink RX12 53 "ClassMill" "space" "LClassMill$Space;") mw_g2_26) (fun _ h9 => h9) rfl dX12_look_37 ?_
    refine va_get (D := (dC, dI)) (ci := 7) (v := .int v31) (C := RX7) (T := TX7) (N := 8) hx hb hts uV_g2_X7 hown hK hP 1 rfl rfl 4 (by decide) (hts (.fieldLink RX12 165 "ClassMill$Space" "verified" "Z") mw_g2_28) (fun _ h9 => h9) rfl dX12_look_40 ?_
    refine lv_if_eq (tgt := 50) hx hb dX12_look_43 (by decide) (fun c_3 => ?_) (fun c_3 => ?_)
    · have c_3_ := c_3
      refine lv_iconst (v := 0) hx hb dX12_look_50 (by decide) ?_
      have hP9 := hP.sub (ws' := [(h0, .inr (12, [.ref qo1, .int (nI tn), .ref qo2, .ref qo3, .ref qo4, .ref qo5, .ref qo6, .int v7, .ref qo7, .ref qo8, .ref qo9])), (qo7, .inr (7, [.ref qo43, .ref qo44, .ref qo45, .int v30, .int v31, .ref qo46, .ref qo47, .ref qo48])), (qo9, .inr (5, [.ref qo7, .int v1, .int v2, .int v3, .int v4, .int v5, .int v6, .int v7, .ref qo66, .ref qo67, .ref qo68, .ref qo69, .ref qo70, .ref qo71, .ref qo72, .ref qo73, .ref qo74, .int (nI tp), .ref qo75, .int v19, .int v20])), (qo70, .inl (cz1, 60, .inl fm)), (qo71, .inl (cz2, 60, .inl fp)), (qo72, .inl (cz3, 60, .inl fh))]) [0, 1, 2, 3, 4, 5] rfl
      have hD9 := hD.sub (ws' := [(h0, .inr (12, [.ref qo1, .int (nI tn), .ref qo2, .ref qo3, .ref qo4, .ref qo5, .ref qo6, .int v7, .ref qo7, .ref qo8, .ref qo9])), (qo7, .inr (7, [.ref qo43, .ref qo44, .ref qo45, .int v30, .int v31, .ref qo46, .ref qo47, .ref qo48])), (qo9, .inr (5, [.ref qo7, .int v1, .int v2, .int v3, .int v4, .int v5, .int v6, .int v7, .ref qo66, .ref qo67, .ref qo68, .ref qo69, .ref qo70, .ref qo71, .ref qo72, .ref qo73, .ref qo74, .int (nI tp), .ref qo75, .int v19, .int v20])), (qo70, .inl (cz1, 60, .inl fm)), (qo71, .inl (cz2, 60, .inl fp)), (qo72, .inl (cz3, 60, .inl fh))]) [0, 1, 2, 3, 4, 5] (by decide) rfl
      have hK9 := hK.sub (tys' := [(cz1, .int), (cz2, .int), (cz3, .int)]) [0, 1, 2] rfl
      exact W.iret hx hb hr (fun t ht hW => ⟨⟨(0), (), rfl, by unfold tg_look; rw [if_neg hs_1, if_pos hs_2, if_pos c_3], by rw [ht]; exact hP9, va_K.moved hW.alike hK9, hD9⟩, hS.F ht⟩) hS.2.2 dX12_look_51
    · have c_3_ := c_3
      refine lv_iconst (v := 1) hx hb dX12_look_46 (by decide) ?_
      refine lv_goto (tgt := 51) hx hb dX12_look_47 (by decide) ?_
      have hP9 := hP.sub (ws' := [(h0, .inr (12, [.ref qo1, .int (nI tn), .ref qo2, .ref qo3, .ref qo4, .ref qo5, .ref qo6, .int v7, .ref qo7, .ref qo8, .ref qo9])), (qo7, .inr (7, [.ref qo43, .ref qo44, .ref qo45, .int v30, .int v31, .ref qo46, .ref qo47, .ref qo48])), (qo9, .inr (5, [.ref qo7, .int v1, .int v2, .int v3, .int v4, .int v5, .int v6, .int v7, .ref qo66, .ref qo67, .ref qo68, .ref qo69, .ref qo70, .ref qo71, .ref qo72, .ref qo73, .ref qo74, .int (nI tp), .ref qo75, .int v19, .int v20])), (qo70, .inl (cz1, 60, .inl fm)), (qo71, .inl (cz2, 60, .inl fp)), (qo72, .inl (cz3, 60, .inl fh))]) [0, 1, 2, 3, 4, 5] rfl
      have hD9 := hD.sub (ws' := [(h0, .inr (12, [.ref qo1, .int (nI tn), .ref qo2, .ref qo3, .ref qo4, .ref qo5, .ref qo6, .int v7, .ref qo7, .ref qo8, .ref qo9])), (qo7, .inr (7, [.ref qo43, .ref qo44, .ref qo45, .int v30, .int v31, .ref qo46, .ref qo47, .ref qo48])), (qo9, .inr (5, [.ref qo7, .int v1, .int v2, .int v3, .int v4, .int v5, .int v6, .int v7, .ref qo66, .ref qo67, .ref qo68, .ref qo69, .ref qo70, .ref qo71, .ref qo72, .ref qo73, .ref qo74, .int (nI tp), .ref qo75, .int v19, .int v20])), (qo70, .inl (cz1, 60, .inl fm)), (qo71, .inl (cz2, 60, .inl fp)), (qo72, .inl (cz3, 60, .inl fh))]) [0, 1, 2, 3, 4, 5] (by decide) rfl
      have hK9 := hK.sub (tys' := [(cz1, .int), (cz2, .int), (cz3, .int)]) [0, 1, 2] rfl
      exact W.iret hx hb hr (fun t ht hW => ⟨⟨(1), (), rfl, by unfold tg_look; rw [if_neg hs_1, if_pos hs_2, if_neg c_3], by rw [ht]; exact hP9, va_K.moved hW.alike hK9, hD9⟩, hS.F ht⟩) hS.2.2 dX12_look_51
  by_cases hs_4 : a1 = 13
  · refine lv_tableIn (tgt := 52) hx hb dX12_look_1 (by rw [hs_4]; decide) (by rw [hs_4]; decide) (off := 51) (by rw [hs_4]; rfl) (by decide) ?_
    refine lv_aload_n hx hb dX12_look_52 rfl (lv_at hl 0 rfl) ?_
    refine va_get (D := (dC, dI)) (ci := 12) (v := .int (nI tn)) (C := RX12) (T := TX12) (N := 11) hx hb hts uV_g2_X12 hown hK hP 0 rfl rfl 1 (by decide) (hts (.fieldLink RX12 73 "ClassMill" "taped" "I") mw_g2_29) (fun _ h9 => h9) rfl dX12_look_53 ?_
    have hP9 := hP.sub (ws' := [(h0, .inr (12, [.ref qo1, .int (nI tn), .ref qo2, .ref qo3, .ref qo4, .ref qo5, .ref qo6, .int v7, .ref qo7, .ref qo8, .ref qo9])), (qo7, .inr (7, [.ref qo43, .ref qo44, .ref qo45, .int v30, .int v31, .ref qo46, .ref qo47, .ref qo48])), (qo9, .inr (5, [.ref qo7, .int v1, .int v2, .int v3, .int v4, .int v5, .int v6, .int v7, .ref qo66, .ref qo67, .ref qo68, .ref qo69, .ref qo70, .ref qo71, .ref qo72, .ref qo73, .ref qo74, .int (nI tp), .ref qo75, .int v19, .int v20])), (qo70, .inl (cz1, 60, .inl fm)), (qo71, .inl (cz2, 60, .inl fp)), (qo72, .inl (cz3, 60, .inl fh))]) [0, 1, 2, 3, 4, 5] rfl
    have hD9 := hD.sub (ws' := [(h0, .inr (12, [.ref qo1, .int (nI tn), .ref qo2, .ref qo3, .ref qo4, .ref qo5, .ref qo6, .int v7, .ref qo7, .ref qo8, .ref qo9])), (qo7, .inr (7, [.ref qo43, .ref qo44, .ref qo45, .int v30, .int v31, .ref qo46, .ref qo47, .ref qo48])), (qo9, .inr (5, [.ref qo7, .int v1, .int v2, .int v3, .int v4, .int v5, .int v6, .int v7, .ref qo66, .ref qo67, .ref qo68, .ref qo69, .ref qo70, .ref qo71, .ref qo72, .ref qo73, .ref qo74, .int (nI tp), .ref qo75, .int v19, .int v20])), (qo70, .inl (cz1, 60, .inl fm)), (qo71, .inl (cz2, 60, .inl fp)), (qo72, .inl (cz3, 60, .inl fh))]) [0, 1, 2, 3, 4, 5] (by decide) rfl
    have hK9 := hK.sub (tys' := [(cz1, .int), (cz2, .int), (cz3, .int)]) [0, 1, 2] rfl
    exact W.iret hx hb hr (fun t ht hW => ⟨⟨((nI tn)), (), rfl, by unfold tg_look; rw [if_neg hs_1, if_neg hs_2, if_pos hs_4], by rw [ht]; exact hP9, va_K.moved hW.alike hK9, hD9⟩, hS.F ht⟩) hS.2.2 dX12_look_56
  refine lv_tableOut (tgt := 57) hx hb dX12_look_1 (by have a0 := lv_neT hs_1 (a := 11) rfl; have a1 := lv_neT hs_2 (a := 12) rfl; have a2 := lv_neT hs_4 (a := 13) rfl; omega) (by decide) ?_
  refine lv_iload_n hx hb dX12_look_57 rfl (lv_at hl 1 rfl) ?_
  refine lv_bipush (v := 7) hx hb dX12_look_58 (by decide) ?_
  refine lv_icmp_lt (tgt := 80) hx hb dX12_look_60 (by decide) (fun c_5 => ?_) (fun c_5 => ?_)
  · have c_5_ := c_5
    refine lv_aload_n hx hb dX12_look_80 rfl (lv_at hl 0 rfl) ?_
    refine va_get (D := (dC, dI)) (ci := 12) (v := .ref qo9) (C := RX12) (T := TX12) (N := 11) hx hb hts uV_g2_X12 hown hK hP 0 rfl rfl 10 (by decide) (hts (.fieldLink RX12 69 "ClassMill" "machine" "LClassMill$Machine;") mw_g2_17) (fun _ h9 => h9) rfl dX12_look_81 ?_
    refine lv_iload_n hx hb dX12_look_84 rfl (lv_at hl 1 rfl) ?_
    have hPc := hP.sub (ws' := [(qo9, .inr (5, [.ref qo7, .int v1, .int v2, .int v3, .int v4, .int v5, .int v6, .int v7, .ref qo66, .ref qo67, .ref qo68, .ref qo69, .ref qo70, .ref qo71, .ref qo72, .ref qo73, .ref qo74, .int (nI tp), .ref qo75, .int v19, .int v20]))]) [2] rfl
    have hDc := hD.sub (ws' := [(qo9, .inr (5, [.ref qo7, .int v1, .int v2, .int v3, .int v4, .int v5, .int v6, .int v7, .ref qo66, .ref qo67, .ref qo68, .ref qo69, .ref qo70, .ref qo71, .ref qo72, .ref qo73, .ref qo74, .int (nI tp), .ref qo75, .int v19, .int v20]))]) [2] (by decide) rfl
    have hKc := hK.sub (tys' := []) [] rfl
    have hFc := va_free (wc := [(qo9, .inr (5, [.ref qo7, .int v1, .int v2, .int v3, .int v4, .int v5, .int v6, .int v7, .ref qo66, .ref qo67, .ref qo68, .ref qo69, .ref qo70, .ref qo71, .ref qo72, .ref qo73, .ref qo74, .int (nI tp), .ref qo75, .int v19, .int v20]))]) hD hS hA [2] rfl
    refine va_calli (va_runV (As := [.int a1]) (rest := []) ⟨hx, hb, hml, hown, hts⟩ (kg_tell l dC dI H.size qo9 a1 qo7 v1 v2 v3 v4 v5 v6 v7 qo66 qo67 qo68 qo69 qo70 qo71 qo72 qo73 qo74 tp qo75 v19 v20) (cwV 1 hts gv_g2_1 rfl rfl rfl (by decide +kernel) ⟨Nat.le_of_ble_eq_true rfl, Nat.le_of_ble_eq_true rfl⟩) ⟨fun a U g mk q => by obtain ⟨q0, q1, qP, qK, qD⟩ := q; exact ⟨q0, q1, qP, va_K.moved (u := U) (U := U.calling g mk a) (Vm.Alike.refl U.vm) qK, qD⟩, va_recv hKc hPc (ci := 5) (q0 := 0) rfl rfl, fun U hU hW => ⟨rfl, by rw [hU], by rw [hU]; exact hPc, va_K.moved hW.alike hKc, hDc.weaken (fun _ _ _ _ => trivial)⟩⟩ rfl rfl hl.1 rfl (lv_room (Nat.le_of_ble_eq_true rfl)) dX12_look_85 ⟨Nat.le_of_ble_eq_true rfl, Nat.le_of_ble_eq_true rfl⟩) hS (fun q _ h => hFc q h) hFc ?_
    clear hS
    intro r_6 u t H1 locs ht hvm hw hB hz1 hk1 hS
    obtain ⟨⟩ := u
    obtain ⟨hP1, hK1, hD1⟩ := hB
    rw [ht] at hP1
    have hK1 := va_K.moved hvm.symm hK1
    try dsimp only at hw
    have hPD := va_join (wr := [(h0, .inr (12, [.ref qo1, .int (nI tn), .ref qo2, .ref qo3, .ref qo4, .ref qo5, .ref qo6, .int v7, .ref qo7, .ref qo8, .ref qo9])), (qo7, .inr (7, [.ref qo43, .ref qo44, .ref qo45, .int v30, .int v31, .ref qo46, .ref qo47, .ref qo48])), (qo70, .inl (cz1, 60, .inl fm)), (qo71, .inl (cz2, 60, .inl fp)), (qo72, .inl (cz3, 60, .inl fh))]) (w1 := [(qo9, .inr (5, [.ref qo7, .int v1, .int v2, .int v3, .int v4, .int v5, .int v6, .int v7, .ref qo66, .ref qo67, .ref qo68, .ref qo69, .ref qo70, .ref qo71, .ref qo72, .ref qo73, .ref qo74, .int (nI tp), .ref qo75, .int v19, .int v20]))]) hP hD [2] [0, 1, 3, 4, 5] rfl rfl (by decide) (by decide) hk1 hFc hP1 hD1
    clear hP hD
    obtain ⟨hP, hD⟩ := hPD
    replace hK := (hK.sub (tys' := [(cz1, .int), (cz2, .int), (cz3, .int)]) [0, 1, 2] rfl).app hK1
    clear hPc hDc hKc hFc hP1 hK1 hD1 hz1 hk1 ht hvm
    generalize H1 = H at hP hS ⊢
    replace hP : va_P (dC, dI) vwCl [(h0, .inr (12, [.ref qo1, .int (nI tn), .ref qo2, .ref qo3, .ref qo4, .ref qo5, .ref qo6, .int v7, .ref qo7, .ref qo8, .ref qo9])), (qo7, .inr (7, [.ref qo43, .ref qo44, .ref qo45, .int v30, .int v31, .ref qo46, .ref qo47, .ref qo48])), (qo70, .inl (cz1, 60, .inl fm)), (qo71, .inl (cz2, 60, .inl fp)), (qo72, .inl (cz3, 60, .inl fh)), (qo9, .inr (5, [.ref qo7, .int v1, .int v2, .int v3, .int v4, .int v5, .int v6, .int v7, .ref qo66, .ref qo67, .ref qo68, .ref qo69, .ref qo70, .ref qo71, .ref qo72, .ref qo73, .ref qo74, .int (nI tp), .ref qo75, .int v19, .int v20]))] H := hP
    replace hD : va_D A [(h0, .inr (12, [.ref qo1, .int (nI tn), .ref qo2, .ref qo3, .ref qo4, .ref qo5, .ref qo6, .int v7, .ref qo7, .ref qo8, .ref qo9])), (qo7, .inr (7, [.ref qo43, .ref qo44, .ref qo45, .int v30, .int v31, .ref qo46, .ref qo47, .ref qo48])), (qo70, .inl (cz1, 60, .inl fm)), (qo71, .inl (cz2, 60, .inl fp)), (qo72, .inl (cz3, 60, .inl fh)), (qo9, .inr (5, [.ref qo7, .int v1, .int v2, .int v3, .int v4, .int v5, .int v6, .int v7, .ref qo66, .ref qo67, .ref qo68, .ref qo69, .ref qo70, .ref qo71, .ref qo72, .ref qo73, .ref qo74, .int (nI tp), .ref qo75, .int v19, .int v20]))] := hD
    replace hK : va_K (dC, dI) vwCl [(cz1, .int), (cz2, .int), (cz3, .int)] s := hK
    subst hw
    have hP9 := hP.sub (ws' := [(h0, .inr (12, [.ref qo1, .int (nI tn), .ref qo2, .ref qo3, .ref qo4, .ref qo5, .ref qo6, .int v7, .ref qo7, .ref qo8, .ref qo9])), (qo7, .inr (7, [.ref qo43, .ref qo44, .ref qo45, .int v30, .int v31, .ref qo46, .ref qo47, .ref qo48])), (qo9, .inr (5, [.ref qo7, .int v1, .int v2, .int v3, .int v4, .int v5, .int v6, .int v7, .ref qo66, .ref qo67, .ref qo68, .ref qo69, .ref qo70, .ref qo71, .ref qo72, .ref qo73, .ref qo74, .int (nI tp), .ref qo75, .int v19, .int v20])), (qo70, .inl (cz1, 60, .inl fm)), (qo71, .inl (cz2, 60, .inl fp)), (qo72, .inl (cz3, 60, .inl fh))]) [0, 1, 5, 2, 3, 4] rfl
    have hD9 := hD.sub (ws' := [(h0, .inr (12, [.ref qo1, .int (nI tn), .ref qo2, .ref qo3, .ref qo4, .ref qo5, .ref qo6, .int v7, .ref qo7, .ref qo8, .ref qo9])), (qo7, .inr (7, [.ref qo43, .ref qo44, .ref qo45, .int v30, .int v31, .ref qo46, .ref qo47, .ref qo48])), (qo9, .inr (5, [.ref qo7, .int v1, .int v2, .int v3, .int v4, .int v5, .int v6, .int v7, .ref qo66, .ref qo67, .ref qo68, .ref qo69, .ref qo70, .ref qo71, .ref qo72, .ref qo73, .ref qo74, .int (nI tp), .ref qo75, .int v19, .int v20])), (qo70, .inl (cz1, 60, .inl fm)), (qo71, .inl (cz2, 60, .inl fp)), (qo72, .inl (cz3, 60, .inl fh))]) [0, 1, 5, 2, 3, 4] (by decide) rfl
    have hK9 := hK.sub (tys' := [(cz1, .int), (cz2, .int), (cz3, .int)]) [0, 1, 2] rfl
    exact W.iret hx hb hr (fun t ht hW => ⟨⟨((tg_tell v1 v2 v3 v4 v5 v6 v7 a1)), (), rfl, by unfold tg_look; rw [if_neg hs_1, if_neg hs_2, if_neg hs_4, if_pos c_5], by rw [ht]; exact hP9, va_K.moved hW.alike hK9, hD9⟩, hS.F ht⟩) hS.2.2 dX12_look_88
  · have c_5_ := c_5
    refine lv_iload_n hx hb dX12_look_63 rfl (lv_at hl 1 rfl) ?_
    refine lv_bipush (v := 10) hx hb dX12_look_64 (by decide) ?_
    refine lv_icmp_gt (tgt := 80) hx hb dX12_look_66 (by decide) (fun c_7 => ?_) (fun c_7 => ?_)
    · have c_7_ := c_7
      refine lv_aload_n hx hb dX12_look_80 rfl (lv_at hl 0 rfl) ?_
      refine va_get (D := (dC, dI)) (ci := 12) (v := .ref qo9) (C := RX12) (T := TX12) (N := 11) hx hb hts uV_g2_X12 hown hK hP 0 rfl rfl 10 (by decide) (hts (.fieldLink RX12 69 "ClassMill" "machine" "LClassMill$Machine;") mw_g2_17) (fun _ h9 => h9) rfl dX12_look_81 ?_
      refine lv_iload_n hx hb dX12_look_84 rfl (lv_at hl 1 rfl) ?_
      have hPc := hP.sub (ws' := [(qo9, .inr (5, [.ref qo7, .int v1, .int v2, .int v3, .int v4, .int v5, .int v6, .int v7, .ref qo66, .ref qo67, .ref qo68, .ref qo69, .ref qo70, .ref qo71, .ref qo72, .ref qo73, .ref qo74, .int (nI tp), .ref qo75, .int v19, .int v20]))]) [2] rfl
      have hDc := hD.sub (ws' := [(qo9, .inr (5, [.ref qo7, .int v1, .int v2, .int v3, .int v4, .int v5, .int v6, .int v7, .ref qo66, .ref qo67, .ref qo68, .ref qo69, .ref qo70, .ref qo71, .ref qo72, .ref qo73, .ref qo74, .int (nI tp), .ref qo75, .int v19, .int v20]))]) [2] (by decide) rfl
      have hKc := hK.sub (tys' := []) [] rfl
      have hFc := va_free (wc := [(qo9, .inr (5, [.ref qo7, .int v1, .int v2, .int v3, .int v4, .int v5, .int v6, .int v7, .ref qo66, .ref qo67, .ref qo68, .ref qo69, .ref qo70, .ref qo71, .ref qo72, .ref qo73, .ref qo74, .int (nI tp), .ref qo75, .int v19, .int v20]))]) hD hS hA [2] rfl
      refine va_calli (va_runV (As := [.int a1]) (rest := []) ⟨hx, hb, hml, hown, hts⟩ (kg_tell l dC dI H.size qo9 a1 qo7 v1 v2 v3 v4 v5 v6 v7 qo66 qo67 qo68 qo69 qo70 qo71 qo72 qo73 qo74 tp qo75 v19 v20) (cwV 1 hts gv_g2_1 rfl rfl rfl (by decide +kernel) ⟨Nat.le_of_ble_eq_true rfl, Nat.le_of_ble_eq_true rfl⟩) ⟨fun a U g mk q => by obtain ⟨q0, q1, qP, qK, qD⟩ := q; exact ⟨q0, q1, qP, va_K.moved (u := U) (U := U.calling g mk a) (Vm.Alike.refl U.vm) qK, qD⟩, va_recv hKc hPc (ci := 5) (q0 := 0) rfl rfl, fun U hU hW => ⟨rfl, by rw [hU], by rw [hU]; exact hPc, va_K.moved hW.alike hKc, hDc.weaken (fun _ _ _ _ => trivial)⟩⟩ rfl rfl hl.1 rfl (lv_room (Nat.le_of_ble_eq_true rfl)) dX12_look_85 ⟨Nat.le_of_ble_eq_true rfl, Nat.le_of_ble_eq_true rfl⟩) hS (fun q _ h => hFc q h) hFc ?_
      clear hS
      intro r_8 u t H1 locs ht hvm hw hB hz1 hk1 hS
      obtain ⟨⟩ := u
      obtain ⟨hP1, hK1, hD1⟩ := hB
      rw [ht] at hP1
      have hK1 := va_K.moved hvm.symm hK1
      try dsimp only at hw
      have hPD := va_join (wr := [(h0, .inr (12, [.ref qo1, .int (nI tn), .ref qo2, .ref qo3, .ref qo4, .ref qo5, .ref qo6, .int v7, .ref qo7, .ref qo8, .ref qo9])), (qo7, .inr (7, [.ref qo43, .ref qo44, .ref qo45, .int v30, .int v31, .ref qo46, .ref qo47, .ref qo48])), (qo70, .inl (cz1, 60, .inl fm)), (qo71, .inl (cz2, 60, .inl fp)), (qo72, .inl (cz3, 60, .inl fh))]) (w1 := [(qo9, .inr (5, [.ref qo7, .int v1, .int v2, .int v3, .int v4, .int v5, .int v6, .int v7, .ref qo66, .ref qo67, .ref qo68, .ref qo69, .ref qo70, .ref qo71, .ref qo72, .ref qo73, .ref qo74, .int (nI tp), .ref qo75, .int v19, .int v20]))]) hP hD [2] [0, 1, 3, 4, 5] rfl rfl (by decide) (by decide) hk1 hFc hP1 hD1
      clear hP hD
      obtain ⟨hP, hD⟩ := hPD
      replace hK := (hK.sub (tys' := [(cz1, .int), (cz2, .int), (cz3, .int)]) [0, 1, 2] rfl).app hK1
      clear hPc hDc hKc hFc hP1 hK1 hD1 hz1 hk1 ht hvm
      generalize H1 = H at hP hS ⊢
      replace hP : va_P (dC, dI) vwCl [(h0, .inr (12, [.ref qo1, .int (nI tn), .ref qo2, .ref qo3, .ref qo4, .ref qo5, .ref qo6, .int v7, .ref qo7, .ref qo8, .ref qo9])), (qo7, .inr (7, [.ref qo43, .ref qo44, .ref qo45, .int v30, .int v31, .ref qo46, .ref qo47, .ref qo48])), (qo70, .inl (cz1, 60, .inl fm)), (qo71, .inl (cz2, 60, .inl fp)), (qo72, .inl (cz3, 60, .inl fh)), (qo9, .inr (5, [.ref qo7, .int v1, .int v2, .int v3, .int v4, .int v5, .int v6, .int v7, .ref qo66, .ref qo67, .ref qo68, .ref qo69, .ref qo70, .ref qo71, .ref qo72, .ref qo73, .ref qo74, .int (nI tp), .ref qo75, .int v19, .int v20]))] H := hP
      replace hD : va_D A [(h0, .inr (12, [.ref qo1, .int (nI tn), .ref qo2, .ref qo3, .ref qo4, .ref qo5, .ref qo6, .int v7, .ref qo7, .ref qo8, .ref qo9])), (qo7, .inr (7, [.ref qo43, .ref qo44, .ref qo45, .int v30, .int v31, .ref qo46, .ref qo47, .ref qo48])), (qo70, .inl (cz1, 60, .inl fm)), (qo71, .inl (cz2, 60, .inl fp)), (qo72, .inl (cz3, 60, .inl fh)), (qo9, .inr (5, [.ref qo7, .int v1, .int v2, .int v3, .int v4, .int v5, .int v6, .int v7, .ref qo66, .ref qo67, .ref qo68, .ref qo69, .ref qo70, .ref qo71, .ref qo72, .ref qo73, .ref qo74, .int (nI tp), .ref qo75, .int v19, .int v20]))] := hD
      replace hK : va_K (dC, dI) vwCl [(cz1, .int), (cz2, .int), (cz3, .int)] s := hK
      subst hw
      have hP9 := hP.sub (ws' := [(h0, .inr (12, [.ref qo1, .int (nI tn), .ref qo2, .ref qo3, .ref qo4, .ref qo5, .ref qo6, .int v7, .ref qo7, .ref qo8, .ref qo9])), (qo7, .inr (7, [.ref qo43, .ref qo44, .ref qo45, .int v30, .int v31, .ref qo46, .ref qo47, .ref qo48])), (qo9, .inr (5, [.ref qo7, .int v1, .int v2, .int v3, .int v4, .int v5, .int v6, .int v7, .ref qo66, .ref qo67, .ref qo68, .ref qo69, .ref qo70, .ref qo71, .ref qo72, .ref qo73, .ref qo74, .int (nI tp), .ref qo75, .int v19, .int v20])), (qo70, .inl (cz1, 60, .inl fm)), (qo71, .inl (cz2, 60, .inl fp)), (qo72, .inl (cz3, 60, .inl fh))]) [0, 1, 5, 2, 3, 4] rfl
      have hD9 := hD.sub (ws' := [(h0, .inr (12, [.ref qo1, .int (nI tn), .ref qo2, .ref qo3, .ref qo4, .ref qo5, .ref qo6, .int v7, .ref qo7, .ref qo8, .ref qo9])), (qo7, .inr (7, [.ref qo43, .ref qo44, .ref qo45, .int v30, .int v31, .ref qo46, .ref qo47, .ref qo48])), (qo9, .inr (5, [.ref qo7, .int v1, .int v2, .int v3, .int v4, .int v5, .int v6, .int v7, .ref qo66, .ref qo67, .ref qo68, .ref qo69, .ref qo70, .ref qo71, .ref qo72, .ref qo73, .ref qo74, .int (nI tp), .ref qo75, .int v19, .int v20])), (qo70, .inl (cz1, 60, .inl fm)), (qo71, .inl (cz2, 60, .inl fp)), (qo72, .inl (cz3, 60, .inl fh))]) [0, 1, 5, 2, 3, 4] (by decide) rfl
      have hK9 := hK.sub (tys' := [(cz1, .int), (cz2, .int), (cz3, .int)]) [0, 1, 2] rfl
      exact W.iret hx hb hr (fun t ht hW => ⟨⟨((tg_tell v1 v2 v3 v4 v5 v6 v7 a1)), (), rfl, by unfold tg_look; rw [if_neg hs_1, if_neg hs_2, if_neg hs_4, if_neg c_5, if_pos c_7], by rw [ht]; exact hP9, va_K.moved hW.alike hK9, hD9⟩, hS.F ht⟩) hS.2.2 dX12_look_88
    · have c_7_ := c_7
      refine lv_aload_n hx hb dX12_look_69 rfl (lv_at hl 0 rfl) ?_
      refine va_get (D := (dC, dI)) (ci := 12) (v := .ref qo9) (C := RX12) (T := TX12) (N := 11) hx hb hts uV_g2_X12 hown hK hP 0 rfl rfl 10 (by decide) (hts (.fieldLink RX12 69 "ClassMill" "machine" "LClassMill$Machine;") mw_g2_17) (fun _ h9 => h9) rfl dX12_look_70 ?_
      refine lv_iload_n hx hb dX12_look_73 rfl (lv_at hl 1 rfl) ?_
      have hPc := hP.sub (ws' := [(qo9, .inr (5, [.ref qo7, .int v1, .int v2, .int v3, .int v4, .int v5, .int v6, .int v7, .ref qo66, .ref qo67, .ref qo68, .ref qo69, .ref qo70, .ref qo71, .ref qo72, .ref qo73, .ref qo74, .int (nI tp), .ref qo75, .int v19, .int v20])), (qo70, .inl (cz1, 60, .inl fm)), (qo71, .inl (cz2, 60, .inl fp)), (qo72, .inl (cz3, 60, .inl fh))]) [2, 3, 4, 5] rfl
      have hDc := hD.sub (ws' := [(qo9, .inr (5, [.ref qo7, .int v1, .int v2, .int v3, .int v4, .int v5, .int v6, .int v7, .ref qo66, .ref qo67, .ref qo68, .ref qo69, .ref qo70, .ref qo71, .ref qo72, .ref qo73, .ref qo74, .int (nI tp), .ref qo75, .int v19, .int v20])), (qo70, .inl (cz1, 60, .inl fm)), (qo71, .inl (cz2, 60, .inl fp)), (qo72, .inl (cz3, 60, .inl fh))]) [2, 3, 4, 5] (by decide) rfl
      have hKc := hK.sub (tys' := [(cz1, .int), (cz2, .int), (cz3, .int)]) [0, 1, 2] rfl
      have hFc := va_free (wc := [(qo9, .inr (5, [.ref qo7, .int v1, .int v2, .int v3, .int v4, .int v5, .int v6, .int v7, .ref qo66, .ref qo67, .ref qo68, .ref qo69, .ref qo70, .ref qo71, .ref qo72, .ref qo73, .ref qo74, .int (nI tp), .ref qo75, .int v19, .int v20])), (qo70, .inl (cz1, 60, .inl fm)), (qo71, .inl (cz2, 60, .inl fp)), (qo72, .inl (cz3, 60, .inl fh))]) hD hS hA [2, 3, 4, 5] rfl
      refine va_calli (va_runV (As := [.int a1]) (rest := []) ⟨hx, hb, hml, hown, hts⟩ (kg_tellTop l dC dI H.size qo9 a1 qo7 v1 v2 v3 v4 v5 v6 v7 qo66 qo67 qo68 qo69 qo70 qo71 qo72 qo73 qo74 tp qo75 v19 v20 cz1 fm cz2 fp cz3 fh htp) (cwV 1 hts gv_g2_2 rfl rfl rfl (by decide +kernel) ⟨Nat.le_of_ble_eq_true rfl, Nat.le_of_ble_eq_true rfl⟩) ⟨fun a U g mk q => by obtain ⟨q0, q1, qP, qK, qD⟩ := q; exact ⟨q0, q1, qP, va_K.moved (u := U) (U := U.calling g mk a) (Vm.Alike.refl U.vm) qK, qD⟩, va_recv hKc hPc (ci := 5) (q0 := 0) rfl rfl, fun U hU hW => ⟨rfl, by rw [hU], by rw [hU]; exact hPc, va_K.moved hW.alike hKc, hDc.weaken (fun _ _ _ _ => trivial)⟩⟩ rfl rfl hl.1 rfl (lv_room (Nat.le_of_ble_eq_true rfl)) dX12_look_74 ⟨Nat.le_of_ble_eq_true rfl, Nat.le_of_ble_eq_true rfl⟩) hS (fun q _ h => hFc q h) hFc ?_
      clear hS
      intro r_9 u t H1 locs ht hvm hw hB hz1 hk1 hS
      obtain ⟨⟩ := u
      obtain ⟨hP1, hK1, hD1⟩ := hB
      rw [ht] at hP1
      have hK1 := va_K.moved hvm.symm hK1
      try dsimp only at hw
      have hPD := va_join (wr := [(h0, .inr (12, [.ref qo1, .int (nI tn), .ref qo2, .ref qo3, .ref qo4, .ref qo5, .ref qo6, .int v7, .ref qo7, .ref qo8, .ref qo9])), (qo7, .inr (7, [.ref qo43, .ref qo44, .ref qo45, .int v30, .int v31, .ref qo46, .ref qo47, .ref qo48]))]) (w1 := [(qo9, .inr (5, [.ref qo7, .int v1, .int v2, .int v3, .int v4, .int v5, .int v6, .int v7, .ref qo66, .ref qo67, .ref qo68, .ref qo69, .ref qo70, .ref qo71, .ref qo72, .ref qo73, .ref qo74, .int (nI tp), .ref qo75, .int v19, .int v20])), (qo70, .inl (cz1, 60, .inl fm)), (qo71, .inl (cz2, 60, .inl fp)), (qo72, .inl (cz3, 60, .inl fh))]) hP hD [2, 3, 4, 5] [0, 1] rfl rfl (by decide) (by decide) hk1 hFc hP1 hD1
      clear hP hD
      obtain ⟨hP, hD⟩ := hPD
      replace hK := (hK.sub (tys' := []) [] rfl).app hK1
      clear hPc hDc hKc hFc hP1 hK1 hD1 hz1 hk1 ht hvm
      generalize H1 = H at hP hS ⊢
      replace hP : va_P (dC, dI) vwCl [(h0, .inr (12, [.ref qo1, .int (nI tn), .ref qo2, .ref qo3, .ref qo4, .ref qo5, .ref qo6, .int v7, .ref qo7, .ref qo8, .ref qo9])), (qo7, .inr (7, [.ref qo43, .ref qo44, .ref qo45, .int v30, .int v31, .ref qo46, .ref qo47, .ref qo48])), (qo9, .inr (5, [.ref qo7, .int v1, .int v2, .int v3, .int v4, .int v5, .int v6, .int v7, .ref qo66, .ref qo67, .ref qo68, .ref qo69, .ref qo70, .ref qo71, .ref qo72, .ref qo73, .ref qo74, .int (nI tp), .ref qo75, .int v19, .int v20])), (qo70, .inl (cz1, 60, .inl fm)), (qo71, .inl (cz2, 60, .inl fp)), (qo72, .inl (cz3, 60, .inl fh))] H := hP
      replace hD : va_D A [(h0, .inr (12, [.ref qo1, .int (nI tn), .ref qo2, .ref qo3, .ref qo4, .ref qo5, .ref qo6, .int v7, .ref qo7, .ref qo8, .ref qo9])), (qo7, .inr (7, [.ref qo43, .ref qo44, .ref qo45, .int v30, .int v31, .ref qo46, .ref qo47, .ref qo48])), (qo9, .inr (5, [.ref qo7, .int v1, .int v2, .int v3, .int v4, .int v5, .int v6, .int v7, .ref qo66, .ref qo67, .ref qo68, .ref qo69, .ref qo70, .ref qo71, .ref qo72, .ref qo73, .ref qo74, .int (nI tp), .ref qo75, .int v19, .int v20])), (qo70, .inl (cz1, 60, .inl fm)), (qo71, .inl (cz2, 60, .inl fp)), (qo72, .inl (cz3, 60, .inl fh))] := hD
      replace hK : va_K (dC, dI) vwCl [(cz1, .int), (cz2, .int), (cz3, .int)] s := hK
      subst hw
      refine lv_goto (tgt := 88) hx hb dX12_look_77 (by decide) ?_
      have hP9 := hP.sub (ws' := [(h0, .inr (12, [.ref qo1, .int (nI tn), .ref qo2, .ref qo3, .ref qo4, .ref qo5, .ref qo6, .int v7, .ref qo7, .ref qo8, .ref qo9])), (qo7, .inr (7, [.ref qo43, .ref qo44, .ref qo45, .int v30, .int v31, .ref qo46, .ref qo47, .ref qo48])), (qo9, .inr (5, [.ref qo7, .int v1, .int v2, .int v3, .int v4, .int v5, .int v6, .int v7, .ref qo66, .ref qo67, .ref qo68, .ref qo69, .ref qo70, .ref qo71, .ref qo72, .ref qo73, .ref qo74, .int (nI tp), .ref qo75, .int v19, .int v20])), (qo70, .inl (cz1, 60, .inl fm)), (qo71, .inl (cz2, 60, .inl fp)), (qo72, .inl (cz3, 60, .inl fh))]) [0, 1, 2, 3, 4, 5] rfl
      have hD9 := hD.sub (ws' := [(h0, .inr (12, [.ref qo1, .int (nI tn), .ref qo2, .ref qo3, .ref qo4, .ref qo5, .ref qo6, .int v7, .ref qo7, .ref qo8, .ref qo9])), (qo7, .inr (7, [.ref qo43, .ref qo44, .ref qo45, .int v30, .int v31, .ref qo46, .ref qo47, .ref qo48])), (qo9, .inr (5, [.ref qo7, .int v1, .int v2, .int v3, .int v4, .int v5, .int v6, .int v7, .ref qo66, .ref qo67, .ref qo68, .ref qo69, .ref qo70, .ref qo71, .ref qo72, .ref qo73, .ref qo74, .int (nI tp), .ref qo75, .int v19, .int v20])), (qo70, .inl (cz1, 60, .inl fm)), (qo71, .inl (cz2, 60, .inl fp)), (qo72, .inl (cz3, 60, .inl fh))]) [0, 1, 2, 3, 4, 5] (by decide) rfl
      have hK9 := hK.sub (tys' := [(cz1, .int), (cz2, .int), (cz3, .int)]) [0, 1, 2] rfl
      exact W.iret hx hb hr (fun t ht hW => ⟨⟨((tg_top v1 (fm tp) (fp tp) (fh tp) a1)), (), rfl, by unfold tg_look; rw [if_neg hs_1, if_neg hs_2, if_neg hs_4, if_neg c_5, if_neg c_7], by rw [ht]; exact hP9, va_K.moved hW.alike hK9, hD9⟩, hS.F ht⟩) hS.2.2 dX12_look_88
set_option maxHeartbeats 4000000 in
set_option maxRecDepth 100000 in
/-- kg_mforget -/
theorem kg_mforget (l : Launch) (dC : Nat → ClassId) (dI : Nat → Nat → Nat) (sz : Nat) (qo9 : Nat) (qo7 : Nat) (v1 : Int32) (v2 : Int32) (v3 : Int32) (v4 : Int32) (v5 : Int32) (v6 : Int32) (v7 : Int32) (qo66 : Nat) (qo67 : Nat) (qo68 : Nat) (qo69 : Nat) (qo70 : Nat) (qo71 : Nat) (qo72 : Nat) (qo73 : Nat) (qo74 : Nat) (tp : Nat) (qo75 : Nat) (v19 : Int32) (v20 : Int32)  : Met l yX5_forget (.code yX5_forget cX5_forget 1 none :: VS_g2) ({ frames := 0, cells := 0, slots := 0, locals := 0 }) (va_Pc [.ref qo9] (fun U => U.heap.size = sz ∧ va_P (dC, dI) vwCl [(qo9, .inr (5, [.ref qo7, .int v1, .int v2, .int v3, .int v4, .int v5, .int v6, .int v7, .ref qo66, .ref qo67, .ref qo68, .ref qo69, .ref qo70, .ref qo71, .ref qo72, .ref qo73, .ref qo74, .int (nI tp), .ref qo75, .int v19, .int v20]))] U.heap ∧ va_K (dC, dI) vwCl [] U ∧ va_D (fun _ => True) [(qo9, .inr (5, [.ref qo7, .int v1, .int v2, .int v3, .int v4, .int v5, .int v6, .int v7, .ref qo66, .ref qo67, .ref qo68, .ref qo69, .ref qo70, .ref qo71, .ref qo72, .ref qo73, .ref qo74, .int (nI tp), .ref qo75, .int v19, .int v20]))])) (va_Qv (fun (u : Unit) => match u with | () => True) (fun (u : Unit) (t : State) => match u with | () => va_P (dC, dI) vwCl [(qo9, .inr (5, [.ref qo7, .int 0, .int (-1), .int 0, .int 0, .int 0, .int 0, .int 0, .ref qo66, .ref qo67, .ref qo68, .ref qo69, .ref qo70, .ref qo71, .ref qo72, .ref qo73, .ref qo74, .int (nI tp), .ref qo75, .int v19, .int v20]))] t.heap ∧ va_K (dC, dI) vwCl [] t ∧ va_D (va_A [(qo9, .inr (5, [.ref qo7, .int v1, .int v2, .int v3, .int v4, .int v5, .int v6, .int v7, .ref qo66, .ref qo67, .ref qo68, .ref qo69, .ref qo70, .ref qo71, .ref qo72, .ref qo73, .ref qo74, .int (nI tp), .ref qo75, .int v19, .int v20]))] sz) [(qo9, .inr (5, [.ref qo7, .int 0, .int (-1), .int 0, .int 0, .int 0, .int 0, .int 0, .ref qo66, .ref qo67, .ref qo68, .ref qo69, .ref qo70, .ref qo71, .ref qo72, .ref qo73, .ref qo74, .int (nI tp), .ref qo75, .int v19, .int v20]))]) (va_A [(qo9, .inr (5, [.ref qo7, .int v1, .int v2, .int v3, .int v4, .int v5, .int v6, .int v7, .ref qo66, .ref qo67, .ref qo68, .ref qo69, .ref qo70, .ref qo71, .ref qo72, .ref qo73, .ref qo74, .int (nI tp), .ref qo75, .int v19, .int v20]))] sz)) 0 0 (va_A [(qo9, .inr (5, [.ref qo7, .int v1, .int v2, .int v3, .int v4, .int v5, .int v6, .int v7, .ref qo66, .ref qo67, .ref qo68, .ref qo69, .ref qo70, .ref qo71, .ref qo72, .ref qo73, .ref qo74, .int (nI tp), .ref qo75, .int v19, .int v20]))] sz) := by
  refine Met.ofW (cc := cX5_forget) (maxL := 1) (ret := none) (by decide) rfl ?_
  intro p e s m args below meth c s₁ B hml hv
  obtain ⟨rfl, hsz, hP, hK, hD0⟩ := hv
  have hx := B.exec
  have hb := B.bytes
  have hr := B.returns
  have hts := atoms_spec (ws := (.code yX5_forget cX5_forget 1 none :: VS_g2)) B.pre
  replace hts := fun w (h : w ∈ VS_g2) => hts w (List.mem_cons_of_mem _ h)
  have hown : s.vm.findClass RX5 = some m.cls := findClass_of_methodNamed B.named
  have hlocks := B.notSynchronized
  subst hsz
  have hD := hD0.self (sz := s.heap.size)
  generalize hAe : va_A [(qo9, .inr (5, [.ref qo7, .int v1, .int v2, .int v3, .int v4, .int v5, .int v6, .int v7, .ref qo66, .ref qo67, .ref qo68, .ref qo69, .ref qo70, .ref qo71, .ref qo72, .ref qo73, .ref qo74, .int (nI tp), .ref qo75, .int v19, .int v20]))] s.heap.size = A at hD  ⊢
  have hA : ∀ q : Nat, s.heap.size ≤ q → A q := fun q h => by rw [← hAe]; exact Or.inr h
  have hP : va_P (dC, dI) vwCl [(qo9, .inr (5, [.ref qo7, .int v1, .int v2, .int v3, .int v4, .int v5, .int v6, .int v7, .ref qo66, .ref qo67, .ref qo68, .ref qo69, .ref qo70, .ref qo71, .ref qo72, .ref qo73, .ref qo74, .int (nI tp), .ref qo75, .int v19, .int v20]))] s.heap := hP
  have hl := lv_entry ([.ref qo9]) (n := 1) (Nat.le_of_ble_eq_true rfl)
  rw [lg_entry_eq]
  generalize (lg_sl ([.ref qo9]) ++ List.replicate (1 - (lg_sl ([.ref qo9])).length) Slot.unset).toArray = ls at hl ⊢
  have hl : lv_has ls 1 [(0, .ref qo9)] := hl
  obtain ⟨H, hH⟩ : ∃ H : Heap, s.heap = H := ⟨_, rfl⟩
  rw [hH] at hP ⊢
  have hS : va_S A s.heap H [] := by rw [← hH]; exact va_S.rf
  obtain ⟨locs, hlo⟩ : ∃ locs : List Loc, locs = [] := ⟨_, rfl⟩
  rw [← hlo] at hS ⊢
  refine lv_aload_n hx hb dX5_forget_0 rfl (lv_at hl 0 rfl) ?_
  refine lv_iconst (v := 0) hx hb dX5_forget_1 (by decide) ?_
  refine va_put (D := (dC, dI)) (ci := 5) (v := .int 0) (ty := .int) (C := RX5) (T := TX5) (N := 21) hx hb hts uV_g2_X5 tyX5 tyX5_ok nmX5 hown hK hP hD hS 0 rfl rfl 1 (by decide) (hts (.fieldLink RX5 54 "ClassMill$Machine" "state" "I") mw_g2_0) (fun _ h9 => h9) rfl (by decide +kernel) rfl rfl (Nat.le_of_ble_eq_true rfl) dX5_forget_2 ?_
  clear hP hD hS
  intro H locs hP hD hS
  replace hP : va_P (dC, dI) vwCl [(qo9, .inr (5, [.ref qo7, .int 0, .int v2, .int v3, .int v4, .int v5, .int v6, .int v7, .ref qo66, .ref qo67, .ref qo68, .ref qo69, .ref qo70, .ref qo71, .ref qo72, .ref qo73, .ref qo74, .int (nI tp), .ref qo75, .int v19, .int v20]))] H := hP
  replace hD : va_D A [(qo9, .inr (5, [.ref qo7, .int 0, .int v2, .int v3, .int v4, .int v5, .int v6, .int v7, .ref qo66, .ref qo67, .ref qo68, .ref qo69, .ref qo70, .ref qo71, .ref qo72, .ref qo73, .ref qo74, .int (nI tp), .ref qo75, .int v19, .int v20]))] := hD
  refine lv_aload_n hx hb dX5_forget_5 rfl (lv_at hl 0 rfl) ?_
  refine lv_iconst (v := (-1)) hx hb dX5_forget_6 (by decide) ?_
  refine va_put (D := (dC, dI)) (ci := 5) (v := .int (-1)) (ty := .int) (C := RX5) (T := TX5) (N := 21) hx hb hts uV_g2_X5 tyX5 tyX5_ok nmX5 hown hK hP hD hS 0 rfl rfl 2 (by decide) (hts (.fieldLink RX5 50 "ClassMill$Machine" "gave" "I") mw_g2_1) (fun _ h9 => h9) rfl (by decide +kernel) rfl rfl (Nat.le_of_ble_eq_true rfl) dX5_forget_7 ?_
  clear hP hD hS
  intro H locs hP hD hS
  replace hP : va_P (dC, dI) vwCl [(qo9, .inr (5, [.ref qo7, .int 0, .int (-1), .int v3, .int v4, .int v5, .int v6, .int v7, .ref qo66, .ref qo67, .ref qo68, .ref qo69, .ref qo70, .ref qo71, .ref qo72, .ref qo73, .ref qo74, .int (nI tp), .ref qo75, .int v19, .int v20]))] H := hP
  replace hD : va_D A [(qo9, .inr (5, [.ref qo7, .int 0, .int (-1), .int v3, .int v4, .int v5, .int v6, .int v7, .ref qo66, .ref qo67, .ref qo68, .ref qo69, .ref qo70, .ref qo71, .ref qo72, .ref qo73, .ref qo74, .int (nI tp), .ref qo75, .int v19, .int v20]))] := hD
  refine lv_aload_n hx hb dX5_forget_10 rfl (lv_at hl 0 rfl) ?_
  refine lv_iconst (v := 0) hx hb dX5_forget_11 (by decide) ?_
  refine va_put (D := (dC, dI)) (ci := 5) (v := .int 0) (ty := .int) (C := RX5) (T := TX5) (N := 21) hx hb hts uV_g2_X5 tyX5 tyX5_ok nmX5 hown hK hP hD hS 0 rfl rfl 3 (by decide) (hts (.fieldLink RX5 57 "ClassMill$Machine" "steps" "I") mw_g2_2) (fun _ h9 => h9) rfl (by decide +kernel) rfl rfl (Nat.le_of_ble_eq_true rfl) dX5_forget_12 ?_
  clear hP hD hS
  intro H locs hP hD hS
  replace hP : va_P (dC, dI) vwCl [(qo9, .inr (5, [.ref qo7, .int 0, .int (-1), .int 0, .int v4, .int v5, .int v6, .int v7, .ref qo66, .ref qo67, .ref qo68, .ref qo69, .ref qo70, .ref qo71, .ref qo72, .ref qo73, .ref qo74, .int (nI tp), .ref qo75, .int v19, .int v20]))] H := hP
  replace hD : va_D A [(qo9, .inr (5, [.ref qo7, .int 0, .int (-1), .int 0, .int v4, .int v5, .int v6, .int v7, .ref qo66, .ref qo67, .ref qo68, .ref qo69, .ref qo70, .ref qo71, .ref qo72, .ref qo73, .ref qo74, .int (nI tp), .ref qo75, .int v19, .int v20]))] := hD
  refine lv_aload_n hx hb dX5_forget_15 rfl (lv_at hl 0 rfl) ?_
  refine lv_iconst (v := 0) hx hb dX5_forget_16 (by decide) ?_
  refine va_put (D := (dC, dI)) (ci := 5) (v := .int 0) (ty := .int) (C := RX5) (T := TX5) (N := 21) hx hb hts uV_g2_X5 tyX5 tyX5_ok nmX5 hown hK hP hD hS 0 rfl rfl 4 (by decide) (hts (.fieldLink RX5 60 "ClassMill$Machine" "objects" "I") mw_g2_3) (fun _ h9 => h9) rfl (by decide +kernel) rfl rfl (Nat.le_of_ble_eq_true rfl) dX5_forget_17 ?_
  clear hP hD hS
  intro H locs hP hD hS
  replace hP : va_P (dC, dI) vwCl [(qo9, .inr (5, [.ref qo7, .int 0, .int (-1), .int 0, .int 0, .int v5, .int v6, .int v7, .ref qo66, .ref qo67, .ref qo68, .ref qo69, .ref qo70, .ref qo71, .ref qo72, .ref qo73, .ref qo74, .int (nI tp), .ref qo75, .int v19, .int v20]))] H := hP
  replace hD : va_D A [(qo9, .inr (5, [.ref qo7, .int 0, .int (-1), .int 0, .int 0, .int v5, .int v6, .int v7, .ref qo66, .ref qo67, .ref qo68, .ref qo69, .ref qo70, .ref qo71, .ref qo72, .ref qo73, .ref qo74, .int (nI tp), .ref qo75, .int v19, .int v20]))] := hD
  refine lv_aload_n hx hb dX5_forget_20 rfl (lv_at hl 0 rfl) ?_
  refine lv_iconst (v := 0) hx hb dX5_forget_21 (by decide) ?_
  refine va_put (D := (dC, dI)) (ci := 5) (v := .int 0) (ty := .int) (C := RX5) (T := TX5) (N := 21) hx hb hts uV_g2_X5 tyX5 tyX5_ok nmX5 hown hK hP hD hS 0 rfl rfl 5 (by decide) (hts (.fieldLink RX5 63 "ClassMill$Machine" "cells" "I") mw_g2_4) (fun _ h9 => h9) rfl (by decide +kernel) rfl rfl (Nat.le_of_ble_eq_true rfl) dX5_forget_22 ?_
  clear hP hD hS
  intro H locs hP hD hS
  replace hP : va_P (dC, dI) vwCl [(qo9, .inr (5, [.ref qo7, .int 0, .int (-1), .int 0, .int 0, .int 0, .int v6, .int v7, .ref qo66, .ref qo67, .ref qo68, .ref qo69, .ref qo70, .ref qo71, .ref qo72, .ref qo73, .ref qo74, .int (nI tp), .ref qo75, .int v19, .int v20]))] H := hP
  replace hD : va_D A [(qo9, .inr (5, [.ref qo7, .int 0, .int (-1), .int 0, .int 0, .int 0, .int v6, .int v7, .ref qo66, .ref qo67, .ref qo68, .ref qo69, .ref qo70, .ref qo71, .ref qo72, .ref qo73, .ref qo74, .int (nI tp), .ref qo75, .int v19, .int v20]))] := hD
  refine lv_aload_n hx hb dX5_forget_25 rfl (lv_at hl 0 rfl) ?_
  refine lv_iconst (v := 0) hx hb dX5_forget_26 (by decide) ?_
  refine va_put (D := (dC, dI)) (ci := 5) (v := .int 0) (ty := .int) (C := RX5) (T := TX5) (N := 21) hx hb hts uV_g2_X5 tyX5 tyX5_ok nmX5 hown hK hP hD hS 0 rfl rfl 6 (by decide) (hts (.fieldLink RX5 66 "ClassMill$Machine" "depth" "I") mw_g2_5) (fun _ h9 => h9) rfl (by decide +kernel) rfl rfl (Nat.le_of_ble_eq_true rfl) dX5_forget_27 ?_
  clear hP hD hS
  intro H locs hP hD hS
  replace hP : va_P (dC, dI) vwCl [(qo9, .inr (5, [.ref qo7, .int 0, .int (-1), .int 0, .int 0, .int 0, .int 0, .int v7, .ref qo66, .ref qo67, .ref qo68, .ref qo69, .ref qo70, .ref qo71, .ref qo72, .ref qo73, .ref qo74, .int (nI tp), .ref qo75, .int v19, .int v20]))] H := hP
  replace hD : va_D A [(qo9, .inr (5, [.ref qo7, .int 0, .int (-1), .int 0, .int 0, .int 0, .int 0, .int v7, .ref qo66, .ref qo67, .ref qo68, .ref qo69, .ref qo70, .ref qo71, .ref qo72, .ref qo73, .ref qo74, .int (nI tp), .ref qo75, .int v19, .int v20]))] := hD
  refine lv_aload_n hx hb dX5_forget_30 rfl (lv_at hl 0 rfl) ?_
  refine lv_iconst (v := 0) hx hb dX5_forget_31 (by decide) ?_
  refine va_put (D := (dC, dI)) (ci := 5) (v := .int 0) (ty := .int) (C := RX5) (T := TX5) (N := 21) hx hb hts uV_g2_X5 tyX5 tyX5_ok nmX5 hown hK hP hD hS 0 rfl rfl 7 (by decide) (hts (.fieldLink RX5 69 "ClassMill$Machine" "prints" "I") mw_g2_6) (fun _ h9 => h9) rfl (by decide +kernel) rfl rfl (Nat.le_of_ble_eq_true rfl) dX5_forget_32 ?_
  clear hP hD hS
  intro H locs hP hD hS
  replace hP : va_P (dC, dI) vwCl [(qo9, .inr (5, [.ref qo7, .int 0, .int (-1), .int 0, .int 0, .int 0, .int 0, .int 0, .ref qo66, .ref qo67, .ref qo68, .ref qo69, .ref qo70, .ref qo71, .ref qo72, .ref qo73, .ref qo74, .int (nI tp), .ref qo75, .int v19, .int v20]))] H := hP
  replace hD : va_D A [(qo9, .inr (5, [.ref qo7, .int 0, .int (-1), .int 0, .int 0, .int 0, .int 0, .int 0, .ref qo66, .ref qo67, .ref qo68, .ref qo69, .ref qo70, .ref qo71, .ref qo72, .ref qo73, .ref qo74, .int (nI tp), .ref qo75, .int v19, .int v20]))] := hD
  have hP9 := hP.sub (ws' := [(qo9, .inr (5, [.ref qo7, .int 0, .int (-1), .int 0, .int 0, .int 0, .int 0, .int 0, .ref qo66, .ref qo67, .ref qo68, .ref qo69, .ref qo70, .ref qo71, .ref qo72, .ref qo73, .ref qo74, .int (nI tp), .ref qo75, .int v19, .int v20]))]) [0] rfl
  have hD9 := hD.sub (ws' := [(qo9, .inr (5, [.ref qo7, .int 0, .int (-1), .int 0, .int 0, .int 0, .int 0, .int 0, .ref qo66, .ref qo67, .ref qo68, .ref qo69, .ref qo70, .ref qo71, .ref qo72, .ref qo73, .ref qo74, .int (nI tp), .ref qo75, .int v19, .int v20]))]) [0] (by decide) rfl
  have hK9 := hK.sub (tys' := []) [] rfl
  exact W.vret hx hb hr (fun t ht hW => ⟨⟨(), rfl, trivial, by rw [ht]; exact hP9, va_K.moved hW.alike hK9, hD9⟩, hS.F ht⟩) hS.2.2 dX5_forget_35
set_option maxHeartbeats 4000000 in
set_option maxRecDepth 100000 in
/-- kg_sforget -/
theorem kg_sforget (l : Launch) (dC : Nat → ClassId) (dI : Nat → Nat → Nat) (sz : Nat) (qo7 : Nat) (qo43 : Nat) (qo44 : Nat) (qo45 : Nat) (v30 : Int32) (v31 : Int32) (qo46 : Nat) (qo47 : Nat) (qo48 : Nat) (qo49 : Nat) (qo50 : Nat) (co14 : ClassId) (fk1 : (Nat → Int32)) (co15 : ClassId) (fk2 : (Nat → Int32))  : Met l yX7_forget (.code yX7_forget cX7_forget 1 none :: VS_g2) ({ frames := 2, cells := 0, slots := 0, locals := 44 }) (va_Pc [.ref qo7] (fun U => U.heap.size = sz ∧ va_P (dC, dI) vwCl [(qo7, .inr (7, [.ref qo43, .ref qo44, .ref qo45, .int v30, .int v31, .ref qo46, .ref qo47, .ref qo48])), (qo43, .inr (4, [.ref qo49, .ref qo50])), (qo49, .inl (co14, 16, .inl fk1)), (qo50, .inl (co15, 256, .inl fk2))] U.heap ∧ va_K (dC, dI) vwCl [(co14, .int), (co15, .boolean)] U ∧ va_D (fun _ => True) [(qo7, .inr (7, [.ref qo43, .ref qo44, .ref qo45, .int v30, .int v31, .ref qo46, .ref qo47, .ref qo48])), (qo43, .inr (4, [.ref qo49, .ref qo50])), (qo49, .inl (co14, 16, .inl fk1)), (qo50, .inl (co15, 256, .inl fk2))])) (va_Qv (fun (u : Unit) => match u with | () => True) (fun (u : Unit) (t : State) => match u with | () => va_P (dC, dI) vwCl [(qo7, .inr (7, [.ref qo43, .ref qo44, .ref qo45, .int 0, .int 0, .ref qo46, .ref qo47, .ref qo48])), (qo43, .inr (4, [.ref qo49, .ref qo50]))] t.heap ∧ va_K (dC, dI) vwCl [] t ∧ va_D (va_A [(qo7, .inr (7, [.ref qo43, .ref qo44, .ref qo45, .int v30, .int v31, .ref qo46, .ref qo47, .ref qo48])), (qo43, .inr (4, [.ref qo49, .ref qo50])), (qo49, .inl (co14, 16, .inl fk1)), (qo50, .inl (co15, 256, .inl fk2))] sz) [(qo7, .inr (7, [.ref qo43, .ref qo44, .ref qo45, .int 0, .int 0, .ref qo46, .ref qo47, .ref qo48])), (qo43, .inr (4, [.ref qo49, .ref qo50]))]) (va_A [(qo7, .inr (7, [.ref qo43, .ref qo44, .ref qo45, .int v30, .int v31, .ref qo46, .ref qo47, .ref qo48])), (qo43, .inr (4, [.ref qo49, .ref qo50])), (qo49, .inl (co14, 16, .inl fk1)), (qo50, .inl (co15, 256, .inl fk2))] sz)) 0 0 (va_A [(qo7, .inr (7, [.ref qo43, .ref qo44, .ref qo45, .int v30, .int v31, .ref qo46, .ref qo47, .ref qo48])), (qo43, .inr (4, [.ref qo49, .ref qo50])), (qo49, .inl (co14, 16, .inl fk1)), (qo50, .inl (co15, 256, .inl fk2))] sz) := by
  refine Met.ofW (cc := cX7_forget) (maxL := 1) (ret := none) (by decide) rfl ?_
  intro p e s m args below meth c s₁ B hml hv
  obtain ⟨rfl, hsz, hP, hK, hD0⟩ := hv
  have hx := B.exec
  have hb := B.bytes
  have hr := B.returns
  have hts := atoms_spec (ws := (.code yX7_forget cX7_forget 1 none :: VS_g2)) B.pre
  replace hts := fun w (h : w ∈ VS_g2) => hts w (List.mem_cons_of_mem _ h)
  have hown : s.vm.findClass RX7 = some m.cls := findClass_of_methodNamed B.named
  have hlocks := B.notSynchronized
  subst hsz
  have hD := hD0.self (sz := s.heap.size)
  generalize hAe : va_A [(qo7, .inr (7, [.ref qo43, .ref qo44, .ref qo45, .int v30, .int v31, .ref qo46, .ref qo47, .ref qo48])), (qo43, .inr (4, [.ref qo49, .ref qo50])), (qo49, .inl (co14, 16, .inl fk1)), (qo50, .inl (co15, 256, .inl fk2))] s.heap.size = A at hD  ⊢
  have hA : ∀ q : Nat, s.heap.size ≤ q → A q := fun q h => by rw [← hAe]; exact Or.inr h
  have hP : va_P (dC, dI) vwCl [(qo7, .inr (7, [.ref qo43, .ref qo44, .ref qo45, .int v30, .int v31, .ref qo46, .ref qo47, .ref qo48])), (qo43, .inr (4, [.ref qo49, .ref qo50])), (qo49, .inl (co14, 16, .inl fk1)), (qo50, .inl (co15, 256, .inl fk2))] s.heap := hP
  have hl := lv_entry ([.ref qo7]) (n := 1) (Nat.le_of_ble_eq_true rfl)
  rw [lg_entry_eq]
  generalize (lg_sl ([.ref qo7]) ++ List.replicate (1 - (lg_sl ([.ref qo7])).length) Slot.unset).toArray = ls at hl ⊢
  have hl : lv_has ls 1 [(0, .ref qo7)] := hl
  obtain ⟨H, hH⟩ : ∃ H : Heap, s.heap = H := ⟨_, rfl⟩
  rw [hH] at hP ⊢
  have hS : va_S A s.heap H [] := by rw [← hH]; exact va_S.rf
  obtain ⟨locs, hlo⟩ : ∃ locs : List Loc, locs = [] := ⟨_, rfl⟩
  rw [← hlo] at hS ⊢
  refine lv_aload_n hx hb dX7_forget_0 rfl (lv_at hl 0 rfl) ?_
  refine lv_iconst (v := 0) hx hb dX7_forget_1 (by decide) ?_
  refine va_put (D := (dC, dI)) (ci := 7) (v := .int 0) (ty := .int) (C := RX7) (T := TX7) (N := 8) hx hb hts uV_g2_X7 tyX7 tyX7_ok nmX7 hown hK hP hD hS 0 rfl rfl 3 (by decide) (hts (.fieldLink RX7 41 "ClassMill$Space" "count" "I") mw_g2_34) (fun _ h9 => h9) rfl (by decide +kernel) rfl rfl (Nat.le_of_ble_eq_true rfl) dX7_forget_2 ?_
  clear hP hD hS
  intro H locs hP hD hS
  replace hP : va_P (dC, dI) vwCl [(qo7, .inr (7, [.ref qo43, .ref qo44, .ref qo45, .int 0, .int v31, .ref qo46, .ref qo47, .ref qo48])), (qo43, .inr (4, [.ref qo49, .ref qo50])), (qo49, .inl (co14, 16, .inl fk1)), (qo50, .inl (co15, 256, .inl fk2))] H := hP
  replace hD : va_D A [(qo7, .inr (7, [.ref qo43, .ref qo44, .ref qo45, .int 0, .int v31, .ref qo46, .ref qo47, .ref qo48])), (qo43, .inr (4, [.ref qo49, .ref qo50])), (qo49, .inl (co14, 16, .inl fk1)), (qo50, .inl (co15, 256, .inl fk2))] := hD
  refine lv_aload_n hx hb dX7_forget_5 rfl (lv_at hl 0 rfl) ?_
  refine lv_iconst (v := 0) hx hb dX7_forget_6 (by decide) ?_
  refine va_put (D := (dC, dI)) (ci := 7) (v := .int 0) (ty := .boolean) (C := RX7) (T := TX7) (N := 8) hx hb hts uV_g2_X7 tyX7 tyX7_ok nmX7 hown hK hP hD hS 0 rfl rfl 4 (by decide) (hts (.fieldLink RX7 45 "ClassMill$Space" "verified" "Z") mw_g2_35) (fun _ h9 => h9) rfl (by decide +kernel) rfl rfl (Nat.le_of_ble_eq_true rfl) dX7_forget_7 ?_
  clear hP hD hS
  intro H locs hP hD hS
  replace hP : va_P (dC, dI) vwCl [(qo7, .inr (7, [.ref qo43, .ref qo44, .ref qo45, .int 0, .int 0, .ref qo46, .ref qo47, .ref qo48])), (qo43, .inr (4, [.ref qo49, .ref qo50])), (qo49, .inl (co14, 16, .inl fk1)), (qo50, .inl (co15, 256, .inl fk2))] H := hP
  replace hD : va_D A [(qo7, .inr (7, [.ref qo43, .ref qo44, .ref qo45, .int 0, .int 0, .ref qo46, .ref qo47, .ref qo48])), (qo43, .inr (4, [.ref qo49, .ref qo50])), (qo49, .inl (co14, 16, .inl fk1)), (qo50, .inl (co15, 256, .inl fk2))] := hD
  refine lv_aload_n hx hb dX7_forget_10 rfl (lv_at hl 0 rfl) ?_
  refine va_get (D := (dC, dI)) (ci := 7) (v := .ref qo43) (C := RX7) (T := TX7) (N := 8) hx hb hts uV_g2_X7 hown hK hP 0 rfl rfl 0 (by decide) (hts (.fieldLink RX7 16 "ClassMill$Space" "kin" "LClassMill$Kin;") mw_g2_36) (fun _ h9 => h9) rfl dX7_forget_11 ?_
  have hPc := hP.sub (ws' := [(qo43, .inr (4, [.ref qo49, .ref qo50])), (qo49, .inl (co14, 16, .inl fk1)), (qo50, .inl (co15, 256, .inl fk2))]) [1, 2, 3] rfl
  have hDc := hD.sub (ws' := [(qo43, .inr (4, [.ref qo49, .ref qo50])), (qo49, .inl (co14, 16, .inl fk1)), (qo50, .inl (co15, 256, .inl fk2))]) [1, 2, 3] (by decide) rfl
  have hKc := hK.sub (tys' := [(co14, .int), (co15, .boolean)]) [0, 1] rfl
  have hFc := va_free (wc := [(qo43, .inr (4, [.ref qo49, .ref qo50])), (qo49, .inl (co14, 16, .inl fk1)), (qo50, .inl (co15, 256, .inl fk2))]) hD hS hA [1, 2, 3] rfl
  refine va_callv (va_runV (As := []) (rest := []) ⟨hx, hb, hml, hown, hts⟩ (ct_kforget l dC dI H.size qo43 qo49 qo50 co14 co15 fk1 fk2) (cwV 0 hts gv_g2_3 rfl rfl rfl (by decide +kernel) ⟨Nat.le_of_ble_eq_true rfl, Nat.le_of_ble_eq_true rfl⟩) ⟨fun a U g mk q => by obtain ⟨q0, q1, qP, qK, qD⟩ := q; exact ⟨q0, q1, qP, va_K.moved (u := U) (U := U.calling g mk a) (Vm.Alike.refl U.vm) qK, qD⟩, va_recv hKc hPc (ci := 4) (q0 := 0) rfl rfl, fun U hU hW => ⟨rfl, by rw [hU], by rw [hU]; exact hPc, va_K.moved hW.alike hKc, hDc.weaken (fun _ _ _ _ => trivial)⟩⟩ rfl rfl hl.1 rfl (lv_room (Nat.le_of_ble_eq_true rfl)) dX7_forget_14 ⟨Nat.le_of_ble_eq_true rfl, Nat.le_of_ble_eq_true rfl⟩) hS (fun q _ h => hFc q h) hFc ?_
  clear hS
  intro u t H1 locs ht hvm hw hB hz1 hk1 hS
  obtain ⟨f_1, g_2⟩ := u
  obtain ⟨hP1, hK1, hD1⟩ := hB
  rw [ht] at hP1
  have hK1 := va_K.moved hvm.symm hK1
  try dsimp only at hw
  have hPD := va_join (wr := [(qo7, .inr (7, [.ref qo43, .ref qo44, .ref qo45, .int 0, .int 0, .ref qo46, .ref qo47, .ref qo48]))]) (w1 := [(qo43, .inr (4, [.ref qo49, .ref qo50])), (qo49, .inl (co14, 16, .inl f_1)), (qo50, .inl (co15, 256, .inl g_2))]) hP hD [1, 2, 3] [0] rfl rfl (by decide) (by decide) hk1 hFc hP1 hD1
  clear hP hD
  obtain ⟨hP, hD⟩ := hPD
  replace hK := (hK.sub (tys' := []) [] rfl).app hK1
  clear hPc hDc hKc hFc hP1 hK1 hD1 hz1 hk1 ht hvm
  generalize H1 = H at hP hS ⊢
  replace hP : va_P (dC, dI) vwCl [(qo7, .inr (7, [.ref qo43, .ref qo44, .ref qo45, .int 0, .int 0, .ref qo46, .ref qo47, .ref qo48])), (qo43, .inr (4, [.ref qo49, .ref qo50])), (qo49, .inl (co14, 16, .inl f_1)), (qo50, .inl (co15, 256, .inl g_2))] H := hP
  replace hD : va_D A [(qo7, .inr (7, [.ref qo43, .ref qo44, .ref qo45, .int 0, .int 0, .ref qo46, .ref qo47, .ref qo48])), (qo43, .inr (4, [.ref qo49, .ref qo50])), (qo49, .inl (co14, 16, .inl f_1)), (qo50, .inl (co15, 256, .inl g_2))] := hD
  replace hK : va_K (dC, dI) vwCl [(co14, .int), (co15, .boolean)] s := hK
  have hP9 := hP.sub (ws' := [(qo7, .inr (7, [.ref qo43, .ref qo44, .ref qo45, .int 0, .int 0, .ref qo46, .ref qo47, .ref qo48])), (qo43, .inr (4, [.ref qo49, .ref qo50]))]) [0, 1] rfl
  have hD9 := hD.sub (ws' := [(qo7, .inr (7, [.ref qo43, .ref qo44, .ref qo45, .int 0, .int 0, .ref qo46, .ref qo47, .ref qo48])), (qo43, .inr (4, [.ref qo49, .ref qo50]))]) [0, 1] (by decide) rfl
  have hK9 := hK.sub (tys' := []) [] rfl
  exact W.vret hx hb hr (fun t ht hW => ⟨⟨(), rfl, trivial, by rw [ht]; exact hP9, va_K.moved hW.alike hK9, hD9⟩, hS.F ht⟩) hS.2.2 dX7_forget_17
set_option maxHeartbeats 4000000 in
set_option maxRecDepth 100000 in
/-- kg_clear -/
theorem kg_clear (l : Launch) (dC : Nat → ClassId) (dI : Nat → Nat → Nat) (sz : Nat) (h0 : Nat) (qo1 : Nat) (tn : Nat) (qo2 : Nat) (qo3 : Nat) (qo4 : Nat) (qo5 : Nat) (qo6 : Nat) (v7 : Int32) (qo7 : Nat) (qo8 : Nat) (qo9 : Nat) (qo43 : Nat) (qo44 : Nat) (qo45 : Nat) (v30 : Int32) (v31 : Int32) (qo46 : Nat) (qo47 : Nat) (qo48 : Nat) (qo49 : Nat) (qo50 : Nat) (co14 : ClassId) (fk1 : (Nat → Int32)) (co15 : ClassId) (fk2 : (Nat → Int32)) (v1 : Int32) (v2 : Int32) (v3 : Int32) (v4 : Int32) (v5 : Int32) (v6 : Int32) (qo66 : Nat) (qo67 : Nat) (qo68 : Nat) (qo69 : Nat) (qo70 : Nat) (qo71 : Nat) (qo72 : Nat) (qo73 : Nat) (qo74 : Nat) (tp : Nat) (qo75 : Nat) (v19 : Int32) (v20 : Int32)  : Met l yX12_clear (.code yX12_clear cX12_clear 1 none :: VS_g2) ({ frames := 3, cells := 0, slots := 0, locals := 64 }) (va_Pc [.ref h0] (fun U => U.heap.size = sz ∧ va_P (dC, dI) vwCl [(h0, .inr (12, [.ref qo1, .int (nI tn), .ref qo2, .ref qo3, .ref qo4, .ref qo5, .ref qo6, .int v7, .ref qo7, .ref qo8, .ref qo9])), (qo7, .inr (7, [.ref qo43, .ref qo44, .ref qo45, .int v30, .int v31, .ref qo46, .ref qo47, .ref qo48])), (qo43, .inr (4, [.ref qo49, .ref qo50])), (qo49, .inl (co14, 16, .inl fk1)), (qo50, .inl (co15, 256, .inl fk2)), (qo9, .inr (5, [.ref qo7, .int v1, .int v2, .int v3, .int v4, .int v5, .int v6, .int v7, .ref qo66, .ref qo67, .ref qo68, .ref qo69, .ref qo70, .ref qo71, .ref qo72, .ref qo73, .ref qo74, .int (nI tp), .ref qo75, .int v19, .int v20]))] U.heap ∧ va_K (dC, dI) vwCl [(co14, .int), (co15, .boolean)] U ∧ va_D (fun _ => True) [(h0, .inr (12, [.ref qo1, .int (nI tn), .ref qo2, .ref qo3, .ref qo4, .ref qo5, .ref qo6, .int v7, .ref qo7, .ref qo8, .ref qo9])), (qo7, .inr (7, [.ref qo43, .ref qo44, .ref qo45, .int v30, .int v31, .ref qo46, .ref qo47, .ref qo48])), (qo43, .inr (4, [.ref qo49, .ref qo50])), (qo49, .inl (co14, 16, .inl fk1)), (qo50, .inl (co15, 256, .inl fk2)), (qo9, .inr (5, [.ref qo7, .int v1, .int v2, .int v3, .int v4, .int v5, .int v6, .int v7, .ref qo66, .ref qo67, .ref qo68, .ref qo69, .ref qo70, .ref qo71, .ref qo72, .ref qo73, .ref qo74, .int (nI tp), .ref qo75, .int v19, .int v20]))])) (va_Qv (fun (u : Unit) => match u with | () => True) (fun (u : Unit) (t : State) => match u with | () => va_P (dC, dI) vwCl [(h0, .inr (12, [.ref qo1, .int (nI tn), .ref qo2, .ref qo3, .ref qo4, .ref qo5, .ref qo6, .int v7, .ref qo7, .ref qo8, .ref qo9])), (qo7, .inr (7, [.ref qo43, .ref qo44, .ref qo45, .int 0, .int 0, .ref qo46, .ref qo47, .ref qo48])), (qo9, .inr (5, [.ref qo7, .int 0, .int (-1), .int 0, .int 0, .int 0, .int 0, .int 0, .ref qo66, .ref qo67, .ref qo68, .ref qo69, .ref qo70, .ref qo71, .ref qo72, .ref qo73, .ref qo74, .int (nI tp), .ref qo75, .int v19, .int v20]))] t.heap ∧ va_K (dC, dI) vwCl [] t ∧ va_D (va_A [(h0, .inr (12, [.ref qo1, .int (nI tn), .ref qo2, .ref qo3, .ref qo4, .ref qo5, .ref qo6, .int v7, .ref qo7, .ref qo8, .ref qo9])), (qo7, .inr (7, [.ref qo43, .ref qo44, .ref qo45, .int v30, .int v31, .ref qo46, .ref qo47, .ref qo48])), (qo43, .inr (4, [.ref qo49, .ref qo50])), (qo49, .inl (co14, 16, .inl fk1)), (qo50, .inl (co15, 256, .inl fk2)), (qo9, .inr (5, [.ref qo7, .int v1, .int v2, .int v3, .int v4, .int v5, .int v6, .int v7, .ref qo66, .ref qo67, .ref qo68, .ref qo69, .ref qo70, .ref qo71, .ref qo72, .ref qo73, .ref qo74, .int (nI tp), .ref qo75, .int v19, .int v20]))] sz) [(h0, .inr (12, [.ref qo1, .int (nI tn), .ref qo2, .ref qo3, .ref qo4, .ref qo5, .ref qo6, .int v7, .ref qo7, .ref qo8, .ref qo9])), (qo7, .inr (7, [.ref qo43, .ref qo44, .ref qo45, .int 0, .int 0, .ref qo46, .ref qo47, .ref qo48])), (qo9, .inr (5, [.ref qo7, .int 0, .int (-1), .int 0, .int 0, .int 0, .int 0, .int 0, .ref qo66, .ref qo67, .ref qo68, .ref qo69, .ref qo70, .ref qo71, .ref qo72, .ref qo73, .ref qo74, .int (nI tp), .ref qo75, .int v19, .int v20]))]) (va_A [(h0, .inr (12, [.ref qo1, .int (nI tn), .ref qo2, .ref qo3, .ref qo4, .ref qo5, .ref qo6, .int v7, .ref qo7, .ref qo8, .ref qo9])), (qo7, .inr (7, [.ref qo43, .ref qo44, .ref qo45, .int v30, .int v31, .ref qo46, .ref qo47, .ref qo48])), (qo43, .inr (4, [.ref qo49, .ref qo50])), (qo49, .inl (co14, 16, .inl fk1)), (qo50, .inl (co15, 256, .inl fk2)), (qo9, .inr (5, [.ref qo7, .int v1, .int v2, .int v3, .int v4, .int v5, .int v6, .int v7, .ref qo66, .ref qo67, .ref qo68, .ref qo69, .ref qo70, .ref qo71, .ref qo72, .ref qo73, .ref qo74, .int (nI tp), .ref qo75, .int v19, .int v20]))] sz)) 0 0 (va_A [(h0, .inr (12, [.ref qo1, .int (nI tn), .ref qo2, .ref qo3, .ref qo4, .ref qo5, .ref qo6, .int v7, .ref qo7, .ref qo8, .ref qo9])), (qo7, .inr (7, [.ref qo43, .ref qo44, .ref qo45, .int v30, .int v31, .ref qo46, .ref qo47, .ref qo48])), (qo43, .inr (4, [.ref qo49, .ref qo50])), (qo49, .inl (co14, 16, .inl fk1)), (qo50, .inl (co15, 256, .inl fk2)), (qo9, .inr (5, [.ref qo7, .int v1, .int v2, .int v3, .int v4, .int v5, .int v6, .int v7, .ref qo66, .ref qo67, .ref qo68, .ref qo69, .ref qo70, .ref qo71, .ref qo72, .ref qo73, .ref qo74, .int (nI tp), .ref qo75, .int v19, .int v20]))] sz) := by
  refine Met.ofW (cc := cX12_clear) (maxL := 1) (ret := none) (by decide) rfl ?_
  intro p e s m args below meth c s₁ B hml hv
  obtain ⟨rfl, hsz, hP, hK, hD0⟩ := hv
  have hx := B.exec
  have hb := B.bytes
  have hr := B.returns
  have hts := atoms_spec (ws := (.code yX12_clear cX12_clear 1 none :: VS_g2)) B.pre
  replace hts := fun w (h : w ∈ VS_g2) => hts w (List.mem_cons_of_mem _ h)
  have hown : s.vm.findClass RX12 = some m.cls := findClass_of_methodNamed B.named
  have hlocks := B.notSynchronized
  subst hsz
  have hD := hD0.self (sz := s.heap.size)
  generalize hAe : va_A [(h0, .inr (12, [.ref qo1, .int (nI tn), .ref qo2, .ref qo3, .ref qo4, .ref qo5, .ref qo6, .int v7, .ref qo7, .ref qo8, .ref qo9])), (qo7, .inr (7, [.ref qo43, .ref qo44, .ref qo45, .int v30, .int v31, .ref qo46, .ref qo47, .ref qo48])), (qo43, .inr (4, [.ref qo49, .ref qo50])), (qo49, .inl (co14, 16, .inl fk1)), (qo50, .inl (co15, 256, .inl fk2)), (qo9, .inr (5, [.ref qo7, .int v1, .int v2, .int v3, .int v4, .int v5, .int v6, .int v7, .ref qo66, .ref qo67, .ref qo68, .ref qo69, .ref qo70, .ref qo71, .ref qo72, .ref qo73, .ref qo74, .int (nI tp), .ref qo75, .int v19, .int v20]))] s.heap.size = A at hD  ⊢
  have hA : ∀ q : Nat, s.heap.size ≤ q → A q := fun q h => by rw [← hAe]; exact Or.inr h
  have hP : va_P (dC, dI) vwCl [(h0, .inr (12, [.ref qo1, .int (nI tn), .ref qo2, .ref qo3, .ref qo4, .ref qo5, .ref qo6, .int v7, .ref qo7, .ref qo8, .ref qo9])), (qo7, .inr (7, [.ref qo43, .ref qo44, .ref qo45, .int v30, .int v31, .ref qo46, .ref qo47, .ref qo48])), (qo43, .inr (4, [.ref qo49, .ref qo50])), (qo49, .inl (co14, 16, .inl fk1)), (qo50, .inl (co15, 256, .inl fk2)), (qo9, .inr (5, [.ref qo7, .int v1, .int v2, .int v3, .int v4, .int v5, .int v6, .int v7, .ref qo66, .ref qo67, .ref qo68, .ref qo69, .ref qo70, .ref qo71, .ref qo72, .ref qo73, .ref qo74, .int (nI tp), .ref qo75, .int v19, .int v20]))] s.heap := hP
  have hl := lv_entry ([.ref h0]) (n := 1) (Nat.le_of_ble_eq_true rfl)
  rw [lg_entry_eq]
  generalize (lg_sl ([.ref h0]) ++ List.replicate (1 - (lg_sl ([.ref h0])).length) Slot.unset).toArray = ls at hl ⊢
  have hl : lv_has ls 1 [(0, .ref h0)] := hl
  obtain ⟨H, hH⟩ : ∃ H : Heap, s.heap = H := ⟨_, rfl⟩
  rw [hH] at hP ⊢
  have hS : va_S A s.heap H [] := by rw [← hH]; exact va_S.rf
  obtain ⟨locs, hlo⟩ : ∃ locs : List Loc, locs = [] := ⟨_, rfl⟩
  rw [← hlo] at hS ⊢
  refine lv_aload_n hx hb dX12_clear_0 rfl (lv_at hl 0 rfl) ?_
  refine va_get (D := (dC, dI)) (ci := 12) (v := .ref qo7) (C := RX12) (T := TX12) (N := 11) hx hb hts uV_g2_X12 hown hK hP 0 rfl rfl 8 (by decide) (hts (.fieldLink RX12 53 "ClassMill" "space" "LClassMill$Space;") mw_g2_26) (fun _ h9 => h9) rfl dX12_clear_1 ?_
  have hPc := hP.sub (ws' := [(qo7, .inr (7, [.ref qo43, .ref qo44, .ref qo45, .int v30, .int v31, .ref qo46, .ref qo47, .ref qo48])), (qo43, .inr (4, [.ref qo49, .ref qo50])), (qo49, .inl (co14, 16, .inl fk1)), (qo50, .inl (co15, 256, .inl fk2))]) [1, 2, 3, 4] rfl
  have hDc := hD.sub (ws' := [(qo7, .inr (7, [.ref qo43, .ref qo44, .ref qo45, .int v30, .int v31, .ref qo46, .ref qo47, .ref qo48])), (qo43, .inr (4, [.ref qo49, .ref qo50])), (qo49, .inl (co14, 16, .inl fk1)), (qo50, .inl (co15, 256, .inl fk2))]) [1, 2, 3, 4] (by decide) rfl
  have hKc := hK.sub (tys' := [(co14, .int), (co15, .boolean)]) [0, 1] rfl
  have hFc := va_free (wc := [(qo7, .inr (7, [.ref qo43, .ref qo44, .ref qo45, .int v30, .int v31, .ref qo46, .ref qo47, .ref qo48])), (qo43, .inr (4, [.ref qo49, .ref qo50])), (qo49, .inl (co14, 16, .inl fk1)), (qo50, .inl (co15, 256, .inl fk2))]) hD hS hA [1, 2, 3, 4] rfl
  refine va_callv (va_runV (As := []) (rest := []) ⟨hx, hb, hml, hown, hts⟩ (kg_sforget l dC dI H.size qo7 qo43 qo44 qo45 v30 v31 qo46 qo47 qo48 qo49 qo50 co14 fk1 co15 fk2) (cwV 0 hts gv_g2_4 rfl rfl rfl (by decide +kernel) ⟨Nat.le_of_ble_eq_true rfl, Nat.le_of_ble_eq_true rfl⟩) ⟨fun a U g mk q => by obtain ⟨q0, q1, qP, qK, qD⟩ := q; exact ⟨q0, q1, qP, va_K.moved (u := U) (U := U.calling g mk a) (Vm.Alike.refl U.vm) qK, qD⟩, va_recv hKc hPc (ci := 7) (q0 := 0) rfl rfl, fun U hU hW => ⟨rfl, by rw [hU], by rw [hU]; exact hPc, va_K.moved hW.alike hKc, hDc.weaken (fun _ _ _ _ => trivial)⟩⟩ rfl rfl hl.1 rfl (lv_room (Nat.le_of_ble_eq_true rfl)) dX12_clear_4 ⟨Nat.le_of_ble_eq_true rfl, Nat.le_of_ble_eq_true rfl⟩) hS (fun q _ h => hFc q h) hFc ?_
  clear hS
  intro u t H1 locs ht hvm hw hB hz1 hk1 hS
  obtain ⟨⟩ := u
  obtain ⟨hP1, hK1, hD1⟩ := hB
  rw [ht] at hP1
  have hK1 := va_K.moved hvm.symm hK1
  try dsimp only at hw
  have hPD := va_join (wr := [(h0, .inr (12, [.ref qo1, .int (nI tn), .ref qo2, .ref qo3, .ref qo4, .ref qo5, .ref qo6, .int v7, .ref qo7, .ref qo8, .ref qo9])), (qo9, .inr (5, [.ref qo7, .int v1, .int v2, .int v3, .int v4, .int v5, .int v6, .int v7, .ref qo66, .ref qo67, .ref qo68, .ref qo69, .ref qo70, .ref qo71, .ref qo72, .ref qo73, .ref qo74, .int (nI tp), .ref qo75, .int v19, .int v20]))]) (w1 := [(qo7, .inr (7, [.ref qo43, .ref qo44, .ref qo45, .int 0, .int 0, .ref qo46, .ref qo47, .ref qo48])), (qo43, .inr (4, [.ref qo49, .ref qo50]))]) hP hD [1, 2, 3, 4] [0, 5] rfl rfl (by decide) (by decide) hk1 hFc hP1 hD1
  clear hP hD
  obtain ⟨hP, hD⟩ := hPD
  replace hK := (hK.sub (tys' := []) [] rfl).app hK1
  clear hPc hDc hKc hFc hP1 hK1 hD1 hz1 hk1 ht hvm
  generalize H1 = H at hP hS ⊢
  replace hP : va_P (dC, dI) vwCl [(h0, .inr (12, [.ref qo1, .int (nI tn), .ref qo2, .ref qo3, .ref qo4, .ref qo5, .ref qo6, .int v7, .ref qo7, .ref qo8, .ref qo9])), (qo9, .inr (5, [.ref qo7, .int v1, .int v2, .int v3, .int v4, .int v5, .int v6, .int v7, .ref qo66, .ref qo67, .ref qo68, .ref qo69, .ref qo70, .ref qo71, .ref qo72, .ref qo73, .ref qo74, .int (nI tp), .ref qo75, .int v19, .int v20])), (qo7, .inr (7, [.ref qo43, .ref qo44, .ref qo45, .int 0, .int 0, .ref qo46, .ref qo47, .ref qo48])), (qo43, .inr (4, [.ref qo49, .ref qo50]))] H := hP
  replace hD : va_D A [(h0, .inr (12, [.ref qo1, .int (nI tn), .ref qo2, .ref qo3, .ref qo4, .ref qo5, .ref qo6, .int v7, .ref qo7, .ref qo8, .ref qo9])), (qo9, .inr (5, [.ref qo7, .int v1, .int v2, .int v3, .int v4, .int v5, .int v6, .int v7, .ref qo66, .ref qo67, .ref qo68, .ref qo69, .ref qo70, .ref qo71, .ref qo72, .ref qo73, .ref qo74, .int (nI tp), .ref qo75, .int v19, .int v20])), (qo7, .inr (7, [.ref qo43, .ref qo44, .ref qo45, .int 0, .int 0, .ref qo46, .ref qo47, .ref qo48])), (qo43, .inr (4, [.ref qo49, .ref qo50]))] := hD
  replace hK : va_K (dC, dI) vwCl [] s := hK
  refine lv_aload_n hx hb dX12_clear_7 rfl (lv_at hl 0 rfl) ?_
  refine va_get (D := (dC, dI)) (ci := 12) (v := .ref qo9) (C := RX12) (T := TX12) (N := 11) hx hb hts uV_g2_X12 hown hK hP 0 rfl rfl 10 (by decide) (hts (.fieldLink RX12 69 "ClassMill" "machine" "LClassMill$Machine;") mw_g2_17) (fun _ h9 => h9) rfl dX12_clear_8 ?_
  have hPc := hP.sub (ws' := [(qo9, .inr (5, [.ref qo7, .int v1, .int v2, .int v3, .int v4, .int v5, .int v6, .int v7, .ref qo66, .ref qo67, .ref qo68, .ref qo69, .ref qo70, .ref qo71, .ref qo72, .ref qo73, .ref qo74, .int (nI tp), .ref qo75, .int v19, .int v20]))]) [1] rfl
  have hDc := hD.sub (ws' := [(qo9, .inr (5, [.ref qo7, .int v1, .int v2, .int v3, .int v4, .int v5, .int v6, .int v7, .ref qo66, .ref qo67, .ref qo68, .ref qo69, .ref qo70, .ref qo71, .ref qo72, .ref qo73, .ref qo74, .int (nI tp), .ref qo75, .int v19, .int v20]))]) [1] (by decide) rfl
  have hKc := hK.sub (tys' := []) [] rfl
  have hFc := va_free (wc := [(qo9, .inr (5, [.ref qo7, .int v1, .int v2, .int v3, .int v4, .int v5, .int v6, .int v7, .ref qo66, .ref qo67, .ref qo68, .ref qo69, .ref qo70, .ref qo71, .ref qo72, .ref qo73, .ref qo74, .int (nI tp), .ref qo75, .int v19, .int v20]))]) hD hS hA [1] rfl
  refine va_callv (va_runV (As := []) (rest := []) ⟨hx, hb, hml, hown, hts⟩ (kg_mforget l dC dI H.size qo9 qo7 v1 v2 v3 v4 v5 v6 v7 qo66 qo67 qo68 qo69 qo70 qo71 qo72 qo73 qo74 tp qo75 v19 v20) (cwV 0 hts gv_g2_5 rfl rfl rfl (by decide +kernel) ⟨Nat.le_of_ble_eq_true rfl, Nat.le_of_ble_eq_true rfl⟩) ⟨fun a U g mk q => by obtain ⟨q0, q1, qP, qK, qD⟩ := q; exact ⟨q0, q1, qP, va_K.moved (u := U) (U := U.calling g mk a) (Vm.Alike.refl U.vm) qK, qD⟩, va_recv hKc hPc (ci := 5) (q0 := 0) rfl rfl, fun U hU hW => ⟨rfl, by rw [hU], by rw [hU]; exact hPc, va_K.moved hW.alike hKc, hDc.weaken (fun _ _ _ _ => trivial)⟩⟩ rfl rfl hl.1 rfl (lv_room (Nat.le_of_ble_eq_true rfl)) dX12_clear_11 ⟨Nat.le_of_ble_eq_true rfl, Nat.le_of_ble_eq_true rfl⟩) hS (fun q _ h => hFc q h) hFc ?_
  clear hS
  intro u t H1 locs ht hvm hw hB hz1 hk1 hS
  obtain ⟨⟩ := u
  obtain ⟨hP1, hK1, hD1⟩ := hB
  rw [ht] at hP1
  have hK1 := va_K.moved hvm.symm hK1
  try dsimp only at hw
  have hPD := va_join (wr := [(h0, .inr (12, [.ref qo1, .int (nI tn), .ref qo2, .ref qo3, .ref qo4, .ref qo5, .ref qo6, .int v7, .ref qo7, .ref qo8, .ref qo9])), (qo7, .inr (7, [.ref qo43, .ref qo44, .ref qo45, .int 0, .int 0, .ref qo46, .ref qo47, .ref qo48])), (qo43, .inr (4, [.ref qo49, .ref qo50]))]) (w1 := [(qo9, .inr (5, [.ref qo7, .int 0, .int (-1), .int 0, .int 0, .int 0, .int 0, .int 0, .ref qo66, .ref qo67, .ref qo68, .ref qo69, .ref qo70, .ref qo71, .ref qo72, .ref qo73, .ref qo74, .int (nI tp), .ref qo75, .int v19, .int v20]))]) hP hD [1] [0, 2, 3] rfl rfl (by decide) (by decide) hk1 hFc hP1 hD1
  clear hP hD
  obtain ⟨hP, hD⟩ := hPD
  replace hK := (hK.sub (tys' := []) [] rfl).app hK1
  clear hPc hDc hKc hFc hP1 hK1 hD1 hz1 hk1 ht hvm
  generalize H1 = H at hP hS ⊢
  replace hP : va_P (dC, dI) vwCl [(h0, .inr (12, [.ref qo1, .int (nI tn), .ref qo2, .ref qo3, .ref qo4, .ref qo5, .ref qo6, .int v7, .ref qo7, .ref qo8, .ref qo9])), (qo7, .inr (7, [.ref qo43, .ref qo44, .ref qo45, .int 0, .int 0, .ref qo46, .ref qo47, .ref qo48])), (qo43, .inr (4, [.ref qo49, .ref qo50])), (qo9, .inr (5, [.ref qo7, .int 0, .int (-1), .int 0, .int 0, .int 0, .int 0, .int 0, .ref qo66, .ref qo67, .ref qo68, .ref qo69, .ref qo70, .ref qo71, .ref qo72, .ref qo73, .ref qo74, .int (nI tp), .ref qo75, .int v19, .int v20]))] H := hP
  replace hD : va_D A [(h0, .inr (12, [.ref qo1, .int (nI tn), .ref qo2, .ref qo3, .ref qo4, .ref qo5, .ref qo6, .int v7, .ref qo7, .ref qo8, .ref qo9])), (qo7, .inr (7, [.ref qo43, .ref qo44, .ref qo45, .int 0, .int 0, .ref qo46, .ref qo47, .ref qo48])), (qo43, .inr (4, [.ref qo49, .ref qo50])), (qo9, .inr (5, [.ref qo7, .int 0, .int (-1), .int 0, .int 0, .int 0, .int 0, .int 0, .ref qo66, .ref qo67, .ref qo68, .ref qo69, .ref qo70, .ref qo71, .ref qo72, .ref qo73, .ref qo74, .int (nI tp), .ref qo75, .int v19, .int v20]))] := hD
  replace hK : va_K (dC, dI) vwCl [] s := hK
  have hP9 := hP.sub (ws' := [(h0, .inr (12, [.ref qo1, .int (nI tn), .ref qo2, .ref qo3, .ref qo4, .ref qo5, .ref qo6, .int v7, .ref qo7, .ref qo8, .ref qo9])), (qo7, .inr (7, [.ref qo43, .ref qo44, .ref qo45, .int 0, .int 0, .ref qo46, .ref qo47, .ref qo48])), (qo9, .inr (5, [.ref qo7, .int 0, .int (-1), .int 0, .int 0, .int 0, .int 0, .int 0, .ref qo66, .ref qo67, .ref qo68, .ref qo69, .ref qo70, .ref qo71, .ref qo72, .ref qo73, .ref qo74, .int (nI tp), .ref qo75, .int v19, .int v20]))]) [0, 1, 3] rfl
  have hD9 := hD.sub (ws' := [(h0, .inr (12, [.ref qo1, .int (nI tn), .ref qo2, .ref qo3, .ref qo4, .ref qo5, .ref qo6, .int v7, .ref qo7, .ref qo8, .ref qo9])), (qo7, .inr (7, [.ref qo43, .ref qo44, .ref qo45, .int 0, .int 0, .ref qo46, .ref qo47, .ref qo48])), (qo9, .inr (5, [.ref qo7, .int 0, .int (-1), .int 0, .int 0, .int 0, .int 0, .int 0, .ref qo66, .ref qo67, .ref qo68, .ref qo69, .ref qo70, .ref qo71, .ref qo72, .ref qo73, .ref qo74, .int (nI tp), .ref qo75, .int v19, .int v20]))]) [0, 1, 3] (by decide) rfl
  have hK9 := hK.sub (tys' := []) [] rfl
  exact W.vret hx hb hr (fun t ht hW => ⟨⟨(), rfl, trivial, by rw [ht]; exact hP9, va_K.moved hW.alike hK9, hD9⟩, hS.F ht⟩) hS.2.2 dX12_clear_14
def tgm_out (s n : Int32) (f : Nat → Int32) (a : Int32) : Int32 := if s ≤ 0 then 0 else if a < 0 then 0 else if n ≤ a then 0 else if 1000 ≤ a then 0 else f a.toNatClampNeg
set_option maxHeartbeats 4000000 in
set_option maxRecDepth 100000 in
/-- out of the reference -/
theorem mg_out (l : Launch) (dC : Nat → ClassId) (dI : Nat → Nat → Nat) (sz : Nat) (h0 : Nat) (fs : List Value) (qp : Nat) (cz4 : ClassId) (fq : Nat → Int32) (v1 v7 a1 : Int32) (hlen : fs.length = 155) (hf138 : fs[138]? = some (.int v1)) (hf143 : fs[143]? = some (.int v7)) (hf148 : fs[148]? = some (.ref qp))  : Met l yX13_out (.code yX13_out cX13_out 2 (some .int) :: VS_g2) ({ frames := 0, cells := 0, slots := 0, locals := 0 }) (va_Pc [.ref h0, .int a1] (fun U => U.heap.size = sz ∧ va_P (dC, dI) vwCl [(h0, .inr (13, fs)), (qp, .inl (cz4, 1000, .inl fq))] U.heap ∧ va_K (dC, dI) vwCl [(cz4, .int)] U ∧ va_D (fun _ => True) [(h0, .inr (13, fs)), (qp, .inl (cz4, 1000, .inl fq))])) (va_Qi (fun (r : Int32) (u : Unit) => match u with | () => r = tgm_out v1 v7 fq a1) (fun (u : Unit) (t : State) => match u with | () => va_P (dC, dI) vwCl [(h0, .inr (13, fs)), (qp, .inl (cz4, 1000, .inl fq))] t.heap ∧ va_K (dC, dI) vwCl [(cz4, .int)] t ∧ va_D (va_A [(h0, .inr (13, fs)), (qp, .inl (cz4, 1000, .inl fq))] sz) [(h0, .inr (13, fs)), (qp, .inl (cz4, 1000, .inl fq))]) (va_A [(h0, .inr (13, fs)), (qp, .inl (cz4, 1000, .inl fq))] sz)) 0 0 (va_A [(h0, .inr (13, fs)), (qp, .inl (cz4, 1000, .inl fq))] sz) := by
  refine Met.ofW (cc := cX13_out) (maxL := 2) (ret := (some .int)) (by decide) rfl ?_
  intro p e s m args below meth c s₁ B hml hv
  obtain ⟨rfl, hsz, hP, hK, hD0⟩ := hv
  have hx := B.exec
  have hb := B.bytes
  have hr := B.returns
  have hts := atoms_spec (ws := (.code yX13_out cX13_out 2 (some .int) :: VS_g2)) B.pre
  replace hts := fun w (h : w ∈ VS_g2) => hts w (List.mem_cons_of_mem _ h)
  have hown : s.vm.findClass RX13 = some m.cls := findClass_of_methodNamed B.named
  have hlocks := B.notSynchronized
  subst hsz
  have hD := hD0.self (sz := s.heap.size)
  generalize hAe : va_A [(h0, .inr (13, fs)), (qp, .inl (cz4, 1000, .inl fq))] s.heap.size = A at hD  ⊢
  have hA : ∀ q : Nat, s.heap.size ≤ q → A q := fun q h => by rw [← hAe]; exact Or.inr h
  have hP : va_P (dC, dI) vwCl [(h0, .inr (13, fs)), (qp, .inl (cz4, 1000, .inl fq))] s.heap := hP
  have hl := lv_entry ([.ref h0, .int a1]) (n := 2) (Nat.le_of_ble_eq_true rfl)
  rw [lg_entry_eq]
  generalize (lg_sl ([.ref h0, .int a1]) ++ List.replicate (2 - (lg_sl ([.ref h0, .int a1])).length) Slot.unset).toArray = ls at hl ⊢
  have hl : lv_has ls 2 [(0, .ref h0), (1, .int a1)] := hl
  obtain ⟨H, hH⟩ : ∃ H : Heap, s.heap = H := ⟨_, rfl⟩
  rw [hH] at hP ⊢
  have hS : va_S A s.heap H [] := by rw [← hH]; exact va_S.rf
  obtain ⟨locs, hlo⟩ : ∃ locs : List Loc, locs = [] := ⟨_, rfl⟩
  rw [← hlo] at hS ⊢
  refine lv_aload_n hx hb dX13_out_0 rfl (lv_at hl 0 rfl) ?_
  refine va_get (D := (dC, dI)) (ci := 13) (v := .int v1) (C := RX13) (T := TX13) (N := 155) hx hb hts uV_g2_X13 hown hK hP 0 rfl rfl 138 (by decide) (hts (.fieldLink RX13 858 "ClassMillModel" "state" "I") mw_g2_46) (fun _ h9 => h9) hf138 dX13_out_1 ?_
  refine lv_if_le (tgt := 35) hx hb dX13_out_4 (by decide) (fun c_1 => ?_) (fun c_1 => ?_)
  · have c_1_ := c_1
    refine lv_iconst (v := 0) hx hb dX13_out_35 (by decide) ?_
    have hP9 := hP.sub (ws' := [(h0, .inr (13, fs)), (qp, .inl (cz4, 1000, .inl fq))]) [0, 1] rfl
    have hD9 := hD.sub (ws' := [(h0, .inr (13, fs)), (qp, .inl (cz4, 1000, .inl fq))]) [0, 1] (by decide) rfl
    have hK9 := hK.sub (tys' := [(cz4, .int)]) [0] rfl
    exact W.iret hx hb hr (fun t ht hW => ⟨⟨(0), (), rfl, by unfold tgm_out; rw [if_pos c_1], by rw [ht]; exact hP9, va_K.moved hW.alike hK9, hD9⟩, hS.F ht⟩) hS.2.2 dX13_out_36
  · have c_1_ := c_1
    refine lv_iload_n hx hb dX13_out_7 rfl (lv_at hl 1 rfl) ?_
    refine lv_if_lt (tgt := 35) hx hb dX13_out_8 (by decide) (fun c_2 => ?_) (fun c_2 => ?_)
    · have c_2_ := c_2
      refine lv_iconst (v := 0) hx hb dX13_out_35 (by decide) ?_
      have hP9 := hP.sub (ws' := [(h0, .inr (13, fs)), (qp, .inl (cz4, 1000, .inl fq))]) [0, 1] rfl
      have hD9 := hD.sub (ws' := [(h0, .inr (13, fs)), (qp, .inl (cz4, 1000, .inl fq))]) [0, 1] (by decide) rfl
      have hK9 := hK.sub (tys' := [(cz4, .int)]) [0] rfl
      exact W.iret hx hb hr (fun t ht hW => ⟨⟨(0), (), rfl, by unfold tgm_out; rw [if_neg c_1, if_pos c_2], by rw [ht]; exact hP9, va_K.moved hW.alike hK9, hD9⟩, hS.F ht⟩) hS.2.2 dX13_out_36
    · have c_2_ := c_2
      refine lv_iload_n hx hb dX13_out_11 rfl (lv_at hl 1 rfl) ?_
      refine lv_aload_n hx hb dX13_out_12 rfl (lv_at hl 0 rfl) ?_
      refine va_get (D := (dC, dI)) (ci := 13) (v := .int v7) (C := RX13) (T := TX13) (N := 155) hx hb hts uV_g2_X13 hown hK hP 0 rfl rfl 143 (by decide) (hts (.fieldLink RX13 1055 "ClassMillModel" "printedMany" "I") mw_g2_47) (fun _ h9 => h9) hf143 dX13_out_13 ?_
      refine lv_icmp_ge (tgt := 35) hx hb dX13_out_16 (by decide) (fun c_3 => ?_) (fun c_3 => ?_)
      · have c_3_ := c_3
        refine lv_iconst (v := 0) hx hb dX13_out_35 (by decide) ?_
        have hP9 := hP.sub (ws' := [(h0, .inr (13, fs)), (qp, .inl (cz4, 1000, .inl fq))]) [0, 1] rfl
        have hD9 := hD.sub (ws' := [(h0, .inr (13, fs)), (qp, .inl (cz4, 1000, .inl fq))]) [0, 1] (by decide) rfl
        have hK9 := hK.sub (tys' := [(cz4, .int)]) [0] rfl
        exact W.iret hx hb hr (fun t ht hW => ⟨⟨(0), (), rfl, by unfold tgm_out; rw [if_neg c_1, if_neg c_2, if_pos c_3], by rw [ht]; exact hP9, va_K.moved hW.alike hK9, hD9⟩, hS.F ht⟩) hS.2.2 dX13_out_36
      · have c_3_ := c_3
        refine lv_iload_n hx hb dX13_out_19 rfl (lv_at hl 1 rfl) ?_
        refine lv_sipush (v := 1000) hx hb dX13_out_20 (by decide) ?_
        refine lv_icmp_ge (tgt := 35) hx hb dX13_out_23 (by decide) (fun c_4 => ?_) (fun c_4 => ?_)
        · have c_4_ := c_4
          refine lv_iconst (v := 0) hx hb dX13_out_35 (by decide) ?_
          have hP9 := hP.sub (ws' := [(h0, .inr (13, fs)), (qp, .inl (cz4, 1000, .inl fq))]) [0, 1] rfl
          have hD9 := hD.sub (ws' := [(h0, .inr (13, fs)), (qp, .inl (cz4, 1000, .inl fq))]) [0, 1] (by decide) rfl
          have hK9 := hK.sub (tys' := [(cz4, .int)]) [0] rfl
          exact W.iret hx hb hr (fun t ht hW => ⟨⟨(0), (), rfl, by unfold tgm_out; rw [if_neg c_1, if_neg c_2, if_neg c_3, if_pos c_4], by rw [ht]; exact hP9, va_K.moved hW.alike hK9, hD9⟩, hS.F ht⟩) hS.2.2 dX13_out_36
        · have c_4_ := c_4
          refine lv_aload_n hx hb dX13_out_26 rfl (lv_at hl 0 rfl) ?_
          refine va_get (D := (dC, dI)) (ci := 13) (v := .ref qp) (C := RX13) (T := TX13) (N := 155) hx hb hts uV_g2_X13 hown hK hP 0 rfl rfl 148 (by decide) (hts (.fieldLink RX13 291 "ClassMillModel" "printed" "[I") mw_g2_48) (fun _ h9 => h9) hf148 dX13_out_27 ?_
          refine lv_iload_n hx hb dX13_out_30 rfl (lv_at hl 1 rfl) ?_
          refine va_iald hx hb hK hP 1 0 rfl rfl (i := a1) (tg_in1000 (by assumption) (by assumption)) dX13_out_31 ?_
          refine lv_topi (fun y_5 ey_5 => ?_)
          refine lv_goto (tgt := 36) hx hb dX13_out_32 (by decide) ?_
          have hP9 := hP.sub (ws' := [(h0, .inr (13, fs)), (qp, .inl (cz4, 1000, .inl fq))]) [0, 1] rfl
          have hD9 := hD.sub (ws' := [(h0, .inr (13, fs)), (qp, .inl (cz4, 1000, .inl fq))]) [0, 1] (by decide) rfl
          have hK9 := hK.sub (tys' := [(cz4, .int)]) [0] rfl
          exact W.iret hx hb hr (fun t ht hW => ⟨⟨(y_5), (), rfl, by unfold tgm_out; rw [if_neg c_1, if_neg c_2, if_neg c_3, if_neg c_4, ey_5], by rw [ht]; exact hP9, va_K.moved hW.alike hK9, hD9⟩, hS.F ht⟩) hS.2.2 dX13_out_36

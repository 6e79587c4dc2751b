def an_end (a : Int32) : Int32 := if a < 0 then 0 else if a ≤ 0 then 1 else 0
def an_fault (a : Int32) : Int32 := if a = 0 then 0 else -1
def an_run (a : Int32) : Int32 := if a < 1 then -1 else if a ≤ 20000 then 0 else -1
def an_look (a : Int32) : Int32 := if a = 0 then 0 else if a = 1 then -1 else if a = 2 then 0 else if a = 3 then 0 else if a = 4 then 0 else if a = 5 then 0 else if a = 6 then 0 else if a = 11 then 0 else if a = 12 then 0 else if a = 13 then 0 else -1
def an_type (a b : Int32) : Int32 := if a < 0 then -1 else if 8 ≤ a then -1 else if b = 0 then (if a = 0 then -1 else if a = 1 then 0 else 1) else if b < 0 then -1 else if b ≤ 4 then 0 else -1
def an_m1 : Int32 := -1
def an_0 : Int32 := 0
theorem lf_fault_1 (a1 : Int32) (c_1 : ¬ a1 = 0) (c_2 : ¬ a1 = 1) : ((-1) : Int32) = an_fault a1 := by
  first | rfl | (subst_vars; rfl) | (simp_all [an_fault]; done) | (subst_vars; simp_all [an_fault]; done) | (unfold an_fault; (repeat' split) <;> first | rfl | (exfalso; simp_all; done))
theorem lf_fault_2 (a1 : Int32) (c_1 : ¬ a1 = 0) (c_2 : a1 = 1) : ((-1) : Int32) = an_fault a1 := by
  first | rfl | (subst_vars; rfl) | (simp_all [an_fault]; done) | (subst_vars; simp_all [an_fault]; done) | (unfold an_fault; (repeat' split) <;> first | rfl | (exfalso; simp_all; done))
theorem lf_fault_3 (a1 : Int32) (c_1 : a1 = 0) : (0 : Int32) = an_fault a1 := by
  first | rfl | (subst_vars; rfl) | (simp_all [an_fault]; done) | (subst_vars; simp_all [an_fault]; done) | (unfold an_fault; (repeat' split) <;> first | rfl | (exfalso; simp_all; done))
set_option maxHeartbeats 4000000 in
set_option maxRecDepth 100000 in
/-- mm_fault -/
theorem mm_fault (l : Launch) (dC : Nat → ClassId) (dI : Nat → Nat → Nat) (sz : Nat) (h0 : Nat) (qm0 qm1 qm2 qm3 qm4 qm5 : Nat) (fsM : List Value) (a1 : Int32) (hM : pm_F fsM qm0 qm1 qm2 qm3 qm4 qm5) : Met l yX13_fault (.code yX13_fault cX13_fault 2 (some .int) :: VS_c1) ({ frames := 0, cells := 0, slots := 0, locals := 0 }) (va_Pc [.ref h0, .int a1] (fun U => U.heap.size = sz ∧ va_P (dC, dI) vwCl [(h0, .inr (13, fsM))] U.heap ∧ va_K (dC, dI) vwCl [] U ∧ va_D (fun _ => True) [(h0, .inr (13, fsM))])) (va_Qi (fun (r : Int32) (u : Unit) => match u with | () => r = an_fault a1) (fun (u : Unit) (t : State) => match u with | () => va_P (dC, dI) vwCl [] t.heap ∧ va_K (dC, dI) vwCl [] t ∧ va_D (va_A [(h0, .inr (13, fsM))] sz) []) (va_A [(h0, .inr (13, fsM))] sz)) 0 0 (va_A [(h0, .inr (13, fsM))] sz) := by
  refine Met.ofW (cc := cX13_fault) (maxL := 2) (ret := (some .int)) (by decide) rfl ?_
  intro p e s m args below meth c s₁ B hml hv
  obtain ⟨rfl, hsz, hP, hK, hD0⟩ := hv
  have hx := B.exec
  have hb := B.bytes
  have hr := B.returns
  have hts := atoms_spec (ws := (.code yX13_fault cX13_fault 2 (some .int) :: VS_c1)) B.pre
  replace hts := fun w (h : w ∈ VS_c1) => hts w (List.mem_cons_of_mem _ h)
  have hown : s.vm.findClass RX13 = some m.cls := findClass_of_methodNamed B.named
  have hlocks := B.notSynchronized
  subst hsz
  have hD := hD0.self (sz := s.heap.size)
  generalize hAe : va_A [(h0, .inr (13, fsM))] s.heap.size = A at hD  ⊢
  have hA : ∀ q : Nat, s.heap.size ≤ q → A q := fun q h => by rw [← hAe]; exact Or.inr h
  have hP : va_P (dC, dI) vwCl [(h0, .inr (13, fsM))] s.heap := hP
  have hl := lv_entry ([.ref h0, .int a1]) (n := 2) (Nat.le_of_ble_eq_true rfl)
  rw [lg_entry_eq]
  generalize (lg_sl ([.ref h0, .int a1]) ++ List.replicate (2 - (lg_sl ([.ref h0, .int a1])).length) Slot.unset).toArray = ls at hl ⊢
  have hl : lv_has ls 2 [(0, .ref h0), (1, .int a1)] := hl
  obtain ⟨H, hH⟩ : ∃ H : Heap, s.heap = H := ⟨_, rfl⟩
  rw [hH] at hP ⊢
  have hS : va_S A s.heap H [] := by rw [← hH]; exact va_S.rf
  obtain ⟨locs, hlo⟩ : ∃ locs : List Loc, locs = [] := ⟨_, rfl⟩
  rw [← hlo] at hS ⊢
  refine lv_iload_n hx hb dX13_fault_0 rfl (lv_at hl 1 rfl) ?_
  refine lv_if_ne (tgt := 11) hx hb dX13_fault_1 (by decide) (fun c_1 => ?_) (fun c_1 => ?_)
  · have c_1_ := c_1
    refine lv_iload_n hx hb dX13_fault_11 rfl (lv_at hl 1 rfl) ?_
    refine lv_iconst (v := 1) hx hb dX13_fault_12 (by decide) ?_
    refine lv_icmp_ne (tgt := 30) hx hb dX13_fault_13 (by decide) (fun c_2 => ?_) (fun c_2 => ?_)
    · have c_2_ := c_2
      refine lv_iconst (v := (-1)) hx hb dX13_fault_30 (by decide) ?_
      have hP9 := hP.sub (ws' := []) [] rfl
      have hD9 := hD.sub (ws' := []) [] (by decide) rfl
      have hK9 := hK.sub (tys' := []) [] rfl
      exact W.iret hx hb hr (fun t ht hW => ⟨⟨((-1)), (), rfl, lf_fault_1 a1 c_1 c_2, by rw [ht]; exact hP9, va_K.moved hW.alike hK9, hD9⟩, hS.F ht⟩) hS.2.2 dX13_fault_31
    · have c_2_ := c_2
      refine lv_aload_n hx hb dX13_fault_16 rfl (lv_at hl 0 rfl) ?_
      refine va_get (D := (dC, dI)) (ci := 13) (v := .int 0) (C := RX13) (T := TX13) (N := 155) hx hb hts uV_c1_X13 hown hK hP 0 rfl rfl 9 (by decide) (hts (.fieldLink RX13 319 "ClassMillModel" "fault" "I") mw_c1_0) (fun _ h9 => h9) hM.2.2.2.2.2.2.2.2.2.2.1 dX13_fault_17 ?_
      refine lv_if_le (tgt := 30) hx hb dX13_fault_20 (by decide) (fun c_3 => ?_) (fun c_3 => (show False by revert c_3; decide).elim)
      refine lv_iconst (v := (-1)) hx hb dX13_fault_30 (by decide) ?_
      have hP9 := hP.sub (ws' := []) [] rfl
      have hD9 := hD.sub (ws' := []) [] (by decide) rfl
      have hK9 := hK.sub (tys' := []) [] rfl
      exact W.iret hx hb hr (fun t ht hW => ⟨⟨((-1)), (), rfl, lf_fault_2 a1 c_1 c_2, by rw [ht]; exact hP9, va_K.moved hW.alike hK9, hD9⟩, hS.F ht⟩) hS.2.2 dX13_fault_31
  · have c_1_ := c_1
    refine lv_aload_n hx hb dX13_fault_4 rfl (lv_at hl 0 rfl) ?_
    refine va_get (D := (dC, dI)) (ci := 13) (v := .int 0) (C := RX13) (T := TX13) (N := 155) hx hb hts uV_c1_X13 hown hK hP 0 rfl rfl 9 (by decide) (hts (.fieldLink RX13 319 "ClassMillModel" "fault" "I") mw_c1_0) (fun _ h9 => h9) hM.2.2.2.2.2.2.2.2.2.2.1 dX13_fault_5 ?_
    refine lv_goto (tgt := 31) hx hb dX13_fault_8 (by decide) ?_
    have hP9 := hP.sub (ws' := []) [] rfl
    have hD9 := hD.sub (ws' := []) [] (by decide) rfl
    have hK9 := hK.sub (tys' := []) [] rfl
    exact W.iret hx hb hr (fun t ht hW => ⟨⟨(0), (), rfl, lf_fault_3 a1 c_1, by rw [ht]; exact hP9, va_K.moved hW.alike hK9, hD9⟩, hS.F ht⟩) hS.2.2 dX13_fault_31
theorem lf_m1_4 (a1 a2 : Int32) (c_1 : a1 < 0) : ((-1) : Int32) = an_m1 := by
  first | rfl | (subst_vars; rfl) | (simp_all [an_m1]; done) | (subst_vars; simp_all [an_m1]; done) | (unfold an_m1; (repeat' split) <;> first | rfl | (exfalso; simp_all; done))
theorem lf_m1_5 (a1 a2 : Int32) (c_1 : ¬ a1 < 0) (c_2 : 0 ≤ a1) : ((-1) : Int32) = an_m1 := by
  first | rfl | (subst_vars; rfl) | (simp_all [an_m1]; done) | (subst_vars; simp_all [an_m1]; done) | (unfold an_m1; (repeat' split) <;> first | rfl | (exfalso; simp_all; done))
set_option maxHeartbeats 4000000 in
set_option maxRecDepth 100000 in
/-- mm_image -/
theorem mm_image (l : Launch) (dC : Nat → ClassId) (dI : Nat → Nat → Nat) (sz : Nat) (h0 : Nat) (qm0 qm1 qm2 qm3 qm4 qm5 : Nat) (fsM : List Value) (a1 a2 : Int32) (hM : pm_F fsM qm0 qm1 qm2 qm3 qm4 qm5) : Met l yX13_image (.code yX13_image cX13_image 3 (some .int) :: VS_c1) ({ frames := 0, cells := 0, slots := 0, locals := 0 }) (va_Pc [.ref h0, .int a1, .int a2] (fun U => U.heap.size = sz ∧ va_P (dC, dI) vwCl [(h0, .inr (13, fsM))] U.heap ∧ va_K (dC, dI) vwCl [] U ∧ va_D (fun _ => True) [(h0, .inr (13, fsM))])) (va_Qi (fun (r : Int32) (u : Unit) => match u with | () => r = an_m1) (fun (u : Unit) (t : State) => match u with | () => va_P (dC, dI) vwCl [] t.heap ∧ va_K (dC, dI) vwCl [] t ∧ va_D (va_A [(h0, .inr (13, fsM))] sz) []) (va_A [(h0, .inr (13, fsM))] sz)) 0 0 (va_A [(h0, .inr (13, fsM))] sz) := by
  refine Met.ofW (cc := cX13_image) (maxL := 3) (ret := (some .int)) (by decide) rfl ?_
  intro p e s m args below meth c s₁ B hml hv
  obtain ⟨rfl, hsz, hP, hK, hD0⟩ := hv
  have hx := B.exec
  have hb := B.bytes
  have hr := B.returns
  have hts := atoms_spec (ws := (.code yX13_image cX13_image 3 (some .int) :: VS_c1)) B.pre
  replace hts := fun w (h : w ∈ VS_c1) => hts w (List.mem_cons_of_mem _ h)
  have hown : s.vm.findClass RX13 = some m.cls := findClass_of_methodNamed B.named
  have hlocks := B.notSynchronized
  subst hsz
  have hD := hD0.self (sz := s.heap.size)
  generalize hAe : va_A [(h0, .inr (13, fsM))] s.heap.size = A at hD  ⊢
  have hA : ∀ q : Nat, s.heap.size ≤ q → A q := fun q h => by rw [← hAe]; exact Or.inr h
  have hP : va_P (dC, dI) vwCl [(h0, .inr (13, fsM))] s.heap := hP
  have hl := lv_entry ([.ref h0, .int a1, .int a2]) (n := 3) (Nat.le_of_ble_eq_true rfl)
  rw [lg_entry_eq]
  generalize (lg_sl ([.ref h0, .int a1, .int a2]) ++ List.replicate (3 - (lg_sl ([.ref h0, .int a1, .int a2])).length) Slot.unset).toArray = ls at hl ⊢
  have hl : lv_has ls 3 [(0, .ref h0), (1, .int a1), (2, .int a2)] := hl
  obtain ⟨H, hH⟩ : ∃ H : Heap, s.heap = H := ⟨_, rfl⟩
  rw [hH] at hP ⊢
  have hS : va_S A s.heap H [] := by rw [← hH]; exact va_S.rf
  obtain ⟨locs, hlo⟩ : ∃ locs : List Loc, locs = [] := ⟨_, rfl⟩
  rw [← hlo] at hS ⊢
  refine lv_iload_n hx hb dX13_image_0 rfl (lv_at hl 1 rfl) ?_
  refine lv_if_lt (tgt := 27) hx hb dX13_image_1 (by decide) (fun c_1 => ?_) (fun c_1 => ?_)
  · have c_1_ := c_1
    refine lv_iconst (v := (-1)) hx hb dX13_image_27 (by decide) ?_
    have hP9 := hP.sub (ws' := []) [] rfl
    have hD9 := hD.sub (ws' := []) [] (by decide) rfl
    have hK9 := hK.sub (tys' := []) [] rfl
    exact W.iret hx hb hr (fun t ht hW => ⟨⟨((-1)), (), rfl, lf_m1_4 a1 a2 c_1, by rw [ht]; exact hP9, va_K.moved hW.alike hK9, hD9⟩, hS.F ht⟩) hS.2.2 dX13_image_28
  · have c_1_ := c_1
    refine lv_iload_n hx hb dX13_image_4 rfl (lv_at hl 1 rfl) ?_
    refine lv_aload_n hx hb dX13_image_5 rfl (lv_at hl 0 rfl) ?_
    refine va_get (D := (dC, dI)) (ci := 13) (v := .int 0) (C := RX13) (T := TX13) (N := 155) hx hb hts uV_c1_X13 hown hK hP 0 rfl rfl 93 (by decide) (hts (.fieldLink RX13 761 "ClassMillModel" "imageMany" "I") mw_c1_1) (fun _ h9 => h9) hM.2.2.2.2.2.2.2.2.2.2.2.2.2.2.2.2.2.1 dX13_image_6 ?_
    refine lv_icmp_ge (tgt := 27) hx hb dX13_image_9 (by decide) (fun c_2 => ?_) (fun c_2 => ?_)
    · have c_2_ := c_2
      refine lv_iconst (v := (-1)) hx hb dX13_image_27 (by decide) ?_
      have hP9 := hP.sub (ws' := []) [] rfl
      have hD9 := hD.sub (ws' := []) [] (by decide) rfl
      have hK9 := hK.sub (tys' := []) [] rfl
      exact W.iret hx hb hr (fun t ht hW => ⟨⟨((-1)), (), rfl, lf_m1_5 a1 a2 c_1 c_2, by rw [ht]; exact hP9, va_K.moved hW.alike hK9, hD9⟩, hS.F ht⟩) hS.2.2 dX13_image_28
    · have c_2_ := c_2
      exact absurd (Int32.not_lt.mp c_1) c_2
theorem lf_end_6 (a1 : Int32) (c_1 : a1 < 0) : (0 : Int32) = an_end a1 := by
  first | rfl | (subst_vars; rfl) | (simp_all [an_end]; done) | (subst_vars; simp_all [an_end]; done) | (unfold an_end; (repeat' split) <;> first | rfl | (exfalso; simp_all; done))
theorem lf_end_7 (a1 : Int32) (c_1 : ¬ a1 < 0) (c_2 : a1 ≤ 0) : (1 : Int32) = an_end a1 := by
  first | rfl | (subst_vars; rfl) | (simp_all [an_end]; done) | (subst_vars; simp_all [an_end]; done) | (unfold an_end; (repeat' split) <;> first | rfl | (exfalso; simp_all; done))
theorem lf_end_8 (a1 : Int32) (c_1 : ¬ a1 < 0) (c_2 : ¬ a1 ≤ 0) : (0 : Int32) = an_end a1 := by
  first | rfl | (subst_vars; rfl) | (simp_all [an_end]; done) | (subst_vars; simp_all [an_end]; done) | (unfold an_end; (repeat' split) <;> first | rfl | (exfalso; simp_all; done))
set_option maxHeartbeats 4000000 in
set_option maxRecDepth 100000 in
/-- mm_end -/
theorem mm_end (l : Launch) (dC : Nat → ClassId) (dI : Nat → Nat → Nat) (sz : Nat) (h0 : Nat) (qm0 qm1 qm2 qm3 qm4 qm5 : Nat) (fsM : List Value) (a1 : Int32) (hM : pm_F fsM qm0 qm1 qm2 qm3 qm4 qm5) : Met l yX13_end (.code yX13_end cX13_end 2 (some .boolean) :: VS_c1) ({ frames := 0, cells := 0, slots := 0, locals := 0 }) (va_Pc [.ref h0, .int a1] (fun U => U.heap.size = sz ∧ va_P (dC, dI) vwCl [(h0, .inr (13, fsM))] U.heap ∧ va_K (dC, dI) vwCl [] U ∧ va_D (fun _ => True) [(h0, .inr (13, fsM))])) (va_Qi (fun (r : Int32) (u : Unit) => match u with | () => r = an_end a1) (fun (u : Unit) (t : State) => match u with | () => va_P (dC, dI) vwCl [] t.heap ∧ va_K (dC, dI) vwCl [] t ∧ va_D (va_A [(h0, .inr (13, fsM))] sz) []) (va_A [(h0, .inr (13, fsM))] sz)) 0 0 (va_A [(h0, .inr (13, fsM))] sz) := by
  refine Met.ofW (cc := cX13_end) (maxL := 2) (ret := (some .boolean)) (by decide) rfl ?_
  intro p e s m args below meth c s₁ B hml hv
  obtain ⟨rfl, hsz, hP, hK, hD0⟩ := hv
  have hx := B.exec
  have hb := B.bytes
  have hr := B.returns
  have hts := atoms_spec (ws := (.code yX13_end cX13_end 2 (some .boolean) :: VS_c1)) B.pre
  replace hts := fun w (h : w ∈ VS_c1) => hts w (List.mem_cons_of_mem _ h)
  have hown : s.vm.findClass RX13 = some m.cls := findClass_of_methodNamed B.named
  have hlocks := B.notSynchronized
  subst hsz
  have hD := hD0.self (sz := s.heap.size)
  generalize hAe : va_A [(h0, .inr (13, fsM))] s.heap.size = A at hD  ⊢
  have hA : ∀ q : Nat, s.heap.size ≤ q → A q := fun q h => by rw [← hAe]; exact Or.inr h
  have hP : va_P (dC, dI) vwCl [(h0, .inr (13, fsM))] s.heap := hP
  have hl := lv_entry ([.ref h0, .int a1]) (n := 2) (Nat.le_of_ble_eq_true rfl)
  rw [lg_entry_eq]
  generalize (lg_sl ([.ref h0, .int a1]) ++ List.replicate (2 - (lg_sl ([.ref h0, .int a1])).length) Slot.unset).toArray = ls at hl ⊢
  have hl : lv_has ls 2 [(0, .ref h0), (1, .int a1)] := hl
  obtain ⟨H, hH⟩ : ∃ H : Heap, s.heap = H := ⟨_, rfl⟩
  rw [hH] at hP ⊢
  have hS : va_S A s.heap H [] := by rw [← hH]; exact va_S.rf
  obtain ⟨locs, hlo⟩ : ∃ locs : List Loc, locs = [] := ⟨_, rfl⟩
  rw [← hlo] at hS ⊢
  refine lv_iload_n hx hb dX13_end_0 rfl (lv_at hl 1 rfl) ?_
  refine lv_if_lt (tgt := 12) hx hb dX13_end_1 (by decide) (fun c_1 => ?_) (fun c_1 => ?_)
  · have c_1_ := c_1
    refine lv_iconst (v := 0) hx hb dX13_end_12 (by decide) ?_
    have hP9 := hP.sub (ws' := []) [] rfl
    have hD9 := hD.sub (ws' := []) [] (by decide) rfl
    have hK9 := hK.sub (tys' := []) [] rfl
    exact W.zret hx hb hr (by decide) (fun t ht hW => ⟨⟨(0), (), rfl, lf_end_6 a1 c_1, by rw [ht]; exact hP9, va_K.moved hW.alike hK9, hD9⟩, hS.F ht⟩) hS.2.2 dX13_end_13
  · have c_1_ := c_1
    refine lv_iload_n hx hb dX13_end_4 rfl (lv_at hl 1 rfl) ?_
    refine lv_aload_n hx hb dX13_end_5 rfl (lv_at hl 0 rfl) ?_
    refine va_get (D := (dC, dI)) (ci := 13) (v := .int 0) (C := RX13) (T := TX13) (N := 155) hx hb hts uV_c1_X13 hown hK hP 0 rfl rfl 1 (by decide) (hts (.fieldLink RX13 312 "ClassMillModel" "taped" "I") mw_c1_2) (fun _ h9 => h9) hM.2.2.2.2.2.2.2.1 dX13_end_6 ?_
    refine lv_icmp_le (tgt := 14) hx hb dX13_end_9 (by decide) (fun c_2 => ?_) (fun c_2 => ?_)
    · have c_2_ := c_2
      refine lv_aload_n hx hb dX13_end_14 rfl (lv_at hl 0 rfl) ?_
      refine lv_iload_n hx hb dX13_end_15 rfl (lv_at hl 1 rfl) ?_
      refine va_put (D := (dC, dI)) (ci := 13) (v := .int a1) (ty := .int) (C := RX13) (T := TX13) (N := 155) hx hb hts uV_c1_X13 tyX13 tyX13_ok nmX13 hown hK hP hD hS 0 rfl rfl 1 (by decide) (hts (.fieldLink RX13 312 "ClassMillModel" "taped" "I") mw_c1_2) (fun _ h9 => h9) rfl (by decide +kernel) rfl rfl (by rw [hM.1]; decide) dX13_end_16 ?_
      clear hP hD hS
      intro H locs hP hD hS
      obtain ⟨fs_3, efs_3⟩ : ∃ zf : List Value, zf = fsM.set 1 (.int a1) := ⟨_, rfl⟩
      rw [← efs_3] at hP hD
      have hlfs_3 : fs_3.length = 155 := by rw [efs_3, List.length_set]; exact hM.1
      have hfs_3_0 : fs_3[0]? = some (.ref qm0) := by rw [efs_3, List.getElem?_set_ne (by decide)]; exact hM.2.1
      have hfs_3_4 : fs_3[4]? = some (.ref qm1) := by rw [efs_3, List.getElem?_set_ne (by decide)]; exact hM.2.2.1
      have hfs_3_5 : fs_3[5]? = some (.ref qm2) := by rw [efs_3, List.getElem?_set_ne (by decide)]; exact hM.2.2.2.1
      have hfs_3_6 : fs_3[6]? = some (.ref qm3) := by rw [efs_3, List.getElem?_set_ne (by decide)]; exact hM.2.2.2.2.1
      have hfs_3_7 : fs_3[7]? = some (.ref qm4) := by rw [efs_3, List.getElem?_set_ne (by decide)]; exact hM.2.2.2.2.2.1
      have hfs_3_103 : fs_3[103]? = some (.ref qm5) := by rw [efs_3, List.getElem?_set_ne (by decide)]; exact hM.2.2.2.2.2.2.1
      have hfs_3_3 : fs_3[3]? = some (.int 0) := by rw [efs_3, List.getElem?_set_ne (by decide)]; exact hM.2.2.2.2.2.2.2.2.1
      have hfs_3_8 : fs_3[8]? = some (.int 0) := by rw [efs_3, List.getElem?_set_ne (by decide)]; exact hM.2.2.2.2.2.2.2.2.2.1
      have hfs_3_9 : fs_3[9]? = some (.int 0) := by rw [efs_3, List.getElem?_set_ne (by decide)]; exact hM.2.2.2.2.2.2.2.2.2.2.1
      have hfs_3_10 : fs_3[10]? = some (.int 0) := by rw [efs_3, List.getElem?_set_ne (by decide)]; exact hM.2.2.2.2.2.2.2.2.2.2.2.1
      have hfs_3_22 : fs_3[22]? = some (.int 0) := by rw [efs_3, List.getElem?_set_ne (by decide)]; exact hM.2.2.2.2.2.2.2.2.2.2.2.2.1
      have hfs_3_23 : fs_3[23]? = some (.int 0) := by rw [efs_3, List.getElem?_set_ne (by decide)]; exact hM.2.2.2.2.2.2.2.2.2.2.2.2.2.1
      have hfs_3_24 : fs_3[24]? = some (.int 0) := by rw [efs_3, List.getElem?_set_ne (by decide)]; exact hM.2.2.2.2.2.2.2.2.2.2.2.2.2.2.1
      have hfs_3_28 : fs_3[28]? = some (.int 0) := by rw [efs_3, List.getElem?_set_ne (by decide)]; exact hM.2.2.2.2.2.2.2.2.2.2.2.2.2.2.2.1
      have hfs_3_39 : fs_3[39]? = some (.int 0) := by rw [efs_3, List.getElem?_set_ne (by decide)]; exact hM.2.2.2.2.2.2.2.2.2.2.2.2.2.2.2.2.1
      have hfs_3_93 : fs_3[93]? = some (.int 0) := by rw [efs_3, List.getElem?_set_ne (by decide)]; exact hM.2.2.2.2.2.2.2.2.2.2.2.2.2.2.2.2.2.1
      have hfs_3_98 : fs_3[98]? = some (.int 0) := by rw [efs_3, List.getElem?_set_ne (by decide)]; exact hM.2.2.2.2.2.2.2.2.2.2.2.2.2.2.2.2.2.2.1
      have hfs_3_99 : fs_3[99]? = some (.int 0) := by rw [efs_3, List.getElem?_set_ne (by decide)]; exact hM.2.2.2.2.2.2.2.2.2.2.2.2.2.2.2.2.2.2.2.1
      have hfs_3_113 : fs_3[113]? = some (.int 0) := by rw [efs_3, List.getElem?_set_ne (by decide)]; exact hM.2.2.2.2.2.2.2.2.2.2.2.2.2.2.2.2.2.2.2.2.1
      have hfs_3_114 : fs_3[114]? = some (.int 0) := by rw [efs_3, List.getElem?_set_ne (by decide)]; exact hM.2.2.2.2.2.2.2.2.2.2.2.2.2.2.2.2.2.2.2.2.2.1
      have hfs_3_115 : fs_3[115]? = some (.int 0) := by rw [efs_3, List.getElem?_set_ne (by decide)]; exact hM.2.2.2.2.2.2.2.2.2.2.2.2.2.2.2.2.2.2.2.2.2.2.1
      have hfs_3_117 : fs_3[117]? = some (.int 0) := by rw [efs_3, List.getElem?_set_ne (by decide)]; exact hM.2.2.2.2.2.2.2.2.2.2.2.2.2.2.2.2.2.2.2.2.2.2.2.1
      have hfs_3_122 : fs_3[122]? = some (.int 0) := by rw [efs_3, List.getElem?_set_ne (by decide)]; exact hM.2.2.2.2.2.2.2.2.2.2.2.2.2.2.2.2.2.2.2.2.2.2.2.2.1
      have hfs_3_138 : fs_3[138]? = some (.int 0) := by rw [efs_3, List.getElem?_set_ne (by decide)]; exact hM.2.2.2.2.2.2.2.2.2.2.2.2.2.2.2.2.2.2.2.2.2.2.2.2.2.1
      have hfs_3_139 : fs_3[139]? = some (.int 0) := by rw [efs_3, List.getElem?_set_ne (by decide)]; exact hM.2.2.2.2.2.2.2.2.2.2.2.2.2.2.2.2.2.2.2.2.2.2.2.2.2.2.1
      have hfs_3_140 : fs_3[140]? = some (.int 0) := by rw [efs_3, List.getElem?_set_ne (by decide)]; exact hM.2.2.2.2.2.2.2.2.2.2.2.2.2.2.2.2.2.2.2.2.2.2.2.2.2.2.2.1
      have hfs_3_141 : fs_3[141]? = some (.int 0) := by rw [efs_3, List.getElem?_set_ne (by decide)]; exact hM.2.2.2.2.2.2.2.2.2.2.2.2.2.2.2.2.2.2.2.2.2.2.2.2.2.2.2.2.1
      have hfs_3_142 : fs_3[142]? = some (.int 0) := by rw [efs_3, List.getElem?_set_ne (by decide)]; exact hM.2.2.2.2.2.2.2.2.2.2.2.2.2.2.2.2.2.2.2.2.2.2.2.2.2.2.2.2.2.1
      have hfs_3_143 : fs_3[143]? = some (.int 0) := by rw [efs_3, List.getElem?_set_ne (by decide)]; exact hM.2.2.2.2.2.2.2.2.2.2.2.2.2.2.2.2.2.2.2.2.2.2.2.2.2.2.2.2.2.2.1
      have hfs_3_149 : fs_3[149]? = some (.int 0) := by rw [efs_3, List.getElem?_set_ne (by decide)]; exact hM.2.2.2.2.2.2.2.2.2.2.2.2.2.2.2.2.2.2.2.2.2.2.2.2.2.2.2.2.2.2.2.1
      have hfs_3_123 : fs_3[123]? = some (.int (-1)) := by rw [efs_3, List.getElem?_set_ne (by decide)]; exact hM.2.2.2.2.2.2.2.2.2.2.2.2.2.2.2.2.2.2.2.2.2.2.2.2.2.2.2.2.2.2.2.2.1
      have hfs_3_124 : fs_3[124]? = some (.int (-1)) := by rw [efs_3, List.getElem?_set_ne (by decide)]; exact hM.2.2.2.2.2.2.2.2.2.2.2.2.2.2.2.2.2.2.2.2.2.2.2.2.2.2.2.2.2.2.2.2.2.1
      have hfs_3_125 : fs_3[125]? = some (.int (-1)) := by rw [efs_3, List.getElem?_set_ne (by decide)]; exact hM.2.2.2.2.2.2.2.2.2.2.2.2.2.2.2.2.2.2.2.2.2.2.2.2.2.2.2.2.2.2.2.2.2.2
      have hfs_3_1 : fs_3[1]? = some (.int a1) := by rw [efs_3, List.getElem?_set_self (by rw [hM.1]; decide)]
      replace hP : va_P (dC, dI) vwCl [(h0, .inr (13, fs_3))] H := hP
      replace hD : va_D A [(h0, .inr (13, fs_3))] := hD
      refine lv_iconst (v := 1) hx hb dX13_end_19 (by decide) ?_
      have hP9 := hP.sub (ws' := []) [] rfl
      have hD9 := hD.sub (ws' := []) [] (by decide) rfl
      have hK9 := hK.sub (tys' := []) [] rfl
      exact W.zret hx hb hr (by decide) (fun t ht hW => ⟨⟨(1), (), rfl, lf_end_7 a1 c_1 c_2, by rw [ht]; exact hP9, va_K.moved hW.alike hK9, hD9⟩, hS.F ht⟩) hS.2.2 dX13_end_20
    · have c_2_ := c_2
      refine lv_iconst (v := 0) hx hb dX13_end_12 (by decide) ?_
      have hP9 := hP.sub (ws' := []) [] rfl
      have hD9 := hD.sub (ws' := []) [] (by decide) rfl
      have hK9 := hK.sub (tys' := []) [] rfl
      exact W.zret hx hb hr (by decide) (fun t ht hW => ⟨⟨(0), (), rfl, lf_end_8 a1 c_1 c_2, by rw [ht]; exact hP9, va_K.moved hW.alike hK9, hD9⟩, hS.F ht⟩) hS.2.2 dX13_end_13
theorem lf_m1_9 (a1 : Int32) (c_1 : a1 < 0) : ((-1) : Int32) = an_m1 := by
  first | rfl | (subst_vars; rfl) | (simp_all [an_m1]; done) | (subst_vars; simp_all [an_m1]; done) | (unfold an_m1; (repeat' split) <;> first | rfl | (exfalso; simp_all; done))
theorem lf_m1_10 (a1 : Int32) (c_1 : ¬ a1 < 0) (c_2 : ¬ a1 < 0) : ((-1) : Int32) = an_m1 := by
  first | rfl | (subst_vars; rfl) | (simp_all [an_m1]; done) | (subst_vars; simp_all [an_m1]; done) | (unfold an_m1; (repeat' split) <;> first | rfl | (exfalso; simp_all; done))
set_option maxHeartbeats 4000000 in
set_option maxRecDepth 100000 in
/-- mm_keep -/
theorem mm_keep (l : Launch) (dC : Nat → ClassId) (dI : Nat → Nat → Nat) (sz : Nat) (h0 : Nat) (qm0 qm1 qm2 qm3 qm4 qm5 : Nat) (fsM : List Value) (a1 : Int32) (hM : pm_F fsM qm0 qm1 qm2 qm3 qm4 qm5) : Met l yX13_keep (.code yX13_keep cX13_keep 3 (some .int) :: VS_c1) ({ frames := 0, cells := 0, slots := 0, locals := 0 }) (va_Pc [.ref h0, .int a1] (fun U => U.heap.size = sz ∧ va_P (dC, dI) vwCl [(h0, .inr (13, fsM))] U.heap ∧ va_K (dC, dI) vwCl [] U ∧ va_D (fun _ => True) [(h0, .inr (13, fsM))])) (va_Qi (fun (r : Int32) (u : Unit) => match u with | () => r = an_m1) (fun (u : Unit) (t : State) => match u with | () => va_P (dC, dI) vwCl [] t.heap ∧ va_K (dC, dI) vwCl [] t ∧ va_D (va_A [(h0, .inr (13, fsM))] sz) []) (va_A [(h0, .inr (13, fsM))] sz)) 0 0 (va_A [(h0, .inr (13, fsM))] sz) := by
  refine Met.ofW (cc := cX13_keep) (maxL := 3) (ret := (some .int)) (by decide) rfl ?_
  intro p e s m args below meth c s₁ B hml hv
  obtain ⟨rfl, hsz, hP, hK, hD0⟩ := hv
  have hx := B.exec
  have hb := B.bytes
  have hr := B.returns
  have hts := atoms_spec (ws := (.code yX13_keep cX13_keep 3 (some .int) :: VS_c1)) B.pre
  replace hts := fun w (h : w ∈ VS_c1) => hts w (List.mem_cons_of_mem _ h)
  have hown : s.vm.findClass RX13 = some m.cls := findClass_of_methodNamed B.named
  have hlocks := B.notSynchronized
  subst hsz
  have hD := hD0.self (sz := s.heap.size)
  generalize hAe : va_A [(h0, .inr (13, fsM))] s.heap.size = A at hD  ⊢
  have hA : ∀ q : Nat, s.heap.size ≤ q → A q := fun q h => by rw [← hAe]; exact Or.inr h
  have hP : va_P (dC, dI) vwCl [(h0, .inr (13, fsM))] s.heap := hP
  have hl := lv_entry ([.ref h0, .int a1]) (n := 3) (Nat.le_of_ble_eq_true rfl)
  rw [lg_entry_eq]
  generalize (lg_sl ([.ref h0, .int a1]) ++ List.replicate (3 - (lg_sl ([.ref h0, .int a1])).length) Slot.unset).toArray = ls at hl ⊢
  have hl : lv_has ls 3 [(0, .ref h0), (1, .int a1)] := hl
  obtain ⟨H, hH⟩ : ∃ H : Heap, s.heap = H := ⟨_, rfl⟩
  rw [hH] at hP ⊢
  have hS : va_S A s.heap H [] := by rw [← hH]; exact va_S.rf
  obtain ⟨locs, hlo⟩ : ∃ locs : List Loc, locs = [] := ⟨_, rfl⟩
  rw [← hlo] at hS ⊢
  refine lv_iload_n hx hb dX13_keep_0 rfl (lv_at hl 1 rfl) ?_
  refine lv_if_lt (tgt := 12) hx hb dX13_keep_1 (by decide) (fun c_1 => ?_) (fun c_1 => ?_)
  · have c_1_ := c_1
    refine lv_iconst (v := (-1)) hx hb dX13_keep_12 (by decide) ?_
    have hP9 := hP.sub (ws' := []) [] rfl
    have hD9 := hD.sub (ws' := []) [] (by decide) rfl
    have hK9 := hK.sub (tys' := []) [] rfl
    exact W.iret hx hb hr (fun t ht hW => ⟨⟨((-1)), (), rfl, lf_m1_9 a1 c_1, by rw [ht]; exact hP9, va_K.moved hW.alike hK9, hD9⟩, hS.F ht⟩) hS.2.2 dX13_keep_13
  · have c_1_ := c_1
    refine lv_iload_n hx hb dX13_keep_4 rfl (lv_at hl 1 rfl) ?_
    refine lv_aload_n hx hb dX13_keep_5 rfl (lv_at hl 0 rfl) ?_
    refine va_get (D := (dC, dI)) (ci := 13) (v := .int 0) (C := RX13) (T := TX13) (N := 155) hx hb hts uV_c1_X13 hown hK hP 0 rfl rfl 93 (by decide) (hts (.fieldLink RX13 761 "ClassMillModel" "imageMany" "I") mw_c1_1) (fun _ h9 => h9) hM.2.2.2.2.2.2.2.2.2.2.2.2.2.2.2.2.2.1 dX13_keep_6 ?_
    refine lv_icmp_lt (tgt := 14) hx hb dX13_keep_9 (by decide) (fun c_2 => ?_) (fun c_2 => ?_)
    · have c_2_ := c_2
      exact absurd c_2 c_1
    · have c_2_ := c_2
      refine lv_iconst (v := (-1)) hx hb dX13_keep_12 (by decide) ?_
      have hP9 := hP.sub (ws' := []) [] rfl
      have hD9 := hD.sub (ws' := []) [] (by decide) rfl
      have hK9 := hK.sub (tys' := []) [] rfl
      exact W.iret hx hb hr (fun t ht hW => ⟨⟨((-1)), (), rfl, lf_m1_10 a1 c_1 c_2, by rw [ht]; exact hP9, va_K.moved hW.alike hK9, hD9⟩, hS.F ht⟩) hS.2.2 dX13_keep_13
theorem lf_m1_11 (a1 : Int32) (c_1 : ¬ a1 = 0) (c_2 : ¬ a1 = 1) (c_3 : ¬ a1 = 2) : ((-1) : Int32) = an_m1 := by
  first | rfl | (subst_vars; rfl) | (simp_all [an_m1]; done) | (subst_vars; simp_all [an_m1]; done) | (unfold an_m1; (repeat' split) <;> first | rfl | (exfalso; simp_all; done))
theorem lf_m1_12 (a1 : Int32) (c_1 : ¬ a1 = 0) (c_2 : ¬ a1 = 1) (c_3 : a1 = 2) : ((-1) : Int32) = an_m1 := by
  first | rfl | (subst_vars; rfl) | (simp_all [an_m1]; done) | (subst_vars; simp_all [an_m1]; done) | (unfold an_m1; (repeat' split) <;> first | rfl | (exfalso; simp_all; done))
theorem lf_m1_13 (a1 : Int32) (c_1 : ¬ a1 = 0) (c_2 : a1 = 1) : ((-1) : Int32) = an_m1 := by
  first | rfl | (subst_vars; rfl) | (simp_all [an_m1]; done) | (subst_vars; simp_all [an_m1]; done) | (unfold an_m1; (repeat' split) <;> first | rfl | (exfalso; simp_all; done))
theorem lf_m1_14 (a1 : Int32) (c_1 : a1 = 0) : ((-1) : Int32) = an_m1 := by
  first | rfl | (subst_vars; rfl) | (simp_all [an_m1]; done) | (subst_vars; simp_all [an_m1]; done) | (unfold an_m1; (repeat' split) <;> first | rfl | (exfalso; simp_all; done))
set_option maxHeartbeats 4000000 in
set_option maxRecDepth 100000 in
/-- mm_where -/
theorem mm_where (l : Launch) (dC : Nat → ClassId) (dI : Nat → Nat → Nat) (sz : Nat) (h0 : Nat) (qm0 qm1 qm2 qm3 qm4 qm5 : Nat) (fsM : List Value) (a1 : Int32) (hM : pm_F fsM qm0 qm1 qm2 qm3 qm4 qm5) : Met l yX13_where (.code yX13_where cX13_where 2 (some .int) :: VS_c1) ({ frames := 0, cells := 0, slots := 0, locals := 0 }) (va_Pc [.ref h0, .int a1] (fun U => U.heap.size = sz ∧ va_P (dC, dI) vwCl [(h0, .inr (13, fsM))] U.heap ∧ va_K (dC, dI) vwCl [] U ∧ va_D (fun _ => True) [(h0, .inr (13, fsM))])) (va_Qi (fun (r : Int32) (u : Unit) => match u with | () => r = an_m1) (fun (u : Unit) (t : State) => match u with | () => va_P (dC, dI) vwCl [] t.heap ∧ va_K (dC, dI) vwCl [] t ∧ va_D (va_A [(h0, .inr (13, fsM))] sz) []) (va_A [(h0, .inr (13, fsM))] sz)) 0 0 (va_A [(h0, .inr (13, fsM))] sz) := by
  refine Met.ofW (cc := cX13_where) (maxL := 2) (ret := (some .int)) (by decide) rfl ?_
  intro p e s m args below meth c s₁ B hml hv
  obtain ⟨rfl, hsz, hP, hK, hD0⟩ := hv
  have hx := B.exec
  have hb := B.bytes
  have hr := B.returns
  have hts := atoms_spec (ws := (.code yX13_where cX13_where 2 (some .int) :: VS_c1)) B.pre
  replace hts := fun w (h : w ∈ VS_c1) => hts w (List.mem_cons_of_mem _ h)
  have hown : s.vm.findClass RX13 = some m.cls := findClass_of_methodNamed B.named
  have hlocks := B.notSynchronized
  subst hsz
  have hD := hD0.self (sz := s.heap.size)
  generalize hAe : va_A [(h0, .inr (13, fsM))] s.heap.size = A at hD  ⊢
  have hA : ∀ q : Nat, s.heap.size ≤ q → A q := fun q h => by rw [← hAe]; exact Or.inr h
  have hP : va_P (dC, dI) vwCl [(h0, .inr (13, fsM))] s.heap := hP
  have hl := lv_entry ([.ref h0, .int a1]) (n := 2) (Nat.le_of_ble_eq_true rfl)
  rw [lg_entry_eq]
  generalize (lg_sl ([.ref h0, .int a1]) ++ List.replicate (2 - (lg_sl ([.ref h0, .int a1])).length) Slot.unset).toArray = ls at hl ⊢
  have hl : lv_has ls 2 [(0, .ref h0), (1, .int a1)] := hl
  obtain ⟨H, hH⟩ : ∃ H : Heap, s.heap = H := ⟨_, rfl⟩
  rw [hH] at hP ⊢
  have hS : va_S A s.heap H [] := by rw [← hH]; exact va_S.rf
  obtain ⟨locs, hlo⟩ : ∃ locs : List Loc, locs = [] := ⟨_, rfl⟩
  rw [← hlo] at hS ⊢
  refine lv_iload_n hx hb dX13_where_0 rfl (lv_at hl 1 rfl) ?_
  refine lv_if_ne (tgt := 11) hx hb dX13_where_1 (by decide) (fun c_1 => ?_) (fun c_1 => ?_)
  · have c_1_ := c_1
    refine lv_iload_n hx hb dX13_where_11 rfl (lv_at hl 1 rfl) ?_
    refine lv_iconst (v := 1) hx hb dX13_where_12 (by decide) ?_
    refine lv_icmp_ne (tgt := 23) hx hb dX13_where_13 (by decide) (fun c_2 => ?_) (fun c_2 => ?_)
    · have c_2_ := c_2
      refine lv_iload_n hx hb dX13_where_23 rfl (lv_at hl 1 rfl) ?_
      refine lv_iconst (v := 2) hx hb dX13_where_24 (by decide) ?_
      refine lv_icmp_ne (tgt := 35) hx hb dX13_where_25 (by decide) (fun c_3 => ?_) (fun c_3 => ?_)
      · have c_3_ := c_3
        refine lv_iconst (v := (-1)) hx hb dX13_where_35 (by decide) ?_
        have hP9 := hP.sub (ws' := []) [] rfl
        have hD9 := hD.sub (ws' := []) [] (by decide) rfl
        have hK9 := hK.sub (tys' := []) [] rfl
        exact W.iret hx hb hr (fun t ht hW => ⟨⟨((-1)), (), rfl, lf_m1_11 a1 c_1 c_2 c_3, by rw [ht]; exact hP9, va_K.moved hW.alike hK9, hD9⟩, hS.F ht⟩) hS.2.2 dX13_where_36
      · have c_3_ := c_3
        refine lv_aload_n hx hb dX13_where_28 rfl (lv_at hl 0 rfl) ?_
        refine va_get (D := (dC, dI)) (ci := 13) (v := .int (-1)) (C := RX13) (T := TX13) (N := 155) hx hb hts uV_c1_X13 hown hK hP 0 rfl rfl 125 (by decide) (hts (.fieldLink RX13 264 "ClassMillModel" "whyPlace" "I") mw_c1_3) (fun _ h9 => h9) hM.2.2.2.2.2.2.2.2.2.2.2.2.2.2.2.2.2.2.2.2.2.2.2.2.2.2.2.2.2.2.2.2.2.2 dX13_where_29 ?_
        refine lv_goto (tgt := 36) hx hb dX13_where_32 (by decide) ?_
        have hP9 := hP.sub (ws' := []) [] rfl
        have hD9 := hD.sub (ws' := []) [] (by decide) rfl
        have hK9 := hK.sub (tys' := []) [] rfl
        exact W.iret hx hb hr (fun t ht hW => ⟨⟨((-1)), (), rfl, lf_m1_12 a1 c_1 c_2 c_3, by rw [ht]; exact hP9, va_K.moved hW.alike hK9, hD9⟩, hS.F ht⟩) hS.2.2 dX13_where_36
    · have c_2_ := c_2
      refine lv_aload_n hx hb dX13_where_16 rfl (lv_at hl 0 rfl) ?_
      refine va_get (D := (dC, dI)) (ci := 13) (v := .int (-1)) (C := RX13) (T := TX13) (N := 155) hx hb hts uV_c1_X13 hown hK hP 0 rfl rfl 124 (by decide) (hts (.fieldLink RX13 261 "ClassMillModel" "whyMethod" "I") mw_c1_4) (fun _ h9 => h9) hM.2.2.2.2.2.2.2.2.2.2.2.2.2.2.2.2.2.2.2.2.2.2.2.2.2.2.2.2.2.2.2.2.2.1 dX13_where_17 ?_
      refine lv_goto (tgt := 36) hx hb dX13_where_20 (by decide) ?_
      have hP9 := hP.sub (ws' := []) [] rfl
      have hD9 := hD.sub (ws' := []) [] (by decide) rfl
      have hK9 := hK.sub (tys' := []) [] rfl
      exact W.iret hx hb hr (fun t ht hW => ⟨⟨((-1)), (), rfl, lf_m1_13 a1 c_1 c_2, by rw [ht]; exact hP9, va_K.moved hW.alike hK9, hD9⟩, hS.F ht⟩) hS.2.2 dX13_where_36
  · have c_1_ := c_1
    refine lv_aload_n hx hb dX13_where_4 rfl (lv_at hl 0 rfl) ?_
    refine va_get (D := (dC, dI)) (ci := 13) (v := .int (-1)) (C := RX13) (T := TX13) (N := 155) hx hb hts uV_c1_X13 hown hK hP 0 rfl rfl 123 (by decide) (hts (.fieldLink RX13 257 "ClassMillModel" "whyClass" "I") mw_c1_5) (fun _ h9 => h9) hM.2.2.2.2.2.2.2.2.2.2.2.2.2.2.2.2.2.2.2.2.2.2.2.2.2.2.2.2.2.2.2.2.1 dX13_where_5 ?_
    refine lv_goto (tgt := 36) hx hb dX13_where_8 (by decide) ?_
    have hP9 := hP.sub (ws' := []) [] rfl
    have hD9 := hD.sub (ws' := []) [] (by decide) rfl
    have hK9 := hK.sub (tys' := []) [] rfl
    exact W.iret hx hb hr (fun t ht hW => ⟨⟨((-1)), (), rfl, lf_m1_14 a1 c_1, by rw [ht]; exact hP9, va_K.moved hW.alike hK9, hD9⟩, hS.F ht⟩) hS.2.2 dX13_where_36
theorem lf_run_15 (a1 : Int32) (c_1 : a1 < 1) : ((-1) : Int32) = an_run a1 := by
  first | rfl | (subst_vars; rfl) | (simp_all [an_run]; done) | (subst_vars; simp_all [an_run]; done) | (unfold an_run; (repeat' split) <;> first | rfl | (exfalso; simp_all; done))
theorem lf_run_16 (a1 : Int32) (c_1 : ¬ a1 < 1) (c_2 : a1 ≤ 20000) (c_3 : a1 ≤ 0) : (0 : Int32) = an_run a1 := by
  first | rfl | (subst_vars; rfl) | (simp_all [an_run]; done) | (subst_vars; simp_all [an_run]; done) | (unfold an_run; (repeat' split) <;> first | rfl | (exfalso; simp_all; done))
theorem lf_run_17 (a1 : Int32) (c_1 : ¬ a1 < 1) (c_2 : a1 ≤ 20000) (c_3 : ¬ a1 ≤ 0) : (0 : Int32) = an_run a1 := by
  first | rfl | (subst_vars; rfl) | (simp_all [an_run]; done) | (subst_vars; simp_all [an_run]; done) | (unfold an_run; (repeat' split) <;> first | rfl | (exfalso; simp_all; done))
theorem lf_run_18 (a1 : Int32) (c_1 : ¬ a1 < 1) (c_2 : ¬ a1 ≤ 20000) : ((-1) : Int32) = an_run a1 := by
  first | rfl | (subst_vars; rfl) | (simp_all [an_run]; done) | (subst_vars; simp_all [an_run]; done) | (unfold an_run; (repeat' split) <;> first | rfl | (exfalso; simp_all; done))
set_option maxHeartbeats 4000000 in
set_option maxRecDepth 100000 in
/-- mm_run -/
theorem mm_run (l : Launch) (dC : Nat → ClassId) (dI : Nat → Nat → Nat) (sz : Nat) (h0 : Nat) (qm0 qm1 qm2 qm3 qm4 qm5 : Nat) (fsM : List Value) (a1 : Int32) (hM : pm_F fsM qm0 qm1 qm2 qm3 qm4 qm5) : Met l yX13_run (.code yX13_run cX13_run 3 (some .int) :: VS_c1) ({ frames := 0, cells := 0, slots := 0, locals := 0 }) (va_Pc [.ref h0, .int a1] (fun U => U.heap.size = sz ∧ va_P (dC, dI) vwCl [(h0, .inr (13, fsM))] U.heap ∧ va_K (dC, dI) vwCl [] U ∧ va_D (fun _ => True) [(h0, .inr (13, fsM))])) (va_Qi (fun (r : Int32) (u : Unit) => match u with | () => r = an_run a1) (fun (u : Unit) (t : State) => match u with | () => va_P (dC, dI) vwCl [] t.heap ∧ va_K (dC, dI) vwCl [] t ∧ va_D (va_A [(h0, .inr (13, fsM))] sz) []) (va_A [(h0, .inr (13, fsM))] sz)) 0 0 (va_A [(h0, .inr (13, fsM))] sz) := by
  refine Met.ofW (cc := cX13_run) (maxL := 3) (ret := (some .int)) (by decide) rfl ?_
  intro p e s m args below meth c s₁ B hml hv
  obtain ⟨rfl, hsz, hP, hK, hD0⟩ := hv
  have hx := B.exec
  have hb := B.bytes
  have hr := B.returns
  have hts := atoms_spec (ws := (.code yX13_run cX13_run 3 (some .int) :: VS_c1)) B.pre
  replace hts := fun w (h : w ∈ VS_c1) => hts w (List.mem_cons_of_mem _ h)
  have hown : s.vm.findClass RX13 = some m.cls := findClass_of_methodNamed B.named
  have hlocks := B.notSynchronized
  subst hsz
  have hD := hD0.self (sz := s.heap.size)
  generalize hAe : va_A [(h0, .inr (13, fsM))] s.heap.size = A at hD  ⊢
  have hA : ∀ q : Nat, s.heap.size ≤ q → A q := fun q h => by rw [← hAe]; exact Or.inr h
  have hP : va_P (dC, dI) vwCl [(h0, .inr (13, fsM))] s.heap := hP
  have hl := lv_entry ([.ref h0, .int a1]) (n := 3) (Nat.le_of_ble_eq_true rfl)
  rw [lg_entry_eq]
  generalize (lg_sl ([.ref h0, .int a1]) ++ List.replicate (3 - (lg_sl ([.ref h0, .int a1])).length) Slot.unset).toArray = ls at hl ⊢
  have hl : lv_has ls 3 [(0, .ref h0), (1, .int a1)] := hl
  obtain ⟨H, hH⟩ : ∃ H : Heap, s.heap = H := ⟨_, rfl⟩
  rw [hH] at hP ⊢
  have hS : va_S A s.heap H [] := by rw [← hH]; exact va_S.rf
  obtain ⟨locs, hlo⟩ : ∃ locs : List Loc, locs = [] := ⟨_, rfl⟩
  rw [← hlo] at hS ⊢
  refine lv_iload_n hx hb dX13_run_0 rfl (lv_at hl 1 rfl) ?_
  refine lv_iconst (v := 1) hx hb dX13_run_1 (by decide) ?_
  refine lv_icmp_lt (tgt := 12) hx hb dX13_run_2 (by decide) (fun c_1 => ?_) (fun c_1 => ?_)
  · have c_1_ := c_1
    refine lv_iconst (v := (-1)) hx hb dX13_run_12 (by decide) ?_
    have hP9 := hP.sub (ws' := []) [] rfl
    have hD9 := hD.sub (ws' := []) [] (by decide) rfl
    have hK9 := hK.sub (tys' := []) [] rfl
    exact W.iret hx hb hr (fun t ht hW => ⟨⟨((-1)), (), rfl, lf_run_15 a1 c_1, by rw [ht]; exact hP9, va_K.moved hW.alike hK9, hD9⟩, hS.F ht⟩) hS.2.2 dX13_run_13
  · have c_1_ := c_1
    refine lv_iload_n hx hb dX13_run_5 rfl (lv_at hl 1 rfl) ?_
    refine lv_sipush (v := 20000) hx hb dX13_run_6 (by decide) ?_
    refine lv_icmp_le (tgt := 14) hx hb dX13_run_9 (by decide) (fun c_2 => ?_) (fun c_2 => ?_)
    · have c_2_ := c_2
      refine lv_iconst (v := 0) hx hb dX13_run_14 (by decide) ?_
      refine lv_istore_n (lv' := [(2, .int 0), (0, .ref h0), (1, .int a1)]) hx hb dX13_run_15 rfl hl (by decide) rfl (fun ls hl => ?_)
      refine lv_iload_n hx hb dX13_run_16 rfl (lv_at hl 0 rfl) ?_
      refine lv_iload_n hx hb dX13_run_17 rfl (lv_at hl 2 rfl) ?_
      refine lv_icmp_ge (tgt := 39) hx hb dX13_run_18 (by decide) (fun c_3 => ?_) (fun c_3 => ?_)
      · have c_3_ := c_3
        refine lv_aload_n hx hb dX13_run_39 rfl (lv_at hl 1 rfl) ?_
        refine lv_dup hx hb dX13_run_40 rfl ?_
        refine va_get (D := (dC, dI)) (ci := 13) (v := .int 0) (C := RX13) (T := TX13) (N := 155) hx hb hts uV_c1_X13 hown hK hP 0 rfl rfl 140 (by decide) (hts (.fieldLink RX13 1046 "ClassMillModel" "steps" "I") mw_c1_6) (fun _ h9 => h9) hM.2.2.2.2.2.2.2.2.2.2.2.2.2.2.2.2.2.2.2.2.2.2.2.2.2.2.2.1 dX13_run_41 ?_
        refine lv_iload_n hx hb dX13_run_44 rfl (lv_at hl 0 rfl) ?_
        refine lv_iadd hx hb dX13_run_45 ?_
        refine lv_topi (fun y_4 ey_4 => ?_)
        obtain rfl : y_4 = 0 := ey_4.trans (by decide)
        refine va_put (D := (dC, dI)) (ci := 13) (v := .int 0) (ty := .int) (C := RX13) (T := TX13) (N := 155) hx hb hts uV_c1_X13 tyX13 tyX13_ok nmX13 hown hK hP hD hS 0 rfl rfl 140 (by decide) (hts (.fieldLink RX13 1046 "ClassMillModel" "steps" "I") mw_c1_6) (fun _ h9 => h9) rfl (by decide +kernel) rfl rfl (by rw [hM.1]; decide) dX13_run_46 ?_
        clear hP hD hS
        intro H locs hP hD hS
        obtain ⟨fs_5, efs_5⟩ : ∃ zf : List Value, zf = fsM.set 140 (.int 0) := ⟨_, rfl⟩
        rw [← efs_5] at hP hD
        have hlfs_5 : fs_5.length = 155 := by rw [efs_5, List.length_set]; exact hM.1
        have hfs_5_0 : fs_5[0]? = some (.ref qm0) := by rw [efs_5, List.getElem?_set_ne (by decide)]; exact hM.2.1
        have hfs_5_4 : fs_5[4]? = some (.ref qm1) := by rw [efs_5, List.getElem?_set_ne (by decide)]; exact hM.2.2.1
        have hfs_5_5 : fs_5[5]? = some (.ref qm2) := by rw [efs_5, List.getElem?_set_ne (by decide)]; exact hM.2.2.2.1
        have hfs_5_6 : fs_5[6]? = some (.ref qm3) := by rw [efs_5, List.getElem?_set_ne (by decide)]; exact hM.2.2.2.2.1
        have hfs_5_7 : fs_5[7]? = some (.ref qm4) := by rw [efs_5, List.getElem?_set_ne (by decide)]; exact hM.2.2.2.2.2.1
        have hfs_5_103 : fs_5[103]? = some (.ref qm5) := by rw [efs_5, List.getElem?_set_ne (by decide)]; exact hM.2.2.2.2.2.2.1
        have hfs_5_1 : fs_5[1]? = some (.int 0) := by rw [efs_5, List.getElem?_set_ne (by decide)]; exact hM.2.2.2.2.2.2.2.1
        have hfs_5_3 : fs_5[3]? = some (.int 0) := by rw [efs_5, List.getElem?_set_ne (by decide)]; exact hM.2.2.2.2.2.2.2.2.1
        have hfs_5_8 : fs_5[8]? = some (.int 0) := by rw [efs_5, List.getElem?_set_ne (by decide)]; exact hM.2.2.2.2.2.2.2.2.2.1
        have hfs_5_9 : fs_5[9]? = some (.int 0) := by rw [efs_5, List.getElem?_set_ne (by decide)]; exact hM.2.2.2.2.2.2.2.2.2.2.1
        have hfs_5_10 : fs_5[10]? = some (.int 0) := by rw [efs_5, List.getElem?_set_ne (by decide)]; exact hM.2.2.2.2.2.2.2.2.2.2.2.1
        have hfs_5_22 : fs_5[22]? = some (.int 0) := by rw [efs_5, List.getElem?_set_ne (by decide)]; exact hM.2.2.2.2.2.2.2.2.2.2.2.2.1
        have hfs_5_23 : fs_5[23]? = some (.int 0) := by rw [efs_5, List.getElem?_set_ne (by decide)]; exact hM.2.2.2.2.2.2.2.2.2.2.2.2.2.1
        have hfs_5_24 : fs_5[24]? = some (.int 0) := by rw [efs_5, List.getElem?_set_ne (by decide)]; exact hM.2.2.2.2.2.2.2.2.2.2.2.2.2.2.1
        have hfs_5_28 : fs_5[28]? = some (.int 0) := by rw [efs_5, List.getElem?_set_ne (by decide)]; exact hM.2.2.2.2.2.2.2.2.2.2.2.2.2.2.2.1
        have hfs_5_39 : fs_5[39]? = some (.int 0) := by rw [efs_5, List.getElem?_set_ne (by decide)]; exact hM.2.2.2.2.2.2.2.2.2.2.2.2.2.2.2.2.1
        have hfs_5_93 : fs_5[93]? = some (.int 0) := by rw [efs_5, List.getElem?_set_ne (by decide)]; exact hM.2.2.2.2.2.2.2.2.2.2.2.2.2.2.2.2.2.1
        have hfs_5_98 : fs_5[98]? = some (.int 0) := by rw [efs_5, List.getElem?_set_ne (by decide)]; exact hM.2.2.2.2.2.2.2.2.2.2.2.2.2.2.2.2.2.2.1
        have hfs_5_99 : fs_5[99]? = some (.int 0) := by rw [efs_5, List.getElem?_set_ne (by decide)]; exact hM.2.2.2.2.2.2.2.2.2.2.2.2.2.2.2.2.2.2.2.1
        have hfs_5_113 : fs_5[113]? = some (.int 0) := by rw [efs_5, List.getElem?_set_ne (by decide)]; exact hM.2.2.2.2.2.2.2.2.2.2.2.2.2.2.2.2.2.2.2.2.1
        have hfs_5_114 : fs_5[114]? = some (.int 0) := by rw [efs_5, List.getElem?_set_ne (by decide)]; exact hM.2.2.2.2.2.2.2.2.2.2.2.2.2.2.2.2.2.2.2.2.2.1
        have hfs_5_115 : fs_5[115]? = some (.int 0) := by rw [efs_5, List.getElem?_set_ne (by decide)]; exact hM.2.2.2.2.2.2.2.2.2.2.2.2.2.2.2.2.2.2.2.2.2.2.1
        have hfs_5_117 : fs_5[117]? = some (.int 0) := by rw [efs_5, List.getElem?_set_ne (by decide)]; exact hM.2.2.2.2.2.2.2.2.2.2.2.2.2.2.2.2.2.2.2.2.2.2.2.1
        have hfs_5_122 : fs_5[122]? = some (.int 0) := by rw [efs_5, List.getElem?_set_ne (by decide)]; exact hM.2.2.2.2.2.2.2.2.2.2.2.2.2.2.2.2.2.2.2.2.2.2.2.2.1
        have hfs_5_138 : fs_5[138]? = some (.int 0) := by rw [efs_5, List.getElem?_set_ne (by decide)]; exact hM.2.2.2.2.2.2.2.2.2.2.2.2.2.2.2.2.2.2.2.2.2.2.2.2.2.1
        have hfs_5_139 : fs_5[139]? = some (.int 0) := by rw [efs_5, List.getElem?_set_ne (by decide)]; exact hM.2.2.2.2.2.2.2.2.2.2.2.2.2.2.2.2.2.2.2.2.2.2.2.2.2.2.1
        have hfs_5_141 : fs_5[141]? = some (.int 0) := by rw [efs_5, List.getElem?_set_ne (by decide)]; exact hM.2.2.2.2.2.2.2.2.2.2.2.2.2.2.2.2.2.2.2.2.2.2.2.2.2.2.2.2.1
        have hfs_5_142 : fs_5[142]? = some (.int 0) := by rw [efs_5, List.getElem?_set_ne (by decide)]; exact hM.2.2.2.2.2.2.2.2.2.2.2.2.2.2.2.2.2.2.2.2.2.2.2.2.2.2.2.2.2.1
        have hfs_5_143 : fs_5[143]? = some (.int 0) := by rw [efs_5, List.getElem?_set_ne (by decide)]; exact hM.2.2.2.2.2.2.2.2.2.2.2.2.2.2.2.2.2.2.2.2.2.2.2.2.2.2.2.2.2.2.1
        have hfs_5_149 : fs_5[149]? = some (.int 0) := by rw [efs_5, List.getElem?_set_ne (by decide)]; exact hM.2.2.2.2.2.2.2.2.2.2.2.2.2.2.2.2.2.2.2.2.2.2.2.2.2.2.2.2.2.2.2.1
        have hfs_5_123 : fs_5[123]? = some (.int (-1)) := by rw [efs_5, List.getElem?_set_ne (by decide)]; exact hM.2.2.2.2.2.2.2.2.2.2.2.2.2.2.2.2.2.2.2.2.2.2.2.2.2.2.2.2.2.2.2.2.1
        have hfs_5_124 : fs_5[124]? = some (.int (-1)) := by rw [efs_5, List.getElem?_set_ne (by decide)]; exact hM.2.2.2.2.2.2.2.2.2.2.2.2.2.2.2.2.2.2.2.2.2.2.2.2.2.2.2.2.2.2.2.2.2.1
        have hfs_5_125 : fs_5[125]? = some (.int (-1)) := by rw [efs_5, List.getElem?_set_ne (by decide)]; exact hM.2.2.2.2.2.2.2.2.2.2.2.2.2.2.2.2.2.2.2.2.2.2.2.2.2.2.2.2.2.2.2.2.2.2
        have hfs_5_140 : fs_5[140]? = some (.int 0) := by rw [efs_5, List.getElem?_set_self (by rw [hM.1]; decide)]
        replace hP : va_P (dC, dI) vwCl [(h0, .inr (13, fs_5))] H := hP
        replace hD : va_D A [(h0, .inr (13, fs_5))] := hD
        refine lv_iload_n hx hb dX13_run_49 rfl (lv_at hl 0 rfl) ?_
        have hP9 := hP.sub (ws' := []) [] rfl
        have hD9 := hD.sub (ws' := []) [] (by decide) rfl
        have hK9 := hK.sub (tys' := []) [] rfl
        exact W.iret hx hb hr (fun t ht hW => ⟨⟨(0), (), rfl, lf_run_16 a1 c_1 c_2 c_3, by rw [ht]; exact hP9, va_K.moved hW.alike hK9, hD9⟩, hS.F ht⟩) hS.2.2 dX13_run_50
      · have c_3_ := c_3
        refine lv_aload_n hx hb dX13_run_21 rfl (lv_at hl 1 rfl) ?_
        refine va_get (D := (dC, dI)) (ci := 13) (v := .int 0) (C := RX13) (T := TX13) (N := 155) hx hb hts uV_c1_X13 hown hK hP 0 rfl rfl 138 (by decide) (hts (.fieldLink RX13 858 "ClassMillModel" "state" "I") mw_c1_7) (fun _ h9 => h9) hM.2.2.2.2.2.2.2.2.2.2.2.2.2.2.2.2.2.2.2.2.2.2.2.2.2.1 dX13_run_22 ?_
        refine lv_iconst (v := 1) hx hb dX13_run_25 (by decide) ?_
        refine lv_icmp_ne (tgt := 39) hx hb dX13_run_26 (by decide) (fun c_6 => ?_) (fun c_6 => (show False by revert c_6; decide).elim)
        refine lv_aload_n hx hb dX13_run_39 rfl (lv_at hl 1 rfl) ?_
        refine lv_dup hx hb dX13_run_40 rfl ?_
        refine va_get (D := (dC, dI)) (ci := 13) (v := .int 0) (C := RX13) (T := TX13) (N := 155) hx hb hts uV_c1_X13 hown hK hP 0 rfl rfl 140 (by decide) (hts (.fieldLink RX13 1046 "ClassMillModel" "steps" "I") mw_c1_6) (fun _ h9 => h9) hM.2.2.2.2.2.2.2.2.2.2.2.2.2.2.2.2.2.2.2.2.2.2.2.2.2.2.2.1 dX13_run_41 ?_
        refine lv_iload_n hx hb dX13_run_44 rfl (lv_at hl 0 rfl) ?_
        refine lv_iadd hx hb dX13_run_45 ?_
        refine lv_topi (fun y_7 ey_7 => ?_)
        obtain rfl : y_7 = 0 := ey_7.trans (by decide)
        refine va_put (D := (dC, dI)) (ci := 13) (v := .int 0) (ty := .int) (C := RX13) (T := TX13) (N := 155) hx hb hts uV_c1_X13 tyX13 tyX13_ok nmX13 hown hK hP hD hS 0 rfl rfl 140 (by decide) (hts (.fieldLink RX13 1046 "ClassMillModel" "steps" "I") mw_c1_6) (fun _ h9 => h9) rfl (by decide +kernel) rfl rfl (by rw [hM.1]; decide) dX13_run_46 ?_
        clear hP hD hS
        intro H locs hP hD hS
        obtain ⟨fs_8, efs_8⟩ : ∃ zf : List Value, zf = fsM.set 140 (.int 0) := ⟨_, rfl⟩
        rw [← efs_8] at hP hD
        have hlfs_8 : fs_8.length = 155 := by rw [efs_8, List.length_set]; exact hM.1
        have hfs_8_0 : fs_8[0]? = some (.ref qm0) := by rw [efs_8, List.getElem?_set_ne (by decide)]; exact hM.2.1
        have hfs_8_4 : fs_8[4]? = some (.ref qm1) := by rw [efs_8, List.getElem?_set_ne (by decide)]; exact hM.2.2.1
        have hfs_8_5 : fs_8[5]? = some (.ref qm2) := by rw [efs_8, List.getElem?_set_ne (by decide)]; exact hM.2.2.2.1
        have hfs_8_6 : fs_8[6]? = some (.ref qm3) := by rw [efs_8, List.getElem?_set_ne (by decide)]; exact hM.2.2.2.2.1
        have hfs_8_7 : fs_8[7]? = some (.ref qm4) := by rw [efs_8, List.getElem?_set_ne (by decide)]; exact hM.2.2.2.2.2.1
        have hfs_8_103 : fs_8[103]? = some (.ref qm5) := by rw [efs_8, List.getElem?_set_ne (by decide)]; exact hM.2.2.2.2.2.2.1
        have hfs_8_1 : fs_8[1]? = some (.int 0) := by rw [efs_8, List.getElem?_set_ne (by decide)]; exact hM.2.2.2.2.2.2.2.1
        have hfs_8_3 : fs_8[3]? = some (.int 0) := by rw [efs_8, List.getElem?_set_ne (by decide)]; exact hM.2.2.2.2.2.2.2.2.1
        have hfs_8_8 : fs_8[8]? = some (.int 0) := by rw [efs_8, List.getElem?_set_ne (by decide)]; exact hM.2.2.2.2.2.2.2.2.2.1
        have hfs_8_9 : fs_8[9]? = some (.int 0) := by rw [efs_8, List.getElem?_set_ne (by decide)]; exact hM.2.2.2.2.2.2.2.2.2.2.1
        have hfs_8_10 : fs_8[10]? = some (.int 0) := by rw [efs_8, List.getElem?_set_ne (by decide)]; exact hM.2.2.2.2.2.2.2.2.2.2.2.1
        have hfs_8_22 : fs_8[22]? = some (.int 0) := by rw [efs_8, List.getElem?_set_ne (by decide)]; exact hM.2.2.2.2.2.2.2.2.2.2.2.2.1
        have hfs_8_23 : fs_8[23]? = some (.int 0) := by rw [efs_8, List.getElem?_set_ne (by decide)]; exact hM.2.2.2.2.2.2.2.2.2.2.2.2.2.1
        have hfs_8_24 : fs_8[24]? = some (.int 0) := by rw [efs_8, List.getElem?_set_ne (by decide)]; exact hM.2.2.2.2.2.2.2.2.2.2.2.2.2.2.1
        have hfs_8_28 : fs_8[28]? = some (.int 0) := by rw [efs_8, List.getElem?_set_ne (by decide)]; exact hM.2.2.2.2.2.2.2.2.2.2.2.2.2.2.2.1
        have hfs_8_39 : fs_8[39]? = some (.int 0) := by rw [efs_8, List.getElem?_set_ne (by decide)]; exact hM.2.2.2.2.2.2.2.2.2.2.2.2.2.2.2.2.1
        have hfs_8_93 : fs_8[93]? = some (.int 0) := by rw [efs_8, List.getElem?_set_ne (by decide)]; exact hM.2.2.2.2.2.2.2.2.2.2.2.2.2.2.2.2.2.1
        have hfs_8_98 : fs_8[98]? = some (.int 0) := by rw [efs_8, List.getElem?_set_ne (by decide)]; exact hM.2.2.2.2.2.2.2.2.2.2.2.2.2.2.2.2.2.2.1
        have hfs_8_99 : fs_8[99]? = some (.int 0) := by rw [efs_8, List.getElem?_set_ne (by decide)]; exact hM.2.2.2.2.2.2.2.2.2.2.2.2.2.2.2.2.2.2.2.1
        have hfs_8_113 : fs_8[113]? = some (.int 0) := by rw [efs_8, List.getElem?_set_ne (by decide)]; exact hM.2.2.2.2.2.2.2.2.2.2.2.2.2.2.2.2.2.2.2.2.1
        have hfs_8_114 : fs_8[114]? = some (.int 0) := by rw [efs_8, List.getElem?_set_ne (by decide)]; exact hM.2.2.2.2.2.2.2.2.2.2.2.2.2.2.2.2.2.2.2.2.2.1
        have hfs_8_115 : fs_8[115]? = some (.int 0) := by rw [efs_8, List.getElem?_set_ne (by decide)]; exact hM.2.2.2.2.2.2.2.2.2.2.2.2.2.2.2.2.2.2.2.2.2.2.1
        have hfs_8_117 : fs_8[117]? = some (.int 0) := by rw [efs_8, List.getElem?_set_ne (by decide)]; exact hM.2.2.2.2.2.2.2.2.2.2.2.2.2.2.2.2.2.2.2.2.2.2.2.1
        have hfs_8_122 : fs_8[122]? = some (.int 0) := by rw [efs_8, List.getElem?_set_ne (by decide)]; exact hM.2.2.2.2.2.2.2.2.2.2.2.2.2.2.2.2.2.2.2.2.2.2.2.2.1
        have hfs_8_138 : fs_8[138]? = some (.int 0) := by rw [efs_8, List.getElem?_set_ne (by decide)]; exact hM.2.2.2.2.2.2.2.2.2.2.2.2.2.2.2.2.2.2.2.2.2.2.2.2.2.1
        have hfs_8_139 : fs_8[139]? = some (.int 0) := by rw [efs_8, List.getElem?_set_ne (by decide)]; exact hM.2.2.2.2.2.2.2.2.2.2.2.2.2.2.2.2.2.2.2.2.2.2.2.2.2.2.1
        have hfs_8_141 : fs_8[141]? = some (.int 0) := by rw [efs_8, List.getElem?_set_ne (by decide)]; exact hM.2.2.2.2.2.2.2.2.2.2.2.2.2.2.2.2.2.2.2.2.2.2.2.2.2.2.2.2.1
        have hfs_8_142 : fs_8[142]? = some (.int 0) := by rw [efs_8, List.getElem?_set_ne (by decide)]; exact hM.2.2.2.2.2.2.2.2.2.2.2.2.2.2.2.2.2.2.2.2.2.2.2.2.2.2.2.2.2.1
        have hfs_8_143 : fs_8[143]? = some (.int 0) := by rw [efs_8, List.getElem?_set_ne (by decide)]; exact hM.2.2.2.2.2.2.2.2.2.2.2.2.2.2.2.2.2.2.2.2.2.2.2.2.2.2.2.2.2.2.1
        have hfs_8_149 : fs_8[149]? = some (.int 0) := by rw [efs_8, List.getElem?_set_ne (by decide)]; exact hM.2.2.2.2.2.2.2.2.2.2.2.2.2.2.2.2.2.2.2.2.2.2.2.2.2.2.2.2.2.2.2.1
        have hfs_8_123 : fs_8[123]? = some (.int (-1)) := by rw [efs_8, List.getElem?_set_ne (by decide)]; exact hM.2.2.2.2.2.2.2.2.2.2.2.2.2.2.2.2.2.2.2.2.2.2.2.2.2.2.2.2.2.2.2.2.1
        have hfs_8_124 : fs_8[124]? = some (.int (-1)) := by rw [efs_8, List.getElem?_set_ne (by decide)]; exact hM.2.2.2.2.2.2.2.2.2.2.2.2.2.2.2.2.2.2.2.2.2.2.2.2.2.2.2.2.2.2.2.2.2.1
        have hfs_8_125 : fs_8[125]? = some (.int (-1)) := by rw [efs_8, List.getElem?_set_ne (by decide)]; exact hM.2.2.2.2.2.2.2.2.2.2.2.2.2.2.2.2.2.2.2.2.2.2.2.2.2.2.2.2.2.2.2.2.2.2
        have hfs_8_140 : fs_8[140]? = some (.int 0) := by rw [efs_8, List.getElem?_set_self (by rw [hM.1]; decide)]
        replace hP : va_P (dC, dI) vwCl [(h0, .inr (13, fs_8))] H := hP
        replace hD : va_D A [(h0, .inr (13, fs_8))] := hD
        refine lv_iload_n hx hb dX13_run_49 rfl (lv_at hl 0 rfl) ?_
        have hP9 := hP.sub (ws' := []) [] rfl
        have hD9 := hD.sub (ws' := []) [] (by decide) rfl
        have hK9 := hK.sub (tys' := []) [] rfl
        exact W.iret hx hb hr (fun t ht hW => ⟨⟨(0), (), rfl, lf_run_17 a1 c_1 c_2 c_3, by rw [ht]; exact hP9, va_K.moved hW.alike hK9, hD9⟩, hS.F ht⟩) hS.2.2 dX13_run_50
    · have c_2_ := c_2
      refine lv_iconst (v := (-1)) hx hb dX13_run_12 (by decide) ?_
      have hP9 := hP.sub (ws' := []) [] rfl
      have hD9 := hD.sub (ws' := []) [] (by decide) rfl
      have hK9 := hK.sub (tys' := []) [] rfl
      exact W.iret hx hb hr (fun t ht hW => ⟨⟨((-1)), (), rfl, lf_run_18 a1 c_1 c_2, by rw [ht]; exact hP9, va_K.moved hW.alike hK9, hD9⟩, hS.F ht⟩) hS.2.2 dX13_run_13
theorem lf_0_19 (a1 : Int32)  : (0 : Int32) = an_0 := by
  first | rfl | (subst_vars; rfl) | (simp_all [an_0]; done) | (subst_vars; simp_all [an_0]; done) | (unfold an_0; (repeat' split) <;> first | rfl | (exfalso; simp_all; done))
set_option maxHeartbeats 4000000 in
set_option maxRecDepth 100000 in
/-- mm_out -/
theorem mm_out (l : Launch) (dC : Nat → ClassId) (dI : Nat → Nat → Nat) (sz : Nat) (h0 : Nat) (qm0 qm1 qm2 qm3 qm4 qm5 : Nat) (fsM : List Value) (a1 : Int32) (hM : pm_F fsM qm0 qm1 qm2 qm3 qm4 qm5) : Met l yX13_out (.code yX13_out cX13_out 2 (some .int) :: VS_c1) ({ frames := 0, cells := 0, slots := 0, locals := 0 }) (va_Pc [.ref h0, .int a1] (fun U => U.heap.size = sz ∧ va_P (dC, dI) vwCl [(h0, .inr (13, fsM))] U.heap ∧ va_K (dC, dI) vwCl [] U ∧ va_D (fun _ => True) [(h0, .inr (13, fsM))])) (va_Qi (fun (r : Int32) (u : Unit) => match u with | () => r = an_0) (fun (u : Unit) (t : State) => match u with | () => va_P (dC, dI) vwCl [] t.heap ∧ va_K (dC, dI) vwCl [] t ∧ va_D (va_A [(h0, .inr (13, fsM))] sz) []) (va_A [(h0, .inr (13, fsM))] sz)) 0 0 (va_A [(h0, .inr (13, fsM))] sz) := by
  refine Met.ofW (cc := cX13_out) (maxL := 2) (ret := (some .int)) (by decide) rfl ?_
  intro p e s m args below meth c s₁ B hml hv
  obtain ⟨rfl, hsz, hP, hK, hD0⟩ := hv
  have hx := B.exec
  have hb := B.bytes
  have hr := B.returns
  have hts := atoms_spec (ws := (.code yX13_out cX13_out 2 (some .int) :: VS_c1)) B.pre
  replace hts := fun w (h : w ∈ VS_c1) => hts w (List.mem_cons_of_mem _ h)
  have hown : s.vm.findClass RX13 = some m.cls := findClass_of_methodNamed B.named
  have hlocks := B.notSynchronized
  subst hsz
  have hD := hD0.self (sz := s.heap.size)
  generalize hAe : va_A [(h0, .inr (13, fsM))] s.heap.size = A at hD  ⊢
  have hA : ∀ q : Nat, s.heap.size ≤ q → A q := fun q h => by rw [← hAe]; exact Or.inr h
  have hP : va_P (dC, dI) vwCl [(h0, .inr (13, fsM))] s.heap := hP
  have hl := lv_entry ([.ref h0, .int a1]) (n := 2) (Nat.le_of_ble_eq_true rfl)
  rw [lg_entry_eq]
  generalize (lg_sl ([.ref h0, .int a1]) ++ List.replicate (2 - (lg_sl ([.ref h0, .int a1])).length) Slot.unset).toArray = ls at hl ⊢
  have hl : lv_has ls 2 [(0, .ref h0), (1, .int a1)] := hl
  obtain ⟨H, hH⟩ : ∃ H : Heap, s.heap = H := ⟨_, rfl⟩
  rw [hH] at hP ⊢
  have hS : va_S A s.heap H [] := by rw [← hH]; exact va_S.rf
  obtain ⟨locs, hlo⟩ : ∃ locs : List Loc, locs = [] := ⟨_, rfl⟩
  rw [← hlo] at hS ⊢
  refine lv_aload_n hx hb dX13_out_0 rfl (lv_at hl 0 rfl) ?_
  refine va_get (D := (dC, dI)) (ci := 13) (v := .int 0) (C := RX13) (T := TX13) (N := 155) hx hb hts uV_c1_X13 hown hK hP 0 rfl rfl 138 (by decide) (hts (.fieldLink RX13 858 "ClassMillModel" "state" "I") mw_c1_7) (fun _ h9 => h9) hM.2.2.2.2.2.2.2.2.2.2.2.2.2.2.2.2.2.2.2.2.2.2.2.2.2.1 dX13_out_1 ?_
  refine lv_if_le (tgt := 35) hx hb dX13_out_4 (by decide) (fun c_1 => ?_) (fun c_1 => (show False by revert c_1; decide).elim)
  refine lv_iconst (v := 0) hx hb dX13_out_35 (by decide) ?_
  have hP9 := hP.sub (ws' := []) [] rfl
  have hD9 := hD.sub (ws' := []) [] (by decide) rfl
  have hK9 := hK.sub (tys' := []) [] rfl
  exact W.iret hx hb hr (fun t ht hW => ⟨⟨(0), (), rfl, lf_0_19 a1 , by rw [ht]; exact hP9, va_K.moved hW.alike hK9, hD9⟩, hS.F ht⟩) hS.2.2 dX13_out_36
theorem lf_look_20 (a1 : Int32) (hs_1 : a1 = 0) : (0 : Int32) = an_look a1 := by
  first | rfl | (subst_vars; rfl) | (simp_all [an_look]; done) | (subst_vars; simp_all [an_look]; done) | (unfold an_look; (repeat' split) <;> first | rfl | (exfalso; simp_all; done))
theorem lf_look_21 (a1 : Int32) (hs_1 : ¬ a1 = 0) (hs_2 : a1 = 1) : ((-1) : Int32) = an_look a1 := by
  first | rfl | (subst_vars; rfl) | (simp_all [an_look]; done) | (subst_vars; simp_all [an_look]; done) | (unfold an_look; (repeat' split) <;> first | rfl | (exfalso; simp_all; done))
theorem lf_look_22 (a1 : Int32) (hs_1 : ¬ a1 = 0) (hs_2 : ¬ a1 = 1) (hs_5 : a1 = 2) : (0 : Int32) = an_look a1 := by
  first | rfl | (subst_vars; rfl) | (simp_all [an_look]; done) | (subst_vars; simp_all [an_look]; done) | (unfold an_look; (repeat' split) <;> first | rfl | (exfalso; simp_all; done))
theorem lf_look_23 (a1 : Int32) (hs_1 : ¬ a1 = 0) (hs_2 : ¬ a1 = 1) (hs_5 : ¬ a1 = 2) (hs_7 : a1 = 3) : (0 : Int32) = an_look a1 := by
  first | rfl | (subst_vars; rfl) | (simp_all [an_look]; done) | (subst_vars; simp_all [an_look]; done) | (unfold an_look; (repeat' split) <;> first | rfl | (exfalso; simp_all; done))
theorem lf_look_24 (a1 : Int32) (hs_1 : ¬ a1 = 0) (hs_2 : ¬ a1 = 1) (hs_5 : ¬ a1 = 2) (hs_7 : ¬ a1 = 3) (hs_9 : a1 = 4) : (0 : Int32) = an_look a1 := by
  first | rfl | (subst_vars; rfl) | (simp_all [an_look]; done) | (subst_vars; simp_all [an_look]; done) | (unfold an_look; (repeat' split) <;> first | rfl | (exfalso; simp_all; done))
theorem lf_look_25 (a1 : Int32) (hs_1 : ¬ a1 = 0) (hs_2 : ¬ a1 = 1) (hs_5 : ¬ a1 = 2) (hs_7 : ¬ a1 = 3) (hs_9 : ¬ a1 = 4) (hs_11 : a1 = 5) : (0 : Int32) = an_look a1 := by
  first | rfl | (subst_vars; rfl) | (simp_all [an_look]; done) | (subst_vars; simp_all [an_look]; done) | (unfold an_look; (repeat' split) <;> first | rfl | (exfalso; simp_all; done))
theorem lf_look_26 (a1 : Int32) (hs_1 : ¬ a1 = 0) (hs_2 : ¬ a1 = 1) (hs_5 : ¬ a1 = 2) (hs_7 : ¬ a1 = 3) (hs_9 : ¬ a1 = 4) (hs_11 : ¬ a1 = 5) (hs_13 : a1 = 6) : (0 : Int32) = an_look a1 := by
  first | rfl | (subst_vars; rfl) | (simp_all [an_look]; done) | (subst_vars; simp_all [an_look]; done) | (unfold an_look; (repeat' split) <;> first | rfl | (exfalso; simp_all; done))
theorem lf_look_27 (a1 : Int32) (hs_1 : ¬ a1 = 0) (hs_2 : ¬ a1 = 1) (hs_5 : ¬ a1 = 2) (hs_7 : ¬ a1 = 3) (hs_9 : ¬ a1 = 4) (hs_11 : ¬ a1 = 5) (hs_13 : ¬ a1 = 6) (hs_15 : a1 = 7) : ((-1) : Int32) = an_look a1 := by
  first | rfl | (subst_vars; rfl) | (simp_all [an_look]; done) | (subst_vars; simp_all [an_look]; done) | (unfold an_look; (repeat' split) <;> first | rfl | (exfalso; simp_all; done))
theorem lf_look_28 (a1 : Int32) (hs_1 : ¬ a1 = 0) (hs_2 : ¬ a1 = 1) (hs_5 : ¬ a1 = 2) (hs_7 : ¬ a1 = 3) (hs_9 : ¬ a1 = 4) (hs_11 : ¬ a1 = 5) (hs_13 : ¬ a1 = 6) (hs_15 : ¬ a1 = 7) (hs_17 : a1 = 8) : ((-1) : Int32) = an_look a1 := by
  first | rfl | (subst_vars; rfl) | (simp_all [an_look]; done) | (subst_vars; simp_all [an_look]; done) | (unfold an_look; (repeat' split) <;> first | rfl | (exfalso; simp_all; done))
theorem lf_look_29 (a1 : Int32) (hs_1 : ¬ a1 = 0) (hs_2 : ¬ a1 = 1) (hs_5 : ¬ a1 = 2) (hs_7 : ¬ a1 = 3) (hs_9 : ¬ a1 = 4) (hs_11 : ¬ a1 = 5) (hs_13 : ¬ a1 = 6) (hs_15 : ¬ a1 = 7) (hs_17 : ¬ a1 = 8) (hs_19 : a1 = 9) : ((-1) : Int32) = an_look a1 := by
  first | rfl | (subst_vars; rfl) | (simp_all [an_look]; done) | (subst_vars; simp_all [an_look]; done) | (unfold an_look; (repeat' split) <;> first | rfl | (exfalso; simp_all; done))
theorem lf_look_30 (a1 : Int32) (hs_1 : ¬ a1 = 0) (hs_2 : ¬ a1 = 1) (hs_5 : ¬ a1 = 2) (hs_7 : ¬ a1 = 3) (hs_9 : ¬ a1 = 4) (hs_11 : ¬ a1 = 5) (hs_13 : ¬ a1 = 6) (hs_15 : ¬ a1 = 7) (hs_17 : ¬ a1 = 8) (hs_19 : ¬ a1 = 9) (hs_21 : a1 = 10) : ((-1) : Int32) = an_look a1 := by
  first | rfl | (subst_vars; rfl) | (simp_all [an_look]; done) | (subst_vars; simp_all [an_look]; done) | (unfold an_look; (repeat' split) <;> first | rfl | (exfalso; simp_all; done))
theorem lf_look_31 (a1 : Int32) (hs_1 : ¬ a1 = 0) (hs_2 : ¬ a1 = 1) (hs_5 : ¬ a1 = 2) (hs_7 : ¬ a1 = 3) (hs_9 : ¬ a1 = 4) (hs_11 : ¬ a1 = 5) (hs_13 : ¬ a1 = 6) (hs_15 : ¬ a1 = 7) (hs_17 : ¬ a1 = 8) (hs_19 : ¬ a1 = 9) (hs_21 : ¬ a1 = 10) (hs_23 : a1 = 11) : (0 : Int32) = an_look a1 := by
  first | rfl | (subst_vars; rfl) | (simp_all [an_look]; done) | (subst_vars; simp_all [an_look]; done) | (unfold an_look; (repeat' split) <;> first | rfl | (exfalso; simp_all; done))
theorem lf_look_32 (a1 : Int32) (hs_1 : ¬ a1 = 0) (hs_2 : ¬ a1 = 1) (hs_5 : ¬ a1 = 2) (hs_7 : ¬ a1 = 3) (hs_9 : ¬ a1 = 4) (hs_11 : ¬ a1 = 5) (hs_13 : ¬ a1 = 6) (hs_15 : ¬ a1 = 7) (hs_17 : ¬ a1 = 8) (hs_19 : ¬ a1 = 9) (hs_21 : ¬ a1 = 10) (hs_23 : ¬ a1 = 11) (hs_24 : a1 = 12) : (0 : Int32) = an_look a1 := by
  first | rfl | (subst_vars; rfl) | (simp_all [an_look]; done) | (subst_vars; simp_all [an_look]; done) | (unfold an_look; (repeat' split) <;> first | rfl | (exfalso; simp_all; done))
theorem lf_look_33 (a1 : Int32) (hs_1 : ¬ a1 = 0) (hs_2 : ¬ a1 = 1) (hs_5 : ¬ a1 = 2) (hs_7 : ¬ a1 = 3) (hs_9 : ¬ a1 = 4) (hs_11 : ¬ a1 = 5) (hs_13 : ¬ a1 = 6) (hs_15 : ¬ a1 = 7) (hs_17 : ¬ a1 = 8) (hs_19 : ¬ a1 = 9) (hs_21 : ¬ a1 = 10) (hs_23 : ¬ a1 = 11) (hs_24 : ¬ a1 = 12) (hs_26 : a1 = 13) : (0 : Int32) = an_look a1 := by
  first | rfl | (subst_vars; rfl) | (simp_all [an_look]; done) | (subst_vars; simp_all [an_look]; done) | (unfold an_look; (repeat' split) <;> first | rfl | (exfalso; simp_all; done))
theorem lf_look_34 (a1 : Int32) (hs_1 : ¬ a1 = 0) (hs_2 : ¬ a1 = 1) (hs_5 : ¬ a1 = 2) (hs_7 : ¬ a1 = 3) (hs_9 : ¬ a1 = 4) (hs_11 : ¬ a1 = 5) (hs_13 : ¬ a1 = 6) (hs_15 : ¬ a1 = 7) (hs_17 : ¬ a1 = 8) (hs_19 : ¬ a1 = 9) (hs_21 : ¬ a1 = 10) (hs_23 : ¬ a1 = 11) (hs_24 : ¬ a1 = 12) (hs_26 : ¬ a1 = 13) : ((-1) : Int32) = an_look a1 := by
  first | rfl | (subst_vars; rfl) | (simp_all [an_look]; done) | (subst_vars; simp_all [an_look]; done) | (unfold an_look; (repeat' split) <;> first | rfl | (exfalso; simp_all; done))
set_option maxHeartbeats 4000000 in
set_option maxRecDepth 100000 in
/-- mm_look -/
theorem mm_look (l : Launch) (dC : Nat → ClassId) (dI : Nat → Nat → Nat) (sz : Nat) (h0 : Nat) (qm0 qm1 qm2 qm3 qm4 qm5 : Nat) (fsM : List Value) (a1 : Int32) (hM : pm_F fsM qm0 qm1 qm2 qm3 qm4 qm5) : Met l yX13_look (.code yX13_look cX13_look 2 (some .int) :: VS_c1) ({ frames := 0, cells := 0, slots := 0, locals := 0 }) (va_Pc [.ref h0, .int a1] (fun U => U.heap.size = sz ∧ va_P (dC, dI) vwCl [(h0, .inr (13, fsM))] U.heap ∧ va_K (dC, dI) vwCl [] U ∧ va_D (fun _ => True) [(h0, .inr (13, fsM))])) (va_Qi (fun (r : Int32) (u : Unit) => match u with | () => r = an_look a1) (fun (u : Unit) (t : State) => match u with | () => va_P (dC, dI) vwCl [] t.heap ∧ va_K (dC, dI) vwCl [] t ∧ va_D (va_A [(h0, .inr (13, fsM))] sz) []) (va_A [(h0, .inr (13, fsM))] sz)) 0 0 (va_A [(h0, .inr (13, fsM))] sz) := by
  refine Met.ofW (cc := cX13_look) (maxL := 2) (ret := (some .int)) (by decide) rfl ?_
  intro p e s m args below meth c s₁ B hml hv
  obtain ⟨rfl, hsz, hP, hK, hD0⟩ := hv
  have hx := B.exec
  have hb := B.bytes
  have hr := B.returns
  have hts := atoms_spec (ws := (.code yX13_look cX13_look 2 (some .int) :: VS_c1)) B.pre
  replace hts := fun w (h : w ∈ VS_c1) => hts w (List.mem_cons_of_mem _ h)
  have hown : s.vm.findClass RX13 = some m.cls := findClass_of_methodNamed B.named
  have hlocks := B.notSynchronized
  subst hsz
  have hD := hD0.self (sz := s.heap.size)
  generalize hAe : va_A [(h0, .inr (13, fsM))] s.heap.size = A at hD  ⊢
  have hA : ∀ q : Nat, s.heap.size ≤ q → A q := fun q h => by rw [← hAe]; exact Or.inr h
  have hP : va_P (dC, dI) vwCl [(h0, .inr (13, fsM))] s.heap := hP
  have hl := lv_entry ([.ref h0, .int a1]) (n := 2) (Nat.le_of_ble_eq_true rfl)
  rw [lg_entry_eq]
  generalize (lg_sl ([.ref h0, .int a1]) ++ List.replicate (2 - (lg_sl ([.ref h0, .int a1])).length) Slot.unset).toArray = ls at hl ⊢
  have hl : lv_has ls 2 [(0, .ref h0), (1, .int a1)] := hl
  obtain ⟨H, hH⟩ : ∃ H : Heap, s.heap = H := ⟨_, rfl⟩
  rw [hH] at hP ⊢
  have hS : va_S A s.heap H [] := by rw [← hH]; exact va_S.rf
  obtain ⟨locs, hlo⟩ : ∃ locs : List Loc, locs = [] := ⟨_, rfl⟩
  rw [← hlo] at hS ⊢
  refine lv_iload_n hx hb dX13_look_0 rfl (lv_at hl 1 rfl) ?_
  by_cases hs_1 : a1 = 0
  · refine lv_tableIn (tgt := 72) hx hb dX13_look_1 (by rw [hs_1]; decide) (by rw [hs_1]; decide) (off := 71) (by rw [hs_1]; rfl) (by decide) ?_
    refine lv_aload_n hx hb dX13_look_72 rfl (lv_at hl 0 rfl) ?_
    refine va_get (D := (dC, dI)) (ci := 13) (v := .int 0) (C := RX13) (T := TX13) (N := 155) hx hb hts uV_c1_X13 hown hK hP 0 rfl rfl 138 (by decide) (hts (.fieldLink RX13 858 "ClassMillModel" "state" "I") mw_c1_7) (fun _ h9 => h9) hM.2.2.2.2.2.2.2.2.2.2.2.2.2.2.2.2.2.2.2.2.2.2.2.2.2.1 dX13_look_73 ?_
    have hP9 := hP.sub (ws' := []) [] rfl
    have hD9 := hD.sub (ws' := []) [] (by decide) rfl
    have hK9 := hK.sub (tys' := []) [] rfl
    exact W.iret hx hb hr (fun t ht hW => ⟨⟨(0), (), rfl, lf_look_20 a1 hs_1, by rw [ht]; exact hP9, va_K.moved hW.alike hK9, hD9⟩, hS.F ht⟩) hS.2.2 dX13_look_76
  by_cases hs_2 : a1 = 1
  · refine lv_tableIn (tgt := 77) hx hb dX13_look_1 (by rw [hs_2]; decide) (by rw [hs_2]; decide) (off := 76) (by rw [hs_2]; rfl) (by decide) ?_
    refine lv_aload_n hx hb dX13_look_77 rfl (lv_at hl 0 rfl) ?_
    refine va_get (D := (dC, dI)) (ci := 13) (v := .int 0) (C := RX13) (T := TX13) (N := 155) hx hb hts uV_c1_X13 hown hK hP 0 rfl rfl 138 (by decide) (hts (.fieldLink RX13 858 "ClassMillModel" "state" "I") mw_c1_7) (fun _ h9 => h9) hM.2.2.2.2.2.2.2.2.2.2.2.2.2.2.2.2.2.2.2.2.2.2.2.2.2.1 dX13_look_78 ?_
    refine lv_iconst (v := 2) hx hb dX13_look_81 (by decide) ?_
    refine lv_icmp_eq (tgt := 93) hx hb dX13_look_82 (by decide) (fun c_3 => (show False by revert c_3; decide).elim) (fun c_3 => ?_)
    refine lv_aload_n hx hb dX13_look_85 rfl (lv_at hl 0 rfl) ?_
    refine va_get (D := (dC, dI)) (ci := 13) (v := .int 0) (C := RX13) (T := TX13) (N := 155) hx hb hts uV_c1_X13 hown hK hP 0 rfl rfl 138 (by decide) (hts (.fieldLink RX13 858 "ClassMillModel" "state" "I") mw_c1_7) (fun _ h9 => h9) hM.2.2.2.2.2.2.2.2.2.2.2.2.2.2.2.2.2.2.2.2.2.2.2.2.2.1 dX13_look_86 ?_
    refine lv_iconst (v := 3) hx hb dX13_look_89 (by decide) ?_
    refine lv_icmp_ne (tgt := 100) hx hb dX13_look_90 (by decide) (fun c_4 => ?_) (fun c_4 => (show False by revert c_4; decide).elim)
    refine lv_iconst (v := (-1)) hx hb dX13_look_100 (by decide) ?_
    have hP9 := hP.sub (ws' := []) [] rfl
    have hD9 := hD.sub (ws' := []) [] (by decide) rfl
    have hK9 := hK.sub (tys' := []) [] rfl
    exact W.iret hx hb hr (fun t ht hW => ⟨⟨((-1)), (), rfl, lf_look_21 a1 hs_1 hs_2, by rw [ht]; exact hP9, va_K.moved hW.alike hK9, hD9⟩, hS.F ht⟩) hS.2.2 dX13_look_101
  by_cases hs_5 : a1 = 2
  · refine lv_tableIn (tgt := 102) hx hb dX13_look_1 (by rw [hs_5]; decide) (by rw [hs_5]; decide) (off := 101) (by rw [hs_5]; rfl) (by decide) ?_
    refine lv_aload_n hx hb dX13_look_102 rfl (lv_at hl 0 rfl) ?_
    refine va_get (D := (dC, dI)) (ci := 13) (v := .int 0) (C := RX13) (T := TX13) (N := 155) hx hb hts uV_c1_X13 hown hK hP 0 rfl rfl 138 (by decide) (hts (.fieldLink RX13 858 "ClassMillModel" "state" "I") mw_c1_7) (fun _ h9 => h9) hM.2.2.2.2.2.2.2.2.2.2.2.2.2.2.2.2.2.2.2.2.2.2.2.2.2.1 dX13_look_103 ?_
    refine lv_if_ne (tgt := 113) hx hb dX13_look_106 (by decide) (fun c_6 => (show False by revert c_6; decide).elim) (fun c_6 => ?_)
    refine lv_iconst (v := 0) hx hb dX13_look_109 (by decide) ?_
    refine lv_goto (tgt := 117) hx hb dX13_look_110 (by decide) ?_
    have hP9 := hP.sub (ws' := []) [] rfl
    have hD9 := hD.sub (ws' := []) [] (by decide) rfl
    have hK9 := hK.sub (tys' := []) [] rfl
    exact W.iret hx hb hr (fun t ht hW => ⟨⟨(0), (), rfl, lf_look_22 a1 hs_1 hs_2 hs_5, by rw [ht]; exact hP9, va_K.moved hW.alike hK9, hD9⟩, hS.F ht⟩) hS.2.2 dX13_look_117
  by_cases hs_7 : a1 = 3
  · refine lv_tableIn (tgt := 118) hx hb dX13_look_1 (by rw [hs_7]; decide) (by rw [hs_7]; decide) (off := 117) (by rw [hs_7]; rfl) (by decide) ?_
    refine lv_aload_n hx hb dX13_look_118 rfl (lv_at hl 0 rfl) ?_
    refine va_get (D := (dC, dI)) (ci := 13) (v := .int 0) (C := RX13) (T := TX13) (N := 155) hx hb hts uV_c1_X13 hown hK hP 0 rfl rfl 138 (by decide) (hts (.fieldLink RX13 858 "ClassMillModel" "state" "I") mw_c1_7) (fun _ h9 => h9) hM.2.2.2.2.2.2.2.2.2.2.2.2.2.2.2.2.2.2.2.2.2.2.2.2.2.1 dX13_look_119 ?_
    refine lv_if_ne (tgt := 129) hx hb dX13_look_122 (by decide) (fun c_8 => (show False by revert c_8; decide).elim) (fun c_8 => ?_)
    refine lv_iconst (v := 0) hx hb dX13_look_125 (by decide) ?_
    refine lv_goto (tgt := 133) hx hb dX13_look_126 (by decide) ?_
    have hP9 := hP.sub (ws' := []) [] rfl
    have hD9 := hD.sub (ws' := []) [] (by decide) rfl
    have hK9 := hK.sub (tys' := []) [] rfl
    exact W.iret hx hb hr (fun t ht hW => ⟨⟨(0), (), rfl, lf_look_23 a1 hs_1 hs_2 hs_5 hs_7, by rw [ht]; exact hP9, va_K.moved hW.alike hK9, hD9⟩, hS.F ht⟩) hS.2.2 dX13_look_133
  by_cases hs_9 : a1 = 4
  · refine lv_tableIn (tgt := 134) hx hb dX13_look_1 (by rw [hs_9]; decide) (by rw [hs_9]; decide) (off := 133) (by rw [hs_9]; rfl) (by decide) ?_
    refine lv_aload_n hx hb dX13_look_134 rfl (lv_at hl 0 rfl) ?_
    refine va_get (D := (dC, dI)) (ci := 13) (v := .int 0) (C := RX13) (T := TX13) (N := 155) hx hb hts uV_c1_X13 hown hK hP 0 rfl rfl 138 (by decide) (hts (.fieldLink RX13 858 "ClassMillModel" "state" "I") mw_c1_7) (fun _ h9 => h9) hM.2.2.2.2.2.2.2.2.2.2.2.2.2.2.2.2.2.2.2.2.2.2.2.2.2.1 dX13_look_135 ?_
    refine lv_if_ne (tgt := 145) hx hb dX13_look_138 (by decide) (fun c_10 => (show False by revert c_10; decide).elim) (fun c_10 => ?_)
    refine lv_iconst (v := 0) hx hb dX13_look_141 (by decide) ?_
    refine lv_goto (tgt := 149) hx hb dX13_look_142 (by decide) ?_
    have hP9 := hP.sub (ws' := []) [] rfl
    have hD9 := hD.sub (ws' := []) [] (by decide) rfl
    have hK9 := hK.sub (tys' := []) [] rfl
    exact W.iret hx hb hr (fun t ht hW => ⟨⟨(0), (), rfl, lf_look_24 a1 hs_1 hs_2 hs_5 hs_7 hs_9, by rw [ht]; exact hP9, va_K.moved hW.alike hK9, hD9⟩, hS.F ht⟩) hS.2.2 dX13_look_149
  by_cases hs_11 : a1 = 5
  · refine lv_tableIn (tgt := 150) hx hb dX13_look_1 (by rw [hs_11]; decide) (by rw [hs_11]; decide) (off := 149) (by rw [hs_11]; rfl) (by decide) ?_
    refine lv_aload_n hx hb dX13_look_150 rfl (lv_at hl 0 rfl) ?_
    refine va_get (D := (dC, dI)) (ci := 13) (v := .int 0) (C := RX13) (T := TX13) (N := 155) hx hb hts uV_c1_X13 hown hK hP 0 rfl rfl 138 (by decide) (hts (.fieldLink RX13 858 "ClassMillModel" "state" "I") mw_c1_7) (fun _ h9 => h9) hM.2.2.2.2.2.2.2.2.2.2.2.2.2.2.2.2.2.2.2.2.2.2.2.2.2.1 dX13_look_151 ?_
    refine lv_if_ne (tgt := 161) hx hb dX13_look_154 (by decide) (fun c_12 => (show False by revert c_12; decide).elim) (fun c_12 => ?_)
    refine lv_iconst (v := 0) hx hb dX13_look_157 (by decide) ?_
    refine lv_goto (tgt := 165) hx hb dX13_look_158 (by decide) ?_
    have hP9 := hP.sub (ws' := []) [] rfl
    have hD9 := hD.sub (ws' := []) [] (by decide) rfl
    have hK9 := hK.sub (tys' := []) [] rfl
    exact W.iret hx hb hr (fun t ht hW => ⟨⟨(0), (), rfl, lf_look_25 a1 hs_1 hs_2 hs_5 hs_7 hs_9 hs_11, by rw [ht]; exact hP9, va_K.moved hW.alike hK9, hD9⟩, hS.F ht⟩) hS.2.2 dX13_look_165
  by_cases hs_13 : a1 = 6
  · refine lv_tableIn (tgt := 166) hx hb dX13_look_1 (by rw [hs_13]; decide) (by rw [hs_13]; decide) (off := 165) (by rw [hs_13]; rfl) (by decide) ?_
    refine lv_aload_n hx hb dX13_look_166 rfl (lv_at hl 0 rfl) ?_
    refine va_get (D := (dC, dI)) (ci := 13) (v := .int 0) (C := RX13) (T := TX13) (N := 155) hx hb hts uV_c1_X13 hown hK hP 0 rfl rfl 138 (by decide) (hts (.fieldLink RX13 858 "ClassMillModel" "state" "I") mw_c1_7) (fun _ h9 => h9) hM.2.2.2.2.2.2.2.2.2.2.2.2.2.2.2.2.2.2.2.2.2.2.2.2.2.1 dX13_look_167 ?_
    refine lv_if_ne (tgt := 177) hx hb dX13_look_170 (by decide) (fun c_14 => (show False by revert c_14; decide).elim) (fun c_14 => ?_)
    refine lv_iconst (v := 0) hx hb dX13_look_173 (by decide) ?_
    refine lv_goto (tgt := 181) hx hb dX13_look_174 (by decide) ?_
    have hP9 := hP.sub (ws' := []) [] rfl
    have hD9 := hD.sub (ws' := []) [] (by decide) rfl
    have hK9 := hK.sub (tys' := []) [] rfl
    exact W.iret hx hb hr (fun t ht hW => ⟨⟨(0), (), rfl, lf_look_26 a1 hs_1 hs_2 hs_5 hs_7 hs_9 hs_11 hs_13, by rw [ht]; exact hP9, va_K.moved hW.alike hK9, hD9⟩, hS.F ht⟩) hS.2.2 dX13_look_181
  by_cases hs_15 : a1 = 7
  · refine lv_tableIn (tgt := 182) hx hb dX13_look_1 (by rw [hs_15]; decide) (by rw [hs_15]; decide) (off := 181) (by rw [hs_15]; rfl) (by decide) ?_
    refine lv_aload_n hx hb dX13_look_182 rfl (lv_at hl 0 rfl) ?_
    refine va_get (D := (dC, dI)) (ci := 13) (v := .int 0) (C := RX13) (T := TX13) (N := 155) hx hb hts uV_c1_X13 hown hK hP 0 rfl rfl 138 (by decide) (hts (.fieldLink RX13 858 "ClassMillModel" "state" "I") mw_c1_7) (fun _ h9 => h9) hM.2.2.2.2.2.2.2.2.2.2.2.2.2.2.2.2.2.2.2.2.2.2.2.2.2.1 dX13_look_183 ?_
    refine lv_iconst (v := 1) hx hb dX13_look_186 (by decide) ?_
    refine lv_icmp_ne (tgt := 204) hx hb dX13_look_187 (by decide) (fun c_16 => ?_) (fun c_16 => (show False by revert c_16; decide).elim)
    refine lv_iconst (v := (-1)) hx hb dX13_look_204 (by decide) ?_
    have hP9 := hP.sub (ws' := []) [] rfl
    have hD9 := hD.sub (ws' := []) [] (by decide) rfl
    have hK9 := hK.sub (tys' := []) [] rfl
    exact W.iret hx hb hr (fun t ht hW => ⟨⟨((-1)), (), rfl, lf_look_27 a1 hs_1 hs_2 hs_5 hs_7 hs_9 hs_11 hs_13 hs_15, by rw [ht]; exact hP9, va_K.moved hW.alike hK9, hD9⟩, hS.F ht⟩) hS.2.2 dX13_look_205
  by_cases hs_17 : a1 = 8
  · refine lv_tableIn (tgt := 206) hx hb dX13_look_1 (by rw [hs_17]; decide) (by rw [hs_17]; decide) (off := 205) (by rw [hs_17]; rfl) (by decide) ?_
    refine lv_aload_n hx hb dX13_look_206 rfl (lv_at hl 0 rfl) ?_
    refine va_get (D := (dC, dI)) (ci := 13) (v := .int 0) (C := RX13) (T := TX13) (N := 155) hx hb hts uV_c1_X13 hown hK hP 0 rfl rfl 138 (by decide) (hts (.fieldLink RX13 858 "ClassMillModel" "state" "I") mw_c1_7) (fun _ h9 => h9) hM.2.2.2.2.2.2.2.2.2.2.2.2.2.2.2.2.2.2.2.2.2.2.2.2.2.1 dX13_look_207 ?_
    refine lv_iconst (v := 1) hx hb dX13_look_210 (by decide) ?_
    refine lv_icmp_ne (tgt := 228) hx hb dX13_look_211 (by decide) (fun c_18 => ?_) (fun c_18 => (show False by revert c_18; decide).elim)
    refine lv_iconst (v := (-1)) hx hb dX13_look_228 (by decide) ?_
    have hP9 := hP.sub (ws' := []) [] rfl
    have hD9 := hD.sub (ws' := []) [] (by decide) rfl
    have hK9 := hK.sub (tys' := []) [] rfl
    exact W.iret hx hb hr (fun t ht hW => ⟨⟨((-1)), (), rfl, lf_look_28 a1 hs_1 hs_2 hs_5 hs_7 hs_9 hs_11 hs_13 hs_15 hs_17, by rw [ht]; exact hP9, va_K.moved hW.alike hK9, hD9⟩, hS.F ht⟩) hS.2.2 dX13_look_229
  by_cases hs_19 : a1 = 9
  · refine lv_tableIn (tgt := 230) hx hb dX13_look_1 (by rw [hs_19]; decide) (by rw [hs_19]; decide) (off := 229) (by rw [hs_19]; rfl) (by decide) ?_
    refine lv_aload_n hx hb dX13_look_230 rfl (lv_at hl 0 rfl) ?_
    refine va_get (D := (dC, dI)) (ci := 13) (v := .int 0) (C := RX13) (T := TX13) (N := 155) hx hb hts uV_c1_X13 hown hK hP 0 rfl rfl 138 (by decide) (hts (.fieldLink RX13 858 "ClassMillModel" "state" "I") mw_c1_7) (fun _ h9 => h9) hM.2.2.2.2.2.2.2.2.2.2.2.2.2.2.2.2.2.2.2.2.2.2.2.2.2.1 dX13_look_231 ?_
    refine lv_iconst (v := 1) hx hb dX13_look_234 (by decide) ?_
    refine lv_icmp_ne (tgt := 252) hx hb dX13_look_235 (by decide) (fun c_20 => ?_) (fun c_20 => (show False by revert c_20; decide).elim)
    refine lv_iconst (v := (-1)) hx hb dX13_look_252 (by decide) ?_
    have hP9 := hP.sub (ws' := []) [] rfl
    have hD9 := hD.sub (ws' := []) [] (by decide) rfl
    have hK9 := hK.sub (tys' := []) [] rfl
    exact W.iret hx hb hr (fun t ht hW => ⟨⟨((-1)), (), rfl, lf_look_29 a1 hs_1 hs_2 hs_5 hs_7 hs_9 hs_11 hs_13 hs_15 hs_17 hs_19, by rw [ht]; exact hP9, va_K.moved hW.alike hK9, hD9⟩, hS.F ht⟩) hS.2.2 dX13_look_253
  by_cases hs_21 : a1 = 10
  · refine lv_tableIn (tgt := 254) hx hb dX13_look_1 (by rw [hs_21]; decide) (by rw [hs_21]; decide) (off := 253) (by rw [hs_21]; rfl) (by decide) ?_
    refine lv_aload_n hx hb dX13_look_254 rfl (lv_at hl 0 rfl) ?_
    refine va_get (D := (dC, dI)) (ci := 13) (v := .int 0) (C := RX13) (T := TX13) (N := 155) hx hb hts uV_c1_X13 hown hK hP 0 rfl rfl 138 (by decide) (hts (.fieldLink RX13 858 "ClassMillModel" "state" "I") mw_c1_7) (fun _ h9 => h9) hM.2.2.2.2.2.2.2.2.2.2.2.2.2.2.2.2.2.2.2.2.2.2.2.2.2.1 dX13_look_255 ?_
    refine lv_iconst (v := 1) hx hb dX13_look_258 (by decide) ?_
    refine lv_icmp_ne (tgt := 276) hx hb dX13_look_259 (by decide) (fun c_22 => ?_) (fun c_22 => (show False by revert c_22; decide).elim)
    refine lv_iconst (v := (-1)) hx hb dX13_look_276 (by decide) ?_
    have hP9 := hP.sub (ws' := []) [] rfl
    have hD9 := hD.sub (ws' := []) [] (by decide) rfl
    have hK9 := hK.sub (tys' := []) [] rfl
    exact W.iret hx hb hr (fun t ht hW => ⟨⟨((-1)), (), rfl, lf_look_30 a1 hs_1 hs_2 hs_5 hs_7 hs_9 hs_11 hs_13 hs_15 hs_17 hs_19 hs_21, by rw [ht]; exact hP9, va_K.moved hW.alike hK9, hD9⟩, hS.F ht⟩) hS.2.2 dX13_look_277
  by_cases hs_23 : a1 = 11
  · refine lv_tableIn (tgt := 278) hx hb dX13_look_1 (by rw [hs_23]; decide) (by rw [hs_23]; decide) (off := 277) (by rw [hs_23]; rfl) (by decide) ?_
    refine lv_aload_n hx hb dX13_look_278 rfl (lv_at hl 0 rfl) ?_
    refine va_get (D := (dC, dI)) (ci := 13) (v := .int 0) (C := RX13) (T := TX13) (N := 155) hx hb hts uV_c1_X13 hown hK hP 0 rfl rfl 98 (by decide) (hts (.fieldLink RX13 833 "ClassMillModel" "there" "I") mw_c1_8) (fun _ h9 => h9) hM.2.2.2.2.2.2.2.2.2.2.2.2.2.2.2.2.2.2.1 dX13_look_279 ?_
    have hP9 := hP.sub (ws' := []) [] rfl
    have hD9 := hD.sub (ws' := []) [] (by decide) rfl
    have hK9 := hK.sub (tys' := []) [] rfl
    exact W.iret hx hb hr (fun t ht hW => ⟨⟨(0), (), rfl, lf_look_31 a1 hs_1 hs_2 hs_5 hs_7 hs_9 hs_11 hs_13 hs_15 hs_17 hs_19 hs_21 hs_23, by rw [ht]; exact hP9, va_K.moved hW.alike hK9, hD9⟩, hS.F ht⟩) hS.2.2 dX13_look_282
  by_cases hs_24 : a1 = 12
  · refine lv_tableIn (tgt := 283) hx hb dX13_look_1 (by rw [hs_24]; decide) (by rw [hs_24]; decide) (off := 282) (by rw [hs_24]; rfl) (by decide) ?_
    refine lv_aload_n hx hb dX13_look_283 rfl (lv_at hl 0 rfl) ?_
    refine va_get (D := (dC, dI)) (ci := 13) (v := .int 0) (C := RX13) (T := TX13) (N := 155) hx hb hts uV_c1_X13 hown hK hP 0 rfl rfl 99 (by decide) (hts (.fieldLink RX13 855 "ClassMillModel" "verified" "Z") mw_c1_9) (fun _ h9 => h9) hM.2.2.2.2.2.2.2.2.2.2.2.2.2.2.2.2.2.2.2.1 dX13_look_284 ?_
    refine lv_if_eq (tgt := 294) hx hb dX13_look_287 (by decide) (fun c_25 => ?_) (fun c_25 => (show False by revert c_25; decide).elim)
    refine lv_iconst (v := 0) hx hb dX13_look_294 (by decide) ?_
    have hP9 := hP.sub (ws' := []) [] rfl
    have hD9 := hD.sub (ws' := []) [] (by decide) rfl
    have hK9 := hK.sub (tys' := []) [] rfl
    exact W.iret hx hb hr (fun t ht hW => ⟨⟨(0), (), rfl, lf_look_32 a1 hs_1 hs_2 hs_5 hs_7 hs_9 hs_11 hs_13 hs_15 hs_17 hs_19 hs_21 hs_23 hs_24, by rw [ht]; exact hP9, va_K.moved hW.alike hK9, hD9⟩, hS.F ht⟩) hS.2.2 dX13_look_295
  by_cases hs_26 : a1 = 13
  · refine lv_tableIn (tgt := 296) hx hb dX13_look_1 (by rw [hs_26]; decide) (by rw [hs_26]; decide) (off := 295) (by rw [hs_26]; rfl) (by decide) ?_
    refine lv_aload_n hx hb dX13_look_296 rfl (lv_at hl 0 rfl) ?_
    refine va_get (D := (dC, dI)) (ci := 13) (v := .int 0) (C := RX13) (T := TX13) (N := 155) hx hb hts uV_c1_X13 hown hK hP 0 rfl rfl 1 (by decide) (hts (.fieldLink RX13 312 "ClassMillModel" "taped" "I") mw_c1_2) (fun _ h9 => h9) hM.2.2.2.2.2.2.2.1 dX13_look_297 ?_
    have hP9 := hP.sub (ws' := []) [] rfl
    have hD9 := hD.sub (ws' := []) [] (by decide) rfl
    have hK9 := hK.sub (tys' := []) [] rfl
    exact W.iret hx hb hr (fun t ht hW => ⟨⟨(0), (), rfl, lf_look_33 a1 hs_1 hs_2 hs_5 hs_7 hs_9 hs_11 hs_13 hs_15 hs_17 hs_19 hs_21 hs_23 hs_24 hs_26, by rw [ht]; exact hP9, va_K.moved hW.alike hK9, hD9⟩, hS.F ht⟩) hS.2.2 dX13_look_300
  refine lv_tableOut (tgt := 301) hx hb dX13_look_1 (by have a0 := lv_neT hs_1 (a := 0) rfl; have a1 := lv_neT hs_2 (a := 1) rfl; have a2 := lv_neT hs_5 (a := 2) rfl; have a3 := lv_neT hs_7 (a := 3) rfl; have a4 := lv_neT hs_9 (a := 4) rfl; have a5 := lv_neT hs_11 (a := 5) rfl; have a6 := lv_neT hs_13 (a := 6) rfl; have a7 := lv_neT hs_15 (a := 7) rfl; have a8 := lv_neT hs_17 (a := 8) rfl; have a9 := lv_neT hs_19 (a := 9) rfl; have a10 := lv_neT hs_21 (a := 10) rfl; have a11 := lv_neT hs_23 (a := 11) rfl; have a12 := lv_neT hs_24 (a := 12) rfl; have a13 := lv_neT hs_26 (a := 13) rfl; omega) (by decide) ?_
  refine lv_iconst (v := (-1)) hx hb dX13_look_301 (by decide) ?_
  have hP9 := hP.sub (ws' := []) [] rfl
  have hD9 := hD.sub (ws' := []) [] (by decide) rfl
  have hK9 := hK.sub (tys' := []) [] rfl
  exact W.iret hx hb hr (fun t ht hW => ⟨⟨((-1)), (), rfl, lf_look_34 a1 hs_1 hs_2 hs_5 hs_7 hs_9 hs_11 hs_13 hs_15 hs_17 hs_19 hs_21 hs_23 hs_24 hs_26, by rw [ht]; exact hP9, va_K.moved hW.alike hK9, hD9⟩, hS.F ht⟩) hS.2.2 dX13_look_302
theorem lf_0_35 (a1 a2 a3 y_1 : Int32) (c_2 : y_1 < 0) : (0 : Int32) = an_0 := by
  first | rfl | (subst_vars; rfl) | (simp_all [an_0]; done) | (subst_vars; simp_all [an_0]; done) | (unfold an_0; (repeat' split) <;> first | rfl | (exfalso; simp_all; done))
theorem lf_0_36 (a1 a2 a3 y_1 : Int32) (c_2 : ¬ y_1 < 0) (c_3 : 0 ≤ y_1) : (0 : Int32) = an_0 := by
  first | rfl | (subst_vars; rfl) | (simp_all [an_0]; done) | (subst_vars; simp_all [an_0]; done) | (unfold an_0; (repeat' split) <;> first | rfl | (exfalso; simp_all; done))
set_option maxHeartbeats 4000000 in
set_option maxRecDepth 100000 in
/-- mm_patch -/
theorem mm_patch (l : Launch) (dC : Nat → ClassId) (dI : Nat → Nat → Nat) (sz : Nat) (h0 : Nat) (qm0 qm1 qm2 qm3 qm4 qm5 : Nat) (fsM : List Value) (a1 a2 a3 : Int32) (hM : pm_F fsM qm0 qm1 qm2 qm3 qm4 qm5) : Met l yX13_patch (.code yX13_patch cX13_patch 8 (some .boolean) :: VS_c1) ({ frames := 0, cells := 0, slots := 0, locals := 0 }) (va_Pc [.ref h0, .int a1, .int a2, .int a3] (fun U => U.heap.size = sz ∧ va_P (dC, dI) vwCl [(h0, .inr (13, fsM))] U.heap ∧ va_K (dC, dI) vwCl [] U ∧ va_D (fun _ => True) [(h0, .inr (13, fsM))])) (va_Qi (fun (r : Int32) (u : Unit) => match u with | () => r = an_0) (fun (u : Unit) (t : State) => match u with | () => va_P (dC, dI) vwCl [] t.heap ∧ va_K (dC, dI) vwCl [] t ∧ va_D (va_A [(h0, .inr (13, fsM))] sz) []) (va_A [(h0, .inr (13, fsM))] sz)) 0 0 (va_A [(h0, .inr (13, fsM))] sz) := by
  refine Met.ofW (cc := cX13_patch) (maxL := 8) (ret := (some .boolean)) (by decide) rfl ?_
  intro p e s m args below meth c s₁ B hml hv
  obtain ⟨rfl, hsz, hP, hK, hD0⟩ := hv
  have hx := B.exec
  have hb := B.bytes
  have hr := B.returns
  have hts := atoms_spec (ws := (.code yX13_patch cX13_patch 8 (some .boolean) :: VS_c1)) B.pre
  replace hts := fun w (h : w ∈ VS_c1) => hts w (List.mem_cons_of_mem _ h)
  have hown : s.vm.findClass RX13 = some m.cls := findClass_of_methodNamed B.named
  have hlocks := B.notSynchronized
  subst hsz
  have hD := hD0.self (sz := s.heap.size)
  generalize hAe : va_A [(h0, .inr (13, fsM))] s.heap.size = A at hD  ⊢
  have hA : ∀ q : Nat, s.heap.size ≤ q → A q := fun q h => by rw [← hAe]; exact Or.inr h
  have hP : va_P (dC, dI) vwCl [(h0, .inr (13, fsM))] s.heap := hP
  have hl := lv_entry ([.ref h0, .int a1, .int a2, .int a3]) (n := 8) (Nat.le_of_ble_eq_true rfl)
  rw [lg_entry_eq]
  generalize (lg_sl ([.ref h0, .int a1, .int a2, .int a3]) ++ List.replicate (8 - (lg_sl ([.ref h0, .int a1, .int a2, .int a3])).length) Slot.unset).toArray = ls at hl ⊢
  have hl : lv_has ls 8 [(0, .ref h0), (1, .int a1), (2, .int a2), (3, .int a3)] := hl
  obtain ⟨H, hH⟩ : ∃ H : Heap, s.heap = H := ⟨_, rfl⟩
  rw [hH] at hP ⊢
  have hS : va_S A s.heap H [] := by rw [← hH]; exact va_S.rf
  obtain ⟨locs, hlo⟩ : ∃ locs : List Loc, locs = [] := ⟨_, rfl⟩
  rw [← hlo] at hS ⊢
  refine lv_iload_n hx hb dX13_patch_0 rfl (lv_at hl 1 rfl) ?_
  refine lv_bipush (v := 8) hx hb dX13_patch_1 (by decide) ?_
  refine lv_isub hx hb dX13_patch_3 ?_
  refine lv_topi (fun y_1 ey_1 => ?_)
  refine lv_istore (lv' := [(4, .int y_1), (0, .ref h0), (1, .int a1), (2, .int a2), (3, .int a3)]) hx hb dX13_patch_4 hl (by decide) rfl (fun ls hl => ?_)
  refine lv_iload hx hb dX13_patch_6 (lv_at hl 0 rfl) ?_
  refine lv_if_lt (tgt := 35) hx hb dX13_patch_8 (by decide) (fun c_2 => ?_) (fun c_2 => ?_)
  · have c_2_ := c_2
    refine lv_iconst (v := 0) hx hb dX13_patch_35 (by decide) ?_
    have hP9 := hP.sub (ws' := []) [] rfl
    have hD9 := hD.sub (ws' := []) [] (by decide) rfl
    have hK9 := hK.sub (tys' := []) [] rfl
    exact W.zret hx hb hr (by decide) (fun t ht hW => ⟨⟨(0), (), rfl, lf_0_35 a1 a2 a3 y_1 c_2, by rw [ht]; exact hP9, va_K.moved hW.alike hK9, hD9⟩, hS.F ht⟩) hS.2.2 dX13_patch_36
  · have c_2_ := c_2
    refine lv_iload hx hb dX13_patch_11 (lv_at hl 0 rfl) ?_
    refine lv_aload_n hx hb dX13_patch_13 rfl (lv_at hl 1 rfl) ?_
    refine va_get (D := (dC, dI)) (ci := 13) (v := .int 0) (C := RX13) (T := TX13) (N := 155) hx hb hts uV_c1_X13 hown hK hP 0 rfl rfl 98 (by decide) (hts (.fieldLink RX13 833 "ClassMillModel" "there" "I") mw_c1_8) (fun _ h9 => h9) hM.2.2.2.2.2.2.2.2.2.2.2.2.2.2.2.2.2.2.1 dX13_patch_14 ?_
    refine lv_icmp_ge (tgt := 35) hx hb dX13_patch_17 (by decide) (fun c_3 => ?_) (fun c_3 => ?_)
    · have c_3_ := c_3
      refine lv_iconst (v := 0) hx hb dX13_patch_35 (by decide) ?_
      have hP9 := hP.sub (ws' := []) [] rfl
      have hD9 := hD.sub (ws' := []) [] (by decide) rfl
      have hK9 := hK.sub (tys' := []) [] rfl
      exact W.zret hx hb hr (by decide) (fun t ht hW => ⟨⟨(0), (), rfl, lf_0_36 a1 a2 a3 y_1 c_2 c_3, by rw [ht]; exact hP9, va_K.moved hW.alike hK9, hD9⟩, hS.F ht⟩) hS.2.2 dX13_patch_36
    · have c_3_ := c_3
      exact absurd (Int32.not_lt.mp c_2) c_3
theorem lf_0_37 (a1 a2 : Int32)  : (0 : Int32) = an_0 := by
  first | rfl | (subst_vars; rfl) | (simp_all [an_0]; done) | (subst_vars; simp_all [an_0]; done) | (unfold an_0; (repeat' split) <;> first | rfl | (exfalso; simp_all; done))
set_option maxHeartbeats 4000000 in
set_option maxRecDepth 100000 in
/-- mm_start -/
theorem mm_start (l : Launch) (dC : Nat → ClassId) (dI : Nat → Nat → Nat) (sz : Nat) (h0 : Nat) (qm0 qm1 qm2 qm3 qm4 qm5 : Nat) (fsM : List Value) (a1 a2 : Int32) (hM : pm_F fsM qm0 qm1 qm2 qm3 qm4 qm5) : Met l yX13_start (.code yX13_start cX13_start 5 (some .boolean) :: VS_c1) ({ frames := 0, cells := 0, slots := 0, locals := 0 }) (va_Pc [.ref h0, .int a1, .int a2] (fun U => U.heap.size = sz ∧ va_P (dC, dI) vwCl [(h0, .inr (13, fsM))] U.heap ∧ va_K (dC, dI) vwCl [] U ∧ va_D (fun _ => True) [(h0, .inr (13, fsM))])) (va_Qi (fun (r : Int32) (u : Unit) => match u with | () => r = an_0) (fun (u : Unit) (t : State) => match u with | () => va_P (dC, dI) vwCl [] t.heap ∧ va_K (dC, dI) vwCl [] t ∧ va_D (va_A [(h0, .inr (13, fsM))] sz) []) (va_A [(h0, .inr (13, fsM))] sz)) 0 0 (va_A [(h0, .inr (13, fsM))] sz) := by
  refine Met.ofW (cc := cX13_start) (maxL := 5) (ret := (some .boolean)) (by decide) rfl ?_
  intro p e s m args below meth c s₁ B hml hv
  obtain ⟨rfl, hsz, hP, hK, hD0⟩ := hv
  have hx := B.exec
  have hb := B.bytes
  have hr := B.returns
  have hts := atoms_spec (ws := (.code yX13_start cX13_start 5 (some .boolean) :: VS_c1)) B.pre
  replace hts := fun w (h : w ∈ VS_c1) => hts w (List.mem_cons_of_mem _ h)
  have hown : s.vm.findClass RX13 = some m.cls := findClass_of_methodNamed B.named
  have hlocks := B.notSynchronized
  subst hsz
  have hD := hD0.self (sz := s.heap.size)
  generalize hAe : va_A [(h0, .inr (13, fsM))] s.heap.size = A at hD  ⊢
  have hA : ∀ q : Nat, s.heap.size ≤ q → A q := fun q h => by rw [← hAe]; exact Or.inr h
  have hP : va_P (dC, dI) vwCl [(h0, .inr (13, fsM))] s.heap := hP
  have hl := lv_entry ([.ref h0, .int a1, .int a2]) (n := 5) (Nat.le_of_ble_eq_true rfl)
  rw [lg_entry_eq]
  generalize (lg_sl ([.ref h0, .int a1, .int a2]) ++ List.replicate (5 - (lg_sl ([.ref h0, .int a1, .int a2])).length) Slot.unset).toArray = ls at hl ⊢
  have hl : lv_has ls 5 [(0, .ref h0), (1, .int a1), (2, .int a2)] := hl
  obtain ⟨H, hH⟩ : ∃ H : Heap, s.heap = H := ⟨_, rfl⟩
  rw [hH] at hP ⊢
  have hS : va_S A s.heap H [] := by rw [← hH]; exact va_S.rf
  obtain ⟨locs, hlo⟩ : ∃ locs : List Loc, locs = [] := ⟨_, rfl⟩
  rw [← hlo] at hS ⊢
  refine lv_iload_n hx hb dX13_start_0 rfl (lv_at hl 1 rfl) ?_
  refine lv_bipush (v := 8) hx hb dX13_start_1 (by decide) ?_
  refine lv_isub hx hb dX13_start_3 ?_
  refine lv_topi (fun y_1 ey_1 => ?_)
  refine lv_istore_n (lv' := [(3, .int y_1), (0, .ref h0), (1, .int a1), (2, .int a2)]) hx hb dX13_start_4 rfl hl (by decide) rfl (fun ls hl => ?_)
  refine lv_aload_n hx hb dX13_start_5 rfl (lv_at hl 1 rfl) ?_
  refine va_get (D := (dC, dI)) (ci := 13) (v := .int 0) (C := RX13) (T := TX13) (N := 155) hx hb hts uV_c1_X13 hown hK hP 0 rfl rfl 99 (by decide) (hts (.fieldLink RX13 855 "ClassMillModel" "verified" "Z") mw_c1_9) (fun _ h9 => h9) hM.2.2.2.2.2.2.2.2.2.2.2.2.2.2.2.2.2.2.2.1 dX13_start_6 ?_
  refine lv_if_eq (tgt := 38) hx hb dX13_start_9 (by decide) (fun c_2 => ?_) (fun c_2 => (show False by revert c_2; decide).elim)
  refine lv_iconst (v := 0) hx hb dX13_start_38 (by decide) ?_
  have hP9 := hP.sub (ws' := []) [] rfl
  have hD9 := hD.sub (ws' := []) [] (by decide) rfl
  have hK9 := hK.sub (tys' := []) [] rfl
  exact W.zret hx hb hr (by decide) (fun t ht hW => ⟨⟨(0), (), rfl, lf_0_37 a1 a2 , by rw [ht]; exact hP9, va_K.moved hW.alike hK9, hD9⟩, hS.F ht⟩) hS.2.2 dX13_start_39
theorem lf_0_38  : (0 : Int32) = an_0 := by
  first | rfl | (subst_vars; rfl) | (simp_all [an_0]; done) | (subst_vars; simp_all [an_0]; done) | (unfold an_0; (repeat' split) <;> first | rfl | (exfalso; simp_all; done))
set_option maxHeartbeats 4000000 in
set_option maxRecDepth 100000 in
/-- mm_verify -/
theorem mm_verify (l : Launch) (dC : Nat → ClassId) (dI : Nat → Nat → Nat) (sz : Nat) (h0 : Nat) (qm0 qm1 qm2 qm3 qm4 qm5 : Nat) (fsM : List Value) (hM : pm_F fsM qm0 qm1 qm2 qm3 qm4 qm5) : Met l yX13_verify (.code yX13_verify cX13_verify 4 (some .int) :: VS_c1) ({ frames := 0, cells := 0, slots := 0, locals := 0 }) (va_Pc [.ref h0] (fun U => U.heap.size = sz ∧ va_P (dC, dI) vwCl [(h0, .inr (13, fsM))] U.heap ∧ va_K (dC, dI) vwCl [] U ∧ va_D (fun _ => True) [(h0, .inr (13, fsM))])) (va_Qi (fun (r : Int32) (u : Unit) => match u with | () => r = an_0) (fun (u : Unit) (t : State) => match u with | () => va_P (dC, dI) vwCl [] t.heap ∧ va_K (dC, dI) vwCl [] t ∧ va_D (va_A [(h0, .inr (13, fsM))] sz) []) (va_A [(h0, .inr (13, fsM))] sz)) 0 0 (va_A [(h0, .inr (13, fsM))] sz) := by
  refine Met.ofW (cc := cX13_verify) (maxL := 4) (ret := (some .int)) (by decide) rfl ?_
  intro p e s m args below meth c s₁ B hml hv
  obtain ⟨rfl, hsz, hP, hK, hD0⟩ := hv
  have hx := B.exec
  have hb := B.bytes
  have hr := B.returns
  have hts := atoms_spec (ws := (.code yX13_verify cX13_verify 4 (some .int) :: VS_c1)) B.pre
  replace hts := fun w (h : w ∈ VS_c1) => hts w (List.mem_cons_of_mem _ h)
  have hown : s.vm.findClass RX13 = some m.cls := findClass_of_methodNamed B.named
  have hlocks := B.notSynchronized
  subst hsz
  have hD := hD0.self (sz := s.heap.size)
  generalize hAe : va_A [(h0, .inr (13, fsM))] s.heap.size = A at hD  ⊢
  have hA : ∀ q : Nat, s.heap.size ≤ q → A q := fun q h => by rw [← hAe]; exact Or.inr h
  have hP : va_P (dC, dI) vwCl [(h0, .inr (13, fsM))] s.heap := hP
  have hl := lv_entry ([.ref h0]) (n := 4) (Nat.le_of_ble_eq_true rfl)
  rw [lg_entry_eq]
  generalize (lg_sl ([.ref h0]) ++ List.replicate (4 - (lg_sl ([.ref h0])).length) Slot.unset).toArray = ls at hl ⊢
  have hl : lv_has ls 4 [(0, .ref h0)] := hl
  obtain ⟨H, hH⟩ : ∃ H : Heap, s.heap = H := ⟨_, rfl⟩
  rw [hH] at hP ⊢
  have hS : va_S A s.heap H [] := by rw [← hH]; exact va_S.rf
  obtain ⟨locs, hlo⟩ : ∃ locs : List Loc, locs = [] := ⟨_, rfl⟩
  rw [← hlo] at hS ⊢
  refine lv_aload_n hx hb dX13_verify_0 rfl (lv_at hl 0 rfl) ?_
  refine lv_iconst (v := 0) hx hb dX13_verify_1 (by decide) ?_
  refine va_put (D := (dC, dI)) (ci := 13) (v := .int 0) (ty := .boolean) (C := RX13) (T := TX13) (N := 155) hx hb hts uV_c1_X13 tyX13 tyX13_ok nmX13 hown hK hP hD hS 0 rfl rfl 99 (by decide) (hts (.fieldLink RX13 855 "ClassMillModel" "verified" "Z") mw_c1_9) (fun _ h9 => h9) rfl (by decide +kernel) rfl rfl (by rw [hM.1]; decide) dX13_verify_2 ?_
  clear hP hD hS
  intro H locs hP hD hS
  obtain ⟨fs_1, efs_1⟩ : ∃ zf : List Value, zf = fsM.set 99 (.int 0) := ⟨_, rfl⟩
  rw [← efs_1] at hP hD
  have hlfs_1 : fs_1.length = 155 := by rw [efs_1, List.length_set]; exact hM.1
  have hfs_1_0 : fs_1[0]? = some (.ref qm0) := by rw [efs_1, List.getElem?_set_ne (by decide)]; exact hM.2.1
  have hfs_1_4 : fs_1[4]? = some (.ref qm1) := by rw [efs_1, List.getElem?_set_ne (by decide)]; exact hM.2.2.1
  have hfs_1_5 : fs_1[5]? = some (.ref qm2) := by rw [efs_1, List.getElem?_set_ne (by decide)]; exact hM.2.2.2.1
  have hfs_1_6 : fs_1[6]? = some (.ref qm3) := by rw [efs_1, List.getElem?_set_ne (by decide)]; exact hM.2.2.2.2.1
  have hfs_1_7 : fs_1[7]? = some (.ref qm4) := by rw [efs_1, List.getElem?_set_ne (by decide)]; exact hM.2.2.2.2.2.1
  have hfs_1_103 : fs_1[103]? = some (.ref qm5) := by rw [efs_1, List.getElem?_set_ne (by decide)]; exact hM.2.2.2.2.2.2.1
  have hfs_1_1 : fs_1[1]? = some (.int 0) := by rw [efs_1, List.getElem?_set_ne (by decide)]; exact hM.2.2.2.2.2.2.2.1
  have hfs_1_3 : fs_1[3]? = some (.int 0) := by rw [efs_1, List.getElem?_set_ne (by decide)]; exact hM.2.2.2.2.2.2.2.2.1
  have hfs_1_8 : fs_1[8]? = some (.int 0) := by rw [efs_1, List.getElem?_set_ne (by decide)]; exact hM.2.2.2.2.2.2.2.2.2.1
  have hfs_1_9 : fs_1[9]? = some (.int 0) := by rw [efs_1, List.getElem?_set_ne (by decide)]; exact hM.2.2.2.2.2.2.2.2.2.2.1
  have hfs_1_10 : fs_1[10]? = some (.int 0) := by rw [efs_1, List.getElem?_set_ne (by decide)]; exact hM.2.2.2.2.2.2.2.2.2.2.2.1
  have hfs_1_22 : fs_1[22]? = some (.int 0) := by rw [efs_1, List.getElem?_set_ne (by decide)]; exact hM.2.2.2.2.2.2.2.2.2.2.2.2.1
  have hfs_1_23 : fs_1[23]? = some (.int 0) := by rw [efs_1, List.getElem?_set_ne (by decide)]; exact hM.2.2.2.2.2.2.2.2.2.2.2.2.2.1
  have hfs_1_24 : fs_1[24]? = some (.int 0) := by rw [efs_1, List.getElem?_set_ne (by decide)]; exact hM.2.2.2.2.2.2.2.2.2.2.2.2.2.2.1
  have hfs_1_28 : fs_1[28]? = some (.int 0) := by rw [efs_1, List.getElem?_set_ne (by decide)]; exact hM.2.2.2.2.2.2.2.2.2.2.2.2.2.2.2.1
  have hfs_1_39 : fs_1[39]? = some (.int 0) := by rw [efs_1, List.getElem?_set_ne (by decide)]; exact hM.2.2.2.2.2.2.2.2.2.2.2.2.2.2.2.2.1
  have hfs_1_93 : fs_1[93]? = some (.int 0) := by rw [efs_1, List.getElem?_set_ne (by decide)]; exact hM.2.2.2.2.2.2.2.2.2.2.2.2.2.2.2.2.2.1
  have hfs_1_98 : fs_1[98]? = some (.int 0) := by rw [efs_1, List.getElem?_set_ne (by decide)]; exact hM.2.2.2.2.2.2.2.2.2.2.2.2.2.2.2.2.2.2.1
  have hfs_1_113 : fs_1[113]? = some (.int 0) := by rw [efs_1, List.getElem?_set_ne (by decide)]; exact hM.2.2.2.2.2.2.2.2.2.2.2.2.2.2.2.2.2.2.2.2.1
  have hfs_1_114 : fs_1[114]? = some (.int 0) := by rw [efs_1, List.getElem?_set_ne (by decide)]; exact hM.2.2.2.2.2.2.2.2.2.2.2.2.2.2.2.2.2.2.2.2.2.1
  have hfs_1_115 : fs_1[115]? = some (.int 0) := by rw [efs_1, List.getElem?_set_ne (by decide)]; exact hM.2.2.2.2.2.2.2.2.2.2.2.2.2.2.2.2.2.2.2.2.2.2.1
  have hfs_1_117 : fs_1[117]? = some (.int 0) := by rw [efs_1, List.getElem?_set_ne (by decide)]; exact hM.2.2.2.2.2.2.2.2.2.2.2.2.2.2.2.2.2.2.2.2.2.2.2.1
  have hfs_1_122 : fs_1[122]? = some (.int 0) := by rw [efs_1, List.getElem?_set_ne (by decide)]; exact hM.2.2.2.2.2.2.2.2.2.2.2.2.2.2.2.2.2.2.2.2.2.2.2.2.1
  have hfs_1_138 : fs_1[138]? = some (.int 0) := by rw [efs_1, List.getElem?_set_ne (by decide)]; exact hM.2.2.2.2.2.2.2.2.2.2.2.2.2.2.2.2.2.2.2.2.2.2.2.2.2.1
  have hfs_1_139 : fs_1[139]? = some (.int 0) := by rw [efs_1, List.getElem?_set_ne (by decide)]; exact hM.2.2.2.2.2.2.2.2.2.2.2.2.2.2.2.2.2.2.2.2.2.2.2.2.2.2.1
  have hfs_1_140 : fs_1[140]? = some (.int 0) := by rw [efs_1, List.getElem?_set_ne (by decide)]; exact hM.2.2.2.2.2.2.2.2.2.2.2.2.2.2.2.2.2.2.2.2.2.2.2.2.2.2.2.1
  have hfs_1_141 : fs_1[141]? = some (.int 0) := by rw [efs_1, List.getElem?_set_ne (by decide)]; exact hM.2.2.2.2.2.2.2.2.2.2.2.2.2.2.2.2.2.2.2.2.2.2.2.2.2.2.2.2.1
  have hfs_1_142 : fs_1[142]? = some (.int 0) := by rw [efs_1, List.getElem?_set_ne (by decide)]; exact hM.2.2.2.2.2.2.2.2.2.2.2.2.2.2.2.2.2.2.2.2.2.2.2.2.2.2.2.2.2.1
  have hfs_1_143 : fs_1[143]? = some (.int 0) := by rw [efs_1, List.getElem?_set_ne (by decide)]; exact hM.2.2.2.2.2.2.2.2.2.2.2.2.2.2.2.2.2.2.2.2.2.2.2.2.2.2.2.2.2.2.1
  have hfs_1_149 : fs_1[149]? = some (.int 0) := by rw [efs_1, List.getElem?_set_ne (by decide)]; exact hM.2.2.2.2.2.2.2.2.2.2.2.2.2.2.2.2.2.2.2.2.2.2.2.2.2.2.2.2.2.2.2.1
  have hfs_1_123 : fs_1[123]? = some (.int (-1)) := by rw [efs_1, List.getElem?_set_ne (by decide)]; exact hM.2.2.2.2.2.2.2.2.2.2.2.2.2.2.2.2.2.2.2.2.2.2.2.2.2.2.2.2.2.2.2.2.1
  have hfs_1_124 : fs_1[124]? = some (.int (-1)) := by rw [efs_1, List.getElem?_set_ne (by decide)]; exact hM.2.2.2.2.2.2.2.2.2.2.2.2.2.2.2.2.2.2.2.2.2.2.2.2.2.2.2.2.2.2.2.2.2.1
  have hfs_1_125 : fs_1[125]? = some (.int (-1)) := by rw [efs_1, List.getElem?_set_ne (by decide)]; exact hM.2.2.2.2.2.2.2.2.2.2.2.2.2.2.2.2.2.2.2.2.2.2.2.2.2.2.2.2.2.2.2.2.2.2
  have hfs_1_99 : fs_1[99]? = some (.int 0) := by rw [efs_1, List.getElem?_set_self (by rw [hM.1]; decide)]
  replace hP : va_P (dC, dI) vwCl [(h0, .inr (13, fs_1))] H := hP
  replace hD : va_D A [(h0, .inr (13, fs_1))] := hD
  refine lv_aload_n hx hb dX13_verify_5 rfl (lv_at hl 0 rfl) ?_
  refine lv_iconst (v := 0) hx hb dX13_verify_6 (by decide) ?_
  refine va_put (D := (dC, dI)) (ci := 13) (v := .int 0) (ty := .int) (C := RX13) (T := TX13) (N := 155) hx hb hts uV_c1_X13 tyX13 tyX13_ok nmX13 hown hK hP hD hS 0 rfl rfl 122 (by decide) (hts (.fieldLink RX13 901 "ClassMillModel" "why" "I") mw_c1_10) (fun _ h9 => h9) rfl (by decide +kernel) rfl rfl (by rw [hlfs_1]; decide) dX13_verify_7 ?_
  clear hP hD hS
  intro H locs hP hD hS
  obtain ⟨fs_2, efs_2⟩ : ∃ zf : List Value, zf = fs_1.set 122 (.int 0) := ⟨_, rfl⟩
  rw [← efs_2] at hP hD
  have hlfs_2 : fs_2.length = 155 := by rw [efs_2, List.length_set]; exact hlfs_1
  have hfs_2_0 : fs_2[0]? = some (.ref qm0) := by rw [efs_2, List.getElem?_set_ne (by decide)]; exact hfs_1_0
  have hfs_2_4 : fs_2[4]? = some (.ref qm1) := by rw [efs_2, List.getElem?_set_ne (by decide)]; exact hfs_1_4
  have hfs_2_5 : fs_2[5]? = some (.ref qm2) := by rw [efs_2, List.getElem?_set_ne (by decide)]; exact hfs_1_5
  have hfs_2_6 : fs_2[6]? = some (.ref qm3) := by rw [efs_2, List.getElem?_set_ne (by decide)]; exact hfs_1_6
  have hfs_2_7 : fs_2[7]? = some (.ref qm4) := by rw [efs_2, List.getElem?_set_ne (by decide)]; exact hfs_1_7
  have hfs_2_103 : fs_2[103]? = some (.ref qm5) := by rw [efs_2, List.getElem?_set_ne (by decide)]; exact hfs_1_103
  have hfs_2_1 : fs_2[1]? = some (.int 0) := by rw [efs_2, List.getElem?_set_ne (by decide)]; exact hfs_1_1
  have hfs_2_3 : fs_2[3]? = some (.int 0) := by rw [efs_2, List.getElem?_set_ne (by decide)]; exact hfs_1_3
  have hfs_2_8 : fs_2[8]? = some (.int 0) := by rw [efs_2, List.getElem?_set_ne (by decide)]; exact hfs_1_8
  have hfs_2_9 : fs_2[9]? = some (.int 0) := by rw [efs_2, List.getElem?_set_ne (by decide)]; exact hfs_1_9
  have hfs_2_10 : fs_2[10]? = some (.int 0) := by rw [efs_2, List.getElem?_set_ne (by decide)]; exact hfs_1_10
  have hfs_2_22 : fs_2[22]? = some (.int 0) := by rw [efs_2, List.getElem?_set_ne (by decide)]; exact hfs_1_22
  have hfs_2_23 : fs_2[23]? = some (.int 0) := by rw [efs_2, List.getElem?_set_ne (by decide)]; exact hfs_1_23
  have hfs_2_24 : fs_2[24]? = some (.int 0) := by rw [efs_2, List.getElem?_set_ne (by decide)]; exact hfs_1_24
  have hfs_2_28 : fs_2[28]? = some (.int 0) := by rw [efs_2, List.getElem?_set_ne (by decide)]; exact hfs_1_28
  have hfs_2_39 : fs_2[39]? = some (.int 0) := by rw [efs_2, List.getElem?_set_ne (by decide)]; exact hfs_1_39
  have hfs_2_93 : fs_2[93]? = some (.int 0) := by rw [efs_2, List.getElem?_set_ne (by decide)]; exact hfs_1_93
  have hfs_2_98 : fs_2[98]? = some (.int 0) := by rw [efs_2, List.getElem?_set_ne (by decide)]; exact hfs_1_98
  have hfs_2_113 : fs_2[113]? = some (.int 0) := by rw [efs_2, List.getElem?_set_ne (by decide)]; exact hfs_1_113
  have hfs_2_114 : fs_2[114]? = some (.int 0) := by rw [efs_2, List.getElem?_set_ne (by decide)]; exact hfs_1_114
  have hfs_2_115 : fs_2[115]? = some (.int 0) := by rw [efs_2, List.getElem?_set_ne (by decide)]; exact hfs_1_115
  have hfs_2_117 : fs_2[117]? = some (.int 0) := by rw [efs_2, List.getElem?_set_ne (by decide)]; exact hfs_1_117
  have hfs_2_138 : fs_2[138]? = some (.int 0) := by rw [efs_2, List.getElem?_set_ne (by decide)]; exact hfs_1_138
  have hfs_2_139 : fs_2[139]? = some (.int 0) := by rw [efs_2, List.getElem?_set_ne (by decide)]; exact hfs_1_139
  have hfs_2_140 : fs_2[140]? = some (.int 0) := by rw [efs_2, List.getElem?_set_ne (by decide)]; exact hfs_1_140
  have hfs_2_141 : fs_2[141]? = some (.int 0) := by rw [efs_2, List.getElem?_set_ne (by decide)]; exact hfs_1_141
  have hfs_2_142 : fs_2[142]? = some (.int 0) := by rw [efs_2, List.getElem?_set_ne (by decide)]; exact hfs_1_142
  have hfs_2_143 : fs_2[143]? = some (.int 0) := by rw [efs_2, List.getElem?_set_ne (by decide)]; exact hfs_1_143
  have hfs_2_149 : fs_2[149]? = some (.int 0) := by rw [efs_2, List.getElem?_set_ne (by decide)]; exact hfs_1_149
  have hfs_2_123 : fs_2[123]? = some (.int (-1)) := by rw [efs_2, List.getElem?_set_ne (by decide)]; exact hfs_1_123
  have hfs_2_124 : fs_2[124]? = some (.int (-1)) := by rw [efs_2, List.getElem?_set_ne (by decide)]; exact hfs_1_124
  have hfs_2_125 : fs_2[125]? = some (.int (-1)) := by rw [efs_2, List.getElem?_set_ne (by decide)]; exact hfs_1_125
  have hfs_2_99 : fs_2[99]? = some (.int 0) := by rw [efs_2, List.getElem?_set_ne (by decide)]; exact hfs_1_99
  have hfs_2_122 : fs_2[122]? = some (.int 0) := by rw [efs_2, List.getElem?_set_self (by rw [hlfs_1]; decide)]
  replace hP : va_P (dC, dI) vwCl [(h0, .inr (13, fs_2))] H := hP
  replace hD : va_D A [(h0, .inr (13, fs_2))] := hD
  refine lv_aload_n hx hb dX13_verify_10 rfl (lv_at hl 0 rfl) ?_
  refine lv_iconst (v := 0) hx hb dX13_verify_11 (by decide) ?_
  refine va_put (D := (dC, dI)) (ci := 13) (v := .int 0) (ty := .int) (C := RX13) (T := TX13) (N := 155) hx hb hts uV_c1_X13 tyX13 tyX13_ok nmX13 hown hK hP hD hS 0 rfl rfl 117 (by decide) (hts (.fieldLink RX13 876 "ClassMillModel" "others" "I") mw_c1_11) (fun _ h9 => h9) rfl (by decide +kernel) rfl rfl (by rw [hlfs_2]; decide) dX13_verify_12 ?_
  clear hP hD hS
  intro H locs hP hD hS
  obtain ⟨fs_3, efs_3⟩ : ∃ zf : List Value, zf = fs_2.set 117 (.int 0) := ⟨_, rfl⟩
  rw [← efs_3] at hP hD
  have hlfs_3 : fs_3.length = 155 := by rw [efs_3, List.length_set]; exact hlfs_2
  have hfs_3_0 : fs_3[0]? = some (.ref qm0) := by rw [efs_3, List.getElem?_set_ne (by decide)]; exact hfs_2_0
  have hfs_3_4 : fs_3[4]? = some (.ref qm1) := by rw [efs_3, List.getElem?_set_ne (by decide)]; exact hfs_2_4
  have hfs_3_5 : fs_3[5]? = some (.ref qm2) := by rw [efs_3, List.getElem?_set_ne (by decide)]; exact hfs_2_5
  have hfs_3_6 : fs_3[6]? = some (.ref qm3) := by rw [efs_3, List.getElem?_set_ne (by decide)]; exact hfs_2_6
  have hfs_3_7 : fs_3[7]? = some (.ref qm4) := by rw [efs_3, List.getElem?_set_ne (by decide)]; exact hfs_2_7
  have hfs_3_103 : fs_3[103]? = some (.ref qm5) := by rw [efs_3, List.getElem?_set_ne (by decide)]; exact hfs_2_103
  have hfs_3_1 : fs_3[1]? = some (.int 0) := by rw [efs_3, List.getElem?_set_ne (by decide)]; exact hfs_2_1
  have hfs_3_3 : fs_3[3]? = some (.int 0) := by rw [efs_3, List.getElem?_set_ne (by decide)]; exact hfs_2_3
  have hfs_3_8 : fs_3[8]? = some (.int 0) := by rw [efs_3, List.getElem?_set_ne (by decide)]; exact hfs_2_8
  have hfs_3_9 : fs_3[9]? = some (.int 0) := by rw [efs_3, List.getElem?_set_ne (by decide)]; exact hfs_2_9
  have hfs_3_10 : fs_3[10]? = some (.int 0) := by rw [efs_3, List.getElem?_set_ne (by decide)]; exact hfs_2_10
  have hfs_3_22 : fs_3[22]? = some (.int 0) := by rw [efs_3, List.getElem?_set_ne (by decide)]; exact hfs_2_22
  have hfs_3_23 : fs_3[23]? = some (.int 0) := by rw [efs_3, List.getElem?_set_ne (by decide)]; exact hfs_2_23
  have hfs_3_24 : fs_3[24]? = some (.int 0) := by rw [efs_3, List.getElem?_set_ne (by decide)]; exact hfs_2_24
  have hfs_3_28 : fs_3[28]? = some (.int 0) := by rw [efs_3, List.getElem?_set_ne (by decide)]; exact hfs_2_28
  have hfs_3_39 : fs_3[39]? = some (.int 0) := by rw [efs_3, List.getElem?_set_ne (by decide)]; exact hfs_2_39
  have hfs_3_93 : fs_3[93]? = some (.int 0) := by rw [efs_3, List.getElem?_set_ne (by decide)]; exact hfs_2_93
  have hfs_3_98 : fs_3[98]? = some (.int 0) := by rw [efs_3, List.getElem?_set_ne (by decide)]; exact hfs_2_98
  have hfs_3_113 : fs_3[113]? = some (.int 0) := by rw [efs_3, List.getElem?_set_ne (by decide)]; exact hfs_2_113
  have hfs_3_114 : fs_3[114]? = some (.int 0) := by rw [efs_3, List.getElem?_set_ne (by decide)]; exact hfs_2_114
  have hfs_3_115 : fs_3[115]? = some (.int 0) := by rw [efs_3, List.getElem?_set_ne (by decide)]; exact hfs_2_115
  have hfs_3_138 : fs_3[138]? = some (.int 0) := by rw [efs_3, List.getElem?_set_ne (by decide)]; exact hfs_2_138
  have hfs_3_139 : fs_3[139]? = some (.int 0) := by rw [efs_3, List.getElem?_set_ne (by decide)]; exact hfs_2_139
  have hfs_3_140 : fs_3[140]? = some (.int 0) := by rw [efs_3, List.getElem?_set_ne (by decide)]; exact hfs_2_140
  have hfs_3_141 : fs_3[141]? = some (.int 0) := by rw [efs_3, List.getElem?_set_ne (by decide)]; exact hfs_2_141
  have hfs_3_142 : fs_3[142]? = some (.int 0) := by rw [efs_3, List.getElem?_set_ne (by decide)]; exact hfs_2_142
  have hfs_3_143 : fs_3[143]? = some (.int 0) := by rw [efs_3, List.getElem?_set_ne (by decide)]; exact hfs_2_143
  have hfs_3_149 : fs_3[149]? = some (.int 0) := by rw [efs_3, List.getElem?_set_ne (by decide)]; exact hfs_2_149
  have hfs_3_123 : fs_3[123]? = some (.int (-1)) := by rw [efs_3, List.getElem?_set_ne (by decide)]; exact hfs_2_123
  have hfs_3_124 : fs_3[124]? = some (.int (-1)) := by rw [efs_3, List.getElem?_set_ne (by decide)]; exact hfs_2_124
  have hfs_3_125 : fs_3[125]? = some (.int (-1)) := by rw [efs_3, List.getElem?_set_ne (by decide)]; exact hfs_2_125
  have hfs_3_99 : fs_3[99]? = some (.int 0) := by rw [efs_3, List.getElem?_set_ne (by decide)]; exact hfs_2_99
  have hfs_3_122 : fs_3[122]? = some (.int 0) := by rw [efs_3, List.getElem?_set_ne (by decide)]; exact hfs_2_122
  have hfs_3_117 : fs_3[117]? = some (.int 0) := by rw [efs_3, List.getElem?_set_self (by rw [hlfs_2]; decide)]
  replace hP : va_P (dC, dI) vwCl [(h0, .inr (13, fs_3))] H := hP
  replace hD : va_D A [(h0, .inr (13, fs_3))] := hD
  refine lv_iconst (v := 1) hx hb dX13_verify_15 (by decide) ?_
  refine lv_istore_n (lv' := [(1, .int 1), (0, .ref h0)]) hx hb dX13_verify_16 rfl hl (by decide) rfl (fun ls hl => ?_)
  refine lv_bipush (v := 8) hx hb dX13_verify_17 (by decide) ?_
  refine lv_istore_n (lv' := [(2, .int 8), (1, .int 1), (0, .ref h0)]) hx hb dX13_verify_19 rfl hl (by decide) rfl (fun ls hl => ?_)
  refine lv_iload_n hx hb dX13_verify_20 rfl (lv_at hl 0 rfl) ?_
  refine lv_bipush (v := 8) hx hb dX13_verify_21 (by decide) ?_
  refine lv_aload_n hx hb dX13_verify_23 rfl (lv_at hl 2 rfl) ?_
  refine va_get (D := (dC, dI)) (ci := 13) (v := .int 0) (C := RX13) (T := TX13) (N := 155) hx hb hts uV_c1_X13 hown hK hP 0 rfl rfl 98 (by decide) (hts (.fieldLink RX13 833 "ClassMillModel" "there" "I") mw_c1_8) (fun _ h9 => h9) hfs_3_98 dX13_verify_24 ?_
  refine lv_iadd hx hb dX13_verify_27 ?_
  refine lv_topi (fun y_4 ey_4 => ?_)
  obtain rfl : y_4 = 8 := ey_4.trans (by decide)
  refine lv_icmp_ge (tgt := 47) hx hb dX13_verify_28 (by decide) (fun c_5 => ?_) (fun c_5 => (show False by revert c_5; decide).elim)
  refine lv_bipush (v := 8) hx hb dX13_verify_47 (by decide) ?_
  refine lv_istore_n (lv' := [(2, .int 8), (1, .int 1), (0, .ref h0)]) hx hb dX13_verify_49 rfl hl (by decide) rfl (fun ls hl => ?_)
  refine lv_iload_n hx hb dX13_verify_50 rfl (lv_at hl 0 rfl) ?_
  refine lv_bipush (v := 8) hx hb dX13_verify_51 (by decide) ?_
  refine lv_aload_n hx hb dX13_verify_53 rfl (lv_at hl 2 rfl) ?_
  refine va_get (D := (dC, dI)) (ci := 13) (v := .int 0) (C := RX13) (T := TX13) (N := 155) hx hb hts uV_c1_X13 hown hK hP 0 rfl rfl 98 (by decide) (hts (.fieldLink RX13 833 "ClassMillModel" "there" "I") mw_c1_8) (fun _ h9 => h9) hfs_3_98 dX13_verify_54 ?_
  refine lv_iadd hx hb dX13_verify_57 ?_
  refine lv_topi (fun y_6 ey_6 => ?_)
  obtain rfl : y_6 = 8 := ey_6.trans (by decide)
  refine lv_icmp_ge (tgt := 103) hx hb dX13_verify_58 (by decide) (fun c_7 => ?_) (fun c_7 => (show False by revert c_7; decide).elim)
  refine lv_aload_n hx hb dX13_verify_103 rfl (lv_at hl 2 rfl) ?_
  refine lv_iload_n hx hb dX13_verify_104 rfl (lv_at hl 1 rfl) ?_
  refine va_put (D := (dC, dI)) (ci := 13) (v := .int 1) (ty := .boolean) (C := RX13) (T := TX13) (N := 155) hx hb hts uV_c1_X13 tyX13 tyX13_ok nmX13 hown hK hP hD hS 0 rfl rfl 99 (by decide) (hts (.fieldLink RX13 855 "ClassMillModel" "verified" "Z") mw_c1_9) (fun _ h9 => h9) rfl (by decide +kernel) rfl rfl (by rw [hlfs_3]; decide) dX13_verify_105 ?_
  clear hP hD hS
  intro H locs hP hD hS
  obtain ⟨fs_8, efs_8⟩ : ∃ zf : List Value, zf = fs_3.set 99 (.int 1) := ⟨_, rfl⟩
  rw [← efs_8] at hP hD
  have hlfs_8 : fs_8.length = 155 := by rw [efs_8, List.length_set]; exact hlfs_3
  have hfs_8_0 : fs_8[0]? = some (.ref qm0) := by rw [efs_8, List.getElem?_set_ne (by decide)]; exact hfs_3_0
  have hfs_8_4 : fs_8[4]? = some (.ref qm1) := by rw [efs_8, List.getElem?_set_ne (by decide)]; exact hfs_3_4
  have hfs_8_5 : fs_8[5]? = some (.ref qm2) := by rw [efs_8, List.getElem?_set_ne (by decide)]; exact hfs_3_5
  have hfs_8_6 : fs_8[6]? = some (.ref qm3) := by rw [efs_8, List.getElem?_set_ne (by decide)]; exact hfs_3_6
  have hfs_8_7 : fs_8[7]? = some (.ref qm4) := by rw [efs_8, List.getElem?_set_ne (by decide)]; exact hfs_3_7
  have hfs_8_103 : fs_8[103]? = some (.ref qm5) := by rw [efs_8, List.getElem?_set_ne (by decide)]; exact hfs_3_103
  have hfs_8_1 : fs_8[1]? = some (.int 0) := by rw [efs_8, List.getElem?_set_ne (by decide)]; exact hfs_3_1
  have hfs_8_3 : fs_8[3]? = some (.int 0) := by rw [efs_8, List.getElem?_set_ne (by decide)]; exact hfs_3_3
  have hfs_8_8 : fs_8[8]? = some (.int 0) := by rw [efs_8, List.getElem?_set_ne (by decide)]; exact hfs_3_8
  have hfs_8_9 : fs_8[9]? = some (.int 0) := by rw [efs_8, List.getElem?_set_ne (by decide)]; exact hfs_3_9
  have hfs_8_10 : fs_8[10]? = some (.int 0) := by rw [efs_8, List.getElem?_set_ne (by decide)]; exact hfs_3_10
  have hfs_8_22 : fs_8[22]? = some (.int 0) := by rw [efs_8, List.getElem?_set_ne (by decide)]; exact hfs_3_22
  have hfs_8_23 : fs_8[23]? = some (.int 0) := by rw [efs_8, List.getElem?_set_ne (by decide)]; exact hfs_3_23
  have hfs_8_24 : fs_8[24]? = some (.int 0) := by rw [efs_8, List.getElem?_set_ne (by decide)]; exact hfs_3_24
  have hfs_8_28 : fs_8[28]? = some (.int 0) := by rw [efs_8, List.getElem?_set_ne (by decide)]; exact hfs_3_28
  have hfs_8_39 : fs_8[39]? = some (.int 0) := by rw [efs_8, List.getElem?_set_ne (by decide)]; exact hfs_3_39
  have hfs_8_93 : fs_8[93]? = some (.int 0) := by rw [efs_8, List.getElem?_set_ne (by decide)]; exact hfs_3_93
  have hfs_8_98 : fs_8[98]? = some (.int 0) := by rw [efs_8, List.getElem?_set_ne (by decide)]; exact hfs_3_98
  have hfs_8_113 : fs_8[113]? = some (.int 0) := by rw [efs_8, List.getElem?_set_ne (by decide)]; exact hfs_3_113
  have hfs_8_114 : fs_8[114]? = some (.int 0) := by rw [efs_8, List.getElem?_set_ne (by decide)]; exact hfs_3_114
  have hfs_8_115 : fs_8[115]? = some (.int 0) := by rw [efs_8, List.getElem?_set_ne (by decide)]; exact hfs_3_115
  have hfs_8_138 : fs_8[138]? = some (.int 0) := by rw [efs_8, List.getElem?_set_ne (by decide)]; exact hfs_3_138
  have hfs_8_139 : fs_8[139]? = some (.int 0) := by rw [efs_8, List.getElem?_set_ne (by decide)]; exact hfs_3_139
  have hfs_8_140 : fs_8[140]? = some (.int 0) := by rw [efs_8, List.getElem?_set_ne (by decide)]; exact hfs_3_140
  have hfs_8_141 : fs_8[141]? = some (.int 0) := by rw [efs_8, List.getElem?_set_ne (by decide)]; exact hfs_3_141
  have hfs_8_142 : fs_8[142]? = some (.int 0) := by rw [efs_8, List.getElem?_set_ne (by decide)]; exact hfs_3_142
  have hfs_8_143 : fs_8[143]? = some (.int 0) := by rw [efs_8, List.getElem?_set_ne (by decide)]; exact hfs_3_143
  have hfs_8_149 : fs_8[149]? = some (.int 0) := by rw [efs_8, List.getElem?_set_ne (by decide)]; exact hfs_3_149
  have hfs_8_123 : fs_8[123]? = some (.int (-1)) := by rw [efs_8, List.getElem?_set_ne (by decide)]; exact hfs_3_123
  have hfs_8_124 : fs_8[124]? = some (.int (-1)) := by rw [efs_8, List.getElem?_set_ne (by decide)]; exact hfs_3_124
  have hfs_8_125 : fs_8[125]? = some (.int (-1)) := by rw [efs_8, List.getElem?_set_ne (by decide)]; exact hfs_3_125
  have hfs_8_122 : fs_8[122]? = some (.int 0) := by rw [efs_8, List.getElem?_set_ne (by decide)]; exact hfs_3_122
  have hfs_8_117 : fs_8[117]? = some (.int 0) := by rw [efs_8, List.getElem?_set_ne (by decide)]; exact hfs_3_117
  have hfs_8_99 : fs_8[99]? = some (.int 1) := by rw [efs_8, List.getElem?_set_self (by rw [hlfs_3]; decide)]
  replace hP : va_P (dC, dI) vwCl [(h0, .inr (13, fs_8))] H := hP
  replace hD : va_D A [(h0, .inr (13, fs_8))] := hD
  refine lv_aload_n hx hb dX13_verify_108 rfl (lv_at hl 2 rfl) ?_
  refine va_get (D := (dC, dI)) (ci := 13) (v := .int 0) (C := RX13) (T := TX13) (N := 155) hx hb hts uV_c1_X13 hown hK hP 0 rfl rfl 122 (by decide) (hts (.fieldLink RX13 901 "ClassMillModel" "why" "I") mw_c1_10) (fun _ h9 => h9) hfs_8_122 dX13_verify_109 ?_
  have hP9 := hP.sub (ws' := []) [] rfl
  have hD9 := hD.sub (ws' := []) [] (by decide) rfl
  have hK9 := hK.sub (tys' := []) [] rfl
  exact W.iret hx hb hr (fun t ht hW => ⟨⟨(0), (), rfl, lf_0_38  , by rw [ht]; exact hP9, va_K.moved hW.alike hK9, hD9⟩, hS.F ht⟩) hS.2.2 dX13_verify_112

/-! THE TAPE, whatever is on it -/
def tk_b (w k : Int32) : Int32 := vp_nar .byte ((w >>> (k &&& 31)).toInt8.toInt32)
def tm_b (w k : Int32) : Int32 := (w >>> (k &&& 31)) &&& 255
def tk_lay (f : Nat → Int32) (t : Nat) (w : Int32) : Nat → Int32 := upd (upd (upd (upd f t (tk_b w 24)) (t + 1) (tk_b w 16)) (t + 2) (tk_b w 8)) (t + 3) (tk_b w 0)
def tm_lay (f : Nat → Int32) (t : Nat) (w : Int32) : Nat → Int32 := upd (upd (upd (upd f t (tm_b w 24)) (t + 1) (tm_b w 16)) (t + 2) (tm_b w 8)) (t + 3) (tm_b w 0)
def tg_feed (t : Nat) : Int32 := if t + 20 ≤ 6000 then nI (t + 20) else -1
def tg_taped (t : Nat) : Nat := if t + 20 ≤ 6000 then t + 20 else t
def tk_feed (f : Nat → Int32) (t : Nat) (a b c d e : Int32) : Nat → Int32 := if t + 20 ≤ 6000 then tk_lay (tk_lay (tk_lay (tk_lay (tk_lay f t a) (t + 4) b) (t + 8) c) (t + 12) d) (t + 16) e else f
def tm_feed (f : Nat → Int32) (t : Nat) (a b c d e : Int32) : Nat → Int32 := if t + 20 ≤ 6000 then tm_lay (tm_lay (tm_lay (tm_lay (tm_lay f t a) (t + 4) b) (t + 8) c) (t + 12) d) (t + 16) e else f
def tg_end (t : Nat) (a : Int32) : Int32 := if a < 0 then 0 else if nI t < a then 0 else 1
def tg_cut (t : Nat) (a : Int32) : Nat := if a < 0 then t else if nI t < a then t else a.toNatClampNeg
theorem tg_nge {t : Nat} (h : t < 6000) : ¬ (6000 : Int32) ≤ nI t := nI_ge h (by decide)
theorem tg_le {t : Nat} (h : t ≤ 6000) : nI t ≤ (6000 : Int32) := nI_le h (by decide)
theorem tg_nle {t : Nat} (h : ¬ t ≤ 6000) (ht : t < 2 ^ 31) : ¬ nI t ≤ (6000 : Int32) := show ¬ nI t ≤ nI 6000 from nI_ge (by omega) ht
theorem tg_set {fs : List Value} {k : Nat} {v : Value} (h : fs[k]? = some v) : fs.set k v = fs := by
  apply List.ext_getElem?
  intro i
  by_cases hi : k = i
  · subst hi
    rw [List.getElem?_set_self (List.getElem?_eq_some_iff.mp h).1]
    exact h.symm
  · rw [List.getElem?_set_ne hi]
theorem tg_cutI {t : Nat} {a : Int32} (h0 : ¬ a < 0) (h1 : a ≤ nI t) : a = nI (tg_cut t a) := by
  obtain ⟨j, hj, rfl⟩ := nI_of h0
  unfold tg_cut
  rw [if_neg h0, if_neg (Int32.not_lt.mpr h1), nI_clamp hj]
set_option maxHeartbeats 4000000 in
set_option maxRecDepth 100000 in
/-- putNumber -/
theorem kg_put (l : Launch) (dC : Nat → ClassId) (dI : Nat → Nat → Nat) (sz : Nat) (h0 : Nat) (a1 : Int32) (qo1 : Nat) (tn : Nat) (qo2 : Nat) (qo3 : Nat) (qo4 : Nat) (qo5 : Nat) (qo6 : Nat) (v7 : Int32) (qo7 : Nat) (qo8 : Nat) (qo9 : Nat) (co1 : ClassId) (ff : (Nat → Int32)) (hbt : tn + 4 ≤ 6000) : Met l yX12_putNumber (.code yX12_putNumber cX12_putNumber 3 none :: VS_g1) ({ frames := 0, cells := 0, slots := 0, locals := 0 }) (va_Pc [.ref h0, .int a1] (fun U => U.heap.size = sz ∧ va_P (dC, dI) vwCl [(h0, .inr (12, [.ref qo1, .int (nI tn), .ref qo2, .ref qo3, .ref qo4, .ref qo5, .ref qo6, .int v7, .ref qo7, .ref qo8, .ref qo9])), (qo1, .inl (co1, 6000, .inl ff))] U.heap ∧ va_K (dC, dI) vwCl [(co1, .byte)] U ∧ va_D (fun _ => True) [(h0, .inr (12, [.ref qo1, .int (nI tn), .ref qo2, .ref qo3, .ref qo4, .ref qo5, .ref qo6, .int v7, .ref qo7, .ref qo8, .ref qo9])), (qo1, .inl (co1, 6000, .inl ff))])) (va_Qv (fun (u : (Nat → Int32)) => match u with | (fo1) => fo1 = tk_lay ff tn a1) (fun (u : (Nat → Int32)) (t : State) => match u with | (fo1) => va_P (dC, dI) vwCl [(h0, .inr (12, [.ref qo1, .int (nI (tn + 4)), .ref qo2, .ref qo3, .ref qo4, .ref qo5, .ref qo6, .int v7, .ref qo7, .ref qo8, .ref qo9])), (qo1, .inl (co1, 6000, .inl fo1))] t.heap ∧ va_K (dC, dI) vwCl [(co1, .byte)] t ∧ va_D (va_A [(h0, .inr (12, [.ref qo1, .int (nI tn), .ref qo2, .ref qo3, .ref qo4, .ref qo5, .ref qo6, .int v7, .ref qo7, .ref qo8, .ref qo9])), (qo1, .inl (co1, 6000, .inl ff))] sz) [(h0, .inr (12, [.ref qo1, .int (nI (tn + 4)), .ref qo2, .ref qo3, .ref qo4, .ref qo5, .ref qo6, .int v7, .ref qo7, .ref qo8, .ref qo9])), (qo1, .inl (co1, 6000, .inl fo1))]) (va_A [(h0, .inr (12, [.ref qo1, .int (nI tn), .ref qo2, .ref qo3, .ref qo4, .ref qo5, .ref qo6, .int v7, .ref qo7, .ref qo8, .ref qo9])), (qo1, .inl (co1, 6000, .inl ff))] sz)) 0 0 (va_A [(h0, .inr (12, [.ref qo1, .int (nI tn), .ref qo2, .ref qo3, .ref qo4, .ref qo5, .ref qo6, .int v7, .ref qo7, .ref qo8, .ref qo9])), (qo1, .inl (co1, 6000, .inl ff))] sz) := by
  refine Met.ofW (cc := cX12_putNumber) (maxL := 3) (ret := none) (by decide) rfl ?_
  intro p e s m args below meth c s₁ B hml hv
  obtain ⟨rfl, hsz, hP, hK, hD0⟩ := hv
  have hx := B.exec
  have hb := B.bytes
  have hr := B.returns
  have hts := atoms_spec (ws := (.code yX12_putNumber cX12_putNumber 3 none :: VS_g1)) B.pre
  replace hts := fun w (h : w ∈ VS_g1) => hts w (List.mem_cons_of_mem _ h)
  have hown : s.vm.findClass RX12 = some m.cls := findClass_of_methodNamed B.named
  have hlocks := B.notSynchronized
  subst hsz
  have hD := hD0.self (sz := s.heap.size)
  generalize hAe : va_A [(h0, .inr (12, [.ref qo1, .int (nI tn), .ref qo2, .ref qo3, .ref qo4, .ref qo5, .ref qo6, .int v7, .ref qo7, .ref qo8, .ref qo9])), (qo1, .inl (co1, 6000, .inl ff))] s.heap.size = A at hD  ⊢
  have hA : ∀ q : Nat, s.heap.size ≤ q → A q := fun q h => by rw [← hAe]; exact Or.inr h
  have hP : va_P (dC, dI) vwCl [(h0, .inr (12, [.ref qo1, .int (nI tn), .ref qo2, .ref qo3, .ref qo4, .ref qo5, .ref qo6, .int v7, .ref qo7, .ref qo8, .ref qo9])), (qo1, .inl (co1, 6000, .inl ff))] s.heap := hP
  have hl := lv_entry ([.ref h0, .int a1]) (n := 3) (Nat.le_of_ble_eq_true rfl)
  rw [lg_entry_eq]
  generalize (lg_sl ([.ref h0, .int a1]) ++ List.replicate (3 - (lg_sl ([.ref h0, .int a1])).length) Slot.unset).toArray = ls at hl ⊢
  have hl : lv_has ls 3 [(0, .ref h0), (1, .int a1)] := hl
  obtain ⟨H, hH⟩ : ∃ H : Heap, s.heap = H := ⟨_, rfl⟩
  rw [hH] at hP ⊢
  have hS : va_S A s.heap H [] := by rw [← hH]; exact va_S.rf
  obtain ⟨locs, hlo⟩ : ∃ locs : List Loc, locs = [] := ⟨_, rfl⟩
  rw [← hlo] at hS ⊢
  refine lv_bipush (v := 24) hx hb dX12_putNumber_0 (by decide) ?_
  refine lv_istore_n (lv' := [(2, .int 24), (0, .ref h0), (1, .int a1)]) hx hb dX12_putNumber_2 rfl hl (by decide) rfl (fun ls hl => ?_)
  refine lv_iload_n hx hb dX12_putNumber_3 rfl (lv_at hl 0 rfl) ?_
  refine lv_if_lt (tgt := 48) hx hb dX12_putNumber_4 (by decide) (fun c_1 => (show False by revert c_1; decide).elim) (fun c_1 => ?_)
  refine lv_aload_n hx hb dX12_putNumber_7 rfl (lv_at hl 1 rfl) ?_
  refine va_get (D := (dC, dI)) (ci := 12) (v := .int (nI tn)) (C := RX12) (T := TX12) (N := 11) hx hb hts uV_g1_X12 hown hK hP 0 rfl rfl 1 (by decide) (hts (.fieldLink RX12 73 "ClassMill" "taped" "I") mw_g1_0) (fun _ h9 => h9) rfl dX12_putNumber_8 ?_
  refine lv_aload_n hx hb dX12_putNumber_11 rfl (lv_at hl 1 rfl) ?_
  refine va_get (D := (dC, dI)) (ci := 12) (v := .ref qo1) (C := RX12) (T := TX12) (N := 11) hx hb hts uV_g1_X12 hown hK hP 0 rfl rfl 0 (by decide) (hts (.fieldLink RX12 9 "ClassMill" "tape" "[B") mw_g1_1) (fun _ h9 => h9) rfl dX12_putNumber_12 ?_
  refine va_alen (v := 6000) hx hb hK hP 1 0 rfl rfl rfl dX12_putNumber_15 ?_
  refine lv_icmp_ge (tgt := 42) hx hb dX12_putNumber_16 (by decide) (fun c_2 => absurd c_2 (tg_nge (by omega))) (fun c_2 => ?_)
  refine lv_aload_n hx hb dX12_putNumber_19 rfl (lv_at hl 1 rfl) ?_
  refine va_get (D := (dC, dI)) (ci := 12) (v := .ref qo1) (C := RX12) (T := TX12) (N := 11) hx hb hts uV_g1_X12 hown hK hP 0 rfl rfl 0 (by decide) (hts (.fieldLink RX12 9 "ClassMill" "tape" "[B") mw_g1_1) (fun _ h9 => h9) rfl dX12_putNumber_20 ?_
  refine lv_aload_n hx hb dX12_putNumber_23 rfl (lv_at hl 1 rfl) ?_
  refine va_get (D := (dC, dI)) (ci := 12) (v := .int (nI tn)) (C := RX12) (T := TX12) (N := 11) hx hb hts uV_g1_X12 hown hK hP 0 rfl rfl 1 (by decide) (hts (.fieldLink RX12 73 "ClassMill" "taped" "I") mw_g1_0) (fun _ h9 => h9) rfl dX12_putNumber_24 ?_
  refine lv_iload_n hx hb dX12_putNumber_27 rfl (lv_at hl 2 rfl) ?_
  refine lv_iload_n hx hb dX12_putNumber_28 rfl (lv_at hl 0 rfl) ?_
  refine lv_ishr hx hb dX12_putNumber_29 ?_
  refine lv_topi (fun y_3 ey_3 => ?_)
  obtain ⟨y_4, ey_4⟩ : ∃ zy : Int32, (y_3 : Int32).toInt8.toInt32 = zy := ⟨_, rfl⟩
  refine lv_i2b hx hb dX12_putNumber_30 ey_4 ?_
  refine va_bast hx hb hK hP hD hS 1 0 rfl rfl (i := (nI tn)) (x := y_4) (vp_in_nI (by omega) (by decide)) dX12_putNumber_31 ?_
  clear hP hD hS
  intro H locs hP hD hS
  obtain ⟨f_5, ef_5⟩ : ∃ zf : Nat → Int32, zf = upd ff ((nI tn) : Int32).toNatClampNeg (vp_nar .byte y_4) := ⟨_, rfl⟩
  rw [← ef_5] at hP hD
  replace hP : va_P (dC, dI) vwCl [(h0, .inr (12, [.ref qo1, .int (nI tn), .ref qo2, .ref qo3, .ref qo4, .ref qo5, .ref qo6, .int v7, .ref qo7, .ref qo8, .ref qo9])), (qo1, .inl (co1, 6000, .inl f_5))] H := hP
  replace hD : va_D A [(h0, .inr (12, [.ref qo1, .int (nI tn), .ref qo2, .ref qo3, .ref qo4, .ref qo5, .ref qo6, .int v7, .ref qo7, .ref qo8, .ref qo9])), (qo1, .inl (co1, 6000, .inl f_5))] := hD
  refine lv_aload_n hx hb dX12_putNumber_32 rfl (lv_at hl 1 rfl) ?_
  refine lv_dup hx hb dX12_putNumber_33 rfl ?_
  refine va_get (D := (dC, dI)) (ci := 12) (v := .int (nI tn)) (C := RX12) (T := TX12) (N := 11) hx hb hts uV_g1_X12 hown hK hP 0 rfl rfl 1 (by decide) (hts (.fieldLink RX12 73 "ClassMill" "taped" "I") mw_g1_0) (fun _ h9 => h9) rfl dX12_putNumber_34 ?_
  refine lv_iconst (v := 1) hx hb dX12_putNumber_37 (by decide) ?_
  refine lv_iadd hx hb dX12_putNumber_38 ?_
  refine lv_topi (fun y_6 ey_6 => ?_)
  obtain rfl : y_6 = nI (tn + 1) := by rw [ey_6]; exact nI_1 _
  refine va_put (D := (dC, dI)) (ci := 12) (v := .int (nI (tn + 1))) (ty := .int) (C := RX12) (T := TX12) (N := 11) hx hb hts uV_g1_X12 tyX12 tyX12_ok nmX12 hown hK hP hD hS 0 rfl rfl 1 (by decide) (hts (.fieldLink RX12 73 "ClassMill" "taped" "I") mw_g1_0) (fun _ h9 => h9) rfl (by decide +kernel) rfl rfl (Nat.le_of_ble_eq_true rfl) dX12_putNumber_39 ?_
  clear hP hD hS
  intro H locs hP hD hS
  replace hP : va_P (dC, dI) vwCl [(h0, .inr (12, [.ref qo1, .int (nI (tn + 1)), .ref qo2, .ref qo3, .ref qo4, .ref qo5, .ref qo6, .int v7, .ref qo7, .ref qo8, .ref qo9])), (qo1, .inl (co1, 6000, .inl f_5))] H := hP
  replace hD : va_D A [(h0, .inr (12, [.ref qo1, .int (nI (tn + 1)), .ref qo2, .ref qo3, .ref qo4, .ref qo5, .ref qo6, .int v7, .ref qo7, .ref qo8, .ref qo9])), (qo1, .inl (co1, 6000, .inl f_5))] := hD
  refine lv_iinc (v := 16) (lv' := [(2, .int 16), (0, .ref h0), (1, .int a1)]) hx hb dX12_putNumber_42 hl (k := 0) rfl (by decide) (by decide) rfl (fun ls hl => ?_)
  refine lv_goto (tgt := 3) hx hb dX12_putNumber_45 (by decide) ?_
  refine lv_iload_n hx hb dX12_putNumber_3 rfl (lv_at hl 0 rfl) ?_
  refine lv_if_lt (tgt := 48) hx hb dX12_putNumber_4 (by decide) (fun c_7 => (show False by revert c_7; decide).elim) (fun c_7 => ?_)
  refine lv_aload_n hx hb dX12_putNumber_7 rfl (lv_at hl 1 rfl) ?_
  refine va_get (D := (dC, dI)) (ci := 12) (v := .int (nI (tn + 1))) (C := RX12) (T := TX12) (N := 11) hx hb hts uV_g1_X12 hown hK hP 0 rfl rfl 1 (by decide) (hts (.fieldLink RX12 73 "ClassMill" "taped" "I") mw_g1_0) (fun _ h9 => h9) rfl dX12_putNumber_8 ?_
  refine lv_aload_n hx hb dX12_putNumber_11 rfl (lv_at hl 1 rfl) ?_
  refine va_get (D := (dC, dI)) (ci := 12) (v := .ref qo1) (C := RX12) (T := TX12) (N := 11) hx hb hts uV_g1_X12 hown hK hP 0 rfl rfl 0 (by decide) (hts (.fieldLink RX12 9 "ClassMill" "tape" "[B") mw_g1_1) (fun _ h9 => h9) rfl dX12_putNumber_12 ?_
  refine va_alen (v := 6000) hx hb hK hP 1 0 rfl rfl rfl dX12_putNumber_15 ?_
  refine lv_icmp_ge (tgt := 42) hx hb dX12_putNumber_16 (by decide) (fun c_8 => absurd c_8 (tg_nge (by omega))) (fun c_8 => ?_)
  refine lv_aload_n hx hb dX12_putNumber_19 rfl (lv_at hl 1 rfl) ?_
  refine va_get (D := (dC, dI)) (ci := 12) (v := .ref qo1) (C := RX12) (T := TX12) (N := 11) hx hb hts uV_g1_X12 hown hK hP 0 rfl rfl 0 (by decide) (hts (.fieldLink RX12 9 "ClassMill" "tape" "[B") mw_g1_1) (fun _ h9 => h9) rfl dX12_putNumber_20 ?_
  refine lv_aload_n hx hb dX12_putNumber_23 rfl (lv_at hl 1 rfl) ?_
  refine va_get (D := (dC, dI)) (ci := 12) (v := .int (nI (tn + 1))) (C := RX12) (T := TX12) (N := 11) hx hb hts uV_g1_X12 hown hK hP 0 rfl rfl 1 (by decide) (hts (.fieldLink RX12 73 "ClassMill" "taped" "I") mw_g1_0) (fun _ h9 => h9) rfl dX12_putNumber_24 ?_
  refine lv_iload_n hx hb dX12_putNumber_27 rfl (lv_at hl 2 rfl) ?_
  refine lv_iload_n hx hb dX12_putNumber_28 rfl (lv_at hl 0 rfl) ?_
  refine lv_ishr hx hb dX12_putNumber_29 ?_
  refine lv_topi (fun y_9 ey_9 => ?_)
  obtain ⟨y_10, ey_10⟩ : ∃ zy : Int32, (y_9 : Int32).toInt8.toInt32 = zy := ⟨_, rfl⟩
  refine lv_i2b hx hb dX12_putNumber_30 ey_10 ?_
  refine va_bast hx hb hK hP hD hS 1 0 rfl rfl (i := (nI (tn + 1))) (x := y_10) (vp_in_nI (by omega) (by decide)) dX12_putNumber_31 ?_
  clear hP hD hS
  intro H locs hP hD hS
  obtain ⟨f_11, ef_11⟩ : ∃ zf : Nat → Int32, zf = upd f_5 ((nI (tn + 1)) : Int32).toNatClampNeg (vp_nar .byte y_10) := ⟨_, rfl⟩
  rw [← ef_11] at hP hD
  replace hP : va_P (dC, dI) vwCl [(h0, .inr (12, [.ref qo1, .int (nI (tn + 1)), .ref qo2, .ref qo3, .ref qo4, .ref qo5, .ref qo6, .int v7, .ref qo7, .ref qo8, .ref qo9])), (qo1, .inl (co1, 6000, .inl f_11))] H := hP
  replace hD : va_D A [(h0, .inr (12, [.ref qo1, .int (nI (tn + 1)), .ref qo2, .ref qo3, .ref qo4, .ref qo5, .ref qo6, .int v7, .ref qo7, .ref qo8, .ref qo9])), (qo1, .inl (co1, 6000, .inl f_11))] := hD
  refine lv_aload_n hx hb dX12_putNumber_32 rfl (lv_at hl 1 rfl) ?_
  refine lv_dup hx hb dX12_putNumber_33 rfl ?_
  refine va_get (D := (dC, dI)) (ci := 12) (v := .int (nI (tn + 1))) (C := RX12) (T := TX12) (N := 11) hx hb hts uV_g1_X12 hown hK hP 0 rfl rfl 1 (by decide) (hts (.fieldLink RX12 73 "ClassMill" "taped" "I") mw_g1_0) (fun _ h9 => h9) rfl dX12_putNumber_34 ?_
  refine lv_iconst (v := 1) hx hb dX12_putNumber_37 (by decide) ?_
  refine lv_iadd hx hb dX12_putNumber_38 ?_
  refine lv_topi (fun y_12 ey_12 => ?_)
  obtain rfl : y_12 = nI (tn + 2) := by rw [ey_12]; exact nI_1 _
  refine va_put (D := (dC, dI)) (ci := 12) (v := .int (nI (tn + 2))) (ty := .int) (C := RX12) (T := TX12) (N := 11) hx hb hts uV_g1_X12 tyX12 tyX12_ok nmX12 hown hK hP hD hS 0 rfl rfl 1 (by decide) (hts (.fieldLink RX12 73 "ClassMill" "taped" "I") mw_g1_0) (fun _ h9 => h9) rfl (by decide +kernel) rfl rfl (Nat.le_of_ble_eq_true rfl) dX12_putNumber_39 ?_
  clear hP hD hS
  intro H locs hP hD hS
  replace hP : va_P (dC, dI) vwCl [(h0, .inr (12, [.ref qo1, .int (nI (tn + 2)), .ref qo2, .ref qo3, .ref qo4, .ref qo5, .ref qo6, .int v7, .ref qo7, .ref qo8, .ref qo9])), (qo1, .inl (co1, 6000, .inl f_11))] H := hP
  replace hD : va_D A [(h0, .inr (12, [.ref qo1, .int (nI (tn + 2)), .ref qo2, .ref qo3, .ref qo4, .ref qo5, .ref qo6, .int v7, .ref qo7, .ref qo8, .ref qo9])), (qo1, .inl (co1, 6000, .inl f_11))] := hD
  refine lv_iinc (v := 8) (lv' := [(2, .int 8), (0, .ref h0), (1, .int a1)]) hx hb dX12_putNumber_42 hl (k := 0) rfl (by decide) (by decide) rfl (fun ls hl => ?_)
  refine lv_goto (tgt := 3) hx hb dX12_putNumber_45 (by decide) ?_
  refine lv_iload_n hx hb dX12_putNumber_3 rfl (lv_at hl 0 rfl) ?_
  refine lv_if_lt (tgt := 48) hx hb dX12_putNumber_4 (by decide) (fun c_13 => (show False by revert c_13; decide).elim) (fun c_13 => ?_)
  refine lv_aload_n hx hb dX12_putNumber_7 rfl (lv_at hl 1 rfl) ?_
  refine va_get (D := (dC, dI)) (ci := 12) (v := .int (nI (tn + 2))) (C := RX12) (T := TX12) (N := 11) hx hb hts uV_g1_X12 hown hK hP 0 rfl rfl 1 (by decide) (hts (.fieldLink RX12 73 "ClassMill" "taped" "I") mw_g1_0) (fun _ h9 => h9) rfl dX12_putNumber_8 ?_
  refine lv_aload_n hx hb dX12_putNumber_11 rfl (lv_at hl 1 rfl) ?_
  refine va_get (D := (dC, dI)) (ci := 12) (v := .ref qo1) (C := RX12) (T := TX12) (N := 11) hx hb hts uV_g1_X12 hown hK hP 0 rfl rfl 0 (by decide) (hts (.fieldLink RX12 9 "ClassMill" "tape" "[B") mw_g1_1) (fun _ h9 => h9) rfl dX12_putNumber_12 ?_
  refine va_alen (v := 6000) hx hb hK hP 1 0 rfl rfl rfl dX12_putNumber_15 ?_
  refine lv_icmp_ge (tgt := 42) hx hb dX12_putNumber_16 (by decide) (fun c_14 => absurd c_14 (tg_nge (by omega))) (fun c_14 => ?_)
  refine lv_aload_n hx hb dX12_putNumber_19 rfl (lv_at hl 1 rfl) ?_
  refine va_get (D := (dC, dI)) (ci := 12) (v := .ref qo1) (C := RX12) (T := TX12) (N := 11) hx hb hts uV_g1_X12 hown hK hP 0 rfl rfl 0 (by decide) (hts (.fieldLink RX12 9 "ClassMill" "tape" "[B") mw_g1_1) (fun _ h9 => h9) rfl dX12_putNumber_20 ?_
  refine lv_aload_n hx hb dX12_putNumber_23 rfl (lv_at hl 1 rfl) ?_
  refine va_get (D := (dC, dI)) (ci := 12) (v := .int (nI (tn + 2))) (C := RX12) (T := TX12) (N := 11) hx hb hts uV_g1_X12 hown hK hP 0 rfl rfl 1 (by decide) (hts (.fieldLink RX12 73 "ClassMill" "taped" "I") mw_g1_0) (fun _ h9 => h9) rfl dX12_putNumber_24 ?_
  refine lv_iload_n hx hb dX12_putNumber_27 rfl (lv_at hl 2 rfl) ?_
  refine lv_iload_n hx hb dX12_putNumber_28 rfl (lv_at hl 0 rfl) ?_
  refine lv_ishr hx hb dX12_putNumber_29 ?_
  refine lv_topi (fun y_15 ey_15 => ?_)
  obtain ⟨y_16, ey_16⟩ : ∃ zy : Int32, (y_15 : Int32).toInt8.toInt32 = zy := ⟨_, rfl⟩
  refine lv_i2b hx hb dX12_putNumber_30 ey_16 ?_
  refine va_bast hx hb hK hP hD hS 1 0 rfl rfl (i := (nI (tn + 2))) (x := y_16) (vp_in_nI (by omega) (by decide)) dX12_putNumber_31 ?_
  clear hP hD hS
  intro H locs hP hD hS
  obtain ⟨f_17, ef_17⟩ : ∃ zf : Nat → Int32, zf = upd f_11 ((nI (tn + 2)) : Int32).toNatClampNeg (vp_nar .byte y_16) := ⟨_, rfl⟩
  rw [← ef_17] at hP hD
  replace hP : va_P (dC, dI) vwCl [(h0, .inr (12, [.ref qo1, .int (nI (tn + 2)), .ref qo2, .ref qo3, .ref qo4, .ref qo5, .ref qo6, .int v7, .ref qo7, .ref qo8, .ref qo9])), (qo1, .inl (co1, 6000, .inl f_17))] H := hP
  replace hD : va_D A [(h0, .inr (12, [.ref qo1, .int (nI (tn + 2)), .ref qo2, .ref qo3, .ref qo4, .ref qo5, .ref qo6, .int v7, .ref qo7, .ref qo8, .ref qo9])), (qo1, .inl (co1, 6000, .inl f_17))] := hD
  refine lv_aload_n hx hb dX12_putNumber_32 rfl (lv_at hl 1 rfl) ?_
  refine lv_dup hx hb dX12_putNumber_33 rfl ?_
  refine va_get (D := (dC, dI)) (ci := 12) (v := .int (nI (tn + 2))) (C := RX12) (T := TX12) (N := 11) hx hb hts uV_g1_X12 hown hK hP 0 rfl rfl 1 (by decide) (hts (.fieldLink RX12 73 "ClassMill" "taped" "I") mw_g1_0) (fun _ h9 => h9) rfl dX12_putNumber_34 ?_
  refine lv_iconst (v := 1) hx hb dX12_putNumber_37 (by decide) ?_
  refine lv_iadd hx hb dX12_putNumber_38 ?_
  refine lv_topi (fun y_18 ey_18 => ?_)
  obtain rfl : y_18 = nI (tn + 3) := by rw [ey_18]; exact nI_1 _
  refine va_put (D := (dC, dI)) (ci := 12) (v := .int (nI (tn + 3))) (ty := .int) (C := RX12) (T := TX12) (N := 11) hx hb hts uV_g1_X12 tyX12 tyX12_ok nmX12 hown hK hP hD hS 0 rfl rfl 1 (by decide) (hts (.fieldLink RX12 73 "ClassMill" "taped" "I") mw_g1_0) (fun _ h9 => h9) rfl (by decide +kernel) rfl rfl (Nat.le_of_ble_eq_true rfl) dX12_putNumber_39 ?_
  clear hP hD hS
  intro H locs hP hD hS
  replace hP : va_P (dC, dI) vwCl [(h0, .inr (12, [.ref qo1, .int (nI (tn + 3)), .ref qo2, .ref qo3, .ref qo4, .ref qo5, .ref qo6, .int v7, .ref qo7, .ref qo8, .ref qo9])), (qo1, .inl (co1, 6000, .inl f_17))] H := hP
  replace hD : va_D A [(h0, .inr (12, [.ref qo1, .int (nI (tn + 3)), .ref qo2, .ref qo3, .ref qo4, .ref qo5, .ref qo6, .int v7, .ref qo7, .ref qo8, .ref qo9])), (qo1, .inl (co1, 6000, .inl f_17))] := hD
  refine lv_iinc (v := 0) (lv' := [(2, .int 0), (0, .ref h0), (1, .int a1)]) hx hb dX12_putNumber_42 hl (k := 0) rfl (by decide) (by decide) rfl (fun ls hl => ?_)
  refine lv_goto (tgt := 3) hx hb dX12_putNumber_45 (by decide) ?_
  refine lv_iload_n hx hb dX12_putNumber_3 rfl (lv_at hl 0 rfl) ?_
  refine lv_if_lt (tgt := 48) hx hb dX12_putNumber_4 (by decide) (fun c_19 => (show False by revert c_19; decide).elim) (fun c_19 => ?_)
  refine lv_aload_n hx hb dX12_putNumber_7 rfl (lv_at hl 1 rfl) ?_
  refine va_get (D := (dC, dI)) (ci := 12) (v := .int (nI (tn + 3))) (C := RX12) (T := TX12) (N := 11) hx hb hts uV_g1_X12 hown hK hP 0 rfl rfl 1 (by decide) (hts (.fieldLink RX12 73 "ClassMill" "taped" "I") mw_g1_0) (fun _ h9 => h9) rfl dX12_putNumber_8 ?_
  refine lv_aload_n hx hb dX12_putNumber_11 rfl (lv_at hl 1 rfl) ?_
  refine va_get (D := (dC, dI)) (ci := 12) (v := .ref qo1) (C := RX12) (T := TX12) (N := 11) hx hb hts uV_g1_X12 hown hK hP 0 rfl rfl 0 (by decide) (hts (.fieldLink RX12 9 "ClassMill" "tape" "[B") mw_g1_1) (fun _ h9 => h9) rfl dX12_putNumber_12 ?_
  refine va_alen (v := 6000) hx hb hK hP 1 0 rfl rfl rfl dX12_putNumber_15 ?_
  refine lv_icmp_ge (tgt := 42) hx hb dX12_putNumber_16 (by decide) (fun c_20 => absurd c_20 (tg_nge (by omega))) (fun c_20 => ?_)
  refine lv_aload_n hx hb dX12_putNumber_19 rfl (lv_at hl 1 rfl) ?_
  refine va_get (D := (dC, dI)) (ci := 12) (v := .ref qo1) (C := RX12) (T := TX12) (N := 11) hx hb hts uV_g1_X12 hown hK hP 0 rfl rfl 0 (by decide) (hts (.fieldLink RX12 9 "ClassMill" "tape" "[B") mw_g1_1) (fun _ h9 => h9) rfl dX12_putNumber_20 ?_
  refine lv_aload_n hx hb dX12_putNumber_23 rfl (lv_at hl 1 rfl) ?_
  refine va_get (D := (dC, dI)) (ci := 12) (v := .int (nI (tn + 3))) (C := RX12) (T := TX12) (N := 11) hx hb hts uV_g1_X12 hown hK hP 0 rfl rfl 1 (by decide) (hts (.fieldLink RX12 73 "ClassMill" "taped" "I") mw_g1_0) (fun _ h9 => h9) rfl dX12_putNumber_24 ?_
  refine lv_iload_n hx hb dX12_putNumber_27 rfl (lv_at hl 2 rfl) ?_
  refine lv_iload_n hx hb dX12_putNumber_28 rfl (lv_at hl 0 rfl) ?_
  refine lv_ishr hx hb dX12_putNumber_29 ?_
  refine lv_topi (fun y_21 ey_21 => ?_)
  obtain ⟨y_22, ey_22⟩ : ∃ zy : Int32, (y_21 : Int32).toInt8.toInt32 = zy := ⟨_, rfl⟩
  refine lv_i2b hx hb dX12_putNumber_30 ey_22 ?_
  refine va_bast hx hb hK hP hD hS 1 0 rfl rfl (i := (nI (tn + 3))) (x := y_22) (vp_in_nI (by omega) (by decide)) dX12_putNumber_31 ?_
  clear hP hD hS
  intro H locs hP hD hS
  obtain ⟨f_23, ef_23⟩ : ∃ zf : Nat → Int32, zf = upd f_17 ((nI (tn + 3)) : Int32).toNatClampNeg (vp_nar .byte y_22) := ⟨_, rfl⟩
  rw [← ef_23] at hP hD
  replace hP : va_P (dC, dI) vwCl [(h0, .inr (12, [.ref qo1, .int (nI (tn + 3)), .ref qo2, .ref qo3, .ref qo4, .ref qo5, .ref qo6, .int v7, .ref qo7, .ref qo8, .ref qo9])), (qo1, .inl (co1, 6000, .inl f_23))] H := hP
  replace hD : va_D A [(h0, .inr (12, [.ref qo1, .int (nI (tn + 3)), .ref qo2, .ref qo3, .ref qo4, .ref qo5, .ref qo6, .int v7, .ref qo7, .ref qo8, .ref qo9])), (qo1, .inl (co1, 6000, .inl f_23))] := hD
  refine lv_aload_n hx hb dX12_putNumber_32 rfl (lv_at hl 1 rfl) ?_
  refine lv_dup hx hb dX12_putNumber_33 rfl ?_
  refine va_get (D := (dC, dI)) (ci := 12) (v := .int (nI (tn + 3))) (C := RX12) (T := TX12) (N := 11) hx hb hts uV_g1_X12 hown hK hP 0 rfl rfl 1 (by decide) (hts (.fieldLink RX12 73 "ClassMill" "taped" "I") mw_g1_0) (fun _ h9 => h9) rfl dX12_putNumber_34 ?_
  refine lv_iconst (v := 1) hx hb dX12_putNumber_37 (by decide) ?_
  refine lv_iadd hx hb dX12_putNumber_38 ?_
  refine lv_topi (fun y_24 ey_24 => ?_)
  obtain rfl : y_24 = nI (tn + 4) := by rw [ey_24]; exact nI_1 _
  refine va_put (D := (dC, dI)) (ci := 12) (v := .int (nI (tn + 4))) (ty := .int) (C := RX12) (T := TX12) (N := 11) hx hb hts uV_g1_X12 tyX12 tyX12_ok nmX12 hown hK hP hD hS 0 rfl rfl 1 (by decide) (hts (.fieldLink RX12 73 "ClassMill" "taped" "I") mw_g1_0) (fun _ h9 => h9) rfl (by decide +kernel) rfl rfl (Nat.le_of_ble_eq_true rfl) dX12_putNumber_39 ?_
  clear hP hD hS
  intro H locs hP hD hS
  replace hP : va_P (dC, dI) vwCl [(h0, .inr (12, [.ref qo1, .int (nI (tn + 4)), .ref qo2, .ref qo3, .ref qo4, .ref qo5, .ref qo6, .int v7, .ref qo7, .ref qo8, .ref qo9])), (qo1, .inl (co1, 6000, .inl f_23))] H := hP
  replace hD : va_D A [(h0, .inr (12, [.ref qo1, .int (nI (tn + 4)), .ref qo2, .ref qo3, .ref qo4, .ref qo5, .ref qo6, .int v7, .ref qo7, .ref qo8, .ref qo9])), (qo1, .inl (co1, 6000, .inl f_23))] := hD
  refine lv_iinc (v := (-8)) (lv' := [(2, .int (-8)), (0, .ref h0), (1, .int a1)]) hx hb dX12_putNumber_42 hl (k := 0) rfl (by decide) (by decide) rfl (fun ls hl => ?_)
  refine lv_goto (tgt := 3) hx hb dX12_putNumber_45 (by decide) ?_
  refine lv_iload_n hx hb dX12_putNumber_3 rfl (lv_at hl 0 rfl) ?_
  refine lv_if_lt (tgt := 48) hx hb dX12_putNumber_4 (by decide) (fun c_25 => ?_) (fun c_25 => (show False by revert c_25; decide).elim)
  have hP9 := hP.sub (ws' := [(h0, .inr (12, [.ref qo1, .int (nI (tn + 4)), .ref qo2, .ref qo3, .ref qo4, .ref qo5, .ref qo6, .int v7, .ref qo7, .ref qo8, .ref qo9])), (qo1, .inl (co1, 6000, .inl f_23))]) [0, 1] rfl
  have hD9 := hD.sub (ws' := [(h0, .inr (12, [.ref qo1, .int (nI (tn + 4)), .ref qo2, .ref qo3, .ref qo4, .ref qo5, .ref qo6, .int v7, .ref qo7, .ref qo8, .ref qo9])), (qo1, .inl (co1, 6000, .inl f_23))]) [0, 1] (by decide) rfl
  have hK9 := hK.sub (tys' := [(co1, .byte)]) [0] rfl
  exact W.vret hx hb hr (fun t ht hW => ⟨⟨(f_23), rfl, by rw [ef_23, ef_17, ef_11, ef_5, ← ey_22, ey_21, ← ey_16, ey_15, ← ey_10, ey_9, ← ey_4, ey_3]; rw [nI_clamp (show tn < 2 ^ 31 by omega), nI_clamp (show tn + 1 < 2 ^ 31 by omega), nI_clamp (show tn + 2 < 2 ^ 31 by omega), nI_clamp (show tn + 3 < 2 ^ 31 by omega)]; rfl, by rw [ht]; exact hP9, va_K.moved hW.alike hK9, hD9⟩, hS.F ht⟩) hS.2.2 dX12_putNumber_48
set_option maxHeartbeats 4000000 in
set_option maxRecDepth 100000 in
/-- feed -/
theorem kg_feed (l : Launch) (dC : Nat → ClassId) (dI : Nat → Nat → Nat) (sz : Nat) (h0 : Nat) (a1 : Int32) (a2 : Int32) (a3 : Int32) (a4 : Int32) (a5 : Int32) (qo1 : Nat) (tn : Nat) (qo2 : Nat) (qo3 : Nat) (qo4 : Nat) (qo5 : Nat) (qo6 : Nat) (v7 : Int32) (qo7 : Nat) (qo8 : Nat) (qo9 : Nat) (co1 : ClassId) (ff : (Nat → Int32)) (hbt : tn ≤ 6000) : Met l yX12_feed (.code yX12_feed cX12_feed 6 (some .int) :: VS_g1) ({ frames := 1, cells := 0, slots := 0, locals := 22 }) (va_Pc [.ref h0, .int a1, .int a2, .int a3, .int a4, .int a5] (fun U => U.heap.size = sz ∧ va_P (dC, dI) vwCl [(h0, .inr (12, [.ref qo1, .int (nI tn), .ref qo2, .ref qo3, .ref qo4, .ref qo5, .ref qo6, .int v7, .ref qo7, .ref qo8, .ref qo9])), (qo1, .inl (co1, 6000, .inl ff))] U.heap ∧ va_K (dC, dI) vwCl [(co1, .byte)] U ∧ va_D (fun _ => True) [(h0, .inr (12, [.ref qo1, .int (nI tn), .ref qo2, .ref qo3, .ref qo4, .ref qo5, .ref qo6, .int v7, .ref qo7, .ref qo8, .ref qo9])), (qo1, .inl (co1, 6000, .inl ff))])) (va_Qi (fun (r : Int32) (u : Nat × (Nat → Int32)) => match u with | (ko1, fo1) => r = tg_feed tn ∧ ko1 = tg_taped tn ∧ fo1 = tk_feed ff tn a1 a2 a3 a4 a5) (fun (u : Nat × (Nat → Int32)) (t : State) => match u with | (ko1, fo1) => va_P (dC, dI) vwCl [(h0, .inr (12, [.ref qo1, .int (nI ko1), .ref qo2, .ref qo3, .ref qo4, .ref qo5, .ref qo6, .int v7, .ref qo7, .ref qo8, .ref qo9])), (qo1, .inl (co1, 6000, .inl fo1))] t.heap ∧ va_K (dC, dI) vwCl [(co1, .byte)] t ∧ va_D (va_A [(h0, .inr (12, [.ref qo1, .int (nI tn), .ref qo2, .ref qo3, .ref qo4, .ref qo5, .ref qo6, .int v7, .ref qo7, .ref qo8, .ref qo9])), (qo1, .inl (co1, 6000, .inl ff))] sz) [(h0, .inr (12, [.ref qo1, .int (nI ko1), .ref qo2, .ref qo3, .ref qo4, .ref qo5, .ref qo6, .int v7, .ref qo7, .ref qo8, .ref qo9])), (qo1, .inl (co1, 6000, .inl fo1))]) (va_A [(h0, .inr (12, [.ref qo1, .int (nI tn), .ref qo2, .ref qo3, .ref qo4, .ref qo5, .ref qo6, .int v7, .ref qo7, .ref qo8, .ref qo9])), (qo1, .inl (co1, 6000, .inl ff))] sz)) 0 0 (va_A [(h0, .inr (12, [.ref qo1, .int (nI tn), .ref qo2, .ref qo3, .ref qo4, .ref qo5, .ref qo6, .int v7, .ref qo7, .ref qo8, .ref qo9])), (qo1, .inl (co1, 6000, .inl ff))] sz) := by
  refine Met.ofW (cc := cX12_feed) (maxL := 6) (ret := (some .int)) (by decide) rfl ?_
  intro p e s m args below meth c s₁ B hml hv
  obtain ⟨rfl, hsz, hP, hK, hD0⟩ := hv
  have hx := B.exec
  have hb := B.bytes
  have hr := B.returns
  have hts := atoms_spec (ws := (.code yX12_feed cX12_feed 6 (some .int) :: VS_g1)) B.pre
  replace hts := fun w (h : w ∈ VS_g1) => hts w (List.mem_cons_of_mem _ h)
  have hown : s.vm.findClass RX12 = some m.cls := findClass_of_methodNamed B.named
  have hlocks := B.notSynchronized
  subst hsz
  have hD := hD0.self (sz := s.heap.size)
  generalize hAe : va_A [(h0, .inr (12, [.ref qo1, .int (nI tn), .ref qo2, .ref qo3, .ref qo4, .ref qo5, .ref qo6, .int v7, .ref qo7, .ref qo8, .ref qo9])), (qo1, .inl (co1, 6000, .inl ff))] s.heap.size = A at hD  ⊢
  have hA : ∀ q : Nat, s.heap.size ≤ q → A q := fun q h => by rw [← hAe]; exact Or.inr h
  have hP : va_P (dC, dI) vwCl [(h0, .inr (12, [.ref qo1, .int (nI tn), .ref qo2, .ref qo3, .ref qo4, .ref qo5, .ref qo6, .int v7, .ref qo7, .ref qo8, .ref qo9])), (qo1, .inl (co1, 6000, .inl ff))] s.heap := hP
  have hl := lv_entry ([.ref h0, .int a1, .int a2, .int a3, .int a4, .int a5]) (n := 6) (Nat.le_of_ble_eq_true rfl)
  rw [lg_entry_eq]
  generalize (lg_sl ([.ref h0, .int a1, .int a2, .int a3, .int a4, .int a5]) ++ List.replicate (6 - (lg_sl ([.ref h0, .int a1, .int a2, .int a3, .int a4, .int a5])).length) Slot.unset).toArray = ls at hl ⊢
  have hl : lv_has ls 6 [(0, .ref h0), (1, .int a1), (2, .int a2), (3, .int a3), (4, .int a4), (5, .int a5)] := hl
  obtain ⟨H, hH⟩ : ∃ H : Heap, s.heap = H := ⟨_, rfl⟩
  rw [hH] at hP ⊢
  have hS : va_S A s.heap H [] := by rw [← hH]; exact va_S.rf
  obtain ⟨locs, hlo⟩ : ∃ locs : List Loc, locs = [] := ⟨_, rfl⟩
  rw [← hlo] at hS ⊢
  refine lv_aload_n hx hb dX12_feed_0 rfl (lv_at hl 0 rfl) ?_
  refine va_get (D := (dC, dI)) (ci := 12) (v := .int (nI tn)) (C := RX12) (T := TX12) (N := 11) hx hb hts uV_g1_X12 hown hK hP 0 rfl rfl 1 (by decide) (hts (.fieldLink RX12 73 "ClassMill" "taped" "I") mw_g1_0) (fun _ h9 => h9) rfl dX12_feed_1 ?_
  refine lv_bipush (v := 20) hx hb dX12_feed_4 (by decide) ?_
  refine lv_iadd hx hb dX12_feed_6 ?_
  refine lv_topi (fun y_1 ey_1 => ?_)
  refine lv_sipush (v := 6000) hx hb dX12_feed_7 (by decide) ?_
  obtain rfl : y_1 = nI (tn + 20) := by rw [ey_1]; exact nI_add tn 20
  by_cases h20 : tn + 20 ≤ 6000
  · refine lv_icmp_le (tgt := 15) hx hb dX12_feed_10 (by decide) (fun _ => ?_) (fun c_9 => absurd (tg_le h20) c_9)
    refine lv_aload_n hx hb dX12_feed_15 rfl (lv_at hl 0 rfl) ?_
    refine lv_iload_n hx hb dX12_feed_16 rfl (lv_at hl 1 rfl) ?_
    have hPc := hP.sub (ws' := [(h0, .inr (12, [.ref qo1, .int (nI tn), .ref qo2, .ref qo3, .ref qo4, .ref qo5, .ref qo6, .int v7, .ref qo7, .ref qo8, .ref qo9])), (qo1, .inl (co1, 6000, .inl ff))]) [0, 1] rfl
    have hDc := hD.sub (ws' := [(h0, .inr (12, [.ref qo1, .int (nI tn), .ref qo2, .ref qo3, .ref qo4, .ref qo5, .ref qo6, .int v7, .ref qo7, .ref qo8, .ref qo9])), (qo1, .inl (co1, 6000, .inl ff))]) [0, 1] (by decide) rfl
    have hKc := hK.sub (tys' := [(co1, .byte)]) [0] rfl
    have hFc := va_free (wc := [(h0, .inr (12, [.ref qo1, .int (nI tn), .ref qo2, .ref qo3, .ref qo4, .ref qo5, .ref qo6, .int v7, .ref qo7, .ref qo8, .ref qo9])), (qo1, .inl (co1, 6000, .inl ff))]) hD hS hA [0, 1] rfl
    refine va_callv (va_runV (As := [.int a1]) (rest := []) ⟨hx, hb, hml, hown, hts⟩ (kg_put l dC dI H.size h0 a1 qo1 tn qo2 qo3 qo4 qo5 qo6 v7 qo7 qo8 qo9 co1 ff (by omega)) (cwV 1 hts gv_g1_0 rfl rfl rfl (by decide +kernel) ⟨Nat.le_of_ble_eq_true rfl, Nat.le_of_ble_eq_true rfl⟩) ⟨fun a U g mk q => by obtain ⟨q0, q1, qP, qK, qD⟩ := q; exact ⟨q0, q1, qP, va_K.moved (u := U) (U := U.calling g mk a) (Vm.Alike.refl U.vm) qK, qD⟩, va_recv hKc hPc (ci := 12) (q0 := 0) rfl rfl, fun U hU hW => ⟨rfl, by rw [hU], by rw [hU]; exact hPc, va_K.moved hW.alike hKc, hDc.weaken (fun _ _ _ _ => trivial)⟩⟩ rfl rfl hl.1 rfl (lv_room (Nat.le_of_ble_eq_true rfl)) dX12_feed_17 ⟨Nat.le_of_ble_eq_true rfl, Nat.le_of_ble_eq_true rfl⟩) hS (fun q _ h => hFc q h) hFc ?_
    clear hS
    intro u t H1 locs ht hvm hw hB hz1 hk1 hS
    obtain ⟨f_2, rfl⟩ : ∃ z, z = u := ⟨_, rfl⟩
    obtain ⟨hP1, hK1, hD1⟩ := hB
    rw [ht] at hP1
    have hK1 := va_K.moved hvm.symm hK1
    try dsimp only at hw
    have hPD := va_join (wr := []) (w1 := [(h0, .inr (12, [.ref qo1, .int (nI (tn + 4)), .ref qo2, .ref qo3, .ref qo4, .ref qo5, .ref qo6, .int v7, .ref qo7, .ref qo8, .ref qo9])), (qo1, .inl (co1, 6000, .inl f_2))]) hP hD [0, 1] [] rfl rfl (by decide) (by decide) hk1 hFc hP1 hD1
    clear hP hD
    obtain ⟨hP, hD⟩ := hPD
    replace hK := (hK.sub (tys' := []) [] rfl).app hK1
    clear hPc hDc hKc hFc hP1 hK1 hD1 hz1 hk1 ht hvm
    generalize H1 = H at hP hS ⊢
    replace hP : va_P (dC, dI) vwCl [(h0, .inr (12, [.ref qo1, .int (nI (tn + 4)), .ref qo2, .ref qo3, .ref qo4, .ref qo5, .ref qo6, .int v7, .ref qo7, .ref qo8, .ref qo9])), (qo1, .inl (co1, 6000, .inl f_2))] H := hP
    replace hD : va_D A [(h0, .inr (12, [.ref qo1, .int (nI (tn + 4)), .ref qo2, .ref qo3, .ref qo4, .ref qo5, .ref qo6, .int v7, .ref qo7, .ref qo8, .ref qo9])), (qo1, .inl (co1, 6000, .inl f_2))] := hD
    replace hK : va_K (dC, dI) vwCl [(co1, .byte)] s := hK
    have hq0 := hw
    refine lv_aload_n hx hb dX12_feed_20 rfl (lv_at hl 0 rfl) ?_
    refine lv_iload_n hx hb dX12_feed_21 rfl (lv_at hl 2 rfl) ?_
    have hPc := hP.sub (ws' := [(h0, .inr (12, [.ref qo1, .int (nI (tn + 4)), .ref qo2, .ref qo3, .ref qo4, .ref qo5, .ref qo6, .int v7, .ref qo7, .ref qo8, .ref qo9])), (qo1, .inl (co1, 6000, .inl f_2))]) [0, 1] rfl
    have hDc := hD.sub (ws' := [(h0, .inr (12, [.ref qo1, .int (nI (tn + 4)), .ref qo2, .ref qo3, .ref qo4, .ref qo5, .ref qo6, .int v7, .ref qo7, .ref qo8, .ref qo9])), (qo1, .inl (co1, 6000, .inl f_2))]) [0, 1] (by decide) rfl
    have hKc := hK.sub (tys' := [(co1, .byte)]) [0] rfl
    have hFc := va_free (wc := [(h0, .inr (12, [.ref qo1, .int (nI (tn + 4)), .ref qo2, .ref qo3, .ref qo4, .ref qo5, .ref qo6, .int v7, .ref qo7, .ref qo8, .ref qo9])), (qo1, .inl (co1, 6000, .inl f_2))]) hD hS hA [0, 1] rfl
    refine va_callv (va_runV (As := [.int a2]) (rest := []) ⟨hx, hb, hml, hown, hts⟩ (kg_put l dC dI H.size h0 a2 qo1 ((tn + 4)) qo2 qo3 qo4 qo5 qo6 v7 qo7 qo8 qo9 co1 f_2 (by omega)) (cwV 1 hts gv_g1_0 rfl rfl rfl (by decide +kernel) ⟨Nat.le_of_ble_eq_true rfl, Nat.le_of_ble_eq_true rfl⟩) ⟨fun a U g mk q => by obtain ⟨q0, q1, qP, qK, qD⟩ := q; exact ⟨q0, q1, qP, va_K.moved (u := U) (U := U.calling g mk a) (Vm.Alike.refl U.vm) qK, qD⟩, va_recv hKc hPc (ci := 12) (q0 := 0) rfl rfl, fun U hU hW => ⟨rfl, by rw [hU], by rw [hU]; exact hPc, va_K.moved hW.alike hKc, hDc.weaken (fun _ _ _ _ => trivial)⟩⟩ rfl rfl hl.1 rfl (lv_room (Nat.le_of_ble_eq_true rfl)) dX12_feed_22 ⟨Nat.le_of_ble_eq_true rfl, Nat.le_of_ble_eq_true rfl⟩) hS (fun q _ h => hFc q h) hFc ?_
    clear hS
    intro u t H1 locs ht hvm hw hB hz1 hk1 hS
    obtain ⟨f_3, rfl⟩ : ∃ z, z = u := ⟨_, rfl⟩
    obtain ⟨hP1, hK1, hD1⟩ := hB
    rw [ht] at hP1
    have hK1 := va_K.moved hvm.symm hK1
    try dsimp only at hw
    have hPD := va_join (wr := []) (w1 := [(h0, .inr (12, [.ref qo1, .int (nI ((tn + 4) + 4)), .ref qo2, .ref qo3, .ref qo4, .ref qo5, .ref qo6, .int v7, .ref qo7, .ref qo8, .ref qo9])), (qo1, .inl (co1, 6000, .inl f_3))]) hP hD [0, 1] [] rfl rfl (by decide) (by decide) hk1 hFc hP1 hD1
    clear hP hD
    obtain ⟨hP, hD⟩ := hPD
    replace hK := (hK.sub (tys' := []) [] rfl).app hK1
    clear hPc hDc hKc hFc hP1 hK1 hD1 hz1 hk1 ht hvm
    generalize H1 = H at hP hS ⊢
    replace hP : va_P (dC, dI) vwCl [(h0, .inr (12, [.ref qo1, .int (nI ((tn + 4) + 4)), .ref qo2, .ref qo3, .ref qo4, .ref qo5, .ref qo6, .int v7, .ref qo7, .ref qo8, .ref qo9])), (qo1, .inl (co1, 6000, .inl f_3))] H := hP
    replace hD : va_D A [(h0, .inr (12, [.ref qo1, .int (nI ((tn + 4) + 4)), .ref qo2, .ref qo3, .ref qo4, .ref qo5, .ref qo6, .int v7, .ref qo7, .ref qo8, .ref qo9])), (qo1, .inl (co1, 6000, .inl f_3))] := hD
    replace hK : va_K (dC, dI) vwCl [(co1, .byte)] s := hK
    have hq1 := hw
    refine lv_aload_n hx hb dX12_feed_25 rfl (lv_at hl 0 rfl) ?_
    refine lv_iload_n hx hb dX12_feed_26 rfl (lv_at hl 3 rfl) ?_
    have hPc := hP.sub (ws' := [(h0, .inr (12, [.ref qo1, .int (nI ((tn + 4) + 4)), .ref qo2, .ref qo3, .ref qo4, .ref qo5, .ref qo6, .int v7, .ref qo7, .ref qo8, .ref qo9])), (qo1, .inl (co1, 6000, .inl f_3))]) [0, 1] rfl
    have hDc := hD.sub (ws' := [(h0, .inr (12, [.ref qo1, .int (nI ((tn + 4) + 4)), .ref qo2, .ref qo3, .ref qo4, .ref qo5, .ref qo6, .int v7, .ref qo7, .ref qo8, .ref qo9])), (qo1, .inl (co1, 6000, .inl f_3))]) [0, 1] (by decide) rfl
    have hKc := hK.sub (tys' := [(co1, .byte)]) [0] rfl
    have hFc := va_free (wc := [(h0, .inr (12, [.ref qo1, .int (nI ((tn + 4) + 4)), .ref qo2, .ref qo3, .ref qo4, .ref qo5, .ref qo6, .int v7, .ref qo7, .ref qo8, .ref qo9])), (qo1, .inl (co1, 6000, .inl f_3))]) hD hS hA [0, 1] rfl
    refine va_callv (va_runV (As := [.int a3]) (rest := []) ⟨hx, hb, hml, hown, hts⟩ (kg_put l dC dI H.size h0 a3 qo1 (((tn + 4) + 4)) qo2 qo3 qo4 qo5 qo6 v7 qo7 qo8 qo9 co1 f_3 (by omega)) (cwV 1 hts gv_g1_0 rfl rfl rfl (by decide +kernel) ⟨Nat.le_of_ble_eq_true rfl, Nat.le_of_ble_eq_true rfl⟩) ⟨fun a U g mk q => by obtain ⟨q0, q1, qP, qK, qD⟩ := q; exact ⟨q0, q1, qP, va_K.moved (u := U) (U := U.calling g mk a) (Vm.Alike.refl U.vm) qK, qD⟩, va_recv hKc hPc (ci := 12) (q0 := 0) rfl rfl, fun U hU hW => ⟨rfl, by rw [hU], by rw [hU]; exact hPc, va_K.moved hW.alike hKc, hDc.weaken (fun _ _ _ _ => trivial)⟩⟩ rfl rfl hl.1 rfl (lv_room (Nat.le_of_ble_eq_true rfl)) dX12_feed_27 ⟨Nat.le_of_ble_eq_true rfl, Nat.le_of_ble_eq_true rfl⟩) hS (fun q _ h => hFc q h) hFc ?_
    clear hS
    intro u t H1 locs ht hvm hw hB hz1 hk1 hS
    obtain ⟨f_4, rfl⟩ : ∃ z, z = u := ⟨_, rfl⟩
    obtain ⟨hP1, hK1, hD1⟩ := hB
    rw [ht] at hP1
    have hK1 := va_K.moved hvm.symm hK1
    try dsimp only at hw
    have hPD := va_join (wr := []) (w1 := [(h0, .inr (12, [.ref qo1, .int (nI (((tn + 4) + 4) + 4)), .ref qo2, .ref qo3, .ref qo4, .ref qo5, .ref qo6, .int v7, .ref qo7, .ref qo8, .ref qo9])), (qo1, .inl (co1, 6000, .inl f_4))]) hP hD [0, 1] [] rfl rfl (by decide) (by decide) hk1 hFc hP1 hD1
    clear hP hD
    obtain ⟨hP, hD⟩ := hPD
    replace hK := (hK.sub (tys' := []) [] rfl).app hK1
    clear hPc hDc hKc hFc hP1 hK1 hD1 hz1 hk1 ht hvm
    generalize H1 = H at hP hS ⊢
    replace hP : va_P (dC, dI) vwCl [(h0, .inr (12, [.ref qo1, .int (nI (((tn + 4) + 4) + 4)), .ref qo2, .ref qo3, .ref qo4, .ref qo5, .ref qo6, .int v7, .ref qo7, .ref qo8, .ref qo9])), (qo1, .inl (co1, 6000, .inl f_4))] H := hP
    replace hD : va_D A [(h0, .inr (12, [.ref qo1, .int (nI (((tn + 4) + 4) + 4)), .ref qo2, .ref qo3, .ref qo4, .ref qo5, .ref qo6, .int v7, .ref qo7, .ref qo8, .ref qo9])), (qo1, .inl (co1, 6000, .inl f_4))] := hD
    replace hK : va_K (dC, dI) vwCl [(co1, .byte)] s := hK
    have hq2 := hw
    refine lv_aload_n hx hb dX12_feed_30 rfl (lv_at hl 0 rfl) ?_
    refine lv_iload hx hb dX12_feed_31 (lv_at hl 4 rfl) ?_
    have hPc := hP.sub (ws' := [(h0, .inr (12, [.ref qo1, .int (nI (((tn + 4) + 4) + 4)), .ref qo2, .ref qo3, .ref qo4, .ref qo5, .ref qo6, .int v7, .ref qo7, .ref qo8, .ref qo9])), (qo1, .inl (co1, 6000, .inl f_4))]) [0, 1] rfl
    have hDc := hD.sub (ws' := [(h0, .inr (12, [.ref qo1, .int (nI (((tn + 4) + 4) + 4)), .ref qo2, .ref qo3, .ref qo4, .ref qo5, .ref qo6, .int v7, .ref qo7, .ref qo8, .ref qo9])), (qo1, .inl (co1, 6000, .inl f_4))]) [0, 1] (by decide) rfl
    have hKc := hK.sub (tys' := [(co1, .byte)]) [0] rfl
    have hFc := va_free (wc := [(h0, .inr (12, [.ref qo1, .int (nI (((tn + 4) + 4) + 4)), .ref qo2, .ref qo3, .ref qo4, .ref qo5, .ref qo6, .int v7, .ref qo7, .ref qo8, .ref qo9])), (qo1, .inl (co1, 6000, .inl f_4))]) hD hS hA [0, 1] rfl
    refine va_callv (va_runV (As := [.int a4]) (rest := []) ⟨hx, hb, hml, hown, hts⟩ (kg_put l dC dI H.size h0 a4 qo1 ((((tn + 4) + 4) + 4)) qo2 qo3 qo4 qo5 qo6 v7 qo7 qo8 qo9 co1 f_4 (by omega)) (cwV 1 hts gv_g1_0 rfl rfl rfl (by decide +kernel) ⟨Nat.le_of_ble_eq_true rfl, Nat.le_of_ble_eq_true rfl⟩) ⟨fun a U g mk q => by obtain ⟨q0, q1, qP, qK, qD⟩ := q; exact ⟨q0, q1, qP, va_K.moved (u := U) (U := U.calling g mk a) (Vm.Alike.refl U.vm) qK, qD⟩, va_recv hKc hPc (ci := 12) (q0 := 0) rfl rfl, fun U hU hW => ⟨rfl, by rw [hU], by rw [hU]; exact hPc, va_K.moved hW.alike hKc, hDc.weaken (fun _ _ _ _ => trivial)⟩⟩ rfl rfl hl.1 rfl (lv_room (Nat.le_of_ble_eq_true rfl)) dX12_feed_33 ⟨Nat.le_of_ble_eq_true rfl, Nat.le_of_ble_eq_true rfl⟩) hS (fun q _ h => hFc q h) hFc ?_
    clear hS
    intro u t H1 locs ht hvm hw hB hz1 hk1 hS
    obtain ⟨f_5, rfl⟩ : ∃ z, z = u := ⟨_, rfl⟩
    obtain ⟨hP1, hK1, hD1⟩ := hB
    rw [ht] at hP1
    have hK1 := va_K.moved hvm.symm hK1
    try dsimp only at hw
    have hPD := va_join (wr := []) (w1 := [(h0, .inr (12, [.ref qo1, .int (nI ((((tn + 4) + 4) + 4) + 4)), .ref qo2, .ref qo3, .ref qo4, .ref qo5, .ref qo6, .int v7, .ref qo7, .ref qo8, .ref qo9])), (qo1, .inl (co1, 6000, .inl f_5))]) hP hD [0, 1] [] rfl rfl (by decide) (by decide) hk1 hFc hP1 hD1
    clear hP hD
    obtain ⟨hP, hD⟩ := hPD
    replace hK := (hK.sub (tys' := []) [] rfl).app hK1
    clear hPc hDc hKc hFc hP1 hK1 hD1 hz1 hk1 ht hvm
    generalize H1 = H at hP hS ⊢
    replace hP : va_P (dC, dI) vwCl [(h0, .inr (12, [.ref qo1, .int (nI ((((tn + 4) + 4) + 4) + 4)), .ref qo2, .ref qo3, .ref qo4, .ref qo5, .ref qo6, .int v7, .ref qo7, .ref qo8, .ref qo9])), (qo1, .inl (co1, 6000, .inl f_5))] H := hP
    replace hD : va_D A [(h0, .inr (12, [.ref qo1, .int (nI ((((tn + 4) + 4) + 4) + 4)), .ref qo2, .ref qo3, .ref qo4, .ref qo5, .ref qo6, .int v7, .ref qo7, .ref qo8, .ref qo9])), (qo1, .inl (co1, 6000, .inl f_5))] := hD
    replace hK : va_K (dC, dI) vwCl [(co1, .byte)] s := hK
    have hq3 := hw
    refine lv_aload_n hx hb dX12_feed_36 rfl (lv_at hl 0 rfl) ?_
    refine lv_iload hx hb dX12_feed_37 (lv_at hl 5 rfl) ?_
    have hPc := hP.sub (ws' := [(h0, .inr (12, [.ref qo1, .int (nI ((((tn + 4) + 4) + 4) + 4)), .ref qo2, .ref qo3, .ref qo4, .ref qo5, .ref qo6, .int v7, .ref qo7, .ref qo8, .ref qo9])), (qo1, .inl (co1, 6000, .inl f_5))]) [0, 1] rfl
    have hDc := hD.sub (ws' := [(h0, .inr (12, [.ref qo1, .int (nI ((((tn + 4) + 4) + 4) + 4)), .ref qo2, .ref qo3, .ref qo4, .ref qo5, .ref qo6, .int v7, .ref qo7, .ref qo8, .ref qo9])), (qo1, .inl (co1, 6000, .inl f_5))]) [0, 1] (by decide) rfl
    have hKc := hK.sub (tys' := [(co1, .byte)]) [0] rfl
    have hFc := va_free (wc := [(h0, .inr (12, [.ref qo1, .int (nI ((((tn + 4) + 4) + 4) + 4)), .ref qo2, .ref qo3, .ref qo4, .ref qo5, .ref qo6, .int v7, .ref qo7, .ref qo8, .ref qo9])), (qo1, .inl (co1, 6000, .inl f_5))]) hD hS hA [0, 1] rfl
    refine va_callv (va_runV (As := [.int a5]) (rest := []) ⟨hx, hb, hml, hown, hts⟩ (kg_put l dC dI H.size h0 a5 qo1 (((((tn + 4) + 4) + 4) + 4)) qo2 qo3 qo4 qo5 qo6 v7 qo7 qo8 qo9 co1 f_5 (by omega)) (cwV 1 hts gv_g1_0 rfl rfl rfl (by decide +kernel) ⟨Nat.le_of_ble_eq_true rfl, Nat.le_of_ble_eq_true rfl⟩) ⟨fun a U g mk q => by obtain ⟨q0, q1, qP, qK, qD⟩ := q; exact ⟨q0, q1, qP, va_K.moved (u := U) (U := U.calling g mk a) (Vm.Alike.refl U.vm) qK, qD⟩, va_recv hKc hPc (ci := 12) (q0 := 0) rfl rfl, fun U hU hW => ⟨rfl, by rw [hU], by rw [hU]; exact hPc, va_K.moved hW.alike hKc, hDc.weaken (fun _ _ _ _ => trivial)⟩⟩ rfl rfl hl.1 rfl (lv_room (Nat.le_of_ble_eq_true rfl)) dX12_feed_39 ⟨Nat.le_of_ble_eq_true rfl, Nat.le_of_ble_eq_true rfl⟩) hS (fun q _ h => hFc q h) hFc ?_
    clear hS
    intro u t H1 locs ht hvm hw hB hz1 hk1 hS
    obtain ⟨f_6, rfl⟩ : ∃ z, z = u := ⟨_, rfl⟩
    obtain ⟨hP1, hK1, hD1⟩ := hB
    rw [ht] at hP1
    have hK1 := va_K.moved hvm.symm hK1
    try dsimp only at hw
    have hPD := va_join (wr := []) (w1 := [(h0, .inr (12, [.ref qo1, .int (nI (((((tn + 4) + 4) + 4) + 4) + 4)), .ref qo2, .ref qo3, .ref qo4, .ref qo5, .ref qo6, .int v7, .ref qo7, .ref qo8, .ref qo9])), (qo1, .inl (co1, 6000, .inl f_6))]) hP hD [0, 1] [] rfl rfl (by decide) (by decide) hk1 hFc hP1 hD1
    clear hP hD
    obtain ⟨hP, hD⟩ := hPD
    replace hK := (hK.sub (tys' := []) [] rfl).app hK1
    clear hPc hDc hKc hFc hP1 hK1 hD1 hz1 hk1 ht hvm
    generalize H1 = H at hP hS ⊢
    replace hP : va_P (dC, dI) vwCl [(h0, .inr (12, [.ref qo1, .int (nI (((((tn + 4) + 4) + 4) + 4) + 4)), .ref qo2, .ref qo3, .ref qo4, .ref qo5, .ref qo6, .int v7, .ref qo7, .ref qo8, .ref qo9])), (qo1, .inl (co1, 6000, .inl f_6))] H := hP
    replace hD : va_D A [(h0, .inr (12, [.ref qo1, .int (nI (((((tn + 4) + 4) + 4) + 4) + 4)), .ref qo2, .ref qo3, .ref qo4, .ref qo5, .ref qo6, .int v7, .ref qo7, .ref qo8, .ref qo9])), (qo1, .inl (co1, 6000, .inl f_6))] := hD
    replace hK : va_K (dC, dI) vwCl [(co1, .byte)] s := hK
    have hq4 := hw
    refine lv_aload_n hx hb dX12_feed_42 rfl (lv_at hl 0 rfl) ?_
    refine va_get (D := (dC, dI)) (ci := 12) (v := .int (nI (((((tn + 4) + 4) + 4) + 4) + 4))) (C := RX12) (T := TX12) (N := 11) hx hb hts uV_g1_X12 hown hK hP 0 rfl rfl 1 (by decide) (hts (.fieldLink RX12 73 "ClassMill" "taped" "I") mw_g1_0) (fun _ h9 => h9) rfl dX12_feed_43 ?_
    obtain ⟨k_u, ek_u⟩ : ∃ z : Nat, z = (((((tn + 4) + 4) + 4) + 4) + 4) := ⟨_, rfl⟩
    rw [← ek_u] at hP hD
    replace hP : va_P (dC, dI) vwCl [(h0, .inr (12, [.ref qo1, .int (nI k_u), .ref qo2, .ref qo3, .ref qo4, .ref qo5, .ref qo6, .int v7, .ref qo7, .ref qo8, .ref qo9])), (qo1, .inl (co1, 6000, .inl f_6))] H := hP
    replace hD : va_D A [(h0, .inr (12, [.ref qo1, .int (nI k_u), .ref qo2, .ref qo3, .ref qo4, .ref qo5, .ref qo6, .int v7, .ref qo7, .ref qo8, .ref qo9])), (qo1, .inl (co1, 6000, .inl f_6))] := hD
    have hP9 := hP.sub (ws' := [(h0, .inr (12, [.ref qo1, .int (nI k_u), .ref qo2, .ref qo3, .ref qo4, .ref qo5, .ref qo6, .int v7, .ref qo7, .ref qo8, .ref qo9])), (qo1, .inl (co1, 6000, .inl f_6))]) [0, 1] rfl
    have hD9 := hD.sub (ws' := [(h0, .inr (12, [.ref qo1, .int (nI k_u), .ref qo2, .ref qo3, .ref qo4, .ref qo5, .ref qo6, .int v7, .ref qo7, .ref qo8, .ref qo9])), (qo1, .inl (co1, 6000, .inl f_6))]) [0, 1] (by decide) rfl
    have hK9 := hK.sub (tys' := [(co1, .byte)]) [0] rfl
    exact W.iret hx hb hr (fun t ht hW => ⟨⟨((nI (((((tn + 4) + 4) + 4) + 4) + 4))), (k_u, f_6), rfl, ⟨by unfold tg_feed; rw [if_pos h20], by unfold tg_taped; rw [if_pos h20, ek_u], by unfold tk_feed; rw [if_pos h20, hq4, hq3, hq2, hq1, hq0]⟩, by rw [ht]; exact hP9, va_K.moved hW.alike hK9, hD9⟩, hS.F ht⟩) hS.2.2 dX12_feed_46
  refine lv_icmp_le (tgt := 15) hx hb dX12_feed_10 (by decide) (fun c_9 => absurd c_9 (tg_nle h20 (by omega))) (fun _ => ?_)
  refine lv_iconst (v := (-1)) hx hb dX12_feed_13 (by decide) ?_
  obtain ⟨k_v, ek_v⟩ : ∃ z : Nat, z = tn := ⟨_, rfl⟩
  rw [← ek_v] at hP hD
  replace hP : va_P (dC, dI) vwCl [(h0, .inr (12, [.ref qo1, .int (nI k_v), .ref qo2, .ref qo3, .ref qo4, .ref qo5, .ref qo6, .int v7, .ref qo7, .ref qo8, .ref qo9])), (qo1, .inl (co1, 6000, .inl ff))] H := hP
  replace hD : va_D A [(h0, .inr (12, [.ref qo1, .int (nI k_v), .ref qo2, .ref qo3, .ref qo4, .ref qo5, .ref qo6, .int v7, .ref qo7, .ref qo8, .ref qo9])), (qo1, .inl (co1, 6000, .inl ff))] := hD
  have hP9 := hP.sub (ws' := [(h0, .inr (12, [.ref qo1, .int (nI k_v), .ref qo2, .ref qo3, .ref qo4, .ref qo5, .ref qo6, .int v7, .ref qo7, .ref qo8, .ref qo9])), (qo1, .inl (co1, 6000, .inl ff))]) [0, 1] rfl
  have hD9 := hD.sub (ws' := [(h0, .inr (12, [.ref qo1, .int (nI k_v), .ref qo2, .ref qo3, .ref qo4, .ref qo5, .ref qo6, .int v7, .ref qo7, .ref qo8, .ref qo9])), (qo1, .inl (co1, 6000, .inl ff))]) [0, 1] (by decide) rfl
  have hK9 := hK.sub (tys' := [(co1, .byte)]) [0] rfl
  exact W.iret hx hb hr (fun t ht hW => ⟨⟨(-1), (k_v, ff), rfl, ⟨by unfold tg_feed; rw [if_neg h20], by unfold tg_taped; rw [if_neg h20, ek_v], by unfold tk_feed; rw [if_neg h20]⟩, by rw [ht]; exact hP9, va_K.moved hW.alike hK9, hD9⟩, hS.F ht⟩) hS.2.2 dX12_feed_14
set_option maxHeartbeats 4000000 in
set_option maxRecDepth 100000 in
/-- end -/
theorem kg_end (l : Launch) (dC : Nat → ClassId) (dI : Nat → Nat → Nat) (sz : Nat) (h0 : Nat) (a1 : Int32) (qo1 : Nat) (tn : Nat) (qo2 : Nat) (qo3 : Nat) (qo4 : Nat) (qo5 : Nat) (qo6 : Nat) (v7 : Int32) (qo7 : Nat) (qo8 : Nat) (qo9 : Nat) (hbt : tn ≤ 6000) : Met l yX12_end (.code yX12_end cX12_end 2 (some .boolean) :: VS_g1) ({ frames := 0, cells := 0, slots := 0, locals := 0 }) (va_Pc [.ref h0, .int a1] (fun U => U.heap.size = sz ∧ va_P (dC, dI) vwCl [(h0, .inr (12, [.ref qo1, .int (nI tn), .ref qo2, .ref qo3, .ref qo4, .ref qo5, .ref qo6, .int v7, .ref qo7, .ref qo8, .ref qo9]))] U.heap ∧ va_K (dC, dI) vwCl [] U ∧ va_D (fun _ => True) [(h0, .inr (12, [.ref qo1, .int (nI tn), .ref qo2, .ref qo3, .ref qo4, .ref qo5, .ref qo6, .int v7, .ref qo7, .ref qo8, .ref qo9]))])) (va_Qi (fun (r : Int32) (u : Nat) => match u with | (ko1) => r = tg_end tn a1 ∧ ko1 = tg_cut tn a1) (fun (u : Nat) (t : State) => match u with | (ko1) => va_P (dC, dI) vwCl [(h0, .inr (12, [.ref qo1, .int (nI ko1), .ref qo2, .ref qo3, .ref qo4, .ref qo5, .ref qo6, .int v7, .ref qo7, .ref qo8, .ref qo9]))] t.heap ∧ va_K (dC, dI) vwCl [] t ∧ va_D (va_A [(h0, .inr (12, [.ref qo1, .int (nI tn), .ref qo2, .ref qo3, .ref qo4, .ref qo5, .ref qo6, .int v7, .ref qo7, .ref qo8, .ref qo9]))] sz) [(h0, .inr (12, [.ref qo1, .int (nI ko1), .ref qo2, .ref qo3, .ref qo4, .ref qo5, .ref qo6, .int v7, .ref qo7, .ref qo8, .ref qo9]))]) (va_A [(h0, .inr (12, [.ref qo1, .int (nI tn), .ref qo2, .ref qo3, .ref qo4, .ref qo5, .ref qo6, .int v7, .ref qo7, .ref qo8, .ref qo9]))] sz)) 0 0 (va_A [(h0, .inr (12, [.ref qo1, .int (nI tn), .ref qo2, .ref qo3, .ref qo4, .ref qo5, .ref qo6, .int v7, .ref qo7, .ref qo8, .ref qo9]))] sz) := by
  refine Met.ofW (cc := cX12_end) (maxL := 2) (ret := (some .boolean)) (by decide) rfl ?_
  intro p e s m args below meth c s₁ B hml hv
  obtain ⟨rfl, hsz, hP, hK, hD0⟩ := hv
  have hx := B.exec
  have hb := B.bytes
  have hr := B.returns
  have hts := atoms_spec (ws := (.code yX12_end cX12_end 2 (some .boolean) :: VS_g1)) B.pre
  replace hts := fun w (h : w ∈ VS_g1) => hts w (List.mem_cons_of_mem _ h)
  have hown : s.vm.findClass RX12 = some m.cls := findClass_of_methodNamed B.named
  have hlocks := B.notSynchronized
  subst hsz
  have hD := hD0.self (sz := s.heap.size)
  generalize hAe : va_A [(h0, .inr (12, [.ref qo1, .int (nI tn), .ref qo2, .ref qo3, .ref qo4, .ref qo5, .ref qo6, .int v7, .ref qo7, .ref qo8, .ref qo9]))] s.heap.size = A at hD  ⊢
  have hA : ∀ q : Nat, s.heap.size ≤ q → A q := fun q h => by rw [← hAe]; exact Or.inr h
  have hP : va_P (dC, dI) vwCl [(h0, .inr (12, [.ref qo1, .int (nI tn), .ref qo2, .ref qo3, .ref qo4, .ref qo5, .ref qo6, .int v7, .ref qo7, .ref qo8, .ref qo9]))] s.heap := hP
  have hl := lv_entry ([.ref h0, .int a1]) (n := 2) (Nat.le_of_ble_eq_true rfl)
  rw [lg_entry_eq]
  generalize (lg_sl ([.ref h0, .int a1]) ++ List.replicate (2 - (lg_sl ([.ref h0, .int a1])).length) Slot.unset).toArray = ls at hl ⊢
  have hl : lv_has ls 2 [(0, .ref h0), (1, .int a1)] := hl
  obtain ⟨H, hH⟩ : ∃ H : Heap, s.heap = H := ⟨_, rfl⟩
  rw [hH] at hP ⊢
  have hS : va_S A s.heap H [] := by rw [← hH]; exact va_S.rf
  obtain ⟨locs, hlo⟩ : ∃ locs : List Loc, locs = [] := ⟨_, rfl⟩
  rw [← hlo] at hS ⊢
  refine lv_iload_n hx hb dX12_end_0 rfl (lv_at hl 1 rfl) ?_
  refine lv_if_lt (tgt := 12) hx hb dX12_end_1 (by decide) (fun c_1 => ?_) (fun c_1 => ?_)
  · have c_1_ := c_1
    refine lv_iconst (v := 0) hx hb dX12_end_12 (by decide) ?_
    obtain ⟨k_a, ek_a⟩ : ∃ z : Nat, z = tn := ⟨_, rfl⟩
    rw [← ek_a] at hP hD
    replace hP : va_P (dC, dI) vwCl [(h0, .inr (12, [.ref qo1, .int (nI k_a), .ref qo2, .ref qo3, .ref qo4, .ref qo5, .ref qo6, .int v7, .ref qo7, .ref qo8, .ref qo9]))] H := hP
    replace hD : va_D A [(h0, .inr (12, [.ref qo1, .int (nI k_a), .ref qo2, .ref qo3, .ref qo4, .ref qo5, .ref qo6, .int v7, .ref qo7, .ref qo8, .ref qo9]))] := hD
    have hP9 := hP.sub (ws' := [(h0, .inr (12, [.ref qo1, .int (nI k_a), .ref qo2, .ref qo3, .ref qo4, .ref qo5, .ref qo6, .int v7, .ref qo7, .ref qo8, .ref qo9]))]) [0] rfl
    have hD9 := hD.sub (ws' := [(h0, .inr (12, [.ref qo1, .int (nI k_a), .ref qo2, .ref qo3, .ref qo4, .ref qo5, .ref qo6, .int v7, .ref qo7, .ref qo8, .ref qo9]))]) [0] (by decide) rfl
    have hK9 := hK.sub (tys' := []) [] rfl
    exact W.zret hx hb hr (by decide) (fun t ht hW => ⟨⟨0, (k_a), rfl, ⟨by unfold tg_end; rw [if_pos c_1], by unfold tg_cut; rw [if_pos c_1, ek_a]⟩, by rw [ht]; exact hP9, va_K.moved hW.alike hK9, hD9⟩, hS.F ht⟩) hS.2.2 dX12_end_13
  · have c_1_ := c_1
    refine lv_iload_n hx hb dX12_end_4 rfl (lv_at hl 1 rfl) ?_
    refine lv_aload_n hx hb dX12_end_5 rfl (lv_at hl 0 rfl) ?_
    refine va_get (D := (dC, dI)) (ci := 12) (v := .int (nI tn)) (C := RX12) (T := TX12) (N := 11) hx hb hts uV_g1_X12 hown hK hP 0 rfl rfl 1 (by decide) (hts (.fieldLink RX12 73 "ClassMill" "taped" "I") mw_g1_0) (fun _ h9 => h9) rfl dX12_end_6 ?_
    refine lv_icmp_le (tgt := 14) hx hb dX12_end_9 (by decide) (fun c_2 => ?_) (fun c_2 => ?_)
    · have c_2_ := c_2
      have ha := tg_cutI c_1 c_2
      refine lv_aload_n hx hb dX12_end_14 rfl (lv_at hl 0 rfl) ?_
      refine lv_iload_n hx hb dX12_end_15 rfl (lv_at hl 1 rfl) ?_
      refine va_put (D := (dC, dI)) (ci := 12) (v := .int a1) (ty := .int) (C := RX12) (T := TX12) (N := 11) hx hb hts uV_g1_X12 tyX12 tyX12_ok nmX12 hown hK hP hD hS 0 rfl rfl 1 (by decide) (hts (.fieldLink RX12 73 "ClassMill" "taped" "I") mw_g1_0) (fun _ h9 => h9) rfl (by decide +kernel) rfl rfl (Nat.le_of_ble_eq_true rfl) dX12_end_16 ?_
      clear hP hD hS
      intro H locs hP hD hS
      replace hP : va_P (dC, dI) vwCl [(h0, .inr (12, [.ref qo1, .int a1, .ref qo2, .ref qo3, .ref qo4, .ref qo5, .ref qo6, .int v7, .ref qo7, .ref qo8, .ref qo9]))] H := hP
      replace hD : va_D A [(h0, .inr (12, [.ref qo1, .int a1, .ref qo2, .ref qo3, .ref qo4, .ref qo5, .ref qo6, .int v7, .ref qo7, .ref qo8, .ref qo9]))] := hD
      refine lv_iconst (v := 1) hx hb dX12_end_19 (by decide) ?_
      obtain ⟨k_b, ek_b⟩ : ∃ z : Nat, z = tg_cut tn a1 := ⟨_, rfl⟩
      rw [← ek_b] at ha
      rw [ha] at hP hD
      replace hP : va_P (dC, dI) vwCl [(h0, .inr (12, [.ref qo1, .int (nI k_b), .ref qo2, .ref qo3, .ref qo4, .ref qo5, .ref qo6, .int v7, .ref qo7, .ref qo8, .ref qo9]))] H := hP
      replace hD : va_D A [(h0, .inr (12, [.ref qo1, .int (nI k_b), .ref qo2, .ref qo3, .ref qo4, .ref qo5, .ref qo6, .int v7, .ref qo7, .ref qo8, .ref qo9]))] := hD
      have hP9 := hP.sub (ws' := [(h0, .inr (12, [.ref qo1, .int (nI k_b), .ref qo2, .ref qo3, .ref qo4, .ref qo5, .ref qo6, .int v7, .ref qo7, .ref qo8, .ref qo9]))]) [0] rfl
      have hD9 := hD.sub (ws' := [(h0, .inr (12, [.ref qo1, .int (nI k_b), .ref qo2, .ref qo3, .ref qo4, .ref qo5, .ref qo6, .int v7, .ref qo7, .ref qo8, .ref qo9]))]) [0] (by decide) rfl
      have hK9 := hK.sub (tys' := []) [] rfl
      exact W.zret hx hb hr (by decide) (fun t ht hW => ⟨⟨1, (k_b), rfl, ⟨by unfold tg_end; rw [if_neg c_1, if_neg (Int32.not_lt.mpr c_2)], ek_b⟩, by rw [ht]; exact hP9, va_K.moved hW.alike hK9, hD9⟩, hS.F ht⟩) hS.2.2 dX12_end_20
    · have c_2_ := c_2
      refine lv_iconst (v := 0) hx hb dX12_end_12 (by decide) ?_
      obtain ⟨k_c, ek_c⟩ : ∃ z : Nat, z = tn := ⟨_, rfl⟩
      rw [← ek_c] at hP hD
      replace hP : va_P (dC, dI) vwCl [(h0, .inr (12, [.ref qo1, .int (nI k_c), .ref qo2, .ref qo3, .ref qo4, .ref qo5, .ref qo6, .int v7, .ref qo7, .ref qo8, .ref qo9]))] H := hP
      replace hD : va_D A [(h0, .inr (12, [.ref qo1, .int (nI k_c), .ref qo2, .ref qo3, .ref qo4, .ref qo5, .ref qo6, .int v7, .ref qo7, .ref qo8, .ref qo9]))] := hD
      have hP9 := hP.sub (ws' := [(h0, .inr (12, [.ref qo1, .int (nI k_c), .ref qo2, .ref qo3, .ref qo4, .ref qo5, .ref qo6, .int v7, .ref qo7, .ref qo8, .ref qo9]))]) [0] rfl
      have hD9 := hD.sub (ws' := [(h0, .inr (12, [.ref qo1, .int (nI k_c), .ref qo2, .ref qo3, .ref qo4, .ref qo5, .ref qo6, .int v7, .ref qo7, .ref qo8, .ref qo9]))]) [0] (by decide) rfl
      have hK9 := hK.sub (tys' := []) [] rfl
      exact W.zret hx hb hr (by decide) (fun t ht hW => ⟨⟨0, (k_c), rfl, ⟨by unfold tg_end; rw [if_neg c_1, if_pos (Int32.not_le.mp c_2)], by unfold tg_cut; rw [if_neg c_1, if_pos (Int32.not_le.mp c_2), ek_c]⟩, by rw [ht]; exact hP9, va_K.moved hW.alike hK9, hD9⟩, hS.F ht⟩) hS.2.2 dX12_end_13
def tg_fault (f p a : Int32) : Int32 := if a = 0 then f else if a = 1 then (if f = 0 then -1 else p) else -1
def tgm_fault (f p a : Int32) : Int32 := if a = 0 then f else if a = 1 then (if f ≤ 0 then -1 else p) else -1
def tg_where (x y z a : Int32) : Int32 := if a = 0 then x else if a = 1 then y else if a = 2 then z else -1
theorem lf_fault_92 (a1 v7 v13 v19 v20 v1 v2 : Int32) (c_1 : ¬ a1 = 0) (c_2 : ¬ a1 = 1) : ((-1) : Int32) = tg_fault v1 v2 a1 := by
  first | rfl | (subst_vars; rfl) | (simp_all [tg_fault]; done) | (subst_vars; simp_all [tg_fault]; done) | (unfold tg_fault; (repeat' split) <;> first | rfl | (exfalso; simp_all; done))
theorem lf_fault_93 (a1 v7 v13 v19 v20 v1 v2 : Int32) (c_1 : ¬ a1 = 0) (c_2 : a1 = 1) (c_3 : v1 = 0) : ((-1) : Int32) = tg_fault v1 v2 a1 := by
  first | rfl | (subst_vars; rfl) | (simp_all [tg_fault]; done) | (subst_vars; simp_all [tg_fault]; done) | (unfold tg_fault; (repeat' split) <;> first | rfl | (exfalso; simp_all; done))
theorem lf_fault_94 (a1 v7 v13 v19 v20 v1 v2 : Int32) (c_1 : ¬ a1 = 0) (c_2 : a1 = 1) (c_3 : ¬ v1 = 0) : (v2 : Int32) = tg_fault v1 v2 a1 := by
  first | rfl | (subst_vars; rfl) | (simp_all [tg_fault]; done) | (subst_vars; simp_all [tg_fault]; done) | (unfold tg_fault; (repeat' split) <;> first | rfl | (exfalso; simp_all; done))
theorem lf_fault_95 (a1 v7 v13 v19 v20 v1 v2 : Int32) (c_1 : a1 = 0) : (v1 : Int32) = tg_fault v1 v2 a1 := by
  first | rfl | (subst_vars; rfl) | (simp_all [tg_fault]; done) | (subst_vars; simp_all [tg_fault]; done) | (unfold tg_fault; (repeat' split) <;> first | rfl | (exfalso; simp_all; done))
set_option maxHeartbeats 4000000 in
set_option maxRecDepth 100000 in
/-- kg_fault -/
theorem kg_fault (l : Launch) (dC : Nat → ClassId) (dI : Nat → Nat → Nat) (sz : Nat) (h0 : Nat) (a1 : Int32) (qo1 : Nat) (tn : Nat) (qo2 : Nat) (qo3 : Nat) (qo4 : Nat) (qo5 : Nat) (qo6 : Nat) (v7 : Int32) (qo7 : Nat) (qo8 : Nat) (qo9 : Nat) (qo10 : Nat) (qo11 : Nat) (qo12 : Nat) (v13 : Int32) (qo13 : Nat) (qo14 : Nat) (qo15 : Nat) (qo16 : Nat) (qo17 : Nat) (v19 : Int32) (v20 : Int32) (v1 : Int32) (v2 : Int32)  : Met l yX12_fault (.code yX12_fault cX12_fault 2 (some .int) :: VS_g1) ({ frames := 0, cells := 0, slots := 0, locals := 0 }) (va_Pc [.ref h0, .int a1] (fun U => U.heap.size = sz ∧ va_P (dC, dI) vwCl [(h0, .inr (12, [.ref qo1, .int (nI tn), .ref qo2, .ref qo3, .ref qo4, .ref qo5, .ref qo6, .int v7, .ref qo7, .ref qo8, .ref qo9])), (qo2, .inr (9, [.ref qo10, .ref qo11, .ref qo12, .int v13, .ref qo13, .ref qo14, .ref qo15, .ref qo16, .ref qo17, .int v19, .int v20, .int v1, .int v2]))] U.heap ∧ va_K (dC, dI) vwCl [] U ∧ va_D (fun _ => True) [(h0, .inr (12, [.ref qo1, .int (nI tn), .ref qo2, .ref qo3, .ref qo4, .ref qo5, .ref qo6, .int v7, .ref qo7, .ref qo8, .ref qo9])), (qo2, .inr (9, [.ref qo10, .ref qo11, .ref qo12, .int v13, .ref qo13, .ref qo14, .ref qo15, .ref qo16, .ref qo17, .int v19, .int v20, .int v1, .int v2]))])) (va_Qi (fun (r : Int32) (u : Unit) => match u with | () => r = tg_fault v1 v2 a1) (fun (u : Unit) (t : State) => match u with | () => va_P (dC, dI) vwCl [(h0, .inr (12, [.ref qo1, .int (nI tn), .ref qo2, .ref qo3, .ref qo4, .ref qo5, .ref qo6, .int v7, .ref qo7, .ref qo8, .ref qo9])), (qo2, .inr (9, [.ref qo10, .ref qo11, .ref qo12, .int v13, .ref qo13, .ref qo14, .ref qo15, .ref qo16, .ref qo17, .int v19, .int v20, .int v1, .int v2]))] t.heap ∧ va_K (dC, dI) vwCl [] t ∧ va_D (va_A [(h0, .inr (12, [.ref qo1, .int (nI tn), .ref qo2, .ref qo3, .ref qo4, .ref qo5, .ref qo6, .int v7, .ref qo7, .ref qo8, .ref qo9])), (qo2, .inr (9, [.ref qo10, .ref qo11, .ref qo12, .int v13, .ref qo13, .ref qo14, .ref qo15, .ref qo16, .ref qo17, .int v19, .int v20, .int v1, .int v2]))] sz) [(h0, .inr (12, [.ref qo1, .int (nI tn), .ref qo2, .ref qo3, .ref qo4, .ref qo5, .ref qo6, .int v7, .ref qo7, .ref qo8, .ref qo9])), (qo2, .inr (9, [.ref qo10, .ref qo11, .ref qo12, .int v13, .ref qo13, .ref qo14, .ref qo15, .ref qo16, .ref qo17, .int v19, .int v20, .int v1, .int v2]))]) (va_A [(h0, .inr (12, [.ref qo1, .int (nI tn), .ref qo2, .ref qo3, .ref qo4, .ref qo5, .ref qo6, .int v7, .ref qo7, .ref qo8, .ref qo9])), (qo2, .inr (9, [.ref qo10, .ref qo11, .ref qo12, .int v13, .ref qo13, .ref qo14, .ref qo15, .ref qo16, .ref qo17, .int v19, .int v20, .int v1, .int v2]))] sz)) 0 0 (va_A [(h0, .inr (12, [.ref qo1, .int (nI tn), .ref qo2, .ref qo3, .ref qo4, .ref qo5, .ref qo6, .int v7, .ref qo7, .ref qo8, .ref qo9])), (qo2, .inr (9, [.ref qo10, .ref qo11, .ref qo12, .int v13, .ref qo13, .ref qo14, .ref qo15, .ref qo16, .ref qo17, .int v19, .int v20, .int v1, .int v2]))] sz) := by
  refine Met.ofW (cc := cX12_fault) (maxL := 2) (ret := (some .int)) (by decide) rfl ?_
  intro p e s m args below meth c s₁ B hml hv
  obtain ⟨rfl, hsz, hP, hK, hD0⟩ := hv
  have hx := B.exec
  have hb := B.bytes
  have hr := B.returns
  have hts := atoms_spec (ws := (.code yX12_fault cX12_fault 2 (some .int) :: VS_g1)) B.pre
  replace hts := fun w (h : w ∈ VS_g1) => hts w (List.mem_cons_of_mem _ h)
  have hown : s.vm.findClass RX12 = some m.cls := findClass_of_methodNamed B.named
  have hlocks := B.notSynchronized
  subst hsz
  have hD := hD0.self (sz := s.heap.size)
  generalize hAe : va_A [(h0, .inr (12, [.ref qo1, .int (nI tn), .ref qo2, .ref qo3, .ref qo4, .ref qo5, .ref qo6, .int v7, .ref qo7, .ref qo8, .ref qo9])), (qo2, .inr (9, [.ref qo10, .ref qo11, .ref qo12, .int v13, .ref qo13, .ref qo14, .ref qo15, .ref qo16, .ref qo17, .int v19, .int v20, .int v1, .int v2]))] s.heap.size = A at hD  ⊢
  have hA : ∀ q : Nat, s.heap.size ≤ q → A q := fun q h => by rw [← hAe]; exact Or.inr h
  have hP : va_P (dC, dI) vwCl [(h0, .inr (12, [.ref qo1, .int (nI tn), .ref qo2, .ref qo3, .ref qo4, .ref qo5, .ref qo6, .int v7, .ref qo7, .ref qo8, .ref qo9])), (qo2, .inr (9, [.ref qo10, .ref qo11, .ref qo12, .int v13, .ref qo13, .ref qo14, .ref qo15, .ref qo16, .ref qo17, .int v19, .int v20, .int v1, .int v2]))] s.heap := hP
  have hl := lv_entry ([.ref h0, .int a1]) (n := 2) (Nat.le_of_ble_eq_true rfl)
  rw [lg_entry_eq]
  generalize (lg_sl ([.ref h0, .int a1]) ++ List.replicate (2 - (lg_sl ([.ref h0, .int a1])).length) Slot.unset).toArray = ls at hl ⊢
  have hl : lv_has ls 2 [(0, .ref h0), (1, .int a1)] := hl
  obtain ⟨H, hH⟩ : ∃ H : Heap, s.heap = H := ⟨_, rfl⟩
  rw [hH] at hP ⊢
  have hS : va_S A s.heap H [] := by rw [← hH]; exact va_S.rf
  obtain ⟨locs, hlo⟩ : ∃ locs : List Loc, locs = [] := ⟨_, rfl⟩
  rw [← hlo] at hS ⊢
  refine lv_iload_n hx hb dX12_fault_0 rfl (lv_at hl 1 rfl) ?_
  refine lv_if_ne (tgt := 12) hx hb dX12_fault_1 (by decide) (fun c_1 => ?_) (fun c_1 => ?_)
  · have c_1_ := c_1
    refine lv_iload_n hx hb dX12_fault_12 rfl (lv_at hl 1 rfl) ?_
    refine lv_iconst (v := 1) hx hb dX12_fault_13 (by decide) ?_
    refine lv_icmp_ne (tgt := 37) hx hb dX12_fault_14 (by decide) (fun c_2 => ?_) (fun c_2 => ?_)
    · have c_2_ := c_2
      refine lv_iconst (v := (-1)) hx hb dX12_fault_37 (by decide) ?_
      have hP9 := hP.sub (ws' := [(h0, .inr (12, [.ref qo1, .int (nI tn), .ref qo2, .ref qo3, .ref qo4, .ref qo5, .ref qo6, .int v7, .ref qo7, .ref qo8, .ref qo9])), (qo2, .inr (9, [.ref qo10, .ref qo11, .ref qo12, .int v13, .ref qo13, .ref qo14, .ref qo15, .ref qo16, .ref qo17, .int v19, .int v20, .int v1, .int v2]))]) [0, 1] rfl
      have hD9 := hD.sub (ws' := [(h0, .inr (12, [.ref qo1, .int (nI tn), .ref qo2, .ref qo3, .ref qo4, .ref qo5, .ref qo6, .int v7, .ref qo7, .ref qo8, .ref qo9])), (qo2, .inr (9, [.ref qo10, .ref qo11, .ref qo12, .int v13, .ref qo13, .ref qo14, .ref qo15, .ref qo16, .ref qo17, .int v19, .int v20, .int v1, .int v2]))]) [0, 1] (by decide) rfl
      have hK9 := hK.sub (tys' := []) [] rfl
      exact W.iret hx hb hr (fun t ht hW => ⟨⟨((-1)), (), rfl, lf_fault_92 a1 v7 v13 v19 v20 v1 v2 c_1 c_2, by rw [ht]; exact hP9, va_K.moved hW.alike hK9, hD9⟩, hS.F ht⟩) hS.2.2 dX12_fault_38
    · have c_2_ := c_2
      refine lv_aload_n hx hb dX12_fault_17 rfl (lv_at hl 0 rfl) ?_
      refine va_get (D := (dC, dI)) (ci := 12) (v := .ref qo2) (C := RX12) (T := TX12) (N := 11) hx hb hts uV_g1_X12 hown hK hP 0 rfl rfl 2 (by decide) (hts (.fieldLink RX12 16 "ClassMill" "text" "LClassMill$Text;") mw_g1_7) (fun _ h9 => h9) rfl dX12_fault_18 ?_
      refine va_get (D := (dC, dI)) (ci := 9) (v := .int v1) (C := RX9) (T := TX9) (N := 13) hx hb hts uV_g1_X9 hown hK hP 1 rfl rfl 11 (by decide) (hts (.fieldLink RX12 113 "ClassMill$Text" "fault" "I") mw_g1_8) (fun _ h9 => h9) rfl dX12_fault_21 ?_
      refine lv_if_eq (tgt := 37) hx hb dX12_fault_24 (by decide) (fun c_3 => ?_) (fun c_3 => ?_)
      · have c_3_ := c_3
        refine lv_iconst (v := (-1)) hx hb dX12_fault_37 (by decide) ?_
        have hP9 := hP.sub (ws' := [(h0, .inr (12, [.ref qo1, .int (nI tn), .ref qo2, .ref qo3, .ref qo4, .ref qo5, .ref qo6, .int v7, .ref qo7, .ref qo8, .ref qo9])), (qo2, .inr (9, [.ref qo10, .ref qo11, .ref qo12, .int v13, .ref qo13, .ref qo14, .ref qo15, .ref qo16, .ref qo17, .int v19, .int v20, .int v1, .int v2]))]) [0, 1] rfl
        have hD9 := hD.sub (ws' := [(h0, .inr (12, [.ref qo1, .int (nI tn), .ref qo2, .ref qo3, .ref qo4, .ref qo5, .ref qo6, .int v7, .ref qo7, .ref qo8, .ref qo9])), (qo2, .inr (9, [.ref qo10, .ref qo11, .ref qo12, .int v13, .ref qo13, .ref qo14, .ref qo15, .ref qo16, .ref qo17, .int v19, .int v20, .int v1, .int v2]))]) [0, 1] (by decide) rfl
        have hK9 := hK.sub (tys' := []) [] rfl
        exact W.iret hx hb hr (fun t ht hW => ⟨⟨((-1)), (), rfl, lf_fault_93 a1 v7 v13 v19 v20 v1 v2 c_1 c_2 c_3, by rw [ht]; exact hP9, va_K.moved hW.alike hK9, hD9⟩, hS.F ht⟩) hS.2.2 dX12_fault_38
      · have c_3_ := c_3
        refine lv_aload_n hx hb dX12_fault_27 rfl (lv_at hl 0 rfl) ?_
        refine va_get (D := (dC, dI)) (ci := 12) (v := .ref qo2) (C := RX12) (T := TX12) (N := 11) hx hb hts uV_g1_X12 hown hK hP 0 rfl rfl 2 (by decide) (hts (.fieldLink RX12 16 "ClassMill" "text" "LClassMill$Text;") mw_g1_7) (fun _ h9 => h9) rfl dX12_fault_28 ?_
        refine va_get (D := (dC, dI)) (ci := 9) (v := .int v2) (C := RX9) (T := TX9) (N := 13) hx hb hts uV_g1_X9 hown hK hP 1 rfl rfl 12 (by decide) (hts (.fieldLink RX12 143 "ClassMill$Text" "place" "I") mw_g1_9) (fun _ h9 => h9) rfl dX12_fault_31 ?_
        refine lv_goto (tgt := 38) hx hb dX12_fault_34 (by decide) ?_
        have hP9 := hP.sub (ws' := [(h0, .inr (12, [.ref qo1, .int (nI tn), .ref qo2, .ref qo3, .ref qo4, .ref qo5, .ref qo6, .int v7, .ref qo7, .ref qo8, .ref qo9])), (qo2, .inr (9, [.ref qo10, .ref qo11, .ref qo12, .int v13, .ref qo13, .ref qo14, .ref qo15, .ref qo16, .ref qo17, .int v19, .int v20, .int v1, .int v2]))]) [0, 1] rfl
        have hD9 := hD.sub (ws' := [(h0, .inr (12, [.ref qo1, .int (nI tn), .ref qo2, .ref qo3, .ref qo4, .ref qo5, .ref qo6, .int v7, .ref qo7, .ref qo8, .ref qo9])), (qo2, .inr (9, [.ref qo10, .ref qo11, .ref qo12, .int v13, .ref qo13, .ref qo14, .ref qo15, .ref qo16, .ref qo17, .int v19, .int v20, .int v1, .int v2]))]) [0, 1] (by decide) rfl
        have hK9 := hK.sub (tys' := []) [] rfl
        exact W.iret hx hb hr (fun t ht hW => ⟨⟨(v2), (), rfl, lf_fault_94 a1 v7 v13 v19 v20 v1 v2 c_1 c_2 c_3, by rw [ht]; exact hP9, va_K.moved hW.alike hK9, hD9⟩, hS.F ht⟩) hS.2.2 dX12_fault_38
  · have c_1_ := c_1
    refine lv_aload_n hx hb dX12_fault_4 rfl (lv_at hl 0 rfl) ?_
    refine va_get (D := (dC, dI)) (ci := 12) (v := .ref qo2) (C := RX12) (T := TX12) (N := 11) hx hb hts uV_g1_X12 hown hK hP 0 rfl rfl 2 (by decide) (hts (.fieldLink RX12 16 "ClassMill" "text" "LClassMill$Text;") mw_g1_7) (fun _ h9 => h9) rfl dX12_fault_5 ?_
    refine va_get (D := (dC, dI)) (ci := 9) (v := .int v1) (C := RX9) (T := TX9) (N := 13) hx hb hts uV_g1_X9 hown hK hP 1 rfl rfl 11 (by decide) (hts (.fieldLink RX12 113 "ClassMill$Text" "fault" "I") mw_g1_8) (fun _ h9 => h9) rfl dX12_fault_8 ?_
    have hP9 := hP.sub (ws' := [(h0, .inr (12, [.ref qo1, .int (nI tn), .ref qo2, .ref qo3, .ref qo4, .ref qo5, .ref qo6, .int v7, .ref qo7, .ref qo8, .ref qo9])), (qo2, .inr (9, [.ref qo10, .ref qo11, .ref qo12, .int v13, .ref qo13, .ref qo14, .ref qo15, .ref qo16, .ref qo17, .int v19, .int v20, .int v1, .int v2]))]) [0, 1] rfl
    have hD9 := hD.sub (ws' := [(h0, .inr (12, [.ref qo1, .int (nI tn), .ref qo2, .ref qo3, .ref qo4, .ref qo5, .ref qo6, .int v7, .ref qo7, .ref qo8, .ref qo9])), (qo2, .inr (9, [.ref qo10, .ref qo11, .ref qo12, .int v13, .ref qo13, .ref qo14, .ref qo15, .ref qo16, .ref qo17, .int v19, .int v20, .int v1, .int v2]))]) [0, 1] (by decide) rfl
    have hK9 := hK.sub (tys' := []) [] rfl
    exact W.iret hx hb hr (fun t ht hW => ⟨⟨(v1), (), rfl, lf_fault_95 a1 v7 v13 v19 v20 v1 v2 c_1, by rw [ht]; exact hP9, va_K.moved hW.alike hK9, hD9⟩, hS.F ht⟩) hS.2.2 dX12_fault_11
theorem lf_where_96 (a1 v7 v1 v2 v3 v16 v17 v26 v27 v28 v29 v30 : Int32) (hs_1 : a1 = 0) : (v1 : Int32) = tg_where v1 v2 v3 a1 := by
  first | rfl | (subst_vars; rfl) | (simp_all [tg_where]; done) | (subst_vars; simp_all [tg_where]; done) | (unfold tg_where; (repeat' split) <;> first | rfl | (exfalso; simp_all; done))
theorem lf_where_97 (a1 v7 v1 v2 v3 v16 v17 v26 v27 v28 v29 v30 : Int32) (hs_1 : ¬ a1 = 0) (hs_2 : a1 = 1) : (v2 : Int32) = tg_where v1 v2 v3 a1 := by
  first | rfl | (subst_vars; rfl) | (simp_all [tg_where]; done) | (subst_vars; simp_all [tg_where]; done) | (unfold tg_where; (repeat' split) <;> first | rfl | (exfalso; simp_all; done))
theorem lf_where_98 (a1 v7 v1 v2 v3 v16 v17 v26 v27 v28 v29 v30 : Int32) (hs_1 : ¬ a1 = 0) (hs_2 : ¬ a1 = 1) (hs_3 : a1 = 2) : (v3 : Int32) = tg_where v1 v2 v3 a1 := by
  first | rfl | (subst_vars; rfl) | (simp_all [tg_where]; done) | (subst_vars; simp_all [tg_where]; done) | (unfold tg_where; (repeat' split) <;> first | rfl | (exfalso; simp_all; done))
theorem lf_where_99 (a1 v7 v1 v2 v3 v16 v17 v26 v27 v28 v29 v30 : Int32) (hs_1 : ¬ a1 = 0) (hs_2 : ¬ a1 = 1) (hs_3 : ¬ a1 = 2) : ((-1) : Int32) = tg_where v1 v2 v3 a1 := by
  first | rfl | (subst_vars; rfl) | (simp_all [tg_where]; done) | (subst_vars; simp_all [tg_where]; done) | (unfold tg_where; (repeat' split) <;> first | rfl | (exfalso; simp_all; done))
set_option maxHeartbeats 4000000 in
set_option maxRecDepth 100000 in
/-- kg_where -/
theorem kg_where (l : Launch) (dC : Nat → ClassId) (dI : Nat → Nat → Nat) (sz : Nat) (h0 : Nat) (a1 : Int32) (qo1 : Nat) (tn : Nat) (qo2 : Nat) (qo3 : Nat) (qo4 : Nat) (qo5 : Nat) (qo6 : Nat) (v7 : Int32) (qo7 : Nat) (qo8 : Nat) (qo9 : Nat) (qo43 : Nat) (v1 : Int32) (v2 : Int32) (v3 : Int32) (qo57 : Nat) (v16 : Int32) (v17 : Int32) (qo58 : Nat) (qo59 : Nat) (qo60 : Nat) (qo61 : Nat) (qo62 : Nat) (qo63 : Nat) (qo64 : Nat) (qo65 : Nat) (v26 : Int32) (v27 : Int32) (v28 : Int32) (v29 : Int32) (v30 : Int32)  : Met l yX12_where (.code yX12_where cX12_where 2 (some .int) :: VS_g1) ({ frames := 0, cells := 0, slots := 0, locals := 0 }) (va_Pc [.ref h0, .int a1] (fun U => U.heap.size = sz ∧ va_P (dC, dI) vwCl [(h0, .inr (12, [.ref qo1, .int (nI tn), .ref qo2, .ref qo3, .ref qo4, .ref qo5, .ref qo6, .int v7, .ref qo7, .ref qo8, .ref qo9])), (qo8, .inr (11, [.ref qo7, .ref qo43, .int v1, .int v2, .int v3, .ref qo57, .int v16, .int v17, .ref qo58, .ref qo59, .ref qo60, .ref qo61, .ref qo62, .ref qo63, .ref qo64, .ref qo65, .int v26, .int v27, .int v28, .int v29, .int v30]))] U.heap ∧ va_K (dC, dI) vwCl [] U ∧ va_D (fun _ => True) [(h0, .inr (12, [.ref qo1, .int (nI tn), .ref qo2, .ref qo3, .ref qo4, .ref qo5, .ref qo6, .int v7, .ref qo7, .ref qo8, .ref qo9])), (qo8, .inr (11, [.ref qo7, .ref qo43, .int v1, .int v2, .int v3, .ref qo57, .int v16, .int v17, .ref qo58, .ref qo59, .ref qo60, .ref qo61, .ref qo62, .ref qo63, .ref qo64, .ref qo65, .int v26, .int v27, .int v28, .int v29, .int v30]))])) (va_Qi (fun (r : Int32) (u : Unit) => match u with | () => r = tg_where v1 v2 v3 a1) (fun (u : Unit) (t : State) => match u with | () => va_P (dC, dI) vwCl [(h0, .inr (12, [.ref qo1, .int (nI tn), .ref qo2, .ref qo3, .ref qo4, .ref qo5, .ref qo6, .int v7, .ref qo7, .ref qo8, .ref qo9])), (qo8, .inr (11, [.ref qo7, .ref qo43, .int v1, .int v2, .int v3, .ref qo57, .int v16, .int v17, .ref qo58, .ref qo59, .ref qo60, .ref qo61, .ref qo62, .ref qo63, .ref qo64, .ref qo65, .int v26, .int v27, .int v28, .int v29, .int v30]))] t.heap ∧ va_K (dC, dI) vwCl [] t ∧ va_D (va_A [(h0, .inr (12, [.ref qo1, .int (nI tn), .ref qo2, .ref qo3, .ref qo4, .ref qo5, .ref qo6, .int v7, .ref qo7, .ref qo8, .ref qo9])), (qo8, .inr (11, [.ref qo7, .ref qo43, .int v1, .int v2, .int v3, .ref qo57, .int v16, .int v17, .ref qo58, .ref qo59, .ref qo60, .ref qo61, .ref qo62, .ref qo63, .ref qo64, .ref qo65, .int v26, .int v27, .int v28, .int v29, .int v30]))] sz) [(h0, .inr (12, [.ref qo1, .int (nI tn), .ref qo2, .ref qo3, .ref qo4, .ref qo5, .ref qo6, .int v7, .ref qo7, .ref qo8, .ref qo9])), (qo8, .inr (11, [.ref qo7, .ref qo43, .int v1, .int v2, .int v3, .ref qo57, .int v16, .int v17, .ref qo58, .ref qo59, .ref qo60, .ref qo61, .ref qo62, .ref qo63, .ref qo64, .ref qo65, .int v26, .int v27, .int v28, .int v29, .int v30]))]) (va_A [(h0, .inr (12, [.ref qo1, .int (nI tn), .ref qo2, .ref qo3, .ref qo4, .ref qo5, .ref qo6, .int v7, .ref qo7, .ref qo8, .ref qo9])), (qo8, .inr (11, [.ref qo7, .ref qo43, .int v1, .int v2, .int v3, .ref qo57, .int v16, .int v17, .ref qo58, .ref qo59, .ref qo60, .ref qo61, .ref qo62, .ref qo63, .ref qo64, .ref qo65, .int v26, .int v27, .int v28, .int v29, .int v30]))] sz)) 0 0 (va_A [(h0, .inr (12, [.ref qo1, .int (nI tn), .ref qo2, .ref qo3, .ref qo4, .ref qo5, .ref qo6, .int v7, .ref qo7, .ref qo8, .ref qo9])), (qo8, .inr (11, [.ref qo7, .ref qo43, .int v1, .int v2, .int v3, .ref qo57, .int v16, .int v17, .ref qo58, .ref qo59, .ref qo60, .ref qo61, .ref qo62, .ref qo63, .ref qo64, .ref qo65, .int v26, .int v27, .int v28, .int v29, .int v30]))] sz) := by
  refine Met.ofW (cc := cX12_where) (maxL := 2) (ret := (some .int)) (by decide) rfl ?_
  intro p e s m args below meth c s₁ B hml hv
  obtain ⟨rfl, hsz, hP, hK, hD0⟩ := hv
  have hx := B.exec
  have hb := B.bytes
  have hr := B.returns
  have hts := atoms_spec (ws := (.code yX12_where cX12_where 2 (some .int) :: VS_g1)) B.pre
  replace hts := fun w (h : w ∈ VS_g1) => hts w (List.mem_cons_of_mem _ h)
  have hown : s.vm.findClass RX12 = some m.cls := findClass_of_methodNamed B.named
  have hlocks := B.notSynchronized
  subst hsz
  have hD := hD0.self (sz := s.heap.size)
  generalize hAe : va_A [(h0, .inr (12, [.ref qo1, .int (nI tn), .ref qo2, .ref qo3, .ref qo4, .ref qo5, .ref qo6, .int v7, .ref qo7, .ref qo8, .ref qo9])), (qo8, .inr (11, [.ref qo7, .ref qo43, .int v1, .int v2, .int v3, .ref qo57, .int v16, .int v17, .ref qo58, .ref qo59, .ref qo60, .ref qo61, .ref qo62, .ref qo63, .ref qo64, .ref qo65, .int v26, .int v27, .int v28, .int v29, .int v30]))] s.heap.size = A at hD  ⊢
  have hA : ∀ q : Nat, s.heap.size ≤ q → A q := fun q h => by rw [← hAe]; exact Or.inr h
  have hP : va_P (dC, dI) vwCl [(h0, .inr (12, [.ref qo1, .int (nI tn), .ref qo2, .ref qo3, .ref qo4, .ref qo5, .ref qo6, .int v7, .ref qo7, .ref qo8, .ref qo9])), (qo8, .inr (11, [.ref qo7, .ref qo43, .int v1, .int v2, .int v3, .ref qo57, .int v16, .int v17, .ref qo58, .ref qo59, .ref qo60, .ref qo61, .ref qo62, .ref qo63, .ref qo64, .ref qo65, .int v26, .int v27, .int v28, .int v29, .int v30]))] s.heap := hP
  have hl := lv_entry ([.ref h0, .int a1]) (n := 2) (Nat.le_of_ble_eq_true rfl)
  rw [lg_entry_eq]
  generalize (lg_sl ([.ref h0, .int a1]) ++ List.replicate (2 - (lg_sl ([.ref h0, .int a1])).length) Slot.unset).toArray = ls at hl ⊢
  have hl : lv_has ls 2 [(0, .ref h0), (1, .int a1)] := hl
  obtain ⟨H, hH⟩ : ∃ H : Heap, s.heap = H := ⟨_, rfl⟩
  rw [hH] at hP ⊢
  have hS : va_S A s.heap H [] := by rw [← hH]; exact va_S.rf
  obtain ⟨locs, hlo⟩ : ∃ locs : List Loc, locs = [] := ⟨_, rfl⟩
  rw [← hlo] at hS ⊢
  refine lv_iload_n hx hb dX12_where_0 rfl (lv_at hl 1 rfl) ?_
  by_cases hs_1 : a1 = 0
  · refine lv_tableIn (tgt := 28) hx hb dX12_where_1 (by rw [hs_1]; decide) (by rw [hs_1]; decide) (off := 27) (by rw [hs_1]; rfl) (by decide) ?_
    refine lv_aload_n hx hb dX12_where_28 rfl (lv_at hl 0 rfl) ?_
    refine va_get (D := (dC, dI)) (ci := 12) (v := .ref qo8) (C := RX12) (T := TX12) (N := 11) hx hb hts uV_g1_X12 hown hK hP 0 rfl rfl 9 (by decide) (hts (.fieldLink RX12 62 "ClassMill" "verifier" "LClassMill$Verifier;") mw_g1_10) (fun _ h9 => h9) rfl dX12_where_29 ?_
    refine va_get (D := (dC, dI)) (ci := 11) (v := .int v1) (C := RX11) (T := TX11) (N := 21) hx hb hts uV_g1_X11 hown hK hP 1 rfl rfl 2 (by decide) (hts (.fieldLink RX12 172 "ClassMill$Verifier" "toldClass" "I") mw_g1_11) (fun _ h9 => h9) rfl dX12_where_32 ?_
    have hP9 := hP.sub (ws' := [(h0, .inr (12, [.ref qo1, .int (nI tn), .ref qo2, .ref qo3, .ref qo4, .ref qo5, .ref qo6, .int v7, .ref qo7, .ref qo8, .ref qo9])), (qo8, .inr (11, [.ref qo7, .ref qo43, .int v1, .int v2, .int v3, .ref qo57, .int v16, .int v17, .ref qo58, .ref qo59, .ref qo60, .ref qo61, .ref qo62, .ref qo63, .ref qo64, .ref qo65, .int v26, .int v27, .int v28, .int v29, .int v30]))]) [0, 1] rfl
    have hD9 := hD.sub (ws' := [(h0, .inr (12, [.ref qo1, .int (nI tn), .ref qo2, .ref qo3, .ref qo4, .ref qo5, .ref qo6, .int v7, .ref qo7, .ref qo8, .ref qo9])), (qo8, .inr (11, [.ref qo7, .ref qo43, .int v1, .int v2, .int v3, .ref qo57, .int v16, .int v17, .ref qo58, .ref qo59, .ref qo60, .ref qo61, .ref qo62, .ref qo63, .ref qo64, .ref qo65, .int v26, .int v27, .int v28, .int v29, .int v30]))]) [0, 1] (by decide) rfl
    have hK9 := hK.sub (tys' := []) [] rfl
    exact W.iret hx hb hr (fun t ht hW => ⟨⟨(v1), (), rfl, lf_where_96 a1 v7 v1 v2 v3 v16 v17 v26 v27 v28 v29 v30 hs_1, by rw [ht]; exact hP9, va_K.moved hW.alike hK9, hD9⟩, hS.F ht⟩) hS.2.2 dX12_where_35
  by_cases hs_2 : a1 = 1
  · refine lv_tableIn (tgt := 36) hx hb dX12_where_1 (by rw [hs_2]; decide) (by rw [hs_2]; decide) (off := 35) (by rw [hs_2]; rfl) (by decide) ?_
    refine lv_aload_n hx hb dX12_where_36 rfl (lv_at hl 0 rfl) ?_
    refine va_get (D := (dC, dI)) (ci := 12) (v := .ref qo8) (C := RX12) (T := TX12) (N := 11) hx hb hts uV_g1_X12 hown hK hP 0 rfl rfl 9 (by decide) (hts (.fieldLink RX12 62 "ClassMill" "verifier" "LClassMill$Verifier;") mw_g1_10) (fun _ h9 => h9) rfl dX12_where_37 ?_
    refine va_get (D := (dC, dI)) (ci := 11) (v := .int v2) (C := RX11) (T := TX11) (N := 21) hx hb hts uV_g1_X11 hown hK hP 1 rfl rfl 3 (by decide) (hts (.fieldLink RX12 175 "ClassMill$Verifier" "toldMethod" "I") mw_g1_12) (fun _ h9 => h9) rfl dX12_where_40 ?_
    have hP9 := hP.sub (ws' := [(h0, .inr (12, [.ref qo1, .int (nI tn), .ref qo2, .ref qo3, .ref qo4, .ref qo5, .ref qo6, .int v7, .ref qo7, .ref qo8, .ref qo9])), (qo8, .inr (11, [.ref qo7, .ref qo43, .int v1, .int v2, .int v3, .ref qo57, .int v16, .int v17, .ref qo58, .ref qo59, .ref qo60, .ref qo61, .ref qo62, .ref qo63, .ref qo64, .ref qo65, .int v26, .int v27, .int v28, .int v29, .int v30]))]) [0, 1] rfl
    have hD9 := hD.sub (ws' := [(h0, .inr (12, [.ref qo1, .int (nI tn), .ref qo2, .ref qo3, .ref qo4, .ref qo5, .ref qo6, .int v7, .ref qo7, .ref qo8, .ref qo9])), (qo8, .inr (11, [.ref qo7, .ref qo43, .int v1, .int v2, .int v3, .ref qo57, .int v16, .int v17, .ref qo58, .ref qo59, .ref qo60, .ref qo61, .ref qo62, .ref qo63, .ref qo64, .ref qo65, .int v26, .int v27, .int v28, .int v29, .int v30]))]) [0, 1] (by decide) rfl
    have hK9 := hK.sub (tys' := []) [] rfl
    exact W.iret hx hb hr (fun t ht hW => ⟨⟨(v2), (), rfl, lf_where_97 a1 v7 v1 v2 v3 v16 v17 v26 v27 v28 v29 v30 hs_1 hs_2, by rw [ht]; exact hP9, va_K.moved hW.alike hK9, hD9⟩, hS.F ht⟩) hS.2.2 dX12_where_43
  by_cases hs_3 : a1 = 2
  · refine lv_tableIn (tgt := 44) hx hb dX12_where_1 (by rw [hs_3]; decide) (by rw [hs_3]; decide) (off := 43) (by rw [hs_3]; rfl) (by decide) ?_
    refine lv_aload_n hx hb dX12_where_44 rfl (lv_at hl 0 rfl) ?_
    refine va_get (D := (dC, dI)) (ci := 12) (v := .ref qo8) (C := RX12) (T := TX12) (N := 11) hx hb hts uV_g1_X12 hown hK hP 0 rfl rfl 9 (by decide) (hts (.fieldLink RX12 62 "ClassMill" "verifier" "LClassMill$Verifier;") mw_g1_10) (fun _ h9 => h9) rfl dX12_where_45 ?_
    refine va_get (D := (dC, dI)) (ci := 11) (v := .int v3) (C := RX11) (T := TX11) (N := 21) hx hb hts uV_g1_X11 hown hK hP 1 rfl rfl 4 (by decide) (hts (.fieldLink RX12 178 "ClassMill$Verifier" "toldPlace" "I") mw_g1_13) (fun _ h9 => h9) rfl dX12_where_48 ?_
    have hP9 := hP.sub (ws' := [(h0, .inr (12, [.ref qo1, .int (nI tn), .ref qo2, .ref qo3, .ref qo4, .ref qo5, .ref qo6, .int v7, .ref qo7, .ref qo8, .ref qo9])), (qo8, .inr (11, [.ref qo7, .ref qo43, .int v1, .int v2, .int v3, .ref qo57, .int v16, .int v17, .ref qo58, .ref qo59, .ref qo60, .ref qo61, .ref qo62, .ref qo63, .ref qo64, .ref qo65, .int v26, .int v27, .int v28, .int v29, .int v30]))]) [0, 1] rfl
    have hD9 := hD.sub (ws' := [(h0, .inr (12, [.ref qo1, .int (nI tn), .ref qo2, .ref qo3, .ref qo4, .ref qo5, .ref qo6, .int v7, .ref qo7, .ref qo8, .ref qo9])), (qo8, .inr (11, [.ref qo7, .ref qo43, .int v1, .int v2, .int v3, .ref qo57, .int v16, .int v17, .ref qo58, .ref qo59, .ref qo60, .ref qo61, .ref qo62, .ref qo63, .ref qo64, .ref qo65, .int v26, .int v27, .int v28, .int v29, .int v30]))]) [0, 1] (by decide) rfl
    have hK9 := hK.sub (tys' := []) [] rfl
    exact W.iret hx hb hr (fun t ht hW => ⟨⟨(v3), (), rfl, lf_where_98 a1 v7 v1 v2 v3 v16 v17 v26 v27 v28 v29 v30 hs_1 hs_2 hs_3, by rw [ht]; exact hP9, va_K.moved hW.alike hK9, hD9⟩, hS.F ht⟩) hS.2.2 dX12_where_51
  refine lv_tableOut (tgt := 52) hx hb dX12_where_1 (by have a0 := lv_neT hs_1 (a := 0) rfl; have a1 := lv_neT hs_2 (a := 1) rfl; have a2 := lv_neT hs_3 (a := 2) rfl; omega) (by decide) ?_
  refine lv_iconst (v := (-1)) hx hb dX12_where_52 (by decide) ?_
  have hP9 := hP.sub (ws' := [(h0, .inr (12, [.ref qo1, .int (nI tn), .ref qo2, .ref qo3, .ref qo4, .ref qo5, .ref qo6, .int v7, .ref qo7, .ref qo8, .ref qo9])), (qo8, .inr (11, [.ref qo7, .ref qo43, .int v1, .int v2, .int v3, .ref qo57, .int v16, .int v17, .ref qo58, .ref qo59, .ref qo60, .ref qo61, .ref qo62, .ref qo63, .ref qo64, .ref qo65, .int v26, .int v27, .int v28, .int v29, .int v30]))]) [0, 1] rfl
  have hD9 := hD.sub (ws' := [(h0, .inr (12, [.ref qo1, .int (nI tn), .ref qo2, .ref qo3, .ref qo4, .ref qo5, .ref qo6, .int v7, .ref qo7, .ref qo8, .ref qo9])), (qo8, .inr (11, [.ref qo7, .ref qo43, .int v1, .int v2, .int v3, .ref qo57, .int v16, .int v17, .ref qo58, .ref qo59, .ref qo60, .ref qo61, .ref qo62, .ref qo63, .ref qo64, .ref qo65, .int v26, .int v27, .int v28, .int v29, .int v30]))]) [0, 1] (by decide) rfl
  have hK9 := hK.sub (tys' := []) [] rfl
  exact W.iret hx hb hr (fun t ht hW => ⟨⟨((-1)), (), rfl, lf_where_99 a1 v7 v1 v2 v3 v16 v17 v26 v27 v28 v29 v30 hs_1 hs_2 hs_3, by rw [ht]; exact hP9, va_K.moved hW.alike hK9, hD9⟩, hS.F ht⟩) hS.2.2 dX12_where_53
set_option maxHeartbeats 4000000 in
set_option maxRecDepth 100000 in
/-- lay -/
theorem mg_lay (l : Launch) (dC : Nat → ClassId) (dI : Nat → Nat → Nat) (sz : Nat) (h0 : Nat) (fs : List Value) (qt tn : Nat) (ct : ClassId) (f : Nat → Int32) (a1 : Int32) (hlen : fs.length = 155) (hf0 : fs[0]? = some (.ref qt)) (hf1 : fs[1]? = some (.int (nI tn))) (hbt : tn + 4 ≤ 6000) : Met l yX13_lay (.code yX13_lay cX13_lay 3 none :: VS_g1) ({ frames := 0, cells := 0, slots := 0, locals := 0 }) (va_Pc [.ref h0, .int a1] (fun U => U.heap.size = sz ∧ va_P (dC, dI) vwCl [(h0, .inr (13, fs)), (qt, .inl (ct, 6000, .inl f))] U.heap ∧ va_K (dC, dI) vwCl [(ct, .int)] U ∧ va_D (fun _ => True) [(h0, .inr (13, fs)), (qt, .inl (ct, 6000, .inl f))])) (va_Qv (fun (u : (List Value) × (Nat → Int32)) => match u with | (zo1, fo1) => zo1 = fs.set 1 (.int (nI (tn + 4))) ∧ fo1 = tm_lay f tn a1) (fun (u : (List Value) × (Nat → Int32)) (t : State) => match u with | (zo1, fo1) => va_P (dC, dI) vwCl [(h0, .inr (13, zo1)), (qt, .inl (ct, 6000, .inl fo1))] t.heap ∧ va_K (dC, dI) vwCl [(ct, .int)] t ∧ va_D (va_A [(h0, .inr (13, fs)), (qt, .inl (ct, 6000, .inl f))] sz) [(h0, .inr (13, zo1)), (qt, .inl (ct, 6000, .inl fo1))]) (va_A [(h0, .inr (13, fs)), (qt, .inl (ct, 6000, .inl f))] sz)) 0 0 (va_A [(h0, .inr (13, fs)), (qt, .inl (ct, 6000, .inl f))] sz) := by
  refine Met.ofW (cc := cX13_lay) (maxL := 3) (ret := none) (by decide) rfl ?_
  intro p e s m args below meth c s₁ B hml hv
  obtain ⟨rfl, hsz, hP, hK, hD0⟩ := hv
  have hx := B.exec
  have hb := B.bytes
  have hr := B.returns
  have hts := atoms_spec (ws := (.code yX13_lay cX13_lay 3 none :: VS_g1)) B.pre
  replace hts := fun w (h : w ∈ VS_g1) => hts w (List.mem_cons_of_mem _ h)
  have hown : s.vm.findClass RX13 = some m.cls := findClass_of_methodNamed B.named
  have hlocks := B.notSynchronized
  subst hsz
  have hD := hD0.self (sz := s.heap.size)
  generalize hAe : va_A [(h0, .inr (13, fs)), (qt, .inl (ct, 6000, .inl f))] s.heap.size = A at hD  ⊢
  have hA : ∀ q : Nat, s.heap.size ≤ q → A q := fun q h => by rw [← hAe]; exact Or.inr h
  have hP : va_P (dC, dI) vwCl [(h0, .inr (13, fs)), (qt, .inl (ct, 6000, .inl f))] s.heap := hP
  have hl := lv_entry ([.ref h0, .int a1]) (n := 3) (Nat.le_of_ble_eq_true rfl)
  rw [lg_entry_eq]
  generalize (lg_sl ([.ref h0, .int a1]) ++ List.replicate (3 - (lg_sl ([.ref h0, .int a1])).length) Slot.unset).toArray = ls at hl ⊢
  have hl : lv_has ls 3 [(0, .ref h0), (1, .int a1)] := hl
  obtain ⟨H, hH⟩ : ∃ H : Heap, s.heap = H := ⟨_, rfl⟩
  rw [hH] at hP ⊢
  have hS : va_S A s.heap H [] := by rw [← hH]; exact va_S.rf
  obtain ⟨locs, hlo⟩ : ∃ locs : List Loc, locs = [] := ⟨_, rfl⟩
  rw [← hlo] at hS ⊢
  refine lv_bipush (v := 24) hx hb dX13_lay_0 (by decide) ?_
  refine lv_istore_n (lv' := [(2, .int 24), (0, .ref h0), (1, .int a1)]) hx hb dX13_lay_2 rfl hl (by decide) rfl (fun ls hl => ?_)
  refine lv_iload_n hx hb dX13_lay_3 rfl (lv_at hl 0 rfl) ?_
  refine lv_if_lt (tgt := 39) hx hb dX13_lay_4 (by decide) (fun c_1 => (show False by revert c_1; decide).elim) (fun c_1 => ?_)
  refine lv_aload_n hx hb dX13_lay_7 rfl (lv_at hl 1 rfl) ?_
  refine va_get (D := (dC, dI)) (ci := 13) (v := .ref qt) (C := RX13) (T := TX13) (N := 155) hx hb hts uV_g1_X13 hown hK hP 0 rfl rfl 0 (by decide) (hts (.fieldLink RX13 9 "ClassMillModel" "tape" "[I") mw_g1_14) (fun _ h9 => h9) hf0 dX13_lay_8 ?_
  refine lv_aload_n hx hb dX13_lay_11 rfl (lv_at hl 1 rfl) ?_
  refine va_get (D := (dC, dI)) (ci := 13) (v := .int (nI tn)) (C := RX13) (T := TX13) (N := 155) hx hb hts uV_g1_X13 hown hK hP 0 rfl rfl 1 (by decide) (hts (.fieldLink RX13 312 "ClassMillModel" "taped" "I") mw_g1_15) (fun _ h9 => h9) hf1 dX13_lay_12 ?_
  refine lv_iload_n hx hb dX13_lay_15 rfl (lv_at hl 2 rfl) ?_
  refine lv_iload_n hx hb dX13_lay_16 rfl (lv_at hl 0 rfl) ?_
  refine lv_ishr hx hb dX13_lay_17 ?_
  refine lv_topi (fun y_2 ey_2 => ?_)
  refine lv_sipush (v := 255) hx hb dX13_lay_18 (by decide) ?_
  refine lv_iand hx hb dX13_lay_21 ?_
  refine lv_topi (fun y_3 ey_3 => ?_)
  refine va_iast hx hb hK hP hD hS 1 0 rfl rfl (i := (nI tn)) (x := y_3) (vp_in_nI (by omega) (by decide)) dX13_lay_22 ?_
  clear hP hD hS
  intro H locs hP hD hS
  obtain ⟨f_4, ef_4⟩ : ∃ zf : Nat → Int32, zf = upd f ((nI tn) : Int32).toNatClampNeg y_3 := ⟨_, rfl⟩
  rw [← ef_4] at hP hD
  replace hP : va_P (dC, dI) vwCl [(h0, .inr (13, fs)), (qt, .inl (ct, 6000, .inl f_4))] H := hP
  replace hD : va_D A [(h0, .inr (13, fs)), (qt, .inl (ct, 6000, .inl f_4))] := hD
  refine lv_aload_n hx hb dX13_lay_23 rfl (lv_at hl 1 rfl) ?_
  refine lv_dup hx hb dX13_lay_24 rfl ?_
  refine va_get (D := (dC, dI)) (ci := 13) (v := .int (nI tn)) (C := RX13) (T := TX13) (N := 155) hx hb hts uV_g1_X13 hown hK hP 0 rfl rfl 1 (by decide) (hts (.fieldLink RX13 312 "ClassMillModel" "taped" "I") mw_g1_15) (fun _ h9 => h9) hf1 dX13_lay_25 ?_
  refine lv_iconst (v := 1) hx hb dX13_lay_28 (by decide) ?_
  refine lv_iadd hx hb dX13_lay_29 ?_
  refine lv_topi (fun y_5 ey_5 => ?_)
  obtain rfl : y_5 = nI (tn + 1) := by rw [ey_5]; exact nI_1 _
  refine va_put (D := (dC, dI)) (ci := 13) (v := .int (nI (tn + 1))) (ty := .int) (C := RX13) (T := TX13) (N := 155) hx hb hts uV_g1_X13 tyX13 tyX13_ok nmX13 hown hK hP hD hS 0 rfl rfl 1 (by decide) (hts (.fieldLink RX13 312 "ClassMillModel" "taped" "I") mw_g1_15) (fun _ h9 => h9) rfl (by decide +kernel) rfl rfl (by rw [hlen]; decide) dX13_lay_30 ?_
  clear hP hD hS
  intro H locs hP hD hS
  obtain ⟨fs_6, efs_6⟩ : ∃ zf : List Value, zf = fs.set 1 (.int (nI (tn + 1))) := ⟨_, rfl⟩
  rw [← efs_6] at hP hD
  have hlfs_6 : fs_6.length = 155 := by rw [efs_6, List.length_set]; exact hlen
  have hfs_6_0 : fs_6[0]? = some (.ref qt) := by rw [efs_6, List.getElem?_set_ne (by decide)]; exact hf0
  have hfs_6_1 : fs_6[1]? = some (.int (nI (tn + 1))) := by rw [efs_6, List.getElem?_set_self (by rw [hlen]; decide)]
  replace hP : va_P (dC, dI) vwCl [(h0, .inr (13, fs_6)), (qt, .inl (ct, 6000, .inl f_4))] H := hP
  replace hD : va_D A [(h0, .inr (13, fs_6)), (qt, .inl (ct, 6000, .inl f_4))] := hD
  refine lv_iinc (v := 16) (lv' := [(2, .int 16), (0, .ref h0), (1, .int a1)]) hx hb dX13_lay_33 hl (k := 0) rfl (by decide) (by decide) rfl (fun ls hl => ?_)
  refine lv_goto (tgt := 3) hx hb dX13_lay_36 (by decide) ?_
  refine lv_iload_n hx hb dX13_lay_3 rfl (lv_at hl 0 rfl) ?_
  refine lv_if_lt (tgt := 39) hx hb dX13_lay_4 (by decide) (fun c_7 => (show False by revert c_7; decide).elim) (fun c_7 => ?_)
  refine lv_aload_n hx hb dX13_lay_7 rfl (lv_at hl 1 rfl) ?_
  refine va_get (D := (dC, dI)) (ci := 13) (v := .ref qt) (C := RX13) (T := TX13) (N := 155) hx hb hts uV_g1_X13 hown hK hP 0 rfl rfl 0 (by decide) (hts (.fieldLink RX13 9 "ClassMillModel" "tape" "[I") mw_g1_14) (fun _ h9 => h9) hfs_6_0 dX13_lay_8 ?_
  refine lv_aload_n hx hb dX13_lay_11 rfl (lv_at hl 1 rfl) ?_
  refine va_get (D := (dC, dI)) (ci := 13) (v := .int (nI (tn + 1))) (C := RX13) (T := TX13) (N := 155) hx hb hts uV_g1_X13 hown hK hP 0 rfl rfl 1 (by decide) (hts (.fieldLink RX13 312 "ClassMillModel" "taped" "I") mw_g1_15) (fun _ h9 => h9) hfs_6_1 dX13_lay_12 ?_
  refine lv_iload_n hx hb dX13_lay_15 rfl (lv_at hl 2 rfl) ?_
  refine lv_iload_n hx hb dX13_lay_16 rfl (lv_at hl 0 rfl) ?_
  refine lv_ishr hx hb dX13_lay_17 ?_
  refine lv_topi (fun y_8 ey_8 => ?_)
  refine lv_sipush (v := 255) hx hb dX13_lay_18 (by decide) ?_
  refine lv_iand hx hb dX13_lay_21 ?_
  refine lv_topi (fun y_9 ey_9 => ?_)
  refine va_iast hx hb hK hP hD hS 1 0 rfl rfl (i := (nI (tn + 1))) (x := y_9) (vp_in_nI (by omega) (by decide)) dX13_lay_22 ?_
  clear hP hD hS
  intro H locs hP hD hS
  obtain ⟨f_10, ef_10⟩ : ∃ zf : Nat → Int32, zf = upd f_4 ((nI (tn + 1)) : Int32).toNatClampNeg y_9 := ⟨_, rfl⟩
  rw [← ef_10] at hP hD
  replace hP : va_P (dC, dI) vwCl [(h0, .inr (13, fs_6)), (qt, .inl (ct, 6000, .inl f_10))] H := hP
  replace hD : va_D A [(h0, .inr (13, fs_6)), (qt, .inl (ct, 6000, .inl f_10))] := hD
  refine lv_aload_n hx hb dX13_lay_23 rfl (lv_at hl 1 rfl) ?_
  refine lv_dup hx hb dX13_lay_24 rfl ?_
  refine va_get (D := (dC, dI)) (ci := 13) (v := .int (nI (tn + 1))) (C := RX13) (T := TX13) (N := 155) hx hb hts uV_g1_X13 hown hK hP 0 rfl rfl 1 (by decide) (hts (.fieldLink RX13 312 "ClassMillModel" "taped" "I") mw_g1_15) (fun _ h9 => h9) hfs_6_1 dX13_lay_25 ?_
  refine lv_iconst (v := 1) hx hb dX13_lay_28 (by decide) ?_
  refine lv_iadd hx hb dX13_lay_29 ?_
  refine lv_topi (fun y_11 ey_11 => ?_)
  obtain rfl : y_11 = nI (tn + 2) := by rw [ey_11]; exact nI_1 _
  refine va_put (D := (dC, dI)) (ci := 13) (v := .int (nI (tn + 2))) (ty := .int) (C := RX13) (T := TX13) (N := 155) hx hb hts uV_g1_X13 tyX13 tyX13_ok nmX13 hown hK hP hD hS 0 rfl rfl 1 (by decide) (hts (.fieldLink RX13 312 "ClassMillModel" "taped" "I") mw_g1_15) (fun _ h9 => h9) rfl (by decide +kernel) rfl rfl (by rw [hlfs_6]; decide) dX13_lay_30 ?_
  clear hP hD hS
  intro H locs hP hD hS
  obtain ⟨fs_12, efs_12⟩ : ∃ zf : List Value, zf = fs_6.set 1 (.int (nI (tn + 2))) := ⟨_, rfl⟩
  rw [← efs_12] at hP hD
  have hlfs_12 : fs_12.length = 155 := by rw [efs_12, List.length_set]; exact hlfs_6
  have hfs_12_0 : fs_12[0]? = some (.ref qt) := by rw [efs_12, List.getElem?_set_ne (by decide)]; exact hfs_6_0
  have hfs_12_1 : fs_12[1]? = some (.int (nI (tn + 2))) := by rw [efs_12, List.getElem?_set_self (by rw [hlfs_6]; decide)]
  replace hP : va_P (dC, dI) vwCl [(h0, .inr (13, fs_12)), (qt, .inl (ct, 6000, .inl f_10))] H := hP
  replace hD : va_D A [(h0, .inr (13, fs_12)), (qt, .inl (ct, 6000, .inl f_10))] := hD
  refine lv_iinc (v := 8) (lv' := [(2, .int 8), (0, .ref h0), (1, .int a1)]) hx hb dX13_lay_33 hl (k := 0) rfl (by decide) (by decide) rfl (fun ls hl => ?_)
  refine lv_goto (tgt := 3) hx hb dX13_lay_36 (by decide) ?_
  refine lv_iload_n hx hb dX13_lay_3 rfl (lv_at hl 0 rfl) ?_
  refine lv_if_lt (tgt := 39) hx hb dX13_lay_4 (by decide) (fun c_13 => (show False by revert c_13; decide).elim) (fun c_13 => ?_)
  refine lv_aload_n hx hb dX13_lay_7 rfl (lv_at hl 1 rfl) ?_
  refine va_get (D := (dC, dI)) (ci := 13) (v := .ref qt) (C := RX13) (T := TX13) (N := 155) hx hb hts uV_g1_X13 hown hK hP 0 rfl rfl 0 (by decide) (hts (.fieldLink RX13 9 "ClassMillModel" "tape" "[I") mw_g1_14) (fun _ h9 => h9) hfs_12_0 dX13_lay_8 ?_
  refine lv_aload_n hx hb dX13_lay_11 rfl (lv_at hl 1 rfl) ?_
  refine va_get (D := (dC, dI)) (ci := 13) (v := .int (nI (tn + 2))) (C := RX13) (T := TX13) (N := 155) hx hb hts uV_g1_X13 hown hK hP 0 rfl rfl 1 (by decide) (hts (.fieldLink RX13 312 "ClassMillModel" "taped" "I") mw_g1_15) (fun _ h9 => h9) hfs_12_1 dX13_lay_12 ?_
  refine lv_iload_n hx hb dX13_lay_15 rfl (lv_at hl 2 rfl) ?_
  refine lv_iload_n hx hb dX13_lay_16 rfl (lv_at hl 0 rfl) ?_
  refine lv_ishr hx hb dX13_lay_17 ?_
  refine lv_topi (fun y_14 ey_14 => ?_)
  refine lv_sipush (v := 255) hx hb dX13_lay_18 (by decide) ?_
  refine lv_iand hx hb dX13_lay_21 ?_
  refine lv_topi (fun y_15 ey_15 => ?_)
  refine va_iast hx hb hK hP hD hS 1 0 rfl rfl (i := (nI (tn + 2))) (x := y_15) (vp_in_nI (by omega) (by decide)) dX13_lay_22 ?_
  clear hP hD hS
  intro H locs hP hD hS
  obtain ⟨f_16, ef_16⟩ : ∃ zf : Nat → Int32, zf = upd f_10 ((nI (tn + 2)) : Int32).toNatClampNeg y_15 := ⟨_, rfl⟩
  rw [← ef_16] at hP hD
  replace hP : va_P (dC, dI) vwCl [(h0, .inr (13, fs_12)), (qt, .inl (ct, 6000, .inl f_16))] H := hP
  replace hD : va_D A [(h0, .inr (13, fs_12)), (qt, .inl (ct, 6000, .inl f_16))] := hD
  refine lv_aload_n hx hb dX13_lay_23 rfl (lv_at hl 1 rfl) ?_
  refine lv_dup hx hb dX13_lay_24 rfl ?_
  refine va_get (D := (dC, dI)) (ci := 13) (v := .int (nI (tn + 2))) (C := RX13) (T := TX13) (N := 155) hx hb hts uV_g1_X13 hown hK hP 0 rfl rfl 1 (by decide) (hts (.fieldLink RX13 312 "ClassMillModel" "taped" "I") mw_g1_15) (fun _ h9 => h9) hfs_12_1 dX13_lay_25 ?_
  refine lv_iconst (v := 1) hx hb dX13_lay_28 (by decide) ?_
  refine lv_iadd hx hb dX13_lay_29 ?_
  refine lv_topi (fun y_17 ey_17 => ?_)
  obtain rfl : y_17 = nI (tn + 3) := by rw [ey_17]; exact nI_1 _
  refine va_put (D := (dC, dI)) (ci := 13) (v := .int (nI (tn + 3))) (ty := .int) (C := RX13) (T := TX13) (N := 155) hx hb hts uV_g1_X13 tyX13 tyX13_ok nmX13 hown hK hP hD hS 0 rfl rfl 1 (by decide) (hts (.fieldLink RX13 312 "ClassMillModel" "taped" "I") mw_g1_15) (fun _ h9 => h9) rfl (by decide +kernel) rfl rfl (by rw [hlfs_12]; decide) dX13_lay_30 ?_
  clear hP hD hS
  intro H locs hP hD hS
  obtain ⟨fs_18, efs_18⟩ : ∃ zf : List Value, zf = fs_12.set 1 (.int (nI (tn + 3))) := ⟨_, rfl⟩
  rw [← efs_18] at hP hD
  have hlfs_18 : fs_18.length = 155 := by rw [efs_18, List.length_set]; exact hlfs_12
  have hfs_18_0 : fs_18[0]? = some (.ref qt) := by rw [efs_18, List.getElem?_set_ne (by decide)]; exact hfs_12_0
  have hfs_18_1 : fs_18[1]? = some (.int (nI (tn + 3))) := by rw [efs_18, List.getElem?_set_self (by rw [hlfs_12]; decide)]
  replace hP : va_P (dC, dI) vwCl [(h0, .inr (13, fs_18)), (qt, .inl (ct, 6000, .inl f_16))] H := hP
  replace hD : va_D A [(h0, .inr (13, fs_18)), (qt, .inl (ct, 6000, .inl f_16))] := hD
  refine lv_iinc (v := 0) (lv' := [(2, .int 0), (0, .ref h0), (1, .int a1)]) hx hb dX13_lay_33 hl (k := 0) rfl (by decide) (by decide) rfl (fun ls hl => ?_)
  refine lv_goto (tgt := 3) hx hb dX13_lay_36 (by decide) ?_
  refine lv_iload_n hx hb dX13_lay_3 rfl (lv_at hl 0 rfl) ?_
  refine lv_if_lt (tgt := 39) hx hb dX13_lay_4 (by decide) (fun c_19 => (show False by revert c_19; decide).elim) (fun c_19 => ?_)
  refine lv_aload_n hx hb dX13_lay_7 rfl (lv_at hl 1 rfl) ?_
  refine va_get (D := (dC, dI)) (ci := 13) (v := .ref qt) (C := RX13) (T := TX13) (N := 155) hx hb hts uV_g1_X13 hown hK hP 0 rfl rfl 0 (by decide) (hts (.fieldLink RX13 9 "ClassMillModel" "tape" "[I") mw_g1_14) (fun _ h9 => h9) hfs_18_0 dX13_lay_8 ?_
  refine lv_aload_n hx hb dX13_lay_11 rfl (lv_at hl 1 rfl) ?_
  refine va_get (D := (dC, dI)) (ci := 13) (v := .int (nI (tn + 3))) (C := RX13) (T := TX13) (N := 155) hx hb hts uV_g1_X13 hown hK hP 0 rfl rfl 1 (by decide) (hts (.fieldLink RX13 312 "ClassMillModel" "taped" "I") mw_g1_15) (fun _ h9 => h9) hfs_18_1 dX13_lay_12 ?_
  refine lv_iload_n hx hb dX13_lay_15 rfl (lv_at hl 2 rfl) ?_
  refine lv_iload_n hx hb dX13_lay_16 rfl (lv_at hl 0 rfl) ?_
  refine lv_ishr hx hb dX13_lay_17 ?_
  refine lv_topi (fun y_20 ey_20 => ?_)
  refine lv_sipush (v := 255) hx hb dX13_lay_18 (by decide) ?_
  refine lv_iand hx hb dX13_lay_21 ?_
  refine lv_topi (fun y_21 ey_21 => ?_)
  refine va_iast hx hb hK hP hD hS 1 0 rfl rfl (i := (nI (tn + 3))) (x := y_21) (vp_in_nI (by omega) (by decide)) dX13_lay_22 ?_
  clear hP hD hS
  intro H locs hP hD hS
  obtain ⟨f_22, ef_22⟩ : ∃ zf : Nat → Int32, zf = upd f_16 ((nI (tn + 3)) : Int32).toNatClampNeg y_21 := ⟨_, rfl⟩
  rw [← ef_22] at hP hD
  replace hP : va_P (dC, dI) vwCl [(h0, .inr (13, fs_18)), (qt, .inl (ct, 6000, .inl f_22))] H := hP
  replace hD : va_D A [(h0, .inr (13, fs_18)), (qt, .inl (ct, 6000, .inl f_22))] := hD
  refine lv_aload_n hx hb dX13_lay_23 rfl (lv_at hl 1 rfl) ?_
  refine lv_dup hx hb dX13_lay_24 rfl ?_
  refine va_get (D := (dC, dI)) (ci := 13) (v := .int (nI (tn + 3))) (C := RX13) (T := TX13) (N := 155) hx hb hts uV_g1_X13 hown hK hP 0 rfl rfl 1 (by decide) (hts (.fieldLink RX13 312 "ClassMillModel" "taped" "I") mw_g1_15) (fun _ h9 => h9) hfs_18_1 dX13_lay_25 ?_
  refine lv_iconst (v := 1) hx hb dX13_lay_28 (by decide) ?_
  refine lv_iadd hx hb dX13_lay_29 ?_
  refine lv_topi (fun y_23 ey_23 => ?_)
  obtain rfl : y_23 = nI (tn + 4) := by rw [ey_23]; exact nI_1 _
  refine va_put (D := (dC, dI)) (ci := 13) (v := .int (nI (tn + 4))) (ty := .int) (C := RX13) (T := TX13) (N := 155) hx hb hts uV_g1_X13 tyX13 tyX13_ok nmX13 hown hK hP hD hS 0 rfl rfl 1 (by decide) (hts (.fieldLink RX13 312 "ClassMillModel" "taped" "I") mw_g1_15) (fun _ h9 => h9) rfl (by decide +kernel) rfl rfl (by rw [hlfs_18]; decide) dX13_lay_30 ?_
  clear hP hD hS
  intro H locs hP hD hS
  obtain ⟨fs_24, efs_24⟩ : ∃ zf : List Value, zf = fs_18.set 1 (.int (nI (tn + 4))) := ⟨_, rfl⟩
  rw [← efs_24] at hP hD
  have hlfs_24 : fs_24.length = 155 := by rw [efs_24, List.length_set]; exact hlfs_18
  have hfs_24_0 : fs_24[0]? = some (.ref qt) := by rw [efs_24, List.getElem?_set_ne (by decide)]; exact hfs_18_0
  have hfs_24_1 : fs_24[1]? = some (.int (nI (tn + 4))) := by rw [efs_24, List.getElem?_set_self (by rw [hlfs_18]; decide)]
  replace hP : va_P (dC, dI) vwCl [(h0, .inr (13, fs_24)), (qt, .inl (ct, 6000, .inl f_22))] H := hP
  replace hD : va_D A [(h0, .inr (13, fs_24)), (qt, .inl (ct, 6000, .inl f_22))] := hD
  refine lv_iinc (v := (-8)) (lv' := [(2, .int (-8)), (0, .ref h0), (1, .int a1)]) hx hb dX13_lay_33 hl (k := 0) rfl (by decide) (by decide) rfl (fun ls hl => ?_)
  refine lv_goto (tgt := 3) hx hb dX13_lay_36 (by decide) ?_
  refine lv_iload_n hx hb dX13_lay_3 rfl (lv_at hl 0 rfl) ?_
  refine lv_if_lt (tgt := 39) hx hb dX13_lay_4 (by decide) (fun c_25 => ?_) (fun c_25 => (show False by revert c_25; decide).elim)
  obtain ⟨z_26, ez_26⟩ : ∃ z : List Value, z = fs_24 := ⟨_, rfl⟩
  rw [← ez_26] at hP hD
  replace hP : va_P (dC, dI) vwCl [(h0, .inr (13, z_26)), (qt, .inl (ct, 6000, .inl f_22))] H := hP
  replace hD : va_D A [(h0, .inr (13, z_26)), (qt, .inl (ct, 6000, .inl f_22))] := hD
  have hP9 := hP.sub (ws' := [(h0, .inr (13, z_26)), (qt, .inl (ct, 6000, .inl f_22))]) [0, 1] rfl
  have hD9 := hD.sub (ws' := [(h0, .inr (13, z_26)), (qt, .inl (ct, 6000, .inl f_22))]) [0, 1] (by decide) rfl
  have hK9 := hK.sub (tys' := [(ct, .int)]) [0] rfl
  exact W.vret hx hb hr (fun t ht hW => ⟨⟨(z_26, f_22), rfl, ⟨by rw [ez_26, efs_24, efs_18, efs_12, efs_6]; simp only [List.set_set], by rw [ef_22, ef_16, ef_10, ef_4, ey_21, ey_20, ey_15, ey_14, ey_9, ey_8, ey_3, ey_2]; rw [nI_clamp (show tn < 2 ^ 31 by omega), nI_clamp (show tn + 1 < 2 ^ 31 by omega), nI_clamp (show tn + 2 < 2 ^ 31 by omega), nI_clamp (show tn + 3 < 2 ^ 31 by omega)]; rfl⟩, by rw [ht]; exact hP9, va_K.moved hW.alike hK9, hD9⟩, hS.F ht⟩) hS.2.2 dX13_lay_39
set_option maxHeartbeats 4000000 in
set_option maxRecDepth 100000 in
/-- feed of the reference -/
theorem mg_feed (l : Launch) (dC : Nat → ClassId) (dI : Nat → Nat → Nat) (sz : Nat) (h0 : Nat) (fs : List Value) (qt tn : Nat) (ct : ClassId) (f : Nat → Int32) (a1 a2 a3 a4 a5 : Int32) (hlen : fs.length = 155) (hf0 : fs[0]? = some (.ref qt)) (hf1 : fs[1]? = some (.int (nI tn))) (hbt : tn ≤ 6000) : Met l yX13_feed (.code yX13_feed cX13_feed 6 (some .int) :: VS_g1) ({ frames := 1, cells := 0, slots := 0, locals := 22 }) (va_Pc [.ref h0, .int a1, .int a2, .int a3, .int a4, .int a5] (fun U => U.heap.size = sz ∧ va_P (dC, dI) vwCl [(h0, .inr (13, fs)), (qt, .inl (ct, 6000, .inl f))] U.heap ∧ va_K (dC, dI) vwCl [(ct, .int)] U ∧ va_D (fun _ => True) [(h0, .inr (13, fs)), (qt, .inl (ct, 6000, .inl f))])) (va_Qi (fun (r : Int32) (u : (List Value) × (Nat → Int32)) => match u with | (zo1, fo1) => r = tg_feed tn ∧ zo1 = fs.set 1 (.int (nI (tg_taped tn))) ∧ fo1 = tm_feed f tn a1 a2 a3 a4 a5) (fun (u : (List Value) × (Nat → Int32)) (t : State) => match u with | (zo1, fo1) => va_P (dC, dI) vwCl [(h0, .inr (13, zo1)), (qt, .inl (ct, 6000, .inl fo1))] t.heap ∧ va_K (dC, dI) vwCl [(ct, .int)] t ∧ va_D (va_A [(h0, .inr (13, fs)), (qt, .inl (ct, 6000, .inl f))] sz) [(h0, .inr (13, zo1)), (qt, .inl (ct, 6000, .inl fo1))]) (va_A [(h0, .inr (13, fs)), (qt, .inl (ct, 6000, .inl f))] sz)) 0 0 (va_A [(h0, .inr (13, fs)), (qt, .inl (ct, 6000, .inl f))] sz) := by
  refine Met.ofW (cc := cX13_feed) (maxL := 6) (ret := (some .int)) (by decide) rfl ?_
  intro p e s m args below meth c s₁ B hml hv
  obtain ⟨rfl, hsz, hP, hK, hD0⟩ := hv
  have hx := B.exec
  have hb := B.bytes
  have hr := B.returns
  have hts := atoms_spec (ws := (.code yX13_feed cX13_feed 6 (some .int) :: VS_g1)) B.pre
  replace hts := fun w (h : w ∈ VS_g1) => hts w (List.mem_cons_of_mem _ h)
  have hown : s.vm.findClass RX13 = some m.cls := findClass_of_methodNamed B.named
  have hlocks := B.notSynchronized
  subst hsz
  have hD := hD0.self (sz := s.heap.size)
  generalize hAe : va_A [(h0, .inr (13, fs)), (qt, .inl (ct, 6000, .inl f))] s.heap.size = A at hD  ⊢
  have hA : ∀ q : Nat, s.heap.size ≤ q → A q := fun q h => by rw [← hAe]; exact Or.inr h
  have hP : va_P (dC, dI) vwCl [(h0, .inr (13, fs)), (qt, .inl (ct, 6000, .inl f))] s.heap := hP
  have hl := lv_entry ([.ref h0, .int a1, .int a2, .int a3, .int a4, .int a5]) (n := 6) (Nat.le_of_ble_eq_true rfl)
  rw [lg_entry_eq]
  generalize (lg_sl ([.ref h0, .int a1, .int a2, .int a3, .int a4, .int a5]) ++ List.replicate (6 - (lg_sl ([.ref h0, .int a1, .int a2, .int a3, .int a4, .int a5])).length) Slot.unset).toArray = ls at hl ⊢
  have hl : lv_has ls 6 [(0, .ref h0), (1, .int a1), (2, .int a2), (3, .int a3), (4, .int a4), (5, .int a5)] := hl
  obtain ⟨H, hH⟩ : ∃ H : Heap, s.heap = H := ⟨_, rfl⟩
  rw [hH] at hP ⊢
  have hS : va_S A s.heap H [] := by rw [← hH]; exact va_S.rf
  obtain ⟨locs, hlo⟩ : ∃ locs : List Loc, locs = [] := ⟨_, rfl⟩
  rw [← hlo] at hS ⊢
  refine lv_aload_n hx hb dX13_feed_0 rfl (lv_at hl 0 rfl) ?_
  refine va_get (D := (dC, dI)) (ci := 13) (v := .int (nI tn)) (C := RX13) (T := TX13) (N := 155) hx hb hts uV_g1_X13 hown hK hP 0 rfl rfl 1 (by decide) (hts (.fieldLink RX13 312 "ClassMillModel" "taped" "I") mw_g1_15) (fun _ h9 => h9) hf1 dX13_feed_1 ?_
  refine lv_bipush (v := 20) hx hb dX13_feed_4 (by decide) ?_
  refine lv_iadd hx hb dX13_feed_6 ?_
  refine lv_topi (fun y_1 ey_1 => ?_)
  refine lv_sipush (v := 6000) hx hb dX13_feed_7 (by decide) ?_
  obtain rfl : y_1 = nI (tn + 20) := by rw [ey_1]; exact nI_add tn 20
  by_cases h20 : tn + 20 ≤ 6000
  · refine lv_icmp_le (tgt := 15) hx hb dX13_feed_10 (by decide) (fun _ => ?_) (fun c_9 => absurd (tg_le h20) c_9)
    refine lv_aload_n hx hb dX13_feed_15 rfl (lv_at hl 0 rfl) ?_
    refine lv_iload_n hx hb dX13_feed_16 rfl (lv_at hl 1 rfl) ?_
    have hPc := hP.sub (ws' := [(h0, .inr (13, fs)), (qt, .inl (ct, 6000, .inl f))]) [0, 1] rfl
    have hDc := hD.sub (ws' := [(h0, .inr (13, fs)), (qt, .inl (ct, 6000, .inl f))]) [0, 1] (by decide) rfl
    have hKc := hK.sub (tys' := [(ct, .int)]) [0] rfl
    have hFc := va_free (wc := [(h0, .inr (13, fs)), (qt, .inl (ct, 6000, .inl f))]) hD hS hA [0, 1] rfl
    refine va_callv (va_runV (As := [.int a1]) (rest := []) ⟨hx, hb, hml, hown, hts⟩ (mg_lay l dC dI H.size h0 fs qt tn ct f a1 hlen hf0 hf1 (by omega)) (cwV 1 hts gv_g1_1 rfl rfl rfl (by decide +kernel) ⟨Nat.le_of_ble_eq_true rfl, Nat.le_of_ble_eq_true rfl⟩) ⟨fun a U g mk q => by obtain ⟨q0, q1, qP, qK, qD⟩ := q; exact ⟨q0, q1, qP, va_K.moved (u := U) (U := U.calling g mk a) (Vm.Alike.refl U.vm) qK, qD⟩, va_recv hKc hPc (ci := 13) (q0 := 0) rfl rfl, fun U hU hW => ⟨rfl, by rw [hU], by rw [hU]; exact hPc, va_K.moved hW.alike hKc, hDc.weaken (fun _ _ _ _ => trivial)⟩⟩ rfl rfl hl.1 rfl (lv_room (Nat.le_of_ble_eq_true rfl)) dX13_feed_17 ⟨Nat.le_of_ble_eq_true rfl, Nat.le_of_ble_eq_true rfl⟩) hS (fun q _ h => hFc q h) hFc ?_
    clear hS
    intro u t H1 locs ht hvm hw hB hz1 hk1 hS
    obtain ⟨z_2, f_3⟩ := u
    obtain ⟨hP1, hK1, hD1⟩ := hB
    rw [ht] at hP1
    have hK1 := va_K.moved hvm.symm hK1
    try dsimp only at hw
    have hPD := va_join (wr := []) (w1 := [(h0, .inr (13, z_2)), (qt, .inl (ct, 6000, .inl f_3))]) hP hD [0, 1] [] rfl rfl (by decide) (by decide) hk1 hFc hP1 hD1
    clear hP hD
    obtain ⟨hP, hD⟩ := hPD
    replace hK := (hK.sub (tys' := []) [] rfl).app hK1
    clear hPc hDc hKc hFc hP1 hK1 hD1 hz1 hk1 ht hvm
    generalize H1 = H at hP hS ⊢
    replace hP : va_P (dC, dI) vwCl [(h0, .inr (13, z_2)), (qt, .inl (ct, 6000, .inl f_3))] H := hP
    replace hD : va_D A [(h0, .inr (13, z_2)), (qt, .inl (ct, 6000, .inl f_3))] := hD
    replace hK : va_K (dC, dI) vwCl [(ct, .int)] s := hK
    obtain ⟨hq0, hg0⟩ := hw
    have hLz_2 : z_2.length = 155 := by rw [hq0, List.length_set]; exact hlen
    have hFz_2_0 : z_2[0]? = some (.ref qt) := by rw [hq0, List.getElem?_set_ne (by decide)]; exact hf0
    have hFz_2_1 : z_2[1]? = some (.int (nI (tn + 4))) := by rw [hq0, List.getElem?_set_self (by (try simp only [List.length_set]); rw [hlen]; decide)]
    refine lv_aload_n hx hb dX13_feed_20 rfl (lv_at hl 0 rfl) ?_
    refine lv_iload_n hx hb dX13_feed_21 rfl (lv_at hl 2 rfl) ?_
    have hPc := hP.sub (ws' := [(h0, .inr (13, z_2)), (qt, .inl (ct, 6000, .inl f_3))]) [0, 1] rfl
    have hDc := hD.sub (ws' := [(h0, .inr (13, z_2)), (qt, .inl (ct, 6000, .inl f_3))]) [0, 1] (by decide) rfl
    have hKc := hK.sub (tys' := [(ct, .int)]) [0] rfl
    have hFc := va_free (wc := [(h0, .inr (13, z_2)), (qt, .inl (ct, 6000, .inl f_3))]) hD hS hA [0, 1] rfl
    refine va_callv (va_runV (As := [.int a2]) (rest := []) ⟨hx, hb, hml, hown, hts⟩ (mg_lay l dC dI H.size h0 z_2 qt ((tn + 4)) ct f_3 a2 hLz_2 hFz_2_0 hFz_2_1 (by omega)) (cwV 1 hts gv_g1_1 rfl rfl rfl (by decide +kernel) ⟨Nat.le_of_ble_eq_true rfl, Nat.le_of_ble_eq_true rfl⟩) ⟨fun a U g mk q => by obtain ⟨q0, q1, qP, qK, qD⟩ := q; exact ⟨q0, q1, qP, va_K.moved (u := U) (U := U.calling g mk a) (Vm.Alike.refl U.vm) qK, qD⟩, va_recv hKc hPc (ci := 13) (q0 := 0) rfl rfl, fun U hU hW => ⟨rfl, by rw [hU], by rw [hU]; exact hPc, va_K.moved hW.alike hKc, hDc.weaken (fun _ _ _ _ => trivial)⟩⟩ rfl rfl hl.1 rfl (lv_room (Nat.le_of_ble_eq_true rfl)) dX13_feed_22 ⟨Nat.le_of_ble_eq_true rfl, Nat.le_of_ble_eq_true rfl⟩) hS (fun q _ h => hFc q h) hFc ?_
    clear hS
    intro u t H1 locs ht hvm hw hB hz1 hk1 hS
    obtain ⟨z_4, f_5⟩ := u
    obtain ⟨hP1, hK1, hD1⟩ := hB
    rw [ht] at hP1
    have hK1 := va_K.moved hvm.symm hK1
    try dsimp only at hw
    have hPD := va_join (wr := []) (w1 := [(h0, .inr (13, z_4)), (qt, .inl (ct, 6000, .inl f_5))]) hP hD [0, 1] [] rfl rfl (by decide) (by decide) hk1 hFc hP1 hD1
    clear hP hD
    obtain ⟨hP, hD⟩ := hPD
    replace hK := (hK.sub (tys' := []) [] rfl).app hK1
    clear hPc hDc hKc hFc hP1 hK1 hD1 hz1 hk1 ht hvm
    generalize H1 = H at hP hS ⊢
    replace hP : va_P (dC, dI) vwCl [(h0, .inr (13, z_4)), (qt, .inl (ct, 6000, .inl f_5))] H := hP
    replace hD : va_D A [(h0, .inr (13, z_4)), (qt, .inl (ct, 6000, .inl f_5))] := hD
    replace hK : va_K (dC, dI) vwCl [(ct, .int)] s := hK
    obtain ⟨hq1, hg1⟩ := hw
    have hLz_4 : z_4.length = 155 := by rw [hq1, List.length_set]; exact hLz_2
    have hFz_4_0 : z_4[0]? = some (.ref qt) := by rw [hq1, List.getElem?_set_ne (by decide)]; exact hFz_2_0
    have hFz_4_1 : z_4[1]? = some (.int (nI (tn + 8))) := by rw [hq1, List.getElem?_set_self (by (try simp only [List.length_set]); rw [hLz_2]; decide)]
    refine lv_aload_n hx hb dX13_feed_25 rfl (lv_at hl 0 rfl) ?_
    refine lv_iload_n hx hb dX13_feed_26 rfl (lv_at hl 3 rfl) ?_
    have hPc := hP.sub (ws' := [(h0, .inr (13, z_4)), (qt, .inl (ct, 6000, .inl f_5))]) [0, 1] rfl
    have hDc := hD.sub (ws' := [(h0, .inr (13, z_4)), (qt, .inl (ct, 6000, .inl f_5))]) [0, 1] (by decide) rfl
    have hKc := hK.sub (tys' := [(ct, .int)]) [0] rfl
    have hFc := va_free (wc := [(h0, .inr (13, z_4)), (qt, .inl (ct, 6000, .inl f_5))]) hD hS hA [0, 1] rfl
    refine va_callv (va_runV (As := [.int a3]) (rest := []) ⟨hx, hb, hml, hown, hts⟩ (mg_lay l dC dI H.size h0 z_4 qt ((tn + 8)) ct f_5 a3 hLz_4 hFz_4_0 hFz_4_1 (by omega)) (cwV 1 hts gv_g1_1 rfl rfl rfl (by decide +kernel) ⟨Nat.le_of_ble_eq_true rfl, Nat.le_of_ble_eq_true rfl⟩) ⟨fun a U g mk q => by obtain ⟨q0, q1, qP, qK, qD⟩ := q; exact ⟨q0, q1, qP, va_K.moved (u := U) (U := U.calling g mk a) (Vm.Alike.refl U.vm) qK, qD⟩, va_recv hKc hPc (ci := 13) (q0 := 0) rfl rfl, fun U hU hW => ⟨rfl, by rw [hU], by rw [hU]; exact hPc, va_K.moved hW.alike hKc, hDc.weaken (fun _ _ _ _ => trivial)⟩⟩ rfl rfl hl.1 rfl (lv_room (Nat.le_of_ble_eq_true rfl)) dX13_feed_27 ⟨Nat.le_of_ble_eq_true rfl, Nat.le_of_ble_eq_true rfl⟩) hS (fun q _ h => hFc q h) hFc ?_
    clear hS
    intro u t H1 locs ht hvm hw hB hz1 hk1 hS
    obtain ⟨z_6, f_7⟩ := u
    obtain ⟨hP1, hK1, hD1⟩ := hB
    rw [ht] at hP1
    have hK1 := va_K.moved hvm.symm hK1
    try dsimp only at hw
    have hPD := va_join (wr := []) (w1 := [(h0, .inr (13, z_6)), (qt, .inl (ct, 6000, .inl f_7))]) hP hD [0, 1] [] rfl rfl (by decide) (by decide) hk1 hFc hP1 hD1
    clear hP hD
    obtain ⟨hP, hD⟩ := hPD
    replace hK := (hK.sub (tys' := []) [] rfl).app hK1
    clear hPc hDc hKc hFc hP1 hK1 hD1 hz1 hk1 ht hvm
    generalize H1 = H at hP hS ⊢
    replace hP : va_P (dC, dI) vwCl [(h0, .inr (13, z_6)), (qt, .inl (ct, 6000, .inl f_7))] H := hP
    replace hD : va_D A [(h0, .inr (13, z_6)), (qt, .inl (ct, 6000, .inl f_7))] := hD
    replace hK : va_K (dC, dI) vwCl [(ct, .int)] s := hK
    obtain ⟨hq2, hg2⟩ := hw
    have hLz_6 : z_6.length = 155 := by rw [hq2, List.length_set]; exact hLz_4
    have hFz_6_0 : z_6[0]? = some (.ref qt) := by rw [hq2, List.getElem?_set_ne (by decide)]; exact hFz_4_0
    have hFz_6_1 : z_6[1]? = some (.int (nI (tn + 12))) := by rw [hq2, List.getElem?_set_self (by (try simp only [List.length_set]); rw [hLz_4]; decide)]
    refine lv_aload_n hx hb dX13_feed_30 rfl (lv_at hl 0 rfl) ?_
    refine lv_iload hx hb dX13_feed_31 (lv_at hl 4 rfl) ?_
    have hPc := hP.sub (ws' := [(h0, .inr (13, z_6)), (qt, .inl (ct, 6000, .inl f_7))]) [0, 1] rfl
    have hDc := hD.sub (ws' := [(h0, .inr (13, z_6)), (qt, .inl (ct, 6000, .inl f_7))]) [0, 1] (by decide) rfl
    have hKc := hK.sub (tys' := [(ct, .int)]) [0] rfl
    have hFc := va_free (wc := [(h0, .inr (13, z_6)), (qt, .inl (ct, 6000, .inl f_7))]) hD hS hA [0, 1] rfl
    refine va_callv (va_runV (As := [.int a4]) (rest := []) ⟨hx, hb, hml, hown, hts⟩ (mg_lay l dC dI H.size h0 z_6 qt ((tn + 12)) ct f_7 a4 hLz_6 hFz_6_0 hFz_6_1 (by omega)) (cwV 1 hts gv_g1_1 rfl rfl rfl (by decide +kernel) ⟨Nat.le_of_ble_eq_true rfl, Nat.le_of_ble_eq_true rfl⟩) ⟨fun a U g mk q => by obtain ⟨q0, q1, qP, qK, qD⟩ := q; exact ⟨q0, q1, qP, va_K.moved (u := U) (U := U.calling g mk a) (Vm.Alike.refl U.vm) qK, qD⟩, va_recv hKc hPc (ci := 13) (q0 := 0) rfl rfl, fun U hU hW => ⟨rfl, by rw [hU], by rw [hU]; exact hPc, va_K.moved hW.alike hKc, hDc.weaken (fun _ _ _ _ => trivial)⟩⟩ rfl rfl hl.1 rfl (lv_room (Nat.le_of_ble_eq_true rfl)) dX13_feed_33 ⟨Nat.le_of_ble_eq_true rfl, Nat.le_of_ble_eq_true rfl⟩) hS (fun q _ h => hFc q h) hFc ?_
    clear hS
    intro u t H1 locs ht hvm hw hB hz1 hk1 hS
    obtain ⟨z_8, f_9⟩ := u
    obtain ⟨hP1, hK1, hD1⟩ := hB
    rw [ht] at hP1
    have hK1 := va_K.moved hvm.symm hK1
    try dsimp only at hw
    have hPD := va_join (wr := []) (w1 := [(h0, .inr (13, z_8)), (qt, .inl (ct, 6000, .inl f_9))]) hP hD [0, 1] [] rfl rfl (by decide) (by decide) hk1 hFc hP1 hD1
    clear hP hD
    obtain ⟨hP, hD⟩ := hPD
    replace hK := (hK.sub (tys' := []) [] rfl).app hK1
    clear hPc hDc hKc hFc hP1 hK1 hD1 hz1 hk1 ht hvm
    generalize H1 = H at hP hS ⊢
    replace hP : va_P (dC, dI) vwCl [(h0, .inr (13, z_8)), (qt, .inl (ct, 6000, .inl f_9))] H := hP
    replace hD : va_D A [(h0, .inr (13, z_8)), (qt, .inl (ct, 6000, .inl f_9))] := hD
    replace hK : va_K (dC, dI) vwCl [(ct, .int)] s := hK
    obtain ⟨hq3, hg3⟩ := hw
    have hLz_8 : z_8.length = 155 := by rw [hq3, List.length_set]; exact hLz_6
    have hFz_8_0 : z_8[0]? = some (.ref qt) := by rw [hq3, List.getElem?_set_ne (by decide)]; exact hFz_6_0
    have hFz_8_1 : z_8[1]? = some (.int (nI (tn + 16))) := by rw [hq3, List.getElem?_set_self (by (try simp only [List.length_set]); rw [hLz_6]; decide)]
    refine lv_aload_n hx hb dX13_feed_36 rfl (lv_at hl 0 rfl) ?_
    refine lv_iload hx hb dX13_feed_37 (lv_at hl 5 rfl) ?_
    have hPc := hP.sub (ws' := [(h0, .inr (13, z_8)), (qt, .inl (ct, 6000, .inl f_9))]) [0, 1] rfl
    have hDc := hD.sub (ws' := [(h0, .inr (13, z_8)), (qt, .inl (ct, 6000, .inl f_9))]) [0, 1] (by decide) rfl
    have hKc := hK.sub (tys' := [(ct, .int)]) [0] rfl
    have hFc := va_free (wc := [(h0, .inr (13, z_8)), (qt, .inl (ct, 6000, .inl f_9))]) hD hS hA [0, 1] rfl
    refine va_callv (va_runV (As := [.int a5]) (rest := []) ⟨hx, hb, hml, hown, hts⟩ (mg_lay l dC dI H.size h0 z_8 qt ((tn + 16)) ct f_9 a5 hLz_8 hFz_8_0 hFz_8_1 (by omega)) (cwV 1 hts gv_g1_1 rfl rfl rfl (by decide +kernel) ⟨Nat.le_of_ble_eq_true rfl, Nat.le_of_ble_eq_true rfl⟩) ⟨fun a U g mk q => by obtain ⟨q0, q1, qP, qK, qD⟩ := q; exact ⟨q0, q1, qP, va_K.moved (u := U) (U := U.calling g mk a) (Vm.Alike.refl U.vm) qK, qD⟩, va_recv hKc hPc (ci := 13) (q0 := 0) rfl rfl, fun U hU hW => ⟨rfl, by rw [hU], by rw [hU]; exact hPc, va_K.moved hW.alike hKc, hDc.weaken (fun _ _ _ _ => trivial)⟩⟩ rfl rfl hl.1 rfl (lv_room (Nat.le_of_ble_eq_true rfl)) dX13_feed_39 ⟨Nat.le_of_ble_eq_true rfl, Nat.le_of_ble_eq_true rfl⟩) hS (fun q _ h => hFc q h) hFc ?_
    clear hS
    intro u t H1 locs ht hvm hw hB hz1 hk1 hS
    obtain ⟨z_10, f_11⟩ := u
    obtain ⟨hP1, hK1, hD1⟩ := hB
    rw [ht] at hP1
    have hK1 := va_K.moved hvm.symm hK1
    try dsimp only at hw
    have hPD := va_join (wr := []) (w1 := [(h0, .inr (13, z_10)), (qt, .inl (ct, 6000, .inl f_11))]) hP hD [0, 1] [] rfl rfl (by decide) (by decide) hk1 hFc hP1 hD1
    clear hP hD
    obtain ⟨hP, hD⟩ := hPD
    replace hK := (hK.sub (tys' := []) [] rfl).app hK1
    clear hPc hDc hKc hFc hP1 hK1 hD1 hz1 hk1 ht hvm
    generalize H1 = H at hP hS ⊢
    replace hP : va_P (dC, dI) vwCl [(h0, .inr (13, z_10)), (qt, .inl (ct, 6000, .inl f_11))] H := hP
    replace hD : va_D A [(h0, .inr (13, z_10)), (qt, .inl (ct, 6000, .inl f_11))] := hD
    replace hK : va_K (dC, dI) vwCl [(ct, .int)] s := hK
    obtain ⟨hq4, hg4⟩ := hw
    have hLz_10 : z_10.length = 155 := by rw [hq4, List.length_set]; exact hLz_8
    have hFz_10_0 : z_10[0]? = some (.ref qt) := by rw [hq4, List.getElem?_set_ne (by decide)]; exact hFz_8_0
    have hFz_10_1 : z_10[1]? = some (.int (nI (tn + 20))) := by rw [hq4, List.getElem?_set_self (by (try simp only [List.length_set]); rw [hLz_8]; decide)]
    refine lv_aload_n hx hb dX13_feed_42 rfl (lv_at hl 0 rfl) ?_
    refine va_get (D := (dC, dI)) (ci := 13) (v := .int (nI (tn + 20))) (C := RX13) (T := TX13) (N := 155) hx hb hts uV_g1_X13 hown hK hP 0 rfl rfl 1 (by decide) (hts (.fieldLink RX13 312 "ClassMillModel" "taped" "I") mw_g1_15) (fun _ h9 => h9) hFz_10_1 dX13_feed_43 ?_
    obtain ⟨z_f, ez_f⟩ : ∃ z : List Value, z = z_10 := ⟨_, rfl⟩
    rw [← ez_f] at hP hD
    replace hP : va_P (dC, dI) vwCl [(h0, .inr (13, z_f)), (qt, .inl (ct, 6000, .inl f_11))] H := hP
    replace hD : va_D A [(h0, .inr (13, z_f)), (qt, .inl (ct, 6000, .inl f_11))] := hD
    have hP9 := hP.sub (ws' := [(h0, .inr (13, z_f)), (qt, .inl (ct, 6000, .inl f_11))]) [0, 1] rfl
    have hD9 := hD.sub (ws' := [(h0, .inr (13, z_f)), (qt, .inl (ct, 6000, .inl f_11))]) [0, 1] (by decide) rfl
    have hK9 := hK.sub (tys' := [(ct, .int)]) [0] rfl
    exact W.iret hx hb hr (fun t ht hW => ⟨⟨((nI (tn + 20))), (z_f, f_11), rfl, ⟨by unfold tg_feed; rw [if_pos h20], by unfold tg_taped; rw [if_pos h20, ez_f, hq4, hq3, hq2, hq1, hq0]; simp only [List.set_set], by unfold tm_feed; rw [if_pos h20, hg4, hg3, hg2, hg1, hg0]⟩, by rw [ht]; exact hP9, va_K.moved hW.alike hK9, hD9⟩, hS.F ht⟩) hS.2.2 dX13_feed_46
  refine lv_icmp_le (tgt := 15) hx hb dX13_feed_10 (by decide) (fun c_9 => absurd c_9 (tg_nle h20 (by omega))) (fun _ => ?_)
  refine lv_iconst (v := (-1)) hx hb dX13_feed_13 (by decide) ?_
  have hP9 := hP.sub (ws' := [(h0, .inr (13, fs)), (qt, .inl (ct, 6000, .inl f))]) [0, 1] rfl
  have hD9 := hD.sub (ws' := [(h0, .inr (13, fs)), (qt, .inl (ct, 6000, .inl f))]) [0, 1] (by decide) rfl
  have hK9 := hK.sub (tys' := [(ct, .int)]) [0] rfl
  exact W.iret hx hb hr (fun t ht hW => ⟨⟨(-1), (fs, f), rfl, ⟨by unfold tg_feed; rw [if_neg h20], by unfold tg_taped; rw [if_neg h20, tg_set hf1], by unfold tm_feed; rw [if_neg h20]⟩, by rw [ht]; exact hP9, va_K.moved hW.alike hK9, hD9⟩, hS.F ht⟩) hS.2.2 dX13_feed_14
set_option maxHeartbeats 4000000 in
set_option maxRecDepth 100000 in
/-- end of the reference -/
theorem mg_end (l : Launch) (dC : Nat → ClassId) (dI : Nat → Nat → Nat) (sz : Nat) (h0 : Nat) (fs : List Value) (tn : Nat) (a1 : Int32) (hlen : fs.length = 155) (hf1 : fs[1]? = some (.int (nI tn))) (hbt : tn ≤ 6000) : Met l yX13_end (.code yX13_end cX13_end 2 (some .boolean) :: VS_g1) ({ frames := 0, cells := 0, slots := 0, locals := 0 }) (va_Pc [.ref h0, .int a1] (fun U => U.heap.size = sz ∧ va_P (dC, dI) vwCl [(h0, .inr (13, fs))] U.heap ∧ va_K (dC, dI) vwCl [] U ∧ va_D (fun _ => True) [(h0, .inr (13, fs))])) (va_Qi (fun (r : Int32) (u : (List Value)) => match u with | (zo1) => r = tg_end tn a1 ∧ zo1 = fs.set 1 (.int (nI (tg_cut tn a1)))) (fun (u : (List Value)) (t : State) => match u with | (zo1) => va_P (dC, dI) vwCl [(h0, .inr (13, zo1))] t.heap ∧ va_K (dC, dI) vwCl [] t ∧ va_D (va_A [(h0, .inr (13, fs))] sz) [(h0, .inr (13, zo1))]) (va_A [(h0, .inr (13, fs))] sz)) 0 0 (va_A [(h0, .inr (13, fs))] sz) := by
  refine Met.ofW (cc := cX13_end) (maxL := 2) (ret := (some .boolean)) (by decide) rfl ?_
  intro p e s m args below meth c s₁ B hml hv
  obtain ⟨rfl, hsz, hP, hK, hD0⟩ := hv
  have hx := B.exec
  have hb := B.bytes
  have hr := B.returns
  have hts := atoms_spec (ws := (.code yX13_end cX13_end 2 (some .boolean) :: VS_g1)) B.pre
  replace hts := fun w (h : w ∈ VS_g1) => hts w (List.mem_cons_of_mem _ h)
  have hown : s.vm.findClass RX13 = some m.cls := findClass_of_methodNamed B.named
  have hlocks := B.notSynchronized
  subst hsz
  have hD := hD0.self (sz := s.heap.size)
  generalize hAe : va_A [(h0, .inr (13, fs))] s.heap.size = A at hD  ⊢
  have hA : ∀ q : Nat, s.heap.size ≤ q → A q := fun q h => by rw [← hAe]; exact Or.inr h
  have hP : va_P (dC, dI) vwCl [(h0, .inr (13, fs))] s.heap := hP
  have hl := lv_entry ([.ref h0, .int a1]) (n := 2) (Nat.le_of_ble_eq_true rfl)
  rw [lg_entry_eq]
  generalize (lg_sl ([.ref h0, .int a1]) ++ List.replicate (2 - (lg_sl ([.ref h0, .int a1])).length) Slot.unset).toArray = ls at hl ⊢
  have hl : lv_has ls 2 [(0, .ref h0), (1, .int a1)] := hl
  obtain ⟨H, hH⟩ : ∃ H : Heap, s.heap = H := ⟨_, rfl⟩
  rw [hH] at hP ⊢
  have hS : va_S A s.heap H [] := by rw [← hH]; exact va_S.rf
  obtain ⟨locs, hlo⟩ : ∃ locs : List Loc, locs = [] := ⟨_, rfl⟩
  rw [← hlo] at hS ⊢
  refine lv_iload_n hx hb dX13_end_0 rfl (lv_at hl 1 rfl) ?_
  refine lv_if_lt (tgt := 12) hx hb dX13_end_1 (by decide) (fun c_1 => ?_) (fun c_1 => ?_)
  · have c_1_ := c_1
    refine lv_iconst (v := 0) hx hb dX13_end_12 (by decide) ?_
    obtain ⟨z_n, ez_n⟩ : ∃ z : List Value, z = fs := ⟨_, rfl⟩
    rw [← ez_n] at hP hD
    replace hP : va_P (dC, dI) vwCl [(h0, .inr (13, z_n))] H := hP
    replace hD : va_D A [(h0, .inr (13, z_n))] := hD
    have hP9 := hP.sub (ws' := [(h0, .inr (13, z_n))]) [0] rfl
    have hD9 := hD.sub (ws' := [(h0, .inr (13, z_n))]) [0] (by decide) rfl
    have hK9 := hK.sub (tys' := []) [] rfl
    exact W.zret hx hb hr (by decide) (fun t ht hW => ⟨⟨0, (z_n), rfl, ⟨by unfold tg_end; rw [if_pos c_1], by unfold tg_cut; rw [if_pos c_1, tg_set hf1]; exact ez_n⟩, by rw [ht]; exact hP9, va_K.moved hW.alike hK9, hD9⟩, hS.F ht⟩) hS.2.2 dX13_end_13
  · have c_1_ := c_1
    refine lv_iload_n hx hb dX13_end_4 rfl (lv_at hl 1 rfl) ?_
    refine lv_aload_n hx hb dX13_end_5 rfl (lv_at hl 0 rfl) ?_
    refine va_get (D := (dC, dI)) (ci := 13) (v := .int (nI tn)) (C := RX13) (T := TX13) (N := 155) hx hb hts uV_g1_X13 hown hK hP 0 rfl rfl 1 (by decide) (hts (.fieldLink RX13 312 "ClassMillModel" "taped" "I") mw_g1_15) (fun _ h9 => h9) hf1 dX13_end_6 ?_
    refine lv_icmp_le (tgt := 14) hx hb dX13_end_9 (by decide) (fun c_2 => ?_) (fun c_2 => ?_)
    · have c_2_ := c_2
      have ha := tg_cutI c_1 c_2
      refine lv_aload_n hx hb dX13_end_14 rfl (lv_at hl 0 rfl) ?_
      refine lv_iload_n hx hb dX13_end_15 rfl (lv_at hl 1 rfl) ?_
      refine va_put (D := (dC, dI)) (ci := 13) (v := .int a1) (ty := .int) (C := RX13) (T := TX13) (N := 155) hx hb hts uV_g1_X13 tyX13 tyX13_ok nmX13 hown hK hP hD hS 0 rfl rfl 1 (by decide) (hts (.fieldLink RX13 312 "ClassMillModel" "taped" "I") mw_g1_15) (fun _ h9 => h9) rfl (by decide +kernel) rfl rfl (by rw [hlen]; decide) dX13_end_16 ?_
      clear hP hD hS
      intro H locs hP hD hS
      obtain ⟨fs_1, efs_1⟩ : ∃ zf : List Value, zf = fs.set 1 (.int a1) := ⟨_, rfl⟩
      rw [← efs_1] at hP hD
      have hlfs_1 : fs_1.length = 155 := by rw [efs_1, List.length_set]; exact hlen
      have hfs_1_1 : fs_1[1]? = some (.int a1) := by rw [efs_1, List.getElem?_set_self (by rw [hlen]; decide)]
      replace hP : va_P (dC, dI) vwCl [(h0, .inr (13, fs_1))] H := hP
      replace hD : va_D A [(h0, .inr (13, fs_1))] := hD
      refine lv_iconst (v := 1) hx hb dX13_end_19 (by decide) ?_
      obtain ⟨z_y, ez_y⟩ : ∃ z : List Value, z = fs_1 := ⟨_, rfl⟩
      rw [← ez_y] at hP hD
      replace hP : va_P (dC, dI) vwCl [(h0, .inr (13, z_y))] H := hP
      replace hD : va_D A [(h0, .inr (13, z_y))] := hD
      have hP9 := hP.sub (ws' := [(h0, .inr (13, z_y))]) [0] rfl
      have hD9 := hD.sub (ws' := [(h0, .inr (13, z_y))]) [0] (by decide) rfl
      have hK9 := hK.sub (tys' := []) [] rfl
      exact W.zret hx hb hr (by decide) (fun t ht hW => ⟨⟨1, (z_y), rfl, ⟨by unfold tg_end; rw [if_neg c_1, if_neg (Int32.not_lt.mpr c_2)], by rw [ez_y, efs_1, ← ha]⟩, by rw [ht]; exact hP9, va_K.moved hW.alike hK9, hD9⟩, hS.F ht⟩) hS.2.2 dX13_end_20
    · have c_2_ := c_2
      refine lv_iconst (v := 0) hx hb dX13_end_12 (by decide) ?_
      have hP9 := hP.sub (ws' := [(h0, .inr (13, fs))]) [0] rfl
      have hD9 := hD.sub (ws' := [(h0, .inr (13, fs))]) [0] (by decide) rfl
      have hK9 := hK.sub (tys' := []) [] rfl
      exact W.zret hx hb hr (by decide) (fun t ht hW => ⟨⟨0, (fs), rfl, ⟨by unfold tg_end; rw [if_neg c_1, if_pos (Int32.not_le.mp c_2)], by unfold tg_cut; rw [if_neg c_1, if_pos (Int32.not_le.mp c_2), tg_set hf1]⟩, by rw [ht]; exact hP9, va_K.moved hW.alike hK9, hD9⟩, hS.F ht⟩) hS.2.2 dX13_end_13
theorem lf__fault_100 (v1 v2 a1 : Int32) (c_1 : ¬ a1 = 0) (c_2 : ¬ a1 = 1) : ((-1) : Int32) = tgm_fault v1 v2 a1 := by
  first | rfl | (subst_vars; rfl) | (simp_all [tgm_fault]; done) | (subst_vars; simp_all [tgm_fault]; done) | (unfold tgm_fault; (repeat' split) <;> first | rfl | (exfalso; simp_all; done))
theorem lf__fault_101 (v1 v2 a1 : Int32) (c_1 : ¬ a1 = 0) (c_2 : a1 = 1) (c_3 : v1 ≤ 0) : ((-1) : Int32) = tgm_fault v1 v2 a1 := by
  first | rfl | (subst_vars; rfl) | (simp_all [tgm_fault]; done) | (subst_vars; simp_all [tgm_fault]; done) | (unfold tgm_fault; (repeat' split) <;> first | rfl | (exfalso; simp_all; done))
theorem lf__fault_102 (v1 v2 a1 : Int32) (c_1 : ¬ a1 = 0) (c_2 : a1 = 1) (c_3 : ¬ v1 ≤ 0) : (v2 : Int32) = tgm_fault v1 v2 a1 := by
  first | rfl | (subst_vars; rfl) | (simp_all [tgm_fault]; done) | (subst_vars; simp_all [tgm_fault]; done) | (unfold tgm_fault; (repeat' split) <;> first | rfl | (exfalso; simp_all; done))
theorem lf__fault_103 (v1 v2 a1 : Int32) (c_1 : a1 = 0) : (v1 : Int32) = tgm_fault v1 v2 a1 := by
  first | rfl | (subst_vars; rfl) | (simp_all [tgm_fault]; done) | (subst_vars; simp_all [tgm_fault]; done) | (unfold tgm_fault; (repeat' split) <;> first | rfl | (exfalso; simp_all; done))
set_option maxHeartbeats 4000000 in
set_option maxRecDepth 100000 in
/-- mg_fault -/
theorem mg_fault (l : Launch) (dC : Nat → ClassId) (dI : Nat → Nat → Nat) (sz : Nat) (h0 : Nat) (fs : List Value) (v1 v2 a1 : Int32) (hlen : fs.length = 155) (hf9 : fs[9]? = some (.int v1)) (hf10 : fs[10]? = some (.int v2))  : Met l yX13_fault (.code yX13_fault cX13_fault 2 (some .int) :: VS_g1) ({ frames := 0, cells := 0, slots := 0, locals := 0 }) (va_Pc [.ref h0, .int a1] (fun U => U.heap.size = sz ∧ va_P (dC, dI) vwCl [(h0, .inr (13, fs))] U.heap ∧ va_K (dC, dI) vwCl [] U ∧ va_D (fun _ => True) [(h0, .inr (13, fs))])) (va_Qi (fun (r : Int32) (u : Unit) => match u with | () => r = tgm_fault v1 v2 a1) (fun (u : Unit) (t : State) => match u with | () => va_P (dC, dI) vwCl [] t.heap ∧ va_K (dC, dI) vwCl [] t ∧ va_D (va_A [(h0, .inr (13, fs))] sz) []) (va_A [(h0, .inr (13, fs))] sz)) 0 0 (va_A [(h0, .inr (13, fs))] sz) := by
  refine Met.ofW (cc := cX13_fault) (maxL := 2) (ret := (some .int)) (by decide) rfl ?_
  intro p e s m args below meth c s₁ B hml hv
  obtain ⟨rfl, hsz, hP, hK, hD0⟩ := hv
  have hx := B.exec
  have hb := B.bytes
  have hr := B.returns
  have hts := atoms_spec (ws := (.code yX13_fault cX13_fault 2 (some .int) :: VS_g1)) B.pre
  replace hts := fun w (h : w ∈ VS_g1) => hts w (List.mem_cons_of_mem _ h)
  have hown : s.vm.findClass RX13 = some m.cls := findClass_of_methodNamed B.named
  have hlocks := B.notSynchronized
  subst hsz
  have hD := hD0.self (sz := s.heap.size)
  generalize hAe : va_A [(h0, .inr (13, fs))] s.heap.size = A at hD  ⊢
  have hA : ∀ q : Nat, s.heap.size ≤ q → A q := fun q h => by rw [← hAe]; exact Or.inr h
  have hP : va_P (dC, dI) vwCl [(h0, .inr (13, fs))] s.heap := hP
  have hl := lv_entry ([.ref h0, .int a1]) (n := 2) (Nat.le_of_ble_eq_true rfl)
  rw [lg_entry_eq]
  generalize (lg_sl ([.ref h0, .int a1]) ++ List.replicate (2 - (lg_sl ([.ref h0, .int a1])).length) Slot.unset).toArray = ls at hl ⊢
  have hl : lv_has ls 2 [(0, .ref h0), (1, .int a1)] := hl
  obtain ⟨H, hH⟩ : ∃ H : Heap, s.heap = H := ⟨_, rfl⟩
  rw [hH] at hP ⊢
  have hS : va_S A s.heap H [] := by rw [← hH]; exact va_S.rf
  obtain ⟨locs, hlo⟩ : ∃ locs : List Loc, locs = [] := ⟨_, rfl⟩
  rw [← hlo] at hS ⊢
  refine lv_iload_n hx hb dX13_fault_0 rfl (lv_at hl 1 rfl) ?_
  refine lv_if_ne (tgt := 11) hx hb dX13_fault_1 (by decide) (fun c_1 => ?_) (fun c_1 => ?_)
  · have c_1_ := c_1
    refine lv_iload_n hx hb dX13_fault_11 rfl (lv_at hl 1 rfl) ?_
    refine lv_iconst (v := 1) hx hb dX13_fault_12 (by decide) ?_
    refine lv_icmp_ne (tgt := 30) hx hb dX13_fault_13 (by decide) (fun c_2 => ?_) (fun c_2 => ?_)
    · have c_2_ := c_2
      refine lv_iconst (v := (-1)) hx hb dX13_fault_30 (by decide) ?_
      have hP9 := hP.sub (ws' := []) [] rfl
      have hD9 := hD.sub (ws' := []) [] (by decide) rfl
      have hK9 := hK.sub (tys' := []) [] rfl
      exact W.iret hx hb hr (fun t ht hW => ⟨⟨((-1)), (), rfl, lf__fault_100 v1 v2 a1 c_1 c_2, by rw [ht]; exact hP9, va_K.moved hW.alike hK9, hD9⟩, hS.F ht⟩) hS.2.2 dX13_fault_31
    · have c_2_ := c_2
      refine lv_aload_n hx hb dX13_fault_16 rfl (lv_at hl 0 rfl) ?_
      refine va_get (D := (dC, dI)) (ci := 13) (v := .int v1) (C := RX13) (T := TX13) (N := 155) hx hb hts uV_g1_X13 hown hK hP 0 rfl rfl 9 (by decide) (hts (.fieldLink RX13 319 "ClassMillModel" "fault" "I") mw_g1_21) (fun _ h9 => h9) hf9 dX13_fault_17 ?_
      refine lv_if_le (tgt := 30) hx hb dX13_fault_20 (by decide) (fun c_3 => ?_) (fun c_3 => ?_)
      · have c_3_ := c_3
        refine lv_iconst (v := (-1)) hx hb dX13_fault_30 (by decide) ?_
        have hP9 := hP.sub (ws' := []) [] rfl
        have hD9 := hD.sub (ws' := []) [] (by decide) rfl
        have hK9 := hK.sub (tys' := []) [] rfl
        exact W.iret hx hb hr (fun t ht hW => ⟨⟨((-1)), (), rfl, lf__fault_101 v1 v2 a1 c_1 c_2 c_3, by rw [ht]; exact hP9, va_K.moved hW.alike hK9, hD9⟩, hS.F ht⟩) hS.2.2 dX13_fault_31
      · have c_3_ := c_3
        refine lv_aload_n hx hb dX13_fault_23 rfl (lv_at hl 0 rfl) ?_
        refine va_get (D := (dC, dI)) (ci := 13) (v := .int v2) (C := RX13) (T := TX13) (N := 155) hx hb hts uV_g1_X13 hown hK hP 0 rfl rfl 10 (by decide) (hts (.fieldLink RX13 322 "ClassMillModel" "place" "I") mw_g1_22) (fun _ h9 => h9) hf10 dX13_fault_24 ?_
        refine lv_goto (tgt := 31) hx hb dX13_fault_27 (by decide) ?_
        have hP9 := hP.sub (ws' := []) [] rfl
        have hD9 := hD.sub (ws' := []) [] (by decide) rfl
        have hK9 := hK.sub (tys' := []) [] rfl
        exact W.iret hx hb hr (fun t ht hW => ⟨⟨(v2), (), rfl, lf__fault_102 v1 v2 a1 c_1 c_2 c_3, by rw [ht]; exact hP9, va_K.moved hW.alike hK9, hD9⟩, hS.F ht⟩) hS.2.2 dX13_fault_31
  · have c_1_ := c_1
    refine lv_aload_n hx hb dX13_fault_4 rfl (lv_at hl 0 rfl) ?_
    refine va_get (D := (dC, dI)) (ci := 13) (v := .int v1) (C := RX13) (T := TX13) (N := 155) hx hb hts uV_g1_X13 hown hK hP 0 rfl rfl 9 (by decide) (hts (.fieldLink RX13 319 "ClassMillModel" "fault" "I") mw_g1_21) (fun _ h9 => h9) hf9 dX13_fault_5 ?_
    refine lv_goto (tgt := 31) hx hb dX13_fault_8 (by decide) ?_
    have hP9 := hP.sub (ws' := []) [] rfl
    have hD9 := hD.sub (ws' := []) [] (by decide) rfl
    have hK9 := hK.sub (tys' := []) [] rfl
    exact W.iret hx hb hr (fun t ht hW => ⟨⟨(v1), (), rfl, lf__fault_103 v1 v2 a1 c_1, by rw [ht]; exact hP9, va_K.moved hW.alike hK9, hD9⟩, hS.F ht⟩) hS.2.2 dX13_fault_31
theorem lf_where_104 (v1 v2 v3 a1 : Int32) (c_1 : ¬ a1 = 0) (c_2 : ¬ a1 = 1) (c_3 : ¬ a1 = 2) : ((-1) : Int32) = tg_where v1 v2 v3 a1 := by
  first | rfl | (subst_vars; rfl) | (simp_all [tg_where]; done) | (subst_vars; simp_all [tg_where]; done) | (unfold tg_where; (repeat' split) <;> first | rfl | (exfalso; simp_all; done))
theorem lf_where_105 (v1 v2 v3 a1 : Int32) (c_1 : ¬ a1 = 0) (c_2 : ¬ a1 = 1) (c_3 : a1 = 2) : (v3 : Int32) = tg_where v1 v2 v3 a1 := by
  first | rfl | (subst_vars; rfl) | (simp_all [tg_where]; done) | (subst_vars; simp_all [tg_where]; done) | (unfold tg_where; (repeat' split) <;> first | rfl | (exfalso; simp_all; done))
theorem lf_where_106 (v1 v2 v3 a1 : Int32) (c_1 : ¬ a1 = 0) (c_2 : a1 = 1) : (v2 : Int32) = tg_where v1 v2 v3 a1 := by
  first | rfl | (subst_vars; rfl) | (simp_all [tg_where]; done) | (subst_vars; simp_all [tg_where]; done) | (unfold tg_where; (repeat' split) <;> first | rfl | (exfalso; simp_all; done))
theorem lf_where_107 (v1 v2 v3 a1 : Int32) (c_1 : a1 = 0) : (v1 : Int32) = tg_where v1 v2 v3 a1 := by
  first | rfl | (subst_vars; rfl) | (simp_all [tg_where]; done) | (subst_vars; simp_all [tg_where]; done) | (unfold tg_where; (repeat' split) <;> first | rfl | (exfalso; simp_all; done))
set_option maxHeartbeats 4000000 in
set_option maxRecDepth 100000 in
/-- mg_where -/
theorem mg_where (l : Launch) (dC : Nat → ClassId) (dI : Nat → Nat → Nat) (sz : Nat) (h0 : Nat) (fs : List Value) (v1 v2 v3 a1 : Int32) (hlen : fs.length = 155) (hf123 : fs[123]? = some (.int v1)) (hf124 : fs[124]? = some (.int v2)) (hf125 : fs[125]? = some (.int v3))  : Met l yX13_where (.code yX13_where cX13_where 2 (some .int) :: VS_g1) ({ frames := 0, cells := 0, slots := 0, locals := 0 }) (va_Pc [.ref h0, .int a1] (fun U => U.heap.size = sz ∧ va_P (dC, dI) vwCl [(h0, .inr (13, fs))] U.heap ∧ va_K (dC, dI) vwCl [] U ∧ va_D (fun _ => True) [(h0, .inr (13, fs))])) (va_Qi (fun (r : Int32) (u : Unit) => match u with | () => r = tg_where v1 v2 v3 a1) (fun (u : Unit) (t : State) => match u with | () => va_P (dC, dI) vwCl [] t.heap ∧ va_K (dC, dI) vwCl [] t ∧ va_D (va_A [(h0, .inr (13, fs))] sz) []) (va_A [(h0, .inr (13, fs))] sz)) 0 0 (va_A [(h0, .inr (13, fs))] sz) := by
  refine Met.ofW (cc := cX13_where) (maxL := 2) (ret := (some .int)) (by decide) rfl ?_
  intro p e s m args below meth c s₁ B hml hv
  obtain ⟨rfl, hsz, hP, hK, hD0⟩ := hv
  have hx := B.exec
  have hb := B.bytes
  have hr := B.returns
  have hts := atoms_spec (ws := (.code yX13_where cX13_where 2 (some .int) :: VS_g1)) B.pre
  replace hts := fun w (h : w ∈ VS_g1) => hts w (List.mem_cons_of_mem _ h)
  have hown : s.vm.findClass RX13 = some m.cls := findClass_of_methodNamed B.named
  have hlocks := B.notSynchronized
  subst hsz
  have hD := hD0.self (sz := s.heap.size)
  generalize hAe : va_A [(h0, .inr (13, fs))] s.heap.size = A at hD  ⊢
  have hA : ∀ q : Nat, s.heap.size ≤ q → A q := fun q h => by rw [← hAe]; exact Or.inr h
  have hP : va_P (dC, dI) vwCl [(h0, .inr (13, fs))] s.heap := hP
  have hl := lv_entry ([.ref h0, .int a1]) (n := 2) (Nat.le_of_ble_eq_true rfl)
  rw [lg_entry_eq]
  generalize (lg_sl ([.ref h0, .int a1]) ++ List.replicate (2 - (lg_sl ([.ref h0, .int a1])).length) Slot.unset).toArray = ls at hl ⊢
  have hl : lv_has ls 2 [(0, .ref h0), (1, .int a1)] := hl
  obtain ⟨H, hH⟩ : ∃ H : Heap, s.heap = H := ⟨_, rfl⟩
  rw [hH] at hP ⊢
  have hS : va_S A s.heap H [] := by rw [← hH]; exact va_S.rf
  obtain ⟨locs, hlo⟩ : ∃ locs : List Loc, locs = [] := ⟨_, rfl⟩
  rw [← hlo] at hS ⊢
  refine lv_iload_n hx hb dX13_where_0 rfl (lv_at hl 1 rfl) ?_
  refine lv_if_ne (tgt := 11) hx hb dX13_where_1 (by decide) (fun c_1 => ?_) (fun c_1 => ?_)
  · have c_1_ := c_1
    refine lv_iload_n hx hb dX13_where_11 rfl (lv_at hl 1 rfl) ?_
    refine lv_iconst (v := 1) hx hb dX13_where_12 (by decide) ?_
    refine lv_icmp_ne (tgt := 23) hx hb dX13_where_13 (by decide) (fun c_2 => ?_) (fun c_2 => ?_)
    · have c_2_ := c_2
      refine lv_iload_n hx hb dX13_where_23 rfl (lv_at hl 1 rfl) ?_
      refine lv_iconst (v := 2) hx hb dX13_where_24 (by decide) ?_
      refine lv_icmp_ne (tgt := 35) hx hb dX13_where_25 (by decide) (fun c_3 => ?_) (fun c_3 => ?_)
      · have c_3_ := c_3
        refine lv_iconst (v := (-1)) hx hb dX13_where_35 (by decide) ?_
        have hP9 := hP.sub (ws' := []) [] rfl
        have hD9 := hD.sub (ws' := []) [] (by decide) rfl
        have hK9 := hK.sub (tys' := []) [] rfl
        exact W.iret hx hb hr (fun t ht hW => ⟨⟨((-1)), (), rfl, lf_where_104 v1 v2 v3 a1 c_1 c_2 c_3, by rw [ht]; exact hP9, va_K.moved hW.alike hK9, hD9⟩, hS.F ht⟩) hS.2.2 dX13_where_36
      · have c_3_ := c_3
        refine lv_aload_n hx hb dX13_where_28 rfl (lv_at hl 0 rfl) ?_
        refine va_get (D := (dC, dI)) (ci := 13) (v := .int v3) (C := RX13) (T := TX13) (N := 155) hx hb hts uV_g1_X13 hown hK hP 0 rfl rfl 125 (by decide) (hts (.fieldLink RX13 264 "ClassMillModel" "whyPlace" "I") mw_g1_23) (fun _ h9 => h9) hf125 dX13_where_29 ?_
        refine lv_goto (tgt := 36) hx hb dX13_where_32 (by decide) ?_
        have hP9 := hP.sub (ws' := []) [] rfl
        have hD9 := hD.sub (ws' := []) [] (by decide) rfl
        have hK9 := hK.sub (tys' := []) [] rfl
        exact W.iret hx hb hr (fun t ht hW => ⟨⟨(v3), (), rfl, lf_where_105 v1 v2 v3 a1 c_1 c_2 c_3, by rw [ht]; exact hP9, va_K.moved hW.alike hK9, hD9⟩, hS.F ht⟩) hS.2.2 dX13_where_36
    · have c_2_ := c_2
      refine lv_aload_n hx hb dX13_where_16 rfl (lv_at hl 0 rfl) ?_
      refine va_get (D := (dC, dI)) (ci := 13) (v := .int v2) (C := RX13) (T := TX13) (N := 155) hx hb hts uV_g1_X13 hown hK hP 0 rfl rfl 124 (by decide) (hts (.fieldLink RX13 261 "ClassMillModel" "whyMethod" "I") mw_g1_24) (fun _ h9 => h9) hf124 dX13_where_17 ?_
      refine lv_goto (tgt := 36) hx hb dX13_where_20 (by decide) ?_
      have hP9 := hP.sub (ws' := []) [] rfl
      have hD9 := hD.sub (ws' := []) [] (by decide) rfl
      have hK9 := hK.sub (tys' := []) [] rfl
      exact W.iret hx hb hr (fun t ht hW => ⟨⟨(v2), (), rfl, lf_where_106 v1 v2 v3 a1 c_1 c_2, by rw [ht]; exact hP9, va_K.moved hW.alike hK9, hD9⟩, hS.F ht⟩) hS.2.2 dX13_where_36
  · have c_1_ := c_1
    refine lv_aload_n hx hb dX13_where_4 rfl (lv_at hl 0 rfl) ?_
    refine va_get (D := (dC, dI)) (ci := 13) (v := .int v1) (C := RX13) (T := TX13) (N := 155) hx hb hts uV_g1_X13 hown hK hP 0 rfl rfl 123 (by decide) (hts (.fieldLink RX13 257 "ClassMillModel" "whyClass" "I") mw_g1_25) (fun _ h9 => h9) hf123 dX13_where_5 ?_
    refine lv_goto (tgt := 36) hx hb dX13_where_8 (by decide) ?_
    have hP9 := hP.sub (ws' := []) [] rfl
    have hD9 := hD.sub (ws' := []) [] (by decide) rfl
    have hK9 := hK.sub (tys' := []) [] rfl
    exact W.iret hx hb hr (fun t ht hW => ⟨⟨(v1), (), rfl, lf_where_107 v1 v2 v3 a1 c_1, by rw [ht]; exact hP9, va_K.moved hW.alike hK9, hD9⟩, hS.F ht⟩) hS.2.2 dX13_where_36

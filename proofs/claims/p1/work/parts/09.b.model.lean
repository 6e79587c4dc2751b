/-- what is known of the fields of a new object of the reference -/
def pm_F (fs : List Value) (qm0 qm1 qm2 qm3 qm4 qm5 : Nat) : Prop := fs.length = 155 ∧ fs[0]? = some (.ref qm0) ∧ fs[4]? = some (.ref qm1) ∧ fs[5]? = some (.ref qm2) ∧ fs[6]? = some (.ref qm3) ∧ fs[7]? = some (.ref qm4) ∧ fs[103]? = some (.ref qm5) ∧ fs[1]? = some (.int 0) ∧ fs[3]? = some (.int 0) ∧ fs[8]? = some (.int 0) ∧ fs[9]? = some (.int 0) ∧ fs[10]? = some (.int 0) ∧ fs[22]? = some (.int 0) ∧ fs[23]? = some (.int 0) ∧ fs[24]? = some (.int 0) ∧ fs[28]? = some (.int 0) ∧ fs[39]? = some (.int 0) ∧ fs[93]? = some (.int 0) ∧ fs[98]? = some (.int 0) ∧ fs[99]? = some (.int 0) ∧ fs[113]? = some (.int 0) ∧ fs[114]? = some (.int 0) ∧ fs[115]? = some (.int 0) ∧ fs[117]? = some (.int 0) ∧ fs[122]? = some (.int 0) ∧ fs[138]? = some (.int 0) ∧ fs[139]? = some (.int 0) ∧ fs[140]? = some (.int 0) ∧ fs[141]? = some (.int 0) ∧ fs[142]? = some (.int 0) ∧ fs[143]? = some (.int 0) ∧ fs[149]? = some (.int 0) ∧ fs[123]? = some (.int (-1)) ∧ fs[124]? = some (.int (-1)) ∧ fs[125]? = some (.int (-1))
set_option maxHeartbeats 4000000 in
set_option maxRecDepth 100000 in
/-- clear of the reference -/
theorem ct_mclear (l : Launch) (dC : Nat → ClassId) (dI : Nat → Nat → Nat) (sz : Nat) (h0 : Nat) (fs : List Value) (hlen : fs.length = 155) : Met l yX13_clear wsX13_clear ({ frames := 0, cells := 0, slots := 0, locals := 0 }) (va_Pc [.ref h0] (fun U => U.heap.size = sz ∧ va_P (dC, dI) vwCl [(h0, .inr (13, fs))] U.heap ∧ va_K (dC, dI) vwCl [] U ∧ va_D (fun _ => True) [(h0, .inr (13, fs))])) (va_Qv (fun (u : (List Value)) => match u with | (zo1) => zo1 = ((fs.set 98 (.int 0)).set 99 (.int 0)).set 138 (.int 0)) (fun (u : (List Value)) (t : State) => match u with | (zo1) => va_P (dC, dI) vwCl [(h0, .inr (13, zo1))] t.heap ∧ va_K (dC, dI) vwCl [] t ∧ va_D (va_A [(h0, .inr (13, fs))] sz) [(h0, .inr (13, zo1))]) (va_A [(h0, .inr (13, fs))] sz)) 0 0 (va_A [(h0, .inr (13, fs))] sz) := by
  refine Met.ofW (cc := cX13_clear) (maxL := 1) (ret := none) (by decide) rfl ?_
  intro p e s m args below meth c s₁ B hml hv
  obtain ⟨rfl, hsz, hP, hK, hD0⟩ := hv
  have hx := B.exec
  have hb := B.bytes
  have hr := B.returns
  have hts := atoms_spec (ws := wsX13_clear) B.pre
  have hown : s.vm.findClass RX13 = some m.cls := findClass_of_methodNamed B.named
  have hlocks := B.notSynchronized
  subst hsz
  have hD := hD0.self (sz := s.heap.size)
  generalize hAe : va_A [(h0, .inr (13, fs))] s.heap.size = A at hD  ⊢
  have hA : ∀ q : Nat, s.heap.size ≤ q → A q := fun q h => by rw [← hAe]; exact Or.inr h
  have hP : va_P (dC, dI) vwCl [(h0, .inr (13, fs))] s.heap := hP
  have hl := lv_entry ([.ref h0]) (n := 1) (Nat.le_of_ble_eq_true rfl)
  rw [lg_entry_eq]
  generalize (lg_sl ([.ref h0]) ++ List.replicate (1 - (lg_sl ([.ref h0])).length) Slot.unset).toArray = ls at hl ⊢
  have hl : lv_has ls 1 [(0, .ref h0)] := hl
  obtain ⟨H, hH⟩ : ∃ H : Heap, s.heap = H := ⟨_, rfl⟩
  rw [hH] at hP ⊢
  have hS : va_S A s.heap H [] := by rw [← hH]; exact va_S.rf
  obtain ⟨locs, hlo⟩ : ∃ locs : List Loc, locs = [] := ⟨_, rfl⟩
  rw [← hlo] at hS ⊢
  refine lv_aload_n hx hb dX13_clear_0 rfl (lv_at hl 0 rfl) ?_
  refine lv_iconst (v := 0) hx hb dX13_clear_1 (by decide) ?_
  refine va_put (D := (dC, dI)) (ci := 13) (v := .int 0) (ty := .int) (C := RX13) (T := TX13) (N := 155) hx hb hts uX13_clear_X13 tyX13 tyX13_ok nmX13 hown hK hP hD hS 0 rfl rfl 98 (by decide) (hts (.fieldLink RX13 833 "ClassMillModel" "there" "I") (by decide +kernel)) (fun _ h9 => h9) rfl (by decide +kernel) rfl rfl (by rw [hlen]; decide) dX13_clear_2 ?_
  clear hP hD hS
  intro H locs hP hD hS
  obtain ⟨fs_1, efs_1⟩ : ∃ zf : List Value, zf = fs.set 98 (.int 0) := ⟨_, rfl⟩
  rw [← efs_1] at hP hD
  have hlfs_1 : fs_1.length = 155 := by rw [efs_1, List.length_set]; exact hlen
  have hfs_1_98 : fs_1[98]? = some (.int 0) := by rw [efs_1, List.getElem?_set_self (by rw [hlen]; decide)]
  replace hP : va_P (dC, dI) vwCl [(h0, .inr (13, fs_1))] H := hP
  replace hD : va_D A [(h0, .inr (13, fs_1))] := hD
  refine lv_aload_n hx hb dX13_clear_5 rfl (lv_at hl 0 rfl) ?_
  refine lv_iconst (v := 0) hx hb dX13_clear_6 (by decide) ?_
  refine va_put (D := (dC, dI)) (ci := 13) (v := .int 0) (ty := .boolean) (C := RX13) (T := TX13) (N := 155) hx hb hts uX13_clear_X13 tyX13 tyX13_ok nmX13 hown hK hP hD hS 0 rfl rfl 99 (by decide) (hts (.fieldLink RX13 855 "ClassMillModel" "verified" "Z") (by decide +kernel)) (fun _ h9 => h9) rfl (by decide +kernel) rfl rfl (by rw [hlfs_1]; decide) dX13_clear_7 ?_
  clear hP hD hS
  intro H locs hP hD hS
  obtain ⟨fs_2, efs_2⟩ : ∃ zf : List Value, zf = fs_1.set 99 (.int 0) := ⟨_, rfl⟩
  rw [← efs_2] at hP hD
  have hlfs_2 : fs_2.length = 155 := by rw [efs_2, List.length_set]; exact hlfs_1
  have hfs_2_98 : fs_2[98]? = some (.int 0) := by rw [efs_2, List.getElem?_set_ne (by decide)]; exact hfs_1_98
  have hfs_2_99 : fs_2[99]? = some (.int 0) := by rw [efs_2, List.getElem?_set_self (by rw [hlfs_1]; decide)]
  replace hP : va_P (dC, dI) vwCl [(h0, .inr (13, fs_2))] H := hP
  replace hD : va_D A [(h0, .inr (13, fs_2))] := hD
  refine lv_aload_n hx hb dX13_clear_10 rfl (lv_at hl 0 rfl) ?_
  refine lv_iconst (v := 0) hx hb dX13_clear_11 (by decide) ?_
  refine va_put (D := (dC, dI)) (ci := 13) (v := .int 0) (ty := .int) (C := RX13) (T := TX13) (N := 155) hx hb hts uX13_clear_X13 tyX13 tyX13_ok nmX13 hown hK hP hD hS 0 rfl rfl 138 (by decide) (hts (.fieldLink RX13 858 "ClassMillModel" "state" "I") (by decide +kernel)) (fun _ h9 => h9) rfl (by decide +kernel) rfl rfl (by rw [hlfs_2]; decide) dX13_clear_12 ?_
  clear hP hD hS
  intro H locs hP hD hS
  obtain ⟨fs_3, efs_3⟩ : ∃ zf : List Value, zf = fs_2.set 138 (.int 0) := ⟨_, rfl⟩
  rw [← efs_3] at hP hD
  have hlfs_3 : fs_3.length = 155 := by rw [efs_3, List.length_set]; exact hlfs_2
  have hfs_3_98 : fs_3[98]? = some (.int 0) := by rw [efs_3, List.getElem?_set_ne (by decide)]; exact hfs_2_98
  have hfs_3_99 : fs_3[99]? = some (.int 0) := by rw [efs_3, List.getElem?_set_ne (by decide)]; exact hfs_2_99
  have hfs_3_138 : fs_3[138]? = some (.int 0) := by rw [efs_3, List.getElem?_set_self (by rw [hlfs_2]; decide)]
  replace hP : va_P (dC, dI) vwCl [(h0, .inr (13, fs_3))] H := hP
  replace hD : va_D A [(h0, .inr (13, fs_3))] := hD
  obtain ⟨zs, ezs⟩ : ∃ z : List Value, z = fs_3 := ⟨_, rfl⟩
  rw [← ezs] at hP hD
  replace hP : va_P (dC, dI) vwCl [(h0, .inr (13, zs))] H := hP
  replace hD : va_D A [(h0, .inr (13, zs))] := hD
  have hP9 := hP.sub (ws' := [(h0, .inr (13, zs))]) [0] rfl
  have hD9 := hD.sub (ws' := [(h0, .inr (13, zs))]) [0] (by decide) rfl
  have hK9 := hK.sub (tys' := []) [] rfl
  exact W.vret hx hb hr (fun t ht hW => ⟨⟨(zs), rfl, by rw [ezs, efs_3, efs_2, efs_1], by rw [ht]; exact hP9, va_K.moved hW.alike hK9, hD9⟩, hS.F ht⟩) hS.2.2 dX13_clear_15
set_option maxHeartbeats 4000000 in
set_option maxRecDepth 100000 in
theorem ck_model0 {p : Program} {l : Launch} {e : Env} {s : State} {m : MethodId} {args : Array Value} {below : List Frame} {meth : Method} {c : Code} {Q : State → Prop} {A : Nat → Prop} {H0 : Heap} {dC : Nat → ClassId} {dI : Nat → Nat → Nat} (hx : p.tables.exec = Jvm.exec) (hb : c.code = cX13_init) (hown : s.vm.findClass RX13 = some m.cls) (hin : meth.name = "<init>") (hts : ∀ w ∈ wsX13_init, w.before args s = true) (hA : ∀ q : Nat, H0.size ≤ q → A q) {h0  : Nat} {fs : List Value} {H : Heap} {locs : List Loc} {ls : Array Slot} (hlen : fs.length = 155) (hK : va_K (dC, dI) vwCl [] s) (hP : va_P (dC, dI) vwCl [(h0, .inr (13, fs))] H) (hD : va_D A [(h0, .inr (13, fs))]) (hS : va_S A H0 H locs) (hl : lv_has ls 1 [(0, .ref h0)]) (kk : ∀ (qk0_1 qk0_3 qk0_5 qk0_7 qk0_9 qk0_11 qk0_13 qk0_15 qk0_17 : Nat) (cqk0_1 cqk0_5 cqk0_7 cqk0_9 cqk0_11 : ClassId) (fs2 : List Value) (H : Heap) (locs : List Loc), fs2.length = 155 → fs2 = (((((((((fs.set 0 (.ref qk0_1)).set 2 (.ref qk0_3)).set 4 (.ref qk0_5)).set 5 (.ref qk0_7)).set 6 (.ref qk0_9)).set 7 (.ref qk0_11)).set 11 (.ref qk0_13)).set 12 (.ref qk0_15)).set 13 (.ref qk0_17)) → va_K (dC, dI) vwCl [(cqk0_1, .int), (cqk0_5, .int), (cqk0_7, .int), (cqk0_9, .int), (cqk0_11, .int)] s → va_P (dC, dI) vwCl [(h0, .inr (13, fs2)), (qk0_1, .inl (cqk0_1, 6000, .inl (fun _ => 0))), (qk0_5, .inl (cqk0_5, 3008, .inl (fun _ => 0))), (qk0_7, .inl (cqk0_7, 3002, .inl (fun _ => 0))), (qk0_9, .inl (cqk0_9, 3002, .inl (fun _ => 0))), (qk0_11, .inl (cqk0_11, 3002, .inl (fun _ => 0)))] H → va_D A [(h0, .inr (13, fs2)), (qk0_1, .inl (cqk0_1, 6000, .inl (fun _ => 0))), (qk0_5, .inl (cqk0_5, 3008, .inl (fun _ => 0))), (qk0_7, .inl (cqk0_7, 3002, .inl (fun _ => 0))), (qk0_9, .inl (cqk0_9, 3002, .inl (fun _ => 0))), (qk0_11, .inl (cqk0_11, 3002, .inl (fun _ => 0)))] → va_S A H0 H locs → W p l e ({ frames := 2, cells := 95, slots := 548130, locals := 60 } : Room) s m args below meth c H locs 9 48014 Q (F0 m 85 ls [])) : W p l e ({ frames := 2, cells := 95, slots := 548130, locals := 60 } : Room) s m args below meth c H locs 0 0 Q (F0 m 4 ls []) := by
  refine lv_aload_n hx hb dX13_init_4 rfl (lv_at hl 0 rfl) ?_
  refine lv_sipush (v := 6000) hx hb dX13_init_5 (by decide) ?_
  refine va_newa (atype := .int) (ty := .int) (N' := 6000) (a0 := (6000, .inl (fun _ => 0))) hx hb (hts (.arrayClass .int) (by decide +kernel)) rfl hK hP hD hS hA (fun _ => rfl) (by decide) (by decide) (by decide) (Nat.le_of_ble_eq_true rfl) (Nat.le_of_ble_eq_true rfl) dX13_init_8 ?_
  clear hK hP hD hS
  intro qk0_1 cqk0_1 H hK hP hD hS
  refine W.widen (k := 1) (n := 6000) (Nat.le_of_ble_eq_true rfl) (Nat.le_of_ble_eq_true rfl) ?_
  replace hK : va_K (dC, dI) vwCl [(cqk0_1, .int)] s := hK
  replace hP : va_P (dC, dI) vwCl [(h0, .inr (13, fs)), (qk0_1, .inl (cqk0_1, 6000, .inl (fun _ => 0)))] H := hP
  replace hD : va_D A [(h0, .inr (13, fs)), (qk0_1, .inl (cqk0_1, 6000, .inl (fun _ => 0)))] := hD
  refine va_putF (D := (dC, dI)) (ci := 13) (v := .ref qk0_1) (ty := .array .int) (C := RX13) (T := TX13) (N := 155) hx hb hts uX13_init_X13 tyX13 tyX13_ok nmX13 hown hK hP hD hS 0 rfl rfl 0 (by decide) (hts (.fieldLink RX13 9 "ClassMillModel" "tape" "[I") (by decide +kernel)) (fun _ h9 => h9) rfl hin rfl (by decide +kernel) rfl rfl (by rw [hlen]; decide) dX13_init_10 ?_
  clear hP hD hS
  intro H locs hP hD hS
  obtain ⟨fsk0_2, efsk0_2⟩ : ∃ zf : List Value, zf = fs.set 0 (.ref qk0_1) := ⟨_, rfl⟩
  rw [← efsk0_2] at hP hD
  have hlfsk0_2 : fsk0_2.length = 155 := by rw [efsk0_2, List.length_set]; exact hlen
  clear hlen
  replace hP : va_P (dC, dI) vwCl [(h0, .inr (13, fsk0_2)), (qk0_1, .inl (cqk0_1, 6000, .inl (fun _ => 0)))] H := hP
  replace hD : va_D A [(h0, .inr (13, fsk0_2)), (qk0_1, .inl (cqk0_1, 6000, .inl (fun _ => 0)))] := hD
  refine lv_aload_n hx hb dX13_init_13 rfl (lv_at hl 0 rfl) ?_
  refine lv_sipush (v := 3000) hx hb dX13_init_14 (by decide) ?_
  refine va_newa (atype := .int) (ty := .int) (N' := 3000) (a0 := (3000, .inl (fun _ => 0))) hx hb (hts (.arrayClass .int) (by decide +kernel)) rfl hK hP hD hS hA (fun _ => rfl) (by decide) (by decide) (by decide) (Nat.le_of_ble_eq_true rfl) (Nat.le_of_ble_eq_true rfl) dX13_init_17 ?_
  clear hK hP hD hS
  intro qk0_3 cqk0_3 H hK hP hD hS
  refine W.widen (k := 2) (n := 9000) (Nat.le_of_ble_eq_true rfl) (Nat.le_of_ble_eq_true rfl) ?_
  replace hP := hP.sub (ws' := [(h0, .inr (13, fsk0_2)), (qk0_1, .inl (cqk0_1, 6000, .inl (fun _ => 0)))]) [0, 1] rfl
  replace hD := hD.sub (ws' := [(h0, .inr (13, fsk0_2)), (qk0_1, .inl (cqk0_1, 6000, .inl (fun _ => 0)))]) [0, 1] (by decide) rfl
  replace hK := hK.sub (tys' := [(cqk0_1, .int)]) [0] rfl
  refine va_putF (D := (dC, dI)) (ci := 13) (v := .ref qk0_3) (ty := .array .int) (C := RX13) (T := TX13) (N := 155) hx hb hts uX13_init_X13 tyX13 tyX13_ok nmX13 hown hK hP hD hS 0 rfl rfl 2 (by decide) (hts (.fieldLink RX13 13 "ClassMillModel" "text" "[I") (by decide +kernel)) (fun _ h9 => h9) rfl hin rfl (by decide +kernel) rfl rfl (by rw [hlfsk0_2]; decide) dX13_init_19 ?_
  clear hP hD hS
  intro H locs hP hD hS
  obtain ⟨fsk0_4, efsk0_4⟩ : ∃ zf : List Value, zf = fsk0_2.set 2 (.ref qk0_3) := ⟨_, rfl⟩
  rw [← efsk0_4] at hP hD
  have hlfsk0_4 : fsk0_4.length = 155 := by rw [efsk0_4, List.length_set]; exact hlfsk0_2
  clear hlfsk0_2
  replace hP : va_P (dC, dI) vwCl [(h0, .inr (13, fsk0_4)), (qk0_1, .inl (cqk0_1, 6000, .inl (fun _ => 0)))] H := hP
  replace hD : va_D A [(h0, .inr (13, fsk0_4)), (qk0_1, .inl (cqk0_1, 6000, .inl (fun _ => 0)))] := hD
  refine lv_aload_n hx hb dX13_init_22 rfl (lv_at hl 0 rfl) ?_
  refine lv_sipush (v := 3008) hx hb dX13_init_23 (by decide) ?_
  refine va_newa (atype := .int) (ty := .int) (N' := 3008) (a0 := (3008, .inl (fun _ => 0))) hx hb (hts (.arrayClass .int) (by decide +kernel)) rfl hK hP hD hS hA (fun _ => rfl) (by decide) (by decide) (by decide) (Nat.le_of_ble_eq_true rfl) (Nat.le_of_ble_eq_true rfl) dX13_init_26 ?_
  clear hK hP hD hS
  intro qk0_5 cqk0_5 H hK hP hD hS
  refine W.widen (k := 3) (n := 12008) (Nat.le_of_ble_eq_true rfl) (Nat.le_of_ble_eq_true rfl) ?_
  replace hK : va_K (dC, dI) vwCl [(cqk0_1, .int), (cqk0_5, .int)] s := hK
  replace hP : va_P (dC, dI) vwCl [(h0, .inr (13, fsk0_4)), (qk0_1, .inl (cqk0_1, 6000, .inl (fun _ => 0))), (qk0_5, .inl (cqk0_5, 3008, .inl (fun _ => 0)))] H := hP
  replace hD : va_D A [(h0, .inr (13, fsk0_4)), (qk0_1, .inl (cqk0_1, 6000, .inl (fun _ => 0))), (qk0_5, .inl (cqk0_5, 3008, .inl (fun _ => 0)))] := hD
  refine va_putF (D := (dC, dI)) (ci := 13) (v := .ref qk0_5) (ty := .array .int) (C := RX13) (T := TX13) (N := 155) hx hb hts uX13_init_X13 tyX13 tyX13_ok nmX13 hown hK hP hD hS 0 rfl rfl 4 (by decide) (hts (.fieldLink RX13 16 "ClassMillModel" "kind" "[I") (by decide +kernel)) (fun _ h9 => h9) rfl hin rfl (by decide +kernel) rfl rfl (by rw [hlfsk0_4]; decide) dX13_init_28 ?_
  clear hP hD hS
  intro H locs hP hD hS
  obtain ⟨fsk0_6, efsk0_6⟩ : ∃ zf : List Value, zf = fsk0_4.set 4 (.ref qk0_5) := ⟨_, rfl⟩
  rw [← efsk0_6] at hP hD
  have hlfsk0_6 : fsk0_6.length = 155 := by rw [efsk0_6, List.length_set]; exact hlfsk0_4
  clear hlfsk0_4
  replace hP : va_P (dC, dI) vwCl [(h0, .inr (13, fsk0_6)), (qk0_1, .inl (cqk0_1, 6000, .inl (fun _ => 0))), (qk0_5, .inl (cqk0_5, 3008, .inl (fun _ => 0)))] H := hP
  replace hD : va_D A [(h0, .inr (13, fsk0_6)), (qk0_1, .inl (cqk0_1, 6000, .inl (fun _ => 0))), (qk0_5, .inl (cqk0_5, 3008, .inl (fun _ => 0)))] := hD
  refine lv_aload_n hx hb dX13_init_31 rfl (lv_at hl 0 rfl) ?_
  refine lv_sipush (v := 3002) hx hb dX13_init_32 (by decide) ?_
  refine va_newa (atype := .int) (ty := .int) (N' := 3002) (a0 := (3002, .inl (fun _ => 0))) hx hb (hts (.arrayClass .int) (by decide +kernel)) rfl hK hP hD hS hA (fun _ => rfl) (by decide) (by decide) (by decide) (Nat.le_of_ble_eq_true rfl) (Nat.le_of_ble_eq_true rfl) dX13_init_35 ?_
  clear hK hP hD hS
  intro qk0_7 cqk0_7 H hK hP hD hS
  refine W.widen (k := 4) (n := 15010) (Nat.le_of_ble_eq_true rfl) (Nat.le_of_ble_eq_true rfl) ?_
  replace hK : va_K (dC, dI) vwCl [(cqk0_1, .int), (cqk0_5, .int), (cqk0_7, .int)] s := hK
  replace hP : va_P (dC, dI) vwCl [(h0, .inr (13, fsk0_6)), (qk0_1, .inl (cqk0_1, 6000, .inl (fun _ => 0))), (qk0_5, .inl (cqk0_5, 3008, .inl (fun _ => 0))), (qk0_7, .inl (cqk0_7, 3002, .inl (fun _ => 0)))] H := hP
  replace hD : va_D A [(h0, .inr (13, fsk0_6)), (qk0_1, .inl (cqk0_1, 6000, .inl (fun _ => 0))), (qk0_5, .inl (cqk0_5, 3008, .inl (fun _ => 0))), (qk0_7, .inl (cqk0_7, 3002, .inl (fun _ => 0)))] := hD
  refine va_putF (D := (dC, dI)) (ci := 13) (v := .ref qk0_7) (ty := .array .int) (C := RX13) (T := TX13) (N := 155) hx hb hts uX13_init_X13 tyX13 tyX13_ok nmX13 hown hK hP hD hS 0 rfl rfl 5 (by decide) (hts (.fieldLink RX13 19 "ClassMillModel" "from" "[I") (by decide +kernel)) (fun _ h9 => h9) rfl hin rfl (by decide +kernel) rfl rfl (by rw [hlfsk0_6]; decide) dX13_init_37 ?_
  clear hP hD hS
  intro H locs hP hD hS
  obtain ⟨fsk0_8, efsk0_8⟩ : ∃ zf : List Value, zf = fsk0_6.set 5 (.ref qk0_7) := ⟨_, rfl⟩
  rw [← efsk0_8] at hP hD
  have hlfsk0_8 : fsk0_8.length = 155 := by rw [efsk0_8, List.length_set]; exact hlfsk0_6
  clear hlfsk0_6
  replace hP : va_P (dC, dI) vwCl [(h0, .inr (13, fsk0_8)), (qk0_1, .inl (cqk0_1, 6000, .inl (fun _ => 0))), (qk0_5, .inl (cqk0_5, 3008, .inl (fun _ => 0))), (qk0_7, .inl (cqk0_7, 3002, .inl (fun _ => 0)))] H := hP
  replace hD : va_D A [(h0, .inr (13, fsk0_8)), (qk0_1, .inl (cqk0_1, 6000, .inl (fun _ => 0))), (qk0_5, .inl (cqk0_5, 3008, .inl (fun _ => 0))), (qk0_7, .inl (cqk0_7, 3002, .inl (fun _ => 0)))] := hD
  refine lv_aload_n hx hb dX13_init_40 rfl (lv_at hl 0 rfl) ?_
  refine lv_sipush (v := 3002) hx hb dX13_init_41 (by decide) ?_
  refine va_newa (atype := .int) (ty := .int) (N' := 3002) (a0 := (3002, .inl (fun _ => 0))) hx hb (hts (.arrayClass .int) (by decide +kernel)) rfl hK hP hD hS hA (fun _ => rfl) (by decide) (by decide) (by decide) (Nat.le_of_ble_eq_true rfl) (Nat.le_of_ble_eq_true rfl) dX13_init_44 ?_
  clear hK hP hD hS
  intro qk0_9 cqk0_9 H hK hP hD hS
  refine W.widen (k := 5) (n := 18012) (Nat.le_of_ble_eq_true rfl) (Nat.le_of_ble_eq_true rfl) ?_
  replace hK : va_K (dC, dI) vwCl [(cqk0_1, .int), (cqk0_5, .int), (cqk0_7, .int), (cqk0_9, .int)] s := hK
  replace hP : va_P (dC, dI) vwCl [(h0, .inr (13, fsk0_8)), (qk0_1, .inl (cqk0_1, 6000, .inl (fun _ => 0))), (qk0_5, .inl (cqk0_5, 3008, .inl (fun _ => 0))), (qk0_7, .inl (cqk0_7, 3002, .inl (fun _ => 0))), (qk0_9, .inl (cqk0_9, 3002, .inl (fun _ => 0)))] H := hP
  replace hD : va_D A [(h0, .inr (13, fsk0_8)), (qk0_1, .inl (cqk0_1, 6000, .inl (fun _ => 0))), (qk0_5, .inl (cqk0_5, 3008, .inl (fun _ => 0))), (qk0_7, .inl (cqk0_7, 3002, .inl (fun _ => 0))), (qk0_9, .inl (cqk0_9, 3002, .inl (fun _ => 0)))] := hD
  refine va_putF (D := (dC, dI)) (ci := 13) (v := .ref qk0_9) (ty := .array .int) (C := RX13) (T := TX13) (N := 155) hx hb hts uX13_init_X13 tyX13 tyX13_ok nmX13 hown hK hP hD hS 0 rfl rfl 6 (by decide) (hts (.fieldLink RX13 22 "ClassMillModel" "wide" "[I") (by decide +kernel)) (fun _ h9 => h9) rfl hin rfl (by decide +kernel) rfl rfl (by rw [hlfsk0_8]; decide) dX13_init_46 ?_
  clear hP hD hS
  intro H locs hP hD hS
  obtain ⟨fsk0_10, efsk0_10⟩ : ∃ zf : List Value, zf = fsk0_8.set 6 (.ref qk0_9) := ⟨_, rfl⟩
  rw [← efsk0_10] at hP hD
  have hlfsk0_10 : fsk0_10.length = 155 := by rw [efsk0_10, List.length_set]; exact hlfsk0_8
  clear hlfsk0_8
  replace hP : va_P (dC, dI) vwCl [(h0, .inr (13, fsk0_10)), (qk0_1, .inl (cqk0_1, 6000, .inl (fun _ => 0))), (qk0_5, .inl (cqk0_5, 3008, .inl (fun _ => 0))), (qk0_7, .inl (cqk0_7, 3002, .inl (fun _ => 0))), (qk0_9, .inl (cqk0_9, 3002, .inl (fun _ => 0)))] H := hP
  replace hD : va_D A [(h0, .inr (13, fsk0_10)), (qk0_1, .inl (cqk0_1, 6000, .inl (fun _ => 0))), (qk0_5, .inl (cqk0_5, 3008, .inl (fun _ => 0))), (qk0_7, .inl (cqk0_7, 3002, .inl (fun _ => 0))), (qk0_9, .inl (cqk0_9, 3002, .inl (fun _ => 0)))] := hD
  refine lv_aload_n hx hb dX13_init_49 rfl (lv_at hl 0 rfl) ?_
  refine lv_sipush (v := 3002) hx hb dX13_init_50 (by decide) ?_
  refine va_newa (atype := .int) (ty := .int) (N' := 3002) (a0 := (3002, .inl (fun _ => 0))) hx hb (hts (.arrayClass .int) (by decide +kernel)) rfl hK hP hD hS hA (fun _ => rfl) (by decide) (by decide) (by decide) (Nat.le_of_ble_eq_true rfl) (Nat.le_of_ble_eq_true rfl) dX13_init_53 ?_
  clear hK hP hD hS
  intro qk0_11 cqk0_11 H hK hP hD hS
  refine W.widen (k := 6) (n := 21014) (Nat.le_of_ble_eq_true rfl) (Nat.le_of_ble_eq_true rfl) ?_
  replace hK : va_K (dC, dI) vwCl [(cqk0_1, .int), (cqk0_5, .int), (cqk0_7, .int), (cqk0_9, .int), (cqk0_11, .int)] s := hK
  replace hP : va_P (dC, dI) vwCl [(h0, .inr (13, fsk0_10)), (qk0_1, .inl (cqk0_1, 6000, .inl (fun _ => 0))), (qk0_5, .inl (cqk0_5, 3008, .inl (fun _ => 0))), (qk0_7, .inl (cqk0_7, 3002, .inl (fun _ => 0))), (qk0_9, .inl (cqk0_9, 3002, .inl (fun _ => 0))), (qk0_11, .inl (cqk0_11, 3002, .inl (fun _ => 0)))] H := hP
  replace hD : va_D A [(h0, .inr (13, fsk0_10)), (qk0_1, .inl (cqk0_1, 6000, .inl (fun _ => 0))), (qk0_5, .inl (cqk0_5, 3008, .inl (fun _ => 0))), (qk0_7, .inl (cqk0_7, 3002, .inl (fun _ => 0))), (qk0_9, .inl (cqk0_9, 3002, .inl (fun _ => 0))), (qk0_11, .inl (cqk0_11, 3002, .inl (fun _ => 0)))] := hD
  refine va_putF (D := (dC, dI)) (ci := 13) (v := .ref qk0_11) (ty := .array .int) (C := RX13) (T := TX13) (N := 155) hx hb hts uX13_init_X13 tyX13 tyX13_ok nmX13 hown hK hP hD hS 0 rfl rfl 7 (by decide) (hts (.fieldLink RX13 25 "ClassMillModel" "value" "[I") (by decide +kernel)) (fun _ h9 => h9) rfl hin rfl (by decide +kernel) rfl rfl (by rw [hlfsk0_10]; decide) dX13_init_55 ?_
  clear hP hD hS
  intro H locs hP hD hS
  obtain ⟨fsk0_12, efsk0_12⟩ : ∃ zf : List Value, zf = fsk0_10.set 7 (.ref qk0_11) := ⟨_, rfl⟩
  rw [← efsk0_12] at hP hD
  have hlfsk0_12 : fsk0_12.length = 155 := by rw [efsk0_12, List.length_set]; exact hlfsk0_10
  clear hlfsk0_10
  replace hP : va_P (dC, dI) vwCl [(h0, .inr (13, fsk0_12)), (qk0_1, .inl (cqk0_1, 6000, .inl (fun _ => 0))), (qk0_5, .inl (cqk0_5, 3008, .inl (fun _ => 0))), (qk0_7, .inl (cqk0_7, 3002, .inl (fun _ => 0))), (qk0_9, .inl (cqk0_9, 3002, .inl (fun _ => 0))), (qk0_11, .inl (cqk0_11, 3002, .inl (fun _ => 0)))] H := hP
  replace hD : va_D A [(h0, .inr (13, fsk0_12)), (qk0_1, .inl (cqk0_1, 6000, .inl (fun _ => 0))), (qk0_5, .inl (cqk0_5, 3008, .inl (fun _ => 0))), (qk0_7, .inl (cqk0_7, 3002, .inl (fun _ => 0))), (qk0_9, .inl (cqk0_9, 3002, .inl (fun _ => 0))), (qk0_11, .inl (cqk0_11, 3002, .inl (fun _ => 0)))] := hD
  refine lv_aload_n hx hb dX13_init_58 rfl (lv_at hl 0 rfl) ?_
  refine lv_sipush (v := 9000) hx hb dX13_init_59 (by decide) ?_
  refine va_newa (atype := .int) (ty := .int) (N' := 9000) (a0 := (9000, .inl (fun _ => 0))) hx hb (hts (.arrayClass .int) (by decide +kernel)) rfl hK hP hD hS hA (fun _ => rfl) (by decide) (by decide) (by decide) (Nat.le_of_ble_eq_true rfl) (Nat.le_of_ble_eq_true rfl) dX13_init_62 ?_
  clear hK hP hD hS
  intro qk0_13 cqk0_13 H hK hP hD hS
  refine W.widen (k := 7) (n := 30014) (Nat.le_of_ble_eq_true rfl) (Nat.le_of_ble_eq_true rfl) ?_
  replace hP := hP.sub (ws' := [(h0, .inr (13, fsk0_12)), (qk0_1, .inl (cqk0_1, 6000, .inl (fun _ => 0))), (qk0_5, .inl (cqk0_5, 3008, .inl (fun _ => 0))), (qk0_7, .inl (cqk0_7, 3002, .inl (fun _ => 0))), (qk0_9, .inl (cqk0_9, 3002, .inl (fun _ => 0))), (qk0_11, .inl (cqk0_11, 3002, .inl (fun _ => 0)))]) [0, 1, 2, 3, 4, 5] rfl
  replace hD := hD.sub (ws' := [(h0, .inr (13, fsk0_12)), (qk0_1, .inl (cqk0_1, 6000, .inl (fun _ => 0))), (qk0_5, .inl (cqk0_5, 3008, .inl (fun _ => 0))), (qk0_7, .inl (cqk0_7, 3002, .inl (fun _ => 0))), (qk0_9, .inl (cqk0_9, 3002, .inl (fun _ => 0))), (qk0_11, .inl (cqk0_11, 3002, .inl (fun _ => 0)))]) [0, 1, 2, 3, 4, 5] (by decide) rfl
  replace hK := hK.sub (tys' := [(cqk0_1, .int), (cqk0_5, .int), (cqk0_7, .int), (cqk0_9, .int), (cqk0_11, .int)]) [0, 1, 2, 3, 4] rfl
  refine va_putF (D := (dC, dI)) (ci := 13) (v := .ref qk0_13) (ty := .array .int) (C := RX13) (T := TX13) (N := 155) hx hb hts uX13_init_X13 tyX13 tyX13_ok nmX13 hown hK hP hD hS 0 rfl rfl 11 (by decide) (hts (.fieldLink RX13 28 "ClassMillModel" "node" "[I") (by decide +kernel)) (fun _ h9 => h9) rfl hin rfl (by decide +kernel) rfl rfl (by rw [hlfsk0_12]; decide) dX13_init_64 ?_
  clear hP hD hS
  intro H locs hP hD hS
  obtain ⟨fsk0_14, efsk0_14⟩ : ∃ zf : List Value, zf = fsk0_12.set 11 (.ref qk0_13) := ⟨_, rfl⟩
  rw [← efsk0_14] at hP hD
  have hlfsk0_14 : fsk0_14.length = 155 := by rw [efsk0_14, List.length_set]; exact hlfsk0_12
  clear hlfsk0_12
  replace hP : va_P (dC, dI) vwCl [(h0, .inr (13, fsk0_14)), (qk0_1, .inl (cqk0_1, 6000, .inl (fun _ => 0))), (qk0_5, .inl (cqk0_5, 3008, .inl (fun _ => 0))), (qk0_7, .inl (cqk0_7, 3002, .inl (fun _ => 0))), (qk0_9, .inl (cqk0_9, 3002, .inl (fun _ => 0))), (qk0_11, .inl (cqk0_11, 3002, .inl (fun _ => 0)))] H := hP
  replace hD : va_D A [(h0, .inr (13, fsk0_14)), (qk0_1, .inl (cqk0_1, 6000, .inl (fun _ => 0))), (qk0_5, .inl (cqk0_5, 3008, .inl (fun _ => 0))), (qk0_7, .inl (cqk0_7, 3002, .inl (fun _ => 0))), (qk0_9, .inl (cqk0_9, 3002, .inl (fun _ => 0))), (qk0_11, .inl (cqk0_11, 3002, .inl (fun _ => 0)))] := hD
  refine lv_aload_n hx hb dX13_init_67 rfl (lv_at hl 0 rfl) ?_
  refine lv_sipush (v := 9000) hx hb dX13_init_68 (by decide) ?_
  refine va_newa (atype := .int) (ty := .int) (N' := 9000) (a0 := (9000, .inl (fun _ => 0))) hx hb (hts (.arrayClass .int) (by decide +kernel)) rfl hK hP hD hS hA (fun _ => rfl) (by decide) (by decide) (by decide) (Nat.le_of_ble_eq_true rfl) (Nat.le_of_ble_eq_true rfl) dX13_init_71 ?_
  clear hK hP hD hS
  intro qk0_15 cqk0_15 H hK hP hD hS
  refine W.widen (k := 8) (n := 39014) (Nat.le_of_ble_eq_true rfl) (Nat.le_of_ble_eq_true rfl) ?_
  replace hP := hP.sub (ws' := [(h0, .inr (13, fsk0_14)), (qk0_1, .inl (cqk0_1, 6000, .inl (fun _ => 0))), (qk0_5, .inl (cqk0_5, 3008, .inl (fun _ => 0))), (qk0_7, .inl (cqk0_7, 3002, .inl (fun _ => 0))), (qk0_9, .inl (cqk0_9, 3002, .inl (fun _ => 0))), (qk0_11, .inl (cqk0_11, 3002, .inl (fun _ => 0)))]) [0, 1, 2, 3, 4, 5] rfl
  replace hD := hD.sub (ws' := [(h0, .inr (13, fsk0_14)), (qk0_1, .inl (cqk0_1, 6000, .inl (fun _ => 0))), (qk0_5, .inl (cqk0_5, 3008, .inl (fun _ => 0))), (qk0_7, .inl (cqk0_7, 3002, .inl (fun _ => 0))), (qk0_9, .inl (cqk0_9, 3002, .inl (fun _ => 0))), (qk0_11, .inl (cqk0_11, 3002, .inl (fun _ => 0)))]) [0, 1, 2, 3, 4, 5] (by decide) rfl
  replace hK := hK.sub (tys' := [(cqk0_1, .int), (cqk0_5, .int), (cqk0_7, .int), (cqk0_9, .int), (cqk0_11, .int)]) [0, 1, 2, 3, 4] rfl
  refine va_putF (D := (dC, dI)) (ci := 13) (v := .ref qk0_15) (ty := .array .int) (C := RX13) (T := TX13) (N := 155) hx hb hts uX13_init_X13 tyX13 tyX13_ok nmX13 hown hK hP hD hS 0 rfl rfl 12 (by decide) (hts (.fieldLink RX13 31 "ClassMillModel" "tok" "[I") (by decide +kernel)) (fun _ h9 => h9) rfl hin rfl (by decide +kernel) rfl rfl (by rw [hlfsk0_14]; decide) dX13_init_73 ?_
  clear hP hD hS
  intro H locs hP hD hS
  obtain ⟨fsk0_16, efsk0_16⟩ : ∃ zf : List Value, zf = fsk0_14.set 12 (.ref qk0_15) := ⟨_, rfl⟩
  rw [← efsk0_16] at hP hD
  have hlfsk0_16 : fsk0_16.length = 155 := by rw [efsk0_16, List.length_set]; exact hlfsk0_14
  clear hlfsk0_14
  replace hP : va_P (dC, dI) vwCl [(h0, .inr (13, fsk0_16)), (qk0_1, .inl (cqk0_1, 6000, .inl (fun _ => 0))), (qk0_5, .inl (cqk0_5, 3008, .inl (fun _ => 0))), (qk0_7, .inl (cqk0_7, 3002, .inl (fun _ => 0))), (qk0_9, .inl (cqk0_9, 3002, .inl (fun _ => 0))), (qk0_11, .inl (cqk0_11, 3002, .inl (fun _ => 0)))] H := hP
  replace hD : va_D A [(h0, .inr (13, fsk0_16)), (qk0_1, .inl (cqk0_1, 6000, .inl (fun _ => 0))), (qk0_5, .inl (cqk0_5, 3008, .inl (fun _ => 0))), (qk0_7, .inl (cqk0_7, 3002, .inl (fun _ => 0))), (qk0_9, .inl (cqk0_9, 3002, .inl (fun _ => 0))), (qk0_11, .inl (cqk0_11, 3002, .inl (fun _ => 0)))] := hD
  refine lv_aload_n hx hb dX13_init_76 rfl (lv_at hl 0 rfl) ?_
  refine lv_sipush (v := 9000) hx hb dX13_init_77 (by decide) ?_
  refine va_newa (atype := .int) (ty := .int) (N' := 9000) (a0 := (9000, .inl (fun _ => 0))) hx hb (hts (.arrayClass .int) (by decide +kernel)) rfl hK hP hD hS hA (fun _ => rfl) (by decide) (by decide) (by decide) (Nat.le_of_ble_eq_true rfl) (Nat.le_of_ble_eq_true rfl) dX13_init_80 ?_
  clear hK hP hD hS
  intro qk0_17 cqk0_17 H hK hP hD hS
  refine W.widen (k := 9) (n := 48014) (Nat.le_of_ble_eq_true rfl) (Nat.le_of_ble_eq_true rfl) ?_
  replace hP := hP.sub (ws' := [(h0, .inr (13, fsk0_16)), (qk0_1, .inl (cqk0_1, 6000, .inl (fun _ => 0))), (qk0_5, .inl (cqk0_5, 3008, .inl (fun _ => 0))), (qk0_7, .inl (cqk0_7, 3002, .inl (fun _ => 0))), (qk0_9, .inl (cqk0_9, 3002, .inl (fun _ => 0))), (qk0_11, .inl (cqk0_11, 3002, .inl (fun _ => 0)))]) [0, 1, 2, 3, 4, 5] rfl
  replace hD := hD.sub (ws' := [(h0, .inr (13, fsk0_16)), (qk0_1, .inl (cqk0_1, 6000, .inl (fun _ => 0))), (qk0_5, .inl (cqk0_5, 3008, .inl (fun _ => 0))), (qk0_7, .inl (cqk0_7, 3002, .inl (fun _ => 0))), (qk0_9, .inl (cqk0_9, 3002, .inl (fun _ => 0))), (qk0_11, .inl (cqk0_11, 3002, .inl (fun _ => 0)))]) [0, 1, 2, 3, 4, 5] (by decide) rfl
  replace hK := hK.sub (tys' := [(cqk0_1, .int), (cqk0_5, .int), (cqk0_7, .int), (cqk0_9, .int), (cqk0_11, .int)]) [0, 1, 2, 3, 4] rfl
  refine va_putF (D := (dC, dI)) (ci := 13) (v := .ref qk0_17) (ty := .array .int) (C := RX13) (T := TX13) (N := 155) hx hb hts uX13_init_X13 tyX13 tyX13_ok nmX13 hown hK hP hD hS 0 rfl rfl 13 (by decide) (hts (.fieldLink RX13 34 "ClassMillModel" "begun" "[I") (by decide +kernel)) (fun _ h9 => h9) rfl hin rfl (by decide +kernel) rfl rfl (by rw [hlfsk0_16]; decide) dX13_init_82 ?_
  clear hP hD hS
  intro H locs hP hD hS
  obtain ⟨fsk0_18, efsk0_18⟩ : ∃ zf : List Value, zf = fsk0_16.set 13 (.ref qk0_17) := ⟨_, rfl⟩
  rw [← efsk0_18] at hP hD
  have hlfsk0_18 : fsk0_18.length = 155 := by rw [efsk0_18, List.length_set]; exact hlfsk0_16
  clear hlfsk0_16
  replace hP : va_P (dC, dI) vwCl [(h0, .inr (13, fsk0_18)), (qk0_1, .inl (cqk0_1, 6000, .inl (fun _ => 0))), (qk0_5, .inl (cqk0_5, 3008, .inl (fun _ => 0))), (qk0_7, .inl (cqk0_7, 3002, .inl (fun _ => 0))), (qk0_9, .inl (cqk0_9, 3002, .inl (fun _ => 0))), (qk0_11, .inl (cqk0_11, 3002, .inl (fun _ => 0)))] H := hP
  replace hD : va_D A [(h0, .inr (13, fsk0_18)), (qk0_1, .inl (cqk0_1, 6000, .inl (fun _ => 0))), (qk0_5, .inl (cqk0_5, 3008, .inl (fun _ => 0))), (qk0_7, .inl (cqk0_7, 3002, .inl (fun _ => 0))), (qk0_9, .inl (cqk0_9, 3002, .inl (fun _ => 0))), (qk0_11, .inl (cqk0_11, 3002, .inl (fun _ => 0)))] := hD
  exact kk qk0_1 qk0_3 qk0_5 qk0_7 qk0_9 qk0_11 qk0_13 qk0_15 qk0_17 cqk0_1 cqk0_5 cqk0_7 cqk0_9 cqk0_11 fsk0_18 H locs hlfsk0_18 (by rw [efsk0_18, efsk0_16, efsk0_14, efsk0_12, efsk0_10, efsk0_8, efsk0_6, efsk0_4, efsk0_2]) hK hP hD hS
set_option maxHeartbeats 4000000 in
set_option maxRecDepth 100000 in
theorem ck_model1 {p : Program} {l : Launch} {e : Env} {s : State} {m : MethodId} {args : Array Value} {below : List Frame} {meth : Method} {c : Code} {Q : State → Prop} {A : Nat → Prop} {H0 : Heap} {dC : Nat → ClassId} {dI : Nat → Nat → Nat} (hx : p.tables.exec = Jvm.exec) (hb : c.code = cX13_init) (hown : s.vm.findClass RX13 = some m.cls) (hin : meth.name = "<init>") (hts : ∀ w ∈ wsX13_init, w.before args s = true) (hA : ∀ q : Nat, H0.size ≤ q → A q) {h0 qk0_1 qk0_5 qk0_7 qk0_9 qk0_11 : Nat} {cqk0_1 cqk0_5 cqk0_7 cqk0_9 cqk0_11 : ClassId} {fs : List Value} {H : Heap} {locs : List Loc} {ls : Array Slot} (hlen : fs.length = 155) (hK : va_K (dC, dI) vwCl [(cqk0_1, .int), (cqk0_5, .int), (cqk0_7, .int), (cqk0_9, .int), (cqk0_11, .int)] s) (hP : va_P (dC, dI) vwCl [(h0, .inr (13, fs)), (qk0_1, .inl (cqk0_1, 6000, .inl (fun _ => 0))), (qk0_5, .inl (cqk0_5, 3008, .inl (fun _ => 0))), (qk0_7, .inl (cqk0_7, 3002, .inl (fun _ => 0))), (qk0_9, .inl (cqk0_9, 3002, .inl (fun _ => 0))), (qk0_11, .inl (cqk0_11, 3002, .inl (fun _ => 0)))] H) (hD : va_D A [(h0, .inr (13, fs)), (qk0_1, .inl (cqk0_1, 6000, .inl (fun _ => 0))), (qk0_5, .inl (cqk0_5, 3008, .inl (fun _ => 0))), (qk0_7, .inl (cqk0_7, 3002, .inl (fun _ => 0))), (qk0_9, .inl (cqk0_9, 3002, .inl (fun _ => 0))), (qk0_11, .inl (cqk0_11, 3002, .inl (fun _ => 0)))]) (hS : va_S A H0 H locs) (hl : lv_has ls 1 [(0, .ref h0)]) (kk : ∀ (qk1_1 qk1_3 qk1_5 qk1_7 qk1_9 qk1_11 qk1_13 qk1_15 qk1_17 : Nat) (fs2 : List Value) (H : Heap) (locs : List Loc), fs2.length = 155 → fs2 = (((((((((fs.set 14 (.ref qk1_1)).set 15 (.ref qk1_3)).set 16 (.ref qk1_5)).set 17 (.ref qk1_7)).set 18 (.ref qk1_9)).set 19 (.ref qk1_11)).set 20 (.ref qk1_13)).set 21 (.ref qk1_15)).set 25 (.ref qk1_17)) → va_K (dC, dI) vwCl [(cqk0_1, .int), (cqk0_5, .int), (cqk0_7, .int), (cqk0_9, .int), (cqk0_11, .int)] s → va_P (dC, dI) vwCl [(h0, .inr (13, fs2)), (qk0_1, .inl (cqk0_1, 6000, .inl (fun _ => 0))), (qk0_5, .inl (cqk0_5, 3008, .inl (fun _ => 0))), (qk0_7, .inl (cqk0_7, 3002, .inl (fun _ => 0))), (qk0_9, .inl (cqk0_9, 3002, .inl (fun _ => 0))), (qk0_11, .inl (cqk0_11, 3002, .inl (fun _ => 0)))] H → va_D A [(h0, .inr (13, fs2)), (qk0_1, .inl (cqk0_1, 6000, .inl (fun _ => 0))), (qk0_5, .inl (cqk0_5, 3008, .inl (fun _ => 0))), (qk0_7, .inl (cqk0_7, 3002, .inl (fun _ => 0))), (qk0_9, .inl (cqk0_9, 3002, .inl (fun _ => 0))), (qk0_11, .inl (cqk0_11, 3002, .inl (fun _ => 0)))] → va_S A H0 H locs → W p l e ({ frames := 2, cells := 95, slots := 548130, locals := 60 } : Room) s m args below meth c H locs 18 120414 Q (F0 m 166 ls [])) : W p l e ({ frames := 2, cells := 95, slots := 548130, locals := 60 } : Room) s m args below meth c H locs 9 48014 Q (F0 m 85 ls []) := by
  refine lv_aload_n hx hb dX13_init_85 rfl (lv_at hl 0 rfl) ?_
  refine lv_sipush (v := 9000) hx hb dX13_init_86 (by decide) ?_
  refine va_newa (atype := .int) (ty := .int) (N' := 9000) (a0 := (9000, .inl (fun _ => 0))) hx hb (hts (.arrayClass .int) (by decide +kernel)) rfl hK hP hD hS hA (fun _ => rfl) (by decide) (by decide) (by decide) (Nat.le_of_ble_eq_true rfl) (Nat.le_of_ble_eq_true rfl) dX13_init_89 ?_
  clear hK hP hD hS
  intro qk1_1 cqk1_1 H hK hP hD hS
  refine W.widen (k := 10) (n := 57014) (Nat.le_of_ble_eq_true rfl) (Nat.le_of_ble_eq_true rfl) ?_
  replace hP := hP.sub (ws' := [(h0, .inr (13, fs)), (qk0_1, .inl (cqk0_1, 6000, .inl (fun _ => 0))), (qk0_5, .inl (cqk0_5, 3008, .inl (fun _ => 0))), (qk0_7, .inl (cqk0_7, 3002, .inl (fun _ => 0))), (qk0_9, .inl (cqk0_9, 3002, .inl (fun _ => 0))), (qk0_11, .inl (cqk0_11, 3002, .inl (fun _ => 0)))]) [0, 1, 2, 3, 4, 5] rfl
  replace hD := hD.sub (ws' := [(h0, .inr (13, fs)), (qk0_1, .inl (cqk0_1, 6000, .inl (fun _ => 0))), (qk0_5, .inl (cqk0_5, 3008, .inl (fun _ => 0))), (qk0_7, .inl (cqk0_7, 3002, .inl (fun _ => 0))), (qk0_9, .inl (cqk0_9, 3002, .inl (fun _ => 0))), (qk0_11, .inl (cqk0_11, 3002, .inl (fun _ => 0)))]) [0, 1, 2, 3, 4, 5] (by decide) rfl
  replace hK := hK.sub (tys' := [(cqk0_1, .int), (cqk0_5, .int), (cqk0_7, .int), (cqk0_9, .int), (cqk0_11, .int)]) [0, 1, 2, 3, 4] rfl
  refine va_putF (D := (dC, dI)) (ci := 13) (v := .ref qk1_1) (ty := .array .int) (C := RX13) (T := TX13) (N := 155) hx hb hts uX13_init_X13 tyX13 tyX13_ok nmX13 hown hK hP hD hS 0 rfl rfl 14 (by decide) (hts (.fieldLink RX13 37 "ClassMillModel" "one" "[I") (by decide +kernel)) (fun _ h9 => h9) rfl hin rfl (by decide +kernel) rfl rfl (by rw [hlen]; decide) dX13_init_91 ?_
  clear hP hD hS
  intro H locs hP hD hS
  obtain ⟨fsk1_2, efsk1_2⟩ : ∃ zf : List Value, zf = fs.set 14 (.ref qk1_1) := ⟨_, rfl⟩
  rw [← efsk1_2] at hP hD
  have hlfsk1_2 : fsk1_2.length = 155 := by rw [efsk1_2, List.length_set]; exact hlen
  clear hlen
  replace hP : va_P (dC, dI) vwCl [(h0, .inr (13, fsk1_2)), (qk0_1, .inl (cqk0_1, 6000, .inl (fun _ => 0))), (qk0_5, .inl (cqk0_5, 3008, .inl (fun _ => 0))), (qk0_7, .inl (cqk0_7, 3002, .inl (fun _ => 0))), (qk0_9, .inl (cqk0_9, 3002, .inl (fun _ => 0))), (qk0_11, .inl (cqk0_11, 3002, .inl (fun _ => 0)))] H := hP
  replace hD : va_D A [(h0, .inr (13, fsk1_2)), (qk0_1, .inl (cqk0_1, 6000, .inl (fun _ => 0))), (qk0_5, .inl (cqk0_5, 3008, .inl (fun _ => 0))), (qk0_7, .inl (cqk0_7, 3002, .inl (fun _ => 0))), (qk0_9, .inl (cqk0_9, 3002, .inl (fun _ => 0))), (qk0_11, .inl (cqk0_11, 3002, .inl (fun _ => 0)))] := hD
  refine lv_aload_n hx hb dX13_init_94 rfl (lv_at hl 0 rfl) ?_
  refine lv_sipush (v := 9000) hx hb dX13_init_95 (by decide) ?_
  refine va_newa (atype := .int) (ty := .int) (N' := 9000) (a0 := (9000, .inl (fun _ => 0))) hx hb (hts (.arrayClass .int) (by decide +kernel)) rfl hK hP hD hS hA (fun _ => rfl) (by decide) (by decide) (by decide) (Nat.le_of_ble_eq_true rfl) (Nat.le_of_ble_eq_true rfl) dX13_init_98 ?_
  clear hK hP hD hS
  intro qk1_3 cqk1_3 H hK hP hD hS
  refine W.widen (k := 11) (n := 66014) (Nat.le_of_ble_eq_true rfl) (Nat.le_of_ble_eq_true rfl) ?_
  replace hP := hP.sub (ws' := [(h0, .inr (13, fsk1_2)), (qk0_1, .inl (cqk0_1, 6000, .inl (fun _ => 0))), (qk0_5, .inl (cqk0_5, 3008, .inl (fun _ => 0))), (qk0_7, .inl (cqk0_7, 3002, .inl (fun _ => 0))), (qk0_9, .inl (cqk0_9, 3002, .inl (fun _ => 0))), (qk0_11, .inl (cqk0_11, 3002, .inl (fun _ => 0)))]) [0, 1, 2, 3, 4, 5] rfl
  replace hD := hD.sub (ws' := [(h0, .inr (13, fsk1_2)), (qk0_1, .inl (cqk0_1, 6000, .inl (fun _ => 0))), (qk0_5, .inl (cqk0_5, 3008, .inl (fun _ => 0))), (qk0_7, .inl (cqk0_7, 3002, .inl (fun _ => 0))), (qk0_9, .inl (cqk0_9, 3002, .inl (fun _ => 0))), (qk0_11, .inl (cqk0_11, 3002, .inl (fun _ => 0)))]) [0, 1, 2, 3, 4, 5] (by decide) rfl
  replace hK := hK.sub (tys' := [(cqk0_1, .int), (cqk0_5, .int), (cqk0_7, .int), (cqk0_9, .int), (cqk0_11, .int)]) [0, 1, 2, 3, 4] rfl
  refine va_putF (D := (dC, dI)) (ci := 13) (v := .ref qk1_3) (ty := .array .int) (C := RX13) (T := TX13) (N := 155) hx hb hts uX13_init_X13 tyX13 tyX13_ok nmX13 hown hK hP hD hS 0 rfl rfl 15 (by decide) (hts (.fieldLink RX13 40 "ClassMillModel" "two" "[I") (by decide +kernel)) (fun _ h9 => h9) rfl hin rfl (by decide +kernel) rfl rfl (by rw [hlfsk1_2]; decide) dX13_init_100 ?_
  clear hP hD hS
  intro H locs hP hD hS
  obtain ⟨fsk1_4, efsk1_4⟩ : ∃ zf : List Value, zf = fsk1_2.set 15 (.ref qk1_3) := ⟨_, rfl⟩
  rw [← efsk1_4] at hP hD
  have hlfsk1_4 : fsk1_4.length = 155 := by rw [efsk1_4, List.length_set]; exact hlfsk1_2
  clear hlfsk1_2
  replace hP : va_P (dC, dI) vwCl [(h0, .inr (13, fsk1_4)), (qk0_1, .inl (cqk0_1, 6000, .inl (fun _ => 0))), (qk0_5, .inl (cqk0_5, 3008, .inl (fun _ => 0))), (qk0_7, .inl (cqk0_7, 3002, .inl (fun _ => 0))), (qk0_9, .inl (cqk0_9, 3002, .inl (fun _ => 0))), (qk0_11, .inl (cqk0_11, 3002, .inl (fun _ => 0)))] H := hP
  replace hD : va_D A [(h0, .inr (13, fsk1_4)), (qk0_1, .inl (cqk0_1, 6000, .inl (fun _ => 0))), (qk0_5, .inl (cqk0_5, 3008, .inl (fun _ => 0))), (qk0_7, .inl (cqk0_7, 3002, .inl (fun _ => 0))), (qk0_9, .inl (cqk0_9, 3002, .inl (fun _ => 0))), (qk0_11, .inl (cqk0_11, 3002, .inl (fun _ => 0)))] := hD
  refine lv_aload_n hx hb dX13_init_103 rfl (lv_at hl 0 rfl) ?_
  refine lv_sipush (v := 9000) hx hb dX13_init_104 (by decide) ?_
  refine va_newa (atype := .int) (ty := .int) (N' := 9000) (a0 := (9000, .inl (fun _ => 0))) hx hb (hts (.arrayClass .int) (by decide +kernel)) rfl hK hP hD hS hA (fun _ => rfl) (by decide) (by decide) (by decide) (Nat.le_of_ble_eq_true rfl) (Nat.le_of_ble_eq_true rfl) dX13_init_107 ?_
  clear hK hP hD hS
  intro qk1_5 cqk1_5 H hK hP hD hS
  refine W.widen (k := 12) (n := 75014) (Nat.le_of_ble_eq_true rfl) (Nat.le_of_ble_eq_true rfl) ?_
  replace hP := hP.sub (ws' := [(h0, .inr (13, fsk1_4)), (qk0_1, .inl (cqk0_1, 6000, .inl (fun _ => 0))), (qk0_5, .inl (cqk0_5, 3008, .inl (fun _ => 0))), (qk0_7, .inl (cqk0_7, 3002, .inl (fun _ => 0))), (qk0_9, .inl (cqk0_9, 3002, .inl (fun _ => 0))), (qk0_11, .inl (cqk0_11, 3002, .inl (fun _ => 0)))]) [0, 1, 2, 3, 4, 5] rfl
  replace hD := hD.sub (ws' := [(h0, .inr (13, fsk1_4)), (qk0_1, .inl (cqk0_1, 6000, .inl (fun _ => 0))), (qk0_5, .inl (cqk0_5, 3008, .inl (fun _ => 0))), (qk0_7, .inl (cqk0_7, 3002, .inl (fun _ => 0))), (qk0_9, .inl (cqk0_9, 3002, .inl (fun _ => 0))), (qk0_11, .inl (cqk0_11, 3002, .inl (fun _ => 0)))]) [0, 1, 2, 3, 4, 5] (by decide) rfl
  replace hK := hK.sub (tys' := [(cqk0_1, .int), (cqk0_5, .int), (cqk0_7, .int), (cqk0_9, .int), (cqk0_11, .int)]) [0, 1, 2, 3, 4] rfl
  refine va_putF (D := (dC, dI)) (ci := 13) (v := .ref qk1_5) (ty := .array .int) (C := RX13) (T := TX13) (N := 155) hx hb hts uX13_init_X13 tyX13 tyX13_ok nmX13 hown hK hP hD hS 0 rfl rfl 16 (by decide) (hts (.fieldLink RX13 43 "ClassMillModel" "three" "[I") (by decide +kernel)) (fun _ h9 => h9) rfl hin rfl (by decide +kernel) rfl rfl (by rw [hlfsk1_4]; decide) dX13_init_109 ?_
  clear hP hD hS
  intro H locs hP hD hS
  obtain ⟨fsk1_6, efsk1_6⟩ : ∃ zf : List Value, zf = fsk1_4.set 16 (.ref qk1_5) := ⟨_, rfl⟩
  rw [← efsk1_6] at hP hD
  have hlfsk1_6 : fsk1_6.length = 155 := by rw [efsk1_6, List.length_set]; exact hlfsk1_4
  clear hlfsk1_4
  replace hP : va_P (dC, dI) vwCl [(h0, .inr (13, fsk1_6)), (qk0_1, .inl (cqk0_1, 6000, .inl (fun _ => 0))), (qk0_5, .inl (cqk0_5, 3008, .inl (fun _ => 0))), (qk0_7, .inl (cqk0_7, 3002, .inl (fun _ => 0))), (qk0_9, .inl (cqk0_9, 3002, .inl (fun _ => 0))), (qk0_11, .inl (cqk0_11, 3002, .inl (fun _ => 0)))] H := hP
  replace hD : va_D A [(h0, .inr (13, fsk1_6)), (qk0_1, .inl (cqk0_1, 6000, .inl (fun _ => 0))), (qk0_5, .inl (cqk0_5, 3008, .inl (fun _ => 0))), (qk0_7, .inl (cqk0_7, 3002, .inl (fun _ => 0))), (qk0_9, .inl (cqk0_9, 3002, .inl (fun _ => 0))), (qk0_11, .inl (cqk0_11, 3002, .inl (fun _ => 0)))] := hD
  refine lv_aload_n hx hb dX13_init_112 rfl (lv_at hl 0 rfl) ?_
  refine lv_sipush (v := 9000) hx hb dX13_init_113 (by decide) ?_
  refine va_newa (atype := .int) (ty := .int) (N' := 9000) (a0 := (9000, .inl (fun _ => 0))) hx hb (hts (.arrayClass .int) (by decide +kernel)) rfl hK hP hD hS hA (fun _ => rfl) (by decide) (by decide) (by decide) (Nat.le_of_ble_eq_true rfl) (Nat.le_of_ble_eq_true rfl) dX13_init_116 ?_
  clear hK hP hD hS
  intro qk1_7 cqk1_7 H hK hP hD hS
  refine W.widen (k := 13) (n := 84014) (Nat.le_of_ble_eq_true rfl) (Nat.le_of_ble_eq_true rfl) ?_
  replace hP := hP.sub (ws' := [(h0, .inr (13, fsk1_6)), (qk0_1, .inl (cqk0_1, 6000, .inl (fun _ => 0))), (qk0_5, .inl (cqk0_5, 3008, .inl (fun _ => 0))), (qk0_7, .inl (cqk0_7, 3002, .inl (fun _ => 0))), (qk0_9, .inl (cqk0_9, 3002, .inl (fun _ => 0))), (qk0_11, .inl (cqk0_11, 3002, .inl (fun _ => 0)))]) [0, 1, 2, 3, 4, 5] rfl
  replace hD := hD.sub (ws' := [(h0, .inr (13, fsk1_6)), (qk0_1, .inl (cqk0_1, 6000, .inl (fun _ => 0))), (qk0_5, .inl (cqk0_5, 3008, .inl (fun _ => 0))), (qk0_7, .inl (cqk0_7, 3002, .inl (fun _ => 0))), (qk0_9, .inl (cqk0_9, 3002, .inl (fun _ => 0))), (qk0_11, .inl (cqk0_11, 3002, .inl (fun _ => 0)))]) [0, 1, 2, 3, 4, 5] (by decide) rfl
  replace hK := hK.sub (tys' := [(cqk0_1, .int), (cqk0_5, .int), (cqk0_7, .int), (cqk0_9, .int), (cqk0_11, .int)]) [0, 1, 2, 3, 4] rfl
  refine va_putF (D := (dC, dI)) (ci := 13) (v := .ref qk1_7) (ty := .array .int) (C := RX13) (T := TX13) (N := 155) hx hb hts uX13_init_X13 tyX13 tyX13_ok nmX13 hown hK hP hD hS 0 rfl rfl 17 (by decide) (hts (.fieldLink RX13 46 "ClassMillModel" "next" "[I") (by decide +kernel)) (fun _ h9 => h9) rfl hin rfl (by decide +kernel) rfl rfl (by rw [hlfsk1_6]; decide) dX13_init_118 ?_
  clear hP hD hS
  intro H locs hP hD hS
  obtain ⟨fsk1_8, efsk1_8⟩ : ∃ zf : List Value, zf = fsk1_6.set 17 (.ref qk1_7) := ⟨_, rfl⟩
  rw [← efsk1_8] at hP hD
  have hlfsk1_8 : fsk1_8.length = 155 := by rw [efsk1_8, List.length_set]; exact hlfsk1_6
  clear hlfsk1_6
  replace hP : va_P (dC, dI) vwCl [(h0, .inr (13, fsk1_8)), (qk0_1, .inl (cqk0_1, 6000, .inl (fun _ => 0))), (qk0_5, .inl (cqk0_5, 3008, .inl (fun _ => 0))), (qk0_7, .inl (cqk0_7, 3002, .inl (fun _ => 0))), (qk0_9, .inl (cqk0_9, 3002, .inl (fun _ => 0))), (qk0_11, .inl (cqk0_11, 3002, .inl (fun _ => 0)))] H := hP
  replace hD : va_D A [(h0, .inr (13, fsk1_8)), (qk0_1, .inl (cqk0_1, 6000, .inl (fun _ => 0))), (qk0_5, .inl (cqk0_5, 3008, .inl (fun _ => 0))), (qk0_7, .inl (cqk0_7, 3002, .inl (fun _ => 0))), (qk0_9, .inl (cqk0_9, 3002, .inl (fun _ => 0))), (qk0_11, .inl (cqk0_11, 3002, .inl (fun _ => 0)))] := hD
  refine lv_aload_n hx hb dX13_init_121 rfl (lv_at hl 0 rfl) ?_
  refine lv_sipush (v := 9000) hx hb dX13_init_122 (by decide) ?_
  refine va_newa (atype := .int) (ty := .int) (N' := 9000) (a0 := (9000, .inl (fun _ => 0))) hx hb (hts (.arrayClass .int) (by decide +kernel)) rfl hK hP hD hS hA (fun _ => rfl) (by decide) (by decide) (by decide) (Nat.le_of_ble_eq_true rfl) (Nat.le_of_ble_eq_true rfl) dX13_init_125 ?_
  clear hK hP hD hS
  intro qk1_9 cqk1_9 H hK hP hD hS
  refine W.widen (k := 14) (n := 93014) (Nat.le_of_ble_eq_true rfl) (Nat.le_of_ble_eq_true rfl) ?_
  replace hP := hP.sub (ws' := [(h0, .inr (13, fsk1_8)), (qk0_1, .inl (cqk0_1, 6000, .inl (fun _ => 0))), (qk0_5, .inl (cqk0_5, 3008, .inl (fun _ => 0))), (qk0_7, .inl (cqk0_7, 3002, .inl (fun _ => 0))), (qk0_9, .inl (cqk0_9, 3002, .inl (fun _ => 0))), (qk0_11, .inl (cqk0_11, 3002, .inl (fun _ => 0)))]) [0, 1, 2, 3, 4, 5] rfl
  replace hD := hD.sub (ws' := [(h0, .inr (13, fsk1_8)), (qk0_1, .inl (cqk0_1, 6000, .inl (fun _ => 0))), (qk0_5, .inl (cqk0_5, 3008, .inl (fun _ => 0))), (qk0_7, .inl (cqk0_7, 3002, .inl (fun _ => 0))), (qk0_9, .inl (cqk0_9, 3002, .inl (fun _ => 0))), (qk0_11, .inl (cqk0_11, 3002, .inl (fun _ => 0)))]) [0, 1, 2, 3, 4, 5] (by decide) rfl
  replace hK := hK.sub (tys' := [(cqk0_1, .int), (cqk0_5, .int), (cqk0_7, .int), (cqk0_9, .int), (cqk0_11, .int)]) [0, 1, 2, 3, 4] rfl
  refine va_putF (D := (dC, dI)) (ci := 13) (v := .ref qk1_9) (ty := .array .int) (C := RX13) (T := TX13) (N := 155) hx hb hts uX13_init_X13 tyX13 tyX13_ok nmX13 hown hK hP hD hS 0 rfl rfl 18 (by decide) (hts (.fieldLink RX13 49 "ClassMillModel" "gives" "[I") (by decide +kernel)) (fun _ h9 => h9) rfl hin rfl (by decide +kernel) rfl rfl (by rw [hlfsk1_8]; decide) dX13_init_127 ?_
  clear hP hD hS
  intro H locs hP hD hS
  obtain ⟨fsk1_10, efsk1_10⟩ : ∃ zf : List Value, zf = fsk1_8.set 18 (.ref qk1_9) := ⟨_, rfl⟩
  rw [← efsk1_10] at hP hD
  have hlfsk1_10 : fsk1_10.length = 155 := by rw [efsk1_10, List.length_set]; exact hlfsk1_8
  clear hlfsk1_8
  replace hP : va_P (dC, dI) vwCl [(h0, .inr (13, fsk1_10)), (qk0_1, .inl (cqk0_1, 6000, .inl (fun _ => 0))), (qk0_5, .inl (cqk0_5, 3008, .inl (fun _ => 0))), (qk0_7, .inl (cqk0_7, 3002, .inl (fun _ => 0))), (qk0_9, .inl (cqk0_9, 3002, .inl (fun _ => 0))), (qk0_11, .inl (cqk0_11, 3002, .inl (fun _ => 0)))] H := hP
  replace hD : va_D A [(h0, .inr (13, fsk1_10)), (qk0_1, .inl (cqk0_1, 6000, .inl (fun _ => 0))), (qk0_5, .inl (cqk0_5, 3008, .inl (fun _ => 0))), (qk0_7, .inl (cqk0_7, 3002, .inl (fun _ => 0))), (qk0_9, .inl (cqk0_9, 3002, .inl (fun _ => 0))), (qk0_11, .inl (cqk0_11, 3002, .inl (fun _ => 0)))] := hD
  refine lv_aload_n hx hb dX13_init_130 rfl (lv_at hl 0 rfl) ?_
  refine lv_sipush (v := 9000) hx hb dX13_init_131 (by decide) ?_
  refine va_newa (atype := .int) (ty := .int) (N' := 9000) (a0 := (9000, .inl (fun _ => 0))) hx hb (hts (.arrayClass .int) (by decide +kernel)) rfl hK hP hD hS hA (fun _ => rfl) (by decide) (by decide) (by decide) (Nat.le_of_ble_eq_true rfl) (Nat.le_of_ble_eq_true rfl) dX13_init_134 ?_
  clear hK hP hD hS
  intro qk1_11 cqk1_11 H hK hP hD hS
  refine W.widen (k := 15) (n := 102014) (Nat.le_of_ble_eq_true rfl) (Nat.le_of_ble_eq_true rfl) ?_
  replace hP := hP.sub (ws' := [(h0, .inr (13, fsk1_10)), (qk0_1, .inl (cqk0_1, 6000, .inl (fun _ => 0))), (qk0_5, .inl (cqk0_5, 3008, .inl (fun _ => 0))), (qk0_7, .inl (cqk0_7, 3002, .inl (fun _ => 0))), (qk0_9, .inl (cqk0_9, 3002, .inl (fun _ => 0))), (qk0_11, .inl (cqk0_11, 3002, .inl (fun _ => 0)))]) [0, 1, 2, 3, 4, 5] rfl
  replace hD := hD.sub (ws' := [(h0, .inr (13, fsk1_10)), (qk0_1, .inl (cqk0_1, 6000, .inl (fun _ => 0))), (qk0_5, .inl (cqk0_5, 3008, .inl (fun _ => 0))), (qk0_7, .inl (cqk0_7, 3002, .inl (fun _ => 0))), (qk0_9, .inl (cqk0_9, 3002, .inl (fun _ => 0))), (qk0_11, .inl (cqk0_11, 3002, .inl (fun _ => 0)))]) [0, 1, 2, 3, 4, 5] (by decide) rfl
  replace hK := hK.sub (tys' := [(cqk0_1, .int), (cqk0_5, .int), (cqk0_7, .int), (cqk0_9, .int), (cqk0_11, .int)]) [0, 1, 2, 3, 4] rfl
  refine va_putF (D := (dC, dI)) (ci := 13) (v := .ref qk1_11) (ty := .array .int) (C := RX13) (T := TX13) (N := 155) hx hb hts uX13_init_X13 tyX13 tyX13_ok nmX13 hown hK hP hD hS 0 rfl rfl 19 (by decide) (hts (.fieldLink RX13 52 "ClassMillModel" "means" "[I") (by decide +kernel)) (fun _ h9 => h9) rfl hin rfl (by decide +kernel) rfl rfl (by rw [hlfsk1_10]; decide) dX13_init_136 ?_
  clear hP hD hS
  intro H locs hP hD hS
  obtain ⟨fsk1_12, efsk1_12⟩ : ∃ zf : List Value, zf = fsk1_10.set 19 (.ref qk1_11) := ⟨_, rfl⟩
  rw [← efsk1_12] at hP hD
  have hlfsk1_12 : fsk1_12.length = 155 := by rw [efsk1_12, List.length_set]; exact hlfsk1_10
  clear hlfsk1_10
  replace hP : va_P (dC, dI) vwCl [(h0, .inr (13, fsk1_12)), (qk0_1, .inl (cqk0_1, 6000, .inl (fun _ => 0))), (qk0_5, .inl (cqk0_5, 3008, .inl (fun _ => 0))), (qk0_7, .inl (cqk0_7, 3002, .inl (fun _ => 0))), (qk0_9, .inl (cqk0_9, 3002, .inl (fun _ => 0))), (qk0_11, .inl (cqk0_11, 3002, .inl (fun _ => 0)))] H := hP
  replace hD : va_D A [(h0, .inr (13, fsk1_12)), (qk0_1, .inl (cqk0_1, 6000, .inl (fun _ => 0))), (qk0_5, .inl (cqk0_5, 3008, .inl (fun _ => 0))), (qk0_7, .inl (cqk0_7, 3002, .inl (fun _ => 0))), (qk0_9, .inl (cqk0_9, 3002, .inl (fun _ => 0))), (qk0_11, .inl (cqk0_11, 3002, .inl (fun _ => 0)))] := hD
  refine lv_aload_n hx hb dX13_init_139 rfl (lv_at hl 0 rfl) ?_
  refine lv_sipush (v := 9000) hx hb dX13_init_140 (by decide) ?_
  refine va_newa (atype := .int) (ty := .int) (N' := 9000) (a0 := (9000, .inl (fun _ => 0))) hx hb (hts (.arrayClass .int) (by decide +kernel)) rfl hK hP hD hS hA (fun _ => rfl) (by decide) (by decide) (by decide) (Nat.le_of_ble_eq_true rfl) (Nat.le_of_ble_eq_true rfl) dX13_init_143 ?_
  clear hK hP hD hS
  intro qk1_13 cqk1_13 H hK hP hD hS
  refine W.widen (k := 16) (n := 111014) (Nat.le_of_ble_eq_true rfl) (Nat.le_of_ble_eq_true rfl) ?_
  replace hP := hP.sub (ws' := [(h0, .inr (13, fsk1_12)), (qk0_1, .inl (cqk0_1, 6000, .inl (fun _ => 0))), (qk0_5, .inl (cqk0_5, 3008, .inl (fun _ => 0))), (qk0_7, .inl (cqk0_7, 3002, .inl (fun _ => 0))), (qk0_9, .inl (cqk0_9, 3002, .inl (fun _ => 0))), (qk0_11, .inl (cqk0_11, 3002, .inl (fun _ => 0)))]) [0, 1, 2, 3, 4, 5] rfl
  replace hD := hD.sub (ws' := [(h0, .inr (13, fsk1_12)), (qk0_1, .inl (cqk0_1, 6000, .inl (fun _ => 0))), (qk0_5, .inl (cqk0_5, 3008, .inl (fun _ => 0))), (qk0_7, .inl (cqk0_7, 3002, .inl (fun _ => 0))), (qk0_9, .inl (cqk0_9, 3002, .inl (fun _ => 0))), (qk0_11, .inl (cqk0_11, 3002, .inl (fun _ => 0)))]) [0, 1, 2, 3, 4, 5] (by decide) rfl
  replace hK := hK.sub (tys' := [(cqk0_1, .int), (cqk0_5, .int), (cqk0_7, .int), (cqk0_9, .int), (cqk0_11, .int)]) [0, 1, 2, 3, 4] rfl
  refine va_putF (D := (dC, dI)) (ci := 13) (v := .ref qk1_13) (ty := .array .int) (C := RX13) (T := TX13) (N := 155) hx hb hts uX13_init_X13 tyX13 tyX13_ok nmX13 hown hK hP hD hS 0 rfl rfl 20 (by decide) (hts (.fieldLink RX13 55 "ClassMillModel" "slot" "[I") (by decide +kernel)) (fun _ h9 => h9) rfl hin rfl (by decide +kernel) rfl rfl (by rw [hlfsk1_12]; decide) dX13_init_145 ?_
  clear hP hD hS
  intro H locs hP hD hS
  obtain ⟨fsk1_14, efsk1_14⟩ : ∃ zf : List Value, zf = fsk1_12.set 20 (.ref qk1_13) := ⟨_, rfl⟩
  rw [← efsk1_14] at hP hD
  have hlfsk1_14 : fsk1_14.length = 155 := by rw [efsk1_14, List.length_set]; exact hlfsk1_12
  clear hlfsk1_12
  replace hP : va_P (dC, dI) vwCl [(h0, .inr (13, fsk1_14)), (qk0_1, .inl (cqk0_1, 6000, .inl (fun _ => 0))), (qk0_5, .inl (cqk0_5, 3008, .inl (fun _ => 0))), (qk0_7, .inl (cqk0_7, 3002, .inl (fun _ => 0))), (qk0_9, .inl (cqk0_9, 3002, .inl (fun _ => 0))), (qk0_11, .inl (cqk0_11, 3002, .inl (fun _ => 0)))] H := hP
  replace hD : va_D A [(h0, .inr (13, fsk1_14)), (qk0_1, .inl (cqk0_1, 6000, .inl (fun _ => 0))), (qk0_5, .inl (cqk0_5, 3008, .inl (fun _ => 0))), (qk0_7, .inl (cqk0_7, 3002, .inl (fun _ => 0))), (qk0_9, .inl (cqk0_9, 3002, .inl (fun _ => 0))), (qk0_11, .inl (cqk0_11, 3002, .inl (fun _ => 0)))] := hD
  refine lv_aload_n hx hb dX13_init_148 rfl (lv_at hl 0 rfl) ?_
  refine lv_sipush (v := 9000) hx hb dX13_init_149 (by decide) ?_
  refine va_newa (atype := .boolean) (ty := .boolean) (N' := 9000) (a0 := (9000, .inl (fun _ => 0))) hx hb (hts (.arrayClass .boolean) (by decide +kernel)) rfl hK hP hD hS hA (fun _ => rfl) (by decide) (by decide) (by decide) (Nat.le_of_ble_eq_true rfl) (Nat.le_of_ble_eq_true rfl) dX13_init_152 ?_
  clear hK hP hD hS
  intro qk1_15 cqk1_15 H hK hP hD hS
  refine W.widen (k := 17) (n := 120014) (Nat.le_of_ble_eq_true rfl) (Nat.le_of_ble_eq_true rfl) ?_
  replace hP := hP.sub (ws' := [(h0, .inr (13, fsk1_14)), (qk0_1, .inl (cqk0_1, 6000, .inl (fun _ => 0))), (qk0_5, .inl (cqk0_5, 3008, .inl (fun _ => 0))), (qk0_7, .inl (cqk0_7, 3002, .inl (fun _ => 0))), (qk0_9, .inl (cqk0_9, 3002, .inl (fun _ => 0))), (qk0_11, .inl (cqk0_11, 3002, .inl (fun _ => 0)))]) [0, 1, 2, 3, 4, 5] rfl
  replace hD := hD.sub (ws' := [(h0, .inr (13, fsk1_14)), (qk0_1, .inl (cqk0_1, 6000, .inl (fun _ => 0))), (qk0_5, .inl (cqk0_5, 3008, .inl (fun _ => 0))), (qk0_7, .inl (cqk0_7, 3002, .inl (fun _ => 0))), (qk0_9, .inl (cqk0_9, 3002, .inl (fun _ => 0))), (qk0_11, .inl (cqk0_11, 3002, .inl (fun _ => 0)))]) [0, 1, 2, 3, 4, 5] (by decide) rfl
  replace hK := hK.sub (tys' := [(cqk0_1, .int), (cqk0_5, .int), (cqk0_7, .int), (cqk0_9, .int), (cqk0_11, .int)]) [0, 1, 2, 3, 4] rfl
  refine va_putF (D := (dC, dI)) (ci := 13) (v := .ref qk1_15) (ty := .array .boolean) (C := RX13) (T := TX13) (N := 155) hx hb hts uX13_init_X13 tyX13 tyX13_ok nmX13 hown hK hP hD hS 0 rfl rfl 21 (by decide) (hts (.fieldLink RX13 58 "ClassMillModel" "inBrackets" "[Z") (by decide +kernel)) (fun _ h9 => h9) rfl hin rfl (by decide +kernel) rfl rfl (by rw [hlfsk1_14]; decide) dX13_init_154 ?_
  clear hP hD hS
  intro H locs hP hD hS
  obtain ⟨fsk1_16, efsk1_16⟩ : ∃ zf : List Value, zf = fsk1_14.set 21 (.ref qk1_15) := ⟨_, rfl⟩
  rw [← efsk1_16] at hP hD
  have hlfsk1_16 : fsk1_16.length = 155 := by rw [efsk1_16, List.length_set]; exact hlfsk1_14
  clear hlfsk1_14
  replace hP : va_P (dC, dI) vwCl [(h0, .inr (13, fsk1_16)), (qk0_1, .inl (cqk0_1, 6000, .inl (fun _ => 0))), (qk0_5, .inl (cqk0_5, 3008, .inl (fun _ => 0))), (qk0_7, .inl (cqk0_7, 3002, .inl (fun _ => 0))), (qk0_9, .inl (cqk0_9, 3002, .inl (fun _ => 0))), (qk0_11, .inl (cqk0_11, 3002, .inl (fun _ => 0)))] H := hP
  replace hD : va_D A [(h0, .inr (13, fsk1_16)), (qk0_1, .inl (cqk0_1, 6000, .inl (fun _ => 0))), (qk0_5, .inl (cqk0_5, 3008, .inl (fun _ => 0))), (qk0_7, .inl (cqk0_7, 3002, .inl (fun _ => 0))), (qk0_9, .inl (cqk0_9, 3002, .inl (fun _ => 0))), (qk0_11, .inl (cqk0_11, 3002, .inl (fun _ => 0)))] := hD
  refine lv_aload_n hx hb dX13_init_157 rfl (lv_at hl 0 rfl) ?_
  refine lv_sipush (v := 400) hx hb dX13_init_158 (by decide) ?_
  refine va_newa (atype := .int) (ty := .int) (N' := 400) (a0 := (400, .inl (fun _ => 0))) hx hb (hts (.arrayClass .int) (by decide +kernel)) rfl hK hP hD hS hA (fun _ => rfl) (by decide) (by decide) (by decide) (Nat.le_of_ble_eq_true rfl) (Nat.le_of_ble_eq_true rfl) dX13_init_161 ?_
  clear hK hP hD hS
  intro qk1_17 cqk1_17 H hK hP hD hS
  refine W.widen (k := 18) (n := 120414) (Nat.le_of_ble_eq_true rfl) (Nat.le_of_ble_eq_true rfl) ?_
  replace hP := hP.sub (ws' := [(h0, .inr (13, fsk1_16)), (qk0_1, .inl (cqk0_1, 6000, .inl (fun _ => 0))), (qk0_5, .inl (cqk0_5, 3008, .inl (fun _ => 0))), (qk0_7, .inl (cqk0_7, 3002, .inl (fun _ => 0))), (qk0_9, .inl (cqk0_9, 3002, .inl (fun _ => 0))), (qk0_11, .inl (cqk0_11, 3002, .inl (fun _ => 0)))]) [0, 1, 2, 3, 4, 5] rfl
  replace hD := hD.sub (ws' := [(h0, .inr (13, fsk1_16)), (qk0_1, .inl (cqk0_1, 6000, .inl (fun _ => 0))), (qk0_5, .inl (cqk0_5, 3008, .inl (fun _ => 0))), (qk0_7, .inl (cqk0_7, 3002, .inl (fun _ => 0))), (qk0_9, .inl (cqk0_9, 3002, .inl (fun _ => 0))), (qk0_11, .inl (cqk0_11, 3002, .inl (fun _ => 0)))]) [0, 1, 2, 3, 4, 5] (by decide) rfl
  replace hK := hK.sub (tys' := [(cqk0_1, .int), (cqk0_5, .int), (cqk0_7, .int), (cqk0_9, .int), (cqk0_11, .int)]) [0, 1, 2, 3, 4] rfl
  refine va_putF (D := (dC, dI)) (ci := 13) (v := .ref qk1_17) (ty := .array .int) (C := RX13) (T := TX13) (N := 155) hx hb hts uX13_init_X13 tyX13 tyX13_ok nmX13 hown hK hP hD hS 0 rfl rfl 25 (by decide) (hts (.fieldLink RX13 62 "ClassMillModel" "className" "[I") (by decide +kernel)) (fun _ h9 => h9) rfl hin rfl (by decide +kernel) rfl rfl (by rw [hlfsk1_16]; decide) dX13_init_163 ?_
  clear hP hD hS
  intro H locs hP hD hS
  obtain ⟨fsk1_18, efsk1_18⟩ : ∃ zf : List Value, zf = fsk1_16.set 25 (.ref qk1_17) := ⟨_, rfl⟩
  rw [← efsk1_18] at hP hD
  have hlfsk1_18 : fsk1_18.length = 155 := by rw [efsk1_18, List.length_set]; exact hlfsk1_16
  clear hlfsk1_16
  replace hP : va_P (dC, dI) vwCl [(h0, .inr (13, fsk1_18)), (qk0_1, .inl (cqk0_1, 6000, .inl (fun _ => 0))), (qk0_5, .inl (cqk0_5, 3008, .inl (fun _ => 0))), (qk0_7, .inl (cqk0_7, 3002, .inl (fun _ => 0))), (qk0_9, .inl (cqk0_9, 3002, .inl (fun _ => 0))), (qk0_11, .inl (cqk0_11, 3002, .inl (fun _ => 0)))] H := hP
  replace hD : va_D A [(h0, .inr (13, fsk1_18)), (qk0_1, .inl (cqk0_1, 6000, .inl (fun _ => 0))), (qk0_5, .inl (cqk0_5, 3008, .inl (fun _ => 0))), (qk0_7, .inl (cqk0_7, 3002, .inl (fun _ => 0))), (qk0_9, .inl (cqk0_9, 3002, .inl (fun _ => 0))), (qk0_11, .inl (cqk0_11, 3002, .inl (fun _ => 0)))] := hD
  exact kk qk1_1 qk1_3 qk1_5 qk1_7 qk1_9 qk1_11 qk1_13 qk1_15 qk1_17  fsk1_18 H locs hlfsk1_18 (by rw [efsk1_18, efsk1_16, efsk1_14, efsk1_12, efsk1_10, efsk1_8, efsk1_6, efsk1_4, efsk1_2]) hK hP hD hS
set_option maxHeartbeats 4000000 in
set_option maxRecDepth 100000 in
theorem ck_model2 {p : Program} {l : Launch} {e : Env} {s : State} {m : MethodId} {args : Array Value} {below : List Frame} {meth : Method} {c : Code} {Q : State → Prop} {A : Nat → Prop} {H0 : Heap} {dC : Nat → ClassId} {dI : Nat → Nat → Nat} (hx : p.tables.exec = Jvm.exec) (hb : c.code = cX13_init) (hown : s.vm.findClass RX13 = some m.cls) (hin : meth.name = "<init>") (hts : ∀ w ∈ wsX13_init, w.before args s = true) (hA : ∀ q : Nat, H0.size ≤ q → A q) {h0 qk0_1 qk0_5 qk0_7 qk0_9 qk0_11 : Nat} {cqk0_1 cqk0_5 cqk0_7 cqk0_9 cqk0_11 : ClassId} {fs : List Value} {H : Heap} {locs : List Loc} {ls : Array Slot} (hlen : fs.length = 155) (hK : va_K (dC, dI) vwCl [(cqk0_1, .int), (cqk0_5, .int), (cqk0_7, .int), (cqk0_9, .int), (cqk0_11, .int)] s) (hP : va_P (dC, dI) vwCl [(h0, .inr (13, fs)), (qk0_1, .inl (cqk0_1, 6000, .inl (fun _ => 0))), (qk0_5, .inl (cqk0_5, 3008, .inl (fun _ => 0))), (qk0_7, .inl (cqk0_7, 3002, .inl (fun _ => 0))), (qk0_9, .inl (cqk0_9, 3002, .inl (fun _ => 0))), (qk0_11, .inl (cqk0_11, 3002, .inl (fun _ => 0)))] H) (hD : va_D A [(h0, .inr (13, fs)), (qk0_1, .inl (cqk0_1, 6000, .inl (fun _ => 0))), (qk0_5, .inl (cqk0_5, 3008, .inl (fun _ => 0))), (qk0_7, .inl (cqk0_7, 3002, .inl (fun _ => 0))), (qk0_9, .inl (cqk0_9, 3002, .inl (fun _ => 0))), (qk0_11, .inl (cqk0_11, 3002, .inl (fun _ => 0)))]) (hS : va_S A H0 H locs) (hl : lv_has ls 1 [(0, .ref h0)]) (kk : ∀ (qk2_1 qk2_3 qk2_5 qk2_7 qk2_9 qk2_11 qk2_13 qk2_15 qk2_17 : Nat) (fs2 : List Value) (H : Heap) (locs : List Loc), fs2.length = 155 → fs2 = (((((((((fs.set 26 (.ref qk2_1)).set 27 (.ref qk2_3)).set 29 (.ref qk2_5)).set 30 (.ref qk2_7)).set 31 (.ref qk2_9)).set 32 (.ref qk2_11)).set 33 (.ref qk2_13)).set 34 (.ref qk2_15)).set 35 (.ref qk2_17)) → va_K (dC, dI) vwCl [(cqk0_1, .int), (cqk0_5, .int), (cqk0_7, .int), (cqk0_9, .int), (cqk0_11, .int)] s → va_P (dC, dI) vwCl [(h0, .inr (13, fs2)), (qk0_1, .inl (cqk0_1, 6000, .inl (fun _ => 0))), (qk0_5, .inl (cqk0_5, 3008, .inl (fun _ => 0))), (qk0_7, .inl (cqk0_7, 3002, .inl (fun _ => 0))), (qk0_9, .inl (cqk0_9, 3002, .inl (fun _ => 0))), (qk0_11, .inl (cqk0_11, 3002, .inl (fun _ => 0)))] H → va_D A [(h0, .inr (13, fs2)), (qk0_1, .inl (cqk0_1, 6000, .inl (fun _ => 0))), (qk0_5, .inl (cqk0_5, 3008, .inl (fun _ => 0))), (qk0_7, .inl (cqk0_7, 3002, .inl (fun _ => 0))), (qk0_9, .inl (cqk0_9, 3002, .inl (fun _ => 0))), (qk0_11, .inl (cqk0_11, 3002, .inl (fun _ => 0)))] → va_S A H0 H locs → W p l e ({ frames := 2, cells := 95, slots := 548130, locals := 60 } : Room) s m args below meth c H locs 27 126814 Q (F0 m 247 ls [])) : W p l e ({ frames := 2, cells := 95, slots := 548130, locals := 60 } : Room) s m args below meth c H locs 18 120414 Q (F0 m 166 ls []) := by
  refine lv_aload_n hx hb dX13_init_166 rfl (lv_at hl 0 rfl) ?_
  refine lv_sipush (v := 400) hx hb dX13_init_167 (by decide) ?_
  refine va_newa (atype := .int) (ty := .int) (N' := 400) (a0 := (400, .inl (fun _ => 0))) hx hb (hts (.arrayClass .int) (by decide +kernel)) rfl hK hP hD hS hA (fun _ => rfl) (by decide) (by decide) (by decide) (Nat.le_of_ble_eq_true rfl) (Nat.le_of_ble_eq_true rfl) dX13_init_170 ?_
  clear hK hP hD hS
  intro qk2_1 cqk2_1 H hK hP hD hS
  refine W.widen (k := 19) (n := 120814) (Nat.le_of_ble_eq_true rfl) (Nat.le_of_ble_eq_true rfl) ?_
  replace hP := hP.sub (ws' := [(h0, .inr (13, fs)), (qk0_1, .inl (cqk0_1, 6000, .inl (fun _ => 0))), (qk0_5, .inl (cqk0_5, 3008, .inl (fun _ => 0))), (qk0_7, .inl (cqk0_7, 3002, .inl (fun _ => 0))), (qk0_9, .inl (cqk0_9, 3002, .inl (fun _ => 0))), (qk0_11, .inl (cqk0_11, 3002, .inl (fun _ => 0)))]) [0, 1, 2, 3, 4, 5] rfl
  replace hD := hD.sub (ws' := [(h0, .inr (13, fs)), (qk0_1, .inl (cqk0_1, 6000, .inl (fun _ => 0))), (qk0_5, .inl (cqk0_5, 3008, .inl (fun _ => 0))), (qk0_7, .inl (cqk0_7, 3002, .inl (fun _ => 0))), (qk0_9, .inl (cqk0_9, 3002, .inl (fun _ => 0))), (qk0_11, .inl (cqk0_11, 3002, .inl (fun _ => 0)))]) [0, 1, 2, 3, 4, 5] (by decide) rfl
  replace hK := hK.sub (tys' := [(cqk0_1, .int), (cqk0_5, .int), (cqk0_7, .int), (cqk0_9, .int), (cqk0_11, .int)]) [0, 1, 2, 3, 4] rfl
  refine va_putF (D := (dC, dI)) (ci := 13) (v := .ref qk2_1) (ty := .array .int) (C := RX13) (T := TX13) (N := 155) hx hb hts uX13_init_X13 tyX13 tyX13_ok nmX13 hown hK hP hD hS 0 rfl rfl 26 (by decide) (hts (.fieldLink RX13 65 "ClassMillModel" "classExtends" "[I") (by decide +kernel)) (fun _ h9 => h9) rfl hin rfl (by decide +kernel) rfl rfl (by rw [hlen]; decide) dX13_init_172 ?_
  clear hP hD hS
  intro H locs hP hD hS
  obtain ⟨fsk2_2, efsk2_2⟩ : ∃ zf : List Value, zf = fs.set 26 (.ref qk2_1) := ⟨_, rfl⟩
  rw [← efsk2_2] at hP hD
  have hlfsk2_2 : fsk2_2.length = 155 := by rw [efsk2_2, List.length_set]; exact hlen
  clear hlen
  replace hP : va_P (dC, dI) vwCl [(h0, .inr (13, fsk2_2)), (qk0_1, .inl (cqk0_1, 6000, .inl (fun _ => 0))), (qk0_5, .inl (cqk0_5, 3008, .inl (fun _ => 0))), (qk0_7, .inl (cqk0_7, 3002, .inl (fun _ => 0))), (qk0_9, .inl (cqk0_9, 3002, .inl (fun _ => 0))), (qk0_11, .inl (cqk0_11, 3002, .inl (fun _ => 0)))] H := hP
  replace hD : va_D A [(h0, .inr (13, fsk2_2)), (qk0_1, .inl (cqk0_1, 6000, .inl (fun _ => 0))), (qk0_5, .inl (cqk0_5, 3008, .inl (fun _ => 0))), (qk0_7, .inl (cqk0_7, 3002, .inl (fun _ => 0))), (qk0_9, .inl (cqk0_9, 3002, .inl (fun _ => 0))), (qk0_11, .inl (cqk0_11, 3002, .inl (fun _ => 0)))] := hD
  refine lv_aload_n hx hb dX13_init_175 rfl (lv_at hl 0 rfl) ?_
  refine lv_sipush (v := 400) hx hb dX13_init_176 (by decide) ?_
  refine va_newa (atype := .int) (ty := .int) (N' := 400) (a0 := (400, .inl (fun _ => 0))) hx hb (hts (.arrayClass .int) (by decide +kernel)) rfl hK hP hD hS hA (fun _ => rfl) (by decide) (by decide) (by decide) (Nat.le_of_ble_eq_true rfl) (Nat.le_of_ble_eq_true rfl) dX13_init_179 ?_
  clear hK hP hD hS
  intro qk2_3 cqk2_3 H hK hP hD hS
  refine W.widen (k := 20) (n := 121214) (Nat.le_of_ble_eq_true rfl) (Nat.le_of_ble_eq_true rfl) ?_
  replace hP := hP.sub (ws' := [(h0, .inr (13, fsk2_2)), (qk0_1, .inl (cqk0_1, 6000, .inl (fun _ => 0))), (qk0_5, .inl (cqk0_5, 3008, .inl (fun _ => 0))), (qk0_7, .inl (cqk0_7, 3002, .inl (fun _ => 0))), (qk0_9, .inl (cqk0_9, 3002, .inl (fun _ => 0))), (qk0_11, .inl (cqk0_11, 3002, .inl (fun _ => 0)))]) [0, 1, 2, 3, 4, 5] rfl
  replace hD := hD.sub (ws' := [(h0, .inr (13, fsk2_2)), (qk0_1, .inl (cqk0_1, 6000, .inl (fun _ => 0))), (qk0_5, .inl (cqk0_5, 3008, .inl (fun _ => 0))), (qk0_7, .inl (cqk0_7, 3002, .inl (fun _ => 0))), (qk0_9, .inl (cqk0_9, 3002, .inl (fun _ => 0))), (qk0_11, .inl (cqk0_11, 3002, .inl (fun _ => 0)))]) [0, 1, 2, 3, 4, 5] (by decide) rfl
  replace hK := hK.sub (tys' := [(cqk0_1, .int), (cqk0_5, .int), (cqk0_7, .int), (cqk0_9, .int), (cqk0_11, .int)]) [0, 1, 2, 3, 4] rfl
  refine va_putF (D := (dC, dI)) (ci := 13) (v := .ref qk2_3) (ty := .array .int) (C := RX13) (T := TX13) (N := 155) hx hb hts uX13_init_X13 tyX13 tyX13_ok nmX13 hown hK hP hD hS 0 rfl rfl 27 (by decide) (hts (.fieldLink RX13 68 "ClassMillModel" "classUpper" "[I") (by decide +kernel)) (fun _ h9 => h9) rfl hin rfl (by decide +kernel) rfl rfl (by rw [hlfsk2_2]; decide) dX13_init_181 ?_
  clear hP hD hS
  intro H locs hP hD hS
  obtain ⟨fsk2_4, efsk2_4⟩ : ∃ zf : List Value, zf = fsk2_2.set 27 (.ref qk2_3) := ⟨_, rfl⟩
  rw [← efsk2_4] at hP hD
  have hlfsk2_4 : fsk2_4.length = 155 := by rw [efsk2_4, List.length_set]; exact hlfsk2_2
  clear hlfsk2_2
  replace hP : va_P (dC, dI) vwCl [(h0, .inr (13, fsk2_4)), (qk0_1, .inl (cqk0_1, 6000, .inl (fun _ => 0))), (qk0_5, .inl (cqk0_5, 3008, .inl (fun _ => 0))), (qk0_7, .inl (cqk0_7, 3002, .inl (fun _ => 0))), (qk0_9, .inl (cqk0_9, 3002, .inl (fun _ => 0))), (qk0_11, .inl (cqk0_11, 3002, .inl (fun _ => 0)))] H := hP
  replace hD : va_D A [(h0, .inr (13, fsk2_4)), (qk0_1, .inl (cqk0_1, 6000, .inl (fun _ => 0))), (qk0_5, .inl (cqk0_5, 3008, .inl (fun _ => 0))), (qk0_7, .inl (cqk0_7, 3002, .inl (fun _ => 0))), (qk0_9, .inl (cqk0_9, 3002, .inl (fun _ => 0))), (qk0_11, .inl (cqk0_11, 3002, .inl (fun _ => 0)))] := hD
  refine lv_aload_n hx hb dX13_init_184 rfl (lv_at hl 0 rfl) ?_
  refine lv_sipush (v := 800) hx hb dX13_init_185 (by decide) ?_
  refine va_newa (atype := .int) (ty := .int) (N' := 800) (a0 := (800, .inl (fun _ => 0))) hx hb (hts (.arrayClass .int) (by decide +kernel)) rfl hK hP hD hS hA (fun _ => rfl) (by decide) (by decide) (by decide) (Nat.le_of_ble_eq_true rfl) (Nat.le_of_ble_eq_true rfl) dX13_init_188 ?_
  clear hK hP hD hS
  intro qk2_5 cqk2_5 H hK hP hD hS
  refine W.widen (k := 21) (n := 122014) (Nat.le_of_ble_eq_true rfl) (Nat.le_of_ble_eq_true rfl) ?_
  replace hP := hP.sub (ws' := [(h0, .inr (13, fsk2_4)), (qk0_1, .inl (cqk0_1, 6000, .inl (fun _ => 0))), (qk0_5, .inl (cqk0_5, 3008, .inl (fun _ => 0))), (qk0_7, .inl (cqk0_7, 3002, .inl (fun _ => 0))), (qk0_9, .inl (cqk0_9, 3002, .inl (fun _ => 0))), (qk0_11, .inl (cqk0_11, 3002, .inl (fun _ => 0)))]) [0, 1, 2, 3, 4, 5] rfl
  replace hD := hD.sub (ws' := [(h0, .inr (13, fsk2_4)), (qk0_1, .inl (cqk0_1, 6000, .inl (fun _ => 0))), (qk0_5, .inl (cqk0_5, 3008, .inl (fun _ => 0))), (qk0_7, .inl (cqk0_7, 3002, .inl (fun _ => 0))), (qk0_9, .inl (cqk0_9, 3002, .inl (fun _ => 0))), (qk0_11, .inl (cqk0_11, 3002, .inl (fun _ => 0)))]) [0, 1, 2, 3, 4, 5] (by decide) rfl
  replace hK := hK.sub (tys' := [(cqk0_1, .int), (cqk0_5, .int), (cqk0_7, .int), (cqk0_9, .int), (cqk0_11, .int)]) [0, 1, 2, 3, 4] rfl
  refine va_putF (D := (dC, dI)) (ci := 13) (v := .ref qk2_5) (ty := .array .int) (C := RX13) (T := TX13) (N := 155) hx hb hts uX13_init_X13 tyX13 tyX13_ok nmX13 hown hK hP hD hS 0 rfl rfl 29 (by decide) (hts (.fieldLink RX13 71 "ClassMillModel" "memberClass" "[I") (by decide +kernel)) (fun _ h9 => h9) rfl hin rfl (by decide +kernel) rfl rfl (by rw [hlfsk2_4]; decide) dX13_init_190 ?_
  clear hP hD hS
  intro H locs hP hD hS
  obtain ⟨fsk2_6, efsk2_6⟩ : ∃ zf : List Value, zf = fsk2_4.set 29 (.ref qk2_5) := ⟨_, rfl⟩
  rw [← efsk2_6] at hP hD
  have hlfsk2_6 : fsk2_6.length = 155 := by rw [efsk2_6, List.length_set]; exact hlfsk2_4
  clear hlfsk2_4
  replace hP : va_P (dC, dI) vwCl [(h0, .inr (13, fsk2_6)), (qk0_1, .inl (cqk0_1, 6000, .inl (fun _ => 0))), (qk0_5, .inl (cqk0_5, 3008, .inl (fun _ => 0))), (qk0_7, .inl (cqk0_7, 3002, .inl (fun _ => 0))), (qk0_9, .inl (cqk0_9, 3002, .inl (fun _ => 0))), (qk0_11, .inl (cqk0_11, 3002, .inl (fun _ => 0)))] H := hP
  replace hD : va_D A [(h0, .inr (13, fsk2_6)), (qk0_1, .inl (cqk0_1, 6000, .inl (fun _ => 0))), (qk0_5, .inl (cqk0_5, 3008, .inl (fun _ => 0))), (qk0_7, .inl (cqk0_7, 3002, .inl (fun _ => 0))), (qk0_9, .inl (cqk0_9, 3002, .inl (fun _ => 0))), (qk0_11, .inl (cqk0_11, 3002, .inl (fun _ => 0)))] := hD
  refine lv_aload_n hx hb dX13_init_193 rfl (lv_at hl 0 rfl) ?_
  refine lv_sipush (v := 800) hx hb dX13_init_194 (by decide) ?_
  refine va_newa (atype := .int) (ty := .int) (N' := 800) (a0 := (800, .inl (fun _ => 0))) hx hb (hts (.arrayClass .int) (by decide +kernel)) rfl hK hP hD hS hA (fun _ => rfl) (by decide) (by decide) (by decide) (Nat.le_of_ble_eq_true rfl) (Nat.le_of_ble_eq_true rfl) dX13_init_197 ?_
  clear hK hP hD hS
  intro qk2_7 cqk2_7 H hK hP hD hS
  refine W.widen (k := 22) (n := 122814) (Nat.le_of_ble_eq_true rfl) (Nat.le_of_ble_eq_true rfl) ?_
  replace hP := hP.sub (ws' := [(h0, .inr (13, fsk2_6)), (qk0_1, .inl (cqk0_1, 6000, .inl (fun _ => 0))), (qk0_5, .inl (cqk0_5, 3008, .inl (fun _ => 0))), (qk0_7, .inl (cqk0_7, 3002, .inl (fun _ => 0))), (qk0_9, .inl (cqk0_9, 3002, .inl (fun _ => 0))), (qk0_11, .inl (cqk0_11, 3002, .inl (fun _ => 0)))]) [0, 1, 2, 3, 4, 5] rfl
  replace hD := hD.sub (ws' := [(h0, .inr (13, fsk2_6)), (qk0_1, .inl (cqk0_1, 6000, .inl (fun _ => 0))), (qk0_5, .inl (cqk0_5, 3008, .inl (fun _ => 0))), (qk0_7, .inl (cqk0_7, 3002, .inl (fun _ => 0))), (qk0_9, .inl (cqk0_9, 3002, .inl (fun _ => 0))), (qk0_11, .inl (cqk0_11, 3002, .inl (fun _ => 0)))]) [0, 1, 2, 3, 4, 5] (by decide) rfl
  replace hK := hK.sub (tys' := [(cqk0_1, .int), (cqk0_5, .int), (cqk0_7, .int), (cqk0_9, .int), (cqk0_11, .int)]) [0, 1, 2, 3, 4] rfl
  refine va_putF (D := (dC, dI)) (ci := 13) (v := .ref qk2_7) (ty := .array .int) (C := RX13) (T := TX13) (N := 155) hx hb hts uX13_init_X13 tyX13 tyX13_ok nmX13 hown hK hP hD hS 0 rfl rfl 30 (by decide) (hts (.fieldLink RX13 74 "ClassMillModel" "memberSort" "[I") (by decide +kernel)) (fun _ h9 => h9) rfl hin rfl (by decide +kernel) rfl rfl (by rw [hlfsk2_6]; decide) dX13_init_199 ?_
  clear hP hD hS
  intro H locs hP hD hS
  obtain ⟨fsk2_8, efsk2_8⟩ : ∃ zf : List Value, zf = fsk2_6.set 30 (.ref qk2_7) := ⟨_, rfl⟩
  rw [← efsk2_8] at hP hD
  have hlfsk2_8 : fsk2_8.length = 155 := by rw [efsk2_8, List.length_set]; exact hlfsk2_6
  clear hlfsk2_6
  replace hP : va_P (dC, dI) vwCl [(h0, .inr (13, fsk2_8)), (qk0_1, .inl (cqk0_1, 6000, .inl (fun _ => 0))), (qk0_5, .inl (cqk0_5, 3008, .inl (fun _ => 0))), (qk0_7, .inl (cqk0_7, 3002, .inl (fun _ => 0))), (qk0_9, .inl (cqk0_9, 3002, .inl (fun _ => 0))), (qk0_11, .inl (cqk0_11, 3002, .inl (fun _ => 0)))] H := hP
  replace hD : va_D A [(h0, .inr (13, fsk2_8)), (qk0_1, .inl (cqk0_1, 6000, .inl (fun _ => 0))), (qk0_5, .inl (cqk0_5, 3008, .inl (fun _ => 0))), (qk0_7, .inl (cqk0_7, 3002, .inl (fun _ => 0))), (qk0_9, .inl (cqk0_9, 3002, .inl (fun _ => 0))), (qk0_11, .inl (cqk0_11, 3002, .inl (fun _ => 0)))] := hD
  refine lv_aload_n hx hb dX13_init_202 rfl (lv_at hl 0 rfl) ?_
  refine lv_sipush (v := 800) hx hb dX13_init_203 (by decide) ?_
  refine va_newa (atype := .int) (ty := .int) (N' := 800) (a0 := (800, .inl (fun _ => 0))) hx hb (hts (.arrayClass .int) (by decide +kernel)) rfl hK hP hD hS hA (fun _ => rfl) (by decide) (by decide) (by decide) (Nat.le_of_ble_eq_true rfl) (Nat.le_of_ble_eq_true rfl) dX13_init_206 ?_
  clear hK hP hD hS
  intro qk2_9 cqk2_9 H hK hP hD hS
  refine W.widen (k := 23) (n := 123614) (Nat.le_of_ble_eq_true rfl) (Nat.le_of_ble_eq_true rfl) ?_
  replace hP := hP.sub (ws' := [(h0, .inr (13, fsk2_8)), (qk0_1, .inl (cqk0_1, 6000, .inl (fun _ => 0))), (qk0_5, .inl (cqk0_5, 3008, .inl (fun _ => 0))), (qk0_7, .inl (cqk0_7, 3002, .inl (fun _ => 0))), (qk0_9, .inl (cqk0_9, 3002, .inl (fun _ => 0))), (qk0_11, .inl (cqk0_11, 3002, .inl (fun _ => 0)))]) [0, 1, 2, 3, 4, 5] rfl
  replace hD := hD.sub (ws' := [(h0, .inr (13, fsk2_8)), (qk0_1, .inl (cqk0_1, 6000, .inl (fun _ => 0))), (qk0_5, .inl (cqk0_5, 3008, .inl (fun _ => 0))), (qk0_7, .inl (cqk0_7, 3002, .inl (fun _ => 0))), (qk0_9, .inl (cqk0_9, 3002, .inl (fun _ => 0))), (qk0_11, .inl (cqk0_11, 3002, .inl (fun _ => 0)))]) [0, 1, 2, 3, 4, 5] (by decide) rfl
  replace hK := hK.sub (tys' := [(cqk0_1, .int), (cqk0_5, .int), (cqk0_7, .int), (cqk0_9, .int), (cqk0_11, .int)]) [0, 1, 2, 3, 4] rfl
  refine va_putF (D := (dC, dI)) (ci := 13) (v := .ref qk2_9) (ty := .array .int) (C := RX13) (T := TX13) (N := 155) hx hb hts uX13_init_X13 tyX13 tyX13_ok nmX13 hown hK hP hD hS 0 rfl rfl 31 (by decide) (hts (.fieldLink RX13 77 "ClassMillModel" "memberBase" "[I") (by decide +kernel)) (fun _ h9 => h9) rfl hin rfl (by decide +kernel) rfl rfl (by rw [hlfsk2_8]; decide) dX13_init_208 ?_
  clear hP hD hS
  intro H locs hP hD hS
  obtain ⟨fsk2_10, efsk2_10⟩ : ∃ zf : List Value, zf = fsk2_8.set 31 (.ref qk2_9) := ⟨_, rfl⟩
  rw [← efsk2_10] at hP hD
  have hlfsk2_10 : fsk2_10.length = 155 := by rw [efsk2_10, List.length_set]; exact hlfsk2_8
  clear hlfsk2_8
  replace hP : va_P (dC, dI) vwCl [(h0, .inr (13, fsk2_10)), (qk0_1, .inl (cqk0_1, 6000, .inl (fun _ => 0))), (qk0_5, .inl (cqk0_5, 3008, .inl (fun _ => 0))), (qk0_7, .inl (cqk0_7, 3002, .inl (fun _ => 0))), (qk0_9, .inl (cqk0_9, 3002, .inl (fun _ => 0))), (qk0_11, .inl (cqk0_11, 3002, .inl (fun _ => 0)))] H := hP
  replace hD : va_D A [(h0, .inr (13, fsk2_10)), (qk0_1, .inl (cqk0_1, 6000, .inl (fun _ => 0))), (qk0_5, .inl (cqk0_5, 3008, .inl (fun _ => 0))), (qk0_7, .inl (cqk0_7, 3002, .inl (fun _ => 0))), (qk0_9, .inl (cqk0_9, 3002, .inl (fun _ => 0))), (qk0_11, .inl (cqk0_11, 3002, .inl (fun _ => 0)))] := hD
  refine lv_aload_n hx hb dX13_init_211 rfl (lv_at hl 0 rfl) ?_
  refine lv_sipush (v := 800) hx hb dX13_init_212 (by decide) ?_
  refine va_newa (atype := .int) (ty := .int) (N' := 800) (a0 := (800, .inl (fun _ => 0))) hx hb (hts (.arrayClass .int) (by decide +kernel)) rfl hK hP hD hS hA (fun _ => rfl) (by decide) (by decide) (by decide) (Nat.le_of_ble_eq_true rfl) (Nat.le_of_ble_eq_true rfl) dX13_init_215 ?_
  clear hK hP hD hS
  intro qk2_11 cqk2_11 H hK hP hD hS
  refine W.widen (k := 24) (n := 124414) (Nat.le_of_ble_eq_true rfl) (Nat.le_of_ble_eq_true rfl) ?_
  replace hP := hP.sub (ws' := [(h0, .inr (13, fsk2_10)), (qk0_1, .inl (cqk0_1, 6000, .inl (fun _ => 0))), (qk0_5, .inl (cqk0_5, 3008, .inl (fun _ => 0))), (qk0_7, .inl (cqk0_7, 3002, .inl (fun _ => 0))), (qk0_9, .inl (cqk0_9, 3002, .inl (fun _ => 0))), (qk0_11, .inl (cqk0_11, 3002, .inl (fun _ => 0)))]) [0, 1, 2, 3, 4, 5] rfl
  replace hD := hD.sub (ws' := [(h0, .inr (13, fsk2_10)), (qk0_1, .inl (cqk0_1, 6000, .inl (fun _ => 0))), (qk0_5, .inl (cqk0_5, 3008, .inl (fun _ => 0))), (qk0_7, .inl (cqk0_7, 3002, .inl (fun _ => 0))), (qk0_9, .inl (cqk0_9, 3002, .inl (fun _ => 0))), (qk0_11, .inl (cqk0_11, 3002, .inl (fun _ => 0)))]) [0, 1, 2, 3, 4, 5] (by decide) rfl
  replace hK := hK.sub (tys' := [(cqk0_1, .int), (cqk0_5, .int), (cqk0_7, .int), (cqk0_9, .int), (cqk0_11, .int)]) [0, 1, 2, 3, 4] rfl
  refine va_putF (D := (dC, dI)) (ci := 13) (v := .ref qk2_11) (ty := .array .int) (C := RX13) (T := TX13) (N := 155) hx hb hts uX13_init_X13 tyX13 tyX13_ok nmX13 hown hK hP hD hS 0 rfl rfl 32 (by decide) (hts (.fieldLink RX13 80 "ClassMillModel" "memberBaseToken" "[I") (by decide +kernel)) (fun _ h9 => h9) rfl hin rfl (by decide +kernel) rfl rfl (by rw [hlfsk2_10]; decide) dX13_init_217 ?_
  clear hP hD hS
  intro H locs hP hD hS
  obtain ⟨fsk2_12, efsk2_12⟩ : ∃ zf : List Value, zf = fsk2_10.set 32 (.ref qk2_11) := ⟨_, rfl⟩
  rw [← efsk2_12] at hP hD
  have hlfsk2_12 : fsk2_12.length = 155 := by rw [efsk2_12, List.length_set]; exact hlfsk2_10
  clear hlfsk2_10
  replace hP : va_P (dC, dI) vwCl [(h0, .inr (13, fsk2_12)), (qk0_1, .inl (cqk0_1, 6000, .inl (fun _ => 0))), (qk0_5, .inl (cqk0_5, 3008, .inl (fun _ => 0))), (qk0_7, .inl (cqk0_7, 3002, .inl (fun _ => 0))), (qk0_9, .inl (cqk0_9, 3002, .inl (fun _ => 0))), (qk0_11, .inl (cqk0_11, 3002, .inl (fun _ => 0)))] H := hP
  replace hD : va_D A [(h0, .inr (13, fsk2_12)), (qk0_1, .inl (cqk0_1, 6000, .inl (fun _ => 0))), (qk0_5, .inl (cqk0_5, 3008, .inl (fun _ => 0))), (qk0_7, .inl (cqk0_7, 3002, .inl (fun _ => 0))), (qk0_9, .inl (cqk0_9, 3002, .inl (fun _ => 0))), (qk0_11, .inl (cqk0_11, 3002, .inl (fun _ => 0)))] := hD
  refine lv_aload_n hx hb dX13_init_220 rfl (lv_at hl 0 rfl) ?_
  refine lv_sipush (v := 800) hx hb dX13_init_221 (by decide) ?_
  refine va_newa (atype := .boolean) (ty := .boolean) (N' := 800) (a0 := (800, .inl (fun _ => 0))) hx hb (hts (.arrayClass .boolean) (by decide +kernel)) rfl hK hP hD hS hA (fun _ => rfl) (by decide) (by decide) (by decide) (Nat.le_of_ble_eq_true rfl) (Nat.le_of_ble_eq_true rfl) dX13_init_224 ?_
  clear hK hP hD hS
  intro qk2_13 cqk2_13 H hK hP hD hS
  refine W.widen (k := 25) (n := 125214) (Nat.le_of_ble_eq_true rfl) (Nat.le_of_ble_eq_true rfl) ?_
  replace hP := hP.sub (ws' := [(h0, .inr (13, fsk2_12)), (qk0_1, .inl (cqk0_1, 6000, .inl (fun _ => 0))), (qk0_5, .inl (cqk0_5, 3008, .inl (fun _ => 0))), (qk0_7, .inl (cqk0_7, 3002, .inl (fun _ => 0))), (qk0_9, .inl (cqk0_9, 3002, .inl (fun _ => 0))), (qk0_11, .inl (cqk0_11, 3002, .inl (fun _ => 0)))]) [0, 1, 2, 3, 4, 5] rfl
  replace hD := hD.sub (ws' := [(h0, .inr (13, fsk2_12)), (qk0_1, .inl (cqk0_1, 6000, .inl (fun _ => 0))), (qk0_5, .inl (cqk0_5, 3008, .inl (fun _ => 0))), (qk0_7, .inl (cqk0_7, 3002, .inl (fun _ => 0))), (qk0_9, .inl (cqk0_9, 3002, .inl (fun _ => 0))), (qk0_11, .inl (cqk0_11, 3002, .inl (fun _ => 0)))]) [0, 1, 2, 3, 4, 5] (by decide) rfl
  replace hK := hK.sub (tys' := [(cqk0_1, .int), (cqk0_5, .int), (cqk0_7, .int), (cqk0_9, .int), (cqk0_11, .int)]) [0, 1, 2, 3, 4] rfl
  refine va_putF (D := (dC, dI)) (ci := 13) (v := .ref qk2_13) (ty := .array .boolean) (C := RX13) (T := TX13) (N := 155) hx hb hts uX13_init_X13 tyX13 tyX13_ok nmX13 hown hK hP hD hS 0 rfl rfl 33 (by decide) (hts (.fieldLink RX13 83 "ClassMillModel" "memberRow" "[Z") (by decide +kernel)) (fun _ h9 => h9) rfl hin rfl (by decide +kernel) rfl rfl (by rw [hlfsk2_12]; decide) dX13_init_226 ?_
  clear hP hD hS
  intro H locs hP hD hS
  obtain ⟨fsk2_14, efsk2_14⟩ : ∃ zf : List Value, zf = fsk2_12.set 33 (.ref qk2_13) := ⟨_, rfl⟩
  rw [← efsk2_14] at hP hD
  have hlfsk2_14 : fsk2_14.length = 155 := by rw [efsk2_14, List.length_set]; exact hlfsk2_12
  clear hlfsk2_12
  replace hP : va_P (dC, dI) vwCl [(h0, .inr (13, fsk2_14)), (qk0_1, .inl (cqk0_1, 6000, .inl (fun _ => 0))), (qk0_5, .inl (cqk0_5, 3008, .inl (fun _ => 0))), (qk0_7, .inl (cqk0_7, 3002, .inl (fun _ => 0))), (qk0_9, .inl (cqk0_9, 3002, .inl (fun _ => 0))), (qk0_11, .inl (cqk0_11, 3002, .inl (fun _ => 0)))] H := hP
  replace hD : va_D A [(h0, .inr (13, fsk2_14)), (qk0_1, .inl (cqk0_1, 6000, .inl (fun _ => 0))), (qk0_5, .inl (cqk0_5, 3008, .inl (fun _ => 0))), (qk0_7, .inl (cqk0_7, 3002, .inl (fun _ => 0))), (qk0_9, .inl (cqk0_9, 3002, .inl (fun _ => 0))), (qk0_11, .inl (cqk0_11, 3002, .inl (fun _ => 0)))] := hD
  refine lv_aload_n hx hb dX13_init_229 rfl (lv_at hl 0 rfl) ?_
  refine lv_sipush (v := 800) hx hb dX13_init_230 (by decide) ?_
  refine va_newa (atype := .int) (ty := .int) (N' := 800) (a0 := (800, .inl (fun _ => 0))) hx hb (hts (.arrayClass .int) (by decide +kernel)) rfl hK hP hD hS hA (fun _ => rfl) (by decide) (by decide) (by decide) (Nat.le_of_ble_eq_true rfl) (Nat.le_of_ble_eq_true rfl) dX13_init_233 ?_
  clear hK hP hD hS
  intro qk2_15 cqk2_15 H hK hP hD hS
  refine W.widen (k := 26) (n := 126014) (Nat.le_of_ble_eq_true rfl) (Nat.le_of_ble_eq_true rfl) ?_
  replace hP := hP.sub (ws' := [(h0, .inr (13, fsk2_14)), (qk0_1, .inl (cqk0_1, 6000, .inl (fun _ => 0))), (qk0_5, .inl (cqk0_5, 3008, .inl (fun _ => 0))), (qk0_7, .inl (cqk0_7, 3002, .inl (fun _ => 0))), (qk0_9, .inl (cqk0_9, 3002, .inl (fun _ => 0))), (qk0_11, .inl (cqk0_11, 3002, .inl (fun _ => 0)))]) [0, 1, 2, 3, 4, 5] rfl
  replace hD := hD.sub (ws' := [(h0, .inr (13, fsk2_14)), (qk0_1, .inl (cqk0_1, 6000, .inl (fun _ => 0))), (qk0_5, .inl (cqk0_5, 3008, .inl (fun _ => 0))), (qk0_7, .inl (cqk0_7, 3002, .inl (fun _ => 0))), (qk0_9, .inl (cqk0_9, 3002, .inl (fun _ => 0))), (qk0_11, .inl (cqk0_11, 3002, .inl (fun _ => 0)))]) [0, 1, 2, 3, 4, 5] (by decide) rfl
  replace hK := hK.sub (tys' := [(cqk0_1, .int), (cqk0_5, .int), (cqk0_7, .int), (cqk0_9, .int), (cqk0_11, .int)]) [0, 1, 2, 3, 4] rfl
  refine va_putF (D := (dC, dI)) (ci := 13) (v := .ref qk2_15) (ty := .array .int) (C := RX13) (T := TX13) (N := 155) hx hb hts uX13_init_X13 tyX13 tyX13_ok nmX13 hown hK hP hD hS 0 rfl rfl 34 (by decide) (hts (.fieldLink RX13 86 "ClassMillModel" "memberName" "[I") (by decide +kernel)) (fun _ h9 => h9) rfl hin rfl (by decide +kernel) rfl rfl (by rw [hlfsk2_14]; decide) dX13_init_235 ?_
  clear hP hD hS
  intro H locs hP hD hS
  obtain ⟨fsk2_16, efsk2_16⟩ : ∃ zf : List Value, zf = fsk2_14.set 34 (.ref qk2_15) := ⟨_, rfl⟩
  rw [← efsk2_16] at hP hD
  have hlfsk2_16 : fsk2_16.length = 155 := by rw [efsk2_16, List.length_set]; exact hlfsk2_14
  clear hlfsk2_14
  replace hP : va_P (dC, dI) vwCl [(h0, .inr (13, fsk2_16)), (qk0_1, .inl (cqk0_1, 6000, .inl (fun _ => 0))), (qk0_5, .inl (cqk0_5, 3008, .inl (fun _ => 0))), (qk0_7, .inl (cqk0_7, 3002, .inl (fun _ => 0))), (qk0_9, .inl (cqk0_9, 3002, .inl (fun _ => 0))), (qk0_11, .inl (cqk0_11, 3002, .inl (fun _ => 0)))] H := hP
  replace hD : va_D A [(h0, .inr (13, fsk2_16)), (qk0_1, .inl (cqk0_1, 6000, .inl (fun _ => 0))), (qk0_5, .inl (cqk0_5, 3008, .inl (fun _ => 0))), (qk0_7, .inl (cqk0_7, 3002, .inl (fun _ => 0))), (qk0_9, .inl (cqk0_9, 3002, .inl (fun _ => 0))), (qk0_11, .inl (cqk0_11, 3002, .inl (fun _ => 0)))] := hD
  refine lv_aload_n hx hb dX13_init_238 rfl (lv_at hl 0 rfl) ?_
  refine lv_sipush (v := 800) hx hb dX13_init_239 (by decide) ?_
  refine va_newa (atype := .int) (ty := .int) (N' := 800) (a0 := (800, .inl (fun _ => 0))) hx hb (hts (.arrayClass .int) (by decide +kernel)) rfl hK hP hD hS hA (fun _ => rfl) (by decide) (by decide) (by decide) (Nat.le_of_ble_eq_true rfl) (Nat.le_of_ble_eq_true rfl) dX13_init_242 ?_
  clear hK hP hD hS
  intro qk2_17 cqk2_17 H hK hP hD hS
  refine W.widen (k := 27) (n := 126814) (Nat.le_of_ble_eq_true rfl) (Nat.le_of_ble_eq_true rfl) ?_
  replace hP := hP.sub (ws' := [(h0, .inr (13, fsk2_16)), (qk0_1, .inl (cqk0_1, 6000, .inl (fun _ => 0))), (qk0_5, .inl (cqk0_5, 3008, .inl (fun _ => 0))), (qk0_7, .inl (cqk0_7, 3002, .inl (fun _ => 0))), (qk0_9, .inl (cqk0_9, 3002, .inl (fun _ => 0))), (qk0_11, .inl (cqk0_11, 3002, .inl (fun _ => 0)))]) [0, 1, 2, 3, 4, 5] rfl
  replace hD := hD.sub (ws' := [(h0, .inr (13, fsk2_16)), (qk0_1, .inl (cqk0_1, 6000, .inl (fun _ => 0))), (qk0_5, .inl (cqk0_5, 3008, .inl (fun _ => 0))), (qk0_7, .inl (cqk0_7, 3002, .inl (fun _ => 0))), (qk0_9, .inl (cqk0_9, 3002, .inl (fun _ => 0))), (qk0_11, .inl (cqk0_11, 3002, .inl (fun _ => 0)))]) [0, 1, 2, 3, 4, 5] (by decide) rfl
  replace hK := hK.sub (tys' := [(cqk0_1, .int), (cqk0_5, .int), (cqk0_7, .int), (cqk0_9, .int), (cqk0_11, .int)]) [0, 1, 2, 3, 4] rfl
  refine va_putF (D := (dC, dI)) (ci := 13) (v := .ref qk2_17) (ty := .array .int) (C := RX13) (T := TX13) (N := 155) hx hb hts uX13_init_X13 tyX13 tyX13_ok nmX13 hown hK hP hD hS 0 rfl rfl 35 (by decide) (hts (.fieldLink RX13 89 "ClassMillModel" "memberType" "[I") (by decide +kernel)) (fun _ h9 => h9) rfl hin rfl (by decide +kernel) rfl rfl (by rw [hlfsk2_16]; decide) dX13_init_244 ?_
  clear hP hD hS
  intro H locs hP hD hS
  obtain ⟨fsk2_18, efsk2_18⟩ : ∃ zf : List Value, zf = fsk2_16.set 35 (.ref qk2_17) := ⟨_, rfl⟩
  rw [← efsk2_18] at hP hD
  have hlfsk2_18 : fsk2_18.length = 155 := by rw [efsk2_18, List.length_set]; exact hlfsk2_16
  clear hlfsk2_16
  replace hP : va_P (dC, dI) vwCl [(h0, .inr (13, fsk2_18)), (qk0_1, .inl (cqk0_1, 6000, .inl (fun _ => 0))), (qk0_5, .inl (cqk0_5, 3008, .inl (fun _ => 0))), (qk0_7, .inl (cqk0_7, 3002, .inl (fun _ => 0))), (qk0_9, .inl (cqk0_9, 3002, .inl (fun _ => 0))), (qk0_11, .inl (cqk0_11, 3002, .inl (fun _ => 0)))] H := hP
  replace hD : va_D A [(h0, .inr (13, fsk2_18)), (qk0_1, .inl (cqk0_1, 6000, .inl (fun _ => 0))), (qk0_5, .inl (cqk0_5, 3008, .inl (fun _ => 0))), (qk0_7, .inl (cqk0_7, 3002, .inl (fun _ => 0))), (qk0_9, .inl (cqk0_9, 3002, .inl (fun _ => 0))), (qk0_11, .inl (cqk0_11, 3002, .inl (fun _ => 0)))] := hD
  exact kk qk2_1 qk2_3 qk2_5 qk2_7 qk2_9 qk2_11 qk2_13 qk2_15 qk2_17  fsk2_18 H locs hlfsk2_18 (by rw [efsk2_18, efsk2_16, efsk2_14, efsk2_12, efsk2_10, efsk2_8, efsk2_6, efsk2_4, efsk2_2]) hK hP hD hS
set_option maxHeartbeats 4000000 in
set_option maxRecDepth 100000 in
theorem ck_model3 {p : Program} {l : Launch} {e : Env} {s : State} {m : MethodId} {args : Array Value} {below : List Frame} {meth : Method} {c : Code} {Q : State → Prop} {A : Nat → Prop} {H0 : Heap} {dC : Nat → ClassId} {dI : Nat → Nat → Nat} (hx : p.tables.exec = Jvm.exec) (hb : c.code = cX13_init) (hown : s.vm.findClass RX13 = some m.cls) (hin : meth.name = "<init>") (hts : ∀ w ∈ wsX13_init, w.before args s = true) (hA : ∀ q : Nat, H0.size ≤ q → A q) {h0 qk0_1 qk0_5 qk0_7 qk0_9 qk0_11 : Nat} {cqk0_1 cqk0_5 cqk0_7 cqk0_9 cqk0_11 : ClassId} {fs : List Value} {H : Heap} {locs : List Loc} {ls : Array Slot} (hlen : fs.length = 155) (hK : va_K (dC, dI) vwCl [(cqk0_1, .int), (cqk0_5, .int), (cqk0_7, .int), (cqk0_9, .int), (cqk0_11, .int)] s) (hP : va_P (dC, dI) vwCl [(h0, .inr (13, fs)), (qk0_1, .inl (cqk0_1, 6000, .inl (fun _ => 0))), (qk0_5, .inl (cqk0_5, 3008, .inl (fun _ => 0))), (qk0_7, .inl (cqk0_7, 3002, .inl (fun _ => 0))), (qk0_9, .inl (cqk0_9, 3002, .inl (fun _ => 0))), (qk0_11, .inl (cqk0_11, 3002, .inl (fun _ => 0)))] H) (hD : va_D A [(h0, .inr (13, fs)), (qk0_1, .inl (cqk0_1, 6000, .inl (fun _ => 0))), (qk0_5, .inl (cqk0_5, 3008, .inl (fun _ => 0))), (qk0_7, .inl (cqk0_7, 3002, .inl (fun _ => 0))), (qk0_9, .inl (cqk0_9, 3002, .inl (fun _ => 0))), (qk0_11, .inl (cqk0_11, 3002, .inl (fun _ => 0)))]) (hS : va_S A H0 H locs) (hl : lv_has ls 1 [(0, .ref h0)]) (kk : ∀ (qk3_1 qk3_3 qk3_5 qk3_7 qk3_9 qk3_11 qk3_13 qk3_15 qk3_17 : Nat) (fs2 : List Value) (H : Heap) (locs : List Loc), fs2.length = 155 → fs2 = (((((((((fs.set 36 (.ref qk3_1)).set 37 (.ref qk3_3)).set 38 (.ref qk3_5)).set 40 (.ref qk3_7)).set 41 (.ref qk3_9)).set 42 (.ref qk3_11)).set 43 (.ref qk3_13)).set 44 (.ref qk3_15)).set 48 (.ref qk3_17)) → va_K (dC, dI) vwCl [(cqk0_1, .int), (cqk0_5, .int), (cqk0_7, .int), (cqk0_9, .int), (cqk0_11, .int)] s → va_P (dC, dI) vwCl [(h0, .inr (13, fs2)), (qk0_1, .inl (cqk0_1, 6000, .inl (fun _ => 0))), (qk0_5, .inl (cqk0_5, 3008, .inl (fun _ => 0))), (qk0_7, .inl (cqk0_7, 3002, .inl (fun _ => 0))), (qk0_9, .inl (cqk0_9, 3002, .inl (fun _ => 0))), (qk0_11, .inl (cqk0_11, 3002, .inl (fun _ => 0)))] H → va_D A [(h0, .inr (13, fs2)), (qk0_1, .inl (cqk0_1, 6000, .inl (fun _ => 0))), (qk0_5, .inl (cqk0_5, 3008, .inl (fun _ => 0))), (qk0_7, .inl (cqk0_7, 3002, .inl (fun _ => 0))), (qk0_9, .inl (cqk0_9, 3002, .inl (fun _ => 0))), (qk0_11, .inl (cqk0_11, 3002, .inl (fun _ => 0)))] → va_S A H0 H locs → W p l e ({ frames := 2, cells := 95, slots := 548130, locals := 60 } : Room) s m args below meth c H locs 36 139714 Q (F0 m 328 ls [])) : W p l e ({ frames := 2, cells := 95, slots := 548130, locals := 60 } : Room) s m args below meth c H locs 27 126814 Q (F0 m 247 ls []) := by
  refine lv_aload_n hx hb dX13_init_247 rfl (lv_at hl 0 rfl) ?_
  refine lv_sipush (v := 800) hx hb dX13_init_248 (by decide) ?_
  refine va_newa (atype := .int) (ty := .int) (N' := 800) (a0 := (800, .inl (fun _ => 0))) hx hb (hts (.arrayClass .int) (by decide +kernel)) rfl hK hP hD hS hA (fun _ => rfl) (by decide) (by decide) (by decide) (Nat.le_of_ble_eq_true rfl) (Nat.le_of_ble_eq_true rfl) dX13_init_251 ?_
  clear hK hP hD hS
  intro qk3_1 cqk3_1 H hK hP hD hS
  refine W.widen (k := 28) (n := 127614) (Nat.le_of_ble_eq_true rfl) (Nat.le_of_ble_eq_true rfl) ?_
  replace hP := hP.sub (ws' := [(h0, .inr (13, fs)), (qk0_1, .inl (cqk0_1, 6000, .inl (fun _ => 0))), (qk0_5, .inl (cqk0_5, 3008, .inl (fun _ => 0))), (qk0_7, .inl (cqk0_7, 3002, .inl (fun _ => 0))), (qk0_9, .inl (cqk0_9, 3002, .inl (fun _ => 0))), (qk0_11, .inl (cqk0_11, 3002, .inl (fun _ => 0)))]) [0, 1, 2, 3, 4, 5] rfl
  replace hD := hD.sub (ws' := [(h0, .inr (13, fs)), (qk0_1, .inl (cqk0_1, 6000, .inl (fun _ => 0))), (qk0_5, .inl (cqk0_5, 3008, .inl (fun _ => 0))), (qk0_7, .inl (cqk0_7, 3002, .inl (fun _ => 0))), (qk0_9, .inl (cqk0_9, 3002, .inl (fun _ => 0))), (qk0_11, .inl (cqk0_11, 3002, .inl (fun _ => 0)))]) [0, 1, 2, 3, 4, 5] (by decide) rfl
  replace hK := hK.sub (tys' := [(cqk0_1, .int), (cqk0_5, .int), (cqk0_7, .int), (cqk0_9, .int), (cqk0_11, .int)]) [0, 1, 2, 3, 4] rfl
  refine va_putF (D := (dC, dI)) (ci := 13) (v := .ref qk3_1) (ty := .array .int) (C := RX13) (T := TX13) (N := 155) hx hb hts uX13_init_X13 tyX13 tyX13_ok nmX13 hown hK hP hD hS 0 rfl rfl 36 (by decide) (hts (.fieldLink RX13 92 "ClassMillModel" "memberFirst" "[I") (by decide +kernel)) (fun _ h9 => h9) rfl hin rfl (by decide +kernel) rfl rfl (by rw [hlen]; decide) dX13_init_253 ?_
  clear hP hD hS
  intro H locs hP hD hS
  obtain ⟨fsk3_2, efsk3_2⟩ : ∃ zf : List Value, zf = fs.set 36 (.ref qk3_1) := ⟨_, rfl⟩
  rw [← efsk3_2] at hP hD
  have hlfsk3_2 : fsk3_2.length = 155 := by rw [efsk3_2, List.length_set]; exact hlen
  clear hlen
  replace hP : va_P (dC, dI) vwCl [(h0, .inr (13, fsk3_2)), (qk0_1, .inl (cqk0_1, 6000, .inl (fun _ => 0))), (qk0_5, .inl (cqk0_5, 3008, .inl (fun _ => 0))), (qk0_7, .inl (cqk0_7, 3002, .inl (fun _ => 0))), (qk0_9, .inl (cqk0_9, 3002, .inl (fun _ => 0))), (qk0_11, .inl (cqk0_11, 3002, .inl (fun _ => 0)))] H := hP
  replace hD : va_D A [(h0, .inr (13, fsk3_2)), (qk0_1, .inl (cqk0_1, 6000, .inl (fun _ => 0))), (qk0_5, .inl (cqk0_5, 3008, .inl (fun _ => 0))), (qk0_7, .inl (cqk0_7, 3002, .inl (fun _ => 0))), (qk0_9, .inl (cqk0_9, 3002, .inl (fun _ => 0))), (qk0_11, .inl (cqk0_11, 3002, .inl (fun _ => 0)))] := hD
  refine lv_aload_n hx hb dX13_init_256 rfl (lv_at hl 0 rfl) ?_
  refine lv_sipush (v := 800) hx hb dX13_init_257 (by decide) ?_
  refine va_newa (atype := .int) (ty := .int) (N' := 800) (a0 := (800, .inl (fun _ => 0))) hx hb (hts (.arrayClass .int) (by decide +kernel)) rfl hK hP hD hS hA (fun _ => rfl) (by decide) (by decide) (by decide) (Nat.le_of_ble_eq_true rfl) (Nat.le_of_ble_eq_true rfl) dX13_init_260 ?_
  clear hK hP hD hS
  intro qk3_3 cqk3_3 H hK hP hD hS
  refine W.widen (k := 29) (n := 128414) (Nat.le_of_ble_eq_true rfl) (Nat.le_of_ble_eq_true rfl) ?_
  replace hP := hP.sub (ws' := [(h0, .inr (13, fsk3_2)), (qk0_1, .inl (cqk0_1, 6000, .inl (fun _ => 0))), (qk0_5, .inl (cqk0_5, 3008, .inl (fun _ => 0))), (qk0_7, .inl (cqk0_7, 3002, .inl (fun _ => 0))), (qk0_9, .inl (cqk0_9, 3002, .inl (fun _ => 0))), (qk0_11, .inl (cqk0_11, 3002, .inl (fun _ => 0)))]) [0, 1, 2, 3, 4, 5] rfl
  replace hD := hD.sub (ws' := [(h0, .inr (13, fsk3_2)), (qk0_1, .inl (cqk0_1, 6000, .inl (fun _ => 0))), (qk0_5, .inl (cqk0_5, 3008, .inl (fun _ => 0))), (qk0_7, .inl (cqk0_7, 3002, .inl (fun _ => 0))), (qk0_9, .inl (cqk0_9, 3002, .inl (fun _ => 0))), (qk0_11, .inl (cqk0_11, 3002, .inl (fun _ => 0)))]) [0, 1, 2, 3, 4, 5] (by decide) rfl
  replace hK := hK.sub (tys' := [(cqk0_1, .int), (cqk0_5, .int), (cqk0_7, .int), (cqk0_9, .int), (cqk0_11, .int)]) [0, 1, 2, 3, 4] rfl
  refine va_putF (D := (dC, dI)) (ci := 13) (v := .ref qk3_3) (ty := .array .int) (C := RX13) (T := TX13) (N := 155) hx hb hts uX13_init_X13 tyX13 tyX13_ok nmX13 hown hK hP hD hS 0 rfl rfl 37 (by decide) (hts (.fieldLink RX13 95 "ClassMillModel" "memberMany" "[I") (by decide +kernel)) (fun _ h9 => h9) rfl hin rfl (by decide +kernel) rfl rfl (by rw [hlfsk3_2]; decide) dX13_init_262 ?_
  clear hP hD hS
  intro H locs hP hD hS
  obtain ⟨fsk3_4, efsk3_4⟩ : ∃ zf : List Value, zf = fsk3_2.set 37 (.ref qk3_3) := ⟨_, rfl⟩
  rw [← efsk3_4] at hP hD
  have hlfsk3_4 : fsk3_4.length = 155 := by rw [efsk3_4, List.length_set]; exact hlfsk3_2
  clear hlfsk3_2
  replace hP : va_P (dC, dI) vwCl [(h0, .inr (13, fsk3_4)), (qk0_1, .inl (cqk0_1, 6000, .inl (fun _ => 0))), (qk0_5, .inl (cqk0_5, 3008, .inl (fun _ => 0))), (qk0_7, .inl (cqk0_7, 3002, .inl (fun _ => 0))), (qk0_9, .inl (cqk0_9, 3002, .inl (fun _ => 0))), (qk0_11, .inl (cqk0_11, 3002, .inl (fun _ => 0)))] H := hP
  replace hD : va_D A [(h0, .inr (13, fsk3_4)), (qk0_1, .inl (cqk0_1, 6000, .inl (fun _ => 0))), (qk0_5, .inl (cqk0_5, 3008, .inl (fun _ => 0))), (qk0_7, .inl (cqk0_7, 3002, .inl (fun _ => 0))), (qk0_9, .inl (cqk0_9, 3002, .inl (fun _ => 0))), (qk0_11, .inl (cqk0_11, 3002, .inl (fun _ => 0)))] := hD
  refine lv_aload_n hx hb dX13_init_265 rfl (lv_at hl 0 rfl) ?_
  refine lv_sipush (v := 800) hx hb dX13_init_266 (by decide) ?_
  refine va_newa (atype := .int) (ty := .int) (N' := 800) (a0 := (800, .inl (fun _ => 0))) hx hb (hts (.arrayClass .int) (by decide +kernel)) rfl hK hP hD hS hA (fun _ => rfl) (by decide) (by decide) (by decide) (Nat.le_of_ble_eq_true rfl) (Nat.le_of_ble_eq_true rfl) dX13_init_269 ?_
  clear hK hP hD hS
  intro qk3_5 cqk3_5 H hK hP hD hS
  refine W.widen (k := 30) (n := 129214) (Nat.le_of_ble_eq_true rfl) (Nat.le_of_ble_eq_true rfl) ?_
  replace hP := hP.sub (ws' := [(h0, .inr (13, fsk3_4)), (qk0_1, .inl (cqk0_1, 6000, .inl (fun _ => 0))), (qk0_5, .inl (cqk0_5, 3008, .inl (fun _ => 0))), (qk0_7, .inl (cqk0_7, 3002, .inl (fun _ => 0))), (qk0_9, .inl (cqk0_9, 3002, .inl (fun _ => 0))), (qk0_11, .inl (cqk0_11, 3002, .inl (fun _ => 0)))]) [0, 1, 2, 3, 4, 5] rfl
  replace hD := hD.sub (ws' := [(h0, .inr (13, fsk3_4)), (qk0_1, .inl (cqk0_1, 6000, .inl (fun _ => 0))), (qk0_5, .inl (cqk0_5, 3008, .inl (fun _ => 0))), (qk0_7, .inl (cqk0_7, 3002, .inl (fun _ => 0))), (qk0_9, .inl (cqk0_9, 3002, .inl (fun _ => 0))), (qk0_11, .inl (cqk0_11, 3002, .inl (fun _ => 0)))]) [0, 1, 2, 3, 4, 5] (by decide) rfl
  replace hK := hK.sub (tys' := [(cqk0_1, .int), (cqk0_5, .int), (cqk0_7, .int), (cqk0_9, .int), (cqk0_11, .int)]) [0, 1, 2, 3, 4] rfl
  refine va_putF (D := (dC, dI)) (ci := 13) (v := .ref qk3_5) (ty := .array .int) (C := RX13) (T := TX13) (N := 155) hx hb hts uX13_init_X13 tyX13 tyX13_ok nmX13 hown hK hP hD hS 0 rfl rfl 38 (by decide) (hts (.fieldLink RX13 98 "ClassMillModel" "memberBody" "[I") (by decide +kernel)) (fun _ h9 => h9) rfl hin rfl (by decide +kernel) rfl rfl (by rw [hlfsk3_4]; decide) dX13_init_271 ?_
  clear hP hD hS
  intro H locs hP hD hS
  obtain ⟨fsk3_6, efsk3_6⟩ : ∃ zf : List Value, zf = fsk3_4.set 38 (.ref qk3_5) := ⟨_, rfl⟩
  rw [← efsk3_6] at hP hD
  have hlfsk3_6 : fsk3_6.length = 155 := by rw [efsk3_6, List.length_set]; exact hlfsk3_4
  clear hlfsk3_4
  replace hP : va_P (dC, dI) vwCl [(h0, .inr (13, fsk3_6)), (qk0_1, .inl (cqk0_1, 6000, .inl (fun _ => 0))), (qk0_5, .inl (cqk0_5, 3008, .inl (fun _ => 0))), (qk0_7, .inl (cqk0_7, 3002, .inl (fun _ => 0))), (qk0_9, .inl (cqk0_9, 3002, .inl (fun _ => 0))), (qk0_11, .inl (cqk0_11, 3002, .inl (fun _ => 0)))] H := hP
  replace hD : va_D A [(h0, .inr (13, fsk3_6)), (qk0_1, .inl (cqk0_1, 6000, .inl (fun _ => 0))), (qk0_5, .inl (cqk0_5, 3008, .inl (fun _ => 0))), (qk0_7, .inl (cqk0_7, 3002, .inl (fun _ => 0))), (qk0_9, .inl (cqk0_9, 3002, .inl (fun _ => 0))), (qk0_11, .inl (cqk0_11, 3002, .inl (fun _ => 0)))] := hD
  refine lv_aload_n hx hb dX13_init_274 rfl (lv_at hl 0 rfl) ?_
  refine lv_sipush (v := 1500) hx hb dX13_init_275 (by decide) ?_
  refine va_newa (atype := .int) (ty := .int) (N' := 1500) (a0 := (1500, .inl (fun _ => 0))) hx hb (hts (.arrayClass .int) (by decide +kernel)) rfl hK hP hD hS hA (fun _ => rfl) (by decide) (by decide) (by decide) (Nat.le_of_ble_eq_true rfl) (Nat.le_of_ble_eq_true rfl) dX13_init_278 ?_
  clear hK hP hD hS
  intro qk3_7 cqk3_7 H hK hP hD hS
  refine W.widen (k := 31) (n := 130714) (Nat.le_of_ble_eq_true rfl) (Nat.le_of_ble_eq_true rfl) ?_
  replace hP := hP.sub (ws' := [(h0, .inr (13, fsk3_6)), (qk0_1, .inl (cqk0_1, 6000, .inl (fun _ => 0))), (qk0_5, .inl (cqk0_5, 3008, .inl (fun _ => 0))), (qk0_7, .inl (cqk0_7, 3002, .inl (fun _ => 0))), (qk0_9, .inl (cqk0_9, 3002, .inl (fun _ => 0))), (qk0_11, .inl (cqk0_11, 3002, .inl (fun _ => 0)))]) [0, 1, 2, 3, 4, 5] rfl
  replace hD := hD.sub (ws' := [(h0, .inr (13, fsk3_6)), (qk0_1, .inl (cqk0_1, 6000, .inl (fun _ => 0))), (qk0_5, .inl (cqk0_5, 3008, .inl (fun _ => 0))), (qk0_7, .inl (cqk0_7, 3002, .inl (fun _ => 0))), (qk0_9, .inl (cqk0_9, 3002, .inl (fun _ => 0))), (qk0_11, .inl (cqk0_11, 3002, .inl (fun _ => 0)))]) [0, 1, 2, 3, 4, 5] (by decide) rfl
  replace hK := hK.sub (tys' := [(cqk0_1, .int), (cqk0_5, .int), (cqk0_7, .int), (cqk0_9, .int), (cqk0_11, .int)]) [0, 1, 2, 3, 4] rfl
  refine va_putF (D := (dC, dI)) (ci := 13) (v := .ref qk3_7) (ty := .array .int) (C := RX13) (T := TX13) (N := 155) hx hb hts uX13_init_X13 tyX13 tyX13_ok nmX13 hown hK hP hD hS 0 rfl rfl 40 (by decide) (hts (.fieldLink RX13 101 "ClassMillModel" "parameterBase" "[I") (by decide +kernel)) (fun _ h9 => h9) rfl hin rfl (by decide +kernel) rfl rfl (by rw [hlfsk3_6]; decide) dX13_init_280 ?_
  clear hP hD hS
  intro H locs hP hD hS
  obtain ⟨fsk3_8, efsk3_8⟩ : ∃ zf : List Value, zf = fsk3_6.set 40 (.ref qk3_7) := ⟨_, rfl⟩
  rw [← efsk3_8] at hP hD
  have hlfsk3_8 : fsk3_8.length = 155 := by rw [efsk3_8, List.length_set]; exact hlfsk3_6
  clear hlfsk3_6
  replace hP : va_P (dC, dI) vwCl [(h0, .inr (13, fsk3_8)), (qk0_1, .inl (cqk0_1, 6000, .inl (fun _ => 0))), (qk0_5, .inl (cqk0_5, 3008, .inl (fun _ => 0))), (qk0_7, .inl (cqk0_7, 3002, .inl (fun _ => 0))), (qk0_9, .inl (cqk0_9, 3002, .inl (fun _ => 0))), (qk0_11, .inl (cqk0_11, 3002, .inl (fun _ => 0)))] H := hP
  replace hD : va_D A [(h0, .inr (13, fsk3_8)), (qk0_1, .inl (cqk0_1, 6000, .inl (fun _ => 0))), (qk0_5, .inl (cqk0_5, 3008, .inl (fun _ => 0))), (qk0_7, .inl (cqk0_7, 3002, .inl (fun _ => 0))), (qk0_9, .inl (cqk0_9, 3002, .inl (fun _ => 0))), (qk0_11, .inl (cqk0_11, 3002, .inl (fun _ => 0)))] := hD
  refine lv_aload_n hx hb dX13_init_283 rfl (lv_at hl 0 rfl) ?_
  refine lv_sipush (v := 1500) hx hb dX13_init_284 (by decide) ?_
  refine va_newa (atype := .int) (ty := .int) (N' := 1500) (a0 := (1500, .inl (fun _ => 0))) hx hb (hts (.arrayClass .int) (by decide +kernel)) rfl hK hP hD hS hA (fun _ => rfl) (by decide) (by decide) (by decide) (Nat.le_of_ble_eq_true rfl) (Nat.le_of_ble_eq_true rfl) dX13_init_287 ?_
  clear hK hP hD hS
  intro qk3_9 cqk3_9 H hK hP hD hS
  refine W.widen (k := 32) (n := 132214) (Nat.le_of_ble_eq_true rfl) (Nat.le_of_ble_eq_true rfl) ?_
  replace hP := hP.sub (ws' := [(h0, .inr (13, fsk3_8)), (qk0_1, .inl (cqk0_1, 6000, .inl (fun _ => 0))), (qk0_5, .inl (cqk0_5, 3008, .inl (fun _ => 0))), (qk0_7, .inl (cqk0_7, 3002, .inl (fun _ => 0))), (qk0_9, .inl (cqk0_9, 3002, .inl (fun _ => 0))), (qk0_11, .inl (cqk0_11, 3002, .inl (fun _ => 0)))]) [0, 1, 2, 3, 4, 5] rfl
  replace hD := hD.sub (ws' := [(h0, .inr (13, fsk3_8)), (qk0_1, .inl (cqk0_1, 6000, .inl (fun _ => 0))), (qk0_5, .inl (cqk0_5, 3008, .inl (fun _ => 0))), (qk0_7, .inl (cqk0_7, 3002, .inl (fun _ => 0))), (qk0_9, .inl (cqk0_9, 3002, .inl (fun _ => 0))), (qk0_11, .inl (cqk0_11, 3002, .inl (fun _ => 0)))]) [0, 1, 2, 3, 4, 5] (by decide) rfl
  replace hK := hK.sub (tys' := [(cqk0_1, .int), (cqk0_5, .int), (cqk0_7, .int), (cqk0_9, .int), (cqk0_11, .int)]) [0, 1, 2, 3, 4] rfl
  refine va_putF (D := (dC, dI)) (ci := 13) (v := .ref qk3_9) (ty := .array .int) (C := RX13) (T := TX13) (N := 155) hx hb hts uX13_init_X13 tyX13 tyX13_ok nmX13 hown hK hP hD hS 0 rfl rfl 41 (by decide) (hts (.fieldLink RX13 104 "ClassMillModel" "parameterBaseToken" "[I") (by decide +kernel)) (fun _ h9 => h9) rfl hin rfl (by decide +kernel) rfl rfl (by rw [hlfsk3_8]; decide) dX13_init_289 ?_
  clear hP hD hS
  intro H locs hP hD hS
  obtain ⟨fsk3_10, efsk3_10⟩ : ∃ zf : List Value, zf = fsk3_8.set 41 (.ref qk3_9) := ⟨_, rfl⟩
  rw [← efsk3_10] at hP hD
  have hlfsk3_10 : fsk3_10.length = 155 := by rw [efsk3_10, List.length_set]; exact hlfsk3_8
  clear hlfsk3_8
  replace hP : va_P (dC, dI) vwCl [(h0, .inr (13, fsk3_10)), (qk0_1, .inl (cqk0_1, 6000, .inl (fun _ => 0))), (qk0_5, .inl (cqk0_5, 3008, .inl (fun _ => 0))), (qk0_7, .inl (cqk0_7, 3002, .inl (fun _ => 0))), (qk0_9, .inl (cqk0_9, 3002, .inl (fun _ => 0))), (qk0_11, .inl (cqk0_11, 3002, .inl (fun _ => 0)))] H := hP
  replace hD : va_D A [(h0, .inr (13, fsk3_10)), (qk0_1, .inl (cqk0_1, 6000, .inl (fun _ => 0))), (qk0_5, .inl (cqk0_5, 3008, .inl (fun _ => 0))), (qk0_7, .inl (cqk0_7, 3002, .inl (fun _ => 0))), (qk0_9, .inl (cqk0_9, 3002, .inl (fun _ => 0))), (qk0_11, .inl (cqk0_11, 3002, .inl (fun _ => 0)))] := hD
  refine lv_aload_n hx hb dX13_init_292 rfl (lv_at hl 0 rfl) ?_
  refine lv_sipush (v := 1500) hx hb dX13_init_293 (by decide) ?_
  refine va_newa (atype := .boolean) (ty := .boolean) (N' := 1500) (a0 := (1500, .inl (fun _ => 0))) hx hb (hts (.arrayClass .boolean) (by decide +kernel)) rfl hK hP hD hS hA (fun _ => rfl) (by decide) (by decide) (by decide) (Nat.le_of_ble_eq_true rfl) (Nat.le_of_ble_eq_true rfl) dX13_init_296 ?_
  clear hK hP hD hS
  intro qk3_11 cqk3_11 H hK hP hD hS
  refine W.widen (k := 33) (n := 133714) (Nat.le_of_ble_eq_true rfl) (Nat.le_of_ble_eq_true rfl) ?_
  replace hP := hP.sub (ws' := [(h0, .inr (13, fsk3_10)), (qk0_1, .inl (cqk0_1, 6000, .inl (fun _ => 0))), (qk0_5, .inl (cqk0_5, 3008, .inl (fun _ => 0))), (qk0_7, .inl (cqk0_7, 3002, .inl (fun _ => 0))), (qk0_9, .inl (cqk0_9, 3002, .inl (fun _ => 0))), (qk0_11, .inl (cqk0_11, 3002, .inl (fun _ => 0)))]) [0, 1, 2, 3, 4, 5] rfl
  replace hD := hD.sub (ws' := [(h0, .inr (13, fsk3_10)), (qk0_1, .inl (cqk0_1, 6000, .inl (fun _ => 0))), (qk0_5, .inl (cqk0_5, 3008, .inl (fun _ => 0))), (qk0_7, .inl (cqk0_7, 3002, .inl (fun _ => 0))), (qk0_9, .inl (cqk0_9, 3002, .inl (fun _ => 0))), (qk0_11, .inl (cqk0_11, 3002, .inl (fun _ => 0)))]) [0, 1, 2, 3, 4, 5] (by decide) rfl
  replace hK := hK.sub (tys' := [(cqk0_1, .int), (cqk0_5, .int), (cqk0_7, .int), (cqk0_9, .int), (cqk0_11, .int)]) [0, 1, 2, 3, 4] rfl
  refine va_putF (D := (dC, dI)) (ci := 13) (v := .ref qk3_11) (ty := .array .boolean) (C := RX13) (T := TX13) (N := 155) hx hb hts uX13_init_X13 tyX13 tyX13_ok nmX13 hown hK hP hD hS 0 rfl rfl 42 (by decide) (hts (.fieldLink RX13 107 "ClassMillModel" "parameterRow" "[Z") (by decide +kernel)) (fun _ h9 => h9) rfl hin rfl (by decide +kernel) rfl rfl (by rw [hlfsk3_10]; decide) dX13_init_298 ?_
  clear hP hD hS
  intro H locs hP hD hS
  obtain ⟨fsk3_12, efsk3_12⟩ : ∃ zf : List Value, zf = fsk3_10.set 42 (.ref qk3_11) := ⟨_, rfl⟩
  rw [← efsk3_12] at hP hD
  have hlfsk3_12 : fsk3_12.length = 155 := by rw [efsk3_12, List.length_set]; exact hlfsk3_10
  clear hlfsk3_10
  replace hP : va_P (dC, dI) vwCl [(h0, .inr (13, fsk3_12)), (qk0_1, .inl (cqk0_1, 6000, .inl (fun _ => 0))), (qk0_5, .inl (cqk0_5, 3008, .inl (fun _ => 0))), (qk0_7, .inl (cqk0_7, 3002, .inl (fun _ => 0))), (qk0_9, .inl (cqk0_9, 3002, .inl (fun _ => 0))), (qk0_11, .inl (cqk0_11, 3002, .inl (fun _ => 0)))] H := hP
  replace hD : va_D A [(h0, .inr (13, fsk3_12)), (qk0_1, .inl (cqk0_1, 6000, .inl (fun _ => 0))), (qk0_5, .inl (cqk0_5, 3008, .inl (fun _ => 0))), (qk0_7, .inl (cqk0_7, 3002, .inl (fun _ => 0))), (qk0_9, .inl (cqk0_9, 3002, .inl (fun _ => 0))), (qk0_11, .inl (cqk0_11, 3002, .inl (fun _ => 0)))] := hD
  refine lv_aload_n hx hb dX13_init_301 rfl (lv_at hl 0 rfl) ?_
  refine lv_sipush (v := 1500) hx hb dX13_init_302 (by decide) ?_
  refine va_newa (atype := .int) (ty := .int) (N' := 1500) (a0 := (1500, .inl (fun _ => 0))) hx hb (hts (.arrayClass .int) (by decide +kernel)) rfl hK hP hD hS hA (fun _ => rfl) (by decide) (by decide) (by decide) (Nat.le_of_ble_eq_true rfl) (Nat.le_of_ble_eq_true rfl) dX13_init_305 ?_
  clear hK hP hD hS
  intro qk3_13 cqk3_13 H hK hP hD hS
  refine W.widen (k := 34) (n := 135214) (Nat.le_of_ble_eq_true rfl) (Nat.le_of_ble_eq_true rfl) ?_
  replace hP := hP.sub (ws' := [(h0, .inr (13, fsk3_12)), (qk0_1, .inl (cqk0_1, 6000, .inl (fun _ => 0))), (qk0_5, .inl (cqk0_5, 3008, .inl (fun _ => 0))), (qk0_7, .inl (cqk0_7, 3002, .inl (fun _ => 0))), (qk0_9, .inl (cqk0_9, 3002, .inl (fun _ => 0))), (qk0_11, .inl (cqk0_11, 3002, .inl (fun _ => 0)))]) [0, 1, 2, 3, 4, 5] rfl
  replace hD := hD.sub (ws' := [(h0, .inr (13, fsk3_12)), (qk0_1, .inl (cqk0_1, 6000, .inl (fun _ => 0))), (qk0_5, .inl (cqk0_5, 3008, .inl (fun _ => 0))), (qk0_7, .inl (cqk0_7, 3002, .inl (fun _ => 0))), (qk0_9, .inl (cqk0_9, 3002, .inl (fun _ => 0))), (qk0_11, .inl (cqk0_11, 3002, .inl (fun _ => 0)))]) [0, 1, 2, 3, 4, 5] (by decide) rfl
  replace hK := hK.sub (tys' := [(cqk0_1, .int), (cqk0_5, .int), (cqk0_7, .int), (cqk0_9, .int), (cqk0_11, .int)]) [0, 1, 2, 3, 4] rfl
  refine va_putF (D := (dC, dI)) (ci := 13) (v := .ref qk3_13) (ty := .array .int) (C := RX13) (T := TX13) (N := 155) hx hb hts uX13_init_X13 tyX13 tyX13_ok nmX13 hown hK hP hD hS 0 rfl rfl 43 (by decide) (hts (.fieldLink RX13 110 "ClassMillModel" "parameterName" "[I") (by decide +kernel)) (fun _ h9 => h9) rfl hin rfl (by decide +kernel) rfl rfl (by rw [hlfsk3_12]; decide) dX13_init_307 ?_
  clear hP hD hS
  intro H locs hP hD hS
  obtain ⟨fsk3_14, efsk3_14⟩ : ∃ zf : List Value, zf = fsk3_12.set 43 (.ref qk3_13) := ⟨_, rfl⟩
  rw [← efsk3_14] at hP hD
  have hlfsk3_14 : fsk3_14.length = 155 := by rw [efsk3_14, List.length_set]; exact hlfsk3_12
  clear hlfsk3_12
  replace hP : va_P (dC, dI) vwCl [(h0, .inr (13, fsk3_14)), (qk0_1, .inl (cqk0_1, 6000, .inl (fun _ => 0))), (qk0_5, .inl (cqk0_5, 3008, .inl (fun _ => 0))), (qk0_7, .inl (cqk0_7, 3002, .inl (fun _ => 0))), (qk0_9, .inl (cqk0_9, 3002, .inl (fun _ => 0))), (qk0_11, .inl (cqk0_11, 3002, .inl (fun _ => 0)))] H := hP
  replace hD : va_D A [(h0, .inr (13, fsk3_14)), (qk0_1, .inl (cqk0_1, 6000, .inl (fun _ => 0))), (qk0_5, .inl (cqk0_5, 3008, .inl (fun _ => 0))), (qk0_7, .inl (cqk0_7, 3002, .inl (fun _ => 0))), (qk0_9, .inl (cqk0_9, 3002, .inl (fun _ => 0))), (qk0_11, .inl (cqk0_11, 3002, .inl (fun _ => 0)))] := hD
  refine lv_aload_n hx hb dX13_init_310 rfl (lv_at hl 0 rfl) ?_
  refine lv_sipush (v := 1500) hx hb dX13_init_311 (by decide) ?_
  refine va_newa (atype := .int) (ty := .int) (N' := 1500) (a0 := (1500, .inl (fun _ => 0))) hx hb (hts (.arrayClass .int) (by decide +kernel)) rfl hK hP hD hS hA (fun _ => rfl) (by decide) (by decide) (by decide) (Nat.le_of_ble_eq_true rfl) (Nat.le_of_ble_eq_true rfl) dX13_init_314 ?_
  clear hK hP hD hS
  intro qk3_15 cqk3_15 H hK hP hD hS
  refine W.widen (k := 35) (n := 136714) (Nat.le_of_ble_eq_true rfl) (Nat.le_of_ble_eq_true rfl) ?_
  replace hP := hP.sub (ws' := [(h0, .inr (13, fsk3_14)), (qk0_1, .inl (cqk0_1, 6000, .inl (fun _ => 0))), (qk0_5, .inl (cqk0_5, 3008, .inl (fun _ => 0))), (qk0_7, .inl (cqk0_7, 3002, .inl (fun _ => 0))), (qk0_9, .inl (cqk0_9, 3002, .inl (fun _ => 0))), (qk0_11, .inl (cqk0_11, 3002, .inl (fun _ => 0)))]) [0, 1, 2, 3, 4, 5] rfl
  replace hD := hD.sub (ws' := [(h0, .inr (13, fsk3_14)), (qk0_1, .inl (cqk0_1, 6000, .inl (fun _ => 0))), (qk0_5, .inl (cqk0_5, 3008, .inl (fun _ => 0))), (qk0_7, .inl (cqk0_7, 3002, .inl (fun _ => 0))), (qk0_9, .inl (cqk0_9, 3002, .inl (fun _ => 0))), (qk0_11, .inl (cqk0_11, 3002, .inl (fun _ => 0)))]) [0, 1, 2, 3, 4, 5] (by decide) rfl
  replace hK := hK.sub (tys' := [(cqk0_1, .int), (cqk0_5, .int), (cqk0_7, .int), (cqk0_9, .int), (cqk0_11, .int)]) [0, 1, 2, 3, 4] rfl
  refine va_putF (D := (dC, dI)) (ci := 13) (v := .ref qk3_15) (ty := .array .int) (C := RX13) (T := TX13) (N := 155) hx hb hts uX13_init_X13 tyX13 tyX13_ok nmX13 hown hK hP hD hS 0 rfl rfl 44 (by decide) (hts (.fieldLink RX13 113 "ClassMillModel" "parameterType" "[I") (by decide +kernel)) (fun _ h9 => h9) rfl hin rfl (by decide +kernel) rfl rfl (by rw [hlfsk3_14]; decide) dX13_init_316 ?_
  clear hP hD hS
  intro H locs hP hD hS
  obtain ⟨fsk3_16, efsk3_16⟩ : ∃ zf : List Value, zf = fsk3_14.set 44 (.ref qk3_15) := ⟨_, rfl⟩
  rw [← efsk3_16] at hP hD
  have hlfsk3_16 : fsk3_16.length = 155 := by rw [efsk3_16, List.length_set]; exact hlfsk3_14
  clear hlfsk3_14
  replace hP : va_P (dC, dI) vwCl [(h0, .inr (13, fsk3_16)), (qk0_1, .inl (cqk0_1, 6000, .inl (fun _ => 0))), (qk0_5, .inl (cqk0_5, 3008, .inl (fun _ => 0))), (qk0_7, .inl (cqk0_7, 3002, .inl (fun _ => 0))), (qk0_9, .inl (cqk0_9, 3002, .inl (fun _ => 0))), (qk0_11, .inl (cqk0_11, 3002, .inl (fun _ => 0)))] H := hP
  replace hD : va_D A [(h0, .inr (13, fsk3_16)), (qk0_1, .inl (cqk0_1, 6000, .inl (fun _ => 0))), (qk0_5, .inl (cqk0_5, 3008, .inl (fun _ => 0))), (qk0_7, .inl (cqk0_7, 3002, .inl (fun _ => 0))), (qk0_9, .inl (cqk0_9, 3002, .inl (fun _ => 0))), (qk0_11, .inl (cqk0_11, 3002, .inl (fun _ => 0)))] := hD
  refine lv_aload_n hx hb dX13_init_319 rfl (lv_at hl 0 rfl) ?_
  refine lv_sipush (v := 3000) hx hb dX13_init_320 (by decide) ?_
  refine va_newa (atype := .int) (ty := .int) (N' := 3000) (a0 := (3000, .inl (fun _ => 0))) hx hb (hts (.arrayClass .int) (by decide +kernel)) rfl hK hP hD hS hA (fun _ => rfl) (by decide) (by decide) (by decide) (Nat.le_of_ble_eq_true rfl) (Nat.le_of_ble_eq_true rfl) dX13_init_323 ?_
  clear hK hP hD hS
  intro qk3_17 cqk3_17 H hK hP hD hS
  refine W.widen (k := 36) (n := 139714) (Nat.le_of_ble_eq_true rfl) (Nat.le_of_ble_eq_true rfl) ?_
  replace hP := hP.sub (ws' := [(h0, .inr (13, fsk3_16)), (qk0_1, .inl (cqk0_1, 6000, .inl (fun _ => 0))), (qk0_5, .inl (cqk0_5, 3008, .inl (fun _ => 0))), (qk0_7, .inl (cqk0_7, 3002, .inl (fun _ => 0))), (qk0_9, .inl (cqk0_9, 3002, .inl (fun _ => 0))), (qk0_11, .inl (cqk0_11, 3002, .inl (fun _ => 0)))]) [0, 1, 2, 3, 4, 5] rfl
  replace hD := hD.sub (ws' := [(h0, .inr (13, fsk3_16)), (qk0_1, .inl (cqk0_1, 6000, .inl (fun _ => 0))), (qk0_5, .inl (cqk0_5, 3008, .inl (fun _ => 0))), (qk0_7, .inl (cqk0_7, 3002, .inl (fun _ => 0))), (qk0_9, .inl (cqk0_9, 3002, .inl (fun _ => 0))), (qk0_11, .inl (cqk0_11, 3002, .inl (fun _ => 0)))]) [0, 1, 2, 3, 4, 5] (by decide) rfl
  replace hK := hK.sub (tys' := [(cqk0_1, .int), (cqk0_5, .int), (cqk0_7, .int), (cqk0_9, .int), (cqk0_11, .int)]) [0, 1, 2, 3, 4] rfl
  refine va_putF (D := (dC, dI)) (ci := 13) (v := .ref qk3_17) (ty := .array .int) (C := RX13) (T := TX13) (N := 155) hx hb hts uX13_init_X13 tyX13 tyX13_ok nmX13 hown hK hP hD hS 0 rfl rfl 48 (by decide) (hts (.fieldLink RX13 116 "ClassMillModel" "sightName" "[I") (by decide +kernel)) (fun _ h9 => h9) rfl hin rfl (by decide +kernel) rfl rfl (by rw [hlfsk3_16]; decide) dX13_init_325 ?_
  clear hP hD hS
  intro H locs hP hD hS
  obtain ⟨fsk3_18, efsk3_18⟩ : ∃ zf : List Value, zf = fsk3_16.set 48 (.ref qk3_17) := ⟨_, rfl⟩
  rw [← efsk3_18] at hP hD
  have hlfsk3_18 : fsk3_18.length = 155 := by rw [efsk3_18, List.length_set]; exact hlfsk3_16
  clear hlfsk3_16
  replace hP : va_P (dC, dI) vwCl [(h0, .inr (13, fsk3_18)), (qk0_1, .inl (cqk0_1, 6000, .inl (fun _ => 0))), (qk0_5, .inl (cqk0_5, 3008, .inl (fun _ => 0))), (qk0_7, .inl (cqk0_7, 3002, .inl (fun _ => 0))), (qk0_9, .inl (cqk0_9, 3002, .inl (fun _ => 0))), (qk0_11, .inl (cqk0_11, 3002, .inl (fun _ => 0)))] H := hP
  replace hD : va_D A [(h0, .inr (13, fsk3_18)), (qk0_1, .inl (cqk0_1, 6000, .inl (fun _ => 0))), (qk0_5, .inl (cqk0_5, 3008, .inl (fun _ => 0))), (qk0_7, .inl (cqk0_7, 3002, .inl (fun _ => 0))), (qk0_9, .inl (cqk0_9, 3002, .inl (fun _ => 0))), (qk0_11, .inl (cqk0_11, 3002, .inl (fun _ => 0)))] := hD
  exact kk qk3_1 qk3_3 qk3_5 qk3_7 qk3_9 qk3_11 qk3_13 qk3_15 qk3_17  fsk3_18 H locs hlfsk3_18 (by rw [efsk3_18, efsk3_16, efsk3_14, efsk3_12, efsk3_10, efsk3_8, efsk3_6, efsk3_4, efsk3_2]) hK hP hD hS
set_option maxHeartbeats 4000000 in
set_option maxRecDepth 100000 in
theorem ck_model4 {p : Program} {l : Launch} {e : Env} {s : State} {m : MethodId} {args : Array Value} {below : List Frame} {meth : Method} {c : Code} {Q : State → Prop} {A : Nat → Prop} {H0 : Heap} {dC : Nat → ClassId} {dI : Nat → Nat → Nat} (hx : p.tables.exec = Jvm.exec) (hb : c.code = cX13_init) (hown : s.vm.findClass RX13 = some m.cls) (hin : meth.name = "<init>") (hts : ∀ w ∈ wsX13_init, w.before args s = true) (hA : ∀ q : Nat, H0.size ≤ q → A q) {h0 qk0_1 qk0_5 qk0_7 qk0_9 qk0_11 : Nat} {cqk0_1 cqk0_5 cqk0_7 cqk0_9 cqk0_11 : ClassId} {fs : List Value} {H : Heap} {locs : List Loc} {ls : Array Slot} (hlen : fs.length = 155) (hK : va_K (dC, dI) vwCl [(cqk0_1, .int), (cqk0_5, .int), (cqk0_7, .int), (cqk0_9, .int), (cqk0_11, .int)] s) (hP : va_P (dC, dI) vwCl [(h0, .inr (13, fs)), (qk0_1, .inl (cqk0_1, 6000, .inl (fun _ => 0))), (qk0_5, .inl (cqk0_5, 3008, .inl (fun _ => 0))), (qk0_7, .inl (cqk0_7, 3002, .inl (fun _ => 0))), (qk0_9, .inl (cqk0_9, 3002, .inl (fun _ => 0))), (qk0_11, .inl (cqk0_11, 3002, .inl (fun _ => 0)))] H) (hD : va_D A [(h0, .inr (13, fs)), (qk0_1, .inl (cqk0_1, 6000, .inl (fun _ => 0))), (qk0_5, .inl (cqk0_5, 3008, .inl (fun _ => 0))), (qk0_7, .inl (cqk0_7, 3002, .inl (fun _ => 0))), (qk0_9, .inl (cqk0_9, 3002, .inl (fun _ => 0))), (qk0_11, .inl (cqk0_11, 3002, .inl (fun _ => 0)))]) (hS : va_S A H0 H locs) (hl : lv_has ls 1 [(0, .ref h0)]) (kk : ∀ (qk4_1 qk4_3 qk4_5 qk4_7 qk4_9 qk4_11 qk4_13 qk4_15 qk4_17 : Nat) (fs2 : List Value) (H : Heap) (locs : List Loc), fs2.length = 155 → fs2 = (((((((((fs.set 49 (.ref qk4_1)).set 55 (.ref qk4_3)).set 56 (.ref qk4_5)).set 58 (.ref qk4_7)).set 59 (.ref qk4_9)).set 60 (.ref qk4_11)).set 61 (.ref qk4_13)).set 63 (.ref qk4_15)).set 65 (.ref qk4_17)) → va_K (dC, dI) vwCl [(cqk0_1, .int), (cqk0_5, .int), (cqk0_7, .int), (cqk0_9, .int), (cqk0_11, .int)] s → va_P (dC, dI) vwCl [(h0, .inr (13, fs2)), (qk0_1, .inl (cqk0_1, 6000, .inl (fun _ => 0))), (qk0_5, .inl (cqk0_5, 3008, .inl (fun _ => 0))), (qk0_7, .inl (cqk0_7, 3002, .inl (fun _ => 0))), (qk0_9, .inl (cqk0_9, 3002, .inl (fun _ => 0))), (qk0_11, .inl (cqk0_11, 3002, .inl (fun _ => 0)))] H → va_D A [(h0, .inr (13, fs2)), (qk0_1, .inl (cqk0_1, 6000, .inl (fun _ => 0))), (qk0_5, .inl (cqk0_5, 3008, .inl (fun _ => 0))), (qk0_7, .inl (cqk0_7, 3002, .inl (fun _ => 0))), (qk0_9, .inl (cqk0_9, 3002, .inl (fun _ => 0))), (qk0_11, .inl (cqk0_11, 3002, .inl (fun _ => 0)))] → va_S A H0 H locs → W p l e ({ frames := 2, cells := 95, slots := 548130, locals := 60 } : Room) s m args below meth c H locs 45 202914 Q (F0 m 408 ls [])) : W p l e ({ frames := 2, cells := 95, slots := 548130, locals := 60 } : Room) s m args below meth c H locs 36 139714 Q (F0 m 328 ls []) := by
  refine lv_aload_n hx hb dX13_init_328 rfl (lv_at hl 0 rfl) ?_
  refine lv_sipush (v := 3000) hx hb dX13_init_329 (by decide) ?_
  refine va_newa (atype := .int) (ty := .int) (N' := 3000) (a0 := (3000, .inl (fun _ => 0))) hx hb (hts (.arrayClass .int) (by decide +kernel)) rfl hK hP hD hS hA (fun _ => rfl) (by decide) (by decide) (by decide) (Nat.le_of_ble_eq_true rfl) (Nat.le_of_ble_eq_true rfl) dX13_init_332 ?_
  clear hK hP hD hS
  intro qk4_1 cqk4_1 H hK hP hD hS
  refine W.widen (k := 37) (n := 142714) (Nat.le_of_ble_eq_true rfl) (Nat.le_of_ble_eq_true rfl) ?_
  replace hP := hP.sub (ws' := [(h0, .inr (13, fs)), (qk0_1, .inl (cqk0_1, 6000, .inl (fun _ => 0))), (qk0_5, .inl (cqk0_5, 3008, .inl (fun _ => 0))), (qk0_7, .inl (cqk0_7, 3002, .inl (fun _ => 0))), (qk0_9, .inl (cqk0_9, 3002, .inl (fun _ => 0))), (qk0_11, .inl (cqk0_11, 3002, .inl (fun _ => 0)))]) [0, 1, 2, 3, 4, 5] rfl
  replace hD := hD.sub (ws' := [(h0, .inr (13, fs)), (qk0_1, .inl (cqk0_1, 6000, .inl (fun _ => 0))), (qk0_5, .inl (cqk0_5, 3008, .inl (fun _ => 0))), (qk0_7, .inl (cqk0_7, 3002, .inl (fun _ => 0))), (qk0_9, .inl (cqk0_9, 3002, .inl (fun _ => 0))), (qk0_11, .inl (cqk0_11, 3002, .inl (fun _ => 0)))]) [0, 1, 2, 3, 4, 5] (by decide) rfl
  replace hK := hK.sub (tys' := [(cqk0_1, .int), (cqk0_5, .int), (cqk0_7, .int), (cqk0_9, .int), (cqk0_11, .int)]) [0, 1, 2, 3, 4] rfl
  refine va_putF (D := (dC, dI)) (ci := 13) (v := .ref qk4_1) (ty := .array .int) (C := RX13) (T := TX13) (N := 155) hx hb hts uX13_init_X13 tyX13 tyX13_ok nmX13 hown hK hP hD hS 0 rfl rfl 49 (by decide) (hts (.fieldLink RX13 119 "ClassMillModel" "sightType" "[I") (by decide +kernel)) (fun _ h9 => h9) rfl hin rfl (by decide +kernel) rfl rfl (by rw [hlen]; decide) dX13_init_334 ?_
  clear hP hD hS
  intro H locs hP hD hS
  obtain ⟨fsk4_2, efsk4_2⟩ : ∃ zf : List Value, zf = fs.set 49 (.ref qk4_1) := ⟨_, rfl⟩
  rw [← efsk4_2] at hP hD
  have hlfsk4_2 : fsk4_2.length = 155 := by rw [efsk4_2, List.length_set]; exact hlen
  clear hlen
  replace hP : va_P (dC, dI) vwCl [(h0, .inr (13, fsk4_2)), (qk0_1, .inl (cqk0_1, 6000, .inl (fun _ => 0))), (qk0_5, .inl (cqk0_5, 3008, .inl (fun _ => 0))), (qk0_7, .inl (cqk0_7, 3002, .inl (fun _ => 0))), (qk0_9, .inl (cqk0_9, 3002, .inl (fun _ => 0))), (qk0_11, .inl (cqk0_11, 3002, .inl (fun _ => 0)))] H := hP
  replace hD : va_D A [(h0, .inr (13, fsk4_2)), (qk0_1, .inl (cqk0_1, 6000, .inl (fun _ => 0))), (qk0_5, .inl (cqk0_5, 3008, .inl (fun _ => 0))), (qk0_7, .inl (cqk0_7, 3002, .inl (fun _ => 0))), (qk0_9, .inl (cqk0_9, 3002, .inl (fun _ => 0))), (qk0_11, .inl (cqk0_11, 3002, .inl (fun _ => 0)))] := hD
  refine lv_aload_n hx hb dX13_init_337 rfl (lv_at hl 0 rfl) ?_
  refine lv_sipush (v := 3000) hx hb dX13_init_338 (by decide) ?_
  refine va_newa (atype := .boolean) (ty := .boolean) (N' := 3000) (a0 := (3000, .inl (fun _ => 0))) hx hb (hts (.arrayClass .boolean) (by decide +kernel)) rfl hK hP hD hS hA (fun _ => rfl) (by decide) (by decide) (by decide) (Nat.le_of_ble_eq_true rfl) (Nat.le_of_ble_eq_true rfl) dX13_init_341 ?_
  clear hK hP hD hS
  intro qk4_3 cqk4_3 H hK hP hD hS
  refine W.widen (k := 38) (n := 145714) (Nat.le_of_ble_eq_true rfl) (Nat.le_of_ble_eq_true rfl) ?_
  replace hP := hP.sub (ws' := [(h0, .inr (13, fsk4_2)), (qk0_1, .inl (cqk0_1, 6000, .inl (fun _ => 0))), (qk0_5, .inl (cqk0_5, 3008, .inl (fun _ => 0))), (qk0_7, .inl (cqk0_7, 3002, .inl (fun _ => 0))), (qk0_9, .inl (cqk0_9, 3002, .inl (fun _ => 0))), (qk0_11, .inl (cqk0_11, 3002, .inl (fun _ => 0)))]) [0, 1, 2, 3, 4, 5] rfl
  replace hD := hD.sub (ws' := [(h0, .inr (13, fsk4_2)), (qk0_1, .inl (cqk0_1, 6000, .inl (fun _ => 0))), (qk0_5, .inl (cqk0_5, 3008, .inl (fun _ => 0))), (qk0_7, .inl (cqk0_7, 3002, .inl (fun _ => 0))), (qk0_9, .inl (cqk0_9, 3002, .inl (fun _ => 0))), (qk0_11, .inl (cqk0_11, 3002, .inl (fun _ => 0)))]) [0, 1, 2, 3, 4, 5] (by decide) rfl
  replace hK := hK.sub (tys' := [(cqk0_1, .int), (cqk0_5, .int), (cqk0_7, .int), (cqk0_9, .int), (cqk0_11, .int)]) [0, 1, 2, 3, 4] rfl
  refine va_putF (D := (dC, dI)) (ci := 13) (v := .ref qk4_3) (ty := .array .boolean) (C := RX13) (T := TX13) (N := 155) hx hb hts uX13_init_X13 tyX13 tyX13_ok nmX13 hown hK hP hD hS 0 rfl rfl 55 (by decide) (hts (.fieldLink RX13 122 "ClassMillModel" "broken" "[Z") (by decide +kernel)) (fun _ h9 => h9) rfl hin rfl (by decide +kernel) rfl rfl (by rw [hlfsk4_2]; decide) dX13_init_343 ?_
  clear hP hD hS
  intro H locs hP hD hS
  obtain ⟨fsk4_4, efsk4_4⟩ : ∃ zf : List Value, zf = fsk4_2.set 55 (.ref qk4_3) := ⟨_, rfl⟩
  rw [← efsk4_4] at hP hD
  have hlfsk4_4 : fsk4_4.length = 155 := by rw [efsk4_4, List.length_set]; exact hlfsk4_2
  clear hlfsk4_2
  replace hP : va_P (dC, dI) vwCl [(h0, .inr (13, fsk4_4)), (qk0_1, .inl (cqk0_1, 6000, .inl (fun _ => 0))), (qk0_5, .inl (cqk0_5, 3008, .inl (fun _ => 0))), (qk0_7, .inl (cqk0_7, 3002, .inl (fun _ => 0))), (qk0_9, .inl (cqk0_9, 3002, .inl (fun _ => 0))), (qk0_11, .inl (cqk0_11, 3002, .inl (fun _ => 0)))] H := hP
  replace hD : va_D A [(h0, .inr (13, fsk4_4)), (qk0_1, .inl (cqk0_1, 6000, .inl (fun _ => 0))), (qk0_5, .inl (cqk0_5, 3008, .inl (fun _ => 0))), (qk0_7, .inl (cqk0_7, 3002, .inl (fun _ => 0))), (qk0_9, .inl (cqk0_9, 3002, .inl (fun _ => 0))), (qk0_11, .inl (cqk0_11, 3002, .inl (fun _ => 0)))] := hD
  refine lv_aload_n hx hb dX13_init_346 rfl (lv_at hl 0 rfl) ?_
  refine lv_sipush (v := 9000) hx hb dX13_init_347 (by decide) ?_
  refine va_newa (atype := .int) (ty := .int) (N' := 9000) (a0 := (9000, .inl (fun _ => 0))) hx hb (hts (.arrayClass .int) (by decide +kernel)) rfl hK hP hD hS hA (fun _ => rfl) (by decide) (by decide) (by decide) (Nat.le_of_ble_eq_true rfl) (Nat.le_of_ble_eq_true rfl) dX13_init_350 ?_
  clear hK hP hD hS
  intro qk4_5 cqk4_5 H hK hP hD hS
  refine W.widen (k := 39) (n := 154714) (Nat.le_of_ble_eq_true rfl) (Nat.le_of_ble_eq_true rfl) ?_
  replace hP := hP.sub (ws' := [(h0, .inr (13, fsk4_4)), (qk0_1, .inl (cqk0_1, 6000, .inl (fun _ => 0))), (qk0_5, .inl (cqk0_5, 3008, .inl (fun _ => 0))), (qk0_7, .inl (cqk0_7, 3002, .inl (fun _ => 0))), (qk0_9, .inl (cqk0_9, 3002, .inl (fun _ => 0))), (qk0_11, .inl (cqk0_11, 3002, .inl (fun _ => 0)))]) [0, 1, 2, 3, 4, 5] rfl
  replace hD := hD.sub (ws' := [(h0, .inr (13, fsk4_4)), (qk0_1, .inl (cqk0_1, 6000, .inl (fun _ => 0))), (qk0_5, .inl (cqk0_5, 3008, .inl (fun _ => 0))), (qk0_7, .inl (cqk0_7, 3002, .inl (fun _ => 0))), (qk0_9, .inl (cqk0_9, 3002, .inl (fun _ => 0))), (qk0_11, .inl (cqk0_11, 3002, .inl (fun _ => 0)))]) [0, 1, 2, 3, 4, 5] (by decide) rfl
  replace hK := hK.sub (tys' := [(cqk0_1, .int), (cqk0_5, .int), (cqk0_7, .int), (cqk0_9, .int), (cqk0_11, .int)]) [0, 1, 2, 3, 4] rfl
  refine va_putF (D := (dC, dI)) (ci := 13) (v := .ref qk4_5) (ty := .array .int) (C := RX13) (T := TX13) (N := 155) hx hb hts uX13_init_X13 tyX13 tyX13_ok nmX13 hown hK hP hD hS 0 rfl rfl 56 (by decide) (hts (.fieldLink RX13 125 "ClassMillModel" "row" "[I") (by decide +kernel)) (fun _ h9 => h9) rfl hin rfl (by decide +kernel) rfl rfl (by rw [hlfsk4_4]; decide) dX13_init_352 ?_
  clear hP hD hS
  intro H locs hP hD hS
  obtain ⟨fsk4_6, efsk4_6⟩ : ∃ zf : List Value, zf = fsk4_4.set 56 (.ref qk4_5) := ⟨_, rfl⟩
  rw [← efsk4_6] at hP hD
  have hlfsk4_6 : fsk4_6.length = 155 := by rw [efsk4_6, List.length_set]; exact hlfsk4_4
  clear hlfsk4_4
  replace hP : va_P (dC, dI) vwCl [(h0, .inr (13, fsk4_6)), (qk0_1, .inl (cqk0_1, 6000, .inl (fun _ => 0))), (qk0_5, .inl (cqk0_5, 3008, .inl (fun _ => 0))), (qk0_7, .inl (cqk0_7, 3002, .inl (fun _ => 0))), (qk0_9, .inl (cqk0_9, 3002, .inl (fun _ => 0))), (qk0_11, .inl (cqk0_11, 3002, .inl (fun _ => 0)))] H := hP
  replace hD : va_D A [(h0, .inr (13, fsk4_6)), (qk0_1, .inl (cqk0_1, 6000, .inl (fun _ => 0))), (qk0_5, .inl (cqk0_5, 3008, .inl (fun _ => 0))), (qk0_7, .inl (cqk0_7, 3002, .inl (fun _ => 0))), (qk0_9, .inl (cqk0_9, 3002, .inl (fun _ => 0))), (qk0_11, .inl (cqk0_11, 3002, .inl (fun _ => 0)))] := hD
  refine lv_aload_n hx hb dX13_init_355 rfl (lv_at hl 0 rfl) ?_
  refine lv_sipush (v := 2000) hx hb dX13_init_356 (by decide) ?_
  refine va_newa (atype := .int) (ty := .int) (N' := 2000) (a0 := (2000, .inl (fun _ => 0))) hx hb (hts (.arrayClass .int) (by decide +kernel)) rfl hK hP hD hS hA (fun _ => rfl) (by decide) (by decide) (by decide) (Nat.le_of_ble_eq_true rfl) (Nat.le_of_ble_eq_true rfl) dX13_init_359 ?_
  clear hK hP hD hS
  intro qk4_7 cqk4_7 H hK hP hD hS
  refine W.widen (k := 40) (n := 156714) (Nat.le_of_ble_eq_true rfl) (Nat.le_of_ble_eq_true rfl) ?_
  replace hP := hP.sub (ws' := [(h0, .inr (13, fsk4_6)), (qk0_1, .inl (cqk0_1, 6000, .inl (fun _ => 0))), (qk0_5, .inl (cqk0_5, 3008, .inl (fun _ => 0))), (qk0_7, .inl (cqk0_7, 3002, .inl (fun _ => 0))), (qk0_9, .inl (cqk0_9, 3002, .inl (fun _ => 0))), (qk0_11, .inl (cqk0_11, 3002, .inl (fun _ => 0)))]) [0, 1, 2, 3, 4, 5] rfl
  replace hD := hD.sub (ws' := [(h0, .inr (13, fsk4_6)), (qk0_1, .inl (cqk0_1, 6000, .inl (fun _ => 0))), (qk0_5, .inl (cqk0_5, 3008, .inl (fun _ => 0))), (qk0_7, .inl (cqk0_7, 3002, .inl (fun _ => 0))), (qk0_9, .inl (cqk0_9, 3002, .inl (fun _ => 0))), (qk0_11, .inl (cqk0_11, 3002, .inl (fun _ => 0)))]) [0, 1, 2, 3, 4, 5] (by decide) rfl
  replace hK := hK.sub (tys' := [(cqk0_1, .int), (cqk0_5, .int), (cqk0_7, .int), (cqk0_9, .int), (cqk0_11, .int)]) [0, 1, 2, 3, 4] rfl
  refine va_putF (D := (dC, dI)) (ci := 13) (v := .ref qk4_7) (ty := .array .int) (C := RX13) (T := TX13) (N := 155) hx hb hts uX13_init_X13 tyX13 tyX13_ok nmX13 hown hK hP hD hS 0 rfl rfl 58 (by decide) (hts (.fieldLink RX13 128 "ClassMillModel" "constantSort" "[I") (by decide +kernel)) (fun _ h9 => h9) rfl hin rfl (by decide +kernel) rfl rfl (by rw [hlfsk4_6]; decide) dX13_init_361 ?_
  clear hP hD hS
  intro H locs hP hD hS
  obtain ⟨fsk4_8, efsk4_8⟩ : ∃ zf : List Value, zf = fsk4_6.set 58 (.ref qk4_7) := ⟨_, rfl⟩
  rw [← efsk4_8] at hP hD
  have hlfsk4_8 : fsk4_8.length = 155 := by rw [efsk4_8, List.length_set]; exact hlfsk4_6
  clear hlfsk4_6
  replace hP : va_P (dC, dI) vwCl [(h0, .inr (13, fsk4_8)), (qk0_1, .inl (cqk0_1, 6000, .inl (fun _ => 0))), (qk0_5, .inl (cqk0_5, 3008, .inl (fun _ => 0))), (qk0_7, .inl (cqk0_7, 3002, .inl (fun _ => 0))), (qk0_9, .inl (cqk0_9, 3002, .inl (fun _ => 0))), (qk0_11, .inl (cqk0_11, 3002, .inl (fun _ => 0)))] H := hP
  replace hD : va_D A [(h0, .inr (13, fsk4_8)), (qk0_1, .inl (cqk0_1, 6000, .inl (fun _ => 0))), (qk0_5, .inl (cqk0_5, 3008, .inl (fun _ => 0))), (qk0_7, .inl (cqk0_7, 3002, .inl (fun _ => 0))), (qk0_9, .inl (cqk0_9, 3002, .inl (fun _ => 0))), (qk0_11, .inl (cqk0_11, 3002, .inl (fun _ => 0)))] := hD
  refine lv_aload_n hx hb dX13_init_364 rfl (lv_at hl 0 rfl) ?_
  refine lv_sipush (v := 2000) hx hb dX13_init_365 (by decide) ?_
  refine va_newa (atype := .int) (ty := .int) (N' := 2000) (a0 := (2000, .inl (fun _ => 0))) hx hb (hts (.arrayClass .int) (by decide +kernel)) rfl hK hP hD hS hA (fun _ => rfl) (by decide) (by decide) (by decide) (Nat.le_of_ble_eq_true rfl) (Nat.le_of_ble_eq_true rfl) dX13_init_368 ?_
  clear hK hP hD hS
  intro qk4_9 cqk4_9 H hK hP hD hS
  refine W.widen (k := 41) (n := 158714) (Nat.le_of_ble_eq_true rfl) (Nat.le_of_ble_eq_true rfl) ?_
  replace hP := hP.sub (ws' := [(h0, .inr (13, fsk4_8)), (qk0_1, .inl (cqk0_1, 6000, .inl (fun _ => 0))), (qk0_5, .inl (cqk0_5, 3008, .inl (fun _ => 0))), (qk0_7, .inl (cqk0_7, 3002, .inl (fun _ => 0))), (qk0_9, .inl (cqk0_9, 3002, .inl (fun _ => 0))), (qk0_11, .inl (cqk0_11, 3002, .inl (fun _ => 0)))]) [0, 1, 2, 3, 4, 5] rfl
  replace hD := hD.sub (ws' := [(h0, .inr (13, fsk4_8)), (qk0_1, .inl (cqk0_1, 6000, .inl (fun _ => 0))), (qk0_5, .inl (cqk0_5, 3008, .inl (fun _ => 0))), (qk0_7, .inl (cqk0_7, 3002, .inl (fun _ => 0))), (qk0_9, .inl (cqk0_9, 3002, .inl (fun _ => 0))), (qk0_11, .inl (cqk0_11, 3002, .inl (fun _ => 0)))]) [0, 1, 2, 3, 4, 5] (by decide) rfl
  replace hK := hK.sub (tys' := [(cqk0_1, .int), (cqk0_5, .int), (cqk0_7, .int), (cqk0_9, .int), (cqk0_11, .int)]) [0, 1, 2, 3, 4] rfl
  refine va_putF (D := (dC, dI)) (ci := 13) (v := .ref qk4_9) (ty := .array .int) (C := RX13) (T := TX13) (N := 155) hx hb hts uX13_init_X13 tyX13 tyX13_ok nmX13 hown hK hP hD hS 0 rfl rfl 59 (by decide) (hts (.fieldLink RX13 131 "ClassMillModel" "constantOne" "[I") (by decide +kernel)) (fun _ h9 => h9) rfl hin rfl (by decide +kernel) rfl rfl (by rw [hlfsk4_8]; decide) dX13_init_370 ?_
  clear hP hD hS
  intro H locs hP hD hS
  obtain ⟨fsk4_10, efsk4_10⟩ : ∃ zf : List Value, zf = fsk4_8.set 59 (.ref qk4_9) := ⟨_, rfl⟩
  rw [← efsk4_10] at hP hD
  have hlfsk4_10 : fsk4_10.length = 155 := by rw [efsk4_10, List.length_set]; exact hlfsk4_8
  clear hlfsk4_8
  replace hP : va_P (dC, dI) vwCl [(h0, .inr (13, fsk4_10)), (qk0_1, .inl (cqk0_1, 6000, .inl (fun _ => 0))), (qk0_5, .inl (cqk0_5, 3008, .inl (fun _ => 0))), (qk0_7, .inl (cqk0_7, 3002, .inl (fun _ => 0))), (qk0_9, .inl (cqk0_9, 3002, .inl (fun _ => 0))), (qk0_11, .inl (cqk0_11, 3002, .inl (fun _ => 0)))] H := hP
  replace hD : va_D A [(h0, .inr (13, fsk4_10)), (qk0_1, .inl (cqk0_1, 6000, .inl (fun _ => 0))), (qk0_5, .inl (cqk0_5, 3008, .inl (fun _ => 0))), (qk0_7, .inl (cqk0_7, 3002, .inl (fun _ => 0))), (qk0_9, .inl (cqk0_9, 3002, .inl (fun _ => 0))), (qk0_11, .inl (cqk0_11, 3002, .inl (fun _ => 0)))] := hD
  refine lv_aload_n hx hb dX13_init_373 rfl (lv_at hl 0 rfl) ?_
  refine lv_sipush (v := 2000) hx hb dX13_init_374 (by decide) ?_
  refine va_newa (atype := .int) (ty := .int) (N' := 2000) (a0 := (2000, .inl (fun _ => 0))) hx hb (hts (.arrayClass .int) (by decide +kernel)) rfl hK hP hD hS hA (fun _ => rfl) (by decide) (by decide) (by decide) (Nat.le_of_ble_eq_true rfl) (Nat.le_of_ble_eq_true rfl) dX13_init_377 ?_
  clear hK hP hD hS
  intro qk4_11 cqk4_11 H hK hP hD hS
  refine W.widen (k := 42) (n := 160714) (Nat.le_of_ble_eq_true rfl) (Nat.le_of_ble_eq_true rfl) ?_
  replace hP := hP.sub (ws' := [(h0, .inr (13, fsk4_10)), (qk0_1, .inl (cqk0_1, 6000, .inl (fun _ => 0))), (qk0_5, .inl (cqk0_5, 3008, .inl (fun _ => 0))), (qk0_7, .inl (cqk0_7, 3002, .inl (fun _ => 0))), (qk0_9, .inl (cqk0_9, 3002, .inl (fun _ => 0))), (qk0_11, .inl (cqk0_11, 3002, .inl (fun _ => 0)))]) [0, 1, 2, 3, 4, 5] rfl
  replace hD := hD.sub (ws' := [(h0, .inr (13, fsk4_10)), (qk0_1, .inl (cqk0_1, 6000, .inl (fun _ => 0))), (qk0_5, .inl (cqk0_5, 3008, .inl (fun _ => 0))), (qk0_7, .inl (cqk0_7, 3002, .inl (fun _ => 0))), (qk0_9, .inl (cqk0_9, 3002, .inl (fun _ => 0))), (qk0_11, .inl (cqk0_11, 3002, .inl (fun _ => 0)))]) [0, 1, 2, 3, 4, 5] (by decide) rfl
  replace hK := hK.sub (tys' := [(cqk0_1, .int), (cqk0_5, .int), (cqk0_7, .int), (cqk0_9, .int), (cqk0_11, .int)]) [0, 1, 2, 3, 4] rfl
  refine va_putF (D := (dC, dI)) (ci := 13) (v := .ref qk4_11) (ty := .array .int) (C := RX13) (T := TX13) (N := 155) hx hb hts uX13_init_X13 tyX13 tyX13_ok nmX13 hown hK hP hD hS 0 rfl rfl 60 (by decide) (hts (.fieldLink RX13 134 "ClassMillModel" "constantTwo" "[I") (by decide +kernel)) (fun _ h9 => h9) rfl hin rfl (by decide +kernel) rfl rfl (by rw [hlfsk4_10]; decide) dX13_init_379 ?_
  clear hP hD hS
  intro H locs hP hD hS
  obtain ⟨fsk4_12, efsk4_12⟩ : ∃ zf : List Value, zf = fsk4_10.set 60 (.ref qk4_11) := ⟨_, rfl⟩
  rw [← efsk4_12] at hP hD
  have hlfsk4_12 : fsk4_12.length = 155 := by rw [efsk4_12, List.length_set]; exact hlfsk4_10
  clear hlfsk4_10
  replace hP : va_P (dC, dI) vwCl [(h0, .inr (13, fsk4_12)), (qk0_1, .inl (cqk0_1, 6000, .inl (fun _ => 0))), (qk0_5, .inl (cqk0_5, 3008, .inl (fun _ => 0))), (qk0_7, .inl (cqk0_7, 3002, .inl (fun _ => 0))), (qk0_9, .inl (cqk0_9, 3002, .inl (fun _ => 0))), (qk0_11, .inl (cqk0_11, 3002, .inl (fun _ => 0)))] H := hP
  replace hD : va_D A [(h0, .inr (13, fsk4_12)), (qk0_1, .inl (cqk0_1, 6000, .inl (fun _ => 0))), (qk0_5, .inl (cqk0_5, 3008, .inl (fun _ => 0))), (qk0_7, .inl (cqk0_7, 3002, .inl (fun _ => 0))), (qk0_9, .inl (cqk0_9, 3002, .inl (fun _ => 0))), (qk0_11, .inl (cqk0_11, 3002, .inl (fun _ => 0)))] := hD
  refine lv_aload_n hx hb dX13_init_382 rfl (lv_at hl 0 rfl) ?_
  refine lv_sipush (v := 2000) hx hb dX13_init_383 (by decide) ?_
  refine va_newa (atype := .int) (ty := .int) (N' := 2000) (a0 := (2000, .inl (fun _ => 0))) hx hb (hts (.arrayClass .int) (by decide +kernel)) rfl hK hP hD hS hA (fun _ => rfl) (by decide) (by decide) (by decide) (Nat.le_of_ble_eq_true rfl) (Nat.le_of_ble_eq_true rfl) dX13_init_386 ?_
  clear hK hP hD hS
  intro qk4_13 cqk4_13 H hK hP hD hS
  refine W.widen (k := 43) (n := 162714) (Nat.le_of_ble_eq_true rfl) (Nat.le_of_ble_eq_true rfl) ?_
  replace hP := hP.sub (ws' := [(h0, .inr (13, fsk4_12)), (qk0_1, .inl (cqk0_1, 6000, .inl (fun _ => 0))), (qk0_5, .inl (cqk0_5, 3008, .inl (fun _ => 0))), (qk0_7, .inl (cqk0_7, 3002, .inl (fun _ => 0))), (qk0_9, .inl (cqk0_9, 3002, .inl (fun _ => 0))), (qk0_11, .inl (cqk0_11, 3002, .inl (fun _ => 0)))]) [0, 1, 2, 3, 4, 5] rfl
  replace hD := hD.sub (ws' := [(h0, .inr (13, fsk4_12)), (qk0_1, .inl (cqk0_1, 6000, .inl (fun _ => 0))), (qk0_5, .inl (cqk0_5, 3008, .inl (fun _ => 0))), (qk0_7, .inl (cqk0_7, 3002, .inl (fun _ => 0))), (qk0_9, .inl (cqk0_9, 3002, .inl (fun _ => 0))), (qk0_11, .inl (cqk0_11, 3002, .inl (fun _ => 0)))]) [0, 1, 2, 3, 4, 5] (by decide) rfl
  replace hK := hK.sub (tys' := [(cqk0_1, .int), (cqk0_5, .int), (cqk0_7, .int), (cqk0_9, .int), (cqk0_11, .int)]) [0, 1, 2, 3, 4] rfl
  refine va_putF (D := (dC, dI)) (ci := 13) (v := .ref qk4_13) (ty := .array .int) (C := RX13) (T := TX13) (N := 155) hx hb hts uX13_init_X13 tyX13 tyX13_ok nmX13 hown hK hP hD hS 0 rfl rfl 61 (by decide) (hts (.fieldLink RX13 137 "ClassMillModel" "constantThree" "[I") (by decide +kernel)) (fun _ h9 => h9) rfl hin rfl (by decide +kernel) rfl rfl (by rw [hlfsk4_12]; decide) dX13_init_388 ?_
  clear hP hD hS
  intro H locs hP hD hS
  obtain ⟨fsk4_14, efsk4_14⟩ : ∃ zf : List Value, zf = fsk4_12.set 61 (.ref qk4_13) := ⟨_, rfl⟩
  rw [← efsk4_14] at hP hD
  have hlfsk4_14 : fsk4_14.length = 155 := by rw [efsk4_14, List.length_set]; exact hlfsk4_12
  clear hlfsk4_12
  replace hP : va_P (dC, dI) vwCl [(h0, .inr (13, fsk4_14)), (qk0_1, .inl (cqk0_1, 6000, .inl (fun _ => 0))), (qk0_5, .inl (cqk0_5, 3008, .inl (fun _ => 0))), (qk0_7, .inl (cqk0_7, 3002, .inl (fun _ => 0))), (qk0_9, .inl (cqk0_9, 3002, .inl (fun _ => 0))), (qk0_11, .inl (cqk0_11, 3002, .inl (fun _ => 0)))] H := hP
  replace hD : va_D A [(h0, .inr (13, fsk4_14)), (qk0_1, .inl (cqk0_1, 6000, .inl (fun _ => 0))), (qk0_5, .inl (cqk0_5, 3008, .inl (fun _ => 0))), (qk0_7, .inl (cqk0_7, 3002, .inl (fun _ => 0))), (qk0_9, .inl (cqk0_9, 3002, .inl (fun _ => 0))), (qk0_11, .inl (cqk0_11, 3002, .inl (fun _ => 0)))] := hD
  refine lv_aload_n hx hb dX13_init_391 rfl (lv_at hl 0 rfl) ?_
  refine lv_ldc (v := 40000) hx hb hown (hts (.constant RX13 140 40000) (by decide +kernel)) dX13_init_392 ?_
  refine va_newa (atype := .int) (ty := .int) (N' := 40000) (a0 := (40000, .inl (fun _ => 0))) hx hb (hts (.arrayClass .int) (by decide +kernel)) rfl hK hP hD hS hA (fun _ => rfl) (by decide) (by decide) (by decide) (Nat.le_of_ble_eq_true rfl) (Nat.le_of_ble_eq_true rfl) dX13_init_394 ?_
  clear hK hP hD hS
  intro qk4_15 cqk4_15 H hK hP hD hS
  refine W.widen (k := 44) (n := 202714) (Nat.le_of_ble_eq_true rfl) (Nat.le_of_ble_eq_true rfl) ?_
  replace hP := hP.sub (ws' := [(h0, .inr (13, fsk4_14)), (qk0_1, .inl (cqk0_1, 6000, .inl (fun _ => 0))), (qk0_5, .inl (cqk0_5, 3008, .inl (fun _ => 0))), (qk0_7, .inl (cqk0_7, 3002, .inl (fun _ => 0))), (qk0_9, .inl (cqk0_9, 3002, .inl (fun _ => 0))), (qk0_11, .inl (cqk0_11, 3002, .inl (fun _ => 0)))]) [0, 1, 2, 3, 4, 5] rfl
  replace hD := hD.sub (ws' := [(h0, .inr (13, fsk4_14)), (qk0_1, .inl (cqk0_1, 6000, .inl (fun _ => 0))), (qk0_5, .inl (cqk0_5, 3008, .inl (fun _ => 0))), (qk0_7, .inl (cqk0_7, 3002, .inl (fun _ => 0))), (qk0_9, .inl (cqk0_9, 3002, .inl (fun _ => 0))), (qk0_11, .inl (cqk0_11, 3002, .inl (fun _ => 0)))]) [0, 1, 2, 3, 4, 5] (by decide) rfl
  replace hK := hK.sub (tys' := [(cqk0_1, .int), (cqk0_5, .int), (cqk0_7, .int), (cqk0_9, .int), (cqk0_11, .int)]) [0, 1, 2, 3, 4] rfl
  refine va_putF (D := (dC, dI)) (ci := 13) (v := .ref qk4_15) (ty := .array .int) (C := RX13) (T := TX13) (N := 155) hx hb hts uX13_init_X13 tyX13 tyX13_ok nmX13 hown hK hP hD hS 0 rfl rfl 63 (by decide) (hts (.fieldLink RX13 141 "ClassMillModel" "letters" "[I") (by decide +kernel)) (fun _ h9 => h9) rfl hin rfl (by decide +kernel) rfl rfl (by rw [hlfsk4_14]; decide) dX13_init_396 ?_
  clear hP hD hS
  intro H locs hP hD hS
  obtain ⟨fsk4_16, efsk4_16⟩ : ∃ zf : List Value, zf = fsk4_14.set 63 (.ref qk4_15) := ⟨_, rfl⟩
  rw [← efsk4_16] at hP hD
  have hlfsk4_16 : fsk4_16.length = 155 := by rw [efsk4_16, List.length_set]; exact hlfsk4_14
  clear hlfsk4_14
  replace hP : va_P (dC, dI) vwCl [(h0, .inr (13, fsk4_16)), (qk0_1, .inl (cqk0_1, 6000, .inl (fun _ => 0))), (qk0_5, .inl (cqk0_5, 3008, .inl (fun _ => 0))), (qk0_7, .inl (cqk0_7, 3002, .inl (fun _ => 0))), (qk0_9, .inl (cqk0_9, 3002, .inl (fun _ => 0))), (qk0_11, .inl (cqk0_11, 3002, .inl (fun _ => 0)))] H := hP
  replace hD : va_D A [(h0, .inr (13, fsk4_16)), (qk0_1, .inl (cqk0_1, 6000, .inl (fun _ => 0))), (qk0_5, .inl (cqk0_5, 3008, .inl (fun _ => 0))), (qk0_7, .inl (cqk0_7, 3002, .inl (fun _ => 0))), (qk0_9, .inl (cqk0_9, 3002, .inl (fun _ => 0))), (qk0_11, .inl (cqk0_11, 3002, .inl (fun _ => 0)))] := hD
  refine lv_aload_n hx hb dX13_init_399 rfl (lv_at hl 0 rfl) ?_
  refine lv_sipush (v := 200) hx hb dX13_init_400 (by decide) ?_
  refine va_newa (atype := .int) (ty := .int) (N' := 200) (a0 := (200, .inl (fun _ => 0))) hx hb (hts (.arrayClass .int) (by decide +kernel)) rfl hK hP hD hS hA (fun _ => rfl) (by decide) (by decide) (by decide) (Nat.le_of_ble_eq_true rfl) (Nat.le_of_ble_eq_true rfl) dX13_init_403 ?_
  clear hK hP hD hS
  intro qk4_17 cqk4_17 H hK hP hD hS
  refine W.widen (k := 45) (n := 202914) (Nat.le_of_ble_eq_true rfl) (Nat.le_of_ble_eq_true rfl) ?_
  replace hP := hP.sub (ws' := [(h0, .inr (13, fsk4_16)), (qk0_1, .inl (cqk0_1, 6000, .inl (fun _ => 0))), (qk0_5, .inl (cqk0_5, 3008, .inl (fun _ => 0))), (qk0_7, .inl (cqk0_7, 3002, .inl (fun _ => 0))), (qk0_9, .inl (cqk0_9, 3002, .inl (fun _ => 0))), (qk0_11, .inl (cqk0_11, 3002, .inl (fun _ => 0)))]) [0, 1, 2, 3, 4, 5] rfl
  replace hD := hD.sub (ws' := [(h0, .inr (13, fsk4_16)), (qk0_1, .inl (cqk0_1, 6000, .inl (fun _ => 0))), (qk0_5, .inl (cqk0_5, 3008, .inl (fun _ => 0))), (qk0_7, .inl (cqk0_7, 3002, .inl (fun _ => 0))), (qk0_9, .inl (cqk0_9, 3002, .inl (fun _ => 0))), (qk0_11, .inl (cqk0_11, 3002, .inl (fun _ => 0)))]) [0, 1, 2, 3, 4, 5] (by decide) rfl
  replace hK := hK.sub (tys' := [(cqk0_1, .int), (cqk0_5, .int), (cqk0_7, .int), (cqk0_9, .int), (cqk0_11, .int)]) [0, 1, 2, 3, 4] rfl
  refine va_putF (D := (dC, dI)) (ci := 13) (v := .ref qk4_17) (ty := .array .int) (C := RX13) (T := TX13) (N := 155) hx hb hts uX13_init_X13 tyX13 tyX13_ok nmX13 hown hK hP hD hS 0 rfl rfl 65 (by decide) (hts (.fieldLink RX13 144 "ClassMillModel" "spelled" "[I") (by decide +kernel)) (fun _ h9 => h9) rfl hin rfl (by decide +kernel) rfl rfl (by rw [hlfsk4_16]; decide) dX13_init_405 ?_
  clear hP hD hS
  intro H locs hP hD hS
  obtain ⟨fsk4_18, efsk4_18⟩ : ∃ zf : List Value, zf = fsk4_16.set 65 (.ref qk4_17) := ⟨_, rfl⟩
  rw [← efsk4_18] at hP hD
  have hlfsk4_18 : fsk4_18.length = 155 := by rw [efsk4_18, List.length_set]; exact hlfsk4_16
  clear hlfsk4_16
  replace hP : va_P (dC, dI) vwCl [(h0, .inr (13, fsk4_18)), (qk0_1, .inl (cqk0_1, 6000, .inl (fun _ => 0))), (qk0_5, .inl (cqk0_5, 3008, .inl (fun _ => 0))), (qk0_7, .inl (cqk0_7, 3002, .inl (fun _ => 0))), (qk0_9, .inl (cqk0_9, 3002, .inl (fun _ => 0))), (qk0_11, .inl (cqk0_11, 3002, .inl (fun _ => 0)))] H := hP
  replace hD : va_D A [(h0, .inr (13, fsk4_18)), (qk0_1, .inl (cqk0_1, 6000, .inl (fun _ => 0))), (qk0_5, .inl (cqk0_5, 3008, .inl (fun _ => 0))), (qk0_7, .inl (cqk0_7, 3002, .inl (fun _ => 0))), (qk0_9, .inl (cqk0_9, 3002, .inl (fun _ => 0))), (qk0_11, .inl (cqk0_11, 3002, .inl (fun _ => 0)))] := hD
  exact kk qk4_1 qk4_3 qk4_5 qk4_7 qk4_9 qk4_11 qk4_13 qk4_15 qk4_17  fsk4_18 H locs hlfsk4_18 (by rw [efsk4_18, efsk4_16, efsk4_14, efsk4_12, efsk4_10, efsk4_8, efsk4_6, efsk4_4, efsk4_2]) hK hP hD hS
set_option maxHeartbeats 4000000 in
set_option maxRecDepth 100000 in
theorem ck_model5 {p : Program} {l : Launch} {e : Env} {s : State} {m : MethodId} {args : Array Value} {below : List Frame} {meth : Method} {c : Code} {Q : State → Prop} {A : Nat → Prop} {H0 : Heap} {dC : Nat → ClassId} {dI : Nat → Nat → Nat} (hx : p.tables.exec = Jvm.exec) (hb : c.code = cX13_init) (hown : s.vm.findClass RX13 = some m.cls) (hin : meth.name = "<init>") (hts : ∀ w ∈ wsX13_init, w.before args s = true) (hA : ∀ q : Nat, H0.size ≤ q → A q) {h0 qk0_1 qk0_5 qk0_7 qk0_9 qk0_11 : Nat} {cqk0_1 cqk0_5 cqk0_7 cqk0_9 cqk0_11 : ClassId} {fs : List Value} {H : Heap} {locs : List Loc} {ls : Array Slot} (hlen : fs.length = 155) (hK : va_K (dC, dI) vwCl [(cqk0_1, .int), (cqk0_5, .int), (cqk0_7, .int), (cqk0_9, .int), (cqk0_11, .int)] s) (hP : va_P (dC, dI) vwCl [(h0, .inr (13, fs)), (qk0_1, .inl (cqk0_1, 6000, .inl (fun _ => 0))), (qk0_5, .inl (cqk0_5, 3008, .inl (fun _ => 0))), (qk0_7, .inl (cqk0_7, 3002, .inl (fun _ => 0))), (qk0_9, .inl (cqk0_9, 3002, .inl (fun _ => 0))), (qk0_11, .inl (cqk0_11, 3002, .inl (fun _ => 0)))] H) (hD : va_D A [(h0, .inr (13, fs)), (qk0_1, .inl (cqk0_1, 6000, .inl (fun _ => 0))), (qk0_5, .inl (cqk0_5, 3008, .inl (fun _ => 0))), (qk0_7, .inl (cqk0_7, 3002, .inl (fun _ => 0))), (qk0_9, .inl (cqk0_9, 3002, .inl (fun _ => 0))), (qk0_11, .inl (cqk0_11, 3002, .inl (fun _ => 0)))]) (hS : va_S A H0 H locs) (hl : lv_has ls 1 [(0, .ref h0)]) (kk : ∀ (qk5_1 qk5_3 qk5_5 qk5_7 qk5_9 qk5_11 qk5_13 qk5_15 qk5_17 : Nat) (fs2 : List Value) (H : Heap) (locs : List Loc), fs2.length = 155 → fs2 = (((((((((fs.set 67 (.ref qk5_1)).set 69 (.ref qk5_3)).set 73 (.ref qk5_5)).set 74 (.ref qk5_7)).set 75 (.ref qk5_9)).set 76 (.ref qk5_11)).set 77 (.ref qk5_13)).set 80 (.ref qk5_15)).set 81 (.ref qk5_17)) → va_K (dC, dI) vwCl [(cqk0_1, .int), (cqk0_5, .int), (cqk0_7, .int), (cqk0_9, .int), (cqk0_11, .int)] s → va_P (dC, dI) vwCl [(h0, .inr (13, fs2)), (qk0_1, .inl (cqk0_1, 6000, .inl (fun _ => 0))), (qk0_5, .inl (cqk0_5, 3008, .inl (fun _ => 0))), (qk0_7, .inl (cqk0_7, 3002, .inl (fun _ => 0))), (qk0_9, .inl (cqk0_9, 3002, .inl (fun _ => 0))), (qk0_11, .inl (cqk0_11, 3002, .inl (fun _ => 0)))] H → va_D A [(h0, .inr (13, fs2)), (qk0_1, .inl (cqk0_1, 6000, .inl (fun _ => 0))), (qk0_5, .inl (cqk0_5, 3008, .inl (fun _ => 0))), (qk0_7, .inl (cqk0_7, 3002, .inl (fun _ => 0))), (qk0_9, .inl (cqk0_9, 3002, .inl (fun _ => 0))), (qk0_11, .inl (cqk0_11, 3002, .inl (fun _ => 0)))] → va_S A H0 H locs → W p l e ({ frames := 2, cells := 95, slots := 548130, locals := 60 } : Room) s m args below meth c H locs 54 304714 Q (F0 m 488 ls [])) : W p l e ({ frames := 2, cells := 95, slots := 548130, locals := 60 } : Room) s m args below meth c H locs 45 202914 Q (F0 m 408 ls []) := by
  refine lv_aload_n hx hb dX13_init_408 rfl (lv_at hl 0 rfl) ?_
  refine lv_sipush (v := 12000) hx hb dX13_init_409 (by decide) ?_
  refine va_newa (atype := .int) (ty := .int) (N' := 12000) (a0 := (12000, .inl (fun _ => 0))) hx hb (hts (.arrayClass .int) (by decide +kernel)) rfl hK hP hD hS hA (fun _ => rfl) (by decide) (by decide) (by decide) (Nat.le_of_ble_eq_true rfl) (Nat.le_of_ble_eq_true rfl) dX13_init_412 ?_
  clear hK hP hD hS
  intro qk5_1 cqk5_1 H hK hP hD hS
  refine W.widen (k := 46) (n := 214914) (Nat.le_of_ble_eq_true rfl) (Nat.le_of_ble_eq_true rfl) ?_
  replace hP := hP.sub (ws' := [(h0, .inr (13, fs)), (qk0_1, .inl (cqk0_1, 6000, .inl (fun _ => 0))), (qk0_5, .inl (cqk0_5, 3008, .inl (fun _ => 0))), (qk0_7, .inl (cqk0_7, 3002, .inl (fun _ => 0))), (qk0_9, .inl (cqk0_9, 3002, .inl (fun _ => 0))), (qk0_11, .inl (cqk0_11, 3002, .inl (fun _ => 0)))]) [0, 1, 2, 3, 4, 5] rfl
  replace hD := hD.sub (ws' := [(h0, .inr (13, fs)), (qk0_1, .inl (cqk0_1, 6000, .inl (fun _ => 0))), (qk0_5, .inl (cqk0_5, 3008, .inl (fun _ => 0))), (qk0_7, .inl (cqk0_7, 3002, .inl (fun _ => 0))), (qk0_9, .inl (cqk0_9, 3002, .inl (fun _ => 0))), (qk0_11, .inl (cqk0_11, 3002, .inl (fun _ => 0)))]) [0, 1, 2, 3, 4, 5] (by decide) rfl
  replace hK := hK.sub (tys' := [(cqk0_1, .int), (cqk0_5, .int), (cqk0_7, .int), (cqk0_9, .int), (cqk0_11, .int)]) [0, 1, 2, 3, 4] rfl
  refine va_putF (D := (dC, dI)) (ci := 13) (v := .ref qk5_1) (ty := .array .int) (C := RX13) (T := TX13) (N := 155) hx hb hts uX13_init_X13 tyX13 tyX13_ok nmX13 hown hK hP hD hS 0 rfl rfl 67 (by decide) (hts (.fieldLink RX13 147 "ClassMillModel" "code" "[I") (by decide +kernel)) (fun _ h9 => h9) rfl hin rfl (by decide +kernel) rfl rfl (by rw [hlen]; decide) dX13_init_414 ?_
  clear hP hD hS
  intro H locs hP hD hS
  obtain ⟨fsk5_2, efsk5_2⟩ : ∃ zf : List Value, zf = fs.set 67 (.ref qk5_1) := ⟨_, rfl⟩
  rw [← efsk5_2] at hP hD
  have hlfsk5_2 : fsk5_2.length = 155 := by rw [efsk5_2, List.length_set]; exact hlen
  clear hlen
  replace hP : va_P (dC, dI) vwCl [(h0, .inr (13, fsk5_2)), (qk0_1, .inl (cqk0_1, 6000, .inl (fun _ => 0))), (qk0_5, .inl (cqk0_5, 3008, .inl (fun _ => 0))), (qk0_7, .inl (cqk0_7, 3002, .inl (fun _ => 0))), (qk0_9, .inl (cqk0_9, 3002, .inl (fun _ => 0))), (qk0_11, .inl (cqk0_11, 3002, .inl (fun _ => 0)))] H := hP
  replace hD : va_D A [(h0, .inr (13, fsk5_2)), (qk0_1, .inl (cqk0_1, 6000, .inl (fun _ => 0))), (qk0_5, .inl (cqk0_5, 3008, .inl (fun _ => 0))), (qk0_7, .inl (cqk0_7, 3002, .inl (fun _ => 0))), (qk0_9, .inl (cqk0_9, 3002, .inl (fun _ => 0))), (qk0_11, .inl (cqk0_11, 3002, .inl (fun _ => 0)))] := hD
  refine lv_aload_n hx hb dX13_init_417 rfl (lv_at hl 0 rfl) ?_
  refine lv_sipush (v := 3000) hx hb dX13_init_418 (by decide) ?_
  refine va_newa (atype := .int) (ty := .int) (N' := 3000) (a0 := (3000, .inl (fun _ => 0))) hx hb (hts (.arrayClass .int) (by decide +kernel)) rfl hK hP hD hS hA (fun _ => rfl) (by decide) (by decide) (by decide) (Nat.le_of_ble_eq_true rfl) (Nat.le_of_ble_eq_true rfl) dX13_init_421 ?_
  clear hK hP hD hS
  intro qk5_3 cqk5_3 H hK hP hD hS
  refine W.widen (k := 47) (n := 217914) (Nat.le_of_ble_eq_true rfl) (Nat.le_of_ble_eq_true rfl) ?_
  replace hP := hP.sub (ws' := [(h0, .inr (13, fsk5_2)), (qk0_1, .inl (cqk0_1, 6000, .inl (fun _ => 0))), (qk0_5, .inl (cqk0_5, 3008, .inl (fun _ => 0))), (qk0_7, .inl (cqk0_7, 3002, .inl (fun _ => 0))), (qk0_9, .inl (cqk0_9, 3002, .inl (fun _ => 0))), (qk0_11, .inl (cqk0_11, 3002, .inl (fun _ => 0)))]) [0, 1, 2, 3, 4, 5] rfl
  replace hD := hD.sub (ws' := [(h0, .inr (13, fsk5_2)), (qk0_1, .inl (cqk0_1, 6000, .inl (fun _ => 0))), (qk0_5, .inl (cqk0_5, 3008, .inl (fun _ => 0))), (qk0_7, .inl (cqk0_7, 3002, .inl (fun _ => 0))), (qk0_9, .inl (cqk0_9, 3002, .inl (fun _ => 0))), (qk0_11, .inl (cqk0_11, 3002, .inl (fun _ => 0)))]) [0, 1, 2, 3, 4, 5] (by decide) rfl
  replace hK := hK.sub (tys' := [(cqk0_1, .int), (cqk0_5, .int), (cqk0_7, .int), (cqk0_9, .int), (cqk0_11, .int)]) [0, 1, 2, 3, 4] rfl
  refine va_putF (D := (dC, dI)) (ci := 13) (v := .ref qk5_3) (ty := .array .int) (C := RX13) (T := TX13) (N := 155) hx hb hts uX13_init_X13 tyX13 tyX13_ok nmX13 hown hK hP hD hS 0 rfl rfl 69 (by decide) (hts (.fieldLink RX13 150 "ClassMillModel" "pile" "[I") (by decide +kernel)) (fun _ h9 => h9) rfl hin rfl (by decide +kernel) rfl rfl (by rw [hlfsk5_2]; decide) dX13_init_423 ?_
  clear hP hD hS
  intro H locs hP hD hS
  obtain ⟨fsk5_4, efsk5_4⟩ : ∃ zf : List Value, zf = fsk5_2.set 69 (.ref qk5_3) := ⟨_, rfl⟩
  rw [← efsk5_4] at hP hD
  have hlfsk5_4 : fsk5_4.length = 155 := by rw [efsk5_4, List.length_set]; exact hlfsk5_2
  clear hlfsk5_2
  replace hP : va_P (dC, dI) vwCl [(h0, .inr (13, fsk5_4)), (qk0_1, .inl (cqk0_1, 6000, .inl (fun _ => 0))), (qk0_5, .inl (cqk0_5, 3008, .inl (fun _ => 0))), (qk0_7, .inl (cqk0_7, 3002, .inl (fun _ => 0))), (qk0_9, .inl (cqk0_9, 3002, .inl (fun _ => 0))), (qk0_11, .inl (cqk0_11, 3002, .inl (fun _ => 0)))] H := hP
  replace hD : va_D A [(h0, .inr (13, fsk5_4)), (qk0_1, .inl (cqk0_1, 6000, .inl (fun _ => 0))), (qk0_5, .inl (cqk0_5, 3008, .inl (fun _ => 0))), (qk0_7, .inl (cqk0_7, 3002, .inl (fun _ => 0))), (qk0_9, .inl (cqk0_9, 3002, .inl (fun _ => 0))), (qk0_11, .inl (cqk0_11, 3002, .inl (fun _ => 0)))] := hD
  refine lv_aload_n hx hb dX13_init_426 rfl (lv_at hl 0 rfl) ?_
  refine lv_sipush (v := 6200) hx hb dX13_init_427 (by decide) ?_
  refine va_newa (atype := .int) (ty := .int) (N' := 6200) (a0 := (6200, .inl (fun _ => 0))) hx hb (hts (.arrayClass .int) (by decide +kernel)) rfl hK hP hD hS hA (fun _ => rfl) (by decide) (by decide) (by decide) (Nat.le_of_ble_eq_true rfl) (Nat.le_of_ble_eq_true rfl) dX13_init_430 ?_
  clear hK hP hD hS
  intro qk5_5 cqk5_5 H hK hP hD hS
  refine W.widen (k := 48) (n := 224114) (Nat.le_of_ble_eq_true rfl) (Nat.le_of_ble_eq_true rfl) ?_
  replace hP := hP.sub (ws' := [(h0, .inr (13, fsk5_4)), (qk0_1, .inl (cqk0_1, 6000, .inl (fun _ => 0))), (qk0_5, .inl (cqk0_5, 3008, .inl (fun _ => 0))), (qk0_7, .inl (cqk0_7, 3002, .inl (fun _ => 0))), (qk0_9, .inl (cqk0_9, 3002, .inl (fun _ => 0))), (qk0_11, .inl (cqk0_11, 3002, .inl (fun _ => 0)))]) [0, 1, 2, 3, 4, 5] rfl
  replace hD := hD.sub (ws' := [(h0, .inr (13, fsk5_4)), (qk0_1, .inl (cqk0_1, 6000, .inl (fun _ => 0))), (qk0_5, .inl (cqk0_5, 3008, .inl (fun _ => 0))), (qk0_7, .inl (cqk0_7, 3002, .inl (fun _ => 0))), (qk0_9, .inl (cqk0_9, 3002, .inl (fun _ => 0))), (qk0_11, .inl (cqk0_11, 3002, .inl (fun _ => 0)))]) [0, 1, 2, 3, 4, 5] (by decide) rfl
  replace hK := hK.sub (tys' := [(cqk0_1, .int), (cqk0_5, .int), (cqk0_7, .int), (cqk0_9, .int), (cqk0_11, .int)]) [0, 1, 2, 3, 4] rfl
  refine va_putF (D := (dC, dI)) (ci := 13) (v := .ref qk5_5) (ty := .array .int) (C := RX13) (T := TX13) (N := 155) hx hb hts uX13_init_X13 tyX13 tyX13_ok nmX13 hown hK hP hD hS 0 rfl rfl 73 (by decide) (hts (.fieldLink RX13 153 "ClassMillModel" "framePlace" "[I") (by decide +kernel)) (fun _ h9 => h9) rfl hin rfl (by decide +kernel) rfl rfl (by rw [hlfsk5_4]; decide) dX13_init_432 ?_
  clear hP hD hS
  intro H locs hP hD hS
  obtain ⟨fsk5_6, efsk5_6⟩ : ∃ zf : List Value, zf = fsk5_4.set 73 (.ref qk5_5) := ⟨_, rfl⟩
  rw [← efsk5_6] at hP hD
  have hlfsk5_6 : fsk5_6.length = 155 := by rw [efsk5_6, List.length_set]; exact hlfsk5_4
  clear hlfsk5_4
  replace hP : va_P (dC, dI) vwCl [(h0, .inr (13, fsk5_6)), (qk0_1, .inl (cqk0_1, 6000, .inl (fun _ => 0))), (qk0_5, .inl (cqk0_5, 3008, .inl (fun _ => 0))), (qk0_7, .inl (cqk0_7, 3002, .inl (fun _ => 0))), (qk0_9, .inl (cqk0_9, 3002, .inl (fun _ => 0))), (qk0_11, .inl (cqk0_11, 3002, .inl (fun _ => 0)))] H := hP
  replace hD : va_D A [(h0, .inr (13, fsk5_6)), (qk0_1, .inl (cqk0_1, 6000, .inl (fun _ => 0))), (qk0_5, .inl (cqk0_5, 3008, .inl (fun _ => 0))), (qk0_7, .inl (cqk0_7, 3002, .inl (fun _ => 0))), (qk0_9, .inl (cqk0_9, 3002, .inl (fun _ => 0))), (qk0_11, .inl (cqk0_11, 3002, .inl (fun _ => 0)))] := hD
  refine lv_aload_n hx hb dX13_init_435 rfl (lv_at hl 0 rfl) ?_
  refine lv_sipush (v := 6200) hx hb dX13_init_436 (by decide) ?_
  refine va_newa (atype := .int) (ty := .int) (N' := 6200) (a0 := (6200, .inl (fun _ => 0))) hx hb (hts (.arrayClass .int) (by decide +kernel)) rfl hK hP hD hS hA (fun _ => rfl) (by decide) (by decide) (by decide) (Nat.le_of_ble_eq_true rfl) (Nat.le_of_ble_eq_true rfl) dX13_init_439 ?_
  clear hK hP hD hS
  intro qk5_7 cqk5_7 H hK hP hD hS
  refine W.widen (k := 49) (n := 230314) (Nat.le_of_ble_eq_true rfl) (Nat.le_of_ble_eq_true rfl) ?_
  replace hP := hP.sub (ws' := [(h0, .inr (13, fsk5_6)), (qk0_1, .inl (cqk0_1, 6000, .inl (fun _ => 0))), (qk0_5, .inl (cqk0_5, 3008, .inl (fun _ => 0))), (qk0_7, .inl (cqk0_7, 3002, .inl (fun _ => 0))), (qk0_9, .inl (cqk0_9, 3002, .inl (fun _ => 0))), (qk0_11, .inl (cqk0_11, 3002, .inl (fun _ => 0)))]) [0, 1, 2, 3, 4, 5] rfl
  replace hD := hD.sub (ws' := [(h0, .inr (13, fsk5_6)), (qk0_1, .inl (cqk0_1, 6000, .inl (fun _ => 0))), (qk0_5, .inl (cqk0_5, 3008, .inl (fun _ => 0))), (qk0_7, .inl (cqk0_7, 3002, .inl (fun _ => 0))), (qk0_9, .inl (cqk0_9, 3002, .inl (fun _ => 0))), (qk0_11, .inl (cqk0_11, 3002, .inl (fun _ => 0)))]) [0, 1, 2, 3, 4, 5] (by decide) rfl
  replace hK := hK.sub (tys' := [(cqk0_1, .int), (cqk0_5, .int), (cqk0_7, .int), (cqk0_9, .int), (cqk0_11, .int)]) [0, 1, 2, 3, 4] rfl
  refine va_putF (D := (dC, dI)) (ci := 13) (v := .ref qk5_7) (ty := .array .int) (C := RX13) (T := TX13) (N := 155) hx hb hts uX13_init_X13 tyX13 tyX13_ok nmX13 hown hK hP hD hS 0 rfl rfl 74 (by decide) (hts (.fieldLink RX13 156 "ClassMillModel" "frameAt" "[I") (by decide +kernel)) (fun _ h9 => h9) rfl hin rfl (by decide +kernel) rfl rfl (by rw [hlfsk5_6]; decide) dX13_init_441 ?_
  clear hP hD hS
  intro H locs hP hD hS
  obtain ⟨fsk5_8, efsk5_8⟩ : ∃ zf : List Value, zf = fsk5_6.set 74 (.ref qk5_7) := ⟨_, rfl⟩
  rw [← efsk5_8] at hP hD
  have hlfsk5_8 : fsk5_8.length = 155 := by rw [efsk5_8, List.length_set]; exact hlfsk5_6
  clear hlfsk5_6
  replace hP : va_P (dC, dI) vwCl [(h0, .inr (13, fsk5_8)), (qk0_1, .inl (cqk0_1, 6000, .inl (fun _ => 0))), (qk0_5, .inl (cqk0_5, 3008, .inl (fun _ => 0))), (qk0_7, .inl (cqk0_7, 3002, .inl (fun _ => 0))), (qk0_9, .inl (cqk0_9, 3002, .inl (fun _ => 0))), (qk0_11, .inl (cqk0_11, 3002, .inl (fun _ => 0)))] H := hP
  replace hD : va_D A [(h0, .inr (13, fsk5_8)), (qk0_1, .inl (cqk0_1, 6000, .inl (fun _ => 0))), (qk0_5, .inl (cqk0_5, 3008, .inl (fun _ => 0))), (qk0_7, .inl (cqk0_7, 3002, .inl (fun _ => 0))), (qk0_9, .inl (cqk0_9, 3002, .inl (fun _ => 0))), (qk0_11, .inl (cqk0_11, 3002, .inl (fun _ => 0)))] := hD
  refine lv_aload_n hx hb dX13_init_444 rfl (lv_at hl 0 rfl) ?_
  refine lv_sipush (v := 6200) hx hb dX13_init_445 (by decide) ?_
  refine va_newa (atype := .int) (ty := .int) (N' := 6200) (a0 := (6200, .inl (fun _ => 0))) hx hb (hts (.arrayClass .int) (by decide +kernel)) rfl hK hP hD hS hA (fun _ => rfl) (by decide) (by decide) (by decide) (Nat.le_of_ble_eq_true rfl) (Nat.le_of_ble_eq_true rfl) dX13_init_448 ?_
  clear hK hP hD hS
  intro qk5_9 cqk5_9 H hK hP hD hS
  refine W.widen (k := 50) (n := 236514) (Nat.le_of_ble_eq_true rfl) (Nat.le_of_ble_eq_true rfl) ?_
  replace hP := hP.sub (ws' := [(h0, .inr (13, fsk5_8)), (qk0_1, .inl (cqk0_1, 6000, .inl (fun _ => 0))), (qk0_5, .inl (cqk0_5, 3008, .inl (fun _ => 0))), (qk0_7, .inl (cqk0_7, 3002, .inl (fun _ => 0))), (qk0_9, .inl (cqk0_9, 3002, .inl (fun _ => 0))), (qk0_11, .inl (cqk0_11, 3002, .inl (fun _ => 0)))]) [0, 1, 2, 3, 4, 5] rfl
  replace hD := hD.sub (ws' := [(h0, .inr (13, fsk5_8)), (qk0_1, .inl (cqk0_1, 6000, .inl (fun _ => 0))), (qk0_5, .inl (cqk0_5, 3008, .inl (fun _ => 0))), (qk0_7, .inl (cqk0_7, 3002, .inl (fun _ => 0))), (qk0_9, .inl (cqk0_9, 3002, .inl (fun _ => 0))), (qk0_11, .inl (cqk0_11, 3002, .inl (fun _ => 0)))]) [0, 1, 2, 3, 4, 5] (by decide) rfl
  replace hK := hK.sub (tys' := [(cqk0_1, .int), (cqk0_5, .int), (cqk0_7, .int), (cqk0_9, .int), (cqk0_11, .int)]) [0, 1, 2, 3, 4] rfl
  refine va_putF (D := (dC, dI)) (ci := 13) (v := .ref qk5_9) (ty := .array .int) (C := RX13) (T := TX13) (N := 155) hx hb hts uX13_init_X13 tyX13 tyX13_ok nmX13 hown hK hP hD hS 0 rfl rfl 75 (by decide) (hts (.fieldLink RX13 159 "ClassMillModel" "frameLocals" "[I") (by decide +kernel)) (fun _ h9 => h9) rfl hin rfl (by decide +kernel) rfl rfl (by rw [hlfsk5_8]; decide) dX13_init_450 ?_
  clear hP hD hS
  intro H locs hP hD hS
  obtain ⟨fsk5_10, efsk5_10⟩ : ∃ zf : List Value, zf = fsk5_8.set 75 (.ref qk5_9) := ⟨_, rfl⟩
  rw [← efsk5_10] at hP hD
  have hlfsk5_10 : fsk5_10.length = 155 := by rw [efsk5_10, List.length_set]; exact hlfsk5_8
  clear hlfsk5_8
  replace hP : va_P (dC, dI) vwCl [(h0, .inr (13, fsk5_10)), (qk0_1, .inl (cqk0_1, 6000, .inl (fun _ => 0))), (qk0_5, .inl (cqk0_5, 3008, .inl (fun _ => 0))), (qk0_7, .inl (cqk0_7, 3002, .inl (fun _ => 0))), (qk0_9, .inl (cqk0_9, 3002, .inl (fun _ => 0))), (qk0_11, .inl (cqk0_11, 3002, .inl (fun _ => 0)))] H := hP
  replace hD : va_D A [(h0, .inr (13, fsk5_10)), (qk0_1, .inl (cqk0_1, 6000, .inl (fun _ => 0))), (qk0_5, .inl (cqk0_5, 3008, .inl (fun _ => 0))), (qk0_7, .inl (cqk0_7, 3002, .inl (fun _ => 0))), (qk0_9, .inl (cqk0_9, 3002, .inl (fun _ => 0))), (qk0_11, .inl (cqk0_11, 3002, .inl (fun _ => 0)))] := hD
  refine lv_aload_n hx hb dX13_init_453 rfl (lv_at hl 0 rfl) ?_
  refine lv_sipush (v := 6200) hx hb dX13_init_454 (by decide) ?_
  refine va_newa (atype := .int) (ty := .int) (N' := 6200) (a0 := (6200, .inl (fun _ => 0))) hx hb (hts (.arrayClass .int) (by decide +kernel)) rfl hK hP hD hS hA (fun _ => rfl) (by decide) (by decide) (by decide) (Nat.le_of_ble_eq_true rfl) (Nat.le_of_ble_eq_true rfl) dX13_init_457 ?_
  clear hK hP hD hS
  intro qk5_11 cqk5_11 H hK hP hD hS
  refine W.widen (k := 51) (n := 242714) (Nat.le_of_ble_eq_true rfl) (Nat.le_of_ble_eq_true rfl) ?_
  replace hP := hP.sub (ws' := [(h0, .inr (13, fsk5_10)), (qk0_1, .inl (cqk0_1, 6000, .inl (fun _ => 0))), (qk0_5, .inl (cqk0_5, 3008, .inl (fun _ => 0))), (qk0_7, .inl (cqk0_7, 3002, .inl (fun _ => 0))), (qk0_9, .inl (cqk0_9, 3002, .inl (fun _ => 0))), (qk0_11, .inl (cqk0_11, 3002, .inl (fun _ => 0)))]) [0, 1, 2, 3, 4, 5] rfl
  replace hD := hD.sub (ws' := [(h0, .inr (13, fsk5_10)), (qk0_1, .inl (cqk0_1, 6000, .inl (fun _ => 0))), (qk0_5, .inl (cqk0_5, 3008, .inl (fun _ => 0))), (qk0_7, .inl (cqk0_7, 3002, .inl (fun _ => 0))), (qk0_9, .inl (cqk0_9, 3002, .inl (fun _ => 0))), (qk0_11, .inl (cqk0_11, 3002, .inl (fun _ => 0)))]) [0, 1, 2, 3, 4, 5] (by decide) rfl
  replace hK := hK.sub (tys' := [(cqk0_1, .int), (cqk0_5, .int), (cqk0_7, .int), (cqk0_9, .int), (cqk0_11, .int)]) [0, 1, 2, 3, 4] rfl
  refine va_putF (D := (dC, dI)) (ci := 13) (v := .ref qk5_11) (ty := .array .int) (C := RX13) (T := TX13) (N := 155) hx hb hts uX13_init_X13 tyX13 tyX13_ok nmX13 hown hK hP hD hS 0 rfl rfl 76 (by decide) (hts (.fieldLink RX13 162 "ClassMillModel" "frameStack" "[I") (by decide +kernel)) (fun _ h9 => h9) rfl hin rfl (by decide +kernel) rfl rfl (by rw [hlfsk5_10]; decide) dX13_init_459 ?_
  clear hP hD hS
  intro H locs hP hD hS
  obtain ⟨fsk5_12, efsk5_12⟩ : ∃ zf : List Value, zf = fsk5_10.set 76 (.ref qk5_11) := ⟨_, rfl⟩
  rw [← efsk5_12] at hP hD
  have hlfsk5_12 : fsk5_12.length = 155 := by rw [efsk5_12, List.length_set]; exact hlfsk5_10
  clear hlfsk5_10
  replace hP : va_P (dC, dI) vwCl [(h0, .inr (13, fsk5_12)), (qk0_1, .inl (cqk0_1, 6000, .inl (fun _ => 0))), (qk0_5, .inl (cqk0_5, 3008, .inl (fun _ => 0))), (qk0_7, .inl (cqk0_7, 3002, .inl (fun _ => 0))), (qk0_9, .inl (cqk0_9, 3002, .inl (fun _ => 0))), (qk0_11, .inl (cqk0_11, 3002, .inl (fun _ => 0)))] H := hP
  replace hD : va_D A [(h0, .inr (13, fsk5_12)), (qk0_1, .inl (cqk0_1, 6000, .inl (fun _ => 0))), (qk0_5, .inl (cqk0_5, 3008, .inl (fun _ => 0))), (qk0_7, .inl (cqk0_7, 3002, .inl (fun _ => 0))), (qk0_9, .inl (cqk0_9, 3002, .inl (fun _ => 0))), (qk0_11, .inl (cqk0_11, 3002, .inl (fun _ => 0)))] := hD
  refine lv_aload_n hx hb dX13_init_462 rfl (lv_at hl 0 rfl) ?_
  refine lv_ldc (v := 60000) hx hb hown (hts (.constant RX13 165 60000) (by decide +kernel)) dX13_init_463 ?_
  refine va_newa (atype := .int) (ty := .int) (N' := 60000) (a0 := (60000, .inl (fun _ => 0))) hx hb (hts (.arrayClass .int) (by decide +kernel)) rfl hK hP hD hS hA (fun _ => rfl) (by decide) (by decide) (by decide) (Nat.le_of_ble_eq_true rfl) (Nat.le_of_ble_eq_true rfl) dX13_init_465 ?_
  clear hK hP hD hS
  intro qk5_13 cqk5_13 H hK hP hD hS
  refine W.widen (k := 52) (n := 302714) (Nat.le_of_ble_eq_true rfl) (Nat.le_of_ble_eq_true rfl) ?_
  replace hP := hP.sub (ws' := [(h0, .inr (13, fsk5_12)), (qk0_1, .inl (cqk0_1, 6000, .inl (fun _ => 0))), (qk0_5, .inl (cqk0_5, 3008, .inl (fun _ => 0))), (qk0_7, .inl (cqk0_7, 3002, .inl (fun _ => 0))), (qk0_9, .inl (cqk0_9, 3002, .inl (fun _ => 0))), (qk0_11, .inl (cqk0_11, 3002, .inl (fun _ => 0)))]) [0, 1, 2, 3, 4, 5] rfl
  replace hD := hD.sub (ws' := [(h0, .inr (13, fsk5_12)), (qk0_1, .inl (cqk0_1, 6000, .inl (fun _ => 0))), (qk0_5, .inl (cqk0_5, 3008, .inl (fun _ => 0))), (qk0_7, .inl (cqk0_7, 3002, .inl (fun _ => 0))), (qk0_9, .inl (cqk0_9, 3002, .inl (fun _ => 0))), (qk0_11, .inl (cqk0_11, 3002, .inl (fun _ => 0)))]) [0, 1, 2, 3, 4, 5] (by decide) rfl
  replace hK := hK.sub (tys' := [(cqk0_1, .int), (cqk0_5, .int), (cqk0_7, .int), (cqk0_9, .int), (cqk0_11, .int)]) [0, 1, 2, 3, 4] rfl
  refine va_putF (D := (dC, dI)) (ci := 13) (v := .ref qk5_13) (ty := .array .int) (C := RX13) (T := TX13) (N := 155) hx hb hts uX13_init_X13 tyX13 tyX13_ok nmX13 hown hK hP hD hS 0 rfl rfl 77 (by decide) (hts (.fieldLink RX13 166 "ClassMillModel" "frameTypes" "[I") (by decide +kernel)) (fun _ h9 => h9) rfl hin rfl (by decide +kernel) rfl rfl (by rw [hlfsk5_12]; decide) dX13_init_467 ?_
  clear hP hD hS
  intro H locs hP hD hS
  obtain ⟨fsk5_14, efsk5_14⟩ : ∃ zf : List Value, zf = fsk5_12.set 77 (.ref qk5_13) := ⟨_, rfl⟩
  rw [← efsk5_14] at hP hD
  have hlfsk5_14 : fsk5_14.length = 155 := by rw [efsk5_14, List.length_set]; exact hlfsk5_12
  clear hlfsk5_12
  replace hP : va_P (dC, dI) vwCl [(h0, .inr (13, fsk5_14)), (qk0_1, .inl (cqk0_1, 6000, .inl (fun _ => 0))), (qk0_5, .inl (cqk0_5, 3008, .inl (fun _ => 0))), (qk0_7, .inl (cqk0_7, 3002, .inl (fun _ => 0))), (qk0_9, .inl (cqk0_9, 3002, .inl (fun _ => 0))), (qk0_11, .inl (cqk0_11, 3002, .inl (fun _ => 0)))] H := hP
  replace hD : va_D A [(h0, .inr (13, fsk5_14)), (qk0_1, .inl (cqk0_1, 6000, .inl (fun _ => 0))), (qk0_5, .inl (cqk0_5, 3008, .inl (fun _ => 0))), (qk0_7, .inl (cqk0_7, 3002, .inl (fun _ => 0))), (qk0_9, .inl (cqk0_9, 3002, .inl (fun _ => 0))), (qk0_11, .inl (cqk0_11, 3002, .inl (fun _ => 0)))] := hD
  refine lv_aload_n hx hb dX13_init_470 rfl (lv_at hl 0 rfl) ?_
  refine lv_sipush (v := 1000) hx hb dX13_init_471 (by decide) ?_
  refine va_newa (atype := .int) (ty := .int) (N' := 1000) (a0 := (1000, .inl (fun _ => 0))) hx hb (hts (.arrayClass .int) (by decide +kernel)) rfl hK hP hD hS hA (fun _ => rfl) (by decide) (by decide) (by decide) (Nat.le_of_ble_eq_true rfl) (Nat.le_of_ble_eq_true rfl) dX13_init_474 ?_
  clear hK hP hD hS
  intro qk5_15 cqk5_15 H hK hP hD hS
  refine W.widen (k := 53) (n := 303714) (Nat.le_of_ble_eq_true rfl) (Nat.le_of_ble_eq_true rfl) ?_
  replace hP := hP.sub (ws' := [(h0, .inr (13, fsk5_14)), (qk0_1, .inl (cqk0_1, 6000, .inl (fun _ => 0))), (qk0_5, .inl (cqk0_5, 3008, .inl (fun _ => 0))), (qk0_7, .inl (cqk0_7, 3002, .inl (fun _ => 0))), (qk0_9, .inl (cqk0_9, 3002, .inl (fun _ => 0))), (qk0_11, .inl (cqk0_11, 3002, .inl (fun _ => 0)))]) [0, 1, 2, 3, 4, 5] rfl
  replace hD := hD.sub (ws' := [(h0, .inr (13, fsk5_14)), (qk0_1, .inl (cqk0_1, 6000, .inl (fun _ => 0))), (qk0_5, .inl (cqk0_5, 3008, .inl (fun _ => 0))), (qk0_7, .inl (cqk0_7, 3002, .inl (fun _ => 0))), (qk0_9, .inl (cqk0_9, 3002, .inl (fun _ => 0))), (qk0_11, .inl (cqk0_11, 3002, .inl (fun _ => 0)))]) [0, 1, 2, 3, 4, 5] (by decide) rfl
  replace hK := hK.sub (tys' := [(cqk0_1, .int), (cqk0_5, .int), (cqk0_7, .int), (cqk0_9, .int), (cqk0_11, .int)]) [0, 1, 2, 3, 4] rfl
  refine va_putF (D := (dC, dI)) (ci := 13) (v := .ref qk5_15) (ty := .array .int) (C := RX13) (T := TX13) (N := 155) hx hb hts uX13_init_X13 tyX13 tyX13_ok nmX13 hown hK hP hD hS 0 rfl rfl 80 (by decide) (hts (.fieldLink RX13 169 "ClassMillModel" "handlerFrom" "[I") (by decide +kernel)) (fun _ h9 => h9) rfl hin rfl (by decide +kernel) rfl rfl (by rw [hlfsk5_14]; decide) dX13_init_476 ?_
  clear hP hD hS
  intro H locs hP hD hS
  obtain ⟨fsk5_16, efsk5_16⟩ : ∃ zf : List Value, zf = fsk5_14.set 80 (.ref qk5_15) := ⟨_, rfl⟩
  rw [← efsk5_16] at hP hD
  have hlfsk5_16 : fsk5_16.length = 155 := by rw [efsk5_16, List.length_set]; exact hlfsk5_14
  clear hlfsk5_14
  replace hP : va_P (dC, dI) vwCl [(h0, .inr (13, fsk5_16)), (qk0_1, .inl (cqk0_1, 6000, .inl (fun _ => 0))), (qk0_5, .inl (cqk0_5, 3008, .inl (fun _ => 0))), (qk0_7, .inl (cqk0_7, 3002, .inl (fun _ => 0))), (qk0_9, .inl (cqk0_9, 3002, .inl (fun _ => 0))), (qk0_11, .inl (cqk0_11, 3002, .inl (fun _ => 0)))] H := hP
  replace hD : va_D A [(h0, .inr (13, fsk5_16)), (qk0_1, .inl (cqk0_1, 6000, .inl (fun _ => 0))), (qk0_5, .inl (cqk0_5, 3008, .inl (fun _ => 0))), (qk0_7, .inl (cqk0_7, 3002, .inl (fun _ => 0))), (qk0_9, .inl (cqk0_9, 3002, .inl (fun _ => 0))), (qk0_11, .inl (cqk0_11, 3002, .inl (fun _ => 0)))] := hD
  refine lv_aload_n hx hb dX13_init_479 rfl (lv_at hl 0 rfl) ?_
  refine lv_sipush (v := 1000) hx hb dX13_init_480 (by decide) ?_
  refine va_newa (atype := .int) (ty := .int) (N' := 1000) (a0 := (1000, .inl (fun _ => 0))) hx hb (hts (.arrayClass .int) (by decide +kernel)) rfl hK hP hD hS hA (fun _ => rfl) (by decide) (by decide) (by decide) (Nat.le_of_ble_eq_true rfl) (Nat.le_of_ble_eq_true rfl) dX13_init_483 ?_
  clear hK hP hD hS
  intro qk5_17 cqk5_17 H hK hP hD hS
  refine W.widen (k := 54) (n := 304714) (Nat.le_of_ble_eq_true rfl) (Nat.le_of_ble_eq_true rfl) ?_
  replace hP := hP.sub (ws' := [(h0, .inr (13, fsk5_16)), (qk0_1, .inl (cqk0_1, 6000, .inl (fun _ => 0))), (qk0_5, .inl (cqk0_5, 3008, .inl (fun _ => 0))), (qk0_7, .inl (cqk0_7, 3002, .inl (fun _ => 0))), (qk0_9, .inl (cqk0_9, 3002, .inl (fun _ => 0))), (qk0_11, .inl (cqk0_11, 3002, .inl (fun _ => 0)))]) [0, 1, 2, 3, 4, 5] rfl
  replace hD := hD.sub (ws' := [(h0, .inr (13, fsk5_16)), (qk0_1, .inl (cqk0_1, 6000, .inl (fun _ => 0))), (qk0_5, .inl (cqk0_5, 3008, .inl (fun _ => 0))), (qk0_7, .inl (cqk0_7, 3002, .inl (fun _ => 0))), (qk0_9, .inl (cqk0_9, 3002, .inl (fun _ => 0))), (qk0_11, .inl (cqk0_11, 3002, .inl (fun _ => 0)))]) [0, 1, 2, 3, 4, 5] (by decide) rfl
  replace hK := hK.sub (tys' := [(cqk0_1, .int), (cqk0_5, .int), (cqk0_7, .int), (cqk0_9, .int), (cqk0_11, .int)]) [0, 1, 2, 3, 4] rfl
  refine va_putF (D := (dC, dI)) (ci := 13) (v := .ref qk5_17) (ty := .array .int) (C := RX13) (T := TX13) (N := 155) hx hb hts uX13_init_X13 tyX13 tyX13_ok nmX13 hown hK hP hD hS 0 rfl rfl 81 (by decide) (hts (.fieldLink RX13 172 "ClassMillModel" "handlerTo" "[I") (by decide +kernel)) (fun _ h9 => h9) rfl hin rfl (by decide +kernel) rfl rfl (by rw [hlfsk5_16]; decide) dX13_init_485 ?_
  clear hP hD hS
  intro H locs hP hD hS
  obtain ⟨fsk5_18, efsk5_18⟩ : ∃ zf : List Value, zf = fsk5_16.set 81 (.ref qk5_17) := ⟨_, rfl⟩
  rw [← efsk5_18] at hP hD
  have hlfsk5_18 : fsk5_18.length = 155 := by rw [efsk5_18, List.length_set]; exact hlfsk5_16
  clear hlfsk5_16
  replace hP : va_P (dC, dI) vwCl [(h0, .inr (13, fsk5_18)), (qk0_1, .inl (cqk0_1, 6000, .inl (fun _ => 0))), (qk0_5, .inl (cqk0_5, 3008, .inl (fun _ => 0))), (qk0_7, .inl (cqk0_7, 3002, .inl (fun _ => 0))), (qk0_9, .inl (cqk0_9, 3002, .inl (fun _ => 0))), (qk0_11, .inl (cqk0_11, 3002, .inl (fun _ => 0)))] H := hP
  replace hD : va_D A [(h0, .inr (13, fsk5_18)), (qk0_1, .inl (cqk0_1, 6000, .inl (fun _ => 0))), (qk0_5, .inl (cqk0_5, 3008, .inl (fun _ => 0))), (qk0_7, .inl (cqk0_7, 3002, .inl (fun _ => 0))), (qk0_9, .inl (cqk0_9, 3002, .inl (fun _ => 0))), (qk0_11, .inl (cqk0_11, 3002, .inl (fun _ => 0)))] := hD
  exact kk qk5_1 qk5_3 qk5_5 qk5_7 qk5_9 qk5_11 qk5_13 qk5_15 qk5_17  fsk5_18 H locs hlfsk5_18 (by rw [efsk5_18, efsk5_16, efsk5_14, efsk5_12, efsk5_10, efsk5_8, efsk5_6, efsk5_4, efsk5_2]) hK hP hD hS
set_option maxHeartbeats 4000000 in
set_option maxRecDepth 100000 in
theorem ck_model6 {p : Program} {l : Launch} {e : Env} {s : State} {m : MethodId} {args : Array Value} {below : List Frame} {meth : Method} {c : Code} {Q : State → Prop} {A : Nat → Prop} {H0 : Heap} {dC : Nat → ClassId} {dI : Nat → Nat → Nat} (hx : p.tables.exec = Jvm.exec) (hb : c.code = cX13_init) (hown : s.vm.findClass RX13 = some m.cls) (hin : meth.name = "<init>") (hts : ∀ w ∈ wsX13_init, w.before args s = true) (hA : ∀ q : Nat, H0.size ≤ q → A q) {h0 qk0_1 qk0_5 qk0_7 qk0_9 qk0_11 : Nat} {cqk0_1 cqk0_5 cqk0_7 cqk0_9 cqk0_11 : ClassId} {fs : List Value} {H : Heap} {locs : List Loc} {ls : Array Slot} (hlen : fs.length = 155) (hK : va_K (dC, dI) vwCl [(cqk0_1, .int), (cqk0_5, .int), (cqk0_7, .int), (cqk0_9, .int), (cqk0_11, .int)] s) (hP : va_P (dC, dI) vwCl [(h0, .inr (13, fs)), (qk0_1, .inl (cqk0_1, 6000, .inl (fun _ => 0))), (qk0_5, .inl (cqk0_5, 3008, .inl (fun _ => 0))), (qk0_7, .inl (cqk0_7, 3002, .inl (fun _ => 0))), (qk0_9, .inl (cqk0_9, 3002, .inl (fun _ => 0))), (qk0_11, .inl (cqk0_11, 3002, .inl (fun _ => 0)))] H) (hD : va_D A [(h0, .inr (13, fs)), (qk0_1, .inl (cqk0_1, 6000, .inl (fun _ => 0))), (qk0_5, .inl (cqk0_5, 3008, .inl (fun _ => 0))), (qk0_7, .inl (cqk0_7, 3002, .inl (fun _ => 0))), (qk0_9, .inl (cqk0_9, 3002, .inl (fun _ => 0))), (qk0_11, .inl (cqk0_11, 3002, .inl (fun _ => 0)))]) (hS : va_S A H0 H locs) (hl : lv_has ls 1 [(0, .ref h0)]) (kk : ∀ (qk6_1 qk6_3 qk6_5 qk6_7 qk6_9 qk6_11 qk6_13 qk6_15 qk6_17 : Nat) (fs2 : List Value) (H : Heap) (locs : List Loc), fs2.length = 155 → fs2 = (((((((((fs.set 82 (.ref qk6_1)).set 83 (.ref qk6_3)).set 85 (.ref qk6_5)).set 86 (.ref qk6_7)).set 89 (.ref qk6_9)).set 90 (.ref qk6_11)).set 91 (.ref qk6_13)).set 92 (.ref qk6_15)).set 94 (.ref qk6_17)) → va_K (dC, dI) vwCl [(cqk0_1, .int), (cqk0_5, .int), (cqk0_7, .int), (cqk0_9, .int), (cqk0_11, .int)] s → va_P (dC, dI) vwCl [(h0, .inr (13, fs2)), (qk0_1, .inl (cqk0_1, 6000, .inl (fun _ => 0))), (qk0_5, .inl (cqk0_5, 3008, .inl (fun _ => 0))), (qk0_7, .inl (cqk0_7, 3002, .inl (fun _ => 0))), (qk0_9, .inl (cqk0_9, 3002, .inl (fun _ => 0))), (qk0_11, .inl (cqk0_11, 3002, .inl (fun _ => 0)))] H → va_D A [(h0, .inr (13, fs2)), (qk0_1, .inl (cqk0_1, 6000, .inl (fun _ => 0))), (qk0_5, .inl (cqk0_5, 3008, .inl (fun _ => 0))), (qk0_7, .inl (cqk0_7, 3002, .inl (fun _ => 0))), (qk0_9, .inl (cqk0_9, 3002, .inl (fun _ => 0))), (qk0_11, .inl (cqk0_11, 3002, .inl (fun _ => 0)))] → va_S A H0 H locs → W p l e ({ frames := 2, cells := 95, slots := 548130, locals := 60 } : Room) s m args below meth c H locs 63 414722 Q (F0 m 566 ls [])) : W p l e ({ frames := 2, cells := 95, slots := 548130, locals := 60 } : Room) s m args below meth c H locs 54 304714 Q (F0 m 488 ls []) := by
  refine lv_aload_n hx hb dX13_init_488 rfl (lv_at hl 0 rfl) ?_
  refine lv_sipush (v := 1000) hx hb dX13_init_489 (by decide) ?_
  refine va_newa (atype := .int) (ty := .int) (N' := 1000) (a0 := (1000, .inl (fun _ => 0))) hx hb (hts (.arrayClass .int) (by decide +kernel)) rfl hK hP hD hS hA (fun _ => rfl) (by decide) (by decide) (by decide) (Nat.le_of_ble_eq_true rfl) (Nat.le_of_ble_eq_true rfl) dX13_init_492 ?_
  clear hK hP hD hS
  intro qk6_1 cqk6_1 H hK hP hD hS
  refine W.widen (k := 55) (n := 305714) (Nat.le_of_ble_eq_true rfl) (Nat.le_of_ble_eq_true rfl) ?_
  replace hP := hP.sub (ws' := [(h0, .inr (13, fs)), (qk0_1, .inl (cqk0_1, 6000, .inl (fun _ => 0))), (qk0_5, .inl (cqk0_5, 3008, .inl (fun _ => 0))), (qk0_7, .inl (cqk0_7, 3002, .inl (fun _ => 0))), (qk0_9, .inl (cqk0_9, 3002, .inl (fun _ => 0))), (qk0_11, .inl (cqk0_11, 3002, .inl (fun _ => 0)))]) [0, 1, 2, 3, 4, 5] rfl
  replace hD := hD.sub (ws' := [(h0, .inr (13, fs)), (qk0_1, .inl (cqk0_1, 6000, .inl (fun _ => 0))), (qk0_5, .inl (cqk0_5, 3008, .inl (fun _ => 0))), (qk0_7, .inl (cqk0_7, 3002, .inl (fun _ => 0))), (qk0_9, .inl (cqk0_9, 3002, .inl (fun _ => 0))), (qk0_11, .inl (cqk0_11, 3002, .inl (fun _ => 0)))]) [0, 1, 2, 3, 4, 5] (by decide) rfl
  replace hK := hK.sub (tys' := [(cqk0_1, .int), (cqk0_5, .int), (cqk0_7, .int), (cqk0_9, .int), (cqk0_11, .int)]) [0, 1, 2, 3, 4] rfl
  refine va_putF (D := (dC, dI)) (ci := 13) (v := .ref qk6_1) (ty := .array .int) (C := RX13) (T := TX13) (N := 155) hx hb hts uX13_init_X13 tyX13 tyX13_ok nmX13 hown hK hP hD hS 0 rfl rfl 82 (by decide) (hts (.fieldLink RX13 175 "ClassMillModel" "handlerAt" "[I") (by decide +kernel)) (fun _ h9 => h9) rfl hin rfl (by decide +kernel) rfl rfl (by rw [hlen]; decide) dX13_init_494 ?_
  clear hP hD hS
  intro H locs hP hD hS
  obtain ⟨fsk6_2, efsk6_2⟩ : ∃ zf : List Value, zf = fs.set 82 (.ref qk6_1) := ⟨_, rfl⟩
  rw [← efsk6_2] at hP hD
  have hlfsk6_2 : fsk6_2.length = 155 := by rw [efsk6_2, List.length_set]; exact hlen
  clear hlen
  replace hP : va_P (dC, dI) vwCl [(h0, .inr (13, fsk6_2)), (qk0_1, .inl (cqk0_1, 6000, .inl (fun _ => 0))), (qk0_5, .inl (cqk0_5, 3008, .inl (fun _ => 0))), (qk0_7, .inl (cqk0_7, 3002, .inl (fun _ => 0))), (qk0_9, .inl (cqk0_9, 3002, .inl (fun _ => 0))), (qk0_11, .inl (cqk0_11, 3002, .inl (fun _ => 0)))] H := hP
  replace hD : va_D A [(h0, .inr (13, fsk6_2)), (qk0_1, .inl (cqk0_1, 6000, .inl (fun _ => 0))), (qk0_5, .inl (cqk0_5, 3008, .inl (fun _ => 0))), (qk0_7, .inl (cqk0_7, 3002, .inl (fun _ => 0))), (qk0_9, .inl (cqk0_9, 3002, .inl (fun _ => 0))), (qk0_11, .inl (cqk0_11, 3002, .inl (fun _ => 0)))] := hD
  refine lv_aload_n hx hb dX13_init_497 rfl (lv_at hl 0 rfl) ?_
  refine lv_sipush (v := 1000) hx hb dX13_init_498 (by decide) ?_
  refine va_newa (atype := .int) (ty := .int) (N' := 1000) (a0 := (1000, .inl (fun _ => 0))) hx hb (hts (.arrayClass .int) (by decide +kernel)) rfl hK hP hD hS hA (fun _ => rfl) (by decide) (by decide) (by decide) (Nat.le_of_ble_eq_true rfl) (Nat.le_of_ble_eq_true rfl) dX13_init_501 ?_
  clear hK hP hD hS
  intro qk6_3 cqk6_3 H hK hP hD hS
  refine W.widen (k := 56) (n := 306714) (Nat.le_of_ble_eq_true rfl) (Nat.le_of_ble_eq_true rfl) ?_
  replace hP := hP.sub (ws' := [(h0, .inr (13, fsk6_2)), (qk0_1, .inl (cqk0_1, 6000, .inl (fun _ => 0))), (qk0_5, .inl (cqk0_5, 3008, .inl (fun _ => 0))), (qk0_7, .inl (cqk0_7, 3002, .inl (fun _ => 0))), (qk0_9, .inl (cqk0_9, 3002, .inl (fun _ => 0))), (qk0_11, .inl (cqk0_11, 3002, .inl (fun _ => 0)))]) [0, 1, 2, 3, 4, 5] rfl
  replace hD := hD.sub (ws' := [(h0, .inr (13, fsk6_2)), (qk0_1, .inl (cqk0_1, 6000, .inl (fun _ => 0))), (qk0_5, .inl (cqk0_5, 3008, .inl (fun _ => 0))), (qk0_7, .inl (cqk0_7, 3002, .inl (fun _ => 0))), (qk0_9, .inl (cqk0_9, 3002, .inl (fun _ => 0))), (qk0_11, .inl (cqk0_11, 3002, .inl (fun _ => 0)))]) [0, 1, 2, 3, 4, 5] (by decide) rfl
  replace hK := hK.sub (tys' := [(cqk0_1, .int), (cqk0_5, .int), (cqk0_7, .int), (cqk0_9, .int), (cqk0_11, .int)]) [0, 1, 2, 3, 4] rfl
  refine va_putF (D := (dC, dI)) (ci := 13) (v := .ref qk6_3) (ty := .array .int) (C := RX13) (T := TX13) (N := 155) hx hb hts uX13_init_X13 tyX13 tyX13_ok nmX13 hown hK hP hD hS 0 rfl rfl 83 (by decide) (hts (.fieldLink RX13 178 "ClassMillModel" "handlerClass" "[I") (by decide +kernel)) (fun _ h9 => h9) rfl hin rfl (by decide +kernel) rfl rfl (by rw [hlfsk6_2]; decide) dX13_init_503 ?_
  clear hP hD hS
  intro H locs hP hD hS
  obtain ⟨fsk6_4, efsk6_4⟩ : ∃ zf : List Value, zf = fsk6_2.set 83 (.ref qk6_3) := ⟨_, rfl⟩
  rw [← efsk6_4] at hP hD
  have hlfsk6_4 : fsk6_4.length = 155 := by rw [efsk6_4, List.length_set]; exact hlfsk6_2
  clear hlfsk6_2
  replace hP : va_P (dC, dI) vwCl [(h0, .inr (13, fsk6_4)), (qk0_1, .inl (cqk0_1, 6000, .inl (fun _ => 0))), (qk0_5, .inl (cqk0_5, 3008, .inl (fun _ => 0))), (qk0_7, .inl (cqk0_7, 3002, .inl (fun _ => 0))), (qk0_9, .inl (cqk0_9, 3002, .inl (fun _ => 0))), (qk0_11, .inl (cqk0_11, 3002, .inl (fun _ => 0)))] H := hP
  replace hD : va_D A [(h0, .inr (13, fsk6_4)), (qk0_1, .inl (cqk0_1, 6000, .inl (fun _ => 0))), (qk0_5, .inl (cqk0_5, 3008, .inl (fun _ => 0))), (qk0_7, .inl (cqk0_7, 3002, .inl (fun _ => 0))), (qk0_9, .inl (cqk0_9, 3002, .inl (fun _ => 0))), (qk0_11, .inl (cqk0_11, 3002, .inl (fun _ => 0)))] := hD
  refine lv_aload_n hx hb dX13_init_506 rfl (lv_at hl 0 rfl) ?_
  refine lv_sipush (v := 3000) hx hb dX13_init_507 (by decide) ?_
  refine va_newa (atype := .int) (ty := .int) (N' := 3000) (a0 := (3000, .inl (fun _ => 0))) hx hb (hts (.arrayClass .int) (by decide +kernel)) rfl hK hP hD hS hA (fun _ => rfl) (by decide) (by decide) (by decide) (Nat.le_of_ble_eq_true rfl) (Nat.le_of_ble_eq_true rfl) dX13_init_510 ?_
  clear hK hP hD hS
  intro qk6_5 cqk6_5 H hK hP hD hS
  refine W.widen (k := 57) (n := 309714) (Nat.le_of_ble_eq_true rfl) (Nat.le_of_ble_eq_true rfl) ?_
  replace hP := hP.sub (ws' := [(h0, .inr (13, fsk6_4)), (qk0_1, .inl (cqk0_1, 6000, .inl (fun _ => 0))), (qk0_5, .inl (cqk0_5, 3008, .inl (fun _ => 0))), (qk0_7, .inl (cqk0_7, 3002, .inl (fun _ => 0))), (qk0_9, .inl (cqk0_9, 3002, .inl (fun _ => 0))), (qk0_11, .inl (cqk0_11, 3002, .inl (fun _ => 0)))]) [0, 1, 2, 3, 4, 5] rfl
  replace hD := hD.sub (ws' := [(h0, .inr (13, fsk6_4)), (qk0_1, .inl (cqk0_1, 6000, .inl (fun _ => 0))), (qk0_5, .inl (cqk0_5, 3008, .inl (fun _ => 0))), (qk0_7, .inl (cqk0_7, 3002, .inl (fun _ => 0))), (qk0_9, .inl (cqk0_9, 3002, .inl (fun _ => 0))), (qk0_11, .inl (cqk0_11, 3002, .inl (fun _ => 0)))]) [0, 1, 2, 3, 4, 5] (by decide) rfl
  replace hK := hK.sub (tys' := [(cqk0_1, .int), (cqk0_5, .int), (cqk0_7, .int), (cqk0_9, .int), (cqk0_11, .int)]) [0, 1, 2, 3, 4] rfl
  refine va_putF (D := (dC, dI)) (ci := 13) (v := .ref qk6_5) (ty := .array .int) (C := RX13) (T := TX13) (N := 155) hx hb hts uX13_init_X13 tyX13 tyX13_ok nmX13 hown hK hP hD hS 0 rfl rfl 85 (by decide) (hts (.fieldLink RX13 181 "ClassMillModel" "jumpAt" "[I") (by decide +kernel)) (fun _ h9 => h9) rfl hin rfl (by decide +kernel) rfl rfl (by rw [hlfsk6_4]; decide) dX13_init_512 ?_
  clear hP hD hS
  intro H locs hP hD hS
  obtain ⟨fsk6_6, efsk6_6⟩ : ∃ zf : List Value, zf = fsk6_4.set 85 (.ref qk6_5) := ⟨_, rfl⟩
  rw [← efsk6_6] at hP hD
  have hlfsk6_6 : fsk6_6.length = 155 := by rw [efsk6_6, List.length_set]; exact hlfsk6_4
  clear hlfsk6_4
  replace hP : va_P (dC, dI) vwCl [(h0, .inr (13, fsk6_6)), (qk0_1, .inl (cqk0_1, 6000, .inl (fun _ => 0))), (qk0_5, .inl (cqk0_5, 3008, .inl (fun _ => 0))), (qk0_7, .inl (cqk0_7, 3002, .inl (fun _ => 0))), (qk0_9, .inl (cqk0_9, 3002, .inl (fun _ => 0))), (qk0_11, .inl (cqk0_11, 3002, .inl (fun _ => 0)))] H := hP
  replace hD : va_D A [(h0, .inr (13, fsk6_6)), (qk0_1, .inl (cqk0_1, 6000, .inl (fun _ => 0))), (qk0_5, .inl (cqk0_5, 3008, .inl (fun _ => 0))), (qk0_7, .inl (cqk0_7, 3002, .inl (fun _ => 0))), (qk0_9, .inl (cqk0_9, 3002, .inl (fun _ => 0))), (qk0_11, .inl (cqk0_11, 3002, .inl (fun _ => 0)))] := hD
  refine lv_aload_n hx hb dX13_init_515 rfl (lv_at hl 0 rfl) ?_
  refine lv_sipush (v := 3000) hx hb dX13_init_516 (by decide) ?_
  refine va_newa (atype := .int) (ty := .int) (N' := 3000) (a0 := (3000, .inl (fun _ => 0))) hx hb (hts (.arrayClass .int) (by decide +kernel)) rfl hK hP hD hS hA (fun _ => rfl) (by decide) (by decide) (by decide) (Nat.le_of_ble_eq_true rfl) (Nat.le_of_ble_eq_true rfl) dX13_init_519 ?_
  clear hK hP hD hS
  intro qk6_7 cqk6_7 H hK hP hD hS
  refine W.widen (k := 58) (n := 312714) (Nat.le_of_ble_eq_true rfl) (Nat.le_of_ble_eq_true rfl) ?_
  replace hP := hP.sub (ws' := [(h0, .inr (13, fsk6_6)), (qk0_1, .inl (cqk0_1, 6000, .inl (fun _ => 0))), (qk0_5, .inl (cqk0_5, 3008, .inl (fun _ => 0))), (qk0_7, .inl (cqk0_7, 3002, .inl (fun _ => 0))), (qk0_9, .inl (cqk0_9, 3002, .inl (fun _ => 0))), (qk0_11, .inl (cqk0_11, 3002, .inl (fun _ => 0)))]) [0, 1, 2, 3, 4, 5] rfl
  replace hD := hD.sub (ws' := [(h0, .inr (13, fsk6_6)), (qk0_1, .inl (cqk0_1, 6000, .inl (fun _ => 0))), (qk0_5, .inl (cqk0_5, 3008, .inl (fun _ => 0))), (qk0_7, .inl (cqk0_7, 3002, .inl (fun _ => 0))), (qk0_9, .inl (cqk0_9, 3002, .inl (fun _ => 0))), (qk0_11, .inl (cqk0_11, 3002, .inl (fun _ => 0)))]) [0, 1, 2, 3, 4, 5] (by decide) rfl
  replace hK := hK.sub (tys' := [(cqk0_1, .int), (cqk0_5, .int), (cqk0_7, .int), (cqk0_9, .int), (cqk0_11, .int)]) [0, 1, 2, 3, 4] rfl
  refine va_putF (D := (dC, dI)) (ci := 13) (v := .ref qk6_7) (ty := .array .int) (C := RX13) (T := TX13) (N := 155) hx hb hts uX13_init_X13 tyX13 tyX13_ok nmX13 hown hK hP hD hS 0 rfl rfl 86 (by decide) (hts (.fieldLink RX13 184 "ClassMillModel" "jumpLabel" "[I") (by decide +kernel)) (fun _ h9 => h9) rfl hin rfl (by decide +kernel) rfl rfl (by rw [hlfsk6_6]; decide) dX13_init_521 ?_
  clear hP hD hS
  intro H locs hP hD hS
  obtain ⟨fsk6_8, efsk6_8⟩ : ∃ zf : List Value, zf = fsk6_6.set 86 (.ref qk6_7) := ⟨_, rfl⟩
  rw [← efsk6_8] at hP hD
  have hlfsk6_8 : fsk6_8.length = 155 := by rw [efsk6_8, List.length_set]; exact hlfsk6_6
  clear hlfsk6_6
  replace hP : va_P (dC, dI) vwCl [(h0, .inr (13, fsk6_8)), (qk0_1, .inl (cqk0_1, 6000, .inl (fun _ => 0))), (qk0_5, .inl (cqk0_5, 3008, .inl (fun _ => 0))), (qk0_7, .inl (cqk0_7, 3002, .inl (fun _ => 0))), (qk0_9, .inl (cqk0_9, 3002, .inl (fun _ => 0))), (qk0_11, .inl (cqk0_11, 3002, .inl (fun _ => 0)))] H := hP
  replace hD : va_D A [(h0, .inr (13, fsk6_8)), (qk0_1, .inl (cqk0_1, 6000, .inl (fun _ => 0))), (qk0_5, .inl (cqk0_5, 3008, .inl (fun _ => 0))), (qk0_7, .inl (cqk0_7, 3002, .inl (fun _ => 0))), (qk0_9, .inl (cqk0_9, 3002, .inl (fun _ => 0))), (qk0_11, .inl (cqk0_11, 3002, .inl (fun _ => 0)))] := hD
  refine lv_aload_n hx hb dX13_init_524 rfl (lv_at hl 0 rfl) ?_
  refine lv_sipush (v := 3000) hx hb dX13_init_525 (by decide) ?_
  refine va_newa (atype := .int) (ty := .int) (N' := 3000) (a0 := (3000, .inl (fun _ => 0))) hx hb (hts (.arrayClass .int) (by decide +kernel)) rfl hK hP hD hS hA (fun _ => rfl) (by decide) (by decide) (by decide) (Nat.le_of_ble_eq_true rfl) (Nat.le_of_ble_eq_true rfl) dX13_init_528 ?_
  clear hK hP hD hS
  intro qk6_9 cqk6_9 H hK hP hD hS
  refine W.widen (k := 59) (n := 315714) (Nat.le_of_ble_eq_true rfl) (Nat.le_of_ble_eq_true rfl) ?_
  replace hP := hP.sub (ws' := [(h0, .inr (13, fsk6_8)), (qk0_1, .inl (cqk0_1, 6000, .inl (fun _ => 0))), (qk0_5, .inl (cqk0_5, 3008, .inl (fun _ => 0))), (qk0_7, .inl (cqk0_7, 3002, .inl (fun _ => 0))), (qk0_9, .inl (cqk0_9, 3002, .inl (fun _ => 0))), (qk0_11, .inl (cqk0_11, 3002, .inl (fun _ => 0)))]) [0, 1, 2, 3, 4, 5] rfl
  replace hD := hD.sub (ws' := [(h0, .inr (13, fsk6_8)), (qk0_1, .inl (cqk0_1, 6000, .inl (fun _ => 0))), (qk0_5, .inl (cqk0_5, 3008, .inl (fun _ => 0))), (qk0_7, .inl (cqk0_7, 3002, .inl (fun _ => 0))), (qk0_9, .inl (cqk0_9, 3002, .inl (fun _ => 0))), (qk0_11, .inl (cqk0_11, 3002, .inl (fun _ => 0)))]) [0, 1, 2, 3, 4, 5] (by decide) rfl
  replace hK := hK.sub (tys' := [(cqk0_1, .int), (cqk0_5, .int), (cqk0_7, .int), (cqk0_9, .int), (cqk0_11, .int)]) [0, 1, 2, 3, 4] rfl
  refine va_putF (D := (dC, dI)) (ci := 13) (v := .ref qk6_9) (ty := .array .int) (C := RX13) (T := TX13) (N := 155) hx hb hts uX13_init_X13 tyX13 tyX13_ok nmX13 hown hK hP hD hS 0 rfl rfl 89 (by decide) (hts (.fieldLink RX13 187 "ClassMillModel" "loopBegin" "[I") (by decide +kernel)) (fun _ h9 => h9) rfl hin rfl (by decide +kernel) rfl rfl (by rw [hlfsk6_8]; decide) dX13_init_530 ?_
  clear hP hD hS
  intro H locs hP hD hS
  obtain ⟨fsk6_10, efsk6_10⟩ : ∃ zf : List Value, zf = fsk6_8.set 89 (.ref qk6_9) := ⟨_, rfl⟩
  rw [← efsk6_10] at hP hD
  have hlfsk6_10 : fsk6_10.length = 155 := by rw [efsk6_10, List.length_set]; exact hlfsk6_8
  clear hlfsk6_8
  replace hP : va_P (dC, dI) vwCl [(h0, .inr (13, fsk6_10)), (qk0_1, .inl (cqk0_1, 6000, .inl (fun _ => 0))), (qk0_5, .inl (cqk0_5, 3008, .inl (fun _ => 0))), (qk0_7, .inl (cqk0_7, 3002, .inl (fun _ => 0))), (qk0_9, .inl (cqk0_9, 3002, .inl (fun _ => 0))), (qk0_11, .inl (cqk0_11, 3002, .inl (fun _ => 0)))] H := hP
  replace hD : va_D A [(h0, .inr (13, fsk6_10)), (qk0_1, .inl (cqk0_1, 6000, .inl (fun _ => 0))), (qk0_5, .inl (cqk0_5, 3008, .inl (fun _ => 0))), (qk0_7, .inl (cqk0_7, 3002, .inl (fun _ => 0))), (qk0_9, .inl (cqk0_9, 3002, .inl (fun _ => 0))), (qk0_11, .inl (cqk0_11, 3002, .inl (fun _ => 0)))] := hD
  refine lv_aload_n hx hb dX13_init_533 rfl (lv_at hl 0 rfl) ?_
  refine lv_sipush (v := 3000) hx hb dX13_init_534 (by decide) ?_
  refine va_newa (atype := .int) (ty := .int) (N' := 3000) (a0 := (3000, .inl (fun _ => 0))) hx hb (hts (.arrayClass .int) (by decide +kernel)) rfl hK hP hD hS hA (fun _ => rfl) (by decide) (by decide) (by decide) (Nat.le_of_ble_eq_true rfl) (Nat.le_of_ble_eq_true rfl) dX13_init_537 ?_
  clear hK hP hD hS
  intro qk6_11 cqk6_11 H hK hP hD hS
  refine W.widen (k := 60) (n := 318714) (Nat.le_of_ble_eq_true rfl) (Nat.le_of_ble_eq_true rfl) ?_
  replace hP := hP.sub (ws' := [(h0, .inr (13, fsk6_10)), (qk0_1, .inl (cqk0_1, 6000, .inl (fun _ => 0))), (qk0_5, .inl (cqk0_5, 3008, .inl (fun _ => 0))), (qk0_7, .inl (cqk0_7, 3002, .inl (fun _ => 0))), (qk0_9, .inl (cqk0_9, 3002, .inl (fun _ => 0))), (qk0_11, .inl (cqk0_11, 3002, .inl (fun _ => 0)))]) [0, 1, 2, 3, 4, 5] rfl
  replace hD := hD.sub (ws' := [(h0, .inr (13, fsk6_10)), (qk0_1, .inl (cqk0_1, 6000, .inl (fun _ => 0))), (qk0_5, .inl (cqk0_5, 3008, .inl (fun _ => 0))), (qk0_7, .inl (cqk0_7, 3002, .inl (fun _ => 0))), (qk0_9, .inl (cqk0_9, 3002, .inl (fun _ => 0))), (qk0_11, .inl (cqk0_11, 3002, .inl (fun _ => 0)))]) [0, 1, 2, 3, 4, 5] (by decide) rfl
  replace hK := hK.sub (tys' := [(cqk0_1, .int), (cqk0_5, .int), (cqk0_7, .int), (cqk0_9, .int), (cqk0_11, .int)]) [0, 1, 2, 3, 4] rfl
  refine va_putF (D := (dC, dI)) (ci := 13) (v := .ref qk6_11) (ty := .array .int) (C := RX13) (T := TX13) (N := 155) hx hb hts uX13_init_X13 tyX13 tyX13_ok nmX13 hown hK hP hD hS 0 rfl rfl 90 (by decide) (hts (.fieldLink RX13 190 "ClassMillModel" "loopBehind" "[I") (by decide +kernel)) (fun _ h9 => h9) rfl hin rfl (by decide +kernel) rfl rfl (by rw [hlfsk6_10]; decide) dX13_init_539 ?_
  clear hP hD hS
  intro H locs hP hD hS
  obtain ⟨fsk6_12, efsk6_12⟩ : ∃ zf : List Value, zf = fsk6_10.set 90 (.ref qk6_11) := ⟨_, rfl⟩
  rw [← efsk6_12] at hP hD
  have hlfsk6_12 : fsk6_12.length = 155 := by rw [efsk6_12, List.length_set]; exact hlfsk6_10
  clear hlfsk6_10
  replace hP : va_P (dC, dI) vwCl [(h0, .inr (13, fsk6_12)), (qk0_1, .inl (cqk0_1, 6000, .inl (fun _ => 0))), (qk0_5, .inl (cqk0_5, 3008, .inl (fun _ => 0))), (qk0_7, .inl (cqk0_7, 3002, .inl (fun _ => 0))), (qk0_9, .inl (cqk0_9, 3002, .inl (fun _ => 0))), (qk0_11, .inl (cqk0_11, 3002, .inl (fun _ => 0)))] H := hP
  replace hD : va_D A [(h0, .inr (13, fsk6_12)), (qk0_1, .inl (cqk0_1, 6000, .inl (fun _ => 0))), (qk0_5, .inl (cqk0_5, 3008, .inl (fun _ => 0))), (qk0_7, .inl (cqk0_7, 3002, .inl (fun _ => 0))), (qk0_9, .inl (cqk0_9, 3002, .inl (fun _ => 0))), (qk0_11, .inl (cqk0_11, 3002, .inl (fun _ => 0)))] := hD
  refine lv_aload_n hx hb dX13_init_542 rfl (lv_at hl 0 rfl) ?_
  refine lv_ldc (v := 48000) hx hb hown (hts (.constant RX13 193 48000) (by decide +kernel)) dX13_init_543 ?_
  refine va_newa (atype := .int) (ty := .int) (N' := 48000) (a0 := (48000, .inl (fun _ => 0))) hx hb (hts (.arrayClass .int) (by decide +kernel)) rfl hK hP hD hS hA (fun _ => rfl) (by decide) (by decide) (by decide) (Nat.le_of_ble_eq_true rfl) (Nat.le_of_ble_eq_true rfl) dX13_init_545 ?_
  clear hK hP hD hS
  intro qk6_13 cqk6_13 H hK hP hD hS
  refine W.widen (k := 61) (n := 366714) (Nat.le_of_ble_eq_true rfl) (Nat.le_of_ble_eq_true rfl) ?_
  replace hP := hP.sub (ws' := [(h0, .inr (13, fsk6_12)), (qk0_1, .inl (cqk0_1, 6000, .inl (fun _ => 0))), (qk0_5, .inl (cqk0_5, 3008, .inl (fun _ => 0))), (qk0_7, .inl (cqk0_7, 3002, .inl (fun _ => 0))), (qk0_9, .inl (cqk0_9, 3002, .inl (fun _ => 0))), (qk0_11, .inl (cqk0_11, 3002, .inl (fun _ => 0)))]) [0, 1, 2, 3, 4, 5] rfl
  replace hD := hD.sub (ws' := [(h0, .inr (13, fsk6_12)), (qk0_1, .inl (cqk0_1, 6000, .inl (fun _ => 0))), (qk0_5, .inl (cqk0_5, 3008, .inl (fun _ => 0))), (qk0_7, .inl (cqk0_7, 3002, .inl (fun _ => 0))), (qk0_9, .inl (cqk0_9, 3002, .inl (fun _ => 0))), (qk0_11, .inl (cqk0_11, 3002, .inl (fun _ => 0)))]) [0, 1, 2, 3, 4, 5] (by decide) rfl
  replace hK := hK.sub (tys' := [(cqk0_1, .int), (cqk0_5, .int), (cqk0_7, .int), (cqk0_9, .int), (cqk0_11, .int)]) [0, 1, 2, 3, 4] rfl
  refine va_putF (D := (dC, dI)) (ci := 13) (v := .ref qk6_13) (ty := .array .int) (C := RX13) (T := TX13) (N := 155) hx hb hts uX13_init_X13 tyX13 tyX13_ok nmX13 hown hK hP hD hS 0 rfl rfl 91 (by decide) (hts (.fieldLink RX13 194 "ClassMillModel" "images" "[I") (by decide +kernel)) (fun _ h9 => h9) rfl hin rfl (by decide +kernel) rfl rfl (by rw [hlfsk6_12]; decide) dX13_init_547 ?_
  clear hP hD hS
  intro H locs hP hD hS
  obtain ⟨fsk6_14, efsk6_14⟩ : ∃ zf : List Value, zf = fsk6_12.set 91 (.ref qk6_13) := ⟨_, rfl⟩
  rw [← efsk6_14] at hP hD
  have hlfsk6_14 : fsk6_14.length = 155 := by rw [efsk6_14, List.length_set]; exact hlfsk6_12
  clear hlfsk6_12
  replace hP : va_P (dC, dI) vwCl [(h0, .inr (13, fsk6_14)), (qk0_1, .inl (cqk0_1, 6000, .inl (fun _ => 0))), (qk0_5, .inl (cqk0_5, 3008, .inl (fun _ => 0))), (qk0_7, .inl (cqk0_7, 3002, .inl (fun _ => 0))), (qk0_9, .inl (cqk0_9, 3002, .inl (fun _ => 0))), (qk0_11, .inl (cqk0_11, 3002, .inl (fun _ => 0)))] H := hP
  replace hD : va_D A [(h0, .inr (13, fsk6_14)), (qk0_1, .inl (cqk0_1, 6000, .inl (fun _ => 0))), (qk0_5, .inl (cqk0_5, 3008, .inl (fun _ => 0))), (qk0_7, .inl (cqk0_7, 3002, .inl (fun _ => 0))), (qk0_9, .inl (cqk0_9, 3002, .inl (fun _ => 0))), (qk0_11, .inl (cqk0_11, 3002, .inl (fun _ => 0)))] := hD
  refine lv_aload_n hx hb dX13_init_550 rfl (lv_at hl 0 rfl) ?_
  refine lv_bipush (v := 8) hx hb dX13_init_551 (by decide) ?_
  refine va_newa (atype := .int) (ty := .int) (N' := 8) (a0 := (8, .inl (fun _ => 0))) hx hb (hts (.arrayClass .int) (by decide +kernel)) rfl hK hP hD hS hA (fun _ => rfl) (by decide) (by decide) (by decide) (Nat.le_of_ble_eq_true rfl) (Nat.le_of_ble_eq_true rfl) dX13_init_553 ?_
  clear hK hP hD hS
  intro qk6_15 cqk6_15 H hK hP hD hS
  refine W.widen (k := 62) (n := 366722) (Nat.le_of_ble_eq_true rfl) (Nat.le_of_ble_eq_true rfl) ?_
  replace hP := hP.sub (ws' := [(h0, .inr (13, fsk6_14)), (qk0_1, .inl (cqk0_1, 6000, .inl (fun _ => 0))), (qk0_5, .inl (cqk0_5, 3008, .inl (fun _ => 0))), (qk0_7, .inl (cqk0_7, 3002, .inl (fun _ => 0))), (qk0_9, .inl (cqk0_9, 3002, .inl (fun _ => 0))), (qk0_11, .inl (cqk0_11, 3002, .inl (fun _ => 0)))]) [0, 1, 2, 3, 4, 5] rfl
  replace hD := hD.sub (ws' := [(h0, .inr (13, fsk6_14)), (qk0_1, .inl (cqk0_1, 6000, .inl (fun _ => 0))), (qk0_5, .inl (cqk0_5, 3008, .inl (fun _ => 0))), (qk0_7, .inl (cqk0_7, 3002, .inl (fun _ => 0))), (qk0_9, .inl (cqk0_9, 3002, .inl (fun _ => 0))), (qk0_11, .inl (cqk0_11, 3002, .inl (fun _ => 0)))]) [0, 1, 2, 3, 4, 5] (by decide) rfl
  replace hK := hK.sub (tys' := [(cqk0_1, .int), (cqk0_5, .int), (cqk0_7, .int), (cqk0_9, .int), (cqk0_11, .int)]) [0, 1, 2, 3, 4] rfl
  refine va_putF (D := (dC, dI)) (ci := 13) (v := .ref qk6_15) (ty := .array .int) (C := RX13) (T := TX13) (N := 155) hx hb hts uX13_init_X13 tyX13 tyX13_ok nmX13 hown hK hP hD hS 0 rfl rfl 92 (by decide) (hts (.fieldLink RX13 197 "ClassMillModel" "imageSize" "[I") (by decide +kernel)) (fun _ h9 => h9) rfl hin rfl (by decide +kernel) rfl rfl (by rw [hlfsk6_14]; decide) dX13_init_555 ?_
  clear hP hD hS
  intro H locs hP hD hS
  obtain ⟨fsk6_16, efsk6_16⟩ : ∃ zf : List Value, zf = fsk6_14.set 92 (.ref qk6_15) := ⟨_, rfl⟩
  rw [← efsk6_16] at hP hD
  have hlfsk6_16 : fsk6_16.length = 155 := by rw [efsk6_16, List.length_set]; exact hlfsk6_14
  clear hlfsk6_14
  replace hP : va_P (dC, dI) vwCl [(h0, .inr (13, fsk6_16)), (qk0_1, .inl (cqk0_1, 6000, .inl (fun _ => 0))), (qk0_5, .inl (cqk0_5, 3008, .inl (fun _ => 0))), (qk0_7, .inl (cqk0_7, 3002, .inl (fun _ => 0))), (qk0_9, .inl (cqk0_9, 3002, .inl (fun _ => 0))), (qk0_11, .inl (cqk0_11, 3002, .inl (fun _ => 0)))] H := hP
  replace hD : va_D A [(h0, .inr (13, fsk6_16)), (qk0_1, .inl (cqk0_1, 6000, .inl (fun _ => 0))), (qk0_5, .inl (cqk0_5, 3008, .inl (fun _ => 0))), (qk0_7, .inl (cqk0_7, 3002, .inl (fun _ => 0))), (qk0_9, .inl (cqk0_9, 3002, .inl (fun _ => 0))), (qk0_11, .inl (cqk0_11, 3002, .inl (fun _ => 0)))] := hD
  refine lv_aload_n hx hb dX13_init_558 rfl (lv_at hl 0 rfl) ?_
  refine lv_ldc (v := 48000) hx hb hown (hts (.constant RX13 193 48000) (by decide +kernel)) dX13_init_559 ?_
  refine va_newa (atype := .int) (ty := .int) (N' := 48000) (a0 := (48000, .inl (fun _ => 0))) hx hb (hts (.arrayClass .int) (by decide +kernel)) rfl hK hP hD hS hA (fun _ => rfl) (by decide) (by decide) (by decide) (Nat.le_of_ble_eq_true rfl) (Nat.le_of_ble_eq_true rfl) dX13_init_561 ?_
  clear hK hP hD hS
  intro qk6_17 cqk6_17 H hK hP hD hS
  refine W.widen (k := 63) (n := 414722) (Nat.le_of_ble_eq_true rfl) (Nat.le_of_ble_eq_true rfl) ?_
  replace hP := hP.sub (ws' := [(h0, .inr (13, fsk6_16)), (qk0_1, .inl (cqk0_1, 6000, .inl (fun _ => 0))), (qk0_5, .inl (cqk0_5, 3008, .inl (fun _ => 0))), (qk0_7, .inl (cqk0_7, 3002, .inl (fun _ => 0))), (qk0_9, .inl (cqk0_9, 3002, .inl (fun _ => 0))), (qk0_11, .inl (cqk0_11, 3002, .inl (fun _ => 0)))]) [0, 1, 2, 3, 4, 5] rfl
  replace hD := hD.sub (ws' := [(h0, .inr (13, fsk6_16)), (qk0_1, .inl (cqk0_1, 6000, .inl (fun _ => 0))), (qk0_5, .inl (cqk0_5, 3008, .inl (fun _ => 0))), (qk0_7, .inl (cqk0_7, 3002, .inl (fun _ => 0))), (qk0_9, .inl (cqk0_9, 3002, .inl (fun _ => 0))), (qk0_11, .inl (cqk0_11, 3002, .inl (fun _ => 0)))]) [0, 1, 2, 3, 4, 5] (by decide) rfl
  replace hK := hK.sub (tys' := [(cqk0_1, .int), (cqk0_5, .int), (cqk0_7, .int), (cqk0_9, .int), (cqk0_11, .int)]) [0, 1, 2, 3, 4] rfl
  refine va_putF (D := (dC, dI)) (ci := 13) (v := .ref qk6_17) (ty := .array .int) (C := RX13) (T := TX13) (N := 155) hx hb hts uX13_init_X13 tyX13 tyX13_ok nmX13 hown hK hP hD hS 0 rfl rfl 94 (by decide) (hts (.fieldLink RX13 200 "ClassMillModel" "draft" "[I") (by decide +kernel)) (fun _ h9 => h9) rfl hin rfl (by decide +kernel) rfl rfl (by rw [hlfsk6_16]; decide) dX13_init_563 ?_
  clear hP hD hS
  intro H locs hP hD hS
  obtain ⟨fsk6_18, efsk6_18⟩ : ∃ zf : List Value, zf = fsk6_16.set 94 (.ref qk6_17) := ⟨_, rfl⟩
  rw [← efsk6_18] at hP hD
  have hlfsk6_18 : fsk6_18.length = 155 := by rw [efsk6_18, List.length_set]; exact hlfsk6_16
  clear hlfsk6_16
  replace hP : va_P (dC, dI) vwCl [(h0, .inr (13, fsk6_18)), (qk0_1, .inl (cqk0_1, 6000, .inl (fun _ => 0))), (qk0_5, .inl (cqk0_5, 3008, .inl (fun _ => 0))), (qk0_7, .inl (cqk0_7, 3002, .inl (fun _ => 0))), (qk0_9, .inl (cqk0_9, 3002, .inl (fun _ => 0))), (qk0_11, .inl (cqk0_11, 3002, .inl (fun _ => 0)))] H := hP
  replace hD : va_D A [(h0, .inr (13, fsk6_18)), (qk0_1, .inl (cqk0_1, 6000, .inl (fun _ => 0))), (qk0_5, .inl (cqk0_5, 3008, .inl (fun _ => 0))), (qk0_7, .inl (cqk0_7, 3002, .inl (fun _ => 0))), (qk0_9, .inl (cqk0_9, 3002, .inl (fun _ => 0))), (qk0_11, .inl (cqk0_11, 3002, .inl (fun _ => 0)))] := hD
  exact kk qk6_1 qk6_3 qk6_5 qk6_7 qk6_9 qk6_11 qk6_13 qk6_15 qk6_17  fsk6_18 H locs hlfsk6_18 (by rw [efsk6_18, efsk6_16, efsk6_14, efsk6_12, efsk6_10, efsk6_8, efsk6_6, efsk6_4, efsk6_2]) hK hP hD hS
set_option maxHeartbeats 4000000 in
set_option maxRecDepth 100000 in
theorem ck_model7 {p : Program} {l : Launch} {e : Env} {s : State} {m : MethodId} {args : Array Value} {below : List Frame} {meth : Method} {c : Code} {Q : State → Prop} {A : Nat → Prop} {H0 : Heap} {dC : Nat → ClassId} {dI : Nat → Nat → Nat} (hx : p.tables.exec = Jvm.exec) (hb : c.code = cX13_init) (hown : s.vm.findClass RX13 = some m.cls) (hin : meth.name = "<init>") (hts : ∀ w ∈ wsX13_init, w.before args s = true) (hA : ∀ q : Nat, H0.size ≤ q → A q) {h0 qk0_1 qk0_5 qk0_7 qk0_9 qk0_11 : Nat} {cqk0_1 cqk0_5 cqk0_7 cqk0_9 cqk0_11 : ClassId} {fs : List Value} {H : Heap} {locs : List Loc} {ls : Array Slot} (hlen : fs.length = 155) (hK : va_K (dC, dI) vwCl [(cqk0_1, .int), (cqk0_5, .int), (cqk0_7, .int), (cqk0_9, .int), (cqk0_11, .int)] s) (hP : va_P (dC, dI) vwCl [(h0, .inr (13, fs)), (qk0_1, .inl (cqk0_1, 6000, .inl (fun _ => 0))), (qk0_5, .inl (cqk0_5, 3008, .inl (fun _ => 0))), (qk0_7, .inl (cqk0_7, 3002, .inl (fun _ => 0))), (qk0_9, .inl (cqk0_9, 3002, .inl (fun _ => 0))), (qk0_11, .inl (cqk0_11, 3002, .inl (fun _ => 0)))] H) (hD : va_D A [(h0, .inr (13, fs)), (qk0_1, .inl (cqk0_1, 6000, .inl (fun _ => 0))), (qk0_5, .inl (cqk0_5, 3008, .inl (fun _ => 0))), (qk0_7, .inl (cqk0_7, 3002, .inl (fun _ => 0))), (qk0_9, .inl (cqk0_9, 3002, .inl (fun _ => 0))), (qk0_11, .inl (cqk0_11, 3002, .inl (fun _ => 0)))]) (hS : va_S A H0 H locs) (hl : lv_has ls 1 [(0, .ref h0)]) (kk : ∀ (qk7_1 qk7_3 qk7_5 qk7_7 qk7_9 qk7_11 qk7_13 qk7_15 qk7_17 : Nat) (cqk7_11 : ClassId) (fs2 : List Value) (H : Heap) (locs : List Loc), fs2.length = 155 → fs2 = (((((((((fs.set 95 (.ref qk7_1)).set 96 (.ref qk7_3)).set 100 (.ref qk7_5)).set 101 (.ref qk7_7)).set 102 (.ref qk7_9)).set 103 (.ref qk7_11)).set 104 (.ref qk7_13)).set 105 (.ref qk7_15)).set 106 (.ref qk7_17)) → va_K (dC, dI) vwCl [(cqk0_1, .int), (cqk0_5, .int), (cqk0_7, .int), (cqk0_9, .int), (cqk0_11, .int), (cqk7_11, .int)] s → va_P (dC, dI) vwCl [(h0, .inr (13, fs2)), (qk0_1, .inl (cqk0_1, 6000, .inl (fun _ => 0))), (qk0_5, .inl (cqk0_5, 3008, .inl (fun _ => 0))), (qk0_7, .inl (cqk0_7, 3002, .inl (fun _ => 0))), (qk0_9, .inl (cqk0_9, 3002, .inl (fun _ => 0))), (qk0_11, .inl (cqk0_11, 3002, .inl (fun _ => 0))), (qk7_11, .inl (cqk7_11, 8, .inl (fun _ => 0)))] H → va_D A [(h0, .inr (13, fs2)), (qk0_1, .inl (cqk0_1, 6000, .inl (fun _ => 0))), (qk0_5, .inl (cqk0_5, 3008, .inl (fun _ => 0))), (qk0_7, .inl (cqk0_7, 3002, .inl (fun _ => 0))), (qk0_9, .inl (cqk0_9, 3002, .inl (fun _ => 0))), (qk0_11, .inl (cqk0_11, 3002, .inl (fun _ => 0))), (qk7_11, .inl (cqk7_11, 8, .inl (fun _ => 0)))] → va_S A H0 H locs → W p l e ({ frames := 2, cells := 95, slots := 548130, locals := 60 } : Room) s m args below meth c H locs 72 504818 Q (F0 m 639 ls [])) : W p l e ({ frames := 2, cells := 95, slots := 548130, locals := 60 } : Room) s m args below meth c H locs 63 414722 Q (F0 m 566 ls []) := by
  refine lv_aload_n hx hb dX13_init_566 rfl (lv_at hl 0 rfl) ?_
  refine lv_bipush (v := 8) hx hb dX13_init_567 (by decide) ?_
  refine va_newa (atype := .int) (ty := .int) (N' := 8) (a0 := (8, .inl (fun _ => 0))) hx hb (hts (.arrayClass .int) (by decide +kernel)) rfl hK hP hD hS hA (fun _ => rfl) (by decide) (by decide) (by decide) (Nat.le_of_ble_eq_true rfl) (Nat.le_of_ble_eq_true rfl) dX13_init_569 ?_
  clear hK hP hD hS
  intro qk7_1 cqk7_1 H hK hP hD hS
  refine W.widen (k := 64) (n := 414730) (Nat.le_of_ble_eq_true rfl) (Nat.le_of_ble_eq_true rfl) ?_
  replace hP := hP.sub (ws' := [(h0, .inr (13, fs)), (qk0_1, .inl (cqk0_1, 6000, .inl (fun _ => 0))), (qk0_5, .inl (cqk0_5, 3008, .inl (fun _ => 0))), (qk0_7, .inl (cqk0_7, 3002, .inl (fun _ => 0))), (qk0_9, .inl (cqk0_9, 3002, .inl (fun _ => 0))), (qk0_11, .inl (cqk0_11, 3002, .inl (fun _ => 0)))]) [0, 1, 2, 3, 4, 5] rfl
  replace hD := hD.sub (ws' := [(h0, .inr (13, fs)), (qk0_1, .inl (cqk0_1, 6000, .inl (fun _ => 0))), (qk0_5, .inl (cqk0_5, 3008, .inl (fun _ => 0))), (qk0_7, .inl (cqk0_7, 3002, .inl (fun _ => 0))), (qk0_9, .inl (cqk0_9, 3002, .inl (fun _ => 0))), (qk0_11, .inl (cqk0_11, 3002, .inl (fun _ => 0)))]) [0, 1, 2, 3, 4, 5] (by decide) rfl
  replace hK := hK.sub (tys' := [(cqk0_1, .int), (cqk0_5, .int), (cqk0_7, .int), (cqk0_9, .int), (cqk0_11, .int)]) [0, 1, 2, 3, 4] rfl
  refine va_putF (D := (dC, dI)) (ci := 13) (v := .ref qk7_1) (ty := .array .int) (C := RX13) (T := TX13) (N := 155) hx hb hts uX13_init_X13 tyX13 tyX13_ok nmX13 hown hK hP hD hS 0 rfl rfl 95 (by decide) (hts (.fieldLink RX13 203 "ClassMillModel" "draftSize" "[I") (by decide +kernel)) (fun _ h9 => h9) rfl hin rfl (by decide +kernel) rfl rfl (by rw [hlen]; decide) dX13_init_571 ?_
  clear hP hD hS
  intro H locs hP hD hS
  obtain ⟨fsk7_2, efsk7_2⟩ : ∃ zf : List Value, zf = fs.set 95 (.ref qk7_1) := ⟨_, rfl⟩
  rw [← efsk7_2] at hP hD
  have hlfsk7_2 : fsk7_2.length = 155 := by rw [efsk7_2, List.length_set]; exact hlen
  clear hlen
  replace hP : va_P (dC, dI) vwCl [(h0, .inr (13, fsk7_2)), (qk0_1, .inl (cqk0_1, 6000, .inl (fun _ => 0))), (qk0_5, .inl (cqk0_5, 3008, .inl (fun _ => 0))), (qk0_7, .inl (cqk0_7, 3002, .inl (fun _ => 0))), (qk0_9, .inl (cqk0_9, 3002, .inl (fun _ => 0))), (qk0_11, .inl (cqk0_11, 3002, .inl (fun _ => 0)))] H := hP
  replace hD : va_D A [(h0, .inr (13, fsk7_2)), (qk0_1, .inl (cqk0_1, 6000, .inl (fun _ => 0))), (qk0_5, .inl (cqk0_5, 3008, .inl (fun _ => 0))), (qk0_7, .inl (cqk0_7, 3002, .inl (fun _ => 0))), (qk0_9, .inl (cqk0_9, 3002, .inl (fun _ => 0))), (qk0_11, .inl (cqk0_11, 3002, .inl (fun _ => 0)))] := hD
  refine lv_aload_n hx hb dX13_init_574 rfl (lv_at hl 0 rfl) ?_
  refine lv_ldc (v := 40000) hx hb hown (hts (.constant RX13 140 40000) (by decide +kernel)) dX13_init_575 ?_
  refine va_newa (atype := .int) (ty := .int) (N' := 40000) (a0 := (40000, .inl (fun _ => 0))) hx hb (hts (.arrayClass .int) (by decide +kernel)) rfl hK hP hD hS hA (fun _ => rfl) (by decide) (by decide) (by decide) (Nat.le_of_ble_eq_true rfl) (Nat.le_of_ble_eq_true rfl) dX13_init_577 ?_
  clear hK hP hD hS
  intro qk7_3 cqk7_3 H hK hP hD hS
  refine W.widen (k := 65) (n := 454730) (Nat.le_of_ble_eq_true rfl) (Nat.le_of_ble_eq_true rfl) ?_
  replace hP := hP.sub (ws' := [(h0, .inr (13, fsk7_2)), (qk0_1, .inl (cqk0_1, 6000, .inl (fun _ => 0))), (qk0_5, .inl (cqk0_5, 3008, .inl (fun _ => 0))), (qk0_7, .inl (cqk0_7, 3002, .inl (fun _ => 0))), (qk0_9, .inl (cqk0_9, 3002, .inl (fun _ => 0))), (qk0_11, .inl (cqk0_11, 3002, .inl (fun _ => 0)))]) [0, 1, 2, 3, 4, 5] rfl
  replace hD := hD.sub (ws' := [(h0, .inr (13, fsk7_2)), (qk0_1, .inl (cqk0_1, 6000, .inl (fun _ => 0))), (qk0_5, .inl (cqk0_5, 3008, .inl (fun _ => 0))), (qk0_7, .inl (cqk0_7, 3002, .inl (fun _ => 0))), (qk0_9, .inl (cqk0_9, 3002, .inl (fun _ => 0))), (qk0_11, .inl (cqk0_11, 3002, .inl (fun _ => 0)))]) [0, 1, 2, 3, 4, 5] (by decide) rfl
  replace hK := hK.sub (tys' := [(cqk0_1, .int), (cqk0_5, .int), (cqk0_7, .int), (cqk0_9, .int), (cqk0_11, .int)]) [0, 1, 2, 3, 4] rfl
  refine va_putF (D := (dC, dI)) (ci := 13) (v := .ref qk7_3) (ty := .array .int) (C := RX13) (T := TX13) (N := 155) hx hb hts uX13_init_X13 tyX13 tyX13_ok nmX13 hown hK hP hD hS 0 rfl rfl 96 (by decide) (hts (.fieldLink RX13 206 "ClassMillModel" "behind" "[I") (by decide +kernel)) (fun _ h9 => h9) rfl hin rfl (by decide +kernel) rfl rfl (by rw [hlfsk7_2]; decide) dX13_init_579 ?_
  clear hP hD hS
  intro H locs hP hD hS
  obtain ⟨fsk7_4, efsk7_4⟩ : ∃ zf : List Value, zf = fsk7_2.set 96 (.ref qk7_3) := ⟨_, rfl⟩
  rw [← efsk7_4] at hP hD
  have hlfsk7_4 : fsk7_4.length = 155 := by rw [efsk7_4, List.length_set]; exact hlfsk7_2
  clear hlfsk7_2
  replace hP : va_P (dC, dI) vwCl [(h0, .inr (13, fsk7_4)), (qk0_1, .inl (cqk0_1, 6000, .inl (fun _ => 0))), (qk0_5, .inl (cqk0_5, 3008, .inl (fun _ => 0))), (qk0_7, .inl (cqk0_7, 3002, .inl (fun _ => 0))), (qk0_9, .inl (cqk0_9, 3002, .inl (fun _ => 0))), (qk0_11, .inl (cqk0_11, 3002, .inl (fun _ => 0)))] H := hP
  replace hD : va_D A [(h0, .inr (13, fsk7_4)), (qk0_1, .inl (cqk0_1, 6000, .inl (fun _ => 0))), (qk0_5, .inl (cqk0_5, 3008, .inl (fun _ => 0))), (qk0_7, .inl (cqk0_7, 3002, .inl (fun _ => 0))), (qk0_9, .inl (cqk0_9, 3002, .inl (fun _ => 0))), (qk0_11, .inl (cqk0_11, 3002, .inl (fun _ => 0)))] := hD
  refine lv_aload_n hx hb dX13_init_582 rfl (lv_at hl 0 rfl) ?_
  refine lv_ldc (v := 48000) hx hb hown (hts (.constant RX13 193 48000) (by decide +kernel)) dX13_init_583 ?_
  refine va_newa (atype := .int) (ty := .int) (N' := 48000) (a0 := (48000, .inl (fun _ => 0))) hx hb (hts (.arrayClass .int) (by decide +kernel)) rfl hK hP hD hS hA (fun _ => rfl) (by decide) (by decide) (by decide) (Nat.le_of_ble_eq_true rfl) (Nat.le_of_ble_eq_true rfl) dX13_init_585 ?_
  clear hK hP hD hS
  intro qk7_5 cqk7_5 H hK hP hD hS
  refine W.widen (k := 66) (n := 502730) (Nat.le_of_ble_eq_true rfl) (Nat.le_of_ble_eq_true rfl) ?_
  replace hP := hP.sub (ws' := [(h0, .inr (13, fsk7_4)), (qk0_1, .inl (cqk0_1, 6000, .inl (fun _ => 0))), (qk0_5, .inl (cqk0_5, 3008, .inl (fun _ => 0))), (qk0_7, .inl (cqk0_7, 3002, .inl (fun _ => 0))), (qk0_9, .inl (cqk0_9, 3002, .inl (fun _ => 0))), (qk0_11, .inl (cqk0_11, 3002, .inl (fun _ => 0)))]) [0, 1, 2, 3, 4, 5] rfl
  replace hD := hD.sub (ws' := [(h0, .inr (13, fsk7_4)), (qk0_1, .inl (cqk0_1, 6000, .inl (fun _ => 0))), (qk0_5, .inl (cqk0_5, 3008, .inl (fun _ => 0))), (qk0_7, .inl (cqk0_7, 3002, .inl (fun _ => 0))), (qk0_9, .inl (cqk0_9, 3002, .inl (fun _ => 0))), (qk0_11, .inl (cqk0_11, 3002, .inl (fun _ => 0)))]) [0, 1, 2, 3, 4, 5] (by decide) rfl
  replace hK := hK.sub (tys' := [(cqk0_1, .int), (cqk0_5, .int), (cqk0_7, .int), (cqk0_9, .int), (cqk0_11, .int)]) [0, 1, 2, 3, 4] rfl
  refine va_putF (D := (dC, dI)) (ci := 13) (v := .ref qk7_5) (ty := .array .int) (C := RX13) (T := TX13) (N := 155) hx hb hts uX13_init_X13 tyX13 tyX13_ok nmX13 hown hK hP hD hS 0 rfl rfl 100 (by decide) (hts (.fieldLink RX13 209 "ClassMillModel" "bytes" "[I") (by decide +kernel)) (fun _ h9 => h9) rfl hin rfl (by decide +kernel) rfl rfl (by rw [hlfsk7_4]; decide) dX13_init_587 ?_
  clear hP hD hS
  intro H locs hP hD hS
  obtain ⟨fsk7_6, efsk7_6⟩ : ∃ zf : List Value, zf = fsk7_4.set 100 (.ref qk7_5) := ⟨_, rfl⟩
  rw [← efsk7_6] at hP hD
  have hlfsk7_6 : fsk7_6.length = 155 := by rw [efsk7_6, List.length_set]; exact hlfsk7_4
  clear hlfsk7_4
  replace hP : va_P (dC, dI) vwCl [(h0, .inr (13, fsk7_6)), (qk0_1, .inl (cqk0_1, 6000, .inl (fun _ => 0))), (qk0_5, .inl (cqk0_5, 3008, .inl (fun _ => 0))), (qk0_7, .inl (cqk0_7, 3002, .inl (fun _ => 0))), (qk0_9, .inl (cqk0_9, 3002, .inl (fun _ => 0))), (qk0_11, .inl (cqk0_11, 3002, .inl (fun _ => 0)))] H := hP
  replace hD : va_D A [(h0, .inr (13, fsk7_6)), (qk0_1, .inl (cqk0_1, 6000, .inl (fun _ => 0))), (qk0_5, .inl (cqk0_5, 3008, .inl (fun _ => 0))), (qk0_7, .inl (cqk0_7, 3002, .inl (fun _ => 0))), (qk0_9, .inl (cqk0_9, 3002, .inl (fun _ => 0))), (qk0_11, .inl (cqk0_11, 3002, .inl (fun _ => 0)))] := hD
  refine lv_aload_n hx hb dX13_init_590 rfl (lv_at hl 0 rfl) ?_
  refine lv_bipush (v := 8) hx hb dX13_init_591 (by decide) ?_
  refine va_newa (atype := .int) (ty := .int) (N' := 8) (a0 := (8, .inl (fun _ => 0))) hx hb (hts (.arrayClass .int) (by decide +kernel)) rfl hK hP hD hS hA (fun _ => rfl) (by decide) (by decide) (by decide) (Nat.le_of_ble_eq_true rfl) (Nat.le_of_ble_eq_true rfl) dX13_init_593 ?_
  clear hK hP hD hS
  intro qk7_7 cqk7_7 H hK hP hD hS
  refine W.widen (k := 67) (n := 502738) (Nat.le_of_ble_eq_true rfl) (Nat.le_of_ble_eq_true rfl) ?_
  replace hP := hP.sub (ws' := [(h0, .inr (13, fsk7_6)), (qk0_1, .inl (cqk0_1, 6000, .inl (fun _ => 0))), (qk0_5, .inl (cqk0_5, 3008, .inl (fun _ => 0))), (qk0_7, .inl (cqk0_7, 3002, .inl (fun _ => 0))), (qk0_9, .inl (cqk0_9, 3002, .inl (fun _ => 0))), (qk0_11, .inl (cqk0_11, 3002, .inl (fun _ => 0)))]) [0, 1, 2, 3, 4, 5] rfl
  replace hD := hD.sub (ws' := [(h0, .inr (13, fsk7_6)), (qk0_1, .inl (cqk0_1, 6000, .inl (fun _ => 0))), (qk0_5, .inl (cqk0_5, 3008, .inl (fun _ => 0))), (qk0_7, .inl (cqk0_7, 3002, .inl (fun _ => 0))), (qk0_9, .inl (cqk0_9, 3002, .inl (fun _ => 0))), (qk0_11, .inl (cqk0_11, 3002, .inl (fun _ => 0)))]) [0, 1, 2, 3, 4, 5] (by decide) rfl
  replace hK := hK.sub (tys' := [(cqk0_1, .int), (cqk0_5, .int), (cqk0_7, .int), (cqk0_9, .int), (cqk0_11, .int)]) [0, 1, 2, 3, 4] rfl
  refine va_putF (D := (dC, dI)) (ci := 13) (v := .ref qk7_7) (ty := .array .int) (C := RX13) (T := TX13) (N := 155) hx hb hts uX13_init_X13 tyX13 tyX13_ok nmX13 hown hK hP hD hS 0 rfl rfl 101 (by decide) (hts (.fieldLink RX13 212 "ClassMillModel" "byteMany" "[I") (by decide +kernel)) (fun _ h9 => h9) rfl hin rfl (by decide +kernel) rfl rfl (by rw [hlfsk7_6]; decide) dX13_init_595 ?_
  clear hP hD hS
  intro H locs hP hD hS
  obtain ⟨fsk7_8, efsk7_8⟩ : ∃ zf : List Value, zf = fsk7_6.set 101 (.ref qk7_7) := ⟨_, rfl⟩
  rw [← efsk7_8] at hP hD
  have hlfsk7_8 : fsk7_8.length = 155 := by rw [efsk7_8, List.length_set]; exact hlfsk7_6
  clear hlfsk7_6
  replace hP : va_P (dC, dI) vwCl [(h0, .inr (13, fsk7_8)), (qk0_1, .inl (cqk0_1, 6000, .inl (fun _ => 0))), (qk0_5, .inl (cqk0_5, 3008, .inl (fun _ => 0))), (qk0_7, .inl (cqk0_7, 3002, .inl (fun _ => 0))), (qk0_9, .inl (cqk0_9, 3002, .inl (fun _ => 0))), (qk0_11, .inl (cqk0_11, 3002, .inl (fun _ => 0)))] H := hP
  replace hD : va_D A [(h0, .inr (13, fsk7_8)), (qk0_1, .inl (cqk0_1, 6000, .inl (fun _ => 0))), (qk0_5, .inl (cqk0_5, 3008, .inl (fun _ => 0))), (qk0_7, .inl (cqk0_7, 3002, .inl (fun _ => 0))), (qk0_9, .inl (cqk0_9, 3002, .inl (fun _ => 0))), (qk0_11, .inl (cqk0_11, 3002, .inl (fun _ => 0)))] := hD
  refine lv_aload_n hx hb dX13_init_598 rfl (lv_at hl 0 rfl) ?_
  refine lv_sipush (v := 2048) hx hb dX13_init_599 (by decide) ?_
  refine va_newa (atype := .int) (ty := .int) (N' := 2048) (a0 := (2048, .inl (fun _ => 0))) hx hb (hts (.arrayClass .int) (by decide +kernel)) rfl hK hP hD hS hA (fun _ => rfl) (by decide) (by decide) (by decide) (Nat.le_of_ble_eq_true rfl) (Nat.le_of_ble_eq_true rfl) dX13_init_602 ?_
  clear hK hP hD hS
  intro qk7_9 cqk7_9 H hK hP hD hS
  refine W.widen (k := 68) (n := 504786) (Nat.le_of_ble_eq_true rfl) (Nat.le_of_ble_eq_true rfl) ?_
  replace hP := hP.sub (ws' := [(h0, .inr (13, fsk7_8)), (qk0_1, .inl (cqk0_1, 6000, .inl (fun _ => 0))), (qk0_5, .inl (cqk0_5, 3008, .inl (fun _ => 0))), (qk0_7, .inl (cqk0_7, 3002, .inl (fun _ => 0))), (qk0_9, .inl (cqk0_9, 3002, .inl (fun _ => 0))), (qk0_11, .inl (cqk0_11, 3002, .inl (fun _ => 0)))]) [0, 1, 2, 3, 4, 5] rfl
  replace hD := hD.sub (ws' := [(h0, .inr (13, fsk7_8)), (qk0_1, .inl (cqk0_1, 6000, .inl (fun _ => 0))), (qk0_5, .inl (cqk0_5, 3008, .inl (fun _ => 0))), (qk0_7, .inl (cqk0_7, 3002, .inl (fun _ => 0))), (qk0_9, .inl (cqk0_9, 3002, .inl (fun _ => 0))), (qk0_11, .inl (cqk0_11, 3002, .inl (fun _ => 0)))]) [0, 1, 2, 3, 4, 5] (by decide) rfl
  replace hK := hK.sub (tys' := [(cqk0_1, .int), (cqk0_5, .int), (cqk0_7, .int), (cqk0_9, .int), (cqk0_11, .int)]) [0, 1, 2, 3, 4] rfl
  refine va_putF (D := (dC, dI)) (ci := 13) (v := .ref qk7_9) (ty := .array .int) (C := RX13) (T := TX13) (N := 155) hx hb hts uX13_init_X13 tyX13 tyX13_ok nmX13 hown hK hP hD hS 0 rfl rfl 102 (by decide) (hts (.fieldLink RX13 215 "ClassMillModel" "constantAt" "[I") (by decide +kernel)) (fun _ h9 => h9) rfl hin rfl (by decide +kernel) rfl rfl (by rw [hlfsk7_8]; decide) dX13_init_604 ?_
  clear hP hD hS
  intro H locs hP hD hS
  obtain ⟨fsk7_10, efsk7_10⟩ : ∃ zf : List Value, zf = fsk7_8.set 102 (.ref qk7_9) := ⟨_, rfl⟩
  rw [← efsk7_10] at hP hD
  have hlfsk7_10 : fsk7_10.length = 155 := by rw [efsk7_10, List.length_set]; exact hlfsk7_8
  clear hlfsk7_8
  replace hP : va_P (dC, dI) vwCl [(h0, .inr (13, fsk7_10)), (qk0_1, .inl (cqk0_1, 6000, .inl (fun _ => 0))), (qk0_5, .inl (cqk0_5, 3008, .inl (fun _ => 0))), (qk0_7, .inl (cqk0_7, 3002, .inl (fun _ => 0))), (qk0_9, .inl (cqk0_9, 3002, .inl (fun _ => 0))), (qk0_11, .inl (cqk0_11, 3002, .inl (fun _ => 0)))] H := hP
  replace hD : va_D A [(h0, .inr (13, fsk7_10)), (qk0_1, .inl (cqk0_1, 6000, .inl (fun _ => 0))), (qk0_5, .inl (cqk0_5, 3008, .inl (fun _ => 0))), (qk0_7, .inl (cqk0_7, 3002, .inl (fun _ => 0))), (qk0_9, .inl (cqk0_9, 3002, .inl (fun _ => 0))), (qk0_11, .inl (cqk0_11, 3002, .inl (fun _ => 0)))] := hD
  refine lv_aload_n hx hb dX13_init_607 rfl (lv_at hl 0 rfl) ?_
  refine lv_bipush (v := 8) hx hb dX13_init_608 (by decide) ?_
  refine va_newa (atype := .int) (ty := .int) (N' := 8) (a0 := (8, .inl (fun _ => 0))) hx hb (hts (.arrayClass .int) (by decide +kernel)) rfl hK hP hD hS hA (fun _ => rfl) (by decide) (by decide) (by decide) (Nat.le_of_ble_eq_true rfl) (Nat.le_of_ble_eq_true rfl) dX13_init_610 ?_
  clear hK hP hD hS
  intro qk7_11 cqk7_11 H hK hP hD hS
  refine W.widen (k := 69) (n := 504794) (Nat.le_of_ble_eq_true rfl) (Nat.le_of_ble_eq_true rfl) ?_
  replace hK : va_K (dC, dI) vwCl [(cqk0_1, .int), (cqk0_5, .int), (cqk0_7, .int), (cqk0_9, .int), (cqk0_11, .int), (cqk7_11, .int)] s := hK
  replace hP : va_P (dC, dI) vwCl [(h0, .inr (13, fsk7_10)), (qk0_1, .inl (cqk0_1, 6000, .inl (fun _ => 0))), (qk0_5, .inl (cqk0_5, 3008, .inl (fun _ => 0))), (qk0_7, .inl (cqk0_7, 3002, .inl (fun _ => 0))), (qk0_9, .inl (cqk0_9, 3002, .inl (fun _ => 0))), (qk0_11, .inl (cqk0_11, 3002, .inl (fun _ => 0))), (qk7_11, .inl (cqk7_11, 8, .inl (fun _ => 0)))] H := hP
  replace hD : va_D A [(h0, .inr (13, fsk7_10)), (qk0_1, .inl (cqk0_1, 6000, .inl (fun _ => 0))), (qk0_5, .inl (cqk0_5, 3008, .inl (fun _ => 0))), (qk0_7, .inl (cqk0_7, 3002, .inl (fun _ => 0))), (qk0_9, .inl (cqk0_9, 3002, .inl (fun _ => 0))), (qk0_11, .inl (cqk0_11, 3002, .inl (fun _ => 0))), (qk7_11, .inl (cqk7_11, 8, .inl (fun _ => 0)))] := hD
  refine va_putF (D := (dC, dI)) (ci := 13) (v := .ref qk7_11) (ty := .array .int) (C := RX13) (T := TX13) (N := 155) hx hb hts uX13_init_X13 tyX13 tyX13_ok nmX13 hown hK hP hD hS 0 rfl rfl 103 (by decide) (hts (.fieldLink RX13 218 "ClassMillModel" "constantMany" "[I") (by decide +kernel)) (fun _ h9 => h9) rfl hin rfl (by decide +kernel) rfl rfl (by rw [hlfsk7_10]; decide) dX13_init_612 ?_
  clear hP hD hS
  intro H locs hP hD hS
  obtain ⟨fsk7_12, efsk7_12⟩ : ∃ zf : List Value, zf = fsk7_10.set 103 (.ref qk7_11) := ⟨_, rfl⟩
  rw [← efsk7_12] at hP hD
  have hlfsk7_12 : fsk7_12.length = 155 := by rw [efsk7_12, List.length_set]; exact hlfsk7_10
  clear hlfsk7_10
  replace hP : va_P (dC, dI) vwCl [(h0, .inr (13, fsk7_12)), (qk0_1, .inl (cqk0_1, 6000, .inl (fun _ => 0))), (qk0_5, .inl (cqk0_5, 3008, .inl (fun _ => 0))), (qk0_7, .inl (cqk0_7, 3002, .inl (fun _ => 0))), (qk0_9, .inl (cqk0_9, 3002, .inl (fun _ => 0))), (qk0_11, .inl (cqk0_11, 3002, .inl (fun _ => 0))), (qk7_11, .inl (cqk7_11, 8, .inl (fun _ => 0)))] H := hP
  replace hD : va_D A [(h0, .inr (13, fsk7_12)), (qk0_1, .inl (cqk0_1, 6000, .inl (fun _ => 0))), (qk0_5, .inl (cqk0_5, 3008, .inl (fun _ => 0))), (qk0_7, .inl (cqk0_7, 3002, .inl (fun _ => 0))), (qk0_9, .inl (cqk0_9, 3002, .inl (fun _ => 0))), (qk0_11, .inl (cqk0_11, 3002, .inl (fun _ => 0))), (qk7_11, .inl (cqk7_11, 8, .inl (fun _ => 0)))] := hD
  refine lv_aload_n hx hb dX13_init_615 rfl (lv_at hl 0 rfl) ?_
  refine lv_bipush (v := 8) hx hb dX13_init_616 (by decide) ?_
  refine va_newa (atype := .int) (ty := .int) (N' := 8) (a0 := (8, .inl (fun _ => 0))) hx hb (hts (.arrayClass .int) (by decide +kernel)) rfl hK hP hD hS hA (fun _ => rfl) (by decide) (by decide) (by decide) (Nat.le_of_ble_eq_true rfl) (Nat.le_of_ble_eq_true rfl) dX13_init_618 ?_
  clear hK hP hD hS
  intro qk7_13 cqk7_13 H hK hP hD hS
  refine W.widen (k := 70) (n := 504802) (Nat.le_of_ble_eq_true rfl) (Nat.le_of_ble_eq_true rfl) ?_
  replace hP := hP.sub (ws' := [(h0, .inr (13, fsk7_12)), (qk0_1, .inl (cqk0_1, 6000, .inl (fun _ => 0))), (qk0_5, .inl (cqk0_5, 3008, .inl (fun _ => 0))), (qk0_7, .inl (cqk0_7, 3002, .inl (fun _ => 0))), (qk0_9, .inl (cqk0_9, 3002, .inl (fun _ => 0))), (qk0_11, .inl (cqk0_11, 3002, .inl (fun _ => 0))), (qk7_11, .inl (cqk7_11, 8, .inl (fun _ => 0)))]) [0, 1, 2, 3, 4, 5, 6] rfl
  replace hD := hD.sub (ws' := [(h0, .inr (13, fsk7_12)), (qk0_1, .inl (cqk0_1, 6000, .inl (fun _ => 0))), (qk0_5, .inl (cqk0_5, 3008, .inl (fun _ => 0))), (qk0_7, .inl (cqk0_7, 3002, .inl (fun _ => 0))), (qk0_9, .inl (cqk0_9, 3002, .inl (fun _ => 0))), (qk0_11, .inl (cqk0_11, 3002, .inl (fun _ => 0))), (qk7_11, .inl (cqk7_11, 8, .inl (fun _ => 0)))]) [0, 1, 2, 3, 4, 5, 6] (by decide) rfl
  replace hK := hK.sub (tys' := [(cqk0_1, .int), (cqk0_5, .int), (cqk0_7, .int), (cqk0_9, .int), (cqk0_11, .int), (cqk7_11, .int)]) [0, 1, 2, 3, 4, 5] rfl
  refine va_putF (D := (dC, dI)) (ci := 13) (v := .ref qk7_13) (ty := .array .int) (C := RX13) (T := TX13) (N := 155) hx hb hts uX13_init_X13 tyX13 tyX13_ok nmX13 hown hK hP hD hS 0 rfl rfl 104 (by decide) (hts (.fieldLink RX13 221 "ClassMillModel" "ownClass" "[I") (by decide +kernel)) (fun _ h9 => h9) rfl hin rfl (by decide +kernel) rfl rfl (by rw [hlfsk7_12]; decide) dX13_init_620 ?_
  clear hP hD hS
  intro H locs hP hD hS
  obtain ⟨fsk7_14, efsk7_14⟩ : ∃ zf : List Value, zf = fsk7_12.set 104 (.ref qk7_13) := ⟨_, rfl⟩
  rw [← efsk7_14] at hP hD
  have hlfsk7_14 : fsk7_14.length = 155 := by rw [efsk7_14, List.length_set]; exact hlfsk7_12
  clear hlfsk7_12
  replace hP : va_P (dC, dI) vwCl [(h0, .inr (13, fsk7_14)), (qk0_1, .inl (cqk0_1, 6000, .inl (fun _ => 0))), (qk0_5, .inl (cqk0_5, 3008, .inl (fun _ => 0))), (qk0_7, .inl (cqk0_7, 3002, .inl (fun _ => 0))), (qk0_9, .inl (cqk0_9, 3002, .inl (fun _ => 0))), (qk0_11, .inl (cqk0_11, 3002, .inl (fun _ => 0))), (qk7_11, .inl (cqk7_11, 8, .inl (fun _ => 0)))] H := hP
  replace hD : va_D A [(h0, .inr (13, fsk7_14)), (qk0_1, .inl (cqk0_1, 6000, .inl (fun _ => 0))), (qk0_5, .inl (cqk0_5, 3008, .inl (fun _ => 0))), (qk0_7, .inl (cqk0_7, 3002, .inl (fun _ => 0))), (qk0_9, .inl (cqk0_9, 3002, .inl (fun _ => 0))), (qk0_11, .inl (cqk0_11, 3002, .inl (fun _ => 0))), (qk7_11, .inl (cqk7_11, 8, .inl (fun _ => 0)))] := hD
  refine lv_aload_n hx hb dX13_init_623 rfl (lv_at hl 0 rfl) ?_
  refine lv_bipush (v := 8) hx hb dX13_init_624 (by decide) ?_
  refine va_newa (atype := .int) (ty := .int) (N' := 8) (a0 := (8, .inl (fun _ => 0))) hx hb (hts (.arrayClass .int) (by decide +kernel)) rfl hK hP hD hS hA (fun _ => rfl) (by decide) (by decide) (by decide) (Nat.le_of_ble_eq_true rfl) (Nat.le_of_ble_eq_true rfl) dX13_init_626 ?_
  clear hK hP hD hS
  intro qk7_15 cqk7_15 H hK hP hD hS
  refine W.widen (k := 71) (n := 504810) (Nat.le_of_ble_eq_true rfl) (Nat.le_of_ble_eq_true rfl) ?_
  replace hP := hP.sub (ws' := [(h0, .inr (13, fsk7_14)), (qk0_1, .inl (cqk0_1, 6000, .inl (fun _ => 0))), (qk0_5, .inl (cqk0_5, 3008, .inl (fun _ => 0))), (qk0_7, .inl (cqk0_7, 3002, .inl (fun _ => 0))), (qk0_9, .inl (cqk0_9, 3002, .inl (fun _ => 0))), (qk0_11, .inl (cqk0_11, 3002, .inl (fun _ => 0))), (qk7_11, .inl (cqk7_11, 8, .inl (fun _ => 0)))]) [0, 1, 2, 3, 4, 5, 6] rfl
  replace hD := hD.sub (ws' := [(h0, .inr (13, fsk7_14)), (qk0_1, .inl (cqk0_1, 6000, .inl (fun _ => 0))), (qk0_5, .inl (cqk0_5, 3008, .inl (fun _ => 0))), (qk0_7, .inl (cqk0_7, 3002, .inl (fun _ => 0))), (qk0_9, .inl (cqk0_9, 3002, .inl (fun _ => 0))), (qk0_11, .inl (cqk0_11, 3002, .inl (fun _ => 0))), (qk7_11, .inl (cqk7_11, 8, .inl (fun _ => 0)))]) [0, 1, 2, 3, 4, 5, 6] (by decide) rfl
  replace hK := hK.sub (tys' := [(cqk0_1, .int), (cqk0_5, .int), (cqk0_7, .int), (cqk0_9, .int), (cqk0_11, .int), (cqk7_11, .int)]) [0, 1, 2, 3, 4, 5] rfl
  refine va_putF (D := (dC, dI)) (ci := 13) (v := .ref qk7_15) (ty := .array .int) (C := RX13) (T := TX13) (N := 155) hx hb hts uX13_init_X13 tyX13 tyX13_ok nmX13 hown hK hP hD hS 0 rfl rfl 105 (by decide) (hts (.fieldLink RX13 224 "ClassMillModel" "ownUpper" "[I") (by decide +kernel)) (fun _ h9 => h9) rfl hin rfl (by decide +kernel) rfl rfl (by rw [hlfsk7_14]; decide) dX13_init_628 ?_
  clear hP hD hS
  intro H locs hP hD hS
  obtain ⟨fsk7_16, efsk7_16⟩ : ∃ zf : List Value, zf = fsk7_14.set 105 (.ref qk7_15) := ⟨_, rfl⟩
  rw [← efsk7_16] at hP hD
  have hlfsk7_16 : fsk7_16.length = 155 := by rw [efsk7_16, List.length_set]; exact hlfsk7_14
  clear hlfsk7_14
  replace hP : va_P (dC, dI) vwCl [(h0, .inr (13, fsk7_16)), (qk0_1, .inl (cqk0_1, 6000, .inl (fun _ => 0))), (qk0_5, .inl (cqk0_5, 3008, .inl (fun _ => 0))), (qk0_7, .inl (cqk0_7, 3002, .inl (fun _ => 0))), (qk0_9, .inl (cqk0_9, 3002, .inl (fun _ => 0))), (qk0_11, .inl (cqk0_11, 3002, .inl (fun _ => 0))), (qk7_11, .inl (cqk7_11, 8, .inl (fun _ => 0)))] H := hP
  replace hD : va_D A [(h0, .inr (13, fsk7_16)), (qk0_1, .inl (cqk0_1, 6000, .inl (fun _ => 0))), (qk0_5, .inl (cqk0_5, 3008, .inl (fun _ => 0))), (qk0_7, .inl (cqk0_7, 3002, .inl (fun _ => 0))), (qk0_9, .inl (cqk0_9, 3002, .inl (fun _ => 0))), (qk0_11, .inl (cqk0_11, 3002, .inl (fun _ => 0))), (qk7_11, .inl (cqk7_11, 8, .inl (fun _ => 0)))] := hD
  refine lv_aload_n hx hb dX13_init_631 rfl (lv_at hl 0 rfl) ?_
  refine lv_bipush (v := 8) hx hb dX13_init_632 (by decide) ?_
  refine va_newa (atype := .int) (ty := .int) (N' := 8) (a0 := (8, .inl (fun _ => 0))) hx hb (hts (.arrayClass .int) (by decide +kernel)) rfl hK hP hD hS hA (fun _ => rfl) (by decide) (by decide) (by decide) (Nat.le_of_ble_eq_true rfl) (Nat.le_of_ble_eq_true rfl) dX13_init_634 ?_
  clear hK hP hD hS
  intro qk7_17 cqk7_17 H hK hP hD hS
  refine W.widen (k := 72) (n := 504818) (Nat.le_of_ble_eq_true rfl) (Nat.le_of_ble_eq_true rfl) ?_
  replace hP := hP.sub (ws' := [(h0, .inr (13, fsk7_16)), (qk0_1, .inl (cqk0_1, 6000, .inl (fun _ => 0))), (qk0_5, .inl (cqk0_5, 3008, .inl (fun _ => 0))), (qk0_7, .inl (cqk0_7, 3002, .inl (fun _ => 0))), (qk0_9, .inl (cqk0_9, 3002, .inl (fun _ => 0))), (qk0_11, .inl (cqk0_11, 3002, .inl (fun _ => 0))), (qk7_11, .inl (cqk7_11, 8, .inl (fun _ => 0)))]) [0, 1, 2, 3, 4, 5, 6] rfl
  replace hD := hD.sub (ws' := [(h0, .inr (13, fsk7_16)), (qk0_1, .inl (cqk0_1, 6000, .inl (fun _ => 0))), (qk0_5, .inl (cqk0_5, 3008, .inl (fun _ => 0))), (qk0_7, .inl (cqk0_7, 3002, .inl (fun _ => 0))), (qk0_9, .inl (cqk0_9, 3002, .inl (fun _ => 0))), (qk0_11, .inl (cqk0_11, 3002, .inl (fun _ => 0))), (qk7_11, .inl (cqk7_11, 8, .inl (fun _ => 0)))]) [0, 1, 2, 3, 4, 5, 6] (by decide) rfl
  replace hK := hK.sub (tys' := [(cqk0_1, .int), (cqk0_5, .int), (cqk0_7, .int), (cqk0_9, .int), (cqk0_11, .int), (cqk7_11, .int)]) [0, 1, 2, 3, 4, 5] rfl
  refine va_putF (D := (dC, dI)) (ci := 13) (v := .ref qk7_17) (ty := .array .int) (C := RX13) (T := TX13) (N := 155) hx hb hts uX13_init_X13 tyX13 tyX13_ok nmX13 hown hK hP hD hS 0 rfl rfl 106 (by decide) (hts (.fieldLink RX13 227 "ClassMillModel" "fieldMany" "[I") (by decide +kernel)) (fun _ h9 => h9) rfl hin rfl (by decide +kernel) rfl rfl (by rw [hlfsk7_16]; decide) dX13_init_636 ?_
  clear hP hD hS
  intro H locs hP hD hS
  obtain ⟨fsk7_18, efsk7_18⟩ : ∃ zf : List Value, zf = fsk7_16.set 106 (.ref qk7_17) := ⟨_, rfl⟩
  rw [← efsk7_18] at hP hD
  have hlfsk7_18 : fsk7_18.length = 155 := by rw [efsk7_18, List.length_set]; exact hlfsk7_16
  clear hlfsk7_16
  replace hP : va_P (dC, dI) vwCl [(h0, .inr (13, fsk7_18)), (qk0_1, .inl (cqk0_1, 6000, .inl (fun _ => 0))), (qk0_5, .inl (cqk0_5, 3008, .inl (fun _ => 0))), (qk0_7, .inl (cqk0_7, 3002, .inl (fun _ => 0))), (qk0_9, .inl (cqk0_9, 3002, .inl (fun _ => 0))), (qk0_11, .inl (cqk0_11, 3002, .inl (fun _ => 0))), (qk7_11, .inl (cqk7_11, 8, .inl (fun _ => 0)))] H := hP
  replace hD : va_D A [(h0, .inr (13, fsk7_18)), (qk0_1, .inl (cqk0_1, 6000, .inl (fun _ => 0))), (qk0_5, .inl (cqk0_5, 3008, .inl (fun _ => 0))), (qk0_7, .inl (cqk0_7, 3002, .inl (fun _ => 0))), (qk0_9, .inl (cqk0_9, 3002, .inl (fun _ => 0))), (qk0_11, .inl (cqk0_11, 3002, .inl (fun _ => 0))), (qk7_11, .inl (cqk7_11, 8, .inl (fun _ => 0)))] := hD
  exact kk qk7_1 qk7_3 qk7_5 qk7_7 qk7_9 qk7_11 qk7_13 qk7_15 qk7_17 cqk7_11 fsk7_18 H locs hlfsk7_18 (by rw [efsk7_18, efsk7_16, efsk7_14, efsk7_12, efsk7_10, efsk7_8, efsk7_6, efsk7_4, efsk7_2]) hK hP hD hS
set_option maxHeartbeats 4000000 in
set_option maxRecDepth 100000 in
theorem ck_model8 {p : Program} {l : Launch} {e : Env} {s : State} {m : MethodId} {args : Array Value} {below : List Frame} {meth : Method} {c : Code} {Q : State → Prop} {A : Nat → Prop} {H0 : Heap} {dC : Nat → ClassId} {dI : Nat → Nat → Nat} (hx : p.tables.exec = Jvm.exec) (hb : c.code = cX13_init) (hown : s.vm.findClass RX13 = some m.cls) (hin : meth.name = "<init>") (hts : ∀ w ∈ wsX13_init, w.before args s = true) (hA : ∀ q : Nat, H0.size ≤ q → A q) {h0 qk0_1 qk0_5 qk0_7 qk0_9 qk0_11 qk7_11 : Nat} {cqk0_1 cqk0_5 cqk0_7 cqk0_9 cqk0_11 cqk7_11 : ClassId} {fs : List Value} {H : Heap} {locs : List Loc} {ls : Array Slot} (hlen : fs.length = 155) (hK : va_K (dC, dI) vwCl [(cqk0_1, .int), (cqk0_5, .int), (cqk0_7, .int), (cqk0_9, .int), (cqk0_11, .int), (cqk7_11, .int)] s) (hP : va_P (dC, dI) vwCl [(h0, .inr (13, fs)), (qk0_1, .inl (cqk0_1, 6000, .inl (fun _ => 0))), (qk0_5, .inl (cqk0_5, 3008, .inl (fun _ => 0))), (qk0_7, .inl (cqk0_7, 3002, .inl (fun _ => 0))), (qk0_9, .inl (cqk0_9, 3002, .inl (fun _ => 0))), (qk0_11, .inl (cqk0_11, 3002, .inl (fun _ => 0))), (qk7_11, .inl (cqk7_11, 8, .inl (fun _ => 0)))] H) (hD : va_D A [(h0, .inr (13, fs)), (qk0_1, .inl (cqk0_1, 6000, .inl (fun _ => 0))), (qk0_5, .inl (cqk0_5, 3008, .inl (fun _ => 0))), (qk0_7, .inl (cqk0_7, 3002, .inl (fun _ => 0))), (qk0_9, .inl (cqk0_9, 3002, .inl (fun _ => 0))), (qk0_11, .inl (cqk0_11, 3002, .inl (fun _ => 0))), (qk7_11, .inl (cqk7_11, 8, .inl (fun _ => 0)))]) (hS : va_S A H0 H locs) (hl : lv_has ls 1 [(0, .ref h0)]) (kk : ∀ (qk8_1 qk8_3 qk8_5 qk8_7 qk8_9 qk8_11 qk8_13 qk8_15 qk8_17 : Nat) (fs2 : List Value) (H : Heap) (locs : List Loc), fs2.length = 155 → fs2 = (((((((((fs.set 107 (.ref qk8_1)).set 108 (.ref qk8_3)).set 109 (.ref qk8_5)).set 110 (.ref qk8_7)).set 111 (.ref qk8_9)).set 112 (.ref qk8_11)).set 116 (.ref qk8_13)).set 118 (.ref qk8_15)).set 119 (.ref qk8_17)) → va_K (dC, dI) vwCl [(cqk0_1, .int), (cqk0_5, .int), (cqk0_7, .int), (cqk0_9, .int), (cqk0_11, .int), (cqk7_11, .int)] s → va_P (dC, dI) vwCl [(h0, .inr (13, fs2)), (qk0_1, .inl (cqk0_1, 6000, .inl (fun _ => 0))), (qk0_5, .inl (cqk0_5, 3008, .inl (fun _ => 0))), (qk0_7, .inl (cqk0_7, 3002, .inl (fun _ => 0))), (qk0_9, .inl (cqk0_9, 3002, .inl (fun _ => 0))), (qk0_11, .inl (cqk0_11, 3002, .inl (fun _ => 0))), (qk7_11, .inl (cqk7_11, 8, .inl (fun _ => 0)))] H → va_D A [(h0, .inr (13, fs2)), (qk0_1, .inl (cqk0_1, 6000, .inl (fun _ => 0))), (qk0_5, .inl (cqk0_5, 3008, .inl (fun _ => 0))), (qk0_7, .inl (cqk0_7, 3002, .inl (fun _ => 0))), (qk0_9, .inl (cqk0_9, 3002, .inl (fun _ => 0))), (qk0_11, .inl (cqk0_11, 3002, .inl (fun _ => 0))), (qk7_11, .inl (cqk7_11, 8, .inl (fun _ => 0)))] → va_S A H0 H locs → W p l e ({ frames := 2, cells := 95, slots := 548130, locals := 60 } : Room) s m args below meth c H locs 81 515719 Q (F0 m 715 ls [])) : W p l e ({ frames := 2, cells := 95, slots := 548130, locals := 60 } : Room) s m args below meth c H locs 72 504818 Q (F0 m 639 ls []) := by
  refine lv_aload_n hx hb dX13_init_639 rfl (lv_at hl 0 rfl) ?_
  refine lv_bipush (v := 96) hx hb dX13_init_640 (by decide) ?_
  refine va_newa (atype := .int) (ty := .int) (N' := 96) (a0 := (96, .inl (fun _ => 0))) hx hb (hts (.arrayClass .int) (by decide +kernel)) rfl hK hP hD hS hA (fun _ => rfl) (by decide) (by decide) (by decide) (Nat.le_of_ble_eq_true rfl) (Nat.le_of_ble_eq_true rfl) dX13_init_642 ?_
  clear hK hP hD hS
  intro qk8_1 cqk8_1 H hK hP hD hS
  refine W.widen (k := 73) (n := 504914) (Nat.le_of_ble_eq_true rfl) (Nat.le_of_ble_eq_true rfl) ?_
  replace hP := hP.sub (ws' := [(h0, .inr (13, fs)), (qk0_1, .inl (cqk0_1, 6000, .inl (fun _ => 0))), (qk0_5, .inl (cqk0_5, 3008, .inl (fun _ => 0))), (qk0_7, .inl (cqk0_7, 3002, .inl (fun _ => 0))), (qk0_9, .inl (cqk0_9, 3002, .inl (fun _ => 0))), (qk0_11, .inl (cqk0_11, 3002, .inl (fun _ => 0))), (qk7_11, .inl (cqk7_11, 8, .inl (fun _ => 0)))]) [0, 1, 2, 3, 4, 5, 6] rfl
  replace hD := hD.sub (ws' := [(h0, .inr (13, fs)), (qk0_1, .inl (cqk0_1, 6000, .inl (fun _ => 0))), (qk0_5, .inl (cqk0_5, 3008, .inl (fun _ => 0))), (qk0_7, .inl (cqk0_7, 3002, .inl (fun _ => 0))), (qk0_9, .inl (cqk0_9, 3002, .inl (fun _ => 0))), (qk0_11, .inl (cqk0_11, 3002, .inl (fun _ => 0))), (qk7_11, .inl (cqk7_11, 8, .inl (fun _ => 0)))]) [0, 1, 2, 3, 4, 5, 6] (by decide) rfl
  replace hK := hK.sub (tys' := [(cqk0_1, .int), (cqk0_5, .int), (cqk0_7, .int), (cqk0_9, .int), (cqk0_11, .int), (cqk7_11, .int)]) [0, 1, 2, 3, 4, 5] rfl
  refine va_putF (D := (dC, dI)) (ci := 13) (v := .ref qk8_1) (ty := .array .int) (C := RX13) (T := TX13) (N := 155) hx hb hts uX13_init_X13 tyX13 tyX13_ok nmX13 hown hK hP hD hS 0 rfl rfl 107 (by decide) (hts (.fieldLink RX13 230 "ClassMillModel" "fieldAt" "[I") (by decide +kernel)) (fun _ h9 => h9) rfl hin rfl (by decide +kernel) rfl rfl (by rw [hlen]; decide) dX13_init_644 ?_
  clear hP hD hS
  intro H locs hP hD hS
  obtain ⟨fsk8_2, efsk8_2⟩ : ∃ zf : List Value, zf = fs.set 107 (.ref qk8_1) := ⟨_, rfl⟩
  rw [← efsk8_2] at hP hD
  have hlfsk8_2 : fsk8_2.length = 155 := by rw [efsk8_2, List.length_set]; exact hlen
  clear hlen
  replace hP : va_P (dC, dI) vwCl [(h0, .inr (13, fsk8_2)), (qk0_1, .inl (cqk0_1, 6000, .inl (fun _ => 0))), (qk0_5, .inl (cqk0_5, 3008, .inl (fun _ => 0))), (qk0_7, .inl (cqk0_7, 3002, .inl (fun _ => 0))), (qk0_9, .inl (cqk0_9, 3002, .inl (fun _ => 0))), (qk0_11, .inl (cqk0_11, 3002, .inl (fun _ => 0))), (qk7_11, .inl (cqk7_11, 8, .inl (fun _ => 0)))] H := hP
  replace hD : va_D A [(h0, .inr (13, fsk8_2)), (qk0_1, .inl (cqk0_1, 6000, .inl (fun _ => 0))), (qk0_5, .inl (cqk0_5, 3008, .inl (fun _ => 0))), (qk0_7, .inl (cqk0_7, 3002, .inl (fun _ => 0))), (qk0_9, .inl (cqk0_9, 3002, .inl (fun _ => 0))), (qk0_11, .inl (cqk0_11, 3002, .inl (fun _ => 0))), (qk7_11, .inl (cqk7_11, 8, .inl (fun _ => 0)))] := hD
  refine lv_aload_n hx hb dX13_init_647 rfl (lv_at hl 0 rfl) ?_
  refine lv_bipush (v := 8) hx hb dX13_init_648 (by decide) ?_
  refine va_newa (atype := .int) (ty := .int) (N' := 8) (a0 := (8, .inl (fun _ => 0))) hx hb (hts (.arrayClass .int) (by decide +kernel)) rfl hK hP hD hS hA (fun _ => rfl) (by decide) (by decide) (by decide) (Nat.le_of_ble_eq_true rfl) (Nat.le_of_ble_eq_true rfl) dX13_init_650 ?_
  clear hK hP hD hS
  intro qk8_3 cqk8_3 H hK hP hD hS
  refine W.widen (k := 74) (n := 504922) (Nat.le_of_ble_eq_true rfl) (Nat.le_of_ble_eq_true rfl) ?_
  replace hP := hP.sub (ws' := [(h0, .inr (13, fsk8_2)), (qk0_1, .inl (cqk0_1, 6000, .inl (fun _ => 0))), (qk0_5, .inl (cqk0_5, 3008, .inl (fun _ => 0))), (qk0_7, .inl (cqk0_7, 3002, .inl (fun _ => 0))), (qk0_9, .inl (cqk0_9, 3002, .inl (fun _ => 0))), (qk0_11, .inl (cqk0_11, 3002, .inl (fun _ => 0))), (qk7_11, .inl (cqk7_11, 8, .inl (fun _ => 0)))]) [0, 1, 2, 3, 4, 5, 6] rfl
  replace hD := hD.sub (ws' := [(h0, .inr (13, fsk8_2)), (qk0_1, .inl (cqk0_1, 6000, .inl (fun _ => 0))), (qk0_5, .inl (cqk0_5, 3008, .inl (fun _ => 0))), (qk0_7, .inl (cqk0_7, 3002, .inl (fun _ => 0))), (qk0_9, .inl (cqk0_9, 3002, .inl (fun _ => 0))), (qk0_11, .inl (cqk0_11, 3002, .inl (fun _ => 0))), (qk7_11, .inl (cqk7_11, 8, .inl (fun _ => 0)))]) [0, 1, 2, 3, 4, 5, 6] (by decide) rfl
  replace hK := hK.sub (tys' := [(cqk0_1, .int), (cqk0_5, .int), (cqk0_7, .int), (cqk0_9, .int), (cqk0_11, .int), (cqk7_11, .int)]) [0, 1, 2, 3, 4, 5] rfl
  refine va_putF (D := (dC, dI)) (ci := 13) (v := .ref qk8_3) (ty := .array .int) (C := RX13) (T := TX13) (N := 155) hx hb hts uX13_init_X13 tyX13 tyX13_ok nmX13 hown hK hP hD hS 0 rfl rfl 108 (by decide) (hts (.fieldLink RX13 233 "ClassMillModel" "methodMany" "[I") (by decide +kernel)) (fun _ h9 => h9) rfl hin rfl (by decide +kernel) rfl rfl (by rw [hlfsk8_2]; decide) dX13_init_652 ?_
  clear hP hD hS
  intro H locs hP hD hS
  obtain ⟨fsk8_4, efsk8_4⟩ : ∃ zf : List Value, zf = fsk8_2.set 108 (.ref qk8_3) := ⟨_, rfl⟩
  rw [← efsk8_4] at hP hD
  have hlfsk8_4 : fsk8_4.length = 155 := by rw [efsk8_4, List.length_set]; exact hlfsk8_2
  clear hlfsk8_2
  replace hP : va_P (dC, dI) vwCl [(h0, .inr (13, fsk8_4)), (qk0_1, .inl (cqk0_1, 6000, .inl (fun _ => 0))), (qk0_5, .inl (cqk0_5, 3008, .inl (fun _ => 0))), (qk0_7, .inl (cqk0_7, 3002, .inl (fun _ => 0))), (qk0_9, .inl (cqk0_9, 3002, .inl (fun _ => 0))), (qk0_11, .inl (cqk0_11, 3002, .inl (fun _ => 0))), (qk7_11, .inl (cqk7_11, 8, .inl (fun _ => 0)))] H := hP
  replace hD : va_D A [(h0, .inr (13, fsk8_4)), (qk0_1, .inl (cqk0_1, 6000, .inl (fun _ => 0))), (qk0_5, .inl (cqk0_5, 3008, .inl (fun _ => 0))), (qk0_7, .inl (cqk0_7, 3002, .inl (fun _ => 0))), (qk0_9, .inl (cqk0_9, 3002, .inl (fun _ => 0))), (qk0_11, .inl (cqk0_11, 3002, .inl (fun _ => 0))), (qk7_11, .inl (cqk7_11, 8, .inl (fun _ => 0)))] := hD
  refine lv_aload_n hx hb dX13_init_655 rfl (lv_at hl 0 rfl) ?_
  refine lv_bipush (v := 96) hx hb dX13_init_656 (by decide) ?_
  refine va_newa (atype := .int) (ty := .int) (N' := 96) (a0 := (96, .inl (fun _ => 0))) hx hb (hts (.arrayClass .int) (by decide +kernel)) rfl hK hP hD hS hA (fun _ => rfl) (by decide) (by decide) (by decide) (Nat.le_of_ble_eq_true rfl) (Nat.le_of_ble_eq_true rfl) dX13_init_658 ?_
  clear hK hP hD hS
  intro qk8_5 cqk8_5 H hK hP hD hS
  refine W.widen (k := 75) (n := 505018) (Nat.le_of_ble_eq_true rfl) (Nat.le_of_ble_eq_true rfl) ?_
  replace hP := hP.sub (ws' := [(h0, .inr (13, fsk8_4)), (qk0_1, .inl (cqk0_1, 6000, .inl (fun _ => 0))), (qk0_5, .inl (cqk0_5, 3008, .inl (fun _ => 0))), (qk0_7, .inl (cqk0_7, 3002, .inl (fun _ => 0))), (qk0_9, .inl (cqk0_9, 3002, .inl (fun _ => 0))), (qk0_11, .inl (cqk0_11, 3002, .inl (fun _ => 0))), (qk7_11, .inl (cqk7_11, 8, .inl (fun _ => 0)))]) [0, 1, 2, 3, 4, 5, 6] rfl
  replace hD := hD.sub (ws' := [(h0, .inr (13, fsk8_4)), (qk0_1, .inl (cqk0_1, 6000, .inl (fun _ => 0))), (qk0_5, .inl (cqk0_5, 3008, .inl (fun _ => 0))), (qk0_7, .inl (cqk0_7, 3002, .inl (fun _ => 0))), (qk0_9, .inl (cqk0_9, 3002, .inl (fun _ => 0))), (qk0_11, .inl (cqk0_11, 3002, .inl (fun _ => 0))), (qk7_11, .inl (cqk7_11, 8, .inl (fun _ => 0)))]) [0, 1, 2, 3, 4, 5, 6] (by decide) rfl
  replace hK := hK.sub (tys' := [(cqk0_1, .int), (cqk0_5, .int), (cqk0_7, .int), (cqk0_9, .int), (cqk0_11, .int), (cqk7_11, .int)]) [0, 1, 2, 3, 4, 5] rfl
  refine va_putF (D := (dC, dI)) (ci := 13) (v := .ref qk8_5) (ty := .array .int) (C := RX13) (T := TX13) (N := 155) hx hb hts uX13_init_X13 tyX13 tyX13_ok nmX13 hown hK hP hD hS 0 rfl rfl 109 (by decide) (hts (.fieldLink RX13 236 "ClassMillModel" "methodAt" "[I") (by decide +kernel)) (fun _ h9 => h9) rfl hin rfl (by decide +kernel) rfl rfl (by rw [hlfsk8_4]; decide) dX13_init_660 ?_
  clear hP hD hS
  intro H locs hP hD hS
  obtain ⟨fsk8_6, efsk8_6⟩ : ∃ zf : List Value, zf = fsk8_4.set 109 (.ref qk8_5) := ⟨_, rfl⟩
  rw [← efsk8_6] at hP hD
  have hlfsk8_6 : fsk8_6.length = 155 := by rw [efsk8_6, List.length_set]; exact hlfsk8_4
  clear hlfsk8_4
  replace hP : va_P (dC, dI) vwCl [(h0, .inr (13, fsk8_6)), (qk0_1, .inl (cqk0_1, 6000, .inl (fun _ => 0))), (qk0_5, .inl (cqk0_5, 3008, .inl (fun _ => 0))), (qk0_7, .inl (cqk0_7, 3002, .inl (fun _ => 0))), (qk0_9, .inl (cqk0_9, 3002, .inl (fun _ => 0))), (qk0_11, .inl (cqk0_11, 3002, .inl (fun _ => 0))), (qk7_11, .inl (cqk7_11, 8, .inl (fun _ => 0)))] H := hP
  replace hD : va_D A [(h0, .inr (13, fsk8_6)), (qk0_1, .inl (cqk0_1, 6000, .inl (fun _ => 0))), (qk0_5, .inl (cqk0_5, 3008, .inl (fun _ => 0))), (qk0_7, .inl (cqk0_7, 3002, .inl (fun _ => 0))), (qk0_9, .inl (cqk0_9, 3002, .inl (fun _ => 0))), (qk0_11, .inl (cqk0_11, 3002, .inl (fun _ => 0))), (qk7_11, .inl (cqk7_11, 8, .inl (fun _ => 0)))] := hD
  refine lv_aload_n hx hb dX13_init_663 rfl (lv_at hl 0 rfl) ?_
  refine lv_bipush (v := 96) hx hb dX13_init_664 (by decide) ?_
  refine va_newa (atype := .int) (ty := .int) (N' := 96) (a0 := (96, .inl (fun _ => 0))) hx hb (hts (.arrayClass .int) (by decide +kernel)) rfl hK hP hD hS hA (fun _ => rfl) (by decide) (by decide) (by decide) (Nat.le_of_ble_eq_true rfl) (Nat.le_of_ble_eq_true rfl) dX13_init_666 ?_
  clear hK hP hD hS
  intro qk8_7 cqk8_7 H hK hP hD hS
  refine W.widen (k := 76) (n := 505114) (Nat.le_of_ble_eq_true rfl) (Nat.le_of_ble_eq_true rfl) ?_
  replace hP := hP.sub (ws' := [(h0, .inr (13, fsk8_6)), (qk0_1, .inl (cqk0_1, 6000, .inl (fun _ => 0))), (qk0_5, .inl (cqk0_5, 3008, .inl (fun _ => 0))), (qk0_7, .inl (cqk0_7, 3002, .inl (fun _ => 0))), (qk0_9, .inl (cqk0_9, 3002, .inl (fun _ => 0))), (qk0_11, .inl (cqk0_11, 3002, .inl (fun _ => 0))), (qk7_11, .inl (cqk7_11, 8, .inl (fun _ => 0)))]) [0, 1, 2, 3, 4, 5, 6] rfl
  replace hD := hD.sub (ws' := [(h0, .inr (13, fsk8_6)), (qk0_1, .inl (cqk0_1, 6000, .inl (fun _ => 0))), (qk0_5, .inl (cqk0_5, 3008, .inl (fun _ => 0))), (qk0_7, .inl (cqk0_7, 3002, .inl (fun _ => 0))), (qk0_9, .inl (cqk0_9, 3002, .inl (fun _ => 0))), (qk0_11, .inl (cqk0_11, 3002, .inl (fun _ => 0))), (qk7_11, .inl (cqk7_11, 8, .inl (fun _ => 0)))]) [0, 1, 2, 3, 4, 5, 6] (by decide) rfl
  replace hK := hK.sub (tys' := [(cqk0_1, .int), (cqk0_5, .int), (cqk0_7, .int), (cqk0_9, .int), (cqk0_11, .int), (cqk7_11, .int)]) [0, 1, 2, 3, 4, 5] rfl
  refine va_putF (D := (dC, dI)) (ci := 13) (v := .ref qk8_7) (ty := .array .int) (C := RX13) (T := TX13) (N := 155) hx hb hts uX13_init_X13 tyX13 tyX13_ok nmX13 hown hK hP hD hS 0 rfl rfl 110 (by decide) (hts (.fieldLink RX13 239 "ClassMillModel" "handlersAt" "[I") (by decide +kernel)) (fun _ h9 => h9) rfl hin rfl (by decide +kernel) rfl rfl (by rw [hlfsk8_6]; decide) dX13_init_668 ?_
  clear hP hD hS
  intro H locs hP hD hS
  obtain ⟨fsk8_8, efsk8_8⟩ : ∃ zf : List Value, zf = fsk8_6.set 110 (.ref qk8_7) := ⟨_, rfl⟩
  rw [← efsk8_8] at hP hD
  have hlfsk8_8 : fsk8_8.length = 155 := by rw [efsk8_8, List.length_set]; exact hlfsk8_6
  clear hlfsk8_6
  replace hP : va_P (dC, dI) vwCl [(h0, .inr (13, fsk8_8)), (qk0_1, .inl (cqk0_1, 6000, .inl (fun _ => 0))), (qk0_5, .inl (cqk0_5, 3008, .inl (fun _ => 0))), (qk0_7, .inl (cqk0_7, 3002, .inl (fun _ => 0))), (qk0_9, .inl (cqk0_9, 3002, .inl (fun _ => 0))), (qk0_11, .inl (cqk0_11, 3002, .inl (fun _ => 0))), (qk7_11, .inl (cqk7_11, 8, .inl (fun _ => 0)))] H := hP
  replace hD : va_D A [(h0, .inr (13, fsk8_8)), (qk0_1, .inl (cqk0_1, 6000, .inl (fun _ => 0))), (qk0_5, .inl (cqk0_5, 3008, .inl (fun _ => 0))), (qk0_7, .inl (cqk0_7, 3002, .inl (fun _ => 0))), (qk0_9, .inl (cqk0_9, 3002, .inl (fun _ => 0))), (qk0_11, .inl (cqk0_11, 3002, .inl (fun _ => 0))), (qk7_11, .inl (cqk7_11, 8, .inl (fun _ => 0)))] := hD
  refine lv_aload_n hx hb dX13_init_671 rfl (lv_at hl 0 rfl) ?_
  refine lv_bipush (v := 96) hx hb dX13_init_672 (by decide) ?_
  refine va_newa (atype := .int) (ty := .int) (N' := 96) (a0 := (96, .inl (fun _ => 0))) hx hb (hts (.arrayClass .int) (by decide +kernel)) rfl hK hP hD hS hA (fun _ => rfl) (by decide) (by decide) (by decide) (Nat.le_of_ble_eq_true rfl) (Nat.le_of_ble_eq_true rfl) dX13_init_674 ?_
  clear hK hP hD hS
  intro qk8_9 cqk8_9 H hK hP hD hS
  refine W.widen (k := 77) (n := 505210) (Nat.le_of_ble_eq_true rfl) (Nat.le_of_ble_eq_true rfl) ?_
  replace hP := hP.sub (ws' := [(h0, .inr (13, fsk8_8)), (qk0_1, .inl (cqk0_1, 6000, .inl (fun _ => 0))), (qk0_5, .inl (cqk0_5, 3008, .inl (fun _ => 0))), (qk0_7, .inl (cqk0_7, 3002, .inl (fun _ => 0))), (qk0_9, .inl (cqk0_9, 3002, .inl (fun _ => 0))), (qk0_11, .inl (cqk0_11, 3002, .inl (fun _ => 0))), (qk7_11, .inl (cqk7_11, 8, .inl (fun _ => 0)))]) [0, 1, 2, 3, 4, 5, 6] rfl
  replace hD := hD.sub (ws' := [(h0, .inr (13, fsk8_8)), (qk0_1, .inl (cqk0_1, 6000, .inl (fun _ => 0))), (qk0_5, .inl (cqk0_5, 3008, .inl (fun _ => 0))), (qk0_7, .inl (cqk0_7, 3002, .inl (fun _ => 0))), (qk0_9, .inl (cqk0_9, 3002, .inl (fun _ => 0))), (qk0_11, .inl (cqk0_11, 3002, .inl (fun _ => 0))), (qk7_11, .inl (cqk7_11, 8, .inl (fun _ => 0)))]) [0, 1, 2, 3, 4, 5, 6] (by decide) rfl
  replace hK := hK.sub (tys' := [(cqk0_1, .int), (cqk0_5, .int), (cqk0_7, .int), (cqk0_9, .int), (cqk0_11, .int), (cqk7_11, .int)]) [0, 1, 2, 3, 4, 5] rfl
  refine va_putF (D := (dC, dI)) (ci := 13) (v := .ref qk8_9) (ty := .array .int) (C := RX13) (T := TX13) (N := 155) hx hb hts uX13_init_X13 tyX13 tyX13_ok nmX13 hown hK hP hD hS 0 rfl rfl 111 (by decide) (hts (.fieldLink RX13 242 "ClassMillModel" "framesAt" "[I") (by decide +kernel)) (fun _ h9 => h9) rfl hin rfl (by decide +kernel) rfl rfl (by rw [hlfsk8_8]; decide) dX13_init_676 ?_
  clear hP hD hS
  intro H locs hP hD hS
  obtain ⟨fsk8_10, efsk8_10⟩ : ∃ zf : List Value, zf = fsk8_8.set 111 (.ref qk8_9) := ⟨_, rfl⟩
  rw [← efsk8_10] at hP hD
  have hlfsk8_10 : fsk8_10.length = 155 := by rw [efsk8_10, List.length_set]; exact hlfsk8_8
  clear hlfsk8_8
  replace hP : va_P (dC, dI) vwCl [(h0, .inr (13, fsk8_10)), (qk0_1, .inl (cqk0_1, 6000, .inl (fun _ => 0))), (qk0_5, .inl (cqk0_5, 3008, .inl (fun _ => 0))), (qk0_7, .inl (cqk0_7, 3002, .inl (fun _ => 0))), (qk0_9, .inl (cqk0_9, 3002, .inl (fun _ => 0))), (qk0_11, .inl (cqk0_11, 3002, .inl (fun _ => 0))), (qk7_11, .inl (cqk7_11, 8, .inl (fun _ => 0)))] H := hP
  replace hD : va_D A [(h0, .inr (13, fsk8_10)), (qk0_1, .inl (cqk0_1, 6000, .inl (fun _ => 0))), (qk0_5, .inl (cqk0_5, 3008, .inl (fun _ => 0))), (qk0_7, .inl (cqk0_7, 3002, .inl (fun _ => 0))), (qk0_9, .inl (cqk0_9, 3002, .inl (fun _ => 0))), (qk0_11, .inl (cqk0_11, 3002, .inl (fun _ => 0))), (qk7_11, .inl (cqk7_11, 8, .inl (fun _ => 0)))] := hD
  refine lv_aload_n hx hb dX13_init_679 rfl (lv_at hl 0 rfl) ?_
  refine lv_sipush (v := 6000) hx hb dX13_init_680 (by decide) ?_
  refine va_newa (atype := .int) (ty := .int) (N' := 6000) (a0 := (6000, .inl (fun _ => 0))) hx hb (hts (.arrayClass .int) (by decide +kernel)) rfl hK hP hD hS hA (fun _ => rfl) (by decide) (by decide) (by decide) (Nat.le_of_ble_eq_true rfl) (Nat.le_of_ble_eq_true rfl) dX13_init_683 ?_
  clear hK hP hD hS
  intro qk8_11 cqk8_11 H hK hP hD hS
  refine W.widen (k := 78) (n := 511210) (Nat.le_of_ble_eq_true rfl) (Nat.le_of_ble_eq_true rfl) ?_
  replace hP := hP.sub (ws' := [(h0, .inr (13, fsk8_10)), (qk0_1, .inl (cqk0_1, 6000, .inl (fun _ => 0))), (qk0_5, .inl (cqk0_5, 3008, .inl (fun _ => 0))), (qk0_7, .inl (cqk0_7, 3002, .inl (fun _ => 0))), (qk0_9, .inl (cqk0_9, 3002, .inl (fun _ => 0))), (qk0_11, .inl (cqk0_11, 3002, .inl (fun _ => 0))), (qk7_11, .inl (cqk7_11, 8, .inl (fun _ => 0)))]) [0, 1, 2, 3, 4, 5, 6] rfl
  replace hD := hD.sub (ws' := [(h0, .inr (13, fsk8_10)), (qk0_1, .inl (cqk0_1, 6000, .inl (fun _ => 0))), (qk0_5, .inl (cqk0_5, 3008, .inl (fun _ => 0))), (qk0_7, .inl (cqk0_7, 3002, .inl (fun _ => 0))), (qk0_9, .inl (cqk0_9, 3002, .inl (fun _ => 0))), (qk0_11, .inl (cqk0_11, 3002, .inl (fun _ => 0))), (qk7_11, .inl (cqk7_11, 8, .inl (fun _ => 0)))]) [0, 1, 2, 3, 4, 5, 6] (by decide) rfl
  replace hK := hK.sub (tys' := [(cqk0_1, .int), (cqk0_5, .int), (cqk0_7, .int), (cqk0_9, .int), (cqk0_11, .int), (cqk7_11, .int)]) [0, 1, 2, 3, 4, 5] rfl
  refine va_putF (D := (dC, dI)) (ci := 13) (v := .ref qk8_11) (ty := .array .int) (C := RX13) (T := TX13) (N := 155) hx hb hts uX13_init_X13 tyX13 tyX13_ok nmX13 hown hK hP hD hS 0 rfl rfl 112 (by decide) (hts (.fieldLink RX13 245 "ClassMillModel" "look" "[I") (by decide +kernel)) (fun _ h9 => h9) rfl hin rfl (by decide +kernel) rfl rfl (by rw [hlfsk8_10]; decide) dX13_init_685 ?_
  clear hP hD hS
  intro H locs hP hD hS
  obtain ⟨fsk8_12, efsk8_12⟩ : ∃ zf : List Value, zf = fsk8_10.set 112 (.ref qk8_11) := ⟨_, rfl⟩
  rw [← efsk8_12] at hP hD
  have hlfsk8_12 : fsk8_12.length = 155 := by rw [efsk8_12, List.length_set]; exact hlfsk8_10
  clear hlfsk8_10
  replace hP : va_P (dC, dI) vwCl [(h0, .inr (13, fsk8_12)), (qk0_1, .inl (cqk0_1, 6000, .inl (fun _ => 0))), (qk0_5, .inl (cqk0_5, 3008, .inl (fun _ => 0))), (qk0_7, .inl (cqk0_7, 3002, .inl (fun _ => 0))), (qk0_9, .inl (cqk0_9, 3002, .inl (fun _ => 0))), (qk0_11, .inl (cqk0_11, 3002, .inl (fun _ => 0))), (qk7_11, .inl (cqk7_11, 8, .inl (fun _ => 0)))] H := hP
  replace hD : va_D A [(h0, .inr (13, fsk8_12)), (qk0_1, .inl (cqk0_1, 6000, .inl (fun _ => 0))), (qk0_5, .inl (cqk0_5, 3008, .inl (fun _ => 0))), (qk0_7, .inl (cqk0_7, 3002, .inl (fun _ => 0))), (qk0_9, .inl (cqk0_9, 3002, .inl (fun _ => 0))), (qk0_11, .inl (cqk0_11, 3002, .inl (fun _ => 0))), (qk7_11, .inl (cqk7_11, 8, .inl (fun _ => 0)))] := hD
  refine lv_aload_n hx hb dX13_init_688 rfl (lv_at hl 0 rfl) ?_
  refine lv_sipush (v := 309) hx hb dX13_init_689 (by decide) ?_
  refine va_newa (atype := .int) (ty := .int) (N' := 309) (a0 := (309, .inl (fun _ => 0))) hx hb (hts (.arrayClass .int) (by decide +kernel)) rfl hK hP hD hS hA (fun _ => rfl) (by decide) (by decide) (by decide) (Nat.le_of_ble_eq_true rfl) (Nat.le_of_ble_eq_true rfl) dX13_init_692 ?_
  clear hK hP hD hS
  intro qk8_13 cqk8_13 H hK hP hD hS
  refine W.widen (k := 79) (n := 511519) (Nat.le_of_ble_eq_true rfl) (Nat.le_of_ble_eq_true rfl) ?_
  replace hP := hP.sub (ws' := [(h0, .inr (13, fsk8_12)), (qk0_1, .inl (cqk0_1, 6000, .inl (fun _ => 0))), (qk0_5, .inl (cqk0_5, 3008, .inl (fun _ => 0))), (qk0_7, .inl (cqk0_7, 3002, .inl (fun _ => 0))), (qk0_9, .inl (cqk0_9, 3002, .inl (fun _ => 0))), (qk0_11, .inl (cqk0_11, 3002, .inl (fun _ => 0))), (qk7_11, .inl (cqk7_11, 8, .inl (fun _ => 0)))]) [0, 1, 2, 3, 4, 5, 6] rfl
  replace hD := hD.sub (ws' := [(h0, .inr (13, fsk8_12)), (qk0_1, .inl (cqk0_1, 6000, .inl (fun _ => 0))), (qk0_5, .inl (cqk0_5, 3008, .inl (fun _ => 0))), (qk0_7, .inl (cqk0_7, 3002, .inl (fun _ => 0))), (qk0_9, .inl (cqk0_9, 3002, .inl (fun _ => 0))), (qk0_11, .inl (cqk0_11, 3002, .inl (fun _ => 0))), (qk7_11, .inl (cqk7_11, 8, .inl (fun _ => 0)))]) [0, 1, 2, 3, 4, 5, 6] (by decide) rfl
  replace hK := hK.sub (tys' := [(cqk0_1, .int), (cqk0_5, .int), (cqk0_7, .int), (cqk0_9, .int), (cqk0_11, .int), (cqk7_11, .int)]) [0, 1, 2, 3, 4, 5] rfl
  refine va_putF (D := (dC, dI)) (ci := 13) (v := .ref qk8_13) (ty := .array .int) (C := RX13) (T := TX13) (N := 155) hx hb hts uX13_init_X13 tyX13 tyX13_ok nmX13 hown hK hP hD hS 0 rfl rfl 116 (by decide) (hts (.fieldLink RX13 248 "ClassMillModel" "kept" "[I") (by decide +kernel)) (fun _ h9 => h9) rfl hin rfl (by decide +kernel) rfl rfl (by rw [hlfsk8_12]; decide) dX13_init_694 ?_
  clear hP hD hS
  intro H locs hP hD hS
  obtain ⟨fsk8_14, efsk8_14⟩ : ∃ zf : List Value, zf = fsk8_12.set 116 (.ref qk8_13) := ⟨_, rfl⟩
  rw [← efsk8_14] at hP hD
  have hlfsk8_14 : fsk8_14.length = 155 := by rw [efsk8_14, List.length_set]; exact hlfsk8_12
  clear hlfsk8_12
  replace hP : va_P (dC, dI) vwCl [(h0, .inr (13, fsk8_14)), (qk0_1, .inl (cqk0_1, 6000, .inl (fun _ => 0))), (qk0_5, .inl (cqk0_5, 3008, .inl (fun _ => 0))), (qk0_7, .inl (cqk0_7, 3002, .inl (fun _ => 0))), (qk0_9, .inl (cqk0_9, 3002, .inl (fun _ => 0))), (qk0_11, .inl (cqk0_11, 3002, .inl (fun _ => 0))), (qk7_11, .inl (cqk7_11, 8, .inl (fun _ => 0)))] H := hP
  replace hD : va_D A [(h0, .inr (13, fsk8_14)), (qk0_1, .inl (cqk0_1, 6000, .inl (fun _ => 0))), (qk0_5, .inl (cqk0_5, 3008, .inl (fun _ => 0))), (qk0_7, .inl (cqk0_7, 3002, .inl (fun _ => 0))), (qk0_9, .inl (cqk0_9, 3002, .inl (fun _ => 0))), (qk0_11, .inl (cqk0_11, 3002, .inl (fun _ => 0))), (qk7_11, .inl (cqk7_11, 8, .inl (fun _ => 0)))] := hD
  refine lv_aload_n hx hb dX13_init_697 rfl (lv_at hl 0 rfl) ?_
  refine lv_sipush (v := 2100) hx hb dX13_init_698 (by decide) ?_
  refine va_newa (atype := .int) (ty := .int) (N' := 2100) (a0 := (2100, .inl (fun _ => 0))) hx hb (hts (.arrayClass .int) (by decide +kernel)) rfl hK hP hD hS hA (fun _ => rfl) (by decide) (by decide) (by decide) (Nat.le_of_ble_eq_true rfl) (Nat.le_of_ble_eq_true rfl) dX13_init_701 ?_
  clear hK hP hD hS
  intro qk8_15 cqk8_15 H hK hP hD hS
  refine W.widen (k := 80) (n := 513619) (Nat.le_of_ble_eq_true rfl) (Nat.le_of_ble_eq_true rfl) ?_
  replace hP := hP.sub (ws' := [(h0, .inr (13, fsk8_14)), (qk0_1, .inl (cqk0_1, 6000, .inl (fun _ => 0))), (qk0_5, .inl (cqk0_5, 3008, .inl (fun _ => 0))), (qk0_7, .inl (cqk0_7, 3002, .inl (fun _ => 0))), (qk0_9, .inl (cqk0_9, 3002, .inl (fun _ => 0))), (qk0_11, .inl (cqk0_11, 3002, .inl (fun _ => 0))), (qk7_11, .inl (cqk7_11, 8, .inl (fun _ => 0)))]) [0, 1, 2, 3, 4, 5, 6] rfl
  replace hD := hD.sub (ws' := [(h0, .inr (13, fsk8_14)), (qk0_1, .inl (cqk0_1, 6000, .inl (fun _ => 0))), (qk0_5, .inl (cqk0_5, 3008, .inl (fun _ => 0))), (qk0_7, .inl (cqk0_7, 3002, .inl (fun _ => 0))), (qk0_9, .inl (cqk0_9, 3002, .inl (fun _ => 0))), (qk0_11, .inl (cqk0_11, 3002, .inl (fun _ => 0))), (qk7_11, .inl (cqk7_11, 8, .inl (fun _ => 0)))]) [0, 1, 2, 3, 4, 5, 6] (by decide) rfl
  replace hK := hK.sub (tys' := [(cqk0_1, .int), (cqk0_5, .int), (cqk0_7, .int), (cqk0_9, .int), (cqk0_11, .int), (cqk7_11, .int)]) [0, 1, 2, 3, 4, 5] rfl
  refine va_putF (D := (dC, dI)) (ci := 13) (v := .ref qk8_15) (ty := .array .int) (C := RX13) (T := TX13) (N := 155) hx hb hts uX13_init_X13 tyX13 tyX13_ok nmX13 hown hK hP hD hS 0 rfl rfl 118 (by decide) (hts (.fieldLink RX13 251 "ClassMillModel" "otherAt" "[I") (by decide +kernel)) (fun _ h9 => h9) rfl hin rfl (by decide +kernel) rfl rfl (by rw [hlfsk8_14]; decide) dX13_init_703 ?_
  clear hP hD hS
  intro H locs hP hD hS
  obtain ⟨fsk8_16, efsk8_16⟩ : ∃ zf : List Value, zf = fsk8_14.set 118 (.ref qk8_15) := ⟨_, rfl⟩
  rw [← efsk8_16] at hP hD
  have hlfsk8_16 : fsk8_16.length = 155 := by rw [efsk8_16, List.length_set]; exact hlfsk8_14
  clear hlfsk8_14
  replace hP : va_P (dC, dI) vwCl [(h0, .inr (13, fsk8_16)), (qk0_1, .inl (cqk0_1, 6000, .inl (fun _ => 0))), (qk0_5, .inl (cqk0_5, 3008, .inl (fun _ => 0))), (qk0_7, .inl (cqk0_7, 3002, .inl (fun _ => 0))), (qk0_9, .inl (cqk0_9, 3002, .inl (fun _ => 0))), (qk0_11, .inl (cqk0_11, 3002, .inl (fun _ => 0))), (qk7_11, .inl (cqk7_11, 8, .inl (fun _ => 0)))] H := hP
  replace hD : va_D A [(h0, .inr (13, fsk8_16)), (qk0_1, .inl (cqk0_1, 6000, .inl (fun _ => 0))), (qk0_5, .inl (cqk0_5, 3008, .inl (fun _ => 0))), (qk0_7, .inl (cqk0_7, 3002, .inl (fun _ => 0))), (qk0_9, .inl (cqk0_9, 3002, .inl (fun _ => 0))), (qk0_11, .inl (cqk0_11, 3002, .inl (fun _ => 0))), (qk7_11, .inl (cqk7_11, 8, .inl (fun _ => 0)))] := hD
  refine lv_aload_n hx hb dX13_init_706 rfl (lv_at hl 0 rfl) ?_
  refine lv_sipush (v := 2100) hx hb dX13_init_707 (by decide) ?_
  refine va_newa (atype := .int) (ty := .int) (N' := 2100) (a0 := (2100, .inl (fun _ => 0))) hx hb (hts (.arrayClass .int) (by decide +kernel)) rfl hK hP hD hS hA (fun _ => rfl) (by decide) (by decide) (by decide) (Nat.le_of_ble_eq_true rfl) (Nat.le_of_ble_eq_true rfl) dX13_init_710 ?_
  clear hK hP hD hS
  intro qk8_17 cqk8_17 H hK hP hD hS
  refine W.widen (k := 81) (n := 515719) (Nat.le_of_ble_eq_true rfl) (Nat.le_of_ble_eq_true rfl) ?_
  replace hP := hP.sub (ws' := [(h0, .inr (13, fsk8_16)), (qk0_1, .inl (cqk0_1, 6000, .inl (fun _ => 0))), (qk0_5, .inl (cqk0_5, 3008, .inl (fun _ => 0))), (qk0_7, .inl (cqk0_7, 3002, .inl (fun _ => 0))), (qk0_9, .inl (cqk0_9, 3002, .inl (fun _ => 0))), (qk0_11, .inl (cqk0_11, 3002, .inl (fun _ => 0))), (qk7_11, .inl (cqk7_11, 8, .inl (fun _ => 0)))]) [0, 1, 2, 3, 4, 5, 6] rfl
  replace hD := hD.sub (ws' := [(h0, .inr (13, fsk8_16)), (qk0_1, .inl (cqk0_1, 6000, .inl (fun _ => 0))), (qk0_5, .inl (cqk0_5, 3008, .inl (fun _ => 0))), (qk0_7, .inl (cqk0_7, 3002, .inl (fun _ => 0))), (qk0_9, .inl (cqk0_9, 3002, .inl (fun _ => 0))), (qk0_11, .inl (cqk0_11, 3002, .inl (fun _ => 0))), (qk7_11, .inl (cqk7_11, 8, .inl (fun _ => 0)))]) [0, 1, 2, 3, 4, 5, 6] (by decide) rfl
  replace hK := hK.sub (tys' := [(cqk0_1, .int), (cqk0_5, .int), (cqk0_7, .int), (cqk0_9, .int), (cqk0_11, .int), (cqk7_11, .int)]) [0, 1, 2, 3, 4, 5] rfl
  refine va_putF (D := (dC, dI)) (ci := 13) (v := .ref qk8_17) (ty := .array .int) (C := RX13) (T := TX13) (N := 155) hx hb hts uX13_init_X13 tyX13 tyX13_ok nmX13 hown hK hP hD hS 0 rfl rfl 119 (by decide) (hts (.fieldLink RX13 254 "ClassMillModel" "otherSize" "[I") (by decide +kernel)) (fun _ h9 => h9) rfl hin rfl (by decide +kernel) rfl rfl (by rw [hlfsk8_16]; decide) dX13_init_712 ?_
  clear hP hD hS
  intro H locs hP hD hS
  obtain ⟨fsk8_18, efsk8_18⟩ : ∃ zf : List Value, zf = fsk8_16.set 119 (.ref qk8_17) := ⟨_, rfl⟩
  rw [← efsk8_18] at hP hD
  have hlfsk8_18 : fsk8_18.length = 155 := by rw [efsk8_18, List.length_set]; exact hlfsk8_16
  clear hlfsk8_16
  replace hP : va_P (dC, dI) vwCl [(h0, .inr (13, fsk8_18)), (qk0_1, .inl (cqk0_1, 6000, .inl (fun _ => 0))), (qk0_5, .inl (cqk0_5, 3008, .inl (fun _ => 0))), (qk0_7, .inl (cqk0_7, 3002, .inl (fun _ => 0))), (qk0_9, .inl (cqk0_9, 3002, .inl (fun _ => 0))), (qk0_11, .inl (cqk0_11, 3002, .inl (fun _ => 0))), (qk7_11, .inl (cqk7_11, 8, .inl (fun _ => 0)))] H := hP
  replace hD : va_D A [(h0, .inr (13, fsk8_18)), (qk0_1, .inl (cqk0_1, 6000, .inl (fun _ => 0))), (qk0_5, .inl (cqk0_5, 3008, .inl (fun _ => 0))), (qk0_7, .inl (cqk0_7, 3002, .inl (fun _ => 0))), (qk0_9, .inl (cqk0_9, 3002, .inl (fun _ => 0))), (qk0_11, .inl (cqk0_11, 3002, .inl (fun _ => 0))), (qk7_11, .inl (cqk7_11, 8, .inl (fun _ => 0)))] := hD
  exact kk qk8_1 qk8_3 qk8_5 qk8_7 qk8_9 qk8_11 qk8_13 qk8_15 qk8_17  fsk8_18 H locs hlfsk8_18 (by rw [efsk8_18, efsk8_16, efsk8_14, efsk8_12, efsk8_10, efsk8_8, efsk8_6, efsk8_4, efsk8_2]) hK hP hD hS
set_option maxHeartbeats 4000000 in
set_option maxRecDepth 100000 in
theorem ck_model9 {p : Program} {l : Launch} {e : Env} {s : State} {m : MethodId} {args : Array Value} {below : List Frame} {meth : Method} {c : Code} {Q : State → Prop} {A : Nat → Prop} {H0 : Heap} {dC : Nat → ClassId} {dI : Nat → Nat → Nat} (hx : p.tables.exec = Jvm.exec) (hb : c.code = cX13_init) (hown : s.vm.findClass RX13 = some m.cls) (hin : meth.name = "<init>") (hts : ∀ w ∈ wsX13_init, w.before args s = true) (hA : ∀ q : Nat, H0.size ≤ q → A q) {h0 qk0_1 qk0_5 qk0_7 qk0_9 qk0_11 qk7_11 : Nat} {cqk0_1 cqk0_5 cqk0_7 cqk0_9 cqk0_11 cqk7_11 : ClassId} {fs : List Value} {H : Heap} {locs : List Loc} {ls : Array Slot} (hlen : fs.length = 155) (hK : va_K (dC, dI) vwCl [(cqk0_1, .int), (cqk0_5, .int), (cqk0_7, .int), (cqk0_9, .int), (cqk0_11, .int), (cqk7_11, .int)] s) (hP : va_P (dC, dI) vwCl [(h0, .inr (13, fs)), (qk0_1, .inl (cqk0_1, 6000, .inl (fun _ => 0))), (qk0_5, .inl (cqk0_5, 3008, .inl (fun _ => 0))), (qk0_7, .inl (cqk0_7, 3002, .inl (fun _ => 0))), (qk0_9, .inl (cqk0_9, 3002, .inl (fun _ => 0))), (qk0_11, .inl (cqk0_11, 3002, .inl (fun _ => 0))), (qk7_11, .inl (cqk7_11, 8, .inl (fun _ => 0)))] H) (hD : va_D A [(h0, .inr (13, fs)), (qk0_1, .inl (cqk0_1, 6000, .inl (fun _ => 0))), (qk0_5, .inl (cqk0_5, 3008, .inl (fun _ => 0))), (qk0_7, .inl (cqk0_7, 3002, .inl (fun _ => 0))), (qk0_9, .inl (cqk0_9, 3002, .inl (fun _ => 0))), (qk0_11, .inl (cqk0_11, 3002, .inl (fun _ => 0))), (qk7_11, .inl (cqk7_11, 8, .inl (fun _ => 0)))]) (hS : va_S A H0 H locs) (hl : lv_has ls 1 [(0, .ref h0)]) (kk : ∀ (qk9_4 qk9_6 qk9_8 qk9_10 qk9_12 qk9_14 : Nat) (fs2 : List Value) (H : Heap) (locs : List Loc), fs2.length = 155 → fs2 = (((((((((fs.set 123 (.int (-1))).set 124 (.int (-1))).set 125 (.int (-1))).set 126 (.ref qk9_4)).set 127 (.ref qk9_6)).set 128 (.ref qk9_8)).set 137 (.ref qk9_10)).set 144 (.ref qk9_12)).set 145 (.ref qk9_14)) → va_K (dC, dI) vwCl [(cqk0_1, .int), (cqk0_5, .int), (cqk0_7, .int), (cqk0_9, .int), (cqk0_11, .int), (cqk7_11, .int)] s → va_P (dC, dI) vwCl [(h0, .inr (13, fs2)), (qk0_1, .inl (cqk0_1, 6000, .inl (fun _ => 0))), (qk0_5, .inl (cqk0_5, 3008, .inl (fun _ => 0))), (qk0_7, .inl (cqk0_7, 3002, .inl (fun _ => 0))), (qk0_9, .inl (cqk0_9, 3002, .inl (fun _ => 0))), (qk0_11, .inl (cqk0_11, 3002, .inl (fun _ => 0))), (qk7_11, .inl (cqk7_11, 8, .inl (fun _ => 0)))] H → va_D A [(h0, .inr (13, fs2)), (qk0_1, .inl (cqk0_1, 6000, .inl (fun _ => 0))), (qk0_5, .inl (cqk0_5, 3008, .inl (fun _ => 0))), (qk0_7, .inl (cqk0_7, 3002, .inl (fun _ => 0))), (qk0_9, .inl (cqk0_9, 3002, .inl (fun _ => 0))), (qk0_11, .inl (cqk0_11, 3002, .inl (fun _ => 0))), (qk7_11, .inl (cqk7_11, 8, .inl (fun _ => 0)))] → va_S A H0 H locs → W p l e ({ frames := 2, cells := 95, slots := 548130, locals := 60 } : Room) s m args below meth c H locs 87 521289 Q (F0 m 781 ls [])) : W p l e ({ frames := 2, cells := 95, slots := 548130, locals := 60 } : Room) s m args below meth c H locs 81 515719 Q (F0 m 715 ls []) := by
  refine lv_aload_n hx hb dX13_init_715 rfl (lv_at hl 0 rfl) ?_
  refine lv_iconst (v := (-1)) hx hb dX13_init_716 (by decide) ?_
  refine va_put (D := (dC, dI)) (ci := 13) (v := .int (-1)) (ty := .int) (C := RX13) (T := TX13) (N := 155) hx hb hts uX13_init_X13 tyX13 tyX13_ok nmX13 hown hK hP hD hS 0 rfl rfl 123 (by decide) (hts (.fieldLink RX13 257 "ClassMillModel" "whyClass" "I") (by decide +kernel)) (fun _ h9 => h9) rfl (by decide +kernel) rfl rfl (by rw [hlen]; decide) dX13_init_717 ?_
  clear hP hD hS
  intro H locs hP hD hS
  obtain ⟨fsk9_1, efsk9_1⟩ : ∃ zf : List Value, zf = fs.set 123 (.int (-1)) := ⟨_, rfl⟩
  rw [← efsk9_1] at hP hD
  have hlfsk9_1 : fsk9_1.length = 155 := by rw [efsk9_1, List.length_set]; exact hlen
  clear hlen
  replace hP : va_P (dC, dI) vwCl [(h0, .inr (13, fsk9_1)), (qk0_1, .inl (cqk0_1, 6000, .inl (fun _ => 0))), (qk0_5, .inl (cqk0_5, 3008, .inl (fun _ => 0))), (qk0_7, .inl (cqk0_7, 3002, .inl (fun _ => 0))), (qk0_9, .inl (cqk0_9, 3002, .inl (fun _ => 0))), (qk0_11, .inl (cqk0_11, 3002, .inl (fun _ => 0))), (qk7_11, .inl (cqk7_11, 8, .inl (fun _ => 0)))] H := hP
  replace hD : va_D A [(h0, .inr (13, fsk9_1)), (qk0_1, .inl (cqk0_1, 6000, .inl (fun _ => 0))), (qk0_5, .inl (cqk0_5, 3008, .inl (fun _ => 0))), (qk0_7, .inl (cqk0_7, 3002, .inl (fun _ => 0))), (qk0_9, .inl (cqk0_9, 3002, .inl (fun _ => 0))), (qk0_11, .inl (cqk0_11, 3002, .inl (fun _ => 0))), (qk7_11, .inl (cqk7_11, 8, .inl (fun _ => 0)))] := hD
  refine lv_aload_n hx hb dX13_init_720 rfl (lv_at hl 0 rfl) ?_
  refine lv_iconst (v := (-1)) hx hb dX13_init_721 (by decide) ?_
  refine va_put (D := (dC, dI)) (ci := 13) (v := .int (-1)) (ty := .int) (C := RX13) (T := TX13) (N := 155) hx hb hts uX13_init_X13 tyX13 tyX13_ok nmX13 hown hK hP hD hS 0 rfl rfl 124 (by decide) (hts (.fieldLink RX13 261 "ClassMillModel" "whyMethod" "I") (by decide +kernel)) (fun _ h9 => h9) rfl (by decide +kernel) rfl rfl (by rw [hlfsk9_1]; decide) dX13_init_722 ?_
  clear hP hD hS
  intro H locs hP hD hS
  obtain ⟨fsk9_2, efsk9_2⟩ : ∃ zf : List Value, zf = fsk9_1.set 124 (.int (-1)) := ⟨_, rfl⟩
  rw [← efsk9_2] at hP hD
  have hlfsk9_2 : fsk9_2.length = 155 := by rw [efsk9_2, List.length_set]; exact hlfsk9_1
  clear hlfsk9_1
  replace hP : va_P (dC, dI) vwCl [(h0, .inr (13, fsk9_2)), (qk0_1, .inl (cqk0_1, 6000, .inl (fun _ => 0))), (qk0_5, .inl (cqk0_5, 3008, .inl (fun _ => 0))), (qk0_7, .inl (cqk0_7, 3002, .inl (fun _ => 0))), (qk0_9, .inl (cqk0_9, 3002, .inl (fun _ => 0))), (qk0_11, .inl (cqk0_11, 3002, .inl (fun _ => 0))), (qk7_11, .inl (cqk7_11, 8, .inl (fun _ => 0)))] H := hP
  replace hD : va_D A [(h0, .inr (13, fsk9_2)), (qk0_1, .inl (cqk0_1, 6000, .inl (fun _ => 0))), (qk0_5, .inl (cqk0_5, 3008, .inl (fun _ => 0))), (qk0_7, .inl (cqk0_7, 3002, .inl (fun _ => 0))), (qk0_9, .inl (cqk0_9, 3002, .inl (fun _ => 0))), (qk0_11, .inl (cqk0_11, 3002, .inl (fun _ => 0))), (qk7_11, .inl (cqk7_11, 8, .inl (fun _ => 0)))] := hD
  refine lv_aload_n hx hb dX13_init_725 rfl (lv_at hl 0 rfl) ?_
  refine lv_iconst (v := (-1)) hx hb dX13_init_726 (by decide) ?_
  refine va_put (D := (dC, dI)) (ci := 13) (v := .int (-1)) (ty := .int) (C := RX13) (T := TX13) (N := 155) hx hb hts uX13_init_X13 tyX13 tyX13_ok nmX13 hown hK hP hD hS 0 rfl rfl 125 (by decide) (hts (.fieldLink RX13 264 "ClassMillModel" "whyPlace" "I") (by decide +kernel)) (fun _ h9 => h9) rfl (by decide +kernel) rfl rfl (by rw [hlfsk9_2]; decide) dX13_init_727 ?_
  clear hP hD hS
  intro H locs hP hD hS
  obtain ⟨fsk9_3, efsk9_3⟩ : ∃ zf : List Value, zf = fsk9_2.set 125 (.int (-1)) := ⟨_, rfl⟩
  rw [← efsk9_3] at hP hD
  have hlfsk9_3 : fsk9_3.length = 155 := by rw [efsk9_3, List.length_set]; exact hlfsk9_2
  clear hlfsk9_2
  replace hP : va_P (dC, dI) vwCl [(h0, .inr (13, fsk9_3)), (qk0_1, .inl (cqk0_1, 6000, .inl (fun _ => 0))), (qk0_5, .inl (cqk0_5, 3008, .inl (fun _ => 0))), (qk0_7, .inl (cqk0_7, 3002, .inl (fun _ => 0))), (qk0_9, .inl (cqk0_9, 3002, .inl (fun _ => 0))), (qk0_11, .inl (cqk0_11, 3002, .inl (fun _ => 0))), (qk7_11, .inl (cqk7_11, 8, .inl (fun _ => 0)))] H := hP
  replace hD : va_D A [(h0, .inr (13, fsk9_3)), (qk0_1, .inl (cqk0_1, 6000, .inl (fun _ => 0))), (qk0_5, .inl (cqk0_5, 3008, .inl (fun _ => 0))), (qk0_7, .inl (cqk0_7, 3002, .inl (fun _ => 0))), (qk0_9, .inl (cqk0_9, 3002, .inl (fun _ => 0))), (qk0_11, .inl (cqk0_11, 3002, .inl (fun _ => 0))), (qk7_11, .inl (cqk7_11, 8, .inl (fun _ => 0)))] := hD
  refine lv_aload_n hx hb dX13_init_730 rfl (lv_at hl 0 rfl) ?_
  refine lv_sipush (v := 1501) hx hb dX13_init_731 (by decide) ?_
  refine va_newa (atype := .boolean) (ty := .boolean) (N' := 1501) (a0 := (1501, .inl (fun _ => 0))) hx hb (hts (.arrayClass .boolean) (by decide +kernel)) rfl hK hP hD hS hA (fun _ => rfl) (by decide) (by decide) (by decide) (Nat.le_of_ble_eq_true rfl) (Nat.le_of_ble_eq_true rfl) dX13_init_734 ?_
  clear hK hP hD hS
  intro qk9_4 cqk9_4 H hK hP hD hS
  refine W.widen (k := 82) (n := 517220) (Nat.le_of_ble_eq_true rfl) (Nat.le_of_ble_eq_true rfl) ?_
  replace hP := hP.sub (ws' := [(h0, .inr (13, fsk9_3)), (qk0_1, .inl (cqk0_1, 6000, .inl (fun _ => 0))), (qk0_5, .inl (cqk0_5, 3008, .inl (fun _ => 0))), (qk0_7, .inl (cqk0_7, 3002, .inl (fun _ => 0))), (qk0_9, .inl (cqk0_9, 3002, .inl (fun _ => 0))), (qk0_11, .inl (cqk0_11, 3002, .inl (fun _ => 0))), (qk7_11, .inl (cqk7_11, 8, .inl (fun _ => 0)))]) [0, 1, 2, 3, 4, 5, 6] rfl
  replace hD := hD.sub (ws' := [(h0, .inr (13, fsk9_3)), (qk0_1, .inl (cqk0_1, 6000, .inl (fun _ => 0))), (qk0_5, .inl (cqk0_5, 3008, .inl (fun _ => 0))), (qk0_7, .inl (cqk0_7, 3002, .inl (fun _ => 0))), (qk0_9, .inl (cqk0_9, 3002, .inl (fun _ => 0))), (qk0_11, .inl (cqk0_11, 3002, .inl (fun _ => 0))), (qk7_11, .inl (cqk7_11, 8, .inl (fun _ => 0)))]) [0, 1, 2, 3, 4, 5, 6] (by decide) rfl
  replace hK := hK.sub (tys' := [(cqk0_1, .int), (cqk0_5, .int), (cqk0_7, .int), (cqk0_9, .int), (cqk0_11, .int), (cqk7_11, .int)]) [0, 1, 2, 3, 4, 5] rfl
  refine va_putF (D := (dC, dI)) (ci := 13) (v := .ref qk9_4) (ty := .array .boolean) (C := RX13) (T := TX13) (N := 155) hx hb hts uX13_init_X13 tyX13 tyX13_ok nmX13 hown hK hP hD hS 0 rfl rfl 126 (by decide) (hts (.fieldLink RX13 267 "ClassMillModel" "begins" "[Z") (by decide +kernel)) (fun _ h9 => h9) rfl hin rfl (by decide +kernel) rfl rfl (by rw [hlfsk9_3]; decide) dX13_init_736 ?_
  clear hP hD hS
  intro H locs hP hD hS
  obtain ⟨fsk9_5, efsk9_5⟩ : ∃ zf : List Value, zf = fsk9_3.set 126 (.ref qk9_4) := ⟨_, rfl⟩
  rw [← efsk9_5] at hP hD
  have hlfsk9_5 : fsk9_5.length = 155 := by rw [efsk9_5, List.length_set]; exact hlfsk9_3
  clear hlfsk9_3
  replace hP : va_P (dC, dI) vwCl [(h0, .inr (13, fsk9_5)), (qk0_1, .inl (cqk0_1, 6000, .inl (fun _ => 0))), (qk0_5, .inl (cqk0_5, 3008, .inl (fun _ => 0))), (qk0_7, .inl (cqk0_7, 3002, .inl (fun _ => 0))), (qk0_9, .inl (cqk0_9, 3002, .inl (fun _ => 0))), (qk0_11, .inl (cqk0_11, 3002, .inl (fun _ => 0))), (qk7_11, .inl (cqk7_11, 8, .inl (fun _ => 0)))] H := hP
  replace hD : va_D A [(h0, .inr (13, fsk9_5)), (qk0_1, .inl (cqk0_1, 6000, .inl (fun _ => 0))), (qk0_5, .inl (cqk0_5, 3008, .inl (fun _ => 0))), (qk0_7, .inl (cqk0_7, 3002, .inl (fun _ => 0))), (qk0_9, .inl (cqk0_9, 3002, .inl (fun _ => 0))), (qk0_11, .inl (cqk0_11, 3002, .inl (fun _ => 0))), (qk7_11, .inl (cqk7_11, 8, .inl (fun _ => 0)))] := hD
  refine lv_aload_n hx hb dX13_init_739 rfl (lv_at hl 0 rfl) ?_
  refine lv_bipush (v := 30) hx hb dX13_init_740 (by decide) ?_
  refine va_newa (atype := .int) (ty := .int) (N' := 30) (a0 := (30, .inl (fun _ => 0))) hx hb (hts (.arrayClass .int) (by decide +kernel)) rfl hK hP hD hS hA (fun _ => rfl) (by decide) (by decide) (by decide) (Nat.le_of_ble_eq_true rfl) (Nat.le_of_ble_eq_true rfl) dX13_init_742 ?_
  clear hK hP hD hS
  intro qk9_6 cqk9_6 H hK hP hD hS
  refine W.widen (k := 83) (n := 517250) (Nat.le_of_ble_eq_true rfl) (Nat.le_of_ble_eq_true rfl) ?_
  replace hP := hP.sub (ws' := [(h0, .inr (13, fsk9_5)), (qk0_1, .inl (cqk0_1, 6000, .inl (fun _ => 0))), (qk0_5, .inl (cqk0_5, 3008, .inl (fun _ => 0))), (qk0_7, .inl (cqk0_7, 3002, .inl (fun _ => 0))), (qk0_9, .inl (cqk0_9, 3002, .inl (fun _ => 0))), (qk0_11, .inl (cqk0_11, 3002, .inl (fun _ => 0))), (qk7_11, .inl (cqk7_11, 8, .inl (fun _ => 0)))]) [0, 1, 2, 3, 4, 5, 6] rfl
  replace hD := hD.sub (ws' := [(h0, .inr (13, fsk9_5)), (qk0_1, .inl (cqk0_1, 6000, .inl (fun _ => 0))), (qk0_5, .inl (cqk0_5, 3008, .inl (fun _ => 0))), (qk0_7, .inl (cqk0_7, 3002, .inl (fun _ => 0))), (qk0_9, .inl (cqk0_9, 3002, .inl (fun _ => 0))), (qk0_11, .inl (cqk0_11, 3002, .inl (fun _ => 0))), (qk7_11, .inl (cqk7_11, 8, .inl (fun _ => 0)))]) [0, 1, 2, 3, 4, 5, 6] (by decide) rfl
  replace hK := hK.sub (tys' := [(cqk0_1, .int), (cqk0_5, .int), (cqk0_7, .int), (cqk0_9, .int), (cqk0_11, .int), (cqk7_11, .int)]) [0, 1, 2, 3, 4, 5] rfl
  refine va_putF (D := (dC, dI)) (ci := 13) (v := .ref qk9_6) (ty := .array .int) (C := RX13) (T := TX13) (N := 155) hx hb hts uX13_init_X13 tyX13 tyX13_ok nmX13 hown hK hP hD hS 0 rfl rfl 127 (by decide) (hts (.fieldLink RX13 270 "ClassMillModel" "locals" "[I") (by decide +kernel)) (fun _ h9 => h9) rfl hin rfl (by decide +kernel) rfl rfl (by rw [hlfsk9_5]; decide) dX13_init_744 ?_
  clear hP hD hS
  intro H locs hP hD hS
  obtain ⟨fsk9_7, efsk9_7⟩ : ∃ zf : List Value, zf = fsk9_5.set 127 (.ref qk9_6) := ⟨_, rfl⟩
  rw [← efsk9_7] at hP hD
  have hlfsk9_7 : fsk9_7.length = 155 := by rw [efsk9_7, List.length_set]; exact hlfsk9_5
  clear hlfsk9_5
  replace hP : va_P (dC, dI) vwCl [(h0, .inr (13, fsk9_7)), (qk0_1, .inl (cqk0_1, 6000, .inl (fun _ => 0))), (qk0_5, .inl (cqk0_5, 3008, .inl (fun _ => 0))), (qk0_7, .inl (cqk0_7, 3002, .inl (fun _ => 0))), (qk0_9, .inl (cqk0_9, 3002, .inl (fun _ => 0))), (qk0_11, .inl (cqk0_11, 3002, .inl (fun _ => 0))), (qk7_11, .inl (cqk7_11, 8, .inl (fun _ => 0)))] H := hP
  replace hD : va_D A [(h0, .inr (13, fsk9_7)), (qk0_1, .inl (cqk0_1, 6000, .inl (fun _ => 0))), (qk0_5, .inl (cqk0_5, 3008, .inl (fun _ => 0))), (qk0_7, .inl (cqk0_7, 3002, .inl (fun _ => 0))), (qk0_9, .inl (cqk0_9, 3002, .inl (fun _ => 0))), (qk0_11, .inl (cqk0_11, 3002, .inl (fun _ => 0))), (qk7_11, .inl (cqk7_11, 8, .inl (fun _ => 0)))] := hD
  refine lv_aload_n hx hb dX13_init_747 rfl (lv_at hl 0 rfl) ?_
  refine lv_bipush (v := 31) hx hb dX13_init_748 (by decide) ?_
  refine va_newa (atype := .int) (ty := .int) (N' := 31) (a0 := (31, .inl (fun _ => 0))) hx hb (hts (.arrayClass .int) (by decide +kernel)) rfl hK hP hD hS hA (fun _ => rfl) (by decide) (by decide) (by decide) (Nat.le_of_ble_eq_true rfl) (Nat.le_of_ble_eq_true rfl) dX13_init_750 ?_
  clear hK hP hD hS
  intro qk9_8 cqk9_8 H hK hP hD hS
  refine W.widen (k := 84) (n := 517281) (Nat.le_of_ble_eq_true rfl) (Nat.le_of_ble_eq_true rfl) ?_
  replace hP := hP.sub (ws' := [(h0, .inr (13, fsk9_7)), (qk0_1, .inl (cqk0_1, 6000, .inl (fun _ => 0))), (qk0_5, .inl (cqk0_5, 3008, .inl (fun _ => 0))), (qk0_7, .inl (cqk0_7, 3002, .inl (fun _ => 0))), (qk0_9, .inl (cqk0_9, 3002, .inl (fun _ => 0))), (qk0_11, .inl (cqk0_11, 3002, .inl (fun _ => 0))), (qk7_11, .inl (cqk7_11, 8, .inl (fun _ => 0)))]) [0, 1, 2, 3, 4, 5, 6] rfl
  replace hD := hD.sub (ws' := [(h0, .inr (13, fsk9_7)), (qk0_1, .inl (cqk0_1, 6000, .inl (fun _ => 0))), (qk0_5, .inl (cqk0_5, 3008, .inl (fun _ => 0))), (qk0_7, .inl (cqk0_7, 3002, .inl (fun _ => 0))), (qk0_9, .inl (cqk0_9, 3002, .inl (fun _ => 0))), (qk0_11, .inl (cqk0_11, 3002, .inl (fun _ => 0))), (qk7_11, .inl (cqk7_11, 8, .inl (fun _ => 0)))]) [0, 1, 2, 3, 4, 5, 6] (by decide) rfl
  replace hK := hK.sub (tys' := [(cqk0_1, .int), (cqk0_5, .int), (cqk0_7, .int), (cqk0_9, .int), (cqk0_11, .int), (cqk7_11, .int)]) [0, 1, 2, 3, 4, 5] rfl
  refine va_putF (D := (dC, dI)) (ci := 13) (v := .ref qk9_8) (ty := .array .int) (C := RX13) (T := TX13) (N := 155) hx hb hts uX13_init_X13 tyX13 tyX13_ok nmX13 hown hK hP hD hS 0 rfl rfl 128 (by decide) (hts (.fieldLink RX13 273 "ClassMillModel" "stack" "[I") (by decide +kernel)) (fun _ h9 => h9) rfl hin rfl (by decide +kernel) rfl rfl (by rw [hlfsk9_7]; decide) dX13_init_752 ?_
  clear hP hD hS
  intro H locs hP hD hS
  obtain ⟨fsk9_9, efsk9_9⟩ : ∃ zf : List Value, zf = fsk9_7.set 128 (.ref qk9_8) := ⟨_, rfl⟩
  rw [← efsk9_9] at hP hD
  have hlfsk9_9 : fsk9_9.length = 155 := by rw [efsk9_9, List.length_set]; exact hlfsk9_7
  clear hlfsk9_7
  replace hP : va_P (dC, dI) vwCl [(h0, .inr (13, fsk9_9)), (qk0_1, .inl (cqk0_1, 6000, .inl (fun _ => 0))), (qk0_5, .inl (cqk0_5, 3008, .inl (fun _ => 0))), (qk0_7, .inl (cqk0_7, 3002, .inl (fun _ => 0))), (qk0_9, .inl (cqk0_9, 3002, .inl (fun _ => 0))), (qk0_11, .inl (cqk0_11, 3002, .inl (fun _ => 0))), (qk7_11, .inl (cqk7_11, 8, .inl (fun _ => 0)))] H := hP
  replace hD : va_D A [(h0, .inr (13, fsk9_9)), (qk0_1, .inl (cqk0_1, 6000, .inl (fun _ => 0))), (qk0_5, .inl (cqk0_5, 3008, .inl (fun _ => 0))), (qk0_7, .inl (cqk0_7, 3002, .inl (fun _ => 0))), (qk0_9, .inl (cqk0_9, 3002, .inl (fun _ => 0))), (qk0_11, .inl (cqk0_11, 3002, .inl (fun _ => 0))), (qk7_11, .inl (cqk7_11, 8, .inl (fun _ => 0)))] := hD
  refine lv_aload_n hx hb dX13_init_755 rfl (lv_at hl 0 rfl) ?_
  refine lv_bipush (v := 6) hx hb dX13_init_756 (by decide) ?_
  refine va_newa (atype := .int) (ty := .int) (N' := 6) (a0 := (6, .inl (fun _ => 0))) hx hb (hts (.arrayClass .int) (by decide +kernel)) rfl hK hP hD hS hA (fun _ => rfl) (by decide) (by decide) (by decide) (Nat.le_of_ble_eq_true rfl) (Nat.le_of_ble_eq_true rfl) dX13_init_758 ?_
  clear hK hP hD hS
  intro qk9_10 cqk9_10 H hK hP hD hS
  refine W.widen (k := 85) (n := 517287) (Nat.le_of_ble_eq_true rfl) (Nat.le_of_ble_eq_true rfl) ?_
  replace hP := hP.sub (ws' := [(h0, .inr (13, fsk9_9)), (qk0_1, .inl (cqk0_1, 6000, .inl (fun _ => 0))), (qk0_5, .inl (cqk0_5, 3008, .inl (fun _ => 0))), (qk0_7, .inl (cqk0_7, 3002, .inl (fun _ => 0))), (qk0_9, .inl (cqk0_9, 3002, .inl (fun _ => 0))), (qk0_11, .inl (cqk0_11, 3002, .inl (fun _ => 0))), (qk7_11, .inl (cqk7_11, 8, .inl (fun _ => 0)))]) [0, 1, 2, 3, 4, 5, 6] rfl
  replace hD := hD.sub (ws' := [(h0, .inr (13, fsk9_9)), (qk0_1, .inl (cqk0_1, 6000, .inl (fun _ => 0))), (qk0_5, .inl (cqk0_5, 3008, .inl (fun _ => 0))), (qk0_7, .inl (cqk0_7, 3002, .inl (fun _ => 0))), (qk0_9, .inl (cqk0_9, 3002, .inl (fun _ => 0))), (qk0_11, .inl (cqk0_11, 3002, .inl (fun _ => 0))), (qk7_11, .inl (cqk7_11, 8, .inl (fun _ => 0)))]) [0, 1, 2, 3, 4, 5, 6] (by decide) rfl
  replace hK := hK.sub (tys' := [(cqk0_1, .int), (cqk0_5, .int), (cqk0_7, .int), (cqk0_9, .int), (cqk0_11, .int), (cqk7_11, .int)]) [0, 1, 2, 3, 4, 5] rfl
  refine va_putF (D := (dC, dI)) (ci := 13) (v := .ref qk9_10) (ty := .array .int) (C := RX13) (T := TX13) (N := 155) hx hb hts uX13_init_X13 tyX13 tyX13_ok nmX13 hown hK hP hD hS 0 rfl rfl 137 (by decide) (hts (.fieldLink RX13 276 "ClassMillModel" "wants" "[I") (by decide +kernel)) (fun _ h9 => h9) rfl hin rfl (by decide +kernel) rfl rfl (by rw [hlfsk9_9]; decide) dX13_init_760 ?_
  clear hP hD hS
  intro H locs hP hD hS
  obtain ⟨fsk9_11, efsk9_11⟩ : ∃ zf : List Value, zf = fsk9_9.set 137 (.ref qk9_10) := ⟨_, rfl⟩
  rw [← efsk9_11] at hP hD
  have hlfsk9_11 : fsk9_11.length = 155 := by rw [efsk9_11, List.length_set]; exact hlfsk9_9
  clear hlfsk9_9
  replace hP : va_P (dC, dI) vwCl [(h0, .inr (13, fsk9_11)), (qk0_1, .inl (cqk0_1, 6000, .inl (fun _ => 0))), (qk0_5, .inl (cqk0_5, 3008, .inl (fun _ => 0))), (qk0_7, .inl (cqk0_7, 3002, .inl (fun _ => 0))), (qk0_9, .inl (cqk0_9, 3002, .inl (fun _ => 0))), (qk0_11, .inl (cqk0_11, 3002, .inl (fun _ => 0))), (qk7_11, .inl (cqk7_11, 8, .inl (fun _ => 0)))] H := hP
  replace hD : va_D A [(h0, .inr (13, fsk9_11)), (qk0_1, .inl (cqk0_1, 6000, .inl (fun _ => 0))), (qk0_5, .inl (cqk0_5, 3008, .inl (fun _ => 0))), (qk0_7, .inl (cqk0_7, 3002, .inl (fun _ => 0))), (qk0_9, .inl (cqk0_9, 3002, .inl (fun _ => 0))), (qk0_11, .inl (cqk0_11, 3002, .inl (fun _ => 0))), (qk7_11, .inl (cqk7_11, 8, .inl (fun _ => 0)))] := hD
  refine lv_aload_n hx hb dX13_init_763 rfl (lv_at hl 0 rfl) ?_
  refine lv_sipush (v := 2001) hx hb dX13_init_764 (by decide) ?_
  refine va_newa (atype := .int) (ty := .int) (N' := 2001) (a0 := (2001, .inl (fun _ => 0))) hx hb (hts (.arrayClass .int) (by decide +kernel)) rfl hK hP hD hS hA (fun _ => rfl) (by decide) (by decide) (by decide) (Nat.le_of_ble_eq_true rfl) (Nat.le_of_ble_eq_true rfl) dX13_init_767 ?_
  clear hK hP hD hS
  intro qk9_12 cqk9_12 H hK hP hD hS
  refine W.widen (k := 86) (n := 519288) (Nat.le_of_ble_eq_true rfl) (Nat.le_of_ble_eq_true rfl) ?_
  replace hP := hP.sub (ws' := [(h0, .inr (13, fsk9_11)), (qk0_1, .inl (cqk0_1, 6000, .inl (fun _ => 0))), (qk0_5, .inl (cqk0_5, 3008, .inl (fun _ => 0))), (qk0_7, .inl (cqk0_7, 3002, .inl (fun _ => 0))), (qk0_9, .inl (cqk0_9, 3002, .inl (fun _ => 0))), (qk0_11, .inl (cqk0_11, 3002, .inl (fun _ => 0))), (qk7_11, .inl (cqk7_11, 8, .inl (fun _ => 0)))]) [0, 1, 2, 3, 4, 5, 6] rfl
  replace hD := hD.sub (ws' := [(h0, .inr (13, fsk9_11)), (qk0_1, .inl (cqk0_1, 6000, .inl (fun _ => 0))), (qk0_5, .inl (cqk0_5, 3008, .inl (fun _ => 0))), (qk0_7, .inl (cqk0_7, 3002, .inl (fun _ => 0))), (qk0_9, .inl (cqk0_9, 3002, .inl (fun _ => 0))), (qk0_11, .inl (cqk0_11, 3002, .inl (fun _ => 0))), (qk7_11, .inl (cqk7_11, 8, .inl (fun _ => 0)))]) [0, 1, 2, 3, 4, 5, 6] (by decide) rfl
  replace hK := hK.sub (tys' := [(cqk0_1, .int), (cqk0_5, .int), (cqk0_7, .int), (cqk0_9, .int), (cqk0_11, .int), (cqk7_11, .int)]) [0, 1, 2, 3, 4, 5] rfl
  refine va_putF (D := (dC, dI)) (ci := 13) (v := .ref qk9_12) (ty := .array .int) (C := RX13) (T := TX13) (N := 155) hx hb hts uX13_init_X13 tyX13 tyX13_ok nmX13 hown hK hP hD hS 0 rfl rfl 144 (by decide) (hts (.fieldLink RX13 279 "ClassMillModel" "sort" "[I") (by decide +kernel)) (fun _ h9 => h9) rfl hin rfl (by decide +kernel) rfl rfl (by rw [hlfsk9_11]; decide) dX13_init_769 ?_
  clear hP hD hS
  intro H locs hP hD hS
  obtain ⟨fsk9_13, efsk9_13⟩ : ∃ zf : List Value, zf = fsk9_11.set 144 (.ref qk9_12) := ⟨_, rfl⟩
  rw [← efsk9_13] at hP hD
  have hlfsk9_13 : fsk9_13.length = 155 := by rw [efsk9_13, List.length_set]; exact hlfsk9_11
  clear hlfsk9_11
  replace hP : va_P (dC, dI) vwCl [(h0, .inr (13, fsk9_13)), (qk0_1, .inl (cqk0_1, 6000, .inl (fun _ => 0))), (qk0_5, .inl (cqk0_5, 3008, .inl (fun _ => 0))), (qk0_7, .inl (cqk0_7, 3002, .inl (fun _ => 0))), (qk0_9, .inl (cqk0_9, 3002, .inl (fun _ => 0))), (qk0_11, .inl (cqk0_11, 3002, .inl (fun _ => 0))), (qk7_11, .inl (cqk7_11, 8, .inl (fun _ => 0)))] H := hP
  replace hD : va_D A [(h0, .inr (13, fsk9_13)), (qk0_1, .inl (cqk0_1, 6000, .inl (fun _ => 0))), (qk0_5, .inl (cqk0_5, 3008, .inl (fun _ => 0))), (qk0_7, .inl (cqk0_7, 3002, .inl (fun _ => 0))), (qk0_9, .inl (cqk0_9, 3002, .inl (fun _ => 0))), (qk0_11, .inl (cqk0_11, 3002, .inl (fun _ => 0))), (qk7_11, .inl (cqk7_11, 8, .inl (fun _ => 0)))] := hD
  refine lv_aload_n hx hb dX13_init_772 rfl (lv_at hl 0 rfl) ?_
  refine lv_sipush (v := 2001) hx hb dX13_init_773 (by decide) ?_
  refine va_newa (atype := .int) (ty := .int) (N' := 2001) (a0 := (2001, .inl (fun _ => 0))) hx hb (hts (.arrayClass .int) (by decide +kernel)) rfl hK hP hD hS hA (fun _ => rfl) (by decide) (by decide) (by decide) (Nat.le_of_ble_eq_true rfl) (Nat.le_of_ble_eq_true rfl) dX13_init_776 ?_
  clear hK hP hD hS
  intro qk9_14 cqk9_14 H hK hP hD hS
  refine W.widen (k := 87) (n := 521289) (Nat.le_of_ble_eq_true rfl) (Nat.le_of_ble_eq_true rfl) ?_
  replace hP := hP.sub (ws' := [(h0, .inr (13, fsk9_13)), (qk0_1, .inl (cqk0_1, 6000, .inl (fun _ => 0))), (qk0_5, .inl (cqk0_5, 3008, .inl (fun _ => 0))), (qk0_7, .inl (cqk0_7, 3002, .inl (fun _ => 0))), (qk0_9, .inl (cqk0_9, 3002, .inl (fun _ => 0))), (qk0_11, .inl (cqk0_11, 3002, .inl (fun _ => 0))), (qk7_11, .inl (cqk7_11, 8, .inl (fun _ => 0)))]) [0, 1, 2, 3, 4, 5, 6] rfl
  replace hD := hD.sub (ws' := [(h0, .inr (13, fsk9_13)), (qk0_1, .inl (cqk0_1, 6000, .inl (fun _ => 0))), (qk0_5, .inl (cqk0_5, 3008, .inl (fun _ => 0))), (qk0_7, .inl (cqk0_7, 3002, .inl (fun _ => 0))), (qk0_9, .inl (cqk0_9, 3002, .inl (fun _ => 0))), (qk0_11, .inl (cqk0_11, 3002, .inl (fun _ => 0))), (qk7_11, .inl (cqk7_11, 8, .inl (fun _ => 0)))]) [0, 1, 2, 3, 4, 5, 6] (by decide) rfl
  replace hK := hK.sub (tys' := [(cqk0_1, .int), (cqk0_5, .int), (cqk0_7, .int), (cqk0_9, .int), (cqk0_11, .int), (cqk7_11, .int)]) [0, 1, 2, 3, 4, 5] rfl
  refine va_putF (D := (dC, dI)) (ci := 13) (v := .ref qk9_14) (ty := .array .int) (C := RX13) (T := TX13) (N := 155) hx hb hts uX13_init_X13 tyX13 tyX13_ok nmX13 hown hK hP hD hS 0 rfl rfl 145 (by decide) (hts (.fieldLink RX13 282 "ClassMillModel" "begin" "[I") (by decide +kernel)) (fun _ h9 => h9) rfl hin rfl (by decide +kernel) rfl rfl (by rw [hlfsk9_13]; decide) dX13_init_778 ?_
  clear hP hD hS
  intro H locs hP hD hS
  obtain ⟨fsk9_15, efsk9_15⟩ : ∃ zf : List Value, zf = fsk9_13.set 145 (.ref qk9_14) := ⟨_, rfl⟩
  rw [← efsk9_15] at hP hD
  have hlfsk9_15 : fsk9_15.length = 155 := by rw [efsk9_15, List.length_set]; exact hlfsk9_13
  clear hlfsk9_13
  replace hP : va_P (dC, dI) vwCl [(h0, .inr (13, fsk9_15)), (qk0_1, .inl (cqk0_1, 6000, .inl (fun _ => 0))), (qk0_5, .inl (cqk0_5, 3008, .inl (fun _ => 0))), (qk0_7, .inl (cqk0_7, 3002, .inl (fun _ => 0))), (qk0_9, .inl (cqk0_9, 3002, .inl (fun _ => 0))), (qk0_11, .inl (cqk0_11, 3002, .inl (fun _ => 0))), (qk7_11, .inl (cqk7_11, 8, .inl (fun _ => 0)))] H := hP
  replace hD : va_D A [(h0, .inr (13, fsk9_15)), (qk0_1, .inl (cqk0_1, 6000, .inl (fun _ => 0))), (qk0_5, .inl (cqk0_5, 3008, .inl (fun _ => 0))), (qk0_7, .inl (cqk0_7, 3002, .inl (fun _ => 0))), (qk0_9, .inl (cqk0_9, 3002, .inl (fun _ => 0))), (qk0_11, .inl (cqk0_11, 3002, .inl (fun _ => 0))), (qk7_11, .inl (cqk7_11, 8, .inl (fun _ => 0)))] := hD
  exact kk qk9_4 qk9_6 qk9_8 qk9_10 qk9_12 qk9_14  fsk9_15 H locs hlfsk9_15 (by rw [efsk9_15, efsk9_13, efsk9_11, efsk9_9, efsk9_7, efsk9_5, efsk9_3, efsk9_2, efsk9_1]) hK hP hD hS

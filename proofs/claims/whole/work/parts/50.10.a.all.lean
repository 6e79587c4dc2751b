/-- a field: its type, whether it is final, whose it is -/
def mx_fty (ci k : Nat) : Option (FieldType × Bool × String) := match vwCl[ci]? with
  | some q => if k < q.2.2 then (parseFieldDescriptor (q.2.1 k).2.2.1).map (fun ty => (ty, (q.2.1 k).2.2.2, (q.2.1 k).1)) else none
  | none => none
def mx_GG (X : Nat × (Nat → Int32)) : mx_G := (mx_mt, mx_res, mx_fty, X, mx_strs)
/-- what is known of the world outside: the texts, the links within the nest, arrays of images and of byte arrays, the script -/
def mx_Z (X : Nat × (Nat → Int32)) (A : Nat → Prop) (rh : Nat → Nat) (U : State) (H : Heap) : Prop :=
  (∀ k, k < 5 → (∃ av, pz_W (mx_bys.getD k []).length (mx_ft k) (rh (1000000000 + k)) av A U H) ∧ ∀ own ix tx, mx_sr k = some (own, ix, tx) → vk_R own ix tx (rh (1000000000 + k)) U) ∧
  (∀ own ix y, Cond.methodLinkNest own ix y "ClassMill" ∈ lw_tbl → va_Nw (.methodLinkNest own ix y "ClassMill") U) ∧ va_AO RX3 U ∧ pb_AB U ∧ va_Nw (.castable "[B" "java/lang/Cloneable") U ∧ va_X (rh 2000000000) X.1 X.2 U H ∧ rh 2000000000 < H.size ∧ ¬ A (rh 2000000000)
theorem mx_Zok (X : Nat × (Nat → Int32)) : mx_zOk (mx_Z X) := by
  refine ⟨?_, ?_, ?_, ?_, ?_⟩
  · intro A rh u U H hW ⟨h1, h2, h3, h4, h5, h6, h7, h8⟩
    refine ⟨fun k hk => ⟨?_, fun own ix tx ht => vk_R.warm hW ((h1 k hk).2 own ix tx ht)⟩, fun own ix y hy => va_Nw.warmM hW (h2 own ix y hy), va_AO.moved hW.alike h3, pb_AB.moved hW.alike h4, va_Nw.warmC hW h5, va_X.moved hW.alike h6, h7, h8⟩
    obtain ⟨av, h9⟩ := (h1 k hk).1
    exact ⟨av, pz_W.moved hW.alike h9⟩
  · intro A rh u U H hv ⟨h1, h2, h3, h4, h5, h6, h7, h8⟩
    have hal : u.vm.Alike U.vm := by rw [hv]; exact Vm.Alike.refl _
    refine ⟨fun k hk => ⟨?_, fun own ix tx ht => vk_R.same hv.symm ((h1 k hk).2 own ix tx ht)⟩, fun own ix y hy => va_Nw.same rfl hv (h2 own ix y hy), va_AO.moved hal h3, pb_AB.moved hal h4, va_Nw.same rfl hv h5, va_X.moved hal h6, h7, h8⟩
    obtain ⟨av, h9⟩ := (h1 k hk).1
    exact ⟨av, pz_W.moved hal h9⟩
  · intro A rh U H H1 hq ⟨h1, h2, h3, h4, h5, h6, h7, h8⟩
    have h10 := hq _ h7 h8
    refine ⟨fun k hk => ⟨?_, (h1 k hk).2⟩, h2, h3, h4, h5, h6.kept h10, ?_, h8⟩
    · obtain ⟨av, h9⟩ := (h1 k hk).1
      exact ⟨av, h9.kept hq⟩
    · obtain ⟨scr, h11, -⟩ := h6.kept h10
      exact (Array.getElem?_eq_some_iff.mp h11).1
  · intro A B rh U H hAB ⟨h1, h2, h3, h4, h5, h6, h7, h8⟩
    refine ⟨fun k hk => ⟨?_, (h1 k hk).2⟩, h2, h3, h4, h5, h6, h7, fun h => h8 (hAB _ h)⟩
    obtain ⟨av, h9⟩ := (h1 k hk).1
    exact ⟨av, h9.narrow hAB⟩
  · intro A rh rh2 U H hr ⟨h1, h2, h3, h4, h5, h6, h7, h8⟩
    have e1 := hr 2000000000 (by decide)
    refine ⟨fun k hk => ?_, h2, h3, h4, h5, by rw [e1]; exact h6, by rw [e1]; exact h7, by rw [e1]; exact h8⟩
    rw [hr (1000000000 + k) (Nat.le_add_right _ _)]
    exact h1 k hk
abbrev mx_cOk (q : vw_C) : Prop := (∀ w ∈ u_ws q.1 q.2.1 q.2.2, w ∈ mx_big) ∧ (∃ ty0 : Nat → FieldType, ∀ k, k < q.2.2 → parseFieldDescriptor (q.2.1 k).2.2.1 = some (ty0 k)) ∧ ∀ a, a < q.2.2 → ∀ b, b < q.2.2 → a ≠ b → (q.2.1 a).2.1 ≠ (q.2.1 b).2.1
theorem mx_ws_of {C : String} {T : u_T} {N : Nat} (h : ∀ k, k < N → u_lay C T k ∈ mx_big) : ∀ w ∈ u_ws C T N, w ∈ mx_big := by
  intro w hw
  obtain ⟨k, hk, rfl⟩ := List.mem_map.mp hw
  exact h k (List.mem_range.mp hk)
theorem mx_cAll : ∀ q ∈ vwCl, mx_cOk q := List.forall_mem_cons.mpr ⟨⟨mx_ws_of lk_X0, ⟨tyX0, tyX0_ok⟩, nmX0⟩, List.forall_mem_cons.mpr ⟨⟨mx_ws_of lk_X1, ⟨tyX1, tyX1_ok⟩, nmX1⟩, List.forall_mem_cons.mpr ⟨⟨mx_ws_of lk_X2, ⟨tyX2, tyX2_ok⟩, nmX2⟩, List.forall_mem_cons.mpr ⟨⟨mx_ws_of lk_X3, ⟨tyX3, tyX3_ok⟩, nmX3⟩, List.forall_mem_cons.mpr ⟨⟨mx_ws_of lk_X4, ⟨tyX4, tyX4_ok⟩, nmX4⟩, List.forall_mem_cons.mpr ⟨⟨mx_ws_of lk_X5, ⟨tyX5, tyX5_ok⟩, nmX5⟩, List.forall_mem_cons.mpr ⟨⟨mx_ws_of lk_X6, ⟨tyX6, tyX6_ok⟩, nmX6⟩, List.forall_mem_cons.mpr ⟨⟨mx_ws_of lk_X7, ⟨tyX7, tyX7_ok⟩, nmX7⟩, List.forall_mem_cons.mpr ⟨⟨mx_ws_of lk_X8, ⟨tyX8, tyX8_ok⟩, nmX8⟩, List.forall_mem_cons.mpr ⟨⟨mx_ws_of lk_X9, ⟨tyX9, tyX9_ok⟩, nmX9⟩, List.forall_mem_cons.mpr ⟨⟨mx_ws_of lk_X10, ⟨tyX10, tyX10_ok⟩, nmX10⟩, List.forall_mem_cons.mpr ⟨⟨mx_ws_of lk_X11, ⟨tyX11, tyX11_ok⟩, nmX11⟩, List.forall_mem_cons.mpr ⟨⟨mx_ws_of lk_X12, ⟨tyX12, tyX12_ok⟩, nmX12⟩, List.forall_mem_cons.mpr ⟨⟨mx_ws_of lk_X13, ⟨tyX13, tyX13_ok⟩, nmX13⟩, fun _ h => absurd h List.not_mem_nil⟩⟩⟩⟩⟩⟩⟩⟩⟩⟩⟩⟩⟩⟩
theorem mx_clR (X : Nat × (Nat → Int32)) : mx_clOk vwCl mx_big (mx_GG X) mx_cn := by
  intro ci C T N h
  obtain ⟨h1, ⟨ty0, h2⟩, h3⟩ := mx_cAll _ (List.mem_of_getElem? h)
  refine ⟨h1, ⟨ty0, h2, fun k q hq hk => ?_⟩, h3, fun C2 hc => ?_⟩
  · have hq : mx_fty ci k = some q := hq
    unfold mx_fty at hq
    rw [h] at hq
    dsimp only at hq
    rw [if_pos hk, h2 k hk] at hq
    cases hq
    rfl
  · unfold mx_cn at hc
    rw [h] at hc
    cases hc
    rfl
theorem mx_inL (ws : List Cond) (ps : List (Nat × Nat)) (hp : ws = ps.filterMap (fun q => (tb_b q.1)[q.2]?)) (hg : ws.all goodWord = true) : ∀ w ∈ ws, w ∈ mx_big := by
  intro w hw
  have h1 := List.all_eq_true.mp hg w hw
  rw [hp] at hw
  obtain ⟨q, -, hi⟩ := List.mem_filterMap.mp hw
  exact mx_bigI (tb_bi q.1 w (List.mem_of_getElem? hi)) h1
set_option maxRecDepth 20000 in
theorem mx_in_wsJ0_charAt_5068e : ∀ w ∈ wsJ0_charAt_5068e, w ∈ mx_big := mx_inL _ [(1, 53), (16, 60), (1, 54), (1, 55), (1, 56), (1, 4), (1, 57), (1, 48), (16, 61), (1, 58), (1, 59), (1, 5), (1, 60), (1, 61), (1, 62), (1, 63), (1, 64), (1, 66), (1, 67), (1, 6), (1, 68), (1, 69), (1, 70), (1, 7), (1, 71), (1, 72), (1, 73), (1, 74), (1, 75), (1, 76), (1, 77), (1, 78), (1, 79), (1, 80), (1, 81), (1, 82), (1, 84), (1, 86)] (by decide +kernel) (by decide +kernel)
set_option maxRecDepth 20000 in
theorem mx_in_wsJ0_length_8abf5 : ∀ w ∈ wsJ0_length_8abf5, w ∈ mx_big := mx_inL _ [(1, 43), (16, 60), (1, 44), (1, 45), (1, 46), (1, 4), (1, 47), (1, 48), (16, 61)] (by decide +kernel) (by decide +kernel)
theorem mx_all (l : Launch) (D : va_G) (X : Nat × (Nat → Int32)) (n : Nat) : mx_body l D vwCl mx_big (mx_GG X) mx_cn (mx_Z X) n := by
  refine mx_main mx_bigG (mx_clR X) (fun own ix ci k h => mx_resOk h) (fun own ix ci N h => mx_resOk h) ⟨mx_bigI (tb_bi 1 _ (List.mem_of_getElem? (l := tables_1_1) (i := 150) rfl)) rfl, mx_bigI (tb_bi 1 _ (List.mem_of_getElem? (l := tables_1_1) (i := 149) rfl)) rfl, mx_bigI (tb_bi 1 _ (List.mem_of_getElem? (l := tables_1_1) (i := 179) rfl)) rfl⟩ ⟨?_, ?_⟩ ⟨?_, ?_⟩ ⟨?_, ?_, ?_⟩ ⟨?_, ?_, ?_, ?_, ?_⟩ (fun A rh U H h => h.2.2.2.2.2) ⟨?_, mx_in_wsJ0_charAt_5068e, mx_in_wsJ0_length_8abf5, ?_, ?_⟩ ?_ ?_ (mx_Zok X) n
  · intro own ix ci k C h hC
    obtain ⟨rfl, h2⟩ := (mx_resOk h : mx_e10 own (ix + 100000) ci)
    rw [Nat.add_sub_cancel] at h2
    cases hC
    exact ⟨h2, fun A rh U H hz => hz.2.2.1⟩
  · intro own ix a b h
    have h2 : Cond.classLink own (ix + 100000 - 100000) "[B" ∈ mx_big := mx_resOk h
    rw [Nat.add_sub_cancel] at h2
    exact ⟨h2, fun A rh U H hz => hz.2.2.2.1⟩
  · intro own ix a b h
    exact ⟨mx_resOk h, mx_bigI (tb_bi 8 _ (List.mem_of_getElem? (l := tables_1_8) (i := 69) rfl)) rfl, mx_bigI (tb_bi 8 _ (List.mem_of_getElem? (l := tables_1_8) (i := 70) rfl)) rfl, mx_bigI (tb_bi 8 _ (List.mem_of_getElem? (l := tables_1_8) (i := 71) rfl)) rfl, mx_bigI (tb_bi 8 _ (List.mem_of_getElem? (l := tables_1_8) (i := 72) rfl)) rfl, fun A rh U H hz => hz.2.2.2.2.1⟩
  · intro own ix a b h
    have h2 : Cond.classLink own (ix + 200000 - 200000) "[B" ∈ mx_big := mx_resOk h
    rw [Nat.add_sub_cancel] at h2
    exact h2
  · exact fun own ix a b h => mx_resOk h
  · exact fun own ix a b h => mx_resOk h
  · intro own ix k b h
    obtain ⟨tx, h2⟩ := (mx_resOk h : mx_e12 own ix k)
    refine ⟨tx, fun A rh U H hz => (hz.1 k ?_).2 own ix tx h2⟩
    refine Nat.not_le.mp fun hk => ?_
    obtain ⟨j, rfl⟩ : ∃ j, k = j + 5 := ⟨k - 5, by omega⟩
    cases h2
  · exact fun own ix a b h => ⟨mx_resOk h, mx_bigI (tb_bi 1 _ (List.mem_of_getElem? (l := tables_1_1) (i := 28) rfl)) rfl, mx_bigI (tb_bi 1 _ (List.mem_of_getElem? (l := tables_1_1) (i := 29) rfl)) rfl⟩
  · exact fun own ix a b h => ⟨mx_resOk h, mx_bigI (tb_bi 1 _ (List.mem_of_getElem? (l := tables_1_1) (i := 97) rfl)) rfl, mx_bigI (tb_bi 1 _ (List.mem_of_getElem? (l := tables_1_1) (i := 96) rfl)) rfl, mx_bigI (tb_bi 1 _ (List.mem_of_getElem? (l := tables_1_1) (i := 8) rfl)) rfl⟩
  · exact fun own ix a b h => ⟨mx_resOk h, mx_bigI (tb_bi 5 _ (List.mem_of_getElem? (l := tables_1_5) (i := 218) rfl)) rfl, mx_bigI (tb_bi 1 _ (List.mem_of_getElem? (l := tables_1_1) (i := 21) rfl)) rfl, mx_bigI (tb_bi 5 _ (List.mem_of_getElem? (l := tables_1_5) (i := 219) rfl)) rfl⟩
  · exact fun own ix a b h => ⟨mx_resOk h, mx_bigI (tb_bi 5 _ (List.mem_of_getElem? (l := tables_1_5) (i := 134) rfl)) rfl, mx_bigI (tb_bi 1 _ (List.mem_of_getElem? (l := tables_1_1) (i := 21) rfl)) rfl, mx_bigI (tb_bi 5 _ (List.mem_of_getElem? (l := tables_1_5) (i := 135) rfl)) rfl⟩
  · exact fun own ix a b h => ⟨mx_resOk h, mx_bigI (tb_bi 4 _ (List.mem_of_getElem? (l := tables_1_4) (i := 94) rfl)) rfl, mx_bigI (tb_bi 1 _ (List.mem_of_getElem? (l := tables_1_1) (i := 21) rfl)) rfl, mx_bigI (tb_bi 4 _ (List.mem_of_getElem? (l := tables_1_4) (i := 95) rfl)) rfl⟩
  · intro a tn ft h A rh U H hz
    have h : mx_strs a = some (tn, ft) := h
    unfold mx_strs at h
    by_cases h0 : a = 1000000000
    · rw [if_pos h0] at h
      cases h
      subst h0
      exact (hz.1 0 (by decide)).1
    by_cases h1 : a = 1000000001
    · rw [if_neg h0, if_pos h1] at h
      cases h
      subst h1
      exact (hz.1 1 (by decide)).1
    by_cases h2 : a = 1000000002
    · rw [if_neg h0, if_neg h1, if_pos h2] at h
      cases h
      subst h2
      exact (hz.1 2 (by decide)).1
    by_cases h3 : a = 1000000003
    · rw [if_neg h0, if_neg h1, if_neg h2, if_pos h3] at h
      cases h
      subst h3
      exact (hz.1 3 (by decide)).1
    by_cases h4 : a = 1000000004
    · rw [if_neg h0, if_neg h1, if_neg h2, if_neg h3, if_pos h4] at h
      cases h
      subst h4
      exact (hz.1 4 (by decide)).1
    rw [if_neg h0, if_neg h1, if_neg h2, if_neg h3, if_neg h4] at h
    cases h
  · exact fun own ix a b h => List.forall_mem_cons.mpr ⟨(mx_resOk h : mx_eM own ix yJ0_charAt_5068e), List.forall_mem_cons.mpr ⟨mx_bigI (tb_bi 1 _ (List.mem_of_getElem? (l := tables_1_1) (i := 51) rfl)) rfl, List.forall_mem_cons.mpr ⟨mx_bigI (tb_bi 1 _ (List.mem_of_getElem? (l := tables_1_1) (i := 52) rfl)) rfl, List.forall_mem_cons.mpr ⟨mx_bigI (tb_bi 1 _ (List.mem_of_getElem? (l := tables_1_1) (i := 4) rfl)) rfl, fun _ h => absurd h List.not_mem_nil⟩⟩⟩⟩
  · exact fun own ix a b h => List.forall_mem_cons.mpr ⟨(mx_resOk h : mx_eM own ix yJ0_length_8abf5), List.forall_mem_cons.mpr ⟨mx_bigI (tb_bi 1 _ (List.mem_of_getElem? (l := tables_1_1) (i := 41) rfl)) rfl, List.forall_mem_cons.mpr ⟨mx_bigI (tb_bi 1 _ (List.mem_of_getElem? (l := tables_1_1) (i := 42) rfl)) rfl, List.forall_mem_cons.mpr ⟨mx_bigI (tb_bi 1 _ (List.mem_of_getElem? (l := tables_1_1) (i := 4) rfl)) rfl, fun _ h => absurd h List.not_mem_nil⟩⟩⟩⟩
  · intro mu y cc nL ret h h0
    exact mx_mtR mu _ h h0
  · intro own ix t nu n h y cc nL ret hm
    have hm : mx_mt nu = some (y, cc, nL, ret) := hm
    refine ⟨?_, ?_, ?_, ?_⟩
    · rintro rfl
      obtain ⟨y1, c1, n1, r1, h1, h2⟩ := (mx_resOk h : mx_e1 own ix nu n)
      cases h1.symm.trans hm
      exact h2
    · rintro rfl
      obtain ⟨y1, c1, n1, r1, h1, h2⟩ := (mx_resOk h : mx_e2 own ix nu n)
      cases h1.symm.trans hm
      exact h2
    · rintro rfl
      obtain ⟨y1, c1, n1, h1, h2, h3, h4, h5, h6, h7⟩ := (mx_resOk h : mx_e3 own ix nu n)
      cases h1.symm.trans hm
      exact ⟨h2, h3, h4, h5, h6, rfl, h7⟩
    · rintro rfl
      obtain ⟨y1, c1, n1, h1, h2, h3, h4, h5, h6, h7⟩ := (mx_resOk h : mx_e4 own ix nu n)
      cases h1.symm.trans hm
      exact ⟨h2, h4, h5, h6, rfl, h7, "ClassMill", fun A rh U H hz => hz.2.1 own ix _ h3⟩

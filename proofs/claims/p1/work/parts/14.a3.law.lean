def lw_by : List Int32 := [79, 98, 106, 101, 99, 116, 32, 70, 97, 117, 108, 116, 32, 78, 117, 108, 108, 70, 97, 117, 108, 116, 32, 73, 110, 100, 101, 120, 70, 97, 117, 108, 116, 32, 65, 114, 105, 116, 104, 70, 97, 117, 108, 116, 32, 67, 97, 115, 116, 70, 97, 117, 108, 116, 32, 83, 105, 122, 101, 70, 97, 117, 108, 116, 32, 83, 116, 111, 114, 101, 70, 97, 117, 108, 116, 32, 108, 101, 110, 103, 116, 104, 32, 98, 111, 111, 108, 101, 97, 110, 32, 98, 114, 101, 97, 107, 32, 99, 97, 116, 99, 104, 32, 99, 108, 97, 115, 115, 32, 99, 111, 110, 116, 105, 110, 117, 101, 32, 101, 108, 115, 101, 32, 101, 120, 116, 101, 110, 100, 115, 32, 102, 97, 108, 115, 101, 32, 105, 102, 32, 105, 110, 115, 116, 97, 110, 99, 101, 111, 102, 32, 105, 110, 116, 32, 110, 101, 119, 32, 110, 117, 108, 108, 32, 112, 114, 105, 110, 116, 32, 114, 101, 116, 117, 114, 110, 32, 115, 116, 97, 116, 105, 99, 32, 116, 104, 105, 115, 32, 116, 104, 114, 111, 119, 32, 116, 114, 117, 101, 32, 116, 114, 121, 32, 118, 111, 105, 100, 32, 119, 104, 105, 108, 101, 32, 91, 73, 32]
def lw_ft (j : Nat) : Int32 := lw_by.getD j 0
set_option maxRecDepth 100000 in
theorem fx_cs : Cond.eq (.static "java/lang/String" "COMPACT_STRINGS" "Z") (.int 1) ∈ flatC (Cond.and given_1 narrow_1) := by decide +kernel
set_option maxRecDepth 100000 in
theorem fx_si : Cond.isRef (.static "jdk/internal/util/Preconditions" "SIOOBE_FORMATTER" "Ljava/util/function/BiFunction;") ∈ flatC (Cond.and given_1 narrow_1) := by decide +kernel
set_option maxRecDepth 100000 in
theorem fx_ex : Cond.exactly (.string RX9 51) "java/lang/String" ∈ flatC (Cond.and given_1 narrow_1) := by decide +kernel
set_option maxRecDepth 100000 in
theorem fx_co : Cond.eq (.field (.string RX9 51) "java/lang/String" "coder" "B") (.int 0) ∈ flatC (Cond.and given_1 narrow_1) := by decide +kernel
set_option maxRecDepth 100000 in
theorem fx_ar : Cond.arrayOf (.field (.string RX9 51) "java/lang/String" "value" "[B") .byte ∈ flatC (Cond.and given_1 narrow_1) := by decide +kernel
set_option maxRecDepth 100000 in
theorem fx_le : Cond.eq (.length (.field (.string RX9 51) "java/lang/String" "value" "[B")) (.int 218) ∈ flatC (Cond.and given_1 narrow_1) := by decide +kernel
set_option maxRecDepth 100000 in
theorem fx_el : ((flatC (Cond.and given_1 narrow_1)).drop 13).take 218 = (List.range 218).map (fun j => Cond.eq (.elem (.field (.string RX9 51) "java/lang/String" "value" "[B") (.int (Int32.ofNat j))) (.int (lw_by.getD j 0))) := by decide +kernel
theorem law_world {s : State} {b : Nat} (hgv : (Cond.and given_1 narrow_1).before #[Value.ref b] s = true) (hts0 : ∀ w ∈ lw_tbl, w.before #[Value.ref b] s = true) : ∃ ak av : Nat, pz_W 218 lw_ft ak av (fun q : Nat => s.heap.size ≤ q) s s.heap ∧ vk_R RX9 51 "Object Fault NullFault IndexFault ArithFault CastFault SizeFault StoreFault length boolean break catch class continue else extends false if instanceof int new null print return static this throw true try void while [I " ak s := by
  have hs := flat_of_before _ hgv
  have hnA : ∀ a : Nat, a < s.heap.size → ¬ (fun q : Nat => s.heap.size ≤ q) a := fun a h1 h2 => absurd h1 (Nat.not_lt.mpr h2)
  have g1 : ∀ i : Nat, i < 1 → ([218] : List Nat).getD i 0 < 2 ^ 31 := by
    intro i hi
    obtain rfl : i = 0 := by omega
    decide
  have g2 : ∀ i : Nat, i < 1 → (Cond.eq (.length (.field (.string RX9 51) "java/lang/String" "value" "[B")) (.int (Int32.ofNat (([218] : List Nat).getD i 0)))).before #[Value.ref b] s = true := by
    intro i hi
    obtain rfl : i = 0 := by omega
    exact hs _ fx_le
  have g3 : ∀ i : Nat, i < 1 → ∀ j : Nat, j < ([218] : List Nat).getD i 0 → (Cond.eq (.elem (.field (.string RX9 51) "java/lang/String" "value" "[B") (.int (Int32.ofNat j))) (.int ((([lw_by] : List (List Int32)).getD i []).getD j 0))).before #[Value.ref b] s = true := by
    intro i hi j hj
    obtain rfl : i = 0 := by omega
    have hj : j < 218 := hj
    have hm : Cond.eq (.elem (.field (.string RX9 51) "java/lang/String" "value" "[B") (.int (Int32.ofNat j))) (.int (lw_by.getD j 0)) ∈ ((flatC (Cond.and given_1 narrow_1)).drop 13).take 218 := by
      rw [fx_el]
      exact List.mem_map.mpr ⟨j, List.mem_range.mpr hj, rfl⟩
    exact hs _ (List.mem_of_mem_drop (List.mem_of_mem_take hm))
  have g4 : ∀ i j : Nat, i < 1 → j < 1 → i ≠ j → (Cond.not (Cond.eq (.string RX9 51) (.string RX9 51))).before #[Value.ref b] s = true ∨ (Cond.not (Cond.eq (.string RX9 51) (.string RX9 51))).before #[Value.ref b] s = true := fun i j hi hj hij => absurd (show i = j by omega) hij
  obtain ⟨adK, adV, hSS, hev⟩ := vk_Sof (args := #[Value.ref b]) (s := s) (N := 1) (tm := fun _ => (.string RX9 51)) (len := [218]) (byt := [lw_by]) (A := (fun q : Nat => s.heap.size ≤ q)) g1 (fun i hi => hs _ fx_ex) (fun i hi => hs _ fx_co) (fun i hi => hs _ fx_ar) g2 g3 g4 hnA
  have h0 := hSS.1 0 (by decide)
  refine ⟨adK 0, adV 0, ⟨va_Zof (hts0 (.laysStatic "java/lang/String" "COMPACT_STRINGS" "Z") tw_0) (hts0 (.initialized "java/lang/String") tw_1) (va_eqt (hs _ fx_cs)) hnA, va_Zqof (hts0 (.laysStatic "jdk/internal/util/Preconditions" "SIOOBE_FORMATTER" "Ljava/util/function/BiFunction;") tw_2) (hts0 (.initialized "jdk/internal/util/Preconditions") tw_3) (hs _ fx_si) hnA, h0.1, h0.2.1, h0.2.2.1, h0.2.2.2⟩, vk_R.of (hts0 (.stringRef RX9 51 "Object Fault NullFault IndexFault ArithFault CastFault SizeFault StoreFault length boolean break catch class continue else extends false if instanceof int new null print return static this throw true try void while [I ") tw_4) (hev 0 (by decide))⟩

set_option maxRecDepth 100000 in
theorem fx_cs : Cond.eq (.static "java/lang/String" "COMPACT_STRINGS" "Z") (.int 1) ∈ flatC (Cond.and given_1 narrow_1) := by decide +kernel
set_option maxRecDepth 100000 in
theorem fx_si : Cond.isRef (.static "jdk/internal/util/Preconditions" "SIOOBE_FORMATTER" "Ljava/util/function/BiFunction;") ∈ flatC (Cond.and given_1 narrow_1) := by decide +kernel
set_option maxRecDepth 100000 in
theorem fx_ex0 : Cond.exactly (.string RX9 51) "java/lang/String" ∈ flatC (Cond.and given_1 narrow_1) := by decide +kernel
set_option maxRecDepth 100000 in
theorem fx_co0 : Cond.eq (.field (.string RX9 51) "java/lang/String" "coder" "B") (.int 0) ∈ flatC (Cond.and given_1 narrow_1) := by decide +kernel
set_option maxRecDepth 100000 in
theorem fx_ar0 : Cond.arrayOf (.field (.string RX9 51) "java/lang/String" "value" "[B") .byte ∈ flatC (Cond.and given_1 narrow_1) := by decide +kernel
set_option maxRecDepth 100000 in
theorem fx_le0 : Cond.eq (.length (.field (.string RX9 51) "java/lang/String" "value" "[B")) (.int 218) ∈ flatC (Cond.and given_1 narrow_1) := by decide +kernel
set_option maxRecDepth 100000 in
theorem fx_el0 : ((flatC (Cond.and given_1 narrow_1)).drop 13).take 218 = (List.range 218).map (fun j => Cond.eq (.elem (.field (.string RX9 51) "java/lang/String" "value" "[B") (.int (Int32.ofNat j))) (.int (mx_ft 0 j))) := by decide +kernel
theorem law_world0 {s : State} {b : Nat} (hgv : (Cond.and given_1 narrow_1).before #[Value.ref b] s = true) (hts0 : ∀ w ∈ lw_tbl, w.before #[Value.ref b] s = true) : ∃ ak av : Nat, pz_W (mx_bys.getD 0 []).length (mx_ft 0) ak av (fun q : Nat => s.heap.size ≤ q) s s.heap ∧ vk_R RX9 51 "Object Fault NullFault IndexFault ArithFault CastFault SizeFault StoreFault length boolean break catch class continue else extends false if instanceof int new null print return static this throw true try void while [I " ak s := by
  have hs := flat_of_before _ hgv
  have hnA : ∀ a : Nat, a < s.heap.size → ¬ (fun q : Nat => s.heap.size ≤ q) a := fun a h1 h2 => absurd h1 (Nat.not_lt.mpr h2)
  have g1 : ∀ i : Nat, i < 1 → ([218] : List Nat).getD i 0 < 2 ^ 31 := by
    intro i hi
    obtain rfl : i = 0 := by omega
    decide
  have g2 : ∀ i : Nat, i < 1 → (Cond.eq (.length (.field (.string RX9 51) "java/lang/String" "value" "[B")) (.int (Int32.ofNat (([218] : List Nat).getD i 0)))).before #[Value.ref b] s = true := by
    intro i hi
    obtain rfl : i = 0 := by omega
    exact hs _ fx_le0
  have g3 : ∀ i : Nat, i < 1 → ∀ j : Nat, j < ([218] : List Nat).getD i 0 → (Cond.eq (.elem (.field (.string RX9 51) "java/lang/String" "value" "[B") (.int (Int32.ofNat j))) (.int ((([mx_bys.getD 0 []] : List (List Int32)).getD i []).getD j 0))).before #[Value.ref b] s = true := by
    intro i hi j hj
    obtain rfl : i = 0 := by omega
    have hj : j < 218 := hj
    have hm : Cond.eq (.elem (.field (.string RX9 51) "java/lang/String" "value" "[B") (.int (Int32.ofNat j))) (.int (mx_ft 0 j)) ∈ ((flatC (Cond.and given_1 narrow_1)).drop 13).take 218 := by
      rw [fx_el0]
      exact List.mem_map.mpr ⟨j, List.mem_range.mpr hj, rfl⟩
    exact hs _ (List.mem_of_mem_drop (List.mem_of_mem_take hm))
  have g4 : ∀ i j : Nat, i < 1 → j < 1 → i ≠ j → (Cond.not (Cond.eq (.string RX9 51) (.string RX9 51))).before #[Value.ref b] s = true ∨ (Cond.not (Cond.eq (.string RX9 51) (.string RX9 51))).before #[Value.ref b] s = true := fun i j hi hj hij => absurd (show i = j by omega) hij
  obtain ⟨adK, adV, hSS, hev⟩ := vk_Sof (args := #[Value.ref b]) (s := s) (N := 1) (tm := fun _ => (.string RX9 51)) (len := [218]) (byt := [mx_bys.getD 0 []]) (A := (fun q : Nat => s.heap.size ≤ q)) g1 (fun i hi => hs _ fx_ex0) (fun i hi => hs _ fx_co0) (fun i hi => hs _ fx_ar0) g2 g3 g4 hnA
  have h0 := hSS.1 0 (by decide)
  refine ⟨adK 0, adV 0, ⟨va_Zof (hts0 _ (tb_bi 1 _ (List.mem_of_getElem? (l := tables_1_1) (i := 49) rfl))) (hts0 _ (tb_bi 1 _ (List.mem_of_getElem? (l := tables_1_1) (i := 4) rfl))) (va_eqt (hs _ fx_cs)) hnA, va_Zqof (hts0 _ (tb_bi 1 _ (List.mem_of_getElem? (l := tables_1_1) (i := 65) rfl))) (hts0 _ (tb_bi 1 _ (List.mem_of_getElem? (l := tables_1_1) (i := 6) rfl))) (hs _ fx_si) hnA, h0.1, h0.2.1, h0.2.2.1, h0.2.2.2⟩, vk_R.of (hts0 _ (tb_bi 1 _ (List.mem_of_getElem? (l := tables_1_1) (i := 39) rfl))) (hev 0 (by decide))⟩
set_option maxRecDepth 100000 in
theorem fx_ex1 : Cond.exactly (.string RX3 132) "java/lang/String" ∈ flatC (Cond.and given_1 narrow_1) := by decide +kernel
set_option maxRecDepth 100000 in
theorem fx_co1 : Cond.eq (.field (.string RX3 132) "java/lang/String" "coder" "B") (.int 0) ∈ flatC (Cond.and given_1 narrow_1) := by decide +kernel
set_option maxRecDepth 100000 in
theorem fx_ar1 : Cond.arrayOf (.field (.string RX3 132) "java/lang/String" "value" "[B") .byte ∈ flatC (Cond.and given_1 narrow_1) := by decide +kernel
set_option maxRecDepth 100000 in
theorem fx_le1 : Cond.eq (.length (.field (.string RX3 132) "java/lang/String" "value" "[B")) (.int 76) ∈ flatC (Cond.and given_1 narrow_1) := by decide +kernel
set_option maxRecDepth 100000 in
theorem fx_el1 : ((flatC (Cond.and given_1 narrow_1)).drop 235).take 76 = (List.range 76).map (fun j => Cond.eq (.elem (.field (.string RX3 132) "java/lang/String" "value" "[B") (.int (Int32.ofNat j))) (.int (mx_ft 1 j))) := by decide +kernel
theorem law_world1 {s : State} {b : Nat} (hgv : (Cond.and given_1 narrow_1).before #[Value.ref b] s = true) (hts0 : ∀ w ∈ lw_tbl, w.before #[Value.ref b] s = true) : ∃ ak av : Nat, pz_W (mx_bys.getD 1 []).length (mx_ft 1) ak av (fun q : Nat => s.heap.size ≤ q) s s.heap ∧ vk_R RX3 132 "Object Fault NullFault IndexFault ArithFault CastFault SizeFault StoreFault " ak s := by
  have hs := flat_of_before _ hgv
  have hnA : ∀ a : Nat, a < s.heap.size → ¬ (fun q : Nat => s.heap.size ≤ q) a := fun a h1 h2 => absurd h1 (Nat.not_lt.mpr h2)
  have g1 : ∀ i : Nat, i < 1 → ([76] : List Nat).getD i 0 < 2 ^ 31 := by
    intro i hi
    obtain rfl : i = 0 := by omega
    decide
  have g2 : ∀ i : Nat, i < 1 → (Cond.eq (.length (.field (.string RX3 132) "java/lang/String" "value" "[B")) (.int (Int32.ofNat (([76] : List Nat).getD i 0)))).before #[Value.ref b] s = true := by
    intro i hi
    obtain rfl : i = 0 := by omega
    exact hs _ fx_le1
  have g3 : ∀ i : Nat, i < 1 → ∀ j : Nat, j < ([76] : List Nat).getD i 0 → (Cond.eq (.elem (.field (.string RX3 132) "java/lang/String" "value" "[B") (.int (Int32.ofNat j))) (.int ((([mx_bys.getD 1 []] : List (List Int32)).getD i []).getD j 0))).before #[Value.ref b] s = true := by
    intro i hi j hj
    obtain rfl : i = 0 := by omega
    have hj : j < 76 := hj
    have hm : Cond.eq (.elem (.field (.string RX3 132) "java/lang/String" "value" "[B") (.int (Int32.ofNat j))) (.int (mx_ft 1 j)) ∈ ((flatC (Cond.and given_1 narrow_1)).drop 235).take 76 := by
      rw [fx_el1]
      exact List.mem_map.mpr ⟨j, List.mem_range.mpr hj, rfl⟩
    exact hs _ (List.mem_of_mem_drop (List.mem_of_mem_take hm))
  have g4 : ∀ i j : Nat, i < 1 → j < 1 → i ≠ j → (Cond.not (Cond.eq (.string RX3 132) (.string RX3 132))).before #[Value.ref b] s = true ∨ (Cond.not (Cond.eq (.string RX3 132) (.string RX3 132))).before #[Value.ref b] s = true := fun i j hi hj hij => absurd (show i = j by omega) hij
  obtain ⟨adK, adV, hSS, hev⟩ := vk_Sof (args := #[Value.ref b]) (s := s) (N := 1) (tm := fun _ => (.string RX3 132)) (len := [76]) (byt := [mx_bys.getD 1 []]) (A := (fun q : Nat => s.heap.size ≤ q)) g1 (fun i hi => hs _ fx_ex1) (fun i hi => hs _ fx_co1) (fun i hi => hs _ fx_ar1) g2 g3 g4 hnA
  have h0 := hSS.1 0 (by decide)
  refine ⟨adK 0, adV 0, ⟨va_Zof (hts0 _ (tb_bi 1 _ (List.mem_of_getElem? (l := tables_1_1) (i := 49) rfl))) (hts0 _ (tb_bi 1 _ (List.mem_of_getElem? (l := tables_1_1) (i := 4) rfl))) (va_eqt (hs _ fx_cs)) hnA, va_Zqof (hts0 _ (tb_bi 1 _ (List.mem_of_getElem? (l := tables_1_1) (i := 65) rfl))) (hts0 _ (tb_bi 1 _ (List.mem_of_getElem? (l := tables_1_1) (i := 6) rfl))) (hs _ fx_si) hnA, h0.1, h0.2.1, h0.2.2.1, h0.2.2.2⟩, vk_R.of (hts0 _ (tb_bi 8 _ (List.mem_of_getElem? (l := tables_1_8) (i := 58) rfl))) (hev 0 (by decide))⟩
set_option maxRecDepth 100000 in
theorem fx_ex2 : Cond.exactly (.string RX13 352) "java/lang/String" ∈ flatC (Cond.and given_1 narrow_1) := by decide +kernel
set_option maxRecDepth 100000 in
theorem fx_co2 : Cond.eq (.field (.string RX13 352) "java/lang/String" "coder" "B") (.int 0) ∈ flatC (Cond.and given_1 narrow_1) := by decide +kernel
set_option maxRecDepth 100000 in
theorem fx_ar2 : Cond.arrayOf (.field (.string RX13 352) "java/lang/String" "value" "[B") .byte ∈ flatC (Cond.and given_1 narrow_1) := by decide +kernel
set_option maxRecDepth 100000 in
theorem fx_le2 : Cond.eq (.length (.field (.string RX13 352) "java/lang/String" "value" "[B")) (.int 133) ∈ flatC (Cond.and given_1 narrow_1) := by decide +kernel
set_option maxRecDepth 100000 in
theorem fx_el2 : ((flatC (Cond.and given_1 narrow_1)).drop 316).take 133 = (List.range 133).map (fun j => Cond.eq (.elem (.field (.string RX13 352) "java/lang/String" "value" "[B") (.int (Int32.ofNat j))) (.int (mx_ft 2 j))) := by decide +kernel
theorem law_world2 {s : State} {b : Nat} (hgv : (Cond.and given_1 narrow_1).before #[Value.ref b] s = true) (hts0 : ∀ w ∈ lw_tbl, w.before #[Value.ref b] s = true) : ∃ ak av : Nat, pz_W (mx_bys.getD 2 []).length (mx_ft 2) ak av (fun q : Nat => s.heap.size ≤ q) s s.heap ∧ vk_R RX13 352 " boolean break catch class continue else extends false if instanceof int new null print return static this throw true try void while " ak s := by
  have hs := flat_of_before _ hgv
  have hnA : ∀ a : Nat, a < s.heap.size → ¬ (fun q : Nat => s.heap.size ≤ q) a := fun a h1 h2 => absurd h1 (Nat.not_lt.mpr h2)
  have g1 : ∀ i : Nat, i < 1 → ([133] : List Nat).getD i 0 < 2 ^ 31 := by
    intro i hi
    obtain rfl : i = 0 := by omega
    decide
  have g2 : ∀ i : Nat, i < 1 → (Cond.eq (.length (.field (.string RX13 352) "java/lang/String" "value" "[B")) (.int (Int32.ofNat (([133] : List Nat).getD i 0)))).before #[Value.ref b] s = true := by
    intro i hi
    obtain rfl : i = 0 := by omega
    exact hs _ fx_le2
  have g3 : ∀ i : Nat, i < 1 → ∀ j : Nat, j < ([133] : List Nat).getD i 0 → (Cond.eq (.elem (.field (.string RX13 352) "java/lang/String" "value" "[B") (.int (Int32.ofNat j))) (.int ((([mx_bys.getD 2 []] : List (List Int32)).getD i []).getD j 0))).before #[Value.ref b] s = true := by
    intro i hi j hj
    obtain rfl : i = 0 := by omega
    have hj : j < 133 := hj
    have hm : Cond.eq (.elem (.field (.string RX13 352) "java/lang/String" "value" "[B") (.int (Int32.ofNat j))) (.int (mx_ft 2 j)) ∈ ((flatC (Cond.and given_1 narrow_1)).drop 316).take 133 := by
      rw [fx_el2]
      exact List.mem_map.mpr ⟨j, List.mem_range.mpr hj, rfl⟩
    exact hs _ (List.mem_of_mem_drop (List.mem_of_mem_take hm))
  have g4 : ∀ i j : Nat, i < 1 → j < 1 → i ≠ j → (Cond.not (Cond.eq (.string RX13 352) (.string RX13 352))).before #[Value.ref b] s = true ∨ (Cond.not (Cond.eq (.string RX13 352) (.string RX13 352))).before #[Value.ref b] s = true := fun i j hi hj hij => absurd (show i = j by omega) hij
  obtain ⟨adK, adV, hSS, hev⟩ := vk_Sof (args := #[Value.ref b]) (s := s) (N := 1) (tm := fun _ => (.string RX13 352)) (len := [133]) (byt := [mx_bys.getD 2 []]) (A := (fun q : Nat => s.heap.size ≤ q)) g1 (fun i hi => hs _ fx_ex2) (fun i hi => hs _ fx_co2) (fun i hi => hs _ fx_ar2) g2 g3 g4 hnA
  have h0 := hSS.1 0 (by decide)
  refine ⟨adK 0, adV 0, ⟨va_Zof (hts0 _ (tb_bi 1 _ (List.mem_of_getElem? (l := tables_1_1) (i := 49) rfl))) (hts0 _ (tb_bi 1 _ (List.mem_of_getElem? (l := tables_1_1) (i := 4) rfl))) (va_eqt (hs _ fx_cs)) hnA, va_Zqof (hts0 _ (tb_bi 1 _ (List.mem_of_getElem? (l := tables_1_1) (i := 65) rfl))) (hts0 _ (tb_bi 1 _ (List.mem_of_getElem? (l := tables_1_1) (i := 6) rfl))) (hs _ fx_si) hnA, h0.1, h0.2.1, h0.2.2.1, h0.2.2.2⟩, vk_R.of (hts0 _ (tb_bi 12 _ (List.mem_of_getElem? (l := tables_1_12) (i := 185) rfl))) (hev 0 (by decide))⟩
set_option maxRecDepth 100000 in
theorem fx_ex3 : Cond.exactly (.string RX13 477) "java/lang/String" ∈ flatC (Cond.and given_1 narrow_1) := by decide +kernel
set_option maxRecDepth 100000 in
theorem fx_co3 : Cond.eq (.field (.string RX13 477) "java/lang/String" "coder" "B") (.int 0) ∈ flatC (Cond.and given_1 narrow_1) := by decide +kernel
set_option maxRecDepth 100000 in
theorem fx_ar3 : Cond.arrayOf (.field (.string RX13 477) "java/lang/String" "value" "[B") .byte ∈ flatC (Cond.and given_1 narrow_1) := by decide +kernel
set_option maxRecDepth 100000 in
theorem fx_le3 : Cond.eq (.length (.field (.string RX13 477) "java/lang/String" "value" "[B")) (.int 77) ∈ flatC (Cond.and given_1 narrow_1) := by decide +kernel
set_option maxRecDepth 100000 in
theorem fx_el3 : ((flatC (Cond.and given_1 narrow_1)).drop 455).take 77 = (List.range 77).map (fun j => Cond.eq (.elem (.field (.string RX13 477) "java/lang/String" "value" "[B") (.int (Int32.ofNat j))) (.int (mx_ft 3 j))) := by decide +kernel
theorem law_world3 {s : State} {b : Nat} (hgv : (Cond.and given_1 narrow_1).before #[Value.ref b] s = true) (hts0 : ∀ w ∈ lw_tbl, w.before #[Value.ref b] s = true) : ∃ ak av : Nat, pz_W (mx_bys.getD 3 []).length (mx_ft 3) ak av (fun q : Nat => s.heap.size ≤ q) s s.heap ∧ vk_R RX13 477 " Object Fault NullFault IndexFault ArithFault CastFault SizeFault StoreFault " ak s := by
  have hs := flat_of_before _ hgv
  have hnA : ∀ a : Nat, a < s.heap.size → ¬ (fun q : Nat => s.heap.size ≤ q) a := fun a h1 h2 => absurd h1 (Nat.not_lt.mpr h2)
  have g1 : ∀ i : Nat, i < 1 → ([77] : List Nat).getD i 0 < 2 ^ 31 := by
    intro i hi
    obtain rfl : i = 0 := by omega
    decide
  have g2 : ∀ i : Nat, i < 1 → (Cond.eq (.length (.field (.string RX13 477) "java/lang/String" "value" "[B")) (.int (Int32.ofNat (([77] : List Nat).getD i 0)))).before #[Value.ref b] s = true := by
    intro i hi
    obtain rfl : i = 0 := by omega
    exact hs _ fx_le3
  have g3 : ∀ i : Nat, i < 1 → ∀ j : Nat, j < ([77] : List Nat).getD i 0 → (Cond.eq (.elem (.field (.string RX13 477) "java/lang/String" "value" "[B") (.int (Int32.ofNat j))) (.int ((([mx_bys.getD 3 []] : List (List Int32)).getD i []).getD j 0))).before #[Value.ref b] s = true := by
    intro i hi j hj
    obtain rfl : i = 0 := by omega
    have hj : j < 77 := hj
    have hm : Cond.eq (.elem (.field (.string RX13 477) "java/lang/String" "value" "[B") (.int (Int32.ofNat j))) (.int (mx_ft 3 j)) ∈ ((flatC (Cond.and given_1 narrow_1)).drop 455).take 77 := by
      rw [fx_el3]
      exact List.mem_map.mpr ⟨j, List.mem_range.mpr hj, rfl⟩
    exact hs _ (List.mem_of_mem_drop (List.mem_of_mem_take hm))
  have g4 : ∀ i j : Nat, i < 1 → j < 1 → i ≠ j → (Cond.not (Cond.eq (.string RX13 477) (.string RX13 477))).before #[Value.ref b] s = true ∨ (Cond.not (Cond.eq (.string RX13 477) (.string RX13 477))).before #[Value.ref b] s = true := fun i j hi hj hij => absurd (show i = j by omega) hij
  obtain ⟨adK, adV, hSS, hev⟩ := vk_Sof (args := #[Value.ref b]) (s := s) (N := 1) (tm := fun _ => (.string RX13 477)) (len := [77]) (byt := [mx_bys.getD 3 []]) (A := (fun q : Nat => s.heap.size ≤ q)) g1 (fun i hi => hs _ fx_ex3) (fun i hi => hs _ fx_co3) (fun i hi => hs _ fx_ar3) g2 g3 g4 hnA
  have h0 := hSS.1 0 (by decide)
  refine ⟨adK 0, adV 0, ⟨va_Zof (hts0 _ (tb_bi 1 _ (List.mem_of_getElem? (l := tables_1_1) (i := 49) rfl))) (hts0 _ (tb_bi 1 _ (List.mem_of_getElem? (l := tables_1_1) (i := 4) rfl))) (va_eqt (hs _ fx_cs)) hnA, va_Zqof (hts0 _ (tb_bi 1 _ (List.mem_of_getElem? (l := tables_1_1) (i := 65) rfl))) (hts0 _ (tb_bi 1 _ (List.mem_of_getElem? (l := tables_1_1) (i := 6) rfl))) (hs _ fx_si) hnA, h0.1, h0.2.1, h0.2.2.1, h0.2.2.2⟩, vk_R.of (hts0 _ (tb_bi 13 _ (List.mem_of_getElem? (l := tables_1_13) (i := 75) rfl))) (hev 0 (by decide))⟩
set_option maxRecDepth 100000 in
theorem fx_ex4 : Cond.exactly (.string RX13 588) "java/lang/String" ∈ flatC (Cond.and given_1 narrow_1) := by decide +kernel
set_option maxRecDepth 100000 in
theorem fx_co4 : Cond.eq (.field (.string RX13 588) "java/lang/String" "coder" "B") (.int 0) ∈ flatC (Cond.and given_1 narrow_1) := by decide +kernel
set_option maxRecDepth 100000 in
theorem fx_ar4 : Cond.arrayOf (.field (.string RX13 588) "java/lang/String" "value" "[B") .byte ∈ flatC (Cond.and given_1 narrow_1) := by decide +kernel
set_option maxRecDepth 100000 in
theorem fx_le4 : Cond.eq (.length (.field (.string RX13 588) "java/lang/String" "value" "[B")) (.int 8) ∈ flatC (Cond.and given_1 narrow_1) := by decide +kernel
set_option maxRecDepth 100000 in
theorem fx_el4 : ((flatC (Cond.and given_1 narrow_1)).drop 539).take 8 = (List.range 8).map (fun j => Cond.eq (.elem (.field (.string RX13 588) "java/lang/String" "value" "[B") (.int (Int32.ofNat j))) (.int (mx_ft 4 j))) := by decide +kernel
theorem law_world4 {s : State} {b : Nat} (hgv : (Cond.and given_1 narrow_1).before #[Value.ref b] s = true) (hts0 : ∀ w ∈ lw_tbl, w.before #[Value.ref b] s = true) : ∃ ak av : Nat, pz_W (mx_bys.getD 4 []).length (mx_ft 4) ak av (fun q : Nat => s.heap.size ≤ q) s s.heap ∧ vk_R RX13 588 " length " ak s := by
  have hs := flat_of_before _ hgv
  have hnA : ∀ a : Nat, a < s.heap.size → ¬ (fun q : Nat => s.heap.size ≤ q) a := fun a h1 h2 => absurd h1 (Nat.not_lt.mpr h2)
  have g1 : ∀ i : Nat, i < 1 → ([8] : List Nat).getD i 0 < 2 ^ 31 := by
    intro i hi
    obtain rfl : i = 0 := by omega
    decide
  have g2 : ∀ i : Nat, i < 1 → (Cond.eq (.length (.field (.string RX13 588) "java/lang/String" "value" "[B")) (.int (Int32.ofNat (([8] : List Nat).getD i 0)))).before #[Value.ref b] s = true := by
    intro i hi
    obtain rfl : i = 0 := by omega
    exact hs _ fx_le4
  have g3 : ∀ i : Nat, i < 1 → ∀ j : Nat, j < ([8] : List Nat).getD i 0 → (Cond.eq (.elem (.field (.string RX13 588) "java/lang/String" "value" "[B") (.int (Int32.ofNat j))) (.int ((([mx_bys.getD 4 []] : List (List Int32)).getD i []).getD j 0))).before #[Value.ref b] s = true := by
    intro i hi j hj
    obtain rfl : i = 0 := by omega
    have hj : j < 8 := hj
    have hm : Cond.eq (.elem (.field (.string RX13 588) "java/lang/String" "value" "[B") (.int (Int32.ofNat j))) (.int (mx_ft 4 j)) ∈ ((flatC (Cond.and given_1 narrow_1)).drop 539).take 8 := by
      rw [fx_el4]
      exact List.mem_map.mpr ⟨j, List.mem_range.mpr hj, rfl⟩
    exact hs _ (List.mem_of_mem_drop (List.mem_of_mem_take hm))
  have g4 : ∀ i j : Nat, i < 1 → j < 1 → i ≠ j → (Cond.not (Cond.eq (.string RX13 588) (.string RX13 588))).before #[Value.ref b] s = true ∨ (Cond.not (Cond.eq (.string RX13 588) (.string RX13 588))).before #[Value.ref b] s = true := fun i j hi hj hij => absurd (show i = j by omega) hij
  obtain ⟨adK, adV, hSS, hev⟩ := vk_Sof (args := #[Value.ref b]) (s := s) (N := 1) (tm := fun _ => (.string RX13 588)) (len := [8]) (byt := [mx_bys.getD 4 []]) (A := (fun q : Nat => s.heap.size ≤ q)) g1 (fun i hi => hs _ fx_ex4) (fun i hi => hs _ fx_co4) (fun i hi => hs _ fx_ar4) g2 g3 g4 hnA
  have h0 := hSS.1 0 (by decide)
  refine ⟨adK 0, adV 0, ⟨va_Zof (hts0 _ (tb_bi 1 _ (List.mem_of_getElem? (l := tables_1_1) (i := 49) rfl))) (hts0 _ (tb_bi 1 _ (List.mem_of_getElem? (l := tables_1_1) (i := 4) rfl))) (va_eqt (hs _ fx_cs)) hnA, va_Zqof (hts0 _ (tb_bi 1 _ (List.mem_of_getElem? (l := tables_1_1) (i := 65) rfl))) (hts0 _ (tb_bi 1 _ (List.mem_of_getElem? (l := tables_1_1) (i := 6) rfl))) (hs _ fx_si) hnA, h0.1, h0.2.1, h0.2.2.1, h0.2.2.2⟩, vk_R.of (hts0 _ (tb_bi 13 _ (List.mem_of_getElem? (l := tables_1_13) (i := 170) rfl))) (hev 0 (by decide))⟩

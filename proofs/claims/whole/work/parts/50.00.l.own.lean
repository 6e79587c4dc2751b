def mx_own : List (String × List (Nat × Nat × Nat × Nat)) := [(RJ7, rt_RJ7), (RL, rt_RL), (RX0, rt_RX0), (RX1, rt_RX1), (RX2, rt_RX2), (RX3, rt_RX3), (RX4, rt_RX4), (RX5, rt_RX5), (RX6, rt_RX6), (RX7, rt_RX7), (RX8, rt_RX8), (RX9, rt_RX9), (RX10, rt_RX10), (RX11, rt_RX11), (RX12, rt_RX12), (RX13, rt_RX13)]
theorem mx_ownOk : ∀ u ∈ mx_own, ∀ q ∈ u.2, mx_eOk u.1 q := List.forall_mem_cons.mpr ⟨rk_RJ7, List.forall_mem_cons.mpr ⟨rk_RL, List.forall_mem_cons.mpr ⟨rk_RX0, List.forall_mem_cons.mpr ⟨rk_RX1, List.forall_mem_cons.mpr ⟨rk_RX2, List.forall_mem_cons.mpr ⟨rk_RX3, List.forall_mem_cons.mpr ⟨rk_RX4, List.forall_mem_cons.mpr ⟨rk_RX5, List.forall_mem_cons.mpr ⟨rk_RX6, List.forall_mem_cons.mpr ⟨rk_RX7, List.forall_mem_cons.mpr ⟨rk_RX8, List.forall_mem_cons.mpr ⟨rk_RX9, List.forall_mem_cons.mpr ⟨rk_RX10, List.forall_mem_cons.mpr ⟨rk_RX11, List.forall_mem_cons.mpr ⟨rk_RX12, List.forall_mem_cons.mpr ⟨rk_RX13, fun _ h => absurd h List.not_mem_nil⟩⟩⟩⟩⟩⟩⟩⟩⟩⟩⟩⟩⟩⟩⟩⟩
/-- what a place of a pool means -/
def mx_res (own : String) (ix : Nat) : Option (Nat × Nat × Nat) := match mx_own.find? (fun q => q.1 == own) with
  | some q => (match q.2.find? (fun z => z.1 == ix) with
    | some z => some z.2
    | none => none)
  | none => none
theorem mx_resOk {own : String} {ix t x y : Nat} (h : mx_res own ix = some (t, x, y)) : mx_eOk own (ix, t, x, y) := by
  unfold mx_res at h
  cases h1 : mx_own.find? (fun q => q.1 == own) with
  | none => rw [h1] at h; cases h
  | some q =>
    rw [h1] at h
    dsimp only at h
    cases h2 : q.2.find? (fun z => z.1 == ix) with
    | none => rw [h2] at h; cases h
    | some z =>
      rw [h2] at h
      have e0 : z.2 = (t, x, y) := Option.some.inj h
      have e1 : q.1 = own := by simpa using List.find?_some h1
      have e2 : z.1 = ix := by simpa using List.find?_some h2
      have h3 := mx_ownOk q (List.mem_of_find?_eq_some h1) z (List.mem_of_find?_eq_some h2)
      have e3 : z = (ix, t, x, y) := by rw [← e0, ← e2]
      rw [e1, e3] at h3
      exact h3
theorem la_X0_0 : u_lay RX0 TX0 0 ∈ mx_big := mx_bigI (tb_bi 2 _ (List.mem_of_getElem? (l := tables_1_2) (i := 199) rfl)) rfl
theorem la_X0_1 : u_lay RX0 TX0 1 ∈ mx_big := mx_bigI (tb_bi 2 _ (List.mem_of_getElem? (l := tables_1_2) (i := 201) rfl)) rfl
theorem la_X0_2 : u_lay RX0 TX0 2 ∈ mx_big := mx_bigI (tb_bi 2 _ (List.mem_of_getElem? (l := tables_1_2) (i := 203) rfl)) rfl
theorem la_X0_3 : u_lay RX0 TX0 3 ∈ mx_big := mx_bigI (tb_bi 2 _ (List.mem_of_getElem? (l := tables_1_2) (i := 205) rfl)) rfl
theorem la_X0_4 : u_lay RX0 TX0 4 ∈ mx_big := mx_bigI (tb_bi 2 _ (List.mem_of_getElem? (l := tables_1_2) (i := 207) rfl)) rfl
theorem la_X0_5 : u_lay RX0 TX0 5 ∈ mx_big := mx_bigI (tb_bi 2 _ (List.mem_of_getElem? (l := tables_1_2) (i := 209) rfl)) rfl
theorem la_X0_6 : u_lay RX0 TX0 6 ∈ mx_big := mx_bigI (tb_bi 2 _ (List.mem_of_getElem? (l := tables_1_2) (i := 211) rfl)) rfl
theorem la_X0_7 : u_lay RX0 TX0 7 ∈ mx_big := mx_bigI (tb_bi 2 _ (List.mem_of_getElem? (l := tables_1_2) (i := 213) rfl)) rfl
theorem la_X0_8 : u_lay RX0 TX0 8 ∈ mx_big := mx_bigI (tb_bi 2 _ (List.mem_of_getElem? (l := tables_1_2) (i := 215) rfl)) rfl
theorem la_X0_9 : u_lay RX0 TX0 9 ∈ mx_big := mx_bigI (tb_bi 2 _ (List.mem_of_getElem? (l := tables_1_2) (i := 217) rfl)) rfl
theorem la_X0_10 : u_lay RX0 TX0 10 ∈ mx_big := mx_bigI (tb_bi 2 _ (List.mem_of_getElem? (l := tables_1_2) (i := 219) rfl)) rfl
theorem la_X0_11 : u_lay RX0 TX0 11 ∈ mx_big := mx_bigI (tb_bi 2 _ (List.mem_of_getElem? (l := tables_1_2) (i := 221) rfl)) rfl
theorem la_X0_12 : u_lay RX0 TX0 12 ∈ mx_big := mx_bigI (tb_bi 2 _ (List.mem_of_getElem? (l := tables_1_2) (i := 223) rfl)) rfl
set_option maxRecDepth 20000 in
theorem lk_X0 : ∀ k, k < 13 → u_lay RX0 TX0 k ∈ mx_big := lt_s (lt_s (lt_s (lt_s (lt_s (lt_s (lt_s (lt_s (lt_s (lt_s (lt_s (lt_s (lt_s (lt_0) la_X0_0) la_X0_1) la_X0_2) la_X0_3) la_X0_4) la_X0_5) la_X0_6) la_X0_7) la_X0_8) la_X0_9) la_X0_10) la_X0_11) la_X0_12
theorem la_X1_0 : u_lay RX1 TX1 0 ∈ mx_big := mx_bigI (tb_bi 2 _ (List.mem_of_getElem? (l := tables_1_2) (i := 51) rfl)) rfl
theorem la_X1_1 : u_lay RX1 TX1 1 ∈ mx_big := mx_bigI (tb_bi 2 _ (List.mem_of_getElem? (l := tables_1_2) (i := 53) rfl)) rfl
theorem la_X1_2 : u_lay RX1 TX1 2 ∈ mx_big := mx_bigI (tb_bi 2 _ (List.mem_of_getElem? (l := tables_1_2) (i := 55) rfl)) rfl
theorem la_X1_3 : u_lay RX1 TX1 3 ∈ mx_big := mx_bigI (tb_bi 2 _ (List.mem_of_getElem? (l := tables_1_2) (i := 57) rfl)) rfl
theorem la_X1_4 : u_lay RX1 TX1 4 ∈ mx_big := mx_bigI (tb_bi 2 _ (List.mem_of_getElem? (l := tables_1_2) (i := 59) rfl)) rfl
theorem la_X1_5 : u_lay RX1 TX1 5 ∈ mx_big := mx_bigI (tb_bi 2 _ (List.mem_of_getElem? (l := tables_1_2) (i := 61) rfl)) rfl
theorem la_X1_6 : u_lay RX1 TX1 6 ∈ mx_big := mx_bigI (tb_bi 2 _ (List.mem_of_getElem? (l := tables_1_2) (i := 63) rfl)) rfl
theorem la_X1_7 : u_lay RX1 TX1 7 ∈ mx_big := mx_bigI (tb_bi 2 _ (List.mem_of_getElem? (l := tables_1_2) (i := 65) rfl)) rfl
theorem la_X1_8 : u_lay RX1 TX1 8 ∈ mx_big := mx_bigI (tb_bi 2 _ (List.mem_of_getElem? (l := tables_1_2) (i := 67) rfl)) rfl
theorem la_X1_9 : u_lay RX1 TX1 9 ∈ mx_big := mx_bigI (tb_bi 2 _ (List.mem_of_getElem? (l := tables_1_2) (i := 69) rfl)) rfl
theorem la_X1_10 : u_lay RX1 TX1 10 ∈ mx_big := mx_bigI (tb_bi 2 _ (List.mem_of_getElem? (l := tables_1_2) (i := 71) rfl)) rfl
theorem la_X1_11 : u_lay RX1 TX1 11 ∈ mx_big := mx_bigI (tb_bi 2 _ (List.mem_of_getElem? (l := tables_1_2) (i := 73) rfl)) rfl
theorem la_X1_12 : u_lay RX1 TX1 12 ∈ mx_big := mx_bigI (tb_bi 2 _ (List.mem_of_getElem? (l := tables_1_2) (i := 75) rfl)) rfl
theorem la_X1_13 : u_lay RX1 TX1 13 ∈ mx_big := mx_bigI (tb_bi 2 _ (List.mem_of_getElem? (l := tables_1_2) (i := 77) rfl)) rfl
theorem la_X1_14 : u_lay RX1 TX1 14 ∈ mx_big := mx_bigI (tb_bi 2 _ (List.mem_of_getElem? (l := tables_1_2) (i := 79) rfl)) rfl
theorem la_X1_15 : u_lay RX1 TX1 15 ∈ mx_big := mx_bigI (tb_bi 2 _ (List.mem_of_getElem? (l := tables_1_2) (i := 81) rfl)) rfl
set_option maxRecDepth 20000 in
theorem lk_X1 : ∀ k, k < 16 → u_lay RX1 TX1 k ∈ mx_big := lt_s (lt_s (lt_s (lt_s (lt_s (lt_s (lt_s (lt_s (lt_s (lt_s (lt_s (lt_s (lt_s (lt_s (lt_s (lt_s (lt_0) la_X1_0) la_X1_1) la_X1_2) la_X1_3) la_X1_4) la_X1_5) la_X1_6) la_X1_7) la_X1_8) la_X1_9) la_X1_10) la_X1_11) la_X1_12) la_X1_13) la_X1_14) la_X1_15
theorem la_X2_0 : u_lay RX2 TX2 0 ∈ mx_big := mx_bigI (tb_bi 1 _ (List.mem_of_getElem? (l := tables_1_1) (i := 205) rfl)) rfl
theorem la_X2_1 : u_lay RX2 TX2 1 ∈ mx_big := mx_bigI (tb_bi 1 _ (List.mem_of_getElem? (l := tables_1_1) (i := 207) rfl)) rfl
theorem la_X2_2 : u_lay RX2 TX2 2 ∈ mx_big := mx_bigI (tb_bi 1 _ (List.mem_of_getElem? (l := tables_1_1) (i := 209) rfl)) rfl
theorem la_X2_3 : u_lay RX2 TX2 3 ∈ mx_big := mx_bigI (tb_bi 1 _ (List.mem_of_getElem? (l := tables_1_1) (i := 211) rfl)) rfl
theorem la_X2_4 : u_lay RX2 TX2 4 ∈ mx_big := mx_bigI (tb_bi 1 _ (List.mem_of_getElem? (l := tables_1_1) (i := 213) rfl)) rfl
theorem la_X2_5 : u_lay RX2 TX2 5 ∈ mx_big := mx_bigI (tb_bi 1 _ (List.mem_of_getElem? (l := tables_1_1) (i := 215) rfl)) rfl
theorem la_X2_6 : u_lay RX2 TX2 6 ∈ mx_big := mx_bigI (tb_bi 1 _ (List.mem_of_getElem? (l := tables_1_1) (i := 217) rfl)) rfl
theorem la_X2_7 : u_lay RX2 TX2 7 ∈ mx_big := mx_bigI (tb_bi 1 _ (List.mem_of_getElem? (l := tables_1_1) (i := 219) rfl)) rfl
theorem la_X2_8 : u_lay RX2 TX2 8 ∈ mx_big := mx_bigI (tb_bi 1 _ (List.mem_of_getElem? (l := tables_1_1) (i := 221) rfl)) rfl
theorem la_X2_9 : u_lay RX2 TX2 9 ∈ mx_big := mx_bigI (tb_bi 1 _ (List.mem_of_getElem? (l := tables_1_1) (i := 223) rfl)) rfl
theorem la_X2_10 : u_lay RX2 TX2 10 ∈ mx_big := mx_bigI (tb_bi 1 _ (List.mem_of_getElem? (l := tables_1_1) (i := 225) rfl)) rfl
theorem la_X2_11 : u_lay RX2 TX2 11 ∈ mx_big := mx_bigI (tb_bi 1 _ (List.mem_of_getElem? (l := tables_1_1) (i := 227) rfl)) rfl
theorem la_X2_12 : u_lay RX2 TX2 12 ∈ mx_big := mx_bigI (tb_bi 1 _ (List.mem_of_getElem? (l := tables_1_1) (i := 229) rfl)) rfl
theorem la_X2_13 : u_lay RX2 TX2 13 ∈ mx_big := mx_bigI (tb_bi 1 _ (List.mem_of_getElem? (l := tables_1_1) (i := 231) rfl)) rfl
theorem la_X2_14 : u_lay RX2 TX2 14 ∈ mx_big := mx_bigI (tb_bi 1 _ (List.mem_of_getElem? (l := tables_1_1) (i := 233) rfl)) rfl
theorem la_X2_15 : u_lay RX2 TX2 15 ∈ mx_big := mx_bigI (tb_bi 1 _ (List.mem_of_getElem? (l := tables_1_1) (i := 235) rfl)) rfl
theorem la_X2_16 : u_lay RX2 TX2 16 ∈ mx_big := mx_bigI (tb_bi 1 _ (List.mem_of_getElem? (l := tables_1_1) (i := 237) rfl)) rfl
theorem la_X2_17 : u_lay RX2 TX2 17 ∈ mx_big := mx_bigI (tb_bi 1 _ (List.mem_of_getElem? (l := tables_1_1) (i := 239) rfl)) rfl
theorem la_X2_18 : u_lay RX2 TX2 18 ∈ mx_big := mx_bigI (tb_bi 2 _ (List.mem_of_getElem? (l := tables_1_2) (i := 1) rfl)) rfl
theorem la_X2_19 : u_lay RX2 TX2 19 ∈ mx_big := mx_bigI (tb_bi 2 _ (List.mem_of_getElem? (l := tables_1_2) (i := 3) rfl)) rfl
theorem la_X2_20 : u_lay RX2 TX2 20 ∈ mx_big := mx_bigI (tb_bi 2 _ (List.mem_of_getElem? (l := tables_1_2) (i := 5) rfl)) rfl
set_option maxRecDepth 20000 in
theorem lk_X2 : ∀ k, k < 21 → u_lay RX2 TX2 k ∈ mx_big := lt_s (lt_s (lt_s (lt_s (lt_s (lt_s (lt_s (lt_s (lt_s (lt_s (lt_s (lt_s (lt_s (lt_s (lt_s (lt_s (lt_s (lt_s (lt_s (lt_s (lt_s (lt_0) la_X2_0) la_X2_1) la_X2_2) la_X2_3) la_X2_4) la_X2_5) la_X2_6) la_X2_7) la_X2_8) la_X2_9) la_X2_10) la_X2_11) la_X2_12) la_X2_13) la_X2_14) la_X2_15) la_X2_16) la_X2_17) la_X2_18) la_X2_19) la_X2_20
theorem la_X3_0 : u_lay RX3 TX3 0 ∈ mx_big := mx_bigI (tb_bi 3 _ (List.mem_of_getElem? (l := tables_1_3) (i := 29) rfl)) rfl
theorem la_X3_1 : u_lay RX3 TX3 1 ∈ mx_big := mx_bigI (tb_bi 3 _ (List.mem_of_getElem? (l := tables_1_3) (i := 31) rfl)) rfl
theorem la_X3_2 : u_lay RX3 TX3 2 ∈ mx_big := mx_bigI (tb_bi 3 _ (List.mem_of_getElem? (l := tables_1_3) (i := 33) rfl)) rfl
theorem la_X3_3 : u_lay RX3 TX3 3 ∈ mx_big := mx_bigI (tb_bi 3 _ (List.mem_of_getElem? (l := tables_1_3) (i := 35) rfl)) rfl
theorem la_X3_4 : u_lay RX3 TX3 4 ∈ mx_big := mx_bigI (tb_bi 3 _ (List.mem_of_getElem? (l := tables_1_3) (i := 37) rfl)) rfl
theorem la_X3_5 : u_lay RX3 TX3 5 ∈ mx_big := mx_bigI (tb_bi 3 _ (List.mem_of_getElem? (l := tables_1_3) (i := 39) rfl)) rfl
theorem la_X3_6 : u_lay RX3 TX3 6 ∈ mx_big := mx_bigI (tb_bi 3 _ (List.mem_of_getElem? (l := tables_1_3) (i := 41) rfl)) rfl
theorem la_X3_7 : u_lay RX3 TX3 7 ∈ mx_big := mx_bigI (tb_bi 3 _ (List.mem_of_getElem? (l := tables_1_3) (i := 43) rfl)) rfl
theorem la_X3_8 : u_lay RX3 TX3 8 ∈ mx_big := mx_bigI (tb_bi 3 _ (List.mem_of_getElem? (l := tables_1_3) (i := 45) rfl)) rfl
theorem la_X3_9 : u_lay RX3 TX3 9 ∈ mx_big := mx_bigI (tb_bi 3 _ (List.mem_of_getElem? (l := tables_1_3) (i := 47) rfl)) rfl
theorem la_X3_10 : u_lay RX3 TX3 10 ∈ mx_big := mx_bigI (tb_bi 3 _ (List.mem_of_getElem? (l := tables_1_3) (i := 49) rfl)) rfl
theorem la_X3_11 : u_lay RX3 TX3 11 ∈ mx_big := mx_bigI (tb_bi 3 _ (List.mem_of_getElem? (l := tables_1_3) (i := 51) rfl)) rfl
theorem la_X3_12 : u_lay RX3 TX3 12 ∈ mx_big := mx_bigI (tb_bi 3 _ (List.mem_of_getElem? (l := tables_1_3) (i := 53) rfl)) rfl
theorem la_X3_13 : u_lay RX3 TX3 13 ∈ mx_big := mx_bigI (tb_bi 3 _ (List.mem_of_getElem? (l := tables_1_3) (i := 55) rfl)) rfl
set_option maxRecDepth 20000 in
theorem lk_X3 : ∀ k, k < 14 → u_lay RX3 TX3 k ∈ mx_big := lt_s (lt_s (lt_s (lt_s (lt_s (lt_s (lt_s (lt_s (lt_s (lt_s (lt_s (lt_s (lt_s (lt_s (lt_0) la_X3_0) la_X3_1) la_X3_2) la_X3_3) la_X3_4) la_X3_5) la_X3_6) la_X3_7) la_X3_8) la_X3_9) la_X3_10) la_X3_11) la_X3_12) la_X3_13
theorem la_X4_0 : u_lay RX4 TX4 0 ∈ mx_big := mx_bigI (tb_bi 1 _ (List.mem_of_getElem? (l := tables_1_1) (i := 174) rfl)) rfl
theorem la_X4_1 : u_lay RX4 TX4 1 ∈ mx_big := mx_bigI (tb_bi 1 _ (List.mem_of_getElem? (l := tables_1_1) (i := 176) rfl)) rfl
set_option maxRecDepth 20000 in
theorem lk_X4 : ∀ k, k < 2 → u_lay RX4 TX4 k ∈ mx_big := lt_s (lt_s (lt_0) la_X4_0) la_X4_1
theorem la_X5_0 : u_lay RX5 TX5 0 ∈ mx_big := mx_bigI (tb_bi 3 _ (List.mem_of_getElem? (l := tables_1_3) (i := 193) rfl)) rfl
theorem la_X5_1 : u_lay RX5 TX5 1 ∈ mx_big := mx_bigI (tb_bi 3 _ (List.mem_of_getElem? (l := tables_1_3) (i := 195) rfl)) rfl
theorem la_X5_2 : u_lay RX5 TX5 2 ∈ mx_big := mx_bigI (tb_bi 3 _ (List.mem_of_getElem? (l := tables_1_3) (i := 197) rfl)) rfl
theorem la_X5_3 : u_lay RX5 TX5 3 ∈ mx_big := mx_bigI (tb_bi 3 _ (List.mem_of_getElem? (l := tables_1_3) (i := 199) rfl)) rfl
theorem la_X5_4 : u_lay RX5 TX5 4 ∈ mx_big := mx_bigI (tb_bi 3 _ (List.mem_of_getElem? (l := tables_1_3) (i := 201) rfl)) rfl
theorem la_X5_5 : u_lay RX5 TX5 5 ∈ mx_big := mx_bigI (tb_bi 3 _ (List.mem_of_getElem? (l := tables_1_3) (i := 203) rfl)) rfl
theorem la_X5_6 : u_lay RX5 TX5 6 ∈ mx_big := mx_bigI (tb_bi 3 _ (List.mem_of_getElem? (l := tables_1_3) (i := 205) rfl)) rfl
theorem la_X5_7 : u_lay RX5 TX5 7 ∈ mx_big := mx_bigI (tb_bi 3 _ (List.mem_of_getElem? (l := tables_1_3) (i := 207) rfl)) rfl
theorem la_X5_8 : u_lay RX5 TX5 8 ∈ mx_big := mx_bigI (tb_bi 3 _ (List.mem_of_getElem? (l := tables_1_3) (i := 209) rfl)) rfl
theorem la_X5_9 : u_lay RX5 TX5 9 ∈ mx_big := mx_bigI (tb_bi 3 _ (List.mem_of_getElem? (l := tables_1_3) (i := 211) rfl)) rfl
theorem la_X5_10 : u_lay RX5 TX5 10 ∈ mx_big := mx_bigI (tb_bi 3 _ (List.mem_of_getElem? (l := tables_1_3) (i := 213) rfl)) rfl
theorem la_X5_11 : u_lay RX5 TX5 11 ∈ mx_big := mx_bigI (tb_bi 3 _ (List.mem_of_getElem? (l := tables_1_3) (i := 215) rfl)) rfl
theorem la_X5_12 : u_lay RX5 TX5 12 ∈ mx_big := mx_bigI (tb_bi 3 _ (List.mem_of_getElem? (l := tables_1_3) (i := 217) rfl)) rfl
theorem la_X5_13 : u_lay RX5 TX5 13 ∈ mx_big := mx_bigI (tb_bi 3 _ (List.mem_of_getElem? (l := tables_1_3) (i := 219) rfl)) rfl
theorem la_X5_14 : u_lay RX5 TX5 14 ∈ mx_big := mx_bigI (tb_bi 3 _ (List.mem_of_getElem? (l := tables_1_3) (i := 221) rfl)) rfl
theorem la_X5_15 : u_lay RX5 TX5 15 ∈ mx_big := mx_bigI (tb_bi 3 _ (List.mem_of_getElem? (l := tables_1_3) (i := 223) rfl)) rfl
theorem la_X5_16 : u_lay RX5 TX5 16 ∈ mx_big := mx_bigI (tb_bi 3 _ (List.mem_of_getElem? (l := tables_1_3) (i := 225) rfl)) rfl
theorem la_X5_17 : u_lay RX5 TX5 17 ∈ mx_big := mx_bigI (tb_bi 3 _ (List.mem_of_getElem? (l := tables_1_3) (i := 227) rfl)) rfl
theorem la_X5_18 : u_lay RX5 TX5 18 ∈ mx_big := mx_bigI (tb_bi 3 _ (List.mem_of_getElem? (l := tables_1_3) (i := 229) rfl)) rfl
theorem la_X5_19 : u_lay RX5 TX5 19 ∈ mx_big := mx_bigI (tb_bi 3 _ (List.mem_of_getElem? (l := tables_1_3) (i := 231) rfl)) rfl
theorem la_X5_20 : u_lay RX5 TX5 20 ∈ mx_big := mx_bigI (tb_bi 3 _ (List.mem_of_getElem? (l := tables_1_3) (i := 233) rfl)) rfl
set_option maxRecDepth 20000 in
theorem lk_X5 : ∀ k, k < 21 → u_lay RX5 TX5 k ∈ mx_big := lt_s (lt_s (lt_s (lt_s (lt_s (lt_s (lt_s (lt_s (lt_s (lt_s (lt_s (lt_s (lt_s (lt_s (lt_s (lt_s (lt_s (lt_s (lt_s (lt_s (lt_s (lt_0) la_X5_0) la_X5_1) la_X5_2) la_X5_3) la_X5_4) la_X5_5) la_X5_6) la_X5_7) la_X5_8) la_X5_9) la_X5_10) la_X5_11) la_X5_12) la_X5_13) la_X5_14) la_X5_15) la_X5_16) la_X5_17) la_X5_18) la_X5_19) la_X5_20
theorem la_X6_0 : u_lay RX6 TX6 0 ∈ mx_big := mx_bigI (tb_bi 2 _ (List.mem_of_getElem? (l := tables_1_2) (i := 100) rfl)) rfl
theorem la_X6_1 : u_lay RX6 TX6 1 ∈ mx_big := mx_bigI (tb_bi 2 _ (List.mem_of_getElem? (l := tables_1_2) (i := 102) rfl)) rfl
theorem la_X6_2 : u_lay RX6 TX6 2 ∈ mx_big := mx_bigI (tb_bi 2 _ (List.mem_of_getElem? (l := tables_1_2) (i := 104) rfl)) rfl
theorem la_X6_3 : u_lay RX6 TX6 3 ∈ mx_big := mx_bigI (tb_bi 2 _ (List.mem_of_getElem? (l := tables_1_2) (i := 106) rfl)) rfl
theorem la_X6_4 : u_lay RX6 TX6 4 ∈ mx_big := mx_bigI (tb_bi 2 _ (List.mem_of_getElem? (l := tables_1_2) (i := 108) rfl)) rfl
theorem la_X6_5 : u_lay RX6 TX6 5 ∈ mx_big := mx_bigI (tb_bi 2 _ (List.mem_of_getElem? (l := tables_1_2) (i := 110) rfl)) rfl
theorem la_X6_6 : u_lay RX6 TX6 6 ∈ mx_big := mx_bigI (tb_bi 2 _ (List.mem_of_getElem? (l := tables_1_2) (i := 112) rfl)) rfl
theorem la_X6_7 : u_lay RX6 TX6 7 ∈ mx_big := mx_bigI (tb_bi 2 _ (List.mem_of_getElem? (l := tables_1_2) (i := 114) rfl)) rfl
set_option maxRecDepth 20000 in
theorem lk_X6 : ∀ k, k < 8 → u_lay RX6 TX6 k ∈ mx_big := lt_s (lt_s (lt_s (lt_s (lt_s (lt_s (lt_s (lt_s (lt_0) la_X6_0) la_X6_1) la_X6_2) la_X6_3) la_X6_4) la_X6_5) la_X6_6) la_X6_7
theorem la_X7_0 : u_lay RX7 TX7 0 ∈ mx_big := mx_bigI (tb_bi 3 _ (List.mem_of_getElem? (l := tables_1_3) (i := 72) rfl)) rfl
theorem la_X7_1 : u_lay RX7 TX7 1 ∈ mx_big := mx_bigI (tb_bi 3 _ (List.mem_of_getElem? (l := tables_1_3) (i := 74) rfl)) rfl
theorem la_X7_2 : u_lay RX7 TX7 2 ∈ mx_big := mx_bigI (tb_bi 3 _ (List.mem_of_getElem? (l := tables_1_3) (i := 76) rfl)) rfl
theorem la_X7_3 : u_lay RX7 TX7 3 ∈ mx_big := mx_bigI (tb_bi 3 _ (List.mem_of_getElem? (l := tables_1_3) (i := 78) rfl)) rfl
theorem la_X7_4 : u_lay RX7 TX7 4 ∈ mx_big := mx_bigI (tb_bi 3 _ (List.mem_of_getElem? (l := tables_1_3) (i := 80) rfl)) rfl
theorem la_X7_5 : u_lay RX7 TX7 5 ∈ mx_big := mx_bigI (tb_bi 3 _ (List.mem_of_getElem? (l := tables_1_3) (i := 82) rfl)) rfl
theorem la_X7_6 : u_lay RX7 TX7 6 ∈ mx_big := mx_bigI (tb_bi 3 _ (List.mem_of_getElem? (l := tables_1_3) (i := 84) rfl)) rfl
theorem la_X7_7 : u_lay RX7 TX7 7 ∈ mx_big := mx_bigI (tb_bi 3 _ (List.mem_of_getElem? (l := tables_1_3) (i := 86) rfl)) rfl
set_option maxRecDepth 20000 in
theorem lk_X7 : ∀ k, k < 8 → u_lay RX7 TX7 k ∈ mx_big := lt_s (lt_s (lt_s (lt_s (lt_s (lt_s (lt_s (lt_s (lt_0) la_X7_0) la_X7_1) la_X7_2) la_X7_3) la_X7_4) la_X7_5) la_X7_6) la_X7_7
theorem la_X8_0 : u_lay RX8 TX8 0 ∈ mx_big := mx_bigI (tb_bi 2 _ (List.mem_of_getElem? (l := tables_1_2) (i := 16) rfl)) rfl
theorem la_X8_1 : u_lay RX8 TX8 1 ∈ mx_big := mx_bigI (tb_bi 2 _ (List.mem_of_getElem? (l := tables_1_2) (i := 18) rfl)) rfl
set_option maxRecDepth 20000 in
theorem lk_X8 : ∀ k, k < 2 → u_lay RX8 TX8 k ∈ mx_big := lt_s (lt_s (lt_0) la_X8_0) la_X8_1
theorem la_X9_0 : u_lay RX9 TX9 0 ∈ mx_big := mx_bigI (tb_bi 1 _ (List.mem_of_getElem? (l := tables_1_1) (i := 122) rfl)) rfl
theorem la_X9_1 : u_lay RX9 TX9 1 ∈ mx_big := mx_bigI (tb_bi 1 _ (List.mem_of_getElem? (l := tables_1_1) (i := 124) rfl)) rfl
theorem la_X9_2 : u_lay RX9 TX9 2 ∈ mx_big := mx_bigI (tb_bi 1 _ (List.mem_of_getElem? (l := tables_1_1) (i := 126) rfl)) rfl
theorem la_X9_3 : u_lay RX9 TX9 3 ∈ mx_big := mx_bigI (tb_bi 1 _ (List.mem_of_getElem? (l := tables_1_1) (i := 128) rfl)) rfl
theorem la_X9_4 : u_lay RX9 TX9 4 ∈ mx_big := mx_bigI (tb_bi 1 _ (List.mem_of_getElem? (l := tables_1_1) (i := 130) rfl)) rfl
theorem la_X9_5 : u_lay RX9 TX9 5 ∈ mx_big := mx_bigI (tb_bi 1 _ (List.mem_of_getElem? (l := tables_1_1) (i := 132) rfl)) rfl
theorem la_X9_6 : u_lay RX9 TX9 6 ∈ mx_big := mx_bigI (tb_bi 1 _ (List.mem_of_getElem? (l := tables_1_1) (i := 134) rfl)) rfl
theorem la_X9_7 : u_lay RX9 TX9 7 ∈ mx_big := mx_bigI (tb_bi 1 _ (List.mem_of_getElem? (l := tables_1_1) (i := 136) rfl)) rfl
theorem la_X9_8 : u_lay RX9 TX9 8 ∈ mx_big := mx_bigI (tb_bi 1 _ (List.mem_of_getElem? (l := tables_1_1) (i := 138) rfl)) rfl
theorem la_X9_9 : u_lay RX9 TX9 9 ∈ mx_big := mx_bigI (tb_bi 1 _ (List.mem_of_getElem? (l := tables_1_1) (i := 140) rfl)) rfl
theorem la_X9_10 : u_lay RX9 TX9 10 ∈ mx_big := mx_bigI (tb_bi 1 _ (List.mem_of_getElem? (l := tables_1_1) (i := 142) rfl)) rfl
theorem la_X9_11 : u_lay RX9 TX9 11 ∈ mx_big := mx_bigI (tb_bi 1 _ (List.mem_of_getElem? (l := tables_1_1) (i := 144) rfl)) rfl
theorem la_X9_12 : u_lay RX9 TX9 12 ∈ mx_big := mx_bigI (tb_bi 1 _ (List.mem_of_getElem? (l := tables_1_1) (i := 146) rfl)) rfl
set_option maxRecDepth 20000 in
theorem lk_X9 : ∀ k, k < 13 → u_lay RX9 TX9 k ∈ mx_big := lt_s (lt_s (lt_s (lt_s (lt_s (lt_s (lt_s (lt_s (lt_s (lt_s (lt_s (lt_s (lt_s (lt_0) la_X9_0) la_X9_1) la_X9_2) la_X9_3) la_X9_4) la_X9_5) la_X9_6) la_X9_7) la_X9_8) la_X9_9) la_X9_10) la_X9_11) la_X9_12
theorem la_X10_0 : u_lay RX10 TX10 0 ∈ mx_big := mx_bigI (tb_bi 2 _ (List.mem_of_getElem? (l := tables_1_2) (i := 147) rfl)) rfl
theorem la_X10_1 : u_lay RX10 TX10 1 ∈ mx_big := mx_bigI (tb_bi 2 _ (List.mem_of_getElem? (l := tables_1_2) (i := 149) rfl)) rfl
theorem la_X10_2 : u_lay RX10 TX10 2 ∈ mx_big := mx_bigI (tb_bi 2 _ (List.mem_of_getElem? (l := tables_1_2) (i := 151) rfl)) rfl
theorem la_X10_3 : u_lay RX10 TX10 3 ∈ mx_big := mx_bigI (tb_bi 2 _ (List.mem_of_getElem? (l := tables_1_2) (i := 153) rfl)) rfl
theorem la_X10_4 : u_lay RX10 TX10 4 ∈ mx_big := mx_bigI (tb_bi 2 _ (List.mem_of_getElem? (l := tables_1_2) (i := 155) rfl)) rfl
theorem la_X10_5 : u_lay RX10 TX10 5 ∈ mx_big := mx_bigI (tb_bi 2 _ (List.mem_of_getElem? (l := tables_1_2) (i := 157) rfl)) rfl
theorem la_X10_6 : u_lay RX10 TX10 6 ∈ mx_big := mx_bigI (tb_bi 2 _ (List.mem_of_getElem? (l := tables_1_2) (i := 159) rfl)) rfl
theorem la_X10_7 : u_lay RX10 TX10 7 ∈ mx_big := mx_bigI (tb_bi 2 _ (List.mem_of_getElem? (l := tables_1_2) (i := 161) rfl)) rfl
theorem la_X10_8 : u_lay RX10 TX10 8 ∈ mx_big := mx_bigI (tb_bi 2 _ (List.mem_of_getElem? (l := tables_1_2) (i := 163) rfl)) rfl
theorem la_X10_9 : u_lay RX10 TX10 9 ∈ mx_big := mx_bigI (tb_bi 2 _ (List.mem_of_getElem? (l := tables_1_2) (i := 165) rfl)) rfl
theorem la_X10_10 : u_lay RX10 TX10 10 ∈ mx_big := mx_bigI (tb_bi 2 _ (List.mem_of_getElem? (l := tables_1_2) (i := 167) rfl)) rfl
theorem la_X10_11 : u_lay RX10 TX10 11 ∈ mx_big := mx_bigI (tb_bi 2 _ (List.mem_of_getElem? (l := tables_1_2) (i := 169) rfl)) rfl
theorem la_X10_12 : u_lay RX10 TX10 12 ∈ mx_big := mx_bigI (tb_bi 2 _ (List.mem_of_getElem? (l := tables_1_2) (i := 171) rfl)) rfl
theorem la_X10_13 : u_lay RX10 TX10 13 ∈ mx_big := mx_bigI (tb_bi 2 _ (List.mem_of_getElem? (l := tables_1_2) (i := 173) rfl)) rfl
theorem la_X10_14 : u_lay RX10 TX10 14 ∈ mx_big := mx_bigI (tb_bi 2 _ (List.mem_of_getElem? (l := tables_1_2) (i := 175) rfl)) rfl
theorem la_X10_15 : u_lay RX10 TX10 15 ∈ mx_big := mx_bigI (tb_bi 2 _ (List.mem_of_getElem? (l := tables_1_2) (i := 177) rfl)) rfl
theorem la_X10_16 : u_lay RX10 TX10 16 ∈ mx_big := mx_bigI (tb_bi 2 _ (List.mem_of_getElem? (l := tables_1_2) (i := 179) rfl)) rfl
theorem la_X10_17 : u_lay RX10 TX10 17 ∈ mx_big := mx_bigI (tb_bi 2 _ (List.mem_of_getElem? (l := tables_1_2) (i := 181) rfl)) rfl
theorem la_X10_18 : u_lay RX10 TX10 18 ∈ mx_big := mx_bigI (tb_bi 2 _ (List.mem_of_getElem? (l := tables_1_2) (i := 183) rfl)) rfl
set_option maxRecDepth 20000 in
theorem lk_X10 : ∀ k, k < 19 → u_lay RX10 TX10 k ∈ mx_big := lt_s (lt_s (lt_s (lt_s (lt_s (lt_s (lt_s (lt_s (lt_s (lt_s (lt_s (lt_s (lt_s (lt_s (lt_s (lt_s (lt_s (lt_s (lt_s (lt_0) la_X10_0) la_X10_1) la_X10_2) la_X10_3) la_X10_4) la_X10_5) la_X10_6) la_X10_7) la_X10_8) la_X10_9) la_X10_10) la_X10_11) la_X10_12) la_X10_13) la_X10_14) la_X10_15) la_X10_16) la_X10_17) la_X10_18
theorem la_X11_0 : u_lay RX11 TX11 0 ∈ mx_big := mx_bigI (tb_bi 3 _ (List.mem_of_getElem? (l := tables_1_3) (i := 121) rfl)) rfl
theorem la_X11_1 : u_lay RX11 TX11 1 ∈ mx_big := mx_bigI (tb_bi 3 _ (List.mem_of_getElem? (l := tables_1_3) (i := 123) rfl)) rfl
theorem la_X11_2 : u_lay RX11 TX11 2 ∈ mx_big := mx_bigI (tb_bi 3 _ (List.mem_of_getElem? (l := tables_1_3) (i := 125) rfl)) rfl
theorem la_X11_3 : u_lay RX11 TX11 3 ∈ mx_big := mx_bigI (tb_bi 3 _ (List.mem_of_getElem? (l := tables_1_3) (i := 127) rfl)) rfl
theorem la_X11_4 : u_lay RX11 TX11 4 ∈ mx_big := mx_bigI (tb_bi 3 _ (List.mem_of_getElem? (l := tables_1_3) (i := 129) rfl)) rfl
theorem la_X11_5 : u_lay RX11 TX11 5 ∈ mx_big := mx_bigI (tb_bi 3 _ (List.mem_of_getElem? (l := tables_1_3) (i := 131) rfl)) rfl
theorem la_X11_6 : u_lay RX11 TX11 6 ∈ mx_big := mx_bigI (tb_bi 3 _ (List.mem_of_getElem? (l := tables_1_3) (i := 133) rfl)) rfl
theorem la_X11_7 : u_lay RX11 TX11 7 ∈ mx_big := mx_bigI (tb_bi 3 _ (List.mem_of_getElem? (l := tables_1_3) (i := 135) rfl)) rfl
theorem la_X11_8 : u_lay RX11 TX11 8 ∈ mx_big := mx_bigI (tb_bi 3 _ (List.mem_of_getElem? (l := tables_1_3) (i := 137) rfl)) rfl
theorem la_X11_9 : u_lay RX11 TX11 9 ∈ mx_big := mx_bigI (tb_bi 3 _ (List.mem_of_getElem? (l := tables_1_3) (i := 139) rfl)) rfl
theorem la_X11_10 : u_lay RX11 TX11 10 ∈ mx_big := mx_bigI (tb_bi 3 _ (List.mem_of_getElem? (l := tables_1_3) (i := 141) rfl)) rfl
theorem la_X11_11 : u_lay RX11 TX11 11 ∈ mx_big := mx_bigI (tb_bi 3 _ (List.mem_of_getElem? (l := tables_1_3) (i := 143) rfl)) rfl
theorem la_X11_12 : u_lay RX11 TX11 12 ∈ mx_big := mx_bigI (tb_bi 3 _ (List.mem_of_getElem? (l := tables_1_3) (i := 145) rfl)) rfl
theorem la_X11_13 : u_lay RX11 TX11 13 ∈ mx_big := mx_bigI (tb_bi 3 _ (List.mem_of_getElem? (l := tables_1_3) (i := 147) rfl)) rfl
theorem la_X11_14 : u_lay RX11 TX11 14 ∈ mx_big := mx_bigI (tb_bi 3 _ (List.mem_of_getElem? (l := tables_1_3) (i := 149) rfl)) rfl
theorem la_X11_15 : u_lay RX11 TX11 15 ∈ mx_big := mx_bigI (tb_bi 3 _ (List.mem_of_getElem? (l := tables_1_3) (i := 151) rfl)) rfl
theorem la_X11_16 : u_lay RX11 TX11 16 ∈ mx_big := mx_bigI (tb_bi 3 _ (List.mem_of_getElem? (l := tables_1_3) (i := 153) rfl)) rfl
theorem la_X11_17 : u_lay RX11 TX11 17 ∈ mx_big := mx_bigI (tb_bi 3 _ (List.mem_of_getElem? (l := tables_1_3) (i := 155) rfl)) rfl
theorem la_X11_18 : u_lay RX11 TX11 18 ∈ mx_big := mx_bigI (tb_bi 3 _ (List.mem_of_getElem? (l := tables_1_3) (i := 157) rfl)) rfl
theorem la_X11_19 : u_lay RX11 TX11 19 ∈ mx_big := mx_bigI (tb_bi 3 _ (List.mem_of_getElem? (l := tables_1_3) (i := 159) rfl)) rfl
theorem la_X11_20 : u_lay RX11 TX11 20 ∈ mx_big := mx_bigI (tb_bi 3 _ (List.mem_of_getElem? (l := tables_1_3) (i := 161) rfl)) rfl
set_option maxRecDepth 20000 in
theorem lk_X11 : ∀ k, k < 21 → u_lay RX11 TX11 k ∈ mx_big := lt_s (lt_s (lt_s (lt_s (lt_s (lt_s (lt_s (lt_s (lt_s (lt_s (lt_s (lt_s (lt_s (lt_s (lt_s (lt_s (lt_s (lt_s (lt_s (lt_s (lt_s (lt_0) la_X11_0) la_X11_1) la_X11_2) la_X11_3) la_X11_4) la_X11_5) la_X11_6) la_X11_7) la_X11_8) la_X11_9) la_X11_10) la_X11_11) la_X11_12) la_X11_13) la_X11_14) la_X11_15) la_X11_16) la_X11_17) la_X11_18) la_X11_19) la_X11_20
theorem la_X12_0 : u_lay RX12 TX12 0 ∈ mx_big := mx_bigI (tb_bi 4 _ (List.mem_of_getElem? (l := tables_1_4) (i := 7) rfl)) rfl
theorem la_X12_1 : u_lay RX12 TX12 1 ∈ mx_big := mx_bigI (tb_bi 4 _ (List.mem_of_getElem? (l := tables_1_4) (i := 9) rfl)) rfl
theorem la_X12_2 : u_lay RX12 TX12 2 ∈ mx_big := mx_bigI (tb_bi 4 _ (List.mem_of_getElem? (l := tables_1_4) (i := 11) rfl)) rfl
theorem la_X12_3 : u_lay RX12 TX12 3 ∈ mx_big := mx_bigI (tb_bi 4 _ (List.mem_of_getElem? (l := tables_1_4) (i := 13) rfl)) rfl
theorem la_X12_4 : u_lay RX12 TX12 4 ∈ mx_big := mx_bigI (tb_bi 4 _ (List.mem_of_getElem? (l := tables_1_4) (i := 15) rfl)) rfl
theorem la_X12_5 : u_lay RX12 TX12 5 ∈ mx_big := mx_bigI (tb_bi 4 _ (List.mem_of_getElem? (l := tables_1_4) (i := 17) rfl)) rfl
theorem la_X12_6 : u_lay RX12 TX12 6 ∈ mx_big := mx_bigI (tb_bi 4 _ (List.mem_of_getElem? (l := tables_1_4) (i := 19) rfl)) rfl
theorem la_X12_7 : u_lay RX12 TX12 7 ∈ mx_big := mx_bigI (tb_bi 4 _ (List.mem_of_getElem? (l := tables_1_4) (i := 21) rfl)) rfl
theorem la_X12_8 : u_lay RX12 TX12 8 ∈ mx_big := mx_bigI (tb_bi 4 _ (List.mem_of_getElem? (l := tables_1_4) (i := 23) rfl)) rfl
theorem la_X12_9 : u_lay RX12 TX12 9 ∈ mx_big := mx_bigI (tb_bi 4 _ (List.mem_of_getElem? (l := tables_1_4) (i := 25) rfl)) rfl
theorem la_X12_10 : u_lay RX12 TX12 10 ∈ mx_big := mx_bigI (tb_bi 4 _ (List.mem_of_getElem? (l := tables_1_4) (i := 27) rfl)) rfl
set_option maxRecDepth 20000 in
theorem lk_X12 : ∀ k, k < 11 → u_lay RX12 TX12 k ∈ mx_big := lt_s (lt_s (lt_s (lt_s (lt_s (lt_s (lt_s (lt_s (lt_s (lt_s (lt_s (lt_0) la_X12_0) la_X12_1) la_X12_2) la_X12_3) la_X12_4) la_X12_5) la_X12_6) la_X12_7) la_X12_8) la_X12_9) la_X12_10
theorem la_X13_0 : u_lay RX13 TX13 0 ∈ mx_big := mx_bigI (tb_bi 11 _ (List.mem_of_getElem? (l := tables_1_11) (i := 84) rfl)) rfl
theorem la_X13_1 : u_lay RX13 TX13 1 ∈ mx_big := mx_bigI (tb_bi 11 _ (List.mem_of_getElem? (l := tables_1_11) (i := 86) rfl)) rfl
theorem la_X13_2 : u_lay RX13 TX13 2 ∈ mx_big := mx_bigI (tb_bi 11 _ (List.mem_of_getElem? (l := tables_1_11) (i := 88) rfl)) rfl
theorem la_X13_3 : u_lay RX13 TX13 3 ∈ mx_big := mx_bigI (tb_bi 11 _ (List.mem_of_getElem? (l := tables_1_11) (i := 90) rfl)) rfl
theorem la_X13_4 : u_lay RX13 TX13 4 ∈ mx_big := mx_bigI (tb_bi 11 _ (List.mem_of_getElem? (l := tables_1_11) (i := 92) rfl)) rfl
theorem la_X13_5 : u_lay RX13 TX13 5 ∈ mx_big := mx_bigI (tb_bi 11 _ (List.mem_of_getElem? (l := tables_1_11) (i := 94) rfl)) rfl
theorem la_X13_6 : u_lay RX13 TX13 6 ∈ mx_big := mx_bigI (tb_bi 11 _ (List.mem_of_getElem? (l := tables_1_11) (i := 96) rfl)) rfl
theorem la_X13_7 : u_lay RX13 TX13 7 ∈ mx_big := mx_bigI (tb_bi 11 _ (List.mem_of_getElem? (l := tables_1_11) (i := 98) rfl)) rfl
theorem la_X13_8 : u_lay RX13 TX13 8 ∈ mx_big := mx_bigI (tb_bi 11 _ (List.mem_of_getElem? (l := tables_1_11) (i := 100) rfl)) rfl
theorem la_X13_9 : u_lay RX13 TX13 9 ∈ mx_big := mx_bigI (tb_bi 11 _ (List.mem_of_getElem? (l := tables_1_11) (i := 102) rfl)) rfl
theorem la_X13_10 : u_lay RX13 TX13 10 ∈ mx_big := mx_bigI (tb_bi 11 _ (List.mem_of_getElem? (l := tables_1_11) (i := 104) rfl)) rfl
theorem la_X13_11 : u_lay RX13 TX13 11 ∈ mx_big := mx_bigI (tb_bi 11 _ (List.mem_of_getElem? (l := tables_1_11) (i := 106) rfl)) rfl
theorem la_X13_12 : u_lay RX13 TX13 12 ∈ mx_big := mx_bigI (tb_bi 11 _ (List.mem_of_getElem? (l := tables_1_11) (i := 108) rfl)) rfl
theorem la_X13_13 : u_lay RX13 TX13 13 ∈ mx_big := mx_bigI (tb_bi 11 _ (List.mem_of_getElem? (l := tables_1_11) (i := 110) rfl)) rfl
theorem la_X13_14 : u_lay RX13 TX13 14 ∈ mx_big := mx_bigI (tb_bi 11 _ (List.mem_of_getElem? (l := tables_1_11) (i := 112) rfl)) rfl
theorem la_X13_15 : u_lay RX13 TX13 15 ∈ mx_big := mx_bigI (tb_bi 11 _ (List.mem_of_getElem? (l := tables_1_11) (i := 114) rfl)) rfl
theorem la_X13_16 : u_lay RX13 TX13 16 ∈ mx_big := mx_bigI (tb_bi 11 _ (List.mem_of_getElem? (l := tables_1_11) (i := 116) rfl)) rfl
theorem la_X13_17 : u_lay RX13 TX13 17 ∈ mx_big := mx_bigI (tb_bi 11 _ (List.mem_of_getElem? (l := tables_1_11) (i := 118) rfl)) rfl
theorem la_X13_18 : u_lay RX13 TX13 18 ∈ mx_big := mx_bigI (tb_bi 11 _ (List.mem_of_getElem? (l := tables_1_11) (i := 120) rfl)) rfl
theorem la_X13_19 : u_lay RX13 TX13 19 ∈ mx_big := mx_bigI (tb_bi 11 _ (List.mem_of_getElem? (l := tables_1_11) (i := 122) rfl)) rfl
theorem la_X13_20 : u_lay RX13 TX13 20 ∈ mx_big := mx_bigI (tb_bi 11 _ (List.mem_of_getElem? (l := tables_1_11) (i := 124) rfl)) rfl
theorem la_X13_21 : u_lay RX13 TX13 21 ∈ mx_big := mx_bigI (tb_bi 11 _ (List.mem_of_getElem? (l := tables_1_11) (i := 126) rfl)) rfl
theorem la_X13_22 : u_lay RX13 TX13 22 ∈ mx_big := mx_bigI (tb_bi 11 _ (List.mem_of_getElem? (l := tables_1_11) (i := 128) rfl)) rfl
theorem la_X13_23 : u_lay RX13 TX13 23 ∈ mx_big := mx_bigI (tb_bi 11 _ (List.mem_of_getElem? (l := tables_1_11) (i := 130) rfl)) rfl
theorem la_X13_24 : u_lay RX13 TX13 24 ∈ mx_big := mx_bigI (tb_bi 11 _ (List.mem_of_getElem? (l := tables_1_11) (i := 132) rfl)) rfl
theorem la_X13_25 : u_lay RX13 TX13 25 ∈ mx_big := mx_bigI (tb_bi 11 _ (List.mem_of_getElem? (l := tables_1_11) (i := 134) rfl)) rfl
theorem la_X13_26 : u_lay RX13 TX13 26 ∈ mx_big := mx_bigI (tb_bi 11 _ (List.mem_of_getElem? (l := tables_1_11) (i := 136) rfl)) rfl
theorem la_X13_27 : u_lay RX13 TX13 27 ∈ mx_big := mx_bigI (tb_bi 11 _ (List.mem_of_getElem? (l := tables_1_11) (i := 138) rfl)) rfl
theorem la_X13_28 : u_lay RX13 TX13 28 ∈ mx_big := mx_bigI (tb_bi 11 _ (List.mem_of_getElem? (l := tables_1_11) (i := 140) rfl)) rfl
theorem la_X13_29 : u_lay RX13 TX13 29 ∈ mx_big := mx_bigI (tb_bi 11 _ (List.mem_of_getElem? (l := tables_1_11) (i := 142) rfl)) rfl
theorem la_X13_30 : u_lay RX13 TX13 30 ∈ mx_big := mx_bigI (tb_bi 11 _ (List.mem_of_getElem? (l := tables_1_11) (i := 144) rfl)) rfl
theorem la_X13_31 : u_lay RX13 TX13 31 ∈ mx_big := mx_bigI (tb_bi 11 _ (List.mem_of_getElem? (l := tables_1_11) (i := 146) rfl)) rfl
theorem la_X13_32 : u_lay RX13 TX13 32 ∈ mx_big := mx_bigI (tb_bi 11 _ (List.mem_of_getElem? (l := tables_1_11) (i := 148) rfl)) rfl
theorem la_X13_33 : u_lay RX13 TX13 33 ∈ mx_big := mx_bigI (tb_bi 11 _ (List.mem_of_getElem? (l := tables_1_11) (i := 150) rfl)) rfl
theorem la_X13_34 : u_lay RX13 TX13 34 ∈ mx_big := mx_bigI (tb_bi 11 _ (List.mem_of_getElem? (l := tables_1_11) (i := 152) rfl)) rfl
theorem la_X13_35 : u_lay RX13 TX13 35 ∈ mx_big := mx_bigI (tb_bi 11 _ (List.mem_of_getElem? (l := tables_1_11) (i := 154) rfl)) rfl
theorem la_X13_36 : u_lay RX13 TX13 36 ∈ mx_big := mx_bigI (tb_bi 11 _ (List.mem_of_getElem? (l := tables_1_11) (i := 156) rfl)) rfl
theorem la_X13_37 : u_lay RX13 TX13 37 ∈ mx_big := mx_bigI (tb_bi 11 _ (List.mem_of_getElem? (l := tables_1_11) (i := 158) rfl)) rfl
theorem la_X13_38 : u_lay RX13 TX13 38 ∈ mx_big := mx_bigI (tb_bi 11 _ (List.mem_of_getElem? (l := tables_1_11) (i := 160) rfl)) rfl
theorem la_X13_39 : u_lay RX13 TX13 39 ∈ mx_big := mx_bigI (tb_bi 11 _ (List.mem_of_getElem? (l := tables_1_11) (i := 162) rfl)) rfl
theorem la_X13_40 : u_lay RX13 TX13 40 ∈ mx_big := mx_bigI (tb_bi 11 _ (List.mem_of_getElem? (l := tables_1_11) (i := 164) rfl)) rfl
theorem la_X13_41 : u_lay RX13 TX13 41 ∈ mx_big := mx_bigI (tb_bi 11 _ (List.mem_of_getElem? (l := tables_1_11) (i := 166) rfl)) rfl
theorem la_X13_42 : u_lay RX13 TX13 42 ∈ mx_big := mx_bigI (tb_bi 11 _ (List.mem_of_getElem? (l := tables_1_11) (i := 168) rfl)) rfl
theorem la_X13_43 : u_lay RX13 TX13 43 ∈ mx_big := mx_bigI (tb_bi 11 _ (List.mem_of_getElem? (l := tables_1_11) (i := 170) rfl)) rfl
theorem la_X13_44 : u_lay RX13 TX13 44 ∈ mx_big := mx_bigI (tb_bi 11 _ (List.mem_of_getElem? (l := tables_1_11) (i := 172) rfl)) rfl
theorem la_X13_45 : u_lay RX13 TX13 45 ∈ mx_big := mx_bigI (tb_bi 11 _ (List.mem_of_getElem? (l := tables_1_11) (i := 174) rfl)) rfl
theorem la_X13_46 : u_lay RX13 TX13 46 ∈ mx_big := mx_bigI (tb_bi 11 _ (List.mem_of_getElem? (l := tables_1_11) (i := 176) rfl)) rfl
theorem la_X13_47 : u_lay RX13 TX13 47 ∈ mx_big := mx_bigI (tb_bi 11 _ (List.mem_of_getElem? (l := tables_1_11) (i := 178) rfl)) rfl
theorem la_X13_48 : u_lay RX13 TX13 48 ∈ mx_big := mx_bigI (tb_bi 11 _ (List.mem_of_getElem? (l := tables_1_11) (i := 180) rfl)) rfl
theorem la_X13_49 : u_lay RX13 TX13 49 ∈ mx_big := mx_bigI (tb_bi 11 _ (List.mem_of_getElem? (l := tables_1_11) (i := 182) rfl)) rfl
theorem la_X13_50 : u_lay RX13 TX13 50 ∈ mx_big := mx_bigI (tb_bi 11 _ (List.mem_of_getElem? (l := tables_1_11) (i := 184) rfl)) rfl
theorem la_X13_51 : u_lay RX13 TX13 51 ∈ mx_big := mx_bigI (tb_bi 11 _ (List.mem_of_getElem? (l := tables_1_11) (i := 186) rfl)) rfl
theorem la_X13_52 : u_lay RX13 TX13 52 ∈ mx_big := mx_bigI (tb_bi 11 _ (List.mem_of_getElem? (l := tables_1_11) (i := 188) rfl)) rfl
theorem la_X13_53 : u_lay RX13 TX13 53 ∈ mx_big := mx_bigI (tb_bi 11 _ (List.mem_of_getElem? (l := tables_1_11) (i := 190) rfl)) rfl
theorem la_X13_54 : u_lay RX13 TX13 54 ∈ mx_big := mx_bigI (tb_bi 11 _ (List.mem_of_getElem? (l := tables_1_11) (i := 192) rfl)) rfl
theorem la_X13_55 : u_lay RX13 TX13 55 ∈ mx_big := mx_bigI (tb_bi 11 _ (List.mem_of_getElem? (l := tables_1_11) (i := 194) rfl)) rfl
theorem la_X13_56 : u_lay RX13 TX13 56 ∈ mx_big := mx_bigI (tb_bi 11 _ (List.mem_of_getElem? (l := tables_1_11) (i := 196) rfl)) rfl
theorem la_X13_57 : u_lay RX13 TX13 57 ∈ mx_big := mx_bigI (tb_bi 11 _ (List.mem_of_getElem? (l := tables_1_11) (i := 198) rfl)) rfl
theorem la_X13_58 : u_lay RX13 TX13 58 ∈ mx_big := mx_bigI (tb_bi 11 _ (List.mem_of_getElem? (l := tables_1_11) (i := 200) rfl)) rfl
theorem la_X13_59 : u_lay RX13 TX13 59 ∈ mx_big := mx_bigI (tb_bi 11 _ (List.mem_of_getElem? (l := tables_1_11) (i := 202) rfl)) rfl
theorem la_X13_60 : u_lay RX13 TX13 60 ∈ mx_big := mx_bigI (tb_bi 11 _ (List.mem_of_getElem? (l := tables_1_11) (i := 204) rfl)) rfl
theorem la_X13_61 : u_lay RX13 TX13 61 ∈ mx_big := mx_bigI (tb_bi 11 _ (List.mem_of_getElem? (l := tables_1_11) (i := 206) rfl)) rfl
theorem la_X13_62 : u_lay RX13 TX13 62 ∈ mx_big := mx_bigI (tb_bi 11 _ (List.mem_of_getElem? (l := tables_1_11) (i := 208) rfl)) rfl
theorem la_X13_63 : u_lay RX13 TX13 63 ∈ mx_big := mx_bigI (tb_bi 11 _ (List.mem_of_getElem? (l := tables_1_11) (i := 210) rfl)) rfl
theorem la_X13_64 : u_lay RX13 TX13 64 ∈ mx_big := mx_bigI (tb_bi 11 _ (List.mem_of_getElem? (l := tables_1_11) (i := 212) rfl)) rfl
theorem la_X13_65 : u_lay RX13 TX13 65 ∈ mx_big := mx_bigI (tb_bi 11 _ (List.mem_of_getElem? (l := tables_1_11) (i := 214) rfl)) rfl
theorem la_X13_66 : u_lay RX13 TX13 66 ∈ mx_big := mx_bigI (tb_bi 11 _ (List.mem_of_getElem? (l := tables_1_11) (i := 216) rfl)) rfl
theorem la_X13_67 : u_lay RX13 TX13 67 ∈ mx_big := mx_bigI (tb_bi 11 _ (List.mem_of_getElem? (l := tables_1_11) (i := 218) rfl)) rfl
theorem la_X13_68 : u_lay RX13 TX13 68 ∈ mx_big := mx_bigI (tb_bi 11 _ (List.mem_of_getElem? (l := tables_1_11) (i := 220) rfl)) rfl
theorem la_X13_69 : u_lay RX13 TX13 69 ∈ mx_big := mx_bigI (tb_bi 11 _ (List.mem_of_getElem? (l := tables_1_11) (i := 222) rfl)) rfl
theorem la_X13_70 : u_lay RX13 TX13 70 ∈ mx_big := mx_bigI (tb_bi 11 _ (List.mem_of_getElem? (l := tables_1_11) (i := 224) rfl)) rfl
theorem la_X13_71 : u_lay RX13 TX13 71 ∈ mx_big := mx_bigI (tb_bi 11 _ (List.mem_of_getElem? (l := tables_1_11) (i := 226) rfl)) rfl
theorem la_X13_72 : u_lay RX13 TX13 72 ∈ mx_big := mx_bigI (tb_bi 11 _ (List.mem_of_getElem? (l := tables_1_11) (i := 228) rfl)) rfl
theorem la_X13_73 : u_lay RX13 TX13 73 ∈ mx_big := mx_bigI (tb_bi 11 _ (List.mem_of_getElem? (l := tables_1_11) (i := 230) rfl)) rfl
theorem la_X13_74 : u_lay RX13 TX13 74 ∈ mx_big := mx_bigI (tb_bi 11 _ (List.mem_of_getElem? (l := tables_1_11) (i := 232) rfl)) rfl
theorem la_X13_75 : u_lay RX13 TX13 75 ∈ mx_big := mx_bigI (tb_bi 11 _ (List.mem_of_getElem? (l := tables_1_11) (i := 234) rfl)) rfl
theorem la_X13_76 : u_lay RX13 TX13 76 ∈ mx_big := mx_bigI (tb_bi 11 _ (List.mem_of_getElem? (l := tables_1_11) (i := 236) rfl)) rfl
theorem la_X13_77 : u_lay RX13 TX13 77 ∈ mx_big := mx_bigI (tb_bi 11 _ (List.mem_of_getElem? (l := tables_1_11) (i := 238) rfl)) rfl
theorem la_X13_78 : u_lay RX13 TX13 78 ∈ mx_big := mx_bigI (tb_bi 12 _ (List.mem_of_getElem? (l := tables_1_12) (i := 0) rfl)) rfl
theorem la_X13_79 : u_lay RX13 TX13 79 ∈ mx_big := mx_bigI (tb_bi 12 _ (List.mem_of_getElem? (l := tables_1_12) (i := 2) rfl)) rfl
theorem la_X13_80 : u_lay RX13 TX13 80 ∈ mx_big := mx_bigI (tb_bi 12 _ (List.mem_of_getElem? (l := tables_1_12) (i := 4) rfl)) rfl
theorem la_X13_81 : u_lay RX13 TX13 81 ∈ mx_big := mx_bigI (tb_bi 12 _ (List.mem_of_getElem? (l := tables_1_12) (i := 6) rfl)) rfl
theorem la_X13_82 : u_lay RX13 TX13 82 ∈ mx_big := mx_bigI (tb_bi 12 _ (List.mem_of_getElem? (l := tables_1_12) (i := 8) rfl)) rfl
theorem la_X13_83 : u_lay RX13 TX13 83 ∈ mx_big := mx_bigI (tb_bi 12 _ (List.mem_of_getElem? (l := tables_1_12) (i := 10) rfl)) rfl
theorem la_X13_84 : u_lay RX13 TX13 84 ∈ mx_big := mx_bigI (tb_bi 12 _ (List.mem_of_getElem? (l := tables_1_12) (i := 12) rfl)) rfl
theorem la_X13_85 : u_lay RX13 TX13 85 ∈ mx_big := mx_bigI (tb_bi 12 _ (List.mem_of_getElem? (l := tables_1_12) (i := 14) rfl)) rfl
theorem la_X13_86 : u_lay RX13 TX13 86 ∈ mx_big := mx_bigI (tb_bi 12 _ (List.mem_of_getElem? (l := tables_1_12) (i := 16) rfl)) rfl
theorem la_X13_87 : u_lay RX13 TX13 87 ∈ mx_big := mx_bigI (tb_bi 12 _ (List.mem_of_getElem? (l := tables_1_12) (i := 18) rfl)) rfl
theorem la_X13_88 : u_lay RX13 TX13 88 ∈ mx_big := mx_bigI (tb_bi 12 _ (List.mem_of_getElem? (l := tables_1_12) (i := 20) rfl)) rfl
theorem la_X13_89 : u_lay RX13 TX13 89 ∈ mx_big := mx_bigI (tb_bi 12 _ (List.mem_of_getElem? (l := tables_1_12) (i := 22) rfl)) rfl
theorem la_X13_90 : u_lay RX13 TX13 90 ∈ mx_big := mx_bigI (tb_bi 12 _ (List.mem_of_getElem? (l := tables_1_12) (i := 24) rfl)) rfl
theorem la_X13_91 : u_lay RX13 TX13 91 ∈ mx_big := mx_bigI (tb_bi 12 _ (List.mem_of_getElem? (l := tables_1_12) (i := 26) rfl)) rfl
theorem la_X13_92 : u_lay RX13 TX13 92 ∈ mx_big := mx_bigI (tb_bi 12 _ (List.mem_of_getElem? (l := tables_1_12) (i := 28) rfl)) rfl
theorem la_X13_93 : u_lay RX13 TX13 93 ∈ mx_big := mx_bigI (tb_bi 12 _ (List.mem_of_getElem? (l := tables_1_12) (i := 30) rfl)) rfl
theorem la_X13_94 : u_lay RX13 TX13 94 ∈ mx_big := mx_bigI (tb_bi 12 _ (List.mem_of_getElem? (l := tables_1_12) (i := 32) rfl)) rfl
theorem la_X13_95 : u_lay RX13 TX13 95 ∈ mx_big := mx_bigI (tb_bi 12 _ (List.mem_of_getElem? (l := tables_1_12) (i := 34) rfl)) rfl
theorem la_X13_96 : u_lay RX13 TX13 96 ∈ mx_big := mx_bigI (tb_bi 12 _ (List.mem_of_getElem? (l := tables_1_12) (i := 36) rfl)) rfl
theorem la_X13_97 : u_lay RX13 TX13 97 ∈ mx_big := mx_bigI (tb_bi 12 _ (List.mem_of_getElem? (l := tables_1_12) (i := 38) rfl)) rfl
theorem la_X13_98 : u_lay RX13 TX13 98 ∈ mx_big := mx_bigI (tb_bi 12 _ (List.mem_of_getElem? (l := tables_1_12) (i := 40) rfl)) rfl
theorem la_X13_99 : u_lay RX13 TX13 99 ∈ mx_big := mx_bigI (tb_bi 12 _ (List.mem_of_getElem? (l := tables_1_12) (i := 42) rfl)) rfl
theorem la_X13_100 : u_lay RX13 TX13 100 ∈ mx_big := mx_bigI (tb_bi 12 _ (List.mem_of_getElem? (l := tables_1_12) (i := 44) rfl)) rfl
theorem la_X13_101 : u_lay RX13 TX13 101 ∈ mx_big := mx_bigI (tb_bi 12 _ (List.mem_of_getElem? (l := tables_1_12) (i := 46) rfl)) rfl
theorem la_X13_102 : u_lay RX13 TX13 102 ∈ mx_big := mx_bigI (tb_bi 12 _ (List.mem_of_getElem? (l := tables_1_12) (i := 48) rfl)) rfl
theorem la_X13_103 : u_lay RX13 TX13 103 ∈ mx_big := mx_bigI (tb_bi 12 _ (List.mem_of_getElem? (l := tables_1_12) (i := 50) rfl)) rfl
theorem la_X13_104 : u_lay RX13 TX13 104 ∈ mx_big := mx_bigI (tb_bi 12 _ (List.mem_of_getElem? (l := tables_1_12) (i := 52) rfl)) rfl
theorem la_X13_105 : u_lay RX13 TX13 105 ∈ mx_big := mx_bigI (tb_bi 12 _ (List.mem_of_getElem? (l := tables_1_12) (i := 54) rfl)) rfl
theorem la_X13_106 : u_lay RX13 TX13 106 ∈ mx_big := mx_bigI (tb_bi 12 _ (List.mem_of_getElem? (l := tables_1_12) (i := 56) rfl)) rfl
theorem la_X13_107 : u_lay RX13 TX13 107 ∈ mx_big := mx_bigI (tb_bi 12 _ (List.mem_of_getElem? (l := tables_1_12) (i := 58) rfl)) rfl
theorem la_X13_108 : u_lay RX13 TX13 108 ∈ mx_big := mx_bigI (tb_bi 12 _ (List.mem_of_getElem? (l := tables_1_12) (i := 60) rfl)) rfl
theorem la_X13_109 : u_lay RX13 TX13 109 ∈ mx_big := mx_bigI (tb_bi 12 _ (List.mem_of_getElem? (l := tables_1_12) (i := 62) rfl)) rfl
theorem la_X13_110 : u_lay RX13 TX13 110 ∈ mx_big := mx_bigI (tb_bi 12 _ (List.mem_of_getElem? (l := tables_1_12) (i := 64) rfl)) rfl
theorem la_X13_111 : u_lay RX13 TX13 111 ∈ mx_big := mx_bigI (tb_bi 12 _ (List.mem_of_getElem? (l := tables_1_12) (i := 66) rfl)) rfl
theorem la_X13_112 : u_lay RX13 TX13 112 ∈ mx_big := mx_bigI (tb_bi 12 _ (List.mem_of_getElem? (l := tables_1_12) (i := 68) rfl)) rfl
theorem la_X13_113 : u_lay RX13 TX13 113 ∈ mx_big := mx_bigI (tb_bi 12 _ (List.mem_of_getElem? (l := tables_1_12) (i := 70) rfl)) rfl
theorem la_X13_114 : u_lay RX13 TX13 114 ∈ mx_big := mx_bigI (tb_bi 12 _ (List.mem_of_getElem? (l := tables_1_12) (i := 72) rfl)) rfl
theorem la_X13_115 : u_lay RX13 TX13 115 ∈ mx_big := mx_bigI (tb_bi 12 _ (List.mem_of_getElem? (l := tables_1_12) (i := 74) rfl)) rfl
theorem la_X13_116 : u_lay RX13 TX13 116 ∈ mx_big := mx_bigI (tb_bi 12 _ (List.mem_of_getElem? (l := tables_1_12) (i := 76) rfl)) rfl
theorem la_X13_117 : u_lay RX13 TX13 117 ∈ mx_big := mx_bigI (tb_bi 12 _ (List.mem_of_getElem? (l := tables_1_12) (i := 78) rfl)) rfl
theorem la_X13_118 : u_lay RX13 TX13 118 ∈ mx_big := mx_bigI (tb_bi 12 _ (List.mem_of_getElem? (l := tables_1_12) (i := 80) rfl)) rfl
theorem la_X13_119 : u_lay RX13 TX13 119 ∈ mx_big := mx_bigI (tb_bi 12 _ (List.mem_of_getElem? (l := tables_1_12) (i := 82) rfl)) rfl
theorem la_X13_120 : u_lay RX13 TX13 120 ∈ mx_big := mx_bigI (tb_bi 12 _ (List.mem_of_getElem? (l := tables_1_12) (i := 84) rfl)) rfl
theorem la_X13_121 : u_lay RX13 TX13 121 ∈ mx_big := mx_bigI (tb_bi 12 _ (List.mem_of_getElem? (l := tables_1_12) (i := 86) rfl)) rfl
theorem la_X13_122 : u_lay RX13 TX13 122 ∈ mx_big := mx_bigI (tb_bi 12 _ (List.mem_of_getElem? (l := tables_1_12) (i := 88) rfl)) rfl
theorem la_X13_123 : u_lay RX13 TX13 123 ∈ mx_big := mx_bigI (tb_bi 12 _ (List.mem_of_getElem? (l := tables_1_12) (i := 90) rfl)) rfl
theorem la_X13_124 : u_lay RX13 TX13 124 ∈ mx_big := mx_bigI (tb_bi 12 _ (List.mem_of_getElem? (l := tables_1_12) (i := 92) rfl)) rfl
theorem la_X13_125 : u_lay RX13 TX13 125 ∈ mx_big := mx_bigI (tb_bi 12 _ (List.mem_of_getElem? (l := tables_1_12) (i := 94) rfl)) rfl
theorem la_X13_126 : u_lay RX13 TX13 126 ∈ mx_big := mx_bigI (tb_bi 12 _ (List.mem_of_getElem? (l := tables_1_12) (i := 96) rfl)) rfl
theorem la_X13_127 : u_lay RX13 TX13 127 ∈ mx_big := mx_bigI (tb_bi 12 _ (List.mem_of_getElem? (l := tables_1_12) (i := 98) rfl)) rfl
theorem la_X13_128 : u_lay RX13 TX13 128 ∈ mx_big := mx_bigI (tb_bi 12 _ (List.mem_of_getElem? (l := tables_1_12) (i := 100) rfl)) rfl
theorem la_X13_129 : u_lay RX13 TX13 129 ∈ mx_big := mx_bigI (tb_bi 12 _ (List.mem_of_getElem? (l := tables_1_12) (i := 102) rfl)) rfl
theorem la_X13_130 : u_lay RX13 TX13 130 ∈ mx_big := mx_bigI (tb_bi 12 _ (List.mem_of_getElem? (l := tables_1_12) (i := 104) rfl)) rfl
theorem la_X13_131 : u_lay RX13 TX13 131 ∈ mx_big := mx_bigI (tb_bi 12 _ (List.mem_of_getElem? (l := tables_1_12) (i := 106) rfl)) rfl
theorem la_X13_132 : u_lay RX13 TX13 132 ∈ mx_big := mx_bigI (tb_bi 12 _ (List.mem_of_getElem? (l := tables_1_12) (i := 108) rfl)) rfl
theorem la_X13_133 : u_lay RX13 TX13 133 ∈ mx_big := mx_bigI (tb_bi 12 _ (List.mem_of_getElem? (l := tables_1_12) (i := 110) rfl)) rfl
theorem la_X13_134 : u_lay RX13 TX13 134 ∈ mx_big := mx_bigI (tb_bi 12 _ (List.mem_of_getElem? (l := tables_1_12) (i := 112) rfl)) rfl
theorem la_X13_135 : u_lay RX13 TX13 135 ∈ mx_big := mx_bigI (tb_bi 12 _ (List.mem_of_getElem? (l := tables_1_12) (i := 114) rfl)) rfl
theorem la_X13_136 : u_lay RX13 TX13 136 ∈ mx_big := mx_bigI (tb_bi 12 _ (List.mem_of_getElem? (l := tables_1_12) (i := 116) rfl)) rfl
theorem la_X13_137 : u_lay RX13 TX13 137 ∈ mx_big := mx_bigI (tb_bi 12 _ (List.mem_of_getElem? (l := tables_1_12) (i := 118) rfl)) rfl
theorem la_X13_138 : u_lay RX13 TX13 138 ∈ mx_big := mx_bigI (tb_bi 12 _ (List.mem_of_getElem? (l := tables_1_12) (i := 120) rfl)) rfl
theorem la_X13_139 : u_lay RX13 TX13 139 ∈ mx_big := mx_bigI (tb_bi 12 _ (List.mem_of_getElem? (l := tables_1_12) (i := 122) rfl)) rfl
theorem la_X13_140 : u_lay RX13 TX13 140 ∈ mx_big := mx_bigI (tb_bi 12 _ (List.mem_of_getElem? (l := tables_1_12) (i := 124) rfl)) rfl
theorem la_X13_141 : u_lay RX13 TX13 141 ∈ mx_big := mx_bigI (tb_bi 12 _ (List.mem_of_getElem? (l := tables_1_12) (i := 126) rfl)) rfl
theorem la_X13_142 : u_lay RX13 TX13 142 ∈ mx_big := mx_bigI (tb_bi 12 _ (List.mem_of_getElem? (l := tables_1_12) (i := 128) rfl)) rfl
theorem la_X13_143 : u_lay RX13 TX13 143 ∈ mx_big := mx_bigI (tb_bi 12 _ (List.mem_of_getElem? (l := tables_1_12) (i := 130) rfl)) rfl
theorem la_X13_144 : u_lay RX13 TX13 144 ∈ mx_big := mx_bigI (tb_bi 12 _ (List.mem_of_getElem? (l := tables_1_12) (i := 132) rfl)) rfl
theorem la_X13_145 : u_lay RX13 TX13 145 ∈ mx_big := mx_bigI (tb_bi 12 _ (List.mem_of_getElem? (l := tables_1_12) (i := 134) rfl)) rfl
theorem la_X13_146 : u_lay RX13 TX13 146 ∈ mx_big := mx_bigI (tb_bi 12 _ (List.mem_of_getElem? (l := tables_1_12) (i := 136) rfl)) rfl
theorem la_X13_147 : u_lay RX13 TX13 147 ∈ mx_big := mx_bigI (tb_bi 12 _ (List.mem_of_getElem? (l := tables_1_12) (i := 138) rfl)) rfl
theorem la_X13_148 : u_lay RX13 TX13 148 ∈ mx_big := mx_bigI (tb_bi 12 _ (List.mem_of_getElem? (l := tables_1_12) (i := 140) rfl)) rfl
theorem la_X13_149 : u_lay RX13 TX13 149 ∈ mx_big := mx_bigI (tb_bi 12 _ (List.mem_of_getElem? (l := tables_1_12) (i := 142) rfl)) rfl
theorem la_X13_150 : u_lay RX13 TX13 150 ∈ mx_big := mx_bigI (tb_bi 12 _ (List.mem_of_getElem? (l := tables_1_12) (i := 144) rfl)) rfl
theorem la_X13_151 : u_lay RX13 TX13 151 ∈ mx_big := mx_bigI (tb_bi 12 _ (List.mem_of_getElem? (l := tables_1_12) (i := 146) rfl)) rfl
theorem la_X13_152 : u_lay RX13 TX13 152 ∈ mx_big := mx_bigI (tb_bi 12 _ (List.mem_of_getElem? (l := tables_1_12) (i := 148) rfl)) rfl
theorem la_X13_153 : u_lay RX13 TX13 153 ∈ mx_big := mx_bigI (tb_bi 12 _ (List.mem_of_getElem? (l := tables_1_12) (i := 150) rfl)) rfl
theorem la_X13_154 : u_lay RX13 TX13 154 ∈ mx_big := mx_bigI (tb_bi 12 _ (List.mem_of_getElem? (l := tables_1_12) (i := 152) rfl)) rfl
set_option maxRecDepth 20000 in
theorem lk_X13 : ∀ k, k < 155 → u_lay RX13 TX13 k ∈ mx_big := lt_s (lt_s (lt_s (lt_s (lt_s (lt_s (lt_s (lt_s (lt_s (lt_s (lt_s (lt_s (lt_s (lt_s (lt_s (lt_s (lt_s (lt_s (lt_s (lt_s (lt_s (lt_s (lt_s (lt_s (lt_s (lt_s (lt_s (lt_s (lt_s (lt_s (lt_s (lt_s (lt_s (lt_s (lt_s (lt_s (lt_s (lt_s (lt_s (lt_s (lt_s (lt_s (lt_s (lt_s (lt_s (lt_s (lt_s (lt_s (lt_s (lt_s (lt_s (lt_s (lt_s (lt_s (lt_s (lt_s (lt_s (lt_s (lt_s (lt_s (lt_s (lt_s (lt_s (lt_s (lt_s (lt_s (lt_s (lt_s (lt_s (lt_s (lt_s (lt_s (lt_s (lt_s (lt_s (lt_s (lt_s (lt_s (lt_s (lt_s (lt_s (lt_s (lt_s (lt_s (lt_s (lt_s (lt_s (lt_s (lt_s (lt_s (lt_s (lt_s (lt_s (lt_s (lt_s (lt_s (lt_s (lt_s (lt_s (lt_s (lt_s (lt_s (lt_s (lt_s (lt_s (lt_s (lt_s (lt_s (lt_s (lt_s (lt_s (lt_s (lt_s (lt_s (lt_s (lt_s (lt_s (lt_s (lt_s (lt_s (lt_s (lt_s (lt_s (lt_s (lt_s (lt_s (lt_s (lt_s (lt_s (lt_s (lt_s (lt_s (lt_s (lt_s (lt_s (lt_s (lt_s (lt_s (lt_s (lt_s (lt_s (lt_s (lt_s (lt_s (lt_s (lt_s (lt_s (lt_s (lt_s (lt_s (lt_s (lt_s (lt_s (lt_s (lt_s (lt_0) la_X13_0) la_X13_1) la_X13_2) la_X13_3) la_X13_4) la_X13_5) la_X13_6) la_X13_7) la_X13_8) la_X13_9) la_X13_10) la_X13_11) la_X13_12) la_X13_13) la_X13_14) la_X13_15) la_X13_16) la_X13_17) la_X13_18) la_X13_19) la_X13_20) la_X13_21) la_X13_22) la_X13_23) la_X13_24) la_X13_25) la_X13_26) la_X13_27) la_X13_28) la_X13_29) la_X13_30) la_X13_31) la_X13_32) la_X13_33) la_X13_34) la_X13_35) la_X13_36) la_X13_37) la_X13_38) la_X13_39) la_X13_40) la_X13_41) la_X13_42) la_X13_43) la_X13_44) la_X13_45) la_X13_46) la_X13_47) la_X13_48) la_X13_49) la_X13_50) la_X13_51) la_X13_52) la_X13_53) la_X13_54) la_X13_55) la_X13_56) la_X13_57) la_X13_58) la_X13_59) la_X13_60) la_X13_61) la_X13_62) la_X13_63) la_X13_64) la_X13_65) la_X13_66) la_X13_67) la_X13_68) la_X13_69) la_X13_70) la_X13_71) la_X13_72) la_X13_73) la_X13_74) la_X13_75) la_X13_76) la_X13_77) la_X13_78) la_X13_79) la_X13_80) la_X13_81) la_X13_82) la_X13_83) la_X13_84) la_X13_85) la_X13_86) la_X13_87) la_X13_88) la_X13_89) la_X13_90) la_X13_91) la_X13_92) la_X13_93) la_X13_94) la_X13_95) la_X13_96) la_X13_97) la_X13_98) la_X13_99) la_X13_100) la_X13_101) la_X13_102) la_X13_103) la_X13_104) la_X13_105) la_X13_106) la_X13_107) la_X13_108) la_X13_109) la_X13_110) la_X13_111) la_X13_112) la_X13_113) la_X13_114) la_X13_115) la_X13_116) la_X13_117) la_X13_118) la_X13_119) la_X13_120) la_X13_121) la_X13_122) la_X13_123) la_X13_124) la_X13_125) la_X13_126) la_X13_127) la_X13_128) la_X13_129) la_X13_130) la_X13_131) la_X13_132) la_X13_133) la_X13_134) la_X13_135) la_X13_136) la_X13_137) la_X13_138) la_X13_139) la_X13_140) la_X13_141) la_X13_142) la_X13_143) la_X13_144) la_X13_145) la_X13_146) la_X13_147) la_X13_148) la_X13_149) la_X13_150) la_X13_151) la_X13_152) la_X13_153) la_X13_154

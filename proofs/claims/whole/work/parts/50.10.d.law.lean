/-- a run of the little machine that the law may have: it answers 1 and keeps within the room -/
def mx_good (L : Nat) (xs : Nat → Int32) : Prop := ∃ (n : Nat) (h2 : mx_H) (mc ms : Nat), mx_go (mx_GG (L, xs)) mx_cn n 2048 84000 0 0 [(0, .ref 2000000000)] [] [] 0 0 = some (some (.int 1), h2, mc, ms) ∧ mc ≤ 600000 ∧ ms ≤ 7302250
set_option maxHeartbeats 4000000 in
/-- THE LAW, from its entry, where the little machine runs it to 1 -/
theorem law_of {p : Program} {e : Env} {s : State} {m : MethodId} {below : List Frame} {meth : Method} {c : Code} (l : Launch) {b L : Nat} {xs : Nat → Int32} (C0 : lw_At p s m meth c b L xs) (hg : mx_good L xs) : W p l e room_1 s m #[Value.ref b] below meth c s.heap [] 0 0 (lw_Z below #[Value.ref b] s) (entryFrame m ([Value.ref b] : List Value).toArray 4) := by
  obtain ⟨hx, hb, hr, hml, hown, hts0, hX, hbl, hlocks, hgv⟩ := id C0
  have hts : ∀ w ∈ mx_big, w.before #[Value.ref b] s = true := fun w h => hts0 w (mx_bigT h)
  obtain ⟨cc0, iS0, hKn0⟩ := u_known (C := RX0) (T := TX0) (N := 13) (n := 13) hts (mx_ws_of lk_X0) (hts _ (mx_bigI (tb_bi 2 _ (List.mem_of_getElem? (l := tables_1_2) (i := 22) rfl)) rfl))
  obtain ⟨cc1, iS1, hKn1⟩ := u_known (C := RX1) (T := TX1) (N := 16) (n := 16) hts (mx_ws_of lk_X1) (hts _ (mx_bigI (tb_bi 2 _ (List.mem_of_getElem? (l := tables_1_2) (i := 28) rfl)) rfl))
  obtain ⟨cc2, iS2, hKn2⟩ := u_known (C := RX2) (T := TX2) (N := 21) (n := 21) hts (mx_ws_of lk_X2) (hts _ (mx_bigI (tb_bi 1 _ (List.mem_of_getElem? (l := tables_1_1) (i := 152) rfl)) rfl))
  obtain ⟨cc3, iS3, hKn3⟩ := u_known (C := RX3) (T := TX3) (N := 14) (n := 14) hts (mx_ws_of lk_X3) (hts _ (mx_bigI (tb_bi 2 _ (List.mem_of_getElem? (l := tables_1_2) (i := 237) rfl)) rfl))
  obtain ⟨cc4, iS4, hKn4⟩ := u_known (C := RX4) (T := TX4) (N := 2) (n := 2) hts (mx_ws_of lk_X4) (hts _ (mx_bigI (tb_bi 1 _ (List.mem_of_getElem? (l := tables_1_1) (i := 158) rfl)) rfl))
  obtain ⟨cc5, iS5, hKn5⟩ := u_known (C := RX5) (T := TX5) (N := 21) (n := 21) hts (mx_ws_of lk_X5) (hts _ (mx_bigI (tb_bi 3 _ (List.mem_of_getElem? (l := tables_1_3) (i := 165) rfl)) rfl))
  obtain ⟨cc6, iS6, hKn6⟩ := u_known (C := RX6) (T := TX6) (N := 8) (n := 8) hts (mx_ws_of lk_X6) (hts _ (mx_bigI (tb_bi 2 _ (List.mem_of_getElem? (l := tables_1_2) (i := 87) rfl)) rfl))
  obtain ⟨cc7, iS7, hKn7⟩ := u_known (C := RX7) (T := TX7) (N := 8) (n := 8) hts (mx_ws_of lk_X7) (hts _ (mx_bigI (tb_bi 2 _ (List.mem_of_getElem? (l := tables_1_2) (i := 228) rfl)) rfl))
  obtain ⟨cc8, iS8, hKn8⟩ := u_known (C := RX8) (T := TX8) (N := 2) (n := 2) hts (mx_ws_of lk_X8) (hts _ (mx_bigI (tb_bi 2 _ (List.mem_of_getElem? (l := tables_1_2) (i := 9) rfl)) rfl))
  obtain ⟨cc9, iS9, hKn9⟩ := u_known (C := RX9) (T := TX9) (N := 13) (n := 13) hts (mx_ws_of lk_X9) (hts _ (mx_bigI (tb_bi 1 _ (List.mem_of_getElem? (l := tables_1_1) (i := 31) rfl)) rfl))
  obtain ⟨cc10, iS10, hKn10⟩ := u_known (C := RX10) (T := TX10) (N := 19) (n := 19) hts (mx_ws_of lk_X10) (hts _ (mx_bigI (tb_bi 2 _ (List.mem_of_getElem? (l := tables_1_2) (i := 118) rfl)) rfl))
  obtain ⟨cc11, iS11, hKn11⟩ := u_known (C := RX11) (T := TX11) (N := 21) (n := 21) hts (mx_ws_of lk_X11) (hts _ (mx_bigI (tb_bi 3 _ (List.mem_of_getElem? (l := tables_1_3) (i := 90) rfl)) rfl))
  obtain ⟨cc12, iS12, hKn12⟩ := u_known (C := RX12) (T := TX12) (N := 11) (n := 11) hts (mx_ws_of lk_X12) (hts _ (mx_bigI (tb_bi 1 _ (List.mem_of_getElem? (l := tables_1_1) (i := 23) rfl)) rfl))
  obtain ⟨cc13, iS13, hKn13⟩ := u_known (C := RX13) (T := TX13) (N := 155) (n := 155) hts (mx_ws_of lk_X13) (hts _ (mx_bigI (tb_bi 10 _ (List.mem_of_getElem? (l := tables_1_10) (i := 157) rfl)) rfl))
  obtain ⟨dC, dI, hKc⟩ : ∃ (dC : Nat → ClassId) (dI : Nat → Nat → Nat), ∀ (k : Nat) (q : vw_C), vwCl[k]? = some q → u_Kn s q.1 q.2.1 q.2.2 (dC k) (dI k) := by
    refine ⟨fun k => if k = 0 then cc0 else if k = 1 then cc1 else if k = 2 then cc2 else if k = 3 then cc3 else if k = 4 then cc4 else if k = 5 then cc5 else if k = 6 then cc6 else if k = 7 then cc7 else if k = 8 then cc8 else if k = 9 then cc9 else if k = 10 then cc10 else if k = 11 then cc11 else if k = 12 then cc12 else cc13, fun k => if k = 0 then iS0 else if k = 1 then iS1 else if k = 2 then iS2 else if k = 3 then iS3 else if k = 4 then iS4 else if k = 5 then iS5 else if k = 6 then iS6 else if k = 7 then iS7 else if k = 8 then iS8 else if k = 9 then iS9 else if k = 10 then iS10 else if k = 11 then iS11 else if k = 12 then iS12 else iS13, ?_⟩
    intro k q hq
    match k, hq with
    | 0, hq => cases hq; exact hKn0
    | 1, hq => cases hq; exact hKn1
    | 2, hq => cases hq; exact hKn2
    | 3, hq => cases hq; exact hKn3
    | 4, hq => cases hq; exact hKn4
    | 5, hq => cases hq; exact hKn5
    | 6, hq => cases hq; exact hKn6
    | 7, hq => cases hq; exact hKn7
    | 8, hq => cases hq; exact hKn8
    | 9, hq => cases hq; exact hKn9
    | 10, hq => cases hq; exact hKn10
    | 11, hq => cases hq; exact hKn11
    | 12, hq => cases hq; exact hKn12
    | 13, hq => cases hq; exact hKn13
    | k + 14, hq => simp [vwCl] at hq
  have hK : va_K (dC, dI) vwCl [] s := ⟨hKc, fun k q h => by simp at h⟩
  obtain ⟨ak0, av0, hZW0, hZR0⟩ := law_world0 hgv hts0
  obtain ⟨ak1, av1, hZW1, hZR1⟩ := law_world1 hgv hts0
  obtain ⟨ak2, av2, hZW2, hZR2⟩ := law_world2 hgv hts0
  obtain ⟨ak3, av3, hZW3, hZR3⟩ := law_world3 hgv hts0
  obtain ⟨ak4, av4, hZW4, hZR4⟩ := law_world4 hgv hts0
  obtain ⟨rh, hrh⟩ : ∃ rh : Nat → Nat, rh 2000000000 = b ∧ rh (1000000000 + 0) = ak0 ∧ rh (1000000000 + 1) = ak1 ∧ rh (1000000000 + 2) = ak2 ∧ rh (1000000000 + 3) = ak3 ∧ rh (1000000000 + 4) = ak4 := ⟨fun i => if i = 2000000000 then b else if i = 1000000000 + 0 then ak0 else if i = 1000000000 + 1 then ak1 else if i = 1000000000 + 2 then ak2 else if i = 1000000000 + 3 then ak3 else if i = 1000000000 + 4 then ak4 else 0, rfl, rfl, rfl, rfl, rfl, rfl⟩
  obtain ⟨e0, f0, f1, f2, f3, f4⟩ := hrh
  have hZ : mx_Z (L, xs) (fun q : Nat => s.heap.size ≤ q) rh s s.heap := by
    refine ⟨fun k hk => ?_, fun own ix y hy => va_Nw.of rfl (hts0 _ hy), va_AO.of (hts0 _ (tb_bi 2 _ (List.mem_of_getElem? (l := tables_1_2) (i := 236) rfl))), hts0 _ (tb_bi 2 _ (List.mem_of_getElem? (l := tables_1_2) (i := 85) rfl)), va_Nw.of rfl (hts0 _ (tb_bi 8 _ (List.mem_of_getElem? (l := tables_1_8) (i := 73) rfl))), by rw [e0]; exact hX, by rw [e0]; exact hbl, by rw [e0]; exact Nat.not_le.mpr hbl⟩
    rcases (show k = 0 ∨ k = 1 ∨ k = 2 ∨ k = 3 ∨ k = 4 by omega) with rfl | rfl | rfl | rfl | rfl
    · rw [f0]; exact ⟨⟨av0, hZW0⟩, fun own ix tx h => by cases h; exact hZR0⟩
    · rw [f1]; exact ⟨⟨av1, hZW1⟩, fun own ix tx h => by cases h; exact hZR1⟩
    · rw [f2]; exact ⟨⟨av2, hZW2⟩, fun own ix tx h => by cases h; exact hZR2⟩
    · rw [f3]; exact ⟨⟨av3, hZW3⟩, fun own ix tx h => by cases h; exact hZR3⟩
    · rw [f4]; exact ⟨⟨av4, hZW4⟩, fun own ix tx h => by cases h; exact hZR4⟩
  obtain ⟨n, h2, mc, ms, hgo, hmc, hms⟩ := hg
  have hl := lv_entry ([.ref b]) (n := 4) (Nat.le_of_ble_eq_true rfl)
  rw [lg_entry_eq]
  generalize (lg_sl ([.ref b]) ++ List.replicate (4 - (lg_sl ([.ref b])).length) Slot.unset).toArray = ls at hl ⊢
  have hl : lv_has ls 4 (mx_trL rh [(0, .ref 2000000000)]) := by
    show lv_has ls 4 [(0, .ref (rh 2000000000))]
    rw [e0]
    exact hl
  have hS : va_S (fun q : Nat => s.heap.size ≤ q) s.heap s.heap [] := va_S.rf
  have hW := (mx_all l (dC, dI) (L, xs) n 2048 84000 0 0 _ _ _ 0 0 _ _ _ _ hgo).2 yL_law cL_law 4 (some .boolean) p e room_1 s m #[Value.ref b] below meth c (fun q : Nat => s.heap.size ≤ q) rh 0 rh (fun _ => 0) s.heap [] ls ⟨rfl, rfl, hmc, hms⟩ rfl
    ⟨hx, hb, hml, hr, hlocks, fun h => absurd h (by decide), hown, hts, hK, fun q h => h⟩
    ⟨Nat.le_refl _, mx_agr.rf _ _, hZ, hS, ⟨fun k q h => (by cases h), ⟨fun i j x y h => (by cases h), fun k q h => (by cases h)⟩, fun x h => (by cases h), fun i ty x h => (by cases h)⟩, hl, fun q hq => (by rw [List.mem_singleton.mp hq]; exact Or.inr (by decide)), fun v hv => (by cases hv)⟩
  intro T hT X
  obtain ⟨t, a1, o, b1, b2, ⟨⟨rh2, ka2, -, g2, -⟩, -⟩, K, b4, b5⟩ := hW T hT X
  exact ⟨t, a1, o, b1, b2, g2, b4.1, b4.2.1, b4.2.2.weaken (fun x hx hlt => absurd hlt (Nat.not_lt.mpr (b5 x hx))) hmc hms⟩

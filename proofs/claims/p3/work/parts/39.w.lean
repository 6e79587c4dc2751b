/-- what a piece of the reading leaves: FORM that is told stays told, the methods' row outside lo .. hi, the number of methods -/
def St_ (b lo hi : Nat) (h r : ms_M) : Prop := (r b 3 = -1 → h b 3 = -1) ∧ (∀ k, k < lo ∨ hi ≤ k → r (b + 6) k = h (b + 6) k) ∧ r b 12 = h b 12
theorem st_t {b l1 h1 l2 h2 l i : Nat} {M N P : ms_M} (A : St_ b l1 h1 M N) (B : St_ b l2 h2 N P) (q : ∀ k, k < l ∨ i ≤ k → (k < l1 ∨ h1 ≤ k) ∧ (k < l2 ∨ h2 ≤ k)) : St_ b l i M P := by
  refine ⟨fun z => A.1 (B.1 z), fun k hk => ?_, by rw [B.2.2, A.2.2]⟩
  rw [B.2.1 k (q k hk).2, A.2.1 k (q k hk).1]
theorem st_w {b l i j : Nat} {v : Int} {M : ms_M} (hj : l ≤ j ∧ j < i) : St_ b l i M (up_M M (b + 6) j v) := by
  refine ⟨fun z => ?_, fun k hk => up_n (by omega), up_n (by omega)⟩
  rw [up_n (by omega)] at z; exact z
theorem st_bad {nn b : Nat} {a : Int} {h r : ms_M} (e : qf_X3_bad nn b a h = some r) : St_ b 0 0 h r := by
  unfold qf_X3_bad at e
  split at e
  · cases e; exact ⟨id, fun _ _ => rfl, rfl⟩
  · rename_i q
    rw [xl_eq] at e
    cases e
    exact ⟨fun _ => Decidable.not_not.1 q, fun k _ => up_n (by omega), up_n (by omega)⟩
theorem st_next {nn b : Nat} {h : ms_M} {r : Int × ms_M} (e : qf_X3_next nn b h = some r) : St_ b 0 0 h r.2 := by
  unfold qf_X3_next at e
  split at e
  · rw [xl_eq, xl_eq] at e
    obtain ⟨-, e⟩ := ck_i e
    rw [xl_eq] at e
    have e := rt_i e
    rw [xl_eq] at e
    cases e
    refine ⟨fun z => ?_, fun k _ => up_n (by omega), up_n (by omega)⟩
    have z2 : up_M h b 2 (oq_add (h b 2) 1) b 3 = -1 := z
    rw [up_n (by omega)] at z2; exact z2
  · split at e
    · rename_i q
      rw [xl_eq] at e
      cases e
      refine ⟨fun z => ?_, fun k _ => up_n (by omega), up_n (by omega)⟩
      have z2 : up_M h b 3 (h b 3) b 3 = -1 := z
      rw [up_s] at z2; exact z2
    · rename_i q
      rw [xl_eq] at e
      cases e
      exact ⟨fun _ => Decidable.not_not.1 q, fun k _ => up_n (by omega), up_n (by omega)⟩
theorem st_z {b : Nat} {M N P : ms_M} (A : St_ b 0 0 M N) (B : St_ b 0 0 N P) : St_ b 0 0 M P := st_t A B (fun _ _ => by omega)
theorem st_nextUpTo {nn b : Nat} {lo hi : Int} {h : ms_M} {r : Int × ms_M} (e : qf_X3_nextUpTo nn b lo hi h = some r) : St_ b 0 0 h r.2 := by
  unfold qf_X3_nextUpTo at e
  obtain ⟨w, e1, e⟩ := sv_i e
  have A := st_next e1
  have bad : ∀ {r : Int × ms_M}, qj_X3_nextUpTo_15 nn b w.1 w.2 = some r → St_ b 0 0 h r.2 := by
    intro r e
    unfold qj_X3_nextUpTo_15 at e
    rw [xl_eq] at e
    obtain ⟨x, e2, e⟩ := sv_i e
    cases e
    exact st_z A (st_bad e2)
  split at e
  · exact bad e
  · split at e
    · cases e; exact A
    · exact bad e
theorem st_nextName {nn b : Nat} {h : ms_M} {r : Int × ms_M} (e : qf_X3_nextName nn b h = some r) : St_ b 0 0 h r.2 := by
  unfold qf_X3_nextName at e
  obtain ⟨w, e1, e⟩ := sv_i e
  obtain ⟨x, _, e⟩ := sv_i e
  split at e
  · cases e; exact st_next e1
  · rw [xl_eq] at e
    obtain ⟨y, e2, e⟩ := sv_i e
    cases e
    exact st_z (st_next e1) (st_bad e2)
theorem st_nextClass {nn b : Nat} {h r : ms_M} (e : qf_X3_nextClass nn b h = some r) : St_ b 0 0 h r := by
  unfold qf_X3_nextClass at e
  obtain ⟨w, e1, e⟩ := sv_i e
  obtain ⟨x, _, e⟩ := sv_i e
  split at e
  · cases e; exact st_next e1
  · rw [xl_eq] at e
    obtain ⟨y, e2, e⟩ := sv_i e
    cases e
    exact st_z (st_next e1) (st_bad e2)
theorem st_rfl {b : Nat} {h : ms_M} : St_ b 0 0 h h := ⟨id, fun _ _ => rfl, rfl⟩
theorem st_sp2 {nn b : Nat} : ∀ (k : Nat) (l1 l2 : Int) {h r : ms_M}, qw_X3_skipPairs_2 nn k b l1 l2 h = some r → St_ b 0 0 h r := by
  intro k
  induction k with
  | zero => intro l1 l2 h r e; cases e
  | succ k ih =>
    intro l1 l2 h r e
    unfold qw_X3_skipPairs_2 at e
    rw [xl_eq] at e
    split at e
    · cases e; exact st_rfl
    · obtain ⟨w, e1, e⟩ := sv_i e
      rw [xl_eq] at e
      exact st_z (st_next e1) (ih _ _ e)
theorem st_skipPairs {nn b : Nat} {a : Int} {h r : ms_M} (e : qf_X3_skipPairs nn b a h = some r) : St_ b 0 0 h r := st_sp2 _ _ _ e
theorem st_ft7 {nn b : Nat} : ∀ (k : Nat) (l1 l2 : Int) {h r : ms_M}, qw_X3_readFrameTypes_7 nn k b l1 l2 h = some r → St_ b 0 0 h r := by
  intro k
  induction k with
  | zero => intro l1 l2 h r e; cases e
  | succ k ih =>
    intro l1 l2 h r e
    unfold qw_X3_readFrameTypes_7 at e
    split at e
    · cases e; exact st_rfl
    · split at e
      · cases e; exact st_rfl
      · obtain ⟨w, e1, e⟩ := sv_i e
        split at e
        · rw [xl_eq] at e
          exact st_z (st_nextUpTo e1) (ih _ _ e)
        · obtain ⟨x, e2, e⟩ := sv_i e
          rw [xl_eq] at e
          exact st_z (st_nextUpTo e1) (st_z (st_nextClass e2) (ih _ _ e))
theorem st_readFrameTypes {nn b : Nat} {h r : ms_M} (e : qf_X3_readFrameTypes nn b h = some r) : St_ b 0 0 h r := by
  unfold qf_X3_readFrameTypes at e
  obtain ⟨w, e1, e⟩ := sv_i e
  exact st_z (st_next e1) (st_ft7 _ _ _ e)
theorem st_rF33 {nn b : Nat} : ∀ (k : Nat) (l1 l2 : Int) {h r : ms_M}, qw_X3_readFrames_33 nn k b l1 l2 h = some r → St_ b 0 0 h r := by
  intro k
  induction k with
  | zero => intro l1 l2 h r e; cases e
  | succ k ih =>
    intro l1 l2 h r e
    unfold qw_X3_readFrames_33 at e
    split at e
    · cases e; exact st_rfl
    · split at e
      · cases e; exact st_rfl
      · obtain ⟨w, e1, e⟩ := sv_i e
        obtain ⟨x, e2, e⟩ := sv_i e
        obtain ⟨y, e3, e⟩ := sv_i e
        rw [xl_eq] at e
        exact st_z (st_skipPairs e1) (st_z (st_readFrameTypes e2) (st_z (st_readFrameTypes e3) (ih _ _ e)))
theorem st_rH33 {nn b : Nat} : ∀ (k : Nat) (l1 l2 : Int) {h r : ms_M}, qw_X3_readHandlers_33 nn k b l1 l2 h = some r → St_ b 0 0 h r := by
  intro k
  induction k with
  | zero => intro l1 l2 h r e; cases e
  | succ k ih =>
    intro l1 l2 h r e
    unfold qw_X3_readHandlers_33 at e
    split at e
    · cases e; exact st_rfl
    · split at e
      · cases e; exact st_rfl
      · obtain ⟨w, e1, e⟩ := sv_i e
        obtain ⟨x, e2, e⟩ := sv_i e
        rw [xl_eq] at e
        exact st_z (st_skipPairs e1) (st_z (st_nextClass e2) (ih _ _ e))
theorem st_cd {nn b : Nat} {l4 : Int} {h r : ms_M} (e : qj_X3_readCode_85 nn b l4 h = some r) : St_ b 0 0 h r := by
  unfold qj_X3_readCode_85 at e
  rw [xl_eq, xl_eq, xl_eq] at e
  cases e
  refine ⟨fun z => ?_, fun k _ => up_n (by omega), up_n (by omega)⟩
  rw [up_n (by omega)] at z; exact z
theorem st_c40 {nn b m : Nat} {l4 : Int} {h r : ms_M} (hm : m ≤ 11) (e : qj_X3_readCode_40 nn b (12 * (m : Int)) l4 h = some r) : St_ b (12 * m + 5) (12 * m + 7) h r ∧ r (b + 6) (12 * m + 5) = l4 := by
  unfold qj_X3_readCode_40 at e
  rw [xl_eq, oq_add_eq (by omega) (by omega) (by omega)] at e
  have e := wa_i e
  rw [xl_eq, oq_add_eq (by omega) (by omega) (by omega)] at e
  have e := wa_i e
  rw [xl_eq] at e
  rw [show (12 * (m : Int) + 5).toNat = 12 * m + 5 by omega, show (12 * (m : Int) + 6).toNat = 12 * m + 6 by omega] at e
  have A : St_ b (12 * m + 5) (12 * m + 7) h (up_M h (b + 6) (12 * m + 5) l4) := st_w (by omega)
  have a : up_M h (b + 6) (12 * m + 5) l4 (b + 6) (12 * m + 5) = l4 := up_s
  generalize up_M h (b + 6) (12 * m + 5) l4 = h1 at *
  have B : St_ b (12 * m + 6) (12 * m + 7) h1 (up_M h1 (b + 6) (12 * m + 6) (h1 b 2)) := st_w (by omega)
  generalize up_M h1 (b + 6) (12 * m + 6) (h1 b 2) = h2 at *
  have C := st_t A B (l := 12 * m + 5) (i := 12 * m + 7) (fun _ _ => by omega)
  have c : h2 (b + 6) (12 * m + 5) = l4 := by rw [B.2.1 _ (by omega), a]
  split at e
  · exact ⟨st_t C (st_cd e) (fun _ _ => by omega), by rw [(st_cd e).2.1 _ (by omega), c]⟩
  · obtain ⟨x, e1, e⟩ := sv_i e
    exact ⟨st_t C (st_z (st_bad e1) (st_cd e)) (fun _ _ => by omega), by rw [(st_cd e).2.1 _ (by omega), (st_bad e1).2.1 _ (by omega), c]⟩
theorem st_readCode {nn b m : Nat} {h r : ms_M} (hn : 1000000 ≤ nn) (V : VS_ h) (hb : kc_O b = 3) (hm : m ≤ 11) (e : qf_X3_readCode nn b (12 * (m : Int)) h = some r) : St_ b (12 * m + 5) (12 * m + 7) h r ∧ 0 ≤ r (b + 6) (12 * m + 5) := by
  unfold qf_X3_readCode at e
  obtain ⟨w, e1, e⟩ := sv_i e
  rw [xl_eq] at e
  obtain ⟨x, e2, e⟩ := sv_i e
  rw [xl_eq] at e
  have Q1 := okof (vf_X3_next hn hb V) e1
  have Q2 := okof (vf_X3_next hn hb Q1.1) e2
  have q1 : 0 ≤ w.1 ∧ w.1 ≤ 255 := Q1.2
  have q2 : 0 ≤ x.1 ∧ x.1 ≤ 255 := Q2.2
  have p : 0 ≤ oq_or (oq_shl w.1 8) x.1 := by
    rw [oq_shl_8 q1]
    exact (oq_or_rg (by omega) (by omega)).1
  generalize oq_or (oq_shl w.1 8) x.1 = y at *
  have A := st_z (st_next e1) (st_next e2)
  have bad : ∀ {l2 : Int} {r : ms_M}, qj_X3_readCode_35 nn b (12 * (m : Int)) l2 y x.2 = some r → St_ b (12 * m + 5) (12 * m + 7) h r ∧ 0 ≤ r (b + 6) (12 * m + 5) := by
    intro l2 r e
    unfold qj_X3_readCode_35 at e
    obtain ⟨y, e3, e⟩ := sv_i e
    have K := st_c40 hm e
    exact ⟨st_t (st_z A (st_bad e3)) K.1 (fun _ _ => by omega), by rw [K.2]; exact p⟩
  split at e
  · exact bad e
  · split at e
    · have K := st_c40 hm e
      exact ⟨st_t A K.1 (fun _ _ => by omega), by rw [K.2]; exact p⟩
    · exact bad e
theorem ig_readHandlers {nn b m : Nat} {h r : ms_M} (V : VS_ h) (hb : kc_O b = 3) (hm : m ≤ 11) (e : qf_X3_readHandlers nn b (12 * (m : Int)) h = some r) : St_ b (12 * m + 7) (12 * m + 9) h r ∧ (r b 3 = -1 → 0 ≤ r (b + 6) (12 * m + 7) ∧ r (b + 6) (12 * m + 7) ≤ 20) := by
  unfold qf_X3_readHandlers at e
  obtain ⟨w, e1, e⟩ := sv_i e
  have L := lm_X3_nextUpTo V hb e1
  rw [xl_eq, oq_add_eq (by omega) (by omega) (by omega)] at e
  have e := wa_i e
  rw [xl_eq, oq_add_eq (by omega) (by omega) (by omega)] at e
  have e := wa_i e
  rw [show (12 * (m : Int) + 7).toNat = 12 * m + 7 by omega, show (12 * (m : Int) + 8).toNat = 12 * m + 8 by omega] at e
  have A : St_ b (12 * m + 7) (12 * m + 9) w.2 (up_M w.2 (b + 6) (12 * m + 7) w.1) := st_w (by omega)
  have a : up_M w.2 (b + 6) (12 * m + 7) w.1 (b + 6) (12 * m + 7) = w.1 := up_s
  generalize up_M w.2 (b + 6) (12 * m + 7) w.1 = h1 at *
  have B : St_ b (12 * m + 8) (12 * m + 9) h1 (up_M h1 (b + 6) (12 * m + 8) (h1 b 2)) := st_w (by omega)
  generalize up_M h1 (b + 6) (12 * m + 8) (h1 b 2) = h2 at *
  have C := st_rH33 _ _ _ e
  refine ⟨st_t (st_t (st_nextUpTo e1) A (l := 12 * m + 7) (i := 12 * m + 9) (fun _ _ => by omega)) (st_t B C (l := 12 * m + 8) (i := 12 * m + 9) (fun _ _ => by omega)) (fun _ _ => by omega), fun z => ?_⟩
  rw [C.2.1 _ (by omega), B.2.1 _ (by omega), a]
  have := A.1 (B.1 (C.1 z))
  omega
theorem ig_readFrames {nn b m : Nat} {h r : ms_M} (V : VS_ h) (hb : kc_O b = 3) (hm : m ≤ 11) (e : qf_X3_readFrames nn b (12 * (m : Int)) h = some r) : St_ b (12 * m + 9) (12 * m + 11) h r ∧ (r b 3 = -1 → 0 ≤ r (b + 6) (12 * m + 9) ∧ r (b + 6) (12 * m + 9) ≤ 100) := by
  unfold qf_X3_readFrames at e
  obtain ⟨w, e1, e⟩ := sv_i e
  have L := lm_X3_nextUpTo V hb e1
  rw [xl_eq, oq_add_eq (by omega) (by omega) (by omega)] at e
  have e := wa_i e
  rw [xl_eq, oq_add_eq (by omega) (by omega) (by omega)] at e
  have e := wa_i e
  rw [show (12 * (m : Int) + 9).toNat = 12 * m + 9 by omega, show (12 * (m : Int) + 10).toNat = 12 * m + 10 by omega] at e
  have A : St_ b (12 * m + 9) (12 * m + 11) w.2 (up_M w.2 (b + 6) (12 * m + 9) w.1) := st_w (by omega)
  have a : up_M w.2 (b + 6) (12 * m + 9) w.1 (b + 6) (12 * m + 9) = w.1 := up_s
  generalize up_M w.2 (b + 6) (12 * m + 9) w.1 = h1 at *
  have B : St_ b (12 * m + 10) (12 * m + 11) h1 (up_M h1 (b + 6) (12 * m + 10) (h1 b 2)) := st_w (by omega)
  generalize up_M h1 (b + 6) (12 * m + 10) (h1 b 2) = h2 at *
  have C := st_rF33 _ _ _ e
  refine ⟨st_t (st_t (st_nextUpTo e1) A (l := 12 * m + 9) (i := 12 * m + 11) (fun _ _ => by omega)) (st_t B C (l := 12 * m + 10) (i := 12 * m + 11) (fun _ _ => by omega)) (fun _ _ => by omega), fun z => ?_⟩
  rw [C.2.1 _ (by omega), B.2.1 _ (by omega), a]
  have := A.1 (B.1 (C.1 z))
  omega
theorem ig_52 {nn b m : Nat} {l2 l3 : Int} {h r : ms_M} (hn : 1000000 ≤ nn) (V : VS_ h) (hb : kc_O b = 3) (hm : m ≤ 11) (h2 : 0 ≤ l2 ∧ l2 ≤ 255) (h3 : -1 ≤ l3 ∧ l3 ≤ 6) (hl : l3 = -1 → ¬ h b 3 = -1) (e : qj_X3_readMethod_52 nn b (12 * (m : Int)) l2 l3 h = some r) : St_ b (12 * m) (12 * m + 12) h r ∧ (r b 3 = -1 → IGm_ r b m) := by
  unfold qj_X3_readMethod_52 at e
  rw [xl_eq, oq_add_eq (by omega) (by omega) (by omega)] at e
  have e := wa_i e
  rw [xl_eq, oq_add_eq (by omega) (by omega) (by omega)] at e
  have e := wa_i e
  rw [xl_eq, oq_add_eq (by omega) (by omega) (by omega)] at e
  rw [show (12 * (m : Int) + 2).toNat = 12 * m + 2 by omega, show (12 * (m : Int) + 11).toNat = 12 * m + 11 by omega] at e
  have A1 : St_ b (12 * m + 2) (12 * m + 3) h (up_M h (b + 6) (12 * m + 2) l2) := st_w (by omega)
  have V1 : VS_ (up_M h (b + 6) (12 * m + 2) l2) := wIA_6 V hb (by omega)
  generalize up_M h (b + 6) (12 * m + 2) l2 = g1 at *
  have A2 : St_ b (12 * m + 11) (12 * m + 12) g1 (up_M g1 (b + 6) (12 * m + 11) l3) := st_w (by omega)
  have a2 : up_M g1 (b + 6) (12 * m + 11) l3 (b + 6) (12 * m + 11) = l3 := up_s
  have V2 : VS_ (up_M g1 (b + 6) (12 * m + 11) l3) := wIA_6 V1 hb (by omega)
  generalize up_M g1 (b + 6) (12 * m + 11) l3 = g2 at *
  obtain ⟨u10, e10, e⟩ := sv_i e
  have L3 := lm_X3_nextUpTo V2 hb e10
  have Q3 := okof (vf_X3_nextUpTo hn hb (by omega) (by omega) (by omega) (by omega) V2) e10
  have S3 := st_nextUpTo e10
  have e := wa_i e
  rw [show (12 * (m : Int) + 3).toNat = 12 * m + 3 by omega] at e
  have A4 : St_ b (12 * m + 3) (12 * m + 4) u10.2 (up_M u10.2 (b + 6) (12 * m + 3) u10.1) := st_w (by omega)
  have a4 : up_M u10.2 (b + 6) (12 * m + 3) u10.1 (b + 6) (12 * m + 3) = u10.1 := up_s
  have V4 : VS_ (up_M u10.2 (b + 6) (12 * m + 3) u10.1) := wIA_6 Q3.1 hb (by have := Q3.2; omega)
  generalize up_M u10.2 (b + 6) (12 * m + 3) u10.1 = g4 at *
  rw [xl_eq, xl_eq, xl_eq] at e
  have w4 : oq_add (12 * (m : Int)) 4 = 12 * (m : Int) + 4 := oq_add_eq (by omega) (by omega) (by omega)
  have w1 : oq_add l3 1 = l3 + 1 := oq_add_eq (by omega) (by omega) (by omega)
  have w0 : oq_add (12 * (m : Int)) 0 = 12 * (m : Int) + 0 := oq_add_eq (by omega) (by omega) (by omega)
  rw [w4, w1, w0] at e
  have e := rd_i e
  rw [xl_eq] at e
  obtain ⟨u20, e20, e⟩ := sv_i e
  have hr := gIA_6 V4 hb (12 * (m : Int) + 0).toNat (by omega)
  rw [oq_sub_eq (by omega) (by omega) (by omega)] at e20
  have L5 := lm_X3_nextUpTo V4 hb e20
  have Q5 := okof (vf_X3_nextUpTo hn hb (by omega) (by omega) (by omega) (by omega) V4) e20
  have S5 := st_nextUpTo e20
  have e := wa_i e
  rw [show (12 * (m : Int) + 4).toNat = 12 * m + 4 by omega] at e
  have A6 : St_ b (12 * m + 4) (12 * m + 5) u20.2 (up_M u20.2 (b + 6) (12 * m + 4) u20.1) := st_w (by omega)
  have a6 : up_M u20.2 (b + 6) (12 * m + 4) u20.1 (b + 6) (12 * m + 4) = u20.1 := up_s
  have V6 : VS_ (up_M u20.2 (b + 6) (12 * m + 4) u20.1) := wIA_6 Q5.1 hb (by have := Q5.2; omega)
  generalize up_M u20.2 (b + 6) (12 * m + 4) u20.1 = g6 at *
  obtain ⟨u23, e23, e⟩ := sv_i e
  have S7a := st_readCode hn V6 hb hm e23
  have S7 := S7a.1
  have V7 := okof (vf_X3_readCode hn hb (by omega) (by omega) V6) e23
  obtain ⟨u25, e25, e⟩ := sv_i e
  have S8 := ig_readHandlers V7 hb hm e25
  have V8 := okof (vf_X3_readHandlers hn hb (by omega) (by omega) V7) e25
  obtain ⟨u27, e27, e⟩ := sv_i e
  have S9 := ig_readFrames V8 hb hm e27
  cases e
  refine ⟨⟨fun z => ?_, fun k hk => ?_, ?_⟩, fun z => ?_⟩
  · exact A1.1 (A2.1 (S3.1 (A4.1 (S5.1 (A6.1 (S7.1 (S8.1.1 (S9.1.1 z))))))))
  · rw [S9.1.2.1 k (by omega), S8.1.2.1 k (by omega), S7.2.1 k (by omega), A6.2.1 k (by omega), S5.2.1 k (by omega), A4.2.1 k (by omega), S3.2.1 k (by omega), A2.2.1 k (by omega), A1.2.1 k (by omega)]
  · rw [S9.1.2.2, S8.1.2.2, S7.2.2, A6.2.2, S5.2.2, A4.2.2, S3.2.2, A2.2.2, A1.2.2]
  · have z8 := S9.1.1 z
    have z7 := S8.1.1 z8
    have z6 := S7.1 z7
    have z5 := A6.1 z6
    have z4 := S5.1 z5
    have z3 := A4.1 z4
    have z2 := S3.1 z3
    have z0 := A1.1 (A2.1 z2)
    have f9 := S9.2 z
    have f7 := S8.2 z8
    unfold IGm_
    refine ⟨?_, ?_, ?_, f9, ?_, ?_⟩
    · rw [S9.1.2.1 _ (by omega), S8.1.2.1 _ (by omega), S7.2.1 _ (by omega), A6.2.1 _ (by omega), S5.2.1 _ (by omega), a4]; omega
    · rw [S9.1.2.1 _ (by omega), S8.1.2.1 _ (by omega), S7.2.1 _ (by omega), a6]; omega
    · rw [S9.1.2.1 _ (by omega)]; exact f7
    · rw [S9.1.2.1 _ (by omega), S8.1.2.1 _ (by omega), S7.2.1 _ (by omega), A6.2.1 _ (by omega), S5.2.1 _ (by omega), A4.2.1 _ (by omega), S3.2.1 _ (by omega), a2]
      have : ¬ l3 = -1 := fun q => hl q z0
      omega
    · rw [S9.1.2.1 _ (by omega), S8.1.2.1 _ (by omega)]; exact S7a.2
theorem lm_bad1 {nn b : Nat} {g : ms_M} {w : Int × ms_M} {r : ms_M} (V : VS_ g) (hb : kc_O b = 3) (e1 : qf_X3_next nn b g = some w) (e : qf_X3_bad nn b (oq_sub (w.2 b 2) 1) w.2 = some r) : ¬ r b 3 = -1 := by
  have g2 := gI_2 V hb
  have hw := lm_X3_next V hb e1
  rw [bad_ok] at e
  have e := Option.some.inj e
  rw [← e]
  by_cases q : w.2 b 3 = -1
  · rw [if_pos q]
    show ¬ up_M w.2 b 3 (oq_sub (w.2 b 2) 1) b 3 = -1
    rw [up_s]
    rcases hw with ⟨h1, h2⟩ | ⟨h1, h2⟩
    · rw [oq_sub_eq (by omega) (by omega) (by omega)]; omega
    · exact absurd q h2
  · rw [if_neg q]; exact q
theorem ig_readMethod {nn b m : Nat} {h r : ms_M} (hn : 1000000 ≤ nn) (V : VS_ h) (hb : kc_O b = 3) (hm : m ≤ 11) (e : qf_X3_readMethod nn b (12 * (m : Int)) h = some r) : St_ b (12 * m) (12 * m + 12) h r ∧ (r b 3 = -1 → IGm_ r b m) := by
  unfold qf_X3_readMethod at e
  rw [xl_eq, oq_add_eq (by omega) (by omega) (by omega)] at e
  obtain ⟨u31, e31, e⟩ := sv_i e
  have Q1 := okof (vf_X3_nextUpTo hn hb (by omega) (by omega) (by omega) (by omega) V) e31
  have S1 := st_nextUpTo e31
  have e := wa_i e
  rw [show (12 * (m : Int) + 0).toNat = 12 * m by omega] at e
  have A2 : St_ b (12 * m) (12 * m + 1) u31.2 (up_M u31.2 (b + 6) (12 * m) u31.1) := st_w (by omega)
  have V2 : VS_ (up_M u31.2 (b + 6) (12 * m) u31.1) := wIA_6 Q1.1 hb (by have := Q1.2; omega)
  generalize up_M u31.2 (b + 6) (12 * m) u31.1 = g2 at *
  rw [xl_eq, oq_add_eq (by omega) (by omega) (by omega)] at e
  obtain ⟨u36, e36, e⟩ := sv_i e
  have Q3 := okof (vf_X3_nextName hn hb V2) e36
  have S3 := st_nextName e36
  have e := wa_i e
  rw [show (12 * (m : Int) + 1).toNat = 12 * m + 1 by omega] at e
  have A4 : St_ b (12 * m + 1) (12 * m + 2) u36.2 (up_M u36.2 (b + 6) (12 * m + 1) u36.1) := st_w (by omega)
  have V4 : VS_ (up_M u36.2 (b + 6) (12 * m + 1) u36.1) := wIA_6 Q3.1 hb (by have := Q3.2; omega)
  generalize up_M u36.2 (b + 6) (12 * m + 1) u36.1 = g4 at *
  obtain ⟨u39, e39, e⟩ := sv_i e
  have Q5 := okof (vf_X3_next hn hb V4) e39
  have S5 := st_next e39
  obtain ⟨u41, e41, e⟩ := sv_i e
  have P6 := okof (vf_X3_parametersIn hn hb (by have := Q5.2; omega) (by have := Q5.2; omega) Q5.1) e41
  have P6a : -1 ≤ u41 ∧ u41 ≤ 6 := P6
  have T : St_ b (12 * m) (12 * m + 12) h u39.2 := st_t (st_t (st_t S1 A2 (l := 12 * m) (i := 12 * m + 12) (fun _ _ => by omega)) (st_t S3 A4 (l := 12 * m) (i := 12 * m + 12) (fun _ _ => by omega)) (l := 12 * m) (i := 12 * m + 12) (fun _ _ => by omega)) S5 (fun _ _ => by omega)
  have q1 : 0 ≤ u39.1 ∧ u39.1 ≤ 255 := Q5.2
  split at e
  · have R := ig_52 hn Q5.1 hb hm q1 P6a (fun z => absurd z (by assumption)) e
    exact ⟨st_t T R.1 (fun _ _ => by omega), R.2⟩
  · rw [xl_eq] at e
    obtain ⟨u45, e45, e⟩ := sv_i e
    have nb := lm_bad1 V4 hb e39 e45
    have gp := gI_2 Q5.1 hb
    have V45 := okof (vf_X3_bad hn hb (by rw [oq_sub_eq (by omega) (by omega) (by omega)]; omega) (by rw [oq_sub_eq (by omega) (by omega) (by omega)]; omega) Q5.1) e45
    have R := ig_52 hn V45 hb hm q1 P6a (fun _ => nb) e
    exact ⟨st_t T (st_t (st_bad e45) R.1 (l := 12 * m) (i := 12 * m + 12) (fun _ _ => by omega)) (fun _ _ => by omega), R.2⟩
theorem ig_109 {nn b : Nat} {h : ms_M} {r : Int × ms_M} (I : h b 3 = -1 → IG_ h b) (e : qj_X3_read_109 nn b h = some r) : r.1 = -1 → IG_ r.2 b := by
  unfold qj_X3_read_109 at e
  split at e
  · cases e; exact I
  · obtain ⟨w, e1, e⟩ := sv_i e
    cases e
    intro z
    have S := st_bad e1
    exact ig_eq (I (S.1 z)) S.2.2 (fun k => S.2.1 k (by omega))
theorem ig_70 {nn b : Nat} (hn : 1000000 ≤ nn) (hb : kc_O b = 3) : ∀ (k : Nat) (l3 : Int) (m : Nat) {h : ms_M} {r : Int × ms_M}, VS_ h → h b 12 = (m : Int) → (l3 ≤ 12 ∨ ¬ h b 3 = -1) → (h b 3 = -1 → IG_ h b) → qw_X3_read_70 nn k b l3 (m : Int) h = some r → r.1 = -1 → IG_ r.2 b := by
  intro k
  induction k with
  | zero => intro l3 m h r V hm hl I e; cases e
  | succ k ih =>
    intro l3 m h r V hm hl I e
    unfold qw_X3_read_70 at e
    split at e
    · exact ig_109 I e
    · split at e
      · exact ig_109 I e
      · have g12 := gI_12 V hb
        rename_i c1 c2
        have c2 : h b 3 = -1 := Decidable.not_not.1 c2
        have m11 : m ≤ 11 := by omega
        rw [xl_eq, show oq_mul (m : Int) 12 = 12 * (m : Int) by rw [oq_mul_eq (by omega) (by omega) (by omega)]; omega] at e
        obtain ⟨u12, e12, e⟩ := sv_i e
        have R := ig_readMethod hn V hb m11 e12
        have V12 := okof (vf_X3_readMethod hn hb (by omega) (by omega) V) e12
        rw [xl_eq, R.1.2.2, hm, oq_add_eq (by omega) (by omega) (by omega), xl_eq, xl_eq] at e
        have V15 : VS_ (up_M u12 b 12 ((m : Int) + 1)) := wI_12 V12 hb (by omega)
        refine ih l3 (m + 1) V15 (by rw [up_s]; omega) ?_ ?_ e
        · rw [up_n (by omega)]
          by_cases q : u12 b 3 = -1
          · left; omega
          · exact .inr q
        · rw [up_n (by omega)]
          intro z m2 hm2
          rw [up_s] at hm2
          by_cases q : m2 = m
          · subst q
            have := R.2 z
            unfold IGm_ at this ⊢
            rw [up_n (by omega), up_n (by omega), up_n (by omega), up_n (by omega), up_n (by omega), up_n (by omega)]
            exact this
          · have := I c2 m2 (by omega)
            unfold IGm_ at this ⊢
            rw [up_n (by omega), up_n (by omega), up_n (by omega), up_n (by omega), up_n (by omega), up_n (by omega)]
            rw [R.1.2.1 _ (by omega), R.1.2.1 _ (by omega), R.1.2.1 _ (by omega), R.1.2.1 _ (by omega), R.1.2.1 _ (by omega), R.1.2.1 _ (by omega)]
            exact this
theorem ig_read {nn b a1 : Nat} {a2 : Int} {h : ms_M} {r : Int × ms_M} (hn : 1000000 ≤ nn) (V : VS_ h) (hb : kc_O b = 3) (ta : a1 < cn_M h ∧ ly_T a1 = 1) (ha : 0 ≤ a2 ∧ a2 ≤ 6000) (e : qf_X3_read nn b a1 a2 h = some r) : r.1 = -1 → IG_ r.2 b := by
  have hM := V.2.1
  have l2 : 0 ≤ ln_I h a1 := by
    unfold ln_I
    by_cases w : a1 < 256
    · rw [if_pos w]; omega
    · rw [if_neg w]; exact V.2.1.2 a1
  have l1 : ∀ v, ln_I (up_M h b 0 v) a1 = ln_I h a1 := fun v => by unfold ln_I; rw [up_n (by have := kc_lt hb (by decide); omega)]
  unfold qf_X3_read wr_R at e
  split at e
  · unfold ln_S at e
    dsimp only at e
    split at e
    · rw [l1, xl_eq, xl_eq] at e
      have s1 : 0 ≤ (if ln_I h a1 < a2 then ln_I h a1 else a2) ∧ (if ln_I h a1 < a2 then ln_I h a1 else a2) ≤ 6000 ∧ (if ln_I h a1 < a2 then ln_I h a1 else a2) ≤ ln_I h a1 := by split <;> omega
      have V22 : VS_ (up_M (up_M h b 0 ((a1 : Nat) : Int)) b 1 (if ln_I h a1 < a2 then ln_I h a1 else a2)) := vs_rd V hb ta ⟨s1.1, s1.2.1⟩ s1.2.2
      generalize up_M (up_M h b 0 ((a1 : Nat) : Int)) b 1 (if ln_I h a1 < a2 then ln_I h a1 else a2) = h22 at *
      rw [xl_eq] at e
      have V23 : VS_ (up_M h22 b 2 0) := wI_2 V22 hb (by omega)
      generalize up_M h22 b 2 0 = h23 at *
      rw [xl_eq] at e
      have V24 : VS_ (up_M h23 b 3 (-1)) := wI_3 V23 hb (by omega)
      generalize up_M h23 b 3 (-1) = h24 at *
      rw [xl_eq] at e
      have V25 : VS_ (up_M h24 b 10 0) := wI_10 V24 hb (by omega)
      have t25 : up_M h24 b 10 0 b 10 = 0 := up_s
      generalize up_M h24 b 10 0 = h25 at *
      rw [xl_eq] at e
      have V26 : VS_ (up_M h25 b 12 0) := wI_12 V25 hb (by omega)
      have t26 : up_M h25 b 12 0 b 12 = 0 := up_s
      have s26 : up_M h25 b 12 0 b 10 = 0 := by rw [up_n (by omega)]; exact t25
      generalize up_M h25 b 12 0 = h26 at *
      obtain ⟨u28, e28, e⟩ := sv_i e
      have V28 := okof (vf_X3_readConstants hn hb V26) e28
      have t28 : u28 b 12 = h26 b 12 := (pf_X3_readConstants nn hb) _ e28 b 12 ⟨rfl, rfl⟩
      have s28 : u28 b 10 = h26 b 10 := (pf_X3_readConstants nn hb) _ e28 b 10 ⟨rfl, rfl⟩
      obtain ⟨u30, e30, e⟩ := sv_i e
      have V30 := okof (vf_X3_nextPlainClass hn hb V28) e30
      have t30 : u30.2 b 12 = u28 b 12 := (pf_X3_nextPlainClass nn hb) _ e30 b 12 ⟨rfl, rfl⟩
      have s30 : u30.2 b 10 = u28 b 10 := (pf_X3_nextPlainClass nn hb) _ e30 b 10 ⟨rfl, rfl⟩
      rw [xl_eq] at e
      have V31 : VS_ (up_M u30.2 b 8 u30.1) := wI_8 V30.1 hb (by have := V30.2; omega)
      have t31 : up_M u30.2 b 8 u30.1 b 12 = u30.2 b 12 := up_n (by omega)
      have s31 : up_M u30.2 b 8 u30.1 b 10 = u30.2 b 10 := up_n (by omega)
      generalize up_M u30.2 b 8 u30.1 = h31 at *
      obtain ⟨u33, e33, e⟩ := sv_i e
      have V33 := okof (vf_X3_nextPlainClass hn hb V31) e33
      have t33 : u33.2 b 12 = h31 b 12 := (pf_X3_nextPlainClass nn hb) _ e33 b 12 ⟨rfl, rfl⟩
      have s33 : u33.2 b 10 = h31 b 10 := (pf_X3_nextPlainClass nn hb) _ e33 b 10 ⟨rfl, rfl⟩
      rw [xl_eq] at e
      have V34 : VS_ (up_M u33.2 b 9 u33.1) := wI_9 V33.1 hb (by have := V33.2; omega)
      have t34 : up_M u33.2 b 9 u33.1 b 12 = u33.2 b 12 := up_n (by omega)
      have s34 : up_M u33.2 b 9 u33.1 b 10 = u33.2 b 10 := up_n (by omega)
      generalize up_M u33.2 b 9 u33.1 = h34 at *
      obtain ⟨u36, e36, e⟩ := sv_i e
      have V36 := okof (vf_X3_readFields hn hb V34 (by omega)) e36
      have t36 : u36 b 12 = h34 b 12 := (pf_X3_readFields nn hb) _ e36 b 12 ⟨rfl, rfl⟩
      obtain ⟨u38, e38, e⟩ := sv_i e
      have V38 := okof (vf_X3_nextUpTo hn hb (by omega) (by omega) (by omega) (by omega) V36) e38
      have t38 : u38.2 b 12 = u36 b 12 := (pf_X3_nextUpTo nn hb) _ e38 b 12 ⟨rfl, rfl⟩
      have L := lm_X3_nextUpTo V36 hb e38
      refine ig_70 hn hb nn u38.1 0 V38.1 (by rw [t38, t36, t34, t33, t31, t30, t28, t26]; rfl) (by omega) ?_ e
      intro _ m hm
      rw [t38, t36, t34, t33, t31, t30, t28, t26] at hm
      omega
    · cases e
  · cases e

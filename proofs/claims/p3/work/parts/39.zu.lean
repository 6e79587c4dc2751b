/-- the tokens stay as they were -/
def TS_ (h r : ms_M) : Prop := r 160 8 = h 160 8 ∧ ∀ k, r 163 k = h 163 k ∧ r 164 k = h 164 k ∧ r 165 k = h 165 k ∧ r 166 k = h 166 k
theorem ts_rfl {h : ms_M} : TS_ h h := ⟨rfl, fun _ => ⟨rfl, rfl, rfl, rfl⟩⟩
theorem ts_t {h r s : ms_M} (A : TS_ h r) (B : TS_ r s) : TS_ h s := ⟨B.1.trans A.1, fun k => ⟨(B.2 k).1.trans (A.2 k).1, (B.2 k).2.1.trans (A.2 k).2.1, (B.2 k).2.2.1.trans (A.2 k).2.2.1, (B.2 k).2.2.2.trans (A.2 k).2.2.2⟩⟩
theorem ts_fr {h r : ms_M} {L : List Nat} {LF : List (Nat × Nat)} (F : ∀ c k, nw_F L LF false false c k = true → r c k = h c k) (hc : (nw_F L LF false false 160 8 && ((!(L.contains 163) && LF.all (fun q => !(Nat.beq q.1 163))) && ((!(L.contains 164) && LF.all (fun q => !(Nat.beq q.1 164))) && ((!(L.contains 165) && LF.all (fun q => !(Nat.beq q.1 165))) && (!(L.contains 166) && LF.all (fun q => !(Nat.beq q.1 166))))))) = true) : TS_ h r := by
  simp only [Bool.and_eq_true] at hc
  obtain ⟨q0, ⟨a1, a2⟩, ⟨b1, b2⟩, ⟨c1, c2⟩, d1, d2⟩ := hc
  refine ⟨F _ _ q0, fun k => ⟨F _ _ (nw_ar ?_ k), F _ _ (nw_ar ?_ k), F _ _ (nw_ar ?_ k), F _ _ (nw_ar ?_ k)⟩⟩ <;> simp only [Bool.and_eq_true]
  · exact ⟨a1, a2, rfl, rfl⟩
  · exact ⟨b1, b2, rfl, rfl⟩
  · exact ⟨c1, c2, rfl, rfl⟩
  · exact ⟨d1, d2, rfl, rfl⟩
theorem ts_up {h : ms_M} {c k : Nat} {v : Int} (hc : ¬ (c = 160 ∧ k = 8) ∧ (c < 163 ∨ 166 < c)) : TS_ h (up_M h c k v) := ⟨up_n (by omega), fun j => ⟨up_n (by omega), up_n (by omega), up_n (by omega), up_n (by omega)⟩⟩
theorem ek_ts {h r : ms_M} (N : EK_ h) (T : TS_ h r) : EK_ r := ek_eq N T.1 (fun k => (T.2 k).1)
theorem po_ts {h r : ms_M} (P : PO_ h) (T : TS_ h r) : PO_ r := by
  refine ⟨fun t ht => ?_, fun t ht a b => ?_, fun t ht => ?_⟩
  · rw [T.1] at ht
    rw [(T.2 t).2.2.1, (T.2 t).2.1, (T.2 (t + 1)).2.1, (T.2 t).1, (T.2 (t + 1)).1]
    exact P.1 t ht
  · rw [T.1] at ht
    rw [(T.2 t).1] at a
    rw [(T.2 t).2.2.2] at b
    rw [(T.2 t).2.2.1]
    exact P.2.1 t ht a b
  · rw [(T.2 t).2.1, (T.2 t).2.2.1]; exact P.2.2 t ht
theorem po_go {h : ms_M} (P : PO_ h) : ∀ (d c : Nat), (c : Int) + d < h 160 8 → h 164 c + d ≤ h 164 (c + d) := by
  intro d
  induction d with
  | zero => intro c _; simp
  | succ d ih =>
    intro c hc
    have h1 := ih c (by omega)
    have h2 := P.1 (c + d) (by omega)
    rw [show c + (d + 1) = c + d + 1 by omega]
    omega
theorem po_le {h : ms_M} (P : PO_ h) {a b : Int} (h0 : 0 ≤ a) (h1 : a ≤ b) (h2 : b + 1 ≤ h 160 8) : h 164 a.toNat + (b - a) ≤ h 164 b.toNat := by
  have := po_go P (b - a).toNat a.toNat (by omega)
  rw [show a.toNat + (b - a).toNat = b.toNat by omega] at this
  omega
/-- two words beside each other have a byte between them -/
theorem po_two {h : ms_M} (P : PO_ h) {a : Int} (h0 : 0 ≤ a) (h2 : a + 2 ≤ h 160 8) (k1 : h 163 a.toNat ≤ 3) (k2 : h 163 (a + 1).toNat ≤ 3) : h 164 a.toNat + h 165 a.toNat + 1 ≤ h 164 (a + 1).toNat ∧ 1 ≤ h 165 a.toNat := by
  have := P.1 a.toNat (by omega)
  rw [show (a + 1).toNat = a.toNat + 1 by omega] at k2 ⊢
  exact ⟨this.2.2 k1 k2, this.1⟩
theorem wz_i {α : Type} {M : ms_M} {r : α} {n : Int} {c : Nat} {j v : Int} {G : ms_M → Option α} (e : wr_Z n c j v M G = some r) : G (up_M M c j.toNat v) = some r := by
  unfold wr_Z at e; split at e
  · exact e
  · cases e
theorem nm_k {nn : Nat} {h : ms_M} {u : Int × ms_M} (hn : 1000000 ≤ nn) (V : VS_ h) (N : EK_ h) (hc : h 160 23 + 1 ≤ h 160 8) (e : qf_X13_name nn h = some u) (z : u.2 160 9 = 0) : h 163 (h 160 23).toNat = 1 := by
  unfold qf_X13_name at e
  by_cases q : h 160 9 = 0
  · rw [if_pos q] at e
    have e := rd_i e
    by_cases q2 : h 163 (h 160 23).toNat = 1
    · exact q2
    · rw [if_neg q2] at e
      obtain ⟨w, e1, e⟩ := sv_i e
      cases e
      exact absurd z (okof (vf_X13_misplaced hn V hc N) e1).2
  · rw [if_neg q] at e
    cases e
    exact absurd z q
theorem iw_k {nn : Nat} {a1 a2 u : Int} {h : ms_M} (e : qf_X13_isWord nn a1 a2 h = some u) : u = 0 ∨ (h 163 a1.toNat = 3 ∧ h 166 a1.toNat = a2) := by
  unfold qf_X13_isWord at e
  have e := rd_i e
  split at e
  · cases e; exact .inl rfl
  · have e := rd_i e
    split at e
    · cases e; exact .inl rfl
    · right; exact ⟨by omega, by omega⟩
theorem t96_f {nn : Nat} {h r : ms_M} (e : qj_X13_type_96 nn h = some r) (z : r 160 9 = 0) : h 160 9 = 0 := by
  unfold qj_X13_type_96 at e
  by_cases q : h 160 9 = 0
  · exact q
  · rw [if_pos q] at e
    cases e
    exact absurd z q
theorem ty_k {nn : Nat} {h r : ms_M} (hn : 1000000 ≤ nn) (V : VS_ h) (N : EK_ h) (hc : h 160 23 + 1 ≤ h 160 8) (e : qf_X13_type nn h = some r) (z : r 160 9 = 0) : h 163 (h 160 23).toNat ≤ 3 := by
  have g := gF_160_23 V
  unfold qf_X13_type at e
  by_cases q : h 160 9 = 0
  · rw [if_pos q, xl_eq, xl_eq] at e
    have V1 : VS_ (up_M h 160 46 (h 160 23)) := wF_160_46 V (by omega)
    have V2 : VS_ (up_M (up_M h 160 46 (h 160 23)) 160 47 0) := wF_160_47 V1 (by omega)
    have T2 : TS_ h (up_M (up_M h 160 46 (h 160 23)) 160 47 0) := ts_t (ts_up (by omega)) (ts_up (by omega))
    have c2 : up_M (up_M h 160 46 (h 160 23)) 160 47 0 160 23 = h 160 23 := by rw [up_n (by omega), up_n (by omega)]
    generalize up_M (up_M h 160 46 (h 160 23)) 160 47 0 = g2 at *
    obtain ⟨u27, e27, e⟩ := sv_i e
    have L27 := iw_k e27
    rw [c2, (T2.2 _).1] at L27
    by_cases q2 : u27 = 0
    · rw [if_pos q2] at e
      obtain ⟨u30, e30, e⟩ := sv_i e
      have L30 := iw_k e30
      rw [c2, (T2.2 _).1] at L30
      by_cases q3 : u30 = 0
      · rw [if_pos q3] at e
        unfold qj_X13_type_68 at e
        rw [xl_eq] at e
        have V3 : VS_ (up_M g2 160 45 3) := wF_160_45 V2 (by omega)
        have T3 : TS_ g2 (up_M g2 160 45 3) := ts_up (by omega)
        have c3 : up_M g2 160 45 3 160 23 = h 160 23 := by rw [up_n (by omega)]; exact c2
        have k3 : up_M g2 160 45 3 160 45 = 3 := up_s
        generalize up_M g2 160 45 3 = g3 at *
        rw [if_pos (by omega)] at e
        obtain ⟨u16, e16, e⟩ := sv_i e
        have T := ts_t T2 T3
        have := nm_k hn V3 (ek_ts N T) (by rw [c3, T.1]; exact hc) e16 (t96_f e z)
        rw [c3, (T.2 _).1] at this
        omega
      · omega
    · omega
  · rw [if_neg q] at e
    cases e
    exact absurd z q
theorem j170_f {nn : Nat} {l1 l2 l3 s0 s1 : Int} {h r : ms_M} (e : qj_X13_member_170 nn l1 l2 l3 s0 s1 h = some r) (z : r 160 9 = 0) : h 160 9 = 0 := by
  unfold qj_X13_member_170 at e
  have e := wa_i e
  by_cases q : up_M h 182 s1.toNat s0 160 9 = 0
  · rw [up_n (by omega)] at q; exact q
  · rw [if_neg q] at e
    cases e
    exact absurd z q
theorem m75_k {nn : Nat} {l1 l2 : Int} {h r : ms_M} (hn : 1000000 ≤ nn) (V : VS_ h) (N : EK_ h) (hc : h 160 23 + 1 ≤ h 160 8) (e : qj_X13_member_75 nn l1 l2 h = some r) (z : r 160 9 = 0) : h 163 (h 160 23).toNat = 1 := by
  have g28 := gF_160_28 V
  have g45 := gF_160_45 V
  have g46 := gF_160_46 V
  have g47 := gF_160_47 V
  unfold qj_X13_member_75 at e
  have e := wa_i e
  have V1 : VS_ (up_M h 183 (h 160 28).toNat (h 160 45)) := wA_183 V (by omega)
  have T1 : TS_ h (up_M h 183 (h 160 28).toNat (h 160 45)) := ts_up (by omega)
  have x1 : ∀ k, up_M h 183 (h 160 28).toNat (h 160 45) 160 k = h 160 k := fun k => up_n (by omega)
  generalize up_M h 183 (h 160 28).toNat (h 160 45) = g1 at *
  have e := wa_i e
  have V2 : VS_ (up_M g1 184 (h 160 28).toNat (g1 160 46)) := wA_184 V1 (by rw [x1]; omega)
  have T2 : TS_ g1 (up_M g1 184 (h 160 28).toNat (g1 160 46)) := ts_up (by omega)
  have x2 : ∀ k, up_M g1 184 (h 160 28).toNat (g1 160 46) 160 k = h 160 k := fun k => by rw [up_n (by omega)]; exact x1 k
  generalize up_M g1 184 (h 160 28).toNat (g1 160 46) = g2 at *
  have e := wz_i e
  have V3 : VS_ (up_M g2 185 (h 160 28).toNat (g2 160 47)) := wA_185 V2 (by rw [x2]; omega)
  have T3 : TS_ g2 (up_M g2 185 (h 160 28).toNat (g2 160 47)) := ts_up (by omega)
  have x3 : ∀ k, up_M g2 185 (h 160 28).toNat (g2 160 47) 160 k = h 160 k := fun k => by rw [up_n (by omega)]; exact x2 k
  generalize up_M g2 185 (h 160 28).toNat (g2 160 47) = g3 at *
  have T := ts_t (ts_t T1 T2) T3
  obtain ⟨u81, e81, e⟩ := sv_i e
  have e := wa_i e
  rw [xl_eq] at e
  have e := wa_i e
  have e := wa_i e
  have e := wa_i e
  have e := wa_i e
  have f81 : u81.2 160 9 = 0 := by
    by_cases q : l1 = 0
    · rw [if_pos q] at e
      have := j170_f e z
      rw [up_n (by omega), up_n (by omega), up_n (by omega), up_n (by omega), up_n (by omega)] at this
      exact this
    · rw [if_neg q] at e
      have := j170_f e z
      rw [up_n (by omega), up_n (by omega), up_n (by omega), up_n (by omega), up_n (by omega)] at this
      exact this
  have := nm_k hn V3 (ek_ts N T) (by rw [x3, T.1]; exact hc) e81 f81
  rw [x3, (T.2 _).1] at this
  exact this
/-- a member takes at least four bytes of the text -/
theorem m25_k {nn : Nat} {l1 : Int} {h r : ms_M} (hn : 1000000 ≤ nn) (V : VS_ h) (N : EK_ h) (P : PO_ h) (hl : 0 ≤ l1 ∧ l1 ≤ 1) (x1 : h 160 23 + 1 ≤ h 160 8) (x2 : h 160 22 ≤ 2 * h 160 23 + 30) (x3 : 2 * h 160 39 ≤ h 160 23) (x4 : h 160 28 ≤ 799) (x5 : 1 ≤ h 160 24) (x6 : h 160 9 = 0) (e : qj_X13_member_25 nn l1 h = some r) (z : r 160 9 = 0) : r 160 23 + 1 ≤ h 160 8 ∧ h 164 (h 160 23).toNat + 4 ≤ h 164 (r 160 23).toNat := by
  have g := gF_160_23 V
  unfold qj_X13_member_25 at e
  obtain ⟨u98, e98, e⟩ := sv_i e
  have L98 := iw_k e98
  have fin : ∀ {c1 : Int} {R : Int}, h 160 23 + 1 ≤ c1 → (c1 = h 160 23 + 1 → h 163 (h 160 23).toNat ≤ 3) → h 163 c1.toNat = 1 → c1 + 2 ≤ R → R + 1 ≤ h 160 8 → R + 1 ≤ h 160 8 ∧ h 164 (h 160 23).toNat + 4 ≤ h 164 R.toNat := by
    intro c1 R a1 a2 a3 a4 a5
    refine ⟨a5, ?_⟩
    have b1 := po_le P (a := c1) (b := R) (by omega) (by omega) a5
    by_cases w : c1 = h 160 23 + 1
    · have b2 := po_two P (a := h 160 23) (by omega) (by omega) (a2 w) (by rw [← w]; omega)
      rw [← w] at b2
      omega
    · have b2 := po_le P (a := h 160 23) (b := c1) (by omega) (by omega) (by omega)
      omega
  by_cases q : u98 = 0
  · rw [if_pos q] at e
    obtain ⟨u100, e100, e⟩ := sv_i e
    have Q := okof (vf_X13_type hn V x1 N) e100
    have T : TS_ h u100 := ts_fr (fun c k w => (ff_X13_type nn) _ e100 c k w) rfl
    have n22 : u100 160 22 = h 160 22 := (ff_X13_type nn) _ e100 160 22 rfl
    have n39 : u100 160 39 = h 160 39 := (ff_X13_type nn) _ e100 160 39 rfl
    have n28 : u100 160 28 = h 160 28 := (ff_X13_type nn) _ e100 160 28 rfl
    have n24 : u100 160 24 = h 160 24 := (ff_X13_type nn) _ e100 160 24 rfl
    obtain ⟨V1, R1⟩ := Q
    have t8 := T.1
    have N1 := ek_ts N T
    have c1 : u100 160 23 + 1 ≤ u100 160 8 := by omega
    have K := okof (vj_X13_member_75 (l1 := l1) (l2 := u98) hn (by omega) (by omega) (by omega) (by omega) V1 c1 (by omega) (by omega) (by omega) (by omega) N1) e
    obtain ⟨_, R2⟩ := K
    have f1 : u100 160 9 = 0 := by omega
    have k1 := m75_k hn V1 N1 c1 e z
    rw [(T.2 _).1] at k1
    exact fin (c1 := u100 160 23) (by omega) (fun _ => ty_k hn V N x1 e100 f1) k1 (by omega) (by omega)
  · rw [if_neg q, xl_eq, xl_eq, xl_eq, xl_eq, xl_eq] at e
    have L2 := lm_ek_isWord N (by omega) e98
    have V1 : VS_ (up_M h 160 45 2) := wF_160_45 V (by omega)
    have V2 : VS_ (up_M (up_M h 160 45 2) 160 47 0) := wF_160_47 V1 (by omega)
    have c2 : up_M (up_M h 160 45 2) 160 47 0 160 23 = h 160 23 := by rw [up_n (by omega), up_n (by omega)]
    have V3 : VS_ (up_M (up_M (up_M h 160 45 2) 160 47 0) 160 46 (up_M (up_M h 160 45 2) 160 47 0 160 23)) := wF_160_46 V2 (by rw [c2]; omega)
    have T3 : TS_ h (up_M (up_M (up_M h 160 45 2) 160 47 0) 160 46 (up_M (up_M h 160 45 2) 160 47 0 160 23)) := ts_t (ts_t (ts_up (by omega)) (ts_up (by omega))) (ts_up (by omega))
    have x : ∀ k, k ≠ 45 → k ≠ 46 → k ≠ 47 → up_M (up_M (up_M h 160 45 2) 160 47 0) 160 46 (up_M (up_M h 160 45 2) 160 47 0 160 23) 160 k = h 160 k := fun k a b c => by rw [up_n (by omega), up_n (by omega), up_n (by omega)]
    generalize up_M (up_M (up_M h 160 45 2) 160 47 0) 160 46 (up_M (up_M h 160 45 2) 160 47 0 160 23) = g3 at *
    rw [x 23 (by decide) (by decide) (by decide), oq_add_eq (by omega) (by omega) (by omega)] at e
    have V4 : VS_ (up_M g3 160 23 (h 160 23 + 1)) := wF_160_23 V3 (by have := gF_160_8 V; omega)
    have T4 : TS_ h (up_M g3 160 23 (h 160 23 + 1)) := ts_t T3 (ts_up (by omega))
    have y : ∀ k, k ≠ 23 → up_M g3 160 23 (h 160 23 + 1) 160 k = g3 160 k := fun k a => up_n (by omega)
    have c4 : up_M g3 160 23 (h 160 23 + 1) 160 23 = h 160 23 + 1 := up_s
    generalize up_M g3 160 23 (h 160 23 + 1) = g4 at *
    have t8 := T4.1
    have N4 := ek_ts N T4
    have y22 : g4 160 22 = h 160 22 := by rw [y 22 (by decide), x 22 (by decide) (by decide) (by decide)]
    have y39 : g4 160 39 = h 160 39 := by rw [y 39 (by decide), x 39 (by decide) (by decide) (by decide)]
    have y28 : g4 160 28 = h 160 28 := by rw [y 28 (by decide), x 28 (by decide) (by decide) (by decide)]
    have y24 : g4 160 24 = h 160 24 := by rw [y 24 (by decide), x 24 (by decide) (by decide) (by decide)]
    have c1 : g4 160 23 + 1 ≤ g4 160 8 := by omega
    have r98 := okof (vf_X13_isWord hn (by omega) (by omega) (by omega) (by omega) V) e98
    have r98 : 0 ≤ u98 ∧ u98 ≤ 1 := r98
    have K := okof (vj_X13_member_75 (l1 := l1) (l2 := u98) hn (by omega) (by omega) (by omega) (by omega) V4 c1 (by omega) (by omega) (by omega) (by omega) N4) e
    obtain ⟨_, R2⟩ := K
    have k1 := m75_k hn V4 N4 c1 e z
    rw [(T4.2 _).1, c4] at k1
    exact fin (c1 := h 160 23 + 1) (by omega) (fun _ => by omega) k1 (by omega) (by omega)
theorem mb_4 {nn : Nat} {h r : ms_M} (hn : 1000000 ≤ nn) (V : VS_ h) (N : EK_ h) (P : PO_ h) (x1 : h 160 23 + 1 ≤ h 160 8) (x2 : h 160 22 ≤ 2 * h 160 23 + 30) (x3 : 2 * h 160 39 ≤ h 160 23) (x4 : h 160 28 ≤ 799) (x5 : 1 ≤ h 160 24) (x6 : h 160 9 = 0) (e : qf_X13_member nn h = some r) (z : r 160 9 = 0) : r 160 23 + 1 ≤ h 160 8 ∧ h 164 (h 160 23).toNat + 4 ≤ h 164 (r 160 23).toNat := by
  have g := gF_160_23 V
  unfold qf_X13_member at e
  obtain ⟨u, e1, e⟩ := sv_i e
  have L := lm_ek_isWord N (by omega) e1
  have ru := okof (vf_X13_isWord hn (by omega) (by omega) (by omega) (by omega) V) e1
  have ru : 0 ≤ u ∧ u ≤ 1 := ru
  by_cases q : u = 0
  · rw [if_pos q] at e
    exact m25_k hn V N P ru x1 x2 x3 x4 x5 x6 e z
  · rw [if_neg q, xl_eq, xl_eq, oq_add_eq (by omega) (by omega) (by omega)] at e
    have V4 : VS_ (up_M h 160 23 (h 160 23 + 1)) := wF_160_23 V (by have := gF_160_8 V; omega)
    have T4 : TS_ h (up_M h 160 23 (h 160 23 + 1)) := ts_up (by omega)
    have y : ∀ k, k ≠ 23 → up_M h 160 23 (h 160 23 + 1) 160 k = h 160 k := fun k a => up_n (by omega)
    have c4 : up_M h 160 23 (h 160 23 + 1) 160 23 = h 160 23 + 1 := up_s
    generalize up_M h 160 23 (h 160 23 + 1) = g4 at *
    have t8 := T4.1
    have y22 := y 22 (by decide)
    have y39 := y 39 (by decide)
    have y28 := y 28 (by decide)
    have y24 := y 24 (by decide)
    have y9 := y 9 (by decide)
    have K := m25_k hn V4 (ek_ts N T4) (po_ts P T4) ru (by omega) (by omega) (by omega) (by omega) (by omega) (by omega) e z
    rw [(T4.2 _).2.1, (T4.2 _).2.1, c4, t8] at K
    have b := po_le P (a := h 160 23) (b := h 160 23 + 1) (by omega) (by omega) (by omega)
    exact ⟨K.1, by omega⟩

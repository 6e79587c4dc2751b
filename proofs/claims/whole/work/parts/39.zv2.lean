section
/-- what a member leaves of the rows of members -/
def WM_ (l3 : Int) (h r : ms_M) : Prop := (∀ k, r 188 k = h 188 k) ∧ (∀ k, r 181 k = h 181 k) ∧ (∀ k, k ≠ l3.toNat → r 189 k = h 189 k) ∧ (VS_ r ∧ r 188 l3.toNat + r 189 l3.toNat ≤ r 160 39)
section
variable {nn : Nat} {l3 : Int}
theorem wm_360 (hn : 1000000 ≤ nn) (r3 : 0 ≤ l3 ∧ l3 ≤ 799) {h r : ms_M} (V : VS_ h) (N : EK_ h) (x1 : h 160 23 + 1 ≤ h 160 8) (x2 : h 160 22 ≤ 2 * h 160 23 + 30) (x3 : 2 * h 160 39 ≤ h 160 23) (hs : h 188 l3.toNat + h 189 l3.toNat ≤ h 160 39) (e : qj_X13_member_360 nn l3 h = some r) : WM_ l3 h r := by
  have Q := okof (vj_X13_member_360 hn (by omega) (by omega) V x1 x2 x3 N) e
  unfold qj_X13_member_360 at e
  obtain ⟨u2, e2, e⟩ := sv_i e
  obtain ⟨u5, e5, e⟩ := sv_i e
  have e := wa_i e
  have e := Option.some.inj e
  have a : ∀ c k, (c = 181 ∨ c = 188 ∨ c = 189 ∨ (c = 160 ∧ k = 39)) → r c k = h c k := by
    intro c k hc
    rw [← e, up_n (by omega)]
    have f1 : u5.2 c k = u2 c k := by
      rcases hc with rfl | rfl | rfl | ⟨rfl, rfl⟩
      · exact (ff_X13_block nn) _ e5 181 k (nw_ar rfl k)
      · exact (ff_X13_block nn) _ e5 188 k (nw_ar rfl k)
      · exact (ff_X13_block nn) _ e5 189 k (nw_ar rfl k)
      · exact (ff_X13_block nn) _ e5 160 39 rfl
    have f2 : u2 c k = h c k := by
      rcases hc with rfl | rfl | rfl | ⟨rfl, rfl⟩
      · exact (ff_X13_sign_ nn) _ e2 181 k (nw_ar rfl k)
      · exact (ff_X13_sign_ nn) _ e2 188 k (nw_ar rfl k)
      · exact (ff_X13_sign_ nn) _ e2 189 k (nw_ar rfl k)
      · exact (ff_X13_sign_ nn) _ e2 160 39 rfl
    rw [f1, f2]
  exact ⟨fun k => a _ _ (by omega), fun k => a _ _ (by omega), fun k _ => a _ _ (by omega), Q.1, by rw [a 188 _ (by omega), a 189 _ (by omega), a 160 39 (by omega)]; exact hs⟩
theorem wm_t {h g r : ms_M} (A : ∀ k, g 188 k = h 188 k) (B : ∀ k, g 181 k = h 181 k) (C : ∀ k, k ≠ l3.toNat → g 189 k = h 189 k) (W : WM_ l3 g r) : WM_ l3 h r := ⟨fun k => (W.1 k).trans (A k), fun k => (W.2.1 k).trans (B k), fun k z => (W.2.2.1 k z).trans (C k z), W.2.2.2⟩
theorem wm_269 (hn : 1000000 ≤ nn) (r3 : 0 ≤ l3 ∧ l3 ≤ 799) {qk : Int → ms_M → Option ms_M} {r : ms_M} (hk : ∀ {g : ms_M}, VS_ g → EK_ g → g 160 23 + 1 ≤ g 160 8 → g 160 22 ≤ 2 * g 160 23 + 30 → 2 * g 160 39 ≤ g 160 23 → g 188 l3.toNat + g 189 l3.toNat ≤ g 160 39 → qk l3 g = some r → WM_ l3 g r) {h : ms_M} (V : VS_ h) (N : EK_ h) (x1 : h 160 23 + 1 ≤ h 160 8) (x2 : h 160 22 ≤ 2 * h 160 23 + 30) (x3 : 2 * h 160 39 ≤ h 160 23) (hs : h 188 l3.toNat + h 189 l3.toNat ≤ h 160 39) (e : qj_X13_member_269 nn qk l3 h = some r) : WM_ l3 h r := by
  unfold qj_X13_member_269 at e
  obtain ⟨u8, e8, e⟩ := sv_i e
  have Q8 := okof (vf_X13_type hn V x1 N) e8
  obtain ⟨V8, R8⟩ := Q8
  have T8 : TS_ h u8 := ts_fr (fun c k w => (ff_X13_type nn) _ e8 c k w) rfl
  have N8 := ek_ts N T8
  have t8 := T8.1
  have p8 : u8 160 39 = h 160 39 := (ff_X13_type nn) _ e8 160 39 rfl
  have n8 : u8 160 22 = h 160 22 := (ff_X13_type nn) _ e8 160 22 rfl
  obtain ⟨u10, e10, e⟩ := sv_i e
  have Q10 := okof (vf_X13_name hn V8 (by omega) N8) e10
  obtain ⟨V10, a10, b10, R10⟩ := Q10
  have T10 : TS_ u8 u10.2 := ts_fr (fun c k w => (ff_X13_name nn) _ e10 c k w) rfl
  have t10 := T10.1
  have p10 : u10.2 160 39 = u8 160 39 := (ff_X13_name nn) _ e10 160 39 rfl
  have n10 : u10.2 160 22 = u8 160 22 := (ff_X13_name nn) _ e10 160 22 rfl
  have a188 : ∀ k, u10.2 188 k = h 188 k := fun k => by
    have y1 : u10.2 188 k = u8 188 k := (ff_X13_name nn) _ e10 188 k (nw_ar rfl k)
    have y2 : u8 188 k = h 188 k := (ff_X13_type nn) _ e8 188 k (nw_ar rfl k)
    rw [y1, y2]
  have a181 : ∀ k, u10.2 181 k = h 181 k := fun k => by
    have y1 : u10.2 181 k = u8 181 k := (ff_X13_name nn) _ e10 181 k (nw_ar rfl k)
    have y2 : u8 181 k = h 181 k := (ff_X13_type nn) _ e8 181 k (nw_ar rfl k)
    rw [y1, y2]
  have a189 : ∀ k, u10.2 189 k = h 189 k := fun k => by
    have y1 : u10.2 189 k = u8 189 k := (ff_X13_name nn) _ e10 189 k (nw_ar rfl k)
    have y2 : u8 189 k = h 189 k := (ff_X13_type nn) _ e8 189 k (nw_ar rfl k)
    rw [y1, y2]
  by_cases q : u10.2 160 9 = 0
  · rw [if_pos q] at e
    have g39 := gF_160_39 V
    have g45 := gF_160_45 V10
    have g46 := gF_160_46 V10
    have g47 := gF_160_47 V10
    have g23 := gF_160_23 V10
    generalize u10.2 = g0 at *
    have e := wa_i e
    have W1 : VS_ (up_M g0 191 (g0 160 39).toNat (g0 160 45)) := wA_191 V10 (by omega)
    have f1 : ∀ c k, c ≠ 191 → up_M g0 191 (g0 160 39).toNat (g0 160 45) c k = g0 c k := fun c k z => up_n (by omega)
    generalize up_M g0 191 (g0 160 39).toNat (g0 160 45) = g1 at *
    have e := wa_i e
    have W2 : VS_ (up_M g1 192 (g1 160 39).toNat (g1 160 46)) := wA_192 W1 (by rw [f1 160 46 (by decide)]; omega)
    have f2 : ∀ c k, c ≠ 191 → c ≠ 192 → up_M g1 192 (g1 160 39).toNat (g1 160 46) c k = g0 c k := fun c k z y => by rw [up_n (by omega)]; exact f1 c k z
    generalize up_M g1 192 (g1 160 39).toNat (g1 160 46) = g2 at *
    have e := wz_i e
    have W3 : VS_ (up_M g2 193 (g2 160 39).toNat (g2 160 47)) := wA_193 W2 (by rw [f2 160 47 (by decide) (by decide)]; omega)
    have f3 : ∀ c k, (c < 191 ∨ 193 < c) → up_M g2 193 (g2 160 39).toNat (g2 160 47) c k = g0 c k := fun c k z => by rw [up_n (by omega)]; exact f2 c k (by omega) (by omega)
    generalize up_M g2 193 (g2 160 39).toNat (g2 160 47) = g3 at *
    have e := wa_i e
    have W4 : VS_ (up_M g3 194 (g3 160 39).toNat u10.1) := wA_194 W3 (by omega)
    have f4 : ∀ c k, (c < 191 ∨ 194 < c) → up_M g3 194 (g3 160 39).toNat u10.1 c k = g0 c k := fun c k z => by rw [up_n (by omega)]; exact f3 c k (by omega)
    generalize up_M g3 194 (g3 160 39).toNat u10.1 = g4 at *
    rw [xl_eq, xl_eq, f4 160 39 (by omega), oq_add_eq (by omega) (by omega) (by omega)] at e
    have W5 : VS_ (up_M g4 160 39 (g0 160 39 + 1)) := wF_160_39 W4 (by omega)
    have f5 : ∀ c k, (c < 191 ∨ 194 < c) → ¬ (c = 160 ∧ k = 39) → up_M g4 160 39 (g0 160 39 + 1) c k = g0 c k := fun c k z y => by rw [up_n y]; exact f4 c k z
    have p5 : up_M g4 160 39 (g0 160 39 + 1) 160 39 = g0 160 39 + 1 := up_s
    generalize up_M g4 160 39 (g0 160 39 + 1) = g5 at *
    have e := rd_i e
    rw [xl_eq, f5 189 _ (by omega) (by omega)] at e
    have s188 := gA_188 V l3.toNat (by omega)
    have s189 := gA_189 V l3.toNat (by omega)
    have s0 := a189 l3.toNat
    have s1 := a188 l3.toNat
    rw [oq_add_eq (by omega) (by omega) (by omega)] at e
    have e := wa_i e
    have W6 : VS_ (up_M g5 189 l3.toNat (g0 189 l3.toNat + 1)) := wA_189 W5 (by omega)
    have f6 : ∀ c k, (c < 191 ∨ 194 < c) → ¬ (c = 160 ∧ k = 39) → ¬ (c = 189 ∧ k = l3.toNat) → up_M g5 189 l3.toNat (g0 189 l3.toNat + 1) c k = g0 c k := fun c k z y w => by rw [up_n w]; exact f5 c k z y
    have p6 : up_M g5 189 l3.toNat (g0 189 l3.toNat + 1) 160 39 = g0 160 39 + 1 := by rw [up_n (by omega)]; exact p5
    have q6 : up_M g5 189 l3.toNat (g0 189 l3.toNat + 1) 189 l3.toNat = g0 189 l3.toNat + 1 := up_s
    generalize up_M g5 189 l3.toNat (g0 189 l3.toNat + 1) = g6 at *
    have T6 : TS_ g0 g6 := ⟨f6 _ _ (by omega) (by omega) (by omega), fun k => ⟨f6 _ _ (by omega) (by omega) (by omega), f6 _ _ (by omega) (by omega) (by omega), f6 _ _ (by omega) (by omega) (by omega), f6 _ _ (by omega) (by omega) (by omega)⟩⟩
    have c6 : g6 160 23 = g0 160 23 := f6 _ _ (by omega) (by omega) (by omega)
    have n6 : g6 160 22 = g0 160 22 := f6 _ _ (by omega) (by omega) (by omega)
    have t6 := T6.1
    have z188 : g6 188 l3.toNat = g0 188 l3.toNat := f6 _ _ (by omega) (by omega) (by omega)
    have K := hk W6 (ek_ts (ek_ts N8 T10) T6) (by omega) (by omega) (by omega) (by omega) e
    exact wm_t (fun k => by rw [f6 188 k (by omega) (by omega) (by omega)]; exact a188 k) (fun k => by rw [f6 181 k (by omega) (by omega) (by omega)]; exact a181 k) (fun k z => by rw [f6 189 k (by omega) (by omega) (by omega)]; exact a189 k) K
  · rw [if_neg q] at e
    have e := Option.some.inj e
    rw [← e]
    exact ⟨a188, a181, fun k _ => a189 k, V10, by rw [a188, a189]; omega⟩
theorem wm_234 (hn : 1000000 ≤ nn) (r3 : 0 ≤ l3 ∧ l3 ≤ 799) {r : ms_M} : ∀ (k : Nat) {h : ms_M}, VS_ h → EK_ h → h 160 23 + 1 ≤ h 160 8 → h 160 22 ≤ 2 * h 160 23 + 30 → 2 * h 160 39 ≤ h 160 23 → h 188 l3.toNat + h 189 l3.toNat ≤ h 160 39 → qw_X13_member_234 nn k l3 h = some r → WM_ l3 h r := by
  intro k
  induction k with
  | zero => intro h V N x1 x2 x3 hs e; cases e
  | succ k ih =>
    intro h V N x1 x2 x3 hs e
    unfold qw_X13_member_234 at e
    by_cases q : h 160 9 = 0
    · rw [if_neg (fun z => z q)] at e
      obtain ⟨u38, e38, e⟩ := sv_i e
      by_cases q2 : u38 = 0
      · rw [if_neg (fun z => z q2)] at e
        have e := rd_i e
        by_cases q3 : h 189 l3.toNat ≤ 0
        · rw [if_pos q3] at e
          exact wm_269 hn r3 (fun a b c d f g z => ih a b c d f g z) V N x1 x2 x3 hs e
        · rw [if_neg q3] at e
          obtain ⟨u42, e42, e⟩ := sv_i e
          have Q := okof (vf_X13_sign_ hn (by omega) (by omega) V x1 N) e42
          have T : TS_ h u42 := ts_fr (fun c k w => (ff_X13_sign_ nn) _ e42 c k w) rfl
          have t := T.1
          have p : u42 160 39 = h 160 39 := (ff_X13_sign_ nn) _ e42 160 39 rfl
          have n : u42 160 22 = h 160 22 := (ff_X13_sign_ nn) _ e42 160 22 rfl
          have y1 : ∀ k, u42 188 k = h 188 k := fun k => (ff_X13_sign_ nn) _ e42 188 k (nw_ar rfl k)
          have y2 : ∀ k, u42 181 k = h 181 k := fun k => (ff_X13_sign_ nn) _ e42 181 k (nw_ar rfl k)
          have y3 : ∀ k, u42 189 k = h 189 k := fun k => (ff_X13_sign_ nn) _ e42 189 k (nw_ar rfl k)
          obtain ⟨VQ, RQ⟩ := Q
          have K := wm_269 hn r3 (fun a b c d f g z => ih a b c d f g z) VQ (ek_ts N T) (by omega) (by omega) (by omega) (by rw [y1, y3]; omega) e
          exact wm_t y1 y2 (fun k _ => y3 k) K
      · rw [if_pos q2] at e
        exact wm_360 hn r3 V N x1 x2 x3 hs e
    · rw [if_pos q] at e
      exact wm_360 hn r3 V N x1 x2 x3 hs e
end
theorem wm_sg {nn : Nat} {l3 a : Int} {h u r : ms_M} (e : qf_X13_sign_ nn a h = some u) (W : WM_ l3 u r) : WM_ l3 h r :=
  wm_t (fun k => (ff_X13_sign_ nn) _ e 188 k (nw_ar rfl k)) (fun k => (ff_X13_sign_ nn) _ e 181 k (nw_ar rfl k)) (fun k _ => (ff_X13_sign_ nn) _ e 189 k (nw_ar rfl k)) W
theorem wm_170 {nn : Nat} (hn : 1000000 ≤ nn) {l1 l2 l3 s0 : Int} (r3 : 0 ≤ l3 ∧ l3 ≤ 799) (rs : 0 ≤ s0 ∧ s0 ≤ 2) (rl : (0 ≤ l1 ∧ l1 ≤ 1) ∧ (0 ≤ l2 ∧ l2 ≤ 1)) {h r : ms_M} (V : VS_ h) (N : EK_ h) (x1 : h 160 23 + 1 ≤ h 160 8) (x2 : h 160 22 ≤ 2 * h 160 23 + 30) (x3 : 2 * h 160 39 ≤ h 160 23) (x4 : h 160 28 ≤ 799) (hz : h 189 l3.toNat = 0) (hs : h 188 l3.toNat + h 189 l3.toNat ≤ h 160 39) (e : qj_X13_member_170 nn l1 l2 l3 s0 l3 h = some r) : WM_ l3 h r := by
  have Q := okof (vj_X13_member_170 hn (by omega) (by omega) (by omega) (by omega) (by omega) (by omega) (by omega) (by omega) (by omega) (by omega) V x1 x2 x3 x4 rfl hz N) e
  unfold qj_X13_member_170 at e
  have e := wa_i e
  have V1 : VS_ (up_M h 182 l3.toNat s0) := wA_182 V (by omega)
  have f1 : ∀ c k, c ≠ 182 → up_M h 182 l3.toNat s0 c k = h c k := fun c k z => up_n (by omega)
  generalize up_M h 182 l3.toNat s0 = g1 at *
  have T1 : TS_ h g1 := ⟨f1 _ _ (by decide), fun k => ⟨f1 _ _ (by decide), f1 _ _ (by decide), f1 _ _ (by decide), f1 _ _ (by decide)⟩⟩
  by_cases q : g1 160 9 = 0
  · rw [if_pos q, xl_eq, xl_eq] at e
    have g28 := gF_160_28 V
    rw [f1 160 28 (by decide), oq_add_eq (by omega) (by omega) (by omega)] at e
    have V2 : VS_ (up_M g1 160 28 (h 160 28 + 1)) := wF_160_28 V1 (by omega)
    have f2 : ∀ c k, c ≠ 182 → ¬ (c = 160 ∧ k = 28) → up_M g1 160 28 (h 160 28 + 1) c k = h c k := fun c k z y => by rw [up_n y]; exact f1 c k z
    generalize up_M g1 160 28 (h 160 28 + 1) = g2 at *
    have T2 : TS_ h g2 := ⟨f2 _ _ (by decide) (by omega), fun k => ⟨f2 _ _ (by decide) (by omega), f2 _ _ (by decide) (by omega), f2 _ _ (by decide) (by omega), f2 _ _ (by decide) (by omega)⟩⟩
    have N2 := ek_ts N T2
    have c8 := f2 160 8 (by decide) (by omega)
    have c23 := f2 160 23 (by decide) (by omega)
    have c22 := f2 160 22 (by decide) (by omega)
    have c39 := f2 160 39 (by decide) (by omega)
    have z188 : ∀ k, g2 188 k = h 188 k := fun k => f2 _ _ (by decide) (by omega)
    have z181 : ∀ k, g2 181 k = h 181 k := fun k => f2 _ _ (by decide) (by omega)
    have z189 : ∀ k, g2 189 k = h 189 k := fun k => f2 _ _ (by decide) (by omega)
    have call : ∀ {u : ms_M}, qf_X13_sign_ nn 40 g2 = some u → qw_X13_member_234 nn nn l3 u = some r → WM_ l3 h r := fun {u} eu ew => by
      have S := okof (vf_X13_sign_ hn (by omega) (by omega) V2 (by omega) N2) eu
      have T : TS_ g2 u := ts_fr (fun c k w => (ff_X13_sign_ nn) _ eu c k w) rfl
      have t := T.1
      have p : u 160 39 = g2 160 39 := (ff_X13_sign_ nn) _ eu 160 39 rfl
      have n : u 160 22 = g2 160 22 := (ff_X13_sign_ nn) _ eu 160 22 rfl
      have y1 : u 188 l3.toNat = g2 188 l3.toNat := (ff_X13_sign_ nn) _ eu 188 _ (nw_ar rfl _)
      have y3 : u 189 l3.toNat = g2 189 l3.toNat := (ff_X13_sign_ nn) _ eu 189 _ (nw_ar rfl _)
      obtain ⟨VS, RS⟩ := S
      have K := wm_234 hn r3 nn VS (ek_ts N2 T) (by omega) (by omega) (by omega) (by rw [y1, y3, z188, z189]; omega) ew
      exact wm_t z188 z181 (fun k _ => z189 k) (wm_sg eu K)
    by_cases q1 : l1 = 0
    · rw [if_neg (fun z => z q1)] at e
      by_cases q2 : l2 = 0
      · rw [if_neg (fun z => z q2)] at e
        obtain ⟨u57, e57, e⟩ := sv_i e
        by_cases q3 : u57 = 0
        · rw [if_pos q3] at e
          obtain ⟨u, eu, e⟩ := sv_i e
          exact call eu e
        · rw [if_neg q3, xl_eq, xl_eq] at e
          have e := wa_i e
          have e := Option.some.inj e
          have a : ∀ c k, (c = 181 ∨ c = 188 ∨ c = 189 ∨ (c = 160 ∧ k = 39)) → r c k = h c k := fun c k hc => by
            rw [← e, up_n (by omega), up_n (by omega)]; exact f2 c k (by omega) (by omega)
          exact ⟨fun k => a _ _ (by omega), fun k => a _ _ (by omega), fun k _ => a _ _ (by omega), Q.1, by rw [a 188 _ (by omega), a 189 _ (by omega), a 160 39 (by omega)]; exact hs⟩
      · rw [if_pos q2] at e
        obtain ⟨u, eu, e⟩ := sv_i e
        exact call eu e
    · rw [if_pos q1] at e
      obtain ⟨u, eu, e⟩ := sv_i e
      exact call eu e
  · rw [if_neg q] at e
    have e := Option.some.inj e
    rw [← e]
    exact ⟨fun k => f1 _ _ (by decide), fun k => f1 _ _ (by decide), fun k _ => f1 _ _ (by decide), V1, by rw [f1 188 _ (by decide), f1 189 _ (by decide), f1 160 39 (by decide)]; exact hs⟩
/-- a member's row is written at its own place alone -/
def WN_ (h r : ms_M) : Prop := (∀ k, k ≠ (h 160 28).toNat → r 181 k = h 181 k ∧ r 188 k = h 188 k ∧ r 189 k = h 189 k) ∧ r 181 (h 160 28).toNat = h 160 24 - 1 ∧ r 188 (h 160 28).toNat + r 189 (h 160 28).toNat ≤ 1500
theorem wn_75 {nn : Nat} {l1 l2 : Int} {h r : ms_M} (hn : 1000000 ≤ nn) (rl : (0 ≤ l1 ∧ l1 ≤ 1) ∧ (0 ≤ l2 ∧ l2 ≤ 1)) (V : VS_ h) (N : EK_ h) (x1 : h 160 23 + 1 ≤ h 160 8) (x2 : h 160 22 ≤ 2 * h 160 23 + 30) (x3 : 2 * h 160 39 ≤ h 160 23) (x4 : h 160 28 ≤ 799) (x5 : 1 ≤ h 160 24) (e : qj_X13_member_75 nn l1 l2 h = some r) : WN_ h r := by
  have g28 := gF_160_28 V
  have g24 := gF_160_24 V
  have g39 := gF_160_39 V
  have g45 := gF_160_45 V
  have g46 := gF_160_46 V
  have g47 := gF_160_47 V
  unfold qj_X13_member_75 at e
  have e := wa_i e
  have V1 : VS_ (up_M h 183 (h 160 28).toNat (h 160 45)) := wA_183 V (by omega)
  have f1 : ∀ c k, c ≠ 183 → up_M h 183 (h 160 28).toNat (h 160 45) c k = h c k := fun c k z => up_n (by omega)
  generalize up_M h 183 (h 160 28).toNat (h 160 45) = g1 at *
  have e := wa_i e
  have V2 : VS_ (up_M g1 184 (h 160 28).toNat (g1 160 46)) := wA_184 V1 (by rw [f1 160 46 (by decide)]; omega)
  have f2 : ∀ c k, c ≠ 183 → c ≠ 184 → up_M g1 184 (h 160 28).toNat (g1 160 46) c k = h c k := fun c k z y => by rw [up_n (by omega)]; exact f1 c k z
  generalize up_M g1 184 (h 160 28).toNat (g1 160 46) = g2 at *
  have e := wz_i e
  have V3 : VS_ (up_M g2 185 (h 160 28).toNat (g2 160 47)) := wA_185 V2 (by rw [f2 160 47 (by decide) (by decide)]; omega)
  have f3 : ∀ c k, (c < 183 ∨ 185 < c) → up_M g2 185 (h 160 28).toNat (g2 160 47) c k = h c k := fun c k z => by rw [up_n (by omega)]; exact f2 c k (by omega) (by omega)
  generalize up_M g2 185 (h 160 28).toNat (g2 160 47) = g3 at *
  have T3 : TS_ h g3 := ⟨f3 _ _ (by omega), fun k => ⟨f3 _ _ (by omega), f3 _ _ (by omega), f3 _ _ (by omega), f3 _ _ (by omega)⟩⟩
  have N3 := ek_ts N T3
  obtain ⟨u, eu, e⟩ := sv_i e
  have c8 := f3 160 8 (by omega)
  have c23 := f3 160 23 (by omega)
  have S := okof (vf_X13_name hn V3 (by omega) N3) eu
  obtain ⟨Vu, au, bu, Ru⟩ := S
  have Tu : TS_ g3 u.2 := ts_fr (fun c k w => (ff_X13_name nn) _ eu c k w) rfl
  have tu := Tu.1
  have y : ∀ c k, (c = 181 ∨ c = 188 ∨ c = 189 ∨ (c = 160 ∧ (k = 39 ∨ k = 22 ∨ k = 24 ∨ k = 28))) → u.2 c k = h c k := by
    intro c k hc
    have w1 : u.2 c k = g3 c k := by
      rcases hc with rfl | rfl | rfl | ⟨rfl, rfl | rfl | rfl | rfl⟩
      · exact (ff_X13_name nn) _ eu 181 k (nw_ar rfl k)
      · exact (ff_X13_name nn) _ eu 188 k (nw_ar rfl k)
      · exact (ff_X13_name nn) _ eu 189 k (nw_ar rfl k)
      · exact (ff_X13_name nn) _ eu 160 39 rfl
      · exact (ff_X13_name nn) _ eu 160 22 rfl
      · exact (ff_X13_name nn) _ eu 160 24 rfl
      · exact (ff_X13_name nn) _ eu 160 28 rfl
    rw [w1]; exact f3 c k (by omega)
  generalize hu2 : u.2 = g4 at *
  have e := wa_i e
  have V5 : VS_ (up_M g4 186 (h 160 28).toNat u.1) := wA_186 Vu (by omega)
  have f5 : ∀ c k, c ≠ 186 → up_M g4 186 (h 160 28).toNat u.1 c k = g4 c k := fun c k z => up_n (by omega)
  generalize up_M g4 186 (h 160 28).toNat u.1 = g5 at *
  rw [xl_eq, f5 160 24 (by decide), y 160 24 (by omega), oq_sub_eq (by omega) (by omega) (by omega)] at e
  have e := wa_i e
  have V6 : VS_ (up_M g5 181 (h 160 28).toNat (h 160 24 - 1)) := wA_181 V5 (by omega)
  have f6 : ∀ c k, c ≠ 186 → ¬ (c = 181 ∧ k = (h 160 28).toNat) → up_M g5 181 (h 160 28).toNat (h 160 24 - 1) c k = g4 c k := fun c k z w => by rw [up_n w]; exact f5 c k z
  have s6 : up_M g5 181 (h 160 28).toNat (h 160 24 - 1) 181 (h 160 28).toNat = h 160 24 - 1 := up_s
  generalize up_M g5 181 (h 160 28).toNat (h 160 24 - 1) = g6 at *
  have e := wa_i e
  have p6 : g6 160 39 = h 160 39 := by rw [f6 160 39 (by decide) (by omega)]; exact y 160 39 (by omega)
  have V7 : VS_ (up_M g6 188 (h 160 28).toNat (g6 160 39)) := wA_188 V6 (by omega)
  have f7 : ∀ c k, c ≠ 186 → ¬ ((c = 181 ∨ c = 188) ∧ k = (h 160 28).toNat) → up_M g6 188 (h 160 28).toNat (g6 160 39) c k = g4 c k := fun c k z w => by rw [up_n (by omega)]; exact f6 c k z (by omega)
  have s7 : up_M g6 188 (h 160 28).toNat (g6 160 39) 188 (h 160 28).toNat = h 160 39 := by rw [up_s]; exact p6
  have s7a : up_M g6 188 (h 160 28).toNat (g6 160 39) 181 (h 160 28).toNat = h 160 24 - 1 := by rw [up_n (by omega)]; exact s6
  generalize up_M g6 188 (h 160 28).toNat (g6 160 39) = g7 at *
  have e := wa_i e
  have V8 : VS_ (up_M g7 189 (h 160 28).toNat 0) := wA_189 V7 (by omega)
  have f8 : ∀ c k, c ≠ 186 → ¬ ((c = 181 ∨ c = 188 ∨ c = 189) ∧ k = (h 160 28).toNat) → up_M g7 189 (h 160 28).toNat 0 c k = g4 c k := fun c k z w => by rw [up_n (by omega)]; exact f7 c k z (by omega)
  have s8 : up_M g7 189 (h 160 28).toNat 0 188 (h 160 28).toNat = h 160 39 := by rw [up_n (by omega)]; exact s7
  have s8a : up_M g7 189 (h 160 28).toNat 0 181 (h 160 28).toNat = h 160 24 - 1 := by rw [up_n (by omega)]; exact s7a
  have s8b : up_M g7 189 (h 160 28).toNat 0 189 (h 160 28).toNat = 0 := up_s
  generalize up_M g7 189 (h 160 28).toNat 0 = g8 at *
  have e := wa_i e
  have V9 : VS_ (up_M g8 190 (h 160 28).toNat (-1)) := wA_190 V8 (by omega)
  have f9 : ∀ c k, (c < 186 ∨ 190 < c) → ¬ (c = 181 ∧ k = (h 160 28).toNat) → up_M g8 190 (h 160 28).toNat (-1) c k = g4 c k := fun c k z w => by rw [up_n (by omega)]; exact f8 c k (by omega) (by omega)
  have f9a : ∀ c k, c ≠ 190 → up_M g8 190 (h 160 28).toNat (-1) c k = g8 c k := fun c k z => up_n (by omega)
  generalize up_M g8 190 (h 160 28).toNat (-1) = g9 at *
  have T9 : TS_ g4 g9 := ⟨f9 _ _ (by omega) (by omega), fun k => ⟨f9 _ _ (by omega) (by omega), f9 _ _ (by omega) (by omega), f9 _ _ (by omega) (by omega), f9 _ _ (by omega) (by omega)⟩⟩
  have N9 := ek_ts (ek_ts N3 Tu) T9
  have t9 := T9.1
  have d23 := f9 160 23 (by omega) (by omega)
  have d22 := f9 160 22 (by omega) (by omega)
  have d39 := f9 160 39 (by omega) (by omega)
  have d28 := f9 160 28 (by omega) (by omega)
  have y22 := y 160 22 (by omega)
  have y39 := y 160 39 (by omega)
  have y28 := y 160 28 (by omega)
  have z188 := f9a 188 (h 160 28).toNat (by decide)
  have z189 := f9a 189 (h 160 28).toNat (by decide)
  have W : WM_ (h 160 28) g9 r := by
    by_cases q : l1 = 0
    · rw [if_pos q] at e
      exact wm_170 hn (by omega) (by omega) rl V9 N9 (by omega) (by omega) (by omega) (by omega) (by omega) (by omega) e
    · rw [if_neg q] at e
      exact wm_170 hn (by omega) (by omega) rl V9 N9 (by omega) (by omega) (by omega) (by omega) (by omega) (by omega) e
  have gr := gF_160_39 W.2.2.2.1
  refine ⟨fun k hk => ⟨?_, ?_, ?_⟩, ?_, ?_⟩
  · rw [W.2.1, f9a 181 k (by decide), f8 181 k (by decide) (by omega)]; exact y 181 k (by omega)
  · rw [W.1, f9a 188 k (by decide), f8 188 k (by decide) (by omega)]; exact y 188 k (by omega)
  · rw [W.2.2.1 k hk, f9a 189 k (by decide), f8 189 k (by decide) (by omega)]; exact y 189 k (by omega)
  · rw [W.2.1, f9a 181 _ (by decide)]; exact s8a
  · have := W.2.2.2.2; omega
end
section
/-- going up by extends -/
def uo_ (M : ms_M) (c : Int) : Int := if c = 0 then -1 else if c = 1 then 0 else if 8 ≤ c then M 180 (c - 8).toNat else 1
def upn_ (M : ms_M) : Nat → Int → Int
  | 0, c => c
  | n + 1, c => if c = -1 then -1 else upn_ M n (uo_ M c)
theorem uo_eq {nn : Nat} {c : Int} {h : ms_M} (r : 0 ≤ c ∧ c ≤ 407) : qf_X13_upperOf nn c h = some (uo_ h c) := by
  unfold qf_X13_upperOf uo_
  by_cases q : c = 0
  · rw [if_neg (fun z => z q), if_pos q]
  · rw [if_pos q, if_neg q]
    by_cases q1 : c = 1
    · rw [if_neg (fun z => z q1), if_pos q1]
    · rw [if_pos q1, if_neg q1]
      by_cases q2 : 8 ≤ c
      · rw [if_pos q2, if_pos q2, xl_eq, oq_sub_eq (by omega) (by omega) (by omega)]
        unfold rd_A
        rw [if_pos (by omega)]
      · rw [if_neg q2, if_neg q2]
theorem uo_b {c : Int} {h : ms_M} (V : VS_ h) (r : 0 ≤ c ∧ c ≤ 407) : -1 ≤ uo_ h c ∧ uo_ h c ≤ 407 := by
  unfold uo_
  split
  · omega
  · split
    · omega
    · split
      · exact gA_180 V (c - 8).toNat (by omega)
      · omega
theorem upn_m {M : ms_M} : ∀ n : Nat, upn_ M n (-1) = -1 := by
  intro n
  cases n with
  | zero => rfl
  | succ n => show (if (-1 : Int) = -1 then (-1 : Int) else _) = -1; rw [if_pos rfl]
theorem upn_s {M : ms_M} : ∀ (n : Nat) (c : Int), upn_ M (n + 1) c = (if upn_ M n c = -1 then -1 else uo_ M (upn_ M n c)) := by
  intro n
  induction n with
  | zero =>
    intro c
    show (if c = -1 then -1 else uo_ M c) = (if c = -1 then -1 else uo_ M c)
    rfl
  | succ n ih =>
    intro c
    by_cases q : c = -1
    · rw [q, upn_m, upn_m, if_pos rfl]
    · have a : upn_ M (n + 1 + 1) c = upn_ M (n + 1) (uo_ M c) := by
        show (if c = -1 then -1 else upn_ M (n + 1) (uo_ M c)) = _; rw [if_neg q]
      have b : upn_ M (n + 1) c = upn_ M n (uo_ M c) := by
        show (if c = -1 then -1 else upn_ M n (uo_ M c)) = _; rw [if_neg q]
      rw [a, b]; exact ih _
theorem upn_e {M : ms_M} : ∀ (d n : Nat) {c : Int}, upn_ M n c = -1 → upn_ M (n + d) c = -1 := by
  intro d
  induction d with
  | zero => intro n c h; exact h
  | succ d ih =>
    intro n c h
    rw [show n + (d + 1) = n + d + 1 by omega, upn_s, if_pos (ih n h)]
/-- no class is above itself: from every class the way up ends -/
def AC_ (M : ms_M) : Prop := ∀ c : Int, -1 ≤ c → c < 8 + M 160 24 → upn_ M 420 c = -1
theorem upn_q {M N : ms_M} (h : ∀ k, N 180 k = M 180 k) : ∀ (n : Nat) (c : Int), upn_ N n c = upn_ M n c := by
  have e : N 180 = M 180 := funext h
  intro n
  induction n with
  | zero => intro c; rfl
  | succ n ih =>
    intro c
    have u : uo_ N c = uo_ M c := by unfold uo_; rw [e]
    show (if c = -1 then -1 else upn_ N n (uo_ N c)) = (if c = -1 then -1 else upn_ M n (uo_ M c))
    rw [ih, u]
theorem ac_eq {M N : ms_M} (h : AC_ M) (h1 : ∀ k, N 180 k = M 180 k) (h2 : N 160 24 = M 160 24) : AC_ N := by
  intro c a b
  rw [upn_q h1]; rw [h2] at b; exact h c a b
theorem ex_2 {nn : Nat} {l2 : Int} {h : ms_M} (V : VS_ h) : ∀ (k f : Nat) (l3 : Int), upn_ h k l3 = -1 → (-1 ≤ l3 ∧ l3 ≤ 407) → k < f → Ok_ (qw_X13_extendsIt_2 nn f l2 l3 h) (QP_ 0 1) := by
  have j : ∀ l3 : Int, Ok_ (qj_X13_extendsIt_21 nn l2 l3 h) (QP_ 0 1) := fun l3 => by
    unfold qj_X13_extendsIt_21
    exact ok_if (fun _ => ok_rP (by omega) (by omega)) (fun _ => ok_rP (by omega) (by omega))
  intro k
  induction k with
  | zero =>
    intro f l3 a b hf
    cases f with
    | zero => omega
    | succ f =>
      unfold qw_X13_extendsIt_2
      rw [if_pos (show l3 = -1 from a)]; exact j l3
  | succ k ih =>
    intro f l3 a b hf
    cases f with
    | zero => omega
    | succ f =>
      unfold qw_X13_extendsIt_2
      refine ok_if (fun _ => j l3) (fun C => ?_)
      refine ok_if (fun _ => j l3) (fun _ => ?_)
      rw [uo_eq (by omega), mx_svs]
      refine ih f _ ?_ (uo_b V (by omega)) (by omega)
      have a : (if l3 = -1 then -1 else upn_ h k (uo_ h l3)) = -1 := a
      rw [if_neg C] at a; exact a
theorem vf_X13_extendsIt {nn : Nat} (hn : 1000000 ≤ nn) {a1 a2 : Int} {h : ms_M} (V : VS_ h) (A : AC_ h) (r : -1 ≤ a1 ∧ a1 < 8 + h 160 24) : Ok_ (qf_X13_extendsIt nn a1 a2 h) (QP_ 0 1) := by
  have g := gF_160_24 V
  unfold qf_X13_extendsIt
  exact ex_2 V 420 nn a1 (A a1 r.1 r.2) (by omega) (by omega)
theorem mo_3 {nn : Nat} (hn : 1000000 ≤ nn) {l2 l3 : Int} {h : ms_M} (V : VS_ h) (N : HW_ h) (r2 : 0 ≤ l2 ∧ l2 ≤ 3001) : ∀ (k f : Nat) (l4 : Int), upn_ h k l4 = -1 → (-1 ≤ l4 ∧ l4 ≤ 407) → k < f → Ok_ (qw_X13_memberOf_3 nn f l2 l3 l4 h) (QP_ (-1) 799) := by
  have g := gF_160_28 V
  intro k
  induction k with
  | zero =>
    intro f l4 a b hf
    cases f with
    | zero => omega
    | succ f =>
      unfold qw_X13_memberOf_3
      rw [if_pos (show l4 = -1 from a)]; exact ok_rP (by omega) (by omega)
  | succ k ih =>
    intro f l4 a b hf
    cases f with
    | zero => omega
    | succ f =>
      unfold qw_X13_memberOf_3
      refine ok_if (fun _ => ok_rP (by omega) (by omega)) (fun C => ?_)
      have a : (if l4 = -1 then -1 else upn_ h k (uo_ h l4)) = -1 := a
      rw [if_neg C] at a
      have nx := ih f _ a (uo_b V (by omega)) (by omega)
      have inner : ∀ (f2 : Nat) (l5 : Int), 0 ≤ l5 ∧ l5 ≤ 800 → 801 - l5 < (f2 : Int) → Ok_ (qw_X13_memberOf_12 nn (qw_X13_memberOf_3 nn f) f2 l2 l3 l4 l5 h) (QP_ (-1) 799) := by
        intro f2
        induction f2 with
        | zero => intro l5 c hm; exfalso; omega
        | succ f2 ih2 =>
          intro l5 c hm
          unfold qw_X13_memberOf_12
          refine ok_if (fun _ => ?_) (fun C2 => ?_)
          · rw [uo_eq (by omega), mx_svs]; exact nx
          · have go : ∀ v : Int, v = l5 + 1 → Ok_ (qw_X13_memberOf_12 nn (qw_X13_memberOf_3 nn f) f2 l2 l3 l4 v h) (QP_ (-1) 799) := fun v e => ih2 v (by omega) (by omega)
            have j51 : ∀ s0 : Int, Ok_ (qj_X13_memberOf_51 nn (qw_X13_memberOf_3 nn f) (qw_X13_memberOf_12 nn (qw_X13_memberOf_3 nn f) f2) l2 l3 l4 l5 s0 h) (QP_ (-1) 799) := fun s0 => by
              unfold qj_X13_memberOf_51
              refine ok_if (fun _ => ?_) (fun _ => ?_)
              · refine ok_add (by omega) ?_; intro v e; exact go v e
              · refine ok_rd (by omega) (gA_186 V) ?_; intro v3 e3 a3 b3
                refine ok_cP (vf_X13_isLike hn (by omega) (by omega) (by omega) (by omega) V N) ?_; intro u5 e5 a5 b5
                refine ok_if (fun _ => ?_) (fun _ => ok_rP (by omega) (by omega))
                refine ok_add (by omega) ?_; intro v e; exact go v e
            refine ok_rd (by omega) (gA_181 V) ?_; intro v13 e13 a13 b13
            refine ok_sub (by omega) ?_; intro v14 e14
            refine ok_if (fun _ => ?_) (fun _ => ?_)
            · refine ok_add (by omega) ?_; intro v e; exact go v e
            · refine ok_rd (by omega) (gA_182 V) ?_; intro v17 e17 a17 b17
              exact ok_if (fun _ => j51 0) (fun _ => j51 1)
      exact inner nn 0 (by omega) (by omega)
theorem vf_X13_memberOf {nn : Nat} (hn : 1000000 ≤ nn) {a1 a2 a3 : Int} {h : ms_M} (V : VS_ h) (N : HW_ h) (A : AC_ h) (r : -1 ≤ a1 ∧ a1 < 8 + h 160 24) (r2 : 0 ≤ a2 ∧ a2 ≤ 3001) : Ok_ (qf_X13_memberOf nn a1 a2 a3 h) (QP_ (-1) 799) := by
  have g := gF_160_24 V
  unfold qf_X13_memberOf
  exact mo_3 hn V N r2 420 nn a1 (A a1 r.1 r.2) (by omega) (by omega)
theorem vj_X13_fits_44 {nn : Nat} (hn : 1000000 ≤ nn) {l1 l2 : Int} {h : ms_M} (V : VS_ h) (A : AC_ h) (r1 : -1 ≤ l1 ∧ l1 ≤ 900 ∧ l1 < 24 + 2 * h 160 24) (r2 : -1 ≤ l2 ∧ l2 ≤ 900) : Ok_ (qj_X13_fits_44 nn l1 l2 h) (QP_ 0 1) := by
  have g := gF_160_24 V
  unfold qj_X13_fits_44
  refine ok_if (fun _ => ok_rP (by omega) (by omega)) (fun c1 => ?_)
  refine ok_if (fun _ => ok_rP (by omega) (by omega)) (fun c2 => ?_)
  refine ok_rem (n := 2) (by omega) ?_; intro v1 e1
  refine ok_rem (n := 2) (by omega) ?_; intro v2 e2
  refine ok_if (fun _ => ok_rP (by omega) (by omega)) (fun c3 => ?_)
  refine ok_sub (by omega) ?_; intro v3 e3
  refine ok_div (n := 2) (by omega) ?_; intro v4 e4
  refine ok_sub (by omega) ?_; intro v5 e5
  refine ok_div (n := 2) (by omega) ?_; intro v6 e6
  refine ok_cP (vf_X13_extendsIt hn V A (by omega)) ?_; intro u8 e8 a8 b8
  exact ok_if (fun _ => ok_rP (by omega) (by omega)) (fun _ => ok_rP (by omega) (by omega))
theorem vf_X13_fits {nn : Nat} (hn : 1000000 ≤ nn) {a1 a2 : Int} {h : ms_M} (V : VS_ h) (A : AC_ h) (r1 : -1 ≤ a1 ∧ a1 ≤ 900 ∧ a1 < 24 + 2 * h 160 24) (r2 : -1 ≤ a2 ∧ a2 ≤ 900) : Ok_ (qf_X13_fits nn a1 a2 h) (QP_ 0 1) := by
  unfold qf_X13_fits
  refine ok_if (fun _ => ?_) (fun _ => ok_rP (by omega) (by omega))
  refine ok_if (fun _ => ?_) (fun _ => ?_)
  · refine ok_cP (vf_X13_isArray hn (by omega) (by omega) V) ?_; intro u13 e13 a13 b13
    refine ok_if (fun _ => vj_X13_fits_44 hn V A r1 r2) (fun _ => ?_)
    exact ok_if (fun _ => vj_X13_fits_44 hn V A r1 r2) (fun _ => ok_rP (by omega) (by omega))
  · refine ok_if (fun _ => ok_rP (by omega) (by omega)) (fun _ => ?_)
    exact ok_if (fun _ => ok_rP (by omega) (by omega)) (fun _ => ok_rP (by omega) (by omega))
theorem vf_X13_goTogether {nn : Nat} (hn : 1000000 ≤ nn) {a1 a2 : Int} {h : ms_M} (V : VS_ h) (A : AC_ h) (r1 : -1 ≤ a1 ∧ a1 ≤ 900 ∧ a1 < 24 + 2 * h 160 24) (r2 : -1 ≤ a2 ∧ a2 ≤ 900 ∧ a2 < 24 + 2 * h 160 24) : Ok_ (qf_X13_goTogether nn a1 a2 h) (QP_ 0 1) := by
  have j : Ok_ (qj_X13_goTogether_10 nn a1 a2 h) (QP_ 0 1) := by
    unfold qj_X13_goTogether_10
    exact ok_if (fun _ => ok_rP (by omega) (by omega)) (fun _ => ok_rP (by omega) (by omega))
  unfold qf_X13_goTogether
  refine ok_if (fun _ => j) (fun _ => ?_)
  refine ok_if (fun _ => ?_) (fun _ => j)
  refine ok_cP (vf_X13_fits hn V A r1 ⟨r2.1, r2.2.1⟩) ?_; intro u3 e3 a3 b3
  refine ok_if (fun _ => ok_rP (by omega) (by omega)) (fun _ => ?_)
  refine ok_cP (vf_X13_fits hn V A r2 ⟨r1.1, r1.2.1⟩) ?_; intro u5 e5 a5 b5
  exact ok_if (fun _ => ok_rP (by omega) (by omega)) (fun _ => ok_rP (by omega) (by omega))
end
section
/-- the reference's heads -/
def MC_ (M : ms_M) : Prop := ∀ m : Nat, (m : Int) < M 160 28 → M 181 m < M 160 24
def CE_ (M : ms_M) : Prop := ∀ c : Nat, (c : Int) < M 160 24 → M 179 c = -1 → M 180 c = 0
def QH_ (r : ms_M) : Prop := VS_ r ∧ HW_ r ∧ MC_ r ∧ (r 160 9 = 0 → AC_ r ∧ r 160 24 ≤ 8)
theorem vw_X13_overrides_90 {nn : Nat} (hn : 1000000 ≤ nn) {l1 l2 : Int} {h : ms_M} (r1 : 0 ≤ l1 ∧ l1 ≤ 799) (r2 : 0 ≤ l2 ∧ l2 ≤ 799) (V : VS_ h) (N : HW_ h) : ∀ (k : Nat) (l3 l4 : Int), (l3 = 0 ∨ (l3 = 1 ∧ h 189 l1.toNat = h 189 l2.toNat)) → (0 ≤ l4 ∧ l4 ≤ 1500) → 1501 - l4 < (k : Int) → Ok_ (qw_X13_overrides_90 nn k l1 l2 l3 l4 h) QV_ := by
  have z1 := N.2 l1.toNat (by omega)
  have z2 := N.2 l2.toNat (by omega)
  have j : ∀ l3 : Int, Ok_ (qj_X13_overrides_148 nn l1 l3 h) QV_ := fun l3 => by
    unfold qj_X13_overrides_148
    refine ok_if (fun _ => ok_rV V) (fun _ => ?_)
    refine ok_rd (by omega) (gA_186 V) ?_; intro v2 e2 a2 b2
    refine ok_cVR (vf_X13_wrong hn (by omega) (by omega) (by omega) (by omega) V) ?_; intro u4 E4 V4 _
    exact ok_rV V4
  intro k
  induction k with
  | zero => intro l3 l4 a b hm; exfalso; omega
  | succ k ih =>
    intro l3 l4 a b hm
    unfold qw_X13_overrides_90
    refine ok_rd (by omega) (gA_189 V) ?_; intro v7 e7 a7 b7
    refine ok_if (fun _ => j l3) (fun C => ?_)
    refine ok_if (fun _ => j l3) (fun C2 => ?_)
    refine ok_rd (by omega) (gA_188 V) ?_; intro v10 e10 a10 b10
    refine ok_add (by omega) ?_; intro v11 e11
    refine ok_rd (by omega) (gA_195 V) ?_; intro v12 e12 a12 b12
    refine ok_rd (by omega) (gA_188 V) ?_; intro v15 e15 a15 b15
    refine ok_add (by omega) ?_; intro v16 e16
    refine ok_rd (by omega) (gA_195 V) ?_; intro v17 e17 a17 b17
    refine ok_if (fun _ => ?_) (fun _ => ?_)
    · refine ok_add (by omega) ?_; intro v18 e18
      exact ih 0 v18 (.inl rfl) (by omega) (by omega)
    · refine ok_add (by omega) ?_; intro v18 e18
      exact ih 1 v18 (by omega) (by omega) (by omega)
theorem vf_X13_overrides {nn : Nat} (hn : 1000000 ≤ nn) {a1 : Int} {h : ms_M} (V : VS_ h) (N : HW_ h) (A : AC_ h) (M : MC_ h) (r : 0 ≤ a1 ∧ a1 < h 160 28) : Ok_ (qf_X13_overrides nn a1 h) QV_ := by
  have g28 := gF_160_28 V
  have g24 := gF_160_24 V
  have mc := M a1.toNat (by omega)
  unfold qf_X13_overrides
  refine ok_rd (by omega) (gA_181 V) ?_; intro v24 e24 a24 b24
  refine ok_add (by omega) ?_; intro v25 e25
  rw [uo_eq (by omega), mx_svs]
  refine ok_rd (by omega) (gA_186 V) ?_; intro v29 e29 a29 b29
  have u1 := A v25 (by omega) (by omega)
  have u2 : upn_ h 419 (uo_ h v25) = -1 := by
    have u1 : (if v25 = -1 then -1 else upn_ h 419 (uo_ h v25)) = -1 := u1
    rw [if_neg (by omega)] at u1; exact u1
  have u3 := uo_b V (c := v25) (by omega)
  have mo : Ok_ (qf_X13_memberOf nn (uo_ h v25) v29 1 h) (QP_ (-1) 799) := by
    unfold qf_X13_memberOf
    exact mo_3 hn V N (by omega) 419 nn _ u2 u3 (by omega)
  refine ok_cP mo ?_; intro u31 e31 a31 b31
  refine ok_if (fun C => ?_) (fun _ => ok_rV V)
  have no : Ok_ (qj_X13_overrides_85 nn a1 u31 h) QV_ := by
    unfold qj_X13_overrides_85
    exact vw_X13_overrides_90 hn (by omega) (by omega) V N nn 0 0 (.inl rfl) (by omega) (by omega)
  refine ok_rd (by omega) (gA_182 V) ?_; intro v33 e33 a33 b33
  refine ok_if (fun _ => no) (fun _ => ?_)
  refine ok_rd (by omega) (gA_182 V) ?_; intro v35 e35 a35 b35
  refine ok_if (fun _ => no) (fun _ => ?_)
  refine ok_rd (by omega) (gA_187 V) ?_; intro v37 e37 a37 b37
  refine ok_rd (by omega) (gA_187 V) ?_; intro v39 e39 a39 b39
  refine ok_if (fun _ => no) (fun _ => ?_)
  refine ok_rd (by omega) (gA_189 V) ?_; intro v41 e41 a41 b41
  refine ok_rd (by omega) (gA_189 V) ?_; intro v43 e43 a43 b43
  refine ok_if (fun _ => no) (fun C5 => ?_)
  exact vw_X13_overrides_90 hn (by omega) (by omega) V N nn 1 0 (by omega) (by omega) (by omega)
theorem mc_fr {M N : ms_M} {L : List Nat} {LF : List (Nat × Nat)} (h : MC_ M) (F : ∀ c k, nw_F L LF false false c k = true → N c k = M c k) (hc : ((nw_F L LF false false 160 28 && nw_F L LF false false 160 24) && (!(L.contains 181) && LF.all (fun q => !(Nat.beq q.1 181)))) = true) : MC_ N := by
  simp only [Bool.and_eq_true] at hc
  obtain ⟨⟨a, b⟩, c, d⟩ := hc
  intro m hm
  rw [F _ _ a] at hm
  rw [F 181 m (nw_ar (by simp only [Bool.and_eq_true]; exact ⟨c, d, rfl, rfl⟩) m), F _ _ b]
  exact h m hm
theorem qh_fr {M N : ms_M} {L : List Nat} {LF : List (Nat × Nat)} (Q : QH_ M) (V : VS_ N) (h0 : N 160 9 = 0 → M 160 9 = 0) (F : ∀ c k, nw_F L LF false false c k = true → N c k = M c k) (h1 : ((!(L.contains 164) && LF.all (fun q => !(Nat.beq q.1 164))) && ((!(L.contains 165) && LF.all (fun q => !(Nat.beq q.1 165))) && ((!(L.contains 188) && LF.all (fun q => !(Nat.beq q.1 188))) && (!(L.contains 189) && LF.all (fun q => !(Nat.beq q.1 189)))))) = true) (h2 : ((nw_F L LF false false 160 28 && nw_F L LF false false 160 24) && (!(L.contains 181) && LF.all (fun q => !(Nat.beq q.1 181)))) = true) (h3 : (!(L.contains 180) && LF.all (fun q => !(Nat.beq q.1 180))) = true) : QH_ N := by
  refine ⟨V, hw_fr Q.1 Q.2.1 F h1, mc_fr Q.2.2.1 F h2, fun z => ?_⟩
  have q := Q.2.2.2 (h0 z)
  simp only [Bool.and_eq_true] at h2 h3
  have e24 : N 160 24 = M 160 24 := F _ _ h2.1.2
  exact ⟨ac_eq q.1 (fun k => F 180 k (nw_ar (by simp only [Bool.and_eq_true]; exact ⟨h3.1, h3.2, rfl, rfl⟩) k)) e24, by rw [e24]; exact q.2⟩
theorem hd_220 {nn : Nat} (hn : 1000000 ≤ nn) : ∀ (k : Nat) (l1 : Int) {h : ms_M}, QH_ h → (0 ≤ l1 ∧ l1 ≤ 800) → 801 - l1 < (k : Int) → Ok_ (qw_X13_heads_220 nn k l1 h) QH_ := by
  intro k
  induction k with
  | zero => intro l1 h Q r hm; exfalso; omega
  | succ k ih =>
    intro l1 h Q r hm
    have V := Q.1
    have g := gF_160_28 V
    unfold qw_X13_heads_220
    refine ok_if (fun _ => ok_ret Q) (fun C => ?_)
    refine ok_if (fun _ => ok_ret Q) (fun C2 => ?_)
    have C2 : h 160 9 = 0 := Decidable.not_not.1 C2
    refine ok_rd (by omega) (gA_182 V) ?_; intro v4 e4 a4 b4
    refine ok_if (fun _ => ?_) (fun _ => ?_)
    · refine ok_add (by omega) ?_; intro v e
      exact ih v Q (by omega) (by omega)
    · refine ok_cV (vf_X13_overrides hn V Q.2.1 (Q.2.2.2 C2).1 Q.2.2.1 (by omega)) ?_; intro u7 E7 V7
      refine ok_add (by omega) ?_; intro v e
      exact ih v (qh_fr Q V7 (fun _ => C2) (fun c k w => (ff_X13_overrides nn) _ E7 c k w) rfl rfl rfl) (by omega) (by omega)
theorem hd_192 {nn : Nat} (hn : 1000000 ≤ nn) : ∀ (k : Nat) (l1 : Int) {h : ms_M}, QH_ h → (0 ≤ l1 ∧ l1 ≤ 800) → 801 - l1 < (k : Int) → Ok_ (qw_X13_heads_192 nn k l1 h) QH_ := by
  intro k
  induction k with
  | zero => intro l1 h Q r hm; exfalso; omega
  | succ k ih =>
    intro l1 h Q r hm
    have V := Q.1
    have g := gF_160_28 V
    unfold qw_X13_heads_192
    refine ok_if (fun _ => hd_220 hn nn 0 Q (by omega) (by omega)) (fun C => ?_)
    refine ok_if (fun _ => hd_220 hn nn 0 Q (by omega) (by omega)) (fun C2 => ?_)
    have C2 : h 160 9 = 0 := Decidable.not_not.1 C2
    refine ok_cV (vf_X13_memberHead hn (by omega) (by omega) V Q.2.1) ?_; intro u15 E15 V15
    refine ok_add (by omega) ?_; intro v e
    exact ih v (qh_fr Q V15 (fun _ => C2) (fun c k w => (ff_X13_memberHead nn) _ E15 c k w) rfl rfl rfl) (by omega) (by omega)
/-- what holds when the classes below l are looked at -/
def HI_ (l : Int) (h : ms_M) : Prop := (VS_ h ∧ HW_ h ∧ MC_ h ∧ CE_ h) ∧ (h 160 9 = 0 → l ≤ 8 ∧ ∀ c : Int, 0 ≤ c → c < l → upn_ h 420 (8 + c) = -1)
theorem upn_b {M : ms_M} {c : Int} (h : 0 ≤ c ∧ c ≤ 7) : upn_ M 420 c = -1 := by
  have u0 : uo_ M 0 = -1 := rfl
  have u1 : uo_ M 1 = 0 := rfl
  have s0 : upn_ M 1 0 = -1 := rfl
  have s1 : upn_ M 2 1 = -1 := rfl
  have s2 : upn_ M 3 c = -1 := by
    by_cases q0 : c = 0
    · rw [q0]; exact upn_e 2 1 s0
    · by_cases q1 : c = 1
      · rw [q1]; exact upn_e 1 2 s1
      · have e : uo_ M c = 1 := by unfold uo_; rw [if_neg q0, if_neg q1, if_neg (by omega)]
        show (if c = -1 then -1 else upn_ M 2 (uo_ M c)) = -1
        rw [if_neg (by omega), e]; exact s1
  exact upn_e 417 3 s2
theorem hi_end {l : Int} {h : ms_M} (I : HI_ l h) (hl : h 160 24 ≤ l) : QH_ h := by
  refine ⟨I.1.1, I.1.2.1, I.1.2.2.1, fun z => ?_⟩
  obtain ⟨a, b⟩ := I.2 z
  refine ⟨fun c h1 h2 => ?_, by omega⟩
  by_cases q : c = -1
  · rw [q]; exact upn_m 420
  · by_cases q2 : c ≤ 7
    · exact upn_b (by omega)
    · have := b (c - 8) (by omega) (by omega)
      rw [show 8 + (c - 8) = c by omega] at this; exact this
theorem hi_w {nn : Nat} {l l2 a b : Int} {h u : ms_M} (hn : 1000000 ≤ nn) (I : HI_ l h) (ra : 1 ≤ a ∧ a ≤ 11) (rb : 0 ≤ b ∧ b ≤ 3001) (e : qf_X13_wrong nn a b h = some u) : HI_ l2 u := by
  have Q := okof (vf_X13_wrong hn (by omega) (by omega) (by omega) (by omega) I.1.1) e
  have F : ∀ c k, _ → u c k = h c k := fun c k w => (ff_X13_wrong nn) _ e c k w
  refine ⟨⟨Q.1, hw_fr I.1.1 I.1.2.1 F rfl, mc_fr I.1.2.2.1 F rfl, fun c hc z => ?_⟩, fun z => absurd z Q.2⟩
  have e24 : u 160 24 = h 160 24 := (ff_X13_wrong nn) _ e 160 24 rfl
  have e179 : u 179 c = h 179 c := (ff_X13_wrong nn) _ e 179 c (nw_ar rfl c)
  have e180 : u 180 c = h 180 c := (ff_X13_wrong nn) _ e 180 c (nw_ar rfl c)
  rw [e180]; rw [e24] at hc; rw [e179] at z
  exact I.1.2.2.2 c hc z
section
variable {nn : Nat} {qk : Int → ms_M → Option ms_M} {l1 : Int}
theorem hd_167 (hn : 1000000 ≤ nn) (hk : ∀ {g : ms_M}, HI_ (l1 + 1) g → Ok_ (qk (l1 + 1) g) QH_) {l2 : Int} {h : ms_M} (I : HI_ l1 h) (h7 : h 160 9 = 0 → l1 ≤ 7) (r : 0 ≤ l1 ∧ l1 < h 160 24) (a : l2 = -1 → upn_ h 420 (8 + l1) = -1) (b : ¬ l2 = -1 → ¬ h 179 l1.toNat = -1) : Ok_ (qj_X13_heads_167 nn qk l1 l2 h) QH_ := by
  have g := gF_160_24 I.1.1
  unfold qj_X13_heads_167
  refine ok_if (fun C => ?_) (fun C => ?_)
  · refine ok_add (by omega) ?_; intro v e
    rw [e]
    refine hk ⟨I.1, fun z => ⟨by have := h7 z; omega, fun c c0 c1 => ?_⟩⟩
    by_cases q : c = l1
    · rw [q]; exact a C
    · exact (I.2 z).2 c c0 (by omega)
  · refine ok_rd (by omega) (gA_179 I.1.1) ?_; intro v21 e21 a21 b21
    have b := b C
    refine ok_cVR (vf_X13_wrong hn (by omega) (by omega) (by omega) (by omega) I.1.1) ?_; intro u23 E23 V23 R23
    refine ok_add (by omega) ?_; intro v e
    rw [e]
    exact hk (hi_w hn I (by omega) (by omega) E23)
theorem hd_139 (hn : 1000000 ≤ nn) (hk : ∀ {g : ms_M}, HI_ (l1 + 1) g → Ok_ (qk (l1 + 1) g) QH_) {h : ms_M} (I : HI_ l1 h) (h7 : h 160 9 = 0 → l1 ≤ 7) (r : 0 ≤ l1 ∧ l1 < h 160 24) : ∀ (f n : Nat), (n : Int) ≤ 410 → (-1 ≤ upn_ h n (8 + l1) ∧ upn_ h n (8 + l1) ≤ 407) → 411 - (n : Int) < (f : Int) → Ok_ (qw_X13_heads_139 nn qk f l1 (upn_ h n (8 + l1)) (n : Int) h) QH_ := by
  have g := gF_160_24 I.1.1
  have two : h 179 l1.toNat = -1 → upn_ h 2 (8 + l1) = -1 := fun z => by
    have u := I.1.2.2.2 l1.toNat (by omega) z
    have e : uo_ h (8 + l1) = 0 := by
      unfold uo_; rw [if_neg (by omega), if_neg (by omega), if_pos (by omega), show 8 + l1 - 8 = l1 by omega]; exact u
    show (if 8 + l1 = -1 then -1 else upn_ h 1 (uo_ h (8 + l1))) = -1
    rw [if_neg (by omega), e]; rfl
  intro f
  induction f with
  | zero => intro n a b hm; exfalso; omega
  | succ f ih =>
    intro n a b hm
    unfold qw_X13_heads_139
    have ea : upn_ h n (8 + l1) = -1 → upn_ h 420 (8 + l1) = -1 := fun z => by
      have := upn_e (420 - n) n z
      rw [show n + (420 - n) = 420 by omega] at this; exact this
    refine ok_add (by omega) ?_; intro v27 e27
    refine ok_if (fun C => ?_) (fun C => ?_)
    · refine hd_167 hn hk I h7 r ea (fun z y => z ?_)
      have := upn_e (n - 2) 2 (two y)
      rw [show 2 + (n - 2) = n by omega] at this; exact this
    · refine ok_if (fun C2 => hd_167 hn hk I h7 r ea (fun z => absurd C2 z)) (fun C2 => ?_)
      rw [uo_eq (by omega), mx_svs]
      refine ok_add (by omega) ?_; intro v30 e30
      have s := upn_s (M := h) n (8 + l1)
      rw [if_neg C2] at s
      rw [e30, ← s]
      exact ih (n + 1) (by omega) (by rw [s]; exact uo_b I.1.1 (by omega)) (by omega)
theorem hd_132 (hn : 1000000 ≤ nn) (hk : ∀ {g : ms_M}, HI_ (l1 + 1) g → Ok_ (qk (l1 + 1) g) QH_) {h : ms_M} (I : HI_ l1 h) (h7 : h 160 9 = 0 → l1 ≤ 7) (r : 0 ≤ l1 ∧ l1 < h 160 24) : Ok_ (qj_X13_heads_132 nn qk l1 h) QH_ := by
  have g := gF_160_24 I.1.1
  unfold qj_X13_heads_132
  refine ok_add (by omega) ?_; intro v33 e33
  rw [e33]
  exact hd_139 hn hk I h7 r nn 0 (by omega) (by show -1 ≤ 8 + l1 ∧ 8 + l1 ≤ 407; omega) (by omega)
theorem hd_111 (hn : 1000000 ≤ nn) (hk : ∀ {g : ms_M}, HI_ (l1 + 1) g → Ok_ (qk (l1 + 1) g) QH_) {h : ms_M} (I : HI_ l1 h) (h7 : h 160 9 = 0 → l1 ≤ 7) (r : 0 ≤ l1 ∧ l1 < h 160 24) : Ok_ (qj_X13_heads_111 nn qk l1 h) QH_ := by
  have g := gF_160_24 I.1.1
  unfold qj_X13_heads_111
  refine ok_rd (by omega) (gA_180 I.1.1) ?_; intro v35 e35 a35 b35
  refine ok_if (fun _ => hd_132 hn hk I h7 r) (fun C => ?_)
  refine ok_rd (by omega) (gA_179 I.1.1) ?_; intro v37 e37 a37 b37
  have n1 : ¬ v37 = -1 := fun z => by
    have := I.1.2.2.2 l1.toNat (by omega) (by rw [← e37]; exact z)
    omega
  refine ok_cVR (vf_X13_wrong hn (by omega) (by omega) (by omega) (by omega) I.1.1) ?_; intro u39 E39 V39 R39
  have e24 : u39 160 24 = h 160 24 := (ff_X13_wrong nn) _ E39 160 24 rfl
  exact hd_132 hn hk (hi_w hn I (by omega) (by omega) E39) (fun z => absurd z R39) (by omega)
theorem hd_83 (hn : 1000000 ≤ nn) (hk : ∀ {g : ms_M}, HI_ (l1 + 1) g → Ok_ (qk (l1 + 1) g) QH_) {h : ms_M} (I : HI_ l1 h) (h7 : h 160 9 = 0 → l1 ≤ 7) (r : 0 ≤ l1 ∧ l1 < h 160 24) : Ok_ (qj_X13_heads_83 nn qk l1 h) QH_ := by
  have g := gF_160_24 I.1.1
  unfold qj_X13_heads_83
  refine ok_rd (by omega) (gA_178 I.1.1) ?_; intro v42 e42 a42 b42
  refine ok_cP (vf_X13_classOf hn (by omega) (by omega) I.1.1 I.1.2.1) ?_; intro u44 e44 a44 b44
  refine ok_add (by omega) ?_; intro v45 e45
  refine ok_if (fun _ => hd_111 hn hk I h7 r) (fun C => ?_)
  refine ok_rd (by omega) (gA_178 I.1.1) ?_; intro v47 e47 a47 b47
  refine ok_cVR (vf_X13_wrong hn (by omega) (by omega) (by omega) (by omega) I.1.1) ?_; intro u49 E49 V49 R49
  have e24 : u49 160 24 = h 160 24 := (ff_X13_wrong nn) _ E49 160 24 rfl
  exact hd_111 hn hk (hi_w hn I (by omega) (by omega) E49) (fun z => absurd z R49) (by omega)
end
theorem hd_50 {nn : Nat} (hn : 1000000 ≤ nn) : ∀ (k : Nat) (l1 : Int) {h : ms_M}, HI_ l1 h → (0 ≤ l1 ∧ l1 ≤ 400) → 401 - l1 < (k : Int) → Ok_ (qw_X13_heads_50 nn k l1 h) QH_ := by
  intro k
  induction k with
  | zero => intro l1 h I r hm; exfalso; omega
  | succ k ih =>
    intro l1 h I r hm
    have g := gF_160_24 I.1.1
    unfold qw_X13_heads_50
    refine ok_if (fun C => hd_192 hn nn 0 (hi_end I C) (by omega) (by omega)) (fun C => ?_)
    refine ok_if (fun C2 => ?_) (fun C2 => ?_)
    · refine hd_192 hn nn 0 ⟨I.1.1, I.1.2.1, I.1.2.2.1, fun z => absurd z C2⟩ (by omega) (by omega)
    · have C2 : h 160 9 = 0 := Decidable.not_not.1 C2
      have i8 := (I.2 C2).1
      have hk : ∀ {g : ms_M}, HI_ (l1 + 1) g → Ok_ (qw_X13_heads_50 nn k (l1 + 1) g) QH_ := fun Ig => ih (l1 + 1) Ig (by omega) (by omega)
      refine ok_if (fun C3 => hd_83 hn hk I (fun _ => by omega) (by omega)) (fun C3 => ?_)
      refine ok_rd (by omega) (gA_178 I.1.1) ?_; intro v54 e54 a54 b54
      refine ok_cVR (vf_X13_wrong hn (by omega) (by omega) (by omega) (by omega) I.1.1) ?_; intro u56 E56 V56 R56
      have e24 : u56 160 24 = h 160 24 := (ff_X13_wrong nn) _ E56 160 24 rfl
      exact hd_83 hn hk (hi_w hn I (by omega) (by omega) E56) (fun z => absurd z R56) (by omega)
theorem hd_2 {nn : Nat} (hn : 1000000 ≤ nn) : ∀ (k : Nat) (l1 : Int) {h : ms_M}, VS_ h → HW_ h → MC_ h → (∀ c : Nat, (c : Int) < l1 → h 179 c = -1 → h 180 c = 0) → (0 ≤ l1 ∧ l1 ≤ 400) → 401 - l1 < (k : Int) → Ok_ (qw_X13_heads_2 nn k l1 h) QH_ := by
  intro k
  induction k with
  | zero => intro l1 h V N M E r hm; exfalso; omega
  | succ k ih =>
    intro l1 h V N M E r hm
    have g := gF_160_24 V
    unfold qw_X13_heads_2
    refine ok_if (fun C => ?_) (fun C => ?_)
    · exact hd_50 hn nn 0 ⟨⟨V, N, M, fun c hc => E c (by omega)⟩, fun _ => ⟨by omega, fun c a b => by omega⟩⟩ (by omega) (by omega)
    · have j : ∀ s0 : Int, (-1 ≤ s0 ∧ s0 ≤ 407) → (h 179 l1.toNat = -1 → s0 = 0) → Ok_ (qj_X13_heads_34 nn (qw_X13_heads_2 nn k) l1 s0 h) QH_ := fun s0 rs hs => by
        unfold qj_X13_heads_34
        refine ok_wA (by omega) ?_; intro h61 E61
        have V61 : VS_ h61 := by rw [E61]; exact wA_180 V (by omega)
        have N61 : HW_ h61 := by rw [E61]; exact hw_up V N rfl
        have f61 : ∀ c k, ¬ (c = 180 ∧ k = l1.toNat) → h61 c k = h c k := fun c k z => by rw [E61]; exact up_n z
        have M61 : MC_ h61 := fun m hm => by
          rw [f61 160 28 (by omega)] at hm
          rw [f61 181 m (by omega), f61 160 24 (by omega)]; exact M m hm
        refine ok_add (by omega) ?_; intro v e
        refine ih v V61 N61 M61 (fun c hc z => ?_) (by omega) (by omega)
        rw [f61 179 c (by omega)] at z
        by_cases q : c = l1.toNat
        · rw [q, E61, up_s]; rw [q] at z; exact hs z
        · rw [f61 180 c (by omega)]; exact E c (by omega) z
      refine ok_rd (by omega) (gA_179 V) ?_; intro v65 e65 a65 b65
      refine ok_if (fun C2 => ?_) (fun C2 => ?_)
      · refine ok_rd (by omega) (gA_179 V) ?_; intro v67 e67 a67 b67
        refine ok_cP (vf_X13_classOf hn (by omega) (by omega) V N) ?_; intro u69 e69 a69 b69
        exact j u69 ⟨a69, b69⟩ (fun z => by omega)
      · exact j 0 (by omega) (fun _ => rfl)
theorem vf_X13_heads {nn : Nat} (hn : 1000000 ≤ nn) {h : ms_M} (V : VS_ h) (N : HW_ h) (M : MC_ h) : Ok_ (qf_X13_heads nn h) QH_ := by
  unfold qf_X13_heads
  exact hd_2 hn nn 0 V N M (fun c hc => by omega) (by omega) (by omega)
end
section
/-- the reference's program, with what heads wants of the rows of members -/
def FX_ (M : ms_M) : Prop := (∀ m : Nat, (m : Int) < 800 → M 188 m + M 189 m ≤ 1500) ∧ MC_ M
def QX_ (r : ms_M) : Prop := VS_ r ∧ EK_ r ∧ PO_ r ∧ FX_ r
def FS_ (h r : ms_M) : Prop := (∀ k, r 181 k = h 181 k ∧ r 188 k = h 188 k ∧ r 189 k = h 189 k) ∧ r 160 28 = h 160 28 ∧ h 160 24 ≤ r 160 24
theorem qx_ts {h r : ms_M} (Q : QX_ h) (V : VS_ r) (T : TS_ h r) (F : FS_ h r) : QX_ r := by
  refine ⟨V, ek_ts Q.2.1 T, po_ts Q.2.2.1 T, fun m hm => ?_, fun m hm => ?_⟩
  · rw [(F.1 m).2.1, (F.1 m).2.2]; exact Q.2.2.2.1 m hm
  · rw [F.2.1] at hm
    have := Q.2.2.2.2 m hm
    have := F.2.2
    rw [(F.1 m).1]; omega
theorem fx_fr {h r : ms_M} {L : List Nat} {LF : List (Nat × Nat)} (F : ∀ c k, nw_F L LF false false c k = true → r c k = h c k) (hc : ((nw_F L LF false false 160 28 && nw_F L LF false false 160 24) && ((!(L.contains 181) && LF.all (fun q => !(Nat.beq q.1 181))) && ((!(L.contains 188) && LF.all (fun q => !(Nat.beq q.1 188))) && (!(L.contains 189) && LF.all (fun q => !(Nat.beq q.1 189)))))) = true) : FS_ h r := by
  simp only [Bool.and_eq_true] at hc
  obtain ⟨⟨a, b⟩, ⟨c1, c2⟩, ⟨d1, d2⟩, e1, e2⟩ := hc
  refine ⟨fun k => ⟨F _ _ (nw_ar ?_ k), F _ _ (nw_ar ?_ k), F _ _ (nw_ar ?_ k)⟩, F _ _ a, by rw [F _ _ b]; exact Int.le_refl _⟩ <;> simp only [Bool.and_eq_true]
  · exact ⟨c1, c2, rfl, rfl⟩
  · exact ⟨d1, d2, rfl, rfl⟩
  · exact ⟨e1, e2, rfl, rfl⟩
theorem wn_fs {h g r : ms_M} (F : FS_ h g) (e24 : g 160 24 = h 160 24) (W : WN_ g r) : WN_ h r := by
  unfold WN_ at W ⊢
  rw [F.2.1, e24] at W
  refine ⟨fun k hk => ?_, W.2⟩
  have := W.1 k hk
  exact ⟨this.1.trans (F.1 k).1, this.2.1.trans (F.1 k).2.1, this.2.2.trans (F.1 k).2.2⟩
theorem wn_25 {nn : Nat} {l1 : Int} {h r : ms_M} (hn : 1000000 ≤ nn) (V : VS_ h) (N : EK_ h) (hl : 0 ≤ l1 ∧ l1 ≤ 1) (x1 : h 160 23 + 1 ≤ h 160 8) (x2 : h 160 22 ≤ 2 * h 160 23 + 30) (x3 : 2 * h 160 39 ≤ h 160 23) (x4 : h 160 28 ≤ 799) (x5 : 1 ≤ h 160 24) (e : qj_X13_member_25 nn l1 h = some r) : WN_ h r := by
  have g := gF_160_23 V
  have g8 := gF_160_8 V
  unfold qj_X13_member_25 at e
  obtain ⟨u98, e98, e⟩ := sv_i e
  have r98 := okof (vf_X13_isWord hn (by omega) (by omega) (by omega) (by omega) V) e98
  have r98 : 0 ≤ u98 ∧ u98 ≤ 1 := r98
  by_cases q : u98 = 0
  · rw [if_pos q] at e
    obtain ⟨u100, e100, e⟩ := sv_i e
    obtain ⟨V1, R1⟩ := okof (vf_X13_type hn V x1 N) e100
    have T : TS_ h u100 := ts_fr (fun c k w => (ff_X13_type nn) _ e100 c k w) rfl
    have F : FS_ h u100 := fx_fr (fun c k w => (ff_X13_type nn) _ e100 c k w) rfl
    have n22 : u100 160 22 = h 160 22 := (ff_X13_type nn) _ e100 160 22 rfl
    have n39 : u100 160 39 = h 160 39 := (ff_X13_type nn) _ e100 160 39 rfl
    have n24 : u100 160 24 = h 160 24 := (ff_X13_type nn) _ e100 160 24 rfl
    have n28 := F.2.1
    have t8 := T.1
    exact wn_fs F n24 (wn_75 hn ⟨hl, r98⟩ V1 (ek_ts N T) (by omega) (by omega) (by omega) (by omega) (by omega) e)
  · rw [if_neg q, xl_eq, xl_eq, xl_eq, xl_eq, xl_eq] at e
    have L2 := lm_ek_isWord N (by omega) e98
    have V1 : VS_ (up_M h 160 45 2) := wF_160_45 V (by omega)
    have V2 : VS_ (up_M (up_M h 160 45 2) 160 47 0) := wF_160_47 V1 (by omega)
    have c2 : up_M (up_M h 160 45 2) 160 47 0 160 23 = h 160 23 := by rw [up_n (by omega), up_n (by omega)]
    have V3 : VS_ (up_M (up_M (up_M h 160 45 2) 160 47 0) 160 46 (up_M (up_M h 160 45 2) 160 47 0 160 23)) := wF_160_46 V2 (by rw [c2]; omega)
    have f3 : ∀ c k, ¬ (c = 160 ∧ (k = 45 ∨ k = 46 ∨ k = 47)) → up_M (up_M (up_M h 160 45 2) 160 47 0) 160 46 (up_M (up_M h 160 45 2) 160 47 0 160 23) c k = h c k := fun c k z => by rw [up_n (by omega), up_n (by omega), up_n (by omega)]
    generalize up_M (up_M (up_M h 160 45 2) 160 47 0) 160 46 (up_M (up_M h 160 45 2) 160 47 0 160 23) = g3 at *
    rw [f3 160 23 (by omega), oq_add_eq (by omega) (by omega) (by omega)] at e
    have V4 : VS_ (up_M g3 160 23 (h 160 23 + 1)) := wF_160_23 V3 (by omega)
    have f4 : ∀ c k, ¬ (c = 160 ∧ (k = 45 ∨ k = 46 ∨ k = 47 ∨ k = 23)) → up_M g3 160 23 (h 160 23 + 1) c k = h c k := fun c k z => by rw [up_n (by omega)]; exact f3 c k (by omega)
    have c4 : up_M g3 160 23 (h 160 23 + 1) 160 23 = h 160 23 + 1 := up_s
    generalize up_M g3 160 23 (h 160 23 + 1) = g4 at *
    have T : TS_ h g4 := ⟨f4 _ _ (by omega), fun k => ⟨f4 _ _ (by omega), f4 _ _ (by omega), f4 _ _ (by omega), f4 _ _ (by omega)⟩⟩
    have n24 := f4 160 24 (by omega)
    have F : FS_ h g4 := ⟨fun k => ⟨f4 _ _ (by omega), f4 _ _ (by omega), f4 _ _ (by omega)⟩, f4 _ _ (by omega), by omega⟩
    have n22 := f4 160 22 (by omega)
    have n39 := f4 160 39 (by omega)
    have n28 := F.2.1
    have t8 := T.1
    exact wn_fs F n24 (wn_75 hn ⟨hl, r98⟩ V4 (ek_ts N T) (by omega) (by omega) (by omega) (by omega) (by omega) e)
theorem wn_mb {nn : Nat} {h r : ms_M} (hn : 1000000 ≤ nn) (V : VS_ h) (N : EK_ h) (x1 : h 160 23 + 1 ≤ h 160 8) (x2 : h 160 22 ≤ 2 * h 160 23 + 30) (x3 : 2 * h 160 39 ≤ h 160 23) (x4 : h 160 28 ≤ 799) (x5 : 1 ≤ h 160 24) (e : qf_X13_member nn h = some r) : WN_ h r := by
  have g := gF_160_23 V
  have g8 := gF_160_8 V
  unfold qf_X13_member at e
  obtain ⟨u, e1, e⟩ := sv_i e
  have L := lm_ek_isWord N (by omega) e1
  have ru := okof (vf_X13_isWord hn (by omega) (by omega) (by omega) (by omega) V) e1
  have ru : 0 ≤ u ∧ u ≤ 1 := ru
  by_cases q : u = 0
  · rw [if_pos q] at e
    exact wn_25 hn V N ru x1 x2 x3 x4 x5 e
  · rw [if_neg q, xl_eq, xl_eq, oq_add_eq (by omega) (by omega) (by omega)] at e
    have V4 : VS_ (up_M h 160 23 (h 160 23 + 1)) := wF_160_23 V (by omega)
    have f4 : ∀ c k, ¬ (c = 160 ∧ k = 23) → up_M h 160 23 (h 160 23 + 1) c k = h c k := fun c k z => up_n z
    have c4 : up_M h 160 23 (h 160 23 + 1) 160 23 = h 160 23 + 1 := up_s
    generalize up_M h 160 23 (h 160 23 + 1) = g4 at *
    have T : TS_ h g4 := ⟨f4 _ _ (by omega), fun k => ⟨f4 _ _ (by omega), f4 _ _ (by omega), f4 _ _ (by omega), f4 _ _ (by omega)⟩⟩
    have n24 := f4 160 24 (by omega)
    have F : FS_ h g4 := ⟨fun k => ⟨f4 _ _ (by omega), f4 _ _ (by omega), f4 _ _ (by omega)⟩, f4 _ _ (by omega), by omega⟩
    have n22 := f4 160 22 (by omega)
    have n39 := f4 160 39 (by omega)
    have n28 := F.2.1
    have t8 := T.1
    exact wn_fs F n24 (wn_25 hn V4 (ek_ts N T) ru (by omega) (by omega) (by omega) (by omega) (by omega) e)
theorem qx_mb {h r : ms_M} (Q : QX_ h) (V : VS_ r) (T : TS_ h r) (W : WN_ h r) (m1 : h 160 28 ≤ r 160 28 ∧ r 160 28 ≤ h 160 28 + 1) (e24 : r 160 24 = h 160 24) : QX_ r := by
  have g := gF_160_28 Q.1
  refine ⟨V, ek_ts Q.2.1 T, po_ts Q.2.2.1 T, fun m hm => ?_, fun m hm => ?_⟩
  · by_cases q : m = (h 160 28).toNat
    · rw [q]; exact W.2.2
    · have := W.1 m q
      rw [this.2.1, this.2.2]; exact Q.2.2.2.1 m hm
  · rw [e24]
    by_cases q : m = (h 160 28).toNat
    · rw [q, W.2.1]; omega
    · rw [(W.1 m q).1]; exact Q.2.2.2.2 m (by omega)
section
variable {nn : Nat} {qk : ms_M → Option ms_M} {c0 : Int}
theorem px_143 (hn : 1000000 ≤ nn) (hk : ∀ {g : ms_M}, QX_ g → PC_ 0 g → g 160 9 = 0 → c0 < g 160 23 → Ok_ (qk g) QX_) {h : ms_M} (Q : QX_ h) (K : PC_ (-1) h) (h0 : c0 ≤ h 160 23) : Ok_ (qj_X13_program_143 nn qk h) QX_ := by
  have g := gF_160_23 Q.1
  unfold qj_X13_program_143
  refine ok_cVR (vf_X13_sign_ hn (by omega) (by omega) Q.1 K.1 Q.2.1) ?_; intro u2 E2 V2 R2
  have T : TS_ h u2 := ts_fr (fun c k w => (ff_X13_sign_ nn) _ E2 c k w) rfl
  have Q2 := qx_ts Q V2 T (fx_fr (fun c k w => (ff_X13_sign_ nn) _ E2 c k w) rfl)
  have n22 : u2 160 22 = h 160 22 := (ff_X13_sign_ nn) _ E2 160 22 rfl
  have n39 : u2 160 39 = h 160 39 := (ff_X13_sign_ nn) _ E2 160 39 rfl
  have n28 : u2 160 28 = h 160 28 := (ff_X13_sign_ nn) _ E2 160 28 rfl
  have n24 : u2 160 24 = h 160 24 := (ff_X13_sign_ nn) _ E2 160 24 rfl
  have t8 := T.1
  refine ok_if (fun C => ok_ret Q2) (fun C => ?_)
  have C : u2 160 9 = 0 := Decidable.not_not.1 C
  refine ok_rd (by omega) (gA_163 V2) ?_; intro v6 e6 a6 b6
  refine ok_if (fun C2 => ?_) (fun _ => ok_ret Q2)
  obtain ⟨k1, k2, k3⟩ := K
  have k3 := k3 (by omega)
  have p := po_le Q.2.2.1 (a := h 160 23) (b := h 160 23 + 1) (by omega) (by omega) (by omega)
  have f : u2 164 (u2 160 23).toNat = h 164 (h 160 23 + 1).toNat := by rw [(T.2 _).2.1, show u2 160 23 = h 160 23 + 1 by omega]
  exact hk Q2 ⟨by omega, by omega, fun _ => by omega⟩ C (by omega)
theorem px_116 (hn : 1000000 ≤ nn) (hk : ∀ {g : ms_M}, QX_ g → PC_ 0 g → g 160 9 = 0 → c0 < g 160 23 → Ok_ (qk g) QX_) : ∀ (f : Nat) {h : ms_M}, QX_ h → PC_ (-1) h → 1 ≤ h 160 24 → c0 ≤ h 160 23 → 12 * (3001 - h 160 23) - h 160 9 < (f : Int) → Ok_ (qw_X13_program_116 nn qk f h) QX_ := by
  intro f
  induction f with
  | zero => intro h Q K h1 h0 hm; have := gF_160_23 Q.1; have := gF_160_9 Q.1; exfalso; omega
  | succ f ih =>
    intro h Q K h1 h0 hm
    have g := gF_160_23 Q.1
    have g9 := gF_160_9 Q.1
    have g8 := gF_160_8 Q.1
    unfold qw_X13_program_116
    refine ok_if (fun C => px_143 hn hk Q K h0) (fun C => ?_)
    have C : h 160 9 = 0 := Decidable.not_not.1 C
    refine ok_cP (vf_X13_isSign hn (by omega) (by omega) (by omega) (by omega) Q.1) ?_; intro u12 e12 a12 b12
    refine ok_if (fun _ => px_143 hn hk Q K h0) (fun _ => ?_)
    obtain ⟨k1, k2, k3⟩ := K
    have k3 := k3 C
    have gf := gA_164 Q.1 (h 160 23).toNat (by omega)
    refine ok_cVR (vf_X13_member hn Q.1 k1 C (by omega) k2 (by omega) h1 Q.2.1) ?_; intro u14 E14 V14 R14
    have T : TS_ h u14 := ts_fr (fun c k w => (ff_X13_member nn) _ E14 c k w) rfl
    have n24 : u14 160 24 = h 160 24 := (ff_X13_member nn) _ E14 160 24 rfl
    have t8 := T.1
    have g99 := gF_160_9 V14
    refine ih (qx_mb Q V14 T (wn_mb hn Q.1 Q.2.1 k1 (by omega) k2 (by omega) h1 E14) (by omega) n24) ⟨by omega, by omega, fun z => ?_⟩ (by omega) (by omega) (by omega)
    have B := mb_4 hn Q.1 Q.2.1 Q.2.2.1 k1 (by omega) k2 (by omega) h1 C E14 z
    have f : u14 164 (u14 160 23).toNat = h 164 (u14 160 23).toNat := (T.2 _).2.1
    rw [f]
    omega
theorem px_72 (hn : 1000000 ≤ nn) (hk : ∀ {g : ms_M}, QX_ g → PC_ 0 g → g 160 9 = 0 → c0 < g 160 23 → Ok_ (qk g) QX_) {l1 l2 : Int} (r1 : 0 ≤ l1 ∧ l1 ≤ 3000) (r2 : -1 ≤ l2 ∧ l2 ≤ 3000) {h : ms_M} (Q : QX_ h) (K : PC_ 7 h) (h0 : c0 ≤ h 160 23) : Ok_ (qj_X13_program_72 nn qk l1 l2 h) QX_ := by
  have g := gF_160_23 Q.1
  have g8 := gF_160_8 Q.1
  have g24 := gF_160_24 Q.1
  unfold qj_X13_program_72
  refine ok_if (fun C => ?_) (fun _ => ok_ret Q)
  obtain ⟨k1, k2, k3⟩ := K
  have k3 := k3 C
  have gf := gA_164 Q.1 (h 160 23).toNat (by omega)
  refine ok_wA (by omega) ?_; intro h20 E20
  have V20 : VS_ h20 := by rw [E20]; exact wA_178 Q.1 (by omega)
  have x20 : ∀ k, h20 160 k = h 160 k := fun k => by rw [E20]; exact up_n (by omega)
  have T20 : TS_ h h20 := by rw [E20]; exact ts_up (by omega)
  refine ok_wA (by rw [x20]; omega) ?_; intro h23 E23
  have V23 : VS_ h23 := by rw [E23]; exact wA_179 V20 (by omega)
  have x23 : ∀ k, h23 160 k = h 160 k := fun k => by rw [E23, up_n (by omega)]; exact x20 k
  have T23 : TS_ h h23 := ts_t T20 (by rw [E23]; exact ts_up (by omega))
  rw [x23 24]
  refine ok_add (by omega) ?_; intro v25 e25
  refine ok_xl ?_; intro h26 E26
  have V26 : VS_ h26 := by rw [E26]; exact wF_160_24 V23 (by omega)
  have x26 : ∀ k, k ≠ 24 → h26 160 k = h 160 k := fun k z => by rw [E26, up_n (by omega)]; exact x23 k
  have c26 : h26 160 24 = h 160 24 + 1 := by rw [E26, up_s]; omega
  have T26 : TS_ h h26 := ts_t T23 (by rw [E26]; exact ts_up (by omega))
  have Q26 := qx_ts Q V26 T26 ⟨fun k => ⟨by rw [E26, up_n (by omega), E23, up_n (by omega), E20, up_n (by omega)], by rw [E26, up_n (by omega), E23, up_n (by omega), E20, up_n (by omega)], by rw [E26, up_n (by omega), E23, up_n (by omega), E20, up_n (by omega)]⟩, x26 28 (by decide), by omega⟩
  have y8 := x26 8 (by decide)
  have y9 := x26 9 (by decide)
  have y22 := x26 22 (by decide)
  have y23 := x26 23 (by decide)
  have y28 := x26 28 (by decide)
  have y39 := x26 39 (by decide)
  refine ok_cVR (vf_X13_sign_ hn (by omega) (by omega) V26 (by omega) Q26.2.1) ?_; intro u28 E28 V28 R28
  have T28 : TS_ h26 u28 := ts_fr (fun c k w => (ff_X13_sign_ nn) _ E28 c k w) rfl
  have n22 : u28 160 22 = h26 160 22 := (ff_X13_sign_ nn) _ E28 160 22 rfl
  have n39 : u28 160 39 = h26 160 39 := (ff_X13_sign_ nn) _ E28 160 39 rfl
  have n28 : u28 160 28 = h26 160 28 := (ff_X13_sign_ nn) _ E28 160 28 rfl
  have n24 : u28 160 24 = h26 160 24 := (ff_X13_sign_ nn) _ E28 160 24 rfl
  have t8 := T28.1
  have T := ts_t T26 T28
  have Q28 := qx_ts Q26 V28 T28 (fx_fr (fun c k w => (ff_X13_sign_ nn) _ E28 c k w) rfl)
  have g28 := gF_160_23 V28
  have g29 := gF_160_9 V28
  refine px_116 hn hk nn Q28 ⟨by omega, by omega, fun z => ?_⟩ (by omega) (by omega) (by omega)
  have p := po_le Q.2.2.1 (a := h 160 23) (b := h 160 23 + 1) (by omega) (by omega) (by omega)
  have f : u28 164 (u28 160 23).toNat = h 164 (h 160 23 + 1).toNat := by rw [(T.2 _).2.1, show u28 160 23 = h 160 23 + 1 by omega]
  rw [f]
  omega
end
theorem px_25 {nn : Nat} (hn : 1000000 ≤ nn) : ∀ (f : Nat) {h : ms_M}, QX_ h → PC_ 0 h → h 160 9 = 0 → 3001 - h 160 23 < (f : Int) → Ok_ (qw_X13_program_25 nn f h) QX_ := by
  intro f
  induction f with
  | zero => intro h Q K h0 hm; have := gF_160_23 Q.1; exfalso; omega
  | succ f ih =>
    intro h Q K h0 hm
    have g := gF_160_23 Q.1
    have g8 := gF_160_8 Q.1
    have hk : ∀ {g : ms_M}, QX_ g → PC_ 0 g → g 160 9 = 0 → h 160 23 < g 160 23 → Ok_ (qw_X13_program_25 nn f g) QX_ := fun Qg Kg zg hg => ih Qg Kg zg (by omega)
    obtain ⟨k1, k2, k3⟩ := K
    have k3 := k3 h0
    unfold qw_X13_program_25
    refine ok_cVR (vf_X13_word hn (by omega) (by omega) Q.1 k1 Q.2.1) ?_; intro u31 E31 V31 R31
    have T31 : TS_ h u31 := ts_fr (fun c k w => (ff_X13_word nn) _ E31 c k w) rfl
    have a22 : u31 160 22 = h 160 22 := (ff_X13_word nn) _ E31 160 22 rfl
    have a39 : u31 160 39 = h 160 39 := (ff_X13_word nn) _ E31 160 39 rfl
    have a28 : u31 160 28 = h 160 28 := (ff_X13_word nn) _ E31 160 28 rfl
    have a24 : u31 160 24 = h 160 24 := (ff_X13_word nn) _ E31 160 24 rfl
    have t31 := T31.1
    have Q31 := qx_ts Q V31 T31 (fx_fr (fun c k w => (ff_X13_word nn) _ E31 c k w) rfl)
    refine ok_cIR (vf_X13_name hn V31 (by omega) Q31.2.1) ?_; intro u33 E33 V33 a33 b33 R33
    have T33 : TS_ u31 u33.2 := ts_fr (fun c k w => (ff_X13_name nn) _ E33 c k w) rfl
    have b22 : u33.2 160 22 = u31 160 22 := (ff_X13_name nn) _ E33 160 22 rfl
    have b39 : u33.2 160 39 = u31 160 39 := (ff_X13_name nn) _ E33 160 39 rfl
    have b28 : u33.2 160 28 = u31 160 28 := (ff_X13_name nn) _ E33 160 28 rfl
    have b24 : u33.2 160 24 = u31 160 24 := (ff_X13_name nn) _ E33 160 24 rfl
    have t33 := T33.1
    have T := ts_t T31 T33
    have Q33 := qx_ts Q31 V33 T33 (fx_fr (fun c k w => (ff_X13_name nn) _ E33 c k w) rfl)
    have dead : ∀ {l2 : Int}, (-1 ≤ l2 ∧ l2 ≤ 3000) → ¬ u33.2 160 9 = 0 → Ok_ (qj_X13_program_72 nn (qw_X13_program_25 nn f) u33.1 l2 u33.2) QX_ := fun rl z => px_72 hn hk ⟨a33, b33⟩ rl Q33 ⟨by omega, by omega, fun w => absurd w z⟩ (by omega)
    refine ok_if (fun C => dead (by omega) C) (fun C => ?_)
    have C : u33.2 160 9 = 0 := Decidable.not_not.1 C
    have f31 : u31 160 9 = 0 := by omega
    have w31 := wd_k hn Q.1 Q.2.1 k1 E31 f31
    have n33 := nm_k hn V31 Q31.2.1 (by omega) E33 C
    rw [(T31.2 _).1, show u31 160 23 = h 160 23 + 1 by omega] at n33
    have w5 := Q.2.2.1.2.1 (h 160 23).toNat (by omega) w31.1 w31.2
    have p1 := po_two Q.2.2.1 (a := h 160 23) (by omega) (by omega) (by omega) (by omega)
    have p2 := po_le Q.2.2.1 (a := h 160 23 + 1) (b := h 160 23 + 2) (by omega) (by omega) (by omega)
    have c33 : u33.2 160 23 = h 160 23 + 2 := by omega
    have K33 : PC_ 7 u33.2 := by
      refine ⟨by omega, by omega, fun _ => ?_⟩
      have f : u33.2 164 (u33.2 160 23).toNat = h 164 (h 160 23 + 2).toNat := by rw [(T.2 _).2.1, c33]
      rw [f]; omega
    refine ok_cP (vf_X13_isWord hn (by omega) (by omega) (by omega) (by omega) V33) ?_; intro u37 e37 a37 b37
    have L37 := lm_ek_isWord Q33.2.1 (by omega) e37
    refine ok_if (fun _ => px_72 hn hk ⟨a33, b33⟩ (by omega) Q33 K33 (by omega)) (fun C2 => ?_)
    refine ok_add (by omega) ?_; intro v39 e39
    refine ok_xl ?_; intro h40 E40
    have V40 : VS_ h40 := by rw [E40]; exact wF_160_23 V33 (by omega)
    have T40 : TS_ u33.2 h40 := by rw [E40]; exact ts_up (by omega)
    have x40 : ∀ k, k ≠ 23 → h40 160 k = u33.2 160 k := fun k z => by rw [E40]; exact up_n (by omega)
    have c40 : h40 160 23 = h 160 23 + 3 := by rw [E40, up_s]; omega
    have Q40 := qx_ts Q33 V40 T40 ⟨fun k => ⟨by rw [E40, up_n (by omega)], by rw [E40, up_n (by omega)], by rw [E40, up_n (by omega)]⟩, x40 28 (by decide), by rw [x40 24 (by decide)]; exact Int.le_refl _⟩
    have t40 := T40.1
    have d22 := x40 22 (by decide)
    have d39 := x40 39 (by decide)
    have d28 := x40 28 (by decide)
    have d24 := x40 24 (by decide)
    refine ok_cIR (vf_X13_name hn V40 (by omega) Q40.2.1) ?_; intro u42 E42 V42 a42 b42 R42
    have T42 : TS_ h40 u42.2 := ts_fr (fun c k w => (ff_X13_name nn) _ E42 c k w) rfl
    have e22 : u42.2 160 22 = h40 160 22 := (ff_X13_name nn) _ E42 160 22 rfl
    have e39 : u42.2 160 39 = h40 160 39 := (ff_X13_name nn) _ E42 160 39 rfl
    have e28 : u42.2 160 28 = h40 160 28 := (ff_X13_name nn) _ E42 160 28 rfl
    have e24 : u42.2 160 24 = h40 160 24 := (ff_X13_name nn) _ E42 160 24 rfl
    have t42 := T42.1
    have Q42 := qx_ts Q40 V42 T42 (fx_fr (fun c k w => (ff_X13_name nn) _ E42 c k w) rfl)
    have TT := ts_t (ts_t T T40) T42
    refine px_72 hn hk ⟨a33, b33⟩ (by omega) Q42 ⟨by omega, by omega, fun _ => ?_⟩ (by omega)
    have p3 := po_le Q.2.2.1 (a := h 160 23 + 2) (b := u42.2 160 23) (by omega) (by omega) (by omega)
    have f : u42.2 164 (u42.2 160 23).toNat = h 164 (u42.2 160 23).toNat := (TT.2 _).2.1
    rw [f]; omega
theorem vx_X13_program {nn : Nat} (hn : 1000000 ≤ nn) {h : ms_M} (Q : QT_ h) (W : ∀ m : Nat, (m : Int) < 800 → h 188 m + h 189 m ≤ 1500) (h0 : h 160 9 = 0) : Ok_ (qf_X13_program nn h) QX_ := by
  unfold qf_X13_program
  refine ok_xl ?_; intro h45 E45
  have V45 : VS_ h45 := by rw [E45]; exact wF_160_24 Q.1 (by omega)
  refine ok_xl ?_; intro h46 E46
  have V46 : VS_ h46 := by rw [E46]; exact wF_160_28 V45 (by omega)
  refine ok_xl ?_; intro h47 E47
  have V47 : VS_ h47 := by rw [E47]; exact wF_160_39 V46 (by omega)
  refine ok_xl ?_; intro h48 E48
  have V48 : VS_ h48 := by rw [E48]; exact wF_160_22 V47 (by omega)
  refine ok_xl ?_; intro h49 E49
  have V49 : VS_ h49 := by rw [E49]; exact wF_160_23 V48 (by omega)
  have T : TS_ h h49 := by
    rw [E49, E48, E47, E46, E45]
    exact ts_t (ts_t (ts_t (ts_t (ts_up (by omega)) (ts_up (by omega))) (ts_up (by omega))) (ts_up (by omega))) (ts_up (by omega))
  have s24 : h49 160 24 = 0 := by rw [E49, up_n (by omega), E48, up_n (by omega), E47, up_n (by omega), E46, up_n (by omega), E45, up_s]
  have s28 : h49 160 28 = 0 := by rw [E49, up_n (by omega), E48, up_n (by omega), E47, up_n (by omega), E46, up_s]
  have s39 : h49 160 39 = 0 := by rw [E49, up_n (by omega), E48, up_n (by omega), E47, up_s]
  have s22 : h49 160 22 = 0 := by rw [E49, up_n (by omega), E48, up_s]
  have s23 : h49 160 23 = 0 := by rw [E49, up_s]
  have s9 : h49 160 9 = 0 := by rw [E49, up_n (by omega), E48, up_n (by omega), E47, up_n (by omega), E46, up_n (by omega), E45, up_n (by omega)]; exact h0
  have t8 := T.1
  have n1 := Q.2.1.1
  have gf := gA_164 V49 0 (by decide)
  refine px_25 hn nn ⟨V49, ek_ts Q.2.1 T, po_ts Q.2.2 T, fun m hm => by rw [E49, up_n (by omega), up_n (by omega), E48, up_n (by omega), up_n (by omega), E47, up_n (by omega), up_n (by omega), E46, up_n (by omega), up_n (by omega), E45, up_n (by omega), up_n (by omega)]; exact W m hm, fun m hm => by rw [s28] at hm; omega⟩ ⟨by omega, by omega, fun _ => ?_⟩ s9 (by omega)
  rw [s23]
  exact ⟨by omega, by rw [s28]; exact gf.1, by rw [s24]; exact gf.1⟩
end
section
section
variable {nn : Nat} {Q : Int × ms_M → Prop}
theorem qh_of {h : ms_M} (X : QX_ h) (z : ¬ h 160 9 = 0) : QH_ h := ⟨X.1, ⟨X.2.2.1.2.2, X.2.2.2.1⟩, X.2.2.2.2, fun y => absurd y z⟩
/-- the reference's compile as far as heads; hR: what comes behind -/
theorem cf_86 (hn : 1000000 ≤ nn) (hR : ∀ {g : ms_M}, QH_ g → EK_ g → PO_ g → Ok_ (qj_X13_compile_97 nn g) Q) {h : ms_M} (X : QX_ h) : Ok_ (qj_X13_compile_86 nn h) Q := by
  unfold qj_X13_compile_86
  refine ok_if (fun C => hR (qh_of X C) X.2.1 X.2.2.1) (fun C => ?_)
  obtain ⟨u, eu, H⟩ := vf_X13_heads hn X.1 ⟨X.2.2.1.2.2, X.2.2.2.1⟩ X.2.2.2.2
  rw [eu, mx_svs]
  have T : TS_ h u := ts_fr (fun c k w => (ff_X13_heads nn) _ eu c k w) rfl
  exact hR H (ek_ts X.2.1 T) (po_ts X.2.2.1 T)
theorem cf_43 (hn : 1000000 ≤ nn) (hR : ∀ {g : ms_M}, QH_ g → EK_ g → PO_ g → Ok_ (qj_X13_compile_97 nn g) Q) {l1 : Int} (r1 : 0 ≤ l1 ∧ l1 ≤ 3000) : ∀ (k : Nat) (l2 : Int) {h : ms_M}, VS_ h → HW_ h → h 160 9 = 0 → (0 ≤ l2 ∧ l2 ≤ 3000) → 3001 - l2 < (k : Int) → Ok_ (qw_X13_compile_43 nn k l1 l2 h) Q := by
  intro k
  induction k with
  | zero => intro l2 h V W z r hm; exfalso; omega
  | succ k ih =>
    intro l2 h V W z r hm
    unfold qw_X13_compile_43
    refine ok_if (fun C => ?_) (fun C => ?_)
    · refine ok_xl ?_; intro h40 E40
      have V40 : VS_ h40 := by rw [E40]; exact wF_160_3 V (by omega)
      have W40 : HW_ h40 := by rw [E40]; exact hw_up V W rfl
      have z40 : h40 160 9 = 0 := by rw [E40, up_n (by omega)]; exact z
      obtain ⟨u, eu, T⟩ := tz_ok hn V40 W40.1
      rw [eu, mx_svs]
      have zu : u 160 9 = h40 160 9 := (ff_X13_tokenize nn) _ eu 160 9 rfl
      have w1 : ∀ m, u 188 m = h40 188 m := fun m => (ff_X13_tokenize nn) _ eu 188 m (nw_ar rfl m)
      have w2 : ∀ m, u 189 m = h40 189 m := fun m => (ff_X13_tokenize nn) _ eu 189 m (nw_ar rfl m)
      refine ok_if (fun C2 => absurd (by omega) C2) (fun C2 => ?_)
      obtain ⟨v, ev, X⟩ := vx_X13_program hn T (fun m hm => by rw [w1, w2]; exact W40.2 m hm) (by omega)
      rw [ev, mx_svs]
      exact cf_86 hn hR X
    · refine ok_rd (by omega) (gA_161 V) ?_; intro v49 e49 a49 b49
      refine ok_wA (by omega) ?_; intro h50 E50
      have V50 : VS_ h50 := by rw [E50]; exact wA_162 V (by omega)
      have W50 : HW_ h50 := by rw [E50]; exact hw_up V W rfl
      have z50 : h50 160 9 = 0 := by rw [E50, up_n (by omega)]; exact z
      refine ok_add (by omega) ?_; intro v51 e51
      exact ih v51 V50 W50 z50 (by omega) (by omega)
theorem cf_compile (hn : 1000000 ≤ nn) (hR : ∀ {g : ms_M}, QH_ g → EK_ g → PO_ g → Ok_ (qj_X13_compile_97 nn g) Q) (hF : ∀ {g : ms_M}, VS_ g → HW_ g → Q (-1, g)) {h : ms_M} (V : VS_ h) (W : HW_ h) : Ok_ (qf_X13_compile nn h) Q := by
  have g := gF_160_1 V
  unfold qf_X13_compile
  refine ok_xl ?_; intro h54 E54
  have V54 : VS_ h54 := by rw [E54]; exact wF_160_1 V (by omega)
  have W54 : HW_ h54 := by rw [E54]; exact hw_up V W rfl
  refine ok_xl ?_; intro h55 E55
  have V55 : VS_ h55 := by rw [E55]; exact wF_160_9 V54 (by omega)
  have W55 : HW_ h55 := by rw [E55]; exact hw_up V54 W54 rfl
  have z55 : h55 160 9 = 0 := by rw [E55, up_s]
  refine ok_xl ?_; intro h56 E56
  have V56 : VS_ h56 := by rw [E56]; exact wF_160_10 V55 (by omega)
  have W56 : HW_ h56 := by rw [E56]; exact hw_up V55 W55 rfl
  have z56 : h56 160 9 = 0 := by rw [E56, up_n (by omega)]; exact z55
  refine ok_if (fun C => cf_43 hn hR (by omega) nn 0 V56 W56 z56 (by omega) (by omega)) (fun C => ?_)
  refine ok_xl ?_; intro h57 E57
  have V57 : VS_ h57 := by rw [E57]; exact wF_160_9 V56 (by omega)
  have W57 : HW_ h57 := by rw [E57]; exact hw_up V56 W56 rfl
  refine ok_xl ?_; intro h58 E58
  have V58 : VS_ h58 := by rw [E58]; exact wF_160_10 V57 (by omega)
  have W58 : HW_ h58 := by rw [E58]; exact hw_up V57 W57 rfl
  exact ok_ret (hF V58 W58)
end
end
section
section
variable {m : Int} {h r : ms_M} {d d2 a a2 b b2 e : Int} {F G : Nat → Int → Int → Int → Int → Prop}
/-- how deep an expression of nest d goes: m = 0 in make's words, m = 1 in the rules' -/
def RE (m d : Int) : Int := if m = 0 then 35 * (40 - d) + 1 else 39 * (40 - d) + 1
theorem re_1 (hd : d ≤ 40) : 1 ≤ RE m d := by unfold RE; split <;> omega
theorem re_s (hm : m = 0 ∨ m = 1) : RE m d = RE m (d + 1) + 35 + 4 * m := by unfold RE; split <;> omega
theorem re_le (hd : d ≤ d2) : RE m d2 ≤ RE m d := by unfold RE; split <;> omega
/-- an expression's node e: it and all below it lie in [a, b); d: how deep -/
def t0 (m : Int) (h : ms_M) (F : Nat → Int → Int → Int → Int → Prop) (d a b e : Int) : Prop :=
  (0 ≤ a ∧ a ≤ e ∧ e < b ∧ 1 ≤ d) ∧
  ((20 ≤ h 167 e.toNat ∧ h 167 e.toNat ≤ 25) ∨ (h 167 e.toNat = 27) ∨
   ((h 167 e.toNat = 26 ∧ 4 ≤ d) ∧ F 1 (d - 3 - m) (e + 1) b (h 171 e.toNat)) ∨
   ((h 167 e.toNat = 28 ∨ (h 167 e.toNat = 29 ∧ 0 ≤ (h 172 e.toNat) ∧ (h 172 e.toNat) ≤ 3001)) ∧ F 0 (d - 2 - m) (e + 1) b (h 170 e.toNat)) ∨
   ((h 167 e.toNat = 30 ∧ 0 ≤ (h 172 e.toNat) ∧ (h 172 e.toNat) ≤ 3001) ∧ F 0 d a e (h 170 e.toNat)) ∨
   ((h 167 e.toNat = 31 ∧ 4 ≤ d ∧ 0 ≤ (h 172 e.toNat) ∧ (h 172 e.toNat) ≤ 3001) ∧ F 0 d a e (h 170 e.toNat) ∧ F 1 (d - 3 - 2 * m) (e + 1) b (h 171 e.toNat)) ∨
   ((h 167 e.toNat = 32 ∨ h 167 e.toNat = 37) ∧ F 0 d a e (h 170 e.toNat) ∧ F 0 (d - 3) (e + 1) b (h 171 e.toNat)) ∨
   ((33 ≤ h 167 e.toNat ∧ h 167 e.toNat ≤ 36) ∧ F 0 (d - 2 - 2 * m) (e + 1) b (h 170 e.toNat)) ∨
   (h 167 e.toNat = 38 ∧ F 0 d a e (h 170 e.toNat)) ∨
   (h 167 e.toNat = 39 ∧ F 0 (d - 2 - 2 * m) a e (h 170 e.toNat) ∧ ∃ y, (e < y ∧ y ≤ b) ∧ F 0 (d - 2 - 2 * m) (e + 1) y (h 171 e.toNat) ∧ F 0 (d - 2 - 2 * m) y b (h 172 e.toNat)))
/-- a row of arguments -/
def t1 (h : ms_M) (F : Nat → Int → Int → Int → Int → Prop) (d a b e : Int) : Prop :=
  e = -1 ∨ ((0 ≤ a ∧ a ≤ e ∧ e < b) ∧ F 0 d a e (h 170 e.toNat) ∧ F 1 d (e + 1) b (h 173 e.toNat))
/-- a statement's node e: all below it lies in [e + 1, b) -/
def t2 (m : Int) (h : ms_M) (F : Nat → Int → Int → Int → Int → Prop) (d a b e : Int) : Prop :=
  (0 ≤ a ∧ a ≤ e ∧ e < b ∧ 0 ≤ d) ∧
  ((h 167 e.toNat = 1 ∧ ((h 170 e.toNat) = -1 ∨ (e < (h 170 e.toNat) ∧ (h 170 e.toNat) < b ∧ h 169 e.toNat ≤ h 169 (h 170 e.toNat).toNat)) ∧ F 3 (d - 1) (e + 1) b (h 170 e.toNat)) ∨
   ((h 167 e.toNat = 2 ∧ 0 ≤ h 176 e.toNat ∧ 0 ≤ (h 172 e.toNat) ∧ (h 172 e.toNat) ≤ 12007) ∧ F 0 (RE m 1) (e + 1) b (h 170 e.toNat)) ∨
   (h 167 e.toNat = 3 ∧ F 0 (RE m 1) (e + 1) (h 171 e.toNat) (h 170 e.toNat) ∧ (((h 172 e.toNat) = -1 ∧ ((e < (h 171 e.toNat) ∧ (h 171 e.toNat) < b ∧ h 169 e.toNat ≤ h 169 (h 171 e.toNat).toNat) ∧ F 2 (d - 1) (h 171 e.toNat) b (h 171 e.toNat))) ∨ ((h 172 e.toNat) < b ∧ ((e < (h 171 e.toNat) ∧ (h 171 e.toNat) < (h 172 e.toNat) ∧ h 169 e.toNat ≤ h 169 (h 171 e.toNat).toNat) ∧ F 2 (d - 1) (h 171 e.toNat) (h 172 e.toNat) (h 171 e.toNat)) ∧ ((e < (h 172 e.toNat) ∧ (h 172 e.toNat) < b ∧ h 169 e.toNat ≤ h 169 (h 172 e.toNat).toNat) ∧ F 2 (d - 1) (h 172 e.toNat) b (h 172 e.toNat))))) ∨
   (h 167 e.toNat = 4 ∧ F 0 (RE m 1) (e + 1) (h 171 e.toNat) (h 170 e.toNat) ∧ ((e < (h 171 e.toNat) ∧ (h 171 e.toNat) < b ∧ h 169 e.toNat ≤ h 169 (h 171 e.toNat).toNat) ∧ F 2 (d - 1) (h 171 e.toNat) b (h 171 e.toNat))) ∨
   (h 167 e.toNat = 5 ∨ h 167 e.toNat = 6) ∨
   (h 167 e.toNat = 7 ∧ ((h 170 e.toNat) = -1 ∨ F 0 (RE m 1) (e + 1) b (h 170 e.toNat))) ∨
   ((h 167 e.toNat = 8 ∨ h 167 e.toNat = 10 ∨ h 167 e.toNat = 11) ∧ F 0 (RE m 1) (e + 1) b (h 170 e.toNat)) ∨
   (h 167 e.toNat = 12 ∧ ∃ y, (e < y ∧ y ≤ b) ∧ F 0 (RE m 1) (e + 1) y (h 170 e.toNat) ∧ F 0 (RE m 1) y b (h 171 e.toNat)) ∨
   ((h 167 e.toNat = 9 ∧ 0 ≤ h 176 e.toNat ∧ h 176 e.toNat ≤ 3000) ∧ ((h 171 e.toNat) < b ∧ ((e < (h 170 e.toNat) ∧ (h 170 e.toNat) < (h 171 e.toNat) ∧ h 169 e.toNat ≤ h 169 (h 170 e.toNat).toNat) ∧ F 2 (d - 1) (h 170 e.toNat) (h 171 e.toNat) (h 170 e.toNat))) ∧ ((e < (h 171 e.toNat) ∧ (h 171 e.toNat) < b ∧ h 169 e.toNat ≤ h 169 (h 171 e.toNat).toNat) ∧ F 2 (d - 1) (h 171 e.toNat) b (h 171 e.toNat)) ∧ h 169 e.toNat + 4 ≤ h 169 (h 171 e.toNat).toNat))
/-- a row of statements -/
def t3 (h : ms_M) (F : Nat → Int → Int → Int → Int → Prop) (d a b e : Int) : Prop :=
  e = -1 ∨ ((0 ≤ a ∧ a ≤ e ∧ e < b) ∧ (((h 173 e.toNat) = -1 ∧ F 2 d e b e) ∨ ((e < (h 173 e.toNat) ∧ (h 173 e.toNat) < b) ∧ F 2 d e (h 173 e.toNat) e ∧ F 3 d (h 173 e.toNat) b (h 173 e.toNat) ∧ h 169 e.toNat ≤ h 169 (h 173 e.toNat).toNat ∧ (h 167 e.toNat = 2 → h 169 e.toNat + 2 ≤ h 169 (h 173 e.toNat).toNat))))
def TT (m : Int) (h : ms_M) : Nat → Nat → Int → Int → Int → Int → Prop
  | 0 => fun _ _ _ _ _ => False
  | n + 1 => fun s => match s with
    | 0 => t0 m h (TT m h n)
    | 1 => t1 h (TT m h n)
    | 2 => t2 m h (TT m h n)
    | _ => t3 h (TT m h n)
theorem tt_0 {n : Nat} : TT m h (n + 1) 0 d a b e = t0 m h (TT m h n) d a b e := rfl
theorem tt_1 {n : Nat} : TT m h (n + 1) 1 d a b e = t1 h (TT m h n) d a b e := rfl
theorem tt_2 {n : Nat} : TT m h (n + 1) 2 d a b e = t2 m h (TT m h n) d a b e := rfl
theorem tt_3 {n s : Nat} : TT m h (n + 1) (s + 3) d a b e = t3 h (TT m h n) d a b e := rfl
theorem t0_map {a0 b0 : Int} (H : ∀ s, s ≤ 1 → ∀ d a b d2 a2 b2 e, F s d a b e → d ≤ d2 → 0 ≤ a2 → a2 ≤ a → b ≤ b2 → a0 ≤ a → b ≤ b0 → G s d2 a2 b2 e) (A : ∀ (c x : Nat), (c = 167 ∨ (170 ≤ c ∧ c ≤ 173)) → a0 ≤ (x : Int) → (x : Int) < b0 → r c x = h c x) (h1 : d ≤ d2) (h2 : 0 ≤ a2) (h3 : a2 ≤ a) (h4 : b ≤ b2) (h5 : a0 ≤ a) (h6 : b ≤ b0) (x : t0 m h F d a b e) : t0 m r G d2 a2 b2 e := by
  obtain ⟨⟨q1, q2, q3, q4⟩, x⟩ := x
  have k7 := A 167 e.toNat (by decide) (by omega) (by omega)
  have k0 := A 170 e.toNat (by decide) (by omega) (by omega)
  have k1 := A 171 e.toNat (by decide) (by omega) (by omega)
  have k2 := A 172 e.toNat (by decide) (by omega) (by omega)
  have k3 := A 173 e.toNat (by decide) (by omega) (by omega)
  refine ⟨⟨h2, by omega, by omega, by omega⟩, ?_⟩
  rw [k7, k0, k1, k2]
  rcases x with x | x | ⟨k, x⟩ | ⟨k, x⟩ | ⟨k, x⟩ | ⟨k, x, y⟩ | ⟨k, x, y⟩ | ⟨k, x⟩ | ⟨k, x⟩ | ⟨k, x, w, wr, y, z⟩
  · exact .inl x
  · exact .inr (.inl x)
  · exact .inr (.inr (.inl ⟨⟨k.1, by omega⟩, H 1 (by decide) _ _ _ _ _ _ _ x (by omega) (by omega) (by omega) (by omega) (by omega) (by omega)⟩))
  · exact .inr (.inr (.inr (.inl ⟨k, H 0 (by decide) _ _ _ _ _ _ _ x (by omega) (by omega) (by omega) (by omega) (by omega) (by omega)⟩)))
  · exact .inr (.inr (.inr (.inr (.inl ⟨k, H 0 (by decide) _ _ _ _ _ _ _ x (by omega) (by omega) (by omega) (by omega) (by omega) (by omega)⟩))))
  · exact .inr (.inr (.inr (.inr (.inr (.inl ⟨⟨k.1, by omega, k.2.2⟩, H 0 (by decide) _ _ _ _ _ _ _ x (by omega) (by omega) (by omega) (by omega) (by omega) (by omega), H 1 (by decide) _ _ _ _ _ _ _ y (by omega) (by omega) (by omega) (by omega) (by omega) (by omega)⟩)))))
  · exact .inr (.inr (.inr (.inr (.inr (.inr (.inl ⟨k, H 0 (by decide) _ _ _ _ _ _ _ x (by omega) (by omega) (by omega) (by omega) (by omega) (by omega), H 0 (by decide) _ _ _ _ _ _ _ y (by omega) (by omega) (by omega) (by omega) (by omega) (by omega)⟩))))))
  · exact .inr (.inr (.inr (.inr (.inr (.inr (.inr (.inl ⟨k, H 0 (by decide) _ _ _ _ _ _ _ x (by omega) (by omega) (by omega) (by omega) (by omega) (by omega)⟩)))))))
  · exact .inr (.inr (.inr (.inr (.inr (.inr (.inr (.inr (.inl ⟨k, H 0 (by decide) _ _ _ _ _ _ _ x (by omega) (by omega) (by omega) (by omega) (by omega) (by omega)⟩))))))))
  · exact .inr (.inr (.inr (.inr (.inr (.inr (.inr (.inr (.inr ⟨k, H 0 (by decide) _ _ _ _ _ _ _ x (by omega) (by omega) (by omega) (by omega) (by omega) (by omega), w, ⟨wr.1, by omega⟩, H 0 (by decide) _ _ _ _ _ _ _ y (by omega) (by omega) (by omega) (by omega) (by omega) (by omega), H 0 (by decide) _ _ _ _ _ _ _ z (by omega) (by omega) (by omega) (by omega) (by omega) (by omega)⟩))))))))
theorem t1_map {a0 b0 : Int} (H : ∀ s, s ≤ 1 → ∀ d a b d2 a2 b2 e, F s d a b e → d ≤ d2 → 0 ≤ a2 → a2 ≤ a → b ≤ b2 → a0 ≤ a → b ≤ b0 → G s d2 a2 b2 e) (A : ∀ (c x : Nat), (c = 167 ∨ (170 ≤ c ∧ c ≤ 173)) → a0 ≤ (x : Int) → (x : Int) < b0 → r c x = h c x) (h1 : d ≤ d2) (h2 : 0 ≤ a2) (h3 : a2 ≤ a) (h4 : b ≤ b2) (h5 : a0 ≤ a) (h6 : b ≤ b0) (x : t1 h F d a b e) : t1 r G d2 a2 b2 e := by
  rcases x with x | ⟨⟨q1, q2, q3⟩, x, y⟩
  · exact .inl x
  have k7 := A 167 e.toNat (by decide) (by omega) (by omega)
  have k0 := A 170 e.toNat (by decide) (by omega) (by omega)
  have k1 := A 171 e.toNat (by decide) (by omega) (by omega)
  have k2 := A 172 e.toNat (by decide) (by omega) (by omega)
  have k3 := A 173 e.toNat (by decide) (by omega) (by omega)
  refine .inr ⟨⟨h2, by omega, by omega⟩, ?_⟩
  rw [k0, k3]
  exact ⟨H 0 (by decide) _ _ _ _ _ _ _ x (by omega) (by omega) (by omega) (by omega) (by omega) (by omega), H 1 (by decide) _ _ _ _ _ _ _ y (by omega) (by omega) (by omega) (by omega) (by omega) (by omega)⟩
theorem t2_map {b0 : Int} (H : ∀ s d a b d2 a2 b2 f, F s d a b f → d ≤ d2 → 0 ≤ a2 → a2 ≤ a → b ≤ b2 → e + 1 ≤ a → b ≤ b0 → G s d2 a2 b2 f) (k7 : r 167 e.toNat = h 167 e.toNat) (k0 : r 170 e.toNat = h 170 e.toNat) (k1 : r 171 e.toNat = h 171 e.toNat) (k2 : r 172 e.toNat = h 172 e.toNat) (A9 : ∀ x : Nat, e ≤ (x : Int) → (x : Int) < b0 → r 169 x = h 169 x) (k6 : (h 167 e.toNat = 2 ∨ h 167 e.toNat = 9) → r 176 e.toNat = h 176 e.toNat) (h1 : d ≤ d2) (h2 : 0 ≤ a2) (h3 : a2 ≤ a) (h4 : b ≤ b2) (h6 : b ≤ b0) (x : t2 m h F d a b e) : t2 m r G d2 a2 b2 e := by
  obtain ⟨⟨q1, q2, q3, q4⟩, x⟩ := x
  have k9 := A9 e.toNat (by omega) (by omega)
  refine ⟨⟨h2, by omega, by omega, by omega⟩, ?_⟩
  rw [k7, k0, k1, k2, k9]
  rcases x with ⟨k, w, x⟩ | ⟨⟨k, w⟩, x⟩ | ⟨k, x, z⟩ | ⟨k, x, ⟨w, y⟩⟩ | k | ⟨k, x⟩ | ⟨k, x⟩ | ⟨k, w, wr, x, y⟩ | ⟨⟨k, w⟩, ⟨w0, w1, x⟩, ⟨w2, y⟩, w3⟩
  · refine .inl ⟨k, ?_, H _ _ _ _ _ _ _ _ x (by omega) (by omega) (by omega) (by omega) (by omega) (by omega)⟩
    rcases w with w | w
    · exact .inl w
    · exact .inr ⟨w.1, by omega, by rw [A9 (h 170 e.toNat).toNat (by omega) (by omega)]; exact w.2.2⟩
  · exact .inr (.inl ⟨⟨k, by rw [k6 (.inl k)]; exact w⟩, H _ _ _ _ _ _ _ _ x (by omega) (by omega) (by omega) (by omega) (by omega) (by omega)⟩)
  · refine .inr (.inr (.inl ⟨k, ?_, ?_⟩))
    · rcases z with ⟨_, w, _⟩ | ⟨w0, ⟨w, _⟩, _⟩
      · exact H _ _ _ _ _ _ _ _ x (by omega) (by omega) (by omega) (by omega) (by omega) (by omega)
      · exact H _ _ _ _ _ _ _ _ x (by omega) (by omega) (by omega) (by omega) (by omega) (by omega)
    · rcases z with ⟨z, w, y⟩ | ⟨w0, ⟨w1, y⟩, ⟨w4, z⟩⟩
      · exact .inl ⟨z, ⟨w.1, by omega, by rw [A9 (h 171 e.toNat).toNat (by omega) (by omega)]; exact w.2.2⟩, H _ _ _ _ _ _ _ _ y (by omega) (by omega) (by omega) (by omega) (by omega) (by omega)⟩
      · exact .inr ⟨by omega, ⟨⟨w1.1, by omega, by rw [A9 (h 171 e.toNat).toNat (by omega) (by omega)]; exact w1.2.2⟩, H _ _ _ _ _ _ _ _ y (by omega) (by omega) (by omega) (by omega) (by omega) (by omega)⟩, ⟨⟨w4.1, by omega, by rw [A9 (h 172 e.toNat).toNat (by omega) (by omega)]; exact w4.2.2⟩, H _ _ _ _ _ _ _ _ z (by omega) (by omega) (by omega) (by omega) (by omega) (by omega)⟩⟩
  · exact .inr (.inr (.inr (.inl ⟨k, H _ _ _ _ _ _ _ _ x (by omega) (by omega) (by omega) (by omega) (by omega) (by omega), ⟨⟨w.1, by omega, by rw [A9 (h 171 e.toNat).toNat (by omega) (by omega)]; exact w.2.2⟩, H _ _ _ _ _ _ _ _ y (by omega) (by omega) (by omega) (by omega) (by omega) (by omega)⟩⟩)))
  · exact .inr (.inr (.inr (.inr (.inl k))))
  · refine .inr (.inr (.inr (.inr (.inr (.inl ⟨k, ?_⟩)))))
    rcases x with x | x
    · exact .inl x
    · exact .inr (H _ _ _ _ _ _ _ _ x (by omega) (by omega) (by omega) (by omega) (by omega) (by omega))
  · exact .inr (.inr (.inr (.inr (.inr (.inr (.inl ⟨k, H _ _ _ _ _ _ _ _ x (by omega) (by omega) (by omega) (by omega) (by omega) (by omega)⟩))))))
  · exact .inr (.inr (.inr (.inr (.inr (.inr (.inr (.inl ⟨k, w, ⟨wr.1, by omega⟩, H _ _ _ _ _ _ _ _ x (by omega) (by omega) (by omega) (by omega) (by omega) (by omega), H _ _ _ _ _ _ _ _ y (by omega) (by omega) (by omega) (by omega) (by omega) (by omega)⟩)))))))
  · exact .inr (.inr (.inr (.inr (.inr (.inr (.inr (.inr ⟨⟨k, by rw [k6 (.inr k)]; exact w⟩, ⟨by omega, ⟨w1.1, by omega, by rw [A9 (h 170 e.toNat).toNat (by omega) (by omega)]; exact w1.2.2⟩, H _ _ _ _ _ _ _ _ x (by omega) (by omega) (by omega) (by omega) (by omega) (by omega)⟩, ⟨⟨w2.1, by omega, by rw [A9 (h 171 e.toNat).toNat (by omega) (by omega)]; exact w2.2.2⟩, H _ _ _ _ _ _ _ _ y (by omega) (by omega) (by omega) (by omega) (by omega) (by omega)⟩, by rw [A9 (h 171 e.toNat).toNat (by omega) (by omega)]; exact w3⟩)))))))
theorem t3_map {a0 b0 : Int} (H : ∀ s d a b d2 a2 b2 e, F s d a b e → d ≤ d2 → 0 ≤ a2 → a2 ≤ a → b ≤ b2 → a0 ≤ a → b ≤ b0 → G s d2 a2 b2 e) (A : ∀ (c x : Nat), (c = 167 ∨ (170 ≤ c ∧ c ≤ 173)) → a0 ≤ (x : Int) → (x : Int) < b0 → r c x = h c x) (A9 : ∀ x : Nat, a0 ≤ (x : Int) → (x : Int) < b0 → r 169 x = h 169 x) (B : ∀ x : Nat, a0 ≤ (x : Int) → (x : Int) < b0 → (h 167 x = 2 ∨ h 167 x = 9) → r 176 x = h 176 x) (h1 : d ≤ d2) (h2 : 0 ≤ a2) (h3 : a2 ≤ a) (h4 : b ≤ b2) (h5 : a0 ≤ a) (h6 : b ≤ b0) (x : t3 h F d a b e) : t3 r G d2 a2 b2 e := by
  rcases x with x | ⟨⟨q1, q2, q3⟩, x⟩
  · exact .inl x
  have k7 := A 167 e.toNat (by decide) (by omega) (by omega)
  have k9 := A9 e.toNat (by omega) (by omega)
  have k0 := A 170 e.toNat (by decide) (by omega) (by omega)
  have k1 := A 171 e.toNat (by decide) (by omega) (by omega)
  have k2 := A 172 e.toNat (by decide) (by omega) (by omega)
  have k3 := A 173 e.toNat (by decide) (by omega) (by omega)
  refine .inr ⟨⟨h2, by omega, by omega⟩, ?_⟩
  rw [k3, k9, k7]
  rcases x with ⟨w, x⟩ | ⟨w, x, y, w1, w2⟩
  · exact .inl ⟨w, H _ _ _ _ _ _ _ _ x (by omega) (by omega) (by omega) (by omega) (by omega) (by omega)⟩
  · refine .inr ⟨⟨w.1, by omega⟩, H _ _ _ _ _ _ _ _ x (by omega) (by omega) (by omega) (by omega) (by omega) (by omega), H _ _ _ _ _ _ _ _ y (by omega) (by omega) (by omega) (by omega) (by omega) (by omega), ?_⟩
    rw [A9 (h 173 e.toNat).toNat (by omega) (by omega)]
    exact ⟨w1, w2⟩
/-- the same tree in other cells, and in a wider range -/
theorem tt_map {a0 b0 : Int} (A : ∀ (c x : Nat), (c = 167 ∨ (170 ≤ c ∧ c ≤ 173)) → a0 ≤ (x : Int) → (x : Int) < b0 → r c x = h c x) (A9 : ∀ x : Nat, a0 ≤ (x : Int) → (x : Int) < b0 → r 169 x = h 169 x) (B : ∀ x : Nat, a0 ≤ (x : Int) → (x : Int) < b0 → (h 167 x = 2 ∨ h 167 x = 9) → r 176 x = h 176 x) : ∀ (n s : Nat) (d a b d2 a2 b2 e : Int), TT m h n s d a b e → d ≤ d2 → 0 ≤ a2 → a2 ≤ a → b ≤ b2 → a0 ≤ a → b ≤ b0 → TT m r n s d2 a2 b2 e := by
  intro n
  induction n with
  | zero => intro s d a b d2 a2 b2 e x; exact False.elim x
  | succ n ih =>
    intro s d a b d2 a2 b2 e x h1 h2 h3 h4 h5 h6
    match s, x with
    | 0, x => exact t0_map (fun s _ => ih s) A h1 h2 h3 h4 h5 h6 x
    | 1, x => exact t1_map (fun s _ => ih s) A h1 h2 h3 h4 h5 h6 x
    | 2, x =>
      have q := (show t2 m h (TT m h n) d a b e from x).1
      exact t2_map (b0 := b0) (fun s d a b d2 a2 b2 f y z1 z2 z3 z4 z5 z6 => ih s d a b d2 a2 b2 f y z1 z2 z3 z4 (by omega) z6) (A 167 _ (by decide) (by omega) (by omega)) (A 170 _ (by decide) (by omega) (by omega)) (A 171 _ (by decide) (by omega) (by omega)) (A 172 _ (by decide) (by omega) (by omega)) (fun x z1 z2 => A9 x (by omega) z2) (B e.toNat (by omega) (by omega)) h1 h2 h3 h4 h6 x
    | s + 3, x => exact t3_map ih A A9 B h1 h2 h3 h4 h5 h6 x
theorem tt_s : ∀ (n s : Nat) (d a b e : Int), TT m h n s d a b e → ∀ k, TT m h (n + k) s d a b e := by
  intro n
  induction n with
  | zero => intro s d a b e x; exact False.elim x
  | succ n ih =>
    intro s d a b e x k
    have hh : ∀ s d a b d2 a2 b2 e, TT m h n s d a b e → d ≤ d2 → 0 ≤ a2 → a2 ≤ a → b ≤ b2 → a ≤ a → b ≤ b → TT m h (n + k) s d2 a2 b2 e := fun s d a b d2 a2 b2 e y z1 z2 z3 z4 _ _ => tt_map (a0 := a) (b0 := b) (fun _ _ _ _ _ => rfl) (fun _ _ _ => rfl) (fun _ _ _ _ => rfl) _ _ _ _ _ _ _ _ _ (ih _ _ _ _ _ y k) z1 z2 z3 z4 (by omega) (by omega)
    have z : n + 1 + k = (n + k) + 1 := by omega
    rw [z]
    match s, x with
    | 0, x => exact t0_map (a0 := a) (b0 := b) (fun s _ d a b d2 a2 b2 e y z1 z2 z3 z4 _ _ => hh s d a b d2 a2 b2 e y z1 z2 z3 z4 (by omega) (by omega)) (fun _ _ _ _ _ => rfl) (by omega) (show t0 m h (TT m h n) d a b e from x).1.1 (by omega) (by omega) (by omega) (by omega) x
    | 1, x =>
      rcases (show t1 h (TT m h n) d a b e from x) with x | x
      · exact .inl x
      · exact t1_map (a0 := a) (b0 := b) (fun s _ d a b d2 a2 b2 e y z1 z2 z3 z4 _ _ => hh s d a b d2 a2 b2 e y z1 z2 z3 z4 (by omega) (by omega)) (fun _ _ _ _ _ => rfl) (by omega) x.1.1 (by omega) (by omega) (by omega) (by omega) (.inr x)
    | 2, x => exact t2_map (b0 := b) (fun s d a b d2 a2 b2 e y z1 z2 z3 z4 _ _ => hh s d a b d2 a2 b2 e y z1 z2 z3 z4 (by omega) (by omega)) rfl rfl rfl rfl (fun _ _ _ => rfl) (fun _ => rfl) (by omega) (show t2 m h (TT m h n) d a b e from x).1.1 (by omega) (by omega) (by omega) x
    | s + 3, x =>
      rcases (show t3 h (TT m h n) d a b e from x) with x | x
      · exact .inl x
      · exact t3_map (a0 := a) (b0 := b) (fun s d a b d2 a2 b2 e y z1 z2 z3 z4 _ _ => hh s d a b d2 a2 b2 e y z1 z2 z3 z4 (by omega) (by omega)) (fun _ _ _ _ _ => rfl) (fun _ _ _ => rfl) (fun _ _ _ _ => rfl) (by omega) x.1.1 (by omega) (by omega) (by omega) (by omega) (.inr x)
theorem tt_le {n k s : Nat} (x : TT m h n s d a b e) (hk : n ≤ k) : TT m h k s d a b e := by
  have := tt_s n s d a b e x (k - n)
  rwa [show n + (k - n) = k by omega] at this
/-- a tree below e (s: 0 an expression, 1 a row of arguments, 2 a statement, 3 a row of statements) -/
def TE (m : Int) (h : ms_M) (s : Nat) (d a b e : Int) : Prop := ∃ n, TT m h n s d a b e
theorem te_map {s : Nat} {a0 b0 : Int} (A : ∀ (c x : Nat), (c = 167 ∨ (170 ≤ c ∧ c ≤ 173)) → a0 ≤ (x : Int) → (x : Int) < b0 → r c x = h c x) (A9 : ∀ x : Nat, a0 ≤ (x : Int) → (x : Int) < b0 → r 169 x = h 169 x) (B : ∀ x : Nat, a0 ≤ (x : Int) → (x : Int) < b0 → (h 167 x = 2 ∨ h 167 x = 9) → r 176 x = h 176 x) (x : TE m h s d a b e) (h1 : d ≤ d2) (h2 : 0 ≤ a2) (h3 : a2 ≤ a) (h4 : b ≤ b2) (h5 : a0 ≤ a) (h6 : b ≤ b0) : TE m r s d2 a2 b2 e := by
  obtain ⟨n, x⟩ := x
  exact ⟨n, tt_map A A9 B n s d a b d2 a2 b2 e x h1 h2 h3 h4 h5 h6⟩
theorem te_wd {s : Nat} (x : TE m h s d a b e) (h1 : d ≤ d2) (h2 : 0 ≤ a2) (h3 : a2 ≤ a) (h4 : b ≤ b2) : TE m h s d2 a2 b2 e := te_map (a0 := a) (b0 := b) (fun _ _ _ _ _ => rfl) (fun _ _ _ => rfl) (fun _ _ _ _ => rfl) x h1 h2 h3 h4 (by omega) (by omega)
/-- leaving a row of statements or arguments as it is, and going to other cells -/
theorem te_fr {s : Nat} (x : TE m h s d a b e) (ha : 0 ≤ a) (A : ∀ (c x : Nat), 167 ≤ c → c ≤ 177 → a ≤ (x : Int) → (x : Int) < b → r c x = h c x) : TE m r s d a b e := te_map (a0 := a) (b0 := b) (fun c x h1 h3 h4 => A c x (by omega) (by omega) h3 h4) (fun x h3 h4 => A 169 x (by decide) (by decide) h3 h4) (fun x h1 h2 _ => A 176 x (by decide) (by decide) h1 h2) x (by omega) ha (by omega) (by omega) (by omega) (by omega)
theorem tt_01 {a0 b0 : Int} (A : ∀ (c x : Nat), (c = 167 ∨ (170 ≤ c ∧ c ≤ 173)) → a0 ≤ (x : Int) → (x : Int) < b0 → r c x = h c x) : ∀ (n s : Nat), s ≤ 1 → ∀ (d a b d2 a2 b2 e : Int), TT m h n s d a b e → d ≤ d2 → 0 ≤ a2 → a2 ≤ a → b ≤ b2 → a0 ≤ a → b ≤ b0 → TT m r n s d2 a2 b2 e := by
  intro n
  induction n with
  | zero => intro s _ d a b d2 a2 b2 e x; exact False.elim x
  | succ n ih =>
    intro s hs d a b d2 a2 b2 e x h1 h2 h3 h4 h5 h6
    match s, hs, x with
    | 0, _, x => exact t0_map ih A h1 h2 h3 h4 h5 h6 x
    | 1, _, x => exact t1_map ih A h1 h2 h3 h4 h5 h6 x
/-- an expression's tree leaves out where it begins -/
theorem te_01 {s : Nat} (hs : s ≤ 1) (A : ∀ (c x : Nat), (c = 167 ∨ (170 ≤ c ∧ c ≤ 173)) → r c x = h c x) (ha : 0 ≤ a) (x : TE m h s d a b e) : TE m r s d a b e := by
  obtain ⟨n, x⟩ := x
  exact ⟨n, tt_01 (a0 := a) (b0 := b) (fun c x h1 _ _ => A c x h1) n s hs d a b d a b e x (by omega) ha (by omega) (by omega) (by omega) (by omega)⟩
theorem tt_te {n : Nat} : ∀ s d a b d2 a2 b2 e, TT m h n s d a b e → d ≤ d2 → 0 ≤ a2 → a2 ≤ a → b ≤ b2 → True → True → TE m h s d2 a2 b2 e := fun _ _ _ _ _ _ _ _ y z1 z2 z3 z4 _ _ => te_wd ⟨n, y⟩ z1 z2 z3 z4
theorem te_o0 (x : TE m h 0 d a b e) : t0 m h (TE m h) d a b e := by
  obtain ⟨n, x⟩ := x
  cases n with
  | zero => exact False.elim x
  | succ n => exact t0_map (a0 := a) (b0 := b) (fun s _ d a b d2 a2 b2 e y z1 z2 z3 z4 _ _ => te_wd ⟨n, y⟩ z1 z2 z3 z4) (fun _ _ _ _ _ => rfl) (by omega) (show t0 m h (TT m h n) d a b e from x).1.1 (by omega) (by omega) (by omega) (by omega) x
theorem te_o1 (x : TE m h 1 d a b e) : t1 h (TE m h) d a b e := by
  obtain ⟨n, x⟩ := x
  cases n with
  | zero => exact False.elim x
  | succ n =>
    rcases (show t1 h (TT m h n) d a b e from x) with x | x
    · exact .inl x
    · exact t1_map (a0 := a) (b0 := b) (fun s _ d a b d2 a2 b2 e y z1 z2 z3 z4 _ _ => te_wd ⟨n, y⟩ z1 z2 z3 z4) (fun _ _ _ _ _ => rfl) (by omega) x.1.1 (by omega) (by omega) (by omega) (by omega) (.inr x)
theorem te_o2 (x : TE m h 2 d a b e) : t2 m h (TE m h) d a b e := by
  obtain ⟨n, x⟩ := x
  cases n with
  | zero => exact False.elim x
  | succ n => exact t2_map (b0 := b) (fun s d a b d2 a2 b2 e y z1 z2 z3 z4 _ _ => te_wd ⟨n, y⟩ z1 z2 z3 z4) rfl rfl rfl rfl (fun _ _ _ => rfl) (fun _ => rfl) (by omega) (show t2 m h (TT m h n) d a b e from x).1.1 (by omega) (by omega) (by omega) x
theorem te_o3 (x : TE m h 3 d a b e) : t3 h (TE m h) d a b e := by
  obtain ⟨n, x⟩ := x
  cases n with
  | zero => exact False.elim x
  | succ n =>
    rcases (show t3 h (TT m h n) d a b e from x) with x | x
    · exact .inl x
    · exact t3_map (a0 := a) (b0 := b) (fun s d a b d2 a2 b2 e y z1 z2 z3 z4 _ _ => te_wd ⟨n, y⟩ z1 z2 z3 z4) (fun _ _ _ _ _ => rfl) (fun _ _ _ => rfl) (fun _ _ _ _ => rfl) (by omega) x.1.1 (by omega) (by omega) (by omega) (by omega) (.inr x)
theorem te_i0 (H : t0 m h (TE m h) d a b e) : TE m h 0 d a b e := by
  obtain ⟨q, x⟩ := H
  rcases x with x | x | ⟨k, n, x⟩ | ⟨k, n, x⟩ | ⟨k, n, x⟩ | ⟨k, ⟨n, x⟩, ⟨p, y⟩⟩ | ⟨k, ⟨n, x⟩, ⟨p, y⟩⟩ | ⟨k, n, x⟩ | ⟨k, n, x⟩ | ⟨k, ⟨n, x⟩, w, wr, ⟨p, y⟩, ⟨o, z⟩⟩
  · exact ⟨1, q, .inl x⟩
  · exact ⟨1, q, .inr (.inl x)⟩
  · exact ⟨n + 1, q, .inr (.inr (.inl ⟨k, x⟩))⟩
  · exact ⟨n + 1, q, .inr (.inr (.inr (.inl ⟨k, x⟩)))⟩
  · exact ⟨n + 1, q, .inr (.inr (.inr (.inr (.inl ⟨k, x⟩))))⟩
  · exact ⟨n + p + 1, q, .inr (.inr (.inr (.inr (.inr (.inl ⟨k, tt_le x (by omega), tt_le y (by omega)⟩)))))⟩
  · exact ⟨n + p + 1, q, .inr (.inr (.inr (.inr (.inr (.inr (.inl ⟨k, tt_le x (by omega), tt_le y (by omega)⟩))))))⟩
  · exact ⟨n + 1, q, .inr (.inr (.inr (.inr (.inr (.inr (.inr (.inl ⟨k, x⟩)))))))⟩
  · exact ⟨n + 1, q, .inr (.inr (.inr (.inr (.inr (.inr (.inr (.inr (.inl ⟨k, x⟩))))))))⟩
  · exact ⟨n + p + o + 1, q, .inr (.inr (.inr (.inr (.inr (.inr (.inr (.inr (.inr ⟨k, tt_le x (by omega), w, wr, tt_le y (by omega), tt_le z (by omega)⟩))))))))⟩
theorem te_i1 (H : t1 h (TE m h) d a b e) : TE m h 1 d a b e := by
  rcases H with x | ⟨q, ⟨n, x⟩, ⟨p, y⟩⟩
  · exact ⟨1, .inl x⟩
  · exact ⟨n + p + 1, .inr ⟨q, tt_le x (by omega), tt_le y (by omega)⟩⟩
theorem te_i2 (H : t2 m h (TE m h) d a b e) : TE m h 2 d a b e := by
  obtain ⟨q, x⟩ := H
  rcases x with ⟨k, w, ⟨n, x⟩⟩ | ⟨k, ⟨n, x⟩⟩ | ⟨k, ⟨n, x⟩, z⟩ | ⟨k, ⟨n, x⟩, ⟨w, ⟨p, y⟩⟩⟩ | k | ⟨k, x⟩ | ⟨k, ⟨n, x⟩⟩ | ⟨k, w, wr, ⟨n, x⟩, ⟨p, y⟩⟩ | ⟨k, ⟨w0, w1, ⟨n, x⟩⟩, ⟨w2, ⟨p, y⟩⟩, w3⟩
  · exact ⟨n + 1, q, .inl ⟨k, w, x⟩⟩
  · exact ⟨n + 1, q, .inr (.inl ⟨k, x⟩)⟩
  · rcases z with ⟨z, w, ⟨p, y⟩⟩ | ⟨w0, ⟨w1, ⟨p, y⟩⟩, ⟨w4, ⟨o, z⟩⟩⟩
    · exact ⟨n + p + 1, q, .inr (.inr (.inl ⟨k, tt_le x (by omega), .inl ⟨z, w, tt_le y (by omega)⟩⟩))⟩
    · exact ⟨n + p + o + 1, q, .inr (.inr (.inl ⟨k, tt_le x (by omega), .inr ⟨w0, ⟨w1, tt_le y (by omega)⟩, ⟨w4, tt_le z (by omega)⟩⟩⟩))⟩
  · exact ⟨n + p + 1, q, .inr (.inr (.inr (.inl ⟨k, tt_le x (by omega), ⟨w, tt_le y (by omega)⟩⟩)))⟩
  · exact ⟨1, q, .inr (.inr (.inr (.inr (.inl k))))⟩
  · rcases x with x | ⟨n, x⟩
    · exact ⟨1, q, .inr (.inr (.inr (.inr (.inr (.inl ⟨k, .inl x⟩)))))⟩
    · exact ⟨n + 1, q, .inr (.inr (.inr (.inr (.inr (.inl ⟨k, .inr x⟩)))))⟩
  · exact ⟨n + 1, q, .inr (.inr (.inr (.inr (.inr (.inr (.inl ⟨k, x⟩))))))⟩
  · exact ⟨n + p + 1, q, .inr (.inr (.inr (.inr (.inr (.inr (.inr (.inl ⟨k, w, wr, tt_le x (by omega), tt_le y (by omega)⟩)))))))⟩
  · exact ⟨n + p + 1, q, .inr (.inr (.inr (.inr (.inr (.inr (.inr (.inr ⟨k, ⟨w0, w1, tt_le x (by omega)⟩, ⟨w2, tt_le y (by omega)⟩, w3⟩)))))))⟩
/-- a statement whose own next is written -/
theorem te_2x (x : TE m h 2 d e b e) (h0 : 0 ≤ e) (A : ∀ (c x : Nat), 167 ≤ c → c ≤ 177 → e ≤ (x : Int) → (x : Int) < b → ¬ (c = 173 ∧ x = e.toNat) → r c x = h c x) : TE m r 2 d e b e := by
  have q := (te_o2 x).1
  refine te_i2 (t2_map (b0 := b) (F := TE m h) (G := TE m r) (fun s d a b d2 a2 b2 f y z1 z2 z3 z4 z5 z6 => te_map (a0 := a) (b0 := b) (fun c x h1 h3 h4 => A c x (by omega) (by omega) (by omega) (by omega) (by omega)) (fun x h3 h4 => A 169 x (by decide) (by decide) (by omega) (by omega) (by omega)) (fun x h3 h4 _ => A 176 x (by decide) (by decide) (by omega) (by omega) (by omega)) y z1 z2 z3 z4 (by omega) (by omega)) ?_ ?_ ?_ ?_ ?_ ?_ (Int.le_refl d) h0 (Int.le_refl e) (Int.le_refl b) (Int.le_refl b) (te_o2 x))
  · exact A 167 _ (by decide) (by decide) (by omega) (by omega) (by omega)
  · exact A 170 _ (by decide) (by decide) (by omega) (by omega) (by omega)
  · exact A 171 _ (by decide) (by decide) (by omega) (by omega) (by omega)
  · exact A 172 _ (by decide) (by decide) (by omega) (by omega) (by omega)
  · exact fun x z1 z2 => A 169 x (by decide) (by decide) (by omega) (by omega) (by omega)
  · exact fun _ => A 176 _ (by decide) (by decide) (by omega) (by omega) (by omega)
theorem te_i3 (H : t3 h (TE m h) d a b e) : TE m h 3 d a b e := by
  rcases H with x | ⟨q, x⟩
  · exact ⟨1, .inl x⟩
  · rcases x with ⟨w, ⟨n, x⟩⟩ | ⟨w, ⟨n, x⟩, ⟨p, y⟩, w2⟩
    · exact ⟨n + 1, .inr ⟨q, .inl ⟨w, x⟩⟩⟩
    · exact ⟨n + p + 1, .inr ⟨q, .inr ⟨w, tt_le x (by omega), tt_le y (by omega), w2⟩⟩⟩
end
end

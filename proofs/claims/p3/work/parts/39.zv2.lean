/-- what a member leaves of the rows of members -/
def WM_ (l3 : Int) (h r : ms_M) : Prop := (∀ k, r 188 k = h 188 k) ∧ (∀ k, r 181 k = h 181 k) ∧ (∀ k, k ≠ l3.toNat → r 189 k = h 189 k) ∧ (VS_ r ∧ r 188 l3.toNat + r 189 l3.toNat ≤ r 160 39)
section
variable {nn : Nat} {l3 : Int}
theorem wm_360 (hn : 1000000 ≤ nn) (r3 : 0 ≤ l3 ∧ l3 ≤ 799) {h r : ms_M} (V : VS_ h) (N : EK_ h) (x1 : h 160 23 + 1 ≤ h 160 8) (x2 : h 160 22 ≤ 2 * h 160 23 + 30) (x3 : 2 * h 160 39 ≤ h 160 23) (hs : h 188 l3.toNat + h 189 l3.toNat ≤ h 160 39) (e : qj_X13_member_360 nn l3 h = some r) : WM_ l3 h r := by
  have Q := okof (vj_X13_member_360 hn (by omega) (by omega) V x1 x2 x3 N) e
  unfold qj_X13_member_360 at e
  obtain ⟨u2, e2, e⟩ := sv_i e
  obtain ⟨u5, e5, e⟩ := sv_i e
  have e := wa_i e
  have e := Option.some.inj e
  have a : ∀ c k, (c = 181 ∨ c = 188 ∨ c = 189 ∨ (c = 160 ∧ k = 39)) → r c k = h c k := by
    intro c k hc
    rw [← e, up_n (by omega)]
    have f1 : u5.2 c k = u2 c k := by
      rcases hc with rfl | rfl | rfl | ⟨rfl, rfl⟩
      · exact (ff_X13_block nn) _ e5 181 k (nw_ar rfl k)
      · exact (ff_X13_block nn) _ e5 188 k (nw_ar rfl k)
      · exact (ff_X13_block nn) _ e5 189 k (nw_ar rfl k)
      · exact (ff_X13_block nn) _ e5 160 39 rfl
    have f2 : u2 c k = h c k := by
      rcases hc with rfl | rfl | rfl | ⟨rfl, rfl⟩
      · exact (ff_X13_sign_ nn) _ e2 181 k (nw_ar rfl k)
      · exact (ff_X13_sign_ nn) _ e2 188 k (nw_ar rfl k)
      · exact (ff_X13_sign_ nn) _ e2 189 k (nw_ar rfl k)
      · exact (ff_X13_sign_ nn) _ e2 160 39 rfl
    rw [f1, f2]
  exact ⟨fun k => a _ _ (by omega), fun k => a _ _ (by omega), fun k _ => a _ _ (by omega), Q.1, by rw [a 188 _ (by omega), a 189 _ (by omega), a 160 39 (by omega)]; exact hs⟩
theorem wm_t {h g r : ms_M} (A : ∀ k, g 188 k = h 188 k) (B : ∀ k, g 181 k = h 181 k) (C : ∀ k, k ≠ l3.toNat → g 189 k = h 189 k) (W : WM_ l3 g r) : WM_ l3 h r := ⟨fun k => (W.1 k).trans (A k), fun k => (W.2.1 k).trans (B k), fun k z => (W.2.2.1 k z).trans (C k z), W.2.2.2⟩
theorem wm_269 (hn : 1000000 ≤ nn) (r3 : 0 ≤ l3 ∧ l3 ≤ 799) {qk : Int → ms_M → Option ms_M} {r : ms_M} (hk : ∀ {g : ms_M}, VS_ g → EK_ g → g 160 23 + 1 ≤ g 160 8 → g 160 22 ≤ 2 * g 160 23 + 30 → 2 * g 160 39 ≤ g 160 23 → g 188 l3.toNat + g 189 l3.toNat ≤ g 160 39 → qk l3 g = some r → WM_ l3 g r) {h : ms_M} (V : VS_ h) (N : EK_ h) (x1 : h 160 23 + 1 ≤ h 160 8) (x2 : h 160 22 ≤ 2 * h 160 23 + 30) (x3 : 2 * h 160 39 ≤ h 160 23) (hs : h 188 l3.toNat + h 189 l3.toNat ≤ h 160 39) (e : qj_X13_member_269 nn qk l3 h = some r) : WM_ l3 h r := by
  unfold qj_X13_member_269 at e
  obtain ⟨u8, e8, e⟩ := sv_i e
  have Q8 := okof (vf_X13_type hn V x1 N) e8
  obtain ⟨V8, R8⟩ := Q8
  have T8 : TS_ h u8 := ts_fr (fun c k w => (ff_X13_type nn) _ e8 c k w) rfl
  have N8 := ek_ts N T8
  have t8 := T8.1
  have p8 : u8 160 39 = h 160 39 := (ff_X13_type nn) _ e8 160 39 rfl
  have n8 : u8 160 22 = h 160 22 := (ff_X13_type nn) _ e8 160 22 rfl
  obtain ⟨u10, e10, e⟩ := sv_i e
  have Q10 := okof (vf_X13_name hn V8 (by omega) N8) e10
  obtain ⟨V10, a10, b10, R10⟩ := Q10
  have T10 : TS_ u8 u10.2 := ts_fr (fun c k w => (ff_X13_name nn) _ e10 c k w) rfl
  have t10 := T10.1
  have p10 : u10.2 160 39 = u8 160 39 := (ff_X13_name nn) _ e10 160 39 rfl
  have n10 : u10.2 160 22 = u8 160 22 := (ff_X13_name nn) _ e10 160 22 rfl
  have a188 : ∀ k, u10.2 188 k = h 188 k := fun k => by
    have y1 : u10.2 188 k = u8 188 k := (ff_X13_name nn) _ e10 188 k (nw_ar rfl k)
    have y2 : u8 188 k = h 188 k := (ff_X13_type nn) _ e8 188 k (nw_ar rfl k)
    rw [y1, y2]
  have a181 : ∀ k, u10.2 181 k = h 181 k := fun k => by
    have y1 : u10.2 181 k = u8 181 k := (ff_X13_name nn) _ e10 181 k (nw_ar rfl k)
    have y2 : u8 181 k = h 181 k := (ff_X13_type nn) _ e8 181 k (nw_ar rfl k)
    rw [y1, y2]
  have a189 : ∀ k, u10.2 189 k = h 189 k := fun k => by
    have y1 : u10.2 189 k = u8 189 k := (ff_X13_name nn) _ e10 189 k (nw_ar rfl k)
    have y2 : u8 189 k = h 189 k := (ff_X13_type nn) _ e8 189 k (nw_ar rfl k)
    rw [y1, y2]
  by_cases q : u10.2 160 9 = 0
  · rw [if_pos q] at e
    have g39 := gF_160_39 V
    have g45 := gF_160_45 V10
    have g46 := gF_160_46 V10
    have g47 := gF_160_47 V10
    have g23 := gF_160_23 V10
    generalize u10.2 = g0 at *
    have e := wa_i e
    have W1 : VS_ (up_M g0 191 (g0 160 39).toNat (g0 160 45)) := wA_191 V10 (by omega)
    have f1 : ∀ c k, c ≠ 191 → up_M g0 191 (g0 160 39).toNat (g0 160 45) c k = g0 c k := fun c k z => up_n (by omega)
    generalize up_M g0 191 (g0 160 39).toNat (g0 160 45) = g1 at *
    have e := wa_i e
    have W2 : VS_ (up_M g1 192 (g1 160 39).toNat (g1 160 46)) := wA_192 W1 (by rw [f1 160 46 (by decide)]; omega)
    have f2 : ∀ c k, c ≠ 191 → c ≠ 192 → up_M g1 192 (g1 160 39).toNat (g1 160 46) c k = g0 c k := fun c k z y => by rw [up_n (by omega)]; exact f1 c k z
    generalize up_M g1 192 (g1 160 39).toNat (g1 160 46) = g2 at *
    have e := wz_i e
    have W3 : VS_ (up_M g2 193 (g2 160 39).toNat (g2 160 47)) := wA_193 W2 (by rw [f2 160 47 (by decide) (by decide)]; omega)
    have f3 : ∀ c k, (c < 191 ∨ 193 < c) → up_M g2 193 (g2 160 39).toNat (g2 160 47) c k = g0 c k := fun c k z => by rw [up_n (by omega)]; exact f2 c k (by omega) (by omega)
    generalize up_M g2 193 (g2 160 39).toNat (g2 160 47) = g3 at *
    have e := wa_i e
    have W4 : VS_ (up_M g3 194 (g3 160 39).toNat u10.1) := wA_194 W3 (by omega)
    have f4 : ∀ c k, (c < 191 ∨ 194 < c) → up_M g3 194 (g3 160 39).toNat u10.1 c k = g0 c k := fun c k z => by rw [up_n (by omega)]; exact f3 c k (by omega)
    generalize up_M g3 194 (g3 160 39).toNat u10.1 = g4 at *
    rw [xl_eq, xl_eq, f4 160 39 (by omega), oq_add_eq (by omega) (by omega) (by omega)] at e
    have W5 : VS_ (up_M g4 160 39 (g0 160 39 + 1)) := wF_160_39 W4 (by omega)
    have f5 : ∀ c k, (c < 191 ∨ 194 < c) → ¬ (c = 160 ∧ k = 39) → up_M g4 160 39 (g0 160 39 + 1) c k = g0 c k := fun c k z y => by rw [up_n y]; exact f4 c k z
    have p5 : up_M g4 160 39 (g0 160 39 + 1) 160 39 = g0 160 39 + 1 := up_s
    generalize up_M g4 160 39 (g0 160 39 + 1) = g5 at *
    have e := rd_i e
    rw [xl_eq, f5 189 _ (by omega) (by omega)] at e
    have s188 := gA_188 V l3.toNat (by omega)
    have s189 := gA_189 V l3.toNat (by omega)
    have s0 := a189 l3.toNat
    have s1 := a188 l3.toNat
    rw [oq_add_eq (by omega) (by omega) (by omega)] at e
    have e := wa_i e
    have W6 : VS_ (up_M g5 189 l3.toNat (g0 189 l3.toNat + 1)) := wA_189 W5 (by omega)
    have f6 : ∀ c k, (c < 191 ∨ 194 < c) → ¬ (c = 160 ∧ k = 39) → ¬ (c = 189 ∧ k = l3.toNat) → up_M g5 189 l3.toNat (g0 189 l3.toNat + 1) c k = g0 c k := fun c k z y w => by rw [up_n w]; exact f5 c k z y
    have p6 : up_M g5 189 l3.toNat (g0 189 l3.toNat + 1) 160 39 = g0 160 39 + 1 := by rw [up_n (by omega)]; exact p5
    have q6 : up_M g5 189 l3.toNat (g0 189 l3.toNat + 1) 189 l3.toNat = g0 189 l3.toNat + 1 := up_s
    generalize up_M g5 189 l3.toNat (g0 189 l3.toNat + 1) = g6 at *
    have T6 : TS_ g0 g6 := ⟨f6 _ _ (by omega) (by omega) (by omega), fun k => ⟨f6 _ _ (by omega) (by omega) (by omega), f6 _ _ (by omega) (by omega) (by omega), f6 _ _ (by omega) (by omega) (by omega), f6 _ _ (by omega) (by omega) (by omega)⟩⟩
    have c6 : g6 160 23 = g0 160 23 := f6 _ _ (by omega) (by omega) (by omega)
    have n6 : g6 160 22 = g0 160 22 := f6 _ _ (by omega) (by omega) (by omega)
    have t6 := T6.1
    have z188 : g6 188 l3.toNat = g0 188 l3.toNat := f6 _ _ (by omega) (by omega) (by omega)
    have K := hk W6 (ek_ts (ek_ts N8 T10) T6) (by omega) (by omega) (by omega) (by omega) e
    exact wm_t (fun k => by rw [f6 188 k (by omega) (by omega) (by omega)]; exact a188 k) (fun k => by rw [f6 181 k (by omega) (by omega) (by omega)]; exact a181 k) (fun k z => by rw [f6 189 k (by omega) (by omega) (by omega)]; exact a189 k) K
  · rw [if_neg q] at e
    have e := Option.some.inj e
    rw [← e]
    exact ⟨a188, a181, fun k _ => a189 k, V10, by rw [a188, a189]; omega⟩
theorem wm_234 (hn : 1000000 ≤ nn) (r3 : 0 ≤ l3 ∧ l3 ≤ 799) {r : ms_M} : ∀ (k : Nat) {h : ms_M}, VS_ h → EK_ h → h 160 23 + 1 ≤ h 160 8 → h 160 22 ≤ 2 * h 160 23 + 30 → 2 * h 160 39 ≤ h 160 23 → h 188 l3.toNat + h 189 l3.toNat ≤ h 160 39 → qw_X13_member_234 nn k l3 h = some r → WM_ l3 h r := by
  intro k
  induction k with
  | zero => intro h V N x1 x2 x3 hs e; cases e
  | succ k ih =>
    intro h V N x1 x2 x3 hs e
    unfold qw_X13_member_234 at e
    by_cases q : h 160 9 = 0
    · rw [if_neg (fun z => z q)] at e
      obtain ⟨u38, e38, e⟩ := sv_i e
      by_cases q2 : u38 = 0
      · rw [if_neg (fun z => z q2)] at e
        have e := rd_i e
        by_cases q3 : h 189 l3.toNat ≤ 0
        · rw [if_pos q3] at e
          exact wm_269 hn r3 (fun a b c d f g z => ih a b c d f g z) V N x1 x2 x3 hs e
        · rw [if_neg q3] at e
          obtain ⟨u42, e42, e⟩ := sv_i e
          have Q := okof (vf_X13_sign_ hn (by omega) (by omega) V x1 N) e42
          have T : TS_ h u42 := ts_fr (fun c k w => (ff_X13_sign_ nn) _ e42 c k w) rfl
          have t := T.1
          have p : u42 160 39 = h 160 39 := (ff_X13_sign_ nn) _ e42 160 39 rfl
          have n : u42 160 22 = h 160 22 := (ff_X13_sign_ nn) _ e42 160 22 rfl
          have y1 : ∀ k, u42 188 k = h 188 k := fun k => (ff_X13_sign_ nn) _ e42 188 k (nw_ar rfl k)
          have y2 : ∀ k, u42 181 k = h 181 k := fun k => (ff_X13_sign_ nn) _ e42 181 k (nw_ar rfl k)
          have y3 : ∀ k, u42 189 k = h 189 k := fun k => (ff_X13_sign_ nn) _ e42 189 k (nw_ar rfl k)
          obtain ⟨VQ, RQ⟩ := Q
          have K := wm_269 hn r3 (fun a b c d f g z => ih a b c d f g z) VQ (ek_ts N T) (by omega) (by omega) (by omega) (by rw [y1, y3]; omega) e
          exact wm_t y1 y2 (fun k _ => y3 k) K
      · rw [if_pos q2] at e
        exact wm_360 hn r3 V N x1 x2 x3 hs e
    · rw [if_pos q] at e
      exact wm_360 hn r3 V N x1 x2 x3 hs e
end
theorem wm_sg {nn : Nat} {l3 a : Int} {h u r : ms_M} (e : qf_X13_sign_ nn a h = some u) (W : WM_ l3 u r) : WM_ l3 h r :=
  wm_t (fun k => (ff_X13_sign_ nn) _ e 188 k (nw_ar rfl k)) (fun k => (ff_X13_sign_ nn) _ e 181 k (nw_ar rfl k)) (fun k _ => (ff_X13_sign_ nn) _ e 189 k (nw_ar rfl k)) W
theorem wm_170 {nn : Nat} (hn : 1000000 ≤ nn) {l1 l2 l3 s0 : Int} (r3 : 0 ≤ l3 ∧ l3 ≤ 799) (rs : 0 ≤ s0 ∧ s0 ≤ 2) (rl : (0 ≤ l1 ∧ l1 ≤ 1) ∧ (0 ≤ l2 ∧ l2 ≤ 1)) {h r : ms_M} (V : VS_ h) (N : EK_ h) (x1 : h 160 23 + 1 ≤ h 160 8) (x2 : h 160 22 ≤ 2 * h 160 23 + 30) (x3 : 2 * h 160 39 ≤ h 160 23) (x4 : h 160 28 ≤ 799) (hz : h 189 l3.toNat = 0) (hs : h 188 l3.toNat + h 189 l3.toNat ≤ h 160 39) (e : qj_X13_member_170 nn l1 l2 l3 s0 l3 h = some r) : WM_ l3 h r := by
  have Q := okof (vj_X13_member_170 hn (by omega) (by omega) (by omega) (by omega) (by omega) (by omega) (by omega) (by omega) (by omega) (by omega) V x1 x2 x3 x4 rfl hz N) e
  unfold qj_X13_member_170 at e
  have e := wa_i e
  have V1 : VS_ (up_M h 182 l3.toNat s0) := wA_182 V (by omega)
  have f1 : ∀ c k, c ≠ 182 → up_M h 182 l3.toNat s0 c k = h c k := fun c k z => up_n (by omega)
  generalize up_M h 182 l3.toNat s0 = g1 at *
  have T1 : TS_ h g1 := ⟨f1 _ _ (by decide), fun k => ⟨f1 _ _ (by decide), f1 _ _ (by decide), f1 _ _ (by decide), f1 _ _ (by decide)⟩⟩
  by_cases q : g1 160 9 = 0
  · rw [if_pos q, xl_eq, xl_eq] at e
    have g28 := gF_160_28 V
    rw [f1 160 28 (by decide), oq_add_eq (by omega) (by omega) (by omega)] at e
    have V2 : VS_ (up_M g1 160 28 (h 160 28 + 1)) := wF_160_28 V1 (by omega)
    have f2 : ∀ c k, c ≠ 182 → ¬ (c = 160 ∧ k = 28) → up_M g1 160 28 (h 160 28 + 1) c k = h c k := fun c k z y => by rw [up_n y]; exact f1 c k z
    generalize up_M g1 160 28 (h 160 28 + 1) = g2 at *
    have T2 : TS_ h g2 := ⟨f2 _ _ (by decide) (by omega), fun k => ⟨f2 _ _ (by decide) (by omega), f2 _ _ (by decide) (by omega), f2 _ _ (by decide) (by omega), f2 _ _ (by decide) (by omega)⟩⟩
    have N2 := ek_ts N T2
    have c8 := f2 160 8 (by decide) (by omega)
    have c23 := f2 160 23 (by decide) (by omega)
    have c22 := f2 160 22 (by decide) (by omega)
    have c39 := f2 160 39 (by decide) (by omega)
    have z188 : ∀ k, g2 188 k = h 188 k := fun k => f2 _ _ (by decide) (by omega)
    have z181 : ∀ k, g2 181 k = h 181 k := fun k => f2 _ _ (by decide) (by omega)
    have z189 : ∀ k, g2 189 k = h 189 k := fun k => f2 _ _ (by decide) (by omega)
    have call : ∀ {u : ms_M}, qf_X13_sign_ nn 40 g2 = some u → qw_X13_member_234 nn nn l3 u = some r → WM_ l3 h r := fun {u} eu ew => by
      have S := okof (vf_X13_sign_ hn (by omega) (by omega) V2 (by omega) N2) eu
      have T : TS_ g2 u := ts_fr (fun c k w => (ff_X13_sign_ nn) _ eu c k w) rfl
      have t := T.1
      have p : u 160 39 = g2 160 39 := (ff_X13_sign_ nn) _ eu 160 39 rfl
      have n : u 160 22 = g2 160 22 := (ff_X13_sign_ nn) _ eu 160 22 rfl
      have y1 : u 188 l3.toNat = g2 188 l3.toNat := (ff_X13_sign_ nn) _ eu 188 _ (nw_ar rfl _)
      have y3 : u 189 l3.toNat = g2 189 l3.toNat := (ff_X13_sign_ nn) _ eu 189 _ (nw_ar rfl _)
      obtain ⟨VS, RS⟩ := S
      have K := wm_234 hn r3 nn VS (ek_ts N2 T) (by omega) (by omega) (by omega) (by rw [y1, y3, z188, z189]; omega) ew
      exact wm_t z188 z181 (fun k _ => z189 k) (wm_sg eu K)
    by_cases q1 : l1 = 0
    · rw [if_neg (fun z => z q1)] at e
      by_cases q2 : l2 = 0
      · rw [if_neg (fun z => z q2)] at e
        obtain ⟨u57, e57, e⟩ := sv_i e
        by_cases q3 : u57 = 0
        · rw [if_pos q3] at e
          obtain ⟨u, eu, e⟩ := sv_i e
          exact call eu e
        · rw [if_neg q3, xl_eq, xl_eq] at e
          have e := wa_i e
          have e := Option.some.inj e
          have a : ∀ c k, (c = 181 ∨ c = 188 ∨ c = 189 ∨ (c = 160 ∧ k = 39)) → r c k = h c k := fun c k hc => by
            rw [← e, up_n (by omega), up_n (by omega)]; exact f2 c k (by omega) (by omega)
          exact ⟨fun k => a _ _ (by omega), fun k => a _ _ (by omega), fun k _ => a _ _ (by omega), Q.1, by rw [a 188 _ (by omega), a 189 _ (by omega), a 160 39 (by omega)]; exact hs⟩
      · rw [if_pos q2] at e
        obtain ⟨u, eu, e⟩ := sv_i e
        exact call eu e
    · rw [if_pos q1] at e
      obtain ⟨u, eu, e⟩ := sv_i e
      exact call eu e
  · rw [if_neg q] at e
    have e := Option.some.inj e
    rw [← e]
    exact ⟨fun k => f1 _ _ (by decide), fun k => f1 _ _ (by decide), fun k _ => f1 _ _ (by decide), V1, by rw [f1 188 _ (by decide), f1 189 _ (by decide), f1 160 39 (by decide)]; exact hs⟩
/-- a member's row is written at its own place alone -/
def WN_ (h r : ms_M) : Prop := (∀ k, k ≠ (h 160 28).toNat → r 181 k = h 181 k ∧ r 188 k = h 188 k ∧ r 189 k = h 189 k) ∧ r 181 (h 160 28).toNat = h 160 24 - 1 ∧ r 188 (h 160 28).toNat + r 189 (h 160 28).toNat ≤ 1500
theorem wn_75 {nn : Nat} {l1 l2 : Int} {h r : ms_M} (hn : 1000000 ≤ nn) (rl : (0 ≤ l1 ∧ l1 ≤ 1) ∧ (0 ≤ l2 ∧ l2 ≤ 1)) (V : VS_ h) (N : EK_ h) (x1 : h 160 23 + 1 ≤ h 160 8) (x2 : h 160 22 ≤ 2 * h 160 23 + 30) (x3 : 2 * h 160 39 ≤ h 160 23) (x4 : h 160 28 ≤ 799) (x5 : 1 ≤ h 160 24) (e : qj_X13_member_75 nn l1 l2 h = some r) : WN_ h r := by
  have g28 := gF_160_28 V
  have g24 := gF_160_24 V
  have g39 := gF_160_39 V
  have g45 := gF_160_45 V
  have g46 := gF_160_46 V
  have g47 := gF_160_47 V
  unfold qj_X13_member_75 at e
  have e := wa_i e
  have V1 : VS_ (up_M h 183 (h 160 28).toNat (h 160 45)) := wA_183 V (by omega)
  have f1 : ∀ c k, c ≠ 183 → up_M h 183 (h 160 28).toNat (h 160 45) c k = h c k := fun c k z => up_n (by omega)
  generalize up_M h 183 (h 160 28).toNat (h 160 45) = g1 at *
  have e := wa_i e
  have V2 : VS_ (up_M g1 184 (h 160 28).toNat (g1 160 46)) := wA_184 V1 (by rw [f1 160 46 (by decide)]; omega)
  have f2 : ∀ c k, c ≠ 183 → c ≠ 184 → up_M g1 184 (h 160 28).toNat (g1 160 46) c k = h c k := fun c k z y => by rw [up_n (by omega)]; exact f1 c k z
  generalize up_M g1 184 (h 160 28).toNat (g1 160 46) = g2 at *
  have e := wz_i e
  have V3 : VS_ (up_M g2 185 (h 160 28).toNat (g2 160 47)) := wA_185 V2 (by rw [f2 160 47 (by decide) (by decide)]; omega)
  have f3 : ∀ c k, (c < 183 ∨ 185 < c) → up_M g2 185 (h 160 28).toNat (g2 160 47) c k = h c k := fun c k z => by rw [up_n (by omega)]; exact f2 c k (by omega) (by omega)
  generalize up_M g2 185 (h 160 28).toNat (g2 160 47) = g3 at *
  have T3 : TS_ h g3 := ⟨f3 _ _ (by omega), fun k => ⟨f3 _ _ (by omega), f3 _ _ (by omega), f3 _ _ (by omega), f3 _ _ (by omega)⟩⟩
  have N3 := ek_ts N T3
  obtain ⟨u, eu, e⟩ := sv_i e
  have c8 := f3 160 8 (by omega)
  have c23 := f3 160 23 (by omega)
  have S := okof (vf_X13_name hn V3 (by omega) N3) eu
  obtain ⟨Vu, au, bu, Ru⟩ := S
  have Tu : TS_ g3 u.2 := ts_fr (fun c k w => (ff_X13_name nn) _ eu c k w) rfl
  have tu := Tu.1
  have y : ∀ c k, (c = 181 ∨ c = 188 ∨ c = 189 ∨ (c = 160 ∧ (k = 39 ∨ k = 22 ∨ k = 24 ∨ k = 28))) → u.2 c k = h c k := by
    intro c k hc
    have w1 : u.2 c k = g3 c k := by
      rcases hc with rfl | rfl | rfl | ⟨rfl, rfl | rfl | rfl | rfl⟩
      · exact (ff_X13_name nn) _ eu 181 k (nw_ar rfl k)
      · exact (ff_X13_name nn) _ eu 188 k (nw_ar rfl k)
      · exact (ff_X13_name nn) _ eu 189 k (nw_ar rfl k)
      · exact (ff_X13_name nn) _ eu 160 39 rfl
      · exact (ff_X13_name nn) _ eu 160 22 rfl
      · exact (ff_X13_name nn) _ eu 160 24 rfl
      · exact (ff_X13_name nn) _ eu 160 28 rfl
    rw [w1]; exact f3 c k (by omega)
  generalize hu2 : u.2 = g4 at *
  have e := wa_i e
  have V5 : VS_ (up_M g4 186 (h 160 28).toNat u.1) := wA_186 Vu (by omega)
  have f5 : ∀ c k, c ≠ 186 → up_M g4 186 (h 160 28).toNat u.1 c k = g4 c k := fun c k z => up_n (by omega)
  generalize up_M g4 186 (h 160 28).toNat u.1 = g5 at *
  rw [xl_eq, f5 160 24 (by decide), y 160 24 (by omega), oq_sub_eq (by omega) (by omega) (by omega)] at e
  have e := wa_i e
  have V6 : VS_ (up_M g5 181 (h 160 28).toNat (h 160 24 - 1)) := wA_181 V5 (by omega)
  have f6 : ∀ c k, c ≠ 186 → ¬ (c = 181 ∧ k = (h 160 28).toNat) → up_M g5 181 (h 160 28).toNat (h 160 24 - 1) c k = g4 c k := fun c k z w => by rw [up_n w]; exact f5 c k z
  have s6 : up_M g5 181 (h 160 28).toNat (h 160 24 - 1) 181 (h 160 28).toNat = h 160 24 - 1 := up_s
  generalize up_M g5 181 (h 160 28).toNat (h 160 24 - 1) = g6 at *
  have e := wa_i e
  have p6 : g6 160 39 = h 160 39 := by rw [f6 160 39 (by decide) (by omega)]; exact y 160 39 (by omega)
  have V7 : VS_ (up_M g6 188 (h 160 28).toNat (g6 160 39)) := wA_188 V6 (by omega)
  have f7 : ∀ c k, c ≠ 186 → ¬ ((c = 181 ∨ c = 188) ∧ k = (h 160 28).toNat) → up_M g6 188 (h 160 28).toNat (g6 160 39) c k = g4 c k := fun c k z w => by rw [up_n (by omega)]; exact f6 c k z (by omega)
  have s7 : up_M g6 188 (h 160 28).toNat (g6 160 39) 188 (h 160 28).toNat = h 160 39 := by rw [up_s]; exact p6
  have s7a : up_M g6 188 (h 160 28).toNat (g6 160 39) 181 (h 160 28).toNat = h 160 24 - 1 := by rw [up_n (by omega)]; exact s6
  generalize up_M g6 188 (h 160 28).toNat (g6 160 39) = g7 at *
  have e := wa_i e
  have V8 : VS_ (up_M g7 189 (h 160 28).toNat 0) := wA_189 V7 (by omega)
  have f8 : ∀ c k, c ≠ 186 → ¬ ((c = 181 ∨ c = 188 ∨ c = 189) ∧ k = (h 160 28).toNat) → up_M g7 189 (h 160 28).toNat 0 c k = g4 c k := fun c k z w => by rw [up_n (by omega)]; exact f7 c k z (by omega)
  have s8 : up_M g7 189 (h 160 28).toNat 0 188 (h 160 28).toNat = h 160 39 := by rw [up_n (by omega)]; exact s7
  have s8a : up_M g7 189 (h 160 28).toNat 0 181 (h 160 28).toNat = h 160 24 - 1 := by rw [up_n (by omega)]; exact s7a
  have s8b : up_M g7 189 (h 160 28).toNat 0 189 (h 160 28).toNat = 0 := up_s
  generalize up_M g7 189 (h 160 28).toNat 0 = g8 at *
  have e := wa_i e
  have V9 : VS_ (up_M g8 190 (h 160 28).toNat (-1)) := wA_190 V8 (by omega)
  have f9 : ∀ c k, (c < 186 ∨ 190 < c) → ¬ (c = 181 ∧ k = (h 160 28).toNat) → up_M g8 190 (h 160 28).toNat (-1) c k = g4 c k := fun c k z w => by rw [up_n (by omega)]; exact f8 c k (by omega) (by omega)
  have f9a : ∀ c k, c ≠ 190 → up_M g8 190 (h 160 28).toNat (-1) c k = g8 c k := fun c k z => up_n (by omega)
  generalize up_M g8 190 (h 160 28).toNat (-1) = g9 at *
  have T9 : TS_ g4 g9 := ⟨f9 _ _ (by omega) (by omega), fun k => ⟨f9 _ _ (by omega) (by omega), f9 _ _ (by omega) (by omega), f9 _ _ (by omega) (by omega), f9 _ _ (by omega) (by omega)⟩⟩
  have N9 := ek_ts (ek_ts N3 Tu) T9
  have t9 := T9.1
  have d23 := f9 160 23 (by omega) (by omega)
  have d22 := f9 160 22 (by omega) (by omega)
  have d39 := f9 160 39 (by omega) (by omega)
  have d28 := f9 160 28 (by omega) (by omega)
  have y22 := y 160 22 (by omega)
  have y39 := y 160 39 (by omega)
  have y28 := y 160 28 (by omega)
  have z188 := f9a 188 (h 160 28).toNat (by decide)
  have z189 := f9a 189 (h 160 28).toNat (by decide)
  have W : WM_ (h 160 28) g9 r := by
    by_cases q : l1 = 0
    · rw [if_pos q] at e
      exact wm_170 hn (by omega) (by omega) rl V9 N9 (by omega) (by omega) (by omega) (by omega) (by omega) (by omega) e
    · rw [if_neg q] at e
      exact wm_170 hn (by omega) (by omega) rl V9 N9 (by omega) (by omega) (by omega) (by omega) (by omega) (by omega) e
  have gr := gF_160_39 W.2.2.2.1
  refine ⟨fun k hk => ⟨?_, ?_, ?_⟩, ?_, ?_⟩
  · rw [W.2.1, f9a 181 k (by decide), f8 181 k (by decide) (by omega)]; exact y 181 k (by omega)
  · rw [W.1, f9a 188 k (by decide), f8 188 k (by decide) (by omega)]; exact y 188 k (by omega)
  · rw [W.2.2.1 k hk, f9a 189 k (by decide), f8 189 k (by decide) (by omega)]; exact y 189 k (by omega)
  · rw [W.2.1, f9a 181 _ (by decide)]; exact s8a
  · have := W.2.2.2.2; omega

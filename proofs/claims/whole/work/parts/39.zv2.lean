/-- what a member leaves of the rows of members -/
def WM_ (l3 : Int) (h r : ms_M) : Prop := (∀ k, r 188 k = h 188 k) ∧ (∀ k, r 181 k = h 181 k) ∧ (∀ k, k ≠ l3.toNat → r 189 k = h 189 k) ∧ (VS_ r ∧ r 188 l3.toNat + r 189 l3.toNat ≤ r 160 39)
section
variable {nn : Nat} {l3 : Int}
theorem wm_360 (hn : 1000000 ≤ nn) (r3 : 0 ≤ l3 ∧ l3 ≤ 799) {h r : ms_M} (V : VS_ h) (N : EK_ h) (x1 : h 160 23 + 1 ≤ h 160 8) (x2 : h 160 22 ≤ 2 * h 160 23 + 30) (x3 : 2 * h 160 39 ≤ h 160 23) (hs : h 188 l3.toNat + h 189 l3.toNat ≤ h 160 39) (e : qj_X13_member_360 nn l3 h = some r) : WM_ l3 h r := by
  have Q := okof (vj_X13_member_360 hn (by omega) (by omega) V x1 x2 x3 N) e
  unfold qj_X13_member_360 at e
  obtain ⟨u2, e2, e⟩ := sv_i e
  obtain ⟨u5, e5, e⟩ := sv_i e
  have e := wa_i e
  have e := Option.some.inj e
  have a : ∀ c k, (c = 181 ∨ c = 188 ∨ c = 189 ∨ (c = 160 ∧ k = 39)) → r c k = h c k := by
    intro c k hc
    rw [← e, up_n (by omega)]
    have f1 : u5.2 c k = u2 c k := by
      rcases hc with rfl | rfl | rfl | ⟨rfl, rfl⟩
      · exact (ff_X13_block nn) _ e5 181 k (nw_ar rfl k)
      · exact (ff_X13_block nn) _ e5 188 k (nw_ar rfl k)
      · exact (ff_X13_block nn) _ e5 189 k (nw_ar rfl k)
      · exact (ff_X13_block nn) _ e5 160 39 rfl
    have f2 : u2 c k = h c k := by
      rcases hc with rfl | rfl | rfl | ⟨rfl, rfl⟩
      · exact (ff_X13_sign_ nn) _ e2 181 k (nw_ar rfl k)
      · exact (ff_X13_sign_ nn) _ e2 188 k (nw_ar rfl k)
      · exact (ff_X13_sign_ nn) _ e2 189 k (nw_ar rfl k)
      · exact (ff_X13_sign_ nn) _ e2 160 39 rfl
    rw [f1, f2]
  exact ⟨fun k => a _ _ (by omega), fun k => a _ _ (by omega), fun k _ => a _ _ (by omega), Q.1, by rw [a 188 _ (by omega), a 189 _ (by omega), a 160 39 (by omega)]; exact hs⟩
theorem wm_t {h g r : ms_M} (A : ∀ k, g 188 k = h 188 k) (B : ∀ k, g 181 k = h 181 k) (C : ∀ k, k ≠ l3.toNat → g 189 k = h 189 k) (W : WM_ l3 g r) : WM_ l3 h r := ⟨fun k => (W.1 k).trans (A k), fun k => (W.2.1 k).trans (B k), fun k z => (W.2.2.1 k z).trans (C k z), W.2.2.2⟩
theorem wm_269 (hn : 1000000 ≤ nn) (r3 : 0 ≤ l3 ∧ l3 ≤ 799) {qk : Int → ms_M → Option ms_M} {r : ms_M} (hk : ∀ {g : ms_M}, VS_ g → EK_ g → g 160 23 + 1 ≤ g 160 8 → g 160 22 ≤ 2 * g 160 23 + 30 → 2 * g 160 39 ≤ g 160 23 → g 188 l3.toNat + g 189 l3.toNat ≤ g 160 39 → qk l3 g = some r → WM_ l3 g r) {h : ms_M} (V : VS_ h) (N : EK_ h) (x1 : h 160 23 + 1 ≤ h 160 8) (x2 : h 160 22 ≤ 2 * h 160 23 + 30) (x3 : 2 * h 160 39 ≤ h 160 23) (hs : h 188 l3.toNat + h 189 l3.toNat ≤ h 160 39) (e : qj_X13_member_269 nn qk l3 h = some r) : WM_ l3 h r := by
  unfold qj_X13_member_269 at e
  obtain ⟨u8, e8, e⟩ := sv_i e
  have Q8 := okof (vf_X13_type hn V x1 N) e8
  obtain ⟨V8, R8⟩ := Q8
  have T8 : TS_ h u8 := ts_fr (fun c k w => (ff_X13_type nn) _ e8 c k w) rfl
  have N8 := ek_ts N T8
  have t8 := T8.1
  have p8 : u8 160 39 = h 160 39 := (ff_X13_type nn) _ e8 160 39 rfl
  have n8 : u8 160 22 = h 160 22 := (ff_X13_type nn) _ e8 160 22 rfl
  obtain ⟨u10, e10, e⟩ := sv_i e
  have Q10 := okof (vf_X13_name hn V8 (by omega) N8) e10
  obtain ⟨V10, a10, b10, R10⟩ := Q10
  have T10 : TS_ u8 u10.2 := ts_fr (fun c k w => (ff_X13_name nn) _ e10 c k w) rfl
  have t10 := T10.1
  have p10 : u10.2 160 39 = u8 160 39 := (ff_X13_name nn) _ e10 160 39 rfl
  have n10 : u10.2 160 22 = u8 160 22 := (ff_X13_name nn) _ e10 160 22 rfl
  have a188 : ∀ k, u10.2 188 k = h 188 k := fun k => by
    have y1 : u10.2 188 k = u8 188 k := (ff_X13_name nn) _ e10 188 k (nw_ar rfl k)
    have y2 : u8 188 k = h 188 k := (ff_X13_type nn) _ e8 188 k (nw_ar rfl k)
    rw [y1, y2]
  have a181 : ∀ k, u10.2 181 k = h 181 k := fun k => by
    have y1 : u10.2 181 k = u8 181 k := (ff_X13_name nn) _ e10 181 k (nw_ar rfl k)
    have y2 : u8 181 k = h 181 k := (ff_X13_type nn) _ e8 181 k (nw_ar rfl k)
    rw [y1, y2]
  have a189 : ∀ k, u10.2 189 k = h 189 k := fun k => by
    have y1 : u10.2 189 k = u8 189 k := (ff_X13_name nn) _ e10 189 k (nw_ar rfl k)
    have y2 : u8 189 k = h 189 k := (ff_X13_type nn) _ e8 189 k (nw_ar rfl k)
    rw [y1, y2]
  by_cases q : u10.2 160 9 = 0
  · rw [if_pos q] at e
    have g39 := gF_160_39 V
    have g45 := gF_160_45 V10
    have g46 := gF_160_46 V10
    have g47 := gF_160_47 V10
    have g23 := gF_160_23 V10
    generalize u10.2 = g0 at *
    have e := wa_i e
    have W1 : VS_ (up_M g0 191 (g0 160 39).toNat (g0 160 45)) := wA_191 V10 (by omega)
    have f1 : ∀ c k, c ≠ 191 → up_M g0 191 (g0 160 39).toNat (g0 160 45) c k = g0 c k := fun c k z => up_n (by omega)
    generalize up_M g0 191 (g0 160 39).toNat (g0 160 45) = g1 at *
    have e := wa_i e
    have W2 : VS_ (up_M g1 192 (g1 160 39).toNat (g1 160 46)) := wA_192 W1 (by rw [f1 160 46 (by decide)]; omega)
    have f2 : ∀ c k, c ≠ 191 → c ≠ 192 → up_M g1 192 (g1 160 39).toNat (g1 160 46) c k = g0 c k := fun c k z y => by rw [up_n (by omega)]; exact f1 c k z
    generalize up_M g1 192 (g1 160 39).toNat (g1 160 46) = g2 at *
    have e := wz_i e
    have W3 : VS_ (up_M g2 193 (g2 160 39).toNat (g2 160 47)) := wA_193 W2 (by rw [f2 160 47 (by decide) (by decide)]; omega)
    have f3 : ∀ c k, (c < 191 ∨ 193 < c) → up_M g2 193 (g2 160 39).toNat (g2 160 47) c k = g0 c k := fun c k z => by rw [up_n (by omega)]; exact f2 c k (by omega) (by omega)
    generalize up_M g2 193 (g2 160 39).toNat (g2 160 47) = g3 at *
    have e := wa_i e
    have W4 : VS_ (up_M g3 194 (g3 160 39).toNat u10.1) := wA_194 W3 (by omega)
    have f4 : ∀ c k, (c < 191 ∨ 194 < c) → up_M g3 194 (g3 160 39).toNat u10.1 c k = g0 c k := fun c k z => by rw [up_n (by omega)]; exact f3 c k (by omega)
    generalize up_M g3 194 (g3 160 39).toNat u10.1 = g4 at *
    rw [xl_eq, xl_eq, f4 160 39 (by omega), oq_add_eq (by omega) (by omega) (by omega)] at e
    have W5 : VS_ (up_M g4 160 39 (g0 160 39 + 1)) := wF_160_39 W4 (by omega)
    have f5 : ∀ c k, (c < 191 ∨ 194 < c) → ¬ (c = 160 ∧ k = 39) → up_M g4 160 39 (g0 160 39 + 1) c k = g0 c k := fun c k z y => by rw [up_n y]; exact f4 c k z
    have p5 : up_M g4 160 39 (g0 160 39 + 1) 160 39 = g0 160 39 + 1 := up_s
    generalize up_M g4 160 39 (g0 160 39 + 1) = g5 at *
    have e := rd_i e
    rw [xl_eq, f5 189 _ (by omega) (by omega)] at e
    have s188 := gA_188 V l3.toNat (by omega)
    have s189 := gA_189 V l3.toNat (by omega)
    have s0 := a189 l3.toNat
    have s1 := a188 l3.toNat
    rw [oq_add_eq (by omega) (by omega) (by omega)] at e
    have e := wa_i e
    have W6 : VS_ (up_M g5 189 l3.toNat (g0 189 l3.toNat + 1)) := wA_189 W5 (by omega)
    have f6 : ∀ c k, (c < 191 ∨ 194 < c) → ¬ (c = 160 ∧ k = 39) → ¬ (c = 189 ∧ k = l3.toNat) → up_M g5 189 l3.toNat (g0 189 l3.toNat + 1) c k = g0 c k := fun c k z y w => by rw [up_n w]; exact f5 c k z y
    have p6 : up_M g5 189 l3.toNat (g0 189 l3.toNat + 1) 160 39 = g0 160 39 + 1 := by rw [up_n (by omega)]; exact p5
    have q6 : up_M g5 189 l3.toNat (g0 189 l3.toNat + 1) 189 l3.toNat = g0 189 l3.toNat + 1 := up_s
    generalize up_M g5 189 l3.toNat (g0 189 l3.toNat + 1) = g6 at *
    have T6 : TS_ g0 g6 := ⟨f6 _ _ (by omega) (by omega) (by omega), fun k => ⟨f6 _ _ (by omega) (by omega) (by omega), f6 _ _ (by omega) (by omega) (by omega), f6 _ _ (by omega) (by omega) (by omega), f6 _ _ (by omega) (by omega) (by omega)⟩⟩
    have c6 : g6 160 23 = g0 160 23 := f6 _ _ (by omega) (by omega) (by omega)
    have n6 : g6 160 22 = g0 160 22 := f6 _ _ (by omega) (by omega) (by omega)
    have t6 := T6.1
    have z188 : g6 188 l3.toNat = g0 188 l3.toNat := f6 _ _ (by omega) (by omega) (by omega)
    have K := hk W6 (ek_ts (ek_ts N8 T10) T6) (by omega) (by omega) (by omega) (by omega) e
    exact wm_t (fun k => by rw [f6 188 k (by omega) (by omega) (by omega)]; exact a188 k) (fun k => by rw [f6 181 k (by omega) (by omega) (by omega)]; exact a181 k) (fun k z => by rw [f6 189 k (by omega) (by omega) (by omega)]; exact a189 k) K
  · rw [if_neg q] at e
    have e := Option.some.inj e
    rw [← e]
    exact ⟨a188, a181, fun k _ => a189 k, V10, by rw [a188, a189]; omega⟩
theorem wm_234 (hn : 1000000 ≤ nn) (r3 : 0 ≤ l3 ∧ l3 ≤ 799) {r : ms_M} : ∀ (k : Nat) {h : ms_M}, VS_ h → EK_ h → h 160 23 + 1 ≤ h 160 8 → h 160 22 ≤ 2 * h 160 23 + 30 → 2 * h 160 39 ≤ h 160 23 → h 188 l3.toNat + h 189 l3.toNat ≤ h 160 39 → qw_X13_member_234 nn k l3 h = some r → WM_ l3 h r := by
  intro k
  induction k with
  | zero => intro h V N x1 x2 x3 hs e; cases e
  | succ k ih =>
    intro h V N x1 x2 x3 hs e
    unfold qw_X13_member_234 at e
    by_cases q : h 160 9 = 0
    · rw [if_neg (fun z => z q)] at e
      obtain ⟨u38, e38, e⟩ := sv_i e
      by_cases q2 : u38 = 0
      · rw [if_neg (fun z => z q2)] at e
        have e := rd_i e
        by_cases q3 : h 189 l3.toNat ≤ 0
        · rw [if_pos q3] at e
          exact wm_269 hn r3 (fun a b c d f g z => ih a b c d f g z) V N x1 x2 x3 hs e
        · rw [if_neg q3] at e
          obtain ⟨u42, e42, e⟩ := sv_i e
          have Q := okof (vf_X13_sign_ hn (by omega) (by omega) V x1 N) e42
          have T : TS_ h u42 := ts_fr (fun c k w => (ff_X13_sign_ nn) _ e42 c k w) rfl
          have t := T.1
          have p : u42 160 39 = h 160 39 := (ff_X13_sign_ nn) _ e42 160 39 rfl
          have n : u42 160 22 = h 160 22 := (ff_X13_sign_ nn) _ e42 160 22 rfl
          have y1 : ∀ k, u42 188 k = h 188 k := fun k => (ff_X13_sign_ nn) _ e42 188 k (nw_ar rfl k)
          have y2 : ∀ k, u42 181 k = h 181 k := fun k => (ff_X13_sign_ nn) _ e42 181 k (nw_ar rfl k)
          have y3 : ∀ k, u42 189 k = h 189 k := fun k => (ff_X13_sign_ nn) _ e42 189 k (nw_ar rfl k)
          obtain ⟨VQ, RQ⟩ := Q
          have K := wm_269 hn r3 (fun a b c d f g z => ih a b c d f g z) VQ (ek_ts N T) (by omega) (by omega) (by omega) (by rw [y1, y3]; omega) e
          exact wm_t y1 y2 (fun k _ => y3 k) K
      · rw [if_pos q2] at e
        exact wm_360 hn r3 V N x1 x2 x3 hs e
    · rw [if_pos q] at e
      exact wm_360 hn r3 V N x1 x2 x3 hs e
end

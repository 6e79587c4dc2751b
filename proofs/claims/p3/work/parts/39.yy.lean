/-- one turn of a run: a step, and what it throws -/
def TN2_ (nn : Nat) (u g : ms_M) : Prop := (u 143 20 ≤ 0 ∧ g = up_M u 143 20 0) ∨ (0 < u 143 20 ∧ ∃ w, qf_X5_throwUp nn (u 143 20) u = some w ∧ g = up_M w 143 20 0)
def TN_ (nn : Nat) (h g : ms_M) : Prop := ∃ u, qf_X5_step nn h = some u ∧ ((0 ≤ u 143 20 ∧ TN2_ nn u g) ∨ (u 143 20 < 0 ∧ ∃ w, qf_X5_make nn (oq_neg (u 143 20)) 0 u = some w ∧ TN2_ nn (up_M w.2 143 20 w.1) g))
theorem mk_st {nn : Nat} {a b : Int} {h : ms_M} {r : Int × ms_M} (e : qf_X5_make nn a b h = some r) : r.2 143 1 = h 143 1 ∨ r.2 143 1 = 4 := by
  have bad : ∀ {r : Int × ms_M}, qj_X5_make_26 nn h = some r → r.2 143 1 = 4 := fun z => by
    unfold qj_X5_make_26 at z
    rw [xl_eq] at z
    have z := Option.some.inj z
    rw [← z]
    show up_M h 143 1 4 143 1 = 4
    exact up_s
  unfold qf_X5_make at e
  by_cases q : 2000 ≤ h 143 4
  · rw [if_pos q] at e; exact .inr (bad e)
  · rw [if_neg q] at e
    by_cases q2 : b < 0
    · rw [if_pos q2] at e; exact .inr (bad e)
    · rw [if_neg q2, xl_eq] at e
      split at e
      · left
        rw [xl_eq, xl_eq] at e
        have e := wa_i e
        have e := wa_i e
        rw [xl_eq] at e
        obtain ⟨u, eu, e⟩ := sv_i e
        rw [xl_eq, xl_eq, xl_eq] at e
        have e := wa_i e
        have e := Option.some.inj e
        have f := (ff_J7_fill_fda19 nn) _ eu 143 1 (show 143 ≠ 147 by decide)
        have f2 : u 143 1 = h 143 1 := by
          refine Eq.trans f ?_
          rw [up_n (by omega), up_n (by omega), up_n (by omega)]
        rw [← e]
        dsimp only
        rw [up_n (by omega), up_n (by omega)]; exact f2
      · exact .inr (bad e)
section
variable {nn : Nat} {W : ms_M → Prop} {Z : Int}
/-- a run is safe where every turn keeps W, and W tells of the links -/
theorem go_55 {qk : Int → Int → ms_M → Option (Int × ms_M)} {l1 l2 : Int} {h : ms_M} {p : Int} {Q : Int × ms_M → Prop} (r2 : 0 ≤ l2 ∧ l2 ≤ 20000) (C : CI_ p h) (hk : ∀ {g : ms_M}, g = up_M h 143 20 0 → CI_ p g → Ok_ (qk l1 (l2 + 1) g) Q) : Ok_ (qj_X5_go_55 nn qk l1 l2 h) Q := by
  unfold qj_X5_go_55
  refine ok_xl ?_; intro h4 E4
  refine ok_add (by omega) ?_; intro v5 e5
  rw [e5]
  refine hk E4 ?_
  have V4 : VS_ h4 := by rw [E4]; exact wF_143_20 C.1 (by omega)
  have f : ∀ c k, ¬ (c = 143 ∧ k = 20) → h4 c k = h c k := fun c k z => by rw [E4]; exact up_n z
  refine ⟨V4, nm_eq C.2.1 (fun k => f _ _ (by omega)) (f _ _ (by omega)), si_eq C.1 C.2.2.1 (fun k => f _ _ (by omega)) (f _ _ (by omega)) (fun b hb => ?_), ?_, ?_⟩
  · have := im_at hb
    exact ⟨f _ _ (by omega), fun k => f _ _ (by omega)⟩
  · rw [f _ _ (by omega), f _ _ (by omega)]; exact C.2.2.2.1
  · rw [f _ _ (by omega)]; exact C.2.2.2.2
theorem go_40 (hn : 1000000 ≤ nn) {qk : Int → Int → ms_M → Option (Int × ms_M)} {l1 l2 : Int} {h : ms_M} {p : Int} {Q : Int × ms_M → Prop} (r2 : 0 ≤ l2 ∧ l2 ≤ 20000) (C : CI_ p h) (hk : ∀ {g : ms_M}, TN2_ nn h g → CI_ p g → Ok_ (qk l1 (l2 + 1) g) Q) : Ok_ (qj_X5_go_40 nn qk l1 l2 h) Q := by
  unfold qj_X5_go_40
  refine ok_if (fun c => go_55 r2 C (fun e Cg => hk (.inl ⟨c, e⟩) Cg)) (fun c => ?_)
  have g20 := gF_143_20 C.1
  refine ok_cVR (vf_X5_throwUp hn (by omega) (by omega) C.1) ?_; intro u9 E9 V9 R9
  have s7 : u9 143 7 = h 143 7 := (ff_X5_throwUp nn) _ E9 143 7 rfl
  refine go_55 r2 ⟨V9, nm_eq C.2.1 (fun k => (ff_X5_throwUp nn) _ E9 7 k (nw_ar rfl k)) ((ff_X5_throwUp nn) _ E9 2 9 rfl), si_fr C.1 C.2.2.1 (fun c k w => (ff_X5_throwUp nn) _ E9 c k w) rfl, R9, by rw [s7]; exact C.2.2.2.2⟩ (fun e Cg => hk (.inr ⟨by omega, u9, E9, e⟩) Cg)
theorem go_2 (hn : 1000000 ≤ nn) (w1 : ∀ h, W h → h 143 1 = 1 → LKs_ nn h) (w2 : ∀ h g, VS_ h → SI_ h → W h → h 143 1 = 1 → TN_ nn h g → W g) (w3 : ∀ h v, W h → W (up_M h 143 3 v)) {l1 : Int} (r1 : l1 ≤ 20000) : ∀ (k : Nat) (l2 : Int) {h : ms_M} {p : Int}, CI_ p h → W h → (0 ≤ l2 ∧ l2 ≤ 20000) → p + (20000 - l2) ≤ Z → Z ≤ 1900000000 → 20001 - l2 < (k : Int) → Ok_ (qw_X5_go_2 nn k l1 l2 h) (fun r => CI_ Z r.2 ∧ W r.2) := by
  intro k
  induction k with
  | zero => intro l2 h p C w r2 hz hZ hm; exfalso; omega
  | succ k ih =>
    intro l2 h p C w r2 hz hZ hm
    have fin : Ok_ (qj_X5_go_66 nn l2 h) (fun r => CI_ Z r.2 ∧ W r.2) := by
      have g3 := gF_143_3 C.1
      unfold qj_X5_go_66
      refine ok_xl ?_; intro v2 e2
      refine ok_xl ?_; intro h3 E3
      have b : -2147483648 ≤ v2 ∧ v2 ≤ 2147483647 := by
        rw [e2]
        have e : oq_add (h 143 3) l2 = (Int32.ofInt (h 143 3) + Int32.ofInt l2).toInt := rfl
        rw [e]
        exact ⟨Int.le_trans (by decide) (Int32.le_toInt _), Int.le_of_lt_add_one (Int.lt_of_lt_of_le (Int32.toInt_lt _) (by decide))⟩
      have V3 : VS_ h3 := by rw [E3]; exact wF_143_3 C.1 b
      have f : ∀ c k, ¬ (c = 143 ∧ k = 3) → h3 c k = h c k := fun c k z => by rw [E3]; exact up_n z
      refine ok_ret ⟨⟨V3, nm_eq C.2.1 (fun k => f _ _ (by omega)) (f _ _ (by omega)), si_eq C.1 C.2.2.1 (fun k => f _ _ (by omega)) (f _ _ (by omega)) (fun b hb => ?_), ?_, ?_⟩, ?_⟩
      · have := im_at hb
        exact ⟨f _ _ (by omega), fun k => f _ _ (by omega)⟩
      · show ¬ h3 143 1 = 1 ∨ 1 ≤ h3 143 6
        rw [f _ _ (by omega), f _ _ (by omega)]; exact C.2.2.2.1
      · show h3 143 7 ≤ Z
        rw [f _ _ (by omega)]; have := C.2.2.2.2; omega
      · show W h3
        rw [E3]; exact w3 h v2 w
    unfold qw_X5_go_2
    refine ok_if (fun _ => fin) (fun c1 => ?_)
    refine ok_if (fun _ => fin) (fun c2 => ?_)
    have c2 : h 143 1 = 1 := Decidable.not_not.1 c2
    have d1 : 1 ≤ h 143 6 := by have := C.2.2.2.1; omega
    have pb := C.2.2.2.2
    refine ok_cVR (vf_X5_step hn C.1 d1 (by omega) (w1 h w c2) C.2.2.1) ?_; intro u13 E13 V13 R13
    have C13 : CI_ (p + 1) u13 := ⟨V13, nm_eq C.2.1 (fun k => (ff_X5_step nn) _ E13 7 k (nw_ar rfl k)) ((ff_X5_step nn) _ E13 2 9 rfl), si_fr C.1 C.2.2.1 (fun c k w => (ff_X5_step nn) _ E13 c k w) rfl, R13.1, by have := R13.2; omega⟩
    have nx : ∀ {g : ms_M}, TN_ nn h g → CI_ (p + 1) g → Ok_ (qw_X5_go_2 nn k l1 (l2 + 1) g) (fun r => CI_ Z r.2 ∧ W r.2) := fun t Cg => ih (l2 + 1) Cg (w2 h _ C.1 C.2.2.1 w c2 t) (by omega) (by omega) hZ (by omega)
    refine ok_if (fun c3 => go_40 hn r2 C13 (fun t Cg => nx ⟨u13, E13, .inl ⟨c3, t⟩⟩ Cg)) (fun c3 => ?_)
    refine ok_xl ?_; intro v16 e16
    have b : -2147483648 ≤ v16 ∧ v16 ≤ 2147483647 := by
      rw [e16]
      have e : oq_neg (u13 143 20) = (-(Int32.ofInt (u13 143 20))).toInt := rfl
      rw [e]
      exact ⟨Int.le_trans (by decide) (Int32.le_toInt _), Int.le_of_lt_add_one (Int.lt_of_lt_of_le (Int32.toInt_lt _) (by decide))⟩
    refine ok_cI (vf_X5_make hn b.1 b.2 (by omega) (by omega) V13) ?_; intro u18 E18 V18 a18 b18
    refine ok_xl ?_; intro h19 E19
    have V19 : VS_ h19 := by rw [E19]; exact wF_143_20 V18 (by omega)
    have m1 := mk_st E18
    have m6 : u18.2 143 6 = u13 143 6 := (ff_X5_make nn) _ E18 143 6 rfl
    have m7 : u18.2 143 7 = u13 143 7 := (ff_X5_make nn) _ E18 143 7 rfl
    have f : ∀ c k, ¬ (c = 143 ∧ k = 20) → h19 c k = u18.2 c k := fun c k z => by rw [E19]; exact up_n z
    have N18 : NM_ u18.2 := nm_eq C13.2.1 (fun k => (ff_X5_make nn) _ E18 7 k (nw_ar rfl k)) ((ff_X5_make nn) _ E18 2 9 rfl)
    have S18 : SI_ u18.2 := si_fr V13 C13.2.2.1 (fun c k w => (ff_X5_make nn) _ E18 c k w) rfl
    have q1 := f 143 1 (by omega)
    have q6 := f 143 6 (by omega)
    have q7 := f 143 7 (by omega)
    have r13 := R13.1
    have C19 : CI_ (p + 1) h19 := by
      refine ⟨V19, nm_eq N18 (fun k => f _ _ (by omega)) (f _ _ (by omega)), si_eq V18 S18 (fun k => f _ _ (by omega)) (f _ _ (by omega)) (fun b hb => ?_), by omega, by have := C13.2.2.2.2; omega⟩
      have := im_at hb
      exact ⟨f _ _ (by omega), fun k => f _ _ (by omega)⟩
    refine go_40 hn r2 C19 (fun t Cg => nx ⟨u13, E13, .inr ⟨by omega, u18, by rw [← e16]; exact E18, by rw [← E19]; exact t⟩⟩ Cg)
theorem ci_run (hn : 1000000 ≤ nn) (w1 : ∀ h, W h → h 143 1 = 1 → LKs_ nn h) (w2 : ∀ h g, VS_ h → SI_ h → W h → h 143 1 = 1 → TN_ nn h g → W g) (w3 : ∀ h v, W h → W (up_M h 143 3 v)) {a1 p : Int} {h : ms_M} (C : CI_ p h) (w : W h) (hz : p + 20000 ≤ Z) (hZ : Z ≤ 1900000000) : Ok_ (qf_X12_run nn a1 h) (fun r => CI_ Z r.2 ∧ W r.2) := by
  have C2 : CI_ Z h := ⟨C.1, C.2.1, C.2.2.1, C.2.2.2.1, by have := C.2.2.2.2; omega⟩
  unfold qf_X12_run
  refine ok_if (fun _ => ok_ret ⟨C2, w⟩) (fun c1 => ?_)
  refine ok_if (fun c2 => ?_) (fun _ => ok_ret ⟨C2, w⟩)
  obtain ⟨u, eu, Q⟩ := go_2 hn w1 w2 w3 (Z := Z) c2 nn 0 C w (by omega) (by omega) hZ (by omega)
  have eu : qf_X5_go nn a1 h = some u := eu
  rw [eu, mx_svs]
  exact ok_ret Q
end

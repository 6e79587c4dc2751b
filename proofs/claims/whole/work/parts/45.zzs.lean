/- all E of both sides -/
def EAl (nn : Nat) (X : BCx) : LkT := fun d s i l a b p q e => (0 ≤ d ∧ (s = 1 → 1 ≤ d)) → ∀ pn qn : Nat, p = (pn : Int) → q = (qn : Int) → (s = 0 → E0 nn X d i a b pn qn e) ∧ (s = 1 → S1 nn X d i l a b pn qn e) ∧ (s = 2 → E2 nn X d i a b pn qn e) ∧ (s = 3 → P3 nn X d i a b pn qn e) ∧ (s = 4 → ∀ tn : Nat, qn = tn + 1 → A4 nn X d a b pn tn e) ∧ (s = 5 → ∀ tn : Nat, qn = tn + 1 → A5 nn X d a b pn tn e)
section
variable {nn : Nat} {X : BCx}
theorem kt_e {K : Nat → Int} {p : Int} {n : Nat} (h : p = (n : Int)) : K p.toNat = K n := by rw [h, Int.toNat_natCast]
theorem kt_f {K : Nat → Int} {p v : Int} {n : Nat} (h : p = (n : Int)) (e : K p.toNat = v) : K n = v := by rw [h, Int.toNat_natCast] at e; exact e
theorem kt_g {K : Nat → Int} {p v : Int} {n : Nat} (h : p = (n : Int)) (e : ¬ K p.toNat = v) : ¬ K n = v := by rw [h, Int.toNat_natCast] at e; exact e
theorem ex_n {t : Int} (h : 0 ≤ t) : ∃ n : Nat, t = (n : Int) := ⟨t.toNat, by omega⟩
theorem el_0 {d i l a b e : Int} {pn qn : Nat} (H : E0 nn X d i a b pn qn e) : ((0 : Nat) = 0 → E0 nn X d i a b pn qn e) ∧ ((0 : Nat) = 1 → S1 nn X d i l a b pn qn e) ∧ ((0 : Nat) = 2 → E2 nn X d i a b pn qn e) ∧ ((0 : Nat) = 3 → P3 nn X d i a b pn qn e) ∧ ((0 : Nat) = 4 → ∀ tn : Nat, qn = tn + 1 → A4 nn X d a b pn tn e) ∧ ((0 : Nat) = 5 → ∀ tn : Nat, qn = tn + 1 → A5 nn X d a b pn tn e) := ⟨fun _ => H, fun z => absurd z (by decide), fun z => absurd z (by decide), fun z => absurd z (by decide), fun z => absurd z (by decide), fun z => absurd z (by decide)⟩
theorem el_1 {d i l a b e : Int} {pn qn : Nat} (H : S1 nn X d i l a b pn qn e) : ((1 : Nat) = 0 → E0 nn X d i a b pn qn e) ∧ ((1 : Nat) = 1 → S1 nn X d i l a b pn qn e) ∧ ((1 : Nat) = 2 → E2 nn X d i a b pn qn e) ∧ ((1 : Nat) = 3 → P3 nn X d i a b pn qn e) ∧ ((1 : Nat) = 4 → ∀ tn : Nat, qn = tn + 1 → A4 nn X d a b pn tn e) ∧ ((1 : Nat) = 5 → ∀ tn : Nat, qn = tn + 1 → A5 nn X d a b pn tn e) := ⟨fun z => absurd z (by decide), fun _ => H, fun z => absurd z (by decide), fun z => absurd z (by decide), fun z => absurd z (by decide), fun z => absurd z (by decide)⟩
theorem el_2 {d i l a b e : Int} {pn qn : Nat} (H : E2 nn X d i a b pn qn e) : ((2 : Nat) = 0 → E0 nn X d i a b pn qn e) ∧ ((2 : Nat) = 1 → S1 nn X d i l a b pn qn e) ∧ ((2 : Nat) = 2 → E2 nn X d i a b pn qn e) ∧ ((2 : Nat) = 3 → P3 nn X d i a b pn qn e) ∧ ((2 : Nat) = 4 → ∀ tn : Nat, qn = tn + 1 → A4 nn X d a b pn tn e) ∧ ((2 : Nat) = 5 → ∀ tn : Nat, qn = tn + 1 → A5 nn X d a b pn tn e) := ⟨fun z => absurd z (by decide), fun z => absurd z (by decide), fun _ => H, fun z => absurd z (by decide), fun z => absurd z (by decide), fun z => absurd z (by decide)⟩
theorem el_3 {d i l a b e : Int} {pn qn : Nat} (H : P3 nn X d i a b pn qn e) : ((3 : Nat) = 0 → E0 nn X d i a b pn qn e) ∧ ((3 : Nat) = 1 → S1 nn X d i l a b pn qn e) ∧ ((3 : Nat) = 2 → E2 nn X d i a b pn qn e) ∧ ((3 : Nat) = 3 → P3 nn X d i a b pn qn e) ∧ ((3 : Nat) = 4 → ∀ tn : Nat, qn = tn + 1 → A4 nn X d a b pn tn e) ∧ ((3 : Nat) = 5 → ∀ tn : Nat, qn = tn + 1 → A5 nn X d a b pn tn e) := ⟨fun z => absurd z (by decide), fun z => absurd z (by decide), fun z => absurd z (by decide), fun _ => H, fun z => absurd z (by decide), fun z => absurd z (by decide)⟩
theorem el_4 {d i l a b e : Int} {pn qn : Nat} (H : ∀ tn : Nat, qn = tn + 1 → A4 nn X d a b pn tn e) : ((4 : Nat) = 0 → E0 nn X d i a b pn qn e) ∧ ((4 : Nat) = 1 → S1 nn X d i l a b pn qn e) ∧ ((4 : Nat) = 2 → E2 nn X d i a b pn qn e) ∧ ((4 : Nat) = 3 → P3 nn X d i a b pn qn e) ∧ ((4 : Nat) = 4 → ∀ tn : Nat, qn = tn + 1 → A4 nn X d a b pn tn e) ∧ ((4 : Nat) = 5 → ∀ tn : Nat, qn = tn + 1 → A5 nn X d a b pn tn e) := ⟨fun z => absurd z (by decide), fun z => absurd z (by decide), fun z => absurd z (by decide), fun z => absurd z (by decide), fun _ => H, fun z => absurd z (by decide)⟩
theorem el_5 {d i l a b e : Int} {pn qn : Nat} (H : ∀ tn : Nat, qn = tn + 1 → A5 nn X d a b pn tn e) : ((5 : Nat) = 0 → E0 nn X d i a b pn qn e) ∧ ((5 : Nat) = 1 → S1 nn X d i l a b pn qn e) ∧ ((5 : Nat) = 2 → E2 nn X d i a b pn qn e) ∧ ((5 : Nat) = 3 → P3 nn X d i a b pn qn e) ∧ ((5 : Nat) = 4 → ∀ tn : Nat, qn = tn + 1 → A4 nn X d a b pn tn e) ∧ ((5 : Nat) = 5 → ∀ tn : Nat, qn = tn + 1 → A5 nn X d a b pn tn e) := ⟨fun z => absurd z (by decide), fun z => absurd z (by decide), fun z => absurd z (by decide), fun z => absurd z (by decide), fun z => absurd z (by decide), fun _ => H⟩
theorem e_all (Y : CXs X) {s : Nat} {d i l a b p q e : Int} (H : LKn d (bK X) (bT X) s i l a b p q e) : EAl nn X d s i l a b p q e := by
  refine lk_ind (EAl nn X) ?_ ?_ ?_ ?_ ?_ ?_ ?_ ?_ ?_ ?_ ?_ ?_ ?_ ?_ ?_ ?_ ?_ ?_ ?_ ?_ ?_ ?_ ?_ ?_ ?_ ?_ ?_ ?_ ?_ ?_ ?_ ?_ ?_ ?_ ?_ ?_ ?_ ?_ H
  · intro d i a b p q e h0 h1 hd pn qn hp hq
    have o0 : p + 1 ≤ q := lk_pq h0.1 (by omega)
    have c0 := (h0.2 ⟨by omega, fun _ => by omega⟩ pn qn (by omega) (by omega)).2.1 rfl
    exact el_0 (e0_es Y ⟨hd.1, by have := (lk_dp h0.1).1 (by decide) (by decide); omega⟩ c0)
  · intro d ix iy iz t u y a b p q e h0 h1 h2 h3 h4 h5 h6 h7 h8 h9 h10 hd pn qn hp hq
    have o3 : p + 1 ≤ t := lk_pq h3.1 (by omega)
    obtain ⟨tn, ht⟩ := ex_n (t := t) (by omega)
    have c3 := (h3.2 ⟨by omega, fun _ => by omega⟩ pn tn (by omega) (by omega)).2.1 rfl
    have o6 : (t + 1) + 1 ≤ u := lk_pq h6.1 (by omega)
    obtain ⟨un, hu⟩ := ex_n (t := u) (by omega)
    have c6 := (h6.2 ⟨by omega, fun _ => by omega⟩ (tn + 1) un (by omega) (by omega)).1 rfl
    have o9 : (u + 1) + 1 ≤ q := lk_pq h9.1 (by omega)
    have c9 := (h9.2 ⟨by omega, fun _ => by omega⟩ (un + 1) qn (by omega) (by omega)).1 rfl
    exact el_0 (e0_ec (t := tn) (uu := un) Y h0 h1 ⟨hd.1, by have := (lk_dp h3.1).1 (by decide) (by decide); omega⟩ ⟨h2.1, by omega⟩ c3 (by omega) (kt_f ht (h5)) c6 (kt_f hu (h8)) c9 (by omega))
  · intro d i l a b p q e h0 hd pn qn hp hq
    have d1 := hd.2 rfl
    have o0 : p + 1 ≤ q := lk_pq h0.1 (by omega)
    have c0 := (h0.2 ⟨by omega, fun _ => by omega⟩ pn qn (by omega) (by omega)).2.2.1 rfl
    exact el_1 (s1_su Y (by have := (lk_dp h0.1).1 (by decide) (by decide); omega) c0)
  · intro d ix iy l s t a b p q e h0 h1 h2 h3 h4 h5 h6 hd pn qn hp hq
    have d1 := hd.2 rfl
    have o3 : p + 1 ≤ t := lk_pq h3.1 (by omega)
    obtain ⟨tn, ht⟩ := ex_n (t := t) (by omega)
    have c3 := (h3.2 ⟨by omega, fun _ => by omega⟩ pn tn (by omega) (by omega)).2.1 rfl
    have o5 : (t + 1) + 1 ≤ q := lk_pq h5.1 (by omega)
    have c5 := (h5.2 ⟨by omega, fun _ => by omega⟩ (tn + 1) qn (by omega) (by omega)).2.1 rfl
    exact el_1 (s1_sb (t := tn) Y h0 ⟨hd.2 rfl, by have := (lk_dp h3.1).1 (by decide) (by decide); omega⟩ ⟨h1.1, by omega⟩ (by have e := kt_e (K := bK X) ht; rw [e] at h2; exact h2) (lk_rg h3.1 (by decide) (by decide)).2 c3 (by omega) c5 (by omega) (by omega) (by omega))
  · intro d ix l t a b p q e h0 h1 h2 h3 h4 hd pn qn hp hq
    have d1 := hd.2 rfl
    have o3 : p + 1 ≤ t := lk_pq h3.1 (by omega)
    obtain ⟨tn, ht⟩ := ex_n (t := t) (by omega)
    have c3 := (h3.2 ⟨by omega, fun _ => by omega⟩ pn tn (by omega) (by omega)).2.1 rfl
    exact el_1 (s1_si (t := tn) Y h0 ⟨hd.2 rfl, by have := (lk_dp h3.1).1 (by decide) (by decide); omega⟩ ⟨h1.1, by omega⟩ ⟨h2.1, kt_f ht (h2.2.1), kt_f (p := t + 1) (by omega) (h2.2.2.1), by omega⟩ (lk_rg h3.1 (by decide) (by decide)).2 c3 (by omega))
  · intro d ix a b p q e h0 h1 h2 h3 hd pn qn hp hq
    have o2 : (p + 1) + 1 ≤ q := lk_pq h2.1 (by omega)
    have c2 := (h2.2 ⟨by omega, fun _ => by omega⟩ (pn + 1) qn (by omega) (by omega)).2.2.1 rfl
    exact el_2 (e2_us Y h0 ⟨hd.1, by have := (lk_dp h2.1).1 (by decide) (by decide); omega⟩ ⟨by have e := kt_e (K := bK X) hp; rw [e] at h1; exact h1.1, by omega⟩ c2 (by omega) (by omega))
  · intro d ix a b p q e h0 h1 h2 h3 hd pn qn hp hq
    have o2 : (p + 3) + 1 ≤ q := lk_pq h2.1 (by omega)
    have c2 := (h2.2 ⟨by omega, fun _ => by omega⟩ (pn + 3) qn (by omega) (by omega)).2.2.1 rfl
    exact el_2 (e2_uc Y h0 ⟨hd.1, by have := (lk_dp h2.1).1 (by decide) (by decide); omega⟩ ⟨by rw [← hp]; exact h1.1, h1.2.1, by omega⟩ c2 (by omega))
  · intro d i a b p q e h0 h1 hd pn qn hp hq
    have o0 : p + 1 ≤ q := lk_pq h0.1 (by omega)
    have c0 := (h0.2 ⟨by omega, fun _ => by omega⟩ pn qn (by omega) (by omega)).2.2.2.1 rfl
    exact el_2 (e2_up Y (lk_rg h0.1 (by decide) (by decide)) (by have := (lk_dp h0.1).1 (by decide) (by decide); omega) c0 (by have e := kt_e (K := bK X) hp; have e2 := kt_e (K := bK X) hq; rw [e, e2, hp] at h1; exact h1))
  · intro d a b p q e h0 h1 h2 hd pn qn hp hq
    exact el_3 (p3_pl Y h0 ⟨by have e := kt_e (K := bK X) hp; rw [e] at h1; exact h1.1, by omega⟩ (by omega))
  · intro d a b p q e h0 h1 h2 h3 hd pn qn hp hq
    exact el_3 (p3_pn Y h0 ⟨h1.1, by omega⟩ (kt_f hp (h2.1)) (kt_g (p := p + 1) (by omega) h2.2.1) (by omega))
  · intro d a b p q e h0 h1 h2 h3 h4 hd pn qn hp hq
    have ax := lk_ar h3.1 (by decide) (by omega)
    have o3 : (p + 1) + 1 ≤ q := lk_pq h3.1 (by omega)
    obtain ⟨tn, hw⟩ := ex_n (t := q - 1) (by omega)
    have c3 := (h3.2 ⟨by omega, fun z => absurd z (by decide)⟩ (pn + 1) qn (by omega) hq).2.2.2.2.1 rfl tn (by omega)
    exact el_3 (p3_pc (t := tn) Y h0 ⟨h1.1, by omega⟩ (kt_f hp (h2)) (kt_f (p := p + 1) (by omega) (lk_a0 h3.1 rfl)) (kt_f (p := q - 1) (by omega) (ax.2)) (by omega) c3 (by omega))
  · intro d i t a b p q e h0 h1 hd pn qn hp hq
    have o1 : (p + 1) + 1 ≤ t := lk_pq h1.1 (by omega)
    obtain ⟨tn, ht⟩ := ex_n (t := t) (by omega)
    have c1 := (h1.2 ⟨by omega, fun _ => by omega⟩ (pn + 1) tn (by omega) (by omega)).1 rfl
    exact el_3 (p3_pb (t := tn) Y (lk_rg h1.1 (by decide) (by decide)) ⟨kt_f hp (h0.1), kt_f ht (h0.2.1), by omega⟩ c1)
  · intro d ix t a b p q e h0 h1 h2 h3 h4 h5 hd pn qn hp hq
    have o3 : (p + 3) + 1 ≤ t := lk_pq h3.1 (by omega)
    obtain ⟨tn, ht⟩ := ex_n (t := t) (by omega)
    have c3 := (h3.2 ⟨by omega, fun _ => by omega⟩ (pn + 3) tn (by omega) (by omega)).1 rfl
    exact el_3 (p3_pi (t := tn) Y h0 ⟨h1.1, by omega⟩ ⟨kt_f hp (h2.1), kt_f (p := p + 1) (by omega) (h2.2.1), kt_f (p := p + 2) (by omega) (h2.2.2)⟩ c3 ⟨kt_f ht (h5.1), by omega⟩ (by omega))
  · intro d a b p q e h0 h1 h2 h3 hd pn qn hp hq
    exact el_3 (p3_pm Y h0 ⟨h1.1, by omega⟩ ⟨kt_f hp (h2.1), kt_f (p := p + 1) (by omega) (h2.2.1), kt_f (p := p + 2) (by omega) (h2.2.2.1), kt_f (p := p + 3) (by omega) (h2.2.2.2.1)⟩ (by omega))
  · intro d ix t a b p q e h0 h1 h2 h3 h4 h5 hd pn qn hp hq
    have o3 : (p + 3) + 1 ≤ t := lk_pq h3.1 (by omega)
    obtain ⟨tn, ht⟩ := ex_n (t := t) (by omega)
    have c3 := (h3.2 ⟨by omega, fun _ => by omega⟩ (pn + 3) tn (by omega) (by omega)).1 rfl
    exact el_3 (p3_pr (t := tn) Y h0 ⟨h1.1, by omega, by omega⟩ ⟨kt_f hp (h2.1), kt_f (p := p + 1) (by omega) (h2.2.1), kt_f (p := p + 2) (by omega) (h2.2.2)⟩ c3 ⟨kt_f ht (h5.1), by omega⟩ (by omega))
  · intro d ix t a b p q e h0 h1 h2 h3 h4 hd pn qn hp hq
    have o3 : p + 1 ≤ t := lk_pq h3.1 (by omega)
    obtain ⟨tn, ht⟩ := ex_n (t := t) (by omega)
    have c3 := (h3.2 ⟨by omega, fun _ => by omega⟩ pn tn (by omega) (by omega)).2.2.2.1 rfl
    exact el_3 (p3_pf (t := tn) Y h0 ⟨h1.1, by omega, by omega⟩ ⟨kt_f ht (h2.1), kt_f (p := t + 1) (by omega) (h2.2.1), kt_g (p := t + 2) (by omega) h2.2.2.1, by omega⟩ (lk_rg h3.1 (by decide) (by decide)).2 c3 (by omega))
  · intro d ix t a b p q e h0 h1 h2 h3 h4 h5 hd pn qn hp hq
    have o3 : p + 1 ≤ t := lk_pq h3.1 (by omega)
    obtain ⟨tn, ht⟩ := ex_n (t := t) (by omega)
    have c3 := (h3.2 ⟨by omega, fun _ => by omega⟩ pn tn (by omega) (by omega)).2.2.2.1 rfl
    have ax := lk_ar h5.1 (by decide) (by omega)
    have o5 : (t + 2) + 1 ≤ q := lk_pq h5.1 (by omega)
    obtain ⟨sn, hw⟩ := ex_n (t := q - 1) (by omega)
    have c5 := (h5.2 ⟨by omega, fun z => absurd z (by decide)⟩ (tn + 2) qn (by omega) hq).2.2.2.2.1 rfl sn (by omega)
    exact el_3 (by rw [show qn = sn + 1 by omega]; exact p3_pd (t := tn) (t2 := sn) Y h0 ⟨h1.1, by omega, by omega⟩ ⟨kt_f ht (h2.1), kt_f (p := t + 1) (by omega) (h2.2), kt_f (p := t + 2) (by omega) (lk_a0 h5.1 rfl)⟩ (lk_rg h3.1 (by decide) (by decide)).2 h4.2 c3 c5 (kt_f (p := q - 1) (by omega) (ax.2)) (by omega) (fun i0 k25 => by obtain ⟨y1, y2, y3⟩ := lk_pn2 h3.1 rfl i0 k25; exact ⟨by omega, kt_f hp (y2), by omega⟩))
  · intro d ix iy t u a b p q e h0 h1 h2 h3 h4 h5 h6 hd pn qn hp hq
    have o3 : p + 1 ≤ t := lk_pq h3.1 (by omega)
    obtain ⟨tn, ht⟩ := ex_n (t := t) (by omega)
    have c3 := (h3.2 ⟨by omega, fun _ => by omega⟩ pn tn (by omega) (by omega)).2.2.2.1 rfl
    have o5 : (t + 1) + 1 ≤ u := lk_pq h5.1 (by omega)
    obtain ⟨un, hu⟩ := ex_n (t := u) (by omega)
    have c5 := (h5.2 ⟨by omega, fun _ => by omega⟩ (tn + 1) un (by omega) (by omega)).1 rfl
    exact el_3 (p3_pe (t := tn) (uu := un) Y h0 ⟨h1.1, by omega⟩ ⟨kt_f ht (h2.1), kt_f hu (h2.2.1), by omega⟩ (lk_rg h3.1 (by decide) (by decide)).2 c3 c5 (by omega) (by omega))
  · intro d a b p q h0 hd pn qn hp hq
    exact el_4 (fun tn ht => by rw [show tn = pn + 1 by omega]; exact a4_an Y (kt_f hp (h0.1)) (kt_f (p := p + 1) (by omega) (h0.2.1)))
  · intro d a b p q e h0 h1 hd pn qn hp hq
    have ax := lk_ar h1.1 (by decide) (by omega)
    have o1 : (p + 1) + 1 ≤ q := lk_pq h1.1 (by omega)
    have c1 := (h1.2 ⟨by omega, fun _ => by omega⟩ (pn + 1) qn (by omega) (by omega)).2.2.2.2.2 rfl
    exact el_4 (fun tn ht => a4_al Y (kt_f hp (h0.1)) (c1 tn ht))
  · intro d ix t a b p q e h0 h1 h2 h3 hd pn qn hp hq
    have o1 : p + 1 ≤ t := lk_pq h1.1 (by omega)
    obtain ⟨tn, ht⟩ := ex_n (t := t) (by omega)
    have c1 := (h1.2 ⟨by omega, fun _ => by omega⟩ pn tn (by omega) (by omega)).1 rfl
    exact el_5 (fun sn hs => by rw [show sn = tn by omega]; exact a5_ao Y h0 (kt_g hp (lk_fk h1.1 (by decide)).1) c1 (kt_f ht (h3.2.1)) h3.1 (by omega))
  · intro d ix t a b p q e h0 h1 h2 h3 h4 hd pn qn hp hq
    have o1 : p + 1 ≤ t := lk_pq h1.1 (by omega)
    obtain ⟨tn, ht⟩ := ex_n (t := t) (by omega)
    have c1 := (h1.2 ⟨by omega, fun _ => by omega⟩ pn tn (by omega) (by omega)).1 rfl
    have ax := lk_ar h4.1 (by decide) (by omega)
    have o4 : (t + 1) + 1 ≤ q := lk_pq h4.1 (by omega)
    have c4 := (h4.2 ⟨by omega, fun _ => by omega⟩ (tn + 1) qn (by omega) (by omega)).2.2.2.2.2 rfl
    exact el_5 (fun sn hs => a5_am (t := tn) Y h0 (kt_g hp (lk_fk h1.1 (by decide)).1) c1 (kt_f ht (h3)) (c4 sn hs) (by omega))
  · intro d a b p q e h0 hd pn qn hp hq
    exact ⟨fun z => absurd z (by decide), fun z => absurd z (by decide), fun z => absurd z (by decide), fun z => absurd z (by decide), fun z => absurd z (by decide), fun z => absurd z (by decide)⟩
  · intro d ix t u bs rw a b p q e h0 h1 h2 h3 h4 h5 hd pn qn hp hq
    exact ⟨fun z => absurd z (by decide), fun z => absurd z (by decide), fun z => absurd z (by decide), fun z => absurd z (by decide), fun z => absurd z (by decide), fun z => absurd z (by decide)⟩
  · intro d ix t y a b p q e h0 h1 h2 h3 h4 h5 h6 h7 hd pn qn hp hq
    exact ⟨fun z => absurd z (by decide), fun z => absurd z (by decide), fun z => absurd z (by decide), fun z => absurd z (by decide), fun z => absurd z (by decide), fun z => absurd z (by decide)⟩
  · intro d ix t u y z a b p q e h0 h1 h2 h3 h4 h5 h6 h7 h8 hd pn qn hp hq
    exact ⟨fun z => absurd z (by decide), fun z => absurd z (by decide), fun z => absurd z (by decide), fun z => absurd z (by decide), fun z => absurd z (by decide), fun z => absurd z (by decide)⟩
  · intro d ix t y a b p q e h0 h1 h2 h3 h4 h5 h6 h7 h8 hd pn qn hp hq
    exact ⟨fun z => absurd z (by decide), fun z => absurd z (by decide), fun z => absurd z (by decide), fun z => absurd z (by decide), fun z => absurd z (by decide), fun z => absurd z (by decide)⟩
  · intro d a b p q e h0 h1 h2 h3 hd pn qn hp hq
    exact ⟨fun z => absurd z (by decide), fun z => absurd z (by decide), fun z => absurd z (by decide), fun z => absurd z (by decide), fun z => absurd z (by decide), fun z => absurd z (by decide)⟩
  · intro d a b p q e h0 h1 h2 h3 hd pn qn hp hq
    exact ⟨fun z => absurd z (by decide), fun z => absurd z (by decide), fun z => absurd z (by decide), fun z => absurd z (by decide), fun z => absurd z (by decide), fun z => absurd z (by decide)⟩
  · intro d ix t a b p q e h0 h1 h2 h3 h4 h5 hd pn qn hp hq
    exact ⟨fun z => absurd z (by decide), fun z => absurd z (by decide), fun z => absurd z (by decide), fun z => absurd z (by decide), fun z => absurd z (by decide), fun z => absurd z (by decide)⟩
  · intro d ix t a b p q e h0 h1 h2 h3 h4 h5 hd pn qn hp hq
    exact ⟨fun z => absurd z (by decide), fun z => absurd z (by decide), fun z => absurd z (by decide), fun z => absurd z (by decide), fun z => absurd z (by decide), fun z => absurd z (by decide)⟩
  · intro d ix t a b p q e h0 h1 h2 h3 h4 h5 hd pn qn hp hq
    exact ⟨fun z => absurd z (by decide), fun z => absurd z (by decide), fun z => absurd z (by decide), fun z => absurd z (by decide), fun z => absurd z (by decide), fun z => absurd z (by decide)⟩
  · intro d t y a b p q e h0 h1 h2 h3 h4 h5 h6 hd pn qn hp hq
    exact ⟨fun z => absurd z (by decide), fun z => absurd z (by decide), fun z => absurd z (by decide), fun z => absurd z (by decide), fun z => absurd z (by decide), fun z => absurd z (by decide)⟩
  · intro d ix t a b p q e h0 h1 h2 h3 h4 h5 hd pn qn hp hq
    exact ⟨fun z => absurd z (by decide), fun z => absurd z (by decide), fun z => absurd z (by decide), fun z => absurd z (by decide), fun z => absurd z (by decide), fun z => absurd z (by decide)⟩
  · intro d ix iy t u y a b p q e h0 h1 h2 h3 h4 h5 h6 h7 h8 h9 hd pn qn hp hq
    exact ⟨fun z => absurd z (by decide), fun z => absurd z (by decide), fun z => absurd z (by decide), fun z => absurd z (by decide), fun z => absurd z (by decide), fun z => absurd z (by decide)⟩
  · intro d a b p h0 h1 hd pn qn hp hq
    exact ⟨fun z => absurd z (by decide), fun z => absurd z (by decide), fun z => absurd z (by decide), fun z => absurd z (by decide), fun z => absurd z (by decide), fun z => absurd z (by decide)⟩
  · intro d t y a b p q e h0 h1 h2 h3 hd pn qn hp hq
    exact ⟨fun z => absurd z (by decide), fun z => absurd z (by decide), fun z => absurd z (by decide), fun z => absurd z (by decide), fun z => absurd z (by decide), fun z => absurd z (by decide)⟩
  · intro d t a b p q e h0 h1 h2 h3 h4 hd pn qn hp hq
    exact ⟨fun z => absurd z (by decide), fun z => absurd z (by decide), fun z => absurd z (by decide), fun z => absurd z (by decide), fun z => absurd z (by decide), fun z => absurd z (by decide)⟩
end

/- all S of both sides -/
section
variable {K : Nat → Int} {T : ms_M}
theorem lk_bg {s : Nat} {d i l a b p q e : Int} (H : LKn d K T s i l a b p q e) : (s = 6 ∨ s = 8) → T 169 e.toNat = p := by
  refine lk_ind (fun d s i l a b p q e => (s = 6 ∨ s = 8) → T 169 e.toNat = p) ?_ ?_ ?_ ?_ ?_ ?_ ?_ ?_ ?_ ?_ ?_ ?_ ?_ ?_ ?_ ?_ ?_ ?_ ?_ ?_ ?_ ?_ ?_ ?_ ?_ ?_ ?_ ?_ ?_ ?_ ?_ ?_ ?_ ?_ ?_ ?_ ?_ ?_ H
  · intro d i a b p q e h0 h1
    exact fun z => absurd z (by decide)
  · intro d ix iy iz t u y a b p q e h0 h1 h2 h3 h4 h5 h6 h7 h8 h9 h10
    exact fun z => absurd z (by decide)
  · intro d i l a b p q e h0
    exact fun z => absurd z (by decide)
  · intro d ix iy l s t a b p q e h0 h1 h2 h3 h4 h5 h6
    exact fun z => absurd z (by decide)
  · intro d ix l t a b p q e h0 h1 h2 h3 h4
    exact fun z => absurd z (by decide)
  · intro d ix a b p q e h0 h1 h2 h3
    exact fun z => absurd z (by decide)
  · intro d ix a b p q e h0 h1 h2 h3
    exact fun z => absurd z (by decide)
  · intro d i a b p q e h0 h1
    exact fun z => absurd z (by decide)
  · intro d a b p q e h0 h1 h2
    exact fun z => absurd z (by decide)
  · intro d a b p q e h0 h1 h2 h3
    exact fun z => absurd z (by decide)
  · intro d a b p q e h0 h1 h2 h3 h4
    exact fun z => absurd z (by decide)
  · intro d i t a b p q e h0 h1
    exact fun z => absurd z (by decide)
  · intro d ix t a b p q e h0 h1 h2 h3 h4 h5
    exact fun z => absurd z (by decide)
  · intro d a b p q e h0 h1 h2 h3
    exact fun z => absurd z (by decide)
  · intro d ix t a b p q e h0 h1 h2 h3 h4 h5
    exact fun z => absurd z (by decide)
  · intro d ix t a b p q e h0 h1 h2 h3 h4
    exact fun z => absurd z (by decide)
  · intro d ix t a b p q e h0 h1 h2 h3 h4 h5
    exact fun z => absurd z (by decide)
  · intro d ix iy t u a b p q e h0 h1 h2 h3 h4 h5 h6
    exact fun z => absurd z (by decide)
  · intro d a b p q h0
    exact fun z => absurd z (by decide)
  · intro d a b p q e h0 h1
    exact fun z => absurd z (by decide)
  · intro d ix t a b p q e h0 h1 h2 h3
    exact fun z => absurd z (by decide)
  · intro d ix t a b p q e h0 h1 h2 h3 h4
    exact fun z => absurd z (by decide)
  · intro d a b p q e h0
    exact fun _ => h0.2 (by decide)
  · intro d ix t u bs rw a b p q e h0 h1 h2 h3 h4 h5
    exact fun _ => h1.2.2.1
  · intro d ix t y a b p q e h0 h1 h2 h3 h4 h5 h6 h7
    exact fun _ => h2.2.1
  · intro d ix t u y z a b p q e h0 h1 h2 h3 h4 h5 h6 h7 h8
    exact fun _ => h2.2
  · intro d ix t y a b p q e h0 h1 h2 h3 h4 h5 h6 h7 h8
    exact fun _ => h2.2
  · intro d a b p q e h0 h1 h2 h3
    exact fun _ => h1.2.2
  · intro d a b p q e h0 h1 h2 h3
    exact fun _ => h1.2.2.1
  · intro d ix t a b p q e h0 h1 h2 h3 h4 h5
    exact fun _ => h1.2.2
  · intro d ix t a b p q e h0 h1 h2 h3 h4 h5
    exact fun _ => h1.2.2
  · intro d ix t a b p q e h0 h1 h2 h3 h4 h5
    exact fun _ => h1.2.2
  · intro d t y a b p q e h0 h1 h2 h3 h4 h5 h6
    exact fun _ => h2.2.2.1
  · intro d ix t a b p q e h0 h1 h2 h3 h4 h5
    exact fun _ => h1.2
  · intro d ix iy t u y a b p q e h0 h1 h2 h3 h4 h5 h6 h7 h8 h9
    exact fun _ => h2.2.1
  · intro d a b p h0 h1
    exact fun z => absurd z (by decide)
  · intro d t y a b p q e h0 h1 h2 h3
    exact fun z => absurd z (by decide)
  · intro d t a b p q e h0 h1 h2 h3 h4
    exact fun _ => h1.2
theorem lk_7q {s : Nat} {d i l a b p q e : Int} (H : LKn d K T s i l a b p q e) : s = 7 → K q.toNat = 43 := by
  refine lk_ind (fun d s i l a b p q e => s = 7 → K q.toNat = 43) ?_ ?_ ?_ ?_ ?_ ?_ ?_ ?_ ?_ ?_ ?_ ?_ ?_ ?_ ?_ ?_ ?_ ?_ ?_ ?_ ?_ ?_ ?_ ?_ ?_ ?_ ?_ ?_ ?_ ?_ ?_ ?_ ?_ ?_ ?_ ?_ ?_ ?_ H
  · intro d i a b p q e h0 h1
    exact fun z => absurd z (by decide)
  · intro d ix iy iz t u y a b p q e h0 h1 h2 h3 h4 h5 h6 h7 h8 h9 h10
    exact fun z => absurd z (by decide)
  · intro d i l a b p q e h0
    exact fun z => absurd z (by decide)
  · intro d ix iy l s t a b p q e h0 h1 h2 h3 h4 h5 h6
    exact fun z => absurd z (by decide)
  · intro d ix l t a b p q e h0 h1 h2 h3 h4
    exact fun z => absurd z (by decide)
  · intro d ix a b p q e h0 h1 h2 h3
    exact fun z => absurd z (by decide)
  · intro d ix a b p q e h0 h1 h2 h3
    exact fun z => absurd z (by decide)
  · intro d i a b p q e h0 h1
    exact fun z => absurd z (by decide)
  · intro d a b p q e h0 h1 h2
    exact fun z => absurd z (by decide)
  · intro d a b p q e h0 h1 h2 h3
    exact fun z => absurd z (by decide)
  · intro d a b p q e h0 h1 h2 h3 h4
    exact fun z => absurd z (by decide)
  · intro d i t a b p q e h0 h1
    exact fun z => absurd z (by decide)
  · intro d ix t a b p q e h0 h1 h2 h3 h4 h5
    exact fun z => absurd z (by decide)
  · intro d a b p q e h0 h1 h2 h3
    exact fun z => absurd z (by decide)
  · intro d ix t a b p q e h0 h1 h2 h3 h4 h5
    exact fun z => absurd z (by decide)
  · intro d ix t a b p q e h0 h1 h2 h3 h4
    exact fun z => absurd z (by decide)
  · intro d ix t a b p q e h0 h1 h2 h3 h4 h5
    exact fun z => absurd z (by decide)
  · intro d ix iy t u a b p q e h0 h1 h2 h3 h4 h5 h6
    exact fun z => absurd z (by decide)
  · intro d a b p q h0
    exact fun z => absurd z (by decide)
  · intro d a b p q e h0 h1
    exact fun z => absurd z (by decide)
  · intro d ix t a b p q e h0 h1 h2 h3
    exact fun z => absurd z (by decide)
  · intro d ix t a b p q e h0 h1 h2 h3 h4
    exact fun z => absurd z (by decide)
  · intro d a b p q e h0
    exact fun z => absurd z (by decide)
  · intro d ix t u bs rw a b p q e h0 h1 h2 h3 h4 h5
    exact fun z => absurd z (by decide)
  · intro d ix t y a b p q e h0 h1 h2 h3 h4 h5 h6 h7
    exact fun z => absurd z (by decide)
  · intro d ix t u y z a b p q e h0 h1 h2 h3 h4 h5 h6 h7 h8
    exact fun z => absurd z (by decide)
  · intro d ix t y a b p q e h0 h1 h2 h3 h4 h5 h6 h7 h8
    exact fun z => absurd z (by decide)
  · intro d a b p q e h0 h1 h2 h3
    exact fun z => absurd z (by decide)
  · intro d a b p q e h0 h1 h2 h3
    exact fun z => absurd z (by decide)
  · intro d ix t a b p q e h0 h1 h2 h3 h4 h5
    exact fun z => absurd z (by decide)
  · intro d ix t a b p q e h0 h1 h2 h3 h4 h5
    exact fun z => absurd z (by decide)
  · intro d ix t a b p q e h0 h1 h2 h3 h4 h5
    exact fun z => absurd z (by decide)
  · intro d t y a b p q e h0 h1 h2 h3 h4 h5 h6
    exact fun z => absurd z (by decide)
  · intro d ix t a b p q e h0 h1 h2 h3 h4 h5
    exact fun z => absurd z (by decide)
  · intro d ix iy t u y a b p q e h0 h1 h2 h3 h4 h5 h6 h7 h8 h9
    exact fun z => absurd z (by decide)
  · intro d a b p h0 h1
    exact fun _ => h0
  · intro d t y a b p q e h0 h1 h2 h3
    exact fun _ => h3.2 (by decide)
  · intro d t a b p q e h0 h1 h2 h3 h4
    exact fun z => absurd z (by decide)
theorem lk_8k {s : Nat} {d i l a b p q e : Int} (H : LKn d K T s i l a b p q e) : s = 8 → K p.toNat = 42 := by
  refine lk_ind (fun d s i l a b p q e => s = 8 → K p.toNat = 42) ?_ ?_ ?_ ?_ ?_ ?_ ?_ ?_ ?_ ?_ ?_ ?_ ?_ ?_ ?_ ?_ ?_ ?_ ?_ ?_ ?_ ?_ ?_ ?_ ?_ ?_ ?_ ?_ ?_ ?_ ?_ ?_ ?_ ?_ ?_ ?_ ?_ ?_ H
  · intro d i a b p q e h0 h1
    exact fun z => absurd z (by decide)
  · intro d ix iy iz t u y a b p q e h0 h1 h2 h3 h4 h5 h6 h7 h8 h9 h10
    exact fun z => absurd z (by decide)
  · intro d i l a b p q e h0
    exact fun z => absurd z (by decide)
  · intro d ix iy l s t a b p q e h0 h1 h2 h3 h4 h5 h6
    exact fun z => absurd z (by decide)
  · intro d ix l t a b p q e h0 h1 h2 h3 h4
    exact fun z => absurd z (by decide)
  · intro d ix a b p q e h0 h1 h2 h3
    exact fun z => absurd z (by decide)
  · intro d ix a b p q e h0 h1 h2 h3
    exact fun z => absurd z (by decide)
  · intro d i a b p q e h0 h1
    exact fun z => absurd z (by decide)
  · intro d a b p q e h0 h1 h2
    exact fun z => absurd z (by decide)
  · intro d a b p q e h0 h1 h2 h3
    exact fun z => absurd z (by decide)
  · intro d a b p q e h0 h1 h2 h3 h4
    exact fun z => absurd z (by decide)
  · intro d i t a b p q e h0 h1
    exact fun z => absurd z (by decide)
  · intro d ix t a b p q e h0 h1 h2 h3 h4 h5
    exact fun z => absurd z (by decide)
  · intro d a b p q e h0 h1 h2 h3
    exact fun z => absurd z (by decide)
  · intro d ix t a b p q e h0 h1 h2 h3 h4 h5
    exact fun z => absurd z (by decide)
  · intro d ix t a b p q e h0 h1 h2 h3 h4
    exact fun z => absurd z (by decide)
  · intro d ix t a b p q e h0 h1 h2 h3 h4 h5
    exact fun z => absurd z (by decide)
  · intro d ix iy t u a b p q e h0 h1 h2 h3 h4 h5 h6
    exact fun z => absurd z (by decide)
  · intro d a b p q h0
    exact fun z => absurd z (by decide)
  · intro d a b p q e h0 h1
    exact fun z => absurd z (by decide)
  · intro d ix t a b p q e h0 h1 h2 h3
    exact fun z => absurd z (by decide)
  · intro d ix t a b p q e h0 h1 h2 h3 h4
    exact fun z => absurd z (by decide)
  · intro d a b p q e h0
    exact fun z => absurd z (by decide)
  · intro d ix t u bs rw a b p q e h0 h1 h2 h3 h4 h5
    exact fun z => absurd z (by decide)
  · intro d ix t y a b p q e h0 h1 h2 h3 h4 h5 h6 h7
    exact fun z => absurd z (by decide)
  · intro d ix t u y z a b p q e h0 h1 h2 h3 h4 h5 h6 h7 h8
    exact fun z => absurd z (by decide)
  · intro d ix t y a b p q e h0 h1 h2 h3 h4 h5 h6 h7 h8
    exact fun z => absurd z (by decide)
  · intro d a b p q e h0 h1 h2 h3
    exact fun z => absurd z (by decide)
  · intro d a b p q e h0 h1 h2 h3
    exact fun z => absurd z (by decide)
  · intro d ix t a b p q e h0 h1 h2 h3 h4 h5
    exact fun z => absurd z (by decide)
  · intro d ix t a b p q e h0 h1 h2 h3 h4 h5
    exact fun z => absurd z (by decide)
  · intro d ix t a b p q e h0 h1 h2 h3 h4 h5
    exact fun z => absurd z (by decide)
  · intro d t y a b p q e h0 h1 h2 h3 h4 h5 h6
    exact fun z => absurd z (by decide)
  · intro d ix t a b p q e h0 h1 h2 h3 h4 h5
    exact fun z => absurd z (by decide)
  · intro d ix iy t u y a b p q e h0 h1 h2 h3 h4 h5 h6 h7 h8 h9
    exact fun z => absurd z (by decide)
  · intro d a b p h0 h1
    exact fun z => absurd z (by decide)
  · intro d t y a b p q e h0 h1 h2 h3
    exact fun z => absurd z (by decide)
  · intro d t a b p q e h0 h1 h2 h3 h4
    exact fun _ => h2
end
def SAl (nn : Nat) (X : BCx) : LkT := fun d s i l a b p q e => 0 ≤ d → b ≤ 8999 → ∀ pn qn : Nat, p = (pn : Int) → q = (qn : Int) → (s = 6 → S6 nn X d a b pn qn e) ∧ (s = 7 → S7 nn X d a b pn qn e) ∧ (s = 8 → S8 nn X d a b pn qn e)
section
variable {nn : Nat} {X : BCx}
theorem sl_6 {d a b e : Int} {pn qn : Nat} (H : S6 nn X d a b pn qn e) : ((6 : Nat) = 6 → S6 nn X d a b pn qn e) ∧ ((6 : Nat) = 7 → S7 nn X d a b pn qn e) ∧ ((6 : Nat) = 8 → S8 nn X d a b pn qn e) := ⟨fun _ => H, fun z => absurd z (by decide), fun z => absurd z (by decide)⟩
theorem sl_7 {d a b e : Int} {pn qn : Nat} (H : S7 nn X d a b pn qn e) : ((7 : Nat) = 6 → S6 nn X d a b pn qn e) ∧ ((7 : Nat) = 7 → S7 nn X d a b pn qn e) ∧ ((7 : Nat) = 8 → S8 nn X d a b pn qn e) := ⟨fun z => absurd z (by decide), fun _ => H, fun z => absurd z (by decide)⟩
theorem sl_8 {d a b e : Int} {pn qn : Nat} (H : S8 nn X d a b pn qn e) : ((8 : Nat) = 6 → S6 nn X d a b pn qn e) ∧ ((8 : Nat) = 7 → S7 nn X d a b pn qn e) ∧ ((8 : Nat) = 8 → S8 nn X d a b pn qn e) := ⟨fun z => absurd z (by decide), fun z => absurd z (by decide), fun _ => H⟩
theorem s_all (Y : CXs X) (Wb : BRw X) {s : Nat} {d i l a b p q e : Int} (H : LKn d (bK X) (bT X) s i l a b p q e) : SAl nn X d s i l a b p q e := by
  refine lk_ind (SAl nn X) ?_ ?_ ?_ ?_ ?_ ?_ ?_ ?_ ?_ ?_ ?_ ?_ ?_ ?_ ?_ ?_ ?_ ?_ ?_ ?_ ?_ ?_ ?_ ?_ ?_ ?_ ?_ ?_ ?_ ?_ ?_ ?_ ?_ ?_ ?_ ?_ ?_ ?_ H
  · intro d i a b p q e h0 h1 hd hb pn qn hp hq
    exact ⟨fun z => absurd z (by decide), fun z => absurd z (by decide), fun z => absurd z (by decide)⟩
  · intro d ix iy iz t u y a b p q e h0 h1 h2 h3 h4 h5 h6 h7 h8 h9 h10 hd hb pn qn hp hq
    exact ⟨fun z => absurd z (by decide), fun z => absurd z (by decide), fun z => absurd z (by decide)⟩
  · intro d i l a b p q e h0 hd hb pn qn hp hq
    exact ⟨fun z => absurd z (by decide), fun z => absurd z (by decide), fun z => absurd z (by decide)⟩
  · intro d ix iy l s t a b p q e h0 h1 h2 h3 h4 h5 h6 hd hb pn qn hp hq
    exact ⟨fun z => absurd z (by decide), fun z => absurd z (by decide), fun z => absurd z (by decide)⟩
  · intro d ix l t a b p q e h0 h1 h2 h3 h4 hd hb pn qn hp hq
    exact ⟨fun z => absurd z (by decide), fun z => absurd z (by decide), fun z => absurd z (by decide)⟩
  · intro d ix a b p q e h0 h1 h2 h3 hd hb pn qn hp hq
    exact ⟨fun z => absurd z (by decide), fun z => absurd z (by decide), fun z => absurd z (by decide)⟩
  · intro d ix a b p q e h0 h1 h2 h3 hd hb pn qn hp hq
    exact ⟨fun z => absurd z (by decide), fun z => absurd z (by decide), fun z => absurd z (by decide)⟩
  · intro d i a b p q e h0 h1 hd hb pn qn hp hq
    exact ⟨fun z => absurd z (by decide), fun z => absurd z (by decide), fun z => absurd z (by decide)⟩
  · intro d a b p q e h0 h1 h2 hd hb pn qn hp hq
    exact ⟨fun z => absurd z (by decide), fun z => absurd z (by decide), fun z => absurd z (by decide)⟩
  · intro d a b p q e h0 h1 h2 h3 hd hb pn qn hp hq
    exact ⟨fun z => absurd z (by decide), fun z => absurd z (by decide), fun z => absurd z (by decide)⟩
  · intro d a b p q e h0 h1 h2 h3 h4 hd hb pn qn hp hq
    exact ⟨fun z => absurd z (by decide), fun z => absurd z (by decide), fun z => absurd z (by decide)⟩
  · intro d i t a b p q e h0 h1 hd hb pn qn hp hq
    exact ⟨fun z => absurd z (by decide), fun z => absurd z (by decide), fun z => absurd z (by decide)⟩
  · intro d ix t a b p q e h0 h1 h2 h3 h4 h5 hd hb pn qn hp hq
    exact ⟨fun z => absurd z (by decide), fun z => absurd z (by decide), fun z => absurd z (by decide)⟩
  · intro d a b p q e h0 h1 h2 h3 hd hb pn qn hp hq
    exact ⟨fun z => absurd z (by decide), fun z => absurd z (by decide), fun z => absurd z (by decide)⟩
  · intro d ix t a b p q e h0 h1 h2 h3 h4 h5 hd hb pn qn hp hq
    exact ⟨fun z => absurd z (by decide), fun z => absurd z (by decide), fun z => absurd z (by decide)⟩
  · intro d ix t a b p q e h0 h1 h2 h3 h4 hd hb pn qn hp hq
    exact ⟨fun z => absurd z (by decide), fun z => absurd z (by decide), fun z => absurd z (by decide)⟩
  · intro d ix t a b p q e h0 h1 h2 h3 h4 h5 hd hb pn qn hp hq
    exact ⟨fun z => absurd z (by decide), fun z => absurd z (by decide), fun z => absurd z (by decide)⟩
  · intro d ix iy t u a b p q e h0 h1 h2 h3 h4 h5 h6 hd hb pn qn hp hq
    exact ⟨fun z => absurd z (by decide), fun z => absurd z (by decide), fun z => absurd z (by decide)⟩
  · intro d a b p q h0 hd hb pn qn hp hq
    exact ⟨fun z => absurd z (by decide), fun z => absurd z (by decide), fun z => absurd z (by decide)⟩
  · intro d a b p q e h0 h1 hd hb pn qn hp hq
    exact ⟨fun z => absurd z (by decide), fun z => absurd z (by decide), fun z => absurd z (by decide)⟩
  · intro d ix t a b p q e h0 h1 h2 h3 hd hb pn qn hp hq
    exact ⟨fun z => absurd z (by decide), fun z => absurd z (by decide), fun z => absurd z (by decide)⟩
  · intro d ix t a b p q e h0 h1 h2 h3 h4 hd hb pn qn hp hq
    exact ⟨fun z => absurd z (by decide), fun z => absurd z (by decide), fun z => absurd z (by decide)⟩
  · intro d a b p q e h0 hd hb pn qn hp hq
    have o0 : p + 1 ≤ q := lk_pq h0.1 (by omega)
    have c0 := (h0.2 (by omega) (by omega) pn qn (by omega) (by omega)).2.2 rfl
    exact sl_6 (s6_tb Y ⟨hd, by have := (lk_dp h0.1).1 (by decide) (by decide); omega⟩ (kt_f hp (lk_8k h0.1 rfl)) c0)
  · intro d ix t u bs rw a b p q e h0 h1 h2 h3 h4 h5 hd hb pn qn hp hq
    have tyk := h2.1
    unfold TYk at tyk
    obtain ⟨tn, ht⟩ := ex_n (t := t) (by omega)
    have o3 : (t + 2) + 1 ≤ u := lk_pq h3.1 (by omega)
    obtain ⟨un, hu⟩ := ex_n (t := u) (by omega)
    have c3 := (e_all (nn := nn) Y h3.1 ⟨by omega, fun _ => by omega⟩ (tn + 2) un (by omega) (by omega)).1 rfl
    exact sl_6 (by rw [show qn = un + 1 by omega]; exact s6_tv (t := tn) (uu := un) (rw := rw) (bs := bs) Y Wb h0 hb ⟨hd, by have := (lk_dp h3.1).1 (by decide) (by decide); omega⟩ ⟨h1.1, by omega, by omega, h1.2.2.2.2.1, by omega⟩ (by rw [← hp, ← ht]; exact ⟨h2.1, h2.2.1⟩) ⟨kt_f ht h2.2.2.1, kt_f (p := t + 1) (by omega) h2.2.2.2⟩ c3 (kt_f hu h5.1) (by omega))
  · intro d ix t y a b p q e h0 h1 h2 h3 h4 h5 h6 h7 hd hb pn qn hp hq
    have o4 : (p + 2) + 1 ≤ t := lk_pq h4.1 (by omega)
    obtain ⟨tn, ht⟩ := ex_n (t := t) (by omega)
    have c4 := (e_all (nn := nn) Y h4.1 ⟨by omega, fun _ => by omega⟩ (pn + 2) tn (by omega) (by omega)).1 rfl
    have o7 : (t + 1) + 1 ≤ q := lk_pq h7.1 (by omega)
    have c7 := (h7.2 (by omega) (by omega) (tn + 1) qn (by omega) (by omega)).1 rfl
    exact sl_6 (s6_ti (t := tn) (y0 := y) Y Wb h0 h1 hb ⟨hd, by have := (lk_dp h4.1).1 (by decide) (by decide); omega⟩ ⟨h2.1, h2.2.2⟩ ⟨kt_f hp h3.1, kt_f (p := p + 1) (by omega) h3.2⟩ (lk_rg h4.1 (by decide) (by decide)).2 c4 (by omega) (kt_f ht h6.1) (by omega) (kt_g hq h6.2) c7)
  · intro d ix t u y z a b p q e h0 h1 h2 h3 h4 h5 h6 h7 h8 hd hb pn qn hp hq
    have o4 : (p + 2) + 1 ≤ t := lk_pq h4.1 (by omega)
    obtain ⟨tn, ht⟩ := ex_n (t := t) (by omega)
    have c4 := (e_all (nn := nn) Y h4.1 ⟨by omega, fun _ => by omega⟩ (pn + 2) tn (by omega) (by omega)).1 rfl
    have o7 : (t + 1) + 1 ≤ u := lk_pq h7.1 (by omega)
    obtain ⟨un, hu⟩ := ex_n (t := u) (by omega)
    have c7 := (h7.2 (by omega) (by omega) (tn + 1) un (by omega) (by omega)).1 rfl
    have o8 : (u + 1) + 1 ≤ q := lk_pq h8.1 (by omega)
    have c8 := (h8.2 (by omega) (by omega) (un + 1) qn (by omega) (by omega)).1 rfl
    exact sl_6 (s6_tj (t := tn) (uu := un) (y0 := y) (z0 := z) Y Wb h0 h1 hb ⟨hd, by have := (lk_dp h4.1).1 (by decide) (by decide); omega⟩ ⟨h2.1, by have := (lk_rg h8.1 (by decide) (by decide)); omega⟩ ⟨kt_f hp h3.1, kt_f (p := p + 1) (by omega) h3.2⟩ (lk_rg h4.1 (by decide) (by decide)).2 c4 (by omega) (kt_f ht h6.1) (by omega) (kt_f hu h6.2) c7 c8)
  · intro d ix t y a b p q e h0 h1 h2 h3 h4 h5 h6 h7 h8 hd hb pn qn hp hq
    have o5 : (p + 2) + 1 ≤ t := lk_pq h5.1 (by omega)
    obtain ⟨tn, ht⟩ := ex_n (t := t) (by omega)
    have c5 := (e_all (nn := nn) Y h5.1 ⟨by omega, fun _ => by omega⟩ (pn + 2) tn (by omega) (by omega)).1 rfl
    have o8 : (t + 1) + 1 ≤ q := lk_pq h8.1 (by omega)
    have c8 := (h8.2 (by omega) (by omega) (tn + 1) qn (by omega) (by omega)).1 rfl
    have wt : (bT X 175 e.toNat = 1 ∧ bK X (pn + 2) = 28 ∧ bK X (pn + 3) = 41 ∧ tn = pn + 3 ∧ bT X 167 (bT X 170 e.toNat).toNat = 21) ∨ (bT X 175 e.toNat = 0 ∧ ¬ (bK X (pn + 2) = 28 ∧ bK X (pn + 3) = 41)) := by
      have e2 : bK X (p + 2).toNat = bK X (pn + 2) := kt_e (p := p + 2) (by omega)
      have e3 : bK X (p + 3).toNat = bK X (pn + 3) := kt_e (p := p + 3) (by omega)
      rcases h4 with ⟨y1, y2, y3⟩ | ⟨y1, y2⟩
      · have lt := lk_true h5.1 (by decide) (by omega) y2 (by rw [show p + 2 + 1 = p + 3 by omega]; exact y3)
        rw [e2] at y2
        rw [e3] at y3
        exact .inl ⟨y1, y2, y3, by omega, lt.2.2.1⟩
      · rw [e2, e3] at y2
        exact .inr ⟨y1, y2⟩
    exact sl_6 (s6_tw (t := tn) (y0 := y) Y Wb h0 h1 hb ⟨hd, by have := (lk_dp h5.1).1 (by decide) (by decide); omega⟩ h2.1 ⟨kt_f hp h3.1, kt_f (p := p + 1) (by omega) h3.2⟩ wt (lk_rg h5.1 (by decide) (by decide)).2 c5 (by omega) (kt_f ht h7) c8 (by omega))
  · intro d a b p q e h0 h1 h2 h3 hd hb pn qn hp hq
    exact sl_6 (by rw [show qn = pn + 2 by omega]; exact s6_tl Y Wb h0 hb h3 ⟨by have e := kt_e (K := bK X) hp; rw [e] at h1; exact h1.1, by omega⟩ (kt_f (p := p + 1) (by omega) h2.1))
  · intro d a b p q e h0 h1 h2 h3 hd hb pn qn hp hq
    exact sl_6 (by rw [show qn = pn + 2 by omega]; exact s6_tg Y Wb h0 hb h3 ⟨h1.1, by omega, h1.2.2.2⟩ ⟨kt_f hp h2.1, kt_f (p := p + 1) (by omega) h2.2.1⟩)
  · intro d ix t a b p q e h0 h1 h2 h3 h4 h5 hd hb pn qn hp hq
    have o3 : (p + 1) + 1 ≤ t := lk_pq h3.1 (by omega)
    obtain ⟨tn, ht⟩ := ex_n (t := t) (by omega)
    have c3 := (e_all (nn := nn) Y h3.1 ⟨by omega, fun _ => by omega⟩ (pn + 1) tn (by omega) (by omega)).1 rfl
    exact sl_6 (by rw [show qn = tn + 1 by omega]; exact s6_tr (t := tn) Y Wb h0 hb ⟨hd, by have := (lk_dp h3.1).1 (by decide) (by decide); omega⟩ ⟨h1.1, by omega⟩ ⟨kt_f hp h2.1, kt_g (p := p + 1) (by omega) h2.2⟩ (lk_rg h3.1 (by decide) (by decide)).2.1 c3 (kt_f ht h5.1) (by omega))
  · intro d ix t a b p q e h0 h1 h2 h3 h4 h5 hd hb pn qn hp hq
    have o3 : (p + 1) + 1 ≤ t := lk_pq h3.1 (by omega)
    obtain ⟨tn, ht⟩ := ex_n (t := t) (by omega)
    have c3 := (e_all (nn := nn) Y h3.1 ⟨by omega, fun _ => by omega⟩ (pn + 1) tn (by omega) (by omega)).1 rfl
    exact sl_6 (by rw [show qn = tn + 1 by omega]; exact s6_tt (t := tn) Y Wb h0 hb ⟨hd, by have := (lk_dp h3.1).1 (by decide) (by decide); omega⟩ ⟨h1.1, by omega⟩ (kt_f hp h2) c3 (kt_f ht h5.1) (by omega))
  · intro d ix t a b p q e h0 h1 h2 h3 h4 h5 hd hb pn qn hp hq
    have o3 : (p + 2) + 1 ≤ t := lk_pq h3.1 (by omega)
    obtain ⟨tn, ht⟩ := ex_n (t := t) (by omega)
    have c3 := (e_all (nn := nn) Y h3.1 ⟨by omega, fun _ => by omega⟩ (pn + 2) tn (by omega) (by omega)).1 rfl
    exact sl_6 (by rw [show qn = tn + 2 by omega]; exact s6_tp (t := tn) Y Wb h0 hb ⟨hd, by have := (lk_dp h3.1).1 (by decide) (by decide); omega⟩ ⟨h1.1, by omega⟩ ⟨kt_f hp h2.1, kt_f (p := p + 1) (by omega) h2.2⟩ c3 ⟨kt_f ht h5.1, kt_f (p := t + 1) (by omega) h5.2.1⟩ (by omega))
  · intro d t y a b p q e h0 h1 h2 h3 h4 h5 h6 hd hb pn qn hp hq
    have o4 : (p + 1) + 1 ≤ t := lk_pq h4.1 (by omega)
    obtain ⟨tn, ht⟩ := ex_n (t := t) (by omega)
    have c4 := (h4.2 (by omega) (by omega) (pn + 1) tn (by omega) (by omega)).2.2 rfl
    have o6 : (t + 5) + 1 ≤ q := lk_pq h6.1 (by omega)
    have c6 := (h6.2 (by omega) (by omega) (tn + 5) qn (by omega) (by omega)).2.2 rfl
    exact sl_6 (s6_ty (t := tn) (y0 := y) Y Wb h0 h1 hb ⟨hd, by have := (lk_dp h4.1).1 (by decide) (by decide); omega⟩ ⟨h2.1, by omega, by omega⟩ (kt_f hp h3) ⟨kt_f (p := t + 2) (by omega) h5.2.2.1, kt_f (p := t + 3) (by omega) h5.2.2.2.1, kt_f (p := t + 4) (by omega) h5.2.2.2.2⟩ c4 c6)
  · intro d ix t a b p q e h0 h1 h2 h3 h4 h5 hd hb pn qn hp hq
    have o3 : p + 1 ≤ t := lk_pq h3.1 (by omega)
    obtain ⟨tn, ht⟩ := ex_n (t := t) (by omega)
    have c3 := (e_all (nn := nn) Y h3.1 ⟨by omega, fun _ => by omega⟩ pn tn (by omega) (by omega)).1 rfl
    exact sl_6 (by rw [show qn = tn + 1 by omega]; exact s6_ta (t := tn) Y Wb h0 hb ⟨hd, by have := (lk_dp h3.1).1 (by decide) (by decide); omega⟩ h1.1 (by rw [← hp]; exact h2) (lk_rg h3.1 (by decide) (by decide)).2 c3 ⟨by omega, h4.2⟩ (kt_f ht h5.1) (by omega))
  · intro d ix iy t u y a b p q e h0 h1 h2 h3 h4 h5 h6 h7 h8 h9 hd hb pn qn hp hq
    have o4 : p + 1 ≤ t := lk_pq h4.1 (by omega)
    obtain ⟨tn, ht⟩ := ex_n (t := t) (by omega)
    have c4 := (e_all (nn := nn) Y h4.1 ⟨by omega, fun _ => by omega⟩ pn tn (by omega) (by omega)).1 rfl
    have o7 : (t + 1) + 1 ≤ u := lk_pq h7.1 (by omega)
    obtain ⟨un, hu⟩ := ex_n (t := u) (by omega)
    have c7 := (e_all (nn := nn) Y h7.1 ⟨by omega, fun _ => by omega⟩ (tn + 1) un (by omega) (by omega)).1 rfl
    exact sl_6 (by rw [show qn = un + 1 by omega]; exact s6_te (t := tn) (uu := un) (y0 := y) Y Wb h0 h1 hb ⟨hd, by have := (lk_dp h4.1).1 (by decide) (by decide); omega⟩ ⟨h2.1, by omega⟩ (by rw [← hp]; exact h3) (lk_rg h4.1 (by decide) (by decide)).2 c4 h5.2 (kt_f ht h6) c7 (kt_f hu h9.1) (by omega))
  · intro d a b p h0 h1 hd hb pn qn hp hq
    exact sl_7 (by rw [show qn = pn by omega]; exact s7_ln Y (kt_f hp h0) (jp_lt Y.1 (tb_lt Y.1 (i := pn) (by rw [kt_f hp h0]; decide)) (by rw [kt_f hp h0]; decide)))
  · intro d t y a b p q e h0 h1 h2 h3 hd hb pn qn hp hq
    have o2 : p + 1 ≤ t := lk_pq h2.1 (by omega)
    obtain ⟨tn, ht⟩ := ex_n (t := t) (by omega)
    have c2 := (h2.2 (by omega) (by omega) pn tn (by omega) (by omega)).1 rfl
    have o3 : t ≤ q := lk_pq h3.1 (by omega)
    have c3 := (h3.2 (by omega) (by omega) tn qn (by omega) (by omega)).2.1 rfl
    exact sl_7 (s7_lc (t := tn) (y0 := y) Y (by have := tb_lt Y.1 (i := qn) (by rw [kt_f hq (lk_7q h3.1 rfl)]; decide); omega) h0 (kt_g hp h1) ((lk_bg h2.1 (by decide)).trans hp) c2 c3)
  · intro d t a b p q e h0 h1 h2 h3 h4 hd hb pn qn hp hq
    have o3 : (p + 1) ≤ t := lk_pq h3.1 (by omega)
    obtain ⟨tn, ht⟩ := ex_n (t := t) (by omega)
    have c3 := (h3.2 (by omega) (by omega) (pn + 1) tn (by omega) (by omega)).2.1 rfl
    exact sl_8 (by rw [show qn = tn + 1 by omega]; exact s8_bk (t := tn) Y Wb h0 h1.1 (kt_f hp h2) c3 (kt_f ht h4.1) (by omega))
end

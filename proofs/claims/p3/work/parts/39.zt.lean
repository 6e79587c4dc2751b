/-- the reference's tokens one behind the other -/
def LD_ (c : Int) : Prop := (97 ≤ c ∧ c ≤ 122) ∨ (65 ≤ c ∧ c ≤ 90) ∨ (48 ≤ c ∧ c ≤ 57) ∨ c = 95
def PO_ (M : ms_M) : Prop := (∀ t : Nat, (t : Int) + 1 < M 160 8 → 1 ≤ M 165 t ∧ M 164 t + M 165 t ≤ M 164 (t + 1) ∧ (M 163 t ≤ 3 → M 163 (t + 1) ≤ 3 → M 164 t + M 165 t + 1 ≤ M 164 (t + 1))) ∧ (∀ t : Nat, (t : Int) < M 160 8 → M 163 t = 3 → M 166 t = 3 → 5 ≤ M 165 t) ∧ (∀ t : Nat, (t : Int) < 3002 → M 164 t + M 165 t ≤ 3000)
def TI_ (p : Int) (M : ms_M) : Prop := (0 ≤ p ∧ M 160 8 ≤ p ∧ p ≤ M 160 3) ∧ PO_ M ∧ (∀ t : Nat, (t : Int) + 1 = M 160 8 → 1 ≤ M 165 t ∧ M 164 t + M 165 t ≤ p ∧ (M 163 t ≤ 3 → M 164 t + M 165 t = p → M 160 3 ≤ p ∨ ¬ LD_ (M 162 p.toNat)))
def QT_ (r : ms_M) : Prop := VS_ r ∧ EK_ r ∧ PO_ r
theorem fl_449 {nn : Nat} : ∀ (k i : Nat) {h : ms_M}, VS_ h → 1 ≤ h 160 8 → h 160 8 ≤ (i : Int) → (i : Int) ≤ h 160 8 + 4 → h 160 8 + 5 - (i : Int) < (k : Int) → Ok_ (qw_X13_tokenize_449 nn k (i : Int) h) (fun r => VS_ r ∧ (∀ c j, c ≠ 163 → r c j = h c j) ∧ (∀ j : Nat, j < i → r 163 j = h 163 j) ∧ (∀ j : Nat, i ≤ j → (j : Int) < h 160 8 + 4 → r 163 j = 5)) := by
  intro k
  induction k with
  | zero => intro i h V h1 h2 h3 hm; exfalso; omega
  | succ k ih =>
    intro i h V h1 h2 h3 hm
    have g := gF_160_8 V
    unfold qw_X13_tokenize_449
    refine ok_add (by omega) ?_; intro v e
    refine ok_if (fun C => ?_) (fun C => ?_)
    · exact ok_ret ⟨V, fun _ _ _ => rfl, fun _ _ => rfl, fun j a b => by omega⟩
    · refine ok_wA (by omega) ?_; intro h4 E4
      have V4 : VS_ h4 := by rw [E4]; exact wA_163 V (by omega)
      have f4 : ∀ c j, ¬ (c = 163 ∧ j = i) → h4 c j = h c j := fun c j z => by rw [E4]; exact up_n (by omega)
      have s4 : h4 163 i = 5 := by rw [E4]; exact up_s
      have t4 : h4 160 8 = h 160 8 := f4 _ _ (by omega)
      refine ok_add (by omega) ?_; intro v5 e5
      rw [e5]
      obtain ⟨r, er, R1, R2, R3, R4⟩ := ih (i + 1) V4 (by omega) (by omega) (by omega) (by omega)
      refine ⟨r, er, R1, fun c j z => ?_, fun j z => ?_, fun j a b => ?_⟩
      · rw [R2 c j z, f4 c j (by omega)]
      · rw [R3 j (by omega), f4 _ j (by omega)]
      · by_cases z : j = i
        · rw [z, R3 i (by omega)]; exact s4
        · exact R4 j (by omega) (by omega)
theorem fl_400 {nn : Nat} : ∀ (k i : Nat) {h : ms_M}, VS_ h → 1 ≤ h 160 8 → h 160 8 ≤ (i : Int) → (i : Int) ≤ h 160 8 + 4 → h 160 8 + 5 - (i : Int) < (k : Int) → Ok_ (qw_X13_tokenize_400 nn k (i : Int) h) (fun r => VS_ r ∧ (∀ c j, c ≠ 163 → r c j = h c j) ∧ (∀ j : Nat, j < i → r 163 j = h 163 j) ∧ (∀ j : Nat, i ≤ j → (j : Int) < h 160 8 + 4 → r 163 j = 5)) := by
  intro k
  induction k with
  | zero => intro i h V h1 h2 h3 hm; exfalso; omega
  | succ k ih =>
    intro i h V h1 h2 h3 hm
    have g := gF_160_8 V
    unfold qw_X13_tokenize_400
    refine ok_add (by omega) ?_; intro v e
    refine ok_if (fun C => ?_) (fun C => ?_)
    · exact ok_ret ⟨V, fun _ _ _ => rfl, fun _ _ => rfl, fun j a b => by omega⟩
    · refine ok_wA (by omega) ?_; intro h4 E4
      have V4 : VS_ h4 := by rw [E4]; exact wA_163 V (by omega)
      have f4 : ∀ c j, ¬ (c = 163 ∧ j = i) → h4 c j = h c j := fun c j z => by rw [E4]; exact up_n (by omega)
      have s4 : h4 163 i = 5 := by rw [E4]; exact up_s
      have t4 : h4 160 8 = h 160 8 := f4 _ _ (by omega)
      refine ok_add (by omega) ?_; intro v5 e5
      rw [e5]
      obtain ⟨r, er, R1, R2, R3, R4⟩ := ih (i + 1) V4 (by omega) (by omega) (by omega) (by omega)
      refine ⟨r, er, R1, fun c j z => ?_, fun j z => ?_, fun j a b => ?_⟩
      · rw [R2 c j z, f4 c j (by omega)]
      · rw [R3 j (by omega), f4 _ j (by omega)]
      · by_cases z : j = i
        · rw [z, R3 i (by omega)]; exact s4
        · exact R4 j (by omega) (by omega)
/-- behind the last token, which is END or BAD, all is END -/
theorem qt_fin {h r : ms_M} {i : Nat} (P : PO_ h) (hi : (i : Int) = h 160 8) (h1 : 1 ≤ h 160 8) (hl : 5 ≤ h 163 (i - 1)) (V : VS_ r) (R2 : ∀ c j, c ≠ 163 → r c j = h c j) (R3 : ∀ j : Nat, j < i → r 163 j = h 163 j) (R4 : ∀ j : Nat, i ≤ j → (j : Int) < h 160 8 + 4 → r 163 j = 5) : QT_ r := by
  have t : r 160 8 = h 160 8 := R2 _ _ (by decide)
  refine ⟨V, ⟨by omega, fun k a b => ?_⟩, ⟨fun q hq => ?_, fun q hq a b => ?_, fun q hq => ?_⟩⟩
  · rw [t] at a b
    by_cases z : i ≤ k
    · rw [R4 k z b]; decide
    · rw [R3 k (by omega), show k = i - 1 by omega]; exact hl
  · rw [t] at hq
    rw [R2 165 q (by decide), R2 164 q (by decide), R2 164 (q + 1) (by decide), R3 q (by omega), R3 (q + 1) (by omega)]
    exact P.1 q hq
  · rw [t] at hq
    rw [R3 q (by omega)] at a
    rw [R2 166 q (by decide)] at b
    rw [R2 165 q (by decide)]
    exact P.2.1 q hq a b
  · rw [R2 164 q (by decide), R2 165 q (by decide)]; exact P.2.2 q hq
theorem tk_ok {nn : Nat} {k b n v : Int} {h : ms_M} (V : VS_ h) (ht : h 160 8 ≤ 3000) (rk : 0 ≤ k ∧ k ≤ 6) (rb : 0 ≤ b ∧ b ≤ 3000) (rn : 0 ≤ n ∧ n ≤ 3000) (rv : -2147483648 ≤ v ∧ v ≤ 2147483647) : Ok_ (qf_X13_token nn k b n v h) (fun r => VS_ r ∧ r 160 8 = h 160 8 + 1 ∧ (r 163 (h 160 8).toNat = k ∧ r 164 (h 160 8).toNat = b ∧ r 165 (h 160 8).toNat = n ∧ r 166 (h 160 8).toNat = v) ∧ (∀ c j, ¬ (c = 160 ∧ j = 8) → ¬ ((c = 163 ∨ c = 164 ∨ c = 165 ∨ c = 166) ∧ j = (h 160 8).toNat) → r c j = h c j)) := by
  have g := gF_160_8 V
  unfold qf_X13_token
  refine ok_wA (by omega) ?_; intro h3 E3
  have V3 : VS_ h3 := by rw [E3]; exact wA_163 V (by omega)
  have t3 : h3 160 8 = h 160 8 := by rw [E3]; exact up_n (by omega)
  refine ok_wA (by omega) ?_; intro h6 E6
  have V6 : VS_ h6 := by rw [E6]; exact wA_164 V3 (by omega)
  have t6 : h6 160 8 = h 160 8 := by rw [E6, up_n (by omega)]; exact t3
  refine ok_wA (by omega) ?_; intro h9 E9
  have V9 : VS_ h9 := by rw [E9]; exact wA_165 V6 (by omega)
  have t9 : h9 160 8 = h 160 8 := by rw [E9, up_n (by omega)]; exact t6
  refine ok_wA (by omega) ?_; intro h12 E12
  have V12 : VS_ h12 := by rw [E12]; exact wA_166 V9 (by omega)
  have t12 : h12 160 8 = h 160 8 := by rw [E12, up_n (by omega)]; exact t9
  refine ok_add (by omega) ?_; intro v14 e14
  refine ok_xl ?_; intro h15 E15
  have V15 : VS_ h15 := by rw [E15]; exact wF_160_8 V12 (by omega)
  rw [t3] at E6; rw [t6] at E9; rw [t9] at E12
  refine ok_ret ⟨V15, by rw [E15, up_s]; omega, ⟨?_, ?_, ?_, ?_⟩, fun c j z1 z2 => ?_⟩
  · rw [E15, up_n (by omega), E12, up_n (by omega), E9, up_n (by omega), E6, up_n (by omega), E3, up_s]
  · rw [E15, up_n (by omega), E12, up_n (by omega), E9, up_n (by omega), E6, up_s]
  · rw [E15, up_n (by omega), E12, up_n (by omega), E9, up_s]
  · rw [E15, up_n (by omega), E12, up_s]
  · rw [E15, up_n z1, E12, up_n (by omega), E9, up_n (by omega), E6, up_n (by omega), E3, up_n (by omega)]
theorem po_tok {p k n v : Int} {h u : ms_M} (p1 : h 160 8 ≤ p) (g8 : 0 ≤ h 160 8) (hp : p < h 160 3 ∨ 4 ≤ k) (P : PO_ h) (L : ∀ t : Nat, (t : Int) + 1 = h 160 8 → 1 ≤ h 165 t ∧ h 164 t + h 165 t ≤ p ∧ (h 163 t ≤ 3 → h 164 t + h 165 t = p → h 160 3 ≤ p ∨ ¬ LD_ (h 162 p.toNat))) (t1 : u 160 8 = h 160 8 + 1) (s1 : u 163 (h 160 8).toNat = k) (s2 : u 164 (h 160 8).toNat = p) (s3 : u 165 (h 160 8).toNat = n) (s4 : u 166 (h 160 8).toNat = v) (F : ∀ c j, ¬ (c = 160 ∧ j = 8) → ¬ ((c = 163 ∨ c = 164 ∨ c = 165 ∨ c = 166) ∧ j = (h 160 8).toNat) → u c j = h c j) (ha : k ≤ 3 → LD_ (h 162 p.toNat)) (hc : k = 3 → v = 3 → 5 ≤ n) (hw : p + n ≤ 3000) : PO_ u := by
  refine ⟨fun q hq => ?_, fun q hq a b => ?_, fun q hq => ?_⟩
  · by_cases z : (q : Int) + 1 < h 160 8
    · rw [F 165 q (by omega) (by omega), F 164 q (by omega) (by omega), F 164 (q + 1) (by omega) (by omega), F 163 q (by omega) (by omega), F 163 (q + 1) (by omega) (by omega)]
      exact P.1 q z
    · have q8 : (q : Int) + 1 = h 160 8 := by omega
      have := L q q8
      rw [F 165 q (by omega) (by omega), F 164 q (by omega) (by omega), F 163 q (by omega) (by omega), show q + 1 = (h 160 8).toNat by omega, s1, s2]
      refine ⟨this.1, this.2.1, fun a b => ?_⟩
      by_cases w : h 164 q + h 165 q = p
      · rcases this.2.2 a w with y | y
        · omega
        · exact absurd (ha b) y
      · omega
  · by_cases z : (q : Int) < h 160 8
    · rw [F 163 q (by omega) (by omega)] at a
      rw [F 166 q (by omega) (by omega)] at b
      rw [F 165 q (by omega) (by omega)]
      exact P.2.1 q z a b
    · have q8 : q = (h 160 8).toNat := by omega
      rw [q8, s1] at a; rw [q8, s4] at b; rw [q8, s3]
      exact hc a b
  · by_cases z : q = (h 160 8).toNat
    · rw [z, s2, s3]; exact hw
    · rw [F 164 q (by omega) (by omega), F 165 q (by omega) (by omega)]; exact P.2.2 q hq
section
variable {nn : Nat} {qk : Int → ms_M → Option ms_M} {p : Int}
/-- a token is put down at p, and the work goes on behind it or ends -/
theorem tz_tok (hn : 1000000 ≤ nn) (hk : ∀ (q : Int) {g : ms_M}, VS_ g → TI_ q g → p < q → Ok_ (qk q g) QT_) {k n v : Int} {h : ms_M} (V : VS_ h) (T : TI_ p h) (hp : p < h 160 3) (rk : 1 ≤ k ∧ k ≤ 6 ∧ k ≠ 5) (rn : 0 ≤ n ∧ p + n ≤ h 160 3) (rv : -2147483648 ≤ v ∧ v ≤ 2147483647) (hg : k ≠ 6 → 1 ≤ n) (ha : k ≤ 3 → LD_ (h 162 p.toNat)) (hb : k ≤ 3 → h 160 3 ≤ p + n ∨ ¬ LD_ (h 162 (p + n).toNat)) (hc : k = 3 → v = 3 → 5 ≤ n) : Ok_ (mx_sv (qf_X13_token nn k p n v h) fun u => qj_X13_tokenize_378 nn qk p n u) QT_ := by
  have g8 := gF_160_8 V
  have g3 := gF_160_3 V
  obtain ⟨⟨p0, p1, p2⟩, P, L⟩ := T
  obtain ⟨u, eu, Vu, t1, ⟨s1, s2, s3, s4⟩, F⟩ := tk_ok (nn := nn) (k := k) (b := p) (n := n) (v := v) V (by omega) (by omega) (by omega) (by omega) rv
  rw [eu, mx_svs]
  have hz : u 160 3 = h 160 3 := F _ _ (by omega) (by omega)
  have Pu : PO_ u := po_tok p1 g8.1 (.inl hp) P L t1 s1 s2 s3 s4 F ha hc (by omega)
  unfold qj_X13_tokenize_378
  refine ok_sub (by omega) ?_; intro v15 e15
  refine ok_rd (by omega) (gA_163 Vu) ?_; intro v16 e16 a16 b16
  have e16 : v16 = k := by rw [e16, show v15.toNat = (h 160 8).toNat by omega]; exact s1
  refine ok_if (fun C => ?_) (fun C => ?_)
  · refine ok_add (by omega) ?_; intro v17 e17
    have n1 := hg (by omega)
    refine hk v17 Vu ⟨⟨by omega, by omega, by omega⟩, Pu, fun q hq => ?_⟩ (by omega)
    have q8 : q = (h 160 8).toNat := by omega
    rw [q8, s1, s2, s3]
    refine ⟨n1, by omega, fun a _ => ?_⟩
    rw [hz, e17, F 162 _ (by omega) (by omega)]
    exact hb a
  · have hi : (((u 160 8).toNat : Nat) : Int) = u 160 8 := by omega
    obtain ⟨r, er, R1, R2, R3, R4⟩ := fl_400 (nn := nn) nn (u 160 8).toNat Vu (by omega) (by omega) (by omega) (by omega)
    rw [hi] at er
    refine ⟨r, er, qt_fin Pu hi (by omega) ?_ R1 R2 R3 R4⟩
    rw [show (u 160 8).toNat - 1 = (h 160 8).toNat by omega, s1]; omega
end
def tx_ (h : ms_M) (i : Int) : Int := if h 160 3 ≤ i then 0 else h 162 i.toNat
theorem tx_n {h : ms_M} {i : Int} (l : LD_ (tx_ h i)) : i < h 160 3 ∧ LD_ (h 162 i.toNat) := by
  unfold tx_ at l
  split at l
  · unfold LD_ at l; omega
  · exact ⟨by omega, l⟩
theorem tx_0 (h : ms_M) (i : Int) : tx_ h i = 0 ∨ i < h 160 3 := by
  unfold tx_
  by_cases z : h 160 3 ≤ i
  · rw [if_pos z]; exact .inl rfl
  · right; omega
theorem at_eq {nn : Nat} {h : ms_M} {i : Int} (V : VS_ h) (h0 : 0 ≤ i) : qf_X13_at nn i h = some (tx_ h i) := by
  have g := gF_160_3 V
  unfold qf_X13_at tx_
  by_cases q : h 160 3 ≤ i
  · rw [if_pos q, if_pos q]
  · rw [if_neg q, if_neg q]
    unfold rd_A
    rw [if_pos (by omega)]
theorem tx_b {h : ms_M} {i : Int} (V : VS_ h) (h0 : 0 ≤ i) : 0 ≤ tx_ h i ∧ tx_ h i ≤ 255 := by
  have g := gF_160_3 V
  unfold tx_
  split
  · omega
  · exact gA_162 V i.toNat (by omega)
theorem il_ok {nn : Nat} {c : Int} {h : ms_M} : ∃ u, qf_X13_isLetter nn c h = some u ∧ ((u = 1 ∧ ((97 ≤ c ∧ c ≤ 122) ∨ (65 ≤ c ∧ c ≤ 90))) ∨ (u = 0 ∧ ¬ ((97 ≤ c ∧ c ≤ 122) ∨ (65 ≤ c ∧ c ≤ 90)))) := by
  unfold qf_X13_isLetter qj_X13_isLetter_12
  split
  · split
    · exact ⟨0, rfl, by omega⟩
    · split
      · exact ⟨0, rfl, by omega⟩
      · exact ⟨1, rfl, by omega⟩
  · split
    · exact ⟨1, rfl, by omega⟩
    · split
      · exact ⟨0, rfl, by omega⟩
      · split
        · exact ⟨0, rfl, by omega⟩
        · exact ⟨1, rfl, by omega⟩
theorem id_ok {nn : Nat} {c : Int} {h : ms_M} : ∃ u, qf_X13_isDigit nn c h = some u ∧ ((u = 1 ∧ 48 ≤ c ∧ c ≤ 57) ∨ (u = 0 ∧ ¬ (48 ≤ c ∧ c ≤ 57))) := by
  unfold qf_X13_isDigit
  split
  · exact ⟨0, rfl, by omega⟩
  · split
    · exact ⟨0, rfl, by omega⟩
    · exact ⟨1, rfl, by omega⟩
section
variable {nn : Nat} {qk : Int → ms_M → Option ms_M} {p : Int} {h : ms_M}
theorem tz_92 (hn : 1000000 ≤ nn) (hk : ∀ (q : Int) {g : ms_M}, VS_ g → TI_ q g → p < q → Ok_ (qk q g) QT_) (V : VS_ h) (T : TI_ p h) (hp : p < h 160 3) (hl : LD_ (h 162 p.toNat)) : ∀ (f : Nat) (n : Int), 0 ≤ n → p + n ≤ h 160 3 → h 160 3 + 1 - (p + n) < (f : Int) → Ok_ (qw_X13_tokenize_92 nn qk f p n h) QT_ := by
  have g3 := gF_160_3 V
  have p0 := T.1.1
  intro f
  induction f with
  | zero => intro n a b hm; exfalso; omega
  | succ f ih =>
    intro n a b hm
    unfold qw_X13_tokenize_92
    have nx : LD_ (tx_ h (p + n)) → Ok_ (qw_X13_tokenize_92 nn qk f p (n + 1) h) QT_ := fun l => by
      have := tx_n l
      exact ih (n + 1) (by omega) (by omega) (by omega)
    refine ok_add (by omega) ?_; intro v65 e65
    rw [e65, at_eq V (by omega), mx_svs]
    obtain ⟨u68, e68, L68⟩ := il_ok (nn := nn) (c := tx_ h (p + n)) (h := h)
    rw [e68, mx_svs]
    refine ok_if (fun C => ?_) (fun C => ?_)
    · refine ok_add (by omega) ?_; intro v69 e69
      rw [e69]; exact nx (by unfold LD_; omega)
    · refine ok_add (by omega) ?_; intro v70 e70
      rw [e70, at_eq V (by omega), mx_svs]
      obtain ⟨u73, e73, L73⟩ := id_ok (nn := nn) (c := tx_ h (p + n)) (h := h)
      rw [e73, mx_svs]
      refine ok_if (fun C2 => ?_) (fun C2 => ?_)
      · refine ok_add (by omega) ?_; intro v74 e74
        rw [e74]; exact nx (by unfold LD_; omega)
      · refine ok_add (by omega) ?_; intro v75 e75
        rw [e75, at_eq V (by omega), mx_svs]
        refine ok_if (fun C3 => ?_) (fun C3 => ?_)
        · have nl : ¬ LD_ (tx_ h (p + n)) := by unfold LD_; omega
          have n1 : 1 ≤ n := by
            by_cases z : n = 0
            · rw [z, Int.add_zero] at nl
              unfold tx_ at nl
              rw [if_neg (by omega)] at nl
              exact absurd hl nl
            · omega
          have hb : h 160 3 ≤ p + n ∨ ¬ LD_ (h 162 (p + n).toNat) := by
            by_cases z : h 160 3 ≤ p + n
            · exact .inl z
            · right; unfold tx_ at nl; rw [if_neg z] at nl; exact nl
          obtain ⟨u, eu, qu⟩ := am_ok (nn := nn) (p := p) (n := n) hn XT_2 V p0 a (by omega)
          have q2 := qa_2 a qu
          rw [eu, mx_svs]
          have tok : ∀ {k : Int}, (1 ≤ k ∧ k ≤ 6 ∧ k ≠ 5) → (k = 3 → 0 ≤ u) → Ok_ (qj_X13_tokenize_169 nn qk p n u k h) QT_ := fun rk rz => by
            unfold qj_X13_tokenize_169
            exact tz_tok hn hk V T hp rk (by omega) (by omega) (fun _ => n1) (fun _ => hl) (fun _ => hb) (fun _ z => q2.2 z)
          refine ok_if (fun C4 => ?_) (fun C4 => ?_)
          · refine ok_if (fun C5 => tok (by omega) (by omega)) (fun C5 => tok (by omega) (by omega))
          · exact tok (by omega) (by omega)
        · refine ok_add (by omega) ?_; intro v82 e82
          rw [e82]; exact nx (by unfold LD_; omega)
theorem tz_293 (hn : 1000000 ≤ nn) (hk : ∀ (q : Int) {g : ms_M}, VS_ g → TI_ q g → p < q → Ok_ (qk q g) QT_) (V : VS_ h) (T : TI_ p h) (hp : p < h 160 3) (hl : LD_ (h 162 p.toNat)) {n l4 s : Int} (hs : s = 0 ∨ s = 1) (n1 : 1 ≤ n ∧ p + n ≤ h 160 3) (hb : s = 1 → h 160 3 ≤ p + n ∨ ¬ LD_ (h 162 (p + n).toNat)) : Ok_ (qj_X13_tokenize_293 nn qk p n l4 s h) QT_ := by
  unfold qj_X13_tokenize_293
  refine ok_if (fun C => ?_) (fun C => ?_)
  · unfold qj_X13_tokenize_307
    refine ok_l2i ?_; intro v a b _
    exact tz_tok hn hk V T hp (by omega) (by omega) ⟨a, b⟩ (fun _ => n1.1) (fun z => by omega) (fun z => by omega) (fun z => by omega)
  · unfold qj_X13_tokenize_307
    refine ok_l2i ?_; intro v a b _
    exact tz_tok hn hk V T hp (by omega) (by omega) ⟨a, b⟩ (fun _ => n1.1) (fun _ => hl) (fun _ => hb (by omega)) (fun z => by omega)
theorem tz_263 (hn : 1000000 ≤ nn) (hk : ∀ (q : Int) {g : ms_M}, VS_ g → TI_ q g → p < q → Ok_ (qk q g) QT_) (V : VS_ h) (T : TI_ p h) (hp : p < h 160 3) (hl : LD_ (h 162 p.toNat)) {n l4 : Int} (n1 : 1 ≤ n ∧ p + n ≤ h 160 3) (nd : ¬ (48 ≤ tx_ h (p + n) ∧ tx_ h (p + n) ≤ 57)) : Ok_ (qj_X13_tokenize_263 nn qk p n l4 h) QT_ := by
  have g3 := gF_160_3 V
  have p0 := T.1.1
  unfold qj_X13_tokenize_263 qj_X13_tokenize_292
  refine ok_add (by omega) ?_; intro v34 e34
  rw [e34, at_eq V (by omega), mx_svs]
  obtain ⟨u37, e37, L37⟩ := il_ok (nn := nn) (c := tx_ h (p + n)) (h := h)
  rw [e37, mx_svs]
  refine ok_if (fun C => tz_293 hn hk V T hp hl (.inl rfl) n1 (fun z => by omega)) (fun C => ?_)
  refine ok_add (by omega) ?_; intro v38 e38
  rw [e38, at_eq V (by omega), mx_svs]
  refine ok_if (fun C2 => tz_293 hn hk V T hp hl (.inl rfl) n1 (fun z => by omega)) (fun C2 => ?_)
  refine tz_293 hn hk V T hp hl (.inr rfl) n1 (fun _ => ?_)
  by_cases z : h 160 3 ≤ p + n
  · exact .inl z
  · right
    have : tx_ h (p + n) = h 162 (p + n).toNat := by unfold tx_; rw [if_neg z]
    rw [← this]; unfold LD_; omega
theorem tz_189 (hn : 1000000 ≤ nn) (hk : ∀ (q : Int) {g : ms_M}, VS_ g → TI_ q g → p < q → Ok_ (qk q g) QT_) (V : VS_ h) (T : TI_ p h) (hp : p < h 160 3) (hd : 48 ≤ h 162 p.toNat ∧ h 162 p.toNat ≤ 57) {l2 : Int} : ∀ (f : Nat) (n l4 : Int), 0 ≤ n → p + n ≤ h 160 3 → (0 ≤ l4 ∧ l4 ≤ 30000000009) → h 160 3 + 1 - (p + n) < (f : Int) → Ok_ (qw_X13_tokenize_189 nn qk f p l2 n l4 h) QT_ := by
  have g3 := gF_160_3 V
  have p0 := T.1.1
  have hl : LD_ (h 162 p.toNat) := by unfold LD_; omega
  intro f
  induction f with
  | zero => intro n l4 a b c hm; exfalso; omega
  | succ f ih =>
    intro n l4 a b c hm
    unfold qw_X13_tokenize_189
    refine ok_add (by omega) ?_; intro v43 e43
    rw [e43, at_eq V (by omega), mx_svs]
    obtain ⟨u46, e46, L46⟩ := id_ok (nn := nn) (c := tx_ h (p + n)) (h := h)
    rw [e46, mx_svs]
    have bt := tx_b (i := p + n) V (by omega)
    refine ok_if (fun C => ?_) (fun C => ?_)
    · have n1 : 1 ≤ n := by
        by_cases z : n = 0
        · have : tx_ h (p + n) = h 162 p.toNat := by unfold tx_; rw [z, Int.add_zero, if_neg (by omega)]
          omega
        · omega
      refine ok_cmp ?_; intro v47 e47
      refine ok_if (fun C2 => ?_) (fun C2 => ?_)
      · unfold qj_X13_tokenize_292
        exact tz_293 hn hk V T hp hl (.inl rfl) ⟨n1, b⟩ (fun z => by omega)
      · refine ok_if (fun C3 => tz_263 hn hk V T hp hl ⟨n1, b⟩ (by omega)) (fun C3 => ?_)
        refine ok_if (fun C4 => ?_) (fun C4 => tz_263 hn hk V T hp hl ⟨n1, b⟩ (by omega))
        unfold qj_X13_tokenize_292
        exact tz_293 hn hk V T hp hl (.inl rfl) ⟨n1, b⟩ (fun z => by omega)
    · have lt : p + n < h 160 3 := (tx_n (h := h) (i := p + n) (by unfold LD_; omega)).1
      refine ok_cmp ?_; intro v51 e51
      refine ok_if (fun C2 => ?_) (fun C2 => ?_)
      · refine ok_c6 (by omega) ?_; intro v52 e52
        refine ok_add (by omega) ?_; intro v53 e53
        rw [e53, at_eq V (by omega), mx_svs]
        refine ok_xl ?_; intro v56 e56
        refine ok_c6 (by omega) ?_; intro v57 e57
        refine ok_c6 (by omega) ?_; intro v58 e58
        refine ok_add (by omega) ?_; intro v59 e59
        exact ih v59 v58 (by omega) (by omega) (by omega) (by omega)
      · refine ok_add (by omega) ?_; intro v60 e60
        exact ih v60 l4 (by omega) (by omega) c (by omega)
theorem tz_330 (hn : 1000000 ≤ nn) (hk : ∀ (q : Int) {g : ms_M}, VS_ g → TI_ q g → p < q → Ok_ (qk q g) QT_) (V : VS_ h) (T : TI_ p h) (hp : p < h 160 3) {n : Int} (hn3 : 0 ≤ n ∧ n ≤ 3 ∧ p + n ≤ h 160 3) : ∀ (f : Nat) (l4 i : Int), i ≤ n → ((i = 0 ∧ l4 = 0) ∨ (i = 1 ∧ 0 ≤ l4 ∧ l4 ≤ 255) ∨ (i = 2 ∧ 0 ≤ l4 ∧ l4 ≤ 33000) ∨ (i = 3 ∧ 0 ≤ l4 ∧ l4 ≤ 5000000)) → n - i < (f : Int) → Ok_ (qw_X13_tokenize_330 nn qk f p n l4 i h) QT_ := by
  have g3 := gF_160_3 V
  have p0 := T.1.1
  intro f
  induction f with
  | zero =>
    intro l4 i ai a hm
    exfalso; omega
  | succ f ih =>
    intro l4 i ai a hm
    unfold qw_X13_tokenize_330
    refine ok_if (fun C => ?_) (fun C => ?_)
    · refine ok_if (fun C2 => ?_) (fun C2 => ?_)
      · unfold qj_X13_tokenize_371
        exact tz_tok hn hk V T hp (by omega) (by omega) (by omega) (fun z => absurd rfl z) (fun z => by omega) (fun z => by omega) (fun z => by omega)
      · unfold qj_X13_tokenize_371
        exact tz_tok hn hk V T hp (by omega) (by omega) (by omega) (fun _ => by omega) (fun z => by omega) (fun z => by omega) (fun z => by omega)
    · refine ok_mul (by omega) ?_; intro v23 e23
      refine ok_add (by omega) ?_; intro v25 e25
      refine ok_rd (by omega) (gA_162 V) ?_; intro v26 e26 a26 b26
      refine ok_add (by omega) ?_; intro v27 e27
      refine ok_add (by omega) ?_; intro v28 e28
      exact ih v27 v28 (by omega) (by omega) (by omega)
theorem sg_ok (V : VS_ h) (p0 : 0 ≤ p) (hp : p < h 160 3) : Ok_ (qf_X13_signAt nn p h) (fun u => (0 ≤ u ∧ u ≤ 3) ∧ p + u ≤ h 160 3) := by
  have g3 := gF_160_3 V
  have d1 := tx_0 h (p + 1)
  have d2 := tx_0 h (p + 2)
  unfold qf_X13_signAt
  rw [at_eq V p0, mx_svs]
  refine ok_add (by omega) ?_; intro v5 e5
  rw [e5, at_eq V (by omega), mx_svs]
  generalize tx_ h (p + 1) = d at *
  generalize tx_ h p = c at *
  have a404 : Ok_ (qj_X13_signAt_404 nn h) (fun u => (0 ≤ u ∧ u ≤ 3) ∧ p + u ≤ h 160 3) := ok_ret (by omega)
  have a485 : Ok_ (qj_X13_signAt_485 nn h) (fun u => (0 ≤ u ∧ u ≤ 3) ∧ p + u ≤ h 160 3) := ok_ret (by omega)
  have a406 : Ok_ (qj_X13_signAt_406 nn d h) (fun u => (0 ≤ u ∧ u ≤ 3) ∧ p + u ≤ h 160 3) := by
    unfold qj_X13_signAt_406
    exact ok_if (fun _ => ok_ret (by omega)) (fun _ => ok_ret (by omega))
  have a474 : c ≠ 0 → Ok_ (qj_X13_signAt_474 nn c d h) (fun u => (0 ≤ u ∧ u ≤ 3) ∧ p + u ≤ h 160 3) := by
    intro z
    unfold qj_X13_signAt_474
    exact ok_if (fun _ => ok_ret (by omega)) (fun _ => ok_ret (by omega))
  refine ok_if (fun _ => a406) (fun _ => ?_)
  refine ok_if (fun _ => a404) (fun _ => ?_)
  refine ok_if (fun _ => a474 (by omega)) (fun _ => ?_)
  refine ok_if (fun _ => a404) (fun _ => ?_)
  refine ok_if (fun _ => a404) (fun _ => ?_)
  refine ok_if (fun _ => a404) (fun _ => ?_)
  refine ok_if (fun _ => a404) (fun _ => ?_)
  refine ok_if (fun _ => a404) (fun _ => ?_)
  refine ok_if (fun _ => a404) (fun _ => ?_)
  refine ok_if (fun _ => a404) (fun _ => ?_)
  refine ok_if (fun _ => a404) (fun _ => ?_)
  refine ok_if (fun _ => a404) (fun _ => ?_)
  refine ok_if (fun _ => a404) (fun _ => ?_)
  refine ok_if (fun _ => ?_) (fun _ => ?_)
  · refine ok_if (fun _ => ok_ret (by omega)) (fun _ => ?_)
    exact ok_if (fun _ => ok_ret (by omega)) (fun _ => ok_ret (by omega))
  refine ok_if (fun _ => a406) (fun _ => ?_)
  refine ok_if (fun _ => ?_) (fun _ => ?_)
  · refine ok_if (fun _ => ?_) (fun _ => ?_)
    · exact ok_if (fun _ => ok_ret (by omega)) (fun _ => ok_ret (by omega))
    · refine ok_add (by omega) ?_; intro v11 e11
      rw [e11, at_eq V (by omega), mx_svs]
      exact ok_if (fun _ => ok_ret (by omega)) (fun _ => ok_ret (by omega))
  refine ok_if (fun _ => a404) (fun _ => ?_)
  refine ok_if (fun _ => a404) (fun _ => ?_)
  refine ok_if (fun _ => a404) (fun _ => ?_)
  refine ok_if (fun _ => a404) (fun _ => ?_)
  refine ok_if (fun _ => a404) (fun _ => ?_)
  refine ok_if (fun _ => a474 (by omega)) (fun _ => ?_)
  refine ok_if (fun _ => a404) (fun _ => ?_)
  refine ok_if (fun _ => a404) (fun _ => a485)
theorem tz_83 (hn : 1000000 ≤ nn) (hk : ∀ (q : Int) {g : ms_M}, VS_ g → TI_ q g → p < q → Ok_ (qk q g) QT_) (V : VS_ h) (T : TI_ p h) (hp : p < h 160 3) : Ok_ (qj_X13_tokenize_83 nn qk p (h 162 p.toNat) h) QT_ := by
  have g3 := gF_160_3 V
  have p0 := T.1.1
  unfold qj_X13_tokenize_83
  obtain ⟨u86, e86, L86⟩ := il_ok (nn := nn) (c := h 162 p.toNat) (h := h)
  rw [e86, mx_svs]
  refine ok_if (fun C => ?_) (fun C => ?_)
  · obtain ⟨u87, e87, L87⟩ := id_ok (nn := nn) (c := h 162 p.toNat) (h := h)
    rw [e87, mx_svs]
    refine ok_if (fun C2 => ?_) (fun C2 => ?_)
    · obtain ⟨u89, e89, q89⟩ := sg_ok (nn := nn) V p0 hp
      rw [e89, mx_svs]
      exact tz_330 hn hk V T hp (by omega) nn 0 0 (by omega) (.inl ⟨rfl, rfl⟩) (by omega)
    · exact tz_189 hn hk V T hp (by omega) nn 0 0 (by omega) (by omega) (by omega) (by omega)
  · exact tz_92 hn hk V T hp (by unfold LD_; omega) nn 0 (by omega) (by omega) (by omega)
end
theorem ti_go {p q : Int} {h : ms_M} (T : TI_ p h) (hq : p < q ∧ q ≤ h 160 3) : TI_ q h := by
  refine ⟨by have := T.1; omega, T.2.1, fun t ht => ?_⟩
  have := T.2.2 t ht
  exact ⟨this.1, by omega, fun _ z => by omega⟩
theorem tz_58 {nn : Nat} {qk : Int → ms_M → Option ms_M} {h : ms_M} {p0 : Int} (V : VS_ h) (T : TI_ p0 h) (hk : ∀ (q : Int), TI_ q h → p0 < q → Ok_ (qk q h) QT_) : ∀ (f : Nat) (p : Int), (p0 < p ∨ (p = p0 ∧ p < h 160 3 ∧ ¬ h 162 p.toNat = 10)) → p ≤ h 160 3 → h 160 3 + 1 - p < (f : Int) → Ok_ (qw_X13_tokenize_58 nn qk f p h) QT_ := by
  have g3 := gF_160_3 V
  have t0 := T.1.1
  intro f
  induction f with
  | zero => intro p a b hm; exfalso; omega
  | succ f ih =>
    intro p a b hm
    unfold qw_X13_tokenize_58
    refine ok_if (fun C => ?_) (fun C => ?_)
    · exact hk p (ti_go T (by omega)) (by omega)
    · refine ok_rd (by omega) (gA_162 V) ?_; intro v e av bv
      refine ok_if (fun C2 => ?_) (fun C2 => ?_)
      · rcases a with a | a
        · exact hk p (ti_go T (by omega)) (by omega)
        · exact absurd (by rw [← e]; exact C2) a.2.2
      · refine ok_add (by omega) ?_; intro v95 e95
        exact ih v95 (by omega) (by omega) (by omega)
theorem tz_7 {nn : Nat} (hn : 1000000 ≤ nn) : ∀ (f : Nat) (p : Int) {h : ms_M}, VS_ h → TI_ p h → 3001 - p < (f : Int) → Ok_ (qw_X13_tokenize_7 nn f p h) QT_ := by
  intro f
  induction f with
  | zero => intro p h V T hm; have := gF_160_3 V; have := T.1; exfalso; omega
  | succ f ih =>
    intro p h V T hm
    have g3 := gF_160_3 V
    have g8 := gF_160_8 V
    obtain ⟨⟨p0, p1, p2⟩, P, L⟩ := T
    have T : TI_ p h := ⟨⟨p0, p1, p2⟩, P, L⟩
    have hk : ∀ (q : Int) {g : ms_M}, VS_ g → TI_ q g → p < q → Ok_ (qw_X13_tokenize_7 nn f q g) QT_ := fun q g Vg Tg hq => ih q Vg Tg (by omega)
    unfold qw_X13_tokenize_7
    refine ok_if (fun C => ?_) (fun C => ?_)
    · obtain ⟨u, eu, Vu, t1, ⟨s1, s2, s3, s4⟩, F⟩ := tk_ok (nn := nn) (k := 5) (b := h 160 3) (n := 0) (v := 0) V (by omega) (by omega) (by omega) (by omega) (by omega)
      rw [eu, mx_svs]
      have hpe : p = h 160 3 := by omega
      have Pu : PO_ u := po_tok p1 g8.1 (.inr (by omega)) P L t1 s1 (by rw [s2]; exact hpe.symm) s3 s4 F (fun z => by omega) (fun z => by omega) (by omega)
      have hi : (((u 160 8).toNat : Nat) : Int) = u 160 8 := by omega
      obtain ⟨r, er, R1, R2, R3, R4⟩ := fl_449 (nn := nn) nn (u 160 8).toNat Vu (by omega) (by omega) (by omega) (by omega)
      rw [hi] at er
      refine ⟨r, er, qt_fin Pu hi (by omega) ?_ R1 R2 R3 R4⟩
      rw [show (u 160 8).toNat - 1 = (h 160 8).toNat by omega, s1]; omega
    · have hp : p < h 160 3 := by omega
      refine ok_rd (by omega) (gA_162 V) ?_; intro v104 e104 a104 b104
      refine ok_if (fun C1 => ?_) (fun C1 => ?_)
      · refine ok_add (by omega) ?_; intro v e
        exact hk v V (ti_go T (by omega)) (by omega)
      · refine ok_if (fun C2 => ?_) (fun C2 => ?_)
        · refine ok_if (fun C3 => ?_) (fun C3 => ?_)
          · rw [e104]; exact tz_83 hn hk V T hp
          · refine ok_add (by omega) ?_; intro v106 e106
            rw [e106, at_eq V (by omega), mx_svs]
            refine ok_if (fun C4 => ?_) (fun C4 => ?_)
            · rw [e104]; exact tz_83 hn hk V T hp
            · exact tz_58 V T (fun q Tq hq => hk q V Tq hq) nn p (.inr ⟨rfl, hp, by rw [← e104]; omega⟩) p2 (by omega)
        · refine ok_add (by omega) ?_; intro v e
          exact hk v V (ti_go T (by omega)) (by omega)
theorem tz_ok {nn : Nat} (hn : 1000000 ≤ nn) {h : ms_M} (V : VS_ h) (W : ∀ t : Nat, (t : Int) < 3002 → h 164 t + h 165 t ≤ 3000) : Ok_ (qf_X13_tokenize nn h) QT_ := by
  have g3 := gF_160_3 V
  unfold qf_X13_tokenize
  refine ok_xl ?_; intro h1 E1
  have V1 : VS_ h1 := by rw [E1]; exact wF_160_8 V (by omega)
  have t1 : h1 160 8 = 0 := by rw [E1]; exact up_s
  have t3 : h1 160 3 = h 160 3 := by rw [E1]; exact up_n (by omega)
  refine tz_7 hn nn 0 V1 ⟨by omega, ⟨fun t ht => by omega, fun t ht => by omega, fun t ht => by rw [E1, up_n (by omega), up_n (by omega)]; exact W t ht⟩, fun t ht => by omega⟩ (by omega)

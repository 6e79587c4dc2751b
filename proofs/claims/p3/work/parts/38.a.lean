/-- THE TAPE. Class: cell 0 field 1 (how many), cell 1 (the bytes, with sign); reference: cell 160 field 1, cell 161. -/
def tp_R (M : ms_M) : Prop := M 160 1 = M 0 1 ∧ (0 ≤ M 0 1 ∧ M 0 1 ≤ 6000) ∧ ∀ i : Nat, (i : Int) < M 0 1 → M 161 i = M 1 i % 256
theorem up_s {M : ms_M} {c k : Nat} {v : Int} : up_M M c k v c k = v := by unfold up_M; rw [if_pos ⟨rfl, rfl⟩]
theorem up_n {M : ms_M} {c k c2 k2 : Nat} {v : Int} (h : ¬ (c2 = c ∧ k2 = k)) : up_M M c k v c2 k2 = M c2 k2 := by unfold up_M; rw [if_neg h]
theorem oq_b_b {x : Int} : oq_b (oq_b x) = oq_b x := by
  unfold oq_b; rw [Int32.ofInt_toInt]; simp
theorem oq_b_eq {x : Int} (hx : in_R x) : oq_b x = Int.bmod x 256 := by
  unfold oq_b
  rw [Int8.toInt_toInt32, Int32.toInt_toInt8, to_of hx]
theorem oq_and_255 {x : Int} (hx : in_R x) : oq_and x 255 = x % 256 := by
  unfold oq_and
  have h1 : (Int32.ofInt x &&& Int32.ofInt 255).toInt = (Int32.ofInt x &&& Int32.ofInt 255).toBitVec.toInt := rfl
  rw [h1, Int32.toBitVec_and]
  have h2 : ((Int32.ofInt x).toBitVec &&& (Int32.ofInt 255).toBitVec).toNat = (x % 256).toNat := by
    rw [BitVec.toNat_and]
    have h3 : (Int32.ofInt 255).toBitVec.toNat = 2 ^ 8 - 1 := rfl
    rw [h3, Nat.and_two_pow_sub_one_eq_mod]
    have h4 : (Int32.ofInt x).toBitVec.toNat = (x % 4294967296).toNat := by
      show (BitVec.ofInt 32 x).toNat = _
      rw [BitVec.toNat_ofInt]; rfl
    rw [h4]; omega
  have h5 : (x % 256).toNat < 256 := by omega
  rw [BitVec.toInt_eq_toNat_of_lt (by rw [h2]; omega), h2]
  omega
theorem by_rel {x : Int} (hx : in_R x) : oq_and x 255 = oq_b x % 256 := by
  rw [oq_and_255 hx, oq_b_eq hx, Int.bmod_def]
  split <;> omega
theorem oq_shr_R (x y : Int) : in_R (oq_shr x y) := rg_i _
/-- the twenty numbers of a feed, before they are cut to bytes -/
def fb_N (a b d e f : Int) (j : Nat) : Int := oq_shr (if j < 4 then a else if j < 8 then b else if j < 12 then d else if j < 16 then e else f) (24 - 8 * ((j % 4 : Nat) : Int))
theorem pn_step {nn k : Nat} {a l : Int} {h : ms_M} (hl : 0 ≤ l ∧ l ≤ 24) (ht : 0 ≤ h 0 1 ∧ h 0 1 < 6000) : qw_X12_putNumber_3 nn (k + 1) a l h = qw_X12_putNumber_3 nn k a (l - 8) (up_M (up_M h 1 (h 0 1).toNat (oq_b (oq_shr a l))) 0 1 (h 0 1 + 1)) := by
  conv => lhs; unfold qw_X12_putNumber_3
  rw [if_neg (by omega), if_neg (by omega)]
  simp only [xl_eq, wr_B]
  rw [if_pos (by omega), up_n (by omega), oq_b_b, oq_add_eq (by omega) (by omega) (by omega), oq_add_eq (by omega) (by omega) (by omega)]
  rfl
theorem pn_end {nn k : Nat} {a l : Int} {h : ms_M} (hl : l < 0) : qw_X12_putNumber_3 nn (k + 1) a l h = some h := by
  unfold qw_X12_putNumber_3; rw [if_pos hl]
theorem ly_step {nn k : Nat} {a l : Int} {h : ms_M} (hl : 0 ≤ l ∧ l ≤ 24) (ht : 0 ≤ h 160 1 ∧ h 160 1 < 6000) : qw_X13_lay_3 nn (k + 1) a l h = qw_X13_lay_3 nn k a (l - 8) (up_M (up_M h 161 (h 160 1).toNat (oq_and (oq_shr a l) 255)) 160 1 (h 160 1 + 1)) := by
  conv => lhs; unfold qw_X13_lay_3
  rw [if_neg (by omega)]
  simp only [xl_eq, wr_A]
  rw [if_pos (by omega), up_n (by omega), oq_add_eq (by omega) (by omega) (by omega), oq_add_eq (by omega) (by omega) (by omega)]
  rfl
theorem ly_end {nn k : Nat} {a l : Int} {h : ms_M} (hl : l < 0) : qw_X13_lay_3 nn (k + 1) a l h = some h := by
  unfold qw_X13_lay_3; rw [if_pos hl]
/-- four bytes behind those that are there: cells c (how many, field 1) and d -/
def pt_4 (c d : Nat) (g : Int → Int) (a : Int) (h h2 : ms_M) : Prop := h2 c 1 = h c 1 + 4 ∧ (∀ i : Nat, i < (h c 1).toNat → h2 d i = h d i) ∧ ∀ j : Nat, j < 4 → h2 d ((h c 1).toNat + j) = g (oq_shr a (24 - 8 * (j : Int)))
theorem pt_up {c d : Nat} {g : Int → Int} {a : Int} {h : ms_M} (hcd : c ≠ d) (ht : 0 ≤ h c 1) : pt_4 c d g a h (up_M (up_M (up_M (up_M (up_M (up_M (up_M (up_M h d (h c 1).toNat (g (oq_shr a 24))) c 1 (h c 1 + 1)) d (h c 1 + 1).toNat (g (oq_shr a 16))) c 1 (h c 1 + 2)) d (h c 1 + 2).toNat (g (oq_shr a 8))) c 1 (h c 1 + 3)) d (h c 1 + 3).toNat (g (oq_shr a 0))) c 1 (h c 1 + 4)) := by
  refine ⟨up_s, ?_, ?_⟩
  · intro i hi
    rw [up_n (by omega), up_n (by omega), up_n (by omega), up_n (by omega), up_n (by omega), up_n (by omega), up_n (by omega), up_n (by omega)]
  · intro j hj
    have hj2 : j = 0 ∨ j = 1 ∨ j = 2 ∨ j = 3 := by omega
    rcases hj2 with rfl | rfl | rfl | rfl
    · rw [up_n (by omega), up_n (by omega), up_n (by omega), up_n (by omega), up_n (by omega), up_n (by omega), up_n (by omega)]
      exact up_s
    · rw [up_n (by omega), up_n (by omega), up_n (by omega), up_n (by omega), up_n (by omega)]
      have : (h c 1).toNat + 1 = (h c 1 + 1).toNat := by omega
      rw [this]; exact up_s
    · rw [up_n (by omega), up_n (by omega), up_n (by omega)]
      have : (h c 1).toNat + 2 = (h c 1 + 2).toNat := by omega
      rw [this]; exact up_s
    · rw [up_n (by omega)]
      have : (h c 1).toNat + 3 = (h c 1 + 3).toNat := by omega
      rw [this]; exact up_s
theorem pn_all {nn : Nat} (hn : 5 ≤ nn) {a : Int} {h : ms_M} (ht : 0 ≤ h 0 1 ∧ h 0 1 ≤ 5996) : ∃ h2, qf_X12_putNumber nn a h = some h2 ∧ pt_4 0 1 oq_b a h h2 := by
  obtain ⟨k, rfl⟩ : ∃ k, nn = k + 5 := ⟨nn - 5, by omega⟩
  refine ⟨_, ?_, pt_up (by decide) ht.1⟩
  unfold qf_X12_putNumber
  rw [pn_step (by omega) (by omega), pn_step (by omega) (by simp only [up_s]; omega), pn_step (by omega) (by simp only [up_s]; omega), pn_step (by omega) (by simp only [up_s]; omega), pn_end (by omega)]
  simp only [up_s, Int.add_assoc]
  rfl
theorem ly_all4 {nn : Nat} (hn : 5 ≤ nn) {a : Int} {h : ms_M} (ht : 0 ≤ h 160 1 ∧ h 160 1 ≤ 5996) : ∃ h2, qf_X13_lay nn a h = some h2 ∧ pt_4 160 161 (fun x => oq_and x 255) a h h2 := by
  obtain ⟨k, rfl⟩ : ∃ k, nn = k + 5 := ⟨nn - 5, by omega⟩
  refine ⟨_, ?_, pt_up (by decide) ht.1⟩
  unfold qf_X13_lay
  rw [ly_step (by omega) (by omega), ly_step (by omega) (by simp only [up_s]; omega), ly_step (by omega) (by simp only [up_s]; omega), ly_step (by omega) (by simp only [up_s]; omega), ly_end (by omega)]
  simp only [up_s, Int.add_assoc]
  rfl
def pt_20 (c d : Nat) (g : Int → Int) (a b x e f : Int) (h h2 : ms_M) : Prop := h2 c 1 = h c 1 + 20 ∧ (∀ i : Nat, i < (h c 1).toNat → h2 d i = h d i) ∧ ∀ j : Nat, j < 20 → h2 d ((h c 1).toNat + j) = g (fb_N a b x e f j)
theorem pt_five {c d : Nat} {g : Int → Int} {a b x e f : Int} {h h1 h2 h3 h4 h5 : ms_M} (ht : 0 ≤ h c 1) (p1 : pt_4 c d g a h h1) (p2 : pt_4 c d g b h1 h2) (p3 : pt_4 c d g x h2 h3) (p4 : pt_4 c d g e h3 h4) (p5 : pt_4 c d g f h4 h5) : pt_20 c d g a b x e f h h5 := by
  obtain ⟨a1, a2, a3⟩ := p1
  obtain ⟨b1, b2, b3⟩ := p2
  obtain ⟨c1, c2, c3⟩ := p3
  obtain ⟨d1, d2, d3⟩ := p4
  obtain ⟨e1, e2, e3⟩ := p5
  refine ⟨by omega, ?_, ?_⟩
  · intro i hi
    rw [e2 i (by omega), d2 i (by omega), c2 i (by omega), b2 i (by omega), a2 i hi]
  · intro j hj
    unfold fb_N
    by_cases q1 : j < 4
    · rw [if_pos q1, e2 _ (by omega), d2 _ (by omega), c2 _ (by omega), b2 _ (by omega), a3 j q1]
      congr 2; omega
    · rw [if_neg q1]
      by_cases q2 : j < 8
      · rw [if_pos q2, e2 _ (by omega), d2 _ (by omega), c2 _ (by omega)]
        have z : (h c 1).toNat + j = (h1 c 1).toNat + (j - 4) := by omega
        rw [z, b3 _ (by omega)]; congr 2; omega
      · rw [if_neg q2]
        by_cases q3 : j < 12
        · rw [if_pos q3, e2 _ (by omega), d2 _ (by omega)]
          have z : (h c 1).toNat + j = (h2 c 1).toNat + (j - 8) := by omega
          rw [z, c3 _ (by omega)]; congr 2; omega
        · rw [if_neg q3]
          by_cases q4 : j < 16
          · rw [if_pos q4, e2 _ (by omega)]
            have z : (h c 1).toNat + j = (h3 c 1).toNat + (j - 12) := by omega
            rw [z, d3 _ (by omega)]; congr 2; omega
          · rw [if_neg q4]
            have z : (h c 1).toNat + j = (h4 c 1).toNat + (j - 16) := by omega
            rw [z, e3 _ (by omega)]; congr 2; omega
theorem feed_X {nn : Nat} (hn : 5 ≤ nn) {a b x e f : Int} {h : ms_M} (ht : 0 ≤ h 0 1 ∧ h 0 1 ≤ 6000) : (6000 < h 0 1 + 20 ∧ qf_X12_feed nn a b x e f h = some (-1, h)) ∨ (h 0 1 + 20 ≤ 6000 ∧ ∃ h2, qf_X12_feed nn a b x e f h = some (h 0 1 + 20, h2) ∧ pt_20 0 1 oq_b a b x e f h h2) := by
  unfold qf_X12_feed
  rw [xl_eq, oq_add_eq (by omega) (by omega) (by omega)]
  by_cases hq : h 0 1 + 20 ≤ 6000
  · right
    rw [if_pos hq]
    obtain ⟨h1, g1, p1⟩ := pn_all hn (a := a) (h := h) (by omega)
    obtain ⟨h2, g2, p2⟩ := pn_all hn (a := b) (h := h1) (by have := p1.1; omega)
    obtain ⟨h3, g3, p3⟩ := pn_all hn (a := x) (h := h2) (by have := p1.1; have := p2.1; omega)
    obtain ⟨h4, g4, p4⟩ := pn_all hn (a := e) (h := h3) (by have := p1.1; have := p2.1; have := p3.1; omega)
    obtain ⟨h5, g5, p5⟩ := pn_all hn (a := f) (h := h4) (by have := p1.1; have := p2.1; have := p3.1; have := p4.1; omega)
    have hp := pt_five ht.1 p1 p2 p3 p4 p5
    refine ⟨hq, h5, ?_, hp⟩
    rw [g1, mx_svs, g2, mx_svs, g3, mx_svs, g4, mx_svs, g5, mx_svs, hp.1]
  · left
    rw [if_neg hq]; exact ⟨by omega, rfl⟩
theorem feed_M {nn : Nat} (hn : 5 ≤ nn) {a b x e f : Int} {h : ms_M} (ht : 0 ≤ h 160 1 ∧ h 160 1 ≤ 6000) : (6000 < h 160 1 + 20 ∧ qf_X13_feed nn a b x e f h = some (-1, h)) ∨ (h 160 1 + 20 ≤ 6000 ∧ ∃ h2, qf_X13_feed nn a b x e f h = some (h 160 1 + 20, h2) ∧ pt_20 160 161 (fun z => oq_and z 255) a b x e f h h2) := by
  unfold qf_X13_feed
  rw [xl_eq, oq_add_eq (by omega) (by omega) (by omega)]
  by_cases hq : h 160 1 + 20 ≤ 6000
  · right
    rw [if_pos hq]
    obtain ⟨h1, g1, p1⟩ := ly_all4 hn (a := a) (h := h) (by omega)
    obtain ⟨h2, g2, p2⟩ := ly_all4 hn (a := b) (h := h1) (by have := p1.1; omega)
    obtain ⟨h3, g3, p3⟩ := ly_all4 hn (a := x) (h := h2) (by have := p1.1; have := p2.1; omega)
    obtain ⟨h4, g4, p4⟩ := ly_all4 hn (a := e) (h := h3) (by have := p1.1; have := p2.1; have := p3.1; omega)
    obtain ⟨h5, g5, p5⟩ := ly_all4 hn (a := f) (h := h4) (by have := p1.1; have := p2.1; have := p3.1; have := p4.1; omega)
    have hp := pt_five ht.1 p1 p2 p3 p4 p5
    refine ⟨hq, h5, ?_, hp⟩
    rw [g1, mx_svs, g2, mx_svs, g3, mx_svs, g4, mx_svs, g5, mx_svs, hp.1]
  · left
    rw [if_neg hq]; exact ⟨by omega, rfl⟩
/-- FEED, side by side: both answer alike, the tapes stay alike, all else is left -/
theorem feed_2 {nn : Nat} (hn : 5 ≤ nn) {a b x e f : Int} {M : ms_M} (ht : tp_R M) : ∃ r M1 M2, qf_X12_feed nn a b x e f M = some (r, M1) ∧ qf_X13_feed nn a b x e f M1 = some (r, M2) ∧ tp_R M2 ∧ ∀ c k, nw_F [1, 161] [(0, 1), (160, 1)] false false c k = true → M2 c k = M c k := by
  obtain ⟨t1, t2, t3⟩ := ht
  rcases feed_X hn (a := a) (b := b) (x := x) (e := e) (f := f) t2 with ⟨q1, g1⟩ | ⟨q1, M1, g1, p1⟩
  · rcases feed_M hn (a := a) (b := b) (x := x) (e := e) (f := f) (h := M) (by omega) with ⟨q2, g2⟩ | ⟨q2, _⟩
    · exact ⟨-1, M, M, g1, g2, ⟨t1, t2, t3⟩, fun _ _ _ => rfl⟩
    · omega
  · have fr1 := ff_X12_feed nn (a1 := a) (a2 := b) (a3 := x) (a4 := e) (a5 := f) (h := M) _ g1
    have e0 : M1 160 1 = M 160 1 := fr1 160 1 rfl
    have e1 : ∀ i, M1 161 i = M 161 i := fun i => fr1 161 i (nw_ar rfl i)
    rcases feed_M hn (a := a) (b := b) (x := x) (e := e) (f := f) (h := M1) (by omega) with ⟨q2, g2⟩ | ⟨q2, M2, g2, p2⟩
    · omega
    · have fr2 := ff_X13_feed nn (a1 := a) (a2 := b) (a3 := x) (a4 := e) (a5 := f) (h := M1) _ g2
      have e2 : M2 0 1 = M1 0 1 := fr2 0 1 rfl
      have e3 : ∀ i, M2 1 i = M1 1 i := fun i => fr2 1 i (nw_ar rfl i)
      obtain ⟨a1, a2, a3⟩ := p1
      obtain ⟨b1, b2, b3⟩ := p2
      refine ⟨M 0 1 + 20, M1, M2, g1, by rw [g2, e0, t1], ⟨by omega, by omega, ?_⟩, ?_⟩
      · intro i hi
        rw [e3]
        by_cases hq : i < (M 0 1).toNat
        · rw [b2 i (by omega), e1, a2 i hq]; exact t3 i (by omega)
        · have z : i = (M 0 1).toNat + (i - (M 0 1).toNat) := by omega
          have z2 : i = (M1 160 1).toNat + (i - (M 0 1).toNat) := by omega
          rw [z2, b3 _ (by omega), ← z2]
          rw [z, a3 _ (by omega)]
          have z3 : (M 0 1).toNat + (i - (M 0 1).toNat) - (M 0 1).toNat = i - (M 0 1).toNat := by omega
          rw [z3]
          exact by_rel (oq_shr_R _ _)
      · intro c k hc
        exact (fr2 c k (nw_sub rfl c k hc)).trans (fr1 c k (nw_sub rfl c k hc))
theorem end_2 {nn : Nat} {a : Int} {M : ms_M} (ht : tp_R M) : ∃ r M1 M2, qf_X12_end nn a M = some (r, M1) ∧ qf_X13_end nn a M1 = some (r, M2) ∧ tp_R M2 ∧ ∀ c k, nw_F [] [(0, 1), (160, 1)] false false c k = true → M2 c k = M c k := by
  obtain ⟨t1, t2, t3⟩ := ht
  unfold qf_X12_end qf_X13_end
  by_cases h1 : a < 0
  · rw [if_pos h1]; exact ⟨0, M, M, rfl, if_pos h1, ⟨t1, t2, t3⟩, fun _ _ _ => rfl⟩
  · rw [if_neg h1]
    by_cases h2 : a ≤ M 0 1
    · rw [if_pos h2]
      refine ⟨1, up_M M 0 1 a, up_M (up_M M 0 1 a) 160 1 a, rfl, ?_, ⟨?_, ?_, ?_⟩, ?_⟩
      · rw [if_neg h1, up_n (by omega), if_pos (by omega)]; rfl
      · rw [up_s, up_n (by omega), up_s]
      · rw [up_n (by omega), up_s]; omega
      · intro i hi
        rw [up_n (by omega), up_s] at hi
        rw [up_n (by omega), up_n (by omega), up_n (by omega), up_n (by omega)]
        exact t3 i (by omega)
      · intro c k hc
        rw [up_n (nw_nf rfl c k hc), up_n (nw_nf rfl c k hc)]
    · rw [if_neg h2]
      refine ⟨0, M, M, rfl, ?_, ⟨t1, t2, t3⟩, fun _ _ _ => rfl⟩
      rw [if_neg h1, if_neg (by omega)]

section
/-- THE TAPE. Class: cell 0 field 1 (how many), cell 1 (the bytes, with sign); reference: cell 160 field 1, cell 161. -/
def tp_R (M : ms_M) : Prop := M 160 1 = M 0 1 ∧ (0 ≤ M 0 1 ∧ M 0 1 ≤ 6000) ∧ ∀ i : Nat, (i : Int) < M 0 1 → M 161 i = M 1 i % 256
theorem up_s {M : ms_M} {c k : Nat} {v : Int} : up_M M c k v c k = v := by unfold up_M; rw [if_pos ⟨rfl, rfl⟩]
theorem up_n {M : ms_M} {c k c2 k2 : Nat} {v : Int} (h : ¬ (c2 = c ∧ k2 = k)) : up_M M c k v c2 k2 = M c2 k2 := by unfold up_M; rw [if_neg h]
theorem oq_b_b {x : Int} : oq_b (oq_b x) = oq_b x := by
  unfold oq_b; rw [Int32.ofInt_toInt]; simp
theorem oq_b_eq {x : Int} (hx : in_R x) : oq_b x = Int.bmod x 256 := by
  unfold oq_b
  rw [Int8.toInt_toInt32, Int32.toInt_toInt8, to_of hx]
theorem oq_and_255 {x : Int} (hx : in_R x) : oq_and x 255 = x % 256 := by
  unfold oq_and
  have h1 : (Int32.ofInt x &&& Int32.ofInt 255).toInt = (Int32.ofInt x &&& Int32.ofInt 255).toBitVec.toInt := rfl
  rw [h1, Int32.toBitVec_and]
  have h2 : ((Int32.ofInt x).toBitVec &&& (Int32.ofInt 255).toBitVec).toNat = (x % 256).toNat := by
    rw [BitVec.toNat_and]
    have h3 : (Int32.ofInt 255).toBitVec.toNat = 2 ^ 8 - 1 := rfl
    rw [h3, Nat.and_two_pow_sub_one_eq_mod]
    have h4 : (Int32.ofInt x).toBitVec.toNat = (x % 4294967296).toNat := by
      show (BitVec.ofInt 32 x).toNat = _
      rw [BitVec.toNat_ofInt]; rfl
    rw [h4]; omega
  have h5 : (x % 256).toNat < 256 := by omega
  rw [BitVec.toInt_eq_toNat_of_lt (by rw [h2]; omega), h2]
  omega
theorem by_rel {x : Int} (hx : in_R x) : oq_and x 255 = oq_b x % 256 := by
  rw [oq_and_255 hx, oq_b_eq hx, Int.bmod_def]
  split <;> omega
theorem oq_shr_R (x y : Int) : in_R (oq_shr x y) := rg_i _
/-- the twenty numbers of a feed, before they are cut to bytes -/
def fb_N (a b d e f : Int) (j : Nat) : Int := oq_shr (if j < 4 then a else if j < 8 then b else if j < 12 then d else if j < 16 then e else f) (24 - 8 * ((j % 4 : Nat) : Int))
theorem pn_step {nn k : Nat} {a l : Int} {h : ms_M} (hl : 0 ≤ l ∧ l ≤ 24) (ht : 0 ≤ h 0 1 ∧ h 0 1 < 6000) : qw_X12_putNumber_3 nn (k + 1) a l h = qw_X12_putNumber_3 nn k a (l - 8) (up_M (up_M h 1 (h 0 1).toNat (oq_b (oq_shr a l))) 0 1 (h 0 1 + 1)) := by
  conv => lhs; unfold qw_X12_putNumber_3
  rw [if_neg (by omega), if_neg (by omega)]
  simp only [xl_eq, wr_B]
  rw [if_pos (by omega), up_n (by omega), oq_b_b, oq_add_eq (by omega) (by omega) (by omega), oq_add_eq (by omega) (by omega) (by omega)]
  rfl
theorem pn_end {nn k : Nat} {a l : Int} {h : ms_M} (hl : l < 0) : qw_X12_putNumber_3 nn (k + 1) a l h = some h := by
  unfold qw_X12_putNumber_3; rw [if_pos hl]
theorem ly_step {nn k : Nat} {a l : Int} {h : ms_M} (hl : 0 ≤ l ∧ l ≤ 24) (ht : 0 ≤ h 160 1 ∧ h 160 1 < 6000) : qw_X13_lay_3 nn (k + 1) a l h = qw_X13_lay_3 nn k a (l - 8) (up_M (up_M h 161 (h 160 1).toNat (oq_and (oq_shr a l) 255)) 160 1 (h 160 1 + 1)) := by
  conv => lhs; unfold qw_X13_lay_3
  rw [if_neg (by omega)]
  simp only [xl_eq, wr_A]
  rw [if_pos (by omega), up_n (by omega), oq_add_eq (by omega) (by omega) (by omega), oq_add_eq (by omega) (by omega) (by omega)]
  rfl
theorem ly_end {nn k : Nat} {a l : Int} {h : ms_M} (hl : l < 0) : qw_X13_lay_3 nn (k + 1) a l h = some h := by
  unfold qw_X13_lay_3; rw [if_pos hl]
/-- four bytes behind those that are there: cells c (how many, field 1) and d -/
def pt_4 (c d : Nat) (g : Int → Int) (a : Int) (h h2 : ms_M) : Prop := h2 c 1 = h c 1 + 4 ∧ (∀ i : Nat, i < (h c 1).toNat → h2 d i = h d i) ∧ ∀ j : Nat, j < 4 → h2 d ((h c 1).toNat + j) = g (oq_shr a (24 - 8 * (j : Int)))
theorem pt_up {c d : Nat} {g : Int → Int} {a : Int} {h : ms_M} (hcd : c ≠ d) (ht : 0 ≤ h c 1) : pt_4 c d g a h (up_M (up_M (up_M (up_M (up_M (up_M (up_M (up_M h d (h c 1).toNat (g (oq_shr a 24))) c 1 (h c 1 + 1)) d (h c 1 + 1).toNat (g (oq_shr a 16))) c 1 (h c 1 + 2)) d (h c 1 + 2).toNat (g (oq_shr a 8))) c 1 (h c 1 + 3)) d (h c 1 + 3).toNat (g (oq_shr a 0))) c 1 (h c 1 + 4)) := by
  refine ⟨up_s, ?_, ?_⟩
  · intro i hi
    rw [up_n (by omega), up_n (by omega), up_n (by omega), up_n (by omega), up_n (by omega), up_n (by omega), up_n (by omega), up_n (by omega)]
  · intro j hj
    have hj2 : j = 0 ∨ j = 1 ∨ j = 2 ∨ j = 3 := by omega
    rcases hj2 with rfl | rfl | rfl | rfl
    · rw [up_n (by omega), up_n (by omega), up_n (by omega), up_n (by omega), up_n (by omega), up_n (by omega), up_n (by omega)]
      exact up_s
    · rw [up_n (by omega), up_n (by omega), up_n (by omega), up_n (by omega), up_n (by omega)]
      have : (h c 1).toNat + 1 = (h c 1 + 1).toNat := by omega
      rw [this]; exact up_s
    · rw [up_n (by omega), up_n (by omega), up_n (by omega)]
      have : (h c 1).toNat + 2 = (h c 1 + 2).toNat := by omega
      rw [this]; exact up_s
    · rw [up_n (by omega)]
      have : (h c 1).toNat + 3 = (h c 1 + 3).toNat := by omega
      rw [this]; exact up_s
theorem pn_all {nn : Nat} (hn : 5 ≤ nn) {a : Int} {h : ms_M} (ht : 0 ≤ h 0 1 ∧ h 0 1 ≤ 5996) : ∃ h2, qf_X12_putNumber nn a h = some h2 ∧ pt_4 0 1 oq_b a h h2 := by
  obtain ⟨k, rfl⟩ : ∃ k, nn = k + 5 := ⟨nn - 5, by omega⟩
  refine ⟨_, ?_, pt_up (by decide) ht.1⟩
  unfold qf_X12_putNumber
  rw [pn_step (by omega) (by omega), pn_step (by omega) (by simp only [up_s]; omega), pn_step (by omega) (by simp only [up_s]; omega), pn_step (by omega) (by simp only [up_s]; omega), pn_end (by omega)]
  simp only [up_s, Int.add_assoc]
  rfl
theorem ly_all4 {nn : Nat} (hn : 5 ≤ nn) {a : Int} {h : ms_M} (ht : 0 ≤ h 160 1 ∧ h 160 1 ≤ 5996) : ∃ h2, qf_X13_lay nn a h = some h2 ∧ pt_4 160 161 (fun x => oq_and x 255) a h h2 := by
  obtain ⟨k, rfl⟩ : ∃ k, nn = k + 5 := ⟨nn - 5, by omega⟩
  refine ⟨_, ?_, pt_up (by decide) ht.1⟩
  unfold qf_X13_lay
  rw [ly_step (by omega) (by omega), ly_step (by omega) (by simp only [up_s]; omega), ly_step (by omega) (by simp only [up_s]; omega), ly_step (by omega) (by simp only [up_s]; omega), ly_end (by omega)]
  simp only [up_s, Int.add_assoc]
  rfl
def pt_20 (c d : Nat) (g : Int → Int) (a b x e f : Int) (h h2 : ms_M) : Prop := h2 c 1 = h c 1 + 20 ∧ (∀ i : Nat, i < (h c 1).toNat → h2 d i = h d i) ∧ ∀ j : Nat, j < 20 → h2 d ((h c 1).toNat + j) = g (fb_N a b x e f j)
theorem pt_five {c d : Nat} {g : Int → Int} {a b x e f : Int} {h h1 h2 h3 h4 h5 : ms_M} (ht : 0 ≤ h c 1) (p1 : pt_4 c d g a h h1) (p2 : pt_4 c d g b h1 h2) (p3 : pt_4 c d g x h2 h3) (p4 : pt_4 c d g e h3 h4) (p5 : pt_4 c d g f h4 h5) : pt_20 c d g a b x e f h h5 := by
  obtain ⟨a1, a2, a3⟩ := p1
  obtain ⟨b1, b2, b3⟩ := p2
  obtain ⟨c1, c2, c3⟩ := p3
  obtain ⟨d1, d2, d3⟩ := p4
  obtain ⟨e1, e2, e3⟩ := p5
  refine ⟨by omega, ?_, ?_⟩
  · intro i hi
    rw [e2 i (by omega), d2 i (by omega), c2 i (by omega), b2 i (by omega), a2 i hi]
  · intro j hj
    unfold fb_N
    by_cases q1 : j < 4
    · rw [if_pos q1, e2 _ (by omega), d2 _ (by omega), c2 _ (by omega), b2 _ (by omega), a3 j q1]
      congr 2; omega
    · rw [if_neg q1]
      by_cases q2 : j < 8
      · rw [if_pos q2, e2 _ (by omega), d2 _ (by omega), c2 _ (by omega)]
        have z : (h c 1).toNat + j = (h1 c 1).toNat + (j - 4) := by omega
        rw [z, b3 _ (by omega)]; congr 2; omega
      · rw [if_neg q2]
        by_cases q3 : j < 12
        · rw [if_pos q3, e2 _ (by omega), d2 _ (by omega)]
          have z : (h c 1).toNat + j = (h2 c 1).toNat + (j - 8) := by omega
          rw [z, c3 _ (by omega)]; congr 2; omega
        · rw [if_neg q3]
          by_cases q4 : j < 16
          · rw [if_pos q4, e2 _ (by omega)]
            have z : (h c 1).toNat + j = (h3 c 1).toNat + (j - 12) := by omega
            rw [z, d3 _ (by omega)]; congr 2; omega
          · rw [if_neg q4]
            have z : (h c 1).toNat + j = (h4 c 1).toNat + (j - 16) := by omega
            rw [z, e3 _ (by omega)]; congr 2; omega
theorem feed_X {nn : Nat} (hn : 5 ≤ nn) {a b x e f : Int} {h : ms_M} (ht : 0 ≤ h 0 1 ∧ h 0 1 ≤ 6000) : (6000 < h 0 1 + 20 ∧ qf_X12_feed nn a b x e f h = some (-1, h)) ∨ (h 0 1 + 20 ≤ 6000 ∧ ∃ h2, qf_X12_feed nn a b x e f h = some (h 0 1 + 20, h2) ∧ pt_20 0 1 oq_b a b x e f h h2) := by
  unfold qf_X12_feed
  rw [xl_eq, oq_add_eq (by omega) (by omega) (by omega)]
  by_cases hq : h 0 1 + 20 ≤ 6000
  · right
    rw [if_pos hq]
    obtain ⟨h1, g1, p1⟩ := pn_all hn (a := a) (h := h) (by omega)
    obtain ⟨h2, g2, p2⟩ := pn_all hn (a := b) (h := h1) (by have := p1.1; omega)
    obtain ⟨h3, g3, p3⟩ := pn_all hn (a := x) (h := h2) (by have := p1.1; have := p2.1; omega)
    obtain ⟨h4, g4, p4⟩ := pn_all hn (a := e) (h := h3) (by have := p1.1; have := p2.1; have := p3.1; omega)
    obtain ⟨h5, g5, p5⟩ := pn_all hn (a := f) (h := h4) (by have := p1.1; have := p2.1; have := p3.1; have := p4.1; omega)
    have hp := pt_five ht.1 p1 p2 p3 p4 p5
    refine ⟨hq, h5, ?_, hp⟩
    rw [g1, mx_svs, g2, mx_svs, g3, mx_svs, g4, mx_svs, g5, mx_svs, hp.1]
  · left
    rw [if_neg hq]; exact ⟨by omega, rfl⟩
theorem feed_M {nn : Nat} (hn : 5 ≤ nn) {a b x e f : Int} {h : ms_M} (ht : 0 ≤ h 160 1 ∧ h 160 1 ≤ 6000) : (6000 < h 160 1 + 20 ∧ qf_X13_feed nn a b x e f h = some (-1, h)) ∨ (h 160 1 + 20 ≤ 6000 ∧ ∃ h2, qf_X13_feed nn a b x e f h = some (h 160 1 + 20, h2) ∧ pt_20 160 161 (fun z => oq_and z 255) a b x e f h h2) := by
  unfold qf_X13_feed
  rw [xl_eq, oq_add_eq (by omega) (by omega) (by omega)]
  by_cases hq : h 160 1 + 20 ≤ 6000
  · right
    rw [if_pos hq]
    obtain ⟨h1, g1, p1⟩ := ly_all4 hn (a := a) (h := h) (by omega)
    obtain ⟨h2, g2, p2⟩ := ly_all4 hn (a := b) (h := h1) (by have := p1.1; omega)
    obtain ⟨h3, g3, p3⟩ := ly_all4 hn (a := x) (h := h2) (by have := p1.1; have := p2.1; omega)
    obtain ⟨h4, g4, p4⟩ := ly_all4 hn (a := e) (h := h3) (by have := p1.1; have := p2.1; have := p3.1; omega)
    obtain ⟨h5, g5, p5⟩ := ly_all4 hn (a := f) (h := h4) (by have := p1.1; have := p2.1; have := p3.1; have := p4.1; omega)
    have hp := pt_five ht.1 p1 p2 p3 p4 p5
    refine ⟨hq, h5, ?_, hp⟩
    rw [g1, mx_svs, g2, mx_svs, g3, mx_svs, g4, mx_svs, g5, mx_svs, hp.1]
  · left
    rw [if_neg hq]; exact ⟨by omega, rfl⟩
/-- FEED, side by side: both answer alike, the tapes stay alike, all else is left -/
theorem feed_2 {nn : Nat} (hn : 5 ≤ nn) {a b x e f : Int} {M : ms_M} (ht : tp_R M) : ∃ r M1 M2, qf_X12_feed nn a b x e f M = some (r, M1) ∧ qf_X13_feed nn a b x e f M1 = some (r, M2) ∧ tp_R M2 ∧ ∀ c k, nw_F [1, 161] [(0, 1), (160, 1)] false false c k = true → M2 c k = M c k := by
  obtain ⟨t1, t2, t3⟩ := ht
  rcases feed_X hn (a := a) (b := b) (x := x) (e := e) (f := f) t2 with ⟨q1, g1⟩ | ⟨q1, M1, g1, p1⟩
  · rcases feed_M hn (a := a) (b := b) (x := x) (e := e) (f := f) (h := M) (by omega) with ⟨q2, g2⟩ | ⟨q2, _⟩
    · exact ⟨-1, M, M, g1, g2, ⟨t1, t2, t3⟩, fun _ _ _ => rfl⟩
    · omega
  · have fr1 := ff_X12_feed nn (a1 := a) (a2 := b) (a3 := x) (a4 := e) (a5 := f) (h := M) _ g1
    have e0 : M1 160 1 = M 160 1 := fr1 160 1 rfl
    have e1 : ∀ i, M1 161 i = M 161 i := fun i => fr1 161 i (nw_ar rfl i)
    rcases feed_M hn (a := a) (b := b) (x := x) (e := e) (f := f) (h := M1) (by omega) with ⟨q2, g2⟩ | ⟨q2, M2, g2, p2⟩
    · omega
    · have fr2 := ff_X13_feed nn (a1 := a) (a2 := b) (a3 := x) (a4 := e) (a5 := f) (h := M1) _ g2
      have e2 : M2 0 1 = M1 0 1 := fr2 0 1 rfl
      have e3 : ∀ i, M2 1 i = M1 1 i := fun i => fr2 1 i (nw_ar rfl i)
      obtain ⟨a1, a2, a3⟩ := p1
      obtain ⟨b1, b2, b3⟩ := p2
      refine ⟨M 0 1 + 20, M1, M2, g1, by rw [g2, e0, t1], ⟨by omega, by omega, ?_⟩, ?_⟩
      · intro i hi
        rw [e3]
        by_cases hq : i < (M 0 1).toNat
        · rw [b2 i (by omega), e1, a2 i hq]; exact t3 i (by omega)
        · have z : i = (M 0 1).toNat + (i - (M 0 1).toNat) := by omega
          have z2 : i = (M1 160 1).toNat + (i - (M 0 1).toNat) := by omega
          rw [z2, b3 _ (by omega), ← z2]
          rw [z, a3 _ (by omega)]
          have z3 : (M 0 1).toNat + (i - (M 0 1).toNat) - (M 0 1).toNat = i - (M 0 1).toNat := by omega
          rw [z3]
          exact by_rel (oq_shr_R _ _)
      · intro c k hc
        exact (fr2 c k (nw_sub rfl c k hc)).trans (fr1 c k (nw_sub rfl c k hc))
theorem end_2 {nn : Nat} {a : Int} {M : ms_M} (ht : tp_R M) : ∃ r M1 M2, qf_X12_end nn a M = some (r, M1) ∧ qf_X13_end nn a M1 = some (r, M2) ∧ tp_R M2 ∧ ∀ c k, nw_F [] [(0, 1), (160, 1)] false false c k = true → M2 c k = M c k := by
  obtain ⟨t1, t2, t3⟩ := ht
  unfold qf_X12_end qf_X13_end
  by_cases h1 : a < 0
  · rw [if_pos h1]; exact ⟨0, M, M, rfl, if_pos h1, ⟨t1, t2, t3⟩, fun _ _ _ => rfl⟩
  · rw [if_neg h1]
    by_cases h2 : a ≤ M 0 1
    · rw [if_pos h2]
      refine ⟨1, up_M M 0 1 a, up_M (up_M M 0 1 a) 160 1 a, rfl, ?_, ⟨?_, ?_, ?_⟩, ?_⟩
      · rw [if_neg h1, up_n (by omega), if_pos (by omega)]; rfl
      · rw [up_s, up_n (by omega), up_s]
      · rw [up_n (by omega), up_s]; omega
      · intro i hi
        rw [up_n (by omega), up_s] at hi
        rw [up_n (by omega), up_n (by omega), up_n (by omega), up_n (by omega)]
        exact t3 i (by omega)
      · intro c k hc
        rw [up_n (nw_nf rfl c k hc), up_n (nw_nf rfl c k hc)]
    · rw [if_neg h2]
      refine ⟨0, M, M, rfl, ?_, ⟨t1, t2, t3⟩, fun _ _ _ => rfl⟩
      rw [if_neg h1, if_neg (by omega)]
end
section
/-- FAULT and PLACE of the latest text -/
def ft_R (M : ms_M) : Prop := M 160 9 = M 2 11 ∧ M 160 10 = M 2 12 ∧ 0 ≤ M 2 11
theorem fault_2 {nn : Nat} {a : Int} {M : ms_M} (h : ft_R M) : ∃ r, qf_X12_fault nn a M = some r ∧ qf_X13_fault nn a M = some r := by
  obtain ⟨h1, h2, h3⟩ := h
  unfold qf_X12_fault qf_X13_fault
  rw [h1, h2]
  by_cases q0 : a = 0
  · refine ⟨M 2 11, ?_, ?_⟩ <;> simp (disch := omega) only [if_pos, if_neg]
  by_cases q1 : a = 1
  · by_cases q2 : M 2 11 = 0
    · refine ⟨-1, ?_, ?_⟩ <;> simp (disch := omega) only [if_pos, if_neg]
    · refine ⟨M 2 12, ?_, ?_⟩ <;> simp (disch := omega) only [if_pos, if_neg]
  · refine ⟨-1, ?_, ?_⟩ <;> simp (disch := omega) only [if_pos, if_neg]
/-- where the latest verify that told a number told it -/
def wh_R (M : ms_M) : Prop := M 160 123 = M 127 2 ∧ M 160 124 = M 127 3 ∧ M 160 125 = M 127 4
theorem where_2 {nn : Nat} {a : Int} {M : ms_M} (h : wh_R M) : ∃ r, qf_X12_where nn a M = some r ∧ qf_X13_where nn a M = some r := by
  obtain ⟨h1, h2, h3⟩ := h
  unfold qf_X12_where qf_X13_where
  rw [h1, h2, h3]
  by_cases q0 : a = 0
  · refine ⟨M 127 2, ?_, ?_⟩ <;> simp (disch := omega) only [if_pos, if_neg]
  by_cases q1 : a = 1
  · refine ⟨M 127 3, ?_, ?_⟩ <;> simp (disch := omega) only [if_pos, if_neg]
  by_cases q2 : a = 2
  · refine ⟨M 127 4, ?_, ?_⟩ <;> simp (disch := omega) only [if_pos, if_neg]
  · refine ⟨-1, ?_, ?_⟩ <;> simp (disch := omega) only [if_pos, if_neg]
/-- the IMAGES of the latest text: class: cell 0 field 7, cell 55 (which cells); reference: cell 160 field 93, cells 221, 222 -/
def im_R (M : ms_M) : Prop := M 160 93 = M 0 7 ∧ (0 ≤ M 0 7 ∧ M 0 7 ≤ 8) ∧ ∀ k : Nat, (k : Int) < M 0 7 → (256 ≤ M 55 k ∧ (M 55 k).toNat < cn_M M) ∧ (0 ≤ M 222 k ∧ M 222 k ≤ 6000) ∧ M 900001 (M 55 k).toNat = M 222 k ∧ ∀ i : Nat, (i : Int) < M 222 k → M 221 (6000 * k + i) = M (M 55 k).toNat i % 256 ∧ in_R (M (M 55 k).toNat i)
theorem rd_ok {α : Type} {n : Int} {c : Nat} {j : Int} {M : ms_M} {G : Int → Option α} (h : 0 ≤ j ∧ j < n) : rd_A n c j M G = G (M c j.toNat) := by unfold rd_A; rw [if_pos h]
theorem image_2 {nn : Nat} {a b : Int} {M : ms_M} (h : im_R M) (hb : in_R b) : ∃ r, qf_X12_image nn a b M = some r ∧ qf_X13_image nn a b M = some r := by
  obtain ⟨h1, h2, h3⟩ := h
  unfold qf_X12_image qf_X12_imageOf qf_X13_image ln_S rd_T
  rw [h1]
  by_cases q0 : a < 0
  · refine ⟨-1, ?_, ?_⟩ <;> simp (disch := omega) only [if_pos, if_neg, mx_svs]
  by_cases q1 : M 0 7 ≤ a
  · refine ⟨-1, ?_, ?_⟩ <;> simp (disch := omega) only [if_pos, if_neg, mx_svs]
  obtain ⟨⟨g1, g2⟩, g3, g4, g5⟩ := h3 a.toNat (by omega)
  have hl : ln_I M (M 55 a.toNat).toNat = M 222 a.toNat := by unfold ln_I; rw [if_neg (by omega), g4]
  have ht : ly_T (M 55 a.toNat).toNat = 1 := ly_Tbig (by omega)
  by_cases q2 : b = -1
  · refine ⟨M 222 a.toNat, ?_, ?_⟩ <;> simp (disch := omega) only [if_pos, if_neg, mx_svs, rd_ok, hl]
  by_cases q3 : b < 0
  · refine ⟨-1, ?_, ?_⟩ <;> simp (disch := omega) only [if_pos, if_neg, mx_svs, rd_ok, hl]
  by_cases q4 : M 222 a.toNat ≤ b
  · refine ⟨-1, ?_, ?_⟩ <;> simp (disch := omega) only [if_pos, if_neg, mx_svs, rd_ok, hl]
  obtain ⟨g6, g7⟩ := g5 b.toNat (by omega)
  have z : (6000 * a + b).toNat = 6000 * a.toNat + b.toNat := by omega
  refine ⟨M (M 55 a.toNat).toNat b.toNat % 256, ?_, ?_⟩
  · simp (disch := omega) only [if_pos, if_neg, mx_svs, rd_ok, hl, xl_eq, oq_and_255 g7]
  · simp (disch := omega) only [if_pos, if_neg, mx_svs, rd_ok, hl, xl_eq, oq_mul_eq, oq_add_eq, z, g6]
/-- the run, as the calls see it. Class: cell 143 (1 state, 2 gave, 3 steps, 4 objects, 5 fields and elements, 6 depth, 7 prints, 17 the uppermost), 144 printed, 148 methods, 149 places, 150 heights; reference: cell 160 (138 state, 139 gave, 140 steps, 141 objects, 142 made, 143 prints, 149 depth), 250 printed, 251 to 254 -/
def rn_R (M : ms_M) : Prop := M 160 138 = M 143 1 ∧ (0 ≤ M 143 1 ∧ M 143 1 ≤ 5) ∧
  (M 143 1 = 0 → M 143 2 = -1 ∧ M 143 3 = 0 ∧ M 143 4 = 0 ∧ M 143 5 = 0 ∧ M 143 6 = 0 ∧ M 143 7 = 0) ∧
  (M 143 1 ≠ 0 → M 160 140 = M 143 3 ∧ M 160 141 = M 143 4 ∧ M 160 142 = M 143 5 ∧ M 160 149 = M 143 6 ∧ M 160 143 = M 143 7 ∧ (∀ i : Nat, (i : Int) < M 143 7 → i < 1000 → M 250 i = M 144 i)) ∧
  (M 143 1 = 2 ∨ M 143 1 = 3 → M 160 139 = M 143 2) ∧ (M 143 1 ≠ 2 → M 143 1 ≠ 3 → M 143 2 = -1) ∧
  (M 143 1 = 1 → (1 ≤ M 143 6 ∧ M 143 6 ≤ 60) ∧ M 143 17 = M 143 6 - 1 ∧ ∀ j : Nat, (j : Int) < M 143 6 → (8 ≤ M 251 j ∧ M 251 j < 16) ∧ (0 ≤ M 252 j ∧ M 252 j < 12) ∧ M 148 j = (M 251 j - 8) * 12 + M 252 j ∧ M 149 j = M 253 j ∧ M 150 j = M 254 j)
theorem out_2 {nn : Nat} {a : Int} {M : ms_M} (h : rn_R M) : ∃ r, qf_X12_out nn a M = some r ∧ qf_X13_out nn a M = some r := by
  obtain ⟨h1, h2, h3, h4, -⟩ := h
  unfold qf_X12_out qf_X5_printedAt qf_X13_out
  rw [h1]
  by_cases q : M 143 1 = 0
  · have z := h3 q
    refine ⟨0, ?_, ?_⟩
    · by_cases q0 : a < 0 <;> simp (disch := omega) only [if_pos, if_neg, mx_svs]
    · simp (disch := omega) only [if_pos, if_neg, mx_svs]
  · obtain ⟨-, -, -, -, z1, z2⟩ := h4 q
    rw [z1]
    by_cases q0 : a < 0
    · refine ⟨0, ?_, ?_⟩ <;> simp (disch := omega) only [if_pos, if_neg, mx_svs]
    by_cases q1 : M 143 7 ≤ a
    · refine ⟨0, ?_, ?_⟩ <;> simp (disch := omega) only [if_pos, if_neg, mx_svs]
    by_cases q2 : 1000 ≤ a
    · refine ⟨0, ?_, ?_⟩ <;> simp (disch := omega) only [if_pos, if_neg, mx_svs]
    have z3 := z2 a.toNat (by omega) (by omega)
    refine ⟨M 144 a.toNat, ?_, ?_⟩ <;> simp (disch := omega) only [if_pos, if_neg, mx_svs, rd_ok, z3]
/-- how many classes of the space, and whether it is verified: class: cell 56 (3, 4); reference: cell 160 (98, 99) -/
def sp_R (M : ms_M) : Prop := M 160 98 = M 56 3 ∧ (0 ≤ M 56 3 ∧ M 56 3 ≤ 8) ∧ M 160 99 = M 56 4
theorem if_2 {α : Type} {p : Prop} [Decidable p] {A A2 B B2 : Option α} (h1 : p → ∃ r, A = some r ∧ A2 = some r) (h2 : ¬ p → ∃ r, B = some r ∧ B2 = some r) : ∃ r, (if p then A else B) = some r ∧ (if p then A2 else B2) = some r := by
  by_cases q : p
  · rw [if_pos q, if_pos q]; exact h1 q
  · rw [if_neg q, if_neg q]; exact h2 q
theorem look_2 {nn : Nat} {a : Int} {M : ms_M} (h : rn_R M) (ht : tp_R M) (hs : sp_R M) : ∃ r, qf_X12_look nn a M = some r ∧ qf_X13_look nn a M = some r := by
  obtain ⟨h1, h2, h3, h4, h5, h6, h7⟩ := h
  obtain ⟨s1, s2, s3⟩ := hs
  have t1 := ht.1
  unfold qf_X12_look qf_X13_look qj_X12_look_80 qf_X5_tell qf_X5_tellTop qj_X13_look_93 qj_X13_look_252
  rw [h1, s1, s3, t1]
  by_cases q11 : a = 11
  · subst q11; exact ⟨_, rfl, rfl⟩
  by_cases q12 : a = 12
  · subst q12
    refine if_2 (p := M 56 4 = 0) (A := some 0) (A2 := some 0) (B := some 1) (B2 := some 1) (fun _ => ⟨_, rfl, rfl⟩) (fun _ => ⟨_, rfl, rfl⟩)
  by_cases q13 : a = 13
  · subst q13; exact ⟨_, rfl, rfl⟩
  have st : M 143 1 = 0 ∨ M 143 1 = 1 ∨ M 143 1 = 2 ∨ M 143 1 = 3 ∨ (M 143 1 ≠ 0 ∧ M 143 1 ≠ 1 ∧ M 143 1 ≠ 2 ∧ M 143 1 ≠ 3) := by omega
  by_cases q0 : a = 0
  · refine ⟨M 143 1, ?_, ?_⟩ <;> simp (disch := omega) only [if_pos, if_neg, mx_svs]
  by_cases q1 : a = 1
  · by_cases z2 : M 143 1 = 2
    · have := h5 (.inl z2)
      refine ⟨M 143 2, ?_, ?_⟩ <;> simp (disch := omega) only [if_pos, if_neg, mx_svs, this]
    by_cases z3 : M 143 1 = 3
    · have := h5 (.inr z3)
      refine ⟨M 143 2, ?_, ?_⟩ <;> simp (disch := omega) only [if_pos, if_neg, mx_svs, this]
    have := h6 z2 z3
    refine ⟨-1, ?_, ?_⟩ <;> simp (disch := omega) only [if_pos, if_neg, mx_svs, this]
  by_cases qz : M 143 1 = 0
  · obtain ⟨z1, z2, z3, z4, z5, z6⟩ := h3 qz
    by_cases q2 : 2 ≤ a ∧ a ≤ 6
    · refine ⟨0, ?_, ?_⟩
      · have : a = 2 ∨ a = 3 ∨ a = 4 ∨ a = 5 ∨ a = 6 := by omega
        rcases this with v | v | v | v | v <;> simp (disch := omega) only [if_pos, if_neg, mx_svs, z2, z3, z4, z5, z6]
      · have : a = 2 ∨ a = 3 ∨ a = 4 ∨ a = 5 ∨ a = 6 := by omega
        rcases this with v | v | v | v | v <;> simp (disch := omega) only [if_pos, if_neg]
    · refine ⟨-1, ?_, ?_⟩
      · by_cases w : a < 7
        · simp (disch := omega) only [if_pos, if_neg, mx_svs]
        · by_cases w2 : 10 < a <;> simp (disch := omega) only [if_pos, if_neg, mx_svs]
      · have : a = 7 ∨ a = 8 ∨ a = 9 ∨ a = 10 ∨ (a ≠ 7 ∧ a ≠ 8 ∧ a ≠ 9 ∧ a ≠ 10) := by omega
        rcases this with w | w | w | w | w <;> simp (disch := omega) only [if_pos, if_neg]
  · obtain ⟨z1, z2, z3, z4, z5, -⟩ := h4 qz
    rw [z1, z2, z3, z4, z5]
    by_cases q2 : 2 ≤ a ∧ a ≤ 6
    · have : a = 2 ∨ a = 3 ∨ a = 4 ∨ a = 5 ∨ a = 6 := by omega
      rcases this with v | v | v | v | v
      · refine ⟨M 143 3, ?_, ?_⟩ <;> simp (disch := omega) only [if_pos, if_neg, mx_svs]
      · refine ⟨M 143 4, ?_, ?_⟩ <;> simp (disch := omega) only [if_pos, if_neg, mx_svs]
      · refine ⟨M 143 5, ?_, ?_⟩ <;> simp (disch := omega) only [if_pos, if_neg, mx_svs]
      · refine ⟨M 143 6, ?_, ?_⟩ <;> simp (disch := omega) only [if_pos, if_neg, mx_svs]
      · refine ⟨M 143 7, ?_, ?_⟩ <;> simp (disch := omega) only [if_pos, if_neg, mx_svs]
    · by_cases w : 7 ≤ a ∧ a ≤ 10
      · by_cases qs : M 143 1 = 1
        · obtain ⟨k1, k2, k3⟩ := h7 qs
          obtain ⟨m1, m2, m3, m4, m5⟩ := k3 (M 143 6 - 1).toNat (by omega)
          have e1 : Int.tdiv ((M 251 (M 143 6 - 1).toNat - 8) * 12 + M 252 (M 143 6 - 1).toNat) 12 = M 251 (M 143 6 - 1).toNat - 8 := by
            rw [Int.tdiv_eq_ediv_of_nonneg (by omega)]; omega
          have e2 : Int.tmod ((M 251 (M 143 6 - 1).toNat - 8) * 12 + M 252 (M 143 6 - 1).toNat) 12 = M 252 (M 143 6 - 1).toNat := by
            rw [Int.tmod_eq_emod_of_nonneg (by omega)]; omega
          have e3 : 8 + (M 251 (M 143 6 - 1).toNat - 8) = M 251 (M 143 6 - 1).toNat := by omega
          have e4 : oq_sub (M 143 6) 1 = M 143 6 - 1 := oq_sub_eq (by omega) (by omega) (by omega)
          have e5 : oq_add 8 (M 251 (M 143 6 - 1).toNat - 8) = M 251 (M 143 6 - 1).toNat := by rw [oq_add_eq (by omega) (by omega) (by omega), e3]
          rw [k2]
          have : a = 7 ∨ a = 8 ∨ a = 9 ∨ a = 10 := by omega
          rcases this with v | v | v | v
          · refine ⟨M 251 (M 143 6 - 1).toNat, ?_, ?_⟩ <;> simp (disch := omega) only [if_pos, if_neg, mx_svs, xl_eq, e4, rd_ok, m3, e1, e5]
          · refine ⟨M 252 (M 143 6 - 1).toNat, ?_, ?_⟩ <;> simp (disch := omega) only [if_pos, if_neg, mx_svs, xl_eq, e4, rd_ok, m3, e2]
          · refine ⟨M 253 (M 143 6 - 1).toNat, ?_, ?_⟩ <;> simp (disch := omega) only [if_pos, if_neg, mx_svs, xl_eq, e4, rd_ok, m4]
          · refine ⟨M 254 (M 143 6 - 1).toNat, ?_, ?_⟩ <;> simp (disch := omega) only [if_pos, if_neg, mx_svs, xl_eq, e4, rd_ok, m5]
        · have : a = 7 ∨ a = 8 ∨ a = 9 ∨ a = 10 := by omega
          rcases this with v | v | v | v <;> (refine ⟨-1, ?_, ?_⟩ <;> simp (disch := omega) only [if_pos, if_neg, mx_svs])
      · refine ⟨-1, ?_, ?_⟩
        · by_cases w1 : a < 7
          · simp (disch := omega) only [if_pos, if_neg, mx_svs]
          · simp (disch := omega) only [if_pos, if_neg, mx_svs]
        · simp (disch := omega) only [if_pos, if_neg]
end
section
/-- KIN: going up by extends, and the table of who extends whom -/
def ch_N (f : Nat → Int) : Nat → Int → Int
  | 0, a => a
  | n + 1, a => ch_N f n (if 0 ≤ a ∧ a < 16 then f a.toNat else a)
def re_N (f : Nat → Int) (n : Nat) (a b : Int) : Prop := ∃ m, m < n ∧ ch_N f m a = b
theorem wz_ok {α : Type} {n : Int} {c : Nat} {j v : Int} {M : ms_M} {G : ms_M → Option α} (h : (v = 0 ∨ v = 1) ∧ 0 ≤ j ∧ j < n) : wr_Z n c j v M G = G (up_M M c j.toNat v) := by unfold wr_Z; rw [if_pos h]
theorem wa_ok {α : Type} {n : Int} {c : Nat} {j v : Int} {M : ms_M} {G : ms_M → Option α} (h : 0 ≤ j ∧ j < n) : wr_A n c j v M G = G (up_M M c j.toNat v) := by unfold wr_A; rw [if_pos h]
theorem ch_out {f : Nat → Int} {a : Int} (h : ¬ (0 ≤ a ∧ a < 16)) : ∀ n, ch_N f n a = a := by
  intro n
  induction n with
  | zero => rfl
  | succ n ih => unfold ch_N; rw [if_neg h]; exact ih
/-- one row: from c on, n turns -/
theorem st_38 {nn : Nat} {qk : Nat → Int → ms_M → Option ms_M} {l0 : Nat} {l1 : Int} (h1 : 0 ≤ l1 ∧ l1 < 16) : ∀ (k : Nat) (n : Nat) (l2 l3 : Int) (h : ms_M), l3 = 16 - (n : Int) → n ≤ 16 → n < k → ∃ h2, qw_X4_settle_38 nn qk k l0 l1 l2 l3 h = qk l0 (l1 + 1) h2 ∧ (∀ c j, ¬ c = l0 + 2 → h2 c j = h c j) ∧ ∀ j : Nat, ((∃ b : Int, 0 ≤ b ∧ b < 16 ∧ (j : Int) = 16 * l1 + b ∧ re_N (h (l0 + 1)) n l2 b) → h2 (l0 + 2) j = 1) ∧ (¬ (∃ b : Int, 0 ≤ b ∧ b < 16 ∧ (j : Int) = 16 * l1 + b ∧ re_N (h (l0 + 1)) n l2 b) → h2 (l0 + 2) j = h (l0 + 2) j) := by
  intro k
  induction k with
  | zero => intro n l2 l3 h _ _ h4; omega
  | succ k ih =>
    intro n l2 l3 h h3 h4 h5
    have e1 : oq_add l1 1 = l1 + 1 := oq_add_eq (by omega) (by omega) (by omega)
    have stop : (¬ (∃ b : Int, 0 ≤ b ∧ b < 16 ∧ re_N (h (l0 + 1)) n l2 b)) → (∃ h2, qk l0 (l1 + 1) h = qk l0 (l1 + 1) h2 ∧ (∀ c j, ¬ c = l0 + 2 → h2 c j = h c j) ∧ ∀ j : Nat, ((∃ b : Int, 0 ≤ b ∧ b < 16 ∧ (j : Int) = 16 * l1 + b ∧ re_N (h (l0 + 1)) n l2 b) → h2 (l0 + 2) j = 1) ∧ (¬ (∃ b : Int, 0 ≤ b ∧ b < 16 ∧ (j : Int) = 16 * l1 + b ∧ re_N (h (l0 + 1)) n l2 b) → h2 (l0 + 2) j = h (l0 + 2) j)) := by
      intro hno
      refine ⟨h, rfl, fun _ _ _ => rfl, fun j => ⟨?_, fun _ => rfl⟩⟩
      rintro ⟨b, b1, b2, -, b4⟩
      exact absurd ⟨b, b1, b2, b4⟩ hno
    cases n with
    | zero =>
      have z : qw_X4_settle_38 nn qk (k + 1) l0 l1 l2 l3 h = qk l0 (l1 + 1) h := by
        unfold qw_X4_settle_38
        simp (disch := omega) only [if_pos, xl_eq, e1]
      rw [z]
      refine stop ?_
      rintro ⟨b, -, -, m, hm, -⟩; omega
    | succ n =>
      by_cases hr : 0 ≤ l2 ∧ l2 < 16
      · have z : qw_X4_settle_38 nn qk (k + 1) l0 l1 l2 l3 h = qw_X4_settle_38 nn qk k l0 l1 (h (l0 + 1) l2.toNat) (l3 + 1) (up_M h (l0 + 2) (l1 * 16 + l2).toNat 1) := by
          conv => lhs; unfold qw_X4_settle_38
          simp (disch := omega) only [if_pos, if_neg, xl_eq, oq_mul_eq, oq_add_eq, wz_ok, rd_ok]
          rw [up_n (by omega)]
        rw [z]
        obtain ⟨h2, g1, g2, g3⟩ := ih n (h (l0 + 1) l2.toNat) (l3 + 1) (up_M h (l0 + 2) (l1 * 16 + l2).toNat 1) (by omega) (by omega) (by omega)
        have ef : (up_M h (l0 + 2) (l1 * 16 + l2).toNat 1) (l0 + 1) = h (l0 + 1) := up_ne (l0 + 1) (by omega)
        rw [ef] at g3
        refine ⟨h2, g1, fun c j hc => by rw [g2 c j hc]; exact up_n (fun w => hc w.1), fun j => ?_⟩
        have key : ∀ b : Int, re_N (h (l0 + 1)) (n + 1) l2 b ↔ (b = l2 ∨ re_N (h (l0 + 1)) n (h (l0 + 1) l2.toNat) b) := by
          intro b
          constructor
          · rintro ⟨m, hm, e⟩
            cases m with
            | zero => exact .inl e.symm
            | succ m =>
              right
              unfold ch_N at e; rw [if_pos hr] at e
              exact ⟨m, by omega, e⟩
          · rintro (e | ⟨m, hm, e⟩)
            · exact ⟨0, by omega, e.symm⟩
            · exact ⟨m + 1, by omega, by unfold ch_N; rw [if_pos hr]; exact e⟩
        constructor
        · rintro ⟨b, b1, b2, b3, b4⟩
          by_cases q : ∃ b : Int, 0 ≤ b ∧ b < 16 ∧ (j : Int) = 16 * l1 + b ∧ re_N (h (l0 + 1)) n (h (l0 + 1) l2.toNat) b
          · exact (g3 j).1 q
          · rw [(g3 j).2 q]
            rcases (key b).mp b4 with e | e
            · have : j = (l1 * 16 + l2).toNat := by omega
              rw [this]; exact up_s
            · exact absurd ⟨b, b1, b2, b3, e⟩ q
        · intro hno
          rw [(g3 j).2 (by rintro ⟨b, b1, b2, b3, b4⟩; exact hno ⟨b, b1, b2, b3, (key b).mpr (.inr b4)⟩)]
          exact up_n (by rintro ⟨-, w⟩; exact hno ⟨l2, hr.1, hr.2, by omega, (key l2).mpr (.inl rfl)⟩)
      · have z : qw_X4_settle_38 nn qk (k + 1) l0 l1 l2 l3 h = qk l0 (l1 + 1) h := by
          unfold qw_X4_settle_38
          by_cases w : l2 < 0
          · simp (disch := omega) only [if_pos, if_neg, xl_eq, e1]
          · simp (disch := omega) only [if_pos, if_neg, xl_eq, e1]
        rw [z]
        refine stop ?_
        rintro ⟨b, b1, b2, m, hm, e⟩
        rw [ch_out hr] at e; omega
theorem st_10 {nn : Nat} (hn : 17 ≤ nn) {qk : Nat → Int → ms_M → Option ms_M} {l0 : Nat} {l1 : Int} (h1 : 0 ≤ l1 ∧ l1 < 16) : ∀ (k : Nat) (n : Nat) (l2 : Int) (h : ms_M), l2 = 16 - (n : Int) → n ≤ 16 → n < k → ∃ h2, qw_X4_settle_10 nn qk k l0 l1 l2 h = qk l0 (l1 + 1) h2 ∧ (∀ c j, ¬ c = l0 + 2 → h2 c j = h c j) ∧ (∀ j : Nat, ¬ (16 * l1 ≤ (j : Int) ∧ (j : Int) < 16 * l1 + 16) → h2 (l0 + 2) j = h (l0 + 2) j) ∧ ∀ b : Int, 0 ≤ b → b < 16 → (re_N (h (l0 + 1)) 16 l1 b → h2 (l0 + 2) (16 * l1 + b).toNat = 1) ∧ (¬ re_N (h (l0 + 1)) 16 l1 b → l2 ≤ b → h2 (l0 + 2) (16 * l1 + b).toNat = 0) ∧ (¬ re_N (h (l0 + 1)) 16 l1 b → b < l2 → h2 (l0 + 2) (16 * l1 + b).toNat = h (l0 + 2) (16 * l1 + b).toNat) := by
  intro k
  induction k with
  | zero => intro n l2 h _ _ h4; omega
  | succ k ih =>
    intro n l2 h h3 h4 h5
    cases n with
    | zero =>
      have z : qw_X4_settle_10 nn qk (k + 1) l0 l1 l2 h = qw_X4_settle_38 nn qk nn l0 l1 l1 0 h := by
        unfold qw_X4_settle_10; rw [if_pos (by omega)]
      rw [z]
      obtain ⟨h2, g1, g2, g3⟩ := st_38 (nn := nn) (qk := qk) (l0 := l0) h1 nn 16 l1 0 h (by omega) (by omega) (by omega)
      refine ⟨h2, g1, g2, ?_, ?_⟩
      · intro j hj
        exact (g3 j).2 (by rintro ⟨b, b1, b2, b3, -⟩; omega)
      · intro b b1 b2
        refine ⟨fun hr => (g3 _).1 ⟨b, b1, b2, by omega, hr⟩, fun hr w => by omega, fun hr w => (g3 _).2 ?_⟩
        rintro ⟨b', c1, c2, c3, c4⟩
        have : b' = b := by omega
        rw [this] at c4; exact hr c4
    | succ n =>
      have z : qw_X4_settle_10 nn qk (k + 1) l0 l1 l2 h = qw_X4_settle_10 nn qk k l0 l1 (l2 + 1) (up_M h (l0 + 2) (l1 * 16 + l2).toNat 0) := by
        conv => lhs; unfold qw_X4_settle_10
        simp (disch := omega) only [if_neg, xl_eq, oq_mul_eq, oq_add_eq, wz_ok]
      rw [z]
      obtain ⟨h2, g1, g2, g3, g4⟩ := ih n (l2 + 1) (up_M h (l0 + 2) (l1 * 16 + l2).toNat 0) (by omega) (by omega) (by omega)
      have ef : (up_M h (l0 + 2) (l1 * 16 + l2).toNat 0) (l0 + 1) = h (l0 + 1) := up_ne (l0 + 1) (by omega)
      rw [ef] at g4
      refine ⟨h2, g1, fun c j hc => by rw [g2 c j hc]; exact up_n (fun w => hc w.1), ?_, ?_⟩
      · intro j hj
        rw [g3 j hj]; exact up_n (by rintro ⟨-, w⟩; omega)
      · intro b b1 b2
        obtain ⟨k1, k2, k3⟩ := g4 b b1 b2
        refine ⟨k1, ?_, ?_⟩
        · intro hr hb
          by_cases w : b = l2
          · rw [k3 hr (by omega)]
            have : (16 * l1 + b).toNat = (l1 * 16 + l2).toNat := by omega
            rw [this]; exact up_s
          · exact k2 hr (by omega)
        · intro hr hb
          rw [k3 hr (by omega)]
          exact up_n (by rintro ⟨-, w⟩; omega)
/-- what settle leaves: the table of the Kin at cell l0 -/
def un_R (l0 : Nat) (M : ms_M) : Prop := ∀ a b : Nat, a < 16 → b < 16 → (re_N (M (l0 + 1)) 16 (a : Int) (b : Int) → M (l0 + 2) (16 * a + b) = 1) ∧ (¬ re_N (M (l0 + 1)) 16 (a : Int) (b : Int) → M (l0 + 2) (16 * a + b) = 0)
theorem st_2 {nn : Nat} (hn : 17 ≤ nn) {l0 : Nat} : ∀ (k : Nat) (n : Nat) (l1 : Int) (h : ms_M), l1 = 16 - (n : Int) → n ≤ 16 → n < k → (∀ a b : Nat, (a : Int) < l1 → b < 16 → (re_N (h (l0 + 1)) 16 (a : Int) (b : Int) → h (l0 + 2) (16 * a + b) = 1) ∧ (¬ re_N (h (l0 + 1)) 16 (a : Int) (b : Int) → h (l0 + 2) (16 * a + b) = 0)) → ∃ h2, qw_X4_settle_2 nn k l0 l1 h = some h2 ∧ (∀ c j, ¬ c = l0 + 2 → h2 c j = h c j) ∧ un_R l0 h2 := by
  intro k
  induction k with
  | zero => intro n l1 h _ _ h4; omega
  | succ k ih =>
    intro n l1 h h3 h4 h5 h6
    cases n with
    | zero =>
      refine ⟨h, by unfold qw_X4_settle_2; rw [if_pos (by omega)], fun _ _ _ => rfl, ?_⟩
      intro a b ha hb
      exact h6 a b (by omega) hb
    | succ n =>
      have z : qw_X4_settle_2 nn (k + 1) l0 l1 h = qw_X4_settle_10 nn (qw_X4_settle_2 nn k) nn l0 l1 0 h := by
        conv => lhs; unfold qw_X4_settle_2
        rw [if_neg (by omega)]
      rw [z]
      obtain ⟨h1, g1, g2, g3, g4⟩ := st_10 hn (qk := qw_X4_settle_2 nn k) (l0 := l0) (l1 := l1) (by omega) nn 16 0 h (by omega) (by omega) (by omega)
      rw [g1]
      have ef : h1 (l0 + 1) = h (l0 + 1) := by funext j; exact g2 _ j (by omega)
      obtain ⟨h2, k1, k2, k3⟩ := ih n (l1 + 1) h1 (by omega) (by omega) (by omega) (by
        intro a b ha hb
        rw [ef]
        by_cases w : (a : Int) = l1
        · have q := g4 (b : Int) (by omega) (by omega)
          have e : (16 * l1 + (b : Int)).toNat = 16 * a + b := by omega
          rw [e, ← w] at q
          exact ⟨q.1, fun hr => q.2.1 hr (by omega)⟩
        · rw [g3 (16 * a + b) (by omega)]
          exact h6 a b (by omega) hb)
      exact ⟨h2, k1, fun c j hc => by rw [k2 c j hc, g2 c j hc], k3⟩
theorem settle_ok {nn : Nat} (hn : 17 ≤ nn) {l0 : Nat} {h : ms_M} : ∃ h2, qf_X4_settle nn l0 h = some h2 ∧ (∀ c j, ¬ c = l0 + 2 → h2 c j = h c j) ∧ un_R l0 h2 := by
  unfold qf_X4_settle
  exact st_2 hn nn 16 0 h (by omega) (by omega) (by omega) (by intro a b ha; omega)
end
section
/-- Arrays.fill of a whole row of ints -/
theorem fl_loop {nn c : Nat} (hc : c < 256) (ht : ly_T c = 0) (hN : ly_N c ≤ 100000) {v : Int} : ∀ (k n : Nat) (l2 : Int) (h : ms_M), c < cn_M h → l2 = (ly_N c : Int) - (n : Int) → n ≤ ly_N c → n < k → ∃ h2, qw_J7_fill_53178_5 nn k c v l2 (ly_N c : Int) h = some h2 ∧ (∀ d j, ¬ d = c → h2 d j = h d j) ∧ (∀ j : Nat, (j : Int) < l2 → h2 c j = h c j) ∧ ∀ j : Nat, l2 ≤ (j : Int) → j < ly_N c → h2 c j = v := by
  intro k
  induction k with
  | zero => intro n l2 h _ _ _ h4; omega
  | succ k ih =>
    intro n l2 h hcn h3 h4 h5
    cases n with
    | zero =>
      refine ⟨h, by unfold qw_J7_fill_53178_5; rw [if_pos (by omega)], fun _ _ _ => rfl, fun _ _ => rfl, fun j h6 h7 => by omega⟩
    | succ n =>
      have hl : ln_I h c = (ly_N c : Int) := ln_fix hc
      have z : qw_J7_fill_53178_5 nn (k + 1) c v l2 (ly_N c : Int) h = qw_J7_fill_53178_5 nn k c v (l2 + 1) (ly_N c : Int) (up_M h c l2.toNat v) := by
        conv => lhs; unfold qw_J7_fill_53178_5
        unfold wr_S
        rw [hl]
        simp (disch := omega) only [if_pos, if_neg, xl_eq, oq_add_eq]
      rw [z]
      obtain ⟨h2, g1, g2, g3, g4⟩ := ih n (l2 + 1) (up_M h c l2.toNat v) (by
        have : cn_M (up_M h c l2.toNat v) = cn_M h := by unfold cn_M; rw [up_n (by omega)]
        omega) (by omega) (by omega) (by omega)
      refine ⟨h2, g1, fun d j hd => by rw [g2 d j hd]; exact up_n (fun w => hd w.1), ?_, ?_⟩
      · intro j hj
        rw [g3 j (by omega)]; exact up_n (by rintro ⟨-, w⟩; omega)
      · intro j h6 h7
        by_cases w : (j : Int) = l2
        · rw [g3 j (by omega)]
          have : j = l2.toNat := by omega
          rw [this]; exact up_s
        · exact g4 j (by omega) h7
theorem fill_ok {nn c : Nat} (hc : c < 256) (ht : ly_T c = 0) (hN : ly_N c ≤ 100000) (hn : 100001 ≤ nn) {v : Int} {h : ms_M} (hcn : c < cn_M h) : ∃ h2, qf_J7_fill_53178 nn c v h = some h2 ∧ (∀ d j, ¬ d = c → h2 d j = h d j) ∧ ∀ j : Nat, j < ly_N c → h2 c j = v := by
  obtain ⟨h2, g1, g2, g3, g4⟩ := fl_loop hc ht hN (nn := nn) (v := v) nn (ly_N c) 0 h hcn (by omega) (by omega) (by omega)
  refine ⟨h2, ?_, g2, fun j hj => g4 j (by omega) hj⟩
  unfold qf_J7_fill_53178 ln_S
  rw [if_pos ⟨hcn, by omega⟩, ln_fix hc]; exact g1
/-- what a Kin is that knows 0 to 7 alone -/
def bi_A (j : Nat) : Int := if j = 1 then 0 else if 2 ≤ j ∧ j ≤ 7 then 1 else -1
theorem fo_10 {nn : Nat} (hn : 17 ≤ nn) {l0 : Nat} : ∀ (k n : Nat) (l1 : Int) (h : ms_M), l1 = 8 - (n : Int) → n ≤ 7 → n < k → (∀ j : Nat, j < 16 → h (l0 + 1) j = if (j : Int) < l1 then bi_A j else -1) → ∃ h2, qw_X4_forget_10 nn k l0 l1 h = some h2 ∧ (∀ c j, ¬ c = l0 + 1 → ¬ c = l0 + 2 → h2 c j = h c j) ∧ (∀ j : Nat, j < 16 → h2 (l0 + 1) j = bi_A j) ∧ un_R l0 h2 := by
  intro k
  induction k with
  | zero => intro n l1 h _ _ h4; omega
  | succ k ih =>
    intro n l1 h h3 h4 h5 h6
    cases n with
    | zero =>
      obtain ⟨h2, g1, g2, g3⟩ := settle_ok hn (l0 := l0) (h := h)
      refine ⟨h2, ?_, fun c j _ hc => g2 c j hc, ?_, g3⟩
      · unfold qw_X4_forget_10; rw [if_pos (by omega), g1, mx_svs]
      · intro j hj
        rw [g2 _ _ (by omega), h6 j hj]
        by_cases w : (j : Int) < l1
        · rw [if_pos w]
        · rw [if_neg w]; unfold bi_A; rw [if_neg (by omega), if_neg (by omega)]
    | succ n =>
      have key : ∀ v : Int, v = bi_A l1.toNat → ∃ h2, qw_X4_forget_10 nn k l0 (l1 + 1) (up_M h (l0 + 1) l1.toNat v) = some h2 ∧ (∀ c j, ¬ c = l0 + 1 → ¬ c = l0 + 2 → h2 c j = h c j) ∧ (∀ j : Nat, j < 16 → h2 (l0 + 1) j = bi_A j) ∧ un_R l0 h2 := by
        intro v hv
        obtain ⟨h2, g1, g2, g3, g4⟩ := ih n (l1 + 1) (up_M h (l0 + 1) l1.toNat v) (by omega) (by omega) (by omega) (by
          intro j hj
          by_cases w : j = l1.toNat
          · rw [w, up_s, if_pos (by omega)]; exact hv
          · rw [up_n (fun z => w z.2), h6 j hj]
            by_cases w2 : (j : Int) < l1
            · rw [if_pos w2, if_pos (by omega)]
            · rw [if_neg w2, if_neg (by omega)])
        exact ⟨h2, g1, fun c j c1 c2 => by rw [g2 c j c1 c2]; exact up_n (fun w => c1 w.1), g3, g4⟩
      by_cases w : l1 = 1
      · have z : qw_X4_forget_10 nn (k + 1) l0 l1 h = qw_X4_forget_10 nn k l0 (l1 + 1) (up_M h (l0 + 1) l1.toNat 0) := by
          conv => lhs; unfold qw_X4_forget_10
          simp (disch := omega) only [if_pos, if_neg, xl_eq, wa_ok, oq_add_eq]
        rw [z]
        exact key 0 (by unfold bi_A; rw [if_pos (by omega)])
      · have z : qw_X4_forget_10 nn (k + 1) l0 l1 h = qw_X4_forget_10 nn k l0 (l1 + 1) (up_M h (l0 + 1) l1.toNat 1) := by
          conv => lhs; unfold qw_X4_forget_10
          simp (disch := omega) only [if_pos, if_neg, xl_eq, wa_ok, oq_add_eq]
        rw [z]
        exact key 1 (by unfold bi_A; rw [if_neg (by omega), if_pos (by omega)])
theorem kforget_ok {nn : Nat} (hn : 100001 ≤ nn) {l0 : Nat} (h0 : l0 = 12 ∨ l0 = 57) {h : ms_M} (hcn : 256 ≤ cn_M h) : ∃ h2, qf_X4_forget nn l0 h = some h2 ∧ (∀ c j, ¬ c = l0 + 1 → ¬ c = l0 + 2 → h2 c j = h c j) ∧ (∀ j : Nat, j < 16 → h2 (l0 + 1) j = bi_A j) ∧ un_R l0 h2 := by
  have hT : ly_T (l0 + 1) = 0 ∧ ly_N (l0 + 1) = 16 := by rcases h0 with rfl | rfl <;> exact ⟨rfl, rfl⟩
  obtain ⟨h1, g1, g2, g3⟩ := fill_ok (nn := nn) (c := l0 + 1) (by omega) hT.1 (by omega) hn (v := -1) (h := h) (by omega)
  obtain ⟨h2, k1, k2, k3, k4⟩ := fo_10 (nn := nn) (by omega) (l0 := l0) nn 7 1 h1 (by omega) (by omega) (by omega) (by
    intro j hj
    rw [g3 j (by omega)]
    by_cases w : (j : Int) < 1
    · rw [if_pos w]; unfold bi_A; rw [if_neg (by omega), if_neg (by omega)]
    · rw [if_neg w])
  refine ⟨h2, ?_, fun c j c1 c2 => by rw [k2 c j c1 c2, g2 c j c1], k3, k4⟩
  unfold qf_X4_forget
  rw [g1, mx_svs]; exact k1
/-- CLEAR, side by side -/
theorem clear_2 {nn : Nat} (hn : 100001 ≤ nn) {M : ms_M} (hcn : 256 ≤ cn_M M) : ∃ M1 M2, qf_X12_clear nn M = some M1 ∧ qf_X13_clear nn M1 = some M2 ∧ sp_R M2 ∧ rn_R M2 ∧ M2 56 3 = 0 ∧ M2 56 4 = 0 ∧ (∀ j : Nat, j < 16 → M2 58 j = bi_A j) ∧ un_R 57 M2 ∧ ∀ c k, nw_F [58, 59] [(56, 3), (56, 4), (143, 1), (143, 2), (143, 3), (143, 4), (143, 5), (143, 6), (143, 7), (160, 98), (160, 99), (160, 138)] false false c k = true → M2 c k = M c k := by
  obtain ⟨h1, g1, g2, g3, g4⟩ := kforget_ok hn (l0 := 57) (.inr rfl) (h := up_M (up_M M 56 3 0) 56 4 0) (by
    have : cn_M (up_M (up_M M 56 3 0) 56 4 0) = cn_M M := by unfold cn_M; rw [up_n (by omega), up_n (by omega)]
    omega)
  have hx : qf_X12_clear nn M = some (up_M (up_M (up_M (up_M (up_M (up_M (up_M h1 143 1 0) 143 2 (-1)) 143 3 0) 143 4 0) 143 5 0) 143 6 0) 143 7 0) := by
    unfold qf_X12_clear qf_X7_forget qf_X5_forget
    simp only [xl_eq, g1, mx_svs]
  refine ⟨_, _, hx, by unfold qf_X13_clear; simp only [xl_eq]; rfl, ?_, ?_, ?_, ?_, ?_, ?_, ?_⟩
  · refine ⟨?_, ?_, ?_⟩ <;> simp (disch := omega) only [up_s, up_n, g2]
    omega
  · refine ⟨?_, ?_, ?_, ?_, ?_, ?_, ?_⟩ <;> simp (disch := omega) only [up_s, up_n]
    all_goals first | omega | simp
  · simp (disch := omega) only [up_s, up_n, g2]
  · simp (disch := omega) only [up_s, up_n, g2]
  · intro j hj
    simp (disch := omega) only [up_n]
    exact g3 j hj
  · intro a b ha hb
    have e1 : (up_M (up_M (up_M (up_M (up_M (up_M (up_M (up_M (up_M (up_M h1 143 1 0) 143 2 (-1)) 143 3 0) 143 4 0) 143 5 0) 143 6 0) 143 7 0) 160 98 0) 160 99 0) 160 138 0) (57 + 1) = h1 (57 + 1) := by
      funext j; simp (disch := omega) only [up_n]
    have e2 : (up_M (up_M (up_M (up_M (up_M (up_M (up_M (up_M (up_M (up_M h1 143 1 0) 143 2 (-1)) 143 3 0) 143 4 0) 143 5 0) 143 6 0) 143 7 0) 160 98 0) 160 99 0) 160 138 0) (57 + 2) = h1 (57 + 2) := by
      funext j; simp (disch := omega) only [up_n]
    rw [e1, e2]; exact g4 a b ha hb
  · intro c k hc
    have n1 : ¬ c = 58 := nw_ne rfl c k hc
    have n2 : ¬ c = 59 := nw_ne rfl c k hc
    rw [up_n (nw_nf rfl c k hc), up_n (nw_nf rfl c k hc), up_n (nw_nf rfl c k hc), up_n (nw_nf rfl c k hc), up_n (nw_nf rfl c k hc), up_n (nw_nf rfl c k hc), up_n (nw_nf rfl c k hc), up_n (nw_nf rfl c k hc), up_n (nw_nf rfl c k hc), up_n (nw_nf rfl c k hc)]
    rw [g2 c k n1 n2, up_n (nw_nf rfl c k hc), up_n (nw_nf rfl c k hc)]
end
section
/-- IMAGES being read. The class's Image at cell b (0 which bytes, 1 size, 2 pos, 3 form, 7 constants; b+2 tags, b+3 at, b+4 textStop, b+5 field, b+6 method) reads n bytes B. -/
def sr_I (M : ms_M) (b : Nat) (B : Nat → Int) (n : Nat) : Prop := kc_O b = 3 ∧ n ≤ 6000 ∧ M b 1 = (n : Int) ∧ 0 ≤ M b 0 ∧ (M b 0).toNat < cn_M M ∧ ly_T (M b 0).toNat = 1 ∧ (n : Int) ≤ ln_I M (M b 0).toNat ∧ ∀ i : Nat, i < n → M (M b 0).toNat i % 256 = B i ∧ (-128 ≤ M (M b 0).toNat i ∧ M (M b 0).toNat i ≤ 127)
theorem sr_B {M : ms_M} {b : Nat} {B : Nat → Int} {n : Nat} (h : sr_I M b B n) {i : Nat} (hi : i < n) : 0 ≤ B i ∧ B i ≤ 255 := by
  have := (h.2.2.2.2.2.2.2 i hi).1; omega
theorem T_img {b : Nat} (h : kc_O b = 3) : ly_T b = 5 := (kc_T h (by decide)).1
theorem T_arr {b off : Nat} (h : kc_O b = 3) (ho : 2 ≤ off ∧ off ≤ 6) : ly_T (b + off) = 0 := by
  have h1 := I_one h
  simp only [Bool.and_eq_true] at h1
  obtain ⟨-, h2, h3, h4, h5, h6⟩ := h1
  have : off = 2 ∨ off = 3 ∨ off = 4 ∨ off = 5 ∨ off = 6 := by omega
  rcases this with rfl | rfl | rfl | rfl | rfl
  · exact (ly_Rel h2).2.1
  · exact (ly_Rel h3).2.1
  · exact (ly_Rel h4).2.1
  · exact (ly_Rel h5).2.1
  · exact (ly_Rel h6).2.1
/-- what the image is reading stays, where neither its bytes nor its fields 0 and 1 are touched -/
theorem sr_up {M : ms_M} {b : Nat} {B : Nat → Int} {n : Nat} (h : sr_I M b B n) {c k : Nat} {v : Int} (hc : c = b ∧ 2 ≤ k ∨ (∃ off, 2 ≤ off ∧ off ≤ 6 ∧ c = b + off)) : sr_I (up_M M c k v) b B n := by
  obtain ⟨h1, h2, h3, h4, h5, h6, h7, h8⟩ := h
  have hT := T_img h1
  have hlt := kc_lt h1 (by decide)
  have hcT : ly_T c ≠ 1 := by
    rcases hc with ⟨rfl, -⟩ | ⟨off, o1, o2, rfl⟩
    · omega
    · rw [T_arr h1 ⟨o1, o2⟩]; decide
  have hcb : ∀ j, j < 2 → up_M M c k v b j = M b j := by
    intro j hj; exact up_n (by rintro ⟨e1, e2⟩; rcases hc with ⟨-, q⟩ | ⟨off, o1, o2, rfl⟩ <;> omega)
  have hs : ∀ d, ly_T d = 1 → up_M M c k v d = M d := fun d hd => up_ne d (fun e => hcT (e ▸ hd))
  have e0 := hcb 0 (by omega)
  have e1 := hcb 1 (by omega)
  refine ⟨h1, h2, by rw [e1]; exact h3, by rw [e0]; exact h4, ?_, by rw [e0]; exact h6, ?_, ?_⟩
  · rw [e0]; unfold cn_M; rw [hs 900000 (ly_Tbig (by decide))]; exact h5
  · rw [e0]; unfold ln_I; rw [hs 900001 (ly_Tbig (by decide))]; exact h7
  · intro i hi; rw [e0, hs _ h6]; exact h8 i hi
theorem byteAt_ok {nn : Nat} {M : ms_M} {b : Nat} {B : Nat → Int} {n : Nat} (h : sr_I M b B n) {p : Int} : qf_X3_byteAt nn b p M = some (if 0 ≤ p ∧ p < (n : Int) then B p.toNat else 0) := by
  obtain ⟨h1, h2, h3, h4, h5, h6, h7, h8⟩ := h
  unfold qf_X3_byteAt ck_B rd_T
  rw [h3]
  by_cases q0 : p < 0
  · simp (disch := omega) only [if_pos, if_neg]
  by_cases q1 : (n : Int) ≤ p
  · simp (disch := omega) only [if_pos, if_neg]
  obtain ⟨g1, g2⟩ := h8 p.toNat (by omega)
  simp (disch := omega) only [if_pos, if_neg, xl_eq]
  rw [oq_and_255 (by omega), g1]
theorem next_in {nn : Nat} {M : ms_M} {b : Nat} {B : Nat → Int} {n : Nat} (h : sr_I M b B n) (hp : 0 ≤ M b 2 ∧ M b 2 < (n : Int)) : qf_X3_next nn b M = some (B (M b 2).toNat, up_M M b 2 (M b 2 + 1)) := by
  have h' := sr_up h (c := b) (k := 2) (v := M b 2 + 1) (.inl ⟨rfl, by omega⟩)
  obtain ⟨h1, h2, h3, h4, h5, h6, h7, h8⟩ := h
  have e0 : up_M M b 2 (M b 2 + 1) b 0 = M b 0 := up_n (by omega)
  have k5 := h'.2.2.2.2.1
  have k7 := h'.2.2.2.2.2.2.1
  have k8 := h'.2.2.2.2.2.2.2 (M b 2).toNat (by omega)
  rw [e0] at k5 k7 k8
  obtain ⟨k8, k9⟩ := k8
  unfold qf_X3_next ck_B rd_T
  simp (disch := omega) only [if_pos, xl_eq, oq_add_eq, h3]
  rw [up_s, e0, oq_sub_eq (by omega) (by omega) (by omega)]
  have e2 : M b 2 + 1 - 1 = M b 2 := by omega
  rw [e2, if_pos ⟨⟨k5, h6⟩, hp.1, by omega⟩, oq_and_255 (by omega), k8]
theorem next_out {nn : Nat} {M : ms_M} {b : Nat} {B : Nat → Int} {n : Nat} (h : sr_I M b B n) (hp : (n : Int) ≤ M b 2) : qf_X3_next nn b M = some (0, up_M M b 3 (if M b 3 = -1 then (n : Int) else M b 3)) := by
  obtain ⟨h1, h2, h3, h4, h5, h6, h7, h8⟩ := h
  unfold qf_X3_next
  by_cases q : M b 3 = -1
  · simp (disch := omega) only [if_pos, if_neg, xl_eq, h3]
  · simp (disch := omega) only [if_pos, if_neg, xl_eq, h3]
theorem bad_ok {nn : Nat} {M : ms_M} {b : Nat} {p : Int} : qf_X3_bad nn b p M = some (if M b 3 = -1 then up_M M b 3 p else M) := by
  unfold qf_X3_bad
  by_cases q : M b 3 = -1
  · simp (disch := omega) only [if_pos, if_neg, xl_eq]
  · simp (disch := omega) only [if_pos, if_neg, xl_eq]
/-- a byte that must keep to lo .. hi, while nothing is wrong yet -/
theorem upTo_in {nn : Nat} {M : ms_M} {b : Nat} {B : Nat → Int} {n : Nat} (h : sr_I M b B n) (hp : 0 ≤ M b 2 ∧ M b 2 < (n : Int)) (hf : M b 3 = -1) {lo hi : Int} : qf_X3_nextUpTo nn b lo hi M = some (B (M b 2).toNat, if lo ≤ B (M b 2).toNat ∧ B (M b 2).toNat ≤ hi then up_M M b 2 (M b 2 + 1) else up_M (up_M M b 2 (M b 2 + 1)) b 3 (M b 2)) := by
  have hn := h.2.1
  have ef : up_M M b 2 (M b 2 + 1) b 3 = -1 := by rw [up_n (by omega)]; exact hf
  unfold qf_X3_nextUpTo qj_X3_nextUpTo_15
  rw [next_in h hp, mx_svs]
  dsimp only
  simp only [bad_ok, mx_svs, xl_eq]
  rw [up_s, oq_sub_eq (by omega) (by omega) (by omega), if_pos ef]
  have e2 : M b 2 + 1 - 1 = M b 2 := by omega
  rw [e2]
  by_cases q0 : B (M b 2).toNat < lo
  · simp (disch := omega) only [if_pos, if_neg]
  · by_cases q1 : B (M b 2).toNat ≤ hi
    · simp (disch := omega) only [if_pos, if_neg]
    · simp (disch := omega) only [if_pos, if_neg]
theorem tagOf_ok {nn : Nat} {M : ms_M} {b : Nat} {k : Int} (hc : M b 7 ≤ 255) : qf_X3_tagOf nn b k M = some (if 1 ≤ k ∧ k ≤ M b 7 then M (b + 2) k.toNat else 0) := by
  unfold qf_X3_tagOf
  by_cases q0 : k < 1
  · simp (disch := omega) only [if_pos, if_neg]
  by_cases q1 : M b 7 < k
  · simp (disch := omega) only [if_pos, if_neg]
  simp (disch := omega) only [if_pos, if_neg, rd_ok]
theorem textAt_ok {nn : Nat} {M : ms_M} {b : Nat} {k : Int} (hc : M b 7 ≤ 255) : qf_X3_textAt nn b k M = some (if 1 ≤ k ∧ k ≤ M b 7 then M (b + 3) k.toNat else 0) := by
  unfold qf_X3_textAt
  by_cases q0 : k < 1
  · simp (disch := omega) only [if_pos, if_neg]
  by_cases q1 : M b 7 < k
  · simp (disch := omega) only [if_pos, if_neg]
  simp (disch := omega) only [if_pos, if_neg, rd_ok]
theorem textEnd_ok {nn : Nat} {M : ms_M} {b : Nat} {k : Int} (hc : M b 7 ≤ 255) : qf_X3_textEnd nn b k M = some (if 1 ≤ k ∧ k ≤ M b 7 then M (b + 4) k.toNat else 0) := by
  unfold qf_X3_textEnd
  by_cases q0 : k < 1
  · simp (disch := omega) only [if_pos, if_neg]
  by_cases q1 : M b 7 < k
  · simp (disch := omega) only [if_pos, if_neg]
  simp (disch := omega) only [if_pos, if_neg, rd_ok]
/-- the byte at p, 0 outside -/
def by_N (B : Nat → Int) (n : Nat) (p : Int) : Int := if 0 ≤ p ∧ p < (n : Int) then B p.toNat else 0
theorem partOf_ok {nn : Nat} {M : ms_M} {b : Nat} {B : Nat → Int} {n : Nat} (h : sr_I M b B n) (hc : M b 7 ≤ 255) {k i : Int} (hr : ∀ j : Nat, j ≤ 255 → 0 ≤ M (b + 3) j ∧ M (b + 3) j ≤ 7000) (hi : 0 ≤ i ∧ i ≤ 3) : qf_X3_partOf nn b k i M = some (if 1 ≤ k ∧ k ≤ M b 7 then by_N B n (M (b + 3) k.toNat + i) else 0) := by
  unfold qf_X3_partOf
  by_cases q0 : k < 1
  · simp (disch := omega) only [if_pos, if_neg]
  by_cases q1 : M b 7 < k
  · simp (disch := omega) only [if_pos, if_neg]
  have r := hr k.toNat (by omega)
  simp (disch := omega) only [if_pos, if_neg, rd_ok, xl_eq, oq_add_eq, byteAt_ok h, mx_svs]
  rfl
/-- the reference: field 113 how many bytes, 114 form, 115 into; cell 238 look -/
def sr_M (M : ms_M) (B : Nat → Int) (n : Nat) : Prop := n ≤ 6000 ∧ M 160 113 = (n : Int) ∧ ∀ i : Nat, i < n → M 238 i = B i
theorem isByte_ok {nn : Nat} {M : ms_M} {B : Nat → Int} {n : Nat} (h : sr_M M B n) {p : Int} (hp : 0 ≤ p) : qf_X13_isByte nn p M = some (if M 160 114 = -1 ∧ p < (n : Int) then (1, M) else if M 160 114 = -1 then (0, up_M M 160 114 (n : Int)) else (0, M)) := by
  obtain ⟨h1, h2, h3⟩ := h
  unfold qf_X13_isByte qj_X13_isByte_26
  rw [h2]
  by_cases q0 : M 160 114 = -1
  · by_cases q1 : p < (n : Int)
    · simp (disch := omega) only [if_pos, if_neg]
    · simp (disch := omega) only [if_pos, if_neg, xl_eq, up_s]
  · simp (disch := omega) only [if_pos, if_neg]
theorem unfit_ok {nn : Nat} {M : ms_M} {p : Int} : qf_X13_unfit nn p M = some (if M 160 114 = -1 then up_M M 160 114 p else M) := by
  unfold qf_X13_unfit
  by_cases q : M 160 114 = -1
  · simp (disch := omega) only [if_pos, if_neg, xl_eq]
  · simp (disch := omega) only [if_pos, if_neg, xl_eq]
end
section
/-- NAMES -/
def lt_N (x : Int) : Bool := (decide (97 ≤ x) && decide (x ≤ 122)) || (decide (65 ≤ x) && decide (x ≤ 90))
def np_N (i : Nat) (x : Int) : Bool := lt_N x || (decide (0 < i) && ((decide (48 ≤ x) && decide (x ≤ 57)) || decide (x = 95)))
def al_N (p : Nat → Bool) : Nat → Nat → Bool
  | _, 0 => true
  | i, n + 1 => p i && al_N p (i + 1) n
def nm_N (f : Nat → Int) (len : Nat) : Bool := (decide (1 ≤ len) && decide (len ≤ 12)) && al_N (fun i => np_N i (f i)) 0 len
def bi_N (b : Bool) : Int := if b = true then 1 else 0
theorem cn_body {nn : Nat} {qk : Nat → Int → Int → Int → Int → ms_M → Option Int} {l0 : Nat} {l1 l2 l4 v : Int} {h : ms_M} {i : Nat} (h4 : l4 = l1 + (i : Int)) (r1 : 0 ≤ l1 ∧ l1 ≤ 1000000) (r2 : i ≤ 20) : (if v < 97 then (qj_X9_isName_62 nn qk l0 l1 l2 l4 v h) else (if v ≤ 122 then (qj_X9_isName_76 nn qk l0 l1 l2 l4 v h) else (qj_X9_isName_62 nn qk l0 l1 l2 l4 v h))) = qk l0 l1 l2 (bi_N (np_N i v)) (l4 + 1) h := by
  have e1 : oq_add l4 1 = l4 + 1 := oq_add_eq (by omega) (by omega) (by omega)
  unfold qj_X9_isName_62 qj_X9_isName_76 qj_X9_isName_80 qj_X9_isName_81 qj_X9_isName_108 qj_X9_isName_119 qj_X9_isName_115
  simp only [xl_eq, e1]
  have one : np_N i v = true → qk l0 l1 l2 1 (l4 + 1) h = qk l0 l1 l2 (bi_N (np_N i v)) (l4 + 1) h := fun z => by rw [z]; rfl
  have zero : np_N i v = false → qk l0 l1 l2 0 (l4 + 1) h = qk l0 l1 l2 (bi_N (np_N i v)) (l4 + 1) h := fun z => by rw [z]; rfl
  by_cases L : (97 ≤ v ∧ v ≤ 122) ∨ (65 ≤ v ∧ v ≤ 90)
  · have hp : np_N i v = true := by
      unfold np_N lt_N
      rcases L with ⟨a, b⟩ | ⟨a, b⟩ <;> simp [a, b]
    rw [← one hp]
    rcases L with L | L
    · simp (disch := omega) only [if_pos, if_neg, not_true_eq_false, not_false_eq_true, ↓reduceIte, true_or, or_true]
    · simp (disch := omega) only [if_pos, if_neg, not_true_eq_false, not_false_eq_true, ↓reduceIte, true_or, or_true]
  · have hl : lt_N v = false := by
      unfold lt_N
      simp only [Bool.or_eq_false_iff, Bool.and_eq_false_iff, decide_eq_false_iff_not]
      omega
    by_cases D : 0 < i ∧ ((48 ≤ v ∧ v ≤ 57) ∨ v = 95)
    · have hp : np_N i v = true := by
        unfold np_N; rw [hl]
        obtain ⟨a, b⟩ := D
        rcases b with ⟨b, c⟩ | b <;> simp [a, b, *]
      rw [← one hp]
      obtain ⟨D1, D2⟩ := D
      by_cases w : v < 97
      · by_cases w2 : v < 65
        · by_cases w3 : 48 ≤ v ∧ v ≤ 57
          · simp (disch := omega) only [if_pos, if_neg, not_true_eq_false, not_false_eq_true, ↓reduceIte, true_or, or_true]
          · omega
        · have : v = 95 := by omega
          simp (disch := omega) only [if_pos, if_neg, not_true_eq_false, not_false_eq_true, ↓reduceIte, true_or, or_true]
      · omega
    · have hp : np_N i v = false := by
        unfold np_N; rw [hl]
        simp only [Bool.false_or, Bool.and_eq_false_iff, Bool.or_eq_false_iff, decide_eq_false_iff_not]
        omega
      rw [← zero hp]
      by_cases i0 : i = 0
      · by_cases w : v < 97
        · by_cases w2 : v < 65
          · simp (disch := omega) only [if_pos, if_neg, not_true_eq_false, not_false_eq_true, ↓reduceIte, true_or, or_true]
          · simp (disch := omega) only [if_pos, if_neg, not_true_eq_false, not_false_eq_true, ↓reduceIte, true_or, or_true]
        · simp (disch := omega) only [if_pos, if_neg, not_true_eq_false, not_false_eq_true, ↓reduceIte, true_or, or_true]
      · by_cases w : v < 97
        · by_cases w2 : v < 65
          · by_cases w3 : v < 48
            · simp (disch := omega) only [if_pos, if_neg, not_true_eq_false, not_false_eq_true, ↓reduceIte, true_or, or_true]
            · simp (disch := omega) only [if_pos, if_neg, not_true_eq_false, not_false_eq_true, ↓reduceIte, true_or, or_true]
          · simp (disch := omega) only [if_pos, if_neg, not_true_eq_false, not_false_eq_true, ↓reduceIte, true_or, or_true]
        · simp (disch := omega) only [if_pos, if_neg, not_true_eq_false, not_false_eq_true, ↓reduceIte, true_or, or_true]
theorem cn_zero {nn k : Nat} {l0 : Nat} {l1 l2 l4 : Int} {h : ms_M} : qw_X9_isName_32 nn (k + 1) l0 l1 l2 0 l4 h = some 0 := by
  unfold qw_X9_isName_32 ck_B
  by_cases q : l2 ≤ l4
  · simp (disch := omega) only [if_pos, if_neg, not_true_eq_false, not_false_eq_true, ↓reduceIte, true_or, or_true]
  · simp (disch := omega) only [if_pos, if_neg, not_true_eq_false, not_false_eq_true, ↓reduceIte, true_or, or_true]
theorem cn_loop {nn : Nat} {l0 : Nat} {l1 l2 : Int} {h : ms_M} (hc : l0 < cn_M h) (ht : ly_T l0 = 1) (r1 : 0 ≤ l1 ∧ l1 ≤ 1000000) (hl : l2 ≤ ln_I h l0) (h12 : l2 - l1 ≤ 12) : ∀ (k n i : Nat) (l4 : Int), l4 = l1 + (i : Int) → l2 = l4 + (n : Int) → n + 1 < k → qw_X9_isName_32 nn k l0 l1 l2 1 l4 h = some (bi_N (al_N (fun j => np_N j (h l0 (l1.toNat + j))) i n)) := by
  intro k
  induction k with
  | zero => intro n i l4 _ _ h5; omega
  | succ k ih =>
    intro n i l4 h4 h5 h6
    cases n with
    | zero =>
      unfold qw_X9_isName_32 ck_B
      simp (disch := omega) only [if_pos, or_true, ↓reduceIte]
      rfl
    | succ n =>
      have e : l4.toNat = l1.toNat + i := by omega
      have z : qw_X9_isName_32 nn (k + 1) l0 l1 l2 1 l4 h = qw_X9_isName_32 nn k l0 l1 l2 (bi_N (np_N i (h l0 (l1.toNat + i)))) (l4 + 1) h := by
        conv => lhs; unfold qw_X9_isName_32
        unfold rd_T
        rw [if_neg (by omega), if_neg (by omega), if_pos ⟨⟨hc, ht⟩, by omega, by omega⟩]
        dsimp only
        rw [cn_body h4 r1 (by omega), e]
      rw [z]
      unfold al_N
      cases hp : np_N i (h l0 (l1.toNat + i)) with
      | false =>
        obtain ⟨k2, rfl⟩ : ∃ k2, k = k2 + 1 := ⟨k - 1, by omega⟩
        show qw_X9_isName_32 nn (k2 + 1) l0 l1 l2 0 (l4 + 1) h = _
        rw [cn_zero]; rfl
      | true =>
        show qw_X9_isName_32 nn k l0 l1 l2 1 (l4 + 1) h = _
        rw [ih n (i + 1) (l4 + 1) (by omega) (by omega) (by omega)]
        rfl
/-- the class's isName -/
theorem cname_ok {nn : Nat} (hn : 20 ≤ nn) {c : Nat} {a b : Int} {h : ms_M} (hc : c < cn_M h) (ht : ly_T c = 1) (ra : -1 ≤ a ∧ a ≤ 1000000) (rb : -1 ≤ b ∧ b ≤ 1000000) : qf_X9_isName nn c a b h = some (bi_N (decide (0 ≤ a ∧ a < b ∧ b ≤ ln_I h c) && nm_N (fun i => h c (a.toNat + i)) (b - a).toNat)) := by
  obtain ⟨k, rfl⟩ : ∃ k, nn = k + 1 := ⟨nn - 1, by omega⟩
  unfold qf_X9_isName qj_X9_isName_27 ln_S
  simp only [cn_zero, xl_eq]
  have no : ¬ (0 ≤ a ∧ a < b ∧ b ≤ ln_I h c) → some (0 : Int) = some (bi_N (decide (0 ≤ a ∧ a < b ∧ b ≤ ln_I h c) && nm_N (fun i => h c (a.toNat + i)) (b - a).toNat)) := fun q => by
    rw [decide_eq_false q]; rfl
  by_cases q0 : a < 0
  · rw [if_pos q0]; exact no (by omega)
  by_cases q1 : b ≤ a
  · rw [if_neg q0, if_pos q1]; exact no (by omega)
  rw [if_neg q0, if_neg q1, if_pos ⟨hc, by omega⟩]
  by_cases q2 : ln_I h c < b
  · rw [if_pos q2]; exact no (by omega)
  rw [if_neg q2, oq_sub_eq (by omega) (by omega) (by omega), decide_eq_true (show 0 ≤ a ∧ a < b ∧ b ≤ ln_I h c by omega)]
  by_cases q3 : 12 < b - a
  · rw [if_pos q3]
    have : nm_N (fun i => h c (a.toNat + i)) (b - a).toNat = false := by
      unfold nm_N; rw [decide_eq_false (show ¬ (b - a).toNat ≤ 12 by omega)]; simp
    rw [this]; rfl
  rw [if_neg q3, cn_loop hc ht (by omega) (by omega) (by omega) (k + 1) (b - a).toNat 0 a (by omega) (by omega) (by omega)]
  unfold nm_N
  rw [decide_eq_true (show 1 ≤ (b - a).toNat by omega), decide_eq_true (show (b - a).toNat ≤ 12 by omega)]
  rfl
/-- the reference's isName -/
theorem isLetter_ok {nn : Nat} {x : Int} {h : ms_M} : qf_X13_isLetter nn x h = some (bi_N (lt_N x)) := by
  unfold qf_X13_isLetter qj_X13_isLetter_12
  by_cases L : (97 ≤ x ∧ x ≤ 122) ∨ (65 ≤ x ∧ x ≤ 90)
  · have hp : lt_N x = true := by
      unfold lt_N
      rcases L with ⟨a, b⟩ | ⟨a, b⟩ <;> simp [a, b]
    rw [hp]
    rcases L with L | L
    · simp (disch := omega) only [if_pos, if_neg]; rfl
    · simp (disch := omega) only [if_pos, if_neg]; rfl
  · have hl : lt_N x = false := by
      unfold lt_N
      simp only [Bool.or_eq_false_iff, Bool.and_eq_false_iff, decide_eq_false_iff_not]
      omega
    rw [hl]
    by_cases w : x < 97
    · by_cases w2 : x < 65
      · simp (disch := omega) only [if_pos, if_neg]; rfl
      · simp (disch := omega) only [if_pos, if_neg]; rfl
    · simp (disch := omega) only [if_pos, if_neg]; rfl
theorem isDigit_ok {nn : Nat} {x : Int} {h : ms_M} : qf_X13_isDigit nn x h = some (bi_N (decide (48 ≤ x) && decide (x ≤ 57))) := by
  unfold qf_X13_isDigit
  by_cases a : x < 48
  · rw [if_pos a, decide_eq_false (show ¬ 48 ≤ x by omega)]; rfl
  · rw [if_neg a, decide_eq_true (show 48 ≤ x by omega)]
    by_cases b : 57 < x
    · rw [if_pos b, decide_eq_false (show ¬ x ≤ 57 by omega)]; rfl
    · rw [if_neg b, decide_eq_true (show x ≤ 57 by omega)]; rfl
theorem namePart_ok {nn : Nat} {x : Int} {i : Nat} {h : ms_M} : qf_X13_isNamePart nn x (if i = 0 then 1 else 0) h = some (bi_N (np_N i x)) := by
  unfold qf_X13_isNamePart np_N
  rw [isLetter_ok, mx_svs, isDigit_ok, mx_svs]
  cases lt_N x with
  | true => rfl
  | false =>
    by_cases hi : i = 0
    · subst hi; rfl
    · rw [if_neg hi, decide_eq_true (show 0 < i by omega)]
      cases (decide (48 ≤ x) && decide (x ≤ 57)) with
      | true => rfl
      | false =>
        by_cases w : x = 95
        · rw [decide_eq_true w]; simp [bi_N, w]
        · rw [decide_eq_false w]; simp [bi_N, w]
theorem mn_zero {nn k : Nat} {l0 : Nat} {l1 l2 l4 : Int} {h : ms_M} : qw_X13_isName_20 nn (k + 1) l0 l1 l2 0 l4 h = some 0 := by
  unfold qw_X13_isName_20 ck_B
  by_cases q : l2 ≤ l4
  · simp (disch := omega) only [if_pos, if_neg, not_true_eq_false, not_false_eq_true, ↓reduceIte, true_or, or_true]
  · simp (disch := omega) only [if_pos, if_neg, not_true_eq_false, not_false_eq_true, ↓reduceIte, true_or, or_true]
theorem mn_loop {nn : Nat} {l0 : Nat} {l1 l2 : Int} {h : ms_M} (hc : l0 < cn_M h) (ht : ly_T l0 = 0) (r1 : 0 ≤ l1 ∧ l1 ≤ 1000000) (hl : l1 + l2 ≤ ln_I h l0) (h12 : l2 ≤ 12) : ∀ (k n i : Nat) (l4 : Int), l4 = (i : Int) → l2 = l4 + (n : Int) → n + 1 < k → qw_X13_isName_20 nn k l0 l1 l2 1 l4 h = some (bi_N (al_N (fun j => np_N j (h l0 (l1.toNat + j))) i n)) := by
  intro k
  induction k with
  | zero => intro n i l4 _ _ h5; omega
  | succ k ih =>
    intro n i l4 h4 h5 h6
    cases n with
    | zero =>
      unfold qw_X13_isName_20 ck_B
      simp (disch := omega) only [if_pos, or_true, ↓reduceIte]
      rfl
    | succ n =>
      have e : (l1 + l4).toNat = l1.toNat + i := by omega
      have z : qw_X13_isName_20 nn (k + 1) l0 l1 l2 1 l4 h = qw_X13_isName_20 nn k l0 l1 l2 (bi_N (np_N i (h l0 (l1.toNat + i)))) (l4 + 1) h := by
        conv => lhs; unfold qw_X13_isName_20
        unfold rd_S qj_X13_isName_46
        simp only [xl_eq]
        rw [if_neg (by omega), if_neg (by omega), oq_add_eq (by omega) (by omega) (by omega), if_pos ⟨⟨hc, ht⟩, by omega, by omega⟩, e]
        have np := namePart_ok (nn := nn) (x := h l0 (l1.toNat + i)) (i := i) (h := h)
        by_cases hi : i = 0
        · rw [if_pos hi] at np
          rw [if_neg (by omega), np, mx_svs, oq_add_eq (by omega) (by omega) (by omega)]
        · rw [if_neg hi] at np
          rw [if_pos (by omega), np, mx_svs, oq_add_eq (by omega) (by omega) (by omega)]
      rw [z]
      unfold al_N
      cases hp : np_N i (h l0 (l1.toNat + i)) with
      | false =>
        obtain ⟨k2, rfl⟩ : ∃ k2, k = k2 + 1 := ⟨k - 1, by omega⟩
        show qw_X13_isName_20 nn (k2 + 1) l0 l1 l2 0 (l4 + 1) h = _
        rw [mn_zero]; rfl
      | true =>
        show qw_X13_isName_20 nn k l0 l1 l2 1 (l4 + 1) h = _
        rw [ih n (i + 1) (l4 + 1) (by omega) (by omega) (by omega)]
        rfl
theorem mname_ok {nn : Nat} (hn : 20 ≤ nn) {c : Nat} {a b : Int} {h : ms_M} (hc : c < cn_M h) (ht : ly_T c = 0) (ra : 0 ≤ a ∧ a ≤ 1000000) (hb : 1 ≤ b → b ≤ 12 → a + b ≤ ln_I h c) : qf_X13_isName nn c a b h = some (bi_N (nm_N (fun i => h c (a.toNat + i)) b.toNat)) := by
  obtain ⟨k, rfl⟩ : ∃ k, nn = k + 1 := ⟨nn - 1, by omega⟩
  unfold qf_X13_isName qj_X13_isName_15
  simp only [mn_zero]
  by_cases q0 : b < 1
  · rw [if_pos q0]
    have : nm_N (fun i => h c (a.toNat + i)) b.toNat = false := by
      unfold nm_N; rw [decide_eq_false (show ¬ 1 ≤ b.toNat by omega)]; simp
    rw [this]; rfl
  by_cases q1 : 12 < b
  · rw [if_neg q0, if_pos q1]
    have : nm_N (fun i => h c (a.toNat + i)) b.toNat = false := by
      unfold nm_N; rw [decide_eq_false (show ¬ b.toNat ≤ 12 by omega)]; simp
    rw [this]; rfl
  rw [if_neg q0, if_neg q1, mn_loop hc ht ra (hb (by omega) (by omega)) (by omega) (k + 1) b.toNat 0 0 (by omega) (by omega) (by omega)]
  unfold nm_N
  rw [decide_eq_true (show 1 ≤ b.toNat by omega), decide_eq_true (show b.toNat ≤ 12 by omega)]
  rfl
end
section
/-- KINDS: where the kind ends that begins at a, before s -/
def fi_N (f : Nat → Int) (x : Int) : Nat → Nat → Nat
  | p, 0 => p
  | p, n + 1 => if f p = x then p else fi_N f x (p + 1) n
def kn_N (f : Nat → Int) (p s : Nat) : Option Nat := if p < s ∧ f p = 76 then (if fi_N f 59 (p + 1) (s - (p + 1)) < s ∧ nm_N (fun i => f (p + 1 + i)) (fi_N f 59 (p + 1) (s - (p + 1)) - (p + 1)) = true then some (fi_N f 59 (p + 1) (s - (p + 1)) + 1) else none) else none
def kp_N (f : Nat → Int) (p s : Nat) : Option Nat := if p < s ∧ f p = 73 then some (p + 1) else kn_N f p s
def kd_N (f : Nat → Int) (a s : Nat) : Option Nat := if a < s ∧ (f a = 73 ∨ f a = 90) then some (a + 1) else if a < s ∧ f a = 91 then kp_N f (a + 1) s else kp_N f a s
def op_E (o : Option Nat) : Int := match o with
  | some e => (e : Int)
  | none => -1
def op_L (o : Option Nat) (a : Nat) : Int := match o with
  | some e => (e : Int) - (a : Int)
  | none => 0
theorem byteAt_in {nn : Nat} {M : ms_M} {b : Nat} {B : Nat → Int} {n : Nat} (h : sr_I M b B n) {p : Nat} (hp : p < n) : qf_X3_byteAt nn b (p : Int) M = some (B p) := by
  rw [byteAt_ok h, if_pos (by omega)]
  congr 1
theorem fi_rg {f : Nat → Int} {x : Int} : ∀ (n p : Nat), p ≤ fi_N f x p n ∧ fi_N f x p n ≤ p + n := by
  intro n
  induction n with
  | zero => intro p; unfold fi_N; omega
  | succ n ih =>
    intro p; unfold fi_N
    split
    · omega
    · have := ih (p + 1); omega
theorem np_mask {i : Nat} {x y : Int} (h : x % 256 = y) (hr : -128 ≤ x ∧ x ≤ 127) : np_N i x = np_N i y := by
  by_cases q : 0 ≤ x
  · have : y = x := by omega
    rw [this]
  · have e1 : np_N i x = false := by
      unfold np_N lt_N
      simp only [Bool.or_eq_false_iff, Bool.and_eq_false_iff, decide_eq_false_iff_not]
      omega
    have e2 : np_N i y = false := by
      unfold np_N lt_N
      simp only [Bool.or_eq_false_iff, Bool.and_eq_false_iff, decide_eq_false_iff_not]
      omega
    rw [e1, e2]
theorem al_cong {p q : Nat → Bool} : ∀ (n i : Nat), (∀ j, i ≤ j → j < i + n → p j = q j) → al_N p i n = al_N q i n := by
  intro n
  induction n with
  | zero => intro i _; rfl
  | succ n ih =>
    intro i h
    unfold al_N
    rw [h i (by omega) (by omega), ih (i + 1) (fun j h1 h2 => h j (by omega) (by omega))]
theorem nm_mask {f g : Nat → Int} {len : Nat} (h : ∀ i, i < len → f i % 256 = g i ∧ (-128 ≤ f i ∧ f i ≤ 127)) : nm_N f len = nm_N g len := by
  unfold nm_N
  rw [al_cong len 0 (fun j _ h2 => np_mask (h j (by omega)).1 (h j (by omega)).2)]
theorem bk_111 {nn : Nat} (hn : 20 ≤ nn) {M : ms_M} {b : Nat} {B : Nat → Int} {n : Nat} (h : sr_I M b B n) {p q s : Nat} (hs : s ≤ n) (hp : p < q) (hq : q ≤ s) : qj_X3_behindKind_111 nn b (s : Int) (p : Int) (q : Int) M = some (if q < s ∧ nm_N (fun i => B (p + 1 + i)) (q - (p + 1)) = true then ((q : Int) + 1) else -1) := by
  obtain ⟨h1, h2, h3, h4, h5, h6, h7, h8⟩ := h
  unfold qj_X3_behindKind_111 ck_B
  by_cases w : q < s
  · rw [if_neg (by omega), if_pos h4]
    simp only [xl_eq]
    rw [oq_add_eq (by omega) (by omega) (by omega), oq_add_eq (by omega) (by omega) (by omega), cname_ok hn h5 h6 (by omega) (by omega), mx_svs]
    have e1 : nm_N (fun i => M (M b 0).toNat (((p : Int) + 1).toNat + i)) ((q : Int) - ((p : Int) + 1)).toNat = nm_N (fun i => B (p + 1 + i)) (q - (p + 1)) := by
      have e2 : ((q : Int) - ((p : Int) + 1)).toNat = q - (p + 1) := by omega
      have e3 : ((p : Int) + 1).toNat = p + 1 := by omega
      rw [e2, e3]
      exact nm_mask (fun i hi => h8 (p + 1 + i) (by omega))
    rw [e1]
    by_cases z : (p : Int) + 1 < (q : Int)
    · rw [decide_eq_true (show 0 ≤ (p : Int) + 1 ∧ (p : Int) + 1 < (q : Int) ∧ (q : Int) ≤ ln_I M (M b 0).toNat by omega)]
      cases hz : nm_N (fun i => B (p + 1 + i)) (q - (p + 1)) with
      | true => simp [bi_N, w]
      | false => simp [bi_N]
    · rw [decide_eq_false (show ¬ (0 ≤ (p : Int) + 1 ∧ (p : Int) + 1 < (q : Int) ∧ (q : Int) ≤ ln_I M (M b 0).toNat) by omega)]
      have : nm_N (fun i => B (p + 1 + i)) (q - (p + 1)) = false := by
        unfold nm_N; rw [decide_eq_false (show ¬ 1 ≤ q - (p + 1) by omega)]; simp
      rw [this]; simp [bi_N]
  · rw [if_pos (by omega), if_neg (by omega)]
theorem bk_88 {nn : Nat} {M : ms_M} {b : Nat} {B : Nat → Int} {n : Nat} (h : sr_I M b B n) {p s : Nat} (hs : s ≤ n) : ∀ (k m q : Nat), q + m = s → m < k → qw_X3_behindKind_88 nn k b (s : Int) (p : Int) (q : Int) M = qj_X3_behindKind_111 nn b (s : Int) (p : Int) ((fi_N B 59 q m : Nat) : Int) M := by
  have hn6 := h.2.1
  intro k
  induction k with
  | zero => intro m q _ h2; omega
  | succ k ih =>
    intro m q h1 h2
    cases m with
    | zero =>
      unfold qw_X3_behindKind_88 fi_N
      rw [if_pos (by omega)]
    | succ m =>
      unfold qw_X3_behindKind_88 fi_N
      rw [if_neg (show ¬ ((s : Int) ≤ (q : Int)) by omega), byteAt_in h (by omega), mx_svs]
      by_cases w : B q = 59
      · rw [if_pos w, if_pos w]
      · rw [if_neg w, if_neg w, xl_eq, oq_add_eq (by omega) (by omega) (by omega)]
        exact ih m (q + 1) (by omega) (by omega)
theorem bk_44 {nn : Nat} (hn : 6020 ≤ nn) {M : ms_M} {b : Nat} {B : Nat → Int} {n : Nat} (h : sr_I M b B n) {p s : Nat} (hp : p ≤ s) (hs : s ≤ n) : qj_X3_behindKind_44 nn b (s : Int) (p : Int) M = some (op_E (kp_N B p s)) := by
  have hn6 := h.2.1
  unfold qj_X3_behindKind_44 qj_X3_behindKind_62 kp_N kn_N
  by_cases w : p < s
  · rw [if_neg (show ¬ ((s : Int) ≤ (p : Int)) by omega), byteAt_in h (by omega), mx_svs]
    simp only [xl_eq]
    rw [oq_add_eq (by omega) (by omega) (by omega)]
    by_cases w1 : B p = 73
    · simp (disch := omega) only [if_pos, if_neg, not_true_eq_false, not_false_eq_true, ↓reduceIte]; rfl
    · by_cases w2 : B p = 76
      · have r := fi_rg (f := B) (x := 59) (s - (p + 1)) (p + 1)
        have z := bk_88 (nn := nn) h (p := p) (s := s) hs nn (s - (p + 1)) (p + 1) (by omega) (by omega)
        have e2 : ((p + 1 : Nat) : Int) = (p : Int) + 1 := by omega
        rw [e2] at z
        rw [bk_111 (by omega) h hs (by omega) (by omega)] at z
        by_cases w3 : fi_N B 59 (p + 1) (s - (p + 1)) < s ∧ nm_N (fun i => B (p + 1 + i)) (fi_N B 59 (p + 1) (s - (p + 1)) - (p + 1)) = true
        · rw [if_pos w3] at z
          simp only [if_pos w3]
          simp (disch := omega) only [if_pos, if_neg, z]; rfl
        · rw [if_neg w3] at z
          simp only [if_neg w3]
          simp (disch := omega) only [if_pos, if_neg, z]; rfl
      · simp (disch := omega) only [if_pos, if_neg, not_true_eq_false, not_false_eq_true, ↓reduceIte]; rfl
  · simp (disch := omega) only [if_pos, if_neg, not_true_eq_false, not_false_eq_true, ↓reduceIte]; rfl
/-- the class's behindKind -/
theorem behindKind_ok {nn : Nat} (hn : 6020 ≤ nn) {M : ms_M} {b : Nat} {B : Nat → Int} {n : Nat} (h : sr_I M b B n) {a s : Nat} (ha : a ≤ s) (hs : s ≤ n) : qf_X3_behindKind nn b (a : Int) (s : Int) M = some (op_E (kd_N B a s)) := by
  have hn6 := h.2.1
  unfold qf_X3_behindKind qj_X3_behindKind_14 qj_X3_behindKind_27 kd_N
  by_cases w : a < s
  · rw [if_neg (show ¬ ((s : Int) ≤ (a : Int)) by omega), byteAt_in h (by omega), mx_svs]
    simp only [xl_eq]
    rw [oq_add_eq (by omega) (by omega) (by omega)]
    have e2 : (a : Int) + 1 = ((a + 1 : Nat) : Int) := by omega
    by_cases w1 : B a = 73
    · simp (disch := omega) only [if_pos, if_neg, not_true_eq_false, not_false_eq_true, ↓reduceIte]; rfl
    by_cases w2 : B a = 90
    · simp (disch := omega) only [if_pos, if_neg, not_true_eq_false, not_false_eq_true, ↓reduceIte]; rfl
    by_cases w3 : B a = 91
    · simp (disch := omega) only [if_pos, if_neg, e2]
      exact bk_44 hn h (by omega) hs
    · simp (disch := omega) only [if_pos, if_neg]
      exact bk_44 hn h ha hs
  · simp (disch := omega) only [if_pos, if_neg, not_true_eq_false, not_false_eq_true, ↓reduceIte]
    exact bk_44 hn h ha hs
/-- the reference's kindBytes, in a row of ints at cell c -/
theorem kb_93 {nn : Nat} (hn : 20 ≤ nn) {M : ms_M} {c : Nat} (hc : c < cn_M M) (ht : ly_T c = 0) {a p q s : Nat} (hs : (s : Int) ≤ ln_I M c) (hs2 : s ≤ 100000) (hp : p < q) (hq : q ≤ s) (ha : a ≤ p) : qj_X13_kindBytes_93 nn c (a : Int) (s : Int) (p : Int) (q : Int) M = some (if q < s ∧ nm_N (fun i => M c (p + 1 + i)) (q - (p + 1)) = true then ((q : Int) + 1 - (a : Int)) else 0) := by
  unfold qj_X13_kindBytes_93
  simp only [xl_eq]
  by_cases w : q < s
  · rw [if_neg (by omega)]
    have e1 : oq_add (p : Int) 1 = (p : Int) + 1 := oq_add_eq (by omega) (by omega) (by omega)
    have e2 : oq_sub (oq_sub (q : Int) (p : Int)) 1 = (q : Int) - (p : Int) - 1 := by
      rw [oq_sub_eq (x := (q : Int)) (by omega) (by omega) (by omega), oq_sub_eq (by omega) (by omega) (by omega)]
    have e3 : oq_sub (oq_add (q : Int) 1) (a : Int) = (q : Int) + 1 - (a : Int) := by
      rw [oq_add_eq (by omega) (by omega) (by omega), oq_sub_eq (by omega) (by omega) (by omega)]
    rw [e1, e2, e3, mname_ok hn hc ht (by omega) (by omega), mx_svs]
    have e4 : ((p : Int) + 1).toNat = p + 1 := by omega
    have e5 : ((q : Int) - (p : Int) - 1).toNat = q - (p + 1) := by omega
    rw [e4, e5]
    cases hz : nm_N (fun i => M c (p + 1 + i)) (q - (p + 1)) with
    | true => simp [bi_N, w]
    | false => simp [bi_N]
  · rw [if_pos (by omega), if_neg (by omega)]
theorem kb_72 {nn : Nat} {M : ms_M} {c : Nat} (hc : c < cn_M M) (ht : ly_T c = 0) {a p s : Nat} (hs : (s : Int) ≤ ln_I M c) (hs2 : s ≤ 100000) : ∀ (k m q : Nat), q + m = s → m < k → qw_X13_kindBytes_72 nn k c (a : Int) (s : Int) (p : Int) (q : Int) M = qj_X13_kindBytes_93 nn c (a : Int) (s : Int) (p : Int) ((fi_N (M c) 59 q m : Nat) : Int) M := by
  intro k
  induction k with
  | zero => intro m q _ h2; omega
  | succ k ih =>
    intro m q h1 h2
    cases m with
    | zero =>
      unfold qw_X13_kindBytes_72 fi_N
      rw [if_pos (by omega)]
    | succ m =>
      unfold qw_X13_kindBytes_72 fi_N rd_S
      rw [if_neg (by omega), if_pos ⟨⟨hc, ht⟩, by omega, by omega⟩]
      dsimp only
      have e : ((q : Nat) : Int).toNat = q := by omega
      rw [e]
      by_cases w : M c q = 59
      · rw [if_pos w, if_pos w]
      · rw [if_neg w, if_neg w, xl_eq, oq_add_eq (by omega) (by omega) (by omega)]
        exact ih m (q + 1) (by omega) (by omega)
theorem kb_33 {nn : Nat} (hn : 100020 ≤ nn) {M : ms_M} {c : Nat} (hc : c < cn_M M) (ht : ly_T c = 0) {a p s : Nat} (hs : (s : Int) ≤ ln_I M c) (hs2 : s ≤ 100000) (hp : p ≤ s) (ha : a ≤ p) : qj_X13_kindBytes_33 nn c (a : Int) (s : Int) (p : Int) M = some (op_L (kp_N (M c) p s) a) := by
  unfold qj_X13_kindBytes_33 qj_X13_kindBytes_52 kp_N kn_N
  by_cases w : p < s
  · unfold rd_S
    have e : ((p : Nat) : Int).toNat = p := by omega
    have hr : (c < cn_M M ∧ ly_T c = 0) ∧ 0 ≤ (p : Int) ∧ (p : Int) < ln_I M c := ⟨⟨hc, ht⟩, by omega, by omega⟩
    have hle : ¬ ((s : Int) ≤ (p : Int)) := by omega
    simp only [if_neg hle, if_pos hr]
    rw [e]
    simp only [xl_eq]
    have e1 : oq_add (p : Int) 1 = (p : Int) + 1 := oq_add_eq (by omega) (by omega) (by omega)
    rw [e1]
    by_cases w1 : M c p = 73
    · simp (disch := omega) only [if_pos, if_neg, oq_sub_eq]; rfl
    · by_cases w2 : M c p = 76
      · have r := fi_rg (f := M c) (x := 59) (s - (p + 1)) (p + 1)
        have z := kb_72 (nn := nn) hc ht (a := a) (p := p) hs hs2 nn (s - (p + 1)) (p + 1) (by omega) (by omega)
        have e2 : ((p + 1 : Nat) : Int) = (p : Int) + 1 := by omega
        rw [e2] at z
        rw [kb_93 (by omega) hc ht hs hs2 (by omega) (by omega) ha] at z
        by_cases w3 : fi_N (M c) 59 (p + 1) (s - (p + 1)) < s ∧ nm_N (fun i => M c (p + 1 + i)) (fi_N (M c) 59 (p + 1) (s - (p + 1)) - (p + 1)) = true
        · rw [if_pos w3] at z
          simp only [if_pos w3]
          simp (disch := omega) only [if_pos, if_neg, z]; rfl
        · rw [if_neg w3] at z
          simp only [if_neg w3]
          simp (disch := omega) only [if_pos, if_neg, z]; rfl
      · simp (disch := omega) only [if_pos, if_neg]; rfl
  · simp (disch := omega) only [if_pos, if_neg]; rfl
theorem kindBytes_ok {nn : Nat} (hn : 100020 ≤ nn) {M : ms_M} {c : Nat} (hc : c < cn_M M) (ht : ly_T c = 0) {a s : Nat} (hs : (s : Int) ≤ ln_I M c) (hs2 : s ≤ 100000) (ha : a ≤ s) : qf_X13_kindBytes nn c (a : Int) (s : Int) M = some (op_L (kd_N (M c) a s) a) := by
  unfold qf_X13_kindBytes qj_X13_kindBytes_17 kd_N
  by_cases w : a < s
  · unfold rd_S
    have e : ((a : Nat) : Int).toNat = a := by omega
    have e1 : oq_add (a : Int) 1 = ((a + 1 : Nat) : Int) := by rw [oq_add_eq (by omega) (by omega) (by omega)]; omega
    have hr : (c < cn_M M ∧ ly_T c = 0) ∧ 0 ≤ (a : Int) ∧ (a : Int) < ln_I M c := ⟨⟨hc, ht⟩, by omega, by omega⟩
    have hle : ¬ ((s : Int) ≤ (a : Int)) := by omega
    simp only [if_neg hle, if_pos hr]
    rw [e]
    simp only [xl_eq]
    rw [e1]
    by_cases w2 : M c a = 90
    · have : (1 : Int) = ((a + 1 : Nat) : Int) - (a : Int) := by omega
      simp (disch := omega) only [if_pos, if_neg]
      show some (1 : Int) = some (((a + 1 : Nat) : Int) - (a : Int))
      rw [this]
    by_cases w3 : M c a = 91
    · simp (disch := omega) only [if_pos, if_neg]
      exact kb_33 hn hc ht hs hs2 (by omega) (by omega)
    by_cases w1 : M c a = 73
    · simp (disch := omega) only [if_pos, if_neg]
      rw [kb_33 hn hc ht hs hs2 (by omega) (by omega)]
      unfold kp_N; rw [if_pos ⟨w, w1⟩]
    · simp (disch := omega) only [if_pos, if_neg]
      exact kb_33 hn hc ht hs hs2 (by omega) (by omega)
  · simp (disch := omega) only [if_pos, if_neg]
    exact kb_33 hn hc ht hs hs2 (by omega) (by omega)
end
section
/-- KINDS of methods: how many parameters, and where the bracket closes -/
def pl_N (f : Nat → Int) : Nat → Nat → Nat → Option (Nat × Nat)
  | 0, _, _ => none
  | k + 1, p, s => if p < s ∧ f p ≠ 41 then (match kd_N f p s with
    | some e => (pl_N f k e s).map (fun q => (q.1 + 1, q.2))
    | none => none) else some (0, p)
def pe_N (f : Nat → Int) (p s : Nat) : Bool := decide (p < s) && ((decide (p + 2 = s) && decide (f (p + 1) = 86)) || decide (kd_N f (p + 1) s = some s))
def pi_N (f : Nat → Int) (a s : Nat) : Option Nat := if a < s ∧ f a = 40 then (match pl_N f (s + 1) (a + 1) s with
    | some q => if pe_N f q.2 s = true then some q.1 else none
    | none => none) else none
theorem kp_rg {f : Nat → Int} {p s e : Nat} (h : kp_N f p s = some e) : p < e ∧ e ≤ s := by
  unfold kp_N kn_N at h
  have r := fi_rg (f := f) (x := 59) (s - (p + 1)) (p + 1)
  split at h
  · cases h; omega
  · split at h
    · split at h
      · cases h; omega
      · cases h
    · cases h
theorem kd_rg {f : Nat → Int} {a s e : Nat} (h : kd_N f a s = some e) : a < e ∧ e ≤ s := by
  unfold kd_N at h
  split at h
  · cases h; omega
  · split at h
    · have := kp_rg h; omega
    · exact kp_rg h
theorem isField_M {nn : Nat} (hn : 100020 ≤ nn) {M : ms_M} {c : Nat} (hc : c < cn_M M) (ht : ly_T c = 0) {a m : Nat} (hs : ((a + m : Nat) : Int) ≤ ln_I M c) (hs2 : a + m ≤ 100000) : qf_X13_isFieldKind nn c (a : Int) (m : Int) M = some (bi_N (decide (kd_N (M c) a (a + m) = some (a + m)))) := by
  unfold qf_X13_isFieldKind
  by_cases w : m = 0
  · subst w
    rw [if_pos (by omega), decide_eq_false (fun z => by have := kd_rg z; omega)]; rfl
  · rw [if_neg (by omega), xl_eq, oq_add_eq (by omega) (by omega) (by omega)]
    have e : (a : Int) + (m : Int) = ((a + m : Nat) : Int) := by omega
    rw [e, kindBytes_ok hn hc ht hs hs2 (by omega), mx_svs]
    cases hk : kd_N (M c) a (a + m) with
    | none =>
      rw [decide_eq_false (by simp)]
      show (if ¬ (0 : Int) = (m : Int) then some 0 else some 1) = some 0
      rw [if_pos (by omega)]
    | some z =>
      show (if ¬ ((z : Int) - (a : Int)) = (m : Int) then some (0 : Int) else some 1) = _
      by_cases w2 : z = a + m
      · rw [if_neg (by omega), w2, decide_eq_true rfl]; rfl
      · rw [if_pos (by omega), decide_eq_false (by intro q; cases q; exact w2 rfl)]; rfl
theorem pm_71 {nn : Nat} (hn : 100020 ≤ nn) {M : ms_M} {c : Nat} (hc : c < cn_M M) (ht : ly_T c = 0) {p s : Nat} {cnt : Int} (hs : (s : Int) ≤ ln_I M c) (hs2 : s ≤ 100000) (hp : p ≤ s) : qj_X13_parametersIn_71 nn c (s : Int) (p : Int) cnt M = some (if pe_N (M c) p s = true then cnt else -1) := by
  unfold qj_X13_parametersIn_71 qj_X13_parametersIn_99 qj_X13_parametersIn_112 qj_X13_parametersIn_117 pe_N
  by_cases w : p < s
  · have e1 : oq_add (p : Int) 1 = ((p + 1 : Nat) : Int) := by rw [oq_add_eq (by omega) (by omega) (by omega)]; omega
    have e2 : oq_add ((p + 1 : Nat) : Int) 1 = ((p + 2 : Nat) : Int) := by rw [oq_add_eq (by omega) (by omega) (by omega)]; omega
    have e3 : oq_sub (s : Int) ((p + 1 : Nat) : Int) = ((s - (p + 1) : Nat) : Int) := by rw [oq_sub_eq (by omega) (by omega) (by omega)]; omega
    have hf := isField_M hn hc ht (a := p + 1) (m := s - (p + 1)) (by omega) (by omega)
    have e4 : p + 1 + (s - (p + 1)) = s := by omega
    rw [e4] at hf
    rw [if_pos (show (p : Int) < (s : Int) by omega)]
    simp only [xl_eq]
    rw [e1, e2, e3, hf, mx_svs, decide_eq_true w]
    by_cases w2 : p + 2 = s
    · rw [if_neg (show ¬ ¬ ((p + 2 : Nat) : Int) = (s : Int) by omega), decide_eq_true w2]
      unfold rd_S
      rw [if_pos ⟨⟨hc, ht⟩, by omega, by omega⟩]
      have e5 : ((p + 1 : Nat) : Int).toNat = p + 1 := by omega
      rw [e5]
      try dsimp only
      by_cases w3 : M c (p + 1) = 86
      · rw [if_pos w3, decide_eq_true w3]; simp
      · rw [if_neg w3, decide_eq_false w3]
        cases decide (kd_N (M c) (p + 1) s = some s) <;> simp [bi_N]
    · rw [if_pos (show ¬ ((p + 2 : Nat) : Int) = (s : Int) by omega), decide_eq_false w2]
      cases decide (kd_N (M c) (p + 1) s = some s) <;> simp [bi_N]
  · rw [if_neg (show ¬ (p : Int) < (s : Int) by omega), decide_eq_false w]; simp
theorem pm_27 {nn : Nat} (hn : 100020 ≤ nn) {M : ms_M} {c : Nat} (hc : c < cn_M M) (ht : ly_T c = 0) {s : Nat} (hs : (s : Int) ≤ ln_I M c) (hs2 : s ≤ 100000) : ∀ (kf k p cnt : Nat), p ≤ s → s - p < kf → kf < k → cnt + (s - p) ≤ 200000 → qw_X13_parametersIn_27 nn k c (s : Int) (p : Int) (cnt : Int) M = some (match pl_N (M c) kf p s with
    | some q => if pe_N (M c) q.2 s = true then (cnt : Int) + (q.1 : Int) else -1
    | none => -1) := by
  intro kf
  induction kf with
  | zero => intro k p cnt _ h2; omega
  | succ kf ih =>
    intro k p cnt h1 h2 h3 h4
    obtain ⟨k, rfl⟩ : ∃ k2, k = k2 + 1 := ⟨k - 1, by omega⟩
    have last : qj_X13_parametersIn_71 nn c (s : Int) (p : Int) (cnt : Int) M = some (if pe_N (M c) p s = true then (cnt : Int) + ((0 : Nat) : Int) else -1) := by
      rw [pm_71 hn hc ht hs hs2 h1]; simp
    unfold qw_X13_parametersIn_27 pl_N
    by_cases w : p < s
    · rw [if_neg (show ¬ (s : Int) ≤ (p : Int) by omega)]
      unfold rd_S
      rw [if_pos ⟨⟨hc, ht⟩, by omega, by omega⟩]
      have e : ((p : Nat) : Int).toNat = p := by omega
      rw [e]
      dsimp only
      by_cases w2 : M c p = 41
      · rw [if_pos w2, if_neg (show ¬ (p < s ∧ M c p ≠ 41) from fun z => z.2 w2)]; exact last
      · rw [if_neg w2, if_pos (show p < s ∧ M c p ≠ 41 from ⟨w, w2⟩), kindBytes_ok hn hc ht hs hs2 h1, mx_svs]
        cases hk : kd_N (M c) p s with
        | none => rfl
        | some z =>
          have r := kd_rg hk
          show (if ¬ ((z : Int) - (p : Int)) = 0 then _ else _) = _
          rw [if_pos (by omega)]
          simp only [xl_eq]
          have e1 : oq_add (p : Int) ((z : Int) - (p : Int)) = (z : Int) := by rw [oq_add_eq (by omega) (by omega) (by omega)]; omega
          have e2 : oq_add (cnt : Int) 1 = ((cnt + 1 : Nat) : Int) := by rw [oq_add_eq (by omega) (by omega) (by omega)]; omega
          show qw_X13_parametersIn_27 nn k c (s : Int) (oq_add (p : Int) ((z : Int) - (p : Int))) (oq_add (cnt : Int) 1) M = _
          rw [e1, e2, ih k z (cnt + 1) (by omega) (by omega) (by omega) (by omega)]
          cases pl_N (M c) kf z s with
          | none => rfl
          | some q =>
            show some (if pe_N (M c) q.2 s = true then ((cnt + 1 : Nat) : Int) + (q.1 : Int) else -1) = some (if pe_N (M c) q.2 s = true then (cnt : Int) + ((q.1 + 1 : Nat) : Int) else -1)
            have e3 : ((cnt + 1 : Nat) : Int) + (q.1 : Int) = (cnt : Int) + ((q.1 + 1 : Nat) : Int) := by omega
            rw [e3]
    · rw [if_pos (show (s : Int) ≤ (p : Int) by omega), if_neg (show ¬ (p < s ∧ M c p ≠ 41) from fun z => w z.1)]; exact last
/-- the reference's parametersIn -/
theorem params_M {nn : Nat} (hn : 200020 ≤ nn) {M : ms_M} {c : Nat} (hc : c < cn_M M) (ht : ly_T c = 0) {a m : Nat} (hs : ((a + m : Nat) : Int) ≤ ln_I M c) (hs2 : a + m ≤ 100000) : qf_X13_parametersIn nn c (a : Int) (m : Int) M = some (op_E (pi_N (M c) a (a + m))) := by
  unfold qf_X13_parametersIn
  have e : oq_add (a : Int) (m : Int) = ((a + m : Nat) : Int) := by rw [oq_add_eq (by omega) (by omega) (by omega)]; omega
  rw [xl_eq, e]
  have hloop : a < a + m → M c a = 40 → qw_X13_parametersIn_27 nn nn c ((a + m : Nat) : Int) ((a + 1 : Nat) : Int) 0 M = some (op_E (pi_N (M c) a (a + m))) := by
    intro h1 h2
    have z := pm_27 (nn := nn) (by omega) hc ht hs hs2 (a + m + 1) nn (a + 1) 0 (by omega) (by omega) (by omega) (by omega)
    rw [show (0 : Int) = ((0 : Nat) : Int) from rfl, z]
    unfold pi_N
    rw [if_pos ⟨h1, h2⟩]
    cases pl_N (M c) (a + m + 1) (a + 1) (a + m) with
    | none => rfl
    | some q =>
      show some (if pe_N (M c) q.2 (a + m) = true then ((0 : Nat) : Int) + (q.1 : Int) else -1) = some (op_E (if pe_N (M c) q.2 (a + m) = true then some q.1 else none))
      by_cases w : pe_N (M c) q.2 (a + m) = true
      · rw [if_pos w, if_pos w]
        show some (((0 : Nat) : Int) + (q.1 : Int)) = some (q.1 : Int)
        congr 1; omega
      · rw [if_neg w, if_neg w]; rfl
  unfold rd_S
  have e1 : ((a : Nat) : Int).toNat = a := by omega
  have e2 : oq_add (a : Int) 1 = ((a + 1 : Nat) : Int) := by rw [oq_add_eq (by omega) (by omega) (by omega)]; omega
  by_cases w : m < 3
  · rw [if_pos (show (m : Int) < 3 by omega)]
    -- too short: no such kind
    by_cases w0 : a < a + m ∧ M c a = 40
    · unfold pi_N
      rw [if_pos w0]
      cases hq : pl_N (M c) (a + m + 1) (a + 1) (a + m) with
      | none => rfl
      | some q =>
        have hr : a + 1 ≤ q.2 := by
          have key : ∀ (k p : Nat) (z : Nat × Nat), pl_N (M c) k p (a + m) = some z → p ≤ z.2 := by
            intro k
            induction k with
            | zero => intro p z hz; cases hz
            | succ k ih =>
              intro p z hz
              unfold pl_N at hz
              split at hz
              · split at hz
                · rename_i e9 he9
                  cases hp9 : pl_N (M c) k e9 (a + m) with
                  | none => rw [hp9] at hz; cases hz
                  | some y =>
                    rw [hp9] at hz; cases hz
                    have h8 := ih e9 y hp9
                    have h7 := kd_rg he9
                    show p ≤ y.2
                    omega
                · cases hz
              · cases hz; exact Nat.le_refl _
          exact key _ _ _ hq
        have : pe_N (M c) q.2 (a + m) = false := by
          unfold pe_N
          by_cases w1 : q.2 < a + m
          · rw [decide_eq_true w1, decide_eq_false (show ¬ q.2 + 2 = a + m by omega), decide_eq_false (show ¬ kd_N (M c) (q.2 + 1) (a + m) = some (a + m) from fun z => by have := kd_rg z; omega)]; rfl
          · rw [decide_eq_false w1]; rfl
        show _ = some (op_E (if pe_N (M c) q.2 (a + m) = true then some q.1 else none))
        rw [this]; rfl
    · unfold pi_N; rw [if_neg w0]; rfl
  · rw [if_neg (show ¬ (m : Int) < 3 by omega), if_pos ⟨⟨hc, ht⟩, by omega, by omega⟩]
    try dsimp only
    rw [e1, xl_eq, e2]
    by_cases w2 : M c a = 40
    · rw [if_pos w2]; exact hloop (by omega) w2
    · rw [if_neg w2]; unfold pi_N; rw [if_neg (fun z => w2 z.2)]; rfl
end
section
/-- the class's parametersIn -/
theorem pc_85 {nn : Nat} (hn : 6020 ≤ nn) {M : ms_M} {b : Nat} {B : Nat → Int} {n : Nat} (h : sr_I M b B n) {p s cnt : Nat} (hs : s ≤ n) (hp : p ≤ s) (hc : cnt ≤ 7) : qj_X3_parametersIn_85 nn b (s : Int) (p : Int) (cnt : Int) M = some (if pe_N B p s = true ∧ cnt ≤ 6 then (cnt : Int) else -1) := by
  have hn6 := h.2.1
  unfold qj_X3_parametersIn_85 qj_X3_parametersIn_127 qj_X3_parametersIn_128 pe_N
  rw [if_neg (show ¬ (p : Int) = -1 by omega)]
  by_cases w : p < s
  · rw [if_neg (show ¬ (s : Int) ≤ (p : Int) by omega), decide_eq_true w]
    by_cases w7 : cnt ≤ 6
    · rw [if_pos (show (cnt : Int) ≤ 6 by omega)]
      simp only [xl_eq]
      have e1 : oq_add (p : Int) 1 = ((p + 1 : Nat) : Int) := by rw [oq_add_eq (by omega) (by omega) (by omega)]; omega
      have e2 : oq_add (p : Int) 2 = ((p + 2 : Nat) : Int) := by rw [oq_add_eq (by omega) (by omega) (by omega)]; omega
      rw [e1, e2, behindKind_ok hn h (by omega) hs, mx_svs]
      have hk : (¬ op_E (kd_N B (p + 1) s) = (s : Int)) ↔ ¬ kd_N B (p + 1) s = some s := by
        cases kd_N B (p + 1) s with
        | none =>
          show (¬ (-1 : Int) = (s : Int)) ↔ _
          constructor
          · intro _; simp
          · intro _; omega
        | some z =>
          show (¬ (z : Int) = (s : Int)) ↔ _
          constructor
          · intro q r; cases r; exact q rfl
          · intro q r; exact q (by have : z = s := by omega
                                   rw [this])
      have tail : (if ¬ op_E (kd_N B (p + 1) s) = (s : Int) then some (-1 : Int) else some (cnt : Int)) = some (if decide (kd_N B (p + 1) s = some s) = true then (cnt : Int) else -1) := by
        by_cases q : kd_N B (p + 1) s = some s
        · rw [if_neg (fun r => hk.mp r q), decide_eq_true q, if_pos rfl]
        · rw [if_pos (hk.mpr q), decide_eq_false q, if_neg (by decide)]
      by_cases w2 : p + 2 = s
      · rw [if_neg (show ¬ ¬ ((p + 2 : Nat) : Int) = (s : Int) by omega), byteAt_in h (by omega), mx_svs, decide_eq_true w2]
        by_cases w3 : B (p + 1) = 86
        · rw [if_neg (fun z => z w3), decide_eq_true w3]; simp [w7]
        · rw [if_pos w3, decide_eq_false w3, if_neg (show ¬ ¬ True from fun z => z trivial), tail]
          cases decide (kd_N B (p + 1) s = some s) <;> simp [w7]
      · rw [if_pos (show ¬ ((p + 2 : Nat) : Int) = (s : Int) by omega), decide_eq_false w2, if_neg (show ¬ ¬ True from fun z => z trivial), tail]
        cases decide (kd_N B (p + 1) s = some s) <;> simp [w7]
    · rw [if_neg (show ¬ (cnt : Int) ≤ 6 by omega), if_neg (fun z => w7 z.2)]
  · rw [if_pos (show (s : Int) ≤ (p : Int) by omega), decide_eq_false w]; simp
theorem pc_out {nn k : Nat} {M : ms_M} {b : Nat} {s cnt : Int} : qw_X3_parametersIn_45 nn (k + 1) b s (-1) cnt M = some (-1) := by
  unfold qw_X3_parametersIn_45 qj_X3_parametersIn_85
  by_cases w : 6 < cnt
  · rw [if_pos w, if_pos rfl]
  · rw [if_neg w, if_pos rfl, if_pos rfl]
theorem pc_45 {nn : Nat} (hn : 6020 ≤ nn) {M : ms_M} {b : Nat} {B : Nat → Int} {n : Nat} (h : sr_I M b B n) {s : Nat} (hs : s ≤ n) : ∀ (kf k p cnt : Nat), p ≤ s → s - p < kf → kf + 1 < k → cnt ≤ 7 → qw_X3_parametersIn_45 nn k b (s : Int) (p : Int) (cnt : Int) M = some (match pl_N B kf p s with
    | some q => if pe_N B q.2 s = true ∧ cnt + q.1 ≤ 6 then ((cnt + q.1 : Nat) : Int) else -1
    | none => -1) := by
  intro kf
  induction kf with
  | zero => intro k p cnt _ h2; omega
  | succ kf ih =>
    intro k p cnt h1 h2 h3 h4
    obtain ⟨k, rfl⟩ : ∃ k2, k = k2 + 1 := ⟨k - 1, by omega⟩
    have last := pc_85 hn h hs h1 h4
    unfold qw_X3_parametersIn_45
    by_cases w7 : 6 < cnt
    · rw [if_pos (show (6 : Int) < (cnt : Int) by omega), last, if_neg (fun z => by omega)]
      cases pl_N B (kf + 1) p s with
      | none => rfl
      | some q =>
        show some (-1 : Int) = some (if pe_N B q.2 s = true ∧ cnt + q.1 ≤ 6 then ((cnt + q.1 : Nat) : Int) else -1)
        rw [if_neg (fun z => by omega)]
    · rw [if_neg (show ¬ (6 : Int) < (cnt : Int) by omega), if_neg (show ¬ (p : Int) = -1 by omega)]
      unfold pl_N
      by_cases w : p < s
      · rw [if_neg (show ¬ (s : Int) ≤ (p : Int) by omega), byteAt_in h (by omega), mx_svs]
        by_cases w2 : B p = 41
        · rw [if_pos w2, if_neg (show ¬ (p < s ∧ B p ≠ 41) from fun z => z.2 w2)]; exact last
        · rw [if_neg w2, if_pos (show p < s ∧ B p ≠ 41 from ⟨w, w2⟩), behindKind_ok hn h h1 hs, mx_svs, xl_eq]
          have e2 : oq_add (cnt : Int) 1 = ((cnt + 1 : Nat) : Int) := by rw [oq_add_eq (by omega) (by omega) (by omega)]; omega
          rw [e2]
          cases hk : kd_N B p s with
          | none =>
            obtain ⟨k, rfl⟩ : ∃ k2, k = k2 + 1 := ⟨k - 1, by omega⟩
            exact pc_out
          | some z =>
            have r := kd_rg hk
            show qw_X3_parametersIn_45 nn k b (s : Int) (z : Int) ((cnt + 1 : Nat) : Int) M = _
            rw [ih k z (cnt + 1) (by omega) (by omega) (by omega) (by omega)]
            dsimp only
            cases pl_N B kf z s with
            | none => rfl
            | some q =>
              show some (if pe_N B q.2 s = true ∧ cnt + 1 + q.1 ≤ 6 then ((cnt + 1 + q.1 : Nat) : Int) else -1) = some (if pe_N B q.2 s = true ∧ cnt + (q.1 + 1) ≤ 6 then ((cnt + (q.1 + 1) : Nat) : Int) else -1)
              have e3 : cnt + 1 + q.1 = cnt + (q.1 + 1) := by omega
              rw [e3]
      · rw [if_pos (show (s : Int) ≤ (p : Int) by omega), if_neg (show ¬ (p < s ∧ B p ≠ 41) from fun z => w z.1)]; exact last
/-- six parameters at most -/
def up_6 (o : Option Nat) : Option Nat := match o with
  | some c => if c ≤ 6 then some c else none
  | none => none
theorem params_X {nn : Nat} (hn : 6020 ≤ nn) {M : ms_M} {b : Nat} {B : Nat → Int} {n : Nat} (h : sr_I M b B n) {k : Int} (hc : M b 7 ≤ 255) {a s : Nat} (hk : 1 ≤ k ∧ k ≤ M b 7) (htag : M (b + 2) k.toNat = 1) (hat : M (b + 3) k.toNat = (a : Int)) (hst : M (b + 4) k.toNat = (s : Int)) (ha : a < s) (hs : s ≤ n) : qf_X3_parametersIn nn b k M = some (op_E (up_6 (pi_N B a s))) := by
  have hn6 := h.2.1
  unfold qf_X3_parametersIn
  rw [tagOf_ok hc, mx_svs, if_pos hk, if_neg (fun z => z htag), rd_ok (by omega), hat, byteAt_in h (by omega), mx_svs]
  unfold pi_N
  by_cases w : B a = 40
  · rw [if_pos w, if_pos ⟨ha, w⟩, rd_ok (by omega), hst, rd_ok (by omega), hat, xl_eq]
    have e2 : oq_add (a : Int) 1 = ((a + 1 : Nat) : Int) := by rw [oq_add_eq (by omega) (by omega) (by omega)]; omega
    have z := pc_45 hn h hs (s + 1) nn (a + 1) 0 (by omega) (by omega) (by omega) (by omega)
    rw [e2, show (0 : Int) = ((0 : Nat) : Int) from rfl, z]
    cases pl_N B (s + 1) (a + 1) s with
    | none => rfl
    | some q =>
      show some (if pe_N B q.2 s = true ∧ 0 + q.1 ≤ 6 then ((0 + q.1 : Nat) : Int) else -1) = some (op_E (up_6 (if pe_N B q.2 s = true then some q.1 else none)))
      have e3 : 0 + q.1 = q.1 := by omega
      rw [e3]
      by_cases w2 : pe_N B q.2 s = true
      · rw [if_pos w2]
        by_cases w3 : q.1 ≤ 6
        · rw [if_pos ⟨w2, w3⟩]
          show _ = some (op_E (if q.1 ≤ 6 then some q.1 else none))
          rw [if_pos w3]; rfl
        · rw [if_neg (fun z => w3 z.2)]
          show _ = some (op_E (if q.1 ≤ 6 then some q.1 else none))
          rw [if_neg w3]; rfl
      · rw [if_neg w2, if_neg (fun z => w2 z.1)]; rfl
  · rw [if_neg w, if_neg (fun z => w z.2)]; rfl
end
section
/-- constant k of the Image at b is a TEXT from a to s -/
def tx_I (M : ms_M) (b : Nat) (k : Int) (a s : Nat) : Prop := (1 ≤ k ∧ k ≤ M b 7 ∧ M b 7 ≤ 255) ∧ M (b + 2) k.toNat = 1 ∧ M (b + 3) k.toNat = (a : Int) ∧ M (b + 4) k.toNat = (s : Int)
theorem tagOf_in {nn : Nat} {M : ms_M} {b : Nat} {k : Int} (h : 1 ≤ k ∧ k ≤ M b 7 ∧ M b 7 ≤ 255) : qf_X3_tagOf nn b k M = some (M (b + 2) k.toNat) := by
  rw [tagOf_ok h.2.2, if_pos ⟨h.1, h.2.1⟩]
theorem nameText_ok {nn : Nat} (hn : 20 ≤ nn) {M : ms_M} {b : Nat} {B : Nat → Int} {n : Nat} (h : sr_I M b B n) {k : Int} {a s : Nat} (t : tx_I M b k a s) (ha : a < s) (hs : s ≤ n) : qf_X3_isNameText nn b k M = some (bi_N (nm_N (fun i => B (a + i)) (s - a))) := by
  obtain ⟨t1, t2, t3, t4⟩ := t
  have hn6 := h.2.1
  obtain ⟨h1, h2, h3, h4, h5, h6, h7, h8⟩ := h
  unfold qf_X3_isNameText ck_B
  rw [tagOf_in t1, mx_svs, if_neg (fun z => z t2), if_pos h4, rd_ok (by omega), rd_ok (by omega), t3, t4, cname_ok hn h5 h6 (by omega) (by omega), mx_svs]
  have e2 : ((s : Int) - (a : Int)).toNat = s - a := by omega
  have e3 : ((a : Nat) : Int).toNat = a := by omega
  rw [e2, e3, decide_eq_true (show 0 ≤ (a : Int) ∧ (a : Int) < (s : Int) ∧ (s : Int) ≤ ln_I M (M b 0).toNat by omega)]
  have e1 : nm_N (fun i => M (M b 0).toNat (a + i)) (s - a) = nm_N (fun i => B (a + i)) (s - a) := nm_mask (fun i hi => h8 (a + i) (by omega))
  rw [e1]
  cases nm_N (fun i => B (a + i)) (s - a) <;> simp [bi_N]
theorem fieldKind_ok {nn : Nat} (hn : 6020 ≤ nn) {M : ms_M} {b : Nat} {B : Nat → Int} {n : Nat} (h : sr_I M b B n) {k : Int} {a s : Nat} (t : tx_I M b k a s) (ha : a < s) (hs : s ≤ n) : qf_X3_isFieldKind nn b k M = some (bi_N (decide (kd_N B a s = some s))) := by
  obtain ⟨t1, t2, t3, t4⟩ := t
  unfold qf_X3_isFieldKind
  rw [tagOf_in t1, mx_svs, if_neg (fun z => z t2), rd_ok (by omega), rd_ok (by omega), t3, t4, behindKind_ok hn h (by omega) hs, mx_svs, rd_ok (by omega), t4]
  cases hk : kd_N B a s with
  | none =>
    rw [decide_eq_false (by simp)]
    show (if ¬ (-1 : Int) = (s : Int) then some (0 : Int) else some 1) = some 0
    rw [if_pos (by omega)]
  | some z =>
    show (if ¬ (z : Int) = (s : Int) then some (0 : Int) else some 1) = _
    by_cases w : z = s
    · rw [if_neg (by omega), w, decide_eq_true rfl]; rfl
    · rw [if_pos (by omega), decide_eq_false (by intro q; cases q; exact w rfl)]; rfl
theorem arrayText_ok {nn : Nat} {M : ms_M} {b : Nat} {B : Nat → Int} {n : Nat} (h : sr_I M b B n) {k : Int} {a s : Nat} (t : tx_I M b k a s) (ha : a < s) (hs : s ≤ n) : qf_X3_isArrayText nn b k M = some (bi_N (decide (B a = 91))) := by
  obtain ⟨t1, t2, t3, t4⟩ := t
  unfold qf_X3_isArrayText
  rw [tagOf_in t1, mx_svs, if_neg (fun z => z t2), rd_ok (by omega), t3, byteAt_in h (by omega), mx_svs]
  by_cases w : B a = 91
  · rw [if_neg (fun z => z w), decide_eq_true w]; rfl
  · rw [if_pos w, decide_eq_false w]; rfl
/-- what is no TEXT has none of these -/
theorem noText {nn : Nat} {M : ms_M} {b : Nat} {k : Int} (hc : M b 7 ≤ 255) (hno : ¬ (1 ≤ k ∧ k ≤ M b 7 ∧ M (b + 2) k.toNat = 1)) : qf_X3_isNameText nn b k M = some 0 ∧ qf_X3_isFieldKind nn b k M = some 0 ∧ qf_X3_isArrayText nn b k M = some 0 ∧ qf_X3_parametersIn nn b k M = some (-1) := by
  have hz : ¬ (if 1 ≤ k ∧ k ≤ M b 7 then M (b + 2) k.toNat else 0) = 1 := by
    by_cases w : 1 ≤ k ∧ k ≤ M b 7
    · rw [if_pos w]; exact fun z => hno ⟨w.1, w.2, z⟩
    · rw [if_neg w]; decide
  refine ⟨?_, ?_, ?_, ?_⟩
  · unfold qf_X3_isNameText; rw [tagOf_ok hc, mx_svs, if_pos hz]
  · unfold qf_X3_isFieldKind; rw [tagOf_ok hc, mx_svs, if_pos hz]
  · unfold qf_X3_isArrayText; rw [tagOf_ok hc, mx_svs, if_pos hz]
  · unfold qf_X3_parametersIn; rw [tagOf_ok hc, mx_svs, if_pos hz]
end
section
/-- the reference: constant k of what is looked at begins at byte p -/
def at_M (M : ms_M) (k : Int) (p : Nat) : Prop := (0 ≤ M 160 115 ∧ M 160 115 ≤ 7) ∧ (1 ≤ k ∧ k ≤ M 229 (M 160 115).toNat ∧ M 229 (M 160 115).toNat ≤ 255) ∧ M 228 (256 * M 160 115 + k).toNat = (p : Int)
theorem constantOf_in {nn : Nat} {M : ms_M} {k : Int} {p : Nat} (h : at_M M k p) : qf_X13_constantOf nn (M 160 115) k M = some (p : Int) := by
  obtain ⟨h1, h2, h3⟩ := h
  unfold qf_X13_constantOf
  simp (disch := omega) only [if_neg, rd_ok, xl_eq, oq_mul_eq, oq_add_eq, h3]
theorem constantOf_out {nn : Nat} {M : ms_M} {k : Int} (h1 : 0 ≤ M 160 115 ∧ M 160 115 ≤ 7) (h2 : ¬ (1 ≤ k ∧ k ≤ M 229 (M 160 115).toNat)) : qf_X13_constantOf nn (M 160 115) k M = some (-1) := by
  unfold qf_X13_constantOf
  by_cases w : k < 1
  · rw [if_pos w]
  · simp (disch := omega) only [if_pos, if_neg, rd_ok]
/-- .. and is a TEXT from a to s -/
def tx_M (M : ms_M) (k : Int) (a s : Nat) : Prop := ∃ p, at_M M k p ∧ a = p + 2 ∧ s ≤ 6000 ∧ a < s ∧ M 238 p = 1 ∧ M 238 (p + 1) = (s : Int) - (a : Int)
theorem T_238 : ly_T 238 = 0 := rfl
theorem l_238 {M : ms_M} : ln_I M 238 = 6000 := rfl
theorem b2_ck {x : Bool} : ck_B (bi_N x = 0 ∨ bi_N x = 1) (some (bi_N x)) = some (bi_N x) := by cases x <;> rfl
theorem methodKind_M {nn : Nat} (hn : 200020 ≤ nn) {M : ms_M} (hc : 238 < cn_M M) {a m : Nat} (hs : a + m ≤ 6000) : qf_X13_isMethodKind nn (a : Int) (m : Int) M = some (bi_N (up_6 (pi_N (M 238) a (a + m))).isSome) := by
  unfold qf_X13_isMethodKind
  rw [params_M hn hc T_238 (by rw [l_238]; omega) (by omega), mx_svs]
  cases pi_N (M 238) a (a + m) with
  | none => rfl
  | some z =>
    show (if (z : Int) < 0 then some (0 : Int) else if (6 : Int) < (z : Int) then some 0 else some 1) = some (bi_N (if z ≤ 6 then some z else none).isSome)
    rw [if_neg (show ¬ (z : Int) < 0 by omega)]
    by_cases w : z ≤ 6
    · rw [if_neg (show ¬ (6 : Int) < (z : Int) by omega), if_pos w]; rfl
    · rw [if_pos (show (6 : Int) < (z : Int) by omega), if_neg w]; rfl
/-- isText: 0 a name, 1 a field's kind, 2 a method's kind, 3 one of these two, else a class's text -/
theorem isText_in {nn : Nat} (hn : 200020 ≤ nn) {M : ms_M} (hc : 238 < cn_M M) {k sort : Int} {a s : Nat} (t : tx_M M k a s) (hso : 0 ≤ sort ∧ sort ≤ 4) : qf_X13_isText nn k sort M = some (bi_N (if sort = 0 then nm_N (fun i => M 238 (a + i)) (s - a) else if sort = 1 then decide (kd_N (M 238) a s = some s) else if sort = 2 then (up_6 (pi_N (M 238) a s)).isSome else if sort = 3 then decide (kd_N (M 238) a s = some s) || (up_6 (pi_N (M 238) a s)).isSome else if M 238 a = 91 then decide (kd_N (M 238) a s = some s) else nm_N (fun i => M 238 (a + i)) (s - a))) := by
  obtain ⟨p, t1, t2, t3, t4, t5, t6⟩ := t
  have e1 : oq_add (p : Int) 1 = ((p + 1 : Nat) : Int) := by rw [oq_add_eq (by omega) (by omega) (by omega)]; omega
  have e2 : oq_add (p : Int) 2 = (a : Int) := by rw [oq_add_eq (by omega) (by omega) (by omega)]; omega
  have e3 : (s : Int) - (a : Int) = ((s - a : Nat) : Int) := by omega
  have e4 : a + (s - a) = s := by omega
  have e5 : ((p : Nat) : Int).toNat = p := by omega
  have e6 : ((p + 1 : Nat) : Int).toNat = p + 1 := by omega
  have e7 : ((a : Nat) : Int).toNat = a := by omega
  have e8 : ((s - a : Nat) : Int).toNat = s - a := by omega
  have hN := mname_ok (nn := nn) (by omega) hc T_238 (a := (a : Int)) (b := ((s - a : Nat) : Int)) (by omega) (by intro _ _; rw [l_238]; omega)
  rw [e7, e8] at hN
  have hF := isField_M (nn := nn) (by omega) hc T_238 (a := a) (m := s - a) (by rw [l_238]; omega) (by omega)
  have hK := methodKind_M hn hc (a := a) (m := s - a) (by omega)
  rw [e4] at hF hK
  unfold qf_X13_isText qf_X13_isClassText qj_X13_isClassText_19
  rw [constantOf_in t1, mx_svs, if_neg (show ¬ (p : Int) < 0 by omega), rd_ok (by omega), e5, if_pos t5]
  simp only [xl_eq]
  rw [e1, e2, rd_ok (by omega), e6, t6, e3, hN, mx_svs, hF, mx_svs, hK, mx_svs]
  have hq : sort = 0 ∨ sort = 1 ∨ sort = 2 ∨ sort = 3 ∨ sort = 4 := by omega
  rcases hq with rfl | rfl | rfl | rfl | rfl
  · exact b2_ck
  · exact b2_ck
  · exact b2_ck
  · show (if ¬ bi_N (decide (kd_N (M 238) a s = some s)) = 0 then some (1 : Int) else if bi_N (up_6 (pi_N (M 238) a s)).isSome = 0 then some 0 else some 1) = some (bi_N (decide (kd_N (M 238) a s = some s) || (up_6 (pi_N (M 238) a s)).isSome))
    cases decide (kd_N (M 238) a s = some s) <;> cases (up_6 (pi_N (M 238) a s)).isSome <;> rfl
  · show mx_sv (if ((s - a : Nat) : Int) ≤ 0 then ck_B (bi_N (nm_N (fun i => M 238 (a + i)) (s - a)) = 0 ∨ bi_N (nm_N (fun i => M 238 (a + i)) (s - a)) = 1) (some (bi_N (nm_N (fun i => M 238 (a + i)) (s - a)))) else _) _ = some (bi_N (if M 238 a = 91 then decide (kd_N (M 238) a s = some s) else nm_N (fun i => M 238 (a + i)) (s - a)))
    rw [if_neg (show ¬ ((s - a : Nat) : Int) ≤ 0 by omega), rd_ok (by omega), e7]
    by_cases w : M 238 a = 91
    · rw [if_neg (fun z => z w), if_pos w, b2_ck, mx_svs]; exact b2_ck
    · rw [if_pos w, if_neg w, b2_ck, mx_svs]; exact b2_ck
end
section
/-- the bytes of a TEXT, m of them from q on: FORM, if one is wrong or wanting -/
def tb_N (B : Nat → Int) (n : Nat) : Nat → Nat → Option Nat
  | _, 0 => none
  | q, m + 1 => if ¬ q < n then some n else if B q < 33 ∨ 126 < B q then some q else tb_N B n (q + 1) m
/-- FORM is told, if there is one -/
def fm_M (M : ms_M) (o : Option Nat) : ms_M := match o with
  | none => M
  | some f => up_M M 160 114 (f : Int)
theorem sr_Mu {M : ms_M} {B : Nat → Int} {n : Nat} {v : Int} (h : sr_M M B n) : sr_M (up_M M 160 114 v) B n := by
  obtain ⟨h1, h2, h3⟩ := h
  exact ⟨h1, by rw [up_n (by omega)]; exact h2, fun i hi => by rw [up_n (by omega)]; exact h3 i hi⟩
theorem sc_end {nn k : Nat} {M : ms_M} {a l2 l3 : Int} (ha : 0 ≤ a ∧ a ≤ 10000) (hl : 0 ≤ l2 ∧ l2 ≤ 300) (h : l2 ≤ l3 ∨ ¬ M 160 114 = -1) : qw_X13_scanConstant_77 nn (k + 1) a l2 l3 M = some (a + 2 + l2, M) := by
  unfold qw_X13_scanConstant_77 qj_X13_scanConstant_147
  have e1 : oq_add a 2 = a + 2 := oq_add_eq (by omega) (by omega) (by omega)
  have e2 : oq_add (a + 2) l2 = a + 2 + l2 := oq_add_eq (by omega) (by omega) (by omega)
  simp only [xl_eq, e1, e2]
  by_cases w : l2 ≤ l3
  · rw [if_pos w]
  · rw [if_neg w, if_pos (h.resolve_left w)]
theorem sc_77 {nn : Nat} {M : ms_M} {B : Nat → Int} {n : Nat} (h : sr_M M B n) (hf : M 160 114 = -1) {a l2 : Nat} (ha : a ≤ 6000) (hl : l2 ≤ 255) : ∀ (m k i : Nat), i + m = l2 → m + 1 < k → qw_X13_scanConstant_77 nn k (a : Int) (l2 : Int) (i : Int) M = some ((a : Int) + 2 + (l2 : Int), fm_M M (tb_N B n (a + 2 + i) m)) := by
  intro m
  induction m with
  | zero =>
    intro k i h1 h2
    obtain ⟨k, rfl⟩ : ∃ k2, k = k2 + 1 := ⟨k - 1, by omega⟩
    rw [sc_end (by omega) (by omega) (.inl (by omega))]; rfl
  | succ m ih =>
    intro k i h1 h2
    obtain ⟨k, rfl⟩ : ∃ k2, k = k2 + 2 := ⟨k - 2, by omega⟩
    have e1 : oq_add (a : Int) 2 = (a : Int) + 2 := oq_add_eq (by omega) (by omega) (by omega)
    have e2 : oq_add ((a : Int) + 2) (i : Int) = ((a + 2 + i : Nat) : Int) := by rw [oq_add_eq (by omega) (by omega) (by omega)]; omega
    have e3 : oq_add (i : Int) 1 = ((i + 1 : Nat) : Int) := by rw [oq_add_eq (by omega) (by omega) (by omega)]; omega
    have e4 : ((a + 2 + i : Nat) : Int).toNat = a + 2 + i := by omega
    have hB := isByte_ok (nn := nn) h (p := ((a + 2 + i : Nat) : Int)) (by omega)
    have n6 := h.1
    unfold qw_X13_scanConstant_77 qj_X13_scanConstant_132 tb_N
    rw [if_neg (show ¬ (l2 : Int) ≤ (i : Int) by omega), if_neg (fun z => z hf)]
    simp only [xl_eq, e1, e2, e3]
    rw [hB, mx_svs]
    by_cases w : a + 2 + i < n
    · rw [if_pos (show M 160 114 = -1 ∧ ((a + 2 + i : Nat) : Int) < (n : Int) from ⟨hf, by omega⟩), if_neg (show ¬ ¬ a + 2 + i < n from fun z => z w)]
      dsimp only
      rw [if_neg (show ¬ (1 : Int) = 0 by decide), rd_ok (by omega), e4, h.2.2 _ w, unfit_ok, if_pos hf, mx_svs]
      by_cases w1 : B (a + 2 + i) < 33
      · rw [if_pos w1, if_pos (show B (a + 2 + i) < 33 ∨ 126 < B (a + 2 + i) from .inl w1), sc_end (by omega) (by omega) (.inr (by rw [up_s]; omega))]; rfl
      · rw [if_neg w1, rd_ok (by omega), e4, h.2.2 _ w]
        by_cases w2 : B (a + 2 + i) ≤ 126
        · rw [if_pos w2, if_neg (show ¬ (B (a + 2 + i) < 33 ∨ 126 < B (a + 2 + i)) by omega)]
          exact ih (k + 1) (i + 1) (by omega) (by omega)
        · rw [if_neg w2, if_pos (show B (a + 2 + i) < 33 ∨ 126 < B (a + 2 + i) from .inr (by omega)), sc_end (by omega) (by omega) (.inr (by rw [up_s]; omega))]; rfl
    · rw [if_neg (show ¬ (M 160 114 = -1 ∧ ((a + 2 + i : Nat) : Int) < (n : Int)) from fun z => w (by omega)), if_pos hf, if_pos w]
      dsimp only
      rw [if_pos rfl, sc_end (by omega) (by omega) (.inr (by rw [up_s]; omega))]; rfl
end
section
/-- ONE CONSTANT at byte p: where the next one begins, and FORM -/
def ct_N (B : Nat → Int) (n p : Nat) : Nat × Option Nat :=
  if B p = 1 then (if p + 1 < n then (p + 2 + (B (p + 1)).toNat, if B (p + 1) < 1 ∨ 120 < B (p + 1) then some (p + 1) else tb_N B n (p + 2) (B (p + 1)).toNat) else (p, some n))
  else if B p = 2 then (p + 5, if p + 4 < n then none else some n)
  else if B p = 3 then (p + 2, if p + 1 < n then none else some n)
  else if B p = 4 then (p + 4, if p + 3 < n then none else some n)
  else (p, some p)
theorem isByte_2 {nn : Nat} {M : ms_M} {B : Nat → Int} {n : Nat} (h : sr_M M B n) (hf : M 160 114 = -1) {p : Nat} : qf_X13_isByte nn (p : Int) M = some (if p < n then 1 else 0, fm_M M (if p < n then none else some n)) := by
  rw [isByte_ok h (by omega)]
  by_cases w : p < n
  · rw [if_pos (show M 160 114 = -1 ∧ (p : Int) < (n : Int) from ⟨hf, by omega⟩), if_pos w, if_pos w]; rfl
  · rw [if_neg (show ¬ (M 160 114 = -1 ∧ (p : Int) < (n : Int)) from fun z => w (by omega)), if_pos hf, if_neg w, if_neg w]; rfl
set_option maxRecDepth 20000 in
theorem scanConstant_ok {nn : Nat} (hn : 300 ≤ nn) {M : ms_M} {B : Nat → Int} {n : Nat} (h : sr_M M B n) (hf : M 160 114 = -1) (hB : ∀ i, i < n → 0 ≤ B i ∧ B i ≤ 255) {p : Nat} (hp : p < n) : qf_X13_scanConstant nn (p : Int) M = some (((ct_N B n p).1 : Int), fm_M M (ct_N B n p).2) := by
  have n6 := h.1
  have e5 : ((p : Nat) : Int).toNat = p := by omega
  have e6 : ((p + 1 : Nat) : Int).toNat = p + 1 := by omega
  have a1 : oq_add (p : Int) 1 = ((p + 1 : Nat) : Int) := by rw [oq_add_eq (by omega) (by omega) (by omega)]; omega
  have a2 : oq_add (p : Int) 2 = ((p + 2 : Nat) : Int) := by rw [oq_add_eq (by omega) (by omega) (by omega)]; omega
  have a3 : oq_add (p : Int) 3 = ((p + 3 : Nat) : Int) := by rw [oq_add_eq (by omega) (by omega) (by omega)]; omega
  have a4 : oq_add (p : Int) 4 = ((p + 4 : Nat) : Int) := by rw [oq_add_eq (by omega) (by omega) (by omega)]; omega
  have a5 : oq_add (p : Int) 5 = ((p + 5 : Nat) : Int) := by rw [oq_add_eq (by omega) (by omega) (by omega)]; omega
  have fn : ∀ X : ms_M, fm_M X none = X := fun _ => rfl
  unfold qf_X13_scanConstant qj_X13_scanConstant_68 ct_N
  rw [rd_ok (by omega), e5, h.2.2 p hp]
  simp only [xl_eq, a1, a2, a3, a4, a5, isByte_2 h hf, mx_svs]
  by_cases w1 : B p = 1
  · rw [if_pos w1, if_pos w1]
    by_cases w : p + 1 < n
    · have r := hB (p + 1) w
      simp only [if_pos w, fn]
      rw [if_pos (show ¬ (1 : Int) = 0 by decide), rd_ok (by omega), e6, h.2.2 _ w]
      have eB : B (p + 1) = (((B (p + 1)).toNat : Nat) : Int) := by omega
      have eN : ((p + 2 + (B (p + 1)).toNat : Nat) : Int) = (p : Int) + 2 + (((B (p + 1)).toNat : Nat) : Int) := by omega
      have bad : (B (p + 1) < 1 ∨ 120 < B (p + 1)) → (mx_sv (qf_X13_unfit nn ((p + 1 : Nat) : Int) M) fun u30 => qw_X13_scanConstant_77 nn nn (p : Int) (B (p + 1)) 0 u30) = some (((p + 2 + (B (p + 1)).toNat : Nat) : Int), fm_M M (some (p + 1))) := by
        intro _
        obtain ⟨k, rfl⟩ : ∃ k2, nn = k2 + 1 := ⟨nn - 1, by omega⟩
        rw [unfit_ok, if_pos hf, mx_svs, sc_end (by omega) (by omega) (.inr (by rw [up_s]; omega)), eN, ← eB]; rfl
      by_cases w2 : B (p + 1) < 1
      · rw [if_pos w2, if_pos (show B (p + 1) < 1 ∨ 120 < B (p + 1) from .inl w2)]; exact bad (.inl w2)
      · rw [if_neg w2]
        by_cases w3 : B (p + 1) ≤ 120
        · rw [if_pos w3, if_neg (show ¬ (B (p + 1) < 1 ∨ 120 < B (p + 1)) by omega)]
          have z := sc_77 (nn := nn) h hf (a := p) (l2 := (B (p + 1)).toNat) (by omega) (by omega) (B (p + 1)).toNat nn 0 (by omega) (by omega)
          rw [← eB] at z
          have z0 : ((0 : Nat) : Int) = 0 := rfl
          have z1 : p + 2 + 0 = p + 2 := by omega
          rw [z0, z1] at z
          rw [z, eN, ← eB]
        · rw [if_neg w3, if_pos (show B (p + 1) < 1 ∨ 120 < B (p + 1) from .inr (by omega))]; exact bad (.inr (by omega))
    · simp only [if_neg w]
      rw [if_neg (show ¬ ¬ True from fun z => z trivial)]
  · rw [if_neg w1, if_neg w1]
    by_cases w2 : B p = 2
    · rw [if_pos w2, if_pos w2]
    · rw [if_neg w2, if_neg w2]
      by_cases w3 : B p = 3
      · rw [if_pos w3, if_pos w3]
      · rw [if_neg w3, if_neg w3]
        by_cases w4 : B p = 4
        · rw [if_pos w4, if_pos w4]
        · rw [if_neg w4, if_neg w4, unfit_ok, if_pos hf, mx_svs]; rfl
end
section
/-- the bytes of a TEXT, the class -/
theorem rt_84 {nn : Nat} {b : Nat} {B : Nat → Int} {n : Nat} : ∀ (m k q i : Nat) (M : ms_M), sr_I M b B n → M b 3 = -1 → M b 2 = (q : Int) → i + m ≤ 300 → m + 1 < k → ∃ M2, qw_X3_readConstant_84 nn k b 1 ((i + m : Nat) : Int) (i : Int) M = some M2 ∧ (∀ c j, ¬ (c = b ∧ (j = 2 ∨ j = 3)) → M2 c j = M c j) ∧ (tb_N B n q m = none → M2 b 2 = ((q + m : Nat) : Int) ∧ M2 b 3 = -1) ∧ ∀ f : Nat, tb_N B n q m = some f → M2 b 3 = (f : Int) := by
  intro m
  induction m with
  | zero =>
    intro k q i M h hf hq _ h2
    obtain ⟨k, rfl⟩ : ∃ k2, k = k2 + 1 := ⟨k - 1, by omega⟩
    refine ⟨M, by unfold qw_X3_readConstant_84; rw [if_pos (by omega)], fun _ _ _ => rfl, fun _ => ⟨by omega, hf⟩, fun f hz => by cases hz⟩
  | succ m ih =>
    intro k q i M h hf hq h1 h2
    obtain ⟨k, rfl⟩ : ∃ k2, k = k2 + 2 := ⟨k - 2, by omega⟩
    have n6 := h.2.1
    have e3 : oq_add (i : Int) 1 = ((i + 1 : Nat) : Int) := by rw [oq_add_eq (by omega) (by omega) (by omega)]; omega
    have e4 : i + 1 + m = i + (m + 1) := by omega
    have stop : ∀ X : ms_M, ¬ X b 3 = -1 → qw_X3_readConstant_84 nn (k + 1) b 1 ((i + (m + 1) : Nat) : Int) ((i + 1 : Nat) : Int) X = some X := by
      intro X hX
      unfold qw_X3_readConstant_84
      by_cases w : ((i + (m + 1) : Nat) : Int) ≤ ((i + 1 : Nat) : Int)
      · rw [if_pos w]
      · rw [if_neg w, if_pos hX]
    have head : qw_X3_readConstant_84 nn (k + 2) b 1 ((i + (m + 1) : Nat) : Int) (i : Int) M = mx_sv (qf_X3_nextUpTo nn b 33 126 M) fun u6 => qw_X3_readConstant_84 nn (k + 1) b 1 ((i + (m + 1) : Nat) : Int) ((i + 1 : Nat) : Int) u6.2 := by
      conv => lhs; unfold qw_X3_readConstant_84
      rw [if_neg (show ¬ ((i + (m + 1) : Nat) : Int) ≤ (i : Int) by omega), if_neg (fun z => z hf), if_neg (show ¬ ¬ (1 : Int) = 1 from fun z => z rfl)]
      simp only [xl_eq, e3]
    rw [head]
    unfold tb_N
    by_cases w : q < n
    · have hqN : (M b 2).toNat = q := by omega
      rw [if_neg (show ¬ ¬ q < n from fun z => z w), upTo_in h (by omega) hf, mx_svs, hqN, hq]
      dsimp only
      by_cases w1 : 33 ≤ B q ∧ B q ≤ 126
      · rw [if_pos w1, if_neg (show ¬ (B q < 33 ∨ 126 < B q) by omega)]
        obtain ⟨M2, g1, g2, g3, g4⟩ := ih (k + 1) (q + 1) (i + 1) (up_M M b 2 ((q : Int) + 1)) (sr_up h (.inl ⟨rfl, by omega⟩)) (by rw [up_n (by omega)]; exact hf) (by rw [up_s]; omega) (by omega) (by omega)
        rw [e4] at g1
        refine ⟨M2, g1, fun c j hc => by rw [g2 c j hc]; exact up_n (fun z => hc ⟨z.1, .inl z.2⟩), fun hz => ?_, g4⟩
        obtain ⟨k1, k2⟩ := g3 hz
        exact ⟨by rw [k1]; omega, k2⟩
      · rw [if_neg w1, if_pos (show B q < 33 ∨ 126 < B q by omega), stop _ (by rw [up_s]; omega)]
        refine ⟨_, rfl, fun c j hc => ?_, fun hz => (by cases hz), fun f hz => ?_⟩
        · rw [up_n (fun z => hc ⟨z.1, .inr z.2⟩), up_n (fun z => hc ⟨z.1, .inl z.2⟩)]
        · cases hz; exact up_s
    · have ho : qf_X3_nextUpTo nn b 33 126 M = some (0, up_M M b 3 (n : Int)) := by
        unfold qf_X3_nextUpTo qj_X3_nextUpTo_15
        rw [next_out h (by omega), if_pos hf, mx_svs]
        dsimp only
        rw [if_pos (by decide), xl_eq, bad_ok, if_neg (by rw [up_s]; omega), mx_svs]
      rw [if_pos w, ho, mx_svs]
      dsimp only
      rw [stop _ (by rw [up_s]; omega)]
      refine ⟨_, rfl, fun c j hc => up_n (fun z => hc ⟨z.1, .inr z.2⟩), fun hz => (by cases hz), fun f hz => ?_⟩
      cases hz; exact up_s
end
section
/-- the parts of a constant that is no TEXT, the class -/
theorem rn_84 {nn : Nat} {b : Nat} {B : Nat → Int} {n : Nat} {tag : Int} (ht : ¬ tag = 1) : ∀ (m k q i : Nat) (M : ms_M), sr_I M b B n → M b 3 = -1 → M b 2 = (q : Int) → q ≤ n → i + m ≤ 300 → m + 1 < k → ∃ M2, qw_X3_readConstant_84 nn k b tag ((i + m : Nat) : Int) (i : Int) M = some M2 ∧ (∀ c j, ¬ (c = b ∧ (j = 2 ∨ j = 3)) → M2 c j = M c j) ∧ (q + m ≤ n → M2 b 2 = ((q + m : Nat) : Int) ∧ M2 b 3 = -1) ∧ (¬ q + m ≤ n → M2 b 3 = (n : Int)) := by
  intro m
  induction m with
  | zero =>
    intro k q i M h hf hq hqn _ h2
    obtain ⟨k, rfl⟩ : ∃ k2, k = k2 + 1 := ⟨k - 1, by omega⟩
    exact ⟨M, by unfold qw_X3_readConstant_84; rw [if_pos (by omega)], fun _ _ _ => rfl, fun _ => ⟨by omega, hf⟩, fun hz => by omega⟩
  | succ m ih =>
    intro k q i M h hf hq hqn h1 h2
    obtain ⟨k, rfl⟩ : ∃ k2, k = k2 + 2 := ⟨k - 2, by omega⟩
    have n6 := h.2.1
    have e3 : oq_add (i : Int) 1 = ((i + 1 : Nat) : Int) := by rw [oq_add_eq (by omega) (by omega) (by omega)]; omega
    have e4 : i + 1 + m = i + (m + 1) := by omega
    have head : qw_X3_readConstant_84 nn (k + 2) b tag ((i + (m + 1) : Nat) : Int) (i : Int) M = mx_sv (qf_X3_next nn b M) fun u6 => qw_X3_readConstant_84 nn (k + 1) b tag ((i + (m + 1) : Nat) : Int) ((i + 1 : Nat) : Int) u6.2 := by
      conv => lhs; unfold qw_X3_readConstant_84
      rw [if_neg (show ¬ ((i + (m + 1) : Nat) : Int) ≤ (i : Int) by omega), if_neg (fun z => z hf), if_pos ht]
      simp only [xl_eq, e3]
    rw [head]
    by_cases w : q < n
    · rw [next_in h (by omega), mx_svs, hq]
      dsimp only
      obtain ⟨M2, g1, g2, g3, g4⟩ := ih (k + 1) (q + 1) (i + 1) (up_M M b 2 ((q : Int) + 1)) (sr_up h (.inl ⟨rfl, by omega⟩)) (by rw [up_n (by omega)]; exact hf) (by rw [up_s]; omega) (by omega) (by omega) (by omega)
      rw [e4] at g1
      refine ⟨M2, g1, fun c j hc => by rw [g2 c j hc]; exact up_n (fun z => hc ⟨z.1, .inl z.2⟩), fun hz => ?_, fun hz => g4 (by omega)⟩
      obtain ⟨k1, k2⟩ := g3 (by omega)
      exact ⟨by rw [k1]; omega, k2⟩
    · rw [next_out h (by omega), if_pos hf, mx_svs]
      dsimp only
      have stop : qw_X3_readConstant_84 nn (k + 1) b tag ((i + (m + 1) : Nat) : Int) ((i + 1 : Nat) : Int) (up_M M b 3 (n : Int)) = some (up_M M b 3 (n : Int)) := by
        unfold qw_X3_readConstant_84
        by_cases w2 : ((i + (m + 1) : Nat) : Int) ≤ ((i + 1 : Nat) : Int)
        · rw [if_pos w2]
        · rw [if_neg w2, if_pos (by rw [up_s]; omega)]
      rw [stop]
      exact ⟨_, rfl, fun c j hc => up_n (fun z => hc ⟨z.1, .inr z.2⟩), fun hz => by omega, fun _ => up_s⟩
end

section
variable {nn : Nat} {h g r z w v : ms_M} {c d k : Int}
/-- method k of image c is under check: p its place -/
def MC (h : ms_M) (c k : Int) (w : ms_M) : Prop := (0 ≤ c ∧ c ≤ 7) ∧ (0 ≤ k ∧ k < h 234 c.toNat) ∧ WI h c w ∧ h 160 132 = c ∧ h 160 133 = k ∧ h 160 130 = w 238 (h 235 (12 * c + k).toNat + 3).toNat ∧ h 160 129 = w 238 (h 235 (12 * c + k).toNat + 4).toNat ∧ h 160 135 = pw (w 238 (h 235 (12 * c + k).toNat + 5).toNat) (w 238 (h 235 (12 * c + k).toNat + 6).toNat) ∧ h 160 134 = h 235 (12 * c + k).toNat + 7
theorem mv_pair (V : VS_ h) (hc : 0 ≤ c ∧ c ≤ 7) (e : h 160 132 = c) {p : Int} (hp : 0 ≤ p ∧ p + 1 < 6000) : Ok_ (qf_X13_pairIn nn p h) (fun u => (0 ≤ u ∧ u ≤ 65535) ∧ u = pw (h 226 (6000 * c + p).toNat) (h 226 (6000 * c + (p + 1)).toNat)) := by
  unfold qf_X13_pairIn
  rw [e]
  refine ok_sv (rv_byte V hc (by omega)) ?_; intro u3 P3
  refine ok_shl8 P3.2 ?_; intro v4 e4
  refine ok_add (by omega) ?_; intro v6 e6
  refine ok_sv (rv_byte V hc (by omega)) ?_; intro u8 P8
  have b3 := P3.2
  have b8 := P8.2
  refine ok_xl ?_; intro v9 e9
  have q := oq_or_rg (x := v4) (y := u8) (by omega) (by omega)
  refine ok_ret ⟨by rw [e9]; exact q, ?_⟩
  unfold pw
  rw [e9, ← P3.1, ← e6, ← P8.1, ← e4]
theorem mv_pairw (V : VS_ h) (hc : 0 ≤ c ∧ c ≤ 7) (W : WI h c w) (e : h 160 132 = c) {p : Int} (hp : 0 ≤ p ∧ p + 1 < w 160 113) : Ok_ (qf_X13_pairIn nn p h) (fun u => (0 ≤ u ∧ u ≤ 65535) ∧ u = pw (w 238 p.toNat) (w 238 (p + 1).toNat)) := by
  have g3 := gF_160_113 W.1
  refine ok_im (mv_pair V hc e (by omega)) (fun u P => ⟨P.1, ?_⟩)
  rw [P.2, W.2.2.1 p (by omega) (by omega), W.2.2.1 (p + 1) (by omega) (by omega)]
theorem mv_bytew (V : VS_ h) (hc : 0 ≤ c ∧ c ≤ 7) (W : WI h c w) {p : Int} (hp : 0 ≤ p ∧ p < w 160 113) : Ok_ (qf_X13_byteAt nn c p h) (fun u => u = w 238 p.toNat ∧ (0 ≤ u ∧ u ≤ 255)) := by
  have g3 := gF_160_113 W.1
  refine ok_im (rv_byte V hc (by omega)) (fun u P => ⟨?_, P.2⟩)
  rw [P.1, W.2.2.1 p (by omega) (by omega)]
/-- what beginning a method's check leaves -/
def NAt (h r : ms_M) : Prop := ∀ x j : Nat, ¬ (x = 160 ∧ 129 ≤ j ∧ j ≤ 135) → r x j = h x j
theorem mv_at (V : VS_ h) (W : WI h c w) (hc : 0 ≤ c ∧ c ≤ 7) (hk : 0 ≤ k ∧ k < h 234 c.toNat) : Ok_ (qf_X13_at_ nn (8 + c) k h) (fun r => VS_ r ∧ NAt h r ∧ MC r c k w) := by
  obtain ⟨k12, b, m⟩ := wi_mt W hc hk
  have gp := gA_235 V (12 * c + k).toNat (by omega)
  have mb : 1 ≤ pw (w 238 (h 235 (12 * c + k).toNat + 5).toNat) (w 238 (h 235 (12 * c + k).toNat + 6).toNat) ∧ pw (w 238 (h 235 (12 * c + k).toNat + 5).toNat) (w 238 (h 235 (12 * c + k).toNat + 6).toNat) ≤ 1500 := by
    obtain ⟨q, _, m⟩ := m
    unfold XM XI XG XE XD XC at m
    exact m.2.2.2.2.2.2.1
  have m3 : w 238 (h 235 (12 * c + k).toNat + 3).toNat ≤ 30 ∧ w 238 (h 235 (12 * c + k).toNat + 4).toNat ≤ 30 := by
    obtain ⟨q, _, m⟩ := m
    unfold XM XI XG XE XD XC at m
    exact ⟨m.2.2.2.1, m.2.2.2.2.1⟩
  unfold qf_X13_at_
  refine ok_sub (by omega) ?_; intro v1 e1
  rw [show v1 = c by omega]
  refine ok_xl ?_; intro h2 E2
  have V2 : VS_ h2 := by rw [E2]; exact wF_160_132 V (by omega)
  refine ok_xl ?_; intro h3 E3
  have V3 : VS_ h3 := by rw [E3]; exact wF_160_133 V2 (by omega)
  have N3 : NAt h h3 := fun x j y => by rw [E3, up_n (by omega), E2, up_n (by omega)]
  have f3 : h3 160 132 = c := by rw [E3, up_n (by decide), E2, up_s]
  have W3 : WI h3 c w := wi_k (fun x j _ _ => N3 x j (by omega)) W
  rw [f3]
  refine ok_mul (by omega) ?_; intro v6 e6
  refine ok_add (by omega) ?_; intro v7 e7
  refine ok_rd (by omega) (gA_235 V3) ?_; intro v8 e8 _ _
  rw [e7, e6, N3 235 _ (by omega)] at e8
  rw [← e8] at b gp mb m3
  refine ok_add (by omega) ?_; intro v10 e10
  refine ok_sv (mv_bytew V3 hc W3 (by omega)) ?_; intro u12 P12
  refine ok_xl ?_; intro h13 E13
  have u12b : u12 ≤ 30 := by rw [P12.1, e10]; exact m3.1
  have V13 : VS_ h13 := by rw [E13]; exact wF_160_130 V3 (by have := P12.2; omega)
  have N13 : NAt h h13 := fun x j y => by rw [E13, up_n (by omega)]; exact N3 x j y
  have f13 : h13 160 132 = c := by rw [E13, up_n (by decide)]; exact f3
  have W13 : WI h13 c w := wi_k (fun x j _ _ => N13 x j (by omega)) W
  rw [f13]
  refine ok_add (by omega) ?_; intro v15 e15
  refine ok_sv (mv_bytew V13 hc W13 (by omega)) ?_; intro u17 P17
  refine ok_xl ?_; intro h18 E18
  have u17b : u17 ≤ 30 := by rw [P17.1, e15]; exact m3.2
  have V18 : VS_ h18 := by rw [E18]; exact wF_160_129 V13 (by have := P17.2; omega)
  have N18 : NAt h h18 := fun x j y => by rw [E18, up_n (by omega)]; exact N13 x j y
  have f18 : h18 160 132 = c := by rw [E18, up_n (by decide)]; exact f13
  have W18 : WI h18 c w := wi_k (fun x j _ _ => N18 x j (by omega)) W
  refine ok_add (by omega) ?_; intro v19 e19
  refine ok_sv (mv_pairw V18 hc W18 f18 (by omega)) ?_; intro u21 P21
  obtain ⟨P21, Q21⟩ := P21
  rw [e19, show v8 + 5 + 1 = v8 + 6 by omega] at Q21
  refine ok_xl ?_; intro h22 E22
  have V22 : VS_ h22 := by rw [E22]; exact wF_160_135 V18 (by omega)
  refine ok_add (by omega) ?_; intro v23 e23
  refine ok_xl ?_; intro h24 E24
  have V24 : VS_ h24 := by rw [E24]; exact wF_160_134 V22 (by omega)
  have N24 : NAt h h24 := fun x j y => by rw [E24, up_n (by omega), E22, up_n (by omega)]; exact N18 x j y
  have e235 : h24 235 (12 * c + k).toNat = v8 := by rw [N24 235 _ (by omega)]; exact e8.symm
  refine ok_ret ⟨V24, N24, hc, by rw [N24 234 _ (by omega)]; exact hk, wi_k (fun x j _ _ => N24 x j (by omega)) W, ?_, ?_, ?_, ?_, ?_, ?_⟩
  · rw [E24, up_n (by decide), E22, up_n (by decide)]; exact f18
  · rw [E24, up_n (by decide), E22, up_n (by decide), E18, up_n (by decide), E13, up_n (by decide), E3, up_s]
  · rw [e235, E24, up_n (by decide), E22, up_n (by decide), E18, up_n (by decide), E13, up_s, P12.1, e10]
  · rw [e235, E24, up_n (by decide), E22, up_n (by decide), E18, up_s, P17.1, e15]
  · rw [e235, E24, up_n (by decide), E22, up_s]; exact Q21
  · rw [e235, E24, up_s]; exact e23
end

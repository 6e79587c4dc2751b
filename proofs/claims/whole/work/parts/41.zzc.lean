/- RUN: the small steps of both machines, told exactly. t: the uppermost frame, H: its height -/
section
variable {nn : Nat} {Bf : Nat → Nat → Int} {nf : Nat → Nat} {k i t H : Nat} {h g : ms_M} {v w : Int}
theorem rc_push (ht : h 143 17 = (t : Int)) (t60 : t < 60) (eH : h 150 t = (H : Int)) (h30 : H < 30) : Pc (qf_X5_push nn v h) (fun g => g = up_M (up_M h 152 (30 * t + H) v) 150 t ((H + 1 : Nat) : Int)) := by
  unfold qf_X5_push
  rw [ht]
  refine pc_rA ?_; intro _ _ v3 e3
  rw [Int.toNat_natCast, eH] at e3
  refine pc_if (fun _ => ?_) (fun z => absurd (show v3 < 30 by omega) z)
  refine pc_xl ?_; intro v6 e6
  rw [oq_mul_eq (by omega) (by omega) (by omega)] at e6
  refine pc_add (by omega) ?_; intro v7 e7
  refine pc_wA ?_; intro _ _ h8 e8
  rw [show v7.toNat = 30 * t + H by omega] at e8
  refine pc_add (by omega) ?_; intro v11 e11
  have h17 : h8 143 17 = (t : Int) := by rw [e8, up_n (by omega)]; exact ht
  rw [h17]
  refine pc_wA ?_; intro _ _ h12 e12
  rw [Int.toNat_natCast, e8, show v11 = ((H + 1 : Nat) : Int) by omega] at e12
  exact pc_ret e12
theorem rc_pop (ht : h 143 17 = (t : Int)) (t60 : t < 60) (eH : h 150 t = ((H + 1 : Nat) : Int)) (h30 : H < 30) : Pc (qf_X5_pop nn h) (fun u => u.1 = h 152 (30 * t + H) ∧ u.2 = up_M h 150 t (H : Int)) := by
  unfold qf_X5_pop
  rw [ht]
  refine pc_rA ?_; intro _ _ v3 e3
  rw [Int.toNat_natCast, eH] at e3
  refine pc_sub (by omega) ?_; intro v4 e4
  refine pc_if (fun _ => ?_) (fun z => absurd (show 0 ≤ v4 by omega) z)
  refine pc_wA ?_; intro _ _ h7 e7
  rw [Int.toNat_natCast, show v4 = (H : Int) by omega] at e7
  have h17 : h7 143 17 = (t : Int) := by rw [e7, up_n (by omega)]; exact ht
  rw [h17]
  refine pc_xl ?_; intro v10 e10
  rw [oq_mul_eq (by omega) (by omega) (by omega)] at e10
  refine pc_add (by omega) ?_; intro v11 e11
  refine pc_rA ?_; intro _ _ v12 e12
  rw [show v11.toNat = 30 * t + H by omega, e7, up_n (by omega)] at e12
  exact pc_ret ⟨e12, e7⟩
theorem rc_go (ht : h 143 17 = (t : Int)) (p : 0 ≤ h 149 t ∧ h 149 t ≤ 10000) (hw : -10000 ≤ w ∧ w ≤ 10000) : Pc (qf_X5_goOn nn w h) (fun g => g = up_M h 149 t (h 149 t + w)) := by
  unfold qf_X5_goOn
  rw [ht]
  refine pc_rA ?_; intro _ _ v3 e3
  rw [Int.toNat_natCast] at e3
  refine pc_add (by omega) ?_; intro v4 e4
  refine pc_wA ?_; intro _ _ h5 e5
  rw [Int.toNat_natCast, e4, e3] at e5
  exact pc_ret e5
theorem rr_give (ht : h 160 149 = (t : Int) + 1) (t60 : t < 60) (eH : h 254 t = (H : Int)) (h30 : H < 30) : Pc (qf_X13_give nn v h) (fun g => g = up_M (up_M h 255 (60 * t + 30 + H) v) 254 t ((H + 1 : Nat) : Int)) := by
  unfold qf_X13_give
  rw [ht]
  refine pc_sub (by omega) ?_; intro v2 e2
  rw [show v2 = (t : Int) by omega]
  refine pc_xl ?_; intro v4 e4
  rw [oq_mul_eq (by omega) (by omega) (by omega)] at e4
  refine pc_add (by omega) ?_; intro v5 e5
  refine pc_rA ?_; intro _ _ v7 e7
  rw [Int.toNat_natCast, eH] at e7
  refine pc_add (by omega) ?_; intro v8 e8
  refine pc_wA ?_; intro _ _ h9 e9
  rw [show v8.toNat = 60 * t + 30 + H by omega] at e9
  refine pc_rA ?_; intro _ _ v11 e11
  rw [Int.toNat_natCast, e9, up_n (by omega), eH] at e11
  refine pc_add (by omega) ?_; intro v12 e12
  refine pc_wA ?_; intro _ _ h13 e13
  rw [Int.toNat_natCast, e9, show v12 = ((H + 1 : Nat) : Int) by omega] at e13
  exact pc_ret e13
theorem rr_drop (ht : h 160 149 = (t : Int) + 1) (t60 : t < 60) (eH : h 254 t = ((H + 1 : Nat) : Int)) (h30 : H < 30) : Pc (qf_X13_drop nn h) (fun u => u.1 = h 255 (60 * t + 30 + H) ∧ u.2 = up_M h 254 t (H : Int)) := by
  unfold qf_X13_drop
  rw [ht]
  refine pc_sub (by omega) ?_; intro v2 e2
  rw [show v2 = (t : Int) by omega]
  refine pc_rA ?_; intro _ _ v4 e4
  rw [Int.toNat_natCast, eH] at e4
  refine pc_sub (by omega) ?_; intro v5 e5
  refine pc_wA ?_; intro _ _ h6 e6
  rw [Int.toNat_natCast, show v5 = (H : Int) by omega] at e6
  refine pc_xl ?_; intro v8 e8
  rw [oq_mul_eq (by omega) (by omega) (by omega)] at e8
  refine pc_add (by omega) ?_; intro v9 e9
  refine pc_rA ?_; intro _ _ v11 e11
  rw [Int.toNat_natCast, e6, up_s] at e11
  refine pc_add (by omega) ?_; intro v12 e12
  refine pc_rA ?_; intro _ _ v13 e13
  rw [show v12.toNat = 60 * t + 30 + H by omega, e6, up_n (by omega)] at e13
  exact pc_ret ⟨e13, e6⟩
/-- the byte p of the code that runs, the reference -/
theorem rr_op {p : Nat} (S : RSv Bf nf h) (hk : (k : Int) < h 160 98) (hi : (i : Int) < mc_S (Bf k) (nf k)) (ht : h 160 149 = (t : Int) + 1) (t60 : t < 60) (e1 : h 251 t = 8 + (k : Int)) (e2 : h 252 t = (i : Int)) (hp : ma_S (Bf k) (nf k) i + 7 + p < nf k) : Pc (qf_X13_opAt nn (p : Int) h) (fun u => u = Bf k (ma_S (Bf k) (nf k) i + 7 + p)) := by
  obtain ⟨n6, k8⟩ := tb_n6 S hk
  obtain ⟨G, -, _, MD⟩ := rg_im (S.2 k hk)
  have m12 := G.2.2.1
  unfold qf_X13_opAt
  rw [ht]
  refine pc_sub (by omega) ?_; intro v3 e3
  rw [show v3 = (t : Int) by omega]
  refine pc_rA ?_; intro _ _ v4 e4
  rw [Int.toNat_natCast, e1] at e4
  refine pc_sub (by omega) ?_; intro v5 e5
  refine pc_sub (by omega) ?_; intro v9 e9
  rw [show v9 = (t : Int) by omega]
  refine pc_rA ?_; intro _ _ v10 e10
  rw [Int.toNat_natCast, e1] at e10
  refine pc_sub (by omega) ?_; intro v11 e11
  refine pc_xl ?_; intro v12 e12
  rw [oq_mul_eq (by omega) (by omega) (by omega)] at e12
  refine pc_sub (by omega) ?_; intro v15 e15
  rw [show v15 = (t : Int) by omega]
  refine pc_rA ?_; intro _ _ v16 e16
  rw [Int.toNat_natCast, e2] at e16
  refine pc_add (by omega) ?_; intro v17 e17
  refine pc_rA ?_; intro _ _ v18 e18
  rw [show v17.toNat = (12 * (k : Int) + (i : Int)).toNat by omega, (MD i hi).1] at e18
  refine pc_add (by omega) ?_; intro v19 e19
  refine pc_add (by omega) ?_; intro v20 e20
  rw [show v5 = (k : Int) by omega, show v20 = ((ma_S (Bf k) (nf k) i + 7 + p : Nat) : Int) by omega]
  refine pc_sv (vq_rbyte S hk hp) ?_; intro u22 q22
  exact pc_ret q22
/-- the link of constant a of the class that runs -/
theorem rc_link {a : Int} (ht : h 143 17 = (t : Int)) (e1 : h 148 t = (k : Int) * 12 + (i : Int)) (k8 : k < 8) (i12 : i < 12) (ha : 0 ≤ a ∧ a ≤ 255) : Pc (qf_X5_link nn a h) (fun u => u = h 68 (256 * (k : Int) + a).toNat) := by
  unfold qf_X5_link
  rw [ht]
  refine pc_rA ?_; intro _ _ v4 e4
  rw [Int.toNat_natCast, e1] at e4
  refine pc_xl ?_; intro v5 e5
  rw [Int.tdiv_eq_ediv_of_nonneg (by omega)] at e5
  unfold qf_X7_link
  rw [show v5 = (k : Int) by omega]
  refine pc_sv (P := fun u => u = h 68 (256 * (k : Int) + a).toNat) ?_ (fun u q => pc_ret q)
  refine pc_if (fun z => absurd z (by omega)) (fun _ => ?_)
  refine pc_if (fun z => absurd z (by omega)) (fun _ => ?_)
  refine pc_if (fun z => absurd z (by omega)) (fun _ => ?_)
  refine pc_if (fun z => absurd z (by omega)) (fun _ => ?_)
  refine pc_xl ?_; intro v2 e2
  rw [oq_mul_eq (by omega) (by omega) (by omega)] at e2
  refine pc_add (by omega) ?_; intro v3 e3
  refine pc_rA ?_; intro _ _ w4 e4'
  rw [show v3.toNat = (256 * (k : Int) + a).toNat by omega] at e4'
  exact pc_ret e4'
end

/- RUN: behind a step, the class throws what is to be thrown -/
section
variable {nn : Nat} {Bf : Nat → Nat → Int} {nf : Nat → Nat} {cnt : Int} {k i t H d : Nat} {A B g r u z h A1 B0 : ms_M} {o v wd c x a s P l1 l2 : Int}
theorem oq_neg_c (hc : 2 ≤ c ∧ c ≤ 7) : oq_neg (-c) = c := by
  rcases (show c = 2 ∨ c = 3 ∨ c = 4 ∨ c = 5 ∨ c = 6 ∨ c = 7 by omega) with e | e | e | e | e | e
  all_goals (rw [e]; decide)
theorem jt_aft {QK : Int → Int → ms_M → Option (Int × ms_M)} {Q : Int × ms_M → Prop} (ST : STQ nn Bf nf cnt t B0 g r) (E : ENa Bf nf cnt g B0) (t60 : t < 60) (PL : ∀ j : Nat, j < t + 1 → 0 ≤ B0 253 j ∧ B0 253 j ≤ 10000) (o1 : 0 ≤ B0 160 141 ∧ B0 160 141 ≤ 2000) (o2 : 0 ≤ B0 160 142 ∧ B0 160 142 ≤ 20000) (hl2 : 0 ≤ l2 ∧ l2 ≤ 1000000) (HK : ∀ g' : ms_M, RNX Bf nf cnt g' r → (∀ c j : Nat, ¬ (143 ≤ c ∧ c ≤ 152) → g' c j = g c j) → g' 143 20 = 0 → Pc (QK l1 (l2 + 1) g') Q) : Pc (if 0 ≤ (g 143 20) then (qj_X5_go_40 nn QK l1 l2 g) else (xl (oq_neg (g 143 20)) fun v16 => mx_sv (qf_X5_make nn v16 0 g) fun u18 => xl (up_M u18.2 143 20 u18.1) fun h19 => qj_X5_go_40 nn QK l1 l2 h19)) Q := by
  have E55 : ∀ m : ms_M, RNX Bf nf cnt m r → (∀ c j : Nat, ¬ (143 ≤ c ∧ c ≤ 152) → m c j = g c j) → Pc (qj_X5_go_55 nn QK l1 l2 m) Q := fun m R F => by
    unfold qj_X5_go_55
    refine pc_xl ?_; intro h4 e4
    refine pc_add (by omega) ?_; intro v5 e5
    rw [e5]
    refine HK h4 (by rw [e4]; exact rnx_20 R) (fun c j w => by rw [e4, up_n (by omega)]; exact F c j w) (by rw [e4, up_s])
  -- an object comes up
  have UP : ∀ (o : Int) (m z : ms_M), m 143 20 = o → (1 ≤ o ∧ o ≤ z 160 141 ∧ z 246 o.toNat < 99) → z 160 141 ≤ 2000 → ENa Bf nf cnt m z → RRd Bf nf cnt m z (t + 1) → (∀ j : Nat, j < t + 1 → 0 ≤ z 253 j ∧ z 253 j ≤ 10000) → (∀ c j : Nat, ¬ (143 ≤ c ∧ c ≤ 152) → m c j = g c j) → qf_X13_thrown nn o z = some r → Pc (qj_X5_go_40 nn QK l1 l2 m) Q := fun o m z e20 ho z2 Em R PLz F er => by
    unfold qj_X5_go_40
    rw [e20]
    refine pc_if (fun w => absurd w (by omega)) (fun _ => ?_)
    refine pc_se ?_; intro u9 e9
    have e4 : m 143 4 = z 160 141 := R.2.2.2.1.1.1
    have FU := (ff_X5_throwUp nn) _ e9
    refine E55 u9 ?_ (fun c j w => ?_)
    · unfold qf_X5_throwUp at e9
      obtain ⟨u18, e18, e9⟩ := sv_i e9
      have q18 := rc_iso (nn := nn) (B := z) (u := m) (v := o) e4 z2 (.inr ⟨ho.1, ho.2.1⟩) u18 e18
      rw [if_pos (show ¬ u18 = 0 by omega)] at e9
      exact jt_thr (B := z) z2 ho (t + 1) m z (fun _ _ _ => rfl) Em R PLz nn nn 0 (by omega) (by omega) u9 e9 r er
    · exact (FU c j (nw_143 rfl w)).trans (F c j w)
  rcases ST with ⟨e20, R⟩ | ⟨c, z, ⟨hc, e20⟩, R, FZ, er⟩ | ⟨o, z, ⟨ho, e20⟩, R, FZ, er⟩
  · rw [if_pos (by omega)]
    unfold qj_X5_go_40
    rw [if_pos (by omega)]
    exact E55 g R (fun _ _ _ => rfl)
  · rw [if_neg (by omega), e20]
    have e98 := E.2.1.2
    have Ez : ENa Bf nf cnt g z := en_k E (fun _ _ _ _ => rfl) (fun x j _ _ => FZ x j (by omega)) (FZ 160 98 (by omega))
    refine pc_xl ?_; intro v16 e16
    have e16 : v16 = c := by rw [e16]; exact oq_neg_c hc
    rw [e16]
    obtain ⟨n, en⟩ : ∃ n : Nat, z 160 141 = (n : Int) := ⟨(z 160 141).toNat, by rw [FZ 160 141 (by omega)]; omega⟩
    obtain ⟨m, em⟩ : ∃ m : Nat, z 160 142 = (m : Int) := ⟨(z 160 142).toNat, by rw [FZ 160 142 (by omega)]; omega⟩
    have nr : n ≤ 2000 := by have := FZ 160 141 (by omega); omega
    have mr : m ≤ 20000 := by have := FZ 160 142 (by omega); omega
    have HE := R.2.2.2.1.1
    have esr : sr_T c = c := by unfold sr_T; rw [if_neg (by omega)]
    have MC := rc_make (nn := nn) (a := c) (s := 0) (HE.1.trans en) (HE.2.trans em) nr mr (by omega)
    rw [show ((0 : Nat) : Int) = 0 from rfl] at MC
    refine pc_sv MC ?_; intro u18 q18
    unfold qf_X13_fails at er
    obtain ⟨u2, eu2, er⟩ := sv_i er
    have q2 := rr_make (nn := nn) (a := c) (s := 0) en em nr mr (by omega) u2 (by rw [show ((0 : Nat) : Int) = 0 from rfl]; exact eu2)
    refine pc_xl ?_; intro h19 e19
    rcases q18 with ⟨a1, a2, a3⟩ | ⟨a1, a2, a3⟩
    · rcases q2 with ⟨b1, b2, b3⟩ | ⟨b1, b2, b3⟩
      · rw [if_pos (show u2.1 ≤ 0 by omega), b3] at er
        have er := Option.some.inj er
        unfold qj_X5_go_40
        rw [e19, up_s, if_pos (show u18.1 ≤ 0 by omega), a3]
        refine E55 _ ?_ (fun c j w => by rw [up_n (by omega), up_n (by omega)])
        rw [← er]
        exact rnx_20 (.inr (rr_room R))
      · exfalso; omega
    · rcases q2 with ⟨b1, b2, b3⟩ | ⟨b1, b2, b3⟩
      · exfalso; omega
      · rw [if_neg (show ¬ u2.1 ≤ 0 by omega)] at er
        obtain ⟨u4, eu4, er⟩ := sv_i er
        have er := Option.some.inj er
        rw [er] at eu4
        have a3' := a3
        rw [← esr] at a3'
        have R2 := rr_mk (a := c) R en em (.inl ⟨by omega, by have := E.2.2.2.1.1; omega⟩) a1 ⟨a3'.1, a3'.2.1, ⟨by rw [a3.2.2.1.1, esr], a3.2.2.1.2⟩, a3.2.2.2⟩ b3
        have F18 : ∀ c j : Nat, ¬ (143 ≤ c ∧ c ≤ 152) → u18.2 c j = g c j := fun c j w => a3.1 c j (by omega) (by omega) (by omega) (by omega)
        refine UP u18.1 h19 u2.2 (by rw [e19, up_s]) ⟨by omega, by rw [b3.2.1.1]; omega, ?_⟩ (by rw [b3.2.1.1]; omega) ?_ (rr_143 R2 (fun c j w => by rw [e19, up_n (by omega)])) (fun j hj => ?_) (fun c j w => by rw [e19, up_n (by omega)]; exact F18 c j w) ?_
        · rw [a2, Int.toNat_natCast, b3.2.2.1.1]; omega
        · exact en_k Ez (fun c j _ w => by rw [e19, up_n (by omega)]; exact F18 c j w) (fun x j w1 w2 => b3.1 x j (by omega) (by omega) (by omega)) (b3.1 160 98 (by omega) (by omega) (by omega))
        · rw [b3.1 253 j (by omega) (by omega) (by omega), FZ 253 j (by omega)]; exact PL j hj
        · rw [show u18.1 = u2.1 by omega]; exact eu4
  · rw [if_pos (by omega)]
    have Ez : ENa Bf nf cnt g z := en_k E (fun _ _ _ _ => rfl) (fun x j _ _ => FZ x j (by omega)) (FZ 160 98 (by omega))
    exact UP o g z e20 ho (by rw [FZ 160 141 (by omega)]; omega) Ez R (fun j hj => by rw [FZ 253 j (by omega)]; exact PL j hj) (fun _ _ _ => rfl) er
end

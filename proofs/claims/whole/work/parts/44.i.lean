/- HEADS: one member of both sides -/
def AHc (h u : ms_M) : Prop := ∀ cc y : Nat, ¬ (cc = 2 ∧ (y = 10 ∨ y = 11 ∨ y = 12)) → ¬ (17 ≤ cc ∧ cc ≤ 29 ∧ ¬ cc = 20 ∧ ¬ cc = 26) → u cc y = h cc y
def AHr (r v : ms_M) : Prop := ∀ cc y : Nat, ¬ (cc = 160 ∧ (y = 9 ∨ y = 10)) → ¬ cc = 187 → ¬ cc = 195 → v cc y = r cc y
def JMH (V : Nat → Int) (C : Nat → Nat) (n m : Nat) (q : Int) (h r u v : ms_M) : Prop := SFj u v ∨ ((u 2 10 = q ∧ u 2 11 = 0 ∧ v 160 9 = 0) ∧ MTB V C n (m + 1) q u v ∧ AHc h u ∧ AHr r v)
section
variable {nn : Nat} {K P V U : Nat → Int} {C : Nat → Nat} {c n N : Nat} {h g r w u v g0 r0 : ms_M}
theorem mbm_k {j x : Nat} (M : MBm V C n h r j x) (eu : ∀ cc y : Nat, ((cc = 22 ∨ cc = 23 ∨ cc = 24 ∨ cc = 25 ∨ cc = 27) ∧ y = x) ∨ ((cc = 28 ∨ cc = 29) ∧ 6 * x ≤ y ∧ y < 6 * x + 6) → u cc y = h cc y) (ev : ∀ cc y : Nat, cc = 169 ∨ cc = 182 ∨ cc = 183 ∨ cc = 184 ∨ cc = 185 ∨ cc = 186 ∨ cc = 188 ∨ cc = 189 ∨ cc = 190 ∨ cc = 191 ∨ cc = 192 ∨ cc = 193 ∨ cc = 194 ∨ (cc = 187 ∧ y = j) → v cc y = r cc y) (e5 : ∀ i : Nat, (i : Int) < r 189 j → v 195 ((r 188 j).toNat + i) = r 195 ((r 188 j).toNat + i)) : MBm V C n u v j x := by
  obtain ⟨⟨a1, a2⟩, a3, ⟨a4, a5, a6, a7⟩, a8, a9⟩ := M
  unfold MBm
  rw [ev 182 j (by omega), ev 183 j (by omega), ev 184 j (by omega), ev 185 j (by omega), ev 186 j (by omega), ev 187 j (by omega), ev 188 j (by omega), ev 189 j (by omega), ev 190 j (by omega), ev 169 _ (by omega), eu 22 x (by omega), eu 23 x (by omega), eu 24 x (by omega), eu 25 x (by omega), eu 27 x (by omega)]
  refine ⟨⟨a1, a2⟩, a3, ⟨a4, a5, a6, a7⟩, fun i hi => ?_, a9⟩
  rw [ev 194 _ (by omega), ev 191 _ (by omega), ev 192 _ (by omega), ev 193 _ (by omega), e5 i hi, eu 28 _ (by omega), eu 29 _ (by omega)]
  exact a8 i hi
theorem mtb_f {m k t : Nat} {q0 q ty : Int} (tys : TYS V C n (r 184 m) (r 183 m) (r 185 m) ty) (M : MTB V C n m q0 h r) (hk : k < 8) (A : MSm r k 0 m) (c12 : mcn_T r k 0 m < 12) (nt : ¬ TWm V r m k 0 (V t)) (e186 : r 186 m = (t : Int)) (e189 : r 189 m = 0) (qq : q0 ≤ q) (ty1 : VTy ty ∧ ¬ ty = 300) (ty3 : ¬ ty = 303) (ev : v = up_M r 187 m (ty_T ty)) (G : u 17 k = (mcn_T r k 0 m : Int) + 1 ∧ u 18 (12 * k + mcn_T r k 0 m) = V t ∧ u 19 (12 * k + mcn_T r k 0 m) = ty) (eu : ∀ cc y : Nat, ¬ cc = 2 → ¬ (cc = 17 ∧ y = k) → ¬ ((cc = 18 ∨ cc = 19) ∧ y = 12 * k + mcn_T r k 0 m) → u cc y = h cc y) : MTB V C n (m + 1) q u v := by
  have F : ∀ cc y : Nat, ¬ (cc = 187 ∧ y = m) → v cc y = r cc y := fun cc y z => by rw [ev, up_n z]
  have mc : ∀ (k s : Int) (j : Nat), mcn_T v k s j = mcn_T r k s j := fun k s j => mcn_k (fun cc x z => F cc x (by omega)) j
  have ms : ∀ (k s : Int) (j : Nat), MSm v k s j ↔ MSm r k s j := fun k s j => msm_k (F 181 j (by omega)) (F 182 j (by omega))
  have am := A.2
  have m0 := M.1 k hk
  refine ⟨fun k' hk' => ?_, fun j k' hj hk' q' => ?_, fun j k' hj hk' q' => ?_, fun i j k' s' ij hj qi qj => ?_, fun j i hj hi => ?_⟩
  · obtain ⟨⟨m1, m2⟩, m3, m4⟩ := M.1 k' hk'
    have n1 : ¬ MSm r k' 1 m := fun z => by have := (msm_u A z).2; omega
    rw [mc, mc, mcn_n n1, eu 21 k' (by omega) (by omega) (by omega)]
    by_cases kk : k' = k
    · rw [kk, mcn_s A, G.1]
      rw [kk] at m2 m4
      exact ⟨⟨by omega, m2⟩, by omega, m4⟩
    · have n0 : ¬ MSm r k' 0 m := fun z => by have := (msm_u A z).1; omega
      rw [mcn_n n0, eu 17 k' (by omega) (by omega) (by omega)]
      exact ⟨⟨m1, m2⟩, m3, m4⟩
  · have q2 := (ms _ _ _).mp q'
    rw [mc]
    by_cases jm : j = m
    · rw [jm] at q2 ⊢
      have kk : k' = k := by have := (msm_u A q2).1; omega
      rw [kk]
      refine ⟨?_, ?_, ?_, ?_⟩
      · rw [G.2.1, F 186 m (by omega), e186, Int.toNat_natCast]
      · rw [G.2.2, ev, up_s]; exact ⟨ty1.1, ty1.2, rfl⟩
      · rw [G.2.2]; exact ty3
      · rw [G.2.2, F 183 m (by omega), F 184 m (by omega), F 185 m (by omega)]; exact tys
    · have old := M.2.1 j k' (by omega) hk' q2
      have lt := mcn_lt (r := r) (i := j) (j := m) (by omega) q2
      have ne : ¬ 12 * k' + mcn_T r k' 0 j = 12 * k + mcn_T r k 0 m := fun e => jm (mix_i q2 A (by have := (M.1 k' hk').2.1; omega) c12 e)
      unfold MBf
      rw [eu 18 _ (by omega) (by omega) (by omega), eu 19 _ (by omega) (by omega) (by omega), F 186 j (by omega), F 187 j (by omega), F 183 j (by omega), F 184 j (by omega), F 185 j (by omega)]
      exact old
  · have q2 := (ms _ _ _).mp q'
    rw [mc]
    have jm : ¬ j = m := fun e => by rw [e] at q2; have := (msm_u A q2).2; omega
    exact mbm_k (M.2.2.1 j k' (by omega) hk' q2) (fun cc y z => eu cc y (by omega) (by omega) (by omega)) (fun cc y z => F cc y (by omega)) (fun i hi => F 195 _ (by omega))
  · have qi2 := (ms _ _ _).mp qi
    have qj2 := (ms _ _ _).mp qj
    rw [F 186 i (by omega), F 186 j (by omega)]
    by_cases jm : j = m
    · rw [jm] at qj2 ⊢
      have e := msm_u A qj2
      rw [e186, Int.toNat_natCast]
      intro z
      rw [← e.1, ← e.2] at qi2
      exact nt ⟨i, by omega, qi2, z⟩
    · exact M.2.2.2.1 i j k' s' ij (by omega) qi2 qj2
  · rw [F 189 j (by omega)] at hi
    rw [F 188 j (by omega), F 194 _ (by omega)]
    by_cases jm : j = m
    · rw [jm, e189] at hi; omega
    · have := M.2.2.2.2 j i (by omega) hi; omega
theorem mtb_m {m k t b tot : Nat} {q0 q ty : Int} (tys : TYS V C n (r 184 m) (r 183 m) (r 185 m) ty) (M : MTB V C n m q0 h r) (hk : k < 8) (A : MSm r k 1 m) (c12 : mcn_T r k 1 m < 12) (nt : ¬ TWm V r m k 1 (V t)) (e186 : r 186 m = (t : Int)) (e188 : r 188 m = (b : Int)) (e189 : r 189 m = (tot : Int)) (qq : q0 ≤ q) (HP : ∀ i : Nat, i < tot → q0 ≤ r 194 (b + i) ∧ r 194 (b + i) < q) (v187 : v 187 m = ty_T ty) (ty1 : VTy ty ∧ ¬ ty = 300) (ev : ∀ cc y : Nat, ¬ (cc = 187 ∧ y = m) → ¬ (cc = 160 ∧ (y = 9 ∨ y = 10)) → ¬ (cc = 195 ∧ b ≤ y ∧ y < b + tot) → v cc y = r cc y) (G : (u 21 k = (mcn_T r k 1 m : Int) + 1 ∧ u 22 (12 * k + mcn_T r k 1 m) = (t : Int) ∧ u 24 (12 * k + mcn_T r k 1 m) = ty) ∧ ((r 182 m = 2 ∧ u 25 (12 * k + mcn_T r k 1 m) = 1) ∨ (r 182 m = 1 ∧ u 25 (12 * k + mcn_T r k 1 m) = 0)) ∧ u 23 (12 * k + mcn_T r k 1 m) = r 169 (r 190 m).toNat) (PS : PST V C n (12 * k + mcn_T r k 1 m) b tot u v) (eu : ∀ cc y : Nat, ¬ cc = 2 → ¬ (cc = 21 ∧ y = k) → ¬ ((cc = 22 ∨ cc = 23 ∨ cc = 24 ∨ cc = 25 ∨ cc = 27) ∧ y = 12 * k + mcn_T r k 1 m) → ¬ ((cc = 28 ∨ cc = 29) ∧ 6 * (12 * k + mcn_T r k 1 m) ≤ y ∧ y < 6 * (12 * k + mcn_T r k 1 m) + 6) → u cc y = h cc y) : MTB V C n (m + 1) q u v := by
  have mc : ∀ (k s : Int) (j : Nat), mcn_T v k s j = mcn_T r k s j := fun k s j => mcn_k (fun cc x z => ev cc x (by omega) (by omega) (by omega)) j
  have ms : ∀ (k s : Int) (j : Nat), MSm v k s j ↔ MSm r k s j := fun k s j => msm_k (ev 181 j (by omega) (by omega) (by omega)) (ev 182 j (by omega) (by omega) (by omega))
  have am := A.2
  have m0 := M.1 k hk
  refine ⟨fun k' hk' => ?_, fun j k' hj hk' q' => ?_, fun j k' hj hk' q' => ?_, fun i j k' s' ij hj qi qj => ?_, fun j i hj hi => ?_⟩
  · obtain ⟨⟨m1, m2⟩, m3, m4⟩ := M.1 k' hk'
    have n1 : ¬ MSm r k' 0 m := fun z => by have := (msm_u A z).2; omega
    rw [mc, mc, mcn_n n1, eu 17 k' (by omega) (by omega) (by omega) (by omega)]
    by_cases kk : k' = k
    · rw [kk, mcn_s A, G.1.1]
      rw [kk] at m1 m3
      exact ⟨⟨m1, by omega⟩, m3, by omega⟩
    · have n0 : ¬ MSm r k' 1 m := fun z => by have := (msm_u A z).1; omega
      rw [mcn_n n0, eu 21 k' (by omega) (by omega) (by omega) (by omega)]
      exact ⟨⟨m1, m2⟩, m3, m4⟩
  · have q2 := (ms _ _ _).mp q'
    rw [mc]
    have jm : ¬ j = m := fun e => by rw [e] at q2; have := (msm_u A q2).2; omega
    have old := M.2.1 j k' (by omega) hk' q2
    unfold MBf
    rw [eu 18 _ (by omega) (by omega) (by omega) (by omega), eu 19 _ (by omega) (by omega) (by omega) (by omega), ev 186 j (by omega) (by omega) (by omega), ev 187 j (by omega) (by omega) (by omega), ev 183 j (by omega) (by omega) (by omega), ev 184 j (by omega) (by omega) (by omega), ev 185 j (by omega) (by omega) (by omega)]
    exact old
  · have q2 := (ms _ _ _).mp q'
    rw [mc]
    by_cases jm : j = m
    · rw [jm] at q2 ⊢
      have kk : k' = k := by have := (msm_u A q2).1; omega
      rw [kk]
      unfold MBm
      rw [ev 183 m (by omega) (by omega) (by omega), ev 184 m (by omega) (by omega) (by omega), ev 185 m (by omega) (by omega) (by omega), ev 186 m (by omega) (by omega) (by omega), ev 182 m (by omega) (by omega) (by omega), ev 188 m (by omega) (by omega) (by omega), ev 189 m (by omega) (by omega) (by omega), ev 190 m (by omega) (by omega) (by omega), ev 169 _ (by omega) (by omega) (by omega), e186, e188, e189, v187, G.1.2.1, G.1.2.2]
      refine ⟨⟨rfl, ty1.1, ty1.2, rfl⟩, G.2.1, ⟨PS.1.1, by omega, by have := PS.1.2; omega, by omega⟩, fun i hi => ?_, G.2.2, tys⟩
      rw [Int.toNat_natCast]
      exact PS.2 i (by omega)
    · have old := M.2.2.1 j k' (by omega) hk' q2
      have lt := mcn_lt (r := r) (i := j) (j := m) (by omega) q2
      have cj := (M.1 k' hk').2.2
      have ne : ¬ 12 * k' + mcn_T r k' 1 j = 12 * k + mcn_T r k 1 m := fun e => jm (mix_i q2 A (by omega) c12 e)
      refine mbm_k old (fun cc y z => eu cc y (by omega) (by omega) (by omega) (by omega)) (fun cc y z => ev cc y (by omega) (by omega) (by omega)) (fun i hi => ev 195 _ (by omega) (by omega) (fun z => ?_))
      -- its parameters stand elsewhere
      have p1 := M.2.2.2.2 j i (by omega) hi
      have p2 := HP ((r 188 j).toNat + i - b) (by omega)
      rw [show b + ((r 188 j).toNat + i - b) = (r 188 j).toNat + i by omega] at p2
      omega
  · have qi2 := (ms _ _ _).mp qi
    have qj2 := (ms _ _ _).mp qj
    rw [ev 186 i (by omega) (by omega) (by omega), ev 186 j (by omega) (by omega) (by omega)]
    by_cases jm : j = m
    · rw [jm] at qj2 ⊢
      have e := msm_u A qj2
      rw [e186, Int.toNat_natCast]
      intro z
      rw [← e.1, ← e.2] at qi2
      exact nt ⟨i, by omega, qi2, z⟩
    · exact M.2.2.2.1 i j k' s' ij (by omega) qi2 qj2
  · rw [ev 189 j (by omega) (by omega) (by omega)] at hi
    rw [ev 188 j (by omega) (by omega) (by omega), ev 194 _ (by omega) (by omega) (by omega)]
    by_cases jm : j = m
    · rw [jm, e189] at hi
      rw [jm, e188, Int.toNat_natCast]
      exact (HP i (by omega)).2
    · have := M.2.2.2.2 j i (by omega) hi; omega
/-- n parameters: their names' tokens -/
theorem prl_n {xe : Int} : ∀ (d i : Nat) (p : Int), 0 ≤ p → PRL K r d (i : Int) p xe → p ≤ xe ∧ ∀ j : Nat, j < d → (p ≤ r 194 (i + j) ∧ r 194 (i + j) < xe) ∧ K (r 194 (i + j)).toNat = 2 := by
  intro d
  induction d with
  | zero => intro i p hp H; have e : xe = p := H; exact ⟨by omega, fun j hj => absurd hj (by omega)⟩
  | succ d ih =>
    intro i p hp H
    obtain ⟨t, bs, rw, T, R, kt, H2⟩ := H
    have tb := tyk_b T
    rw [Int.toNat_natCast] at R
    rcases H2 with ⟨d0, x1⟩ | ⟨d0, k47, H3⟩
    · refine ⟨by omega, fun j hj => ?_⟩
      rw [show i + j = i by omega, R.2.2.2]
      exact ⟨by omega, kt⟩
    · have q := ih (i + 1) (t + 2) (by omega) (by rw [show ((i + 1 : Nat) : Int) = (i : Int) + 1 by omega]; exact H3)
      refine ⟨by omega, fun j hj => ?_⟩
      by_cases j0 : j = 0
      · rw [j0, Nat.add_zero, R.2.2.2]
        exact ⟨by omega, kt⟩
      · have q2 := q.2 (j - 1) (by omega)
        rw [show i + 1 + (j - 1) = i + j by omega] at q2
        exact ⟨by omega, q2.2⟩
/-- the reference's member: its type, then the rest -/
theorem r_mh (BK : TBn K c) (S : CKd K V C n N) (n8 : n ≤ 8) (D : HDr K P V C c n r) (rf : r 160 9 = 0) {m p : Nat} {bs rw : Int} (R : r 183 m = bs ∧ r 184 m = (p : Int) ∧ r 185 m = rw) (hb : bs = 0 ∨ bs = 1 ∨ bs = 2 ∨ (bs = 3 ∧ K p = 2)) (hr : rw = 0 ∨ rw = 1) {Q : ms_M → Prop} (Z5 : bs = 3 → CLz (fun k => V (C k)) n (V p) (-1) → ∀ v : ms_M, v 160 9 = 5 → v 160 10 = P p → Q v) (Z0 : ∀ ty : Int, TYS V C n (p : Int) bs rw ty → ∀ v : ms_M, v = up_M r 187 m (ty_T ty) → Pc (qw_X13_memberHead_35 nn nn (m : Int) 0 0 0 v) Q) : Pc (qf_X13_memberHead nn (m : Int) r) Q := by
  unfold qf_X13_memberHead
  refine pc_rA ?_; intro _ _ v75 e75
  refine pc_rA ?_; intro _ _ v77 e77
  refine pc_rA ?_; intro _ _ v79 e79
  rw [Int.toNat_natCast] at e75 e77 e79
  rw [R.1] at e75
  rw [R.2.1] at e77
  rw [R.2.2] at e79
  rw [e75, e77, e79]
  refine pc_sv (r_type BK S n8 D rf (p := p) (bs := bs) (rw := rw) hb hr) ?_; intro u81 q81
  refine pc_wA ?_; intro _ _ h82 e82
  rw [Int.toNat_natCast] at e82
  rcases q81 with ⟨⟨ty, q1, q2⟩, q3⟩ | q5
  · exact Z0 ty q1 h82 (by rw [e82, q2, q3])
  · have f9 : h82 160 9 = 5 := by rw [e82, up_n (by omega)]; exact q5.2.2.1
    have f10 : h82 160 10 = P p := by rw [e82, up_n (by omega)]; exact q5.2.2.2
    exact pc_imp (ft_qw_X13_memberHead_35 nn _ _ _ _ _ (by rw [f9]; decide)) (fun v G => Z5 q5.1 q5.2.1 v (by rw [G.1]; exact f9) (by rw [G.2]; exact f10))
end

/- VERIFY: the class above, the same texts -/
/-- the class above c, or -1 -/
noncomputable def sp_F (Bf : Nat → Nat → Int) (nf : Nat → Nat) (cnt : Int) (c : Int) : Int := if c < 8 then bi_A c.toNat else lo_S Bf nf cnt (fun i => Bf (c - 8).toNat (na_S (Bf (c - 8).toNat) (nf (c - 8).toNat) (nu_S (Bf (c - 8).toNat) (nf (c - 8).toNat)) + i)) (tl_S (Bf (c - 8).toNat) (nf (c - 8).toNat) (nu_S (Bf (c - 8).toNat) (nf (c - 8).toNat)))
/-- text t of the one is text s of the other -/
def TXq (B : Nat → Int) (n : Nat) (t : Int) (C : Nat → Int) (m : Nat) (s : Int) : Prop := tl_S B n t = tl_S C m s ∧ ∀ i : Nat, i < tl_S B n t → B (na_S B n t + i) = C (na_S C m s + i)
/-- the class's space with what is above -/
def CSw (Bf : Nat → Nat → Int) (nf : Nat → Nat) (h : ms_M) : Prop := CSv Bf nf h ∧ KNr Bf nf h
section
variable {nn : Nat} {Bf : Nat → Nat → Int} {nf : Nat → Nat} {cnt : Int} {B C : Nat → Int} {n m b d k : Nat} {M h g r h0 : ms_M}
theorem csw_k (S : CSw Bf nf h) (A : ∀ c j : Nat, c < 160 ∨ 256 ≤ c → ¬ (127 ≤ c ∧ c ≤ 135) → g c j = h c j) : CSw Bf nf g := by
  refine ⟨csv_k S.1 A, ?_⟩
  obtain ⟨n1, n2, n3, n4⟩ := S.2
  have e3 : g 56 3 = h 56 3 := A _ _ (by omega) (by omega)
  refine ⟨?_, fun j hj => by rw [A _ _ (by omega) (by omega)]; exact n2 j hj, fun j hj h2 => by rw [A _ _ (by omega) (by omega)]; exact n3 j hj (by omega), fun k hk => by rw [A 58 _ (by omega) (by omega), e3]; exact n4 k (by omega)⟩
  have ef : g (57 + 1) = h (57 + 1) := funext (fun j => A _ _ (by omega) (by omega))
  unfold un_R
  rw [ef]
  intro x y hx hy
  rw [show g (57 + 2) (16 * x + y) = h (57 + 2) (16 * x + y) from A _ _ (by omega) (by omega)]
  exact n1 x y hx hy
theorem sp_lt {c : Nat} (h8 : c < 8) : sp_F Bf nf cnt (c : Int) = bi_A c := by
  unfold sp_F
  rw [if_pos (by omega), Int.toNat_natCast]
theorem sp_ge : sp_F Bf nf cnt (8 + (k : Int)) = lo_S Bf nf cnt (fun i => Bf k (na_S (Bf k) (nf k) (nu_S (Bf k) (nf k)) + i)) (tl_S (Bf k) (nf k) (nu_S (Bf k) (nf k))) := by
  unfold sp_F
  rw [if_neg (by omega), show (8 + (k : Int) - 8).toNat = k by omega]
theorem sp_rg (c8 : cnt ≤ 8) {c : Int} (hc : 0 ≤ c ∧ c < 16) : -1 ≤ sp_F Bf nf cnt c ∧ sp_F Bf nf cnt c < 16 := by
  unfold sp_F
  by_cases q : c < 8
  · rw [if_pos q]
    unfold bi_A
    split
    · omega
    · split <;> omega
  · rw [if_neg q]
    rcases lo_rg (Bf := Bf) (nf := nf) c8 (f := fun i => Bf (c - 8).toNat (na_S (Bf (c - 8).toNat) (nf (c - 8).toNat) (nu_S (Bf (c - 8).toNat) (nf (c - 8).toNat)) + i)) (m := tl_S (Bf (c - 8).toNat) (nf (c - 8).toNat) (nu_S (Bf (c - 8).toNat) (nf (c - 8).toNat))) with z | z
    · omega
    · omega
/-- a class of the space -/
def ISc (cnt c : Int) : Prop := 0 ≤ c ∧ c < 8 + cnt
theorem lo_is (h0' : 0 ≤ cnt) {f : Nat → Int} {m : Nat} : lo_S Bf nf cnt f m = -1 ∨ ISc cnt (lo_S Bf nf cnt f m) := by
  unfold ISc
  rcases lo_ok (Bf := Bf) (nf := nf) (cnt := cnt) (f := f) (m := m) with ⟨k, k1, k2, -⟩ | ⟨⟨c, c1, c2, -⟩ | ⟨c1, -⟩, -⟩
  · omega
  · omega
  · omega
theorem sp_is (c0 : 0 ≤ cnt) {c : Int} (hc : 0 ≤ c) : sp_F Bf nf cnt c = -1 ∨ ISc cnt (sp_F Bf nf cnt c) := by
  unfold sp_F
  by_cases q : c < 8
  · rw [if_pos q]
    unfold bi_A ISc
    split
    · omega
    · split <;> omega
  · rw [if_neg q]; exact lo_is c0
/-- THE CLASS ABOVE, the class's side -/
theorem kn_sp58 (S : CSw Bf nf h) {c : Int} (hc : ISc (h 56 3) c) : h 58 c.toNat = sp_F Bf nf (h 56 3) c := by
  obtain ⟨hc0, hc1⟩ := hc
  have g3 := S.1.1
  obtain ⟨n1, n2, n3, n4⟩ := S.2
  by_cases q : c < 8
  · have a := n2 c.toNat (by omega)
    rw [a, show c = ((c.toNat : Nat) : Int) by omega, sp_lt (by omega), Int.toNat_natCast]
  · have a := n4 (c - 8).toNat (by omega)
    rw [show 8 + (c - 8).toNat = c.toNat by omega] at a
    have e : c = 8 + (((c - 8).toNat : Nat) : Int) := by omega
    rw [lo_e a]
    rw [e, sp_ge, show (8 + (((c - 8).toNat : Nat) : Int) - 8).toNat = (c - 8).toNat by omega]
theorem vc_above (S : CSw Bf nf h) {c : Int} (hc : ISc (h 56 3) c) : Pc (qf_X4_above nn 57 c h) (fun u => u = sp_F Bf nf (h 56 3) c) := by
  have g3 := S.1.1
  have hc' := hc
  unfold ISc at hc'
  unfold qf_X4_above qf_X4_isClass
  refine pc_sv (P := fun u => u = 1) (pc_if (fun z => absurd z (by omega)) (fun _ => pc_if (fun z => absurd z (by omega)) (fun _ => pc_ret rfl))) ?_
  intro u1 q1
  refine pc_if (fun z => absurd z (by omega)) (fun _ => ?_)
  refine pc_rA ?_; intro _ _ v3 e3
  exact pc_ret (e3.trans (kn_sp58 S hc))
/-- .. the reference's side -/
theorem vr_super (N : NKn Bf nf (h 160 98)) (S : RSv Bf nf h) {c : Int} (hc : ISc (h 160 98) c) : Pc (qf_X13_superOf nn c h) (fun u => u = sp_F Bf nf (h 160 98) c) := by
  obtain ⟨hc0, hc1⟩ := hc
  by_cases q : c < 8
  · unfold qf_X13_superOf
    refine pc_if (fun z => absurd z (by omega)) (fun _ => ?_)
    have e : sp_F Bf nf (h 160 98) c = bi_A c.toNat := by unfold sp_F; rw [if_pos q]
    rw [e]
    refine pc_if (fun z => ?_) (fun z => ?_)
    · refine pc_if (fun w => pc_ret ?_) (fun w => pc_ret ?_)
      · unfold bi_A; rw [if_neg (by omega), if_pos (by omega)]
      · unfold bi_A; rw [if_pos (by omega)]
    · refine pc_ret ?_
      unfold bi_A; rw [if_neg (by omega), if_neg (by omega)]
  · have e : c = 8 + (((c - 8).toNat : Nat) : Int) := by omega
    rw [e]
    refine pc_imp (r_super S.1 S.2 (by omega)) (fun u z => ?_)
    rw [sp_ge]
    exact (cl_cn N lo_ok z).symm
/-- THE SAME TEXTS, the class's side -/
theorem vc_same (S : CSv Bf nf h) {j : Nat} (hk : (k : Int) < h 56 3) (hj : (j : Int) < h 56 3) {t s : Int} (t1 : tg_S (Bf k) (nf k) t = 1) (s1 : tg_S (Bf j) (nf j) s = 1) : Pc (qf_X3_sameText nn (h 60 k).toNat t (h 60 j).toNat s h) (fun u => (u = 1 ∧ TXq (Bf k) (nf k) t (Bf j) (nf j) s) ∨ (u = 0 ∧ ¬ TXq (Bf k) (nf k) t (Bf j) (nf j) s)) := by
  have X := S.2 k hk
  have Y := S.2 j hj
  obtain ⟨c1, c2, c3⟩ := c_text (nn := nn) X.1 t1
  obtain ⟨d1, d2, d3⟩ := c_text (nn := nn) Y.1 s1
  unfold qf_X3_sameText
  refine pc_sv (P := fun u => u = ((na_S (Bf k) (nf k) t : Nat) : Int)) (fun u eu => by rw [c1] at eu; exact (Option.some.inj eu).symm) ?_; intro u2 q2
  refine pc_sv (P := fun u => u = ((na_S (Bf k) (nf k) t + tl_S (Bf k) (nf k) t : Nat) : Int)) (fun u eu => by rw [c2] at eu; exact (Option.some.inj eu).symm) ?_; intro u4 q4
  refine pc_ck (fun _ => ?_)
  refine pc_sv (P := fun u => u = ((na_S (Bf j) (nf j) s : Nat) : Int)) (fun u eu => by rw [d1] at eu; exact (Option.some.inj eu).symm) ?_; intro u6 q6
  refine pc_sv (P := fun u => u = ((na_S (Bf j) (nf j) s + tl_S (Bf j) (nf j) s : Nat) : Int)) (fun u eu => by rw [d2] at eu; exact (Option.some.inj eu).symm) ?_; intro u8 q8
  rw [q2, q4, q6, q8]
  refine pc_sv (c_same X.1.1 Y.1.1 (by omega) (by omega)) ?_; intro u10 q10
  refine pc_ck (fun _ => pc_ret ?_)
  rw [show na_S (Bf k) (nf k) t + tl_S (Bf k) (nf k) t - na_S (Bf k) (nf k) t = tl_S (Bf k) (nf k) t by omega, show na_S (Bf j) (nf j) s + tl_S (Bf j) (nf j) s - na_S (Bf j) (nf j) s = tl_S (Bf j) (nf j) s by omega] at q10
  exact q10
end

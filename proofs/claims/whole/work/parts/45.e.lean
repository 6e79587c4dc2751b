/- THE POOL of both sides: MEMBER -/
/-- texts of both sides, while bodies are made -/
def TXE (K V : Nat → Int) (C : Nat → Nat) (W : Nat → List Int) (n : Nat) (a b h m : ms_M) : Prop := (NTB h ∧ NKc W (8 + n) h ∧ NMz h 31 [91, 73]) ∧ (∀ cc y : Nat, (17 ≤ cc ∧ cc ≤ 29) → h cc y = a cc y) ∧ (NKf W a 96 h ∧ NKm W a 96 h) ∧ (∀ t : Nat, K t = 2 → ∃ A : List Int, TLt m t A ∧ NMz h (V t) A) ∧ WSr W C n m ∧ ∀ cc y : Nat, (178 ≤ cc ∧ cc ≤ 195) → m cc y = b cc y
section
variable {nn : Nat} {K P V U D : Nat → Int} {C : Nat → Nat} {c n N mt : Nat} {q : Int} {h g r w u v a b m m0 : ms_M} {L A : List Int} {W : Nat → List Int}
theorem ntb_f (T : NTB g) (e : ∀ cc y : Nat, (6 ≤ cc ∧ cc ≤ 9) ∨ (cc = 2 ∧ y = 9) → u cc y = g cc y) : NTB u := by
  have e7 : ∀ i, u 7 i = g 7 i := fun i => e 7 i (by omega)
  have e6 : ∀ i, u 6 i = g 6 i := fun i => e 6 i (by omega)
  have e9 : u 2 9 = g 2 9 := e 2 9 (by omega)
  have nm : ∀ i l t, NMt u i l t → NMt g i l t := fun i l t M => ⟨by have := M.1; unfold ln_T at this ⊢; rw [← e7, ← e7]; exact this, fun k hk => by have := M.2 k hk; rw [e7, e6] at this; exact this⟩
  have bn : ∀ i, bn_T u i = bn_T g i := fun i => by unfold bn_T ln_T; rw [e7, e7, e6, e6]
  obtain ⟨t1, ⟨t2, t3⟩, t4, t5, t6⟩ := T
  refine ⟨by rw [e9, e7]; exact t1, ⟨by rw [e7]; exact t2, fun i hi => by rw [e7, e7]; exact t3 i (by omega)⟩, fun b hb => ?_, fun i hi => ?_, fun i j l t ij hj M1 M2 => t6 i j l t ij (by omega) (nm i l t M1) (nm j l t M2)⟩
  · rw [e 9 b (by omega), e9, pv_e (γ := bn_T g) _ (fun i _ => bn i)]; exact t4 b hb
  · rw [e 8 i (by omega), bn i, pv_e (γ := bn_T g) _ (fun j _ => bn j)]; exact t5 i (by omega)
theorem tlt_k {t : Nat} (T : TLt m t A) (e : ∀ cc y : Nat, cc = 162 ∨ cc = 164 ∨ cc = 165 → w cc y = m cc y) : TLt w t A := by
  obtain ⟨⟨t1, t12⟩, t2, t3⟩ := T
  refine ⟨⟨by rw [e 165 _ (by omega)]; exact t1, t12⟩, by rw [e 164 _ (by omega)]; exact t2, fun i hi => ?_⟩
  rw [e 162 _ (by omega), e 164 _ (by omega)]; exact t3 i hi
/-- the texts stay -/
theorem txe_k (H : TXE K V C W n a b h m) (eh : ∀ cc y : Nat, (6 ≤ cc ∧ cc ≤ 9) ∨ (17 ≤ cc ∧ cc ≤ 30) ∨ (cc = 2 ∧ y = 9) → g cc y = h cc y) (em : ∀ cc y : Nat, cc = 162 ∨ cc = 164 ∨ cc = 165 ∨ (178 ≤ cc ∧ cc ≤ 195) → w cc y = m cc y) : TXE K V C W n a b g w := by
  obtain ⟨⟨x1, x2, x3⟩, x4, ⟨x5, x6⟩, x7, x8, x9⟩ := H
  have nz : ∀ x L, NMz h x L → NMz g x L := fun x L M => nmz_k M (fun cc y z => eh cc y (by omega))
  refine ⟨⟨ntb_f x1 (fun cc y z => eh cc y (by omega)), fun i hi => by rw [eh 30 _ (by omega), eh 30 _ (by omega)]; exact ⟨nz _ _ (x2 i hi).1, nz _ _ (x2 i hi).2⟩, nz _ _ x3⟩, fun cc y z => by rw [eh cc y (by omega)]; exact x4 cc y z, ⟨fun i hi z => by rw [eh 20 _ (by omega)]; exact nz _ _ (x5 i hi z), fun i hi z => by rw [eh 26 _ (by omega)]; exact nz _ _ (x6 i hi z)⟩, fun t kt => ?_, ⟨x8.1, fun k hk => ⟨by rw [em 178 k (by omega)]; exact (x8.2 k hk).1, tlt_k (x8.2 k hk).2 (fun cc y z => em cc y (by omega))⟩⟩, fun cc y z => by rw [em cc y (by omega)]; exact x9 cc y z⟩
  obtain ⟨A, a1, a2⟩ := x7 t kt
  exact ⟨A, tlt_k a1 (fun cc y z => em cc y (by omega)), nz _ _ a2⟩
theorem txe_p {u : Int × ms_M} {w : Int × ms_M} (H : TXE K V C W n a b h m) (X : PCo h m u w) : TXE K V C W n a b u.2 w.2 := txe_k H (fun cc y z => X.2.2.2.1 cc y (by omega) (by omega) (by omega)) (fun cc y z => X.2.2.2.2.1 cc y (by omega) (by omega))
theorem txe_a (H : TXE K V C W n a b h m) (A : ASp m w) : TXE K V C W n a b h w := txe_k H (fun _ _ _ => rfl) (fun cc y z => A cc y (by omega) (by omega))
/-- a token's TEXT -/
theorem j_tok (H : TXE K V C W n a b h m) (S : SPL m []) (R : PLR h m) (MB : MBd m) {t : Nat} (kt : K t = 2) : Pc (qf_X6_constant nn 1 (V t) h) (fun u => Pc (qf_X13_textOf nn (t : Int) m) (fun w => PCo h m u w ∧ SPL w.2 [])) := by
  obtain ⟨A, a1, a2⟩ := H.2.2.2.1 t kt
  refine pc_fl ?_
  unfold qf_X13_textOf
  refine pc_sv (r_spTok a1 S) ?_; intro u2 q2
  refine pc_fl ?_
  refine pc_imp (j_text H.1.1 a2 q2.1 (plr_a q2.2 R) (mbd_a q2.2 MB)) (fun u z => ?_)
  exact pc_sv z (fun w y => pc_ret ⟨pco_a q2.2 y.1, y.2⟩)
/-- the spelling of kinds, and the TEXT -/
theorem j_k56 (n8 : n ≤ 8) (H : TXE K V C W n a b h m0) (A0 : ASp m0 m) {j : Nat} {t x : Int} (vt : VTn n t ∧ ¬ t = 300) (e187 : b 187 j = ty_T t) (S : SPL m L) (R : PLR h m0) (MB : MBd m0) (M : NMz h x (L ++ kd_L W t)) : Pc (qf_X6_constant nn 1 x h) (fun u => Pc (qj_X13_kindOf_56 nn (j : Int) m) (fun w => PCo h m0 u w ∧ SPL w.2 [])) := by
  have Hm := txe_a H A0
  refine pc_fl ?_
  unfold qj_X13_kindOf_56
  refine pc_rA ?_; intro _ _ v2 e2
  rw [Int.toNat_natCast, Hm.2.2.2.2.2 187 j (by omega), e187] at e2
  rw [e2]
  refine pc_sv (r_spKind Hm.2.2.2.2.1 n8 vt S) ?_; intro u4 q4
  have A4 := asp_t A0 q4.2
  refine pc_fl ?_
  refine pc_imp (j_text H.1.1 M q4.1 (plr_a A4 R) (mbd_a A4 MB)) (fun u z => ?_)
  exact pc_sv z (fun w y => pc_ret ⟨pco_a A4 y.1, y.2⟩)
/-- a field's kind -/
theorem j_kindF (n8 : n ≤ 8) (H : TXE K V C W n a b h m) (S : SPL m []) (R : PLR h m) (MB : MBd m) {j x : Nat} (x96 : x < 96) (hx : ((x % 12 : Nat) : Int) < a 17 (x / 12)) (b182 : b 182 j = 0) (vt : VTn n (a 19 x) ∧ ¬ a 19 x = 300) (e187 : b 187 j = ty_T (a 19 x)) : Pc (qf_X6_constant nn 1 (h 20 x) h) (fun u => Pc (qf_X13_kindOf nn (j : Int) m) (fun w => PCo h m u w ∧ SPL w.2 [])) := by
  refine pc_fl ?_
  unfold qf_X13_kindOf
  refine pc_rA ?_; intro _ _ v21 e21
  rw [Int.toNat_natCast, H.2.2.2.2.2 182 j (by omega), b182] at e21
  refine pc_if (fun _ => ?_) (fun y => absurd (by omega) y)
  exact pc_fl (j_k56 n8 H asp_r vt e187 S R MB (H.2.2.1.1 x x96 hx))
/-- a method's kind -/
theorem j_kindM (n8 : n ≤ 8) (H : TXE K V C W n a b h m) (S : SPL m []) (R : PLR h m) (MB : MBd m) {j x pn bp : Nat} (x96 : x < 96) (hx : ((x % 12 : Nat) : Int) < a 21 (x / 12)) (b182 : 0 < b 182 j) (vt : VTn n (a 24 x) ∧ ¬ a 24 x = 300) (e187 : b 187 j = ty_T (a 24 x)) (e27 : a 27 x = (pn : Int)) (e189 : b 189 j = (pn : Int)) (e188 : b 188 j = (bp : Int)) (p6 : pn ≤ 6 ∧ bp ≤ 1500) (hp : ∀ i : Nat, i < pn → (VTn n (a 29 (6 * x + i)) ∧ ¬ a 29 (6 * x + i) = 300) ∧ b 195 (bp + i) = ty_T (a 29 (6 * x + i))) : Pc (qf_X6_constant nn 1 (h 26 x) h) (fun u => Pc (qf_X13_kindOf nn (j : Int) m) (fun w => PCo h m u w ∧ SPL w.2 [])) := by
  have MM := H.2.2.1.2 x x96 hx
  unfold mk_L at MM
  rw [show (a 27 x).toNat = pn by omega] at MM
  have LP : ∀ (f i : Nat) (m1 : ms_M), i ≤ pn → ASp m m1 → SPL m1 (40 :: kz_L W (fun i => a 29 (6 * x + i)) i) → Pc (qw_X13_kindOf_17 nn f (j : Int) (i : Int) m1) (fun w => Pc (qf_X6_constant nn 1 (h 26 x) h) (fun u => PCo h m u w ∧ SPL w.2 [])) := by
    intro f
    induction f with
    | zero => intros; exact pc_none
    | succ f ih =>
      intro i m1 hi A1 S1
      have H1 := txe_a H A1
      unfold qw_X13_kindOf_17
      refine pc_rA ?_; intro _ _ v8 e8
      rw [Int.toNat_natCast, H1.2.2.2.2.2 189 j (by omega), e189] at e8
      refine pc_if (fun z => ?_) (fun z => ?_)
      · have ei : i = pn := by omega
        refine pc_sv (r_spell S1) ?_; intro u10 q10
        refine pc_fl (j_k56 n8 H (asp_t A1 q10.2) vt e187 q10.1 R MB ?_)
        rw [ei]; exact MM
      · have ip : i < pn := by omega
        refine pc_rA ?_; intro _ _ v13 e13
        rw [Int.toNat_natCast, H1.2.2.2.2.2 188 j (by omega), e188] at e13
        refine pc_add (by omega) ?_; intro v14 e14
        refine pc_rA ?_; intro _ _ v15 e15
        rw [show v14.toNat = bp + i by omega, H1.2.2.2.2.2 195 _ (by omega), (hp i ip).2] at e15
        rw [e15]
        refine pc_sv (r_spKind H1.2.2.2.2.1 n8 (hp i ip).1 S1) ?_; intro u17 q17
        refine pc_add (by omega) ?_; intro v18 e18
        rw [show v18 = ((i + 1 : Nat) : Int) by omega]
        exact ih (i + 1) u17 (by omega) (asp_t A1 q17.2) q17.1
  refine pc_fl ?_
  unfold qf_X13_kindOf
  refine pc_rA ?_; intro _ _ v21 e21
  rw [Int.toNat_natCast, H.2.2.2.2.2 182 j (by omega)] at e21
  refine pc_if (fun y => absurd y (by omega)) (fun _ => ?_)
  refine pc_sv (r_spell S) ?_; intro u23 q23
  exact LP nn 0 u23 (by omega) q23.2 q23.1
/-- a MEMBER of both sides, its kind's TEXT as given -/
theorem j_mb3 (n8 : n ≤ 8) (H : TXE K V C W n a b h m) (S : SPL m []) (R : PLR h m) (MB : MBd m) {j t k : Nat} (hk : k < 8 + n) (kt : K t = 2) (e186 : b 186 j = (t : Int)) {F1 F2 : ms_M → Option Int} (G1 : ∀ g w : ms_M, TXE K V C W n a b g w → (∀ cc y : Nat, ¬ (cc = 45 ∧ (y = 4 ∨ y = 5)) → ¬ cc = 46 → ¬ cc = 47 → g cc y = h cc y) → Pc (F1 g) (fun y => y = V t)) (G2 : ∀ g w : ms_M, TXE K V C W n a b g w → SPL w [] → PLR g w → MBd w → ∀ y, F2 g = some y → Pc (qf_X6_constant nn 1 y g) (fun u => Pc (qf_X13_kindOf nn (j : Int) w) (fun w2 => PCo g w u w2 ∧ SPL w2.2 []))) : Pc (mx_sv (qf_X6_classOf nn (k : Int) h) fun u2 => mx_sv (F1 u2.2) fun u5 => mx_sv (qf_X6_constant nn 1 u5 u2.2) fun u7 => xl (oq_shl u2.1 16) fun v8 => xl (oq_shl u7.1 8) fun v9 => xl (oq_or v8 v9) fun v10 => mx_sv (F2 u7.2) fun u13 => mx_sv (qf_X6_constant nn 1 u13 u7.2) fun u15 => xl (oq_or v10 u15.1) fun v16 => mx_sv (qf_X6_constant nn 4 v16 u15.2) fun u18 => some (u18.1, u18.2)) (fun u => Pc (qf_X13_memberConstant nn (k : Int) (j : Int) m) (fun w => PCo h m u w ∧ SPL w.2 [])) := by
  have tk : ty_T (k : Int) = 8 + 2 * (k : Int) := by
    have := ty_c (t := (k : Int)) (.inr (.inr (.inr (.inr (.inr (.inl (by omega)))))))
    omega
  unfold qf_X13_memberConstant
  refine pc_fl ?_
  refine pc_xl ?_; intro v1 e1
  rw [oq_mul_eq (by omega) (by omega) (by omega)] at e1
  refine pc_add (by omega) ?_; intro v2 e2
  rw [show v2 = ty_T (k : Int) by omega]
  refine pc_fl ?_
  refine p2_sv (j_class3 n8 H.1.1 H.1.2.1 H.1.2.2 H.2.2.2.2.1 S R MB (t := (k : Int)) (.inl (by omega))) ?_; intro u2 w4 J1
  have H2 := txe_p H J1.1
  refine pc_sv (G1 u2.2 w4.2 H2 J1.1.2.2.2.1) ?_; intro u5 q5
  rw [q5]
  refine pc_fl ?_
  refine pc_rA ?_; intro _ _ v6 e6
  rw [Int.toNat_natCast, H2.2.2.2.2.2 186 j (by omega), e186] at e6
  rw [e6]
  refine pc_fl ?_
  refine p2_sv (j_tok H2 J1.2 J1.1.1 J1.1.2.2.2.2.2 kt) ?_; intro u7 w8 J2
  have H3 := txe_p H2 J2.1
  refine pc_xl ?_; intro v8 e8
  refine pc_xl ?_; intro v9 e9
  refine pc_xl ?_; intro v10 e10
  refine pc_se ?_; intro u13 e13
  refine p2_sv (G2 u7.2 w8.2 H3 J2.2 J2.1.1 J2.1.2.2.2.2.2 u13 e13) ?_; intro u15 w10 J3
  refine pc_xl ?_; intro v16 e16
  refine p2_se (j_const3 (t := 4) (x := v16) (a := w4.1) (b := w8.1) (c := w10.1) (by decide) (fun z => ?_) J3.1.1 J3.1.2.2.2.2.2) ?_
  · -- not full at the end, so never
    have z7 : u7.2 45 5 = 0 := Classical.byContradiction fun y => by
      rcases J2.1.1 with x | x
      · exact y x.1
      · have := J3.1.2.2.1 x.1; omega
    have z2 : u2.2 45 5 = 0 := Classical.byContradiction fun y => by
      rcases J1.1.1 with x | x
      · exact y x.1
      · have := J2.1.2.2.1 x.1; omega
    have a1 := J1.1.2.1 z2
    have a2 := J2.1.2.1 z7
    have a3 := J3.1.2.1 z
    refine .inr ⟨rfl, ⟨by omega, by omega, by omega⟩, ?_⟩
    rw [e16, e10, e8, e9, oq_mem (by omega) (by omega) (by omega), a1.1, a2.1, a3.1]
  · intro u18 w12 _ ew12 J4
    refine pc_ret (pc_ret ⟨pco_t (pco_t (pco_t J1.1 J2.1) J3.1) J4, ?_⟩)
    obtain ⟨⟨s1, s2⟩, s3⟩ := J3.2
    exact ⟨⟨by rw [show w12.2 160 66 = w10.2 160 66 from ff_X13_constant nn w12 ew12 160 66 rfl]; exact s1, s2⟩, fun k hk => absurd hk (Nat.not_lt_zero _)⟩
end

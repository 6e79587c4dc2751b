/- RUN: what is thrown, whole; behind a step -/
section
variable {nn : Nat} {Bf : Nat → Nat → Int} {nf : Nat → Nat} {cnt : Int} {k i t H d : Nat} {A B g r u z h A1 B0 : ms_M} {o v wd c x a s P l1 l2 : Int}
theorem nw_143 {L : List Nat} {LF : List (Nat × Nat)} {c k : Nat} (q : (L.all (fun x => Nat.ble 143 x && Nat.ble x 152) && LF.all (fun y => Nat.ble 143 y.1 && Nat.ble y.1 152)) = true) (hc : ¬ (143 ≤ c ∧ c ≤ 152)) : nw_F L LF false false c k = true := by
  rw [Bool.and_eq_true] at q
  unfold nw_F
  simp only [Bool.and_eq_true]
  refine ⟨?_, ?_, rfl, rfl⟩
  · cases hq : L.contains c with
    | false => rfl
    | true => have := List.all_eq_true.mp q.1 c (List.contains_iff_mem.mp hq); rw [Bool.and_eq_true, Nat.ble_eq, Nat.ble_eq] at this; omega
  · cases hq : LF.contains (c, k) with
    | false => rfl
    | true => have := List.all_eq_true.mp q.2 _ (List.contains_iff_mem.mp hq); rw [Bool.and_eq_true, Nat.ble_eq, Nat.ble_eq] at this; dsimp only at this; omega
theorem rr_143 (R : RRd Bf nf cnt A B d) (C : ∀ c j : Nat, ¬ (c = 143 ∧ (17 ≤ j ∧ j ≤ 20)) → g c j = A c j) : RRd Bf nf cnt g B d := by
  obtain ⟨⟨⟨a1, a2⟩, ⟨a3, a4⟩, a5, a6, a7⟩, d60, F, E, Pr⟩ := R
  refine ⟨⟨⟨?_, a2⟩, ⟨?_, a4⟩, ?_, ?_, a7⟩, d60, fun j hj => fra_k (F j hj) (C 148 j (by omega)) (C 149 j (by omega)) (C 150 j (by omega)) (fun n hn => C 151 _ (by omega)) (fun n hn => C 152 _ (by omega)) rfl rfl rfl rfl (fun _ _ => rfl), hpa_k E (fun x q => C 143 x (by omega)) (fun c x q1 q2 => C c x (by omega)) (fun _ _ => rfl) (fun _ _ _ _ => rfl), pra_k Pr (C 143 7 (by omega)) (fun x => C 144 x (by omega)) rfl (fun _ => rfl)⟩
  · rw [C 143 1 (by omega)]; exact a1
  · rw [C 143 2 (by omega)]; exact a3
  · rw [C 143 3 (by omega)]; exact a5
  · rw [C 143 6 (by omega)]; exact a6
theorem rnx_20 (R : RNX Bf nf cnt A B) : RNX Bf nf cnt (up_M A 143 20 x) B := by
  rcases R with ⟨d, k, i, R, T⟩ | ⟨e1, e2, e3, e4, e5⟩
  · exact .inl ⟨d, k, i, rr_143 R (fun c j w => up_n (by omega)), tpa_k T (fun c j w => up_n (by omega)) (fun _ _ _ => rfl)⟩
  · have C : ∀ j : Nat, j ≤ 7 → up_M A 143 20 x 143 j = A 143 j := fun j hj => up_n (by omega)
    refine .inr ⟨?_, ?_, pra_k e3 (C 7 (by omega)) (fun x => up_n (by omega)) rfl (fun _ => rfl), ?_, ?_⟩
    · rw [C 1 (by omega)]; exact e1
    · rw [C 3 (by omega), C 4 (by omega), C 5 (by omega), C 6 (by omega)]; exact e2
    · rw [C 1 (by omega), C 2 (by omega)]; exact e4
    · rw [C 1 (by omega), C 2 (by omega)]; exact e5
/-- THROWN -/
theorem jt_thr (o2 : B 160 141 ≤ 2000) (ho : 1 ≤ o ∧ o ≤ B 160 141 ∧ B 246 o.toNat < 99) : ∀ (d : Nat) (A B1 : ms_M), (∀ x j : Nat, ¬ (x = 160 ∧ j = 149) → B1 x j = B x j) → ENa Bf nf cnt A B1 → RRd Bf nf cnt A B1 d → (∀ j : Nat, j < d → 0 ≤ B 253 j ∧ B 253 j ≤ 10000) → ∀ (f1 f2 : Nat) (l2 : Int), 0 ≤ l2 → l2 + (d : Int) ≤ 60 → Pc (qw_X5_throwUp_17 nn f1 o l2 A) (fun g => Pc (qw_X13_thrown_0 nn f2 o B1) (fun r => RNX Bf nf cnt g r)) := by
  intro d
  induction d with
  | zero =>
    intro A B1 FB E R PL f1 f2 l2 l0 ld
    have e149 := R.1.2.2.2.2
    have e6 := R.1.2.2.2.1
    have HP := R.2.2.2.1
    have ob := HP.2.1 o.toNat (by omega) (by rw [FB 160 141 (by omega)]; omega)
    have e246 : B1 246 o.toNat = B 246 o.toNat := FB 246 _ (by omega)
    have C59 : Pc (qj_X5_throwUp_59 nn o A) (fun g => g = up_M (up_M A 143 1 3) 143 2 (B1 246 o.toNat)) := by
      unfold qj_X5_throwUp_59
      refine pc_xl ?_; intro h1 e1
      refine pc_rA ?_; intro _ _ v3 e3
      rw [e1, up_n (by omega), ob.2.1] at e3
      unfold sr_T at e3
      rw [if_neg (by omega)] at e3
      refine pc_xl ?_; intro h4 e4
      exact pc_ret (by rw [e4, e3, e1])
    have FIN : ∀ r : ms_M, r = up_M (up_M B1 160 138 3) 160 139 (B1 246 o.toNat) → RNX Bf nf cnt (up_M (up_M A 143 1 3) 143 2 (B1 246 o.toNat)) r := fun r er => by
      have CA : ∀ c j : Nat, ¬ (c = 143 ∧ (j = 1 ∨ j = 2)) → up_M (up_M A 143 1 3) 143 2 (B1 246 o.toNat) c j = A c j := fun c j w => by rw [up_n (by omega), up_n (by omega)]
      have CB : ∀ x j : Nat, ¬ (x = 160 ∧ (j = 138 ∨ j = 139)) → r x j = B1 x j := fun x j w => by rw [er, up_n (by omega), up_n (by omega)]
      have b1 : up_M (up_M A 143 1 3) 143 2 (B1 246 o.toNat) 143 1 = 3 := by rw [up_n (by omega), up_s]
      have b2 : r 160 138 = 3 := by rw [er, up_n (by omega), up_s]
      refine .inr ⟨⟨by rw [b1, b2], by omega, by omega⟩, ⟨?_, ?_, ?_, ?_⟩, pra_k R.2.2.2.2 (CA 143 7 (by omega)) (fun x => CA 144 x (by omega)) (CB 160 143 (by omega)) (fun x => CB 250 x (by omega)), fun _ => by rw [up_s, er, up_s], fun _ w => absurd b1 w⟩
      · rw [CA 143 3 (by omega), CB 160 140 (by omega)]; exact R.1.2.2.1
      · rw [CA 143 4 (by omega), CB 160 141 (by omega)]; exact HP.1.1
      · rw [CA 143 5 (by omega), CB 160 142 (by omega)]; exact HP.1.2
      · rw [CA 143 6 (by omega), CB 160 149 (by omega), e6, e149]
    have REF : Pc (qw_X13_thrown_0 nn f2 o B1) (fun r => r = up_M (up_M B1 160 138 3) 160 139 (B1 246 o.toNat)) := by
      cases f2 with
      | zero => exact pc_none
      | succ f2 =>
        unfold qw_X13_thrown_0
        refine pc_if (fun _ => ?_) (fun w => absurd (by omega) w)
        refine pc_xl ?_; intro h59 e59
        refine pc_rA ?_; intro _ _ v61 e61
        rw [e59, up_n (by omega)] at e61
        refine pc_xl ?_; intro h62 e62
        exact pc_ret (by rw [e62, e61, e59])
    cases f1 with
    | zero => exact pc_none
    | succ f1 =>
      unfold qw_X5_throwUp_17
      refine pc_if (fun _ => ?_) (fun _ => ?_)
      · refine pc_imp C59 (fun g eg => ?_)
        rw [eg]
        exact pc_imp REF FIN
      · refine pc_if (fun _ => ?_) (fun w => absurd (by omega) w)
        refine pc_imp C59 (fun g eg => ?_)
        rw [eg]
        exact pc_imp REF FIN
  | succ t ih =>
    intro A B1 FB E R PL f1 f2 l2 l0 ld
    have e149 := R.1.2.2.2.2
    have e6 := R.1.2.2.2.1
    have HP := R.2.2.2.1
    obtain ⟨⟨c1, c2, c3⟩, ⟨d1, d2⟩, Nk, HG, VO⟩ := E
    have g3 := HG.1
    have ob := HP.2.1 o.toNat (by omega) (by rw [FB 160 141 (by omega)]; omega)
    obtain ⟨⟨k, i, ⟨x1, x2⟩, ⟨x3, x4⟩, x5⟩, ⟨x6, x7⟩, x8, x9⟩ := rr_fra R (t := t) (by omega)
    have t60 := R.2.1
    have pl := PL t (by omega)
    have e253 : B1 253 t = B 253 t := FB 253 t (by omega)
    have hkB : (k : Int) < B1 160 98 := by omega
    have HB := mr_hd (VO.2 k x3 i x4)
    have zx := rs_zk d1 hkB
    have b255 := (d1.2 k hkB).2.1.2.1.2
    obtain ⟨n6, k8⟩ := tb_n6 d1 hkB
    have GI := (rg_im (d1.2 k hkB))
    have m12 := GI.1.2.2.1
    cases f1 with
    | zero => exact pc_none
    | succ f1 =>
      unfold qw_X5_throwUp_17
      refine pc_if (fun w => absurd w (by omega)) (fun _ => ?_)
      refine pc_if (fun w => absurd w (by omega)) (fun _ => ?_)
      refine pc_sv (rc_top (t := t) (k := k) (i := i) c1 (by omega) x4 (by omega) (by omega) x5) ?_
      intro u7 ⟨K1, K2, K3, K4⟩
      have R7 : RRd Bf nf cnt u7 B1 (t + 1) := rr_143 R (fun c j w => K1 c j (by omega))
      have T7 : TPA Bf nf cnt u7 B1 t k i := ⟨⟨K2, by rw [K3, K1 60 k (by omega)], K4⟩, ⟨x1, x2⟩, x3, x4⟩
      have CS7 : CSw Bf nf u7 := csw_r c1 (fun c j _ w => K1 c j (by omega))
      have CI7 := cg_im (CS7.1.2 k (by rw [K1 56 3 (by omega)]; omega))
      have MD := (CI7.2.2.2 i x4).2.2.1.2
      refine pc_sv (P := fun u => (u = (0, u7) ∧ ∀ z : Nat, z < hn_S (Bf k) (nf k) i → ¬ MTh Bf nf cnt k i (B1 246 o.toNat) (B1 253 t) z) ∨ ∃ y : Nat, y < hn_S (Bf k) (nf k) i ∧ MTh Bf nf cnt k i (B1 246 o.toNat) (B1 253 t) y ∧ (∀ z : Nat, z < y → ¬ MTh Bf nf cnt k i (B1 246 o.toNat) (B1 253 t) z) ∧ u.1 = 1 ∧ CGV u7 u.2 t 0 o (ln_N (Bf k) (hq_S (Bf k) (nf k) i y + 4))) ?_ ?_
      · unfold qf_X5_isCaught
        rw [K2]
        refine pc_rA ?_; intro _ _ v53 e53
        rw [Int.toNat_natCast, K1 148 t (by omega), x5] at e53
        refine pc_xl ?_; intro v54 e54
        rw [Int.tmod_eq_emod_of_nonneg (by omega)] at e54
        rw [K3, ← K1 60 k (by omega)]
        refine pc_ck (fun _ => pc_ck (fun _ => ?_))
        rw [show v54 = (i : Int) by omega]
        refine pc_sv (vq_of (CS7.1.2 k (by rw [K1 56 3 (by omega)]; omega)) x4 (w := 8) (by omega) MD) ?_; intro u57 q57
        rw [q57]
        exact rc_c27 CS7 (by rw [K1 56 3 (by omega)]; omega) x4 (by rw [K1 56 3 (by omega)]; exact c2) g3 (lkt_k c3 (fun c h1 h2 => funext fun j => K1 c j (by omega))) HB zx b255 K2 (by omega) (by rw [K3, K1 60 k (by omega)]) (by rw [K1 148 t (by omega)]; exact x5) (by rw [K1 149 t (by omega)]; exact x6) (by rw [e253]; exact pl) (by rw [K1 145 _ (by omega)]; exact ob.2.1) ob.1 nn 0 (by omega) (fun z hz => absurd hz (by omega))
      intro u9 q9
      refine pc_tw ?_
      cases f2 with
      | zero => exact pc_none
      | succ f2 =>
        unfold qw_X13_thrown_0
        refine pc_if (fun w => absurd w (by omega)) (fun _ => ?_)
        rw [e149]
        refine pc_sub (by omega) ?_; intro v64 e64
        rw [show v64 = (t : Int) by omega]
        refine pc_rA ?_; intro _ _ v66 e66
        rw [Int.toNat_natCast, x1] at e66
        refine pc_sub (by omega) ?_; intro v67 e67
        rw [show v67 = (k : Int) by omega]
        refine pc_xl ?_; intro v69 e69
        rw [oq_mul_eq (by omega) (by omega) (by omega)] at e69
        refine pc_rA ?_; intro _ _ v71 e71
        rw [Int.toNat_natCast, x2] at e71
        refine pc_add (by omega) ?_; intro v72 e72
        refine pc_rA ?_; intro _ _ v73 e73
        rw [show v72.toNat = (12 * (k : Int) + (i : Int)).toNat by omega, (GI.2.2.2 i x4).2.1] at e73
        rw [e73]
        refine rr_c45 (t := t) (i := i) (P := B1 253 t) Nk d1 d2 g3 hkB x4 HB (by omega) (by omega) rfl (by rw [e253]; exact pl) ob.1 (fun none => ?_) (fun y yl ym yn r Rr => ?_) nn 0 (by omega) (fun z hz => absurd hz (by omega))
        · rcases q9 with ⟨e9, _⟩ | ⟨y, yl, ym, _⟩
          · rw [e9]
            refine pc_tw ?_
            rw [if_pos rfl]
            show Pc (xl (oq_sub (u7 143 6) 1) fun v11 => xl (up_M u7 143 6 v11) fun h12 => xl (oq_add l2 1) fun v13 => qw_X5_throwUp_17 nn f1 o v13 h12) _
            rw [K1 143 6 (by omega), e6]
            refine pc_sub (by omega) ?_; intro v11 e11
            refine pc_xl ?_; intro h12 e12
            refine pc_add (by omega) ?_; intro v13 e13
            have C12 : ∀ c j : Nat, ¬ (c = 143 ∧ (j = 6 ∨ j = 17 ∨ j = 18 ∨ j = 19)) → h12 c j = A c j := fun c j w => by rw [e12, up_n (by omega), K1 c j (by omega)]
            have RR : RRd Bf nf cnt h12 (up_M B1 160 149 (t : Int)) t := rr_pop1 R (fun c j w1 w2 => C12 c j (by omega)) (by rw [e12, up_s]; omega) (fun x j w1 w2 => up_n (by omega)) (by rw [up_s])
            exact ih h12 (up_M B1 160 149 (t : Int)) (fun x j w => by rw [up_n w]; exact FB x j w) (en_k ⟨⟨c1, c2, c3⟩, ⟨d1, d2⟩, Nk, HG, VO⟩ (fun c j _ w => C12 c j (by omega)) (fun x j _ _ => up_n (by omega)) (up_n (by omega))) RR (fun j hj => PL j (by omega)) f1 f2 v13 (by omega) (by omega)
          · exact absurd ym (none y yl)
        · rcases q9 with ⟨_, none⟩ | ⟨y2, yl2, ym2, yn2, e9, G9⟩
          · exact absurd ym (none y yl)
          · have ey : y2 = y := by
              rcases Nat.lt_trichotomy y2 y with w | w | w
              · exact absurd ym2 (yn y2 w)
              · exact w
              · exact absurd ym (yn2 y w)
            rw [ey] at G9
            rw [if_neg (show ¬ u9.1 = 0 by omega)]
            exact pc_ret (.inl ⟨t, k, i, jg0 R7 (by omega) G9 Rr, tpa_k T7 (fun c j w => G9.1 c j (by omega) (by omega) (by omega) (by omega)) (fun x j w => Rr.1 x j (by omega) (by omega) (by omega) (by omega))⟩)
end

/- THE CLASS PATCHES -/
section
variable {nn : Nat} {M M2 : ms_M} {Bf : Nat → Nat → Int} {nf : Nat → Nat}
/-- only the spare Image has changed -/
theorem csp_rd (V : VS_ M) (SI : SI_ M) (J : OJ M) (S : CSp Bf nf M) (F : ∀ c k, (c < (M 56 2).toNat ∨ (M 56 2).toNat + 6 < c) → M2 c k = M c k) (cm : cn_M M ≤ 700000) : CSp Bf nf M2 := by
  have hb := (vi_r V).1.2
  have h0 := (vi_r V).1.1
  have g3 := gF_56_3 V
  have ib := im_at hb
  have c256 := vi_c V
  have s3 : M2 56 3 = M 56 3 := F 56 3 (by omega)
  have s60 : ∀ k, M2 60 k = M 60 k := fun k => F 60 k (by omega)
  have cn2 : cn_M M2 = cn_M M := by unfold cn_M; rw [F 900000 0 (by omega)]
  have ne : ∀ k : Nat, (k : Int) < M 56 3 → (M 60 k).toNat ≠ (M 56 2).toNat := fun k hk => by
    have := SI.2.2 k (by omega)
    have := (V.2.2.2.2.1 k (by omega)).1
    omega
  have w0 : ∀ k : Nat, (k : Int) < M 56 3 → M2 (M 60 k).toNat 0 = M (M 60 k).toNat 0 := fun k hk => by
    have d := im_dis hb (V.2.2.2.2.1 k (by omega)).2 (ne k hk)
    exact F _ _ (by omega)
  obtain ⟨n1, n2, n3, n4⟩ := S.2.1
  have e58 : ∀ j, M2 58 j = M 58 j := fun j => F 58 j (by omega)
  have e59 : ∀ j, M2 59 j = M 59 j := fun j => F 59 j (by omega)
  refine ⟨fun k hk => ?_, ⟨?_, fun j hj => by rw [e58]; exact n2 j hj, fun j hj h2 => by rw [e58]; exact n3 j hj (by omega), fun k hk => by rw [e58, s3]; exact n4 k (by omega)⟩, fun j k hj hk jk => ?_⟩
  · rw [s60]
    have hk : (k : Int) < M 56 3 := by rw [← s3]; exact hk
    exact imc_s (smi_of V (by omega) hb (ne k hk) ⟨(J k hk).1, (S.1 k hk).1.1.2.2.2.2.1⟩ (fun c j q _ _ => F c j q.2) (by omega) (fun c _ => F _ _ (by omega))) (S.1 k hk)
  · have ef : M2 (57 + 1) = M (57 + 1) := funext e58
    unfold un_R
    rw [ef]
    intro x y hx hy
    rw [show M2 (57 + 2) (16 * x + y) = M (57 + 2) (16 * x + y) from e59 _]
    exact n1 x y hx hy
  · rw [s60, s60, w0 j (by omega), w0 k (by omega)]
    exact S.2.2 j k (by omega) (by omega) jk
theorem c_change (hn : 1000000 ≤ nn) {c i : Nat} {v : Int} (rv : in_R v) (V : VS_ M) (SI : SI_ M) (J : OJ M) (S : CSp Bf nf M) (hc : (c : Int) < M 56 3) (hi : i < nf c) (cm : cn_M M ≤ 700000) (Bn : Nat → Int) (eB : ∀ j, j < nf c → Bn j = if j = i then oq_and v 255 else Bf c j) : Pc (qf_X7_change nn (8 + (c : Int)) (i : Int) v M) (fun u => (∀ e, rdi_S Bn (nf c) = .inl e → u.1 = 0 ∧ CSp Bf nf u.2 ∧ u.2 56 3 = M 56 3 ∧ u.2 56 4 = M 56 4) ∧ ∀ q, rdi_S Bn (nf c) = .inr q → (OTh Bf nf (M 56 3) c (fun x => Bn (na_S Bn (nf c) (own_S Bn (nf c)) + x)) (tl_S Bn (nf c) (own_S Bn (nf c))) → u.1 = 0 ∧ CSp Bf nf u.2 ∧ u.2 56 3 = M 56 3 ∧ u.2 56 4 = M 56 4) ∧ (¬ OTh Bf nf (M 56 3) c (fun x => Bn (na_S Bn (nf c) (own_S Bn (nf c)) + x)) (tl_S Bn (nf c) (own_S Bn (nf c))) → u.1 = 1 ∧ CSp (ext_B Bf c Bn) nf u.2 ∧ u.2 56 3 = M 56 3 ∧ u.2 56 4 = 0)) := by
  have hb := (vi_r V).1.2
  have h0 := (vi_r V).1.1
  have g3 := gF_56_3 V
  have ib := im_at hb
  have c256 := vi_c V
  have c8 : c < 8 := by omega
  have X0 := (S.1 c hc).1.1
  have hd := (V.2.2.2.2.1 c c8).2
  have hd0 := (V.2.2.2.2.1 c c8).1
  have id := im_at hd
  have n6 : nf c ≤ 6000 := X0.2.1
  have ne : ∀ k : Nat, (k : Int) < M 56 3 → (M 60 k).toNat ≠ (M 56 2).toNat := fun k hk => by
    have := SI.2.2 k (by omega)
    have := (V.2.2.2.2.1 k (by omega)).1
    omega
  unfold qf_X7_change
  refine pc_se (fun u4 e4 => ?_)
  have I4 : u4 = M 60 c := by
    unfold qf_X7_imageOf at e4
    rw [if_neg (by omega), xl_eq, oq_add_eq (by omega) (by omega) (by omega), if_neg (by omega), xl_eq, oq_sub_eq (by omega) (by omega) (by omega)] at e4
    have e4 := rd_i e4
    have e4 := Option.some.inj e4
    rw [← e4, show (8 + (c : Int) - 8).toNat = c by omega]
  rw [I4]
  refine pc_if (fun z => absurd z (by omega)) (fun _ => pc_if (fun z => absurd z (by omega)) (fun _ => pc_ck (fun _ => ?_)))
  have e1 : M (M 60 c).toNat 1 = (nf c : Int) := X0.2.2.1
  refine pc_if (fun _ => ?_) (fun z => absurd (by rw [e1]; omega) z)
  refine pc_se (fun u9 e9 => ?_)
  have e9 : u9 = M (M 60 c).toNat 0 := by
    unfold qf_X3_ownBytes at e9
    obtain ⟨-, e9⟩ := ck_i e9
    have e9 := Option.some.inj e9
    rw [← e9]
    exact Int.toNat_of_nonneg X0.2.2.2.1
  refine pc_ck (fun _ => ?_)
  intro r e
  have e := rt_i e
  rw [xl_eq] at e
  obtain ⟨hw, e⟩ := wti_ e
  rw [Int.toNat_natCast] at e
  have n9 : 256 ≤ u9.toNat := by rw [e9]; exact (J c hc).1
  have V13 : VS_ (up_M M u9.toNat i (oq_b (oq_b v))) := by
    have w := vs_wt (v := oq_b v) V hw
    rw [Int.toNat_natCast] at w; exact w
  have f13 : ∀ c k, ¬ (c = u9.toNat ∧ k = i) → up_M M u9.toNat i (oq_b (oq_b v)) c k = M c k := fun c k w => up_n w
  have v13 : up_M M u9.toNat i (oq_b (oq_b v)) u9.toNat i = oq_b v := by rw [up_s, oq_b_b]
  have l9 : u9.toNat < 900000 := by have := hw.1.1; omega
  have c13 : cn_M (up_M M u9.toNat i (oq_b (oq_b v))) = cn_M M := cn_up l9
  generalize up_M M u9.toNat i (oq_b (oq_b v)) = h13 at *
  obtain ⟨-, e⟩ := ck_i e
  obtain ⟨hb13, e⟩ := ck_i e
  obtain ⟨u17, e17, e⟩ := sv_i e
  have s2 : h13 56 2 = M 56 2 := f13 _ _ (by omega)
  rw [s2] at e17
  have a13 : h13 (M 60 c).toNat 1 = (nf c : Int) := (f13 _ _ (by omega)).trans e1
  rw [a13] at e17
  have t9 : u9.toNat < cn_M h13 ∧ ly_T u9.toNat = 1 := ⟨by rw [c13]; exact hw.1.1, hw.1.2⟩
  have l13 : ln_I h13 u9.toNat = ln_I M u9.toNat := by
    unfold ln_I
    split
    · rfl
    · exact f13 _ _ (by omega)
  have hB : ∀ j : Nat, j < nf c → h13 u9.toNat j % 256 = Bn j := fun j hj => by
    rw [eB j hj]
    by_cases qj : j = i
    · rw [if_pos qj, qj, v13, by_rel rv]
    · rw [if_neg qj, f13 _ _ (by omega), e9]; exact (X0.2.2.2.2.2.2.2 j hj).1
  have hs : (nf c : Int) = (nf c : Int) ∧ nf c ≤ 6000 ∧ (nf c : Int) ≤ ln_I h13 u9.toNat := ⟨rfl, n6, by rw [l13, e9]; exact X0.2.2.2.2.2.2.1⟩
  obtain ⟨R0, R1, R2⟩ := c_read hn hb V13 t9 hs hB _ e17
  obtain ⟨x0, -⟩ := f3_read (nn := nn) hb hw.1.2 (by omega) V13 _ e17
  have V17 := (okof (vf_X3_read hn hb (by omega) (by omega) V13 t9 (by omega)) e17).1
  have F17 : ∀ c k, (c < (M 56 2).toNat ∨ (M 56 2).toNat + 6 < c) → u17.2 c k = h13 c k := fun c k w => (of_X3_read nn hb) _ e17 c k w
  have F : ∀ c k, (c < (M 56 2).toNat ∨ (M 56 2).toNat + 6 < c) → ¬ (c = u9.toNat ∧ k = i) → u17.2 c k = M c k := fun c k w1 w2 => (F17 c k w1).trans (f13 c k w2)
  have back : ∀ {r : Int × ms_M}, qj_X7_change_72 nn (i : Int) ((u9.toNat : Nat) : Int) (M u9.toNat i) u17.2 = some r → r.1 = 0 ∧ CSp Bf nf r.2 ∧ r.2 56 3 = M 56 3 ∧ r.2 56 4 = M 56 4 := by
    intro r e
    unfold qj_X7_change_72 at e
    obtain ⟨-, e⟩ := ck_i e
    obtain ⟨hw2, e⟩ := wti_ e
    cases e
    have G : ∀ c k, (c < (M 56 2).toNat ∨ (M 56 2).toNat + 6 < c) → up_M u17.2 ((u9.toNat : Nat) : Int).toNat ((i : Int)).toNat (oq_b (M u9.toNat i)) c k = M c k := fun c k w => by
      rw [Int.toNat_natCast, Int.toNat_natCast]
      by_cases y : c = u9.toNat ∧ k = i
      · rw [y.1, y.2, up_s]
        exact oq_b_id (vi_y V hw.1.1 hw.1.2 (by omega))
      · rw [up_n y]; exact F c k w y
    exact ⟨rfl, csp_rd V SI J S G cm, G 56 3 (by omega), G 56 4 (by omega)⟩
  by_cases d1 : ¬ u17.1 = -1
  · rw [if_pos d1] at e
    exact ⟨fun _ _ => back e, fun q hq => absurd (R2 q hq).1 d1⟩
  rw [if_neg d1] at e
  have d1 := Decidable.not_not.1 d1
  have good : ∃ q, rdi_S Bn (nf c) = .inr q := by
    cases z : rdi_S Bn (nf c) with
    | inl e => have := R1 e z; omega
    | inr q => exact ⟨q, rfl⟩
  obtain ⟨q0, z0⟩ := good
  have X := (R2 q0 z0).2
  have nol : ∀ {P : Prop} {e : Nat}, rdi_S Bn (nf c) = .inl e → P := fun he => by rw [z0] at he; cases he
  have q2 : u17.2 56 2 = M 56 2 := F 56 2 (by omega) (by omega)
  have q3 : u17.2 56 3 = M 56 3 := F 56 3 (by omega) (by omega)
  have q60 : ∀ k, u17.2 60 k = M 60 k := fun k => F 60 k (by omega) (by omega)
  have rne : ∀ k : Nat, (k : Int) < M 56 3 → k ≠ c → (M (M 60 k).toNat 0).toNat ≠ u9.toNat := fun k hk qk => by
    rw [e9]; exact S.2.2 k c hk hc qk
  have cn17 : cn_M u17.2 = cn_M M := by
    rw [← c13]; unfold cn_M; rw [F17 900000 0 (by omega)]
  have SM : ∀ k : Nat, (k : Int) < M 56 3 → k ≠ c → SMi (M 60 k).toNat M u17.2 := fun k hk qk => by
    have hdk := (V.2.2.2.2.1 k (by omega)).2
    have d := im_dis hb hdk (ne k hk)
    have idk := im_at hdk
    have J1 := (J k hk).1
    have r9 := rne k hk qk
    refine ⟨fun x j x1 x2 => F x j (by omega) (by omega), fun j => F _ j (by omega) (by omega), by omega, ?_⟩
    unfold ln_I
    split
    · rfl
    · exact F _ _ (by omega) (by omega)
  obtain ⟨u19, e19, e⟩ := sv_i e
  have O := c_other (Bf := Bf) (nf := nf) (c := c) (M := u17.2) (fun k hk qk => by rw [q60]; exact imc_s (SM k (by omega) qk) (S.1 k (by omega))) (by omega) (by rw [q2]; exact X) _ e19
  rw [q3] at O
  by_cases d2 : u19 = 0
  · rw [if_pos d2, xl_eq, oq_sub_eq (by omega) (by omega) (by omega), show 8 + (c : Int) - 8 = (c : Int) by omega] at e
    have no : ¬ OTh Bf nf (M 56 3) c (fun x => Bn (na_S Bn (nf c) (own_S Bn (nf c)) + x)) (tl_S Bn (nf c) (own_S Bn (nf c))) := by
      rcases O with ⟨o1, -⟩ | ⟨-, o2⟩
      · omega
      · exact o2
    obtain ⟨u22, e22, e⟩ := sv_i e
    obtain ⟨u24, e24, e⟩ := sv_i e
    cases e
    refine ⟨fun e he => nol he, fun q hq => ⟨fun z => absurd z no, fun _ => ?_⟩⟩
    have V22 := okof (vf_X7_swapSpare (a1 := (c : Int)) (by omega) (by omega) V17) e22
    have i22 := (sw_i e22).2
    rw [q2, Int.toNat_natCast, q60] at i22
    have z60 : u22 60 c = M 56 2 := by rw [i22, up_n (by omega), up_s]
    have G22 : ∀ x k, x ≠ 56 → ¬ (x = 60 ∧ k = c) → u22 x k = u17.2 x k := fun x k a1 a2 => by rw [i22, up_n (by omega), up_n a2]
    have z3 : u22 56 3 = M 56 3 := by rw [i22, up_n (by omega), up_n (by omega)]; exact q3
    have cn22 : cn_M u22 = cn_M M := by rw [← cn17]; unfold cn_M; rw [G22 900000 0 (by omega) (by omega)]
    have up22 : ∀ {b : Nat} {n : Nat} {B : Nat → Int}, kc_O b = 3 → ly_T (u17.2 b 0).toNat = 1 → IMc b n B u17.2 → IMc b n B u22 := fun {b n B} kb tb Y => by
      have idb := im_at kb
      have nr : (u17.2 b 0).toNat ≠ 56 ∧ (u17.2 b 0).toNat ≠ 60 := ⟨fun z => by rw [z] at tb; exact absurd tb (by decide), fun z => by rw [z] at tb; exact absurd tb (by decide)⟩
      refine imc_s ⟨fun x j x1 x2 => G22 _ _ (by omega) (by omega), fun j => G22 _ _ nr.1 (by omega), by omega, ?_⟩ Y
      unfold ln_I
      split
      · rfl
      · exact G22 _ _ (by omega) (by omega)
    have S22 : ∀ k : Nat, (k : Int) < u22 56 3 → IMc (u22 60 k).toNat (nf k) (ext_B Bf c Bn k) u22 := fun k hk => by
      unfold ext_B
      by_cases qk : k = c
      · rw [if_pos qk, qk, z60]
        exact up22 hb X.1.1.2.2.2.2.2.1 X
      · have hk : (k : Int) < M 56 3 := by rw [← z3]; exact hk
        rw [if_neg qk, G22 60 k (by decide) (by omega), q60]
        have Y := imc_s (SM k hk qk) (S.1 k hk)
        exact up22 (V.2.2.2.2.1 k (by omega)).2 Y.1.1.2.2.2.2.2.1 Y
    obtain ⟨r1, r2, r3, r4, r5, r6⟩ := relate_ok hn V22 S22 _ e24
    have k3 : u24 56 3 = M 56 3 := by rw [r1 _ _ (by decide) (by decide) (by omega)]; exact z3
    have k60 : ∀ k, u24 60 k = u22 60 k := fun k => r1 _ _ (by decide) (by decide) (by omega)
    refine ⟨rfl, ⟨fun k hk => ?_, ⟨r3, r4, fun j hj h2 => r5 j hj (by rw [z3, ← k3]; exact h2), fun k hk => ?_⟩, fun j k hj hk jk => ?_⟩, k3, r2⟩
    · have hk : (k : Int) < u22 56 3 := by rw [z3, ← k3]; exact hk
      have Y := S22 k hk
      dsimp only; rw [show u24 60 k = u22 60 k from k60 k]
      have hdk := (V22.2.2.2.2.1 k (by omega)).2
      have idk := im_at hdk
      have t1 : ly_T (u22 (u22 60 k).toNat 0).toNat = 1 := Y.1.1.2.2.2.2.2.1
      have nr : (u22 (u22 60 k).toNat 0).toNat ≠ 58 ∧ (u22 (u22 60 k).toNat 0).toNat ≠ 59 ∧ (u22 (u22 60 k).toNat 0).toNat ≠ 56 := ⟨fun z => by rw [z] at t1; exact absurd t1 (by decide), fun z => by rw [z] at t1; exact absurd t1 (by decide), fun z => by rw [z] at t1; exact absurd t1 (by decide)⟩
      refine imc_s ⟨fun x j x1 x2 => r1 _ _ (by omega) (by omega) (by omega), fun j => r1 _ _ nr.1 nr.2.1 (by omega), ?_, ?_⟩ Y
      · unfold cn_M; rw [r1 _ _ (by omega) (by omega) (by omega)]; omega
      · unfold ln_I
        split
        · rfl
        · exact r1 _ _ (by omega) (by omega) (by omega)
    · have hk : (k : Int) < u22 56 3 := by rw [z3, ← k3]; exact hk
      have w := r6 k hk
      rw [z3] at w
      dsimp only; rw [show u24 56 3 = M 56 3 from k3]; exact w
    · have rowk : ∀ k : Nat, (k : Int) < M 56 3 → (u24 (u24 60 k).toNat 0).toNat = (M (M 60 k).toNat 0).toNat := fun k hk => by
        rw [k60]
        by_cases qk : k = c
        · rw [qk, z60, r1 _ _ (by omega) (by omega) (by omega), G22 _ _ (by omega) (by omega), x0, Int.toNat_natCast, e9]
        · have hdk := (V.2.2.2.2.1 k (by omega)).2
          have idk := im_at hdk
          rw [G22 60 k (by decide) (by omega), q60, r1 _ _ (by omega) (by omega) (by omega), G22 _ _ (by omega) (by omega), (SM k hk qk).1 _ _ (Nat.le_refl _) (by omega)]
      have hj : (j : Int) < M 56 3 := by rw [← k3]; exact hj
      have hk : (k : Int) < M 56 3 := by rw [← k3]; exact hk
      show (u24 (u24 60 j).toNat 0).toNat ≠ (u24 (u24 60 k).toNat 0).toNat
      rw [rowk j hj, rowk k hk]
      exact S.2.2 j k hj hk jk
  · rw [if_neg d2] at e
    have B9 := back e
    have yes : OTh Bf nf (M 56 3) c (fun x => Bn (na_S Bn (nf c) (own_S Bn (nf c)) + x)) (tl_S Bn (nf c) (own_S Bn (nf c))) := by
      rcases O with ⟨-, o2⟩ | ⟨o1, -⟩
      · exact o2
      · exact absurd o1 d2
    exact ⟨fun e he => nol he, fun q hq => ⟨fun _ => B9, fun z => absurd yes z⟩⟩
end

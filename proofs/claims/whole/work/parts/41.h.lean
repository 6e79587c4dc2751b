section
/- THE CLASS PATCHES -/
section
variable {nn : Nat} {M M2 : ms_M} {Bf : Nat → Nat → Int} {nf : Nat → Nat}
/-- only the spare Image has changed -/
theorem csp_rd (V : VS_ M) (SI : SI_ M) (J : OJ M) (S : CSp Bf nf M) (F : ∀ c k, (c < (M 56 2).toNat ∨ (M 56 2).toNat + 6 < c) → M2 c k = M c k) (cm : cn_M M ≤ 700000) : CSp Bf nf M2 := by
  have hb := (vi_r V).1.2
  have h0 := (vi_r V).1.1
  have g3 := gF_56_3 V
  have ib := im_at hb
  have c256 := vi_c V
  have s3 : M2 56 3 = M 56 3 := F 56 3 (by omega)
  have s60 : ∀ k, M2 60 k = M 60 k := fun k => F 60 k (by omega)
  have cn2 : cn_M M2 = cn_M M := by unfold cn_M; rw [F 900000 0 (by omega)]
  have ne : ∀ k : Nat, (k : Int) < M 56 3 → (M 60 k).toNat ≠ (M 56 2).toNat := fun k hk => by
    have := SI.2.2 k (by omega)
    have := (V.2.2.2.2.1 k (by omega)).1
    omega
  have w0 : ∀ k : Nat, (k : Int) < M 56 3 → M2 (M 60 k).toNat 0 = M (M 60 k).toNat 0 := fun k hk => by
    have d := im_dis hb (V.2.2.2.2.1 k (by omega)).2 (ne k hk)
    exact F _ _ (by omega)
  obtain ⟨n1, n2, n3, n4⟩ := S.2.1
  have e58 : ∀ j, M2 58 j = M 58 j := fun j => F 58 j (by omega)
  have e59 : ∀ j, M2 59 j = M 59 j := fun j => F 59 j (by omega)
  refine ⟨fun k hk => ?_, ⟨?_, fun j hj => by rw [e58]; exact n2 j hj, fun j hj h2 => by rw [e58]; exact n3 j hj (by omega), fun k hk => by rw [e58, s3]; exact n4 k (by omega)⟩, fun j k hj hk jk => ?_⟩
  · rw [s60]
    have hk : (k : Int) < M 56 3 := by rw [← s3]; exact hk
    exact imc_s (smi_of V (by omega) hb (ne k hk) ⟨(J k hk).1, (S.1 k hk).1.1.2.2.2.2.1⟩ (fun c j q _ _ => F c j q.2) (by omega) (fun c _ => F _ _ (by omega))) (S.1 k hk)
  · have ef : M2 (57 + 1) = M (57 + 1) := funext e58
    unfold un_R
    rw [ef]
    intro x y hx hy
    rw [show M2 (57 + 2) (16 * x + y) = M (57 + 2) (16 * x + y) from e59 _]
    exact n1 x y hx hy
  · rw [s60, s60, w0 j (by omega), w0 k (by omega)]
    exact S.2.2 j k (by omega) (by omega) jk
theorem c_change (hn : 1000000 ≤ nn) {c i : Nat} {v : Int} (rv : in_R v) (V : VS_ M) (SI : SI_ M) (J : OJ M) (S : CSp Bf nf M) (hc : (c : Int) < M 56 3) (hi : i < nf c) (cm : cn_M M ≤ 700000) (Bn : Nat → Int) (eB : ∀ j, j < nf c → Bn j = if j = i then oq_and v 255 else Bf c j) : Pc (qf_X7_change nn (8 + (c : Int)) (i : Int) v M) (fun u => (∀ e, rdi_S Bn (nf c) = .inl e → u.1 = 0 ∧ CSp Bf nf u.2 ∧ u.2 56 3 = M 56 3 ∧ u.2 56 4 = M 56 4) ∧ ∀ q, rdi_S Bn (nf c) = .inr q → (OTh Bf nf (M 56 3) c (fun x => Bn (na_S Bn (nf c) (own_S Bn (nf c)) + x)) (tl_S Bn (nf c) (own_S Bn (nf c))) → u.1 = 0 ∧ CSp Bf nf u.2 ∧ u.2 56 3 = M 56 3 ∧ u.2 56 4 = M 56 4) ∧ (¬ OTh Bf nf (M 56 3) c (fun x => Bn (na_S Bn (nf c) (own_S Bn (nf c)) + x)) (tl_S Bn (nf c) (own_S Bn (nf c))) → u.1 = 1 ∧ CSp (ext_B Bf c Bn) nf u.2 ∧ u.2 56 3 = M 56 3 ∧ u.2 56 4 = 0)) := by
  have hb := (vi_r V).1.2
  have h0 := (vi_r V).1.1
  have g3 := gF_56_3 V
  have ib := im_at hb
  have c256 := vi_c V
  have c8 : c < 8 := by omega
  have X0 := (S.1 c hc).1.1
  have hd := (V.2.2.2.2.1 c c8).2
  have hd0 := (V.2.2.2.2.1 c c8).1
  have id := im_at hd
  have n6 : nf c ≤ 6000 := X0.2.1
  have ne : ∀ k : Nat, (k : Int) < M 56 3 → (M 60 k).toNat ≠ (M 56 2).toNat := fun k hk => by
    have := SI.2.2 k (by omega)
    have := (V.2.2.2.2.1 k (by omega)).1
    omega
  unfold qf_X7_change
  refine pc_se (fun u4 e4 => ?_)
  have I4 : u4 = M 60 c := by
    unfold qf_X7_imageOf at e4
    rw [if_neg (by omega), xl_eq, oq_add_eq (by omega) (by omega) (by omega), if_neg (by omega), xl_eq, oq_sub_eq (by omega) (by omega) (by omega)] at e4
    have e4 := rd_i e4
    have e4 := Option.some.inj e4
    rw [← e4, show (8 + (c : Int) - 8).toNat = c by omega]
  rw [I4]
  refine pc_if (fun z => absurd z (by omega)) (fun _ => pc_if (fun z => absurd z (by omega)) (fun _ => pc_ck (fun _ => ?_)))
  have e1 : M (M 60 c).toNat 1 = (nf c : Int) := X0.2.2.1
  refine pc_if (fun _ => ?_) (fun z => absurd (by rw [e1]; omega) z)
  refine pc_se (fun u9 e9 => ?_)
  have e9 : u9 = M (M 60 c).toNat 0 := by
    unfold qf_X3_ownBytes at e9
    obtain ⟨-, e9⟩ := ck_i e9
    have e9 := Option.some.inj e9
    rw [← e9]
    exact Int.toNat_of_nonneg X0.2.2.2.1
  refine pc_ck (fun _ => ?_)
  intro r e
  have e := rt_i e
  rw [xl_eq] at e
  obtain ⟨hw, e⟩ := wti_ e
  rw [Int.toNat_natCast] at e
  have n9 : 256 ≤ u9.toNat := by rw [e9]; exact (J c hc).1
  have V13 : VS_ (up_M M u9.toNat i (oq_b (oq_b v))) := by
    have w := vs_wt (v := oq_b v) V hw
    rw [Int.toNat_natCast] at w; exact w
  have f13 : ∀ c k, ¬ (c = u9.toNat ∧ k = i) → up_M M u9.toNat i (oq_b (oq_b v)) c k = M c k := fun c k w => up_n w
  have v13 : up_M M u9.toNat i (oq_b (oq_b v)) u9.toNat i = oq_b v := by rw [up_s, oq_b_b]
  have l9 : u9.toNat < 900000 := by have := hw.1.1; omega
  have c13 : cn_M (up_M M u9.toNat i (oq_b (oq_b v))) = cn_M M := cn_up l9
  generalize up_M M u9.toNat i (oq_b (oq_b v)) = h13 at *
  obtain ⟨-, e⟩ := ck_i e
  obtain ⟨hb13, e⟩ := ck_i e
  obtain ⟨u17, e17, e⟩ := sv_i e
  have s2 : h13 56 2 = M 56 2 := f13 _ _ (by omega)
  rw [s2] at e17
  have a13 : h13 (M 60 c).toNat 1 = (nf c : Int) := (f13 _ _ (by omega)).trans e1
  rw [a13] at e17
  have t9 : u9.toNat < cn_M h13 ∧ ly_T u9.toNat = 1 := ⟨by rw [c13]; exact hw.1.1, hw.1.2⟩
  have l13 : ln_I h13 u9.toNat = ln_I M u9.toNat := by
    unfold ln_I
    split
    · rfl
    · exact f13 _ _ (by omega)
  have hB : ∀ j : Nat, j < nf c → h13 u9.toNat j % 256 = Bn j := fun j hj => by
    rw [eB j hj]
    by_cases qj : j = i
    · rw [if_pos qj, qj, v13, by_rel rv]
    · rw [if_neg qj, f13 _ _ (by omega), e9]; exact (X0.2.2.2.2.2.2.2 j hj).1
  have hs : (nf c : Int) = (nf c : Int) ∧ nf c ≤ 6000 ∧ (nf c : Int) ≤ ln_I h13 u9.toNat := ⟨rfl, n6, by rw [l13, e9]; exact X0.2.2.2.2.2.2.1⟩
  obtain ⟨R0, R1, R2⟩ := c_read hn hb V13 t9 hs hB _ e17
  obtain ⟨x0, -⟩ := f3_read (nn := nn) hb hw.1.2 (by omega) V13 _ e17
  have V17 := (okof (vf_X3_read hn hb (by omega) (by omega) V13 t9 (by omega)) e17).1
  have F17 : ∀ c k, (c < (M 56 2).toNat ∨ (M 56 2).toNat + 6 < c) → u17.2 c k = h13 c k := fun c k w => (of_X3_read nn hb) _ e17 c k w
  have F : ∀ c k, (c < (M 56 2).toNat ∨ (M 56 2).toNat + 6 < c) → ¬ (c = u9.toNat ∧ k = i) → u17.2 c k = M c k := fun c k w1 w2 => (F17 c k w1).trans (f13 c k w2)
  have back : ∀ {r : Int × ms_M}, qj_X7_change_72 nn (i : Int) ((u9.toNat : Nat) : Int) (M u9.toNat i) u17.2 = some r → r.1 = 0 ∧ CSp Bf nf r.2 ∧ r.2 56 3 = M 56 3 ∧ r.2 56 4 = M 56 4 := by
    intro r e
    unfold qj_X7_change_72 at e
    obtain ⟨-, e⟩ := ck_i e
    obtain ⟨hw2, e⟩ := wti_ e
    cases e
    have G : ∀ c k, (c < (M 56 2).toNat ∨ (M 56 2).toNat + 6 < c) → up_M u17.2 ((u9.toNat : Nat) : Int).toNat ((i : Int)).toNat (oq_b (M u9.toNat i)) c k = M c k := fun c k w => by
      rw [Int.toNat_natCast, Int.toNat_natCast]
      by_cases y : c = u9.toNat ∧ k = i
      · rw [y.1, y.2, up_s]
        exact oq_b_id (vi_y V hw.1.1 hw.1.2 (by omega))
      · rw [up_n y]; exact F c k w y
    exact ⟨rfl, csp_rd V SI J S G cm, G 56 3 (by omega), G 56 4 (by omega)⟩
  by_cases d1 : ¬ u17.1 = -1
  · rw [if_pos d1] at e
    exact ⟨fun _ _ => back e, fun q hq => absurd (R2 q hq).1 d1⟩
  rw [if_neg d1] at e
  have d1 := Decidable.not_not.1 d1
  have good : ∃ q, rdi_S Bn (nf c) = .inr q := by
    cases z : rdi_S Bn (nf c) with
    | inl e => have := R1 e z; omega
    | inr q => exact ⟨q, rfl⟩
  obtain ⟨q0, z0⟩ := good
  have X := (R2 q0 z0).2
  have nol : ∀ {P : Prop} {e : Nat}, rdi_S Bn (nf c) = .inl e → P := fun he => by rw [z0] at he; cases he
  have q2 : u17.2 56 2 = M 56 2 := F 56 2 (by omega) (by omega)
  have q3 : u17.2 56 3 = M 56 3 := F 56 3 (by omega) (by omega)
  have q60 : ∀ k, u17.2 60 k = M 60 k := fun k => F 60 k (by omega) (by omega)
  have rne : ∀ k : Nat, (k : Int) < M 56 3 → k ≠ c → (M (M 60 k).toNat 0).toNat ≠ u9.toNat := fun k hk qk => by
    rw [e9]; exact S.2.2 k c hk hc qk
  have cn17 : cn_M u17.2 = cn_M M := by
    rw [← c13]; unfold cn_M; rw [F17 900000 0 (by omega)]
  have SM : ∀ k : Nat, (k : Int) < M 56 3 → k ≠ c → SMi (M 60 k).toNat M u17.2 := fun k hk qk => by
    have hdk := (V.2.2.2.2.1 k (by omega)).2
    have d := im_dis hb hdk (ne k hk)
    have idk := im_at hdk
    have J1 := (J k hk).1
    have r9 := rne k hk qk
    refine ⟨fun x j x1 x2 => F x j (by omega) (by omega), fun j => F _ j (by omega) (by omega), by omega, ?_⟩
    unfold ln_I
    split
    · rfl
    · exact F _ _ (by omega) (by omega)
  obtain ⟨u19, e19, e⟩ := sv_i e
  have O := c_other (Bf := Bf) (nf := nf) (c := c) (M := u17.2) (fun k hk qk => by rw [q60]; exact imc_s (SM k (by omega) qk) (S.1 k (by omega))) (by omega) (by rw [q2]; exact X) _ e19
  rw [q3] at O
  by_cases d2 : u19 = 0
  · rw [if_pos d2, xl_eq, oq_sub_eq (by omega) (by omega) (by omega), show 8 + (c : Int) - 8 = (c : Int) by omega] at e
    have no : ¬ OTh Bf nf (M 56 3) c (fun x => Bn (na_S Bn (nf c) (own_S Bn (nf c)) + x)) (tl_S Bn (nf c) (own_S Bn (nf c))) := by
      rcases O with ⟨o1, -⟩ | ⟨-, o2⟩
      · omega
      · exact o2
    obtain ⟨u22, e22, e⟩ := sv_i e
    obtain ⟨u24, e24, e⟩ := sv_i e
    cases e
    refine ⟨fun e he => nol he, fun q hq => ⟨fun z => absurd z no, fun _ => ?_⟩⟩
    have V22 := okof (vf_X7_swapSpare (a1 := (c : Int)) (by omega) (by omega) V17) e22
    have i22 := (sw_i e22).2
    rw [q2, Int.toNat_natCast, q60] at i22
    have z60 : u22 60 c = M 56 2 := by rw [i22, up_n (by omega), up_s]
    have G22 : ∀ x k, x ≠ 56 → ¬ (x = 60 ∧ k = c) → u22 x k = u17.2 x k := fun x k a1 a2 => by rw [i22, up_n (by omega), up_n a2]
    have z3 : u22 56 3 = M 56 3 := by rw [i22, up_n (by omega), up_n (by omega)]; exact q3
    have cn22 : cn_M u22 = cn_M M := by rw [← cn17]; unfold cn_M; rw [G22 900000 0 (by omega) (by omega)]
    have up22 : ∀ {b : Nat} {n : Nat} {B : Nat → Int}, kc_O b = 3 → ly_T (u17.2 b 0).toNat = 1 → IMc b n B u17.2 → IMc b n B u22 := fun {b n B} kb tb Y => by
      have idb := im_at kb
      have nr : (u17.2 b 0).toNat ≠ 56 ∧ (u17.2 b 0).toNat ≠ 60 := ⟨fun z => by rw [z] at tb; exact absurd tb (by decide), fun z => by rw [z] at tb; exact absurd tb (by decide)⟩
      refine imc_s ⟨fun x j x1 x2 => G22 _ _ (by omega) (by omega), fun j => G22 _ _ nr.1 (by omega), by omega, ?_⟩ Y
      unfold ln_I
      split
      · rfl
      · exact G22 _ _ (by omega) (by omega)
    have S22 : ∀ k : Nat, (k : Int) < u22 56 3 → IMc (u22 60 k).toNat (nf k) (ext_B Bf c Bn k) u22 := fun k hk => by
      unfold ext_B
      by_cases qk : k = c
      · rw [if_pos qk, qk, z60]
        exact up22 hb X.1.1.2.2.2.2.2.1 X
      · have hk : (k : Int) < M 56 3 := by rw [← z3]; exact hk
        rw [if_neg qk, G22 60 k (by decide) (by omega), q60]
        have Y := imc_s (SM k hk qk) (S.1 k hk)
        exact up22 (V.2.2.2.2.1 k (by omega)).2 Y.1.1.2.2.2.2.2.1 Y
    obtain ⟨r1, r2, r3, r4, r5, r6⟩ := relate_ok hn V22 S22 _ e24
    have k3 : u24 56 3 = M 56 3 := by rw [r1 _ _ (by decide) (by decide) (by omega)]; exact z3
    have k60 : ∀ k, u24 60 k = u22 60 k := fun k => r1 _ _ (by decide) (by decide) (by omega)
    refine ⟨rfl, ⟨fun k hk => ?_, ⟨r3, r4, fun j hj h2 => r5 j hj (by rw [z3, ← k3]; exact h2), fun k hk => ?_⟩, fun j k hj hk jk => ?_⟩, k3, r2⟩
    · have hk : (k : Int) < u22 56 3 := by rw [z3, ← k3]; exact hk
      have Y := S22 k hk
      dsimp only; rw [show u24 60 k = u22 60 k from k60 k]
      have hdk := (V22.2.2.2.2.1 k (by omega)).2
      have idk := im_at hdk
      have t1 : ly_T (u22 (u22 60 k).toNat 0).toNat = 1 := Y.1.1.2.2.2.2.2.1
      have nr : (u22 (u22 60 k).toNat 0).toNat ≠ 58 ∧ (u22 (u22 60 k).toNat 0).toNat ≠ 59 ∧ (u22 (u22 60 k).toNat 0).toNat ≠ 56 := ⟨fun z => by rw [z] at t1; exact absurd t1 (by decide), fun z => by rw [z] at t1; exact absurd t1 (by decide), fun z => by rw [z] at t1; exact absurd t1 (by decide)⟩
      refine imc_s ⟨fun x j x1 x2 => r1 _ _ (by omega) (by omega) (by omega), fun j => r1 _ _ nr.1 nr.2.1 (by omega), ?_, ?_⟩ Y
      · unfold cn_M; rw [r1 _ _ (by omega) (by omega) (by omega)]; omega
      · unfold ln_I
        split
        · rfl
        · exact r1 _ _ (by omega) (by omega) (by omega)
    · have hk : (k : Int) < u22 56 3 := by rw [z3, ← k3]; exact hk
      have w := r6 k hk
      rw [z3] at w
      dsimp only; rw [show u24 56 3 = M 56 3 from k3]; exact w
    · have rowk : ∀ k : Nat, (k : Int) < M 56 3 → (u24 (u24 60 k).toNat 0).toNat = (M (M 60 k).toNat 0).toNat := fun k hk => by
        rw [k60]
        by_cases qk : k = c
        · rw [qk, z60, r1 _ _ (by omega) (by omega) (by omega), G22 _ _ (by omega) (by omega), x0, Int.toNat_natCast, e9]
        · have hdk := (V.2.2.2.2.1 k (by omega)).2
          have idk := im_at hdk
          rw [G22 60 k (by decide) (by omega), q60, r1 _ _ (by omega) (by omega) (by omega), G22 _ _ (by omega) (by omega), (SM k hk qk).1 _ _ (Nat.le_refl _) (by omega)]
      have hj : (j : Int) < M 56 3 := by rw [← k3]; exact hj
      have hk : (k : Int) < M 56 3 := by rw [← k3]; exact hk
      show (u24 (u24 60 j).toNat 0).toNat ≠ (u24 (u24 60 k).toNat 0).toNat
      rw [rowk j hj, rowk k hk]
      exact S.2.2 j k hj hk jk
  · rw [if_neg d2] at e
    have B9 := back e
    have yes : OTh Bf nf (M 56 3) c (fun x => Bn (na_S Bn (nf c) (own_S Bn (nf c)) + x)) (tl_S Bn (nf c) (own_S Bn (nf c))) := by
      rcases O with ⟨-, o2⟩ | ⟨o1, -⟩
      · exact o2
      · exact absurd o1 d2
    exact ⟨fun e he => nol he, fun q hq => ⟨fun _ => B9, fun z => absurd yes z⟩⟩
end
end
section
/- THE REFERENCE PATCHES -/
section
variable {nn : Nat} {h r g M M2 : ms_M} {Bf : Nat → Nat → Int} {nf : Nat → Nat} {f : Nat → Int} {m : Nat}
/-- among the names below k: known ones first, then classes other than c -/
def OTq (Bf : Nat → Nat → Int) (nf : Nat → Nat) (k c : Nat) (f : Nat → Int) (m : Nat) : Prop := (∃ j : Nat, j < 8 ∧ j < k ∧ KNm f m j) ∨ ∃ j : Nat, 8 + j < k ∧ j ≠ c ∧ UNm f m (Bf j) (nf j) (own_S (Bf j) (nf j))
theorem r_173 {c t : Nat} (hc : (c : Int) < M 160 98) (h98 : M 160 98 ≤ 8) (S : ∀ k : Nat, (k : Int) < M 160 98 → k ≠ c → TBr (k : Int) (nf k) (Bf k) M) (R : RWt M 238 ((t + 2 : Nat) : Int) m f) (e1 : M 238 (t + 1) = (m : Int)) (ht : t ≤ 6000) (hf : ∀ i, i < m → ¬ f i = 32) : ∀ (fu k : Nat) (l5 : Int), (k : Int) ≤ 8 + M 160 98 → ((l5 = 1 ∧ ¬ OTq Bf nf k c f m) ∨ (l5 = 0 ∧ OTq Bf nf k c f m)) → Pc (qw_X13_patch_173 nn fu (8 + (c : Int)) (c : Int) l5 (t : Int) (k : Int) M) (fun u => ∃ l : Int, ((l = 1 ∧ ¬ OTh Bf nf (M 160 98) c f m) ∨ (l = 0 ∧ OTh Bf nf (M 160 98) c f m)) ∧ qj_X13_patch_235 nn (c : Int) l M = some u) := by
  have up : ∀ k : Nat, (k : Int) ≤ 8 + M 160 98 → OTq Bf nf k c f m → OTh Bf nf (M 160 98) c f m := fun k hk z => by
    rcases z with ⟨j, j1, j2, j3⟩ | ⟨j, j1, j2, j3⟩
    · exact .inl ⟨j, j1, j3⟩
    · exact .inr ⟨j, by omega, j2, j3⟩
  have dn : ∀ k : Nat, (k : Int) = 8 + M 160 98 → OTh Bf nf (M 160 98) c f m → OTq Bf nf k c f m := fun k hk z => by
    rcases z with ⟨j, j1, j3⟩ | ⟨j, j1, j2, j3⟩
    · exact .inl ⟨j, j1, by omega, j3⟩
    · exact .inr ⟨j, by omega, j2, j3⟩
  have on : ∀ k : Nat, OTq Bf nf k c f m → OTq Bf nf (k + 1) c f m := fun k z => by
    rcases z with ⟨j, j1, j2, j3⟩ | ⟨j, j1, j2, j3⟩
    · exact .inl ⟨j, j1, by omega, j3⟩
    · exact .inr ⟨j, by omega, j2, j3⟩
  intro fu
  induction fu with
  | zero => intros; exact pc_none
  | succ fu ih =>
    intro k l5 hk hl
    unfold qw_X13_patch_173
    refine pc_add (by omega) ?_; intro v10 e10
    refine pc_if (fun z => ?_) (fun z => pc_if (fun y => ?_) (fun y => ?_))
    · intro u eu
      refine ⟨l5, ?_, eu⟩
      rcases hl with ⟨a, b⟩ | ⟨a, b⟩
      · exact .inl ⟨a, fun w => b (dn k (by omega) w)⟩
      · exact .inr ⟨a, up k hk b⟩
    · intro u eu
      refine ⟨l5, ?_, eu⟩
      rcases hl with ⟨a, b⟩ | ⟨a, b⟩
      · omega
      · exact .inr ⟨a, up k hk b⟩
    have no : ¬ OTq Bf nf k c f m := by
      rcases hl with ⟨a, b⟩ | ⟨a, b⟩
      · exact b
      · exact absurd a y
    have step : ¬ OTq Bf nf (k + 1) c f m → Pc (qj_X13_patch_222 nn (qw_X13_patch_173 nn fu) (8 + (c : Int)) (c : Int) (t : Int) (k : Int) M) (fun u => ∃ l : Int, ((l = 1 ∧ ¬ OTh Bf nf (M 160 98) c f m) ∨ (l = 0 ∧ OTh Bf nf (M 160 98) c f m)) ∧ qj_X13_patch_235 nn (c : Int) l M = some u) := fun w => by
      unfold qj_X13_patch_222
      refine pc_add (by omega) ?_; intro v8 e8
      rw [show v8 = ((k + 1 : Nat) : Int) by omega]
      exact ih (k + 1) 1 (by omega) (.inl ⟨rfl, w⟩)
    have found : OTq Bf nf (k + 1) c f m → Pc (xl (oq_add (k : Int) 1) fun v18 => qw_X13_patch_173 nn fu (8 + (c : Int)) (c : Int) 0 (t : Int) v18 M) (fun u => ∃ l : Int, ((l = 1 ∧ ¬ OTh Bf nf (M 160 98) c f m) ∨ (l = 0 ∧ OTh Bf nf (M 160 98) c f m)) ∧ qj_X13_patch_235 nn (c : Int) l M = some u) := fun w => by
      refine pc_add (by omega) ?_; intro v8 e8
      rw [show v8 = ((k + 1 : Nat) : Int) by omega]
      exact ih (k + 1) 0 (by omega) (.inr ⟨rfl, w⟩)
    refine pc_if (fun q => step ?_) (fun q => ?_)
    · rintro (⟨j, j1, j2, j3⟩ | ⟨j, j1, j2, j3⟩)
      · exact no (.inl ⟨j, j1, by omega, j3⟩)
      · exact no (.inr ⟨j, by omega, j2, j3⟩)
    refine pc_add (by omega) ?_; intro v12 e12
    refine pc_add (by omega) ?_; intro v14 e14
    refine pc_rA ?_; intro i1 i2 v15 e15
    have e15 : v15 = (m : Int) := by rw [e15, show v14.toNat = t + 1 by omega]; exact e1
    rw [e15, show v12 = ((t + 2 : Nat) : Int) by omega]
    by_cases k8 : k < 8
    · refine pc_sv (r_known R hf k8) ?_; intro u17 q17
      refine pc_if (fun y2 => found ?_) (fun y2 => step ?_)
      · rcases q17 with ⟨-, q2⟩ | ⟨q1, -⟩
        · exact .inl ⟨k, k8, by omega, q2⟩
        · exact absurd q1 y2
      · have q2 : ¬ KNm f m k := by
          rcases q17 with ⟨q1, -⟩ | ⟨-, q2⟩
          · omega
          · exact q2
        rintro (⟨j, j1, j2, j3⟩ | ⟨j, j1, j2, j3⟩)
        · by_cases qj : j = k
          · rw [qj] at j3; exact q2 j3
          · exact no (.inl ⟨j, j1, by omega, j3⟩)
        · omega
    · obtain ⟨d, hd⟩ : ∃ d : Nat, k = 8 + d := ⟨k - 8, by omega⟩
      have X := S d (by omega) (by omega)
      have ek : (k : Int) = 8 + (d : Int) := by omega
      refine pc_sv (P := fun u => (u = 1 ∧ UNm f m (Bf d) (nf d) (own_S (Bf d) (nf d))) ∨ (u = 0 ∧ ¬ UNm f m (Bf d) (nf d) (own_S (Bf d) (nf d)))) (by rw [ek]; exact r_user R (by omega) X) ?_; intro u17 q17
      refine pc_if (fun y2 => found ?_) (fun y2 => step ?_)
      · rcases q17 with ⟨-, q2⟩ | ⟨q1, -⟩
        · exact .inr ⟨d, by omega, by omega, q2⟩
        · exact absurd q1 y2
      · have q2 : ¬ UNm f m (Bf d) (nf d) (own_S (Bf d) (nf d)) := by
          rcases q17 with ⟨q1, -⟩ | ⟨-, q2⟩
          · omega
          · exact q2
        rintro (⟨j, j1, j2, j3⟩ | ⟨j, j1, j2, j3⟩)
        · exact no (.inl ⟨j, j1, by omega, j3⟩)
        · by_cases qj : j = d
          · rw [qj] at j3; exact q2 j3
          · exact no (.inr ⟨j, by omega, j2, j3⟩)
theorem r_patch (hn : 1000000 ≤ nn) {c i : Nat} {v : Int} (rv : in_R v) (V : VS_ h) (S : ∀ k : Nat, (k : Int) < h 160 98 → TBr (k : Int) (nf k) (Bf k) h) (hc : (c : Int) < h 160 98) (hi : i < nf c) : Pc (qf_X13_patch nn (8 + (c : Int)) (i : Int) v h) (fun u => ∃ Bn : Nat → Int, (∀ j, j < nf c → Bn j = if j = i then oq_and v 255 else Bf c j) ∧ (∀ e, rdi_S Bn (nf c) = .inl e → u.1 = 0 ∧ KPs Bf nf h u.2) ∧ ∀ q, rdi_S Bn (nf c) = .inr q → (OTh Bf nf (h 160 98) c (fun x => Bn (na_S Bn (nf c) (own_S Bn (nf c)) + x)) (tl_S Bn (nf c) (own_S Bn (nf c))) → u.1 = 0 ∧ KPs Bf nf h u.2) ∧ (¬ OTh Bf nf (h 160 98) c (fun x => Bn (na_S Bn (nf c) (own_S Bn (nf c)) + x)) (tl_S Bn (nf c) (own_S Bn (nf c))) → u.1 = 1 ∧ u.2 160 98 = h 160 98 ∧ u.2 160 99 = 0 ∧ u.2 160 138 = 0 ∧ ∀ k : Nat, (k : Int) < h 160 98 → TBr (k : Int) (nf k) (ext_B Bf c Bn k) u.2)) := by
  have g98 := gF_160_98 V
  have c256 := vi_c V
  have c8 : c < 8 := by omega
  obtain ⟨s1, s2, s3, s4⟩ := (S c hc).1
  rw [Int.toNat_natCast] at s1 s3
  have r39 : 0 ≤ oq_and v 255 ∧ oq_and v 255 ≤ 255 := by rw [by_rel rv]; omega
  unfold qf_X13_patch
  refine pc_sub (by omega) ?_; intro v55 e55
  rw [show v55 = (c : Int) by omega]
  refine pc_if (fun z => absurd z (by omega)) (fun _ => pc_if (fun z => absurd z (by omega)) (fun _ => pc_if (fun z => absurd z (by omega)) (fun _ => ?_)))
  refine pc_rA ?_; intro i1 i2 v58 e58
  rw [Int.toNat_natCast, s1] at e58
  refine pc_if (fun _ => ?_) (fun z => absurd (by omega) z)
  refine pc_rA ?_; intro j1 j2 v60 e60
  rw [Int.toNat_natCast, s1] at e60
  refine pc_xl ?_; intro h61 e61
  -- what is behind the copy
  have E : ∀ g : ms_M, VS_ g → (∀ j : Nat, j < nf c → g 238 j = Bf c j) → g 160 113 = (nf c : Int) → (∀ x k, x ≠ 238 → ¬ (x = 160 ∧ k = 113) → g x k = h x k) → Pc (xl (oq_and v 255) fun v39 => wr_A 6000 238 (i : Int) v39 g fun h40 => mx_sv (qf_X13_aside nn (c : Int) h40) fun u42 => mx_sv (qf_X13_scan nn (c : Int) u42) fun u44 => if ¬ (u44 160 114) = (-1) then (qj_X13_patch_123 nn (8 + (c : Int)) (c : Int) 0 u44) else (qj_X13_patch_123 nn (8 + (c : Int)) (c : Int) 1 u44)) (fun u => ∃ Bn : Nat → Int, (∀ j, j < nf c → Bn j = if j = i then oq_and v 255 else Bf c j) ∧ (∀ e, rdi_S Bn (nf c) = .inl e → u.1 = 0 ∧ KPs Bf nf h u.2) ∧ ∀ q, rdi_S Bn (nf c) = .inr q → (OTh Bf nf (h 160 98) c (fun x => Bn (na_S Bn (nf c) (own_S Bn (nf c)) + x)) (tl_S Bn (nf c) (own_S Bn (nf c))) → u.1 = 0 ∧ KPs Bf nf h u.2) ∧ (¬ OTh Bf nf (h 160 98) c (fun x => Bn (na_S Bn (nf c) (own_S Bn (nf c)) + x)) (tl_S Bn (nf c) (own_S Bn (nf c))) → u.1 = 1 ∧ u.2 160 98 = h 160 98 ∧ u.2 160 99 = 0 ∧ u.2 160 138 = 0 ∧ ∀ k : Nat, (k : Int) < h 160 98 → TBr (k : Int) (nf k) (ext_B Bf c Bn k) u.2)) := by
    intro g Vg G e13 N
    refine pc_xl ?_; intro v39 e39
    refine pc_wA ?_; intro a1 a2 h40 e40
    rw [Int.toNat_natCast] at e40
    have V40 : VS_ h40 := by
      have w := wA_238 Vg (k := i) (v := v39) (by omega)
      rw [e40]; exact w
    have N40 : ∀ x k, x ≠ 238 → ¬ (x = 160 ∧ k = 113) → h40 x k = h x k := fun x k q1 q2 => by rw [e40, up_n (by omega)]; exact N x k q1 q2
    refine pc_se ?_; intro u42 e42
    obtain ⟨V42, N42, T42⟩ := okof (as_aside hn (c := (c : Int)) (by omega) V40) e42
    have L42 : ∀ j, j < nf c → u42 238 j = if j = i then oq_and v 255 else Bf c j := fun j hj => by
      rw [N42 _ _ (by decide), e40]
      by_cases qj : j = i
      · rw [if_pos qj, qj, up_s]; exact e39
      · rw [if_neg qj, up_n (by omega)]; exact G j hj
    have hB : ∀ j, j < nf c → 0 ≤ u42 238 j ∧ u42 238 j ≤ 255 := fun j hj => by
      rw [L42 j hj]
      by_cases qj : j = i
      · rw [if_pos qj]; exact r39
      · rw [if_neg qj]; exact s4 j hj
    have e113 : u42 160 113 = (nf c : Int) := by rw [N42 _ _ (by decide), e40, up_n (by omega)]; exact e13
    refine pc_se ?_; intro u44 e44
    have RF := r_scan (B := fun j => u42 238 j) (n := nf c) hn (c := (c : Int)) (M := u42) (by omega) ⟨e113, s2⟩ (fun _ => rfl) (by have := vi_c V42; omega) hB _ e44
    obtain ⟨⟨V44, N44, -⟩, -⟩ := okof (sr_scan hn (c := (c : Int)) (by omega) V42) e44
    have G44 : ∀ x k, x ≠ 238 → x ≠ 239 → ¬ (x = 160 ∧ (113 ≤ k ∧ k ≤ 114 ∨ k = 112 ∨ k = 111 ∨ k = 115 ∨ k = 116)) → ¬ TAB (c : Int) x k → u44 x k = h x k := fun x k q1 q2 q3 y => by
      rw [N44 x k (by omega) (fun z => y (.inl z)) (fun z => y (.inr (.inl z))) (fun z => y (.inr (.inr z))), N42 x k q2]
      exact N40 x k q1 (by omega)
    have e98 : u44 160 98 = h 160 98 := G44 160 98 (by decide) (by decide) (by omega) (by unfold TAB; omega)
    have S44 : ∀ k : Nat, (k : Int) < h 160 98 → k ≠ c → TBr (k : Int) (nf k) (Bf k) u44 := fun k hk qk => by
      refine tb_k (by omega) (fun x j T => ?_) (fun j j1 j2 => G44 _ _ (by omega) (by omega) (by omega) (by unfold TAB; omega)) (G44 _ _ (by omega) (by omega) (by omega) (by unfold TAB; omega)) (S k hk)
      unfold TAB at T
      exact G44 _ _ (by omega) (by omega) (by omega) (by unfold TAB; omega)
    have T44 : TBk u44 h40 (c : Int) := by
      have e : ∀ k : Nat, u44 239 k = u42 239 k := fun k => N44 239 k (by omega) (by omega) (by omega) (by omega)
      refine ⟨fun i hi => by rw [e]; exact T42.1 i hi, ?_, fun j hj => by rw [e, e, e, e]; exact T42.2.2 j hj⟩
      unfold TB2
      rw [e, e, e, e, e]; exact T42.2.1
    have back : ∀ {u : Int × ms_M}, qj_X13_patch_235 nn (c : Int) 0 u44 = some u → u.1 = 0 ∧ KPs Bf nf h u.2 := fun {u} eu => by
      unfold qj_X13_patch_235 at eu
      rw [if_neg (by decide)] at eu
      obtain ⟨u47, e47, eu⟩ := sv_i eu
      cases eu
      obtain ⟨V47, A, B7⟩ := okof (ag_again hn (c := (c : Int)) (by omega) V44 V40 T44) e47
      have W : ∀ x k, x ≠ 238 → x ≠ 239 → ¬ (x = 160 ∧ (113 ≤ k ∧ k ≤ 114 ∨ k = 112 ∨ k = 111 ∨ k = 115 ∨ k = 116)) → u47 x k = h x k := fun x k w1 w2 w3 => by
        by_cases y : TAB (c : Int) x k
        · rw [B7 x k y]; exact N40 x k w1 (by omega)
        · rw [A x k y]; exact G44 x k w1 w2 w3 y
      exact ⟨rfl, W _ _ (by decide) (by decide) (by omega), W _ _ (by decide) (by decide) (by omega), W _ _ (by decide) (by decide) (by omega), fun k hk => tb_k (by omega) (fun x j T => W x j (by unfold TAB at T; omega) (by unfold TAB at T; omega) (by unfold TAB at T; omega)) (fun j _ _ => W _ _ (by decide) (by decide) (by omega)) (W _ _ (by decide) (by decide) (by omega)) (S k hk)⟩
    have g114 := gF_160_114 V44
    refine pc_if (fun D => ?_) (fun D => ?_)
    · unfold qj_X13_patch_123
      refine pc_if (fun _ => ?_) (fun z => absurd rfl z)
      intro u eu
      refine ⟨fun j => u42 238 j, L42, fun _ _ => back eu, fun q hq => ?_⟩
      have w := RF.1; rw [hq] at w
      exact absurd w D
    · have D := Decidable.not_not.1 D
      have good : ∃ q, rdi_S (fun j => u42 238 j) (nf c) = .inr q := by
        cases z : rdi_S (fun j => u42 238 j) (nf c) with
        | inl e =>
          have := RF.1; rw [z] at this
          exact absurd D (rs_l this)
        | inr q => exact ⟨q, rfl⟩
      obtain ⟨q0, z0⟩ := good
      have X := RF.2 q0 z0
      clear RF
      generalize eBn : (fun j => u42 238 j) = B at *
      have nol : ∀ {P : Prop} {e : Nat}, rdi_S B (nf c) = .inl e → P := fun he => by rw [z0] at he; cases he
      have X2 := X
      obtain ⟨⟨t1, t2, t3, t4, t5⟩, p, q, zk, ⟨y1, y2, -, -⟩, ⟨e30, e31⟩, -⟩ := X2
      have a1 := by_le y1
      have n1 : own_S B (nf c) = pt_S B (nf c) (B p) 0 := by unfold own_S; rw [zk]
      have w1 := pc_tx (p := p) zk t3.1 a1.2.2
      rw [← n1] at w1
      have c1 : tg_S B (nf c) (B p) = 3 := by
        have z := a1.2.2; unfold pc_S cl_S at z; rw [Bool.and_eq_true, decide_eq_true_iff] at z; exact z.1
      have k1 := tg_in (B := B) (n := nf c) (k := B p) (by omega)
      have k2 := tg_in (B := B) (n := nf c) (k := own_S B (nf c)) (by omega)
      have kv1 := t5 (B p) k1.1 k1.2.1
      have kv1b := kv1.2.2.1 (by omega)
      have kv2 := t5 (own_S B (nf c)) k2.1 k2.2.1
      have kv2b := kv2.2.1 (by omega)
      have L : ∀ i, u44 238 i = B i := t1.2.2.2.2.1
      unfold qj_X13_patch_123
      refine pc_if (fun z => absurd z (by decide)) (fun _ => ?_)
      refine pc_xl ?_; intro v24 e24
      rw [oq_mul_eq (by omega) (by omega) (by omega)] at e24
      refine pc_xl ?_; intro v27 e27
      rw [oq_mul_eq (by omega) (by omega) (by omega)] at e27
      refine pc_rA ?_; intro i1 i2 v29 e29
      rw [e30] at e29
      refine pc_add (by omega) ?_; intro v30 e30b
      refine pc_rA ?_; intro j1 j2 v31 e31b
      have e31b : v31 = (pl_S B (nf c) (B p) : Int) := by
        rw [e31b, show v30.toNat = (256 * (c : Int) + B p).toNat by omega]; exact t4 _ k1.1 k1.2.1
      refine pc_add (by omega) ?_; intro v32 e32
      refine pc_rA ?_; intro l1 l2 v33 e33
      have e33 : v33 = own_S B (nf c) := by
        rw [e33, L, n1]; unfold pt_S; congr 1; omega
      refine pc_add (by omega) ?_; intro v34 e34
      refine pc_rA ?_; intro m1 m2 v35 e35
      have e35 : v35 = (pl_S B (nf c) (own_S B (nf c)) : Int) := by
        rw [e35, show v34.toNat = (256 * (c : Int) + own_S B (nf c)).toNat by omega]; exact t4 _ k2.1 k2.2.1
      rw [e35]
      have RW : RWt u44 238 ((pl_S B (nf c) (own_S B (nf c)) + 2 : Nat) : Int) (tl_S B (nf c) (own_S B (nf c))) (fun i => B (na_S B (nf c) (own_S B (nf c)) + i)) := by
        refine ⟨by omega, by omega, by omega, fun i hi => ?_⟩
        rw [Int.toNat_natCast]; exact L _
      have nm : nm_N (fun i => B (na_S B (nf c) (own_S B (nf c)) + i)) (tl_S B (nf c) (own_S B (nf c))) = true := by
        have z := w1.2; unfold nm_S at z; rw [Bool.and_eq_true] at z; exact z.2
      have W3 := r_173 (nn := nn) (M := u44) (Bf := Bf) (nf := nf) (c := c) (by omega) (by omega) (fun k hk qk => S44 k (by omega) qk) RW (by rw [L]; exact kv2b.2.2.2) (by omega) (nm_32 nm) nn 0 1 (by omega) (.inl ⟨rfl, fun z => by rcases z with ⟨j, j1, j2, -⟩ | ⟨j, j1, -⟩ <;> omega⟩)
      refine pc_imp W3 (fun u q => ?_)
      obtain ⟨l, lo, eu⟩ := q
      rw [e98] at lo
      refine ⟨B, fun j hj => by rw [← eBn]; exact L42 j hj, fun e he => nol he, fun q hq => ?_⟩
      rcases lo with ⟨l1, no⟩ | ⟨l0, yes⟩
      · refine ⟨fun z => absurd z no, fun _ => ?_⟩
        rw [l1] at eu
        unfold qj_X13_patch_235 at eu
        rw [if_pos (by decide)] at eu
        obtain ⟨u2, e2, eu⟩ := sv_i eu
        rw [xl_eq, xl_eq] at eu
        cases eu
        obtain ⟨QI, a31⟩ := okof (nm_install hn (c := (c : Int)) (by omega) V44) e2
        obtain ⟨qi1, qi2, qi3, qi4⟩ := QI
        have W : ∀ x k : Nat, x ≠ 160 → up_M (up_M u2.2 160 99 0) 160 138 0 x k = u2.2 x k := fun x k a => by rw [up_n (fun y => a y.1), up_n (fun y => a y.1)]
        refine ⟨rfl, ?_, ?_, ?_, fun k hk => ?_⟩
        · show up_M (up_M u2.2 160 99 0) 160 138 0 160 98 = _
          rw [up_n (by omega), up_n (by omega), qi2 160 98 (by omega) (by omega)]; exact e98
        · show up_M (up_M u2.2 160 99 0) 160 138 0 160 99 = 0
          rw [up_n (by omega), up_s]
        · show up_M (up_M u2.2 160 99 0) 160 138 0 160 138 = 0
          rw [up_s]
        · unfold ext_B
          by_cases qk : k = c
          · rw [if_pos qk, qk]
            refine im_tb ?_ ?_ (fun i hi => ?_)
            · refine imr_z (fun x k a b => ?_) (fun k a => ?_) X
              · try dsimp only
                rw [W x k a]; exact qi2 x k (by omega) (by omega)
              · show up_M (up_M u2.2 160 99 0) 160 138 0 160 k = _
                rw [up_n (by omega), up_n (by omega)]; exact qi2 160 k (by omega) (by omega)
            · try dsimp only
              rw [W _ _ (by decide), qi4, t1.2.2.1]
            · try dsimp only
              rw [W _ _ (by decide), qi3 i (by rw [t1.2.2.1]; omega), L]
          · rw [if_neg qk]
            refine tb_k (by omega) (fun x j T => ?_) (fun j j1 j2 => ?_) ?_ (S44 k hk qk)
            · unfold TAB at T
              try dsimp only
              rw [W _ _ (by omega)]; exact qi2 _ _ (by omega) (by omega)
            · try dsimp only
              rw [W _ _ (by decide)]; exact qi2 _ _ (by omega) (by omega)
            · try dsimp only
              rw [W _ _ (by decide)]; exact qi2 _ _ (by omega) (by omega)
      · rw [l0] at eu
        exact ⟨fun _ => back eu, fun z => absurd yes z⟩
  -- the copy
  have L : ∀ (fu j : Nat) (g : ms_M), VS_ g → j ≤ nf c → (∀ x : Nat, x < j → g 238 x = Bf c x) → g 160 113 = (nf c : Int) → (∀ x k, x ≠ 238 → ¬ (x = 160 ∧ k = 113) → g x k = h x k) → Pc (qw_X13_patch_51 nn fu (8 + (c : Int)) (i : Int) v (c : Int) (j : Int) g) (fun u => ∃ Bn : Nat → Int, (∀ j, j < nf c → Bn j = if j = i then oq_and v 255 else Bf c j) ∧ (∀ e, rdi_S Bn (nf c) = .inl e → u.1 = 0 ∧ KPs Bf nf h u.2) ∧ ∀ q, rdi_S Bn (nf c) = .inr q → (OTh Bf nf (h 160 98) c (fun x => Bn (na_S Bn (nf c) (own_S Bn (nf c)) + x)) (tl_S Bn (nf c) (own_S Bn (nf c))) → u.1 = 0 ∧ KPs Bf nf h u.2) ∧ (¬ OTh Bf nf (h 160 98) c (fun x => Bn (na_S Bn (nf c) (own_S Bn (nf c)) + x)) (tl_S Bn (nf c) (own_S Bn (nf c))) → u.1 = 1 ∧ u.2 160 98 = h 160 98 ∧ u.2 160 99 = 0 ∧ u.2 160 138 = 0 ∧ ∀ k : Nat, (k : Int) < h 160 98 → TBr (k : Int) (nf k) (ext_B Bf c Bn k) u.2)) := by
    intro fu
    induction fu with
    | zero => intros; exact pc_none
    | succ fu ih =>
      intro j g Vg hj G e13 N
      unfold qw_X13_patch_51
      refine pc_if (fun C => ?_) (fun C => ?_)
      · exact E g Vg (fun x hx => G x (by omega)) e13 N
      · refine pc_xl ?_; intro v49 e49
        rw [oq_mul_eq (by omega) (by omega) (by omega)] at e49
        refine pc_add (by omega) ?_; intro v50 e50
        refine pc_rA ?_; intro i1 i2 v51 e51
        have e51 : v51 = Bf c j := by
          rw [e51, show v50.toNat = 6000 * c + j by omega, N 226 _ (by decide) (by omega)]; exact s3 j (by omega)
        have r51 := s4 j (by omega)
        refine pc_wA ?_; intro j1 j2 h52 e52
        refine pc_add (by omega) ?_; intro v53 e53
        rw [show v53 = ((j + 1 : Nat) : Int) by omega]
        refine ih (j + 1) h52 (by rw [e52]; exact wA_238 Vg (by omega)) (by omega) (fun x hx => ?_) (by rw [e52, up_n (by omega)]; exact e13) (fun x k a b => by rw [e52, up_n (by omega)]; exact N x k a b)
        rw [e52, Int.toNat_natCast]
        by_cases q : x = j
        · rw [q, up_s]; exact e51
        · rw [up_n (by omega)]; exact G x (by omega)
  exact L nn 0 h61 (by rw [e61, e60]; exact wF_160_113 V (by omega)) (by omega) (fun x hx => absurd hx (Nat.not_lt_zero x)) (by rw [e61, up_s]; exact e60) (fun x k a b => by rw [e61, up_n b])
end
end
section
/- PATCH OF BOTH SIDES -/
section
variable {nn : Nat} {M g : ms_M} {Bf : Nat → Nat → Int} {nf : Nat → Nat}
theorem pt_2 (hn : 1000000 ≤ nn) (V : VS_ M) (SI : SI_ M) (J : OJ M) (E : SPE Bf nf M) (cm : cn_M M ≤ 700000) {a b v : Int} (ra : in_R a) (rb : in_R b) (rv : in_R v) {u : Int × ms_M} (e : qf_X7_change nn a b v M = some u) (Vg : VS_ g) (gT : ∀ x k, 226 ≤ x → x ≤ 237 → g x k = M x k) (g98 : g 160 98 = M 160 98) {z : Int × ms_M} (e2 : qf_X13_patch nn a b v g = some z) : u.1 = z.1 ∧ ∃ Bg, CSp Bg nf u.2 ∧ (∀ k : Nat, (k : Int) < z.2 160 98 → TBr (k : Int) (nf k) (Bg k) z.2) ∧ u.2 56 3 = z.2 160 98 ∧ NKn Bg nf (u.2 56 3) ∧ ((Bg = Bf ∧ u.1 = 0 ∧ u.2 56 4 = M 56 4 ∧ z.2 160 99 = g 160 99 ∧ z.2 160 138 = g 160 138) ∨ (u.1 = 1 ∧ u.2 56 4 = 0 ∧ z.2 160 99 = 0 ∧ z.2 160 138 = 0)) := by
  obtain ⟨⟨p1, p2, p3⟩, S, T, N⟩ := E
  have g3 := gF_56_3 V
  unfold in_R at ra rb
  have Tg : ∀ k : Nat, (k : Int) < g 160 98 → TBr (k : Int) (nf k) (Bf k) g := fun k hk => tb_k (by omega) (fun x j q => gT _ _ (by unfold TAB at q; omega) (by unfold TAB at q; omega)) (fun j _ _ => gT _ _ (by decide) (by decide)) (gT _ _ (by decide) (by decide)) (T k (by omega))
  have stay : u = (0, M) → z = (0, g) → u.1 = z.1 ∧ ∃ Bg, CSp Bg nf u.2 ∧ (∀ k : Nat, (k : Int) < z.2 160 98 → TBr (k : Int) (nf k) (Bg k) z.2) ∧ u.2 56 3 = z.2 160 98 ∧ NKn Bg nf (u.2 56 3) ∧ ((Bg = Bf ∧ u.1 = 0 ∧ u.2 56 4 = M 56 4 ∧ z.2 160 99 = g 160 99 ∧ z.2 160 138 = g 160 138) ∨ (u.1 = 1 ∧ u.2 56 4 = 0 ∧ z.2 160 99 = 0 ∧ z.2 160 138 = 0)) := fun a1 a2 => by
    rw [a1, a2]
    exact ⟨rfl, Bf, S, Tg, by show M 56 3 = g 160 98; omega, N, .inl ⟨rfl, rfl, rfl, rfl, rfl⟩⟩
  by_cases wa : 8 ≤ a ∧ a < 8 + M 56 3
  · obtain ⟨c, hc⟩ : ∃ c : Nat, a = 8 + (c : Int) := ⟨(a - 8).toNat, by omega⟩
    have hc3 : (c : Int) < M 56 3 := by omega
    have X0 := (S.1 c hc3).1.1
    have e1 : M (M 60 c).toNat 1 = (nf c : Int) := X0.2.2.1
    obtain ⟨s1, s2, s3, s4⟩ := (Tg c (by omega)).1
    rw [Int.toNat_natCast] at s1
    by_cases wb : 0 ≤ b ∧ b < (nf c : Int)
    · obtain ⟨i, hi⟩ : ∃ i : Nat, b = (i : Int) := ⟨b.toNat, by omega⟩
      rw [hc, hi] at e e2
      obtain ⟨Bn, eB, R1, R2⟩ := r_patch hn rv Vg Tg (c := c) (i := i) (by omega) (by omega) _ e2
      obtain ⟨C1, C2⟩ := c_change hn rv V SI J S hc3 (by omega) cm Bn eB _ e
      have keep : u.1 = 0 → CSp Bf nf u.2 → u.2 56 3 = M 56 3 → u.2 56 4 = M 56 4 → z.1 = 0 → KPs Bf nf g z.2 → u.1 = z.1 ∧ ∃ Bg, CSp Bg nf u.2 ∧ (∀ k : Nat, (k : Int) < z.2 160 98 → TBr (k : Int) (nf k) (Bg k) z.2) ∧ u.2 56 3 = z.2 160 98 ∧ NKn Bg nf (u.2 56 3) ∧ ((Bg = Bf ∧ u.1 = 0 ∧ u.2 56 4 = M 56 4 ∧ z.2 160 99 = g 160 99 ∧ z.2 160 138 = g 160 138) ∨ (u.1 = 1 ∧ u.2 56 4 = 0 ∧ z.2 160 99 = 0 ∧ z.2 160 138 = 0)) := fun a1 a2 a3 a4 a5 K => by
        obtain ⟨k1, k2, k3, k4⟩ := K
        exact ⟨by omega, Bf, a2, fun k hk => k4 k (by omega), by omega, by rw [a3]; exact N, .inl ⟨rfl, a1, a4, k2, k3⟩⟩
      rw [g98, p1] at R2
      cases zr : rdi_S Bn (nf c) with
      | inl x =>
        obtain ⟨c1, c2, c3, c4⟩ := C1 x zr
        obtain ⟨r1, r2⟩ := R1 x zr
        exact keep c1 c2 c3 c4 r1 r2
      | inr x =>
        obtain ⟨C3, C4⟩ := C2 x zr
        obtain ⟨R3, R4⟩ := R2 x zr
        by_cases o : OTh Bf nf (M 56 3) c (fun x => Bn (na_S Bn (nf c) (own_S Bn (nf c)) + x)) (tl_S Bn (nf c) (own_S Bn (nf c)))
        · obtain ⟨c1, c2, c3, c4⟩ := C3 o
          obtain ⟨r1, r2⟩ := R3 o
          exact keep c1 c2 c3 c4 r1 r2
        · obtain ⟨c1, c2, c3, c4⟩ := C4 o
          obtain ⟨r1, r2, r3, r4, r5⟩ := R4 o
          refine ⟨by omega, ext_B Bf c Bn, c2, fun k hk => r5 k (by omega), by omega, ?_, .inr ⟨c1, c4, r3, r4⟩⟩
          rw [c3]
          intro j hj d d8
          unfold ext_B
          by_cases qj : j = c
          · rw [if_pos qj, qj]
            exact fun y => o (.inl ⟨d, d8, y⟩)
          · rw [if_neg qj]; exact N j hj d d8
    · refine stay ?_ ?_
      · unfold qf_X7_change qf_X7_imageOf at e
        rw [if_neg (by omega), xl_eq, oq_add_eq (by omega) (by omega) (by omega), if_neg (by omega), xl_eq, oq_sub_eq (by omega) (by omega) (by omega)] at e
        obtain ⟨u4, e4, e⟩ := sv_i e
        have e4 := rd_i e4
        have e4 := Option.some.inj e4
        rw [show (a - 8).toNat = c by omega] at e4
        by_cases q1 : u4 < 0
        · rw [if_pos q1] at e; exact (Option.some.inj e).symm
        · rw [if_neg q1] at e
          by_cases q2 : b < 0
          · rw [if_pos q2] at e; exact (Option.some.inj e).symm
          · rw [if_neg q2] at e
            obtain ⟨-, e⟩ := ck_i e
            rw [← e4, e1, if_neg (by omega)] at e
            exact (Option.some.inj e).symm
      · unfold qf_X13_patch at e2
        rw [xl_eq, oq_sub_eq (by omega) (by omega) (by omega), if_neg (by omega), if_neg (by omega)] at e2
        by_cases q2 : b < 0
        · rw [if_pos q2] at e2; exact (Option.some.inj e2).symm
        · rw [if_neg q2] at e2
          have e2 := rd_i e2
          have e2 := e2
          rw [show (a - 8).toNat = c by omega, s1, if_neg (by omega)] at e2
          exact (Option.some.inj e2).symm
  · refine stay ?_ ?_
    · unfold qf_X7_change qf_X7_imageOf at e
      obtain ⟨u4, e4, e⟩ := sv_i e
      have n4 : u4 = -1 := by
        by_cases q1 : a < 8
        · rw [if_pos q1] at e4; exact (Option.some.inj e4).symm
        · rw [if_neg q1, xl_eq, oq_add_eq (by omega) (by omega) (by omega), if_pos (by omega)] at e4; exact (Option.some.inj e4).symm
      rw [if_pos (by omega)] at e
      exact (Option.some.inj e).symm
    · unfold qf_X13_patch at e2
      rw [xl_eq] at e2
      by_cases q1 : a < -2147483640
      · have w : oq_sub a 8 = a - 8 + 4294967296 := by
          obtain ⟨k, hk⟩ : ∃ k : Nat, a = -2147483648 + (k : Int) ∧ k < 8 := ⟨(a + 2147483648).toNat, by omega, by omega⟩
          rw [hk.1]
          have h8 := hk.2
          match k, h8 with
          | 0, _ => decide
          | 1, _ => decide
          | 2, _ => decide
          | 3, _ => decide
          | 4, _ => decide
          | 5, _ => decide
          | 6, _ => decide
          | 7, _ => decide
        rw [w, if_neg (by omega), if_pos (by omega)] at e2
        exact (Option.some.inj e2).symm
      · rw [oq_sub_eq (by omega) (by omega) (by omega)] at e2
        by_cases q2 : a - 8 < 0
        · rw [if_pos q2] at e2; exact (Option.some.inj e2).symm
        · rw [if_neg q2, if_pos (by omega)] at e2; exact (Option.some.inj e2).symm
end
end
section
/- VERIFY: types of both sides -/
/-- values: a type of the class, a type of the reference -/
def TYj (x y : Int) : Prop := (x = 304 ∧ y = 0) ∨ (x = 301 ∧ y = 1) ∨ (x = 300 ∧ y = 2) ∨ (x = 200 ∧ y = 3) ∨ ((0 ≤ x ∧ x < 16) ∧ y = 4 + 2 * x) ∨ ((100 ≤ x ∧ x < 116) ∧ y = 5 + 2 * (x - 100))
/-- .. whose class may not be there -/
def TYo (x y : Int) : Prop := TYj x y ∨ (x = -1 ∧ 36 ≤ y ∧ y ≤ 5000)
/-- the reference's lookup may move these alone -/
def OTH (h g : ms_M) : Prop := (∀ x k : Nat, ¬ (x = 160 ∧ (k = 117 ∨ k = 120)) → ¬ x = 240 → ¬ x = 241 → g x k = h x k) ∧ (0 ≤ h 160 117 → 0 ≤ g 160 117)
/-- a name from p to e - 1, and ; behind it -/
def NMk (B : Nat → Int) (p e : Nat) : Prop := p + 1 < e ∧ B (e - 1) = 59 ∧ nm_N (fun i => B (p + i)) (e - 1 - p) = true
/-- a kind (or V) from p to e -/
def KDs (B : Nat → Int) (p e : Nat) : Prop := ((B p = 73 ∨ B p = 90 ∨ B p = 86) ∧ e = p + 1) ∨ (B p = 91 ∧ B (p + 1) = 73 ∧ e = p + 2) ∨ (B p = 91 ∧ B (p + 1) = 76 ∧ NMk B (p + 2) e) ∨ (B p = 76 ∧ NMk B (p + 1) e)
/-- the type of the kind from p to e, the class's and the reference's -/
def KTc (Bf : Nat → Nat → Int) (nf : Nat → Nat) (cnt : Int) (B : Nat → Int) (p e : Nat) (x : Int) : Prop := ((B p = 73 ∨ B p = 90) ∧ x = 301) ∨ (B p = 86 ∧ x = 303) ∨ (B p = 91 ∧ B (p + 1) = 73 ∧ x = 200) ∨ (B p = 91 ∧ B (p + 1) = 76 ∧ ∃ v : Int, CLo Bf nf cnt (fun i => B (p + 2 + i)) (e - 1 - (p + 2)) v ∧ ((v = -1 ∧ x = -1) ∨ (¬ v = -1 ∧ x = 100 + v))) ∨ (B p = 76 ∧ CLo Bf nf cnt (fun i => B (p + 1 + i)) (e - 1 - (p + 1)) x)
def NRv (a v y : Int) : Prop := (¬ v = -1 ∧ y = a + 2 * v) ∨ (v = -1 ∧ 36 ≤ y ∧ y ≤ 5000)
def KTr (Bf : Nat → Nat → Int) (nf : Nat → Nat) (cnt : Int) (B : Nat → Int) (p e : Nat) (y : Int) : Prop := ((B p = 73 ∨ B p = 90) ∧ y = 1) ∨ (B p = 86 ∧ y = 0) ∨ (B p = 91 ∧ B (p + 1) = 73 ∧ y = 3) ∨ (B p = 91 ∧ B (p + 1) = 76 ∧ ∃ v : Int, CNo Bf nf cnt (fun i => B (p + 2 + i)) (e - 1 - (p + 2)) v ∧ NRv 5 v y) ∨ (B p = 76 ∧ ∃ v : Int, CNo Bf nf cnt (fun i => B (p + 1 + i)) (e - 1 - (p + 1)) v ∧ NRv 4 v y)
section
variable {nn : Nat} {Bf : Nat → Nat → Int} {nf : Nat → Nat} {cnt : Int} {B : Nat → Int} {n b : Nat} {M h g r : ms_M}
theorem oth_r : OTH h h := ⟨fun _ _ _ _ _ => rfl, fun z => z⟩
theorem oth_t (A : OTH h g) (C : OTH g r) : OTH h r := ⟨fun x k z1 z2 z3 => (C.1 x k z1 z2 z3).trans (A.1 x k z1 z2 z3), fun z => C.2 (A.2 z)⟩
theorem clo_rg (h8 : cnt ≤ 8) {f : Nat → Int} {m : Nat} {v : Int} (C : CLo Bf nf cnt f m v) : v = -1 ∨ (0 ≤ v ∧ v < 16) := by
  rcases C with ⟨k, h1, h2, -⟩ | ⟨⟨c, h1, h2, -⟩ | ⟨h1, -⟩, -⟩
  · omega
  · omega
  · exact .inl h1
/-- both types are the same -/
theorem kt_cr (N : NKn Bf nf cnt) (h8 : cnt ≤ 8) {p e : Nat} {x y : Int} (X : KTc Bf nf cnt B p e x) (Y : KTr Bf nf cnt B p e y) : (B p = 86 ∧ x = 303 ∧ y = 0) ∨ (¬ B p = 86 ∧ ¬ x = 303 ∧ TYo x y ∧ (x = 301 ↔ (B p = 73 ∨ B p = 90)) ∧ ¬ x = 304 ∧ ¬ x = 300) := by
  rcases X with ⟨b1, x1⟩ | ⟨b1, x1⟩ | ⟨b1, b2, x1⟩ | ⟨b1, b2, v, C, x1⟩ | ⟨b1, C⟩
  · rcases Y with ⟨c1, y1⟩ | ⟨c1, y1⟩ | ⟨c1, c2, y1⟩ | ⟨c1, c2, v, C, y1⟩ | ⟨c1, v, C, y1⟩
    · exact .inr ⟨by omega, by omega, .inl (.inr (.inl ⟨x1, y1⟩)), ⟨fun _ => b1, fun _ => x1⟩, by omega, by omega⟩
    all_goals (exfalso; (try clear C); omega)
  · rcases Y with ⟨c1, y1⟩ | ⟨c1, y1⟩ | ⟨c1, c2, y1⟩ | ⟨c1, c2, v, C, y1⟩ | ⟨c1, v, C, y1⟩
    · exfalso; omega
    · exact .inl ⟨b1, x1, y1⟩
    · exfalso; omega
    all_goals (exfalso; (try clear C); omega)
  · rcases Y with ⟨c1, y1⟩ | ⟨c1, y1⟩ | ⟨c1, c2, y1⟩ | ⟨c1, c2, v, C, y1⟩ | ⟨c1, v, C, y1⟩
    · exfalso; omega
    · exfalso; omega
    · exact .inr ⟨by omega, by omega, .inl (.inr (.inr (.inr (.inl ⟨x1, y1⟩)))), by omega, by omega, by omega⟩
    all_goals (exfalso; (try clear C); omega)
  · have rg := clo_rg h8 C
    rcases Y with ⟨c1, y1⟩ | ⟨c1, y1⟩ | ⟨c1, c2, y1⟩ | ⟨c1, c2, w, D, y1⟩ | ⟨c1, w, D, y1⟩
    · exfalso; clear C; omega
    · exfalso; clear C; omega
    · exfalso; clear C; omega
    · have e := cl_cn N C D
      clear C D
      unfold NRv at y1
      unfold TYo TYj
      exact .inr ⟨by omega, by omega, by omega, by omega, by omega, by omega⟩
    · exfalso; clear C D; omega
  · have rg := clo_rg h8 C
    rcases Y with ⟨c1, y1⟩ | ⟨c1, y1⟩ | ⟨c1, c2, y1⟩ | ⟨c1, c2, w, D, y1⟩ | ⟨c1, w, D, y1⟩
    · exfalso; clear C; omega
    · exfalso; clear C; omega
    · exfalso; clear C; omega
    · exfalso; clear C D; omega
    · have e := cl_cn N C D
      clear C D
      unfold NRv at y1
      unfold TYo TYj
      exact .inr ⟨by omega, by omega, by omega, by omega, by omega, by omega⟩
/-- the class's lookup, from the first class on -/
theorem c_look (S : ∀ k : Nat, (k : Int) < M 56 3 → IMc (M 60 k).toNat (nf k) (Bf k) M) (g3 : 0 ≤ M 56 3 ∧ M 56 3 ≤ 8) (J : sr_I M b B n) {p s : Nat} (hp : p ≤ s ∧ s ≤ n) : Pc (qf_X7_classOf nn b (p : Int) (s : Int) M) (CLo Bf nf (M 56 3) (fun i => B (p + i)) (s - p)) := by
  unfold qf_X7_classOf
  exact c_classOf S g3 J hp nn 0 (fun j hj => absurd hj (by omega)) g3.1
/-- THE CLASS'S TYPE OF A KIND -/
theorem vq_ckind (S : ∀ k : Nat, (k : Int) < M 56 3 → IMc (M 60 k).toNat (nf k) (Bf k) M) (g3 : 0 ≤ M 56 3 ∧ M 56 3 ≤ 8) (J : sr_I M b B n) {p e : Nat} (K : KDs B p e) (he : e ≤ n) : Pc (qf_X7_typeOfKind nn b (p : Int) (e : Int) M) (KTc Bf nf (M 56 3) B p e) := by
  have n6 : n ≤ 6000 := J.2.1
  have pe : p < e := by unfold KDs NMk at K; omega
  unfold qf_X7_typeOfKind
  refine pc_ck (fun _ => ?_)
  refine pc_sv (P := fun u => u = B p) (fun u eu => by rw [byteAt_in J (by omega)] at eu; exact (Option.some.inj eu).symm) ?_; intro u2 q2
  rw [q2]
  refine pc_if (fun z => pc_ret (.inl ⟨.inl z, rfl⟩)) (fun z73 => ?_)
  refine pc_if (fun z90 => ?_) (fun z => pc_ret (.inl ⟨.inr (by omega), rfl⟩))
  refine pc_if (fun z86 => ?_) (fun z => pc_ret (.inr (.inl ⟨by omega, rfl⟩)))
  refine pc_if (fun z91 => ?_) (fun z91 => ?_)
  · refine pc_add (by omega) ?_; intro v3 e3
    refine pc_sv (P := fun u => u = B (p + 1)) (fun u eu => by rw [e3, show ((p : Int) + 1) = ((p + 1 : Nat) : Int) by omega, byteAt_in J (by unfold KDs NMk at K; omega)] at eu; exact (Option.some.inj eu).symm) ?_; intro u5 q5
    rw [q5]
    refine pc_if (fun z => ?_) (fun z => pc_ret (.inr (.inr (.inl ⟨z91, by omega, rfl⟩))))
    have b1 : B (p + 1) = 76 := by unfold KDs at K; omega
    have K2 : p + 3 < e := by unfold KDs NMk at K; omega
    refine pc_add (by omega) ?_; intro v6 e6
    refine pc_sub (by omega) ?_; intro v7 e7
    rw [e6, e7, show ((p : Int) + 2) = ((p + 2 : Nat) : Int) by omega, show ((e : Int) - 1) = ((e - 1 : Nat) : Int) by omega]
    refine pc_sv (c_look S g3 J (p := p + 2) (s := e - 1) (by omega)) ?_; intro u9 C
    have rg := clo_rg g3.2 C
    refine pc_if (fun z9 => ?_) (fun z9 => ?_)
    · refine pc_add (by omega) ?_; intro v10 e10
      exact pc_ret (.inr (.inr (.inr (.inl ⟨z91, b1, u9, C, .inr ⟨z9, e10⟩⟩))))
    · exact pc_ret (.inr (.inr (.inr (.inl ⟨z91, b1, u9, C, .inl ⟨by omega, rfl⟩⟩))))
  · have b0 : B p = 76 := by unfold KDs at K; omega
    have K2 : p + 2 < e := by unfold KDs NMk at K; omega
    refine pc_add (by omega) ?_; intro v13 e13
    refine pc_sub (by omega) ?_; intro v14 e14
    rw [e13, e14, show ((p : Int) + 1) = ((p + 1 : Nat) : Int) by omega, show ((e : Int) - 1) = ((e - 1 : Nat) : Int) by omega]
    refine pc_sv (c_look S g3 J (p := p + 1) (s := e - 1) (by omega)) ?_; intro u16 C
    exact pc_ret (.inr (.inr (.inr (.inr ⟨b0, C⟩))))
end
end
section
/- VERIFY: types of both sides, the reference's -/
/-- the space, as the reference has it -/
def RSv (Bf : Nat → Nat → Int) (nf : Nat → Nat) (h : ms_M) : Prop := (0 ≤ h 160 98 ∧ h 160 98 ≤ 8) ∧ ∀ k : Nat, (k : Int) < h 160 98 → TBr (k : Int) (nf k) (Bf k) h
/-- .. as the class has it -/
def CSv (Bf : Nat → Nat → Int) (nf : Nat → Nat) (h : ms_M) : Prop := (0 ≤ h 56 3 ∧ h 56 3 ≤ 8) ∧ ∀ k : Nat, (k : Int) < h 56 3 → IMc (h 60 k).toNat (nf k) (Bf k) h
section
variable {nn : Nat} {Bf : Nat → Nat → Int} {nf : Nat → Nat} {cnt : Int} {B : Nat → Int} {n b k : Nat} {M h g r : ms_M}
theorem rsv_k (S : RSv Bf nf h) (A : ∀ x j : Nat, 226 ≤ x ∧ x ≤ 237 → g x j = h x j) (e : g 160 98 = h 160 98) : RSv Bf nf g := by
  refine ⟨by rw [e]; exact S.1, fun k hk => ?_⟩
  rw [e] at hk
  have := S.1
  exact tb_k (by omega) (fun x j t => A x j (by unfold TAB at t; omega)) (fun j _ _ => A 226 j (by omega)) (A 227 _ (by omega)) (S.2 k hk)
theorem rsv_o (S : RSv Bf nf h) (A : OTH h g) : RSv Bf nf g := rsv_k S (fun x j z => A.1 x j (by omega) (by omega) (by omega)) (A.1 160 98 (by omega) (by omega) (by omega))
theorem np_59 {j : Nat} {x : Int} (e : np_N j x = true) : ¬ x = 59 := by
  intro z
  rw [z] at e
  unfold np_N lt_N at e
  rw [Bool.or_eq_true, Bool.and_eq_true] at e
  rcases e with e | e
  · exact absurd e (by decide)
  · exact absurd e.2 (by decide)
theorem nm_59 {f : Nat → Int} {m : Nat} (e : nm_N f m = true) : ∀ i, i < m → ¬ f i = 59 := by
  unfold nm_N at e
  rw [Bool.and_eq_true] at e
  intro i hi
  exact np_59 (al_at m 0 e.2 i (Nat.zero_le _) (by omega))
theorem nm_ln {f : Nat → Int} {m : Nat} (e : nm_N f m = true) : 1 ≤ m ∧ m ≤ 12 := by
  unfold nm_N at e
  rw [Bool.and_eq_true, Bool.and_eq_true] at e
  exact ⟨of_decide_eq_true e.1.1, of_decide_eq_true e.1.2⟩
theorem fi_at {f : Nat → Int} {x : Int} : ∀ (n p : Nat), fi_N f x p n < p + n → f (fi_N f x p n) = x := by
  intro n
  induction n with
  | zero => intro p z; unfold fi_N at z; omega
  | succ n ih =>
    intro p z
    unfold fi_N at z ⊢
    by_cases q : f p = x
    · rw [if_pos q]; exact q
    · rw [if_neg q] at z ⊢
      exact ih (p + 1) (by omega)
theorem kn_s {p s e : Nat} (H : kn_N B p s = some e) : B p = 76 ∧ NMk B (p + 1) e ∧ e ≤ s := by
  unfold kn_N at H
  by_cases q : p < s ∧ B p = 76
  · rw [if_pos q] at H
    generalize hx : fi_N B 59 (p + 1) (s - (p + 1)) = x at H
    by_cases w : x < s ∧ nm_N (fun i => B (p + 1 + i)) (x - (p + 1)) = true
    · rw [if_pos w] at H
      have e1 : x + 1 = e := Option.some.inj H
      have rg := fi_rg (f := B) (x := 59) (s - (p + 1)) (p + 1)
      have a1 := fi_at (f := B) (x := 59) (s - (p + 1)) (p + 1) (by omega)
      rw [hx] at a1 rg
      have l := nm_ln w.2
      refine ⟨q.2, ⟨by omega, ?_, ?_⟩, by omega⟩
      · rw [show e - 1 = x by omega]; exact a1
      · rw [show e - 1 - (p + 1) = x - (p + 1) by omega]; exact w.2
    · rw [if_neg w] at H; exact nomatch H
  · rw [if_neg q] at H; exact nomatch H
/-- what a kind is -/
theorem kd_s {p s e : Nat} (H : kd_N B p s = some e) : KDs B p e ∧ p < e ∧ e ≤ s ∧ ¬ B p = 86 := by
  have rg := kd_rg H
  unfold kd_N at H
  by_cases q : p < s ∧ (B p = 73 ∨ B p = 90)
  · rw [if_pos q] at H
    have e1 : p + 1 = e := Option.some.inj H
    exact ⟨.inl ⟨by omega, by omega⟩, rg.1, rg.2, by omega⟩
  rw [if_neg q] at H
  by_cases w : p < s ∧ B p = 91
  · rw [if_pos w] at H
    unfold kp_N at H
    by_cases t : p + 1 < s ∧ B (p + 1) = 73
    · rw [if_pos t] at H
      have e1 : p + 1 + 1 = e := Option.some.inj H
      exact ⟨.inr (.inl ⟨w.2, t.2, by omega⟩), rg.1, rg.2, by omega⟩
    · rw [if_neg t] at H
      obtain ⟨a1, a2, -⟩ := kn_s H
      exact ⟨.inr (.inr (.inl ⟨w.2, a1, a2⟩)), rg.1, rg.2, by omega⟩
  · rw [if_neg w] at H
    unfold kp_N at H
    by_cases t : p < s ∧ B p = 73
    · exact absurd ⟨t.1, .inl t.2⟩ q
    · rw [if_neg t] at H
      obtain ⟨a1, a2, -⟩ := kn_s H
      exact ⟨.inr (.inr (.inr ⟨a1, a2⟩)), rg.1, rg.2, by omega⟩
/-- numbers of names that are no class's -/
theorem r_51 {qk : Int → Int → Int → ms_M → Option (Int × ms_M)} {l1 l2 l4 : Int} (h4 : 0 ≤ l4 ∧ l4 < 2100) (Hk : ∀ l : Int, 0 ≤ l → Pc (qk l1 l2 l h) (fun u => OTH h u.2 ∧ 16 ≤ u.1 ∧ u.1 ≤ 2200)) : ∀ (f : Nat) (l5 l6 : Int), Pc (qw_X13_nameNumber_51 nn qk f l1 l2 l4 l5 l6 h) (fun u => OTH h u.2 ∧ 16 ≤ u.1 ∧ u.1 ≤ 2200) := by
  have E : ∀ l5 : Int, Pc (qj_X13_nameNumber_102 nn qk l1 l2 l4 l5 h) (fun u => OTH h u.2 ∧ 16 ≤ u.1 ∧ u.1 ≤ 2200) := fun l5 => by
    unfold qj_X13_nameNumber_102
    refine pc_if (fun _ => ?_) (fun _ => ?_)
    · refine pc_add (by omega) ?_; intro v1 e1
      exact Hk v1 (by omega)
    · refine pc_add (by omega) ?_; intro v2 e2
      exact pc_ret ⟨oth_r, by dsimp only; omega, by dsimp only; omega⟩
  intro f
  induction f with
  | zero => intro l5 l6; exact pc_none
  | succ f ih =>
    intro l5 l6
    unfold qw_X13_nameNumber_51
    refine pc_if (fun _ => E l5) (fun z => pc_if (fun _ => E l5) (fun _ => ?_))
    refine pc_rA ?_; intro _ _ v6 _
    refine pc_xl ?_; intro v7 _
    refine pc_rA ?_; intro _ _ v8 _
    refine pc_xl ?_; intro v10 _
    refine pc_rA ?_; intro _ _ v11 _
    refine pc_if (fun _ => ?_) (fun _ => ?_)
    · refine pc_xl ?_; intro v12 _
      exact ih 0 v12
    · refine pc_xl ?_; intro v13 _
      exact ih 1 v13
theorem r_21 {l1 l2 : Int} (h7 : 0 ≤ h 160 117) : ∀ (f : Nat) (l4 : Int), 0 ≤ l4 → Pc (qw_X13_nameNumber_21 nn f l1 l2 l4 h) (fun u => OTH h u.2 ∧ 16 ≤ u.1 ∧ u.1 ≤ 2200) := by
  intro f
  induction f with
  | zero => intro l4 _; exact pc_none
  | succ f ih =>
    intro l4 h4
    unfold qw_X13_nameNumber_21
    refine pc_if (fun _ => ?_) (fun _ => ?_)
    · refine pc_wA ?_; intro i1 i2 h20 e20
      refine pc_wA ?_; intro _ _ h23 e23
      have q7 : h23 160 117 = h 160 117 := by rw [e23, up_n (by omega), e20, up_n (by omega)]
      rw [q7]
      refine pc_add (by omega) ?_; intro v25 e25
      refine pc_xl ?_; intro h26 e26
      have q6 : h26 160 117 = h 160 117 + 1 := by rw [e26, up_s, e25]
      rw [q6]
      refine pc_add (by omega) ?_; intro v28 e28
      refine pc_sub (by omega) ?_; intro v29 e29
      refine pc_ret ⟨⟨fun x k z1 z2 z3 => ?_, fun z => ?_⟩, ?_, ?_⟩
      · show h26 x k = h x k
        rw [e26, up_n (by omega), e23, up_n (by omega), e20, up_n (by omega)]
      · show 0 ≤ h26 160 117
        omega
      · show 16 ≤ v29
        omega
      · show v29 ≤ 2200
        omega
    · refine pc_rA ?_; intro j1 j2 v31 _
      exact pc_if (fun _ => r_51 ⟨j1, j2⟩ (fun l hl => ih l hl) nn 0 0) (fun _ => r_51 ⟨j1, j2⟩ (fun l hl => ih l hl) nn 1 0)
/-- THE REFERENCE'S NUMBER OF A NAME -/
theorem r_number (S : RSv Bf nf h) (h7 : 0 ≤ h 160 117) {a : Int} {m : Nat} {f : Nat → Int} (R : RWt h 226 a m f) (hf : ∀ i, i < m → ¬ f i = 32) : Pc (qf_X13_nameNumber nn a (m : Int) h) (fun u => OTH h u.2 ∧ u.2 160 120 = h 160 120 ∧ ∃ v : Int, CNo Bf nf (h 160 98) f m v ∧ ((¬ v = -1 ∧ u.1 = v) ∨ (v = -1 ∧ 16 ≤ u.1 ∧ u.1 ≤ 2200)) ∧ -1 ≤ v ∧ v < 16) := by
  intro u eu
  have F20 : u.2 160 120 = h 160 120 := ff_X13_nameNumber nn u eu 160 120 rfl
  revert u
  unfold qf_X13_nameNumber qf_X13_classNamed
  intro u eu F20
  revert eu
  suffices H : Pc (mx_sv (qw_X13_classNamed_3 nn nn 226 a (m : Int) 0 h) fun u36 => if u36 = (-1) then (qw_X13_nameNumber_21 nn nn a (m : Int) 0 h) else (some (u36, h))) (fun u => OTH h u.2 ∧ ∃ v : Int, CNo Bf nf (h 160 98) f m v ∧ ((¬ v = -1 ∧ u.1 = v) ∨ (v = -1 ∧ 16 ≤ u.1 ∧ u.1 ≤ 2200)) ∧ -1 ≤ v ∧ v < 16) from fun eu => ⟨(H u eu).1, F20, (H u eu).2⟩
  refine pc_sv (r_classNamed S.2 S.1 R hf nn 0 (fun j _ hj => absurd hj (by omega)) (fun j hj => absurd hj (by omega)) (by have := S.1; show ((0 : Nat) : Int) ≤ _; omega)) ?_
  intro v C
  have rg : -1 ≤ v ∧ v < 16 := by
    have := S.1
    rcases C with ⟨k, k1, k2, -⟩ | ⟨-, ⟨k, k1, k2, -⟩ | ⟨k1, -⟩⟩
    · omega
    · omega
    · omega
  refine pc_if (fun z => ?_) (fun z => pc_ret ⟨oth_r, v, C, .inl ⟨z, rfl⟩, rg⟩)
  exact pc_imp (r_21 h7 nn 0 (Int.le_refl _)) (fun u q => ⟨q.1, v, C, .inr ⟨z, q.2⟩, rg⟩)
/-- the byte of image k -/
theorem tb_by (S : RSv Bf nf h) (hk : (k : Int) < h 160 98) {i : Nat} (hi : i < nf k) : h 226 (6000 * k + i) = Bf k i := by
  have X := (S.2 k hk).1.2.2.1 i hi
  rw [Int.toNat_natCast] at X
  exact X
theorem tb_n6 (S : RSv Bf nf h) (hk : (k : Int) < h 160 98) : nf k ≤ 6000 ∧ k < 8 := ⟨(S.2 k hk).1.2.1, by have := S.1; omega⟩
/-- a name in a kind -/
theorem r_75 (S : RSv Bf nf h) (h7 : 0 ≤ h 160 117) (hk : (k : Int) < h 160 98) {p e : Nat} (N : NMk (Bf k) (p + 1) e) (he : e ≤ nf k) {l2 : Int} : ∀ (f i : Nat), p < i → i ≤ e - 1 → Pc (qw_X13_typeAt_75 nn f l2 ((6000 * k + p : Nat) : Int) ((6000 * k + i : Nat) : Int) h) (fun u => OTH h u.2 ∧ u.2 160 120 = ((6000 * k + e : Nat) : Int) ∧ ∃ v : Int, CNo Bf nf (h 160 98) (fun i => Bf k (p + 1 + i)) (e - 1 - (p + 1)) v ∧ NRv (if l2 = 91 then 5 else 4) v u.1) := by
  obtain ⟨n6, k8⟩ := tb_n6 S hk
  obtain ⟨N1, N2, N3⟩ := N
  have ln := nm_ln N3
  intro f
  induction f with
  | zero => intro i _ _; exact pc_none
  | succ f ih =>
    intro i hi1 hi2
    unfold qw_X13_typeAt_75
    refine pc_rA ?_; intro _ _ v2 e2
    rw [Int.toNat_natCast, tb_by S hk (by omega)] at e2
    refine pc_if (fun z => ?_) (fun z => ?_)
    · have ie : i = e - 1 := Classical.byContradiction fun q => by
        have := nm_59 N3 (i - (p + 1)) (by omega)
        rw [show p + 1 + (i - (p + 1)) = i by omega] at this
        omega
      refine pc_add (by omega) ?_; intro v3 e3
      refine pc_xl ?_; intro h4 e4
      refine pc_add (by omega) ?_; intro v5 e5
      refine pc_sub (by omega) ?_; intro v6 e6
      refine pc_sub (by omega) ?_; intro v7 e7
      have O4 : OTH h h4 := ⟨fun x j z1 z2 z3 => by rw [e4, up_n (by omega)], fun z => by rw [e4, up_n (by omega)]; exact z⟩
      have S4 := rsv_o S O4
      rw [show v7 = ((e - 1 - (p + 1) : Nat) : Int) by omega]
      refine pc_sv (r_number S4 (O4.2 h7) (f := fun i => Bf k (p + 1 + i)) ⟨by omega, by omega, by omega, fun j hj => ?_⟩ (nm_32 N3)) ?_
      · have q := tb_by S4 (k := k) (by rw [O4.1 160 98 (by omega) (by omega) (by omega)]; exact hk) (i := p + 1 + j) (by omega)
        rw [show v5.toNat + j = 6000 * k + (p + 1 + j) by omega]; exact q
      intro u9 ⟨O9, q9, v, C, qv, rv⟩
      rw [O4.1 160 98 (by omega) (by omega) (by omega)] at C
      have O := oth_t O4 O9
      have k20 : u9.2 160 120 = ((6000 * k + e : Nat) : Int) := by rw [q9, e4, up_s]; omega
      refine pc_xl ?_; intro v10 e10
      rw [oq_mul_eq (by omega) (by omega) (by omega)] at e10
      refine pc_add (by omega) ?_; intro v11 e11
      refine pc_if (fun w => ?_) (fun w => ?_)
      · refine pc_add (by omega) ?_; intro v12 e12
        refine pc_ret ⟨O, k20, v, C, ?_⟩
        rw [if_neg w]
        unfold NRv
        dsimp only
        omega
      · refine pc_add (by omega) ?_; intro v13 e13
        refine pc_ret ⟨O, k20, v, C, ?_⟩
        rw [if_pos (by omega)]
        unfold NRv
        dsimp only
        omega
    · have ie : ¬ i = e - 1 := fun q => z (by rw [e2, q]; exact N2)
      refine pc_add (by omega) ?_; intro v15 e15
      rw [show v15 = ((6000 * k + (i + 1) : Nat) : Int) by omega]
      exact ih (i + 1) (by omega) (by omega)
/-- THE REFERENCE'S TYPE OF A KIND -/
theorem vq_rkind (S : RSv Bf nf h) (h7 : 0 ≤ h 160 117) (hk : (k : Int) < h 160 98) {p e : Nat} (K : KDs (Bf k) p e) (he : e ≤ nf k) : Pc (qf_X13_typeAt nn ((6000 * k + p : Nat) : Int) h) (fun u => OTH h u.2 ∧ u.2 160 120 = ((6000 * k + e : Nat) : Int) ∧ KTr Bf nf (h 160 98) (Bf k) p e u.1) := by
  obtain ⟨n6, k8⟩ := tb_n6 S hk
  have pe : p < e := by unfold KDs NMk at K; omega
  unfold qf_X13_typeAt
  refine pc_rA ?_; intro _ _ v24 e24
  rw [Int.toNat_natCast, tb_by S hk (by omega)] at e24
  refine pc_add (by omega) ?_; intro v25 e25
  refine pc_xl ?_; intro h26 e26
  have O6 : OTH h h26 := ⟨fun x j z1 z2 z3 => by rw [e26, up_n (by omega)], fun z => by rw [e26, up_n (by omega)]; exact z⟩
  have S6 := rsv_o S O6
  have hk6 : (k : Int) < h26 160 98 := by rw [O6.1 160 98 (by omega) (by omega) (by omega)]; exact hk
  have c6 : h26 160 98 = h 160 98 := O6.1 160 98 (by omega) (by omega) (by omega)
  have k20 : h26 160 120 = ((6000 * k + (p + 1) : Nat) : Int) := by rw [e26, up_s]; omega
  refine pc_if (fun z => pc_ret ⟨O6, by dsimp only; rw [k20]; unfold KDs at K; omega, .inl ⟨.inl (by omega), rfl⟩⟩) (fun z73 => ?_)
  refine pc_if (fun z90 => ?_) (fun z => pc_ret ⟨O6, by dsimp only; rw [k20]; unfold KDs at K; omega, .inl ⟨.inr (by omega), rfl⟩⟩)
  refine pc_if (fun z86 => ?_) (fun z => pc_ret ⟨O6, by dsimp only; rw [k20]; unfold KDs at K; omega, .inr (.inl ⟨by omega, rfl⟩)⟩)
  refine pc_if (fun z91 => ?_) (fun z91 => ?_)
  · have b0 : Bf k p = 76 ∧ NMk (Bf k) (p + 1) e := by
      rcases K with ⟨q, -⟩ | ⟨q, -⟩ | ⟨q, -⟩ | q
      · omega
      · omega
      · omega
      · exact q
    unfold qj_X13_typeAt_49
    refine pc_rA ?_; intro _ _ v18 e18
    rw [Int.toNat_natCast, tb_by S6 hk6 (by omega)] at e18
    refine pc_if (fun _ => ?_) (fun z => absurd (show ¬ v18 = 73 by omega) z)
    refine pc_add (by omega) ?_; intro v19 e19
    rw [show v19 = ((6000 * k + (p + 1) : Nat) : Int) by omega]
    have l := b0.2.1
    refine pc_imp (r_75 S6 (O6.2 h7) hk6 b0.2 he nn (p + 1) (by omega) (by omega)) ?_
    intro u ⟨q1, q2, v, C, q3⟩
    rw [c6] at C
    rw [if_neg (by omega)] at q3
    exact ⟨oth_t O6 q1, q2, .inr (.inr (.inr (.inr ⟨b0.1, v, C, q3⟩)))⟩
  · have b91 : Bf k p = 91 := by omega
    have p1 : p + 1 < e := by unfold KDs NMk at K; omega
    refine pc_add (by omega) ?_; intro v27 e27
    rw [show v27 = ((6000 * k + (p + 1) : Nat) : Int) by omega]
    unfold qj_X13_typeAt_49
    refine pc_rA ?_; intro _ _ v18 e18
    rw [Int.toNat_natCast, tb_by S6 hk6 (by omega)] at e18
    refine pc_if (fun z => ?_) (fun z => ?_)
    · have b0 : Bf k (p + 1) = 76 ∧ NMk (Bf k) (p + 2) e := by
        rcases K with ⟨q, -⟩ | ⟨q, q2, -⟩ | ⟨q, q2⟩ | ⟨q, -⟩
        · omega
        · omega
        · exact q2
        · omega
      refine pc_add (by omega) ?_; intro v19 e19
      rw [show v19 = ((6000 * k + (p + 1 + 1) : Nat) : Int) by omega]
      have l := b0.2.1
      refine pc_imp (r_75 (p := p + 1) S6 (O6.2 h7) hk6 b0.2 he nn (p + 1 + 1) (by omega) (by omega)) ?_
      intro u ⟨q1, q2, v, C, q3⟩
      rw [c6] at C
      rw [if_pos (by omega)] at q3
      exact ⟨oth_t O6 q1, q2, .inr (.inr (.inr (.inl ⟨b91, b0.1, v, C, q3⟩)))⟩
    · refine pc_add (by omega) ?_; intro v20 e20
      refine pc_xl ?_; intro h21 e21
      have ee : e = p + 2 := by
        rcases K with ⟨q, -⟩ | ⟨q, q2, q3⟩ | ⟨q, q2, -⟩ | ⟨q, -⟩
        · omega
        · exact q3
        · omega
        · omega
      refine pc_ret ⟨oth_t O6 ⟨fun x j z1 z2 z3 => by dsimp only; rw [e21, up_n (by omega)], fun y => by dsimp only; rw [e21, up_n (by omega)]; exact y⟩, ?_, .inr (.inr (.inl ⟨b91, by omega, rfl⟩))⟩
      dsimp only
      rw [e21, up_s]
      omega
end
end
section
/- VERIFY: types of class constants; kinds of methods -/
/-- the type of class constant i -/
def CTp (Bf : Nat → Nat → Int) (nf : Nat → Nat) (cnt : Int) (B : Nat → Int) (n : Nat) (i x : Int) : Prop := (B (na_S B n (pt_S B n i 0)) = 91 ∧ KTc Bf nf cnt B (na_S B n (pt_S B n i 0)) (na_S B n (pt_S B n i 0) + tl_S B n (pt_S B n i 0)) x) ∨ (¬ B (na_S B n (pt_S B n i 0)) = 91 ∧ CLo Bf nf cnt (fun j => B (na_S B n (pt_S B n i 0) + j)) (tl_S B n (pt_S B n i 0)) x)
def CTq (Bf : Nat → Nat → Int) (nf : Nat → Nat) (cnt : Int) (B : Nat → Int) (n : Nat) (i y : Int) : Prop := (B (na_S B n (pt_S B n i 0)) = 91 ∧ KTr Bf nf cnt B (na_S B n (pt_S B n i 0)) (na_S B n (pt_S B n i 0) + tl_S B n (pt_S B n i 0)) y) ∨ (¬ B (na_S B n (pt_S B n i 0)) = 91 ∧ ∃ v : Int, CNo Bf nf cnt (fun j => B (na_S B n (pt_S B n i 0) + j)) (tl_S B n (pt_S B n i 0)) v ∧ NRv 4 v y)
/-- a method's kind from a to s: m parameters, where they begin -/
def MKd (B : Nat → Int) (a s m : Nat) (ps : Nat → Nat) : Prop := (B a = 40 ∧ ps 0 = a + 1 ∧ m ≤ 6) ∧ (∀ j : Nat, j < m → kd_N B (ps j) s = some (ps (j + 1)) ∧ ¬ B (ps j) = 41) ∧ (B (ps m) = 41 ∧ ps m + 1 < s) ∧ KDs B (ps m + 1) s
section
variable {nn : Nat} {Bf : Nat → Nat → Int} {nf : Nat → Nat} {cnt : Int} {B : Nat → Int} {n b k : Nat} {M h g r : ms_M}
theorem ly_vf {c : Nat} (t : ly_T c = 1) : ¬ (127 ≤ c ∧ c ≤ 135) := fun z => by
  rcases (show c = 127 ∨ c = 128 ∨ c = 129 ∨ c = 130 ∨ c = 131 ∨ c = 132 ∨ c = 133 ∨ c = 134 ∨ c = 135 by omega) with e | e | e | e | e | e | e | e | e
  all_goals (rw [e] at t; exact absurd t (by decide))
/-- the verifier's own cells do not matter -/
theorem csv_k (S : CSv Bf nf h) (A : ∀ c j : Nat, c < 160 ∨ 256 ≤ c → ¬ (127 ≤ c ∧ c ≤ 135) → g c j = h c j) : CSv Bf nf g := by
  have e3 : g 56 3 = h 56 3 := A _ _ (by omega) (by omega)
  have ec : cn_M g = cn_M h := by unfold cn_M; rw [A _ _ (by omega) (by omega)]
  refine ⟨by rw [e3]; exact S.1, fun k hk => ?_⟩
  rw [A 60 k (by omega) (by omega)]
  have X := S.2 k (by omega)
  have id := im_at X.1.1.1
  have t1 : ly_T (h (h 60 k).toNat 0).toNat = 1 := X.1.1.2.2.2.2.2.1
  refine imc_s ⟨fun c i c1 c2 => A _ _ (by omega) (by omega), fun i => A _ _ (ly_1r t1) (ly_vf t1), by omega, ?_⟩ X
  unfold ln_I
  split
  · rfl
  · exact A _ _ (by omega) (by omega)
/-- the text that a class constant names -/
theorem cl_tx {x : Nat} (zk : kk_S B n = .inr x) (h2 : 0 ≤ B 2) {i : Int} (t3 : tg_S B n i = 3) : tg_S B n (pt_S B n i 0) = 1 ∧ ((nm_N (fun j => B (na_S B n (pt_S B n i 0) + j)) (tl_S B n (pt_S B n i 0)) = true ∧ ¬ B (na_S B n (pt_S B n i 0)) = 91) ∨ (B (na_S B n (pt_S B n i 0)) = 91 ∧ KDs B (na_S B n (pt_S B n i 0)) (na_S B n (pt_S B n i 0) + tl_S B n (pt_S B n i 0)))) := by
  obtain ⟨i1, i2, -⟩ := tg_in (B := B) (n := n) (k := i) (by omega)
  have c := kk_ck zk h2 ⟨i1, i2⟩
  unfold ck_S at c
  rw [if_pos t3] at c
  by_cases q : (nm_S B n (pt_S B n i 0) || (ar_S B n (pt_S B n i 0) && fk_S B n (pt_S B n i 0))) = true
  · rw [Bool.or_eq_true, Bool.and_eq_true] at q
    rcases q with q | ⟨q1, q2⟩
    · unfold nm_S at q
      rw [Bool.and_eq_true] at q
      refine ⟨of_decide_eq_true q.1, .inl ⟨q.2, ?_⟩⟩
      exact nm_91 q.2
    · unfold ar_S at q1
      unfold fk_S at q2
      rw [Bool.and_eq_true] at q1 q2
      have a := of_decide_eq_true q1.2
      have b := of_decide_eq_true q2.2
      exact ⟨of_decide_eq_true q1.1, .inr ⟨a, (kd_s b).1⟩⟩
  · rw [if_neg q] at c; exact nomatch c
theorem ct_cr (N : NKn Bf nf cnt) (h8 : cnt ≤ 8) {i x y : Int} (X : CTp Bf nf cnt B n i x) (Y : CTq Bf nf cnt B n i y) : TYo x y ∧ ((x = -1 ∧ 36 ≤ y) ∨ ((0 ≤ x ∧ x < 16) ∧ y = 4 + 2 * x) ∨ ((100 ≤ x ∧ x < 116) ∧ y = 5 + 2 * (x - 100)) ∨ (x = 200 ∧ y = 3)) := by
  rcases X with ⟨x1, x2⟩ | ⟨x1, x2⟩
  · rcases Y with ⟨y1, y2⟩ | ⟨y1, y2⟩
    · rcases kt_cr N h8 x2 y2 with z | ⟨-, z1, z2, z3, z4, z5⟩
      · omega
      · refine ⟨z2, ?_⟩
        unfold TYo TYj at z2
        omega
    · exact absurd x1 y1
  · rcases Y with ⟨y1, y2⟩ | ⟨y1, v, C, y2⟩
    · exact absurd y1 x1
    · have rg := clo_rg h8 x2
      have e := cl_cn N x2 C
      unfold TYo TYj
      unfold NRv at y2
      clear x2 C
      omega
/-- THE CLASS'S TYPE OF A CLASS CONSTANT -/
theorem vq_cclass (S : CSv Bf nf h) (hk : (k : Int) < h 56 3) {i : Int} (t3 : tg_S (Bf k) (nf k) i = 3) : Pc (qf_X7_typeOfClass nn (h 60 k).toNat i h) (CTp Bf nf (h 56 3) (Bf k) (nf k) i) := by
  have X := S.2 k hk
  obtain ⟨T, p, q, zk, -⟩ := X
  obtain ⟨t1, tx⟩ := cl_tx zk T.2.2.1.1 t3
  obtain ⟨c1, c2, c3⟩ := c_text (nn := nn) T t1
  have J := T.1
  have ln : 1 ≤ tl_S (Bf k) (nf k) (pt_S (Bf k) (nf k) i 0) := by
    rcases tx with ⟨w, -⟩ | ⟨-, w⟩
    · exact (nm_ln w).1
    · unfold KDs NMk at w; omega
  unfold qf_X7_typeOfClass
  refine pc_ck (fun _ => ?_)
  refine pc_sv (P := fun u => u = pt_S (Bf k) (nf k) i 0) (fun u eu => by
    have z := c_part (nn := nn) T (k := i) (i := 0) (.inl ⟨t3, rfl⟩)
    rw [show ((0 : Nat) : Int) = 0 from rfl] at z
    rw [z] at eu; exact (Option.some.inj eu).symm) ?_; intro u2 q2
  rw [q2]
  refine pc_sv (P := fun u => u = ((na_S (Bf k) (nf k) (pt_S (Bf k) (nf k) i 0) : Nat) : Int)) (fun u eu => by rw [c1] at eu; exact (Option.some.inj eu).symm) ?_; intro u4 q4
  refine pc_sv (P := fun u => u = ((na_S (Bf k) (nf k) (pt_S (Bf k) (nf k) i 0) + tl_S (Bf k) (nf k) (pt_S (Bf k) (nf k) i 0) : Nat) : Int)) (fun u eu => by rw [c2] at eu; exact (Option.some.inj eu).symm) ?_; intro u6 q6
  rw [q4, q6]
  refine pc_sv (P := fun u => u = Bf k (na_S (Bf k) (nf k) (pt_S (Bf k) (nf k) i 0))) (fun u eu => by rw [byteAt_in J (by omega)] at eu; exact (Option.some.inj eu).symm) ?_; intro u8 q8
  rw [q8]
  refine pc_if (fun z => ?_) (fun z => ?_)
  · refine pc_sv (c_look S.2 S.1 J (by omega)) ?_; intro u10 C
    rw [show na_S (Bf k) (nf k) (pt_S (Bf k) (nf k) i 0) + tl_S (Bf k) (nf k) (pt_S (Bf k) (nf k) i 0) - na_S (Bf k) (nf k) (pt_S (Bf k) (nf k) i 0) = tl_S (Bf k) (nf k) (pt_S (Bf k) (nf k) i 0) by omega] at C
    exact pc_ret (.inr ⟨z, C⟩)
  · have z91 : Bf k (na_S (Bf k) (nf k) (pt_S (Bf k) (nf k) i 0)) = 91 := by omega
    rcases tx with ⟨-, w⟩ | ⟨-, w⟩
    · exact absurd z91 w
    · refine pc_sv (vq_ckind S.2 S.1 J w c3) ?_; intro u12 C
      exact pc_ret (.inl ⟨z91, C⟩)
/-- the reference's bytes of image k -/
theorem vq_rbyte (S : RSv Bf nf h) (hk : (k : Int) < h 160 98) {p : Nat} (hp : p < nf k) : Pc (qf_X13_byteAt nn (k : Int) (p : Int) h) (fun u => u = Bf k p) := by
  obtain ⟨n6, k8⟩ := tb_n6 S hk
  unfold qf_X13_byteAt
  refine pc_xl ?_; intro v2 e2
  rw [oq_mul_eq (by omega) (by omega) (by omega)] at e2
  refine pc_add (by omega) ?_; intro v3 e3
  refine pc_rA ?_; intro _ _ v4 e4
  rw [show v3.toNat = 6000 * k + p by omega, tb_by S hk hp] at e4
  exact pc_ret e4
/-- where the reference's constant i of image k is -/
theorem tb_pl (S : RSv Bf nf h) (hk : (k : Int) < h 160 98) {i : Int} (h1 : 1 ≤ i) (h2 : i ≤ Bf k 2) : h 228 (256 * (k : Int) + i).toNat = (pl_S (Bf k) (nf k) i : Int) ∧ KVs (Bf k) (nf k) i ∧ Bf k 2 ≤ 255 := ⟨(S.2 k hk).2.1.2.2.1 i h1 h2, (S.2 k hk).2.1.2.2.2 i h1 h2, (S.2 k hk).2.1.2.1.2⟩
/-- THE REFERENCE'S TYPE OF A CLASS CONSTANT -/
theorem vq_rclass (S : RSv Bf nf h) (h7 : 0 ≤ h 160 117) (hk : (k : Int) < h 160 98) {i : Int} (t3 : tg_S (Bf k) (nf k) i = 3) : Pc (qf_X13_typeOfClass nn (k : Int) i h) (fun u => OTH h u.2 ∧ CTq Bf nf (h 160 98) (Bf k) (nf k) i u.1) := by
  obtain ⟨n6, k8⟩ := tb_n6 S hk
  obtain ⟨-, ⟨-, x2, -⟩, p, q, zk, -⟩ := S.2 k hk
  obtain ⟨t1, tx⟩ := cl_tx zk x2.1 t3
  obtain ⟨i1, i2, i3⟩ := tg_in (B := Bf k) (n := nf k) (k := i) (by omega)
  obtain ⟨j1, j2, j3⟩ := tg_in (B := Bf k) (n := nf k) (k := pt_S (Bf k) (nf k) i 0) (by omega)
  obtain ⟨a1, a2, a3⟩ := tb_pl S hk i1 i2
  obtain ⟨b1, b2, -⟩ := tb_pl S hk j1 j2
  have b3 := b2.2.1 (by omega)
  have a4 := a2.2.2.1 (by omega)
  have epl : pt_S (Bf k) (nf k) i 0 = Bf k (pl_S (Bf k) (nf k) i + 1) := rfl
  have ena : na_S (Bf k) (nf k) (pt_S (Bf k) (nf k) i 0) = pl_S (Bf k) (nf k) (pt_S (Bf k) (nf k) i 0) + 2 := rfl
  unfold qf_X13_typeOfClass qf_X13_textOfClass
  refine pc_sv (P := fun u => u = pt_S (Bf k) (nf k) i 0) ?_ ?_
  · refine pc_xl ?_; intro v2 e2
    rw [oq_mul_eq (by omega) (by omega) (by omega)] at e2
    refine pc_add (by omega) ?_; intro v3 e3
    refine pc_rA ?_; intro _ _ v4 e4
    rw [show v3 = 256 * (k : Int) + i by omega, a1] at e4
    refine pc_add (by omega) ?_; intro v5 e5
    rw [show v5 = ((pl_S (Bf k) (nf k) i + 1 : Nat) : Int) by omega]
    refine pc_sv (vq_rbyte S hk (by omega)) ?_; intro u7 q7
    exact pc_ret (q7.trans epl.symm)
  intro u2 q2
  rw [q2]
  generalize ht : pt_S (Bf k) (nf k) i 0 = t at *
  refine pc_xl ?_; intro v3 e3
  rw [oq_mul_eq (by omega) (by omega) (by omega)] at e3
  refine pc_xl ?_; intro v5 e5
  rw [oq_mul_eq (by omega) (by omega) (by omega)] at e5
  refine pc_add (by omega) ?_; intro v6 e6
  refine pc_rA ?_; intro _ _ v7 e7
  rw [show v6 = 256 * (k : Int) + t by omega, b1] at e7
  refine pc_add (by omega) ?_; intro v8 e8
  refine pc_add (by omega) ?_; intro v10 e10
  refine pc_rA ?_; intro _ _ v11 e11
  rw [show v10.toNat = 6000 * k + na_S (Bf k) (nf k) t by omega, tb_by S hk (by omega)] at e11
  refine pc_if (fun z => ?_) (fun z => ?_)
  · have w : nm_N (fun j => Bf k (na_S (Bf k) (nf k) t + j)) (tl_S (Bf k) (nf k) t) = true := by
      rcases tx with ⟨w, -⟩ | ⟨w, -⟩
      · exact w
      · omega
    have ln := nm_ln w
    refine pc_add (by omega) ?_; intro v12 e12
    refine pc_add (by omega) ?_; intro v14 e14
    refine pc_rA ?_; intro _ _ v15 e15
    rw [show v14.toNat = 6000 * k + (pl_S (Bf k) (nf k) t + 1) by omega, tb_by S hk (by omega)] at e15
    rw [show v15 = ((tl_S (Bf k) (nf k) t : Nat) : Int) by omega]
    refine pc_sv (r_number S h7 (f := fun j => Bf k (na_S (Bf k) (nf k) t + j)) ⟨by omega, by omega, by omega, fun j hj => ?_⟩ (nm_32 w)) ?_
    · rw [show v12.toNat + j = 6000 * k + (na_S (Bf k) (nf k) t + j) by omega]; exact tb_by S hk (by omega)
    intro u17 ⟨O, _, v, C, qv, rv⟩
    refine pc_xl ?_; intro v18 e18
    rw [oq_mul_eq (by omega) (by omega) (by omega)] at e18
    refine pc_add (by omega) ?_; intro v19 e19
    refine pc_ret ⟨O, .inr ⟨by rw [ht]; omega, v, by rw [ht]; exact C, ?_⟩⟩
    unfold NRv
    dsimp only
    omega
  · have w : KDs (Bf k) (na_S (Bf k) (nf k) t) (na_S (Bf k) (nf k) t + tl_S (Bf k) (nf k) t) := by
      rcases tx with ⟨-, w⟩ | ⟨-, w⟩
      · omega
      · exact w
    refine pc_add (by omega) ?_; intro v20 e20
    rw [show v20 = ((6000 * k + na_S (Bf k) (nf k) t : Nat) : Int) by omega]
    refine pc_sv (vq_rkind S h7 hk w (by omega)) ?_; intro u22 ⟨O, _, C⟩
    exact pc_ret ⟨O, .inl ⟨by rw [ht]; omega, by rw [ht]; exact C⟩⟩
theorem pl_ps {s : Nat} : ∀ (f p c q : Nat), pl_N B f p s = some (c, q) → ∃ ps : Nat → Nat, ps 0 = p ∧ ps c = q ∧ (∀ j : Nat, j < c → kd_N B (ps j) s = some (ps (j + 1)) ∧ ¬ B (ps j) = 41) ∧ (q < s → B q = 41) := by
  intro f
  induction f with
  | zero => intro p c q H; exact nomatch H
  | succ f ih =>
    intro p c q H
    unfold pl_N at H
    by_cases w : p < s ∧ B p ≠ 41
    · rw [if_pos w] at H
      cases hk : kd_N B p s with
      | none => rw [hk] at H; exact nomatch H
      | some e =>
        rw [hk] at H
        dsimp only at H
        cases hp : pl_N B f e s with
        | none => rw [hp] at H; exact nomatch H
        | some x =>
          rw [hp] at H
          have e1 : (x.1 + 1, x.2) = (c, q) := Option.some.inj H
          have e2 : x.1 + 1 = c := congrArg Prod.fst e1
          have e3 : x.2 = q := congrArg Prod.snd e1
          obtain ⟨ps, p0, p1, p2, p3⟩ := ih e x.1 x.2 hp
          refine ⟨fun j => if j = 0 then p else ps (j - 1), rfl, ?_, fun j hj => ?_, by rw [← e3]; exact p3⟩
          · show (if c = 0 then p else ps (c - 1)) = q
            rw [if_neg (by omega), show c - 1 = x.1 by omega, p1, e3]
          · show kd_N B (if j = 0 then p else ps (j - 1)) s = some (if j + 1 = 0 then p else ps (j + 1 - 1)) ∧ ¬ B (if j = 0 then p else ps (j - 1)) = 41
            rw [if_neg (show ¬ j + 1 = 0 by omega)]
            by_cases j0 : j = 0
            · rw [if_pos j0, j0, show 0 + 1 - 1 = 0 from rfl, p0]; exact ⟨hk, w.2⟩
            · rw [if_neg j0]
              have a := p2 (j - 1) (by omega)
              rw [show j - 1 + 1 = j + 1 - 1 by omega] at a
              exact a
    · rw [if_neg w] at H
      have e1 : (0, p) = (c, q) := Option.some.inj H
      have e2 : 0 = c := congrArg Prod.fst e1
      have e3 : p = q := congrArg Prod.snd e1
      refine ⟨fun _ => p, rfl, e3, fun j hj => absurd hj (by omega), fun z => Classical.byContradiction fun y => w ⟨by omega, by rw [e3]; exact y⟩⟩
/-- a text that is a method's kind -/
theorem pi_ps {k : Int} {m : Nat} (H : pi_S B n k = some m) : tg_S B n k = 1 ∧ ∃ ps : Nat → Nat, MKd B (na_S B n k) (na_S B n k + tl_S B n k) m ps := by
  unfold pi_S at H
  by_cases t : tg_S B n k = 1
  · rw [if_pos t] at H
    refine ⟨t, ?_⟩
    unfold up_6 at H
    cases hp : pi_N B (pl_S B n k + 2) (pl_S B n k + 2 + tl_S B n k) with
    | none => rw [hp] at H; exact nomatch H
    | some c =>
      rw [hp] at H
      dsimp only at H
      by_cases c6 : c ≤ 6
      · rw [if_pos c6] at H
        have ec : c = m := Option.some.inj H
        unfold pi_N at hp
        by_cases w : pl_S B n k + 2 < pl_S B n k + 2 + tl_S B n k ∧ B (pl_S B n k + 2) = 40
        · rw [if_pos w] at hp
          cases hq : pl_N B (pl_S B n k + 2 + tl_S B n k + 1) (pl_S B n k + 2 + 1) (pl_S B n k + 2 + tl_S B n k) with
          | none => rw [hq] at hp; exact nomatch hp
          | some x =>
            rw [hq] at hp
            dsimp only at hp
            by_cases e : pe_N B x.2 (pl_S B n k + 2 + tl_S B n k) = true
            · rw [if_pos e] at hp
              have ex : x.1 = c := Option.some.inj hp
              obtain ⟨ps, p0, p1, p2, p3⟩ := pl_ps _ _ x.1 x.2 hq
              unfold pe_N at e
              rw [Bool.and_eq_true, Bool.or_eq_true, Bool.and_eq_true] at e
              have e1 := of_decide_eq_true e.1
              refine ⟨ps, ⟨w.2, p0, by omega⟩, fun j hj => p2 j (by omega), ⟨?_, ?_⟩, ?_⟩
              · rw [← ec, ← ex, p1]; exact p3 e1
              · rw [← ec, ← ex, p1]
                show x.2 + 1 < pl_S B n k + 2 + tl_S B n k
                rcases e.2 with ⟨z1, z2⟩ | z
                · have := of_decide_eq_true z1; omega
                · have := (kd_rg (of_decide_eq_true z)).1; omega
              · rw [← ec, ← ex, p1]
                show KDs B (x.2 + 1) (pl_S B n k + 2 + tl_S B n k)
                rcases e.2 with ⟨z1, z2⟩ | z
                · have a := of_decide_eq_true z1
                  have b := of_decide_eq_true z2
                  exact .inl ⟨.inr (.inr b), by omega⟩
                · exact (kd_s (of_decide_eq_true z)).1
            · rw [if_neg e] at hp; exact nomatch hp
        · rw [if_neg w] at hp; exact nomatch hp
      · rw [if_neg c6] at H; exact nomatch H
  · rw [if_neg t] at H; exact nomatch H
end
end
section
/- VERIFY: members of an IMAGE, as functions of its bytes -/
def pk_S (B : Nat → Int) (n : Nat) : Nat := match kk_S B n with
  | .inr p => p
  | .inl _ => 0
def qk_S (B : Nat → Int) (n : Nat) : Nat := match fs_S B n (pk_S B n + 2) with
  | .inr q => q
  | .inl _ => 0
/-- how many fields, where field j is; how many methods, where method i is, its handlers, its frames -/
def fc_S (B : Nat → Int) (n : Nat) : Int := B (pk_S B n + 2)
def fa_S (B : Nat → Int) (n j : Nat) : Nat := pk_S B n + 3 + 2 * j
def mc_S (B : Nat → Int) (n : Nat) : Int := B (qk_S B n)
def ma_S (B : Nat → Int) (n i : Nat) : Nat := match mq_S B n (qk_S B n + 1) i with
  | some x => x
  | none => 0
def mh_P (B : Nat → Int) (n i : Nat) : Nat := match co_S B n (ma_S B n i + 5) with
  | .inr x => x
  | .inl _ => 0
def mf_P (B : Nat → Int) (n i : Nat) : Nat := match hs_S B n (mh_P B n i) with
  | .inr x => x
  | .inl _ => 0
/-- method i is as it must be -/
def GMt (B : Nat → Int) (n i : Nat) : Prop := ((B (ma_S B n i) = 0 ∨ B (ma_S B n i) = 1) ∧ nm_S B n (B (ma_S B n i + 1)) = true) ∧ (∃ m : Nat, pi_S B n (B (ma_S B n i + 2)) = some m ∧ (m : Int) + 1 - B (ma_S B n i) ≤ B (ma_S B n i + 4)) ∧ ((0 ≤ B (ma_S B n i + 3) ∧ B (ma_S B n i + 3) ≤ 30) ∧ B (ma_S B n i + 4) ≤ 30) ∧ ((1 ≤ ln_N B (ma_S B n i + 5) ∧ ln_N B (ma_S B n i + 5) ≤ 1500) ∧ mh_P B n i = ma_S B n i + 7 + (ln_N B (ma_S B n i + 5)).toNat ∧ mh_P B n i < n) ∧ (0 ≤ B (mh_P B n i) ∧ B (mh_P B n i) ≤ 20) ∧ (hd_S B n (B (mh_P B n i)).toNat (mh_P B n i + 1) = .inr (mf_P B n i) ∧ mf_P B n i < n) ∧ (0 ≤ B (mf_P B n i) ∧ B (mf_P B n i) ≤ 100) ∧ ∃ q : Nat, fr_S B n (B (mf_P B n i)).toNat (mf_P B n i + 1) = .inr q ∧ q ≤ n
/-- a good IMAGE -/
def GIM (B : Nat → Int) (n : Nat) : Prop := (0 ≤ fc_S B n ∧ fc_S B n ≤ 12) ∧ (∀ j : Nat, (j : Int) < fc_S B n → fa_S B n j + 1 < n ∧ nm_S B n (B (fa_S B n j)) = true ∧ fk_S B n (B (fa_S B n j + 1)) = true) ∧ (0 ≤ mc_S B n ∧ mc_S B n ≤ 12) ∧ ∀ i : Nat, (i : Int) < mc_S B n → GMt B n i
section
variable {nn : Nat} {Bf : Nat → Nat → Int} {nf : Nat → Nat} {cnt : Int} {B : Nat → Int} {n b k : Nat} {M h g r : ms_M}
theorem up_i {lo hi v : Int} (e : up_T lo hi v = true) : lo ≤ v ∧ v ≤ hi := by
  unfold up_T at e
  rw [Bool.and_eq_true] at e
  exact ⟨of_decide_eq_true e.1, of_decide_eq_true e.2⟩
theorem fl_i : ∀ (m p q : Nat), fl_S B n m p = .inr q → ∀ j : Nat, j < m → p + 2 * j + 1 < n ∧ nm_S B n (B (p + 2 * j)) = true ∧ fk_S B n (B (p + 2 * j + 1)) = true := by
  intro m
  induction m with
  | zero => intro p q _ j hj; exact absurd hj (by omega)
  | succ m ih =>
    intro p q e j hj
    unfold fl_S at e
    obtain ⟨x, e1, e2⟩ := bd_inr e
    obtain ⟨y, e3, e4⟩ := bd_inr e1
    obtain ⟨a1, a2, a3⟩ := by_le e3
    obtain ⟨b1, b2, b3⟩ := by_le e4
    rw [a1] at b1 b2 b3
    by_cases j0 : j = 0
    · rw [j0]; exact ⟨b2, a3, b3⟩
    · have z := ih x q e2 (j - 1) (by omega)
      rw [show x + 2 * (j - 1) = p + 2 * j by omega] at z
      exact z
theorem pk_e {p : Nat} (zk : kk_S B n = .inr p) : pk_S B n = p := by unfold pk_S; rw [zk]
theorem qk_e {p q : Nat} (zk : kk_S B n = .inr p) (zf : fs_S B n (p + 2) = .inr q) : qk_S B n = q := by unfold qk_S; rw [pk_e zk, zf]
theorem ma_e {i x : Nat} (e : mq_S B n (qk_S B n + 1) i = some x) : ma_S B n i = x := by unfold ma_S; rw [e]
/-- where a method's parts are -/
theorem mpl_i {i x f hh y : Nat} (e : ma_S B n i = x) (P : MPl B n x hh f y) : mh_P B n i = hh ∧ mf_P B n i = f ∧ GMt B n i := by
  obtain ⟨P1, P2, P3, P4⟩ := P
  have eh : mh_P B n i = hh := by unfold mh_P; rw [e, P2]
  have ef : mf_P B n i = f := by unfold mf_P; rw [eh, P3]
  refine ⟨eh, ef, ?_⟩
  unfold GMt
  rw [eh, ef, e]
  unfold mh_S at P1
  obtain ⟨x4, P1, q4⟩ := bd_inr P1
  obtain ⟨x3, P1, q3⟩ := bd_inr P1
  obtain ⟨x2, P1, q2⟩ := bd_inr P1
  obtain ⟨x1, P1, q1⟩ := bd_inr P1
  obtain ⟨a1, a2, a3⟩ := by_le P1
  obtain ⟨b1, b2, b3⟩ := by_le q1
  obtain ⟨c1, c2, c3⟩ := by_le q2
  obtain ⟨d1, d2, d3⟩ := by_le q3
  obtain ⟨f1, f2, f3⟩ := by_le q4
  rw [a1] at b1 b2 b3
  rw [b1] at c1 c2 c3
  rw [c1] at d1 d2 d3
  rw [d1] at f1 f2 f3
  have u0 := up_i a3
  have u3 := up_i d3
  have u4 := up_i f3
  unfold co_S at P2
  obtain ⟨z, s1, s2⟩ := bd_inr P2
  have ez : z = x + 5 + 2 := by
    unfold sk_S at s1
    by_cases w : x + 5 + 2 ≤ n
    · rw [if_pos w] at s1; exact (Sum.inr.inj s1).symm
    · rw [if_neg w] at s1; exact nomatch s1
  by_cases w1 : ln_N B (x + 5) < 1 ∨ 1500 < ln_N B (x + 5)
  · rw [if_pos w1] at s2; exact nomatch s2
  rw [if_neg w1] at s2
  by_cases w2 : (z : Int) + ln_N B (x + 5) ≤ (n : Int)
  · rw [if_pos w2] at s2
    have e5 : z + (ln_N B (x + 5)).toNat = hh := Sum.inr.inj s2
    unfold hs_S at P3
    obtain ⟨y1, t1, t2⟩ := bd_inr P3
    obtain ⟨g1, g2, g3⟩ := by_le t1
    rw [g1] at t2
    unfold ff_S at P4
    obtain ⟨y2, t3, t4⟩ := bd_inr P4
    obtain ⟨k1, k2, k3⟩ := by_le t3
    rw [k1] at t4
    have c4 : ∃ m : Nat, pi_S B n (B (x + 2)) = some m := by
      have c3' : (pi_S B n (B (x + 1 + 1))).isSome = true := c3
      rw [show x + 1 + 1 = x + 2 from rfl] at c3'
      exact Option.isSome_iff_exists.1 c3'
    obtain ⟨m, hm⟩ := c4
    have le : le_S B n x = (m : Int) + 1 - B x := by unfold le_S; rw [hm]; rfl
    refine ⟨⟨by omega, b3⟩, ⟨m, hm, ?_⟩, ⟨u3, u4.2⟩, ⟨⟨by omega, by omega⟩, by omega, g2⟩, up_i g3, ⟨t2, k2⟩, up_i k3, y, t4, ?_⟩
    · have u5 := u4.1
      have u6 : B (x + 1 + 1 + 1 + 1) = B (x + 4) := rfl
      show (m : Int) + 1 - B x ≤ B (x + 4)
      omega
    · exact frl_S _ _ _ (by omega) t4
  · rw [if_neg w2] at s2; exact nomatch s2
theorem gim_of {p q : Nat} (zk : kk_S B n = .inr p) (zf : fs_S B n (p + 2) = .inr q) (zm : mm_S B n q = .inr n) (HM : ∀ i : Nat, (i : Int) < B q → ∃ x y hh f, mq_S B n (q + 1) i = some x ∧ MPl B n x hh f y) : GIM B n := by
  have ep := pk_e zk
  have eq := qk_e zk zf
  unfold GIM fc_S mc_S
  rw [ep, eq]
  unfold fs_S at zf
  obtain ⟨x1, f1, f2⟩ := bd_inr zf
  obtain ⟨a1, a2, a3⟩ := by_le f1
  rw [a1] at f2
  unfold mm_S at zm
  obtain ⟨x2, m1, m2⟩ := bd_inr zm
  obtain ⟨b1, b2, b3⟩ := by_le m1
  have u1 := up_i a3
  have u2 := up_i b3
  refine ⟨u1, fun j hj => ?_, u2, fun i hi => ?_⟩
  · have z := fl_i _ _ _ f2 j (by omega)
    have ef : fa_S B n j = p + 2 + 1 + 2 * j := by unfold fa_S; rw [ep]
    rw [ef]; exact z
  · obtain ⟨x, y, hh, f, e, P⟩ := HM i hi
    exact (mpl_i (ma_e (by rw [eq]; exact e)) P).2.2
/-- the class's tables of members -/
theorem cg_im (X : IMc b n B M) : GIM B n ∧ (M b 10 = fc_S B n ∧ ∀ j : Nat, (j : Int) < fc_S B n → M (b + 5) (2 * j) = B (fa_S B n j) ∧ M (b + 5) (2 * j + 1) = B (fa_S B n j + 1)) ∧ (M b 12 = mc_S B n ∧ ∀ i : Nat, (i : Int) < mc_S B n → MDt b B n (12 * (i : Int)) (ma_S B n i) (mh_P B n i) (mf_P B n i) M) := by
  obtain ⟨-, p, q, zk, ⟨-, -, zf, zm⟩, -, ⟨e10, FL⟩, e12, MS⟩ := X
  have ep := pk_e zk
  have eq := qk_e zk zf
  refine ⟨gim_of zk zf zm (fun i hi => by obtain ⟨x, y, hh, f, e, P, -⟩ := MS i hi; exact ⟨x, y, hh, f, e, P⟩), ⟨by unfold fc_S; rw [ep]; exact e10, fun j hj => ?_⟩, by unfold mc_S; rw [eq]; exact e12, fun i hi => ?_⟩
  · unfold fc_S at hj
    rw [ep] at hj
    obtain ⟨a1, a2⟩ := FL (j : Int) (by omega) hj
    have ef : fa_S B n j = p + 3 + 2 * j := by unfold fa_S; rw [ep]
    rw [show (2 * (j : Int)).toNat = 2 * j by omega] at a1
    rw [show (2 * (j : Int) + 1).toNat = 2 * j + 1 by omega] at a2
    rw [ef]; exact ⟨a1, a2⟩
  · unfold mc_S at hi
    rw [eq] at hi
    obtain ⟨x, y, hh, f, e, P, D⟩ := MS i hi
    have ex := ma_e (B := B) (n := n) (i := i) (x := x) (by rw [eq]; exact e)
    obtain ⟨a1, a2, -⟩ := mpl_i ex P
    rw [ex, a1, a2]; exact D
/-- the reference's tables of members -/
theorem rg_im {c : Int} (X : TBr c n B M) : GIM B n ∧ (M 232 c.toNat = fc_S B n ∧ ∀ j : Nat, (j : Int) < fc_S B n → M 233 (12 * c + j).toNat = (fa_S B n j : Int)) ∧ (M 234 c.toNat = mc_S B n ∧ ∀ i : Nat, (i : Int) < mc_S B n → M 235 (12 * c + i).toNat = (ma_S B n i : Int) ∧ M 236 (12 * c + i).toNat = (mh_P B n i : Int) ∧ M 237 (12 * c + i).toNat = (mf_P B n i : Int)) := by
  obtain ⟨-, -, p, q, zk, ⟨-, -, zf, zm⟩, -, ⟨e10, FL⟩, e12, MS⟩ := X
  have ep := pk_e zk
  have eq := qk_e zk zf
  refine ⟨gim_of zk zf zm (fun i hi => by obtain ⟨x, y, hh, f, e, P, -⟩ := MS i hi; exact ⟨x, y, hh, f, e, P⟩), ⟨by unfold fc_S; rw [ep]; exact e10, fun j hj => ?_⟩, by unfold mc_S; rw [eq]; exact e12, fun i hi => ?_⟩
  · unfold fc_S at hj
    rw [ep] at hj
    have a1 := FL (j : Int) (by omega) hj
    have ef : fa_S B n j = p + 3 + 2 * j := by unfold fa_S; rw [ep]
    rw [show (2 * (j : Int)).toNat = 2 * j by omega] at a1
    rw [ef]; exact a1
  · unfold mc_S at hi
    rw [eq] at hi
    obtain ⟨x, y, hh, f, e, P, d1, d2, d3⟩ := MS i hi
    have ex := ma_e (B := B) (n := n) (i := i) (x := x) (by rw [eq]; exact e)
    obtain ⟨a1, a2, -⟩ := mpl_i ex P
    rw [ex, a1, a2]; exact ⟨d1, d2, d3⟩
/-- what the class's rows of methods give -/
theorem vq_of (X : IMc b n B M) {i : Nat} (hi : (i : Int) < mc_S B n) {w : Int} {x : Int} (hw : 0 ≤ w ∧ w ≤ 11) (ex : M (b + 6) (12 * (i : Int) + w).toNat = x) : Pc (qf_X3_of nn b (i : Int) w M) (fun u => u = x) := by
  obtain ⟨G, -, e12, -⟩ := cg_im X
  have := G.2.2.1
  unfold qf_X3_of
  refine pc_xl ?_; intro v1 e1
  rw [oq_mul_eq (by omega) (by omega) (by omega)] at e1
  refine pc_add (by omega) ?_; intro v2 e2
  refine pc_if (fun z => absurd z (by omega)) (fun _ => ?_)
  refine pc_if (fun z => absurd z (by omega)) (fun _ => ?_)
  refine pc_if (fun z => absurd z (by omega)) (fun _ => ?_)
  refine pc_rA ?_; intro _ _ v7 e7
  rw [show v2 = 12 * (i : Int) + w by omega, ex] at e7
  exact pc_ret e7
theorem vq_cfn (X : IMc b n B M) {j : Nat} (hj : (j : Int) < fc_S B n) : Pc (qf_X3_fieldName nn b (j : Int) M) (fun u => u = B (fa_S B n j)) ∧ Pc (qf_X3_fieldKind nn b (j : Int) M) (fun u => u = B (fa_S B n j + 1)) := by
  obtain ⟨G, ⟨e10, FL⟩, -⟩ := cg_im X
  have := G.1
  obtain ⟨f1, f2⟩ := FL j hj
  constructor
  · unfold qf_X3_fieldName
    refine pc_if (fun z => absurd z (by omega)) (fun _ => ?_)
    refine pc_if (fun z => absurd z (by omega)) (fun _ => ?_)
    refine pc_xl ?_; intro v3 e3
    rw [oq_mul_eq (by omega) (by omega) (by omega)] at e3
    refine pc_rA ?_; intro _ _ v4 e4
    rw [show v3.toNat = 2 * j by omega, f1] at e4
    exact pc_ret e4
  · unfold qf_X3_fieldKind
    refine pc_if (fun z => absurd z (by omega)) (fun _ => ?_)
    refine pc_if (fun z => absurd z (by omega)) (fun _ => ?_)
    refine pc_xl ?_; intro v3 e3
    rw [oq_mul_eq (by omega) (by omega) (by omega)] at e3
    refine pc_add (by omega) ?_; intro v4 e4
    refine pc_rA ?_; intro _ _ v5 e5
    rw [show v4.toNat = 2 * j + 1 by omega, f2] at e5
    exact pc_ret e5
/-- the name and the kind of member j: which TEXT -/
def nt_S (B : Nat → Int) (n j : Nat) (s : Int) : Int := if s = 0 then B (fa_S B n j) else B (ma_S B n j + 1)
def kt_S (B : Nat → Int) (n j : Nat) (s : Int) : Int := if s = 0 then B (fa_S B n j + 1) else B (ma_S B n j + 2)
def mb_S (B : Nat → Int) (n : Nat) (s : Int) : Int := if s = 0 then fc_S B n else mc_S B n
theorem vq_rtx (S : RSv Bf nf h) (hk : (k : Int) < h 160 98) {j : Nat} {s : Int} (hj : (j : Int) < mb_S (Bf k) (nf k) s) : Pc (qf_X13_nameText nn (k : Int) (j : Int) s h) (fun u => u = nt_S (Bf k) (nf k) j s) ∧ Pc (qf_X13_kindText nn (k : Int) (j : Int) s h) (fun u => u = kt_S (Bf k) (nf k) j s) := by
  obtain ⟨n6, k8⟩ := tb_n6 S hk
  obtain ⟨G, ⟨e1, F1⟩, e2, M1⟩ := rg_im (S.2 k hk)
  by_cases s0 : s = 0
  · unfold mb_S at hj
    rw [if_pos s0] at hj
    obtain ⟨g1, -, -⟩ := G.2.1 j hj
    have g0 := G.1
    have f1 := F1 j hj
    unfold nt_S kt_S
    rw [if_pos s0, if_pos s0]
    constructor
    · unfold qf_X13_nameText
      refine pc_if (fun _ => ?_) (fun z => absurd s0 z)
      refine pc_xl ?_; intro v2 e2
      rw [oq_mul_eq (by omega) (by omega) (by omega)] at e2
      refine pc_add (by omega) ?_; intro v3 e3
      refine pc_rA ?_; intro _ _ v4 e4
      rw [show v3 = 12 * (k : Int) + j by omega, f1] at e4
      rw [e4]
      refine pc_sv (vq_rbyte S hk (by omega)) ?_; intro u6 q6
      exact pc_ret q6
    · unfold qf_X13_kindText
      refine pc_if (fun _ => ?_) (fun z => absurd s0 z)
      refine pc_xl ?_; intro v2 e2
      rw [oq_mul_eq (by omega) (by omega) (by omega)] at e2
      refine pc_add (by omega) ?_; intro v3 e3
      refine pc_rA ?_; intro _ _ v4 e4
      rw [show v3 = 12 * (k : Int) + j by omega, f1] at e4
      refine pc_add (by omega) ?_; intro v5 e5
      rw [show v5 = ((fa_S (Bf k) (nf k) j + 1 : Nat) : Int) by omega]
      refine pc_sv (vq_rbyte S hk (by omega)) ?_; intro u7 q7
      exact pc_ret q7
  · unfold mb_S at hj
    rw [if_neg s0] at hj
    have gm := G.2.2.2 j hj
    have g0 := G.2.2.1
    have g1 := gm.2.2.2.1
    have f1 := (M1 j hj).1
    unfold nt_S kt_S
    rw [if_neg s0, if_neg s0]
    constructor
    · unfold qf_X13_nameText
      refine pc_if (fun z => absurd z s0) (fun _ => ?_)
      refine pc_xl ?_; intro v8 e8
      rw [oq_mul_eq (by omega) (by omega) (by omega)] at e8
      refine pc_add (by omega) ?_; intro v9 e9
      refine pc_rA ?_; intro _ _ v10 e10
      rw [show v9 = 12 * (k : Int) + j by omega, f1] at e10
      refine pc_add (by omega) ?_; intro v11 e11
      rw [show v11 = ((ma_S (Bf k) (nf k) j + 1 : Nat) : Int) by omega]
      refine pc_sv (vq_rbyte S hk (by omega)) ?_; intro u6 q6
      exact pc_ret q6
    · unfold qf_X13_kindText
      refine pc_if (fun z => absurd z s0) (fun _ => ?_)
      refine pc_xl ?_; intro v8 e8
      rw [oq_mul_eq (by omega) (by omega) (by omega)] at e8
      refine pc_add (by omega) ?_; intro v9 e9
      refine pc_rA ?_; intro _ _ v10 e10
      rw [show v9 = 12 * (k : Int) + j by omega, f1] at e10
      refine pc_add (by omega) ?_; intro v11 e11
      rw [show v11 = ((ma_S (Bf k) (nf k) j + 2 : Nat) : Int) by omega]
      refine pc_sv (vq_rbyte S hk (by omega)) ?_; intro u6 q6
      exact pc_ret q6
end
end
section
/- VERIFY: types as functions of the space -/
section
variable {nn : Nat} {Bf : Nat → Nat → Int} {nf : Nat → Nat} {cnt : Int} {B : Nat → Int} {n b k : Nat} {M h g r : ms_M}
theorem le_ast {P : Nat → Prop} : ∀ N : Nat, (∃ k : Nat, k < N ∧ P k) → ∃ k : Nat, k < N ∧ P k ∧ ∀ j : Nat, j < k → ¬ P j := by
  intro N
  induction N with
  | zero => intro ⟨k, hk, _⟩; exact absurd hk (by omega)
  | succ N ih =>
    intro ⟨k, hk, pk⟩
    by_cases q : ∃ k : Nat, k < N ∧ P k
    · obtain ⟨j, j1, j2, j3⟩ := ih q
      exact ⟨j, by omega, j2, j3⟩
    · have e : k = N := Classical.byContradiction fun z => q ⟨k, by omega, pk⟩
      exact ⟨k, hk, pk, fun j hj pj => q ⟨j, by omega, pj⟩⟩
theorem clo_ex (Bf : Nat → Nat → Int) (nf : Nat → Nat) (cnt : Int) (f : Nat → Int) (m : Nat) : ∃ u : Int, CLo Bf nf cnt f m u := by
  by_cases q : ∃ k : Nat, k < cnt.toNat ∧ UNm f m (Bf k) (nf k) (own_S (Bf k) (nf k))
  · obtain ⟨k, k1, k2, k3⟩ := le_ast _ q
    exact ⟨8 + (k : Int), .inl ⟨k, by omega, rfl, k2, k3⟩⟩
  · have z : ∀ j : Nat, (j : Int) < cnt → ¬ UNm f m (Bf j) (nf j) (own_S (Bf j) (nf j)) := fun j hj y => q ⟨j, by omega, y⟩
    by_cases w : ∃ c : Nat, c < 8 ∧ KNm f m c
    · obtain ⟨c, c1, c2⟩ := w
      exact ⟨(c : Int), .inr ⟨.inl ⟨c, c1, rfl, c2⟩, z⟩⟩
    · exact ⟨-1, .inr ⟨.inr ⟨rfl, fun c hc y => w ⟨c, hc, y⟩⟩, z⟩⟩
theorem clo_det {f : Nat → Int} {m : Nat} {u v : Int} (A : CLo Bf nf cnt f m u) (C : CLo Bf nf cnt f m v) : u = v := by
  rcases A with ⟨k, k1, k2, k3, k4⟩ | ⟨A, z⟩
  · rcases C with ⟨j, j1, j2, j3, j4⟩ | ⟨-, w⟩
    · have e : k = j := by
        rcases Nat.lt_trichotomy k j with q | q | q
        · exact absurd k3 (j4 k q)
        · exact q
        · exact absurd j3 (k4 j q)
      omega
    · exact absurd k3 (w k k1)
  · rcases C with ⟨j, j1, j2, j3, j4⟩ | ⟨C, -⟩
    · exact absurd j3 (z j j1)
    · rcases A with ⟨c, c1, c2, c3⟩ | ⟨c2, c3⟩
      · rcases C with ⟨d, d1, d2, d3⟩ | ⟨d2, d3⟩
        · have := kn_eq c1 d1 c3 d3; omega
        · exact absurd c3 (d3 c c1)
      · rcases C with ⟨d, d1, d2, d3⟩ | ⟨d2, d3⟩
        · exact absurd d3 (c3 d d1)
        · omega
end
/-- the class that a name is of, or -1 -/
noncomputable def lo_S (Bf : Nat → Nat → Int) (nf : Nat → Nat) (cnt : Int) (f : Nat → Int) (m : Nat) : Int := Classical.choose (clo_ex Bf nf cnt f m)
/-- the class's type of the kind from p to e, of class constant i; -1: its class is not there -/
noncomputable def kq_F (Bf : Nat → Nat → Int) (nf : Nat → Nat) (cnt : Int) (B : Nat → Int) (p e : Nat) : Int := if B p = 73 ∨ B p = 90 then 301 else if B p = 86 then 303 else if B p = 91 then (if B (p + 1) = 73 then 200 else if lo_S Bf nf cnt (fun i => B (p + 2 + i)) (e - 1 - (p + 2)) = -1 then -1 else 100 + lo_S Bf nf cnt (fun i => B (p + 2 + i)) (e - 1 - (p + 2))) else lo_S Bf nf cnt (fun i => B (p + 1 + i)) (e - 1 - (p + 1))
noncomputable def cq_F (Bf : Nat → Nat → Int) (nf : Nat → Nat) (cnt : Int) (B : Nat → Int) (n : Nat) (i : Int) : Int := if B (na_S B n (pt_S B n i 0)) = 91 then kq_F Bf nf cnt B (na_S B n (pt_S B n i 0)) (na_S B n (pt_S B n i 0) + tl_S B n (pt_S B n i 0)) else lo_S Bf nf cnt (fun j => B (na_S B n (pt_S B n i 0) + j)) (tl_S B n (pt_S B n i 0))
/-- a kind's type, both sides -/
def TKo (x y : Int) : Prop := TYo x y ∨ (x = 303 ∧ y = 0)
section
variable {nn : Nat} {Bf : Nat → Nat → Int} {nf : Nat → Nat} {cnt : Int} {B : Nat → Int} {n b k : Nat} {M h g r : ms_M}
theorem lo_ok {f : Nat → Int} {m : Nat} : CLo Bf nf cnt f m (lo_S Bf nf cnt f m) := Classical.choose_spec (clo_ex Bf nf cnt f m)
theorem lo_e {f : Nat → Int} {m : Nat} {u : Int} (A : CLo Bf nf cnt f m u) : u = lo_S Bf nf cnt f m := clo_det A lo_ok
theorem lo_rg (h8 : cnt ≤ 8) {f : Nat → Int} {m : Nat} : lo_S Bf nf cnt f m = -1 ∨ (0 ≤ lo_S Bf nf cnt f m ∧ lo_S Bf nf cnt f m < 16) := clo_rg h8 lo_ok
theorem kq_ok {p e : Nat} (K : KDs B p e) : KTc Bf nf cnt B p e (kq_F Bf nf cnt B p e) := by
  unfold kq_F
  by_cases c1 : B p = 73 ∨ B p = 90
  · rw [if_pos c1]; exact .inl ⟨c1, rfl⟩
  rw [if_neg c1]
  by_cases c2 : B p = 86
  · rw [if_pos c2]; exact .inr (.inl ⟨c2, rfl⟩)
  rw [if_neg c2]
  by_cases c3 : B p = 91
  · rw [if_pos c3]
    by_cases c4 : B (p + 1) = 73
    · rw [if_pos c4]; exact .inr (.inr (.inl ⟨c3, c4, rfl⟩))
    · rw [if_neg c4]
      have b1 : B (p + 1) = 76 := by unfold KDs at K; omega
      refine .inr (.inr (.inr (.inl ⟨c3, b1, _, lo_ok, ?_⟩)))
      by_cases c5 : lo_S Bf nf cnt (fun i => B (p + 2 + i)) (e - 1 - (p + 2)) = -1
      · rw [if_pos c5]; exact .inl ⟨c5, rfl⟩
      · rw [if_neg c5]; exact .inr ⟨c5, rfl⟩
  · rw [if_neg c3]
    have b0 : B p = 76 := by unfold KDs at K; omega
    exact .inr (.inr (.inr (.inr ⟨b0, lo_ok⟩)))
theorem ktc_det {p e : Nat} {x y : Int} (A : KTc Bf nf cnt B p e x) (C : KTc Bf nf cnt B p e y) : x = y := by
  rcases A with ⟨b1, x1⟩ | ⟨b1, x1⟩ | ⟨b1, b2, x1⟩ | ⟨b1, b2, v, D, x1⟩ | ⟨b1, D⟩
  · rcases C with ⟨c1, y1⟩ | ⟨c1, y1⟩ | ⟨c1, c2, y1⟩ | ⟨c1, c2, w, E, y1⟩ | ⟨c1, E⟩
    · omega
    · omega
    · omega
    · clear E; omega
    · clear E; omega
  · rcases C with ⟨c1, y1⟩ | ⟨c1, y1⟩ | ⟨c1, c2, y1⟩ | ⟨c1, c2, w, E, y1⟩ | ⟨c1, E⟩
    · omega
    · omega
    · omega
    · clear E; omega
    · clear E; omega
  · rcases C with ⟨c1, y1⟩ | ⟨c1, y1⟩ | ⟨c1, c2, y1⟩ | ⟨c1, c2, w, E, y1⟩ | ⟨c1, E⟩
    · omega
    · omega
    · omega
    · clear E; omega
    · clear E; omega
  · rcases C with ⟨c1, y1⟩ | ⟨c1, y1⟩ | ⟨c1, c2, y1⟩ | ⟨c1, c2, w, E, y1⟩ | ⟨c1, E⟩
    · clear D; omega
    · clear D; omega
    · clear D; omega
    · have e1 := clo_det D E; clear D E; omega
    · clear D E; omega
  · rcases C with ⟨c1, y1⟩ | ⟨c1, y1⟩ | ⟨c1, c2, y1⟩ | ⟨c1, c2, w, E, y1⟩ | ⟨c1, E⟩
    · clear D; omega
    · clear D; omega
    · clear D; omega
    · clear D E; omega
    · exact clo_det D E
theorem kq_e {p e : Nat} {x : Int} (K : KDs B p e) (A : KTc Bf nf cnt B p e x) : x = kq_F Bf nf cnt B p e := ktc_det A (kq_ok K)
theorem cq_ok {x : Nat} (zk : kk_S B n = .inr x) (h2 : 0 ≤ B 2) {i : Int} (t3 : tg_S B n i = 3) : CTp Bf nf cnt B n i (cq_F Bf nf cnt B n i) := by
  obtain ⟨-, tx⟩ := cl_tx zk h2 t3
  unfold cq_F
  by_cases c : B (na_S B n (pt_S B n i 0)) = 91
  · rw [if_pos c]
    rcases tx with ⟨-, w⟩ | ⟨-, w⟩
    · exact absurd c w
    · exact .inl ⟨c, kq_ok w⟩
  · rw [if_neg c]; exact .inr ⟨c, lo_ok⟩
theorem cq_e {x : Nat} (zk : kk_S B n = .inr x) (h2 : 0 ≤ B 2) {i y : Int} (t3 : tg_S B n i = 3) (A : CTp Bf nf cnt B n i y) : y = cq_F Bf nf cnt B n i := by
  rcases A with ⟨a1, a2⟩ | ⟨a1, a2⟩
  · rcases cq_ok (Bf := Bf) (nf := nf) (cnt := cnt) zk h2 t3 with ⟨b1, b2⟩ | ⟨b1, b2⟩
    · exact ktc_det a2 b2
    · exact absurd a1 b1
  · rcases cq_ok (Bf := Bf) (nf := nf) (cnt := cnt) zk h2 t3 with ⟨b1, b2⟩ | ⟨b1, b2⟩
    · exact absurd b1 a1
    · exact clo_det a2 b2
/-- what kinds of types there are -/
theorem kq_rg (h8 : cnt ≤ 8) {p e : Nat} (K : KDs B p e) : (B p = 86 ∧ kq_F Bf nf cnt B p e = 303) ∨ ((B p = 73 ∨ B p = 90) ∧ kq_F Bf nf cnt B p e = 301) ∨ (¬ B p = 86 ∧ ¬ B p = 73 ∧ ¬ B p = 90 ∧ (kq_F Bf nf cnt B p e = -1 ∨ kq_F Bf nf cnt B p e = 200 ∨ (0 ≤ kq_F Bf nf cnt B p e ∧ kq_F Bf nf cnt B p e < 16) ∨ (100 ≤ kq_F Bf nf cnt B p e ∧ kq_F Bf nf cnt B p e < 116))) := by
  rcases kq_ok (Bf := Bf) (nf := nf) (cnt := cnt) K with ⟨b1, x1⟩ | ⟨b1, x1⟩ | ⟨b1, b2, x1⟩ | ⟨b1, b2, v, D, x1⟩ | ⟨b1, D⟩
  · omega
  · omega
  · omega
  · have := clo_rg h8 D; clear D; omega
  · have := clo_rg h8 D; clear D; omega
theorem cq_rg (h8 : cnt ≤ 8) {x : Nat} (zk : kk_S B n = .inr x) (h2 : 0 ≤ B 2) {i : Int} (t3 : tg_S B n i = 3) : cq_F Bf nf cnt B n i = -1 ∨ cq_F Bf nf cnt B n i = 200 ∨ (0 ≤ cq_F Bf nf cnt B n i ∧ cq_F Bf nf cnt B n i < 16) ∨ (100 ≤ cq_F Bf nf cnt B n i ∧ cq_F Bf nf cnt B n i < 116) := by
  obtain ⟨-, tx⟩ := cl_tx zk h2 t3
  unfold cq_F
  by_cases c : B (na_S B n (pt_S B n i 0)) = 91
  · rw [if_pos c]
    rcases tx with ⟨-, w⟩ | ⟨-, w⟩
    · exact absurd c w
    · rcases kq_rg (Bf := Bf) (nf := nf) h8 w with z | z | z
      · omega
      · omega
      · exact z.2.2.2
  · rw [if_neg c]
    rcases lo_rg (Bf := Bf) (nf := nf) h8 (f := fun j => B (na_S B n (pt_S B n i 0) + j)) (m := tl_S B n (pt_S B n i 0)) with z | z
    · exact .inl z
    · exact .inr (.inr (.inl z))
theorem kz_zk (S : CSv Bf nf h) (hk : (k : Int) < h 56 3) : ∃ x : Nat, kk_S (Bf k) (nf k) = .inr x ∧ 0 ≤ Bf k 2 ∧ Bf k 2 ≤ 255 := by
  obtain ⟨T, p, q, zk, -⟩ := S.2 k hk
  exact ⟨p, zk, T.2.2.1⟩
theorem kz_rk (S : RSv Bf nf h) (hk : (k : Int) < h 160 98) : ∃ x : Nat, kk_S (Bf k) (nf k) = .inr x ∧ 0 ≤ Bf k 2 ∧ Bf k 2 ≤ 255 := by
  obtain ⟨-, ⟨-, x2, -⟩, p, q, zk, -⟩ := S.2 k hk
  exact ⟨p, zk, x2⟩
/-- types, both sides, as functions -/
theorem vc_kind (S : CSv Bf nf h) (hk : (k : Int) < h 56 3) {p e : Nat} (K : KDs (Bf k) p e) (he : e ≤ nf k) : Pc (qf_X7_typeOfKind nn (h 60 k).toNat (p : Int) (e : Int) h) (fun u => u = kq_F Bf nf (h 56 3) (Bf k) p e) :=
  pc_imp (vq_ckind S.2 S.1 (S.2 k hk).1.1 K he) (fun u z => kq_e K z)
theorem vc_class (S : CSv Bf nf h) (hk : (k : Int) < h 56 3) {i : Int} (t3 : tg_S (Bf k) (nf k) i = 3) : Pc (qf_X7_typeOfClass nn (h 60 k).toNat i h) (fun u => u = cq_F Bf nf (h 56 3) (Bf k) (nf k) i) := by
  obtain ⟨x, zk, h2, -⟩ := kz_zk S hk
  exact pc_imp (vq_cclass S hk t3) (fun u z => cq_e zk h2 t3 z)
theorem vr_kind (N : NKn Bf nf (h 160 98)) (S : RSv Bf nf h) (h7 : 0 ≤ h 160 117) (hk : (k : Int) < h 160 98) {p e : Nat} (K : KDs (Bf k) p e) (he : e ≤ nf k) : Pc (qf_X13_typeAt nn ((6000 * k + p : Nat) : Int) h) (fun u => OTH h u.2 ∧ u.2 160 120 = ((6000 * k + e : Nat) : Int) ∧ TKo (kq_F Bf nf (h 160 98) (Bf k) p e) u.1) := by
  refine pc_imp (vq_rkind S h7 hk K he) (fun u z => ⟨z.1, z.2.1, ?_⟩)
  rcases kt_cr N S.1.2 (kq_ok K) z.2.2 with w | w
  · exact .inr ⟨w.2.1, w.2.2⟩
  · exact .inl w.2.2.1
theorem vr_class (N : NKn Bf nf (h 160 98)) (S : RSv Bf nf h) (h7 : 0 ≤ h 160 117) (hk : (k : Int) < h 160 98) {i : Int} (t3 : tg_S (Bf k) (nf k) i = 3) : Pc (qf_X13_typeOfClass nn (k : Int) i h) (fun u => OTH h u.2 ∧ TYo (cq_F Bf nf (h 160 98) (Bf k) (nf k) i) u.1) := by
  obtain ⟨x, zk, h2, -⟩ := kz_rk S hk
  exact pc_imp (vq_rclass S h7 hk t3) (fun u z => ⟨z.1, (ct_cr N S.1.2 (cq_ok zk h2 t3) z.2).1⟩)
/-- whether a type is there -/
theorem vr_there {x y : Int} (T : TKo x y) : Pc (qf_X13_isThere nn y h) (fun u => (u = 0 ∧ x = -1) ∨ (u = 1 ∧ ¬ x = -1)) := by
  unfold TKo TYo TYj at T
  unfold qf_X13_isThere
  refine pc_if (fun z => pc_ret (.inr ⟨rfl, by omega⟩)) (fun z => ?_)
  refine pc_sub (by omega) ?_; intro v1 e1
  refine pc_xl ?_; intro v2 e2
  rw [Int.tdiv_eq_ediv_of_nonneg (by omega)] at e2
  exact pc_if (fun w => pc_ret (.inl ⟨rfl, by omega⟩)) (fun w => pc_ret (.inr ⟨rfl, by omega⟩))
end
end
section
/- VERIFY: kinds that are there -/
/-- how many parameters the method's kind t has, where they begin -/
def pm_S (B : Nat → Int) (n : Nat) (t : Int) : Nat := (pi_S B n t).getD 0
noncomputable def ps_S (B : Nat → Int) (n : Nat) (t : Int) : Nat → Nat := Classical.epsilon (fun ps : Nat → Nat => MKd B (na_S B n t) (na_S B n t + tl_S B n t) (pm_S B n t) ps)
/-- all classes named in the kinds are there -/
def KAl (Bf : Nat → Nat → Int) (nf : Nat → Nat) (cnt : Int) (B : Nat → Int) (n : Nat) : Prop := (∀ j : Nat, (j : Int) < fc_S B n → ¬ kq_F Bf nf cnt B (na_S B n (kt_S B n j 0)) (na_S B n (kt_S B n j 0) + tl_S B n (kt_S B n j 0)) = -1) ∧ ∀ i : Nat, (i : Int) < mc_S B n → (∀ j : Nat, j < pm_S B n (kt_S B n i 1) → ¬ kq_F Bf nf cnt B (ps_S B n (kt_S B n i 1) j) (ps_S B n (kt_S B n i 1) (j + 1)) = -1) ∧ ¬ kq_F Bf nf cnt B (ps_S B n (kt_S B n i 1) (pm_S B n (kt_S B n i 1)) + 1) (na_S B n (kt_S B n i 1) + tl_S B n (kt_S B n i 1)) = -1
/-- what readKind leaves -/
def RKv (Bf : Nat → Nat → Int) (nf : Nat → Nat) (cnt : Int) (B : Nat → Int) (n : Nat) (t : Int) (a : Nat) (h : ms_M) (u : Int × ms_M) : Prop := u.1 = (pm_S B n t : Int) ∧ (∀ c j : Nat, ¬ (c = 131 ∧ a ≤ j ∧ j ≤ a + pm_S B n t) → u.2 c j = h c j) ∧ u.2 131 a = kq_F Bf nf cnt B (ps_S B n t (pm_S B n t) + 1) (na_S B n t + tl_S B n t) ∧ ∀ j : Nat, j < pm_S B n t → u.2 131 (a + 1 + j) = kq_F Bf nf cnt B (ps_S B n t j) (ps_S B n t (j + 1))
section
variable {nn : Nat} {Bf : Nat → Nat → Int} {nf : Nat → Nat} {cnt : Int} {B : Nat → Int} {n b k : Nat} {M h g r : ms_M}
theorem ps_ok {t : Int} {m : Nat} (H : pi_S B n t = some m) : pm_S B n t = m ∧ tg_S B n t = 1 ∧ MKd B (na_S B n t) (na_S B n t + tl_S B n t) m (ps_S B n t) := by
  have e : pm_S B n t = m := by unfold pm_S; rw [H]; rfl
  obtain ⟨t1, E⟩ := pi_ps H
  refine ⟨e, t1, ?_⟩
  rw [← e] at E ⊢
  exact Classical.epsilon_spec E
/-- where the parameters of a kind are -/
theorem mkd_rg {a s m : Nat} {ps : Nat → Nat} (K : MKd B a s m ps) : ∀ j : Nat, j ≤ m → a + 1 ≤ ps j ∧ ps j < s := by
  obtain ⟨⟨k1, k2, k3⟩, K1, K2, K3⟩ := K
  have up : ∀ j : Nat, j ≤ m → a + 1 ≤ ps j := by
    intro j
    induction j with
    | zero => intro _; omega
    | succ j ih =>
      intro hj
      have a1 := ih (by omega)
      have a2 := kd_rg (K1 j (by omega)).1
      omega
  intro j hj
  refine ⟨up j hj, ?_⟩
  by_cases e : j = m
  · rw [e]; omega
  · have a2 := kd_rg (K1 j (by omega)).1
    omega
/-- THE CLASS READS A METHOD'S KIND -/
theorem vc_63 (hn : 1000000 ≤ nn) {t : Int} {m a : Nat} (a9 : a + 6 < 1799) (hp : pi_S (Bf k) (nf k) t = some m) (hk : (k : Int) < h 56 3) (ec : h 56 3 = cnt) (he : na_S (Bf k) (nf k) t + tl_S (Bf k) (nf k) t ≤ nf k) : ∀ (f j : Nat) (M : ms_M), CSv Bf nf M → j ≤ m → (∀ c i : Nat, ¬ (c = 131 ∧ a + 1 ≤ i ∧ i ≤ a + j) → M c i = h c i) → (∀ i : Nat, i < j → M 131 (a + 1 + i) = kq_F Bf nf cnt (Bf k) (ps_S (Bf k) (nf k) t i) (ps_S (Bf k) (nf k) t (i + 1))) → Pc (qw_X7_readKind_63 nn f (h 60 k).toNat (a : Int) ((na_S (Bf k) (nf k) t + tl_S (Bf k) (nf k) t : Nat) : Int) ((ps_S (Bf k) (nf k) t j : Nat) : Int) (j : Int) M) (RKv Bf nf cnt (Bf k) (nf k) t a h) := by
  obtain ⟨em, t1, K⟩ := ps_ok hp
  have rg := mkd_rg K
  obtain ⟨⟨k1, k2, k3⟩, K1, K2, K3⟩ := K
  generalize hs : na_S (Bf k) (nf k) t + tl_S (Bf k) (nf k) t = s at *
  have E : ∀ M : ms_M, CSv Bf nf M → (∀ c i : Nat, ¬ (c = 131 ∧ a + 1 ≤ i ∧ i ≤ a + m) → M c i = h c i) → (∀ i : Nat, i < m → M 131 (a + 1 + i) = kq_F Bf nf cnt (Bf k) (ps_S (Bf k) (nf k) t i) (ps_S (Bf k) (nf k) t (i + 1))) → Pc (qj_X7_readKind_130 nn (h 60 k).toNat (a : Int) (s : Int) ((ps_S (Bf k) (nf k) t m : Nat) : Int) (m : Int) M) (RKv Bf nf cnt (Bf k) (nf k) t a h) := fun M S W T => by
    have n6 : nf k ≤ 6000 := by
      have c3 : M 56 3 = h 56 3 := W 56 3 (by omega)
      exact (S.2 k (by omega)).1.1.2.1
    have rm := rg m (Nat.le_refl _)
    unfold qj_X7_readKind_130
    refine pc_add (by omega) ?_; intro v1 e1
    rw [show v1 = ((ps_S (Bf k) (nf k) t m + 1 : Nat) : Int) by omega]
    have c3 : M 56 3 = h 56 3 := W 56 3 (by omega)
    have c60 : M 60 k = h 60 k := W 60 k (by omega)
    have q := vc_kind (nn := nn) S (k := k) (by omega) K3 he
    rw [c60, c3, ec] at q
    refine pc_sv q ?_; intro u3 q3
    refine pc_wA ?_; intro _ _ h4 e4
    rw [Int.toNat_natCast] at e4
    refine pc_ret ⟨by rw [em], fun c j z => ?_, ?_, fun j hj => ?_⟩
    · show h4 c j = h c j
      rw [em] at z
      rw [e4, up_n (by omega)]; exact W c j (by omega)
    · show h4 131 a = _
      rw [e4, up_s, q3, em, hs]
    · show h4 131 (a + 1 + j) = _
      rw [em] at hj
      rw [e4, up_n (by omega)]; exact T j hj
  intro f
  induction f with
  | zero => intro j M _ _ _ _; exact pc_none
  | succ f ih =>
    intro j M S hj W T
    have rj := rg j hj
    have c3 : M 56 3 = h 56 3 := W 56 3 (by omega)
    have c60 : M 60 k = h 60 k := W 60 k (by omega)
    have X := S.2 k (by omega)
    have n6 : nf k ≤ 6000 := X.1.1.2.1
    have J := X.1.1
    rw [c60] at J
    unfold qw_X7_readKind_63
    have end_ : j = m → Pc (qj_X7_readKind_130 nn (h 60 k).toNat (a : Int) (s : Int) ((ps_S (Bf k) (nf k) t j : Nat) : Int) (j : Int) M) (RKv Bf nf cnt (Bf k) (nf k) t a h) := fun e => by
      rw [e] at W T ⊢
      exact E M S W T
    refine pc_if (fun z => end_ (by omega)) (fun z => ?_)
    refine pc_if (fun z => absurd z (by omega)) (fun _ => ?_)
    refine pc_if (fun z => absurd z (by omega)) (fun _ => ?_)
    refine pc_ck (fun _ => ?_)
    refine pc_sv (P := fun u => u = Bf k (ps_S (Bf k) (nf k) t j)) (fun u eu => by rw [byteAt_in J (by omega)] at eu; exact (Option.some.inj eu).symm) ?_; intro u6 q6
    rw [q6]
    refine pc_if (fun z => end_ ?_) (fun z => ?_)
    · exact Classical.byContradiction fun y => absurd z (K1 j (by omega)).2
    · have jm : j < m := Classical.byContradiction fun y => z (by rw [show j = m by omega]; exact K2.1)
      have kd := (K1 j jm).1
      have kr := kd_rg kd
      have K4 := (kd_s kd).1
      refine pc_sv (P := fun u => u = ((ps_S (Bf k) (nf k) t (j + 1) : Nat) : Int)) (fun u eu => by rw [behindKind_ok (by omega) J (by omega) (by omega), kd] at eu; exact (Option.some.inj eu).symm) ?_; intro u8 q8
      refine pc_add (by omega) ?_; intro v9 e9
      refine pc_add (by omega) ?_; intro v10 e10
      rw [q8]
      have q := vc_kind (nn := nn) S (k := k) (by omega) K4 (by omega)
      rw [c60, c3, ec] at q
      refine pc_sv q ?_; intro u12 q12
      refine pc_wA ?_; intro _ _ h13 e13
      rw [show v10.toNat = a + 1 + j by omega] at e13
      rw [show v9 = ((j + 1 : Nat) : Int) by omega]
      refine ih (j + 1) h13 (csv_k S (fun c i _ z2 => by rw [e13, up_n (by omega)])) (by omega) (fun c i z1 => ?_) (fun i hi => ?_)
      · rw [e13, up_n (by omega)]; exact W c i (by omega)
      · by_cases ij : i = j
        · rw [ij, e13, up_s, q12]
        · rw [e13, up_n (by omega)]; exact T i (by omega)
theorem vc_readM (hn : 1000000 ≤ nn) (S : CSv Bf nf h) {t : Int} {m a : Nat} (a9 : a + 6 < 1799) (hp : pi_S (Bf k) (nf k) t = some m) (hk : (k : Int) < h 56 3) : Pc (qf_X7_readKind nn (h 60 k).toNat t (a : Int) h) (RKv Bf nf (h 56 3) (Bf k) (nf k) t a h) := by
  obtain ⟨em, t1, K⟩ := ps_ok hp
  have rg := mkd_rg K 0 (Nat.zero_le _)
  have X := S.2 k hk
  have J := X.1.1
  have n6 : nf k ≤ 6000 := J.2.1
  obtain ⟨c1, c2, c3⟩ := c_text (nn := nn) X.1 t1
  unfold qf_X7_readKind
  refine pc_ck (fun _ => ?_)
  refine pc_sv (P := fun u => u = ((na_S (Bf k) (nf k) t + tl_S (Bf k) (nf k) t : Nat) : Int)) (fun u eu => by rw [c2] at eu; exact (Option.some.inj eu).symm) ?_; intro u19 q19
  refine pc_sv (P := fun u => u = ((na_S (Bf k) (nf k) t : Nat) : Int)) (fun u eu => by rw [c1] at eu; exact (Option.some.inj eu).symm) ?_; intro u21 q21
  rw [q19, q21]
  refine pc_if (fun z => absurd z (by omega)) (fun _ => ?_)
  refine pc_add (by omega) ?_; intro v22 e22
  refine pc_if (fun _ => ?_) (fun z => absurd (show v22 < 1799 by omega) z)
  refine pc_sv (P := fun u => u = Bf k (na_S (Bf k) (nf k) t)) (fun u eu => by rw [byteAt_in J (by omega)] at eu; exact (Option.some.inj eu).symm) ?_; intro u25 q25
  refine pc_if (fun _ => ?_) (fun z => absurd (q25.trans K.1.1) z)
  refine pc_add (by omega) ?_; intro v26 e26
  have e0 := K.1.2.1
  rw [show v26 = ((ps_S (Bf k) (nf k) t 0 : Nat) : Int) by omega]
  exact vc_63 hn a9 hp hk rfl c3 nn 0 h S (Nat.zero_le _) (fun _ _ _ => rfl) (fun i hi => absurd hi (by omega))
theorem vc_readF (S : CSv Bf nf h) {t : Int} {a : Nat} (a9 : a + 6 < 1799) (hp : fk_S (Bf k) (nf k) t = true) (hk : (k : Int) < h 56 3) : Pc (qf_X7_readKind nn (h 60 k).toNat t (a : Int) h) (fun u => u.1 = 0 ∧ u.2 = up_M h 131 a (kq_F Bf nf (h 56 3) (Bf k) (na_S (Bf k) (nf k) t) (na_S (Bf k) (nf k) t + tl_S (Bf k) (nf k) t))) := by
  unfold fk_S at hp
  rw [Bool.and_eq_true] at hp
  have t1 := of_decide_eq_true hp.1
  obtain ⟨K, kr, -⟩ := kd_s (of_decide_eq_true hp.2)
  have X := S.2 k hk
  have J := X.1.1
  have n6 : nf k ≤ 6000 := J.2.1
  obtain ⟨c1, c2, c3⟩ := c_text (nn := nn) X.1 t1
  have ena : na_S (Bf k) (nf k) t = pl_S (Bf k) (nf k) t + 2 := rfl
  unfold qf_X7_readKind
  refine pc_ck (fun _ => ?_)
  refine pc_sv (P := fun u => u = ((na_S (Bf k) (nf k) t + tl_S (Bf k) (nf k) t : Nat) : Int)) (fun u eu => by rw [c2] at eu; exact (Option.some.inj eu).symm) ?_; intro u19 q19
  refine pc_sv (P := fun u => u = ((na_S (Bf k) (nf k) t : Nat) : Int)) (fun u eu => by rw [c1] at eu; exact (Option.some.inj eu).symm) ?_; intro u21 q21
  rw [q19, q21]
  refine pc_if (fun z => absurd z (by omega)) (fun _ => ?_)
  refine pc_add (by omega) ?_; intro v22 e22
  refine pc_if (fun _ => ?_) (fun z => absurd (show v22 < 1799 by omega) z)
  refine pc_sv (P := fun u => u = Bf k (na_S (Bf k) (nf k) t)) (fun u eu => by rw [byteAt_in J (by omega)] at eu; exact (Option.some.inj eu).symm) ?_; intro u25 q25
  refine pc_if (fun z => ?_) (fun _ => ?_)
  · exfalso
    have K' : KDs (Bf k) (na_S (Bf k) (nf k) t) (na_S (Bf k) (nf k) t + tl_S (Bf k) (nf k) t) := K
    unfold KDs at K'
    omega
  · refine pc_sv (vc_kind S hk K c3) ?_; intro u28 q28
    refine pc_wA ?_; intro _ _ h29 e29
    rw [Int.toNat_natCast] at e29
    exact pc_ret ⟨rfl, by rw [← q28]; exact e29⟩
end
end

/- PATCH KEEPS THE INVARIANT OF THE CLASS -/
section
variable {nn : Nat} {h g z : ms_M} {p q : Int}
theorem oq_b_id {x : Int} (hx : -128 ≤ x ∧ x ≤ 127) : oq_b x = x := by
  rw [oq_b_eq (by unfold in_R; omega)]
  unfold Int.bmod
  dsimp only
  split <;> omega
theorem chg_all (hn : 1000000 ≤ nn) {a1 a2 a3 : Int} (V : VS_ h) (S : SI_ h) (J : OJ h) : Pc (qf_X7_change nn a1 a2 a3 h) (fun r => (r.1 = 0 ∧ KEP h r.2) ∨ (¬ r.1 = 0 ∧ r.2 56 4 = 0 ∧ OJ r.2)) := by
  have hb := (vi_r V).1.2
  have h0 := (vi_r V).1.1
  have g3 := gF_56_3 V
  have ib := im_at hb
  have same : KEP h h := kep_rd V S J (fun _ _ _ => rfl)
  unfold qf_X7_change
  refine pc_se (fun u4 e4 => ?_)
  refine pc_if (fun _ => pc_ret (.inl ⟨rfl, same⟩)) (fun c4 => pc_if (fun _ => pc_ret (.inl ⟨rfl, same⟩)) (fun c2 => pc_ck (fun hd => ?_)))
  have I4 : (8 ≤ a1 ∧ a1 < 8 + h 56 3) ∧ u4 = h 60 (a1 - 8).toNat := by
    unfold qf_X7_imageOf at e4
    split at e4
    · cases e4; omega
    · rw [xl_eq, oq_add_eq (by omega) (by omega) (by omega)] at e4
      split at e4
      · cases e4; omega
      · rw [xl_eq, oq_sub_eq (by omega) (by omega) (by omega)] at e4
        have e4 := rd_i e4
        cases e4
        exact ⟨by omega, rfl⟩
  obtain ⟨ra, e4⟩ := I4
  have Jd := J (a1 - 8).toNat (by omega)
  rw [← e4] at Jd
  refine pc_if (fun c3 => ?_) (fun _ => pc_ret (.inl ⟨rfl, same⟩))
  have Bd := vi_b V hd
  refine pc_se (fun u9 e9 => ?_)
  have e9 : u9 = h u4.toNat 0 := by
    unfold qf_X3_ownBytes at e9
    obtain ⟨-, e9⟩ := ck_i e9
    have e9 := Option.some.inj e9
    rw [← e9]
    exact Int.toNat_of_nonneg Bd.1.1
  refine pc_ck (fun _ => ?_)
  intro r e
  have e := rt_i e
  rw [xl_eq] at e
  obtain ⟨hw, e⟩ := wti_ e
  have n9 : 256 ≤ u9.toNat := by rw [e9]; exact Jd.1
  have V13 : VS_ (up_M h u9.toNat a2.toNat (oq_b (oq_b a3))) := vs_wt V hw
  have f13 : ∀ c k, ¬ (c = u9.toNat ∧ k = a2.toNat) → up_M h u9.toNat a2.toNat (oq_b (oq_b a3)) c k = h c k := fun c k w => up_n w
  have l9 : u9.toNat < 900000 := by have := V.2.1.1; have := hw.1.1; unfold cn_M at this; omega
  have c13 : cn_M (up_M h u9.toNat a2.toNat (oq_b (oq_b a3))) = cn_M h := cn_up l9
  generalize up_M h u9.toNat a2.toNat (oq_b (oq_b a3)) = h13 at *
  obtain ⟨-, e⟩ := ck_i e
  obtain ⟨hb13, e⟩ := ck_i e
  obtain ⟨u17, e17, e⟩ := sv_i e
  have s2 : h13 56 2 = h 56 2 := f13 _ _ (by omega)
  rw [s2] at e17
  have g1 := gI_1 V13 hd
  have t9 : u9.toNat < cn_M h13 ∧ ly_T u9.toNat = 1 := ⟨by rw [c13]; exact hw.1.1, hw.1.2⟩
  obtain ⟨x0, x74⟩ := f3_read hb hw.1.2 g1.1 V13 _ e17
  have F17 : ∀ c k, (c < (h 56 2).toNat ∨ (h 56 2).toNat + 6 < c) → u17.2 c k = h13 c k := fun c k w => (of_X3_read nn hb) _ e17 c k w
  have F : ∀ c k, (c < (h 56 2).toNat ∨ (h 56 2).toNat + 6 < c) → ¬ (c = u9.toNat ∧ k = a2.toNat) → u17.2 c k = h c k := fun c k w1 w2 => (F17 c k w1).trans (f13 c k w2)
  have back : ∀ {r : Int × ms_M}, qj_X7_change_72 nn a2 ((u9.toNat : Nat) : Int) (h u9.toNat a2.toNat) u17.2 = some r → r.1 = 0 ∧ KEP h r.2 := by
    intro r e
    unfold qj_X7_change_72 at e
    obtain ⟨-, e⟩ := ck_i e
    obtain ⟨hw2, e⟩ := wti_ e
    cases e
    refine ⟨rfl, kep_rd V S J (fun c k w => ?_)⟩
    rw [Int.toNat_natCast]
    by_cases y : c = u9.toNat ∧ k = a2.toNat
    · rw [y.1, y.2]
      show up_M _ _ _ _ _ _ = _
      rw [up_s]
      exact oq_b_id (vi_y V hw.1.1 hw.1.2 (by omega))
    · show up_M _ _ _ _ c k = _
      rw [up_n y]; exact F c k w y
  by_cases d1 : ¬ u17.1 = -1
  · rw [if_pos d1] at e
    exact .inl (back e)
  · rw [if_neg d1] at e
    have x74 := x74 (Decidable.not_not.1 d1)
    obtain ⟨u19, e19, e⟩ := sv_i e
    by_cases d2 : u19 = 0
    · rw [if_pos d2, xl_eq, oq_sub_eq (by omega) (by omega) (by omega)] at e
      obtain ⟨u22, e22, e⟩ := sv_i e
      obtain ⟨u24, e24, e⟩ := sv_i e
      cases e
      right
      refine ⟨show ¬ (1 : Int) = 0 by decide, rl_4 _ e24, fun k hk => ?_⟩
      have i22 := (sw_i e22).2
      have q2 : u17.2 56 2 = h 56 2 := F 56 2 (by omega) (by omega)
      rw [q2] at i22
      have k3 : u24 56 3 = h 56 3 := by
        rw [rl_fr e24 56 3 (by omega), i22, up_n (by omega), up_n (by omega)]
        exact F 56 3 (by omega) (by omega)
      have hk : (k : Int) < h 56 3 := by rw [← k3]; exact hk
      show 256 ≤ (u24 (u24 60 k).toNat 0).toNat ∧ bt u24 (u24 60 k).toNat 0 = 74
      have G : ∀ c j, c ≠ 58 ∧ c ≠ 59 ∧ c ≠ 56 → ¬ (c = 60 ∧ j = (a1 - 8).toNat) → u24 c j = u17.2 c j := by
        intro c j w1 w2
        rw [rl_fr e24 c j (by omega), i22, up_n (by omega), up_n w2]
      have P := bt_pos x74
      rw [x0, Int.toNat_natCast] at P
      by_cases y : k = (a1 - 8).toNat
      · have m60 : u24 60 k = h 56 2 := by
          rw [y, rl_fr e24 60 _ (by omega), i22, up_n (by omega), up_s]
        rw [m60]
        have m0 : u24 (h 56 2).toNat 0 = ((u9.toNat : Nat) : Int) := (G _ _ (by omega) (by omega)).trans x0
        have m1 : u24 (h 56 2).toNat 1 = u17.2 (h 56 2).toNat 1 := G _ _ (by omega) (by omega)
        refine ⟨by rw [m0]; omega, bt_mk (by rw [m1]; exact P.1) ?_⟩
        rw [m0, Int.toNat_natCast, G _ _ (by omega) (by omega)]
        exact P.2
      · have J1 := J k hk
        have hdk := V.2.2.2.2.1 k (by omega)
        have hne : (h 60 k).toNat ≠ (h 56 2).toNat := by have := S.2.2 k (by omega); omega
        have d := im_dis hb hdk.2 hne
        have id := im_at hdk.2
        have m60 : u24 60 k = h 60 k := (G _ _ (by omega) (by omega)).trans (F _ _ (by omega) (by omega))
        have m0 : u24 (h 60 k).toNat 0 = h (h 60 k).toNat 0 := (G _ _ (by omega) (by omega)).trans (F _ _ (by omega) (by omega))
        have m1 : u24 (h 60 k).toNat 1 = h (h 60 k).toNat 1 := (G _ _ (by omega) (by omega)).trans (F _ _ (by omega) (by omega))
        have P1 := bt_pos J1.2
        rw [m60, m0]
        refine ⟨J1.1, bt_mk (by rw [m1]; exact P1.1) ?_⟩
        rw [m0]
        by_cases w : (h (h 60 k).toNat 0).toNat = u9.toNat
        · rw [w, G _ _ (by omega) (by omega)]
          exact P.2
        · rw [G _ _ (by omega) (by omega), F _ _ (by omega) (by omega)]
          exact P1.2
    · rw [if_neg d2] at e
      exact .inl (back e)
theorem cva_patch (hn : 1000000 ≤ nn) (hp : 0 ≤ p) {a1 a2 a3 : Int} (r1 : -2147483648 ≤ a1 ∧ a1 ≤ 2147483647) (C : CVa p h) : Ok_ (qf_X12_patch nn a1 a2 a3 h) (fun r => CVa p r.2) := by
  obtain ⟨r, er, D⟩ := ci_patch hn hp (a2 := a2) (a3 := a3) r1 C.1
  refine ⟨r, er, ?_⟩
  unfold qf_X12_patch at er
  obtain ⟨u3, e3, er⟩ := sv_i er
  have B := chg_all hn C.1.1 C.1.2.2.1 C.2.2.2 _ e3
  have V3 := (okof (vf_X7_change hn r1 C.1.1) e3).1
  have S3 := si_change hn C.1.1 C.1.2.2.1 e3
  have N3 : NM_ u3.2 := nm_eq C.1.2.1 (fun k => (ff_X7_change nn) _ e3 7 k (nw_ar rfl k)) ((ff_X7_change nn) _ e3 2 9 rfl)
  by_cases c : u3.1 = 0
  · rw [if_pos c] at er
    obtain ⟨-, er⟩ := ck_i er
    cases er
    rcases B with ⟨-, K⟩ | ⟨z, -⟩
    · exact cv_k C D K
    · exact absurd c z
  · rw [if_neg c] at er
    obtain ⟨u7, e7, er⟩ := sv_i er
    obtain ⟨-, er⟩ := ck_i er
    cases er
    rcases B with ⟨z, -⟩ | ⟨-, z, J⟩
    · exact absurd z c
    · exact cva_fg hn hp V3 N3 S3 (fun q => absurd z q) J e7
end

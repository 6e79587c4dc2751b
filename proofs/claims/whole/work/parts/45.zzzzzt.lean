/- THE LAW'S LEVEL: patch -/
section
variable {nn t n : Nat} {M M1 M2 h g : ms_M} {c s : Nat}
/-- what the class's change writes -/
theorem chg_f (hn : 1000000 ≤ nn) {a1 a2 a3 : Int} (V : VS_ h) (SI : SI_ h) (J : OJ h) {w : Int × ms_M} (e : qf_X7_change nn a1 a2 a3 h = some w) : (w.1 = 0 ∧ ∀ c k : Nat, (c < (h 56 2).toNat ∨ (h 56 2).toNat + 6 < c) → w.2 c k = h c k) ∨ (w.1 = 1 ∧ ∃ j0 : Nat, (j0 : Int) < h 56 3 ∧ (∀ c k : Nat, (c < (h 56 2).toNat ∨ (h 56 2).toNat + 6 < c) → ¬ c = (h (h 60 j0).toNat 0).toNat → c ≠ 58 → c ≠ 59 → ¬ (c = 60 ∧ k = j0) → ¬ (c = 56 ∧ (k = 2 ∨ k = 4)) → w.2 c k = h c k) ∧ w.2 60 j0 = h 56 2 ∧ w.2 (h 56 2).toNat 0 = h (h 60 j0).toNat 0) := by
  have hb := (vi_r V).1.2
  have h0 := (vi_r V).1.1
  have ib := im_at hb
  have hM := V.2.1.1
  have g3 := gF_56_3 V
  unfold qf_X7_change at e
  obtain ⟨u4, e4, e⟩ := sv_i e
  have same : w = (0, h) → w.1 = 0 ∧ ∀ c k : Nat, (c < (h 56 2).toNat ∨ (h 56 2).toNat + 6 < c) → w.2 c k = h c k := fun q => by rw [q]; exact ⟨rfl, fun _ _ _ => rfl⟩
  by_cases c1 : u4 < 0
  · rw [if_pos c1] at e; cases e; exact .inl (same rfl)
  rw [if_neg c1] at e
  by_cases c2 : a2 < 0
  · rw [if_pos c2] at e; cases e; exact .inl (same rfl)
  rw [if_neg c2] at e
  obtain ⟨hd, e⟩ := ck_i e
  by_cases c3 : ¬ a2 < h u4.toNat 1
  · rw [if_neg c3] at e; cases e; exact .inl (same rfl)
  rw [if_pos (Decidable.not_not.1 c3)] at e
  have c3 := Decidable.not_not.1 c3
  have I4 : (8 ≤ a1 ∧ a1 < 8 + h 56 3) ∧ u4 = h 60 (a1 - 8).toNat := by
    unfold qf_X7_imageOf at e4
    split at e4
    · cases e4; omega
    · rw [xl_eq, oq_add_eq (by omega) (by omega) (by omega)] at e4
      split at e4
      · cases e4; omega
      · rw [xl_eq, oq_sub_eq (by omega) (by omega) (by omega)] at e4
        have e4 := rd_i e4
        cases e4
        exact ⟨by omega, rfl⟩
  obtain ⟨ra, e4⟩ := I4
  have Jd := J (a1 - 8).toNat (by omega)
  rw [← e4] at Jd
  obtain ⟨u9, e9, e⟩ := sv_i e
  have Bd := vi_b V hd
  have e9 : u9 = h u4.toNat 0 := by
    unfold qf_X3_ownBytes at e9
    obtain ⟨-, e9⟩ := ck_i e9
    have e9 := Option.some.inj e9
    rw [← e9]
    exact Int.toNat_of_nonneg Bd.1.1
  obtain ⟨-, e⟩ := ck_i e
  have e := rt_i e
  rw [xl_eq] at e
  obtain ⟨hw, e⟩ := wti_ e
  have n9 : 256 ≤ u9.toNat := by rw [e9]; exact Jd.1
  have l9 : u9.toNat < 700001 := by have := hw.1.1; unfold cn_M at this; omega
  have f13 : ∀ c k, ¬ (c = u9.toNat ∧ k = a2.toNat) → up_M h u9.toNat a2.toNat (oq_b (oq_b a3)) c k = h c k := fun c k w => up_n w
  have V13 : VS_ (up_M h u9.toNat a2.toNat (oq_b (oq_b a3))) := vs_wt (v := oq_b a3) V hw
  generalize up_M h u9.toNat a2.toNat (oq_b (oq_b a3)) = h13 at *
  obtain ⟨-, e⟩ := ck_i e
  obtain ⟨hb13, e⟩ := ck_i e
  obtain ⟨u17, e17, e⟩ := sv_i e
  have s2 : h13 56 2 = h 56 2 := f13 _ _ (by omega)
  rw [s2] at e17
  have F17 : ∀ c k, (c < (h 56 2).toNat ∨ (h 56 2).toNat + 6 < c) → u17.2 c k = h13 c k := fun c k w => (of_X3_read nn hb) _ e17 c k w
  have F : ∀ c k, (c < (h 56 2).toNat ∨ (h 56 2).toNat + 6 < c) → ¬ (c = u9.toNat ∧ k = a2.toNat) → u17.2 c k = h c k := fun c k w1 w2 => (F17 c k w1).trans (f13 c k w2)
  have a13 : h13 u4.toNat 1 = h u4.toNat 1 := f13 _ _ (by have := im_at hd; omega)
  obtain ⟨x0, -⟩ := f3_read (nn := nn) hb hw.1.2 (by omega) V13 _ e17
  have back : ∀ {r : Int × ms_M}, qj_X7_change_72 nn a2 ((u9.toNat : Nat) : Int) (h u9.toNat a2.toNat) u17.2 = some r → r.1 = 0 ∧ ∀ c k : Nat, (c < (h 56 2).toNat ∨ (h 56 2).toNat + 6 < c) → r.2 c k = h c k := by
    intro r e
    unfold qj_X7_change_72 at e
    obtain ⟨-, e⟩ := ck_i e
    obtain ⟨hw2, e⟩ := wti_ e
    cases e
    refine ⟨rfl, fun c k w => ?_⟩
    show up_M u17.2 ((u9.toNat : Nat) : Int).toNat a2.toNat (oq_b (h u9.toNat a2.toNat)) c k = h c k
    rw [Int.toNat_natCast]
    by_cases y : c = u9.toNat ∧ k = a2.toNat
    · rw [y.1, y.2, up_s]
      exact oq_b_id (vi_y V hw.1.1 hw.1.2 (by have := hw.2; omega))
    · rw [up_n y]; exact F c k w y
  by_cases d1 : ¬ u17.1 = -1
  · rw [if_pos d1] at e; exact .inl (back e)
  rw [if_neg d1] at e
  obtain ⟨u19, e19, e⟩ := sv_i e
  by_cases d2 : u19 = 0
  · rw [if_pos d2, xl_eq, oq_sub_eq (by omega) (by omega) (by omega)] at e
    obtain ⟨u22, e22, e⟩ := sv_i e
    obtain ⟨u24, e24, e⟩ := sv_i e
    cases e
    have i22 := (sw_i e22).2
    have q2 : u17.2 56 2 = h 56 2 := F 56 2 (by omega) (by omega)
    refine .inr ⟨rfl, (a1 - 8).toNat, by omega, fun c k z1 z2 z3 z4 z5 z6 => ?_, ?_, ?_⟩
    · rw [← e4, ← e9] at z2
      show u24 c k = h c k
      rw [rl_fr e24 c k (by omega), i22, up_n (by omega), up_n z5]
      exact F c k z1 (by omega)
    · show u24 60 (a1 - 8).toNat = _
      rw [rl_fr e24 60 _ (by omega), i22, up_n (by omega), up_s]; exact q2
    · show u24 (h 56 2).toNat 0 = _
      rw [rl_fr e24 _ 0 (by omega), i22, up_n (by omega), up_n (by omega), x0, ← e4, ← e9]
      omega
  · rw [if_neg d2] at e; exact .inl (back e)
theorem pt_i {a b v : Int} {w : Int × ms_M} (e : qf_X12_patch nn a b v M = some w) : ∃ u, qf_X7_change nn a b v M = some u ∧ w.1 = u.1 ∧ ((u.1 = 0 ∧ w.2 = u.2) ∨ (¬ u.1 = 0 ∧ qf_X5_forget nn u.2 = some w.2)) := by
  unfold qf_X12_patch at e
  obtain ⟨u, eu, e⟩ := sv_i e
  refine ⟨u, eu, ?_⟩
  by_cases d : u.1 = 0
  · rw [if_pos d] at e
    obtain ⟨-, e⟩ := ck_i e
    cases e; exact ⟨rfl, .inl ⟨d, rfl⟩⟩
  · rw [if_neg d] at e
    obtain ⟨u7, e7, e⟩ := sv_i e
    obtain ⟨-, e⟩ := ck_i e
    cases e
    exact ⟨rfl, .inr ⟨d, e7⟩⟩
theorem wh_patch (hn : 1000000 ≤ nn) (W : WHm nn t M c s) {a b d : Int} (r1 : in_R a) (r2 : in_R b) (r3 : in_R d) : ∃ r M1 M2, qf_X12_patch nn a b d M = some (r, M1) ∧ qf_X13_patch nn a b d M1 = some (r, M2) ∧ WHm nn (t + 1) M2 c s := by
  obtain ⟨w1, w2, w3, w4, w5, w6⟩ := W
  have VM := bva_v w1.1
  have J := w1.1.1.2.2.2
  have SI := w1.1.1.1.2.2.1
  have hM := VM.2.1.1
  have cm : cn_M M ≤ 700000 := by unfold cn_M; omega
  have c256 := vi_c VM
  have h0 := (vi_r VM).1.1
  have hb := (vi_r VM).1.2
  have ib := im_at hb
  have g3 := gF_56_3 VM
  obtain ⟨x, M1, y, M2, g1, g2, V'⟩ := vr_patch hn w1 (b := b) (d := d) r1
  have V2 := bva_v V'.1
  have V1 : VS_ M1 := by
    obtain ⟨u, eu, C⟩ := cva_patch (p := 20000 * (t : Int)) hn (by omega) r1 w1.1.1 (a2 := b) (a3 := d)
    rw [g1] at eu; cases eu
    exact C.1.1
  have F1 := fun c k q => (ff_X12_patch nn) _ g1 c k q
  have F2 := fun c k q => (ff_X13_patch nn) _ g2 c k q
  have R1 : ∀ x k : Nat, 160 ≤ x → x ≤ 255 → M1 x k = M x k := fun x k a b => F1 x k (nw_ref rfl ⟨a, b⟩)
  obtain ⟨u, eu, i1, i2⟩ := pt_i g1
  have i1 : x = u.1 := i1
  have Fu := fun c k q => (ff_X7_change nn) _ eu c k q
  obtain ⟨⟨a1', a2', a3'⟩, R, th, Bf, nf, E, VW⟩ := w5
  have E' := E
  obtain ⟨⟨p1, p2, p3⟩, -⟩ := E'
  obtain ⟨q0, Bg, C, TB, e3, NK, K⟩ := pt_2 hn VM SI J E cm r1 r2 r3 eu V1 (fun x k x1 x2 => R1 x k (by omega) (by omega)) (R1 160 98 (by omega) (by omega)) g2
  have q1 : x = y := i1.trans q0
  have G := chg_f hn VM SI J eu
  have h1 : ∀ c k : Nat, ¬ (c = 143 ∧ 1 ≤ k ∧ k ≤ 7) → M1 c k = u.2 c k := fun c k q => by
    rcases i2 with ⟨-, e⟩ | ⟨-, e⟩
    · have e : M1 = u.2 := e
      rw [e]
    · exact (fg_5 e).2 c k q
  have lo : ∀ c k : Nat, c < 160 ∨ 256 ≤ c → M2 c k = M1 c k := fun c k q => F2 c k (nw_cls rfl q)
  have lu : ∀ c k : Nat, c < 160 ∨ 256 ≤ c → ¬ (c = 143 ∧ 1 ≤ k ∧ k ≤ 7) → M2 c k = u.2 c k := fun c k q q2 => (lo c k q).trans (h1 c k q2)
  have z3 : M2 56 3 = u.2 56 3 := lu 56 3 (by omega) (by omega)
  have z4 : M2 56 4 = u.2 56 4 := lu 56 4 (by omega) (by omega)
  have r6 : ∀ k : Nat, k = 123 ∨ k = 124 ∨ k = 125 ∨ (139 ≤ k ∧ k ≤ 143) ∨ k = 149 ∨ k = 9 ∨ k = 10 ∨ k = 93 → M2 160 k = M 160 k := fun k hk => by
    refine Eq.trans (F2 160 k ?_) (R1 160 k (by omega) (by omega))
    have all : ∀ k ∈ [123, 124, 125, 139, 140, 141, 142, 143, 149, 9, 10, 93], nw_F wl_X13_patch wf_X13_patch false false 160 k = true := by decide
    exact all k (by simp only [List.mem_cons, List.not_mem_nil, or_false]; omega)
  have c127 : ∀ k : Nat, M2 127 k = M 127 k := fun k => (lu 127 k (by omega) (by omega)).trans (Fu 127 k (nw_ar rfl k))
  have SP : SPE Bg nf M2 := by
    refine ⟨⟨by rw [z3]; exact e3.symm, gF_56_3 V2, ?_⟩, csp_b V2 (fun c k q1 q2 q3 => lu c k q1 (by omega)) C, TB, by rw [z3]; exact NK⟩
    rw [z4]
    rcases K with ⟨-, -, k1, k2, -⟩ | ⟨-, k1, k2, -⟩
    · have k2 : M2 160 99 = M1 160 99 := k2
      rw [k1, k2, ← p3]; exact R1 160 99 (by omega) (by omega)
    · have k2 : M2 160 99 = 0 := k2
      rw [k1, k2]
  have WH : wh_R M2 := ⟨by rw [r6 123 (by omega), c127]; exact a1', by rw [r6 124 (by omega), c127]; exact a2', by rw [r6 125 (by omega), c127]; exact a3'⟩
  have t20 : M2 143 20 = 0 := ((lu 143 20 (by omega) (by omega)).trans (Fu 143 20 rfl)).trans th
  have lw : ∀ c k : Nat, c < 56 → M2 c k = M c k := fun c k q => (lu c k (by omega) (by omega)).trans (chg_k VM J eu c k q)
  have im : ∀ c k : Nat, (∀ j : Nat, (j : Int) < M 56 3 → ¬ c = (M (M 60 j).toNat 0).toNat) → 256 ≤ c → M2 c k = M c k := fun c k q q2 => by
    rw [lu c k (by omega) (by omega)]
    rcases G with ⟨-, G⟩ | ⟨-, j0, hj, G, -⟩
    · exact G c k (by omega)
    · exact G c k (by omega) (q j0 hj) (by omega) (by omega) (by omega) (by omega)
  have ow : ∀ j : Nat, (j : Int) < M 56 3 → 0 ≤ M (M 60 j).toNat 0 ∧ (M (M 60 j).toNat 0).toNat < cn_M M := fun j hj => by
    have b := (vi_b VM (VM.2.2.2.2.1 j (by omega)).2).1
    exact ⟨b.1, b.2.1⟩
  have big : ∀ k : Nat, M2 900001 k = M 900001 k := fun k => im 900001 k (fun j hj => by have := (ow j hj).2; omega) (by omega)
  have cnk : cn_M M2 = cn_M M := by unfold cn_M; rw [im 900000 0 (fun j hj => by have := (ow j hj).2; omega) (by omega)]
  have IM : im_R M2 := by
    obtain ⟨x1, x2, x3⟩ := w4
    have e7 : M2 0 7 = M 0 7 := lw 0 7 (by omega)
    have R2 : ∀ k : Nat, M2 221 k = M 221 k ∧ M2 222 k = M 222 k := fun k => ⟨(F2 221 k (nw_ar rfl k)).trans (R1 221 k (by omega) (by omega)), (F2 222 k (nw_ar rfl k)).trans (R1 222 k (by omega) (by omega))⟩
    refine ⟨by rw [r6 93 (by omega), e7]; exact x1, by rw [e7]; exact x2, fun k hk => ?_⟩
    rw [e7] at hk
    obtain ⟨⟨y1, y2⟩, y3, y4, y5⟩ := x3 k hk
    rw [lw 55 k (by omega), (R2 k).2, cnk, big]
    refine ⟨⟨y1, y2⟩, y3, y4, fun i hi => ?_⟩
    rw [(R2 _).1, im _ i (fun j hj q => (w6 j hj k (by omega)).2 (by have := (ow j hj).1; omega)) (by omega)]
    exact y5 i hi
  have DD : DJ M2 := fun j hj c hc8 => by
    rw [lw 43 c (by omega), lw 55 c (by omega)]
    have o1 : M2 (M2 60 j).toNat 0 = u.2 (u.2 60 j).toNat 0 := by
      have id := im_at (V2.2.2.2.2.1 j (by have := gF_56_3 V2; omega)).2
      have e60 : M2 60 j = u.2 60 j := lu 60 j (by omega) (by omega)
      rw [lu _ 0 (by omega) (by omega), e60]
    rw [o1]
    have ds : ∀ j : Nat, j < 8 → ((M 60 j).toNat < (M 56 2).toNat ∨ (M 56 2).toNat + 6 < (M 60 j).toNat) ∧ (61 ≤ (M 60 j).toNat ∧ (M 60 j).toNat ≤ 153) := fun j hj => by
      have hd := VM.2.2.2.2.1 j hj
      have ne : (M 60 j).toNat ≠ (M 56 2).toNat := fun q => SI.2.2 j hj (by omega)
      have id := im_at hd.2
      exact ⟨(im_dis hb hd.2 ne).1, by omega⟩
    rcases G with ⟨-, G⟩ | ⟨-, j0, hj0, G, G60, G0⟩
    · have e3' : u.2 56 3 = M 56 3 := G 56 3 (by omega)
      have d := ds j (by omega)
      rw [G 60 j (by omega), G _ 0 d.1]
      exact w6 j (by omega) c hc8
    · have e3' : u.2 56 3 = M 56 3 := G 56 3 (by omega) (by have := (J j0 hj0).1; omega) (by omega) (by omega) (by omega) (by omega)
      by_cases q : j = j0
      · rw [q, G60, G0]; exact w6 j0 hj0 c hc8
      · have d := ds j (by omega)
        have n0 := (J j0 hj0).1
        rw [G 60 j (by omega) (by omega) (by omega) (by omega) (by omega) (by omega), G _ 0 d.1 (by omega) (by omega) (by omega) (by omega) (by omega)]
        exact w6 j (by omega) c hc8
  have RN : rn_R M2 ∧ ∃ (Bf : Nat → Nat → Int) (nf : Nat → Nat), SPE Bf nf M2 ∧ VRw Bf nf M2 := by
    rcases K with ⟨rfl, kf, k1, k2, k3⟩ | ⟨kf, k1, k2, k3⟩
    · have G := (G.resolve_right (fun q => by omega)).2
      have e1 : M1 = u.2 := (i2.resolve_right (fun q => q.1 kf)).2
      have c143 : ∀ c k : Nat, 143 ≤ c → c ≤ 152 → M2 c k = M c k := fun c k q1 q2 => by
        rw [lo c k (by omega), e1]; exact Fu c k (by
          have : c = 143 ∨ c = 144 ∨ c = 145 ∨ c = 146 ∨ c = 147 ∨ c = 148 ∨ c = 149 ∨ c = 150 ∨ c = 151 ∨ c = 152 := by omega
          rcases this with rfl | rfl | rfl | rfl | rfl | rfl | rfl | rfl | rfl | rfl <;> exact nw_ar rfl k)
      have c68 : ∀ c k : Nat, 68 ≤ c → c ≤ 70 → M2 c k = M c k := fun c k q1 q2 => by
        rw [lo c k (by omega), e1]; exact Fu c k (by
          have : c = 68 ∨ c = 69 ∨ c = 70 := by omega
          rcases this with rfl | rfl | rfl <;> exact nw_ar rfl k)
      have D : ∀ c k : Nat, 246 ≤ c → c < 256 → M2 c k = M c k := fun c k q1 q2 => (F2 c k (nw_rng (lo := 246) (hi := 255) rfl ⟨q1, by omega⟩)).trans (R1 c k (by omega) (by omega))
      have D6 : ∀ k : Nat, (138 ≤ k ∧ k ≤ 143) ∨ k = 149 → M2 160 k = M 160 k := fun k q => by
        by_cases q8 : k = 138
        · rw [q8]
          have k3 : M2 160 138 = M1 160 138 := k3
          rw [k3]; exact R1 160 138 (by omega) (by omega)
        · exact r6 k (by omega)
      have m3 : M2 56 3 = M 56 3 := z3.trans (G 56 3 (by omega))
      exact ⟨rn_fr c143 D D6 R, _, _, SP, vrw_f2 m3 (z4.trans k1) c68 c143 (fun k => (lu 60 k (by omega) (by omega)).trans (G 60 k (by omega))) D D6 VW⟩
    · have e1 := (i2.resolve_left (fun q => by omega)).2
      have b := (fg_5 e1).1
      have l : ∀ k : Nat, M2 143 k = M1 143 k := fun k => lo 143 k (by omega)
      refine ⟨rn_0 k3 (by rw [l, l, l, l, l, l, l]; exact b), Bg, nf, SP, fun q => absurd (z4.trans k1) q, .inl ((l 1).trans b.1), fun q => ?_⟩
      rw [l 1] at q
      have b1 : M1 143 1 = 0 := b.1
      rw [b1] at q
      exact absurd q (by decide)
  exact ⟨x, M1, M2, g1, by rw [q1]; exact g2, V', kB_e w2 (fun k => lw 6 k (by omega)) (fun k => lw 7 k (by omega)) (fun k => lw 8 k (by omega)) (fun k => lw 10 k (by omega)), ft_fr (lw 2 11 (by omega)) (lw 2 12 (by omega)) (r6 9 (by omega)) (r6 10 (by omega)) w3, IM, ⟨WH, RN.1, t20, RN.2⟩, DD⟩
end

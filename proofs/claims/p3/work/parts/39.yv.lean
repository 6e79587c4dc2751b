theorem si_read {nn a1 : Nat} {a2 : Int} {h : ms_M} {r : Int × ms_M} (hn : 1000000 ≤ nn) (V : VS_ h) (S : SI_ h) (ta : a1 < cn_M h ∧ ly_T a1 = 1) (ha : 0 ≤ a2 ∧ a2 ≤ 6000) (e : qf_X3_read nn (h 56 2).toNat a1 a2 h = some r) : SI_ r.2 ∧ (r.1 = -1 → IG_ r.2 (h 56 2).toNat) ∧ r.2 56 2 = h 56 2 ∧ (∀ k, r.2 60 k = h 60 k) := by
  have hb := (vi_r V).1.2
  have h0 := (vi_r V).1.1
  have hf := im_at hb
  have F := (of_X3_read nn hb) _ e
  have f60 : ∀ k, r.2 60 k = h 60 k := fun k => F 60 k (by show _ ∨ _; omega)
  have f56 : r.2 56 2 = h 56 2 := F 56 2 (by show _ ∨ _; omega)
  refine ⟨⟨fun k hk => ?_, fun j k hj hk hne => ?_, fun k hk => ?_⟩, ig_read hn V hb ta ha e, f56, f60⟩
  · rw [f60]
    have hd := V.2.2.2.2.1 k hk
    have hne : (h 60 k).toNat ≠ (h 56 2).toNat := by have := S.2.2 k hk; omega
    have hdis := im_dis hb hd.2 hne
    exact ig_eq (S.1 k hk) (F _ _ hdis.1) (fun i => F _ _ hdis.2)
  · rw [f60, f60]; exact S.2.1 j k hj hk hne
  · rw [f60, f56]; exact S.2.2 k hk
theorem sw_i {nn : Nat} {a1 : Int} {h r : ms_M} (e : qf_X7_swapSpare nn a1 h = some r) : (0 ≤ a1 ∧ a1 < 8) ∧ r = up_M (up_M h 60 a1.toNat (h 56 2)) 56 2 (h 60 a1.toNat) := by
  unfold qf_X7_swapSpare at e
  unfold rd_A at e
  split at e
  · rename_i q
    obtain ⟨g, e⟩ := ck_i e
    unfold wr_QI at e
    split at e
    · unfold wr_R at e
      split at e
      · cases e
        refine ⟨q, ?_⟩
        rw [show (((h 56 2).toNat : Nat) : Int) = h 56 2 by omega]
      · cases e
    · cases e
  · cases e
theorem si_swap {nn : Nat} {a1 : Int} {h r : ms_M} (V : VS_ h) (S : SI_ h) (I : IG_ h (h 56 2).toNat) (e : qf_X7_swapSpare nn a1 h = some r) : SI_ r := by
  obtain ⟨ha, e⟩ := sw_i e
  have hs := (vi_r V).1
  have fb : ∀ b, kc_O b = 3 → r b 12 = h b 12 ∧ ∀ k, r (b + 6) k = h (b + 6) k := by
    intro b hb
    have := im_at hb
    rw [e]
    exact ⟨by rw [up_n (by omega), up_n (by omega)], fun k => by rw [up_n (by omega), up_n (by omega)]⟩
  have f60 : ∀ k, k ≠ a1.toNat → r 60 k = h 60 k := fun k hk => by rw [e, up_n (by omega), up_n (by omega)]
  have f61 : r 60 a1.toNat = h 56 2 := by rw [e, up_n (by omega), up_s]
  have f56 : r 56 2 = h 60 a1.toNat := by rw [e, up_s]
  refine ⟨fun k hk => ?_, fun j k hj hk hne => ?_, fun k hk => ?_⟩
  · by_cases q : k = a1.toNat
    · rw [q, f61]
      have := fb _ hs.2
      exact ig_eq I this.1 this.2
    · rw [f60 k q]
      have := fb _ (V.2.2.2.2.1 k hk).2
      exact ig_eq (S.1 k hk) this.1 this.2
  · by_cases q : j = a1.toNat
    · rw [q, f61, f60 k (by omega)]
      exact fun z => S.2.2 k hk z.symm
    · by_cases q2 : k = a1.toNat
      · rw [q2, f61, f60 j q]; exact S.2.2 j hj
      · rw [f60 j q, f60 k q2]; exact S.2.1 j k hj hk hne
  · rw [f56]
    by_cases q : k = a1.toNat
    · rw [q, f61]; exact fun z => S.2.2 a1.toNat (by omega) z.symm
    · rw [f60 k q]; exact S.2.1 k a1.toNat hk (by omega) q
theorem si_up {M : ms_M} {c k : Nat} {v : Int} (V : VS_ M) (S : SI_ M) (hc : c ≠ 60 ∧ (c ≠ 56 ∨ k ≠ 2) ∧ (c < 61 ∨ (67 < c ∧ c < 71) ∨ (126 < c ∧ c < 136) ∨ (142 < c ∧ c < 153) ∨ 159 < c)) : SI_ (up_M M c k v) := by
  refine si_eq V S (fun j => up_n (by omega)) (up_n (by omega)) (fun b hb => ?_)
  have := im_at hb
  exact ⟨up_n (by omega), fun j => up_n (by omega)⟩
theorem si_relate {nn : Nat} {h r : ms_M} (V : VS_ h) (S : SI_ h) (e : qf_X7_relate nn h = some r) : SI_ r := si_fr V S (fun c k z => (ff_X7_relate nn) _ e c k z) rfl
theorem si_bring {nn a1 : Nat} {a2 : Int} {h : ms_M} {r : Int × ms_M × Nat × Nat} (hn : 1000000 ≤ nn) (V : VS_ h) (S : SI_ h) (ta : a1 < cn_M h ∧ ly_T a1 = 1) (ha : 0 ≤ a2 ∧ a2 ≤ 6000) (hc : h 900000 0 < 700000) (e : qf_X7_bring nn a1 a2 h = some r) : SI_ r.2.1 := by
  unfold qf_X7_bring at e
  obtain ⟨-, e⟩ := ck_i e
  obtain ⟨hb, e⟩ := ck_i e
  obtain ⟨u3, e3, e⟩ := sv_i e
  have R := si_read hn V S ta ha e3
  have V3 := okof (vf_X3_read hn hb (by omega) (by omega) V ta ha) e3
  split at e
  · obtain ⟨-, e⟩ := ck_i e
    obtain ⟨hb3, e⟩ := ck_i e
    split at e
    · cases e; exact R.1
    · obtain ⟨-, e⟩ := ck_i e
      obtain ⟨-, e⟩ := ck_i e
      obtain ⟨u10, e10, e⟩ := sv_i e
      obtain ⟨-, e⟩ := ck_i e
      obtain ⟨u13, e13, e⟩ := sv_i e
      obtain ⟨u15, e15, e⟩ := sv_i e
      split at e
      · obtain ⟨-, e⟩ := ck_i e
        obtain ⟨u18, e18, e⟩ := sv_i e
        have z9 : u3.2 900000 0 = h 900000 0 := by
          have hf := im_at hb
          exact (of_X3_read nn hb) _ e3 900000 0 (by show _ ∨ _; omega)
        have K := okof (vf_X3_keepOwn hb3 V3.1 (by omega)) e18
        have S18 : SI_ u18.1 := by
          refine si_eq V3.1 R.1 (fun j => K.2.2.1 _ _ (by decide) (by rintro ⟨z, -⟩; rw [← z] at hb3; cases hb3)) (K.2.2.1 _ _ (by decide) (by rintro ⟨z, -⟩; rw [← z] at hb3; cases hb3)) (fun b hbb => ?_)
          have := im_at hbb
          exact ⟨K.2.2.1 _ _ (by omega) (by omega), fun j => K.2.2.1 _ _ (by omega) (by rintro ⟨z, z2⟩; have := im_at hb3; omega)⟩
        have s18 : u18.1 56 2 = u3.2 56 2 := K.2.2.1 _ _ (by decide) (by rintro ⟨z, -⟩; rw [← z] at hb3; cases hb3)
        have I18 : IG_ u18.1 (u18.1 56 2).toNat := by
          rw [s18, R.2.2.1]
          have := im_at hb
          refine ig_eq (R.2.1 (by assumption)) (K.2.2.1 _ _ (by omega) (by omega)) (fun j => K.2.2.1 _ _ (by omega) (by rintro ⟨z, z2⟩; have := im_at hb3; omega))
        obtain ⟨u21, e21, e⟩ := sv_i e
        have S21 := si_swap K.1 S18 I18 e21
        have i21 := sw_i e21
        have V21 := okof (vf_X7_swapSpare i21.1.1 (by omega) K.1) e21
        rw [xl_eq, xl_eq] at e
        obtain ⟨u26, e26, e⟩ := sv_i e
        rw [xl_eq, xl_eq] at e
        cases e
        have g3 := gF_56_3 V21
        have t3 : u21 56 3 = u18.1 56 3 := by rw [i21.2, up_n (by omega), up_n (by omega)]
        have t4 : u18.1 56 3 = u3.2 56 3 := K.2.2.1 _ _ (by decide) (by rintro ⟨z, -⟩; rw [← z] at hb3; cases hb3)
        have V24 : VS_ (up_M u21 56 3 (oq_add (u21 56 3) 1)) := by
          rw [oq_add_eq (by omega) (by omega) (by omega)]
          exact wF_56_3 V21 (by omega)
        exact si_relate V24 (si_up V21 S21 (by omega)) e26
      · cases e; exact R.1
  · rw [xl_eq] at e
    have e := Option.some.inj e
    rw [← e]; exact R.1
theorem si_wt {c : Nat} {k : Nat} {v : Int} {M : ms_M} (V : VS_ M) (S : SI_ M) (hc : ly_T c = 1) : SI_ (up_M M c k v) := by
  have n0 : c ≠ 60 := by rintro rfl; cases hc
  have n1 : c ≠ 56 := by rintro rfl; cases hc
  refine si_eq V S (fun j => up_n (by omega)) (up_n (by omega)) (fun b hb => ?_)
  have n2 : b ≠ c := by rintro rfl; have := T_img hb; omega
  have n3 : b + 6 ≠ c := by rintro rfl; have := T_arr hb (off := 6) (by decide); omega
  exact ⟨up_n (by omega), fun j => up_n (by omega)⟩
theorem wti_ {α : Type} {M : ms_M} {r : α} {c : Nat} {j v : Int} {G : ms_M → Option α} (e : wr_T c j v M G = some r) : ((c < cn_M M ∧ ly_T c = 1) ∧ 0 ≤ j ∧ j < ln_I M c) ∧ G (up_M M c j.toNat (oq_b v)) = some r := by
  unfold wr_T at e; split at e
  · rename_i q; exact ⟨q, e⟩
  · cases e
theorem vs_wt {c : Nat} {j v : Int} {h : ms_M} (V : VS_ h) (hc : (c < cn_M h ∧ ly_T c = 1) ∧ 0 ≤ j ∧ j < ln_I h c) : VS_ (up_M h c j.toNat (oq_b v)) := by
  have k : Ok_ (wr_T c j v h some) QV_ := ok_wT V hc.1 hc.2 (fun z _ Vz => ok_rV Vz)
  refine okof k ?_
  unfold wr_T; rw [if_pos hc]
theorem si_change {nn : Nat} {a1 a2 a3 : Int} {h : ms_M} {r : Int × ms_M} (hn : 1000000 ≤ nn) (V : VS_ h) (S : SI_ h) (e : qf_X7_change nn a1 a2 a3 h = some r) : SI_ r.2 := by
  unfold qf_X7_change at e
  obtain ⟨u4, e4, e⟩ := sv_i e
  split at e
  · cases e; exact S
  · split at e
    · cases e; exact S
    · obtain ⟨hb, e⟩ := ck_i e
      split at e
      · obtain ⟨u9, e9, e⟩ := sv_i e
        obtain ⟨-, e⟩ := ck_i e
        have e := rt_i e
        rw [xl_eq] at e
        obtain ⟨hw, e⟩ := wti_ e
        have V13 : VS_ (up_M h u9.toNat a2.toNat (oq_b (oq_b a3))) := vs_wt V hw
        have S13 : SI_ (up_M h u9.toNat a2.toNat (oq_b (oq_b a3))) := si_wt V S hw.1.2
        have c13 : cn_M (up_M h u9.toNat a2.toNat (oq_b (oq_b a3))) = cn_M h := cn_up (by have := V.2.1.1; have := hw.1.1; unfold cn_M at this; omega)
        generalize up_M h u9.toNat a2.toNat (oq_b (oq_b a3)) = h13 at *
        obtain ⟨-, e⟩ := ck_i e
        obtain ⟨hb13, e⟩ := ck_i e
        obtain ⟨u17, e17, e⟩ := sv_i e
        have g1 := gI_1 V13 hb
        have t9 : u9.toNat < cn_M h13 ∧ ly_T u9.toNat = 1 := ⟨by rw [c13]; exact hw.1.1, hw.1.2⟩
        have R := si_read hn V13 S13 t9 (by omega) e17
        have V17 := okof (vf_X3_read hn hb13 (by omega) (by omega) V13 t9 (by omega)) e17
        have back : ∀ {v : Int} {r : Int × ms_M}, qj_X7_change_72 nn a2 ((u9.toNat : Nat) : Int) v u17.2 = some r → SI_ r.2 := by
          intro v r e
          unfold qj_X7_change_72 at e
          obtain ⟨-, e⟩ := ck_i e
          obtain ⟨hw2, e⟩ := wti_ e
          cases e
          exact si_wt V17.1 R.1 hw2.1.2
        split at e
        · exact back e
        · obtain ⟨u19, e19, e⟩ := sv_i e
          split at e
          · rw [xl_eq] at e
            obtain ⟨u22, e22, e⟩ := sv_i e
            obtain ⟨u24, e24, e⟩ := sv_i e
            cases e
            have q : u17.1 = -1 := Decidable.not_not.1 (by assumption)
            have I17 : IG_ u17.2 (u17.2 56 2).toNat := by rw [R.2.2.1]; exact R.2.1 q
            have S22 := si_swap V17.1 R.1 I17 e22
            have i22 := sw_i e22
            have V22 := okof (vf_X7_swapSpare i22.1.1 (by omega) V17.1) e22
            exact si_relate V22 S22 e24
          · exact back e
      · cases e; exact S
/-- marks are below 0 as far as the code goes; every frame that was taken has counts that are not below 0, and marks name only such -/
def MN_ (M : ms_M) : Prop := ∀ q : Nat, (q : Int) < M 127 16 → M 132 q < 0
def MF_ (f : Int) (M : ms_M) : Prop := (∀ q : Nat, (q : Int) < M 127 16 → M 132 q < f) ∧ (∀ i : Nat, (i : Int) < f → 0 ≤ M 133 (64 * i + 1) ∧ 0 ≤ M 133 (64 * i + 2))
theorem ws_i {α : Type} {M : ms_M} {r : α} {c : Nat} {j v : Int} {G : ms_M → Option α} (e : wr_S c j v M G = some r) : G (up_M M c j.toNat v) = some r := by
  unfold wr_S at e; split at e
  · exact e
  · cases e
theorem fr_10 {nn c : Nat} {v b : Int} (hb : b ≤ 100000) : ∀ (k : Nat) (a : Nat) {h r : ms_M}, qw_J7_fill_fda19_10 nn k c b v (a : Int) h = some r → (∀ q : Nat, q < a → r c q = h c q) ∧ (∀ q : Nat, a ≤ q → (q : Int) < b → r c q = v) := by
  intro k
  induction k with
  | zero => intro a h r e; cases e
  | succ k ih =>
    intro a h r e
    unfold qw_J7_fill_fda19_10 at e
    split at e
    · cases e; exact ⟨fun _ _ => rfl, fun q h1 h2 => by omega⟩
    · have e := ws_i e
      rw [xl_eq, oq_add_eq (by omega) (by omega) (by omega)] at e
      have e : qw_J7_fill_fda19_10 nn k c b v ((a + 1 : Nat) : Int) (up_M h c (a : Int).toNat v) = some r := e
      have := ih (a + 1) e
      refine ⟨fun q hq => ?_, fun q h1 h2 => ?_⟩
      · rw [this.1 q (by omega), up_n (by omega)]
      · by_cases z : q = a
        · rw [this.1 q (by omega), z]; exact up_s
        · exact this.2 q (by omega) h2
theorem fr_v {nn c : Nat} {v b : Int} {h r : ms_M} (hb : b ≤ 100000) (e : qf_J7_fill_fda19 nn c 0 b v h = some r) : ∀ q : Nat, (q : Int) < b → r c q = v := by
  unfold qf_J7_fill_fda19 ln_S at e
  split at e
  · obtain ⟨w, e1, e⟩ := sv_i e
    have e : qw_J7_fill_fda19_10 nn nn c b v ((0 : Nat) : Int) h = some r := e
    exact fun q hq => (fr_10 hb nn 0 e).2 q (by omega) hq
  · cases e
theorem mn_33 {nn : Nat} : ∀ (k : Nat) (l1 : Int) {h : ms_M} {r : Int × ms_M}, MN_ h → qw_X11_proveInstructions_33 nn k l1 h = some r → MN_ r.2 := by
  intro k
  have bad : ∀ {l1 : Int} {h : ms_M} {r : Int × ms_M}, MN_ h → qj_X11_proveInstructions_64 nn l1 h = some r → MN_ r.2 := by
    intro l1 h r m e
    unfold qj_X11_proveInstructions_64 at e
    obtain ⟨w, e1, e⟩ := sv_i e
    unfold qf_X11_at at e1
    rw [xl_eq] at e1
    cases e1; cases e
    intro q hq
    have hq : (q : Int) < up_M h 127 7 l1 127 16 := hq
    rw [up_n (by omega)] at hq
    show up_M h 127 7 l1 132 q < 0
    rw [up_n (by omega)]; exact m q hq
  induction k with
  | zero => intro l1 h r m e; cases e
  | succ k ih =>
    intro l1 h r m e
    unfold qw_X11_proveInstructions_33 at e
    split at e
    · cases e; exact m
    · obtain ⟨u5, e5, e⟩ := sv_i e
      obtain ⟨u6, e6, e⟩ := sv_i e
      split at e
      · exact bad m e
      · rw [xl_eq] at e
        split at e
        · have e := wa_i e
          rw [xl_eq] at e
          refine ih _ ?_ e
          intro q hq
          rw [up_n (by omega)] at hq
          by_cases z : q = l1.toNat
          · rw [z, up_s]; decide
          · rw [up_n (by omega)]; exact m q hq
        · exact bad m e
theorem mn_pi {nn : Nat} {h : ms_M} {r : Int × ms_M} (V : VS_ h) (e : qf_X11_proveInstructions nn h = some r) : MN_ r.2 := by
  unfold qf_X11_proveInstructions at e
  obtain ⟨u, e1, e⟩ := sv_i e
  rw [xl_eq, xl_eq] at e
  obtain ⟨w, e2, e⟩ := sv_i e
  have hb : up_M h 127 16 (if 1500 < u then 1500 else u) 127 16 ≤ 100000 := by rw [up_s]; split <;> omega
  have f := fr_v hb e2
  have g : w 127 16 = up_M h 127 16 (if 1500 < u then 1500 else u) 127 16 := (ff_J7_fill_fda19 nn) _ e2 127 16 (show 127 ≠ 132 by decide)
  refine mn_33 _ _ ?_ e
  intro q hq
  rw [g] at hq
  rw [f q hq]; decide
theorem mn_eq {M N : ms_M} (h : MN_ M) (h1 : N 127 16 = M 127 16) (h2 : ∀ k, N 132 k = M 132 k) : MN_ N := by
  intro q hq
  rw [h1] at hq; rw [h2]; exact h q hq
theorem mf_eq {f : Int} {M N : ms_M} (h : MF_ f M) (h1 : N 127 16 = M 127 16) (h2 : ∀ k, N 132 k = M 132 k) (h3 : ∀ k, N 133 k = M 133 k) : MF_ f N := by
  refine ⟨fun q hq => ?_, fun i hi => ?_⟩
  · rw [h1] at hq; rw [h2]; exact h.1 q hq
  · rw [h3, h3]; exact h.2 i hi
theorem inf_eq {nn : Nat} {a : Int} {M N : ms_M} (V : VS_ M) (h5 : N 127 5 = M 127 5) (h6 : N 127 6 = M 127 6) (hI : ∀ c k, is_I c = true → N c k = M c k) : qf_X11_info nn a N = qf_X11_info nn a M := by
  have hb := is_Ib (vi_r V).2.1.2
  unfold qf_X11_info qf_X3_of rd_A
  rw [h5, h6, hI _ 12 hb.1]
  have : N ((M 127 5).toNat + 6) = M ((M 127 5).toNat + 6) := funext (fun k => hI _ k hb.2)
  rw [this]
theorem t67_i {nn : Nat} {qkk : Int → Int → Int → Int → ms_M → Option (Int × ms_M)} {l2 l3 l4 l5 l6 : Int} {h : ms_M} {r : Int × ms_M} (e : qj_X11_takeTypes_67 nn qkk l2 l3 l4 l5 l6 h = some r) : ∃ x, qkk l2 l3 x (oq_add l5 1) h = some r := by
  unfold qj_X11_takeTypes_67 at e
  split at e <;> (unfold qj_X11_takeTypes_80 at e; rw [xl_eq, xl_eq] at e; exact ⟨_, e⟩)
theorem tt_17 {nn : Nat} {l2 l3 : Int} (h2 : 0 ≤ l2 ∧ l2 ≤ 6369) (h3 : l3 ≤ 255) : ∀ (k : Nat) (l4 l5 : Int) {h : ms_M} {r : Int × ms_M}, 0 ≤ l5 → qw_X11_takeTypes_17 nn k l2 l3 l4 l5 h = some r → ∀ c j : Nat, ¬ (c = 133 ∧ l2 ≤ (j : Int) ∧ (j : Int) < l2 + 30) → r.2 c j = h c j := by
  intro k
  induction k with
  | zero => intro l4 l5 h r g e; cases e
  | succ k ih =>
    intro l4 l5 h r g e c j hc
    unfold qw_X11_takeTypes_17 at e
    split at e
    · cases e; rfl
    · obtain ⟨-, e⟩ := ck_i e
      obtain ⟨-, e⟩ := ck_i e
      obtain ⟨u6, e6, e⟩ := sv_i e
      split at e
      · obtain ⟨x, e⟩ := t67_i e
        rw [oq_add_eq (by omega) (by omega) (by omega)] at e
        exact ih _ _ (by omega) e c j hc
      · rw [xl_eq] at e
        obtain ⟨-, e⟩ := ck_i e
        rw [xl_eq] at e
        obtain ⟨u12, e12, e⟩ := sv_i e
        obtain ⟨u14, e14, e⟩ := sv_i e
        have e := wa_i e
        obtain ⟨x, e⟩ := t67_i e
        rw [oq_add_eq (by omega) (by omega) (by omega)] at e
        rw [oq_add_eq (by omega) (by omega) (by omega)] at e
        rw [ih _ _ (by omega) e c j hc]
        exact up_n (by omega)
theorem tt_fr {nn : Nat} {a1 a2 : Int} {h : ms_M} {r : Int × ms_M} (hn : 1000000 ≤ nn) (V : VS_ h) (h1 : 0 ≤ a1 ∧ a1 ≤ 200010) (h2 : 0 ≤ a2 ∧ a2 ≤ 6369) (e : qf_X11_takeTypes nn a1 a2 h = some r) : ∀ c j : Nat, ¬ (c = 133 ∧ a2 ≤ (j : Int) ∧ (j : Int) < a2 + 30) → r.2 c j = h c j := by
  unfold qf_X11_takeTypes at e
  obtain ⟨-, e⟩ := ck_i e
  obtain ⟨hb, e⟩ := ck_i e
  obtain ⟨u, e1, e⟩ := sv_i e
  have q := okof (vf_X3_byteAt hn hb (by omega) (by omega) V) e1
  have q : 0 ≤ u ∧ u ≤ 255 := q
  rw [xl_eq] at e
  exact tt_17 h2 q.2 _ _ _ (by omega) e
theorem tf_9 {nn : Nat} (hn : 1000000 ≤ nn) {l1 u : Int} (hl : ¬ l1 = 0) : ∀ (k : Nat) (l2 : Int) (i : Nat) {h r : ms_M}, VS_ h → VG_ h → qf_X11_info nn 9 h = some u → MF_ (i : Int) h → ((i : Int) ≤ u ∨ i = 0) → (-1 ≤ l2 ∧ l2 ≤ 70000 + 1100 * (i : Int)) → qw_X11_takeFrames_9 nn k l1 l2 (i : Int) h = some r → MF_ u r ∧ qf_X11_info nn 9 r = some u := by
  intro k
  induction k with
  | zero => intro l2 i h r V N hu hm hi h2 e; cases e
  | succ k ih =>
    intro l2 i h r V N hu hm hi h2 e
    have L := lm_info V N (by omega) hu
    unfold qw_X11_takeFrames_9 at e
    rw [hu, mx_svs] at e
    split at e
    · cases e
      have : u = (i : Int) := by omega
      rw [this]; exact ⟨hm, by rw [← this]; exact hu⟩
    · try rw [if_neg hl] at e
      have i99 : i ≤ 99 := by omega
      rw [xl_eq, oq_mul_eq (by omega) (by omega) (by omega)] at e
      obtain ⟨-, e⟩ := ck_i e
      obtain ⟨hb, e⟩ := ck_i e
      obtain ⟨u6, e6, e⟩ := sv_i e
      have q6 := okof (vf_X3_pairAt hn hb (by omega) (by omega) V) e6
      have q6 : 0 ≤ u6 ∧ u6 ≤ 65535 := q6
      have e := wa_i e
      rw [show ((i : Int) * 64).toNat = 64 * i by omega] at e
      have V8 : VS_ (up_M h 133 (64 * i) u6) := wA_133 V (by omega)
      have f8 : ∀ c j, ¬ (c = 133 ∧ j = 64 * i) → up_M h 133 (64 * i) u6 c j = h c j := fun c j z => up_n z
      generalize up_M h 133 (64 * i) u6 = h8 at *
      rw [xl_eq, oq_add_eq (by omega) (by omega) (by omega)] at e
      obtain ⟨-, e⟩ := ck_i e
      rw [xl_eq, oq_add_eq (by omega) (by omega) (by omega)] at e
      obtain ⟨hb8, e⟩ := ck_i e
      obtain ⟨u14, e14, e⟩ := sv_i e
      have q14 := okof (vf_X3_byteAt hn hb8 (by omega) (by omega) V8) e14
      have q14 : 0 ≤ u14 ∧ u14 ≤ 255 := q14
      have e := wa_i e
      rw [show ((i : Int) * 64 + 1).toNat = 64 * i + 1 by omega] at e
      have V15 : VS_ (up_M h8 133 (64 * i + 1) u14) := wA_133 V8 (by omega)
      have f15 : ∀ c j, ¬ (c = 133 ∧ j = 64 * i + 1) → up_M h8 133 (64 * i + 1) u14 c j = h8 c j := fun c j z => up_n z
      have g15 : up_M h8 133 (64 * i + 1) u14 133 (64 * i + 1) = u14 := up_s
      generalize up_M h8 133 (64 * i + 1) u14 = h15 at *
      rw [xl_eq, xl_eq, oq_add_eq (by omega) (by omega) (by omega)] at e
      rw [oq_add_eq (by omega) (by omega) (by omega)] at e
      obtain ⟨u19, e19, e⟩ := sv_i e
      have Q19 := okof (vf_X11_takeTypes hn (by omega) (by omega) (by omega) (by omega) V15) e19
      have b19 : 0 ≤ u19.1 ∧ u19.1 ≤ 210000 := ⟨Q19.2.1, Q19.2.2.1⟩
      have r19 : u19.1 ≤ l2 + 2 + 511 := Q19.2.2.2
      have f19 := tt_fr hn V15 (by omega) (by omega) e19
      rw [xl_eq, oq_add_eq (by omega) (by omega) (by omega)] at e
      obtain ⟨-, e⟩ := ck_i e
      obtain ⟨hb19, e⟩ := ck_i e
      obtain ⟨u24, e24, e⟩ := sv_i e
      have q24 := okof (vf_X3_byteAt hn hb19 (by omega) (by omega) Q19.1) e24
      have q24 : 0 ≤ u24 ∧ u24 ≤ 255 := q24
      have e := wa_i e
      rw [show ((i : Int) * 64 + 2).toNat = 64 * i + 2 by omega] at e
      have V25 : VS_ (up_M u19.2 133 (64 * i + 2) u24) := wA_133 Q19.1 (by omega)
      have f25 : ∀ c j, ¬ (c = 133 ∧ j = 64 * i + 2) → up_M u19.2 133 (64 * i + 2) u24 c j = u19.2 c j := fun c j z => up_n z
      have g25 : up_M u19.2 133 (64 * i + 2) u24 133 (64 * i + 2) = u24 := up_s
      generalize up_M u19.2 133 (64 * i + 2) u24 = h25 at *
      rw [xl_eq, oq_add_eq (by omega) (by omega) (by omega)] at e
      obtain ⟨u28, e28, e⟩ := sv_i e
      have Q28 := okof (vf_X11_takeTypes hn (by omega) (by omega) (by omega) (by omega) V25) e28
      have b28 : 0 ≤ u28.1 ∧ u28.1 ≤ 210000 := ⟨Q28.2.1, Q28.2.2.1⟩
      have r28 : u28.1 ≤ u19.1 + 511 := Q28.2.2.2
      have f28 := tt_fr hn V25 (by omega) (by omega) e28
      have F : ∀ c j : Nat, ¬ (c = 133 ∧ 64 * i ≤ j) → u28.2 c j = h c j := fun c j z => by
        rw [f28 c j (by omega), f25 c j (by omega), f19 c j (by omega), f15 c j (by omega), f8 c j (by omega)]
      have G1 : u28.2 133 (64 * i + 1) = u14 := by rw [f28 _ _ (by omega), f25 _ _ (by omega), f19 _ _ (by omega), g15]
      have G2 : u28.2 133 (64 * i + 2) = u24 := by rw [f28 _ _ (by omega), g25]
      have N28 : VG_ u28.2 := vg_eq V N (F _ _ (by omega)) (fun c j z => F c j (by rintro ⟨rfl, -⟩; cases z))
      have U28 : qf_X11_info nn 9 u28.2 = some u := by rw [inf_eq V (F _ _ (by omega)) (F _ _ (by omega)) (fun c j z => F c j (by rintro ⟨rfl, -⟩; cases z))]; exact hu
      have M28 : MF_ ((i + 1 : Nat) : Int) u28.2 := by
        refine ⟨fun q hq => ?_, fun j hj => ?_⟩
        · rw [F _ _ (by omega)] at hq ⊢
          have := hm.1 q hq; omega
        · by_cases z : j = i
          · rw [z, G1, G2]; omega
          · rw [F _ _ (by omega), F _ _ (by omega)]; exact hm.2 j (by omega)
      have nx : ∀ {g : ms_M}, VS_ g → VG_ g → qf_X11_info nn 9 g = some u → MF_ ((i + 1 : Nat) : Int) g → qw_X11_takeFrames_9 nn k l1 u28.1 ((i : Int) + 1) g = some r → MF_ u r ∧ qf_X11_info nn 9 r = some u := by
        intro g Vg Ng Ug Mg eg
        exact ih u28.1 (i + 1) Vg Ng Ug Mg (by omega) (by omega) eg
      obtain ⟨u30, e30, e⟩ := sv_i e
      split at e
      · rw [xl_eq] at e
        exact nx Q28.1 N28 U28 M28 e
      · have e := rd_i e
        split at e
        · rw [xl_eq] at e
          exact nx Q28.1 N28 U28 M28 e
        · have e := wa_i e
          rw [xl_eq] at e
          have V36 : VS_ (up_M u28.2 132 u6.toNat (i : Int)) := wA_132 Q28.1 (by omega)
          refine nx V36 (vg_ua Q28.1 N28 rfl) ?_ ?_ e
          · rw [inf_eq Q28.1 (up_n (by omega)) (up_n (by omega)) (fun c j z => up_n (by rintro ⟨rfl, -⟩; cases z))]; exact U28
          · refine ⟨fun q hq => ?_, fun j hj => ?_⟩
            · rw [up_n (by omega)] at hq
              by_cases z : q = u6.toNat
              · rw [z, up_s]; omega
              · rw [up_n (by omega)]; exact M28.1 q hq
            · rw [up_n (by omega), up_n (by omega)]; exact M28.2 j hj
theorem tf_ok {nn : Nat} {a1 u : Int} {h r : ms_M} (hn : 1000000 ≤ nn) (V : VS_ h) (N : VG_ h) (hm : MN_ h) (ha : ¬ a1 = 0) (hu : qf_X11_info nn 9 h = some u) (e : qf_X11_takeFrames nn a1 h = some r) : MF_ u r ∧ qf_X11_info nn 9 r = some u := by
  unfold qf_X11_takeFrames at e
  obtain ⟨w, e1, e⟩ := sv_i e
  have q := okof (vf_X11_info hn (by omega) (by omega) V) e1
  have q : -1 ≤ w ∧ w ≤ 65535 := q
  have e : qw_X11_takeFrames_9 nn nn a1 w ((0 : Nat) : Int) h = some r := e
  exact tf_9 hn ha nn w 0 V N hu ⟨fun q hq => hm q hq, fun i hi => by omega⟩ (.inr rfl) (by omega) e
theorem pf_4 {nn : Nat} {u : Int} {h : ms_M} (V : VS_ h) (N : VG_ h) (hu : qf_X11_info nn 9 h = some u) : ∀ (k : Nat) (l1 : Int) (i : Nat) {r : Int × ms_M}, i ≤ 100 → (∀ j : Nat, j < i → h 133 (64 * j + 1) ≤ 30 ∧ h 133 (64 * j + 2) ≤ 30) → qw_X11_proveFrames_4 nn k l1 (i : Int) h = some r → r.1 = 0 → r.2 = h ∧ ∀ j : Nat, (j : Int) < u → h 133 (64 * j + 1) ≤ 30 ∧ h 133 (64 * j + 2) ≤ 30 := by
  have hU := lm_info V N (by omega) hu
  intro k
  induction k with
  | zero => intro l1 i r hi hj e; cases e
  | succ k ih =>
    intro l1 i r hi hj e
    have bad : ∀ {v : Int} {r : Int × ms_M} {q : Int → Int → ms_M → Option (Int × ms_M)}, qj_X11_proveFrames_115 nn q (i : Int) v h = some r → r.1 = 0 → False := by
      intro v r q e z
      unfold qj_X11_proveFrames_115 qj_X11_proveFrames_116 at e
      rw [if_neg (by omega)] at e
      obtain ⟨w, e1, e⟩ := sv_i e
      unfold qf_X11_at at e1
      rw [xl_eq] at e1
      cases e1; cases e; cases z
    unfold qw_X11_proveFrames_4 at e
    rw [hu, mx_svs] at e
    split at e
    · cases e; exact fun _ => ⟨rfl, fun j hj2 => hj j (by omega)⟩
    · have i99 : i ≤ 99 := by omega
      rw [xl_eq, oq_mul_eq (by omega) (by omega) (by omega)] at e
      have e := rd_i e
      obtain ⟨u13, e13, e⟩ := sv_i e
      split at e
      · exact fun z => (bad e z).elim
      · have e := rd_i e
        split at e
        · exact fun z => (bad e z).elim
        · rw [xl_eq, oq_add_eq (by omega) (by omega) (by omega)] at e
          have e := rd_i e
          obtain ⟨u20, e20, e⟩ := sv_i e
          split at e
          · exact fun z => (bad e z).elim
          · rw [xl_eq, oq_add_eq (by omega) (by omega) (by omega)] at e
            have e := rd_i e
            obtain ⟨u25, e25, e⟩ := sv_i e
            split at e
            · exact fun z => (bad e z).elim
            · have h20 := lm_info V N (by omega) e20
              have h25 := lm_info V N (by omega) e25
              rw [xl_eq, xl_eq] at e
              have e := rd_i e
              obtain ⟨u31, e31, e⟩ := sv_i e
              split at e
              · exact fun z => (bad e z).elim
              · rw [xl_eq, xl_eq] at e
                have e := rd_i e
                obtain ⟨u37, e37, e⟩ := sv_i e
                split at e
                · exact fun z => (bad e z).elim
                · unfold qj_X11_proveFrames_116 at e
                  rw [if_pos (by omega)] at e
                  have e := rd_i e
                  rw [xl_eq, oq_add_eq (by omega) (by omega) (by omega)] at e
                  refine ih _ (i + 1) (by omega) (fun j hj2 => ?_) e
                  by_cases z : j = i
                  · rw [z]
                    rw [show ((i : Int) * 64 + 1).toNat = 64 * i + 1 by omega] at *
                    rw [show ((i : Int) * 64 + 2).toNat = 64 * i + 2 by omega] at *
                    omega
                  · exact hj j (by omega)
theorem fb_pf {nn : Nat} {u : Int} {h : ms_M} {r : Int × ms_M} (V : VS_ h) (N : VG_ h) (hu : qf_X11_info nn 9 h = some u) (hm : MF_ u h) (e : qf_X11_proveFrames nn h = some r) (z : r.1 = 0) : r.2 = h ∧ FB_ h := by
  have e : qw_X11_proveFrames_4 nn nn (-1) ((0 : Nat) : Int) h = some r := e
  have R := pf_4 V N hu nn (-1) 0 (by omega) (fun j hj => by omega) e z
  refine ⟨R.1, fun q hq h0 => ?_⟩
  have hm1 := hm.1 q hq
  have a := hm.2 (h 132 q).toNat (by omega)
  have b := R.2 (h 132 q).toNat (by omega)
  rw [show (h 132 q * 64 + 1).toNat = 64 * (h 132 q).toNat + 1 by omega, show (h 132 q * 64 + 2).toNat = 64 * (h 132 q).toNat + 2 by omega]
  exact ⟨⟨a.1, b.1⟩, a.2, b.2⟩
def SV_ (M : ms_M) : Prop := SI_ M ∧ VG_ M
theorem sv_fr {M N : ms_M} {L : List Nat} {LF : List (Nat × Nat)} (V : VS_ M) (h : SV_ M) (F : ∀ c k, nw_F L LF false false c k = true → N c k = M c k) (hc : (((L.all (fun x => !(is_I x)) && LF.all (fun q => !(is_I q.1))) && (nw_F L LF false false 56 2 && (!(L.contains 60) && LF.all (fun q => !(Nat.beq q.1 60))))) && nw_F L LF false false 127 5) = true) : SV_ N := by
  rw [Bool.and_eq_true] at hc
  refine ⟨si_fr V h.1 F hc.1, vg_fr V h.2 F ?_⟩
  have h1 := hc.1
  rw [Bool.and_eq_true] at h1
  rw [Bool.and_eq_true]
  exact ⟨h1.1, hc.2⟩
theorem ti_i {nn : Nat} {a1 : Int} {h r : ms_M} (V : VS_ h) (ha : 8 ≤ a1 ∧ a1 < 8 + h 56 3) (e : qf_X11_takeImage nn a1 h = some r) : r = up_M h 127 5 (h 60 (a1 - 8).toNat) := by
  have g3 := gF_56_3 V
  unfold qf_X11_takeImage at e
  obtain ⟨u, e1, e⟩ := sv_i e
  unfold qf_X7_imageOf at e1
  rw [if_neg (by omega), xl_eq, oq_add_eq (by omega) (by omega) (by omega), if_neg (by omega), xl_eq, oq_sub_eq (by omega) (by omega) (by omega)] at e1
  have e1 := rd_i e1
  cases e1
  have g6 := V.2.2.2.2.1 (a1 - 8).toNat (by omega)
  rw [if_neg (by omega)] at e
  unfold wr_R at e
  split at e
  · cases e
    rw [show (((h 60 (a1 - 8).toNat).toNat : Nat) : Int) = h 60 (a1 - 8).toNat by omega]
  · cases e
theorem sv_ti {nn : Nat} {a1 : Int} {h r : ms_M} (V : VS_ h) (S : SI_ h) (ha : 8 ≤ a1 ∧ a1 < 8 + h 56 3) (e : qf_X11_takeImage nn a1 h = some r) : SV_ r := by
  have g3 := gF_56_3 V
  have z := ti_i V ha e
  have S2 : SI_ r := by rw [z]; exact si_up V S (by omega)
  refine ⟨S2, ?_⟩
  unfold VG_
  have t5 : r 127 5 = r 60 (a1 - 8).toNat := by rw [z, up_s, up_n (by omega)]
  rw [t5]
  exact S2.1 _ (by omega)
section
variable {nn : Nat} {N3 : Int} {q3 : Int → ms_M → Option (Int × ms_M)} {qk : Int → Int → ms_M → Option (Int × ms_M)} {l1 l2 : Int}
theorem vm_118 (hn : 1000000 ≤ nn) (r1 : 8 ≤ l1 ∧ l1 ≤ 15) (r2 : 0 ≤ l2 ∧ l2 ≤ 11) (hk : ∀ {g : ms_M}, VS_ g → SV_ g → g 56 3 = N3 → Ok_ (qk l1 (l2 + 1) g) (QI_ 0 12)) {s0 : Int} {h : ms_M} (rs : 0 ≤ s0 ∧ s0 ≤ 12) (V : VS_ h) (S : SV_ h) (n3 : h 56 3 = N3) : Ok_ (qj_X11_proveMethods_118 nn q3 qk l1 l2 s0 h) (QI_ 0 12) := by
  unfold qj_X11_proveMethods_118
  refine ok_if (fun C => ?_) (fun C => ?_)
  · refine ok_add (by omega) ?_; intro v1 e1
    rw [e1]; exact hk V S n3
  · have g := gF_127_7 V
    refine ok_cI (vf_X11_tellNumber hn (by omega) (by omega) (by omega) (by omega) (by omega) (by omega) (by omega) (by omega) V) ?_; intro u4 E4 V4 a4 b4
    exact ok_rI V4 (by omega) (by omega)
theorem vm_100 (hn : 1000000 ≤ nn) (r1 : 8 ≤ l1 ∧ l1 ≤ 15) (r2 : 0 ≤ l2 ∧ l2 ≤ 11) (hk : ∀ {g : ms_M}, VS_ g → SV_ g → g 56 3 = N3 → Ok_ (qk l1 (l2 + 1) g) (QI_ 0 12)) {s0 : Int} {h : ms_M} (rs : 0 ≤ s0 ∧ s0 ≤ 12) (V : VS_ h) (S : SV_ h) (n3 : h 56 3 = N3) (hf : s0 = 0 → FB_ h) : Ok_ (qj_X11_proveMethods_100 nn q3 qk l1 l2 s0 h) (QI_ 0 12) := by
  unfold qj_X11_proveMethods_100
  refine ok_cV (vf_X11_beginState hn (by omega) (by omega) V S.2) ?_; intro u7 E7 V7
  have S7 : SV_ u7 := sv_fr V S (fun c k z => (ff_X11_beginState nn) _ E7 c k z) rfl
  have m7 : u7 56 3 = h 56 3 := (ff_X11_beginState nn) _ E7 56 3 rfl
  refine ok_if (fun C => ?_) (fun C => ?_)
  · have F7 : VF_ u7 := vf_fr V ⟨S.2, hf C⟩ (fun c k z => (ff_X11_beginState nn) _ E7 c k z) rfl
    refine ok_cI (vf_X11_proveStates hn V7 F7) ?_; intro u9 E9 V9 a9 b9
    have S9 : SV_ u9.2 := sv_fr V7 S7 (fun c k z => (ff_X11_proveStates nn) _ E9 c k z) rfl
    have m9 : u9.2 56 3 = u7 56 3 := (ff_X11_proveStates nn) _ E9 56 3 rfl
    exact vm_118 hn r1 r2 hk ⟨a9, b9⟩ V9 S9 (by omega)
  · exact vm_118 hn r1 r2 hk rs V7 S7 (by omega)
theorem vm_87 (hn : 1000000 ≤ nn) (r1 : 8 ≤ l1 ∧ l1 ≤ 15) (r2 : 0 ≤ l2 ∧ l2 ≤ 11) (hk : ∀ {g : ms_M}, VS_ g → SV_ g → g 56 3 = N3 → Ok_ (qk l1 (l2 + 1) g) (QI_ 0 12)) {s0 : Int} {h : ms_M} (rs : 0 ≤ s0 ∧ s0 ≤ 12) (V : VS_ h) (S : SV_ h) (n3 : h 56 3 = N3) (hf : s0 = 0 → ∃ u, qf_X11_info nn 9 h = some u ∧ MF_ u h) : Ok_ (qj_X11_proveMethods_87 nn q3 qk l1 l2 s0 h) (QI_ 0 12) := by
  unfold qj_X11_proveMethods_87
  refine ok_if (fun C => ?_) (fun C => ?_)
  · refine ok_cI (vf_X11_proveFrames hn V S.2) ?_; intro u12 E12 V12 a12 b12
    have S12 : SV_ u12.2 := sv_fr V S (fun c k z => (ff_X11_proveFrames nn) _ E12 c k z) rfl
    have m12 : u12.2 56 3 = h 56 3 := (ff_X11_proveFrames nn) _ E12 56 3 rfl
    obtain ⟨u, hu, hm⟩ := hf C
    refine vm_100 hn r1 r2 hk ⟨a12, b12⟩ V12 S12 (by omega) (fun z => ?_)
    have R := fb_pf V S.2 hu hm E12 z
    rw [R.1]; exact R.2
  · exact vm_100 hn r1 r2 hk rs V S n3 (fun z => absurd z C)
theorem vm_72 (hn : 1000000 ≤ nn) (r1 : 8 ≤ l1 ∧ l1 ≤ 15) (r2 : 0 ≤ l2 ∧ l2 ≤ 11) (hk : ∀ {g : ms_M}, VS_ g → SV_ g → g 56 3 = N3 → Ok_ (qk l1 (l2 + 1) g) (QI_ 0 12)) {l3 s0 : Int} {h : ms_M} (rs : 0 ≤ l3 ∧ l3 ≤ 12) (r0 : 0 ≤ s0 ∧ s0 ≤ 1) (rz : l3 = 0 → ¬ s0 = 0) (V : VS_ h) (S : SV_ h) (n3 : h 56 3 = N3) (hm : MN_ h) : Ok_ (qj_X11_proveMethods_72 nn q3 qk l1 l2 l3 s0 h) (QI_ 0 12) := by
  unfold qj_X11_proveMethods_72
  refine ok_cV (vf_X11_takeFrames hn (by omega) (by omega) V S.2) ?_; intro u15 E15 V15
  have S15 : SV_ u15 := sv_fr V S (fun c k z => (ff_X11_takeFrames nn) _ E15 c k z) rfl
  have m15 : u15 56 3 = h 56 3 := (ff_X11_takeFrames nn) _ E15 56 3 rfl
  refine ok_if (fun C => ?_) (fun C => ?_)
  · obtain ⟨u, hu, -⟩ := vf_X11_info (a1 := 9) hn (by omega) (by omega) V
    have T := tf_ok hn V S.2 hm (rz C) hu E15
    refine ok_cI (vf_X11_proveHandlers hn V15) ?_; intro u17 E17 V17 a17 b17
    have S17 : SV_ u17.2 := sv_fr V15 S15 (fun c k z => (ff_X11_proveHandlers nn) _ E17 c k z) rfl
    have m17 : u17.2 56 3 = u15 56 3 := (ff_X11_proveHandlers nn) _ E17 56 3 rfl
    refine vm_87 hn r1 r2 hk ⟨a17, b17⟩ V17 S17 (by omega) (fun _ => ⟨u, ?_, ?_⟩)
    · rw [inf_eq V15 ((ff_X11_proveHandlers nn) _ E17 127 5 rfl) ((ff_X11_proveHandlers nn) _ E17 127 6 rfl) (fun c k z => (ff_X11_proveHandlers nn) _ E17 c k (nw_is rfl c k z))]; exact T.2
    · exact mf_eq T.1 ((ff_X11_proveHandlers nn) _ E17 127 16 rfl) (fun k => (ff_X11_proveHandlers nn) _ E17 132 k (nw_ar rfl k)) (fun k => (ff_X11_proveHandlers nn) _ E17 133 k (nw_ar rfl k))
  · exact vm_87 hn r1 r2 hk rs V15 S15 (by omega) (fun z => absurd z C)
theorem vm_61 (hn : 1000000 ≤ nn) (r1 : 8 ≤ l1 ∧ l1 ≤ 15) (r2 : 0 ≤ l2 ∧ l2 ≤ 11) (hk : ∀ {g : ms_M}, VS_ g → SV_ g → g 56 3 = N3 → Ok_ (qk l1 (l2 + 1) g) (QI_ 0 12)) {s0 : Int} {h : ms_M} (rs : 0 ≤ s0 ∧ s0 ≤ 12) (V : VS_ h) (S : SV_ h) (n3 : h 56 3 = N3) (hm : MN_ h) : Ok_ (qj_X11_proveMethods_61 nn q3 qk l1 l2 s0 h) (QI_ 0 12) := by
  unfold qj_X11_proveMethods_61
  refine ok_if (fun C => ?_) (fun C => ?_)
  · exact vm_72 hn r1 r2 hk rs (by omega) (fun z => absurd z C) V S n3 hm
  · exact vm_72 hn r1 r2 hk rs (by omega) (fun z => by omega) V S n3 hm
end
theorem vm_28 {nn : Nat} (hn : 1000000 ≤ nn) {q3 : Int → ms_M → Option (Int × ms_M)} {l1 N3 : Int} (r1 : 8 ≤ l1 ∧ l1 ≤ 15) (h3 : ∀ {g : ms_M}, VS_ g → SV_ g → g 56 3 = N3 → Ok_ (q3 (l1 + 1) g) (QI_ 0 12)) : ∀ (k : Nat) (l2 : Int) {h : ms_M}, (0 ≤ l2 ∧ l2 ≤ 12) → VS_ h → SV_ h → h 56 3 = N3 → 13 - l2 < (k : Int) → Ok_ (qw_X11_proveMethods_28 nn q3 k l1 l2 h) (QI_ 0 12) := by
  intro k
  induction k with
  | zero => intro l2 h r2 V S n3 hm; exfalso; omega
  | succ k ih =>
    intro l2 h r2 V S n3 hm
    unfold qw_X11_proveMethods_28
    have hb := (vi_r V).2.1
    refine ok_ck hb.1 ?_
    refine ok_ck hb.2 ?_
    have g12 := gI_12 V hb.2
    refine ok_if (fun C => ?_) (fun C => ?_)
    · refine ok_add (by omega) ?_; intro v e
      rw [e]; exact h3 V S n3
    · refine ok_xl ?_; intro h23 E23
      have V23 : VS_ h23 := by rw [E23]; exact wF_127_6 V (by omega)
      have S23 : SV_ h23 := by rw [E23]; exact ⟨si_up V S.1 (by omega), vg_up V S.2 rfl⟩
      have m23 : h23 56 3 = h 56 3 := by rw [E23]; exact up_n (by omega)
      have nx : ∀ {g : ms_M}, VS_ g → SV_ g → g 56 3 = N3 → Ok_ (qw_X11_proveMethods_28 nn q3 k l1 (l2 + 1) g) (QI_ 0 12) := fun Vg Sg n => ih (l2 + 1) (by omega) Vg Sg n (by omega)
      refine ok_cI (vf_X11_proveInstructions hn V23 S23.2) ?_; intro u25 E25 V25 a25 b25
      have S25 : SV_ u25.2 := sv_fr V23 S23 (fun c k z => (ff_X11_proveInstructions nn) _ E25 c k z) rfl
      have m25 : u25.2 56 3 = h23 56 3 := (ff_X11_proveInstructions nn) _ E25 56 3 rfl
      have M25 := mn_pi V23 E25
      refine ok_if (fun C2 => ?_) (fun C2 => ?_)
      · refine ok_cI (vf_X11_proveJumps hn V25) ?_; intro u27 E27 V27 a27 b27
        have S27 : SV_ u27.2 := sv_fr V25 S25 (fun c k z => (ff_X11_proveJumps nn) _ E27 c k z) rfl
        have m27 : u27.2 56 3 = u25.2 56 3 := (ff_X11_proveJumps nn) _ E27 56 3 rfl
        have M27 : MN_ u27.2 := mn_eq M25 ((ff_X11_proveJumps nn) _ E27 127 16 rfl) (fun k => (ff_X11_proveJumps nn) _ E27 132 k (nw_ar rfl k))
        exact vm_61 hn r1 (by omega) nx ⟨a27, b27⟩ V27 S27 (by omega) M27
      · exact vm_61 hn r1 (by omega) nx ⟨a25, b25⟩ V25 S25 (by omega) M25
theorem vm_3 {nn : Nat} (hn : 1000000 ≤ nn) : ∀ (k : Nat) (l1 : Int) {h : ms_M}, (8 ≤ l1 ∧ l1 ≤ 16) → VS_ h → SI_ h → 17 - l1 < (k : Int) → Ok_ (qw_X11_proveMethods_3 nn k l1 h) (QI_ 0 12) := by
  intro k
  induction k with
  | zero => intro l1 h r1 V S hm; exfalso; omega
  | succ k ih =>
    intro l1 h r1 V S hm
    unfold qw_X11_proveMethods_3
    have g3 := gF_56_3 V
    refine ok_add (by omega) ?_; intro v e
    refine ok_if (fun C => ok_rI V (by omega) (by omega)) (fun C => ?_)
    refine ok_cV (vf_X11_takeImage hn (by omega) (by omega) V) ?_; intro u34 E34 V34
    have S34 := sv_ti V S (by omega) E34
    refine ok_cV (vf_X11_takeConstants hn V34) ?_; intro u36 E36 V36
    have S36 : SV_ u36 := sv_fr V34 S34 (fun c k z => (ff_X11_takeConstants nn) _ E36 c k z) rfl
    exact vm_28 hn (N3 := u36 56 3) (by omega) (fun Vg Sg n => ih (l1 + 1) (by omega) Vg Sg.1 (by omega)) nn 0 (by omega) V36 S36 rfl (by omega)
theorem vf_X11_proveMethods {nn : Nat} (hn : 1000000 ≤ nn) {h : ms_M} (V : VS_ h) (S : SI_ h) : Ok_ (qf_X11_proveMethods nn h) (QI_ 0 12) := vm_3 hn nn 8 (by omega) V S (by omega)
theorem vj_X12_verify_33 {nn : Nat} (hn : 1000000 ≤ nn) {l1 s0 : Int} {h : ms_M} (r1 : 0 ≤ l1 ∧ l1 ≤ 12) (r0 : 0 ≤ s0 ∧ s0 ≤ 1) (V : VS_ h) : Ok_ (qj_X12_verify_33 nn l1 s0 h) (QI_ 0 12) := by
  unfold qj_X12_verify_33
  refine ok_ck (by omega) ?_
  refine ok_xl ?_; intro h2 E2
  have V2 : VS_ h2 := by rw [E2]; exact wF_56_4 V (by omega)
  refine ok_if (fun C => ok_rI V2 (by omega) (by omega)) (fun C => ?_)
  refine ok_cV (vf_X7_linkAll hn V2) ?_; intro u7 E7 V7
  exact ok_rI V7 (by omega) (by omega)
theorem vj_X12_verify_20 {nn : Nat} (hn : 1000000 ≤ nn) {l1 : Int} {h : ms_M} (r1 : 0 ≤ l1 ∧ l1 ≤ 12) (V : VS_ h) : Ok_ (qj_X12_verify_20 nn l1 h) (QI_ 0 12) := by
  unfold qj_X12_verify_20
  exact ok_if (fun _ => vj_X12_verify_33 hn r1 (by omega) V) (fun _ => vj_X12_verify_33 hn r1 (by omega) V)
theorem vf_X12_verify {nn : Nat} (hn : 1000000 ≤ nn) {h : ms_M} (V : VS_ h) (S : SI_ h) : Ok_ (qf_X12_verify nn h) (QI_ 0 12) := by
  unfold qf_X12_verify
  refine ok_cI (vf_X11_proveHeads hn V) ?_; intro u13 E13 V13 a13 b13
  have S13 : SI_ u13.2 := si_fr V S (fun c k z => (ff_X11_proveHeads nn) _ E13 c k z) rfl
  refine ok_if (fun C => vj_X12_verify_20 hn ⟨a13, b13⟩ V13) (fun C => ?_)
  refine ok_cI (vf_X11_proveMethods hn V13 S13) ?_; intro u16 E16 V16 a16 b16
  exact vj_X12_verify_20 hn ⟨a16, b16⟩ V16
theorem si_verify {nn : Nat} {h : ms_M} {r : Int × ms_M} (V : VS_ h) (S : SI_ h) (e : qf_X12_verify nn h = some r) : SI_ r.2 := si_fr V S (fun c k z => (ff_X12_verify nn) _ e c k z) rfl

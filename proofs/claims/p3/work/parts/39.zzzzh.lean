section
variable {nn : Nat} {h g r z w v : ms_M} {c d : Int}
theorem ro_49 (hn : 1000000 ≤ nn) (V : VS_ h) (S : SPD h) (O : OI h) (room : h 160 117 ≤ 2099) (hc : 0 ≤ c ∧ c ≤ 7) (W : WI h c w) {l2 p e : Int} (hp : 0 ≤ p) (he : e ≤ w 160 113) (K : KK (w 238) p e) : Ok_ (qj_X13_typeAt_49 nn l2 (6000 * c + p) h) (TW nn h c (KN (w 238) p e → FNm nn h (6000 * c + p + 1) (e - p - 2)) e) := by
  have K0 := K
  have g3 := gF_160_113 W.1
  have lt := kk_lt K
  rcases K with K | K
  · exact ok_im (rv_type49 hn V S O room hc W hp he K0) (fun u q => ⟨q, fun _ y => by have := y.1; exfalso; omega⟩)
  · unfold qj_X13_typeAt_49
    refine ok_rd (by omega) (gA_226 V) ?_; intro v18 e18 _ _
    rw [W.2.2.1 p (by omega) (by omega)] at e18
    have k1 := K.1
    rw [if_pos (show ¬ v18 = 73 by omega)]
    refine ok_add (by omega) ?_; intro v19 e19
    rw [show v19 = 6000 * c + (p + 1) by omega]
    exact ok_im (ro_75 hn V S O room hc W hp he K nn (p + 1) (by omega) (by have := K.2.1; omega) (by omega)) (fun u q => ⟨q.1, fun y _ => q.2 y⟩)
/-- a kind's type; a number below 36 tells that its name is a class's -/
theorem ro_typeAt (hn : 1000000 ≤ nn) (V : VS_ h) (S : SPD h) (O : OI h) (room : h 160 117 ≤ 2099) (hc : 0 ≤ c ∧ c ≤ 7) (W : WI h c w) {p e : Int} (hp : 0 ≤ p) (he : e ≤ w 160 113) (K : RTk (w 238) p e) : Ok_ (qf_X13_typeAt nn (6000 * c + p) h) (TW nn h c (KF nn h c (w 238) p e) e) := by
  have g3 := gF_160_113 W.1
  have g98 := gF_160_98 V
  have K0 := K
  have lt : p < e := by
    rcases K with K | K
    · omega
    · have := kd_lt K; omega
  have sort : ((w 238 p.toNat = 86 ∨ w 238 p.toNat = 90 ∨ w 238 p.toNat = 73) ∧ e = p + 1) ∨ (w 238 p.toNat = 76 ∧ KK (w 238) p e) ∨ (w 238 p.toNat = 91 ∧ KK (w 238) (p + 1) e) := by
    rcases K with K | K | ⟨_, K⟩ | K
    · exact .inl ⟨.inl K.1, K.2⟩
    · exact .inl ⟨.inr (.inl K.1), K.2⟩
    · rcases K with K | K
      · exact .inl ⟨.inr (.inr K.1), K.2⟩
      · exact .inr (.inl ⟨K.1, .inr K⟩)
    · exact .inr (.inr K)
  rcases sort with ⟨s, y⟩ | sort
  · refine ok_im (rv_typeAt hn V S O room hc W hp he K0) (fun u q => ⟨q, fun _ => ⟨fun _ k => ?_, fun a _ => ?_⟩⟩)
    · have := k.2.1; exfalso; omega
    · exfalso; omega
  unfold qf_X13_typeAt
  refine ok_rd (by omega) (gA_226 V) ?_; intro v24 e24 _ _
  rw [W.2.2.1 p (by omega) (by omega)] at e24
  refine ok_add (by omega) ?_; intro v25 e25
  refine ok_xl ?_; intro h26 E26
  have V26 : VS_ h26 := by rw [E26]; exact wF_160_120 V (by omega)
  have N26 : NY h h26 := fun x k w1 w2 w3 => by rw [E26, up_n (by omega)]
  have f117 : h26 160 117 = h 160 117 := by rw [E26, up_n (by omega)]
  have f98 : h26 160 98 = h 160 98 := by rw [E26, up_n (by omega)]
  have O26 : OI h26 := by rw [E26]; exact oi_f (by decide) O
  have W26 : WI h26 c w := wi_k (ny_k N26) W
  have S26 := ny_spd V N26 S
  have con : ∀ u, TQ h26 (6000 * c + e) u → TQ h (6000 * c + e) u := fun u q => ⟨q.1, ny_tr N26 q.2.1, q.2.2.1, q.2.2.2.1, by have := q.2.2.2.2; rw [f117, f98] at this; exact this⟩
  rcases sort with ⟨s, y⟩ | ⟨s, y⟩
  · rw [if_neg (show ¬ v24 = 73 by omega), if_pos (show ¬ v24 = 90 by omega), if_pos (show ¬ v24 = 86 by omega), if_pos (show ¬ v24 = 91 by omega)]
    exact ok_im (ro_49 hn V26 S26 O26 (by omega) hc W26 hp he y) (fun u q => ⟨con u q.1, fun z => ⟨fun _ k => fn_c (ag_sy (ny_ag N26)) (q.2 z k), fun a _ => by exfalso; omega⟩⟩)
  · rw [if_neg (show ¬ v24 = 73 by omega), if_pos (show ¬ v24 = 90 by omega), if_pos (show ¬ v24 = 86 by omega), if_neg (show ¬ ¬ v24 = 91 by omega)]
    refine ok_add (by omega) ?_; intro v27 e27
    rw [show v27 = 6000 * c + (p + 1) by omega]
    refine ok_im (ro_49 hn V26 S26 O26 (by omega) hc W26 (by omega) he y) (fun u q => ⟨con u q.1, fun z => ⟨fun a _ => absurd s a, fun _ k => ?_⟩⟩)
    have := fn_c (ag_sy (ny_ag N26)) (q.2 z k)
    rw [show 6000 * c + (p + 1) + 1 = 6000 * c + p + 2 by omega, show e - (p + 1) - 2 = e - p - 3 by omega] at this
    exact this
/-- class constant i of image c has a class -/
def CFd (nn : Nat) (h : ms_M) (c : Int) (w : ms_M) (i : Int) : Prop := (¬ w 238 (pl w c (w 238 (pl w c i + 1).toNat) + 2).toNat = 91 → FNm nn h (6000 * c + pl w c (w 238 (pl w c i + 1).toNat) + 2) (w 238 (pl w c (w 238 (pl w c i + 1).toNat) + 1).toNat)) ∧ (w 238 (pl w c (w 238 (pl w c i + 1).toNat) + 2).toNat = 91 → KF nn h c (w 238) (pl w c (w 238 (pl w c i + 1).toNat) + 2) (pl w c (w 238 (pl w c i + 1).toNat) + 2 + w 238 (pl w c (w 238 (pl w c i + 1).toNat) + 1).toNat))
theorem cfd_c {i : Int} (A : AGc h g) (F : CFd nn h c w i) : CFd nn g c w i := ⟨fun a => fn_c A (F.1 a), fun a => kf_c A (F.2 a)⟩
theorem ro_typeOf (hn : 1000000 ≤ nn) (V : VS_ h) (S : SPD h) (O : OI h) (room : h 160 117 ≤ 2099) (hc : 0 ≤ c ∧ c ≤ 7) (W : WI h c w) {i : Int} (t : CL w c i) : Ok_ (qf_X13_typeOfClass nn c i h) (fun u => TR h u ∧ (u.1 < 36 → CFd nn h c w i)) := by
  have g98 := gF_160_98 V
  unfold qf_X13_typeOfClass CFd
  refine ok_sv (rv_textOf V hc W t) ?_; intro u2 P2
  obtain ⟨e2, t1, t2⟩ := P2
  rw [← e2]
  obtain ⟨a1, a2, a3, a4, a5⟩ := wi_tx W hc t1
  have ct := t2.2.2.2.2 rfl
  refine ok_mul (by omega) ?_; intro v3 e3
  refine ok_mul (by omega) ?_; intro v5 e5
  refine ok_add (by omega) ?_; intro v6 e6
  refine ok_rd (by omega) (gA_228 V) ?_; intro v7 e7 _ _
  rw [e6, e5, a2] at e7
  refine ok_add (by omega) ?_; intro v8 e8
  refine ok_add (by omega) ?_; intro v10 e10
  refine ok_rd (by omega) (gA_226 V) ?_; intro v11 e11 _ _
  rw [show v10 = 6000 * c + (pl w c u2 + 2) by omega, W.2.2.1 _ (by omega) (by omega)] at e11
  refine ok_if (fun C => ?_) (fun C => ?_)
  · refine ok_add (by omega) ?_; intro v12 e12
    refine ok_add (by omega) ?_; intro v14 e14
    refine ok_rd (by omega) (gA_226 V) ?_; intro v15 e15 _ _
    rw [show v14 = 6000 * c + pl w c u2 + 1 by omega, a5] at e15
    refine ok_sv (fn_of hn V S O room (by omega) (by omega)) ?_; intro u17 P17
    obtain ⟨⟨q1, q2, q3, q4, q5⟩, q6⟩ := P17
    refine ok_mul (by omega) ?_; intro v18 e18
    refine ok_add (by omega) ?_; intro v19 e19
    refine ok_ret ⟨⟨q1, q2, q3, by show (0 ≤ v19 ∧ v19 < 20 + 2 * h 160 98 ∧ u17.2 160 117 = h 160 117) ∨ (36 ≤ v19 ∧ v19 ≤ 4235 ∧ u17.2 160 117 ≤ h 160 117 + 1); omega⟩, fun (y : v19 < 36) => ⟨fun _ => ?_, fun z => absurd (e11.trans z) C⟩⟩
    have := q6 (by omega)
    rw [show v12 = 6000 * c + pl w c u2 + 2 by omega, e15] at this
    exact this
  · have C : v11 = 91 := Decidable.not_not.1 C
    refine ok_add (by omega) ?_; intro v20 e20
    rw [show v20 = 6000 * c + (pl w c u2 + 2) by omega]
    have kd : KD (w 238) (pl w c u2 + 2) (pl w c u2 + 2 + w 238 (pl w c u2 + 1).toNat) := by
      rcases ct with y | y
      · exact y.2
      · exact absurd (e11.symm.trans C) y.1
    refine ok_sv (ro_typeAt hn V S O room hc W (by omega) (by omega) (.inr kd)) ?_; intro u22 P22
    exact ok_ret ⟨tr_q P22.1, fun y => ⟨fun z => absurd (e11.symm.trans C) z, fun _ => P22.2 y⟩⟩
/-- found: nothing but kindEnd moves -/
def TF2 (h : ms_M) (u : Int × ms_M) : Prop := VS_ u.2 ∧ N12 h u.2 ∧ (0 ≤ u.1 ∧ u.1 < 20 + 2 * h 160 98)
theorem rf_typeOf (hn : 1000000 ≤ nn) (V : VS_ h) (hc : 0 ≤ c ∧ c ≤ 7) (W : WI h c w) {i : Int} (t : CL w c i) (F : CFd nn h c w i) : Ok_ (qf_X13_typeOfClass nn c i h) (TF2 h) := by
  have g98 := gF_160_98 V
  unfold CFd at F
  unfold qf_X13_typeOfClass
  refine ok_sv (rv_textOf V hc W t) ?_; intro u2 P2
  obtain ⟨e2, t1, t2⟩ := P2
  rw [← e2] at F
  obtain ⟨a1, a2, a3, a4, a5⟩ := wi_tx W hc t1
  have ct := t2.2.2.2.2 rfl
  refine ok_mul (by omega) ?_; intro v3 e3
  refine ok_mul (by omega) ?_; intro v5 e5
  refine ok_add (by omega) ?_; intro v6 e6
  refine ok_rd (by omega) (gA_228 V) ?_; intro v7 e7 _ _
  rw [e6, e5, a2] at e7
  refine ok_add (by omega) ?_; intro v8 e8
  refine ok_add (by omega) ?_; intro v10 e10
  refine ok_rd (by omega) (gA_226 V) ?_; intro v11 e11 _ _
  rw [show v10 = 6000 * c + (pl w c u2 + 2) by omega, W.2.2.1 _ (by omega) (by omega)] at e11
  refine ok_if (fun C => ?_) (fun C => ?_)
  · refine ok_add (by omega) ?_; intro v12 e12
    refine ok_add (by omega) ?_; intro v14 e14
    refine ok_rd (by omega) (gA_226 V) ?_; intro v15 e15 _ _
    rw [show v14 = 6000 * c + pl w c u2 + 1 by omega, a5] at e15
    have F1 := F.1 (fun z => C (e11.trans z))
    rw [show 6000 * c + pl w c u2 + 2 = v12 by omega, ← e15] at F1
    refine ok_sv (fn_number F1) ?_; intro u17 P17
    rw [P17.1]
    have q := P17.2
    refine ok_mul (by omega) ?_; intro v18 e18
    refine ok_add (by omega) ?_; intro v19 e19
    exact ok_ret ⟨V, fun _ _ _ => rfl, by show 0 ≤ v19 ∧ v19 < _; omega⟩
  · have C : v11 = 91 := Decidable.not_not.1 C
    refine ok_add (by omega) ?_; intro v20 e20
    rw [show v20 = 6000 * c + (pl w c u2 + 2) by omega]
    have kd : KD (w 238) (pl w c u2 + 2) (pl w c u2 + 2 + w 238 (pl w c u2 + 1).toNat) := by
      rcases ct with y | y
      · exact y.2
      · exact absurd (e11.symm.trans C) y.1
    refine ok_sv (rf_typeAt hn V hc W (by omega) (by omega) (.inr kd) (F.2 (e11.symm.trans C))) ?_; intro u22 P22
    exact ok_ret ⟨P22.1, P22.2.1, P22.2.2.2⟩
end

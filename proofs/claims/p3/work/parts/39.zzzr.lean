section
variable {nn : Nat} {h g r z t : ms_M} {c : Int}
/-- image c was read again, its rows lie aside -/
def PA8 (h g : ms_M) (c : Int) : Prop := VS_ h ∧ SPC h ∧ VS_ g ∧ (∀ x k : Nat, x ≠ 160 → x ≠ 238 → x ≠ 239 → ¬ TAB c x k → g x k = h x k) ∧ TBk g h c ∧ NL h g ∧ g 160 98 = h 160 98 ∧ (0 ≤ c ∧ c < h 160 98)
theorem PA8.v (P : PA8 h g c) : VS_ h := P.1
theorem PA8.s (P : PA8 h g c) : SPC h := P.2.1
theorem PA8.w (P : PA8 h g c) : VS_ g := P.2.2.1
theorem PA8.e (P : PA8 h g c) : ∀ x k : Nat, x ≠ 160 → x ≠ 238 → x ≠ 239 → ¬ TAB c x k → g x k = h x k := P.2.2.2.1
theorem PA8.tb (P : PA8 h g c) : TBk g h c := P.2.2.2.2.1
theorem PA8.n (P : PA8 h g c) : NL h g := P.2.2.2.2.2.1
theorem PA8.f (P : PA8 h g c) : g 160 98 = h 160 98 := P.2.2.2.2.2.2.1
theorem PA8.c0 (P : PA8 h g c) : 0 ≤ c ∧ c < h 160 98 := P.2.2.2.2.2.2.2
theorem pa_aw (P : PA8 h g c) : AW c h g := fun x k w1 w2 w3 w4 _ _ => P.e x k w1 w2 w3 w4
theorem pa_235 (hn : 1000000 ≤ nn) (P : PA8 h g c) {l : Int} (I : l ≠ 0 → IM8 g c) : Ok_ (qj_X13_patch_235 nn c l g) (QL h) := by
  have g98 := gF_160_98 P.v
  have c0 := P.c0
  unfold qj_X13_patch_235
  refine ok_if (fun C => ?_) (fun C => ?_)
  · refine ok_sv (nm_install hn (by omega) P.w) ?_; intro u2 Q
    obtain ⟨QI, _⟩ := Q
    have V2 := QI.1
    refine ok_xl ?_; intro h3 E3
    refine ok_xl ?_; intro h4 E4
    have V3 : VS_ h3 := by rw [E3]; exact wF_160_99 V2 (by omega)
    have V4 : VS_ h4 := by rw [E4]; exact wF_160_138 V3 (by omega)
    have W : SW u2.2 h4 := fun x k a _ _ => by rw [E4, up_n (fun y => a y.1), E3, up_n (fun y => a y.1)]
    have f98 : h4 160 98 = h 160 98 := by rw [E4, up_n (by omega), E3, up_n (by omega), QI.2.1 160 98 (by omega) (by omega)]; exact P.f
    refine ok_ret ⟨V4, fun d a b => ?_, ?_⟩
    · have b : d < h 160 98 := by rw [← f98]; exact b
      refine img_s (by omega) V2 W ?_
      by_cases y : d = c
      · rw [y]; exact img_new (by omega) P.w (I C) QI
      · exact img_o (by omega) (by omega) y P.v (aw_tr (pa_aw P) (aw_qi QI)) (P.s d a b)
    · show NL h h4
      refine nl_tr P.n (nl_tr (nl_qi QI) ?_)
      rw [E4, E3]
      exact nl_tr (nl_f (by unfold LF; omega)) (nl_f (by unfold LF; omega))
  · refine ok_sv (ag_again hn (by omega) P.w P.v P.tb) ?_; intro u6 Q
    obtain ⟨V6, A, B⟩ := Q
    have W : SW h u6 := fun x k w1 w2 w3 => by
      by_cases y : TAB c x k
      · exact B x k y
      · rw [A x k y]; exact P.e x k w1 w2 w3 y
    have f98 : u6 160 98 = h 160 98 := by
      rw [A 160 98 (by unfold TAB; omega)]; exact P.f
    exact ok_ret ⟨V6, spc_s P.v W f98 P.s, nl_tr P.n (nl_ag A)⟩
theorem pa_173 (hn : 1000000 ≤ nn) (P : PA8 h g c) (I : IM8 g c) {l6 : Int} (r6 : 3 ≤ l6 ∧ l6 + 2 ≤ 6000 ∧ l6 + 2 + g 238 (l6 + 1).toNat ≤ 6000) : ∀ (k : Nat) (l5 l7 : Int), (0 ≤ l7 ∧ l7 ≤ 16) → 17 - l7 < (k : Int) → Ok_ (qw_X13_patch_173 nn k (8 + c) c l5 l6 l7 g) (QL h) := by
  have g98 := gF_160_98 P.v
  have c0 := P.c0
  have f := P.f
  intro k
  induction k with
  | zero => intro l5 l7 a hm; exfalso; omega
  | succ k ih =>
    intro l5 l7 a hm
    have J : (0 ≤ l7 ∧ l7 < 16) → Ok_ (qj_X13_patch_222 nn (qw_X13_patch_173 nn k) (8 + c) c l6 l7 g) (QL h) := fun a => by
      unfold qj_X13_patch_222
      refine ok_add (by omega) ?_; intro v8 e8
      exact ih 1 v8 (by omega) (by omega)
    unfold qw_X13_patch_173
    refine ok_add (by omega) ?_; intro v10 e10
    refine ok_if (fun _ => pa_235 hn P (fun _ => I)) (fun C => ?_)
    refine ok_if (fun _ => pa_235 hn P (fun _ => I)) (fun D => ?_)
    refine ok_if (fun _ => J (by omega)) (fun E => ?_)
    have w := P.w
    refine ok_add (by omega) ?_; intro v12 e12
    refine ok_add (by omega) ?_; intro v14 e14
    have gl := gA_238 w (l6 + 1).toNat
    refine ok_rd (by omega) (gA_238 w) ?_; intro v15 e15 _ _
    rw [e14] at e15
    refine ok_sv (nm_is hn (.inl ⟨rfl, rfl⟩) w (by omega) (by omega) (by omega) (fun y => img_o (c := c) (by omega) (by omega) (by omega) P.v (pa_aw P) (P.s (l7 - 8) (by omega) (by omega)))) ?_; intro u17 _
    refine ok_if (fun _ => ?_) (fun _ => J (by omega))
    refine ok_add (by omega) ?_; intro v18 e18
    exact ih 0 v18 (by omega) (by omega)
theorem pa_123 (hn : 1000000 ≤ nn) (P : PA8 h g c) {s : Int} (I : s ≠ 0 → IM8 g c) : Ok_ (qj_X13_patch_123 nn (8 + c) c s g) (QL h) := by
  have g98 := gF_160_98 P.v
  have c0 := P.c0
  unfold qj_X13_patch_123
  refine ok_if (fun C => pa_235 hn P I) (fun C => ?_)
  have I := I C
  have hc : 0 ≤ c ∧ c ≤ 7 := by omega
  have V4 := P.w
  have g113 := gF_160_113 V4
  obtain ⟨a1, a2, a3, a4, a5, a6⟩ := im8_name hc V4 I
  refine ok_mul (by omega) ?_; intro v24 e24
  refine ok_mul (by omega) ?_; intro v27 e27
  refine ok_rd (by omega) (gA_230 V4) ?_; intro v29 e29 _ _
  rw [← e29] at a1 a2 a3 a4 a5 a6
  refine ok_add (by omega) ?_; intro v30 e30
  refine ok_rd (by omega) (gA_228 V4) ?_; intro v31 e31 _ _
  have w31 : pl g c v29 = v31 := by rw [e31, e30, e27]; rfl
  rw [w31] at a2 a3 a4 a5 a6
  refine ok_add (by omega) ?_; intro v32 e32
  refine ok_rd (by omega) (gA_238 V4) ?_; intro v33 e33 _ _
  rw [← e32, ← e33] at a3 a4 a5 a6
  refine ok_add (by omega) ?_; intro v34 e34
  refine ok_rd (by omega) (gA_228 V4) ?_; intro v35 e35 _ _
  have w35 : pl g c v33 = v35 := by rw [e35, e34, e24]; rfl
  rw [w35] at a4 a5 a6
  exact pa_173 hn P I (by omega) nn s 0 (by omega) (by omega)
theorem ld_patch (hn : 1000000 ≤ nn) (V : VS_ h) (S : SPC h) {a b d : Int} (ra : -2147483648 ≤ a - 8 ∧ a ≤ 2147483647) : Ok_ (qf_X13_patch nn a b d h) (QL h) := by
  have g98 := gF_160_98 V
  unfold qf_X13_patch
  refine ok_sub (by omega) ?_; intro v55 e55
  refine ok_if (fun _ => ok_ret ⟨V, S, nl_rf⟩) (fun C => ?_)
  refine ok_if (fun _ => ok_ret ⟨V, S, nl_rf⟩) (fun D => ?_)
  refine ok_if (fun _ => ok_ret ⟨V, S, nl_rf⟩) (fun E => ?_)
  refine ok_rd (by omega) (gA_227 V) ?_; intro v58 e58 a58 b58
  refine ok_if (fun F => ?_) (fun _ => ok_ret ⟨V, S, nl_rf⟩)
  refine ok_rd (by omega) (gA_227 V) ?_; intro v60 e60 a60 b60
  refine ok_xl ?_; intro h61 E61
  obtain rfl : a = 8 + v55 := by omega
  have L : ∀ (k : Nat) (l : Int) (g : ms_M), VS_ g → NC h g → g 160 113 = v60 → (0 ≤ l ∧ l ≤ v60) → v60 - l < (k : Int) → Ok_ (qw_X13_patch_51 nn k (8 + v55) b d v55 l g) (QL h) := by
    intro k
    induction k with
    | zero => intro l g V N e a hm; exfalso; omega
    | succ k ih =>
      intro l g V' N e a hm
      unfold qw_X13_patch_51
      refine ok_if (fun G => ?_) (fun G => ?_)
      · refine ok_and (by omega) ?_; intro v39 a39 b39
        refine ok_wA (by omega) ?_; intro h40 E40
        have V40 : VS_ h40 := by rw [E40]; exact wA_238 V' (by omega)
        have N40 : NC h h40 := fun x k a b => by rw [E40, up_n (fun y => a y.1)]; exact N x k a b
        refine ok_sv (as_aside hn (by omega) V40) ?_; intro u42 Q
        obtain ⟨V42, N42, T42⟩ := Q
        refine ok_sv (sq_scan hn (by omega) V42) ?_; intro u44 Q
        obtain ⟨V44, N44, I44⟩ := Q
        have e9 : ∀ k : Nat, u44 239 k = u42 239 k := fun k => N44 239 k (by omega) (by omega) (by omega) (by omega)
        have P : PA8 h u44 v55 := by
          refine ⟨V, S, V44, fun x k w1 w2 w3 w4 => ?_, ?_, nl_tr (nc_nl N40) (nl_tr (nl_n9 N42) (nl_nta N44)), ?_, by omega⟩
          · rw [N44 x k (by omega) (fun z => w4 (.inl z)) (fun z => w4 (.inr (.inl z))) (fun z => w4 (.inr (.inr z))), N42 x k w3]
            exact N40 x k w2 (by omega)
          · have o : ∀ x k : Nat, x ≠ 160 → x ≠ 238 → h40 x k = h x k := fun x k a b => N40 x k b (fun y => a y.1)
            refine ⟨fun i hi => ?_, ?_, fun j hj => ?_⟩
            · rw [e9, T42.1 i hi]; exact o _ _ (by decide) (by decide)
            · have T2 := T42.2.1
              unfold TB2 at T2 ⊢
              rw [e9, e9, e9, e9, e9, ← o 229 _ (by decide) (by decide), ← o 230 _ (by decide) (by decide), ← o 231 _ (by decide) (by decide), ← o 232 _ (by decide) (by decide), ← o 234 _ (by decide) (by decide)]
              exact T2
            · rw [e9, e9, e9, e9, ← o 233 _ (by decide) (by decide), ← o 235 _ (by decide) (by decide), ← o 236 _ (by decide) (by decide), ← o 237 _ (by decide) (by decide)]
              exact T42.2.2 j hj
          · rw [N44 160 98 (by omega) (by omega) (by omega) (by omega), N42 160 98 (by decide)]
            exact N40 160 98 (by decide) (by decide)
        refine ok_if (fun _ => pa_123 hn P (fun y => absurd rfl y)) (fun y => pa_123 hn P (fun _ => I44 (show u44 160 114 = -1 from Decidable.not_not.1 y)))
      · refine ok_mul (by omega) ?_; intro v49 e49
        refine ok_add (by omega) ?_; intro v50 e50
        refine ok_rd (by omega) (gA_226 V') ?_; intro v51 e51 _ _
        refine ok_wA (by omega) ?_; intro h52 E52
        refine ok_add (by omega) ?_; intro v53 e53
        exact ih v53 h52 (by rw [E52]; exact wA_238 V' (by omega)) (fun x k a b => by rw [E52, up_n (fun y => a y.1)]; exact N x k a b) (by rw [E52, up_n (by omega)]; exact e) (by omega) (by omega)
  exact L nn 0 h61 (by rw [E61]; exact wF_160_113 V (by omega)) (fun x k a b => by rw [E61, up_n b]) (by rw [E61, up_s]) (by omega) (by omega)
end

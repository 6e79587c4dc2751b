section
variable {nn : Nat} {h r t g : ms_M} {Q : Int × ms_M → Prop}
def grp (h : ms_M) (m : Nat) : Int := 2 * h 181 m + (if h 182 m ≤ 0 then 0 else 1)
theorem sm_grp (m i : Nat) : sm h m i = decide (grp h i = grp h m) := by
  unfold sm grp
  by_cases a : h 182 i ≤ 0
  · by_cases b : h 182 m ≤ 0
    · rw [if_pos a, if_pos b]
      by_cases c : h 181 i = h 181 m
      · rw [decide_eq_true ⟨c, by omega⟩, decide_eq_true (by omega)]
      · rw [decide_eq_false (fun z => c z.1), decide_eq_false (by omega)]
    · rw [if_pos a, if_neg b, decide_eq_false (fun z => b (z.2.1 a)), decide_eq_false (by omega)]
  · by_cases b : h 182 m ≤ 0
    · rw [if_neg a, if_pos b, decide_eq_false (fun z => a (z.2.2 b)), decide_eq_false (by omega)]
    · rw [if_neg a, if_neg b]
      by_cases c : h 181 i = h 181 m
      · rw [decide_eq_true ⟨c, by omega⟩, decide_eq_true (by omega)]
      · rw [decide_eq_false (fun z => c z.1), decide_eq_false (by omega)]
theorem gp_12 {n : Nat} (H : ∀ m : Nat, m < n → ¬ gc h m = 12) : ∀ k : Nat, k ≤ n → ∀ x : Int, cs w1 (fun i => decide (grp h i = x)) k ≤ 12 := by
  intro k
  induction k with
  | zero => intro _ x; show (0 : Int) ≤ 12; decide
  | succ k ih =>
    intro hk x
    have a := ih (by omega) x
    show cs w1 (fun i => decide (grp h i = x)) k + (if decide (grp h k = x) = true then w1 k else 0) ≤ 12
    by_cases q : grp h k = x
    · rw [if_pos (decide_eq_true q)]
      have e : gc h k = cs w1 (fun i => decide (grp h i = x)) k := by
        unfold gc
        refine cs_cg k (fun i _ => ?_)
        rw [sm_grp, q]
      have := H k (by omega)
      show _ + (1 : Int) ≤ 12
      omega
    · rw [if_neg (fun z => q (of_decide_eq_true z))]; omega
def sg (f : Int → Int) : Nat → Int
  | 0 => 0
  | n + 1 => sg f n + f n
theorem sg_add {f e : Int → Int} : ∀ n : Nat, sg (fun x => f x + e x) n = sg f n + sg e n := by
  intro n
  induction n with
  | zero => rfl
  | succ n ih =>
    show sg (fun x => f x + e x) n + (f n + e n) = (sg f n + f n) + (sg e n + e n)
    rw [ih]; omega
theorem sg_le {f : Int → Int} (H : ∀ x, f x ≤ 12) : ∀ n : Nat, sg f n ≤ 12 * n := by
  intro n
  induction n with
  | zero => exact Int.le_refl _
  | succ n ih =>
    have := H n
    show sg f n + f n ≤ _
    omega
theorem sg_d {y : Int} : ∀ n : Nat, sg (fun x => if decide (y = x) = true then (1 : Int) else 0) n = (if 0 ≤ y ∧ y < (n : Int) then 1 else 0) := by
  intro n
  induction n with
  | zero => rw [if_neg (by omega)]; rfl
  | succ n ih =>
    show sg _ n + (if decide (y = (n : Int)) = true then (1 : Int) else 0) = _
    rw [ih]
    by_cases q : y = (n : Int)
    · rw [if_pos (decide_eq_true q), if_neg (show ¬ (0 ≤ y ∧ y < (n : Int)) by omega), if_pos (show 0 ≤ y ∧ y < ((n + 1 : Nat) : Int) by omega)]; rfl
    · rw [if_neg (fun z => q (of_decide_eq_true z))]
      by_cases p : 0 ≤ y ∧ y < (n : Int)
      · rw [if_pos p, if_pos (show 0 ≤ y ∧ y < ((n + 1 : Nat) : Int) by omega)]; rfl
      · rw [if_neg p, if_neg (show ¬ (0 ≤ y ∧ y < ((n + 1 : Nat) : Int)) by omega)]; rfl
theorem sg_all : ∀ k : Nat, (∀ i : Nat, i < k → 0 ≤ grp h i ∧ grp h i < 16) → sg (fun x => cs w1 (fun i => decide (grp h i = x)) k) 16 = (k : Int) := by
  intro k
  induction k with
  | zero => intro _; exact (sg_d (y := -1) 16).symm ▸ rfl
  | succ k ih =>
    intro H
    have a := ih (fun i hi => H i (by omega))
    have b := H k (by omega)
    have e : (fun x => cs w1 (fun i => decide (grp h i = x)) (k + 1)) = (fun x => cs w1 (fun i => decide (grp h i = x)) k + (if decide (grp h k = x) = true then (1 : Int) else 0)) := rfl
    rw [e, sg_add, a, sg_d, if_pos (by omega)]
    omega
theorem m_192 {n : Nat} (H : ∀ m : Nat, m < n → ¬ gc h m = 12) (G : ∀ i : Nat, i < n → 0 ≤ h 181 i ∧ h 181 i < 8) : (n : Int) ≤ 192 := by
  have a := sg_all (h := h) n (fun i hi => by
    have := G i hi
    unfold grp
    split <;> omega)
  have b := sg_le (f := fun x => cs w1 (fun i => decide (grp h i = x)) n) (fun x => gp_12 H n (Nat.le_refl _) x) 16
  rw [a] at b
  omega
/-- the heads, and how many members there are -/
theorem hc_heads (hn : 1000000 ≤ nn) (V : VS_ h) (W : HW_ h) (M : MC_ h) : Ok_ (qf_X13_heads nn h) (fun r => QT2 r ∧ (r 160 9 = 0 → r 160 28 ≤ 192)) := by
  refine hq_heads hn (fun {g} q => ?_) V W M
  obtain ⟨r, er, R⟩ := ht_192 hn nn 0 q (fun _ m hm => by omega) (by omega) (by omega)
  have F : ∀ c k, nw_F wl_X13_heads wf_X13_heads false false c k = true → r c k = g c k := fun c k w => (fw_X13_heads_192 nn nn) _ er c k w
  refine ⟨r, er, R, fun y => ?_⟩
  obtain ⟨_, p⟩ := pg_192 hn nn 0 g q.1 q.2.1 (by omega) r er y
  have g28 := gF_160_28 R.1.1
  have e28 := F 160 28 rfl
  have := m_192 (h := r) (n := (r 160 28).toNat) (fun m hm => by rw [gc_eq (h := g) (fun k => ⟨F 181 k (nw_ar rfl k), F 182 k (nw_ar rfl k)⟩)]; exact p m (by omega) (by omega)) (fun i hi => by
    have a := gA_181 R.1.1 i (by omega)
    have b := R.1.2.2.1 i (by omega)
    have c := (R.1.2.2.2 y).2
    omega)
  omega
/-- what is left of loops and labels -/
def RLb (L : Int) (h : ms_M) : Prop := LB h ∧ h 160 88 = L
theorem rl_eq {L : Int} (R : RLb L h) (e : r 160 88 = h 160 88) (A : ∀ i : Nat, r 219 i = h 219 i ∧ r 220 i = h 220 i) : RLb L r := ⟨lb_eq R.1 (by omega) A, e.trans R.2⟩
theorem rl_F {L : Int} {X : List Nat} {XF : List (Nat × Nat)} (R : RLb L h) (F : ∀ c k, nw_F X XF false false c k = true → r c k = h c k) (h1 : nw_F X XF false false 160 88 = true) (h2 : ∀ k, nw_F X XF false false 219 k = true ∧ nw_F X XF false false 220 k = true) : RLb L r := rl_eq R (F _ _ h1) (fun i => ⟨F _ _ (h2 i).1, F _ _ (h2 i).2⟩)
theorem rl_up {L : Int} {c k : Nat} {v : Int} {z : ms_M} (R : RLb L h) (E : z = up_M h c k v) (hc : c ≠ 219 ∧ c ≠ 220 ∧ ¬ (c = 160 ∧ k = 88)) : RLb L z := rl_eq R (by rw [E, up_n (by omega)]) (fun i => by rw [E, up_n (by omega), up_n (by omega)]; exact ⟨rfl, rfl⟩)
theorem nw_F2 {X : List Nat} {XF : List (Nat × Nat)} (N : NW_ h) (F : ∀ c k, nw_F X XF false false c k = true → r c k = h c k) (h2 : ∀ k, nw_F X XF false false 163 k = true ∧ nw_F X XF false false 165 k = true) : NW_ r := nw_eq N (fun k => F _ _ (h2 k).1) (fun k => F _ _ (h2 k).2)
theorem nw_up {c k : Nat} {v : Int} {z : ms_M} (N : NW_ h) (E : z = up_M h c k v) (hc : c ≠ 163 ∧ c ≠ 165) : NW_ z := nw_eq N (fun k => by rw [E, up_n (by omega)]) (fun k => by rw [E, up_n (by omega)])
theorem gb_of (T : QT2 t) (P : MP t) (C : t 160 9 = 0) (B : QB t g) (z : g 160 9 = 0) (N : NW_ t) (K : NK t) (U : UC t) (m : t 160 28 ≤ 192) : GB g := by
  obtain ⟨⟨V, F, y1, y2, y3⟩, MI0, MT0⟩ := B
  have e22 : g 160 22 = t 160 22 := F 160 22 rfl
  have e24 : g 160 24 = t 160 24 := F 160 24 rfl
  have e28 : g 160 28 = t 160 28 := F 160 28 rfl
  have g22 := gF_160_22 V
  have v23 := gF_160_23 T.1.1
  have cc := (P.2.2 C).2.2
  have cn : ∀ n : Nat, Cn g n = Cn t n := fun n => by
    induction n with
    | zero => rfl
    | succ n ih =>
      show Cn g n + wt (g 167 n) = Cn t n + wt (t 167 n)
      rw [ih, F 167 n (nw_ar rfl n)]
  have c1 : Cm g (g 160 22) ≤ 3000 := by
    show Cn g (g 160 22).toNat ≤ 3000
    rw [cn, e22]
    show CC t ≤ 3000
    omega
  have c2 := cm_mono (s := g) (a := 0) (b := g 160 22) (by omega) (by omega)
  rw [cm_z] at c2
  refine ⟨⟨yb_hw ⟨V, F, y1, y2, y3⟩ T.1.2.1, by rw [e24]; exact (T.1.2.2.2 C).2, fun c hc => ?_, by omega, fun x hx => ?_⟩, ⟨by omega, c1⟩, fun x hx => ?_, fun x hx h182 => ?_, fun c hc => ?_⟩
  · rw [F 165 _ (nw_ar rfl _), F 178 _ (nw_ar rfl _)]; exact N _ ⟨by have := gF_160_24 T.1.1; have := gA_178 T.1.1 c (by omega); omega, K.1 c (by omega)⟩
  · rw [F 165 _ (nw_ar rfl _), F 186 _ (nw_ar rfl _), F 187 _ (nw_ar rfl _), F 189 _ (nw_ar rfl _), F 188 _ (nw_ar rfl _), e24]
    obtain ⟨⟨q1, q2⟩, q3⟩ := T.2 C x (by omega)
    exact ⟨N _ ⟨by have := gA_186 T.1.1 x (by omega); omega, K.2 x (by omega)⟩, q1, q3, fun k hk => by rw [F 195 _ (nw_ar rfl _)]; exact q2 k hk⟩
  · rw [F 167 _ (nw_ar rfl _), e24, e28]
    obtain ⟨w1, w2⟩ := MI0 z x (by omega)
    obtain ⟨w3, w4, w5⟩ := y3 x (by omega)
    exact ⟨⟨w1, y1 x (by omega)⟩, w3, w2, w4, w5⟩
  · rw [F 182 _ (nw_ar rfl _)] at h182
    obtain ⟨b, ⟨hb, hy⟩, Te⟩ := (P.2.2 C).1 0 (.inl rfl) x (by omega) h182
    obtain ⟨b2, _, _, Ye⟩ := MT0 z x (by omega) h182
    have rg := te_sk Te
    rw [F 190 _ (nw_ar rfl _)]
    refine ⟨b, b2, ⟨by omega, fun y h1 h2 h3 => ?_⟩, te_map (a0 := t 190 x) (b0 := b) (fun c k hc _ _ => ?_) (fun k _ _ => F 169 k (nw_ar rfl k)) (fun k _ _ hk => y2 k hk) Te (Int.le_refl _) (by omega) (Int.le_refl _) (Int.le_refl _) (Int.le_refl _) (Int.le_refl _), Ye⟩
    · rw [F 182 _ (nw_ar rfl _)] at h3
      rw [F 190 _ (nw_ar rfl _)]; exact hy y h1 (by omega) h3
    · have q : c = 167 ∨ c = 170 ∨ c = 171 ∨ c = 172 ∨ c = 173 := by omega
      rcases q with q | q | q | q | q <;> subst q <;> exact F _ _ (nw_ar rfl _)
  · rw [F 180 _ (nw_ar rfl _), e24]; exact U c (by omega)
/-- what making wants -/
def HM (nn : Nat) (L : Int) (Q : Int × ms_M → Prop) : Prop := ∀ {t g : ms_M}, QT2 t → MP t → t 160 9 = 0 → QB t g → g 160 9 = 0 → NW_ t → NK t → UC t → t 160 28 ≤ 192 → RLb L g → Ok_ (qw_X13_compile_110 nn nn 0 g) Q
def HF (L : Int) (Q : Int × ms_M → Prop) : Prop := ∀ {g : ms_M}, VS_ g → HW_ g → NW_ g → RLb L g → Q (-1, g)
theorem ch_97 (hn : 1000000 ≤ nn) {L : Int} (hM : HM nn L Q) (hF : HF L Q) (T : QT2 h) (P : MP h) (N : NW_ h) (R : RLb L h) (K : h 160 9 = 0 → NK h ∧ UC h ∧ h 160 28 ≤ 192) : Ok_ (qj_X13_compile_97 nn h) Q := by
  unfold qj_X13_compile_97
  refine ok_if (fun C => cg_dead hn C (hF T.1.1 T.1.2.1 N R)) (fun C => ?_)
  have C : h 160 9 = 0 := Decidable.not_not.1 C
  have Y := yb_0 T.1.1 P.1 (P.2.2 C).2.1
  obtain ⟨u, eu, B⟩ := vb_bodies hn (sf_of T C) ((P.2.2 C).1 1 (.inr rfl)) Y.1 Y.2
  rw [eu, mx_svs]
  have F : ∀ c k, nw_F wl_X13_bodies wf_X13_bodies false false c k = true → u c k = h c k := fun c k w => (ff_X13_bodies nn) _ eu c k w
  have Ru := rl_F R F rfl (fun k => ⟨nw_ar rfl k, nw_ar rfl k⟩)
  have Nu := nw_F2 N F (fun k => ⟨nw_ar rfl k, nw_ar rfl k⟩)
  by_cases z : u 160 9 = 0
  · exact hM T P C B z N (K C).1 (K C).2.1 (K C).2.2 Ru
  · exact cg_dead hn z (hF B.1.1 (yb_hw B.1 T.1.2.1) Nu Ru)
theorem ch_86 (hn : 1000000 ≤ nn) {L : Int} (hM : HM nn L Q) (hF : HF L Q) (X : QX_ h) (P : MP h) (N : NW_ h) (R : RLb L h) (K : NK h) : Ok_ (qj_X13_compile_86 nn h) Q := by
  unfold qj_X13_compile_86
  refine ok_if (fun C => ch_97 hn hM hF ⟨qh_of X C, fun y => absurd y C⟩ P N R (fun y => absurd y C)) (fun C => ?_)
  have C : h 160 9 = 0 := Decidable.not_not.1 C
  obtain ⟨u, eu, H, H2⟩ := hc_heads hn X.1 ⟨X.2.2.1.2.2, X.2.2.2.1⟩ X.2.2.2.2
  rw [eu, mx_svs]
  have F : ∀ c k, nw_F wl_X13_heads wf_X13_heads false false c k = true → u c k = h c k := fun c k w => (ff_X13_heads nn) _ eu c k w
  exact ch_97 hn hM hF H (mp_sx (sx_heads eu C) P) (nw_F2 N F (fun k => ⟨nw_ar rfl k, nw_ar rfl k⟩)) (rl_F R F rfl (fun k => ⟨nw_ar rfl k, nw_ar rfl k⟩)) (fun y => ⟨nk_F K F (fun k => ⟨nw_ar rfl k, nw_ar rfl k, nw_ar rfl k⟩) rfl rfl, uc_heads hn X.1 ⟨X.2.2.1.2.2, X.2.2.2.1⟩ u eu, H2 y⟩)
theorem ch_43 (hn : 1000000 ≤ nn) {L : Int} (hM : HM nn L Q) (hF : HF L Q) {l1 : Int} (r1 : 0 ≤ l1 ∧ l1 ≤ 3000) : ∀ (k : Nat) (l2 : Int) {h : ms_M}, VS_ h → HW_ h → NW_ h → RLb L h → h 160 9 = 0 → (0 ≤ l2 ∧ l2 ≤ 3000) → 3001 - l2 < (k : Int) → Ok_ (qw_X13_compile_43 nn k l1 l2 h) Q := by
  intro k
  induction k with
  | zero => intro l2 h V W N R z r hm; exfalso; omega
  | succ k ih =>
    intro l2 h V W N R z r hm
    unfold qw_X13_compile_43
    refine ok_if (fun C => ?_) (fun C => ?_)
    · refine ok_xl ?_; intro h40 E40
      have V40 : VS_ h40 := by rw [E40]; exact wF_160_3 V (by omega)
      have W40 : HW_ h40 := by rw [E40]; exact hw_up V W rfl
      have z40 : h40 160 9 = 0 := by rw [E40, up_n (by omega)]; exact z
      have N40 := nw_up N E40 (by decide)
      have R40 := rl_up R E40 (by decide)
      obtain ⟨u, eu, T⟩ := tz_ok hn V40 W40.1
      rw [eu, mx_svs]
      have zu : u 160 9 = h40 160 9 := (ff_X13_tokenize nn) _ eu 160 9 rfl
      have w1 : ∀ m, u 188 m = h40 188 m := fun m => (ff_X13_tokenize nn) _ eu 188 m (nw_ar rfl m)
      have w2 : ∀ m, u 189 m = h40 189 m := fun m => (ff_X13_tokenize nn) _ eu 189 m (nw_ar rfl m)
      have Nu := nw_tokenize N40 u eu
      have Ru := rl_F R40 (fun c k w => (ff_X13_tokenize nn) _ eu c k w) rfl (fun k => ⟨nw_ar rfl k, nw_ar rfl k⟩)
      refine ok_if (fun C2 => absurd (by omega) C2) (fun C2 => ?_)
      obtain ⟨v, ev, X⟩ := vx_X13_program hn T (fun m hm => by rw [w1, w2]; exact W40.2 m hm) (by omega)
      rw [ev, mx_svs]
      have F : ∀ c k, nw_F wl_X13_program wf_X13_program false false c k = true → v c k = u c k := fun c k w => (ff_X13_program nn) _ ev c k w
      exact ch_86 hn hM hF X (mg_program v ev) (nw_F2 Nu F (fun k => ⟨nw_ar rfl k, nw_ar rfl k⟩)) (rl_F Ru F rfl (fun k => ⟨nw_ar rfl k, nw_ar rfl k⟩)) (np_program v ev)
    · refine ok_rd (by omega) (gA_161 V) ?_; intro v49 e49 a49 b49
      refine ok_wA (by omega) ?_; intro h50 E50
      have V50 : VS_ h50 := by rw [E50]; exact wA_162 V (by omega)
      have W50 : HW_ h50 := by rw [E50]; exact hw_up V W rfl
      have z50 : h50 160 9 = 0 := by rw [E50, up_n (by omega)]; exact z
      refine ok_add (by omega) ?_; intro v51 e51
      exact ih v51 V50 W50 (nw_up N E50 (by decide)) (rl_up R E50 (by omega)) z50 (by omega) (by omega)
theorem ch_compile (hn : 1000000 ≤ nn) {L : Int} (hM : HM nn L Q) (hF : HF L Q) (V : VS_ h) (W : HW_ h) (N : NW_ h) (R : RLb L h) : Ok_ (qf_X13_compile nn h) Q := by
  have g := gF_160_1 V
  unfold qf_X13_compile
  refine ok_xl ?_; intro h54 E54
  have V54 : VS_ h54 := by rw [E54]; exact wF_160_1 V (by omega)
  have W54 : HW_ h54 := by rw [E54]; exact hw_up V W rfl
  have N54 := nw_up N E54 (by decide)
  have R54 := rl_up R E54 (by decide)
  refine ok_xl ?_; intro h55 E55
  have V55 : VS_ h55 := by rw [E55]; exact wF_160_9 V54 (by omega)
  have W55 : HW_ h55 := by rw [E55]; exact hw_up V54 W54 rfl
  have z55 : h55 160 9 = 0 := by rw [E55, up_s]
  have N55 := nw_up N54 E55 (by decide)
  have R55 := rl_up R54 E55 (by decide)
  refine ok_xl ?_; intro h56 E56
  have V56 : VS_ h56 := by rw [E56]; exact wF_160_10 V55 (by omega)
  have W56 : HW_ h56 := by rw [E56]; exact hw_up V55 W55 rfl
  have z56 : h56 160 9 = 0 := by rw [E56, up_n (by omega)]; exact z55
  have N56 := nw_up N55 E56 (by decide)
  have R56 := rl_up R55 E56 (by decide)
  refine ok_if (fun C => ch_43 hn hM hF (by omega) nn 0 V56 W56 N56 R56 z56 (by omega) (by omega)) (fun C => ?_)
  refine ok_xl ?_; intro h57 E57
  have V57 : VS_ h57 := by rw [E57]; exact wF_160_9 V56 (by omega)
  have W57 : HW_ h57 := by rw [E57]; exact hw_up V56 W56 rfl
  refine ok_xl ?_; intro h58 E58
  have V58 : VS_ h58 := by rw [E58]; exact wF_160_10 V57 (by omega)
  have W58 : HW_ h58 := by rw [E58]; exact hw_up V57 W57 rfl
  exact ok_ret (hF V58 W58 (nw_up (nw_up N56 E57 (by decide)) E58 (by decide)) (rl_up (rl_up R56 E57 (by decide)) E58 (by decide)))
/-- what the reference's compile leaves -/
def QRC (h : ms_M) (u : Int × ms_M) : Prop := VS_ u.2 ∧ HW_ u.2 ∧ NW_ u.2 ∧ LB u.2 ∧ (h 160 88 ≤ u.2 160 88 ∧ u.2 160 88 ≤ h 160 88 + 48000) ∧ (-1 ≤ u.1 ∧ u.1 ≤ 8)
/-- the reference's compile is safe -/
theorem rc_compile (hn : 1000000 ≤ nn) (V : VS_ h) (W : HW_ h) (N : NW_ h) (L : LB h) (h8 : h 160 88 ≤ 1600000000) : Ok_ (qf_X13_compile nn h) (QRC h) := by
  have g8 := gF_160_88 V
  refine ch_compile (L := h 160 88) hn (fun {t g} T P C B z Nt K U m R => ?_) (fun {g} Vg Wg Ng R => ⟨Vg, Wg, Ng, R.1, by have := R.2; show h 160 88 ≤ g 160 88 ∧ g 160 88 ≤ h 160 88 + 48000; omega, by show (-1 : Int) ≤ -1 ∧ (-1 : Int) ≤ 8; omega⟩) V W N ⟨L, rfl⟩
  have G := gb_of T P C B z Nt K U m
  have Vg := B.1.1
  have g24 := gF_160_24 Vg
  have p24 := G.1.2.1
  have R2 := R.2
  have Fg := B.1.2.1
  refine ok_im (co_110 hn G (L8 := h 160 88) (by omega) nn 0 g Vg ag_rf R.1 (by omega) (by omega) (by omega)) (fun u q => ?_)
  obtain ⟨q1, q2, q3, q4, q5⟩ := q
  exact ⟨q1, hw_eq G.1.1 (fun k => q2.1 164 k (by decide) (by decide)) (fun k => q2.1 165 k (by decide) (by decide)) (fun k => q2.1 188 k (by decide) (by decide)) (fun k => q2.1 189 k (by decide) (by decide)), nw_eq Nt (fun k => (q2.1 163 k (by decide) (by decide)).trans (Fg 163 k (nw_ar rfl k))) (fun k => (q2.1 165 k (by decide) (by decide)).trans (Fg 165 k (nw_ar rfl k))), q3, q4, q5⟩
end

section
variable {nn : Nat} {h g r z w v x f : ms_M} {c d e k : Int} {ω : Int → ms_M}
/-- two memories whose images of the space are alike -/
def AGe (h r : ms_M) : Prop := r 160 98 = h 160 98 ∧ ∀ d : Int, 0 ≤ d → d < h 160 98 → (∀ i : Int, 0 ≤ i → i < 6000 → r 226 (6000 * d + i).toNat = h 226 (6000 * d + i).toNat) ∧ (∀ i : Int, 0 ≤ i → i < 256 → r 228 (256 * d + i).toNat = h 228 (256 * d + i).toNat) ∧ (r 229 d.toNat = h 229 d.toNat ∧ r 230 d.toNat = h 230 d.toNat ∧ r 231 d.toNat = h 231 d.toNat ∧ r 232 d.toNat = h 232 d.toNat ∧ r 234 d.toNat = h 234 d.toNat) ∧ (∀ j : Int, 0 ≤ j → j < 12 → r 233 (12 * d + j).toNat = h 233 (12 * d + j).toNat ∧ r 235 (12 * d + j).toNat = h 235 (12 * d + j).toNat ∧ r 236 (12 * d + j).toNat = h 236 (12 * d + j).toNat ∧ r 237 (12 * d + j).toNat = h 237 (12 * d + j).toNat)
theorem age_d (A : AGd h r) : AGe h r := ⟨A.2.1, fun d _ _ => ⟨fun i _ _ => A.1 226 _ (by decide) (by decide), fun i _ _ => A.1 228 _ (by decide) (by decide), ⟨A.1 229 _ (by decide) (by decide), A.1 230 _ (by decide) (by decide), A.1 231 _ (by decide) (by decide), A.1 232 _ (by decide) (by decide), A.1 234 _ (by decide) (by decide)⟩, fun j _ _ => ⟨A.1 233 _ (by decide) (by decide), A.1 235 _ (by decide) (by decide), A.1 236 _ (by decide) (by decide), A.1 237 _ (by decide) (by decide)⟩⟩⟩
theorem age_k (A : ∀ x k : Nat, 226 ≤ x → x ≤ 237 → r x k = h x k) (e : r 160 98 = h 160 98) : AGe h r := ⟨e, fun d _ _ => ⟨fun i _ _ => A 226 _ (by decide) (by decide), fun i _ _ => A 228 _ (by decide) (by decide), ⟨A 229 _ (by decide) (by decide), A 230 _ (by decide) (by decide), A 231 _ (by decide) (by decide), A 232 _ (by decide) (by decide), A 234 _ (by decide) (by decide)⟩, fun j _ _ => ⟨A 233 _ (by decide) (by decide), A 235 _ (by decide) (by decide), A 236 _ (by decide) (by decide), A 237 _ (by decide) (by decide)⟩⟩⟩
theorem age_rf : AGe h h := age_k (fun _ _ _ _ => rfl) rfl
theorem age_tr (A : AGe h z) (B : AGe z r) : AGe h r := ⟨B.1.trans A.1, fun d a b => by
  obtain ⟨a1, a2, ⟨a3, a4, a5, a6, a7⟩, a8⟩ := A.2 d a b
  obtain ⟨b1, b2, ⟨b3, b4, b5, b6, b7⟩, b8⟩ := B.2 d a (by rw [A.1]; exact b)
  exact ⟨fun i p q => (b1 i p q).trans (a1 i p q), fun i p q => (b2 i p q).trans (a2 i p q), ⟨b3.trans a3, b4.trans a4, b5.trans a5, b6.trans a6, b7.trans a7⟩, fun j p q => ⟨(b8 j p q).1.trans (a8 j p q).1, (b8 j p q).2.1.trans (a8 j p q).2.1, (b8 j p q).2.2.1.trans (a8 j p q).2.2.1, (b8 j p q).2.2.2.trans (a8 j p q).2.2.2⟩⟩⟩
theorem wi_e (A : AGe h r) (hc : 0 ≤ c ∧ c < h 160 98) (W : WI h c w) : WI r c w := by
  obtain ⟨a1, a2, ⟨a3, a4, a5, a6, a7⟩, a8⟩ := A.2 c hc.1 hc.2
  obtain ⟨b0, b1, b2, b3, b4, b5, b6, b7⟩ := W
  have g3 := gF_160_113 b0
  refine ⟨b0, b1, fun i i1 i2 => ?_, fun i i1 i2 => ?_, ?_, ?_, ?_, ?_⟩
  · rw [a1 i i1 (by omega)]; exact b2 i i1 i2
  · rw [a2 i i1 (by omega)]; exact b3 i i1 i2
  · rw [a3]; exact b4
  · rw [a4, a5]; exact b5
  · have f12 := b6.1
    unfold FLDS FLD at b6 ⊢
    rw [a6]
    refine ⟨b6.1, fun j j1 j2 => ?_⟩
    rw [(a8 j j1 (by omega)).1]; exact b6.2 j j1 j2
  · have m12 := b7.1
    refine ⟨by rw [a7]; exact b7.1, fun j j1 j2 => ?_⟩
    rw [a7] at j2
    obtain ⟨q, q1, q2⟩ := b7.2 j j1 j2
    refine ⟨q, q1, ?_⟩
    rw [(a8 j j1 (by omega)).2.1]
    exact xm_eq q2 (a8 j j1 (by omega)).2.2.1 (a8 j j1 (by omega)).2.2.2
theorem om_e (A : AGe h r) (O : OM h ω) : OM r ω := fun d a b => wi_e A ⟨a, by rw [← A.1]; exact b⟩ (O d a (by rw [← A.1]; exact b))
/-- where a class's name lies -/
theorem nm_val (V : VS_ h) (hc : 0 ≤ c ∧ c ≤ 7) (W : WI h c w) : qf_X13_nameAt nn (8 + c) h = some (6000 * c + pl w c (w 238 (pl w c (h 230 c.toNat) + 1).toNat) + 1) := by
  obtain ⟨cl, _⟩ := W.2.2.2.2.2.1
  obtain ⟨a1, a2, a3, a4, a5⟩ := wi_cl W hc cl
  obtain ⟨b1, b2, b3, b4, b5⟩ := wi_tx W hc a5.1
  have L : Ok_ (qf_X13_nameAt nn (8 + c) h) (fun u => u = 6000 * c + pl w c (w 238 (pl w c (h 230 c.toNat) + 1).toNat) + 1) := by
    unfold qf_X13_nameAt
    refine ok_sub (by omega) ?_; intro v1 e1
    rw [show v1 = c by omega]
    refine ok_mul (by omega) ?_; intro v2 e2
    refine ok_mul (by omega) ?_; intro v4 e4
    refine ok_rd (by omega) (gA_230 V) ?_; intro v6 e6 _ _
    rw [← e6] at a1 a2 a3 a4 a5 b1 b2 b3 b4 b5 ⊢
    refine ok_add (by omega) ?_; intro v7 e7
    refine ok_rd (by omega) (gA_228 V) ?_; intro v8 e8 _ _
    rw [e7, e4, a2] at e8
    refine ok_add (by omega) ?_; intro v9 e9
    refine ok_mul (by omega) ?_; intro v10 e10
    refine ok_mul (by omega) ?_; intro v12 e12
    refine ok_add (by omega) ?_; intro v14 e14
    refine ok_rd (by omega) (gA_226 V) ?_; intro v15 e15 _ _
    rw [show v14 = 6000 * c + (pl w c v6 + 1) by omega, a4] at e15
    rw [← e15] at b1 b2 b3 b4 b5 ⊢
    refine ok_add (by omega) ?_; intro v16 e16
    refine ok_rd (by omega) (gA_228 V) ?_; intro v17 e17 _ _
    rw [e16, e12, b2] at e17
    refine ok_add (by omega) ?_; intro v18 e18
    refine ok_add (by omega) ?_; intro v19 e19
    exact ok_ret (by omega)
  obtain ⟨u, e, p⟩ := L
  rw [e, p]
theorem xl_v {α β : Type} {y : β} {F : β → Option α} : xl y F = F y := by unfold xl; rfl
theorem rd_v {α : Type} {n j : Int} {x : Nat} {F : Int → Option α} (e : 0 ≤ j ∧ j < n) : rd_A n x j h F = F (h x j.toNat) := by
  unfold rd_A
  rw [if_pos e]
theorem cg_rd {α : Type} {n j : Int} {x : Nat} {F G : Int → Option α} (e : 0 ≤ j → j < n → g x j.toNat = h x j.toNat) (q : ∀ y, y = h x j.toNat → F y = G y) : rd_A n x j g F = rd_A n x j h G := by
  unfold rd_A
  by_cases y : 0 ≤ j ∧ j < n
  · rw [if_pos y, if_pos y, e y.1 y.2]; exact q _ rfl
  · rw [if_neg y, if_neg y]
theorem cg_rs {α : Type} {j : Int} {F G : Int → Option α} (V : VS_ h) (Vg : VS_ g) (hj : 0 ≤ j ∧ j < 48000) (e : g 226 j.toNat = h 226 j.toNat) (q : ∀ y, F y = G y) : rd_S 226 j g F = rd_S 226 j h G := by
  have R : RW_ 226 48000 := .inr ⟨rfl, rfl⟩
  have L : ∀ (m : ms_M) (V : VS_ m) (F : Int → Option α), rd_S 226 j m F = F (m 226 j.toNat) := fun m V F => by
    have o : Ok_ (rd_S 226 j m some) (fun y => y = m 226 j.toNat) := ok_rS R V hj (fun v ev _ _ => ok_ret ev)
    obtain ⟨y, e1, e2⟩ := o
    unfold rd_S at e1 ⊢
    split at e1
    · rename_i c1
      rw [if_pos c1]
    · cases e1
  rw [L g Vg, L h V, e]; exact q _
/-- n bytes from a on lie in one image of the space -/
def BLK (h : ms_M) (a n : Int) : Prop := ∃ d : Int, (0 ≤ d ∧ d < h 160 98) ∧ 6000 * d ≤ a ∧ a + n ≤ 6000 * d + 6000
theorem blk_e (A : AGe h g) {a n i : Int} (B : BLK h a n) (i1 : 0 ≤ i) (i2 : i < n) : g 226 (a + i).toNat = h 226 (a + i).toNat := by
  obtain ⟨d, hd, b1, b2⟩ := B
  have := (A.2 d hd.1 hd.2).1 (a + i - 6000 * d) (by omega) (by omega)
  rw [show 6000 * d + (a + i - 6000 * d) = a + i by omega] at this
  exact this
theorem ce_184 (V : VS_ h) (Vg : VS_ g) (A : AGe h g) {a n l5 : Int} (ra : (0 ≤ a ∧ a + n ≤ 48000) ∧ (0 ≤ n ∧ n ≤ 255)) (r5 : -2147483648 ≤ l5 ∧ l5 ≤ 100000) (B : BLK h a n) : ∀ (k : Nat) (l6 l7 : Int), (0 ≤ l7) → (¬ l6 = 0 → BLK h (l5 + 1) n) → qw_X13_isNamed_184 nn k 226 a n l5 l6 l7 g = qw_X13_isNamed_184 nn k 226 a n l5 l6 l7 h := by
  intro k
  induction k with
  | zero => intro l6 l7 _ _; rfl
  | succ k ih =>
    intro l6 l7 p q
    unfold qw_X13_isNamed_184
    by_cases y : n ≤ l7
    · rw [if_pos y, if_pos y]
    · rw [if_neg y, if_neg y]
      by_cases y2 : l6 = 0
      · rw [if_pos y2, if_pos y2]
      · rw [if_neg y2, if_neg y2]
        have e1 : oq_add l5 1 = l5 + 1 := oq_add_eq (by omega) (by omega) (by omega)
        simp only [xl_v]
        have e2 : oq_add (oq_add l5 1) l7 = l5 + 1 + l7 := by rw [e1]; exact oq_add_eq (by omega) (by omega) (by omega)
        rw [e2]
        refine cg_rd (fun _ _ => blk_e A (q y2) p (by omega)) (fun v6 _ => ?_)
        have e3 : oq_add a l7 = a + l7 := oq_add_eq (by omega) (by omega) (by omega)
        rw [e3]
        refine cg_rs V Vg (by omega) (blk_e A B p (by omega)) (fun v8 => ?_)
        have e4 : oq_add l7 1 = l7 + 1 := oq_add_eq (by omega) (by omega) (by omega)
        by_cases y3 : v6 = v8
        · rw [if_neg (show ¬ ¬ v6 = v8 from fun z => z y3), if_neg (show ¬ ¬ v6 = v8 from fun z => z y3)]
          rw [e4]
          exact ih 1 (l7 + 1) (by omega) (fun _ => q y2)
        · rw [if_pos y3, if_pos y3]
          rw [e4]
          exact ih 0 (l7 + 1) (by omega) (fun z => absurd rfl z)
theorem ce_97 (V : VS_ h) (Vg : VS_ g) (A : AGe h g) {a n l6 : Int} (ra : (0 ≤ a ∧ a + n ≤ 48000) ∧ (0 ≤ n ∧ n ≤ 255)) (B : BLK h a n) : ∀ (k : Nat) (l7 l8 : Int), (0 ≤ l8) → qw_X13_isNamed_97 nn k 226 a n l6 l7 l8 g = qw_X13_isNamed_97 nn k 226 a n l6 l7 l8 h := by
  intro k
  induction k with
  | zero => intro l7 l8 _; rfl
  | succ k ih =>
    intro l7 l8 p
    unfold qw_X13_isNamed_97
    by_cases y : n ≤ l8
    · rw [if_pos y, if_pos y]
    · rw [if_neg y, if_neg y]
      by_cases y2 : l7 = 0
      · rw [if_pos y2, if_pos y2]
      · rw [if_neg y2, if_neg y2]
        simp only [xl_v]
        congr 1
        funext v18
        have e3 : oq_add a l8 = a + l8 := oq_add_eq (by omega) (by omega) (by omega)
        rw [e3]
        refine cg_rs V Vg (by omega) (blk_e A B p (by omega)) (fun v20 => ?_)
        have e4 : oq_add l8 1 = l8 + 1 := oq_add_eq (by omega) (by omega) (by omega)
        by_cases y3 : v18 = v20
        · rw [if_neg (show ¬ ¬ v18 = v20 from fun z => z y3), if_neg (show ¬ ¬ v18 = v20 from fun z => z y3)]
          rw [e4]
          exact ih 1 (l8 + 1) (by omega)
        · rw [if_pos y3, if_pos y3]
          rw [e4]
          exact ih 0 (l8 + 1) (by omega)
theorem ce_12 (V : VS_ h) (Vg : VS_ g) (A : AGe h g) {a n l1 : Int} (ra : (0 ≤ a ∧ a + n ≤ 48000) ∧ (0 ≤ n ∧ n ≤ 255)) (B : BLK h a n) : ∀ (k : Nat) (l5 l6 : Int), qw_X13_isNamed_12 nn k l1 226 a n l5 l6 g = qw_X13_isNamed_12 nn k l1 226 a n l5 l6 h := by
  intro k
  induction k with
  | zero => intro l5 l6; rfl
  | succ k ih =>
    intro l5 l6
    unfold qw_X13_isNamed_12 qj_X13_isNamed_91
    have z : ∀ (l6 l7 : Int), qw_X13_isNamed_97 nn nn 226 a n l6 l7 0 g = qw_X13_isNamed_97 nn nn 226 a n l6 l7 0 h := fun l6 l7 => ce_97 V Vg A ra B nn l7 0 (by omega)
    simp only [z, ih]
theorem ce_class (V : VS_ h) (Vg : VS_ g) (O : OM h ω) (A : AGe h g) {a n : Int} (ra : (0 ≤ a ∧ a + n ≤ 48000) ∧ (0 ≤ n ∧ n ≤ 255)) (B : BLK h a n) : qf_X13_classNamed nn 226 a n g = qf_X13_classNamed nn 226 a n h := by
  have g98 := gF_160_98 V
  have N : ∀ c : Int, 0 ≤ c → c < 8 + h 160 98 → qf_X13_isNamed nn c 226 a n g = qf_X13_isNamed nn c 226 a n h := fun c c0 c1 => by
    unfold qf_X13_isNamed
    by_cases y : 8 ≤ c
    · rw [if_pos y, if_pos y]
      have W := O (c - 8) (by omega) (by omega)
      have hd : 0 ≤ c - 8 ∧ c - 8 ≤ 7 := by omega
      have hW := wi_e A (c := c - 8) (by omega) W
      have E1 := nm_val (nn := nn) V hd W
      have E2 := nm_val (nn := nn) Vg hd hW
      rw [(A.2 (c - 8) (by omega) (by omega)).2.2.1.2.1] at E2
      rw [show 8 + (c - 8) = c by omega] at E1 E2
      rw [E1, E2, mx_svs, mx_svs]
      obtain ⟨cl, _⟩ := W.2.2.2.2.2.1
      obtain ⟨a1, a2, a3, a4, a5⟩ := wi_cl W hd cl
      obtain ⟨b1, b2, b3, b4, b5⟩ := wi_tx W hd a5.1
      refine cg_rd (fun _ _ => ?_) (fun v46 e46 => ?_)
      · have := (A.2 (c - 8) (by omega) (by omega)).1 (pl (ω (c - 8)) (c - 8) (ω (c - 8) 238 (pl (ω (c - 8)) (c - 8) (h 230 (c - 8).toNat) + 1).toNat) + 1) (by omega) (by omega)
        rw [show 6000 * (c - 8) + (pl (ω (c - 8)) (c - 8) (ω (c - 8) 238 (pl (ω (c - 8)) (c - 8) (h 230 (c - 8).toNat) + 1).toNat) + 1) = 6000 * (c - 8) + pl (ω (c - 8)) (c - 8) (ω (c - 8) 238 (pl (ω (c - 8)) (c - 8) (h 230 (c - 8).toNat) + 1).toNat) + 1 by omega] at this
        exact this
      · rw [b5] at e46
        by_cases q : v46 = n
        · rw [if_neg (show ¬ ¬ v46 = n from fun z => z q), if_neg (show ¬ ¬ v46 = n from fun z => z q)]
          exact ce_184 V Vg A ra (by omega) B nn 1 0 (by omega) (fun _ => ⟨c - 8, by omega, by omega, by omega⟩)
        · rw [if_pos q, if_pos q]
          exact ce_184 V Vg A ra (by omega) B nn 0 0 (by omega) (fun z => absurd rfl z)
    · rw [if_neg y, if_neg y]
      exact ce_12 V Vg A ra B nn (-1) 0
  have L : ∀ (k : Nat) (l : Int), 0 ≤ l → l ≤ 100 → qw_X13_classNamed_3 nn k 226 a n l g = qw_X13_classNamed_3 nn k 226 a n l h := by
    intro k
    induction k with
    | zero => intro l _ _; rfl
    | succ k ih =>
      intro l l0 l1
      unfold qw_X13_classNamed_3
      rw [A.1]
      simp only [xl_v]
      have e1 : oq_add 8 (h 160 98) = 8 + h 160 98 := oq_add_eq (by omega) (by omega) (by omega)
      rw [e1]
      by_cases y : 8 + h 160 98 ≤ l
      · rw [if_pos y, if_pos y]
      · rw [if_neg y, if_neg y, N l l0 (by omega)]
        have e2 : oq_add l 1 = l + 1 := oq_add_eq (by omega) (by omega) (by omega)
        have e3 : qw_X13_classNamed_3 nn k 226 a n (oq_add l 1) g = qw_X13_classNamed_3 nn k 226 a n (oq_add l 1) h := by rw [e2]; exact ih (l + 1) (by omega) (by omega)
        rw [e3]
  unfold qf_X13_classNamed
  exact L nn 0 (by omega) (by omega)
/-- the class that text i of image c says -/
theorem re_classAt (V : VS_ h) (hc : 0 ≤ c ∧ c ≤ 7) (W : WI h c w) {i : Int} (t : TX w c i) : qf_X13_classAtText nn c i h = qf_X13_classNamed nn 226 (6000 * c + pl w c i + 2) (w 238 (pl w c i + 1).toNat) h := by
  obtain ⟨a1, a2, a3, a4, a5⟩ := wi_tx W hc t
  have e1 : oq_mul 6000 c = 6000 * c := oq_mul_eq (by omega) (by omega) (by omega)
  have e2 : oq_mul 256 c = 256 * c := oq_mul_eq (by omega) (by omega) (by omega)
  have e3 : oq_add (256 * c) i = 256 * c + i := oq_add_eq (by omega) (by omega) (by omega)
  have e4 : oq_add (6000 * c) (pl w c i) = 6000 * c + pl w c i := oq_add_eq (by omega) (by omega) (by omega)
  have e5 : oq_add (6000 * c + pl w c i) 2 = 6000 * c + pl w c i + 2 := oq_add_eq (by omega) (by omega) (by omega)
  have e6 : oq_add (6000 * c + pl w c i) 1 = 6000 * c + pl w c i + 1 := oq_add_eq (by omega) (by omega) (by omega)
  have m : ∀ y : Option Int, (mx_sv y fun u13 => some u13) = y := fun y => by cases y <;> rfl
  unfold qf_X13_classAtText
  simp only [xl_v]
  rw [e2, e3, rd_v (by omega), a2, e1, e4, e5, e6, rd_v (by omega), a5, m]
theorem ce_super (V : VS_ h) (Vg : VS_ g) (O : OM h ω) (A : AGe h g) (hk : 0 ≤ k ∧ k < 8 + h 160 98) : qf_X13_superOf nn k g = qf_X13_superOf nn k h := by
  have g98 := gF_160_98 V
  by_cases y : 8 ≤ k
  · have W := O (k - 8) (by omega) (by omega)
    have hd : 0 ≤ k - 8 ∧ k - 8 ≤ 7 := by omega
    have hW := wi_e A (c := k - 8) (by omega) W
    have e231 := (A.2 (k - 8) (by omega) (by omega)).2.2.1.2.2.1
    obtain ⟨_, cl⟩ := W.2.2.2.2.2.1
    obtain ⟨a1, a2, a3, a4, a5⟩ := wi_cl W hd cl
    obtain ⟨b1, b2, b3, b4, b5⟩ := wi_tx W hd a5.1
    have val : ∀ m : ms_M, VS_ m → WI m (k - 8) (ω (k - 8)) → m 231 (k - 8).toNat = h 231 (k - 8).toNat → qf_X13_superOf nn k m = qf_X13_classNamed nn 226 (6000 * (k - 8) + pl (ω (k - 8)) (k - 8) (ω (k - 8) 238 (pl (ω (k - 8)) (k - 8) (h 231 (k - 8).toNat) + 1).toNat) + 2) (ω (k - 8) 238 (pl (ω (k - 8)) (k - 8) (ω (k - 8) 238 (pl (ω (k - 8)) (k - 8) (h 231 (k - 8).toNat) + 1).toNat) + 1).toNat) m := fun m Vm Wm em => by
      have q : ∀ y : Option Int, (mx_sv y fun u13 => some u13) = y := fun y => by cases y <;> rfl
      have s8 : oq_sub k 8 = k - 8 := oq_sub_eq (by omega) (by omega) (by omega)
      unfold qf_X13_superOf
      rw [if_pos y]
      simp only [xl_v]
      rw [s8, rd_v (by omega), em]
      obtain ⟨u, eu, p1, p2⟩ := rv_textOf (nn := nn) Vm hd Wm cl
      rw [eu, mx_svs, q, p1]
      exact re_classAt Vm hd Wm a5.1
    rw [val g Vg hW e231, val h V W rfl]
    exact ce_class V Vg O A (by omega) ⟨k - 8, by omega, by omega, by omega⟩
  · unfold qf_X13_superOf
    rw [if_neg y, if_neg y]
end

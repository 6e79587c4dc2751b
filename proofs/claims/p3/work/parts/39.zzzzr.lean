section
variable {nn : Nat} {h g r z w v x : ms_M} {c d e k : Int}
/-- two memories with the same space -/
def AGd (h g : ms_M) : Prop := (∀ x k : Nat, 226 ≤ x → x ≤ 237 → g x k = h x k) ∧ g 160 98 = h 160 98 ∧ g 900000 0 = h 900000 0
theorem agd_rf : AGd h h := ⟨fun _ _ _ _ => rfl, rfl, rfl⟩
theorem agd_sy (A : AGd h g) : AGd g h := ⟨fun x k a b => (A.1 x k a b).symm, A.2.1.symm, A.2.2.symm⟩
theorem agd_tr (A : AGd h g) (B : AGd g r) : AGd h r := ⟨fun x k a b => (B.1 x k a b).trans (A.1 x k a b), B.2.1.trans A.2.1, B.2.2.trans A.2.2⟩
theorem agd_f (A : AGd h g) {x : Nat} (a : 226 ≤ x) (b : x ≤ 237) : g x = h x := funext fun k => A.1 x k a b
theorem agd_c (A : AGd h g) : AGc h g := ⟨agd_f A (by decide) (by decide), agd_f A (by decide) (by decide), agd_f A (by decide) (by decide), A.2.1, A.2.2⟩
theorem agd_wi (A : AGd h g) (W : WI h c w) : WI g c w := wi_k A.1 W
theorem agd_spd (V : VS_ h) (A : AGd h g) (S : SPD h) : SPD g := spd_k V A.1 A.2.1 S
theorem agd_ny (N : NY h g) : AGd h g := ⟨ny_k N, N 160 98 (by decide) (by decide) (by decide), N 900000 0 (by omega) (by decide) (by decide)⟩
theorem cd_byteAt (A : AGd h g) {p : Int} : qf_X13_byteAt nn c p g = qf_X13_byteAt nn c p h := by
  unfold qf_X13_byteAt
  simp only [rdA_c (agd_c A).1]
theorem cd_textOf (A : AGd h g) {i : Int} : qf_X13_textOfClass nn c i g = qf_X13_textOfClass nn c i h := by
  unfold qf_X13_textOfClass
  simp only [rdA_c (agd_c A).2.1, cd_byteAt A]
theorem cd_classAt (A : AGd h g) {i : Int} : qf_X13_classAtText nn c i g = qf_X13_classAtText nn c i h := by
  unfold qf_X13_classAtText
  simp only [rdA_c (agd_c A).1, rdA_c (agd_c A).2.1, ca_classNamed (agd_c A)]
theorem cd_super (A : AGd h g) : qf_X13_superOf nn k g = qf_X13_superOf nn k h := by
  unfold qf_X13_superOf
  simp only [rdA_c (agd_f A (x := 231) (by decide) (by decide)), cd_textOf A, cd_classAt A]
theorem cd_under (A : AGd h g) {t : Int} : qf_X13_isUnder nn k t g = qf_X13_isUnder nn k t h := by
  have L : ∀ (m : Nat) (l3 l4 : Int), qw_X13_isUnder_5 nn m t l3 l4 g = qw_X13_isUnder_5 nn m t l3 l4 h := by
    intro m
    induction m with
    | zero => intro l3 l4; rfl
    | succ m ih =>
      intro l3 l4
      unfold qw_X13_isUnder_5
      simp only [cd_super A, ih]
  unfold qf_X13_isUnder
  exact L nn k 0
theorem cd_goes (A : AGd h g) {a b : Int} : qf_X13_goes nn a b g = qf_X13_goes nn a b h := by
  have R : qf_X13_isRow nn a g = qf_X13_isRow nn a h := rfl
  have J : qj_X13_goes_53 nn a b g = qj_X13_goes_53 nn a b h := by
    unfold qj_X13_goes_53
    simp only [cd_under A]
  unfold qf_X13_goes
  rw [R, J]
/-- text i of image c and text j of image d are alike -/
def EQT (w : ms_M) (c i : Int) (v : ms_M) (d j : Int) : Prop := w 238 (pl w c i + 1).toNat = v 238 (pl v d j + 1).toNat ∧ ∀ m : Int, 0 ≤ m → m < w 238 (pl w c i + 1).toNat → w 238 (pl w c i + 2 + m).toNat = v 238 (pl v d j + 2 + m).toNat
theorem eqt_sy {i j : Int} (E : EQT w c i v d j) : EQT v d j w c i := ⟨E.1.symm, fun m a b => (E.2 m a (by rw [E.1]; exact b)).symm⟩
theorem eqt_rf {i : Int} : EQT w c i w c i := ⟨rfl, fun _ _ _ => rfl⟩
theorem eqt_tr {i j l : Int} (E : EQT w c i v d j) (F : EQT v d j x e l) : EQT w c i x e l := ⟨E.1.trans F.1, fun m a b => (E.2 m a b).trans (F.2 m a (by rw [← E.1]; exact b))⟩
/-- sameText tells whether they are alike -/
theorem rt_same (hn : 1000000 ≤ nn) (V : VS_ h) (hc : 0 ≤ c ∧ c ≤ 7) (hd : 0 ≤ d ∧ d ≤ 7) (W : WI h c w) (X : WI h d v) {i j : Int} (t : TX w c i) (s : TX v d j) : Ok_ (qf_X13_sameText nn c i d j h) (fun u => (u = 1 ∧ EQT w c i v d j) ∨ (u = 0 ∧ ¬ EQT w c i v d j)) := by
  obtain ⟨a1, a2, a3, a4, a5⟩ := wi_tx W hc t
  obtain ⟨b1, b2, b3, b4, b5⟩ := wi_tx X hd s
  have L : ∀ (l5 l6 n : Int), (0 ≤ l5 ∧ l5 + 2 + n ≤ 48000) → (1 ≤ n ∧ n ≤ 120) → h 226 (l5 + 1).toNat = n → (0 ≤ l6) → ∀ (m : Nat) (l7 l8 : Int), (l7 = 0 ∨ (l7 = 1 ∧ l6 + 2 + n ≤ 48000)) → (¬ l7 = 0 → ∀ q : Int, 0 ≤ q → q < l8 → h 226 (l5 + 2 + q).toNat = h 226 (l6 + 2 + q).toNat) → (0 ≤ l8 ∧ l8 ≤ n) → n - l8 < (m : Int) → Ok_ (qw_X13_sameText_72 nn m l5 l6 l7 l8 h) (fun u => (u = 0 ∧ (l7 = 0 ∨ ∃ q : Int, (0 ≤ q ∧ q < n) ∧ ¬ h 226 (l5 + 2 + q).toNat = h 226 (l6 + 2 + q).toNat)) ∨ (u = 1 ∧ l7 = 1 ∧ ∀ q : Int, 0 ≤ q → q < n → h 226 (l5 + 2 + q).toNat = h 226 (l6 + 2 + q).toNat)) := by
    intro l5 l6 n p1 p2 p3 p4 m
    induction m with
    | zero => intro l7 l8 a y b hm; exfalso; omega
    | succ m ih =>
      intro l7 l8 a y b hm
      have a' : l7 = 0 ∨ l7 = 1 := by omega
      unfold qw_X13_sameText_72
      refine ok_add (by omega) ?_; intro v2 e2
      refine ok_rd (by omega) (gA_226 V) ?_; intro v3 e3 _ _
      rw [e2, p3] at e3
      refine ok_if (fun C => ok_ck a' (ok_ret ?_)) (fun C => ?_)
      · rcases a' with a' | a'
        · exact .inl ⟨a', .inl a'⟩
        · exact .inr ⟨a', a', fun q q1 q2 => y (by omega) q q1 (by omega)⟩
      refine ok_if (fun D => ok_ck a' (ok_ret (.inl ⟨D, .inl D⟩))) (fun D => ?_)
      refine ok_add (by omega) ?_; intro v7 e7
      refine ok_add (by omega) ?_; intro v8 e8
      refine ok_rd (by omega) (gA_226 V) ?_; intro v9 e9 _ _
      refine ok_add (by omega) ?_; intro v11 e11
      refine ok_add (by omega) ?_; intro v12 e12
      refine ok_rd (by omega) (gA_226 V) ?_; intro v13 e13 _ _
      refine ok_if (fun E => ?_) (fun E => ?_)
      · refine ok_add (by omega) ?_; intro v14 e14
        refine ok_im (ih 0 v14 (.inl rfl) (fun z => absurd rfl z) (by omega) (by omega)) (fun u P => .inl ⟨?_, .inr ⟨l8, by omega, ?_⟩⟩)
        · rcases P with P | P
          · exact P.1
          · have := P.2.1; exfalso; omega
        · rw [show l5 + 2 + l8 = v8 by omega, show l6 + 2 + l8 = v12 by omega, ← e9, ← e13]; exact E
      · have E : v9 = v13 := Decidable.not_not.1 E
        refine ok_add (by omega) ?_; intro v15 e15
        refine ok_im (ih 1 v15 (.inr ⟨rfl, by omega⟩) (fun _ q q1 q2 => ?_) (by omega) (by omega)) (fun u P => ?_)
        · by_cases q0 : q = l8
          · rw [q0, show l5 + 2 + l8 = v8 by omega, show l6 + 2 + l8 = v12 by omega, ← e9, ← e13]; exact E
          · exact y D q q1 (by omega)
        · rcases P with P | P
          · rcases P.2 with q | q
            · exfalso; omega
            · exact .inl ⟨P.1, .inr q⟩
          · exact .inr ⟨P.1, by omega, P.2.2⟩
  unfold qf_X13_sameText
  refine ok_mul (by omega) ?_; intro v19 e19
  refine ok_mul (by omega) ?_; intro v21 e21
  refine ok_add (by omega) ?_; intro v22 e22
  refine ok_rd (by omega) (gA_228 V) ?_; intro v23 e23 _ _
  rw [e22, e21, a2] at e23
  refine ok_add (by omega) ?_; intro v24 e24
  refine ok_mul (by omega) ?_; intro v25 e25
  refine ok_mul (by omega) ?_; intro v27 e27
  refine ok_add (by omega) ?_; intro v28 e28
  refine ok_rd (by omega) (gA_228 V) ?_; intro v29 e29 _ _
  rw [e28, e27, b2] at e29
  refine ok_add (by omega) ?_; intro v30 e30
  refine ok_add (by omega) ?_; intro v32 e32
  refine ok_rd (by omega) (gA_226 V) ?_; intro v33 e33 _ _
  rw [show v32 = 6000 * c + pl w c i + 1 by omega, a5] at e33
  refine ok_add (by omega) ?_; intro v35 e35
  refine ok_rd (by omega) (gA_226 V) ?_; intro v36 e36 _ _
  rw [show v35 = 6000 * d + pl v d j + 1 by omega, b5] at e36
  have p3 : h 226 (v24 + 1).toNat = v33 := by rw [show v24 + 1 = 6000 * c + pl w c i + 1 by omega, a5, e33]
  refine ok_if (fun D => ok_im (L v24 v30 v33 (by omega) (by omega) p3 (by omega) nn 0 0 (.inl rfl) (fun z => absurd rfl z) (by omega) (by omega)) (fun u P => ?_)) (fun D => ?_)
  · rcases P with P | P
    · exact .inr ⟨P.1, fun y => D (by have := y.1; omega)⟩
    · have := P.2.1; exfalso; omega
  have D : v33 = v36 := Decidable.not_not.1 D
  have tr : ∀ m : Int, 0 ≤ m → m < v33 → (h 226 (v24 + 2 + m).toNat = w 238 (pl w c i + 2 + m).toNat ∧ h 226 (v30 + 2 + m).toNat = v 238 (pl v d j + 2 + m).toNat) := fun m m1 m2 => by
    rw [show v24 + 2 + m = 6000 * c + (pl w c i + 2 + m) by omega, show v30 + 2 + m = 6000 * d + (pl v d j + 2 + m) by omega, W.2.2.1 _ (by omega) (by omega), X.2.2.1 _ (by omega) (by omega)]
    exact ⟨rfl, rfl⟩
  refine ok_im (L v24 v30 v33 (by omega) (by omega) p3 (by omega) nn 1 0 (.inr ⟨rfl, by omega⟩) (fun _ q q1 q2 => by exfalso; omega) (by omega) (by omega)) (fun u P => ?_)
  rcases P with P | P
  · refine .inr ⟨P.1, fun y => ?_⟩
    rcases P.2 with q | ⟨q, q1, q2⟩
    · exfalso; omega
    · have t := tr q q1.1 q1.2
      exact q2 (t.1.trans ((y.2 q q1.1 (by omega)).trans t.2.symm))
  · exact .inl ⟨P.1, by omega, fun m m1 m2 => by
      have t := tr m m1 (by omega)
      exact t.1.symm.trans ((P.2.2 m m1 (by omega)).trans t.2)⟩
/-- the images of the space, as they were read -/
def OM (h : ms_M) (ω : Int → ms_M) : Prop := ∀ d : Int, 0 ≤ d → d < h 160 98 → WI h d (ω d)
theorem om_of (V : VS_ h) (S : SPD h) : ∃ ω : Int → ms_M, OM h ω := by
  have g98 := gF_160_98 V
  have L : ∀ d : Int, ∃ w : ms_M, 0 ≤ d → d < h 160 98 → WI h d w := fun d => by
    by_cases y : 0 ≤ d ∧ d < h 160 98
    · obtain ⟨w, W⟩ := wi_of (by omega) (S d y.1 y.2).2
      exact ⟨w, fun _ _ => W⟩
    · exact ⟨h, fun a b => absurd ⟨a, b⟩ y⟩
  exact ⟨fun d => Classical.choose (L d), fun d a b => Classical.choose_spec (L d) a b⟩
theorem om_k {ω : Int → ms_M} (A : AGd h g) (O : OM h ω) : OM g ω := fun d a b => agd_wi A (O d a (by rw [← A.2.1]; exact b))
/-- the name and the kind of member j of image d -/
def nmT (h : ms_M) (ω : Int → ms_M) (d s j : Int) : Int := if s = 0 then ω d 238 (h 233 (12 * d + j).toNat).toNat else ω d 238 (h 235 (12 * d + j).toNat + 1).toNat
def kdT (h : ms_M) (ω : Int → ms_M) (d s j : Int) : Int := if s = 0 then ω d 238 (h 233 (12 * d + j).toNat + 1).toNat else ω d 238 (h 235 (12 * d + j).toNat + 2).toNat
/-- member j of image d has the name that text i of image c says -/
def MTc (h : ms_M) (ω : Int → ms_M) (w : ms_M) (c i s d j : Int) : Prop := EQT (ω d) d (nmT h ω d s j) w c i
/-- where a member is looked up: from class k up, at most m classes; found in class u, member j -/
def HSn (nn : Nat) (h : ms_M) (ω : Int → ms_M) (w : ms_M) (c i s : Int) : Nat → Int → Int → Int → Prop
  | 0, _, u, _ => u = -1
  | m + 1, k, u, j => (k = -1 ∧ u = -1) ∨ (¬ k = -1 ∧ ((8 ≤ k ∧ u = k ∧ (0 ≤ j ∧ j < mem h (k - 8) s) ∧ MTc h ω w c i s (k - 8) j ∧ ∀ l : Int, 0 ≤ l → l < j → ¬ MTc h ω w c i s (k - 8) l) ∨ ((8 ≤ k → ∀ l : Int, 0 ≤ l → l < mem h (k - 8) s → ¬ MTc h ω w c i s (k - 8) l) ∧ ∃ y : Int, qf_X13_superOf nn k h = some y ∧ HSn nn h ω w c i s m y u j)))
/-- holder tells where -/
theorem rt_holder {ω : Int → ms_M} (hn : 1000000 ≤ nn) (V : VS_ h) (S : SPD h) (O : OM h ω) (hc : 0 ≤ c ∧ c ≤ 7) (W : WI h c w) {f i s : Int} (hf : -1 ≤ f ∧ f < 8 + h 160 98) (t : TX w c i) : Ok_ (qf_X13_holder nn f c i s h) (fun u => ∃ j : Int, HSn nn h ω w c i s 17 f u.1 j ∧ ((u.1 = -1 ∧ u.2 = h) ∨ ((8 ≤ u.1 ∧ u.1 < 8 + h 160 98) ∧ (0 ≤ j ∧ j < mem h (u.1 - 8) s) ∧ u.2 = up_M h 160 121 j))) := by
  have g98 := gF_160_98 V
  have L : ∀ (k : Nat) (n : Nat) (l5 l6 : Int), (-1 ≤ l5 ∧ l5 < 8 + h 160 98) → 0 ≤ l6 → l6 + n = 17 → (n : Int) < k → Ok_ (qw_X13_holder_6 nn k c i s l5 l6 h) (fun u => ∃ j : Int, HSn nn h ω w c i s n l5 u.1 j ∧ ((u.1 = -1 ∧ u.2 = h) ∨ ((8 ≤ u.1 ∧ u.1 < 8 + h 160 98) ∧ (0 ≤ j ∧ j < mem h (u.1 - 8) s) ∧ u.2 = up_M h 160 121 j))) := by
    intro k
    induction k with
    | zero => intro n l5 l6 a b b2 hm; exfalso; omega
    | succ k ih =>
      intro n l5 l6 a b b2 hm
      unfold qw_X13_holder_6
      cases n with
      | zero =>
        rw [if_pos (show 16 < l6 by omega)]
        exact ok_ret ⟨0, rfl, .inl ⟨rfl, rfl⟩⟩
      | succ n =>
      rw [if_neg (show ¬ 16 < l6 by omega)]
      refine ok_if (fun B => ok_ret ⟨0, .inl ⟨B, rfl⟩, .inl ⟨rfl, rfl⟩⟩) (fun B => ?_)
      have J : (8 ≤ l5 → ∀ l : Int, 0 ≤ l → l < mem h (l5 - 8) s → ¬ MTc h ω w c i s (l5 - 8) l) → Ok_ (qj_X13_holder_148 nn (qw_X13_holder_6 nn k) c i s l5 l6 h) (fun u => ∃ j : Int, HSn nn h ω w c i s (n + 1) l5 u.1 j ∧ ((u.1 = -1 ∧ u.2 = h) ∨ ((8 ≤ u.1 ∧ u.1 < 8 + h 160 98) ∧ (0 ≤ j ∧ j < mem h (u.1 - 8) s) ∧ u.2 = up_M h 160 121 j))) := fun no => by
        unfold qj_X13_holder_148
        obtain ⟨y, ey, P2⟩ := rv_super hn V S (k := l5) (by omega)
        rw [ey, mx_svs]
        refine ok_add (by omega) ?_; intro v3 e3
        refine ok_im (ih n y v3 P2 (by omega) (by omega) (by omega)) (fun u P => ?_)
        obtain ⟨j, P1, P2⟩ := P
        exact ⟨j, .inr ⟨B, .inr ⟨no, y, ey, P1⟩⟩, P2⟩
      refine ok_if (fun C => J (fun y => by exfalso; omega)) (fun C => ?_)
      refine ok_sub (by omega) ?_; intro v24 e24
      have hd : 0 ≤ v24 ∧ v24 ≤ 7 := by omega
      have X := O v24 (by omega) (by omega)
      have M : ∀ (m : Nat) (l8 l9 : Int), l8 = mem h v24 s → (0 ≤ l9 ∧ l9 ≤ 255) → (∀ l : Int, 0 ≤ l → l < l9 → ¬ MTc h ω w c i s v24 l) → 256 - l9 < (m : Int) → Ok_ (qw_X13_holder_60 nn (qw_X13_holder_6 nn k) m c i s l5 l6 v24 l8 l9 h) (fun u => ∃ j : Int, HSn nn h ω w c i s (n + 1) l5 u.1 j ∧ ((u.1 = -1 ∧ u.2 = h) ∨ ((8 ≤ u.1 ∧ u.1 < 8 + h 160 98) ∧ (0 ≤ j ∧ j < mem h (u.1 - 8) s) ∧ u.2 = up_M h 160 121 j))) := by
        intro m
        induction m with
        | zero => intro l8 l9 p q no hm2; exfalso; omega
        | succ m ih2 =>
          intro l8 l9 p q no hm2
          unfold qw_X13_holder_60
          refine ok_if (fun D => J (fun _ l l1 l2 => ?_)) (fun D => ?_)
          · rw [← e24] at l2 ⊢
            exact no l l1 (by omega)
          have T : ∀ y : Int, y = nmT h ω v24 s l9 → TS 0 (ω v24) v24 y → l9 < 12 → Ok_ (qj_X13_holder_115 nn (qw_X13_holder_6 nn k) (qw_X13_holder_60 nn (qw_X13_holder_6 nn k) m) c i s l5 l6 v24 l8 l9 y h) (fun u => ∃ j : Int, HSn nn h ω w c i s (n + 1) l5 u.1 j ∧ ((u.1 = -1 ∧ u.2 = h) ∨ ((8 ≤ u.1 ∧ u.1 < 8 + h 160 98) ∧ (0 ≤ j ∧ j < mem h (u.1 - 8) s) ∧ u.2 = up_M h 160 121 j))) := fun y ey ty l12 => by
            unfold qj_X13_holder_115
            refine ok_sv (rt_same hn V hd hc X W ty.1 t) ?_; intro u5 P5
            rw [ey] at P5
            refine ok_if (fun F => ?_) (fun F => ?_)
            · have mt : MTc h ω w c i s v24 l9 := by
                rcases P5 with P5 | P5
                · exact P5.2
                · exact absurd P5.1 F
              refine ok_xl ?_; intro h6 E6
              have lm : 0 ≤ l9 ∧ l9 < mem h v24 s := by omega
              refine ok_ret ⟨l9, .inr ⟨B, .inl ?_⟩, .inr ⟨by show 8 ≤ l5 ∧ l5 < _; omega, ?_, E6⟩⟩
              · rw [← e24]
                exact ⟨by omega, rfl, lm, mt, no⟩
              · show 0 ≤ l9 ∧ l9 < mem h (l5 - 8) s
                rw [← e24]; exact lm
            · refine ok_add (by omega) ?_; intro v7 e7
              refine ih2 l8 v7 p (by omega) (fun l l1 l2 => ?_) (by omega)
              by_cases q0 : l = l9
              · rw [q0]
                rcases P5 with P5 | P5
                · exfalso; have := P5.1; omega
                · exact P5.2
              · exact no l l1 (by omega)
          refine ok_if (fun E => ?_) (fun E => ?_)
          · have p2 : l8 = h 232 v24.toNat := p.trans (if_pos E)
            obtain ⟨k12, e, pb, t0, t1⟩ := wi_fd X hd (k := l9) (by omega)
            have g3 := gF_160_113 X.1
            refine ok_mul (by omega) ?_; intro v10 e10
            refine ok_add (by omega) ?_; intro v11 e11
            refine ok_rd (by omega) (gA_233 V) ?_; intro v12 e12 _ _
            rw [e11, e10] at e12
            rw [← e12] at pb t0
            refine ok_sv (rv_byte V hd (by omega)) ?_; intro u14 P14
            have q14 : u14 = ω v24 238 v12.toNat := by rw [P14.1, X.2.2.1 v12 (by omega) (by omega)]
            refine T u14 ?_ (by rw [q14]; exact t0) k12
            rw [nmT, if_pos E, q14, e12]
          · have p2 : l8 = h 234 v24.toNat := p.trans (if_neg E)
            obtain ⟨k12, bb, mm⟩ := wi_mt X hd (k := l9) (by omega)
            have t0 := (mth_tx mm).1
            refine ok_mul (by omega) ?_; intro v10 e10
            refine ok_add (by omega) ?_; intro v11 e11
            refine ok_rd (by omega) (gA_235 V) ?_; intro v12 e12 _ _
            rw [e11, e10] at e12
            rw [← e12] at bb t0
            refine ok_add (by omega) ?_; intro v19 e19
            refine ok_sv (rv_byte V hd (by omega)) ?_; intro u14 P14
            have q14 : u14 = ω v24 238 (v12 + 1).toNat := by rw [P14.1, X.2.2.1 v19 (by omega) (by omega), e19]
            refine T u14 ?_ (by rw [q14]; exact t0) k12
            rw [nmT, if_neg E, q14, e12]
      refine ok_if (fun E => ?_) (fun E => ?_)
      · refine ok_rd (by omega) (gA_232 V) ?_; intro v26 e26 _ _
        exact M nn v26 0 (by rw [e26]; exact (if_pos E).symm) (by omega) (fun l l1 l2 => by exfalso; omega) (by omega)
      · refine ok_rd (by omega) (gA_234 V) ?_; intro v26 e26 _ _
        exact M nn v26 0 (by rw [e26]; exact (if_neg E).symm) (by omega) (fun l l1 l2 => by exfalso; omega) (by omega)
  unfold qf_X13_holder
  exact L nn 17 f 0 hf (by omega) (by omega) (by omega)
end

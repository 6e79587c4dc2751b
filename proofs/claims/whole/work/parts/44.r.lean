/- KINDS as texts: how long they are, by the TEXT -/
def WRD (k : Int) : Prop := k = 2 ∨ k = 3 ∨ (10 ≤ k ∧ k ≤ 31)
/-- tokens and their widths -/
def WPo (K P D : Nat → Int) (c : Nat) : Prop := ∀ i : Nat, i + 1 < c → 1 ≤ D i ∧ P i + D i ≤ P (i + 1) ∧ (WRD (K i) → WRD (K (i + 1)) → P i + D i + 1 ≤ P (i + 1))
/-- the text of a method's kind -/
def mk_L (W : Nat → List Int) (h : ms_M) (x : Nat) : List Int := ((40 :: kz_L W (fun i => h 29 (6 * x + i)) (h 27 x).toNat) ++ [41]) ++ kd_L W (h 24 x)
def su_T (f : Nat → Nat) : Nat → Nat
  | 0 => 0
  | m + 1 => su_T f m + f m
/-- letters of the fields' kinds, of the methods' kinds, as far as member m -/
def fl_T (W : Nat → List Int) (h r : ms_M) (m x : Nat) : Nat := if x % 12 < mcn_T r ((x / 12 : Nat) : Int) 0 m then (kd_L W (h 19 x)).length else 0
def ml_T (W : Nat → List Int) (h r : ms_M) (m x : Nat) : Nat := if x % 12 < mcn_T r ((x / 12 : Nat) : Int) 1 m then (mk_L W h x).length else 0
/-- letters of the own classes' rows -/
def al_T (W : Nat → List Int) (k : Nat) : Nat := (W (8 + k)).length + 3
section
variable {nn : Nat} {K P V U D : Nat → Int} {C : Nat → Nat} {c n N mt : Nat} {q : Int} {h g r w u v h0 r0 : ms_M} {L : List Int} {W : Nat → List Int}
theorem su_e {f g : Nat → Nat} : ∀ m : Nat, (∀ i, i < m → f i = g i) → su_T f m = su_T g m := by
  intro m
  induction m with
  | zero => intro _; rfl
  | succ m ih =>
    intro A
    show su_T f m + f m = su_T g m + g m
    rw [ih (fun i hi => A i (by omega)), A m (by omega)]
theorem su_u {f g : Nat → Nat} {x d : Nat} (ex : g x = f x + d) (A : ∀ i, ¬ i = x → g i = f i) : ∀ m : Nat, x < m → su_T g m = su_T f m + d := by
  intro m
  induction m with
  | zero => intro y; omega
  | succ m ih =>
    intro y
    show su_T g m + g m = su_T f m + f m + d
    by_cases z : x = m
    · rw [su_e m (fun i hi => A i (by omega)), ← z, ex]; omega
    · rw [ih (by omega), A m (by omega)]; omega
theorem su_m {f : Nat → Nat} : ∀ (d m : Nat), su_T f m ≤ su_T f (m + d) := by
  intro d
  induction d with
  | zero => intro m; exact Nat.le_refl _
  | succ d ih => intro m; have := ih m; show _ ≤ su_T f (m + d) + f (m + d); omega
/-- places grow -/
theorem wp_1 (WP : WPo K P D c) : ∀ (d i : Nat), i + d < c → P i + d ≤ P (i + d) := by
  intro d
  induction d with
  | zero => intro i _; exact Int.le_of_eq (by rw [Nat.add_zero]; exact Int.add_zero _)
  | succ d ih =>
    intro i hi
    have a := ih i (by omega)
    have b := WP (i + d) (by omega)
    rw [show i + (d + 1) = i + d + 1 by omega]
    omega
theorem wp_2 (WP : WPo K P D c) {i j : Nat} (ij : i ≤ j) (hj : j < c) : P i + ((j : Int) - i) ≤ P j := by
  have a := wp_1 WP (j - i) i (by omega)
  rw [show i + (j - i) = j by omega] at a
  omega
/-- a type and the name behind it are at least as long as the kind -/
theorem a_ty (BK : TBn K c) (WP : WPo K P D c) (HL : ∀ i : Nat, K i = 2 → ∀ cl : Int, CLz (fun k => V (C k)) n (V i) cl → ¬ cl = -1 → ((W cl.toNat).length : Int) = D i ∧ 0 ≤ cl ∧ cl < 16) {p t bs rw ty : Int} (hp : 0 ≤ p) (T : TYk K p t bs rw) (kt : K t.toNat = 2) (S : TYS V C n p bs rw ty) : ((kd_L W ty).length : Int) ≤ P (t + 1).toNat - P p.toNat ∨ ¬ (t + 1).toNat < c := by
  by_cases lc : (t + 1).toNat < c
  · refine .inl ?_
    have tb := tyk_b T
    have w0 := WP p.toNat (by omega)
    have wt := WP t.toNat (by omega)
    rw [show t.toNat + 1 = (t + 1).toNat by omega] at wt
    rw [show p.toNat + 1 = (p + 1).toNat by omega] at w0
    rcases S with ⟨s1, s2⟩ | ⟨s1, s2, s3⟩ | ⟨s1, s2, s3⟩ | ⟨s1, s2⟩ | ⟨s1, cl, s2, s3, s4⟩
    · have kl : (kd_L W ty).length = 1 := by unfold kd_L; rw [if_neg (by omega), if_pos s2]; rfl
      have m := wp_2 WP (i := p.toNat) (j := t.toNat) (by omega) (by omega)
      omega
    · have kl : (kd_L W ty).length = 1 := by unfold kd_L; rw [if_pos s3]; rfl
      have m := wp_2 WP (i := p.toNat) (j := t.toNat) (by omega) (by omega)
      omega
    · have kl : (kd_L W ty).length = 2 := by unfold kd_L; rw [if_neg (by omega), if_neg (by omega), if_neg (by omega), if_pos s3]; rfl
      have m := wp_2 WP (i := p.toNat) (j := t.toNat) (by omega) (by omega)
      omega
    · omega
    · have k2 : K p.toNat = 2 := by have := tb.1; omega
      obtain ⟨l1, l2, l3⟩ := HL p.toNat k2 cl s2 s3
      rcases s4 with ⟨r1, r2⟩ | ⟨r1, r2⟩
      · have kl : (kd_L W ty).length = (W cl.toNat).length + 2 := by
          unfold kd_L
          rw [if_neg (by omega), if_neg (by omega), if_neg (by omega), if_neg (by omega), if_pos (by omega), List.length_append, r2]; rfl
        have t1 : t = p + 1 := by
          unfold TYk at T
          omega
        have e9 : P (t + 1).toNat = P (p + 1 + 1).toNat := by rw [t1]
        rw [t1] at kt wt
        have w1 := w0.2.2 (.inl k2) (.inl kt)
        omega
      · have kl : (kd_L W ty).length = (W cl.toNat).length + 3 := by
          unfold kd_L
          rw [if_neg (by omega), if_neg (by omega), if_neg (by omega), if_neg (by omega), if_neg (by omega), List.length_append, r2, show (100 + cl - 100).toNat = cl.toNat by omega]; rfl
        have t1 : t = p + 3 := by
          unfold TYk at T
          omega
        have m := wp_2 WP (i := (p + 1).toNat) (j := t.toNat) (by omega) (by omega)
        omega
  · exact .inr lc
theorem a_prl (BK : TBn K c) (WP : WPo K P D c) (HL : ∀ i : Nat, K i = 2 → ∀ cl : Int, CLz (fun k => V (C k)) n (V i) cl → ¬ cl = -1 → ((W cl.toNat).length : Int) = D i ∧ 0 ≤ cl ∧ cl < 16) {xe : Int} (xc : xe.toNat < c) {b : Nat} {f : Nat → Int} : ∀ (d i : Nat) (p : Int), 0 ≤ p → PRL K r d ((b + i : Nat) : Int) p xe → (∀ j : Nat, i ≤ j → j < i + d → TYS V C n (r 192 (b + j)) (r 191 (b + j)) (r 193 (b + j)) (f j)) → ((kz_L W f (i + d)).length : Int) ≤ (kz_L W f i).length + (P xe.toNat - P p.toNat) := by
  intro d
  induction d with
  | zero =>
    intro i p hp H _
    have e : xe = p := H
    rw [e, Nat.add_zero]; omega
  | succ d ih =>
    intro i p hp H A
    have pe := (prl_n (d + 1) (b + i) p hp H).1
    obtain ⟨t, bs, rw, T, R, kt, H2⟩ := H
    rw [Int.toNat_natCast] at R
    have tb := tyk_b T
    have s := A i (by omega) (by omega)
    rw [R.1, R.2.1, R.2.2.1] at s
    have k1 : (kz_L W f (i + 1)).length = (kz_L W f i).length + (kd_L W (f i)).length := by
      show (kz_L W f i ++ kd_L W (f i)).length = _
      rw [List.length_append]
    rcases H2 with ⟨d0, x1⟩ | ⟨d0, k47, H3⟩
    · rcases a_ty BK WP HL hp T kt s with a | a
      · rw [show i + (d + 1) = i + 1 by omega, k1, x1]; omega
      · exact absurd (by rw [← x1]; exact xc) a
    · have q := ih (i + 1) (t + 2) (by omega) (by rw [show ((b + (i + 1) : Nat) : Int) = ((b + i : Nat) : Int) + 1 by omega]; exact H3) (fun j h1 h2 => A j (by omega) (by omega))
      have pe2 := (prl_n d (b + (i + 1)) (t + 2) (by omega) (by rw [show ((b + (i + 1) : Nat) : Int) = ((b + i : Nat) : Int) + 1 by omega]; exact H3)).1
      have w1 := WP (t + 1).toNat (by omega)
      rw [show (t + 1).toNat + 1 = (t + 2).toNat by omega] at w1
      rw [show i + (d + 1) = i + 1 + d by omega]
      rcases a_ty BK WP HL hp T kt s with a | a
      · omega
      · exact absurd (tb_lt BK (by omega)) a
/-- the letters of one member's kind, and where its text ends -/
theorem a_mem (BK : TBn K c) (WP : WPo K P D c) (HL : ∀ i : Nat, K i = 2 → ∀ cl : Int, CLz (fun k => V (C k)) n (V i) cl → ¬ cl = -1 → ((W cl.toNat).length : Int) = D i ∧ 0 ≤ cl ∧ cl < 16) (M : MTB V C n mt q h r) {m k : Nat} {p p2 a b : Int} (hm : m < mt) (hk : k < 8) (hp : 0 ≤ p) (R : RMB K r (m : Int) p p2 a b) (e181 : r 181 m = (k : Int)) (hb : 0 ≤ r 188 m) (p2c : p2.toNat < c) : p ≤ p2 ∧ ((MSm r k 0 m ∧ ((kd_L W (h 19 (12 * k + mcn_T r k 0 m))).length : Int) ≤ P p2.toNat - P p.toNat) ∨ (MSm r k 1 m ∧ ((mk_L W h (12 * k + mcn_T r k 1 m)).length : Int) ≤ P p2.toNat - P p.toNat)) := by
  obtain ⟨p1, t, bs, rw, hp1, hty, ⟨r183, r184, r185, r186, kt⟩, alt⟩ := R
  rw [Int.toNat_natCast] at r183 r184 r185 r186 alt
  -- type and name
  have TN : ∀ ty : Int, TYS V C n (r 184 m) (r 183 m) (r 185 m) ty → (t + 1).toNat < c → p1 + 1 ≤ t ∧ ((kd_L W ty).length : Int) ≤ P (t + 1).toNat - P p1.toNat := fun ty s tc => by
    rw [r183, r184, r185] at s
    rcases hty with ⟨x1, x2, x3, x4⟩ | ⟨x1, T⟩
    · have kl : (kd_L W ty).length = 1 := by
        rcases s with ⟨s1, s2⟩ | ⟨s1, s2, s3⟩ | ⟨s1, s2, s3⟩ | ⟨s1, s2⟩ | ⟨s1, _⟩
        · omega
        · omega
        · omega
        · unfold kd_L; rw [if_neg (by omega), if_neg (by omega), if_pos s2]; rfl
        · omega
      have m := wp_2 WP (i := p1.toNat) (j := (t + 1).toNat) (by omega) tc
      exact ⟨by omega, by omega⟩
    · have tb := tyk_b T
      rcases a_ty BK WP HL (by clear alt; omega) T kt s with a | a
      · exact ⟨by omega, a⟩
      · exact absurd tc a
  have p1p : p ≤ p1 ∧ p1 ≤ p + 1 := by clear alt; omega
  have pm : p1.toNat < c → P p.toNat ≤ P p1.toNat := fun z => by
    have := wp_2 WP (i := p.toNat) (j := p1.toNat) (by omega) z
    omega
  rcases alt with ⟨a1, a2, a3, a4, a5⟩ | ⟨tn, xe, a1, a2, a3, a4, a5, a6, a7⟩
  · have F : MSm r k 0 m := ⟨e181, .inr ⟨by omega, rfl⟩⟩
    have mb := M.2.1 m k hm hk F
    have tc := tb_lt BK (i := (t + 1).toNat) (by omega)
    have x := TN _ mb.2.2.2 tc
    have y := pm (by omega)
    have z := wp_2 WP (i := (t + 1).toNat) (j := p2.toNat) (by omega) p2c
    exact ⟨by omega, .inl ⟨F, by omega⟩⟩
  · have F : MSm r k 1 m := ⟨e181, .inl ⟨by omega, rfl⟩⟩
    have mb := M.2.2.1 m k hm hk F
    have tc := tb_lt BK (i := (t + 1).toNat) (by omega)
    have x := TN _ mb.2.2.2.2.2 tc
    have y := pm (by omega)
    have xc := tb_lt BK (i := xe.toNat) (by omega)
    have bz := (lk_bl a7).1.1
    obtain ⟨b0, eb⟩ : ∃ b0 : Nat, r 188 m = (b0 : Int) := ⟨(r 188 m).toNat, by omega⟩
    rw [eb] at a5
    have px := (prl_n tn b0 (t + 2) (by omega) a5).1
    have pr := a_prl (f := fun i => h 29 (6 * (12 * k + mcn_T r k 1 m) + i)) (b := b0) BK WP HL xc tn 0 (t + 2) (by omega) a5 (fun j h1 h2 => by
      have e := (mb.2.2.2.1 j (by omega)).2.2.2
      rw [eb, Int.toNat_natCast] at e
      exact e)
    rw [Nat.zero_add] at pr
    have k0 : (kz_L W (fun i => h 29 (6 * (12 * k + mcn_T r k 1 m) + i)) 0).length = 0 := rfl
    have e27 : (h 27 (12 * k + mcn_T r k 1 m)).toNat = tn := by have := mb.2.2.1.1; omega
    have ml : (mk_L W h (12 * k + mcn_T r k 1 m)).length = (kz_L W (fun i => h 29 (6 * (12 * k + mcn_T r k 1 m) + i)) tn).length + 2 + (kd_L W (h 24 (12 * k + mcn_T r k 1 m))).length := by
      unfold mk_L
      rw [List.length_append, List.length_append, e27]; rfl
    have w1 := WP (t + 1).toNat (by omega)
    rw [show (t + 1).toNat + 1 = (t + 2).toNat by omega] at w1
    have w2 := WP xe.toNat (by omega)
    rw [show xe.toNat + 1 = (xe + 1).toNat by omega] at w2
    have z := wp_2 WP (i := (xe + 1).toNat) (j := p2.toNat) (by omega) p2c
    exact ⟨by omega, .inr ⟨F, by omega⟩⟩
/-- one more member -/
theorem a_one {m k : Nat} (hk : k < 8) {s : Int} (F : MSm r k s m) (c12 : mcn_T r k s m < 12) : (s = 0 → su_T (fl_T W h r (m + 1)) 96 = su_T (fl_T W h r m) 96 + (kd_L W (h 19 (12 * k + mcn_T r k 0 m))).length ∧ su_T (ml_T W h r (m + 1)) 96 = su_T (ml_T W h r m) 96) ∧ (s = 1 → su_T (ml_T W h r (m + 1)) 96 = su_T (ml_T W h r m) 96 + (mk_L W h (12 * k + mcn_T r k 1 m)).length ∧ su_T (fl_T W h r (m + 1)) 96 = su_T (fl_T W h r m) 96) := by
  have OT : ∀ (s2 : Int) (x : Nat), ¬ (s2 = s ∧ x / 12 = k) → mcn_T r ((x / 12 : Nat) : Int) s2 (m + 1) = mcn_T r ((x / 12 : Nat) : Int) s2 m := fun s2 x z => mcn_n (fun y => z (by have := msm_u F y; omega))
  refine ⟨fun s0 => ?_, fun s1 => ?_⟩
  · subst s0
    refine ⟨su_u (x := 12 * k + mcn_T r k 0 m) ?_ (fun i hi => ?_) 96 (by omega), su_e 96 (fun i _ => ?_)⟩
    · unfold fl_T
      rw [show (12 * k + mcn_T r k 0 m) / 12 = k by omega, show (12 * k + mcn_T r k 0 m) % 12 = mcn_T r k 0 m by omega, mcn_s F, if_pos (by omega), if_neg (by omega)]
      omega
    · unfold fl_T
      by_cases z : i / 12 = k
      · rw [z, mcn_s F]
        by_cases y : i % 12 < mcn_T r k 0 m
        · rw [if_pos y, if_pos (by omega)]
        · rw [if_neg y, if_neg (by omega)]
      · rw [OT 0 i (by omega)]
    · unfold ml_T
      rw [OT 1 i (by omega)]
  · subst s1
    refine ⟨su_u (x := 12 * k + mcn_T r k 1 m) ?_ (fun i hi => ?_) 96 (by omega), su_e 96 (fun i _ => ?_)⟩
    · unfold ml_T
      rw [show (12 * k + mcn_T r k 1 m) / 12 = k by omega, show (12 * k + mcn_T r k 1 m) % 12 = mcn_T r k 1 m by omega, mcn_s F, if_pos (by omega), if_neg (by omega)]
      omega
    · unfold ml_T
      by_cases z : i / 12 = k
      · rw [z, mcn_s F]
        by_cases y : i % 12 < mcn_T r k 1 m
        · rw [if_pos y, if_pos (by omega)]
        · rw [if_neg y, if_neg (by omega)]
      · rw [OT 1 i (by omega)]
    · unfold fl_T
      rw [OT 0 i (by omega)]
theorem a_mml (BK : TBn K c) (WP : WPo K P D c) (HL : ∀ i : Nat, K i = 2 → ∀ cl : Int, CLz (fun k => V (C k)) n (V i) cl → ¬ cl = -1 → ((W cl.toNat).length : Int) = D i ∧ 0 ≤ cl ∧ cl < 16) (M : MTB V C n mt q h r) {k : Nat} {nN : Int} (hk : k < 8) {qe : Int} (qc : qe.toNat < c) : ∀ (d m : Nat) (p a b : Int), 0 ≤ p → MML K r nN d (m : Int) p qe a b → (∀ i : Nat, m ≤ i → i < m + d → r 181 i = (k : Int)) → m + d ≤ mt → p ≤ qe ∧ ((su_T (fl_T W h r (m + d)) 96 : Int) + su_T (ml_T W h r (m + d)) 96) ≤ (su_T (fl_T W h r m) 96 : Int) + su_T (ml_T W h r m) 96 + (P qe.toNat - P p.toNat) := by
  intro d
  induction d with
  | zero =>
    intro m p a b hp H _ _
    have e : qe = p := H.1
    rw [e, Nat.add_zero]; omega
  | succ d ih =>
    intro m p a b hp H A md
    have mm := mml_ab (d + 1) _ _ _ _ _ H
    obtain ⟨_, p2, a2, ⟨pp, _⟩, R, ⟨b1, b2, b3⟩, H2⟩ := H
    rw [Int.toNat_natCast] at b1 b2 b3
    have m2 := mml_ab d _ _ _ _ _ H2
    have I := ih (m + 1) p2 a2 b (by omega) (by rw [show ((m + 1 : Nat) : Int) = (m : Int) + 1 by omega]; exact H2) (fun i h1 h2 => A i (by omega) (by omega)) (by omega)
    have X := a_mem (W := W) BK WP HL M (m := m) (k := k) (by omega) hk hp R (A m (by omega) (by omega)) b1 (by omega)
    rw [show m + (d + 1) = m + 1 + d by omega]
    have c0 := M.1 k hk
    rcases X.2 with ⟨F, x⟩ | ⟨F, x⟩
    · have lt := mcn_lt (r := r) (i := m) (j := mt) (by omega) F
      have o := (a_one (W := W) (h := h) hk F (by omega)).1 rfl
      omega
    · have lt := mcn_lt (r := r) (i := m) (j := mt) (by omega) F
      have o := (a_one (W := W) (h := h) hk F (by omega)).2 rfl
      omega
theorem a_pgm (BK : TBn K c) (WP : WPo K P D c) (HL : ∀ i : Nat, K i = 2 → ∀ cl : Int, CLz (fun k => V (C k)) n (V i) cl → ¬ cl = -1 → ((W cl.toNat).length : Int) = D i ∧ 0 ≤ cl ∧ cl < 16) (M : MTB V C n mt q h r) (n8 : n ≤ 8) (H0 : HDr K P V C c n r) (OK : OKc V C U n n) {nN : Int} (GP : ∀ i : Nat, i + 1 < c → K i = 13 → K (i + 1) = 2 → P i + 6 ≤ P (i + 1)) : ∀ (j k m : Nat) (p qe a b : Int), 0 ≤ p → PGM K r nN j (k : Int) (m : Int) (mt : Int) p qe a b → k + j = n → (qe.toNat < c) → p ≤ qe ∧ (su_T (fl_T W h r mt) 96 : Int) + su_T (ml_T W h r mt) 96 + su_T (al_T W) n ≤ (su_T (fl_T W h r m) 96 : Int) + su_T (ml_T W h r m) 96 + su_T (al_T W) k + (P qe.toNat - P p.toNat) := by
  intro j
  induction j with
  | zero =>
    intro k m p qe a b hp H kj qc
    obtain ⟨e1, _, e2⟩ := H
    have em : mt = m := by omega
    have ek : k = n := by omega
    rw [e1, em, ek]; omega
  | succ j ih =>
    intro k m p qe a b hp H kj qc
    obtain ⟨n2, p2, a2, ha, CL, H2⟩ := H
    obtain ⟨⟨k1, k2, k3⟩, s, e, k4, ML, c181, k5, pe⟩ := CL
    rw [Int.toNat_natCast] at k3
    have mm := mml_ab n2 _ _ _ _ _ ML
    have I := ih (k + 1) (m + n2) p2 qe a2 b (by omega) (by rw [show ((k + 1 : Nat) : Int) = (k : Int) + 1 by omega, show ((m + n2 : Nat) : Int) = (m : Int) + n2 by omega]; exact H2) (by omega) qc
    have me := (pgm_n j (k + 1) (m + n2) (mt : Int) p2 qe a2 b (by omega) (by rw [show ((k + 1 : Nat) : Int) = (k : Int) + 1 by omega, show ((m + n2 : Nat) : Int) = (m : Int) + n2 by omega]; exact H2)).1
    have ec := tb_lt BK (i := e.toNat) (by omega)
    have X := a_mml (W := W) BK WP HL M (k := k) (by omega) ec n2 m s a a2 (by omega) ML (fun i h1 h2 => c181 i (by omega) (by omega)) (by omega)
    -- the class's own head
    have ck := (H0.2.2.2 k (by omega)).1
    have cp : C k = (p + 1).toNat := by omega
    have ok := (OK k (by omega)).1
    have hl := HL (C k) (by rw [cp]; exact k2) (8 + (k : Int)) ok (by omega)
    rw [show (8 + (k : Int)).toNat = 8 + k by omega, cp] at hl
    have g6 := GP p.toNat (by omega) k1 (by rw [show p.toNat + 1 = (p + 1).toNat by omega]; exact k2)
    rw [show p.toNat + 1 = (p + 1).toNat by omega] at g6
    have w1 := WP (p + 1).toNat (by omega)
    rw [show (p + 1).toNat + 1 = (p + 2).toNat by omega] at w1
    have z1 := wp_2 WP (i := (p + 2).toNat) (j := s.toNat) (by omega) (by omega)
    have z2 := wp_2 WP (i := e.toNat) (j := p2.toNat) (by omega) (by omega)
    have al : su_T (al_T W) (k + 1) = su_T (al_T W) k + ((W (8 + k)).length + 3) := rfl
    omega
end

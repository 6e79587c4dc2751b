section
variable {nn : Nat} {h g r z w v x : ms_M} {c d e k : Int} {ω : Int → ms_M}
/-- an instruction's width -/
def WD (a : Int) : Int := (qf_X13_widthOf 0 a (fun _ _ => 0)).getD 0
theorem mw_width {a : Int} : Ok_ (qf_X13_widthOf nn a h) (fun u => u = WD a ∧ (0 ≤ u ∧ u ≤ 3)) := by
  obtain ⟨u, e, b⟩ := mv_width (nn := nn) (h := h) (a := a)
  refine ⟨u, e, ?_, b⟩
  have q : qf_X13_widthOf 0 a (fun _ _ => 0) = qf_X13_widthOf nn a h := rfl
  unfold WD
  rw [q, e]
  rfl
theorem wd_rg {a : Int} : 0 ≤ WD a ∧ WD a ≤ 3 := by
  obtain ⟨u, e, b⟩ := mw_width (nn := 0) (h := fun _ _ => 0) (a := a)
  rw [← b.1]; exact b.2
theorem wd_jump {a : Int} (j : 153 ≤ a ∧ a ≤ 167) (p : 1 ≤ WD a) : WD a = 3 := by
  have q : a = 153 ∨ a = 154 ∨ a = 155 ∨ a = 156 ∨ a = 157 ∨ a = 158 ∨ a = 159 ∨ a = 160 ∨ a = 161 ∨ a = 162 ∨ a = 163 ∨ a = 164 ∨ a = 165 ∨ a = 166 ∨ a = 167 := by omega
  revert p
  rcases q with q | q | q | q | q | q | q | q | q | q | q | q | q | q | q <;> rw [q] <;> decide
/-- where the instructions begin -/
def bp (w : ms_M) (A : Int) : Nat → Int
  | 0 => 0
  | n + 1 => bp w A n + WD (w 238 (A + bp w A n).toNat)
/-- the code of Z bytes has N instructions -/
def INS (w : ms_M) (A Z : Int) (N : Nat) : Prop := bp w A N = Z ∧ ∀ m : Nat, m < N → (0 ≤ bp w A m ∧ bp w A m < Z) ∧ 1 ≤ WD (w 238 (A + bp w A m).toNat) ∧ bp w A (m + 1) ≤ Z
/-- an instruction begins at q -/
def BGI (w : ms_M) (A : Int) (N : Nat) (q : Int) : Prop := ∃ m : Nat, m < N ∧ bp w A m = q
/-- where the jump at p goes -/
def AIM (w : ms_M) (A p : Int) : Int := p + oq_s (pw (w 238 (A + (p + 1)).toNat) (w 238 (A + (p + 2)).toNat))
theorem mv_aim (V : VS_ h) (M : MC h c k w) {p : Int} (hp : 0 ≤ p ∧ p + 2 ≤ h 160 135) : Ok_ (qf_X13_aimOf nn p h) (fun u => u = AIM w (h 160 134) p) := by
  have cd := mc_code M
  unfold qf_X13_aimOf
  refine ok_add (by omega) ?_; intro v1 e1
  refine ok_sv (mv_code V M (by omega)) ?_; intro u3 P3
  refine ok_shl8 P3.2 ?_; intro v4 e4
  refine ok_add (by omega) ?_; intro v5 e5
  refine ok_sv (mv_code V M (by omega)) ?_; intro u7 P7
  refine ok_xl ?_; intro v8 e8
  refine ok_xl ?_; intro v9 e9
  have b9 := oq_s_rg (v := v8)
  rw [← e9] at b9
  refine ok_add (by omega) ?_; intro v10 e10
  refine ok_ret ?_
  unfold AIM pw
  rw [e10, e9, e8, e4, P3.1, P7.1, e1, e5]
/-- frame number n of those from p on lies at u -/
def FRi (w : ms_M) (c : Int) : Nat → Int → Int → Prop
  | 0, p, u => u = p
  | n + 1, p, u => ∃ a b : Int, TYr w c (p + 2) a ∧ TYr w c a b ∧ FRi w c n b u
theorem fri_det : ∀ (n : Nat) (p u u2 : Int), FRi w c n p u → FRi w c n p u2 → u = u2 := by
  intro n
  induction n with
  | zero => intro p u u2 a b; have a : u = p := a; have b : u2 = p := b; omega
  | succ n ih =>
    intro p u u2 a b
    obtain ⟨a1, a2, a3, a4, a5⟩ := a
    obtain ⟨b1, b2, b3, b4, b5⟩ := b
    rw [ty_det _ _ _ _ b3 a3] at b4
    rw [ty_det _ _ _ _ b4 a4] at b5
    exact ih _ _ _ a5 b5
theorem fri_frm : ∀ (n : Nat) (p u : Int), FRm w c n p u → ∃ f : Nat, f < n ∧ FRi w c f p u := by
  intro n
  induction n with
  | zero => intro p u a; exact absurd a id
  | succ n ih =>
    intro p u a
    rcases a with a | ⟨a1, a2, a3, a4, a5⟩
    · exact ⟨0, by omega, a⟩
    · obtain ⟨f, f1, f2⟩ := ih _ _ a5
      exact ⟨f + 1, by omega, a1, a2, a3, a4, f2⟩
/-- the place of frame f, told by its number -/
theorem mw_frameAt (hn : 1000000 ≤ nn) (V : VS_ h) (M : MC h c k w) {f : Int} (hf : 0 ≤ f ∧ f < w 238 (h 237 (12 * c + k).toNat).toNat) : Ok_ (qf_X13_frameAt nn f h) (fun u => FRa w c u ∧ FRi w c f.toNat (h 237 (12 * c + k).toNat + 1) u) := by
  obtain ⟨hc, hk, W, e2, e3, _⟩ := M
  have g3 := gF_160_113 W.1
  obtain ⟨k12, _, m⟩ := wi_mt W hc hk
  obtain ⟨_, _, _, f1, f2, q, q1, fr⟩ := mth_fr m
  have L : ∀ (j : Nat) (n i : Nat) (l2 l3 : Int), 0 ≤ l2 → (0 ≤ l3 ∧ l3 ≤ f) → f - l3 = i → i < n → FRn w c n l2 q → f - l3 < j → Ok_ (qw_X13_frameAt_22 nn j f l2 l3 h) (fun u => FRa w c u ∧ FRi w c i l2 u) := by
    intro j
    induction j with
    | zero => intro n i l2 l3 a b ei e1 y hm; exfalso; omega
    | succ j ih =>
      intro n i l2 l3 a b ei e1 y hm
      cases n with
      | zero => exfalso; omega
      | succ n =>
        obtain ⟨x, y1, z1, z2, z3⟩ := y
        have l1 := ty_le _ _ _ z1
        have l2' := ty_le _ _ _ z2
        have l3' := fr_le _ _ _ z3
        unfold qw_X13_frameAt_22
        cases i with
        | zero =>
          rw [if_pos (show f ≤ l3 by omega)]
          exact ok_ret ⟨⟨a, x, y1, z1, z2, by omega⟩, rfl⟩
        | succ i =>
        rw [if_neg (show ¬ f ≤ l3 by omega)]
        refine ok_add (by omega) ?_; intro v5 e5
        refine ok_sv (mv_ends hn V hc W e2 (q := x) (by omega) (by omega) (by rw [e5]; exact z1)) ?_; intro u7 P7
        refine ok_sv (mv_ends hn V hc W e2 (q := y1) (by omega) (by omega) (by rw [P7]; exact z2)) ?_; intro u9 P9
        refine ok_add (by omega) ?_; intro v10 e10
        refine ok_im (ih n i u9 v10 (by omega) (by omega) (by omega) (by omega) (by rw [P9]; exact z3) (by omega)) (fun u P => ?_)
        rw [P9] at P
        exact ⟨P.1, x, y1, z1, z2, P.2⟩
  unfold qf_X13_frameAt
  rw [e2, e3]
  refine ok_mul (by omega) ?_; intro v15 e15
  refine ok_add (by omega) ?_; intro v17 e17
  refine ok_rd (by omega) (gA_237 V) ?_; intro v18 e18 a18 _
  rw [e17, e15] at e18
  refine ok_add (by omega) ?_; intro v19 e19
  refine ok_im (L nn (w 238 (h 237 (12 * c + k).toNat).toNat).toNat f.toNat v19 0 (by omega) (by omega) (by omega) (by omega) (by rw [e19, e18]; exact fr) (by omega)) (fun u P => ?_)
  rw [e19, e18] at P
  exact P
/-- the first of n frames from p on that has the place t lies at u -/
def FFn (w : ms_M) (c : Int) : Nat → Int → Int → Int → Prop
  | 0, _, _, _ => False
  | n + 1, p, t, u => (pw (w 238 p.toNat) (w 238 (p + 1).toNat) = t ∧ u = p) ∨ (¬ pw (w 238 p.toNat) (w 238 (p + 1).toNat) = t ∧ ∃ a b : Int, TYr w c (p + 2) a ∧ TYr w c a b ∧ FFn w c n b t u)
theorem ffn_det : ∀ (n : Nat) (p t u u2 : Int), FFn w c n p t u → FFn w c n p t u2 → u = u2 := by
  intro n
  induction n with
  | zero => intro p t u u2 a b; exact absurd a id
  | succ n ih =>
    intro p t u u2 a b
    rcases a with ⟨a1, a2⟩ | ⟨a1, a2, a3, a4, a5, a6⟩ <;> rcases b with ⟨b1, b2⟩ | ⟨b1, b2, b3, b4, b5, b6⟩
    · omega
    · exact absurd a1 b1
    · exact absurd b1 a1
    · rw [ty_det _ _ _ _ b4 a4] at b5
      rw [ty_det _ _ _ _ b5 a5] at b6
      exact ih _ _ _ _ a6 b6
theorem ffn_frm : ∀ (n : Nat) (p t u : Int), FFn w c n p t u → FRm w c n p u ∧ pw (w 238 u.toNat) (w 238 (u + 1).toNat) = t := by
  intro n
  induction n with
  | zero => intro p t u a; exact absurd a id
  | succ n ih =>
    intro p t u a
    rcases a with ⟨a1, a2⟩ | ⟨a1, a2, a3, a4, a5, a6⟩
    · exact ⟨.inl a2, by rw [a2]; exact a1⟩
    · exact ⟨.inr ⟨a2, a3, a4, a5, (ih _ _ _ a6).1⟩, (ih _ _ _ a6).2⟩
theorem ffn_of : ∀ (n : Nat) (p t : Int), FRp w c n p t → ∃ u : Int, FFn w c n p t u := by
  intro n
  induction n with
  | zero => intro p t a; exact absurd a id
  | succ n ih =>
    intro p t a
    by_cases y : pw (w 238 p.toNat) (w 238 (p + 1).toNat) = t
    · exact ⟨p, .inl ⟨y, rfl⟩⟩
    · rcases a with a | ⟨a2, a3, a4, a5, a6⟩
      · exact absurd a y
      · obtain ⟨u, q⟩ := ih _ _ a6
        exact ⟨u, .inr ⟨y, a2, a3, a4, a5, q⟩⟩
theorem ffn_frp : ∀ (n : Nat) (p t u : Int), FFn w c n p t u → FRp w c n p t := by
  intro n
  induction n with
  | zero => intro p t u a; exact a
  | succ n ih =>
    intro p t u a
    rcases a with ⟨a1, a2⟩ | ⟨a1, a2, a3, a4, a5, a6⟩
    · exact .inl a1
    · exact .inr ⟨a2, a3, a4, a5, ih _ _ _ a6⟩
/-- the method's frame for place t lies at u -/
def FFr (h : ms_M) (c k : Int) (w : ms_M) (t u : Int) : Prop := FFn w c (w 238 (h 237 (12 * c + k).toNat).toNat).toNat (h 237 (12 * c + k).toNat + 1) t u
/-- u is one of the method's frames -/
def FRu (h : ms_M) (c k : Int) (w : ms_M) (u : Int) : Prop := FRm w c (w 238 (h 237 (12 * c + k).toNat).toNat).toNat (h 237 (12 * c + k).toNat + 1) u
theorem frm_a : ∀ (n : Nat) (p q u : Int), 0 ≤ p → q ≤ w 160 113 → FRn w c n p q → FRm w c n p u → FRa w c u := by
  intro n
  induction n with
  | zero => intro p q u a b d y; exact absurd y id
  | succ n ih =>
    intro p q u a b d y
    obtain ⟨a1, a2, a3, a4, a5⟩ := d
    have := ty_le _ _ _ a3
    have := ty_le _ _ _ a4
    have := fr_le _ _ _ a5
    rcases y with y | ⟨b1, b2, b3, b4, b5⟩
    · rw [y]; exact ⟨a, a1, a2, a3, a4, by omega⟩
    · rw [ty_det _ _ _ _ b3 a3] at b4
      rw [ty_det _ _ _ _ b4 a4] at b5
      exact ih _ _ _ (by omega) b a5 b5
theorem mv_for3 (hn : 1000000 ≤ nn) (V : VS_ h) (M : MC h c k w) {t : Int} : Ok_ (qf_X13_frameFor nn t h) (fun u => (u = -1 ∧ ¬ HFr h c k w t) ∨ ((FRa w c u ∧ FRu h c k w u) ∧ FFr h c k w t u)) := by
  have M0 := M
  obtain ⟨hc, hk, W, e2, e3, _⟩ := M
  have g3 := gF_160_113 W.1
  obtain ⟨k12, _, m⟩ := wi_mt W hc hk
  obtain ⟨_, _, _, f1, f2, q, q1, fr⟩ := mth_fr m
  have L : ∀ (j : Nat) (n : Nat) (l2 l3 : Int), 0 ≤ l2 → (0 ≤ l3 ∧ l3 ≤ 255) → w 238 (h 237 (12 * c + k).toNat).toNat - l3 = n → FRn w c n l2 q → (n : Int) < j → Ok_ (qw_X13_frameFor_22 nn j t l2 l3 h) (fun u => (u = -1 ∧ ¬ FRp w c n l2 t) ∨ FFn w c n l2 t u) := by
    intro j
    induction j with
    | zero => intro n l2 l3 a b e1 y hm; exfalso; omega
    | succ j ih =>
      intro n l2 l3 a b e1 y hm
      unfold qw_X13_frameFor_22
      refine ok_sv (mv_many V M0) ?_; intro u2 P2
      cases n with
      | zero =>
        rw [if_pos (show u2 ≤ l3 by have := P2.1; omega)]
        exact ok_ret (.inl ⟨rfl, fun y => y⟩)
      | succ n =>
        rw [if_neg (show ¬ u2 ≤ l3 by have := P2.1; omega)]
        obtain ⟨x, y1, z1, z2, z3⟩ := y
        have l1 := ty_le _ _ _ z1
        have l2' := ty_le _ _ _ z2
        have l3' := fr_le _ _ _ z3
        refine ok_sv (mv_pairw V hc W e2 (by omega)) ?_; intro u4 P4
        refine ok_if (fun D => ?_) (fun D => ok_ret (.inr (.inl ⟨P4.2.symm.trans (Decidable.not_not.1 D), rfl⟩)))
        have D2 : ¬ pw (w 238 l2.toNat) (w 238 (l2 + 1).toNat) = t := fun y => D (P4.2.trans y)
        refine ok_add (by omega) ?_; intro v5 e5
        refine ok_sv (mv_ends hn V hc W e2 (q := x) (by omega) (by omega) (by rw [e5]; exact z1)) ?_; intro u7 P7
        refine ok_sv (mv_ends hn V hc W e2 (q := y1) (by omega) (by omega) (by rw [P7]; exact z2)) ?_; intro u9 P9
        refine ok_add (by omega) ?_; intro v10 e10
        refine ok_im (ih n u9 v10 (by omega) (by omega) (by omega) (by rw [P9]; exact z3) (by omega)) (fun u P => ?_)
        rw [P9] at P
        rcases P with P | P
        · refine .inl ⟨P.1, fun y => ?_⟩
          rcases y with y | ⟨x2, y2, w1, w2, w3⟩
          · exact D2 y
          · have ex : x2 = x := ty_det _ _ _ _ w1 z1
            rw [ex] at w2
            have ey : y2 = y1 := ty_det _ _ _ _ w2 z2
            rw [ey] at w3
            exact P.2 w3
        · exact .inr (.inr ⟨D2, x, y1, z1, z2, P⟩)
  have p0 : 0 ≤ h 237 (12 * c + k).toNat := (gA_237 V _ (by omega)).1
  unfold HFr FFr FRu
  unfold qf_X13_frameFor
  rw [e2, e3]
  refine ok_mul (by omega) ?_; intro v15 e15
  refine ok_add (by omega) ?_; intro v17 e17
  refine ok_rd (by omega) (gA_237 V) ?_; intro v18 e18 a18 _
  rw [e17, e15] at e18
  refine ok_add (by omega) ?_; intro v19 e19
  have b0 : 0 ≤ w 238 (h 237 (12 * c + k).toNat).toNat := (gA_238 W.1 _ (by omega)).1
  refine ok_im (L nn (w 238 (h 237 (12 * c + k).toNat).toNat).toNat v19 0 (by omega) (by omega) (by omega) (by rw [e19, e18]; exact fr) (by omega)) (fun u P => ?_)
  rw [e19, e18] at P
  rcases P with P | P
  · exact .inl P
  · have fm := (ffn_frm _ _ _ _ P).1
    exact .inr ⟨⟨frm_a _ _ _ _ (by omega) q1 fr fm, fm⟩, P⟩
/-- the type at p of a frame -/
def FV (nn : Nat) (h : ms_M) (c : Int) (w : ms_M) (p t : Int) : Prop := (w 238 p.toNat ≤ 2 ∧ t = w 238 p.toNat) ∨ (w 238 p.toNat = 3 ∧ CTv nn h c w (w 238 (p + 1).toNat) t)
/-- n types of a frame from p to q: L from i on -/
def FTn (nn : Nat) (h : ms_M) (c : Int) (w : ms_M) (L : Int → Int) : Nat → Int → Int → Int → Prop
  | 0, _, p, q => p = q
  | n + 1, i, p, q => FV nn h c w p (L i) ∧ ((w 238 p.toNat ≤ 2 ∧ FTn nn h c w L n (i + 1) (p + 1) q) ∨ (w 238 p.toNat = 3 ∧ CL w c (w 238 (p + 1).toNat) ∧ FTn nn h c w L n (i + 1) (p + 2) q))
theorem fv_c (A : AGc h g) {p t : Int} (F : FV nn h c w p t) : FV nn g c w p t := by
  rcases F with F | F
  · exact .inl F
  · exact .inr ⟨F.1, ctv_c A F.2⟩
theorem fv_det {p t t2 : Int} (F : FV nn h c w p t) (G : FV nn h c w p t2) : t = t2 := by
  rcases F with F | F <;> rcases G with G | G
  · omega
  · exfalso; omega
  · exfalso; omega
  · exact ctv_det F.2 G.2
theorem ftn_c {L : Int → Int} (A : AGc h g) : ∀ (n : Nat) (i p q : Int), FTn nn h c w L n i p q → FTn nn g c w L n i p q := by
  intro n
  induction n with
  | zero => intro i p q a; exact a
  | succ n ih =>
    intro i p q a
    refine ⟨fv_c A a.1, ?_⟩
    rcases a.2 with b | b
    · exact .inl ⟨b.1, ih _ _ _ b.2⟩
    · exact .inr ⟨b.1, b.2.1, ih _ _ _ b.2.2⟩
theorem ftn_ext {L K : Int → Int} : ∀ (n : Nat) (i p q : Int), (∀ x : Int, i ≤ x → L x = K x) → FTn nn h c w L n i p q → FTn nn h c w K n i p q := by
  intro n
  induction n with
  | zero => intro i p q y a; exact a
  | succ n ih =>
    intro i p q y a
    refine ⟨by rw [← y i (by omega)]; exact a.1, ?_⟩
    rcases a.2 with b | b
    · exact .inl ⟨b.1, ih _ _ _ (fun x hx => y x (by omega)) b.2⟩
    · exact .inr ⟨b.1, b.2.1, ih _ _ _ (fun x hx => y x (by omega)) b.2.2⟩
theorem ftn_ty {L : Int → Int} : ∀ (n : Nat) (i p q : Int), FTn nn h c w L n i p q → TYn w c n p q := by
  intro n
  induction n with
  | zero => intro i p q a; exact a
  | succ n ih =>
    intro i p q a
    rcases a.2 with b | b
    · exact .inl ⟨b.1, ih _ _ _ b.2⟩
    · exact .inr ⟨b.1, b.2.1, ih _ _ _ b.2.2⟩
theorem ftn_of (hc : 0 ≤ c ∧ c ≤ 7) (W : WI h c w) : ∀ (n : Nat) (i p q : Int), TYf nn h c w n p q → ∃ L : Int → Int, FTn nn h c w L n i p q := by
  intro n
  induction n with
  | zero => intro i p q a; exact ⟨fun _ => 0, a⟩
  | succ n ih =>
    intro i p q a
    rcases a with ⟨a1, a2⟩ | ⟨a1, a2, a3⟩
    · obtain ⟨L, y⟩ := ih (i + 1) _ _ a2
      refine ⟨fun x => if x = i then w 238 p.toNat else L x, ?_, .inl ⟨a1, ftn_ext _ _ _ _ (fun x hx => ?_) y⟩⟩
      · show FV nn h c w p (if i = i then w 238 p.toNat else L i)
        rw [if_pos rfl]; exact .inl ⟨a1, rfl⟩
      · rw [if_neg (show ¬ x = i by omega)]
    · obtain ⟨L, y⟩ := ih (i + 1) _ _ a3
      obtain ⟨t, ct⟩ := ctv_ex hc W a2.1 a2.2
      refine ⟨fun x => if x = i then t else L x, ?_, .inr ⟨a1, a2.1, ftn_ext _ _ _ _ (fun x hx => ?_) y⟩⟩
      · show FV nn h c w p (if i = i then t else L i)
        rw [if_pos rfl]; exact .inr ⟨a1, ct⟩
      · rw [if_neg (show ¬ x = i by omega)]
theorem ftn_det {L K : Int → Int} : ∀ (n : Nat) (i p q q2 : Int), FTn nn h c w L n i p q → FTn nn h c w K n i p q2 → ∀ x : Int, i ≤ x → x < i + n → L x = K x := by
  intro n
  induction n with
  | zero => intro i p q q2 a b x x1 x2; exfalso; omega
  | succ n ih =>
    intro i p q q2 a b x x1 x2
    by_cases y : x = i
    · rw [y]; exact fv_det a.1 b.1
    · rcases a.2 with a2 | a2 <;> rcases b.2 with b2 | b2
      · exact ih _ _ _ _ a2.2 b2.2 x (by omega) (by omega)
      · exfalso; omega
      · exfalso; omega
      · exact ih _ _ _ _ a2.2.2 b2.2.2 x (by omega) (by omega)
/-- the frame at u: n locals L, m values K -/
def FRT (nn : Nat) (h : ms_M) (c : Int) (w : ms_M) (u n : Int) (L : Int → Int) (m : Int) (K : Int → Int) : Prop := (0 ≤ u ∧ n = w 238 (u + 2).toNat) ∧ ∃ a b : Int, FTn nn h c w L n.toNat 0 (u + 3) a ∧ m = w 238 a.toNat ∧ FTn nn h c w K m.toNat 0 (a + 1) b ∧ b ≤ w 160 113
theorem frt_c {u n m : Int} {L K : Int → Int} (A : AGc h g) (F : FRT nn h c w u n L m K) : FRT nn g c w u n L m K := by
  obtain ⟨a0, a, b, a1, a2, a3, a4⟩ := F
  exact ⟨a0, a, b, ftn_c A _ _ _ _ a1, a2, ftn_c A _ _ _ _ a3, a4⟩
theorem frt_det {u n m n2 m2 : Int} {L K L2 K2 : Int → Int} (V : VS_ w) (F : FRT nn h c w u n L m K) (G : FRT nn h c w u n2 L2 m2 K2) : n = n2 ∧ m = m2 ∧ (∀ x : Int, 0 ≤ x → x < n → L x = L2 x) ∧ (∀ x : Int, 0 ≤ x → x < m → K x = K2 x) := by
  obtain ⟨a0, a, b, a1, a2, a3, a4⟩ := F
  obtain ⟨b0, d, e, b1, b2, b3, b4⟩ := G
  have en : n = n2 := by omega
  rw [← en] at b1
  have ea : a = d := ty_det _ _ _ _ (ftn_ty _ _ _ _ a1) (ftn_ty _ _ _ _ b1)
  rw [← ea] at b2 b3
  have em : m = m2 := by omega
  rw [← em] at b3
  exact ⟨en, em, fun x x1 x2 => ftn_det _ _ _ _ _ a1 b1 x x1 (by omega), fun x x1 x2 => ftn_det _ _ _ _ _ a3 b3 x x1 (by omega)⟩
theorem frt_of (hc : 0 ≤ c ∧ c ≤ 7) (W : WI h c w) {k u : Int} (hu : 0 ≤ u) (F : FOK nn h c k w u) : ∃ (n : Int) (L : Int → Int) (m : Int) (K : Int → Int), FRT nn h c w u n L m K ∧ n ≤ h 160 129 ∧ m ≤ h 160 130 := by
  obtain ⟨a, b, ⟨a1, a2⟩, ⟨b1, b2⟩, b3⟩ := F
  obtain ⟨L, y1⟩ := ftn_of hc W _ 0 _ _ a2
  obtain ⟨K, y2⟩ := ftn_of hc W _ 0 _ _ b2
  exact ⟨_, L, _, K, ⟨⟨hu, rfl⟩, a, b, y1, rfl, y2, b3⟩, a1, b1⟩
/-- the type at p of a frame is read -/
theorem mg_framed (hn : 1000000 ≤ nn) (V : VS_ h) (hc : 0 ≤ c ∧ c ≤ 7) (W : WI h c w) (e1 : h 160 132 = c) {p t : Int} (hp : 0 ≤ p ∧ p < w 160 113) (cl : w 238 p.toNat = 3 → p + 1 < w 160 113 ∧ CL w c (w 238 (p + 1).toNat)) (F : FV nn h c w p t) : Ok_ (qf_X13_framed nn p h) (fun u => TF2 h u ∧ u.1 = t) := by
  have g3 := gF_160_113 W.1
  have g98 := gF_160_98 V
  unfold qf_X13_framed
  rw [e1]
  refine ok_sv (mv_bytew V hc W hp) ?_; intro u3 P3
  have q3 := P3.1
  have b3 := P3.2
  rcases F with ⟨F1, F2⟩ | ⟨F1, F2⟩
  · rw [if_neg (show ¬ 3 ≤ u3 by omega)]
    refine ok_sv (mv_bytew V hc W hp) ?_; intro u13 P13
    have q13 := P13.1
    exact ok_ret ⟨⟨V, fun _ _ _ => rfl, by show 0 ≤ u13 ∧ u13 < _; omega⟩, by show u13 = _; omega⟩
  · rw [if_pos (show 3 ≤ u3 by omega)]
    obtain ⟨p1, cl⟩ := cl F1
    refine ok_add (by omega) ?_; intro v6 e6
    refine ok_sv (mv_bytew V hc W (by omega)) ?_; intro u8 P8
    have q8 := P8.1
    rw [e6] at q8
    rw [← q8] at cl F2
    refine ok_sv (rg_typeOf hn V hc W cl F2) ?_; intro u10 P10
    exact ok_ret ⟨⟨P10.1.1, P10.1.2.1, P10.1.2.2⟩, P10.2⟩
end

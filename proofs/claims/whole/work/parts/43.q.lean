/- PARSE: MEMBER of both sides -/
/-- n parameters from token p to x, in the rows from i on -/
def PRL (K : Nat → Int) (T : ms_M) : Nat → Int → Int → Int → Prop
  | 0, _, p, x => x = p
  | n + 1, i, p, x => ∃ t bs rw : Int, TYk K p t bs rw ∧ (T 191 i.toNat = bs ∧ T 192 i.toNat = p ∧ T 193 i.toNat = rw ∧ T 194 i.toNat = t) ∧ K t.toNat = 2 ∧ ((n = 0 ∧ x = t + 1) ∨ (¬ n = 0 ∧ K (t + 1).toNat = 47 ∧ PRL K T n (i + 1) (t + 2) x))
/-- member m, tokens [p, q), nodes [a, b) -/
def RMB (K : Nat → Int) (T : ms_M) (m p q a b : Int) : Prop := ∃ p1 t bs rw : Int, ((K p.toNat = 25 ∧ p1 = p + 1) ∨ (¬ K p.toNat = 25 ∧ p1 = p)) ∧ ((K p1.toNat = 30 ∧ bs = 2 ∧ rw = 0 ∧ t = p1 + 1) ∨ (¬ K p1.toNat = 30 ∧ TYk K p1 t bs rw)) ∧ (T 183 m.toNat = bs ∧ T 184 m.toNat = p1 ∧ T 185 m.toNat = rw ∧ T 186 m.toNat = t ∧ K t.toNat = 2) ∧ (((¬ K p.toNat = 25 ∧ ¬ K p1.toNat = 30) ∧ K (t + 1).toNat = 46 ∧ T 182 m.toNat = 0 ∧ T 189 m.toNat = 0 ∧ q = t + 2) ∨ (∃ (n : Nat) (x : Int), ¬ ((¬ K p.toNat = 25 ∧ ¬ K p1.toNat = 30) ∧ K (t + 1).toNat = 46) ∧ ((K p.toNat = 25 ∧ T 182 m.toNat = 2) ∨ (¬ K p.toNat = 25 ∧ T 182 m.toNat = 1)) ∧ K (t + 1).toNat = 40 ∧ T 189 m.toNat = (n : Int) ∧ PRL K T n (T 188 m.toNat) (t + 2) x ∧ K x.toNat = 41 ∧ LKn 0 K T 8 0 0 a b (x + 1) q (T 190 m.toNat)))
section
variable {nn : Nat} {K P : Nat → Int} {c p : Nat} {h g r w u v : ms_M}
theorem prl_k {T2 : ms_M} : ∀ (n : Nat) (i p x : Int), 0 ≤ i → (∀ c j : Nat, 191 ≤ c → c ≤ 194 → i ≤ (j : Int) → (j : Int) < i + n → T2 c j = r c j) → PRL K r n i p x → PRL K T2 n i p x := by
  intro n
  induction n with
  | zero => intro i p x _ _ H; exact H
  | succ n ih =>
    intro i p x h0 F H
    obtain ⟨t, bs, rw', h1, ⟨a1, a2, a3, a4⟩, h3, h4⟩ := H
    have E : ∀ c : Nat, 191 ≤ c → c ≤ 194 → T2 c i.toNat = r c i.toNat := fun c c1 c2 => F c i.toNat c1 c2 (by omega) (by omega)
    refine ⟨t, bs, rw', h1, ⟨by rw [E 191 (by decide) (by decide)]; exact a1, by rw [E 192 (by decide) (by decide)]; exact a2, by rw [E 193 (by decide) (by decide)]; exact a3, by rw [E 194 (by decide) (by decide)]; exact a4⟩, h3, ?_⟩
    rcases h4 with h4 | ⟨h4, h5, h6⟩
    · exact .inl h4
    · exact .inr ⟨h4, h5, ih (i + 1) (t + 2) x (by omega) (fun c j c1 c2 c3 c4 => F c j c1 c2 (by omega) (by omega)) h6⟩
/-- a member's rows stay -/
theorem rmb_k {T2 : ms_M} {m p q a b : Int} (h188 : 0 ≤ r 188 m.toNat) (F1 : ∀ c : Nat, 181 ≤ c → c ≤ 190 → ¬ c = 187 → T2 c m.toNat = r c m.toNat) (F2 : ∀ c j : Nat, 191 ≤ c → c ≤ 194 → r 188 m.toNat ≤ (j : Int) → (j : Int) < r 188 m.toNat + r 189 m.toNat → T2 c j = r c j) (F3 : ∀ c x : Nat, 167 ≤ c → c ≤ 177 → ¬ c = 174 → a ≤ (x : Int) → (x : Int) < b → T2 c x = r c x) (H : RMB K r m p q a b) : RMB K T2 m p q a b := by
  obtain ⟨p1, t, bs, rw', h1, h2, ⟨a1, a2, a3, a4, a5⟩, h4⟩ := H
  refine ⟨p1, t, bs, rw', h1, h2, ⟨by rw [F1 183 (by decide) (by decide) (by decide)]; exact a1, by rw [F1 184 (by decide) (by decide) (by decide)]; exact a2, by rw [F1 185 (by decide) (by decide) (by decide)]; exact a3, by rw [F1 186 (by decide) (by decide) (by decide)]; exact a4, a5⟩, ?_⟩
  rw [F1 182 (by decide) (by decide) (by decide), F1 188 (by decide) (by decide) (by decide), F1 189 (by decide) (by decide) (by decide), F1 190 (by decide) (by decide) (by decide)]
  rcases h4 with h4 | ⟨n, x, y1, y2, y3, y4, y5, y6, y7⟩
  · exact .inl h4
  · exact .inr ⟨n, x, y1, y2, y3, y4, prl_k n _ _ _ h188 (fun c j c1 c2 c3 c4 => F2 c j c1 c2 c3 (by rw [y4]; exact c4)) y5, y6, lk_map y7 (fun c x c1 c2 c3 x1 x2 _ _ => F3 c x c1 c2 c3 x1 x2)⟩
theorem p2_se {α β γ δ : Type} {x : Option α} {y : Option β} {F : α → Option γ} {G : β → Option δ} {R : α → β → Prop} {Z : γ → δ → Prop} (hx : Pc x (fun u => Pc y (fun v => R u v))) (H : ∀ a b, x = some a → y = some b → R a b → Pc (F a) (fun u => Pc (G b) (fun v => Z u v))) : Pc (mx_sv x F) (fun u => Pc (mx_sv y G) (fun v => Z u v)) := by
  refine pc_se ?_; intro a ea
  refine pc_fl ?_
  refine pc_se ?_; intro b eb
  exact pc_fl (H a b ea eb (hx a ea b eb))
theorem fx_block {c k : Nat} (h1 : 178 ≤ c) (h2 : c ≤ 194) : nw_F wl_X13_block wf_X13_block false false c k = true := by
  have z : c = 178 ∨ c = 179 ∨ c = 180 ∨ c = 181 ∨ c = 182 ∨ c = 183 ∨ c = 184 ∨ c = 185 ∨ c = 186 ∨ c = 187 ∨ c = 188 ∨ c = 189 ∨ c = 190 ∨ c = 191 ∨ c = 192 ∨ c = 193 ∨ c = 194 := by omega
  rcases z with z | z | z | z | z | z | z | z | z | z | z | z | z | z | z | z | z <;> (rw [z]; exact nw_ar rfl k)
/-- what a member's parameters and body leave: rows of the parse alone are written -/
def MFr (r v : ms_M) (m : Nat) : Prop := (r 160 22 ≤ v 160 22 ∧ ∀ c x : Nat, 167 ≤ c → c ≤ 177 → (x : Int) < r 160 22 → v c x = r c x) ∧ (r 160 39 ≤ v 160 39 ∧ ∀ c j : Nat, 191 ≤ c → c ≤ 194 → (j : Int) < r 160 39 → v c j = r c j) ∧ (∀ c j : Nat, 178 ≤ c → c ≤ 190 → ¬ (j = m ∧ (c = 189 ∨ c = 190)) → v c j = r c j) ∧ v 160 24 = r 160 24 ∧ v 160 28 = r 160 28
def JPm (K P : Nat → Int) (c p : Nat) (m : Int) (r u v : ms_M) : Prop := SFj u v ∨ ∃ (q x : Nat) (n : Nat), (JPp K P c q u v ∧ p ≤ x ∧ x < q) ∧ PRL K v n (r 160 39) (p : Int) (x : Int) ∧ K x = 41 ∧ LKn 0 K v 8 0 0 (r 160 22) (v 160 22) ((x + 1 : Nat) : Int) (q : Int) (v 190 m.toNat) ∧ v 189 m.toNat = r 189 m.toNat + n ∧ v 160 39 = r 160 39 + n ∧ MFr r v m.toNat
theorem mfr_t {m : Nat} (A : MFr r v m) (B : MFr v w m) : MFr r w m := by
  obtain ⟨⟨a1, a2⟩, ⟨a3, a4⟩, a5, a6, a7⟩ := A
  obtain ⟨⟨b1, b2⟩, ⟨b3, b4⟩, b5, b6, b7⟩ := B
  exact ⟨⟨by omega, fun c x c1 c2 c3 => by rw [b2 c x c1 c2 (by omega)]; exact a2 c x c1 c2 c3⟩, ⟨by omega, fun c x c1 c2 c3 => by rw [b4 c x c1 c2 (by omega)]; exact a4 c x c1 c2 c3⟩, fun c j c1 c2 c3 => by rw [b5 c j c1 c2 c3]; exact a5 c j c1 c2 c3, by omega, by omega⟩
/-- ) BLOCK -/
def JBd (K P : Nat → Int) (c q : Nat) (m : Int) (r u v : ms_M) : Prop := SFj u v ∨ ∃ t : Nat, (JPp K P c t u v ∧ q < t) ∧ K q = 41 ∧ LKn 0 K v 8 0 0 (r 160 22) (v 160 22) ((q + 1 : Nat) : Int) (t : Int) (v 190 m.toNat) ∧ v 189 m.toNat = r 189 m.toNat ∧ v 160 39 = r 160 39 ∧ MFr r v m.toNat
theorem j_66 (BK : TBn K c) {q : Nat} {m : Int} (hm : 0 ≤ m) (J : JPp K P c q h r) (hr : 0 ≤ r 160 22) : Pc (qj_X8_readMember_66 nn h) (fun u => Pc (qj_X13_member_360 nn m r) (fun v => JBd K P c q m r u v)) := by
  unfold qj_X8_readMember_66 qj_X13_member_360
  refine p2_sv (j_need BK J (k := 41) (by decide) (by decide)) ?_; intro u2 w2 q2
  rcases q2 with ⟨k41, m2, J2⟩ | S
  · have n2 : w2 160 22 = r 160 22 := by rw [m2, up_n (by omega)]
    refine p2_se (j_block BK (by decide) J2 (by omega)) ?_; intro u4 u5 eu4 eu5 q5
    refine pc_ret ?_
    refine pc_wA ?_; intro i1 i2 h6 e6
    refine pc_ret ?_
    rcases q5 with S | ⟨t, ⟨Jt, qt⟩, L, x1, N⟩
    · refine .inl ⟨S.1, ?_, ?_⟩
      · rw [e6, up_n (by omega)]; exact S.2.1
      · rw [e6, up_n (by omega)]; exact S.2.2
    · have N1 := N.1
      have n6 : h6 160 22 = u5.2 160 22 := by rw [e6, up_n (by omega)]
      have FX : ∀ c x : Nat, 178 ≤ c → c ≤ 194 → u5.2 c x = r c x := fun c x a1 a2 => by
        rw [show u5.2 c x = w2 c x from (ff_X13_block nn) _ eu5 c x (fx_block a1 a2), m2, up_n (by omega)]
      have f24 : u5.2 160 24 = r 160 24 := by
        have := (ff_X13_block nn) _ eu5 160 24 rfl
        rw [m2, up_n (by omega)] at this; exact this
      have f28 : u5.2 160 28 = r 160 28 := by
        have := (ff_X13_block nn) _ eu5 160 28 rfl
        rw [m2, up_n (by omega)] at this; exact this
      have f39 : u5.2 160 39 = r 160 39 := by
        have := (ff_X13_block nn) _ eu5 160 39 rfl
        rw [m2, up_n (by omega)] at this; exact this
      refine .inr ⟨t, ⟨by rw [e6]; exact jp_w Jt (by decide), by omega⟩, k41, ?_, ?_, ?_, ⟨⟨by omega, fun c x c1 c2 c3 => ?_⟩, ⟨?_, fun c x c1 c2 c3 => ?_⟩, fun c j c1 c2 c3 => ?_, ?_, ?_⟩⟩
      · rw [n6, e6, up_s, ← n2]
        exact lk_w L (.inr (by decide))
      · rw [e6, up_n (by omega), FX 189 _ (by decide) (by decide)]
      · rw [e6, up_n (by omega), f39]
      · rw [e6, up_n (by omega), N.2 c x c1 c2 (by omega), m2, up_n (by omega)]
      · rw [e6, up_n (by omega), f39]; omega
      · rw [e6, up_n (by omega), FX c x (by omega) (by omega)]
      · by_cases z : c = 190 ∧ j = m.toNat
        · exact absurd ⟨z.2, .inr z.1⟩ c3
        · rw [e6, up_n z, FX c j (by omega) (by omega)]
      · rw [e6, up_n (by omega), f24]
      · rw [e6, up_n (by omega), f28]
  · refine pj_sf (o := fun a => a) (q := fun b => b) S ?_ ?_ (fun a b s => .inl s)
    · have S1 : ¬ u2 2 11 = 0 := S.1
      have F : FSc u2 u2 := fs_r
      refine pc_sv (fs_qf_X8_readBlock (fs_n S1 F)) ?_; intro u4 Qu4
      have Fu4 : FSc u2 u4 := fs_t F Qu4
      exact pc_ret Fu4
    · have S1 : ¬ w2 160 9 = 0 := sf_r S
      have F : FSr w2 w2 := ft_r
      refine pc_sv (ft_qf_X13_block (ft_n S1 F)) ?_; intro u5 Qu5
      have Fu5 : FSr w2 u5.2 := ft_t F Qu5
      refine pc_wA ?_; intro _ _ h6 Eh6
      have Fh6 : FSr w2 h6 := by rw [Eh6]; exact ft_u Fu5 (by omega)
      exact pc_ret Fh6
/-- parameters from one on, and what comes behind -/
theorem j_269 (BK : TBn K c) {m : Int} (hm : 0 ≤ m) : ∀ (f k q : Nat) (h r : ms_M) (t : Int), JPp K P c q h r → 0 ≤ r 160 22 → 0 ≤ r 160 39 → 0 ≤ r 189 m.toNat → (0 ≤ t ∧ t < (q : Int)) → r 189 m.toNat ≤ (q : Int) → Pc (mx_sv (qw_X8_readParameters_4 nn f 1 t h) fun u11 => qj_X8_readMember_66 nn u11) (fun u => Pc (qj_X13_member_269 nn (qw_X13_member_234 nn k) m r) (fun v => JPm K P c q m r u v ∧ (SFj u v ∨ ∃ n : Nat, v 189 m.toNat = r 189 m.toNat + n + 1))) := by
  have n3 := BK.2.1
  intro f
  induction f with
  | zero => intros; exact pc_none
  | succ f ih =>
    intro k q h r t J hr h39 h189 ht hq9
    have e3 := J.2.2.1.2.2
    have FC : ∀ (kk : Nat) (t1 l1 : Int) (a1 : ms_M), ¬ a1 2 11 = 0 → Pc (mx_sv (qw_X8_readParameters_4 nn kk l1 t1 a1) fun u11 => qj_X8_readMember_66 nn u11) (fun U => FSc a1 U) := fun kk t1 l1 a1 S => by
      refine pc_sv (fs_qw_X8_readParameters_4 kk l1 t1 a1 S) ?_; intro u11 Q11
      exact pc_imp (fs_qj_X8_readMember_66 (fs_n S Q11)) (fun _ q => fs_t Q11 q)
    have Hqkk_234 : ∀ (z0 : Int) (z1 : ms_M), ¬ z1 160 9 = 0 → Pc (qw_X13_member_234 nn k z0 z1) (fun u => FSr z1 u) := fun z0 z1 S => ft_qw_X13_member_234 k z0 z1 S
    unfold qw_X8_readParameters_4
    refine p2_sa ?_
    refine pc_if (fun z => absurd z (by omega)) (fun _ => ?_)
    refine pc_if (fun z => absurd z (by decide)) (fun _ => ?_)
    unfold qj_X13_member_269
    have SE : ∀ (a b : ms_M), SFj a b → Pc (qj_X8_readMember_66 nn a) (fun U => JPm K P c q m r U b ∧ (SFj U b ∨ ∃ n : Nat, b 189 m.toNat = r 189 m.toNat + n + 1)) := fun a b s => pc_imp (fs_qj_X8_readMember_66 s.1) (fun U z => ⟨.inl (sf_k s z ft_r), .inl (sf_k s z ft_r)⟩)
    refine p2_sv (j_type BK J) ?_; intro u2 u8 q8
    rcases q8 with S | ⟨t1, bs, rw', ⟨Jt, pt⟩, TK, ⟨b1, b2, b3⟩, n8, F8⟩
    · refine pj_sf (o := fun a => a) (q := fun b => b) S ?_ ?_ (fun a b s => SE a b s)
      · have S1 : ¬ u2 2 11 = 0 := S.1
        have F : FSc u2 u2 := fs_r
        refine pc_sv (fs_qf_X8_need (fs_n S1 F)) ?_; intro u4 Qu4
        have Fu4 : FSc u2 u4 := fs_t F Qu4
        refine pc_sv (fs_qf_X8_accept (fs_n S1 Fu4)) ?_; intro u6 Qu6
        have Fu6 : FSc u2 u6.2 := fs_t Fu4 Qu6
        refine pc_xl ?_; intro v7 _
        exact pc_imp (fs_qw_X8_readParameters_4 _ _ _ _ (fs_n S1 Fu6)) (fun _ q => fs_t Fu6 q)
      · have S1 : ¬ u8 160 9 = 0 := sf_r S
        have F : FSr u8 u8 := ft_r
        refine pc_sv (ft_qf_X13_name (ft_n S1 F)) ?_; intro u10 Qu10
        have Fu10 : FSr u8 u10.2 := ft_t F Qu10
        refine pc_if (fun _ => ?_) (fun _ => ?_)
        · refine pc_wA ?_; intro _ _ h15 Eh15
          have Fh15 : FSr u8 h15 := by rw [Eh15]; exact ft_u Fu10 (by omega)
          refine pc_wA ?_; intro _ _ h19 Eh19
          have Fh19 : FSr u8 h19 := by rw [Eh19]; exact ft_u Fh15 (by omega)
          refine pc_wZ ?_; intro _ _ h23 Eh23
          have Fh23 : FSr u8 h23 := by rw [Eh23]; exact ft_u Fh19 (by omega)
          refine pc_wA ?_; intro _ _ h26 Eh26
          have Fh26 : FSr u8 h26 := by rw [Eh26]; exact ft_u Fh23 (by omega)
          refine pc_xl ?_; intro v28 _
          refine pc_xl ?_; intro h29 Eh29
          have Fh29 : FSr u8 h29 := by rw [Eh29]; exact ft_u Fh26 (by omega)
          refine pc_rA ?_; intro _ _ v31 _
          refine pc_xl ?_; intro v32 _
          refine pc_wA ?_; intro _ _ h33 Eh33
          have Fh33 : FSr u8 h33 := by rw [Eh33]; exact ft_u Fh29 (by omega)
          exact pc_imp (Hqkk_234 _ _ (ft_n S1 Fh33)) (fun _ q => ft_t Fh33 q)
        · exact pc_ret Fu10
    refine p2_sv (j_name BK Jt) ?_; intro u4 u10 q10
    rcases q10 with ⟨k2, m10, J10⟩ | S
    · have w10 : u10.1 = (t1 : Int) := by rw [m10]
      have mm10 : u10.2 = up_M u8 160 23 ((t1 + 1 : Nat) : Int) := by rw [m10]
      have f39 : u10.2 160 39 = r 160 39 := by rw [mm10, up_n (by omega), F8 160 39 (by omega)]
      have f45 : u10.2 160 45 = bs := by rw [mm10, up_n (by omega)]; exact b1
      have f46 : u10.2 160 46 = (q : Int) := by rw [mm10, up_n (by omega)]; exact b2
      have f47 : u10.2 160 47 = rw' := by rw [mm10, up_n (by omega)]; exact b3
      refine pc_fl ?_
      refine pc_if (fun _ => ?_) (fun z => absurd J10.2.2.2.2 z)
      rw [f39, f45]
      refine pc_wA ?_; intro i1 i2 h15 e15
      have g39 : h15 160 39 = r 160 39 := by rw [e15, up_n (by omega)]; exact f39
      have g46 : h15 160 46 = (q : Int) := by rw [e15, up_n (by omega)]; exact f46
      rw [g39, g46]
      refine pc_wA ?_; intro i3 i4 h19 e19
      have a39 : h19 160 39 = r 160 39 := by rw [e19, up_n (by omega)]; exact g39
      have a47 : h19 160 47 = rw' := by rw [e19, up_n (by omega), e15, up_n (by omega)]; exact f47
      rw [a39, a47]
      refine pc_wZ ?_; intro i5 i6 h23 e23
      have c39 : h23 160 39 = r 160 39 := by rw [e23, up_n (by omega)]; exact a39
      rw [c39]
      refine pc_wA ?_; intro i7 i8 h26 e26
      have d39 : h26 160 39 = r 160 39 := by rw [e26, up_n (by omega)]; exact c39
      rw [d39]
      refine pc_add (by omega) ?_; intro v28 e28
      refine pc_xl ?_; intro h29 e29
      refine pc_rA ?_; intro i9 i10 v31 e31
      have o189 : h29 189 m.toNat = r 189 m.toNat := by rw [e29, up_n (by omega), e26, up_n (by omega), e23, up_n (by omega), e19, up_n (by omega), e15, up_n (by omega), mm10, up_n (by omega), F8 189 _ (by omega)]
      rw [o189] at e31
      refine pc_add (by omega) ?_; intro v32 e32
      refine pc_wA ?_; intro i11 i12 h33 e33
      have ALL : ∀ c x : Nat, ¬ (c = 160 ∧ (x = 9 ∨ x = 10 ∨ x = 23 ∨ x = 39 ∨ x = 45 ∨ x = 46 ∨ x = 47)) → ¬ (191 ≤ c ∧ c ≤ 194 ∧ x = (r 160 39).toNat) → ¬ (c = 189 ∧ x = m.toNat) → h33 c x = r c x := fun c x y1 y2 y3 => by
        rw [e33, up_n y3, e29, up_n (by omega), e26, up_n (by omega), e23, up_n (by omega), e19, up_n (by omega), e15, up_n (by omega), mm10, up_n (by omega), F8 c x (by omega)]
      have r1 : h33 191 (r 160 39).toNat = bs := by rw [e33, up_n (by omega), e29, up_n (by omega), e26, up_n (by omega), e23, up_n (by omega), e19, up_n (by omega), e15, up_s]
      have r2 : h33 192 (r 160 39).toNat = (q : Int) := by rw [e33, up_n (by omega), e29, up_n (by omega), e26, up_n (by omega), e23, up_n (by omega), e19, up_s]
      have r3 : h33 193 (r 160 39).toNat = rw' := by rw [e33, up_n (by omega), e29, up_n (by omega), e26, up_n (by omega), e23, up_s]
      have r4 : h33 194 (r 160 39).toNat = (t1 : Int) := by rw [e33, up_n (by omega), e29, up_n (by omega), e26, up_s]; exact w10
      have r5 : h33 189 m.toNat = r 189 m.toNat + 1 := by rw [e33, up_s]; omega
      have r6 : h33 160 39 = r 160 39 + 1 := by rw [e33, up_n (by omega), e29, up_s]; exact e28
      have n33 : h33 160 22 = r 160 22 := ALL 160 22 (by omega) (by omega) (by omega)
      have J33 : JPp K P c (t1 + 1) u4 h33 := by
        rw [e33, e29, e26, e23, e19, e15]
        exact jp_w (jp_c (jp_w (jp_w (jp_w (jp_w J10 (by decide)) (by decide)) (by decide)) (by decide)) (by decide)) (by decide)
      have M33 : MFr r h33 m.toNat := ⟨⟨by omega, fun c x c1 c2 c3 => ALL c x (by omega) (by omega) (by omega)⟩, ⟨by omega, fun c x c1 c2 c3 => ALL c x (by omega) (by omega) (by omega)⟩, fun c j c1 c2 c3 => ALL c j (by omega) (by omega) (fun z => c3 ⟨z.2, .inl z.1⟩), ALL 160 24 (by omega) (by omega) (by omega), ALL 160 28 (by omega) (by omega) (by omega)⟩
      have J33' := J33
      obtain ⟨b33, d33, ⟨l1, l2, l3⟩, l4, l5⟩ := J33'
      cases k with
      | zero => exact pc_none
      | succ k =>
        unfold qw_X13_member_234
        refine pc_if (fun z => absurd l5 z) (fun _ => ?_)
        rw [l2]
        refine pc_sv (r_sgn BK d33 rfl (by omega) (k := 41) (by decide) (by decide)) ?_; intro u38 q38
        refine pc_fl ?_
        refine pc_sv (c_acc BK b33 l3 l1 l4) ?_; intro u6 q6
        refine pc_add (by omega) ?_; intro v7 e7
        rcases q6 with ⟨k47, m6⟩ | ⟨k47, m6⟩
        · -- , and one more
          rw [m6]
          dsimp only
          refine pc_fl ?_
          refine pc_if (fun z => absurd (by omega) z) (fun _ => ?_)
          refine pc_rA ?_; intro _ _ v40 e40
          rw [r5] at e40
          refine pc_if (fun z => absurd z (by omega)) (fun _ => ?_)
          refine pc_sv (r_sign_ BK d33 l3 l2 l5 (k := 47) (by decide) (by decide)) ?_; intro u42 q42
          rcases q42 with ⟨-, m42⟩ | ⟨z, -⟩
          · have J42 : JPp K P c (t1 + 2) (up_M u4 2 10 ((t1 + 1 + 1 : Nat) : Int)) u42 := by rw [m42]; exact jp_up BK J33 (q := t1 + 2) (jp_lt BK l3 (by omega))
            have a42 : ∀ c x : Nat, ¬ (c = 160 ∧ x = 23) → u42 c x = h33 c x := fun c x z => by rw [m42]; exact up_n z
            refine pc_fl ?_
            have R := ih k (t1 + 2) _ u42 v7 J42 (by rw [a42 160 22 (by omega)]; omega) (by rw [a42 160 39 (by omega)]; omega) (by rw [a42 189 _ (by omega)]; omega) (by omega) (by rw [a42 189 _ (by omega)]; omega)
            refine (fun a ea V eV U eU => ?_)
            have eU2 : (mx_sv (qw_X8_readParameters_4 nn f 1 v7 (up_M u4 2 10 ((t1 + 1 + 1 : Nat) : Int))) fun u11 => qj_X8_readMember_66 nn u11) = some U := by
              have ea' : qw_X8_readParameters_4 nn f 1 v7 (up_M u4 2 10 ((t1 + 1 + 1 : Nat) : Int)) = some a := ea
              rw [ea', mx_svs]; exact eU
            obtain ⟨R1, R2⟩ := R U eU2 V eV
            rcases R1 with R1 | ⟨qq, x, n, ⟨y1, y2, y3⟩, y4, y5, y6, y7, y8, y9⟩
            · exact ⟨.inl R1, .inl R1⟩
            · have n0 : ¬ n = 0 := by
                rcases R2 with R2 | ⟨n2, R2⟩
                · exact absurd y1.2.2.2.1 R2.1
                · rw [a42 189 _ (by omega)] at R2 y7; omega
              rw [a42 160 39 (by omega), r6] at y4 y8
              rw [a42 189 _ (by omega), r5] at y7
              rw [a42 160 22 (by omega), n33] at y6
              have M42 : MFr h33 u42 m.toNat := ⟨⟨by rw [a42 160 22 (by omega)]; omega, fun c x c1 c2 c3 => a42 c x (by omega)⟩, ⟨by rw [a42 160 39 (by omega)]; omega, fun c x c1 c2 c3 => a42 c x (by omega)⟩, fun c j c1 c2 c3 => a42 c j (by omega), a42 160 24 (by omega), a42 160 28 (by omega)⟩
              have MM := mfr_t (mfr_t M33 M42) y9
              have M2 := mfr_t M42 y9
              have kp : ∀ c : Nat, 191 ≤ c → c ≤ 194 → V c (r 160 39).toNat = h33 c (r 160 39).toNat := fun c c1 c2 => M2.2.1.2 c _ c1 c2 (by omega)
              refine ⟨.inr ⟨qq, x, n + 1, ⟨y1, by omega, y3⟩, ⟨(t1 : Int), bs, rw', TK, ⟨by rw [kp 191 (by decide) (by decide)]; exact r1, by rw [kp 192 (by decide) (by decide)]; exact r2, by rw [kp 193 (by decide) (by decide)]; exact r3, by rw [kp 194 (by decide) (by decide)]; exact r4⟩, by rw [Int.toNat_natCast]; exact k2, .inr ⟨n0, by rw [show ((t1 : Int) + 1).toNat = t1 + 1 by omega]; exact k47, y4⟩⟩, y5, y6, by omega, by omega, MM⟩, .inr ⟨n, by omega⟩⟩
          · exact absurd k47 z
        · -- the last
          rw [m6]
          dsimp only
          cases f with
          | zero => exact pc_none
          | succ f =>
            have D : Pc (some u4) (fun a => Pc (if ¬ u38 = 0 then (qj_X13_member_360 nn m h33) else (rd_A 800 189 m h33 fun v40 => if v40 ≤ 0 then (qj_X13_member_269 nn (qw_X13_member_234 nn k) m h33) else (mx_sv (qf_X13_sign_ nn 44 h33) fun u42 => qj_X13_member_269 nn (qw_X13_member_234 nn k) m u42))) (fun V => Pc (qj_X8_readMember_66 nn a) (fun U => JPm K P c q m r U V ∧ (SFj U V ∨ ∃ n : Nat, V 189 m.toNat = r 189 m.toNat + n + 1)))) := by
              refine pc_ret ?_
              by_cases k41 : K (t1 + 1) = 41
              · refine pc_if (fun _ => ?_) (fun z => absurd (by omega) z)
                refine pc_fl ?_
                refine (fun U eU V eV => ?_)
                have R := j_66 BK hm J33 (by omega) U eU V eV
                rcases R with R | ⟨t2, ⟨y1, y2⟩, y4, y5, y6, y7, y8⟩
                · exact ⟨.inl R, .inl R⟩
                · have MM := mfr_t M33 y8
                  rw [n33] at y5
                  have kp : ∀ c : Nat, 191 ≤ c → c ≤ 194 → V c (r 160 39).toNat = h33 c (r 160 39).toNat := fun c c1 c2 => y8.2.1.2 c _ c1 c2 (by omega)
                  refine ⟨.inr ⟨t2, t1 + 1, 1, ⟨y1, by omega, y2⟩, ⟨(t1 : Int), bs, rw', TK, ⟨by rw [kp 191 (by decide) (by decide)]; exact r1, by rw [kp 192 (by decide) (by decide)]; exact r2, by rw [kp 193 (by decide) (by decide)]; exact r3, by rw [kp 194 (by decide) (by decide)]; exact r4⟩, by rw [Int.toNat_natCast]; exact k2, .inl ⟨rfl, by omega⟩⟩, k41, y5, by omega, by omega, MM⟩, .inr ⟨0, by omega⟩⟩
              · -- neither , nor )
                refine pc_fl ?_
                unfold qj_X8_readMember_66
                refine pc_sv (c_need BK b33 l3 l1 l4) ?_; intro u2' q2'
                rcases q2' with ⟨z, -⟩ | ⟨-, z2, z3⟩
                · exact absurd z k41
                · have n0 := tl_0 (K := K) (p := t1 + 1) (k := 2) (by decide)
                  refine pc_sv (fs_qf_X8_readBlock (by rw [z2]; exact n0)) ?_; intro u4' Q4
                  refine pc_ret ?_
                  refine pc_if (fun z => absurd z (by omega)) (fun _ => ?_)
                  refine pc_rA ?_; intro _ _ v40 e40
                  rw [r5] at e40
                  refine pc_if (fun z => absurd z (by omega)) (fun _ => ?_)
                  refine pc_sv (r_sign_ BK d33 l3 l2 l5 (k := 47) (by decide) (by decide)) ?_; intro u42 q42
                  rcases q42 with ⟨z, -⟩ | ⟨-, z4, z5⟩
                  · exact absurd z k47
                  · refine pc_imp (ft_qj_X13_member_269 (fun z0 z1 S => ft_qw_X13_member_234 k z0 z1 S) (by rw [z4]; exact n0)) (fun w z => ?_)
                    have SS : SFj u4' w := ⟨by rw [Q4.1, z2]; exact n0, by rw [z.1, z4, Q4.1, z2], by rw [z.2, z5, Q4.2, z3]⟩
                    exact ⟨.inl SS, .inl SS⟩
            unfold qw_X8_readParameters_4
            exact pc_if (fun _ => D) (fun _ => pc_if (fun _ => D) (fun z => absurd rfl z))
    · refine pj_sf (o := fun a => a) (q := fun b => b) S ?_ ?_ (fun a b s => SE a b s)
      · have S1 : ¬ u4 2 11 = 0 := S.1
        have F : FSc u4 u4 := fs_r
        refine pc_sv (fs_qf_X8_accept (fs_n S1 F)) ?_; intro u6 Qu6
        have Fu6 : FSc u4 u6.2 := fs_t F Qu6
        refine pc_xl ?_; intro v7 _
        exact pc_imp (fs_qw_X8_readParameters_4 _ _ _ _ (fs_n S1 Fu6)) (fun _ q => fs_t Fu6 q)
      · have S1 : ¬ u10.2 160 9 = 0 := sf_r S
        have F : FSr u10.2 u10.2 := ft_r
        refine pc_if (fun _ => ?_) (fun _ => ?_)
        · refine pc_wA ?_; intro _ _ h15 Eh15
          have Fh15 : FSr u10.2 h15 := by rw [Eh15]; exact ft_u F (by omega)
          refine pc_wA ?_; intro _ _ h19 Eh19
          have Fh19 : FSr u10.2 h19 := by rw [Eh19]; exact ft_u Fh15 (by omega)
          refine pc_wZ ?_; intro _ _ h23 Eh23
          have Fh23 : FSr u10.2 h23 := by rw [Eh23]; exact ft_u Fh19 (by omega)
          refine pc_wA ?_; intro _ _ h26 Eh26
          have Fh26 : FSr u10.2 h26 := by rw [Eh26]; exact ft_u Fh23 (by omega)
          refine pc_xl ?_; intro v28 _
          refine pc_xl ?_; intro h29 Eh29
          have Fh29 : FSr u10.2 h29 := by rw [Eh29]; exact ft_u Fh26 (by omega)
          refine pc_rA ?_; intro _ _ v31 _
          refine pc_xl ?_; intro v32 _
          refine pc_wA ?_; intro _ _ h33 Eh33
          have Fh33 : FSr u10.2 h33 := by rw [Eh33]; exact ft_u Fh29 (by omega)
          exact pc_imp (Hqkk_234 _ _ (ft_n S1 Fh33)) (fun _ q => ft_t Fh33 q)
        · exact pc_ret F
end

section
/- PARSE: MEMBER of both sides -/
/-- n parameters from token p to x, in the rows from i on -/
def PRL (K : Nat → Int) (T : ms_M) : Nat → Int → Int → Int → Prop
  | 0, _, p, x => x = p
  | n + 1, i, p, x => ∃ t bs rw : Int, TYk K p t bs rw ∧ (T 191 i.toNat = bs ∧ T 192 i.toNat = p ∧ T 193 i.toNat = rw ∧ T 194 i.toNat = t) ∧ K t.toNat = 2 ∧ ((n = 0 ∧ x = t + 1) ∨ (¬ n = 0 ∧ K (t + 1).toNat = 47 ∧ PRL K T n (i + 1) (t + 2) x))
/-- member m, tokens [p, q), nodes [a, b) -/
def RMB (K : Nat → Int) (T : ms_M) (m p q a b : Int) : Prop := ∃ p1 t bs rw : Int, ((K p.toNat = 25 ∧ p1 = p + 1) ∨ (¬ K p.toNat = 25 ∧ p1 = p)) ∧ ((K p1.toNat = 30 ∧ bs = 2 ∧ rw = 0 ∧ t = p1 + 1) ∨ (¬ K p1.toNat = 30 ∧ TYk K p1 t bs rw)) ∧ (T 183 m.toNat = bs ∧ T 184 m.toNat = p1 ∧ T 185 m.toNat = rw ∧ T 186 m.toNat = t ∧ K t.toNat = 2) ∧ (((¬ K p.toNat = 25 ∧ ¬ K p1.toNat = 30) ∧ K (t + 1).toNat = 46 ∧ T 182 m.toNat = 0 ∧ T 189 m.toNat = 0 ∧ q = t + 2) ∨ (∃ (n : Nat) (x : Int), ¬ ((¬ K p.toNat = 25 ∧ ¬ K p1.toNat = 30) ∧ K (t + 1).toNat = 46) ∧ ((K p.toNat = 25 ∧ T 182 m.toNat = 2) ∨ (¬ K p.toNat = 25 ∧ T 182 m.toNat = 1)) ∧ K (t + 1).toNat = 40 ∧ T 189 m.toNat = (n : Int) ∧ PRL K T n (T 188 m.toNat) (t + 2) x ∧ K x.toNat = 41 ∧ LKn 0 K T 8 0 0 a b (x + 1) q (T 190 m.toNat)))
section
variable {nn : Nat} {K P : Nat → Int} {c p : Nat} {h g r w u v : ms_M}
theorem prl_k {T2 : ms_M} : ∀ (n : Nat) (i p x : Int), 0 ≤ i → (∀ c j : Nat, 191 ≤ c → c ≤ 194 → i ≤ (j : Int) → (j : Int) < i + n → T2 c j = r c j) → PRL K r n i p x → PRL K T2 n i p x := by
  intro n
  induction n with
  | zero => intro i p x _ _ H; exact H
  | succ n ih =>
    intro i p x h0 F H
    obtain ⟨t, bs, rw', h1, ⟨a1, a2, a3, a4⟩, h3, h4⟩ := H
    have E : ∀ c : Nat, 191 ≤ c → c ≤ 194 → T2 c i.toNat = r c i.toNat := fun c c1 c2 => F c i.toNat c1 c2 (by omega) (by omega)
    refine ⟨t, bs, rw', h1, ⟨by rw [E 191 (by decide) (by decide)]; exact a1, by rw [E 192 (by decide) (by decide)]; exact a2, by rw [E 193 (by decide) (by decide)]; exact a3, by rw [E 194 (by decide) (by decide)]; exact a4⟩, h3, ?_⟩
    rcases h4 with h4 | ⟨h4, h5, h6⟩
    · exact .inl h4
    · exact .inr ⟨h4, h5, ih (i + 1) (t + 2) x (by omega) (fun c j c1 c2 c3 c4 => F c j c1 c2 (by omega) (by omega)) h6⟩
/-- a member's rows stay -/
theorem rmb_k {T2 : ms_M} {m p q a b : Int} (h188 : 0 ≤ r 188 m.toNat) (F1 : ∀ c : Nat, 181 ≤ c → c ≤ 190 → ¬ c = 187 → T2 c m.toNat = r c m.toNat) (F2 : ∀ c j : Nat, 191 ≤ c → c ≤ 194 → r 188 m.toNat ≤ (j : Int) → (j : Int) < r 188 m.toNat + r 189 m.toNat → T2 c j = r c j) (F3 : ∀ c x : Nat, 167 ≤ c → c ≤ 177 → ¬ c = 174 → a ≤ (x : Int) → (x : Int) < b → T2 c x = r c x) (H : RMB K r m p q a b) : RMB K T2 m p q a b := by
  obtain ⟨p1, t, bs, rw', h1, h2, ⟨a1, a2, a3, a4, a5⟩, h4⟩ := H
  refine ⟨p1, t, bs, rw', h1, h2, ⟨by rw [F1 183 (by decide) (by decide) (by decide)]; exact a1, by rw [F1 184 (by decide) (by decide) (by decide)]; exact a2, by rw [F1 185 (by decide) (by decide) (by decide)]; exact a3, by rw [F1 186 (by decide) (by decide) (by decide)]; exact a4, a5⟩, ?_⟩
  rw [F1 182 (by decide) (by decide) (by decide), F1 188 (by decide) (by decide) (by decide), F1 189 (by decide) (by decide) (by decide), F1 190 (by decide) (by decide) (by decide)]
  rcases h4 with h4 | ⟨n, x, y1, y2, y3, y4, y5, y6, y7⟩
  · exact .inl h4
  · exact .inr ⟨n, x, y1, y2, y3, y4, prl_k n _ _ _ h188 (fun c j c1 c2 c3 c4 => F2 c j c1 c2 c3 (by rw [y4]; exact c4)) y5, y6, lk_map y7 (fun c x c1 c2 c3 x1 x2 _ _ => F3 c x c1 c2 c3 x1 x2)⟩
theorem p2_se {α β γ δ : Type} {x : Option α} {y : Option β} {F : α → Option γ} {G : β → Option δ} {R : α → β → Prop} {Z : γ → δ → Prop} (hx : Pc x (fun u => Pc y (fun v => R u v))) (H : ∀ a b, x = some a → y = some b → R a b → Pc (F a) (fun u => Pc (G b) (fun v => Z u v))) : Pc (mx_sv x F) (fun u => Pc (mx_sv y G) (fun v => Z u v)) := by
  refine pc_se ?_; intro a ea
  refine pc_fl ?_
  refine pc_se ?_; intro b eb
  exact pc_fl (H a b ea eb (hx a ea b eb))
theorem fx_block {c k : Nat} (h1 : 178 ≤ c) (h2 : c ≤ 194) : nw_F wl_X13_block wf_X13_block false false c k = true := by
  have z : c = 178 ∨ c = 179 ∨ c = 180 ∨ c = 181 ∨ c = 182 ∨ c = 183 ∨ c = 184 ∨ c = 185 ∨ c = 186 ∨ c = 187 ∨ c = 188 ∨ c = 189 ∨ c = 190 ∨ c = 191 ∨ c = 192 ∨ c = 193 ∨ c = 194 := by omega
  rcases z with z | z | z | z | z | z | z | z | z | z | z | z | z | z | z | z | z <;> (rw [z]; exact nw_ar rfl k)
/-- what a member's parameters and body leave: rows of the parse alone are written -/
def MFr (r v : ms_M) (m : Nat) : Prop := (r 160 22 ≤ v 160 22 ∧ ∀ c x : Nat, 167 ≤ c → c ≤ 177 → (x : Int) < r 160 22 → v c x = r c x) ∧ (r 160 39 ≤ v 160 39 ∧ ∀ c j : Nat, 191 ≤ c → c ≤ 194 → (j : Int) < r 160 39 → v c j = r c j) ∧ (∀ c j : Nat, 178 ≤ c → c ≤ 190 → ¬ (j = m ∧ (c = 189 ∨ c = 190)) → v c j = r c j) ∧ v 160 24 = r 160 24 ∧ v 160 28 = r 160 28
def JPm (K P : Nat → Int) (c p : Nat) (m : Int) (r u v : ms_M) : Prop := SFj u v ∨ ∃ (q x : Nat) (n : Nat), (JPp K P c q u v ∧ p ≤ x ∧ x < q) ∧ PRL K v n (r 160 39) (p : Int) (x : Int) ∧ K x = 41 ∧ LKn 0 K v 8 0 0 (r 160 22) (v 160 22) ((x + 1 : Nat) : Int) (q : Int) (v 190 m.toNat) ∧ v 189 m.toNat = r 189 m.toNat + n ∧ v 160 39 = r 160 39 + n ∧ MFr r v m.toNat
theorem mfr_t {m : Nat} (A : MFr r v m) (B : MFr v w m) : MFr r w m := by
  obtain ⟨⟨a1, a2⟩, ⟨a3, a4⟩, a5, a6, a7⟩ := A
  obtain ⟨⟨b1, b2⟩, ⟨b3, b4⟩, b5, b6, b7⟩ := B
  exact ⟨⟨by omega, fun c x c1 c2 c3 => by rw [b2 c x c1 c2 (by omega)]; exact a2 c x c1 c2 c3⟩, ⟨by omega, fun c x c1 c2 c3 => by rw [b4 c x c1 c2 (by omega)]; exact a4 c x c1 c2 c3⟩, fun c j c1 c2 c3 => by rw [b5 c j c1 c2 c3]; exact a5 c j c1 c2 c3, by omega, by omega⟩
/-- ) BLOCK -/
def JBd (K P : Nat → Int) (c q : Nat) (m : Int) (r u v : ms_M) : Prop := SFj u v ∨ ∃ t : Nat, (JPp K P c t u v ∧ q < t) ∧ K q = 41 ∧ LKn 0 K v 8 0 0 (r 160 22) (v 160 22) ((q + 1 : Nat) : Int) (t : Int) (v 190 m.toNat) ∧ v 189 m.toNat = r 189 m.toNat ∧ v 160 39 = r 160 39 ∧ MFr r v m.toNat
theorem j_66 (BK : TBn K c) {q : Nat} {m : Int} (hm : 0 ≤ m) (J : JPp K P c q h r) (hr : 0 ≤ r 160 22) : Pc (qj_X8_readMember_66 nn h) (fun u => Pc (qj_X13_member_360 nn m r) (fun v => JBd K P c q m r u v)) := by
  unfold qj_X8_readMember_66 qj_X13_member_360
  refine p2_sv (j_need BK J (k := 41) (by decide) (by decide)) ?_; intro u2 w2 q2
  rcases q2 with ⟨k41, m2, J2⟩ | S
  · have n2 : w2 160 22 = r 160 22 := by rw [m2, up_n (by omega)]
    refine p2_se (j_block BK (by decide) J2 (by omega)) ?_; intro u4 u5 eu4 eu5 q5
    refine pc_ret ?_
    refine pc_wA ?_; intro i1 i2 h6 e6
    refine pc_ret ?_
    rcases q5 with S | ⟨t, ⟨Jt, qt⟩, L, x1, N⟩
    · refine .inl ⟨S.1, ?_, ?_⟩
      · rw [e6, up_n (by omega)]; exact S.2.1
      · rw [e6, up_n (by omega)]; exact S.2.2
    · have N1 := N.1
      have n6 : h6 160 22 = u5.2 160 22 := by rw [e6, up_n (by omega)]
      have FX : ∀ c x : Nat, 178 ≤ c → c ≤ 194 → u5.2 c x = r c x := fun c x a1 a2 => by
        rw [show u5.2 c x = w2 c x from (ff_X13_block nn) _ eu5 c x (fx_block a1 a2), m2, up_n (by omega)]
      have f24 : u5.2 160 24 = r 160 24 := by
        have := (ff_X13_block nn) _ eu5 160 24 rfl
        rw [m2, up_n (by omega)] at this; exact this
      have f28 : u5.2 160 28 = r 160 28 := by
        have := (ff_X13_block nn) _ eu5 160 28 rfl
        rw [m2, up_n (by omega)] at this; exact this
      have f39 : u5.2 160 39 = r 160 39 := by
        have := (ff_X13_block nn) _ eu5 160 39 rfl
        rw [m2, up_n (by omega)] at this; exact this
      refine .inr ⟨t, ⟨by rw [e6]; exact jp_w Jt (by decide), by omega⟩, k41, ?_, ?_, ?_, ⟨⟨by omega, fun c x c1 c2 c3 => ?_⟩, ⟨?_, fun c x c1 c2 c3 => ?_⟩, fun c j c1 c2 c3 => ?_, ?_, ?_⟩⟩
      · rw [n6, e6, up_s, ← n2]
        exact lk_w L (.inr (by decide))
      · rw [e6, up_n (by omega), FX 189 _ (by decide) (by decide)]
      · rw [e6, up_n (by omega), f39]
      · rw [e6, up_n (by omega), N.2 c x c1 c2 (by omega), m2, up_n (by omega)]
      · rw [e6, up_n (by omega), f39]; omega
      · rw [e6, up_n (by omega), FX c x (by omega) (by omega)]
      · by_cases z : c = 190 ∧ j = m.toNat
        · exact absurd ⟨z.2, .inr z.1⟩ c3
        · rw [e6, up_n z, FX c j (by omega) (by omega)]
      · rw [e6, up_n (by omega), f24]
      · rw [e6, up_n (by omega), f28]
  · refine pj_sf (o := fun a => a) (q := fun b => b) S ?_ ?_ (fun a b s => .inl s)
    · have S1 : ¬ u2 2 11 = 0 := S.1
      have F : FSc u2 u2 := fs_r
      refine pc_sv (fs_qf_X8_readBlock (fs_n S1 F)) ?_; intro u4 Qu4
      have Fu4 : FSc u2 u4 := fs_t F Qu4
      exact pc_ret Fu4
    · have S1 : ¬ w2 160 9 = 0 := sf_r S
      have F : FSr w2 w2 := ft_r
      refine pc_sv (ft_qf_X13_block (ft_n S1 F)) ?_; intro u5 Qu5
      have Fu5 : FSr w2 u5.2 := ft_t F Qu5
      refine pc_wA ?_; intro _ _ h6 Eh6
      have Fh6 : FSr w2 h6 := by rw [Eh6]; exact ft_u Fu5 (by omega)
      exact pc_ret Fh6
/-- parameters from one on, and what comes behind -/
theorem j_269 (BK : TBn K c) {m : Int} (hm : 0 ≤ m) : ∀ (f k q : Nat) (h r : ms_M) (t : Int), JPp K P c q h r → 0 ≤ r 160 22 → 0 ≤ r 160 39 → 0 ≤ r 189 m.toNat → (0 ≤ t ∧ t < (q : Int)) → r 189 m.toNat ≤ (q : Int) → Pc (mx_sv (qw_X8_readParameters_4 nn f 1 t h) fun u11 => qj_X8_readMember_66 nn u11) (fun u => Pc (qj_X13_member_269 nn (qw_X13_member_234 nn k) m r) (fun v => JPm K P c q m r u v ∧ (SFj u v ∨ ∃ n : Nat, v 189 m.toNat = r 189 m.toNat + n + 1))) := by
  have n3 := BK.2.1
  intro f
  induction f with
  | zero => intros; exact pc_none
  | succ f ih =>
    intro k q h r t J hr h39 h189 ht hq9
    have e3 := J.2.2.1.2.2
    have FC : ∀ (kk : Nat) (t1 l1 : Int) (a1 : ms_M), ¬ a1 2 11 = 0 → Pc (mx_sv (qw_X8_readParameters_4 nn kk l1 t1 a1) fun u11 => qj_X8_readMember_66 nn u11) (fun U => FSc a1 U) := fun kk t1 l1 a1 S => by
      refine pc_sv (fs_qw_X8_readParameters_4 kk l1 t1 a1 S) ?_; intro u11 Q11
      exact pc_imp (fs_qj_X8_readMember_66 (fs_n S Q11)) (fun _ q => fs_t Q11 q)
    have Hqkk_234 : ∀ (z0 : Int) (z1 : ms_M), ¬ z1 160 9 = 0 → Pc (qw_X13_member_234 nn k z0 z1) (fun u => FSr z1 u) := fun z0 z1 S => ft_qw_X13_member_234 k z0 z1 S
    unfold qw_X8_readParameters_4
    refine p2_sa ?_
    refine pc_if (fun z => absurd z (by omega)) (fun _ => ?_)
    refine pc_if (fun z => absurd z (by decide)) (fun _ => ?_)
    unfold qj_X13_member_269
    have SE : ∀ (a b : ms_M), SFj a b → Pc (qj_X8_readMember_66 nn a) (fun U => JPm K P c q m r U b ∧ (SFj U b ∨ ∃ n : Nat, b 189 m.toNat = r 189 m.toNat + n + 1)) := fun a b s => pc_imp (fs_qj_X8_readMember_66 s.1) (fun U z => ⟨.inl (sf_k s z ft_r), .inl (sf_k s z ft_r)⟩)
    refine p2_sv (j_type BK J) ?_; intro u2 u8 q8
    rcases q8 with S | ⟨t1, bs, rw', ⟨Jt, pt⟩, TK, ⟨b1, b2, b3⟩, n8, F8⟩
    · refine pj_sf (o := fun a => a) (q := fun b => b) S ?_ ?_ (fun a b s => SE a b s)
      · have S1 : ¬ u2 2 11 = 0 := S.1
        have F : FSc u2 u2 := fs_r
        refine pc_sv (fs_qf_X8_need (fs_n S1 F)) ?_; intro u4 Qu4
        have Fu4 : FSc u2 u4 := fs_t F Qu4
        refine pc_sv (fs_qf_X8_accept (fs_n S1 Fu4)) ?_; intro u6 Qu6
        have Fu6 : FSc u2 u6.2 := fs_t Fu4 Qu6
        refine pc_xl ?_; intro v7 _
        exact pc_imp (fs_qw_X8_readParameters_4 _ _ _ _ (fs_n S1 Fu6)) (fun _ q => fs_t Fu6 q)
      · have S1 : ¬ u8 160 9 = 0 := sf_r S
        have F : FSr u8 u8 := ft_r
        refine pc_sv (ft_qf_X13_name (ft_n S1 F)) ?_; intro u10 Qu10
        have Fu10 : FSr u8 u10.2 := ft_t F Qu10
        refine pc_if (fun _ => ?_) (fun _ => ?_)
        · refine pc_wA ?_; intro _ _ h15 Eh15
          have Fh15 : FSr u8 h15 := by rw [Eh15]; exact ft_u Fu10 (by omega)
          refine pc_wA ?_; intro _ _ h19 Eh19
          have Fh19 : FSr u8 h19 := by rw [Eh19]; exact ft_u Fh15 (by omega)
          refine pc_wZ ?_; intro _ _ h23 Eh23
          have Fh23 : FSr u8 h23 := by rw [Eh23]; exact ft_u Fh19 (by omega)
          refine pc_wA ?_; intro _ _ h26 Eh26
          have Fh26 : FSr u8 h26 := by rw [Eh26]; exact ft_u Fh23 (by omega)
          refine pc_xl ?_; intro v28 _
          refine pc_xl ?_; intro h29 Eh29
          have Fh29 : FSr u8 h29 := by rw [Eh29]; exact ft_u Fh26 (by omega)
          refine pc_rA ?_; intro _ _ v31 _
          refine pc_xl ?_; intro v32 _
          refine pc_wA ?_; intro _ _ h33 Eh33
          have Fh33 : FSr u8 h33 := by rw [Eh33]; exact ft_u Fh29 (by omega)
          exact pc_imp (Hqkk_234 _ _ (ft_n S1 Fh33)) (fun _ q => ft_t Fh33 q)
        · exact pc_ret Fu10
    refine p2_sv (j_name BK Jt) ?_; intro u4 u10 q10
    rcases q10 with ⟨k2, m10, J10⟩ | S
    · have w10 : u10.1 = (t1 : Int) := by rw [m10]
      have mm10 : u10.2 = up_M u8 160 23 ((t1 + 1 : Nat) : Int) := by rw [m10]
      have f39 : u10.2 160 39 = r 160 39 := by rw [mm10, up_n (by omega), F8 160 39 (by omega)]
      have f45 : u10.2 160 45 = bs := by rw [mm10, up_n (by omega)]; exact b1
      have f46 : u10.2 160 46 = (q : Int) := by rw [mm10, up_n (by omega)]; exact b2
      have f47 : u10.2 160 47 = rw' := by rw [mm10, up_n (by omega)]; exact b3
      refine pc_fl ?_
      refine pc_if (fun _ => ?_) (fun z => absurd J10.2.2.2.2 z)
      rw [f39, f45]
      refine pc_wA ?_; intro i1 i2 h15 e15
      have g39 : h15 160 39 = r 160 39 := by rw [e15, up_n (by omega)]; exact f39
      have g46 : h15 160 46 = (q : Int) := by rw [e15, up_n (by omega)]; exact f46
      rw [g39, g46]
      refine pc_wA ?_; intro i3 i4 h19 e19
      have a39 : h19 160 39 = r 160 39 := by rw [e19, up_n (by omega)]; exact g39
      have a47 : h19 160 47 = rw' := by rw [e19, up_n (by omega), e15, up_n (by omega)]; exact f47
      rw [a39, a47]
      refine pc_wZ ?_; intro i5 i6 h23 e23
      have c39 : h23 160 39 = r 160 39 := by rw [e23, up_n (by omega)]; exact a39
      rw [c39]
      refine pc_wA ?_; intro i7 i8 h26 e26
      have d39 : h26 160 39 = r 160 39 := by rw [e26, up_n (by omega)]; exact c39
      rw [d39]
      refine pc_add (by omega) ?_; intro v28 e28
      refine pc_xl ?_; intro h29 e29
      refine pc_rA ?_; intro i9 i10 v31 e31
      have o189 : h29 189 m.toNat = r 189 m.toNat := by rw [e29, up_n (by omega), e26, up_n (by omega), e23, up_n (by omega), e19, up_n (by omega), e15, up_n (by omega), mm10, up_n (by omega), F8 189 _ (by omega)]
      rw [o189] at e31
      refine pc_add (by omega) ?_; intro v32 e32
      refine pc_wA ?_; intro i11 i12 h33 e33
      have ALL : ∀ c x : Nat, ¬ (c = 160 ∧ (x = 9 ∨ x = 10 ∨ x = 23 ∨ x = 39 ∨ x = 45 ∨ x = 46 ∨ x = 47)) → ¬ (191 ≤ c ∧ c ≤ 194 ∧ x = (r 160 39).toNat) → ¬ (c = 189 ∧ x = m.toNat) → h33 c x = r c x := fun c x y1 y2 y3 => by
        rw [e33, up_n y3, e29, up_n (by omega), e26, up_n (by omega), e23, up_n (by omega), e19, up_n (by omega), e15, up_n (by omega), mm10, up_n (by omega), F8 c x (by omega)]
      have r1 : h33 191 (r 160 39).toNat = bs := by rw [e33, up_n (by omega), e29, up_n (by omega), e26, up_n (by omega), e23, up_n (by omega), e19, up_n (by omega), e15, up_s]
      have r2 : h33 192 (r 160 39).toNat = (q : Int) := by rw [e33, up_n (by omega), e29, up_n (by omega), e26, up_n (by omega), e23, up_n (by omega), e19, up_s]
      have r3 : h33 193 (r 160 39).toNat = rw' := by rw [e33, up_n (by omega), e29, up_n (by omega), e26, up_n (by omega), e23, up_s]
      have r4 : h33 194 (r 160 39).toNat = (t1 : Int) := by rw [e33, up_n (by omega), e29, up_n (by omega), e26, up_s]; exact w10
      have r5 : h33 189 m.toNat = r 189 m.toNat + 1 := by rw [e33, up_s]; omega
      have r6 : h33 160 39 = r 160 39 + 1 := by rw [e33, up_n (by omega), e29, up_s]; exact e28
      have n33 : h33 160 22 = r 160 22 := ALL 160 22 (by omega) (by omega) (by omega)
      have J33 : JPp K P c (t1 + 1) u4 h33 := by
        rw [e33, e29, e26, e23, e19, e15]
        exact jp_w (jp_c (jp_w (jp_w (jp_w (jp_w J10 (by decide)) (by decide)) (by decide)) (by decide)) (by decide)) (by decide)
      have M33 : MFr r h33 m.toNat := ⟨⟨by omega, fun c x c1 c2 c3 => ALL c x (by omega) (by omega) (by omega)⟩, ⟨by omega, fun c x c1 c2 c3 => ALL c x (by omega) (by omega) (by omega)⟩, fun c j c1 c2 c3 => ALL c j (by omega) (by omega) (fun z => c3 ⟨z.2, .inl z.1⟩), ALL 160 24 (by omega) (by omega) (by omega), ALL 160 28 (by omega) (by omega) (by omega)⟩
      have J33' := J33
      obtain ⟨b33, d33, ⟨l1, l2, l3⟩, l4, l5⟩ := J33'
      cases k with
      | zero => exact pc_none
      | succ k =>
        unfold qw_X13_member_234
        refine pc_if (fun z => absurd l5 z) (fun _ => ?_)
        rw [l2]
        refine pc_sv (r_sgn BK d33 rfl (by omega) (k := 41) (by decide) (by decide)) ?_; intro u38 q38
        refine pc_fl ?_
        refine pc_sv (c_acc BK b33 l3 l1 l4) ?_; intro u6 q6
        refine pc_add (by omega) ?_; intro v7 e7
        rcases q6 with ⟨k47, m6⟩ | ⟨k47, m6⟩
        · -- , and one more
          rw [m6]
          dsimp only
          refine pc_fl ?_
          refine pc_if (fun z => absurd (by omega) z) (fun _ => ?_)
          refine pc_rA ?_; intro _ _ v40 e40
          rw [r5] at e40
          refine pc_if (fun z => absurd z (by omega)) (fun _ => ?_)
          refine pc_sv (r_sign_ BK d33 l3 l2 l5 (k := 47) (by decide) (by decide)) ?_; intro u42 q42
          rcases q42 with ⟨-, m42⟩ | ⟨z, -⟩
          · have J42 : JPp K P c (t1 + 2) (up_M u4 2 10 ((t1 + 1 + 1 : Nat) : Int)) u42 := by rw [m42]; exact jp_up BK J33 (q := t1 + 2) (jp_lt BK l3 (by omega))
            have a42 : ∀ c x : Nat, ¬ (c = 160 ∧ x = 23) → u42 c x = h33 c x := fun c x z => by rw [m42]; exact up_n z
            refine pc_fl ?_
            have R := ih k (t1 + 2) _ u42 v7 J42 (by rw [a42 160 22 (by omega)]; omega) (by rw [a42 160 39 (by omega)]; omega) (by rw [a42 189 _ (by omega)]; omega) (by omega) (by rw [a42 189 _ (by omega)]; omega)
            refine (fun a ea V eV U eU => ?_)
            have eU2 : (mx_sv (qw_X8_readParameters_4 nn f 1 v7 (up_M u4 2 10 ((t1 + 1 + 1 : Nat) : Int))) fun u11 => qj_X8_readMember_66 nn u11) = some U := by
              have ea' : qw_X8_readParameters_4 nn f 1 v7 (up_M u4 2 10 ((t1 + 1 + 1 : Nat) : Int)) = some a := ea
              rw [ea', mx_svs]; exact eU
            obtain ⟨R1, R2⟩ := R U eU2 V eV
            rcases R1 with R1 | ⟨qq, x, n, ⟨y1, y2, y3⟩, y4, y5, y6, y7, y8, y9⟩
            · exact ⟨.inl R1, .inl R1⟩
            · have n0 : ¬ n = 0 := by
                rcases R2 with R2 | ⟨n2, R2⟩
                · exact absurd y1.2.2.2.1 R2.1
                · rw [a42 189 _ (by omega)] at R2 y7; omega
              rw [a42 160 39 (by omega), r6] at y4 y8
              rw [a42 189 _ (by omega), r5] at y7
              rw [a42 160 22 (by omega), n33] at y6
              have M42 : MFr h33 u42 m.toNat := ⟨⟨by rw [a42 160 22 (by omega)]; omega, fun c x c1 c2 c3 => a42 c x (by omega)⟩, ⟨by rw [a42 160 39 (by omega)]; omega, fun c x c1 c2 c3 => a42 c x (by omega)⟩, fun c j c1 c2 c3 => a42 c j (by omega), a42 160 24 (by omega), a42 160 28 (by omega)⟩
              have MM := mfr_t (mfr_t M33 M42) y9
              have M2 := mfr_t M42 y9
              have kp : ∀ c : Nat, 191 ≤ c → c ≤ 194 → V c (r 160 39).toNat = h33 c (r 160 39).toNat := fun c c1 c2 => M2.2.1.2 c _ c1 c2 (by omega)
              refine ⟨.inr ⟨qq, x, n + 1, ⟨y1, by omega, y3⟩, ⟨(t1 : Int), bs, rw', TK, ⟨by rw [kp 191 (by decide) (by decide)]; exact r1, by rw [kp 192 (by decide) (by decide)]; exact r2, by rw [kp 193 (by decide) (by decide)]; exact r3, by rw [kp 194 (by decide) (by decide)]; exact r4⟩, by rw [Int.toNat_natCast]; exact k2, .inr ⟨n0, by rw [show ((t1 : Int) + 1).toNat = t1 + 1 by omega]; exact k47, y4⟩⟩, y5, y6, by omega, by omega, MM⟩, .inr ⟨n, by omega⟩⟩
          · exact absurd k47 z
        · -- the last
          rw [m6]
          dsimp only
          cases f with
          | zero => exact pc_none
          | succ f =>
            have D : Pc (some u4) (fun a => Pc (if ¬ u38 = 0 then (qj_X13_member_360 nn m h33) else (rd_A 800 189 m h33 fun v40 => if v40 ≤ 0 then (qj_X13_member_269 nn (qw_X13_member_234 nn k) m h33) else (mx_sv (qf_X13_sign_ nn 44 h33) fun u42 => qj_X13_member_269 nn (qw_X13_member_234 nn k) m u42))) (fun V => Pc (qj_X8_readMember_66 nn a) (fun U => JPm K P c q m r U V ∧ (SFj U V ∨ ∃ n : Nat, V 189 m.toNat = r 189 m.toNat + n + 1)))) := by
              refine pc_ret ?_
              by_cases k41 : K (t1 + 1) = 41
              · refine pc_if (fun _ => ?_) (fun z => absurd (by omega) z)
                refine pc_fl ?_
                refine (fun U eU V eV => ?_)
                have R := j_66 BK hm J33 (by omega) U eU V eV
                rcases R with R | ⟨t2, ⟨y1, y2⟩, y4, y5, y6, y7, y8⟩
                · exact ⟨.inl R, .inl R⟩
                · have MM := mfr_t M33 y8
                  rw [n33] at y5
                  have kp : ∀ c : Nat, 191 ≤ c → c ≤ 194 → V c (r 160 39).toNat = h33 c (r 160 39).toNat := fun c c1 c2 => y8.2.1.2 c _ c1 c2 (by omega)
                  refine ⟨.inr ⟨t2, t1 + 1, 1, ⟨y1, by omega, y2⟩, ⟨(t1 : Int), bs, rw', TK, ⟨by rw [kp 191 (by decide) (by decide)]; exact r1, by rw [kp 192 (by decide) (by decide)]; exact r2, by rw [kp 193 (by decide) (by decide)]; exact r3, by rw [kp 194 (by decide) (by decide)]; exact r4⟩, by rw [Int.toNat_natCast]; exact k2, .inl ⟨rfl, by omega⟩⟩, k41, y5, by omega, by omega, MM⟩, .inr ⟨0, by omega⟩⟩
              · -- neither , nor )
                refine pc_fl ?_
                unfold qj_X8_readMember_66
                refine pc_sv (c_need BK b33 l3 l1 l4) ?_; intro u2' q2'
                rcases q2' with ⟨z, -⟩ | ⟨-, z2, z3⟩
                · exact absurd z k41
                · have n0 := tl_0 (K := K) (p := t1 + 1) (k := 2) (by decide)
                  refine pc_sv (fs_qf_X8_readBlock (by rw [z2]; exact n0)) ?_; intro u4' Q4
                  refine pc_ret ?_
                  refine pc_if (fun z => absurd z (by omega)) (fun _ => ?_)
                  refine pc_rA ?_; intro _ _ v40 e40
                  rw [r5] at e40
                  refine pc_if (fun z => absurd z (by omega)) (fun _ => ?_)
                  refine pc_sv (r_sign_ BK d33 l3 l2 l5 (k := 47) (by decide) (by decide)) ?_; intro u42 q42
                  rcases q42 with ⟨z, -⟩ | ⟨-, z4, z5⟩
                  · exact absurd z k47
                  · refine pc_imp (ft_qj_X13_member_269 (fun z0 z1 S => ft_qw_X13_member_234 k z0 z1 S) (by rw [z4]; exact n0)) (fun w z => ?_)
                    have SS : SFj u4' w := ⟨by rw [Q4.1, z2]; exact n0, by rw [z.1, z4, Q4.1, z2], by rw [z.2, z5, Q4.2, z3]⟩
                    exact ⟨.inl SS, .inl SS⟩
            unfold qw_X8_readParameters_4
            exact pc_if (fun _ => D) (fun _ => pc_if (fun _ => D) (fun z => absurd rfl z))
    · refine pj_sf (o := fun a => a) (q := fun b => b) S ?_ ?_ (fun a b s => SE a b s)
      · have S1 : ¬ u4 2 11 = 0 := S.1
        have F : FSc u4 u4 := fs_r
        refine pc_sv (fs_qf_X8_accept (fs_n S1 F)) ?_; intro u6 Qu6
        have Fu6 : FSc u4 u6.2 := fs_t F Qu6
        refine pc_xl ?_; intro v7 _
        exact pc_imp (fs_qw_X8_readParameters_4 _ _ _ _ (fs_n S1 Fu6)) (fun _ q => fs_t Fu6 q)
      · have S1 : ¬ u10.2 160 9 = 0 := sf_r S
        have F : FSr u10.2 u10.2 := ft_r
        refine pc_if (fun _ => ?_) (fun _ => ?_)
        · refine pc_wA ?_; intro _ _ h15 Eh15
          have Fh15 : FSr u10.2 h15 := by rw [Eh15]; exact ft_u F (by omega)
          refine pc_wA ?_; intro _ _ h19 Eh19
          have Fh19 : FSr u10.2 h19 := by rw [Eh19]; exact ft_u Fh15 (by omega)
          refine pc_wZ ?_; intro _ _ h23 Eh23
          have Fh23 : FSr u10.2 h23 := by rw [Eh23]; exact ft_u Fh19 (by omega)
          refine pc_wA ?_; intro _ _ h26 Eh26
          have Fh26 : FSr u10.2 h26 := by rw [Eh26]; exact ft_u Fh23 (by omega)
          refine pc_xl ?_; intro v28 _
          refine pc_xl ?_; intro h29 Eh29
          have Fh29 : FSr u10.2 h29 := by rw [Eh29]; exact ft_u Fh26 (by omega)
          refine pc_rA ?_; intro _ _ v31 _
          refine pc_xl ?_; intro v32 _
          refine pc_wA ?_; intro _ _ h33 Eh33
          have Fh33 : FSr u10.2 h33 := by rw [Eh33]; exact ft_u Fh29 (by omega)
          exact pc_imp (Hqkk_234 _ _ (ft_n S1 Fh33)) (fun _ q => ft_t Fh33 q)
        · exact pc_ret F
end
end
section
/- PARSE: MEMBER, CLASS, PROGRAM of both sides -/
/-- what a member leaves as it was -/
def MFm (r v : ms_M) : Prop := (r 160 22 ≤ v 160 22 ∧ ∀ c x : Nat, 167 ≤ c → c ≤ 177 → (x : Int) < r 160 22 → v c x = r c x) ∧ (r 160 39 ≤ v 160 39 ∧ ∀ c j : Nat, 191 ≤ c → c ≤ 194 → (j : Int) < r 160 39 → v c j = r c j) ∧ (∀ c j : Nat, 178 ≤ c → c ≤ 190 → ¬ (181 ≤ c ∧ j = (r 160 28).toNat) → v c j = r c j) ∧ v 160 24 = r 160 24 ∧ v 160 28 = r 160 28 + 1
def JM (K P : Nat → Int) (c p : Nat) (r u v : ms_M) : Prop := SFj u v ∨ ∃ q : Nat, (JPp K P c q u v ∧ p < q) ∧ RMB K v (r 160 28) (p : Int) (q : Int) (r 160 22) (v 160 22) ∧ (v 181 (r 160 28).toNat = r 160 24 - 1 ∧ v 188 (r 160 28).toNat = r 160 39 ∧ 0 ≤ v 189 (r 160 28).toNat ∧ v 160 39 = r 160 39 + v 189 (r 160 28).toNat) ∧ MFm r v
section
variable {nn : Nat} {K P : Nat → Int} {c p : Nat} {h g r w u v : ms_M}
/-- ( parameters ) BLOCK of both sides -/
theorem j_44 (BK : TBn K c) {q : Nat} {m : Int} (hm : 0 ≤ m) (J : JPp K P c q h r) (hr : 0 ≤ r 160 22) (h39 : 0 ≤ r 160 39) (h189 : r 189 m.toNat = 0) : Pc (qj_X8_readMember_44 nn h) (fun u => Pc (mx_sv (qf_X13_sign_ nn 40 r) fun u52 => qw_X13_member_234 nn nn m u52) (fun v => SFj u v ∨ (K q = 40 ∧ JPm K P c (q + 1) m (up_M r 160 23 ((q + 1 : Nat) : Int)) u v))) := by
  have n3 := BK.2.1
  unfold qj_X8_readMember_44
  refine p2_sv (j_need BK J (k := 40) (by decide) (by decide)) ?_; intro u6 u52 q52
  rcases q52 with ⟨k40, m52, J2⟩ | S
  · rw [← m52]
    have J2' := J2
    obtain ⟨b, d, ⟨g1, g2, g3⟩, g4, g5⟩ := J2'
    have a52 : ∀ c x : Nat, ¬ (c = 160 ∧ x = 23) → u52 c x = r c x := fun c x z => by rw [m52]; exact up_n z
    refine pc_sv (c_kind BK b g3 g1 g4) ?_; intro u9 q9
    refine pc_fl ?_
    cases nn with
    | zero => exact pc_none
    | succ n =>
      unfold qw_X13_member_234
      refine pc_if (fun z => absurd g5 z) (fun _ => ?_)
      rw [g2]
      refine pc_sv (r_sgn BK d rfl (by omega) (k := 41) (by decide) (by decide)) ?_; intro u38 q38
      by_cases k41 : K (q + 1) = 41
      · refine pc_if (fun _ => ?_) (fun z => absurd (by omega) z)
        refine pc_fl ?_
        refine pc_if (fun _ => ?_) (fun z => absurd (by omega) z)
        refine (fun U eU V eV => ?_)
        rcases j_66 BK hm J2 (by rw [a52 160 22 (by omega)]; exact hr) U eU V eV with R | ⟨t, ⟨y1, y2⟩, y4, y5, y6, y7, y8⟩
        · exact .inl R
        · exact .inr ⟨k40, .inr ⟨t, q + 1, 0, ⟨y1, by omega, y2⟩, rfl, k41, y5, by omega, by omega, y8⟩⟩
      · refine pc_if (fun z => absurd z (by omega)) (fun _ => ?_)
        refine pc_rA ?_; intro _ _ v40 e40
        rw [a52 189 _ (by omega), h189] at e40
        refine pc_if (fun _ => ?_) (fun z => absurd (by omega) z)
        refine pc_fl ?_
        refine pc_if (fun z => absurd z (by omega)) (fun _ => ?_)
        unfold qf_X8_readParameters
        refine (fun U eU V eV => ?_)
        have R := j_269 (nn := n + 1) BK hm (n + 1) n (q + 1) u6 u52 0 J2 (by rw [a52 160 22 (by omega)]; exact hr) (by rw [a52 160 39 (by omega)]; exact h39) (by rw [a52 189 _ (by omega)]; omega) (by omega) (by rw [a52 189 _ (by omega)]; omega) U eU V eV
        rcases R.1 with R1 | R1
        · exact .inl R1
        · exact .inr ⟨k40, .inr R1⟩
  · refine pj_sf (o := fun a => a) (q := fun b => b) S ?_ (ft_qw_X13_member_234 _ _ _ (sf_r S)) (fun a b s => .inl s)
    have S1 : ¬ u6 2 11 = 0 := S.1
    have F : FSc u6 u6 := fs_r
    refine pc_se ?_; intro u9 _
    refine pc_if (fun _ => ?_) (fun _ => ?_)
    · exact pc_imp (fs_qj_X8_readMember_66 (fs_n S1 F)) (fun _ q => fs_t F q)
    · refine pc_sv (fs_qf_X8_readParameters (fs_n S1 F)) ?_; intro u11 Qu11
      have Fu11 : FSc u6 u11 := fs_t F Qu11
      exact pc_imp (fs_qj_X8_readMember_66 (fs_n S1 Fu11)) (fun _ q => fs_t Fu11 q)
/-- from the name on -/
theorem j_75 (BK : TBn K c) {t : Nat} {p1 l1 l2 lc bs rw' : Int} (J : JPp K P c t h r) (hr : 0 ≤ r 160 22) (hm : 0 ≤ r 160 28) (h39 : 0 ≤ r 160 39) (h24 : 1 ≤ r 160 24 ∧ r 160 24 ≤ 1000) (hp : (p : Int) < t) (hb : r 160 45 = bs ∧ r 160 46 = p1 ∧ r 160 47 = rw') (hl : (K p = 25 ∧ l1 = 1) ∨ (¬ K p = 25 ∧ l1 = 0)) (hl2 : (K p1.toNat = 30 ∧ l2 = 1) ∨ (¬ K p1.toNat = 30 ∧ l2 = 0)) (hc : lc = 0 ↔ (l1 = 0 ∧ l2 = 0)) (hp1 : (K p = 25 ∧ p1 = (p : Int) + 1) ∨ (¬ K p = 25 ∧ p1 = (p : Int))) (hty : (K p1.toNat = 30 ∧ bs = 2 ∧ rw' = 0 ∧ (t : Int) = p1 + 1) ∨ (¬ K p1.toNat = 30 ∧ TYk K p1 (t : Int) bs rw')) : Pc (qj_X8_readMember_25 nn lc h) (fun u => Pc (qj_X13_member_75 nn l1 l2 r) (fun v => JM K P c p r u v)) := by
  have n3 := BK.2.1
  have tc := J.2.2.1.2.2
  obtain ⟨b1, b2, b3⟩ := hb
  unfold qj_X8_readMember_25 qj_X13_member_75
  rw [b1]
  refine pc_fl ?_
  refine pc_wA ?_; intro i1 i2 h72 e72
  have f46 : h72 160 46 = p1 := by rw [e72, up_n (by omega)]; exact b2
  rw [f46]
  refine pc_wA ?_; intro i3 i4 h75 e75
  have f47 : h75 160 47 = rw' := by rw [e75, up_n (by omega), e72, up_n (by omega)]; exact b3
  rw [f47]
  refine pc_wZ ?_; intro i5 i6 h78 e78
  have J78 : JPp K P c t h h78 := by rw [e78, e75, e72]; exact jp_w (jp_w (jp_w J (by decide)) (by decide)) (by decide)
  refine pc_fl ?_
  refine p2_sv (j_name BK J78) ?_; intro u14 u81 q81
  refine pc_fl ?_
  refine pc_wA ?_; intro i7 i8 h82 e82
  refine pc_xl ?_; intro v85 e85
  refine pc_wA ?_; intro i9 i10 h86 e86
  refine pc_wA ?_; intro i11 i12 h89 e89
  refine pc_wA ?_; intro i13 i14 h91 e91
  refine pc_wA ?_; intro i15 i16 h93 e93
  rcases q81 with ⟨k2, m81, J81⟩ | S
  · have w81 : u81.1 = (t : Int) := by rw [m81]
    have mm81 : u81.2 = up_M h78 160 23 ((t + 1 : Nat) : Int) := by rw [m81]
    have f24 : h82 160 24 = r 160 24 := by rw [e82, up_n (by omega), mm81, up_n (by omega), e78, up_n (by omega), e75, up_n (by omega), e72, up_n (by omega)]
    have g24 : v85 = r 160 24 - 1 := by
      rw [f24, oq_sub_eq (by omega) (by omega) (by omega)] at e85; exact e85
    have f39 : h86 160 39 = r 160 39 := by rw [e86, up_n (by omega), e82, up_n (by omega), mm81, up_n (by omega), e78, up_n (by omega), e75, up_n (by omega), e72, up_n (by omega)]
    rw [f39] at e89
    have A93 : ∀ c x : Nat, ¬ (c = 160 ∧ x = 23) → ¬ (181 ≤ c ∧ c ≤ 190 ∧ x = (r 160 28).toNat) → h93 c x = r c x := fun c x y1 y2 => by
      rw [e93, up_n (by omega), e91, up_n (by omega), e89, up_n (by omega), e86, up_n (by omega), e82, up_n (by omega), mm81, up_n y1, e78, up_n (by omega), e75, up_n (by omega), e72, up_n (by omega)]
    have c183 : h93 183 (r 160 28).toNat = bs := by rw [e93, up_n (by omega), e91, up_n (by omega), e89, up_n (by omega), e86, up_n (by omega), e82, up_n (by omega), mm81, up_n (by omega), e78, up_n (by omega), e75, up_n (by omega), e72, up_s]
    have c184 : h93 184 (r 160 28).toNat = p1 := by rw [e93, up_n (by omega), e91, up_n (by omega), e89, up_n (by omega), e86, up_n (by omega), e82, up_n (by omega), mm81, up_n (by omega), e78, up_n (by omega), e75, up_s]
    have c185 : h93 185 (r 160 28).toNat = rw' := by rw [e93, up_n (by omega), e91, up_n (by omega), e89, up_n (by omega), e86, up_n (by omega), e82, up_n (by omega), mm81, up_n (by omega), e78, up_s]
    have c186 : h93 186 (r 160 28).toNat = (t : Int) := by rw [e93, up_n (by omega), e91, up_n (by omega), e89, up_n (by omega), e86, up_n (by omega), e82, up_s]; exact w81
    have c181 : h93 181 (r 160 28).toNat = r 160 24 - 1 := by rw [e93, up_n (by omega), e91, up_n (by omega), e89, up_n (by omega), e86, up_s]; exact g24
    have c188 : h93 188 (r 160 28).toNat = r 160 39 := by rw [e93, up_n (by omega), e91, up_n (by omega), e89, up_s]
    have c189 : h93 189 (r 160 28).toNat = 0 := by rw [e93, up_n (by omega), e91, up_s]
    have J93 : JPp K P c (t + 1) u14 h93 := by
      rw [e93, e91, e89, e86, e82]
      exact jp_w (jp_w (jp_w (jp_w (jp_w J81 (by decide)) (by decide)) (by decide)) (by decide)) (by decide)
    have Et : ((t : Int) + 1).toNat = t + 1 := by omega
    have GO : ∀ s0 : Int, ((l1 = 0 ∧ s0 = 1) ∨ (l1 = 1 ∧ s0 = 2)) → Pc (qj_X13_member_170 nn l1 l2 (r 160 28) s0 (r 160 28) h93) (fun V => Pc (if ¬ lc = 0 then (qj_X8_readMember_44 nn u14) else (mx_sv (qf_X8_accept nn 46 u14) fun u16 => if u16.1 = 0 then (qj_X8_readMember_44 nn u16.2) else (some u16.2))) (fun U => JM K P c p r U V)) := fun s0 hs0 => by
      unfold qj_X13_member_170
      refine pc_wA ?_; intro j1 j2 h46 e46
      have J46 : JPp K P c (t + 1) u14 h46 := by rw [e46]; exact jp_w J93 (by decide)
      refine pc_if (fun _ => ?_) (fun z => absurd J46.2.2.2.2 z)
      have f28 : h46 160 28 = r 160 28 := by rw [e46, up_n (by omega)]; exact A93 160 28 (by omega) (by omega)
      rw [f28]
      refine pc_add (by omega) ?_; intro v49 e49
      refine pc_xl ?_; intro h50 e50
      have J50 : JPp K P c (t + 1) u14 h50 := by rw [e50]; exact jp_c J46 (by decide)
      have A50 : ∀ c x : Nat, ¬ (c = 160 ∧ (x = 23 ∨ x = 28)) → ¬ (181 ≤ c ∧ c ≤ 190 ∧ x = (r 160 28).toNat) → h50 c x = r c x := fun c x y1 y2 => by
        rw [e50, up_n (by omega), e46, up_n (by omega)]; exact A93 c x (by omega) y2
      have R50 : ∀ c : Nat, 181 ≤ c → c ≤ 190 → ¬ c = 182 → h50 c (r 160 28).toNat = h93 c (r 160 28).toNat := fun c y1 y2 y3 => by
        rw [e50, up_n (by omega), e46, up_n (by omega)]
      have c182 : h50 182 (r 160 28).toNat = s0 := by rw [e50, up_n (by omega), e46, up_s]
      have c28 : h50 160 28 = r 160 28 + 1 := by rw [e50, up_s]; exact e49
      -- a method
      have MET : ¬ ((¬ K p = 25 ∧ ¬ K p1.toNat = 30) ∧ K (t + 1) = 46) → Pc (mx_sv (qf_X13_sign_ nn 40 h50) fun u52 => qw_X13_member_234 nn nn (r 160 28) u52) (fun V => Pc (qj_X8_readMember_44 nn u14) (fun U => JM K P c p r U V)) := fun nf => by
        refine pc_fl ?_
        refine (fun U eU V eV => ?_)
        have R := j_44 BK hm J50 (by rw [A50 160 22 (by omega) (by omega)]; exact hr) (by rw [A50 160 39 (by omega) (by omega)]; exact h39) (by rw [R50 189 (by decide) (by decide) (by decide)]; exact c189) U eU V eV
        rcases R with R | ⟨k40, R | ⟨q, x, n, ⟨y1, y2, y3⟩, y4, y5, y6, y7, y8, y9⟩⟩
        · exact .inl R
        · exact .inl R
        · have up22 : up_M h50 160 23 ((t + 1 + 1 : Nat) : Int) 160 22 = r 160 22 := by rw [up_n (by omega)]; exact A50 160 22 (by omega) (by omega)
          have up39 : up_M h50 160 23 ((t + 1 + 1 : Nat) : Int) 160 39 = r 160 39 := by rw [up_n (by omega)]; exact A50 160 39 (by omega) (by omega)
          have up189 : up_M h50 160 23 ((t + 1 + 1 : Nat) : Int) 189 (r 160 28).toNat = 0 := by rw [up_n (by omega), R50 189 (by decide) (by decide) (by decide)]; exact c189
          obtain ⟨⟨z1, z2⟩, ⟨z3, z4⟩, z5, z6, z7⟩ := y9
          rw [up22] at z1 z2 y6
          rw [up39] at z3 z4 y4 y8
          rw [up189] at y7
          rw [up_n (by omega)] at z6 z7
          have V5 : ∀ c : Nat, 181 ≤ c → c ≤ 188 → ¬ c = 182 → V c (r 160 28).toNat = h93 c (r 160 28).toNat := fun c w1 w2 w3 => by
            rw [z5 c _ (by omega) (by omega) (by omega), up_n (by omega)]; exact R50 c w1 (by omega) w3
          have v182 : V 182 (r 160 28).toNat = s0 := by rw [z5 182 _ (by decide) (by decide) (by omega), up_n (by omega)]; exact c182
          refine .inr ⟨q, ⟨y1, by omega⟩, ⟨p1, (t : Int), bs, rw', ?_, hty, ⟨?_, ?_, ?_, ?_, ?_⟩, .inr ⟨n, (x : Int), ?_, ?_, ?_, ?_, ?_, ?_, ?_⟩⟩, ⟨?_, ?_, by omega, by omega⟩, ⟨⟨z1, fun c x c1 c2 c3 => ?_⟩, ⟨z3, fun c x c1 c2 c3 => ?_⟩, fun c j c1 c2 c3 => ?_, ?_, ?_⟩⟩
          · rw [Int.toNat_natCast]; exact hp1
          · rw [V5 183 (by decide) (by decide) (by decide)]; exact c183
          · rw [V5 184 (by decide) (by decide) (by decide)]; exact c184
          · rw [V5 185 (by decide) (by decide) (by decide)]; exact c185
          · rw [V5 186 (by decide) (by decide) (by decide)]; exact c186
          · rw [Int.toNat_natCast]; exact k2
          · rw [Int.toNat_natCast, Et]; exact nf
          · rw [Int.toNat_natCast, v182]; omega
          · rw [Et]; exact k40
          · omega
          · rw [V5 188 (by decide) (by decide) (by decide), c188, show (t : Int) + 2 = ((t + 1 + 1 : Nat) : Int) by omega]; exact y4
          · rw [Int.toNat_natCast]; exact y5
          · rw [show (x : Int) + 1 = ((x + 1 : Nat) : Int) by omega]; exact y6
          · rw [V5 181 (by decide) (by decide) (by decide)]; exact c181
          · rw [V5 188 (by decide) (by decide) (by decide)]; exact c188
          · rw [z2 c x c1 c2 c3, up_n (by omega)]; exact A50 c x (by omega) (by omega)
          · rw [z4 c x c1 c2 c3, up_n (by omega)]; exact A50 c x (by omega) (by omega)
          · rw [z5 c j c1 c2 (by omega), up_n (by omega)]; exact A50 c j (by omega) (by omega)
          · rw [z6]; exact A50 160 24 (by omega) (by omega)
          · rw [z7]; exact c28
      have J50' := J50
      obtain ⟨b5, d5, ⟨l5, l6, l7⟩, l8, l9⟩ := J50'
      refine pc_if (fun z1 => ?_) (fun z1 => ?_)
      · refine pc_fl ?_
        refine pc_if (fun _ => pc_fl (MET (by omega))) (fun z => absurd (hc.1 (Decidable.not_not.1 z)).1 z1)
      · have z1 : l1 = 0 := Decidable.not_not.1 z1
        refine pc_if (fun z2 => ?_) (fun z2 => ?_)
        · refine pc_fl ?_
          refine pc_if (fun _ => pc_fl (MET (by omega))) (fun z => absurd (hc.1 (Decidable.not_not.1 z)).2 z2)
        · have z2 : l2 = 0 := Decidable.not_not.1 z2
          have lc0 : lc = 0 := hc.2 ⟨z1, z2⟩
          rw [l6]
          refine pc_sv (r_sgn BK d5 rfl (by omega) (k := 46) (by decide) (by decide)) ?_; intro u57 q57
          refine pc_fl ?_
          refine pc_if (fun z => absurd lc0 z) (fun _ => ?_)
          refine pc_sv (c_acc BK b5 l7 l5 l8) ?_; intro u16 q16
          rcases q16 with ⟨k46, m16⟩ | ⟨k46, m16⟩
          · rw [m16]
            dsimp only
            refine pc_if (fun z => absurd z (by decide)) (fun _ => ?_)
            refine pc_ret ?_
            refine pc_if (fun z => absurd z (by omega)) (fun _ => ?_)
            refine pc_add (by omega) ?_; intro v61 e61
            refine pc_xl ?_; intro h62 e62
            rw [show v61 = ((t + 1 + 1 : Nat) : Int) by omega] at e62
            refine pc_wA ?_; intro j3 j4 h64 e64
            have A64 : ∀ c x : Nat, ¬ (c = 160 ∧ (x = 23 ∨ x = 28)) → ¬ (181 ≤ c ∧ c ≤ 190 ∧ x = (r 160 28).toNat) → h64 c x = r c x := fun c x y1 y2 => by
              rw [e64, up_n (by omega), e62, up_n (by omega)]; exact A50 c x y1 y2
            have R64 : ∀ c : Nat, 181 ≤ c → c ≤ 190 → ¬ c = 182 → h64 c (r 160 28).toNat = h93 c (r 160 28).toNat := fun c y1 y2 y3 => by
              rw [e64, up_n (by omega), e62, up_n (by omega)]; exact R50 c y1 y2 y3
            refine pc_ret (.inr ⟨t + 1 + 1, ⟨?_, by omega⟩, ⟨p1, (t : Int), bs, rw', ?_, hty, ⟨?_, ?_, ?_, ?_, ?_⟩, .inl ⟨?_, ?_, ?_, ?_, by omega⟩⟩, ⟨?_, ?_, ?_, ?_⟩, ⟨⟨?_, fun c x c1 c2 c3 => A64 c x (by omega) (by omega)⟩, ⟨?_, fun c x c1 c2 c3 => A64 c x (by omega) (by omega)⟩, fun c j c1 c2 c3 => A64 c j (by omega) (by omega), A64 160 24 (by omega) (by omega), ?_⟩⟩)
            · rw [e64, e62]; exact jp_w (jp_up BK J50 (jp_lt BK l7 (by omega))) (by decide)
            · rw [Int.toNat_natCast]; exact hp1
            · rw [R64 183 (by decide) (by decide) (by decide)]; exact c183
            · rw [R64 184 (by decide) (by decide) (by decide)]; exact c184
            · rw [R64 185 (by decide) (by decide) (by decide)]; exact c185
            · rw [R64 186 (by decide) (by decide) (by decide)]; exact c186
            · rw [Int.toNat_natCast]; exact k2
            · rw [Int.toNat_natCast]; omega
            · rw [Et]; exact k46
            · rw [e64, up_s]
            · rw [R64 189 (by decide) (by decide) (by decide)]; exact c189
            · rw [R64 181 (by decide) (by decide) (by decide)]; exact c181
            · rw [R64 188 (by decide) (by decide) (by decide)]; exact c188
            · rw [R64 189 (by decide) (by decide) (by decide), c189]; omega
            · rw [R64 189 (by decide) (by decide) (by decide), c189, A64 160 39 (by omega) (by omega)]; omega
            · rw [A64 160 22 (by omega) (by omega)]; omega
            · rw [A64 160 39 (by omega) (by omega)]; omega
            · rw [e64, up_n (by omega), e62, up_n (by omega)]; exact c28
          · rw [m16]
            dsimp only
            refine pc_if (fun _ => ?_) (fun z => absurd rfl z)
            refine pc_fl ?_
            refine pc_if (fun _ => ?_) (fun z => absurd (by omega) z)
            exact MET (fun z => k46 z.2)
    refine pc_if (fun z => GO 1 (by omega)) (fun z => GO 2 (by omega))
  · -- FAULT
    have S93 : SFj u14 h93 := by
      refine ⟨S.1, ?_, ?_⟩
      · rw [e93, up_n (by omega), e91, up_n (by omega), e89, up_n (by omega), e86, up_n (by omega), e82, up_n (by omega)]; exact S.2.1
      · rw [e93, up_n (by omega), e91, up_n (by omega), e89, up_n (by omega), e86, up_n (by omega), e82, up_n (by omega)]; exact S.2.2
    refine pc_fl ?_
    refine pj_sf (o := fun a => a) (q := fun b => b) S93 ?_ ?_ (fun a b s => .inl s)
    · have S1 : ¬ u14 2 11 = 0 := S.1
      have F : FSc u14 u14 := fs_r
      refine pc_if (fun _ => ?_) (fun _ => ?_)
      · exact pc_imp (fs_qj_X8_readMember_44 (fs_n S1 F)) (fun _ q => fs_t F q)
      · refine pc_sv (fs_qf_X8_accept (fs_n S1 F)) ?_; intro u16 Qu16
        have Fu16 : FSc u14 u16.2 := fs_t F Qu16
        refine pc_if (fun _ => ?_) (fun _ => ?_)
        · exact pc_imp (fs_qj_X8_readMember_44 (fs_n S1 Fu16)) (fun _ q => fs_t Fu16 q)
        · exact pc_ret Fu16
    · exact pc_if (fun _ => ft_qj_X13_member_170 (sf_r S93)) (fun _ => ft_qj_X13_member_170 (sf_r S93))
end
end
section
/- PARSE: MEMBER, CLASS, PROGRAM of both sides -/
section
variable {nn : Nat} {K P : Nat → Int} {c p : Nat} {h g r w u v : ms_M}
theorem jm_k {r1 : ms_M} (F : ∀ c x : Nat, ¬ (c = 160 ∧ (x = 9 ∨ x = 10 ∨ x = 23 ∨ x = 45 ∨ x = 46 ∨ x = 47)) → r1 c x = r c x) (H : JM K P c p r1 u v) : JM K P c p r u v := by
  have f28 := F 160 28 (by omega)
  have f22 := F 160 22 (by omega)
  have f24 := F 160 24 (by omega)
  have f39 := F 160 39 (by omega)
  rcases H with H | ⟨q, h1, h2, ⟨a1, a2, a3, a4⟩, ⟨⟨b1, b2⟩, ⟨b3, b4⟩, b5, b6, b7⟩⟩
  · exact .inl H
  · rw [f28] at h2 a1 a2 a3 a4 b5 b7
    rw [f22] at h2 b1 b2
    rw [f24] at a1 b6
    rw [f39] at a2 a4 b3 b4
    exact .inr ⟨q, h1, h2, ⟨a1, a2, a3, a4⟩, ⟨⟨b1, fun c x c1 c2 c3 => by rw [b2 c x c1 c2 c3]; exact F c x (by omega)⟩, ⟨b3, fun c x c1 c2 c3 => by rw [b4 c x c1 c2 c3]; exact F c x (by omega)⟩, fun c j c1 c2 c3 => by rw [b5 c j c1 c2 c3]; exact F c j (by omega), b6, b7⟩⟩
/-- behind static -/
theorem j_25m (BK : TBn K c) {l : Int} {p1 : Nat} (hl : (K p = 25 ∧ l = 1 ∧ p1 = p + 1) ∨ (¬ K p = 25 ∧ l = 0 ∧ p1 = p)) (J : JPp K P c p1 h r) (hr : 0 ≤ r 160 22) (hm : 0 ≤ r 160 28) (h39 : 0 ≤ r 160 39) (h24 : 1 ≤ r 160 24 ∧ r 160 24 ≤ 1000) : Pc (mx_sv (qf_X8_accept nn 30 h) fun u22 => if u22.1 = 0 then (mx_sv (qf_X8_readType nn u22.2) fun u24 => qj_X8_readMember_25 nn l u24) else (qj_X8_readMember_25 nn 1 u22.2)) (fun u => Pc (qj_X13_member_25 nn l r) (fun v => JM K P c p r u v)) := by
  have n3 := BK.2.1
  have J0 := J
  obtain ⟨b, d, ⟨g1, g2, g3⟩, g4, g5⟩ := J
  unfold qj_X13_member_25
  refine pc_sv (c_acc BK b g3 g1 g4) ?_; intro u22 q22
  refine pc_fl ?_
  rw [g2]
  refine pc_sv (r_wrd BK d rfl (by omega) (by decide)) ?_; intro u98 q98
  rcases q22 with ⟨k30, m22⟩ | ⟨k30, m22⟩
  · -- void
    refine pc_if (fun z => absurd z (by omega)) (fun _ => ?_)
    refine pc_xl ?_; intro h101 e101
    refine pc_xl ?_; intro h102 e102
    have c102 : h102 160 23 = (p1 : Int) := by rw [e102, up_n (by omega), e101, up_n (by omega)]; exact g2
    rw [c102]
    refine pc_xl ?_; intro h104 e104
    have c104 : h104 160 23 = (p1 : Int) := by rw [e104, up_n (by omega)]; exact c102
    rw [c104]
    refine pc_add (by omega) ?_; intro v106 e106
    refine pc_xl ?_; intro h107 e107
    rw [show v106 = ((p1 + 1 : Nat) : Int) by omega] at e107
    have F : ∀ c x : Nat, ¬ (c = 160 ∧ (x = 9 ∨ x = 10 ∨ x = 23 ∨ x = 45 ∨ x = 46 ∨ x = 47)) → h107 c x = r c x := fun c x z => by
      rw [e107, up_n (by omega), e104, up_n (by omega), e102, up_n (by omega), e101, up_n (by omega)]
    have J104 : JPp K P c p1 h h104 := by rw [e104, e102, e101]; exact jp_c (jp_c (jp_c J0 (by decide)) (by decide)) (by decide)
    have J107 : JPp K P c (p1 + 1) (up_M h 2 10 ((p1 + 1 : Nat) : Int)) h107 := by rw [e107]; exact jp_up BK J104 (jp_lt BK g3 (by omega))
    refine pc_fl ?_
    rw [m22]
    dsimp only
    refine pc_if (fun z => absurd z (by decide)) (fun _ => ?_)
    refine (fun U eU V eV => jm_k F ?_)
    have u1 : u98 = 1 := by omega
    rw [u1] at eV
    exact j_75 (p1 := (p1 : Int)) (l1 := l) (l2 := 1) (lc := 1) (bs := 2) (rw' := 0) BK J107 (by rw [F 160 22 (by omega)]; exact hr) (by rw [F 160 28 (by omega)]; exact hm) (by rw [F 160 39 (by omega)]; exact h39) (by rw [F 160 24 (by omega)]; exact h24) (by omega) ⟨by rw [e107, up_n (by omega), e104, up_n (by omega), e102, up_n (by omega), e101, up_s], by rw [e107, up_n (by omega), e104, up_s], by rw [e107, up_n (by omega), e104, up_n (by omega), e102, up_s]⟩ (by omega) (.inl ⟨by rw [Int.toNat_natCast]; exact k30, rfl⟩) ⟨fun z => absurd z (by decide), fun z => absurd z.2 (by decide)⟩ (by omega) (.inl ⟨by rw [Int.toNat_natCast]; exact k30, rfl, rfl, by omega⟩) U eU V eV
  · refine pc_if (fun _ => ?_) (fun z => absurd (by omega) z)
    refine pc_fl ?_
    rw [m22]
    dsimp only
    refine pc_if (fun _ => ?_) (fun z => absurd rfl z)
    refine p2_sv (j_type BK J0) ?_; intro u24 u100 q100
    have u0 : u98 = 0 := by omega
    rw [u0]
    rcases q100 with S | ⟨t, bs, rw', ⟨Jt, pt⟩, TK, hb, n100, F⟩
    · exact pj_sf (o := fun a => a) (q := fun b => b) S (fs_qj_X8_readMember_25 S.1) (ft_qj_X13_member_75 (sf_r S)) (fun a b s => .inl s)
    · refine (fun U eU V eV => jm_k F ?_)
      exact j_75 (p1 := (p1 : Int)) (l1 := l) (l2 := 0) (lc := l) (bs := bs) (rw' := rw') BK Jt (by rw [F 160 22 (by omega)]; exact hr) (by rw [F 160 28 (by omega)]; exact hm) (by rw [F 160 39 (by omega)]; exact h39) (by rw [F 160 24 (by omega)]; exact h24) (by omega) hb (by omega) (.inr ⟨by rw [Int.toNat_natCast]; exact k30, rfl⟩) ⟨fun z => ⟨z, rfl⟩, fun z => z.1⟩ (by omega) (.inr ⟨by rw [Int.toNat_natCast]; exact k30, TK⟩) U eU V eV
theorem j_member (BK : TBn K c) (J : JPp K P c p h r) (hr : 0 ≤ r 160 22) (hm : 0 ≤ r 160 28) (h39 : 0 ≤ r 160 39) (h24 : 1 ≤ r 160 24 ∧ r 160 24 ≤ 1000) : Pc (qf_X8_readMember nn h) (fun u => Pc (qf_X13_member nn r) (fun v => JM K P c p r u v)) := by
  have n3 := BK.2.1
  have J0 := J
  obtain ⟨b, d, ⟨g1, g2, g3⟩, g4, g5⟩ := J
  unfold qf_X8_readMember qf_X13_member
  refine pc_sv (c_acc BK b g3 g1 g4) ?_; intro u20 q20
  refine pc_fl ?_
  rw [g2]
  refine pc_sv (r_wrd BK d rfl (by omega) (by decide)) ?_; intro u111 q111
  rcases q20 with ⟨k25, m20⟩ | ⟨k25, m20⟩
  · refine pc_if (fun z => absurd z (by omega)) (fun _ => ?_)
    refine pc_add (by omega) ?_; intro v113 e113
    refine pc_xl ?_; intro h114 e114
    rw [show v113 = ((p + 1 : Nat) : Int) by omega] at e114
    refine pc_fl ?_
    rw [m20]
    dsimp only
    have F : ∀ c x : Nat, ¬ (c = 160 ∧ (x = 9 ∨ x = 10 ∨ x = 23 ∨ x = 45 ∨ x = 46 ∨ x = 47)) → h114 c x = r c x := fun c x z => by rw [e114, up_n (by omega)]
    have J1 : JPp K P c (p + 1) (up_M h 2 10 ((p + 1 : Nat) : Int)) h114 := by rw [e114]; exact jp_up BK J0 (jp_lt BK g3 (by omega))
    have u1 : u111 = 1 := by omega
    rw [u1]
    refine (fun U eU V eV => jm_k F ?_)
    exact j_25m BK (.inl ⟨k25, rfl, rfl⟩) J1 (by rw [F 160 22 (by omega)]; exact hr) (by rw [F 160 28 (by omega)]; exact hm) (by rw [F 160 39 (by omega)]; exact h39) (by rw [F 160 24 (by omega)]; exact h24) U eU V eV
  · refine pc_if (fun _ => ?_) (fun z => absurd (by omega) z)
    refine pc_fl ?_
    rw [m20]
    dsimp only
    have u0 : u111 = 0 := by omega
    rw [u0]
    exact j_25m BK (.inr ⟨k25, rfl, rfl⟩) J0 hr hm h39 h24
end
end
section
/- PARSE: CLASS, PROGRAM of both sides -/
/-- n members from m on, tokens [p, q), nodes [a, b); their parameters stand below N -/
def MML (K : Nat → Int) (T : ms_M) (N : Int) : Nat → Int → Int → Int → Int → Int → Prop
  | 0, _, p, q, a, b => q = p ∧ b = a
  | n + 1, m, p, q, a, b => ¬ K p.toNat = 43 ∧ ∃ p2 a2 : Int, (p < p2 ∧ a ≤ a2) ∧ RMB K T m p p2 a a2 ∧ (0 ≤ T 188 m.toNat ∧ 0 ≤ T 189 m.toNat ∧ T 188 m.toNat + T 189 m.toNat ≤ N) ∧ MML K T N n (m + 1) p2 q a2 b
/-- class k: tokens [p, q), n members from m on -/
def CLR (K : Nat → Int) (T : ms_M) (N : Int) (k : Int) (n : Nat) (m p q a b : Int) : Prop := (K p.toNat = 13 ∧ K (p + 1).toNat = 2 ∧ T 178 k.toNat = p + 1) ∧ ∃ s e : Int, ((K (p + 2).toNat = 16 ∧ K (p + 3).toNat = 2 ∧ T 179 k.toNat = p + 3 ∧ K (p + 4).toNat = 42 ∧ s = p + 5) ∨ (¬ K (p + 2).toNat = 16 ∧ T 179 k.toNat = -1 ∧ K (p + 2).toNat = 42 ∧ s = p + 3)) ∧ MML K T N n m s e a b ∧ (∀ i : Nat, m ≤ (i : Int) → (i : Int) < m + n → T 181 i = k) ∧ K e.toNat = 43 ∧ q = e + 1
def PGM (K : Nat → Int) (T : ms_M) (N : Int) : Nat → Int → Int → Int → Int → Int → Int → Int → Prop
  | 0, _, m, mE, p, q, a, b => q = p ∧ b = a ∧ mE = m
  | j + 1, k, m, mE, p, q, a, b => ∃ (n : Nat) (p2 a2 : Int), a ≤ a2 ∧ CLR K T N k n m p p2 a a2 ∧ PGM K T N j (k + 1) (m + n) mE p2 q a2 b
section
variable {nn : Nat} {K P : Nat → Int} {c p : Nat} {h g r w u v : ms_M}
theorem mml_ab {N : Int} : ∀ (n : Nat) (m p q a b : Int), MML K r N n m p q a b → a ≤ b ∧ p ≤ q := by
  intro n
  induction n with
  | zero => intro m p q a b H; obtain ⟨h1, h2⟩ := H; omega
  | succ n ih => intro m p q a b H; obtain ⟨-, p2, a2, h1, -, -, h4⟩ := H; have := ih _ _ _ _ _ h4; omega
/-- the rows of members and nodes that are there stay -/
theorem mml_k {T2 : ms_M} {N N2 : Int} (hN : N ≤ N2) : ∀ (n : Nat) (m p q a b : Int), 0 ≤ m → (∀ c j : Nat, 181 ≤ c → c ≤ 190 → ¬ c = 187 → m ≤ (j : Int) → (j : Int) < m + n → T2 c j = r c j) → (∀ c j : Nat, 191 ≤ c → c ≤ 194 → (j : Int) < N → T2 c j = r c j) → (∀ c x : Nat, 167 ≤ c → c ≤ 177 → ¬ c = 174 → a ≤ (x : Int) → (x : Int) < b → T2 c x = r c x) → MML K r N n m p q a b → MML K T2 N2 n m p q a b := by
  intro n
  induction n with
  | zero => intro m p q a b _ _ _ _ H; exact H
  | succ n ih =>
    intro m p q a b h0 F1 F2 F3 H
    obtain ⟨h1, p2, a2, h2, h3, h4, h5⟩ := H
    have ab := mml_ab _ _ _ _ _ _ h5
    have E : ∀ c : Nat, 181 ≤ c → c ≤ 190 → ¬ c = 187 → T2 c m.toNat = r c m.toNat := fun c c1 c2 c3 => F1 c m.toNat c1 c2 c3 (by omega) (by omega)
    refine ⟨h1, p2, a2, h2, rmb_k h4.1 E (fun c j c1 c2 c3 c4 => F2 c j c1 c2 (by omega)) (fun c x c1 c2 c3 c4 c5 => F3 c x c1 c2 c3 c4 (by omega)) h3, by rw [E 188 (by decide) (by decide) (by decide), E 189 (by decide) (by decide) (by decide)]; omega, ih (m + 1) p2 q a2 b (by omega) (fun c j c1 c2 c3 c4 c5 => F1 c j c1 c2 c3 (by omega) (by omega)) F2 (fun c x c1 c2 c3 c4 c5 => F3 c x c1 c2 c3 (by omega) c5) h5⟩
/-- what members leave as it was -/
def MFn (r v : ms_M) : Prop := (r 160 22 ≤ v 160 22 ∧ ∀ c x : Nat, 167 ≤ c → c ≤ 177 → (x : Int) < r 160 22 → v c x = r c x) ∧ (r 160 39 ≤ v 160 39 ∧ ∀ c j : Nat, 191 ≤ c → c ≤ 194 → (j : Int) < r 160 39 → v c j = r c j) ∧ (∀ c j : Nat, 178 ≤ c → c ≤ 190 → ¬ (181 ≤ c ∧ r 160 28 ≤ (j : Int)) → v c j = r c j) ∧ v 160 24 = r 160 24 ∧ r 160 28 ≤ v 160 28
/-- the members of a class, to its } -/
theorem j_47 (BK : TBn K c) {qk : ms_M → Option ms_M} {Z : ms_M → ms_M → Prop} (HF : ∀ z : ms_M, ¬ z 160 9 = 0 → Pc (qk z) (fun u => FSr z u)) (HS : ∀ u V, SFj u V → Z u V) : ∀ (f k q : Nat) (h r : ms_M) (t : Int), JPp K P c q h r → 0 ≤ r 160 22 → 0 ≤ r 160 28 → 0 ≤ r 160 39 → (1 ≤ r 160 24 ∧ r 160 24 ≤ 1000) → (0 ≤ t ∧ t < (q : Int)) → (∀ (u v : ms_M) (e n : Nat), JPp K P c (e + 1) u v → q ≤ e → K e = 43 → MML K v (v 160 39) n (r 160 28) (q : Int) (e : Int) (r 160 22) (v 160 22) → (∀ i : Nat, r 160 28 ≤ (i : Int) → (i : Int) < r 160 28 + n → v 181 i = r 160 24 - 1) → v 160 28 = r 160 28 + n → MFn r v → Pc (rd_A 3008 163 (v 160 23) v fun v6 => if ¬ v6 = 5 then (qk v) else (some v)) (fun V => Z u V)) → Pc (qw_X8_readClass_47 nn f t h) (fun u => Pc (qw_X13_program_116 nn qk k r) (fun V => Z u V)) := by
  have n3 := BK.2.1
  intro f
  induction f with
  | zero => intros; exact pc_none
  | succ f ih =>
    intro k q h r t J hr hm h39 h24 ht HO
    cases k with
    | zero => exact fun _ _ => pc_none
    | succ k =>
      have J0 := J
      obtain ⟨b, d, ⟨g1, g2, g3⟩, g4, g5⟩ := J
      unfold qw_X8_readClass_47 qw_X13_program_116
      refine pc_if (fun z => absurd z (by omega)) (fun _ => ?_)
      refine pc_if (fun z => absurd g4 z) (fun _ => ?_)
      refine pc_sv (c_kind BK b g3 g1 g4) ?_; intro u7 q7
      refine pc_fl ?_
      refine pc_if (fun z => absurd g5 z) (fun _ => ?_)
      rw [g2]
      refine pc_sv (r_sgn BK d rfl (by omega) (k := 43) (by decide) (by decide)) ?_; intro u12 q12
      refine pc_fl ?_
      by_cases k43 : K q = 43
      · refine pc_if (fun _ => ?_) (fun z => absurd (by omega) z)
        refine pc_fl ?_
        refine pc_if (fun _ => ?_) (fun z => absurd (by omega) z)
        refine pc_fl ?_
        unfold qj_X8_readClass_86 qj_X13_program_143
        refine p2_sv (j_need BK J0 (k := 43) (by decide) (by decide)) ?_; intro u2 w2 q2
        refine pc_ret ?_
        rcases q2 with ⟨-, m2, J2⟩ | S
        · refine pc_if (fun z => absurd J2.2.2.2.2 z) (fun _ => ?_)
          have a2 : ∀ c x : Nat, ¬ (c = 160 ∧ x = 23) → w2 c x = r c x := fun c x z => by rw [m2]; exact up_n z
          refine HO u2 w2 q 0 J2 (by omega) k43 ⟨rfl, a2 160 22 (by omega)⟩ (fun i i1 i2 => by omega) (by rw [a2 160 28 (by omega)]; omega) ⟨⟨by rw [a2 160 22 (by omega)]; omega, fun c x c1 c2 c3 => a2 c x (by omega)⟩, ⟨by rw [a2 160 39 (by omega)]; omega, fun c x c1 c2 c3 => a2 c x (by omega)⟩, fun c j c1 c2 c3 => a2 c j (by omega), a2 160 24 (by omega), by rw [a2 160 28 (by omega)]; omega⟩
        · exact pc_if (fun _ => pc_ret (HS _ _ S)) (fun z => absurd (Decidable.not_not.1 z) (sf_r S))
      · refine pc_if (fun z => absurd z (by omega)) (fun _ => ?_)
        refine pc_fl ?_
        refine pc_if (fun z => absurd z (by omega)) (fun _ => ?_)
        refine pc_fl ?_
        refine p2_sv (j_member BK J0 hr hm h39 h24) ?_; intro u9 u14 q14
        rcases q14 with S | ⟨q1, ⟨J1, pq⟩, RM, ⟨a1, a2, a3, a4⟩, ⟨⟨b1, b2⟩, ⟨b3, b4⟩, b5, b6, b7⟩⟩
        · refine pj_sf (o := fun a => a) (q := fun b => b) S ?_ (ft_qw_X13_program_116 (fun z0 S => HF z0 S) _ _ (sf_r S)) (fun a b s => HS a b s)
          have S1 : ¬ u9 2 11 = 0 := S.1
          have F : FSc u9 u9 := fs_r
          refine pc_xl ?_; intro v10 _
          exact pc_imp (fs_qw_X8_readClass_47 _ _ _ (fs_n S1 F)) (fun _ q => fs_t F q)
        · refine pc_add (by omega) ?_; intro v10 e10
          refine ih k q1 u9 u14 v10 J1 (by omega) (by omega) (by omega) (by omega) (by omega) (fun u v e n Je qe k43e ML M1 n28 MF => ?_)
          obtain ⟨⟨c1, c2⟩, ⟨c3, c4⟩, c5, c6, c7⟩ := MF
          have E : ∀ cc : Nat, 181 ≤ cc → cc ≤ 190 → v cc (r 160 28).toNat = u14 cc (r 160 28).toNat := fun cc y1 y2 => c5 cc _ (by omega) y2 (by omega)
          have RM2 : RMB K v (r 160 28) (q : Int) (q1 : Int) (r 160 22) (u14 160 22) := rmb_k (by rw [a2]; exact h39) (fun cc y1 y2 _ => E cc y1 y2) (fun cc j y1 y2 y3 y4 => c4 cc j y1 y2 (by omega)) (fun cc x y1 y2 _ y3 y4 => c2 cc x y1 y2 y4) RM
          refine HO u v e (n + 1) Je (by omega) k43e ⟨by rw [Int.toNat_natCast]; exact k43, (q1 : Int), u14 160 22, ⟨by omega, b1⟩, RM2, by rw [E 188 (by decide) (by decide), E 189 (by decide) (by decide)]; omega, by rw [← b7]; exact ML⟩ (fun i i1 i2 => ?_) (by omega) ⟨⟨by omega, fun cc x y1 y2 y3 => by rw [c2 cc x y1 y2 (by omega)]; exact b2 cc x y1 y2 y3⟩, ⟨by omega, fun cc x y1 y2 y3 => by rw [c4 cc x y1 y2 (by omega)]; exact b4 cc x y1 y2 y3⟩, fun cc j y1 y2 y3 => by rw [c5 cc j y1 y2 (by omega)]; exact b5 cc j y1 y2 (by omega), by omega, by omega⟩
          by_cases z : (i : Int) = r 160 28
          · rw [show i = (r 160 28).toNat by omega, E 181 (by decide) (by decide)]; exact a1
          · rw [M1 i (by omega) (by omega), b6]
end
end
section
/- PARSE: CLASS AND PROGRAM of both sides -/
/-- the tokens' places rise; 'class' and a name behind it take six bytes at least -/
def GPo (K P : Nat → Int) (c : Nat) : Prop := 0 ≤ P 0 ∧ (∀ i : Nat, i + 1 < c → P i + 1 ≤ P (i + 1) ∧ (K i = 13 → K (i + 1) = 2 → P i + 6 ≤ P (i + 1))) ∧ ∀ i : Nat, i < c → P i ≤ 3000
/-- what classes leave as it was -/
def PFg (r v : ms_M) : Prop := (r 160 22 ≤ v 160 22 ∧ ∀ c x : Nat, 167 ≤ c → c ≤ 177 → (x : Int) < r 160 22 → v c x = r c x) ∧ (r 160 39 ≤ v 160 39 ∧ ∀ c j : Nat, 191 ≤ c → c ≤ 194 → (j : Int) < r 160 39 → v c j = r c j) ∧ (r 160 24 ≤ v 160 24 ∧ ∀ c j : Nat, 178 ≤ c → c ≤ 180 → (j : Int) < r 160 24 → v c j = r c j) ∧ r 160 28 ≤ v 160 28 ∧ ∀ c j : Nat, 181 ≤ c → c ≤ 190 → (j : Int) < r 160 28 → v c j = r c j
/-- the classes from number k on -/
def JPg (K P : Nat → Int) (c k p : Nat) (h r u v : ms_M) : Prop := SFj u v ∨ ∃ (j q : Nat), (JPp K P c q u v ∧ K q = 0 ∧ p < q) ∧ PGM K v (v 160 39) j (k : Int) (r 160 28) (v 160 28) (p : Int) (q : Int) (r 160 22) (v 160 22) ∧ (1 ≤ j ∧ v 160 24 = (k : Int) + j ∧ u 11 2 = (k : Int) + j ∧ k + j ≤ 334) ∧ (∀ i : Nat, k ≤ i → i < k + j → u 15 i = v 178 i) ∧ (∀ c x : Nat, ¬ c = 2 → ¬ (c = 11 ∧ x = 2) → ¬ (c = 15 ∧ k ≤ x) → u c x = h c x) ∧ PFg r v
section
variable {nn : Nat} {K P : Nat → Int} {c p : Nat} {h g r w u v : ms_M}
theorem gpo_a (G : GPo K P c) : ∀ d i : Nat, i + d < c → P i + (d : Int) ≤ P (i + d) := by
  intro d
  induction d with
  | zero => intro i _; show P i + ((0 : Nat) : Int) ≤ P i; omega
  | succ d ih =>
    intro i hi
    have a := ih i (by omega)
    have b := (G.2.1 (i + d) (by omega)).1
    rw [show i + (d + 1) = i + d + 1 by omega]
    omega
theorem nw_2 {c k : Nat} (z : ¬ c = 2) : nw_F [] [(2, 10), (2, 11), (2, 12)] false false c k = true := by
  simp [nw_F, z]
theorem fz_47 : ∀ (k : Nat) {l1 : Int} {h : ms_M}, Fm_ (fun c _ => ¬ c = 2) h (qw_X8_readClass_47 nn k l1 h) (fun r => r) := by
  have A : ∀ {h : ms_M}, Fm_ (fun c _ => ¬ c = 2) h (qj_X8_readClass_86 nn h) (fun r => r) := by
    intro h
    unfold qj_X8_readClass_86
    refine fm_ca (fun _ _ _ => rfl) (ff_X8_need nn) (fun c k z => nw_2 z) ?_; intro u2 F_u2
    exact fm_ret F_u2
  intro k
  induction k with
  | zero => intros; exact fm_no
  | succ k ih =>
    intro l1 h
    unfold qw_X8_readClass_47
    have F_h : ∀ c k : Nat, (fun (c _ : Nat) => ¬ c = 2) c k → h c k = h c k := fun _ _ _ => rfl
    refine fm_if A (fm_if A ?_)
    refine fm_pu ?_; intro u7
    refine fm_if A ?_
    refine fm_ca F_h (ff_X8_readMember nn) (fun c k z => nw_2 z) ?_; intro u9 F_u9
    refine fm_xl ?_; intro v10
    exact fm_tl F_u9 ih (fun _ _ z => z)
theorem clr_k {T2 : ms_M} {N N2 k : Int} {n : Nat} {m p q a b : Int} (hN : N ≤ N2) (h0 : 0 ≤ m) (F0 : T2 178 k.toNat = r 178 k.toNat ∧ T2 179 k.toNat = r 179 k.toNat) (F1 : ∀ c j : Nat, 181 ≤ c → c ≤ 190 → ¬ c = 187 → m ≤ (j : Int) → (j : Int) < m + n → T2 c j = r c j) (F2 : ∀ c j : Nat, 191 ≤ c → c ≤ 194 → (j : Int) < N → T2 c j = r c j) (F3 : ∀ c x : Nat, 167 ≤ c → c ≤ 177 → ¬ c = 174 → a ≤ (x : Int) → (x : Int) < b → T2 c x = r c x) (H : CLR K r N k n m p q a b) : CLR K T2 N2 k n m p q a b := by
  obtain ⟨⟨h1, h2, h3⟩, s, e, h4, h5, h6, h7⟩ := H
  exact ⟨⟨h1, h2, by rw [F0.1]; exact h3⟩, s, e, by rw [F0.2]; exact h4, mml_k hN n m s e a b h0 F1 F2 F3 h5, fun i i1 i2 => by rw [F1 181 i (by decide) (by decide) (by decide) i1 i2]; exact h6 i i1 i2, h7⟩
theorem pfg_k {r1 : ms_M} (F : ∀ c x : Nat, ¬ (c = 160 ∧ x = 23) → r1 c x = r c x) (H : PFg r1 v) : PFg r v := by
  obtain ⟨⟨a1, a2⟩, ⟨a3, a4⟩, ⟨a5, a6⟩, a7, a8⟩ := H
  rw [F 160 22 (by omega)] at a1 a2
  rw [F 160 39 (by omega)] at a3 a4
  rw [F 160 24 (by omega)] at a5 a6
  rw [F 160 28 (by omega)] at a7 a8
  exact ⟨⟨a1, fun c x c1 c2 c3 => by rw [a2 c x c1 c2 c3]; exact F c x (by omega)⟩, ⟨a3, fun c x c1 c2 c3 => by rw [a4 c x c1 c2 c3]; exact F c x (by omega)⟩, ⟨a5, fun c x c1 c2 c3 => by rw [a6 c x c1 c2 c3]; exact F c x (by omega)⟩, a7, fun c x c1 c2 c3 => by rw [a8 c x c1 c2 c3]; exact F c x (by omega)⟩
/-- behind a class's head -/
theorem j_72c (BK : TBn K c) {qk : ms_M → Option ms_M} {Z : ms_M → ms_M → Prop} (HF : ∀ z : ms_M, ¬ z 160 9 = 0 → Pc (qk z) (fun u => FSr z u)) (HS : ∀ u V, SFj u V → Z u V) {s k : Nat} {l1 l2 : Int} (J : JPp K P c s h r) (hr : 0 ≤ r 160 22) (hm : 0 ≤ r 160 28) (h39 : 0 ≤ r 160 39) (hk : r 160 24 = (k : Int) ∧ k ≤ 333) (HO : ∀ (u v : ms_M) (e n : Nat), JPp K P c (e + 1) u v → s + 1 ≤ e → K s = 42 → K e = 43 → MML K v (v 160 39) n (r 160 28) ((s + 1 : Nat) : Int) (e : Int) (r 160 22) (v 160 22) → (∀ i : Nat, r 160 28 ≤ (i : Int) → (i : Int) < r 160 28 + n → v 181 i = (k : Int)) → v 160 28 = r 160 28 + n → (v 178 k = l1 ∧ v 179 k = l2 ∧ v 160 24 = (k : Int) + 1) → PFg r v → (∀ c x : Nat, ¬ c = 2 → u c x = h c x) → Pc (rd_A 3008 163 (v 160 23) v fun v6 => if ¬ v6 = 5 then (qk v) else (some v)) (fun V => Z u V)) : Pc (qj_X8_readClass_39 nn h) (fun u => Pc (qj_X13_program_72 nn qk l1 l2 r) (fun V => Z u V)) := by
  have n3 := BK.2.1
  have J0 := J
  obtain ⟨b, d, ⟨g1, g2, g3⟩, g4, g5⟩ := J
  unfold qj_X8_readClass_39 qj_X13_program_72
  refine pc_fl ?_
  refine pc_if (fun _ => ?_) (fun z => absurd g5 z)
  rw [hk.1]
  refine pc_wA ?_; intro i1 i2 h20 e20
  have f20 : h20 160 24 = (k : Int) := by rw [e20, up_n (by omega)]; exact hk.1
  rw [f20]
  refine pc_wA ?_; intro i3 i4 h23 e23
  have f23 : h23 160 24 = (k : Int) := by rw [e23, up_n (by omega)]; exact f20
  rw [f23]
  refine pc_add (by omega) ?_; intro v25 e25
  refine pc_xl ?_; intro h26 e26
  have A : ∀ c x : Nat, ¬ ((c = 178 ∨ c = 179) ∧ x = k) → ¬ (c = 160 ∧ x = 24) → h26 c x = r c x := fun c x z1 z2 => by rw [e26, up_n (by omega), e23, up_n (by omega), e20, up_n (by omega)]
  have A1 : h26 178 k = l1 := by rw [e26, up_n (by omega), e23, up_n (by omega), e20, Int.toNat_natCast, up_s]
  have A2 : h26 179 k = l2 := by rw [e26, up_n (by omega), e23, Int.toNat_natCast, up_s]
  have A3 : h26 160 24 = (k : Int) + 1 := by rw [e26, up_s]; exact e25
  have J26 : JPp K P c s h h26 := jp_r J0 (fun c x z => A c x (by omega) (by omega))
  refine pc_fl ?_
  refine p2_sv (R := fun u v => ((K s = 42 ∧ v = up_M h26 160 23 ((s + 1 : Nat) : Int) ∧ JPp K P c (s + 1) u v) ∨ SFj u v) ∧ ∀ cc x : Nat, ¬ cc = 2 → u cc x = h cc x) (fun u eu v ev => ⟨j_need BK J26 (k := 42) (by decide) (by decide) u eu v ev, fun cc x z => ff_X8_need nn u eu cc x (nw_2 z)⟩) ?_; intro u15 u28 q28
  obtain ⟨q28, f15⟩ := q28
  rcases q28 with ⟨k42, m28, J28⟩ | S
  · have B : ∀ c x : Nat, ¬ (c = 160 ∧ x = 23) → u28 c x = h26 c x := fun c x z => by rw [m28]; exact up_n z
    have C28 : u28 160 28 = r 160 28 := by rw [B 160 28 (by omega), A 160 28 (by omega) (by omega)]
    have C22 : u28 160 22 = r 160 22 := by rw [B 160 22 (by omega), A 160 22 (by omega) (by omega)]
    have C39 : u28 160 39 = r 160 39 := by rw [B 160 39 (by omega), A 160 39 (by omega) (by omega)]
    have C24 : u28 160 24 = (k : Int) + 1 := by rw [B 160 24 (by omega)]; exact A3
    refine (fun U eU V eV => ?_)
    refine j_47 (Z := fun u V => (∀ c x : Nat, ¬ c = 2 → u c x = u15 c x) → Z u V) BK HF (fun u V S _ => HS u V S) nn nn (s + 1) u15 u28 0 J28 (by omega) (by omega) (by omega) (by omega) (by omega) (fun u v e n Je qe k43 ML M1 n28 MF V eV fr => ?_) U eU V eV (fun cc x z => fz_47 nn U eU cc x z)
    obtain ⟨⟨c1, c2⟩, ⟨c3, c4⟩, c5, c6, c7⟩ := MF
    rw [C22] at ML c1 c2
    rw [C28] at ML M1 n28 c5 c7
    rw [C39] at c3 c4
    exact HO u v e n Je qe k42 k43 ML (fun i y1 y2 => by rw [M1 i y1 y2, C24]; omega) n28 ⟨by rw [c5 178 k (by decide) (by decide) (by omega), B 178 k (by omega)]; exact A1, by rw [c5 179 k (by decide) (by decide) (by omega), B 179 k (by omega)]; exact A2, by rw [c6]; exact C24⟩ ⟨⟨c1, fun cc x y1 y2 y3 => by rw [c2 cc x y1 y2 y3, B cc x (by omega), A cc x (by omega) (by omega)]⟩, ⟨c3, fun cc x y1 y2 y3 => by rw [c4 cc x y1 y2 y3, B cc x (by omega), A cc x (by omega) (by omega)]⟩, ⟨by omega, fun cc x y1 y2 y3 => by rw [c5 cc x y1 (by omega) (by omega), B cc x (by omega), A cc x (by omega) (by omega)]⟩, c7, fun cc x y1 y2 y3 => by rw [c5 cc x (by omega) y2 (by omega), B cc x (by omega), A cc x (by omega) (by omega)]⟩ (fun cc x z => by rw [fr cc x z, f15 cc x z]) V eV
  · exact pj_sf (o := fun a => a) (q := fun b => b) S (fs_qw_X8_readClass_47 _ _ _ S.1) (ft_qw_X13_program_116 (fun z0 S => HF z0 S) _ _ (sf_r S)) (fun a b s => HS a b s)
/-- a class of both sides -/
theorem j_class (BK : TBn K c) (GP : GPo K P c) {f : Nat} {Z : ms_M → ms_M → Prop} (HS : ∀ u V, SFj u V → Z u V) {k : Nat} (J : JPp K P c p h r) (hr : 0 ≤ r 160 22) (hm : 0 ≤ r 160 28) (h39 : 0 ≤ r 160 39) (hk : r 160 24 = (k : Int) ∧ h 11 2 = (k : Int)) (hP : 9 * (k : Int) ≤ P p) (HO : ∀ (u v : ms_M) (q n : Nat), JPp K P c q u v → p < q → CLR K v (v 160 39) (k : Int) n (r 160 28) (p : Int) (q : Int) (r 160 22) (v 160 22) → v 160 28 = r 160 28 + n → v 160 24 = (k : Int) + 1 → PFg r v → (u 11 2 = (k : Int) + 1 ∧ u 15 k = v 178 k) → (∀ c x : Nat, ¬ c = 2 → ¬ (c = 11 ∧ x = 2) → ¬ (c = 15 ∧ x = k) → u c x = h c x) → 9 * ((k : Int) + 1) ≤ P q → Pc (rd_A 3008 163 (v 160 23) v fun v6 => if ¬ v6 = 5 then (qw_X13_program_25 nn f v) else (some v)) (fun V => Z u V)) : Pc (qf_X8_readClass nn h) (fun u => Pc (qw_X13_program_25 nn (f + 1) r) (fun V => Z u V)) := by
  have n3 := BK.2.1
  have pc3 := J.2.2.1.2.2
  have k333 : k ≤ 333 := by have := GP.2.2 p pc3; omega
  unfold qf_X8_readClass qw_X13_program_25
  refine p2_sv (R := fun u v => ((K p = 13 ∧ v = up_M r 160 23 ((p + 1 : Nat) : Int) ∧ JPp K P c (p + 1) u v) ∨ SFj u v) ∧ ∀ cc x : Nat, ¬ cc = 2 → u cc x = h cc x) (fun u eu v ev => ⟨j_word BK J (k := 13) (y := 3) (by decide) (by decide) u eu v ev, fun cc x z => ff_X8_need nn u eu cc x (nw_2 z)⟩) ?_; intro u17 u31 q31
  obtain ⟨q31, f17⟩ := q31
  have HQ : ∀ z : ms_M, ¬ z 160 9 = 0 → Pc (qw_X13_program_25 nn f z) (fun u => FSr z u) := fun z S => ft_qw_X13_program_25 f z S
  rcases q31 with ⟨k13, m31, J31⟩ | S
  · have B31 : ∀ c x : Nat, ¬ (c = 160 ∧ x = 23) → u31 c x = r c x := fun c x z => by rw [m31]; exact up_n z
    have t17 := J31.2.2.1.1
    have t11 : u17 11 2 = (k : Int) := by rw [f17 11 2 (by decide)]; exact hk.2
    rw [t17]
    -- the class's row
    have AC : Pc (qf_X2_addClass nn ((p + 1 : Nat) : Int) u17) (fun u => u = up_M (up_M u17 15 k ((p + 1 : Nat) : Int)) 11 2 ((k : Int) + 1)) := by
      unfold qf_X2_addClass
      rw [t11]
      refine pc_if (fun z => absurd z (by omega)) (fun _ => ?_)
      refine pc_wA ?_; intro i1 i2 h6 e6
      have f6 : h6 11 2 = (k : Int) := by rw [e6, up_n (by omega)]; exact t11
      rw [f6]
      refine pc_add (by omega) ?_; intro v8 e8
      refine pc_xl ?_; intro h9 e9
      refine pc_ret ?_
      rw [e9, e8, e6, Int.toNat_natCast]
    refine pc_sv AC ?_; intro u22 e22
    have F22 : ∀ cc x : Nat, ¬ (cc = 15 ∧ x = k) → ¬ (cc = 11 ∧ x = 2) → u22 cc x = u17 cc x := fun cc x z1 z2 => by rw [e22, up_n z2, up_n z1]
    have G22 : u22 11 2 = (k : Int) + 1 ∧ u22 15 k = ((p + 1 : Nat) : Int) := ⟨by rw [e22, up_s], by rw [e22, up_n (by omega), up_s]⟩
    have J22 : JPp K P c (p + 1) u22 u31 := by
      obtain ⟨⟨y1, y2⟩, y3, ⟨y4, y5, y6⟩, y7, y8⟩ := J31
      exact ⟨⟨by rw [F22 2 3 (by omega) (by omega)]; exact y1, fun i hi => by rw [F22 3 i (by omega) (by omega), F22 4 i (by omega) (by omega)]; exact y2 i hi⟩, y3, ⟨by rw [F22 2 10 (by omega) (by omega)]; exact y4, y5, y6⟩, by rw [F22 2 11 (by omega) (by omega)]; exact y7, y8⟩
    refine p2_sv (R := fun u v => ((K (p + 1) = 2 ∧ v = (((p + 1 : Nat) : Int), up_M u31 160 23 ((p + 1 + 1 : Nat) : Int)) ∧ JPp K P c (p + 1 + 1) u v.2) ∨ SFj u v.2) ∧ ∀ cc x : Nat, ¬ cc = 2 → u cc x = u22 cc x) (fun u eu v ev => ⟨j_name BK J22 u eu v ev, fun cc x z => ff_X8_need nn u eu cc x (nw_2 z)⟩) ?_; intro u24 u33 q33
    obtain ⟨q33, f24⟩ := q33
    rcases q33 with ⟨k2, m33, J33⟩ | S
    · have B33 : ∀ c x : Nat, ¬ (c = 160 ∧ x = 23) → u33.2 c x = u31 c x := fun c x z => by rw [m33]; exact up_n z
      have l33 : u33.1 = ((p + 1 : Nat) : Int) := by rw [m33]
      rw [l33]
      have J33' := J33
      obtain ⟨b, d, ⟨g1, g2, g3⟩, g4, g5⟩ := J33'
      have p6 : P p + 6 ≤ P (p + 1) := (GP.2.1 p J31.2.2.1.2.2).2 k13 k2
      refine pc_fl ?_
      refine pc_if (fun z => absurd g5 z) (fun _ => ?_)
      rw [g2]
      refine pc_sv (r_wrd BK d rfl (by omega) (by decide)) ?_; intro u37 q37
      refine pc_fl ?_
      refine pc_sv (c_acc BK b g3 g1 g4) ?_; intro u26 q26
      refine pc_fl ?_
      rcases q26 with ⟨k16, m26⟩ | ⟨k16, m26⟩
      · -- extends
        refine pc_if (fun z => absurd z (by omega)) (fun _ => ?_)
        refine pc_add (by omega) ?_; intro v39 e39
        refine pc_xl ?_; intro h40 e40
        rw [show v39 = ((p + 1 + 1 + 1 : Nat) : Int) by omega] at e40
        refine pc_fl ?_
        rw [m26]
        dsimp only
        refine pc_if (fun z => absurd z (by decide)) (fun _ => ?_)
        have J40 : JPp K P c (p + 1 + 1 + 1) (up_M u24 2 10 ((p + 1 + 1 + 1 : Nat) : Int)) h40 := by rw [e40]; exact jp_up BK J33 (jp_lt BK g3 (by rw [k16]; decide))
        refine p2_sv (R := fun u v => ((K (p + 1 + 1 + 1) = 2 ∧ v = (((p + 1 + 1 + 1 : Nat) : Int), up_M h40 160 23 ((p + 1 + 1 + 1 + 1 : Nat) : Int)) ∧ JPp K P c (p + 1 + 1 + 1 + 1) u v.2) ∨ SFj u v.2) ∧ ∀ cc x : Nat, ¬ cc = 2 → u cc x = u24 cc x) (fun u eu v ev => ⟨j_name BK J40 u eu v ev, fun cc x z => (show u cc x = up_M u24 2 10 ((p + 1 + 1 + 1 : Nat) : Int) cc x from ff_X8_need nn u eu cc x (nw_2 z)).trans (up_n (by omega))⟩) ?_; intro u28 u42 q42
        obtain ⟨q42, f28⟩ := q42
        rcases q42 with ⟨k2b, m42, J42⟩ | S
        · have B42 : ∀ c x : Nat, ¬ (c = 160 ∧ x = 23) → u42.2 c x = r c x := fun c x z => by rw [m42]; dsimp only; rw [up_n z, e40, up_n z, B33 c x z, B31 c x z]
          have l42 : u42.1 = ((p + 1 + 1 + 1 : Nat) : Int) := by rw [m42]
          rw [l42]
          refine j_72c (k := k) BK HQ HS J42 (by rw [B42 160 22 (by omega)]; exact hr) (by rw [B42 160 28 (by omega)]; exact hm) (by rw [B42 160 39 (by omega)]; exact h39) ⟨by rw [B42 160 24 (by omega)]; exact hk.1, k333⟩ (fun u v e n Je se k42 k43 ML M1 n28 TT PF fr => ?_)
          rw [B42 160 28 (by omega)] at ML M1 n28
          rw [B42 160 22 (by omega)] at ML
          have qc := Je.2.2.1.2.2
          have g := gpo_a GP (e + 1 - (p + 1)) (p + 1) (by omega)
          rw [show p + 1 + (e + 1 - (p + 1)) = e + 1 by omega] at g
          refine HO u v (e + 1) n Je (by omega) ⟨⟨by rw [Int.toNat_natCast]; exact k13, by rw [show ((p : Int) + 1).toNat = p + 1 by omega]; exact k2, by rw [Int.toNat_natCast, TT.1]; omega⟩, (p : Int) + 5, (e : Int), .inl ⟨by rw [show ((p : Int) + 2).toNat = p + 1 + 1 by omega]; exact k16, by rw [show ((p : Int) + 3).toNat = p + 1 + 1 + 1 by omega]; exact k2b, by rw [Int.toNat_natCast, TT.2.1]; omega, by rw [show ((p : Int) + 4).toNat = p + 1 + 1 + 1 + 1 by omega]; exact k42, rfl⟩, by rw [show (p : Int) + 5 = ((p + 1 + 1 + 1 + 1 + 1 : Nat) : Int) by omega]; exact ML, M1, by rw [Int.toNat_natCast]; exact k43, by omega⟩ n28 TT.2.2 (pfg_k B42 PF) ⟨by rw [fr 11 2 (by decide), f28 11 2 (by decide), f24 11 2 (by decide)]; exact G22.1, by rw [fr 15 k (by decide), f28 15 k (by decide), f24 15 k (by decide), TT.1]; exact G22.2⟩ (fun cc x z1 z2 z3 => by rw [fr cc x z1, f28 cc x z1, f24 cc x z1, F22 cc x z3 z2, f17 cc x z1]) (by omega)
        · exact pj_sf (o := fun a => a) (q := fun b => b) S (fs_qj_X8_readClass_39 S.1) (ft_qj_X13_program_72 HQ (sf_r S)) (fun a b s => HS a b s)
      · refine pc_if (fun _ => ?_) (fun z => absurd (by omega) z)
        refine pc_fl ?_
        rw [m26]
        dsimp only
        refine pc_if (fun _ => ?_) (fun z => absurd rfl z)
        have B42 : ∀ c x : Nat, ¬ (c = 160 ∧ x = 23) → u33.2 c x = r c x := fun c x z => by rw [B33 c x z, B31 c x z]
        refine j_72c (k := k) BK HQ HS J33 (by rw [B42 160 22 (by omega)]; exact hr) (by rw [B42 160 28 (by omega)]; exact hm) (by rw [B42 160 39 (by omega)]; exact h39) ⟨by rw [B42 160 24 (by omega)]; exact hk.1, k333⟩ (fun u v e n Je se k42 k43 ML M1 n28 TT PF fr => ?_)
        rw [B42 160 28 (by omega)] at ML M1 n28
        rw [B42 160 22 (by omega)] at ML
        have qc := Je.2.2.1.2.2
        have g := gpo_a GP (e + 1 - (p + 1)) (p + 1) (by omega)
        rw [show p + 1 + (e + 1 - (p + 1)) = e + 1 by omega] at g
        refine HO u v (e + 1) n Je (by omega) ⟨⟨by rw [Int.toNat_natCast]; exact k13, by rw [show ((p : Int) + 1).toNat = p + 1 by omega]; exact k2, by rw [Int.toNat_natCast, TT.1]; omega⟩, (p : Int) + 3, (e : Int), .inr ⟨by rw [show ((p : Int) + 2).toNat = p + 1 + 1 by omega]; exact k16, by rw [Int.toNat_natCast]; exact TT.2.1, by rw [show ((p : Int) + 2).toNat = p + 1 + 1 by omega]; exact k42, rfl⟩, by rw [show (p : Int) + 3 = ((p + 1 + 1 + 1 : Nat) : Int) by omega]; exact ML, M1, by rw [Int.toNat_natCast]; exact k43, by omega⟩ n28 TT.2.2 (pfg_k B42 PF) ⟨by rw [fr 11 2 (by decide), f24 11 2 (by decide)]; exact G22.1, by rw [fr 15 k (by decide), f24 15 k (by decide), TT.1]; exact G22.2⟩ (fun cc x z1 z2 z3 => by rw [fr cc x z1, f24 cc x z1, F22 cc x z3 z2, f17 cc x z1]) (by omega)
    · refine pj_sf (o := fun a => a) (q := fun b => b) S ?_ ?_ (fun a b s => HS a b s)
      · have S1 : ¬ u24 2 11 = 0 := S.1
        have F : FSc u24 u24 := fs_r
        refine pc_sv (fs_qf_X8_accept (fs_n S1 F)) ?_; intro u26 Qu26
        have Fu26 : FSc u24 u26.2 := fs_t F Qu26
        refine pc_if (fun _ => ?_) (fun _ => ?_)
        · exact pc_imp (fs_qj_X8_readClass_39 (fs_n S1 Fu26)) (fun _ q => fs_t Fu26 q)
        · refine pc_sv (fs_qf_X8_need (fs_n S1 Fu26)) ?_; intro u28 Qu28
          have Fu28 : FSc u24 u28 := fs_t Fu26 Qu28
          exact pc_imp (fs_qj_X8_readClass_39 (fs_n S1 Fu28)) (fun _ q => fs_t Fu28 q)
      · have S1 : ¬ u33.2 160 9 = 0 := sf_r S
        have F : FSr u33.2 u33.2 := ft_r
        refine pc_if (fun _ => ?_) (fun _ => ?_)
        · exact pc_imp (ft_qj_X13_program_72 (fun _ S => ft_qw_X13_program_25 _ _ S) (ft_n S1 F)) (fun _ q => ft_t F q)
        · refine pc_se ?_; intro u37 _
          refine pc_if (fun _ => ?_) (fun _ => ?_)
          · exact pc_imp (ft_qj_X13_program_72 (fun _ S => ft_qw_X13_program_25 _ _ S) (ft_n S1 F)) (fun _ q => ft_t F q)
          · refine pc_xl ?_; intro v39 _
            refine pc_xl ?_; intro h40 Eh40
            have Fh40 : FSr u33.2 h40 := by rw [Eh40]; exact ft_u F (by omega)
            refine pc_sv (ft_qf_X13_name (ft_n S1 Fh40)) ?_; intro u42 Qu42
            have Fu42 : FSr u33.2 u42.2 := ft_t Fh40 Qu42
            exact pc_imp (ft_qj_X13_program_72 (fun _ S => ft_qw_X13_program_25 _ _ S) (ft_n S1 Fu42)) (fun _ q => ft_t Fu42 q)
  · refine pj_sf (o := fun a => a) (q := fun b => b) S ?_ ?_ (fun a b s => HS a b s)
    · have S1 : ¬ u17 2 11 = 0 := S.1
      have F : FSc u17 u17 := fs_r
      refine pc_sv (fs_qf_X2_addClass (fs_n S1 F)) ?_; intro u22 Qu22
      have Fu22 : FSc u17 u22 := fs_t F Qu22
      refine pc_sv (fs_qf_X8_need (fs_n S1 Fu22)) ?_; intro u24 Qu24
      have Fu24 : FSc u17 u24 := fs_t Fu22 Qu24
      refine pc_sv (fs_qf_X8_accept (fs_n S1 Fu24)) ?_; intro u26 Qu26
      have Fu26 : FSc u17 u26.2 := fs_t Fu24 Qu26
      refine pc_if (fun _ => ?_) (fun _ => ?_)
      · exact pc_imp (fs_qj_X8_readClass_39 (fs_n S1 Fu26)) (fun _ q => fs_t Fu26 q)
      · refine pc_sv (fs_qf_X8_need (fs_n S1 Fu26)) ?_; intro u28 Qu28
        have Fu28 : FSc u17 u28 := fs_t Fu26 Qu28
        exact pc_imp (fs_qj_X8_readClass_39 (fs_n S1 Fu28)) (fun _ q => fs_t Fu28 q)
    · have S1 : ¬ u31 160 9 = 0 := sf_r S
      have F : FSr u31 u31 := ft_r
      refine pc_sv (ft_qf_X13_name (ft_n S1 F)) ?_; intro u33 Qu33
      have Fu33 : FSr u31 u33.2 := ft_t F Qu33
      refine pc_if (fun _ => ?_) (fun _ => ?_)
      · exact pc_imp (ft_qj_X13_program_72 (fun _ S => ft_qw_X13_program_25 _ _ S) (ft_n S1 Fu33)) (fun _ q => ft_t Fu33 q)
      · refine pc_se ?_; intro u37 _
        refine pc_if (fun _ => ?_) (fun _ => ?_)
        · exact pc_imp (ft_qj_X13_program_72 (fun _ S => ft_qw_X13_program_25 _ _ S) (ft_n S1 Fu33)) (fun _ q => ft_t Fu33 q)
        · refine pc_xl ?_; intro v39 _
          refine pc_xl ?_; intro h40 Eh40
          have Fh40 : FSr u31 h40 := by rw [Eh40]; exact ft_u Fu33 (by omega)
          refine pc_sv (ft_qf_X13_name (ft_n S1 Fh40)) ?_; intro u42 Qu42
          have Fu42 : FSr u31 u42.2 := ft_t Fh40 Qu42
          exact pc_imp (ft_qj_X13_program_72 (fun _ S => ft_qw_X13_program_25 _ _ S) (ft_n S1 Fu42)) (fun _ q => ft_t Fu42 q)
theorem pfg_t {x : ms_M} (H : PFg r v) (G : PFg v x) : PFg r x := by
  obtain ⟨⟨a1, a2⟩, ⟨a3, a4⟩, ⟨a5, a6⟩, a7, a8⟩ := H
  obtain ⟨⟨b1, b2⟩, ⟨b3, b4⟩, ⟨b5, b6⟩, b7, b8⟩ := G
  exact ⟨⟨by omega, fun c x c1 c2 c3 => by rw [b2 c x c1 c2 (by omega)]; exact a2 c x c1 c2 c3⟩, ⟨by omega, fun c x c1 c2 c3 => by rw [b4 c x c1 c2 (by omega)]; exact a4 c x c1 c2 c3⟩, ⟨by omega, fun c x c1 c2 c3 => by rw [b6 c x c1 c2 (by omega)]; exact a6 c x c1 c2 c3⟩, by omega, fun c x c1 c2 c3 => by rw [b8 c x c1 c2 (by omega)]; exact a8 c x c1 c2 c3⟩
/-- the classes of both sides -/
theorem j_prg (BK : TBn K c) (GP : GPo K P c) : ∀ (f f2 k p : Nat) (h r : ms_M), JPp K P c p h r → 0 ≤ r 160 22 → 0 ≤ r 160 28 → 0 ≤ r 160 39 → (r 160 24 = (k : Int) ∧ h 11 2 = (k : Int)) → 9 * (k : Int) ≤ P p → Pc (qj_X8_readProgram_33 nn (qw_X8_readProgram_2 nn f) (k : Int) h) (fun u => Pc (qw_X13_program_25 nn f2 r) (fun v => JPg K P c k p h r u v)) := by
  intro f
  induction f with
  | zero =>
    intros
    unfold qj_X8_readProgram_33
    refine pc_se ?_; intro u2 _
    refine pc_xl ?_; intro v3 _
    exact pc_none
  | succ f ih =>
    intro f2 k p h r J hr hm h39 hk hP
    cases f2 with
    | zero => exact fun _ _ => pc_none
    | succ f2 =>
      have k333 : k ≤ 333 := by have := GP.2.2 p J.2.2.1.2.2; omega
      unfold qj_X8_readProgram_33
      refine pc_sv (P := fun u => Pc (qw_X13_program_25 nn (f2 + 1) r) (fun V => Pc (xl (oq_add (k : Int) 1) fun v3 => qw_X8_readProgram_2 nn (f + 1) v3 u) (fun U => JPg K P c k p h r U V))) (j_class BK GP (Z := fun u V => Pc (xl (oq_add (k : Int) 1) fun v3 => qw_X8_readProgram_2 nn (f + 1) v3 u) (fun U => JPg K P c k p h r U V)) ?_ J hr hm h39 hk hP ?_) (fun u R => pc_fl R)
      · intro u V S
        refine pc_xl ?_; intro v3 _
        exact pc_imp (fs_qw_X8_readProgram_2 _ _ _ S.1) (fun U q => .inl (sf_k S q ft_r))
      · intro u v q n Jq pq CL n28 n24 PF U1 UF Pq
        have Jq' := Jq
        obtain ⟨b, d, ⟨g1, g2, g3⟩, g4, g5⟩ := Jq'
        rw [g2]
        refine pc_rA ?_; intro _ _ v6 e6
        rw [Int.toNat_natCast] at e6
        have kd := r_kd BK d (t := q) (by omega)
        refine pc_if (fun z => ?_) (fun z => ?_)
        · have kq : ¬ K q = 0 := by omega
          refine pc_fl ?_
          refine pc_add (by omega) ?_; intro v3 e3
          unfold qw_X8_readProgram_2
          refine pc_if (fun z => absurd z (by omega)) (fun _ => ?_)
          refine pc_if (fun z => absurd g4 z) (fun _ => ?_)
          refine pc_if (fun z => absurd z (by omega)) (fun _ => ?_)
          refine pc_sv (c_kind BK b g3 g1 g4) ?_; intro u8 q8
          refine pc_if (fun z => absurd (by omega) kq) (fun _ => ?_)
          rw [show v3 = ((k + 1 : Nat) : Int) by omega]
          refine (fun U eU V eV => ?_)
          rcases ih f2 (k + 1) q u v Jq (by have := PF.1.1; omega) (by omega) (by have := PF.2.1.1; omega) ⟨by omega, by rw [U1.1]; omega⟩ (by omega) U eU V eV with S | ⟨j, q2, ⟨y1, y2, y3⟩, y4, ⟨y5, y6, y7, y8⟩, y9, y10, y11⟩
          · exact .inl S
          · have y11' := y11
            obtain ⟨⟨b1, b2⟩, ⟨b3, b4⟩, ⟨b5, b6⟩, b7, b8⟩ := y11'
            refine .inr ⟨j + 1, q2, ⟨y1, y2, by omega⟩, ⟨n, (q : Int), v 160 22, PF.1.1, clr_k b3 hm ⟨by rw [Int.toNat_natCast]; exact b6 178 k (by decide) (by decide) (by omega), by rw [Int.toNat_natCast]; exact b6 179 k (by decide) (by decide) (by omega)⟩ (fun cc x c1 c2 _ _ c3 => b8 cc x c1 c2 (by omega)) b4 (fun cc x c1 c2 _ _ c3 => b2 cc x c1 c2 c3) CL, ?_⟩, ⟨by omega, by omega, by omega, by omega⟩, fun i i1 i2 => ?_, fun cc x z1 z2 z3 => by rw [y10 cc x z1 z2 (by omega)]; exact UF cc x z1 z2 (by omega), pfg_t PF y11⟩
            · rw [← n28, show (k : Int) + 1 = ((k + 1 : Nat) : Int) by omega]; exact y4
            · by_cases ik : i = k
              · rw [ik, y10 15 k (by decide) (by omega) (by omega), U1.2, b6 178 k (by decide) (by decide) (by omega)]
              · exact y9 i (by omega) (by omega)
        · have kq : K q = 0 := by omega
          refine pc_ret ?_
          refine pc_add (by omega) ?_; intro v3 e3
          unfold qw_X8_readProgram_2
          refine pc_if (fun z => absurd z (by omega)) (fun _ => ?_)
          refine pc_if (fun z => absurd g4 z) (fun _ => ?_)
          refine pc_if (fun z => absurd z (by omega)) (fun _ => ?_)
          refine pc_sv (c_kind BK b g3 g1 g4) ?_; intro u8 q8
          refine pc_if (fun _ => ?_) (fun z => absurd (by omega) z)
          refine pc_ret ?_
          exact .inr ⟨1, q, ⟨Jq, kq, pq⟩, ⟨n, (q : Int), v 160 22, PF.1.1, CL, ⟨rfl, rfl, n28⟩⟩, ⟨by omega, by omega, by omega, by omega⟩, fun i i1 i2 => by rw [show i = k by omega]; exact U1.2, fun cc x z1 z2 z3 => UF cc x z1 z2 (by omega), PF⟩
/-- PARSE of both sides -/
theorem j_pgm (BK : TBn K c) (GP : GPo K P c) (B : TBc K P c h) (D : TBq K P c r) (h10 : h 2 10 = 0) (h11 : h 2 11 = 0) (r9 : r 160 9 = 0) (hn : h 11 2 = 0) : Pc (qf_X8_readProgram nn h) (fun u => Pc (qf_X13_program nn r) (fun v => ∃ r0 : ms_M, (r0 160 22 = 0 ∧ r0 160 28 = 0 ∧ r0 160 39 = 0 ∧ ∀ c x : Nat, ¬ c = 160 → r0 c x = r c x) ∧ JPg K P c 0 0 h r0 u v)) := by
  have n3 := BK.2.1
  unfold qf_X8_readProgram qf_X13_program
  refine pc_fl ?_
  refine pc_xl ?_; intro h45 e45
  refine pc_xl ?_; intro h46 e46
  refine pc_xl ?_; intro h47 e47
  refine pc_xl ?_; intro h48 e48
  refine pc_xl ?_; intro h49 e49
  have A : ∀ c x : Nat, ¬ (c = 160 ∧ (x = 24 ∨ x = 28 ∨ x = 39 ∨ x = 22 ∨ x = 23)) → h49 c x = r c x := fun c x z => by rw [e49, up_n (by omega), e48, up_n (by omega), e47, up_n (by omega), e46, up_n (by omega), e45, up_n (by omega)]
  have A23 : h49 160 23 = 0 := by rw [e49, up_s]
  have A22 : h49 160 22 = 0 := by rw [e49, up_n (by omega), e48, up_s]
  have A39 : h49 160 39 = 0 := by rw [e49, up_n (by omega), e48, up_n (by omega), e47, up_s]
  have A28 : h49 160 28 = 0 := by rw [e49, up_n (by omega), e48, up_n (by omega), e47, up_n (by omega), e46, up_s]
  have A24 : h49 160 24 = 0 := by rw [e49, up_n (by omega), e48, up_n (by omega), e47, up_n (by omega), e46, up_n (by omega), e45, up_s]
  have J : JPp K P c 0 h h49 := ⟨B, ⟨fun i hi => by rw [A 163 i (by omega)]; exact D.1 i hi, fun i hi => by rw [A 164 i (by omega)]; exact D.2.1 i hi, fun i i1 i2 => by rw [A 166 i (by omega)]; exact D.2.2.1 i i1 i2, fun i i1 => by rw [A 166 i (by omega)]; exact D.2.2.2 i i1⟩, ⟨h10, A23, by omega⟩, h11, by rw [A 160 9 (by omega)]; exact r9⟩
  refine pc_fl ?_
  have KEY : Pc (qw_X8_readProgram_2 nn nn 0 h) (fun u => Pc (qw_X13_program_25 nn nn h49) (fun v => JPg K P c 0 0 h h49 u v)) := by
    cases e : nn with
    | zero => exact pc_none
    | succ n =>
      rw [← e]
      have G := j_prg (nn := nn) BK GP n nn 0 0 h h49 J (by omega) (by omega) (by omega) ⟨A24, hn⟩ (by have := GP.1; omega)
      rw [show qw_X8_readProgram_2 nn nn 0 h = qj_X8_readProgram_33 nn (qw_X8_readProgram_2 nn n) 0 h by
        rw [e]
        show (if (3000 : Int) ≤ 0 then (some h) else (if ¬ (h 2 11) = 0 then (some h) else (if (0 : Int) = 0 then (qj_X8_readProgram_33 (n + 1) (qw_X8_readProgram_2 (n + 1) n) 0 h) else _))) = _
        rw [if_neg (by decide), if_neg (by omega), if_pos rfl]]
      exact G
  exact fun U eU V eV => ⟨h49, ⟨A22, A28, A39, fun c x z => A c x (by omega)⟩, KEY U eU V eV⟩
end
end
section
/- PARSE: from the tokens of both sides -/
/-- the kinds of the class's tokens, 0 behind the last -/
def kn_T (u : ms_M) (i : Nat) : Int := if (i : Int) < u 2 3 then u 3 i else 0
theorem tkf_b {A : Nat → Int} {n : Nat} {u v : ms_M} (H : TKFn A n u v) : TBn (kn_T u) (u 2 3).toNat ∧ TBc (kn_T u) (u 4) (u 2 3).toNat u ∧ TBq (kn_T u) (u 4) (u 2 3).toNat v ∧ GPo (kn_T u) (u 4) (u 2 3).toNat := by
  obtain ⟨-, -, ⟨t1, t2⟩, ⟨⟨c1, c2⟩, c3⟩, e4, tr, -, po⟩ := H
  have n3 := tr.1
  have ki : ∀ i : Nat, (i : Int) < u 2 3 → kn_T u i = u 3 i := fun i hi => by unfold kn_T; rw [if_pos hi]
  have ko : ∀ i : Nat, ¬ (i : Int) < u 2 3 → kn_T u i = 0 := fun i hi => by unfold kn_T; rw [if_neg hi]
  have mo : ∀ d i : Nat, (i : Int) + d + 1 = u 2 3 → 0 ≤ u 4 i ∧ u 4 i ≤ (n : Int) := by
    intro d
    induction d with
    | zero => intro i hi; have q := po.2 i (by omega); exact ⟨q.1, by omega⟩
    | succ d ih => intro i hi; have q := po.1 i (by omega); have q2 := ih (i + 1) (by omega); exact ⟨q.1, by omega⟩
  refine ⟨⟨fun i hi => ko i (by omega), by omega, ?_, fun i => ?_⟩, ⟨by omega, fun i hi => ⟨(ki i (by omega)).symm, rfl⟩⟩, ⟨fun i hi => ?_, fun i hi => (t2 i (by omega)).2.1, fun i i1 i2 => ?_, fun i i1 => ?_⟩, (mo (u 2 3 - 1).toNat 0 (by omega)).1, fun i hi => ?_, fun i hi => ?_⟩
  · rw [ki ((u 2 3).toNat - 1) (by omega), show (u 2 3).toNat - 1 = (u 2 3 - 1).toNat by omega]; exact c3
  · by_cases z : (i : Int) < u 2 3
    · rw [ki i z]; exact (t2 i z).2.2.1
    · rw [ko i z]; exact .inl rfl
  · by_cases z : (i : Int) < u 2 3
    · rw [ki i z]; exact (t2 i z).1
    · rw [ko i z, e4 i (by omega) (by omega)]; rfl
  · have z : (i : Int) < u 2 3 := Decidable.byContradiction fun z => by rw [ko i z] at i1; omega
    rw [ki i z] at i1 i2 ⊢; exact (t2 i z).2.2.2.2.1 i1 i2
  · have z : (i : Int) < u 2 3 := Decidable.byContradiction fun z => by rw [ko i z] at i1; omega
    rw [ki i z] at i1 ⊢; exact (t2 i z).2.2.2.2.2.1 i1
  · have q := po.1 i (by omega)
    rw [ki i (by omega), ki (i + 1) (by omega)]; exact ⟨q.2.1, q.2.2.1⟩
  · have q := mo (u 2 3 - 1 - i).toNat i (by omega); omega
end

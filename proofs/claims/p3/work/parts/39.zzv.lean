section
variable {nn : Nat} {s h r z : ms_M} {w : Int}
theorem ck_ne (C : CK s h) (V : VS_ z) (M : MF s z) (N : ∀ c k : Nat, ¬ (c = 199 ∨ c = 219 ∨ c = 220 ∨ (c = 160 ∧ (k = 54 ∨ k = 57))) → z c k = h c k) : CK s z := by
  obtain ⟨_, _, P, I, J, H, D⟩ := C
  have e71 := N 160 71 (by decide)
  have e72 := N 160 72 (by decide)
  have e78 := N 160 78 (by decide)
  have e79 := N 160 79 (by decide)
  have e84 := N 160 84 (by decide)
  have e87 := N 160 87 (by decide)
  have e88 := N 160 88 (by decide)
  have e68 := N 160 68 (by decide)
  refine ⟨V, M, fp_eq P (fun k => ⟨N 207 k (by omega), N 197 k (by omega)⟩) (N 160 50 (by decide)) (N 160 70 (by decide)) e71 e72 (N 160 52 (by decide)), fi_eq I (fun c k a b => N c k (by omega)) e71 e72 e78 e79, fun i hi => ?_, fun f hf => ?_, ?_⟩
  · rw [N 218 i (by omega), e88]; exact J i (by omega)
  · rw [N 216 f (by omega)]; exact H f (by omega)
  · unfold DW
    rw [e87, e68, e79, e72, e71, e84]; exact D
theorem cw_ne (C : CW s w h) (V : VS_ z) (M : MF s z) (N : ∀ c k : Nat, ¬ (c = 199 ∨ c = 219 ∨ c = 220 ∨ (c = 160 ∧ (k = 54 ∨ k = 57))) → z c k = h c k) : CW s w z := cw_of C (ck_ne C.1 V M N) (fun c k a b => N c k (by omega)) (N 160 62 (by decide)) (N 160 64 (by decide)) (N 160 66 (by decide))
theorem cw_57 {v : Int} (C : CW s w h) (E : z = up_M h 160 57 v) (hv : 0 ≤ v ∧ v ≤ 9000) : CW s w z ∧ z 160 57 = v ∧ (∀ c k : Nat, ¬ (c = 160 ∧ k = 57) → z c k = h c k) := by
  have N : ∀ c k : Nat, ¬ (c = 160 ∧ k = 57) → z c k = h c k := fun c k w => by rw [E]; exact up_n w
  exact ⟨cw_ne C (by rw [E]; exact wF_160_57 C.1.1 hv) (by rw [E]; exact mf_f C.1.2.1 rfl) (fun c k w => N c k (by omega)), by rw [E]; exact up_s, N⟩
theorem cw_199 {j v : Int} (C : CW s w h) (E : z = up_M h 199 j.toNat v) (hv : 0 ≤ v ∧ v ≤ 8999) : CW s w z ∧ z 199 j.toNat = v ∧ (∀ c k : Nat, ¬ (c = 199 ∧ k = j.toNat) → z c k = h c k) := by
  have N : ∀ c k : Nat, ¬ (c = 199 ∧ k = j.toNat) → z c k = h c k := fun c k w => by rw [E]; exact up_n w
  exact ⟨cw_ne C (by rw [E]; exact wA_199 C.1.1 hv) (by rw [E]; exact mf_a C.1.2.1 rfl) (fun c k w => N c k (by omega)), by rw [E]; exact up_s, N⟩
theorem wk_led (C : CW s w h) {e : Int} (he : 0 ≤ e ∧ e < 9000) : Ok_ (qf_X13_isLedInWords nn e h) (fun u => (u = 0 → ¬ led s e) ∧ (¬ u = 0 → led s e)) := by
  unfold qf_X13_isLedInWords led
  refine ok_rd he (gA_167 C.1.1) ?_; intro v2 e2 _ _
  have t2 : v2 = s 167 e.toNat := by rw [e2]; exact C.1.2.1 167 _ (nw_ar rfl _)
  clear e2
  refine ok_if (fun C1 => ok_ret ⟨fun z => absurd z (by decide), fun _ => by omega⟩) (fun C1 => ?_)
  refine ok_if (fun C1 => ok_ret ⟨fun z => absurd z (by decide), fun _ => by omega⟩) (fun C2 => ?_)
  refine ok_if (fun C1 => ok_ret ⟨fun z => absurd z (by decide), fun _ => by omega⟩) (fun C3 => ?_)
  refine ok_if (fun C1 => ok_ret ⟨fun z => absurd z (by decide), fun _ => by omega⟩) (fun C4 => ?_)
  refine ok_if (fun C5 => ok_ret ⟨fun _ => by omega, fun z => absurd rfl z⟩) (fun C5 => ?_)
  refine ok_rd he (gA_176 C.1.1) ?_; intro v4 e4 _ _
  have t4 : v4 = s 176 e.toNat := by rw [e4]; exact C.1.2.1 176 _ (nw_ar rfl _)
  clear e4
  exact ok_if (fun C6 => ok_ret ⟨fun _ => by omega, fun z => absurd rfl z⟩) (fun C6 => ok_ret ⟨fun z => absurd z (by decide), fun _ => by omega⟩)
theorem led_ch {d a b a2 b2 e : Int} (L : led s e) (T : TE 0 s 0 d a b e) (Y : YT s 0 a2 b2 e) : TE 0 s 0 d a e (s 170 e.toNat) ∧ ¬ s 174 (s 170 e.toNat).toNat = 3 ∧ ∃ a2 b2, YT s 0 a2 b2 (s 170 e.toNat) := by
  have L2 : (s 167 e.toNat = 30 ∨ s 167 e.toNat = 38) ∨ (s 167 e.toNat = 32 ∨ s 167 e.toNat = 37) ∨ (s 167 e.toNat = 31 ∧ s 176 e.toNat = -1) := by unfold led at L; omega
  refine ⟨te_led T (by omega), ?_⟩
  rcases L2 with k | k | k
  · have q := yo_30 Y k
    exact ⟨q.1, _, _, q.2⟩
  · have q := (yo_32 Y k).1
    exact ⟨q.1, _, _, q.2⟩
  · rcases (yo_31 Y k.1).1 with q | q
    · exact absurd k.2 q
    · exact ⟨q.1, _, _, q.2⟩
/-- the row of nodes whose first operand is made first -/
def RW (s : ms_M) (d a b B base e : Int) (h : ms_M) : Prop := ∀ j : Nat, base ≤ (j : Int) → (j : Int) < h 160 57 → ∃ c, TE 0 s 0 d a c (h 199 j) ∧ (∃ a2 b2, YT s 0 a2 b2 (h 199 j)) ∧ (gv s (h 199 j) ∧ led s (h 199 j)) ∧ (c + (j : Int) ≤ B ∧ c ≤ b) ∧ (((j : Int) = base ∧ h 199 j = e ∧ c = b) ∨ (base < (j : Int) ∧ h 199 j = s 170 (h 199 (j - 1)).toNat ∧ c = h 199 (j - 1)))
/-- all of QK but for the row's top -/
def QP (s h : ms_M) (l w p C : Int) (r : ms_M) : Prop := CW s w r ∧ r 160 70 = p ∧ (h 160 68 ≤ r 160 68 ∧ r 160 68 ≤ h 160 68 + 20 * C) ∧ (h 160 78 ≤ r 160 78 ∧ r 160 78 ≤ h 160 78 + 2 * C) ∧ (h 160 88 ≤ r 160 88 ∧ r 160 88 ≤ h 160 88 + 2 * C) ∧ (r 160 50 = h 160 50 ∧ r 160 54 = h 160 54 ∧ r 160 72 = h 160 72 ∧ r 160 84 = h 160 84 ∧ r 160 87 = h 160 87) ∧ (∀ i : Nat, (i : Int) < h 160 87 → r 217 i = h 217 i ∧ r 218 i = h 218 i) ∧ (∀ j : Nat, (j : Int) < l → r 199 j = h 199 j)
theorem wo_w50 (S : GZ s) {g : Int} {rc : tq_X13_work} (G : WG s g rc) {d a b B l e P w0 : Int} (hd : d ≤ g) (hB : B ≤ 9000) (hb : b ≤ s 160 22) (ha : 0 ≤ a) {h0 : ms_M} (bP : 2 * P + d ≤ a + 1500 ∧ 0 ≤ P) (b78 : h0 160 78 + 2 * (Cm s b - Cm s a) ≤ 6190) (b87 : h0 160 87 + d ≤ 2990) (bw : w0 + (Cm s b - Cm s a) ≤ 3000) (b68 : h0 160 68 + 20 * (Cm s b - Cm s a) ≤ 100000) (b88 : h0 160 88 + 2 * (Cm s b - Cm s a) ≤ 1900000000) (hl : 0 ≤ l) : ∀ (k : Nat) (p bp : Int) (h : ms_M), QP s h0 l (w0 + (Cm s bp - Cm s a) + 1) (P + dv s p) (Cm s bp - Cm s a) h → RW s d a b B l e h → LK s e b l h p bp → l ≤ h 160 57 → a ≤ bp → h 160 57 - l < (k : Int) → Ok_ (qw_X13_work_50 nn rc k l h) (fun r => QP s h0 l (w0 + (Cm s b - Cm s a) + 1) (P + dv s e) (Cm s b - Cm s a) r ∧ r 160 57 = l) := by
  intro k
  induction k with
  | zero => intro p bp h Q R L r3 _ hm; exfalso; omega
  | succ k ih =>
    intro p bp h Q R L r3 hbp hm
    have g57 := gF_160_57 Q.1.1.1
    unfold qw_X13_work_50
    refine ok_if (fun C => ?_) (fun C => ?_)
    · rcases L with ⟨L0, L1, L2⟩ | ⟨L0, _⟩
      · rw [L1, L2] at Q
        exact ok_ret ⟨Q, L0⟩
      · exfalso; omega
    · refine ok_sub (by omega) ?_; intro v3 e3
      refine ok_xl ?_; intro h4 E4
      obtain ⟨C4, q57, N4⟩ := cw_57 Q.1 E4 (by omega)
      refine ok_rd (by omega) (gA_199 C4.1.1) ?_; intro v7 e7 _ _
      rw [q57, N4 199 _ (by omega)] at e7
      obtain ⟨c, Tc, ⟨a2, b2, Yc⟩, ⟨gc, lc⟩, ⟨w1, w2⟩, w3⟩ := R v3.toNat (by omega) (by omega)
      rw [← e7] at Tc Yc gc lc
      have o := te_rg Tc
      have Lp : p = s 170 v7.toNat ∧ bp = v7 := by
        rcases L with ⟨L0, _⟩ | ⟨_, L1, L2⟩
        · exfalso; omega
        · rw [show h 160 57 - 1 = v3 by omega, ← e7] at L1 L2
          exact ⟨L1, L2⟩
      obtain ⟨Lp1, Lp2⟩ := Lp
      have D1 : dv s p = 1 := by rw [Lp1]; exact if_neg (led_ch lc Tc Yc).2.1
      obtain ⟨Cq, q70, q68, q78, q88, ⟨q50, q54, q72, q84, q87⟩, qJ, qR⟩ := Q
      rw [D1] at q70
      subst Lp2
      have m1 := cm_mono (s := s) (a := a) (b := bp) (by omega) (by omega)
      have m2 := cm_mono (s := s) (a := bp) (b := c) (by omega) (by omega)
      have m3 := cm_mono (s := s) (a := c) (b := b) (by omega) (by omega)
      have n70 := N4 160 70 (by decide)
      have n68 := N4 160 68 (by decide)
      have n78 := N4 160 78 (by decide)
      have n88 := N4 160 88 (by decide)
      have n50 := N4 160 50 (by decide)
      have n54 := N4 160 54 (by decide)
      have n72 := N4 160 72 (by decide)
      have n84 := N4 160 84 (by decide)
      have n87 := N4 160 87 (by decide)
      have w4 : c + v3 ≤ B := by omega
      clear w1
      refine ok_sv (G.2.1 bp d a c a2 b2 _ h4 bp 1 C4 Tc Yc gc (by omega) hd (.inl ⟨rfl, rfl, lc⟩) ⟨⟨by omega, by omega⟩, by omega, by omega, by omega, by omega, by omega, by omega⟩) ?_; intro u9 K
      obtain ⟨Ck, k70, k68, k78, k88, ⟨k50, k54, k57, k72, k84, k87⟩, kJ, kR⟩ := K
      have rr : ∀ j : Nat, (j : Int) < v3 → u9 199 j = h 199 j := fun j hj => by rw [kR j (by omega), N4 199 j (by omega)]
      have R9 : RW s d a b B l e u9 := fun j x y => by
        obtain ⟨c, T, Y, z0, z1, z2⟩ := R j x (by omega)
        refine ⟨c, by rw [rr j (by omega)]; exact T, by rw [rr j (by omega)]; exact Y, by rw [rr j (by omega)]; exact z0, z1, ?_⟩
        rw [rr j (by omega)]
        rcases z2 with z2 | z2
        · exact .inl z2
        · rw [rr (j - 1) (by omega)]; exact .inr z2
      have L9 : LK s e b l u9 bp c := by
        rcases w3 with ⟨x1, x2, x3⟩ | ⟨x1, x2, x3⟩
        · refine .inl ⟨by omega, by rw [e7]; exact x2, x3⟩
        · refine .inr ⟨by omega, ?_, ?_⟩
          · rw [k57, q57, rr _ (by omega), e7, x2, show v3.toNat - 1 = (v3 - 1).toNat by omega]
          · rw [k57, q57, rr _ (by omega), x3, show v3.toNat - 1 = (v3 - 1).toNat by omega]
      refine ih bp c u9 ⟨cw_le Ck (by omega), by omega, ⟨by omega, by omega⟩, ⟨by omega, by omega⟩, ⟨by omega, by omega⟩, ⟨by omega, by omega, by omega, by omega, by omega⟩, fun i hi => ?_, fun j hj => ?_⟩ R9 L9 (by omega) (by omega) (by omega)
      · rw [(kJ i (by omega)).1, (kJ i (by omega)).2, N4 217 i (by omega), N4 218 i (by omega)]; exact qJ i hi
      · rw [rr j (by omega)]; exact qR j hj
theorem wo_w7 (S : GZ s) {g : Int} {rc : tq_X13_work} (hn : 1000000 ≤ nn) (G : WG s g rc) {d a b B l e P w0 : Int} (hd : d ≤ g) (hB : B ≤ 9000) (hb : b ≤ s 160 22) (ha : 0 ≤ a) {h0 : ms_M} (bP : 2 * P + d ≤ a + 1500 ∧ 0 ≤ P) (b78 : h0 160 78 + 2 * (Cm s b - Cm s a) ≤ 6190) (b87 : h0 160 87 + d ≤ 2990) (bw : w0 + (Cm s b - Cm s a) ≤ 3000) (b68 : h0 160 68 + 20 * (Cm s b - Cm s a) ≤ 100000) (b88 : h0 160 88 + 2 * (Cm s b - Cm s a) ≤ 1900000000) (hl : 0 ≤ l) (hP : h0 160 70 = P) : ∀ (k : Nat) (l3 c a2 b2 : Int) (h : ms_M), CW s w0 h → (∀ c k : Nat, ¬ c = 199 → ¬ (c = 160 ∧ k = 57) → h c k = h0 c k) → (∀ j : Nat, (j : Int) < l → h 199 j = h0 199 j) → RW s d a b B l e h → TE 0 s 0 d a c l3 → YT s 0 a2 b2 l3 → gv s l3 → c ≤ b → c + h 160 57 ≤ B → LK s e b l h l3 c → l ≤ h 160 57 → l3 < (k : Int) → Ok_ (qw_X13_work_7 nn rc k l l3 h) (fun r => QP s h0 l (w0 + (Cm s b - Cm s a) + 1) (P + dv s e) (Cm s b - Cm s a) r ∧ r 160 57 = l) := by
  intro k
  induction k with
  | zero => intro l3 c a2 b2 h Cw A A9 R T Y gl hc w1 L w2 hm; have := te_rg T; exfalso; omega
  | succ k ih =>
    intro l3 c a2 b2 h Cw A A9 R T Y gl hc w1 L w2 hm
    have o := te_rg T
    have g57 := gF_160_57 Cw.1.1
    have g22 := gF_160_22 S.1
    have n70 := A 160 70 (by decide) (by decide)
    have n68 := A 160 68 (by decide) (by decide)
    have n78 := A 160 78 (by decide) (by decide)
    have n88 := A 160 88 (by decide) (by decide)
    have n50 := A 160 50 (by decide) (by decide)
    have n54 := A 160 54 (by decide) (by decide)
    have n72 := A 160 72 (by decide) (by decide)
    have n84 := A 160 84 (by decide) (by decide)
    have n87 := A 160 87 (by decide) (by decide)
    unfold qw_X13_work_7
    refine ok_sv (wk_led Cw (by omega)) ?_; intro u12 P12
    refine ok_if (fun C => ?_) (fun C => ?_)
    · have nl := P12.1 C
      clear P12
      have m1 := cm_mono (s := s) (a := a) (b := c) (by omega) (by omega)
      have m3 := cm_mono (s := s) (a := c) (b := b) (by omega) (by omega)
      refine ok_sv (G.2.1 l3 d a c a2 b2 _ h a 0 Cw T Y gl (by omega) hd (.inr ⟨rfl, rfl, nl⟩) ⟨⟨by omega, by omega⟩, by omega, by omega, by omega, by omega, by omega, by omega⟩) ?_; intro u14 K
      obtain ⟨Ck, k70, k68, k78, k88, ⟨k50, k54, k57, k72, k84, k87⟩, kJ, kR⟩ := K
      have R9 : RW s d a b B l e u14 := fun j x y => by
        obtain ⟨c, T, Y, z0, z1, z2⟩ := R j x (by omega)
        refine ⟨c, by rw [kR j (by omega)]; exact T, by rw [kR j (by omega)]; exact Y, by rw [kR j (by omega)]; exact z0, z1, ?_⟩
        rw [kR j (by omega)]
        rcases z2 with z2 | z2
        · exact .inl z2
        · rw [kR (j - 1) (by omega)]; exact .inr z2
      have L9 : LK s e b l u14 l3 c := by
        rcases L with ⟨x1, x2, x3⟩ | ⟨x1, x2, x3⟩
        · exact .inl ⟨by omega, x2, x3⟩
        · refine .inr ⟨by omega, ?_, ?_⟩
          · rw [k57, kR _ (by omega)]; exact x2
          · rw [k57, kR _ (by omega)]; exact x3
      refine wo_w50 S G hd hB hb ha bP b78 b87 bw b68 b88 hl nn l3 c u14 ⟨cw_le Ck (by omega), by omega, ⟨by omega, by omega⟩, ⟨by omega, by omega⟩, ⟨by omega, by omega⟩, ⟨by omega, by omega, by omega, by omega, by omega⟩, fun i hi => ?_, fun j hj => ?_⟩ R9 L9 (by omega) (by omega) (by omega)
      · rw [(kJ i (by omega)).1, (kJ i (by omega)).2, A 217 i (by omega) (by omega), A 218 i (by omega) (by omega)]; exact ⟨rfl, rfl⟩
      · rw [kR j (by omega)]; exact A9 j hj
    · have ll := P12.2 C
      clear P12
      obtain ⟨T1, V1, a3, b3, Y1⟩ := led_ch ll T Y
      have o1 := te_rg T1
      refine ok_wA (by omega) ?_; intro h17 E17
      obtain ⟨C17, q17, N17⟩ := cw_199 Cw E17 (by omega)
      have p57 := N17 160 57 (by omega)
      refine ok_add (by omega) ?_; intro v19 e19
      refine ok_xl ?_; intro h20 E20
      obtain ⟨C20, q20, N20⟩ := cw_57 C17 E20 (by omega)
      refine ok_rd (by omega) (gA_170 C20.1.1) ?_; intro v22 e22 _ _
      have t22 : v22 = s 170 l3.toNat := by rw [e22]; exact C20.1.2.1 170 _ (nw_ar rfl _)
      clear e22
      rw [← t22] at T1 V1 Y1 o1
      have r20 : ∀ j : Nat, (j : Int) < h 160 57 → h20 199 j = h 199 j := fun j hj => by rw [N20 199 j (by omega), N17 199 j (by omega)]
      have s20 : h20 199 (h 160 57).toNat = l3 := by rw [N20 199 _ (by omega), q17]
      have R20 : RW s d a b B l e h20 := fun j x y => by
        by_cases q : (j : Int) = h 160 57
        · have q2 : j = (h 160 57).toNat := by omega
          rw [q2, s20]
          refine ⟨c, T, ⟨a2, b2, Y⟩, ⟨gl, ll⟩, ⟨by omega, hc⟩, ?_⟩
          rcases L with ⟨x1, x2, x3⟩ | ⟨x1, x2, x3⟩
          · exact .inl ⟨by omega, x2, x3⟩
          · refine .inr ⟨by omega, ?_, ?_⟩
            · rw [r20 _ (by omega), show (h 160 57).toNat - 1 = (h 160 57 - 1).toNat by omega]; exact x2
            · rw [r20 _ (by omega), show (h 160 57).toNat - 1 = (h 160 57 - 1).toNat by omega]; exact x3
        · obtain ⟨c, T, Y, z0, z1, z2⟩ := R j x (by omega)
          refine ⟨c, by rw [r20 j (by omega)]; exact T, by rw [r20 j (by omega)]; exact Y, by rw [r20 j (by omega)]; exact z0, z1, ?_⟩
          rw [r20 j (by omega)]
          rcases z2 with z2 | z2
          · exact .inl z2
          · rw [r20 (j - 1) (by omega)]; exact .inr z2
      have L20 : LK s e b l h20 v22 l3 := .inr ⟨by omega, by rw [q20, show v19 - 1 = h 160 57 by omega, s20]; exact t22, by rw [q20, show v19 - 1 = h 160 57 by omega, s20]⟩
      exact ih v22 l3 a3 b3 h20 C20 (fun c k x y => by rw [N20 c k y, N17 c k (by omega)]; exact A c k x y) (fun j hj => by rw [r20 j (by omega)]; exact A9 j hj) R20 T1 Y1 (.inl V1) (by omega) (by omega) L20 (by omega) (by omega)
theorem wo_work (hn : 1000000 ≤ nn) (S : GZ s) {g : Int} {rc : tq_X13_work} (G : WG s g rc) {e d a b a2 b2 : Int} (C : CW s w h) (T : TE 0 s 0 d a b e) (Y : YT s 0 a2 b2 e) (gl : gv s e) (hb : b ≤ s 160 22) (hd : d + 1 ≤ g + 1) (B : BD h (Cm s b - Cm s a) a b d w (h 160 70)) : Ok_ (qo_X13_work nn rc e h) (QK s h (w + (Cm s b - Cm s a) + 1) (h 160 70 + dv s e) (Cm s b - Cm s a)) := by
  have o := te_rg T
  have g57 := gF_160_57 C.1.1
  have g22 := gF_160_22 S.1
  unfold qo_X13_work
  obtain ⟨bd1, bd2, bd3, bd4, bd5, bd6, bd7⟩ := B
  refine ok_im (wo_w7 (B := h 160 57 + b) S hn G (by omega) bd2 hb (by omega) bd1 bd3 bd4 bd5 bd6 bd7 (by omega) rfl nn e b a2 b2 h C (fun _ _ _ _ => rfl) (fun _ _ => rfl) (fun j x y => by exfalso; omega) T Y gl (by omega) (by omega) (.inl ⟨rfl, rfl, rfl⟩) (by omega) (by omega)) (fun r Q => ?_)
  obtain ⟨⟨Cq, q70, q68, q78, q88, ⟨q50, q54, q72, q84, q87⟩, qJ, qR⟩, q57⟩ := Q
  exact ⟨Cq, q70, q68, q78, q88, ⟨q50, q54, q57, q72, q84, q87⟩, qJ, qR⟩
theorem te_a1 {d a b e : Int} (T : TE 0 s 1 d a b e) (h1 : ¬ e = -1) : (0 ≤ a ∧ a ≤ e ∧ e < b) ∧ TE 0 s 0 d a e (s 170 e.toNat) ∧ TE 0 s 1 d (e + 1) b (s 173 e.toNat) := by
  rcases te_o1 T with x | x
  · exact absurd x h1
  · exact x
theorem yo_a1 {a b e : Int} (T : YT s 1 a b e) (h1 : ¬ e = -1) : ¬ s 174 (s 170 e.toNat).toNat = 3 ∧ YT s 0 a e (s 170 e.toNat) ∧ YT s 1 (e + 1) b (s 173 e.toNat) := by
  rcases yt_o1 T with x | x
  · exact absurd x h1
  · exact ⟨x.2.1.1.2.2, x.2.1.2, x.2.2⟩
theorem wo_c65 (hn : 1000000 ≤ nn) (S : GZ s) {rc : tq_X13_work} {e c n s0 : Int} (C : CW s w h) (hk : s 167 e.toNat = 26 ∨ s 167 e.toNat = 31) (he : 0 ≤ e ∧ e < s 160 22) (hc : -4 ≤ c ∧ c < 8 + s 160 24) (hw : w ≤ 3000) (h68 : h 160 68 ≤ 100000) (hs : 182 ≤ s0 ∧ s0 ≤ 184) (hn1 : 0 ≤ n ∧ n ≤ h 160 70) (h70 : h 160 70 ≤ 2900) : Ok_ (qj_X13_workCall_65 nn rc e c n s0 h) (QG s h (w + 2) (h 160 70 - n + dv s e) 5 0) := by
  have g22 := gF_160_22 S.1
  have g24 := gF_160_24 S.1
  have s24 := S.2.1.2.1
  have g68 := gF_160_68 C.1.1
  obtain ⟨x1, x2, x3, _, _⟩ := S.2.2.2 e.toNat (by omega)
  have x2 := x2 (by omega)
  have x3 := x3 (by omega)
  unfold qj_X13_workCall_65
  refine ok_sv (cw_put hn C (by omega) (by omega)) ?_; intro u2 P2
  obtain ⟨C2, k2, N2⟩ := P2
  refine ok_rd (by omega) (gA_175 C2.1.1) ?_; intro v4 e4 _ _
  have t4 : v4 = s 175 e.toNat := by rw [e4]; exact C2.1.2.1 175 _ (nw_ar rfl _)
  clear e4
  refine ok_sv (cw_member hn S.2.1 S.1 C2 hw hc (by omega)) ?_; intro u6 P6
  obtain ⟨C6, N6, x6⟩ := P6
  have k6 : u6.2 160 68 = u2 160 68 := N6 160 68 (by decide) (by decide)
  refine ok_sv (cw_put hn C6 (by omega) (by omega)) ?_; intro u8 P8
  obtain ⟨C8, k8, N8⟩ := P8
  refine ok_rd (by omega) (gA_174 C8.1.1) ?_; intro v10 e10 _ _
  have t10 : v10 = s 174 e.toNat := by rw [e10]; exact C8.1.2.1 174 _ (nw_ar rfl _)
  clear e10
  have M : ∀ c k : Nat, c ≠ 206 → (c < 200 ∨ 205 < c) → c ≠ 196 → ¬ (c = 160 ∧ (k = 68 ∨ k = 62 ∨ k = 64 ∨ k = 66)) → u8 c k = h c k := fun c k a1 a2 a4 a3 => by rw [N8 c k a1 (by omega), N6 c k (by omega) (by omega), N2 c k a1 (by omega)]
  have e70 := M 160 70 (by decide) (by decide) (by decide) (by decide)
  have e78 := M 160 78 (by decide) (by decide) (by decide) (by decide)
  have e88 := M 160 88 (by decide) (by decide) (by decide) (by decide)
  have e50 := M 160 50 (by decide) (by decide) (by decide) (by decide)
  have e54 := M 160 54 (by decide) (by decide) (by decide) (by decide)
  have e57 := M 160 57 (by decide) (by decide) (by decide) (by decide)
  have e72 := M 160 72 (by decide) (by decide) (by decide) (by decide)
  have e84 := M 160 84 (by decide) (by decide) (by decide) (by decide)
  have e87 := M 160 87 (by decide) (by decide) (by decide) (by decide)
  refine ok_sv (cw_turn C8 (by omega) (by omega) (by omega)) ?_; intro u12 K
  obtain ⟨Ck, k70, k68, k78, k88, ⟨k50, k54, k57, k72, k84, k87⟩, kJ, kR⟩ := K
  have hE : dv s e = tv v10 := by rw [t10]; rfl
  refine ok_ret ⟨Ck, by omega, by omega, by omega, by omega, by omega, fun i hi => ?_, fun j hj => ?_⟩
  · rw [(kJ i (by omega)).1, (kJ i (by omega)).2, M 217 i (by decide) (by omega) (by decide) (by omega), M 218 i (by decide) (by omega) (by decide) (by omega)]; exact ⟨rfl, rfl⟩
  · rw [kR j (by omega), M 199 j (by decide) (by omega) (by decide) (by omega)]
theorem wo_c19 (hn : 1000000 ≤ nn) (S : GZ s) {g : Int} {rc : tq_X13_work} (G : WG s g rc) {e c f d a b w0 : Int} (hk : s 167 e.toNat = 26 ∨ s 167 e.toNat = 31) (hb : b ≤ s 160 22) (hd : d - 1 ≤ g + 1) (hc : -4 ≤ c ∧ c < 8 + s 160 24) (hf : f = 0 ∨ f = 1) (ho : 0 ≤ a ∧ a ≤ e ∧ e < b ∧ 4 ≤ d) {h0 : ms_M} (B : BD h0 (Cm s b - Cm s (e + 1)) a b d w0 (h0 160 70 - (1 - f))) : ∀ (k : Nat) (n lo lo2 b2 l5 : Int) (h : ms_M), QK s h0 (w0 + (Cm s lo - Cm s (e + 1))) (h0 160 70 + n) (Cm s lo - Cm s (e + 1)) h → TE 0 s 1 (d - 3) lo b l5 → YT s 1 lo2 b2 l5 → (0 ≤ n ∧ e + 1 + 2 * n ≤ lo ∧ lo ≤ b) → b - lo < (k : Int) → Ok_ (qw_X13_workCall_19 nn rc k e c f (1 - f + n) l5 h) (QG s h0 (w0 + (Cm s b - Cm s (e + 1)) + 2) (h0 160 70 - (1 - f) + dv s e) (20 * (Cm s b - Cm s (e + 1)) + 5) (2 * (Cm s b - Cm s (e + 1)))) := by
  intro k
  induction k with
  | zero => intro n lo lo2 b2 l5 h Q T Y hl hm; exfalso; omega
  | succ k ih =>
    intro n lo lo2 b2 l5 h Q T Y hl hm
    obtain ⟨⟨bd1, bd0⟩, bd2, bd3, bd4, bd5, bd6, bd7⟩ := B
    have g22 := gF_160_22 S.1
    have s22 := S.2.2.1.2
    have m0 := cm_at (s := s) (e := e) (by omega)
    have wt0 := wt_1 (s 167 e.toNat)
    have m1 := cm_mono (s := s) (a := e + 1) (b := lo) (by omega) (by omega)
    have m2 := cm_mono (s := s) (a := lo) (b := b) (by omega) (by omega)
    have g57 := gF_160_57 Q.1.1.1
    have g70 := gF_160_70 Q.1.1.1
    obtain ⟨Cq, q70, q68, q78, q88, ⟨q50, q54, q57, q72, q84, q87⟩, qJ, qR⟩ := Q
    unfold qw_X13_workCall_19
    refine ok_if (fun C => ?_) (fun C => ?_)
    · have J : ∀ s0, (182 ≤ s0 ∧ s0 ≤ 184) → Ok_ (qj_X13_workCall_65 nn rc e c (1 - f + n) s0 h) (QG s h0 (w0 + (Cm s b - Cm s (e + 1)) + 2) (h0 160 70 - (1 - f) + dv s e) (20 * (Cm s b - Cm s (e + 1)) + 5) (2 * (Cm s b - Cm s (e + 1)))) := fun s0 hs => by
        refine ok_im (wo_c65 hn S Cq hk (by omega) hc (by omega) (by omega) hs (by omega) (by omega)) (fun r K => ?_)
        obtain ⟨Ck, k70, k68, k78, k88, ⟨k50, k54, k57, k72, k84, k87⟩, kJ, kR⟩ := K
        exact ⟨cw_le Ck (by omega), by omega, ⟨by omega, by omega⟩, ⟨by omega, by omega⟩, ⟨by omega, by omega⟩, ⟨by omega, by omega, by omega, by omega, by omega, by omega⟩, fun i hi => by rw [(kJ i (by omega)).1, (kJ i (by omega)).2]; exact qJ i hi, fun j hj => by rw [kR j (by omega)]; exact qR j hj⟩
      exact ok_if (fun _ => J 182 (by decide)) (fun _ => J 184 (by decide))
    · obtain ⟨o1, T1, T2⟩ := te_a1 T C
      obtain ⟨V1, Y1, Y2⟩ := yo_a1 Y C
      refine ok_rd (by omega) (gA_170 Cq.1.1) ?_; intro v15 e15 _ _
      have t15 : v15 = s 170 l5.toNat := by rw [e15]; exact Cq.1.2.1 170 _ (nw_ar rfl _)
      clear e15
      rw [← t15] at T1 V1 Y1
      have o2 := te_rg T1
      have m3 := cm_mono (s := s) (a := lo) (b := l5) (by omega) (by omega)
      have m4 := cm_mono (s := s) (a := l5) (b := l5 + 1) (by omega) (by omega)
      have m5 := cm_mono (s := s) (a := l5 + 1) (b := b) (by omega) (by omega)
      have D : dv s v15 = 1 := if_neg V1
      refine ok_sv (G.1 v15 _ _ _ _ _ _ h Cq T1 Y1 (.inl V1) (by omega) (by omega) ⟨⟨by omega, by omega⟩, by omega, by omega, by omega, by omega, by omega, by omega⟩) ?_; intro u17 K
      rw [D] at K
      obtain ⟨Ck, k70, k68, k78, k88, ⟨k50, k54, k57, k72, k84, k87⟩, kJ, kR⟩ := K
      refine ok_add (by omega) ?_; intro v18 e18
      refine ok_rd (by omega) (gA_173 Ck.1.1) ?_; intro v20 e20 _ _
      have t20 : v20 = s 173 l5.toNat := by rw [e20]; exact Ck.1.2.1 173 _ (nw_ar rfl _)
      clear e20
      rw [← t20] at T2 Y2
      rw [show v18 = 1 - f + (n + 1) by omega]
      exact ih (n + 1) (l5 + 1) _ _ v20 u17 ⟨cw_le Ck (by omega), by omega, ⟨by omega, by omega⟩, ⟨by omega, by omega⟩, ⟨by omega, by omega⟩, ⟨by omega, by omega, by omega, by omega, by omega, by omega⟩, fun i hi => by rw [(kJ i (by omega)).1, (kJ i (by omega)).2]; exact qJ i hi, fun j hj => by rw [kR j (by omega)]; exact qR j hj⟩ T2 Y2 (by omega) (by omega)
theorem wo_workCall (hn : 1000000 ≤ nn) (S : GZ s) {g : Int} {rc : tq_X13_work} (G : WG s g rc) {e c f d a b a2 b2 : Int} (C : CW s w h) (T : TE 0 s 0 d a b e) (Y : YT s 0 a2 b2 e) (hk : s 167 e.toNat = 26 ∨ s 167 e.toNat = 31) (hb : b ≤ s 160 22) (hd : d - 1 ≤ g + 1) (hc : -4 ≤ c ∧ c < 8 + s 160 24) (hf : f = 0 ∨ f = 1) (B : BD h (Cm s b - Cm s (e + 1)) a b d w (h 160 70 - (1 - f))) : Ok_ (qo_X13_workCall nn rc e c f h) (QG s h (w + (Cm s b - Cm s (e + 1)) + 2) (h 160 70 - (1 - f) + dv s e) (20 * (Cm s b - Cm s (e + 1)) + 5) (2 * (Cm s b - Cm s (e + 1)))) := by
  have o := te_rg T
  have g22 := gF_160_22 S.1
  have K : 4 ≤ d ∧ TE 0 s 1 (d - 3) (e + 1) b (s 171 e.toNat) ∧ YT s 1 (e + 1) b2 (s 171 e.toNat) := by
    rcases hk with k | k
    · have q := te_k26 T k
      exact ⟨q.1, te_wd q.2 (by omega) (by omega) (by omega) (by omega), yo_26 Y k⟩
    · have q := te_k31 T k
      exact ⟨q.1, te_wd q.2.2.2 (by omega) (by omega) (by omega) (by omega), (yo_31 Y k).2⟩
  obtain ⟨d4, T1, Y1⟩ := K
  have J : ∀ n, n = 1 - f → Ok_ (qj_X13_workCall_9 nn rc e c f n h) (QG s h (w + (Cm s b - Cm s (e + 1)) + 2) (h 160 70 - (1 - f) + dv s e) (20 * (Cm s b - Cm s (e + 1)) + 5) (2 * (Cm s b - Cm s (e + 1)))) := fun n en => by
    unfold qj_X13_workCall_9
    refine ok_rd (by omega) (gA_171 C.1.1) ?_; intro v23 e23 _ _
    have t23 : v23 = s 171 e.toNat := by rw [e23]; exact C.1.2.1 171 _ (nw_ar rfl _)
    clear e23
    rw [← t23] at T1 Y1
    rw [show n = 1 - f + 0 by omega]
    exact wo_c19 hn S G hk hb hd hc hf ⟨by omega, by omega, by omega, d4⟩ B nn 0 (e + 1) _ _ v23 h ⟨cw_le C (by omega), by omega, ⟨by omega, by omega⟩, ⟨by omega, by omega⟩, ⟨by omega, by omega⟩, ⟨rfl, rfl, rfl, rfl, rfl, rfl⟩, fun _ _ => ⟨rfl, rfl⟩, fun _ _ => rfl⟩ T1 Y1 (by omega) (by omega)
  unfold qo_X13_workCall
  exact ok_if (fun z => J 1 (by omega)) (fun z => J 0 (by omega))
theorem wg_all (hn : 1000000 ≤ nn) (S : GZ s) : ∀ n : Nat, WG s (n : Int) (qg_X13_work nn n) := by
  intro n
  induction n with
  | zero =>
    refine ⟨fun e d a b a2 b2 w h _ T _ _ _ x => ?_, fun e d a b a2 b2 w h x q _ T _ _ _ y => ?_, fun e c f d a b a2 b2 w h _ T _ k _ y => ?_, fun e d a b a2 b2 w h _ T _ k _ _ y => ?_⟩
    · have := te_rg T; exfalso; omega
    · have := te_rg T; exfalso; omega
    · have : 4 ≤ d := by
        rcases k with k | k
        · exact (te_k26 T k).1
        · exact (te_k31 T k).1
      exfalso; omega
    · have := te_rg (te_k37 T (.inr k)).2; exfalso; omega
  | succ n G =>
    have z : ((n + 1 : Nat) : Int) = (n : Int) + 1 := by omega
    rw [z]
    exact ⟨fun e d a b a2 b2 w h C T Y gl hb hd B => wo_work hn S G C T Y gl hb hd B, fun e d a b a2 b2 w h x q C T Y gl hb hd hx B => wo_workOne hn S G C T Y gl hb hd hx B, fun e c f d a b a2 b2 w h C T Y hk hb hd hc hf B => wo_workCall hn S G C T Y hk hb hd hc hf B, fun e d a b a2 b2 w h C T Y hk hG hb hd B => wo_workBoth hn S G C T Y hk hG hb hd B⟩
/-- an expression is made -/
theorem wk_work (hn : 1000000 ≤ nn) (S : GZ s) (e d a b a2 b2 w : Int) (C : CW s w h) (T : TE 0 s 0 d a b e) (Y : YT s 0 a2 b2 e) (gl : gv s e) (hb : b ≤ s 160 22) (hd : d + 1 ≤ 1450) (B : BD h (Cm s b - Cm s a) a b d w (h 160 70)) : Ok_ (qf_X13_work nn e h) (QK s h (w + (Cm s b - Cm s a) + 1) (h 160 70 + dv s e) (Cm s b - Cm s a)) := (wg_all hn S 1450).1 e d a b a2 b2 w h C T Y gl hb hd B
end

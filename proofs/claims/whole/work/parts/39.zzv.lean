section
section
variable {nn : Nat} {s h r z : ms_M} {w : Int}
theorem ck_ne (C : CK s h) (V : VS_ z) (M : MF s z) (N : ∀ c k : Nat, ¬ (c = 199 ∨ c = 219 ∨ c = 220 ∨ (c = 160 ∧ (k = 54 ∨ k = 57))) → z c k = h c k) : CK s z := by
  obtain ⟨_, _, P, I, J, H, D⟩ := C
  have e71 := N 160 71 (by decide)
  have e72 := N 160 72 (by decide)
  have e78 := N 160 78 (by decide)
  have e79 := N 160 79 (by decide)
  have e84 := N 160 84 (by decide)
  have e87 := N 160 87 (by decide)
  have e88 := N 160 88 (by decide)
  have e68 := N 160 68 (by decide)
  refine ⟨V, M, fp_eq P (fun k => ⟨N 207 k (by omega), N 197 k (by omega)⟩) (N 160 50 (by decide)) (N 160 70 (by decide)) e71 e72 (N 160 52 (by decide)), fi_eq I (fun c k a b => N c k (by omega)) e71 e72 e78 e79, fun i hi => ?_, fun f hf => ?_, ?_⟩
  · rw [N 218 i (by omega), e88]; exact J i (by omega)
  · rw [N 216 f (by omega)]; exact H f (by omega)
  · unfold DW
    rw [e87, e68, e79, e72, e71, e84]; exact D
theorem cw_ne (C : CW s w h) (V : VS_ z) (M : MF s z) (N : ∀ c k : Nat, ¬ (c = 199 ∨ c = 219 ∨ c = 220 ∨ (c = 160 ∧ (k = 54 ∨ k = 57))) → z c k = h c k) : CW s w z := cw_of C (ck_ne C.1 V M N) (fun c k a b => N c k (by omega)) (N 160 62 (by decide)) (N 160 64 (by decide)) (N 160 66 (by decide))
theorem cw_57 {v : Int} (C : CW s w h) (E : z = up_M h 160 57 v) (hv : 0 ≤ v ∧ v ≤ 9000) : CW s w z ∧ z 160 57 = v ∧ (∀ c k : Nat, ¬ (c = 160 ∧ k = 57) → z c k = h c k) := by
  have N : ∀ c k : Nat, ¬ (c = 160 ∧ k = 57) → z c k = h c k := fun c k w => by rw [E]; exact up_n w
  exact ⟨cw_ne C (by rw [E]; exact wF_160_57 C.1.1 hv) (by rw [E]; exact mf_f C.1.2.1 rfl) (fun c k w => N c k (by omega)), by rw [E]; exact up_s, N⟩
theorem cw_199 {j v : Int} (C : CW s w h) (E : z = up_M h 199 j.toNat v) (hv : 0 ≤ v ∧ v ≤ 8999) : CW s w z ∧ z 199 j.toNat = v ∧ (∀ c k : Nat, ¬ (c = 199 ∧ k = j.toNat) → z c k = h c k) := by
  have N : ∀ c k : Nat, ¬ (c = 199 ∧ k = j.toNat) → z c k = h c k := fun c k w => by rw [E]; exact up_n w
  exact ⟨cw_ne C (by rw [E]; exact wA_199 C.1.1 hv) (by rw [E]; exact mf_a C.1.2.1 rfl) (fun c k w => N c k (by omega)), by rw [E]; exact up_s, N⟩
theorem wk_led (C : CW s w h) {e : Int} (he : 0 ≤ e ∧ e < 9000) : Ok_ (qf_X13_isLedInWords nn e h) (fun u => (u = 0 → ¬ led s e) ∧ (¬ u = 0 → led s e)) := by
  unfold qf_X13_isLedInWords led
  refine ok_rd he (gA_167 C.1.1) ?_; intro v2 e2 _ _
  have t2 : v2 = s 167 e.toNat := by rw [e2]; exact C.1.2.1 167 _ (nw_ar rfl _)
  clear e2
  refine ok_if (fun C1 => ok_ret ⟨fun z => absurd z (by decide), fun _ => by omega⟩) (fun C1 => ?_)
  refine ok_if (fun C1 => ok_ret ⟨fun z => absurd z (by decide), fun _ => by omega⟩) (fun C2 => ?_)
  refine ok_if (fun C1 => ok_ret ⟨fun z => absurd z (by decide), fun _ => by omega⟩) (fun C3 => ?_)
  refine ok_if (fun C1 => ok_ret ⟨fun z => absurd z (by decide), fun _ => by omega⟩) (fun C4 => ?_)
  refine ok_if (fun C5 => ok_ret ⟨fun _ => by omega, fun z => absurd rfl z⟩) (fun C5 => ?_)
  refine ok_rd he (gA_176 C.1.1) ?_; intro v4 e4 _ _
  have t4 : v4 = s 176 e.toNat := by rw [e4]; exact C.1.2.1 176 _ (nw_ar rfl _)
  clear e4
  exact ok_if (fun C6 => ok_ret ⟨fun _ => by omega, fun z => absurd rfl z⟩) (fun C6 => ok_ret ⟨fun z => absurd z (by decide), fun _ => by omega⟩)
theorem led_ch {d a b a2 b2 e : Int} (L : led s e) (T : TE 0 s 0 d a b e) (Y : YT s 0 a2 b2 e) : TE 0 s 0 d a e (s 170 e.toNat) ∧ ¬ s 174 (s 170 e.toNat).toNat = 3 ∧ ∃ a2 b2, YT s 0 a2 b2 (s 170 e.toNat) := by
  have L2 : (s 167 e.toNat = 30 ∨ s 167 e.toNat = 38) ∨ (s 167 e.toNat = 32 ∨ s 167 e.toNat = 37) ∨ (s 167 e.toNat = 31 ∧ s 176 e.toNat = -1) := by unfold led at L; omega
  refine ⟨te_led T (by omega), ?_⟩
  rcases L2 with k | k | k
  · have q := yo_30 Y k
    exact ⟨q.1, _, _, q.2⟩
  · have q := (yo_32 Y k).1
    exact ⟨q.1, _, _, q.2⟩
  · rcases (yo_31 Y k.1).1 with q | q
    · exact absurd k.2 q
    · exact ⟨q.1, _, _, q.2⟩
/-- the row of nodes whose first operand is made first -/
def RW (s : ms_M) (d a b B base e : Int) (h : ms_M) : Prop := ∀ j : Nat, base ≤ (j : Int) → (j : Int) < h 160 57 → ∃ c, TE 0 s 0 d a c (h 199 j) ∧ (∃ a2 b2, YT s 0 a2 b2 (h 199 j)) ∧ (gv s (h 199 j) ∧ led s (h 199 j)) ∧ (c + (j : Int) ≤ B ∧ c ≤ b) ∧ (((j : Int) = base ∧ h 199 j = e ∧ c = b) ∨ (base < (j : Int) ∧ h 199 j = s 170 (h 199 (j - 1)).toNat ∧ c = h 199 (j - 1)))
/-- all of QK but for the row's top -/
def QP (s h : ms_M) (l w p C : Int) (r : ms_M) : Prop := CW s w r ∧ r 160 70 = p ∧ (h 160 68 ≤ r 160 68 ∧ r 160 68 ≤ h 160 68 + 20 * C) ∧ (h 160 78 ≤ r 160 78 ∧ r 160 78 ≤ h 160 78 + 2 * C) ∧ (h 160 88 ≤ r 160 88 ∧ r 160 88 ≤ h 160 88 + 2 * C) ∧ (r 160 50 = h 160 50 ∧ r 160 54 = h 160 54 ∧ r 160 72 = h 160 72 ∧ r 160 84 = h 160 84 ∧ r 160 87 = h 160 87) ∧ (∀ i : Nat, (i : Int) < h 160 87 → r 217 i = h 217 i ∧ r 218 i = h 218 i) ∧ (∀ j : Nat, (j : Int) < l → r 199 j = h 199 j)
theorem wo_w50 (S : GZ s) {g : Int} {rc : tq_X13_work} (G : WG s g rc) {d a b B l e P w0 : Int} (hd : d ≤ g) (hB : B ≤ 9000) (hb : b ≤ s 160 22) (ha : 0 ≤ a) {h0 : ms_M} (bP : 2 * P + d ≤ a + 1500 ∧ 0 ≤ P) (b78 : h0 160 78 + 2 * (Cm s b - Cm s a) ≤ 6190) (b87 : h0 160 87 + d ≤ 2990) (bw : w0 + (Cm s b - Cm s a) ≤ 3000) (b68 : h0 160 68 + 20 * (Cm s b - Cm s a) ≤ 100000) (b88 : h0 160 88 + 2 * (Cm s b - Cm s a) ≤ 1900000000) (hl : 0 ≤ l) : ∀ (k : Nat) (p bp : Int) (h : ms_M), QP s h0 l (w0 + (Cm s bp - Cm s a) + 1) (P + dv s p) (Cm s bp - Cm s a) h → RW s d a b B l e h → LK s e b l h p bp → l ≤ h 160 57 → a ≤ bp → h 160 57 - l < (k : Int) → Ok_ (qw_X13_work_50 nn rc k l h) (fun r => QP s h0 l (w0 + (Cm s b - Cm s a) + 1) (P + dv s e) (Cm s b - Cm s a) r ∧ r 160 57 = l) := by
  intro k
  induction k with
  | zero => intro p bp h Q R L r3 _ hm; exfalso; omega
  | succ k ih =>
    intro p bp h Q R L r3 hbp hm
    have g57 := gF_160_57 Q.1.1.1
    unfold qw_X13_work_50
    refine ok_if (fun C => ?_) (fun C => ?_)
    · rcases L with ⟨L0, L1, L2⟩ | ⟨L0, _⟩
      · rw [L1, L2] at Q
        exact ok_ret ⟨Q, L0⟩
      · exfalso; omega
    · refine ok_sub (by omega) ?_; intro v3 e3
      refine ok_xl ?_; intro h4 E4
      obtain ⟨C4, q57, N4⟩ := cw_57 Q.1 E4 (by omega)
      refine ok_rd (by omega) (gA_199 C4.1.1) ?_; intro v7 e7 _ _
      rw [q57, N4 199 _ (by omega)] at e7
      obtain ⟨c, Tc, ⟨a2, b2, Yc⟩, ⟨gc, lc⟩, ⟨w1, w2⟩, w3⟩ := R v3.toNat (by omega) (by omega)
      rw [← e7] at Tc Yc gc lc
      have o := te_rg Tc
      have Lp : p = s 170 v7.toNat ∧ bp = v7 := by
        rcases L with ⟨L0, _⟩ | ⟨_, L1, L2⟩
        · exfalso; omega
        · rw [show h 160 57 - 1 = v3 by omega, ← e7] at L1 L2
          exact ⟨L1, L2⟩
      obtain ⟨Lp1, Lp2⟩ := Lp
      have D1 : dv s p = 1 := by rw [Lp1]; exact if_neg (led_ch lc Tc Yc).2.1
      obtain ⟨Cq, q70, q68, q78, q88, ⟨q50, q54, q72, q84, q87⟩, qJ, qR⟩ := Q
      rw [D1] at q70
      subst Lp2
      have m1 := cm_mono (s := s) (a := a) (b := bp) (by omega) (by omega)
      have m2 := cm_mono (s := s) (a := bp) (b := c) (by omega) (by omega)
      have m3 := cm_mono (s := s) (a := c) (b := b) (by omega) (by omega)
      have n70 := N4 160 70 (by decide)
      have n68 := N4 160 68 (by decide)
      have n78 := N4 160 78 (by decide)
      have n88 := N4 160 88 (by decide)
      have n50 := N4 160 50 (by decide)
      have n54 := N4 160 54 (by decide)
      have n72 := N4 160 72 (by decide)
      have n84 := N4 160 84 (by decide)
      have n87 := N4 160 87 (by decide)
      have w4 : c + v3 ≤ B := by omega
      clear w1
      refine ok_sv (G.2.1 bp d a c a2 b2 _ h4 bp 1 C4 Tc Yc gc (by omega) hd (.inl ⟨rfl, rfl, lc⟩) ⟨⟨by omega, by omega⟩, by omega, by omega, by omega, by omega, by omega, by omega⟩) ?_; intro u9 K
      obtain ⟨Ck, k70, k68, k78, k88, ⟨k50, k54, k57, k72, k84, k87⟩, kJ, kR⟩ := K
      have rr : ∀ j : Nat, (j : Int) < v3 → u9 199 j = h 199 j := fun j hj => by rw [kR j (by omega), N4 199 j (by omega)]
      have R9 : RW s d a b B l e u9 := fun j x y => by
        obtain ⟨c, T, Y, z0, z1, z2⟩ := R j x (by omega)
        refine ⟨c, by rw [rr j (by omega)]; exact T, by rw [rr j (by omega)]; exact Y, by rw [rr j (by omega)]; exact z0, z1, ?_⟩
        rw [rr j (by omega)]
        rcases z2 with z2 | z2
        · exact .inl z2
        · rw [rr (j - 1) (by omega)]; exact .inr z2
      have L9 : LK s e b l u9 bp c := by
        rcases w3 with ⟨x1, x2, x3⟩ | ⟨x1, x2, x3⟩
        · refine .inl ⟨by omega, by rw [e7]; exact x2, x3⟩
        · refine .inr ⟨by omega, ?_, ?_⟩
          · rw [k57, q57, rr _ (by omega), e7, x2, show v3.toNat - 1 = (v3 - 1).toNat by omega]
          · rw [k57, q57, rr _ (by omega), x3, show v3.toNat - 1 = (v3 - 1).toNat by omega]
      refine ih bp c u9 ⟨cw_le Ck (by omega), by omega, ⟨by omega, by omega⟩, ⟨by omega, by omega⟩, ⟨by omega, by omega⟩, ⟨by omega, by omega, by omega, by omega, by omega⟩, fun i hi => ?_, fun j hj => ?_⟩ R9 L9 (by omega) (by omega) (by omega)
      · rw [(kJ i (by omega)).1, (kJ i (by omega)).2, N4 217 i (by omega), N4 218 i (by omega)]; exact qJ i hi
      · rw [rr j (by omega)]; exact qR j hj
theorem wo_w7 (S : GZ s) {g : Int} {rc : tq_X13_work} (hn : 1000000 ≤ nn) (G : WG s g rc) {d a b B l e P w0 : Int} (hd : d ≤ g) (hB : B ≤ 9000) (hb : b ≤ s 160 22) (ha : 0 ≤ a) {h0 : ms_M} (bP : 2 * P + d ≤ a + 1500 ∧ 0 ≤ P) (b78 : h0 160 78 + 2 * (Cm s b - Cm s a) ≤ 6190) (b87 : h0 160 87 + d ≤ 2990) (bw : w0 + (Cm s b - Cm s a) ≤ 3000) (b68 : h0 160 68 + 20 * (Cm s b - Cm s a) ≤ 100000) (b88 : h0 160 88 + 2 * (Cm s b - Cm s a) ≤ 1900000000) (hl : 0 ≤ l) (hP : h0 160 70 = P) : ∀ (k : Nat) (l3 c a2 b2 : Int) (h : ms_M), CW s w0 h → (∀ c k : Nat, ¬ c = 199 → ¬ (c = 160 ∧ k = 57) → h c k = h0 c k) → (∀ j : Nat, (j : Int) < l → h 199 j = h0 199 j) → RW s d a b B l e h → TE 0 s 0 d a c l3 → YT s 0 a2 b2 l3 → gv s l3 → c ≤ b → c + h 160 57 ≤ B → LK s e b l h l3 c → l ≤ h 160 57 → l3 < (k : Int) → Ok_ (qw_X13_work_7 nn rc k l l3 h) (fun r => QP s h0 l (w0 + (Cm s b - Cm s a) + 1) (P + dv s e) (Cm s b - Cm s a) r ∧ r 160 57 = l) := by
  intro k
  induction k with
  | zero => intro l3 c a2 b2 h Cw A A9 R T Y gl hc w1 L w2 hm; have := te_rg T; exfalso; omega
  | succ k ih =>
    intro l3 c a2 b2 h Cw A A9 R T Y gl hc w1 L w2 hm
    have o := te_rg T
    have g57 := gF_160_57 Cw.1.1
    have g22 := gF_160_22 S.1
    have n70 := A 160 70 (by decide) (by decide)
    have n68 := A 160 68 (by decide) (by decide)
    have n78 := A 160 78 (by decide) (by decide)
    have n88 := A 160 88 (by decide) (by decide)
    have n50 := A 160 50 (by decide) (by decide)
    have n54 := A 160 54 (by decide) (by decide)
    have n72 := A 160 72 (by decide) (by decide)
    have n84 := A 160 84 (by decide) (by decide)
    have n87 := A 160 87 (by decide) (by decide)
    unfold qw_X13_work_7
    refine ok_sv (wk_led Cw (by omega)) ?_; intro u12 P12
    refine ok_if (fun C => ?_) (fun C => ?_)
    · have nl := P12.1 C
      clear P12
      have m1 := cm_mono (s := s) (a := a) (b := c) (by omega) (by omega)
      have m3 := cm_mono (s := s) (a := c) (b := b) (by omega) (by omega)
      refine ok_sv (G.2.1 l3 d a c a2 b2 _ h a 0 Cw T Y gl (by omega) hd (.inr ⟨rfl, rfl, nl⟩) ⟨⟨by omega, by omega⟩, by omega, by omega, by omega, by omega, by omega, by omega⟩) ?_; intro u14 K
      obtain ⟨Ck, k70, k68, k78, k88, ⟨k50, k54, k57, k72, k84, k87⟩, kJ, kR⟩ := K
      have R9 : RW s d a b B l e u14 := fun j x y => by
        obtain ⟨c, T, Y, z0, z1, z2⟩ := R j x (by omega)
        refine ⟨c, by rw [kR j (by omega)]; exact T, by rw [kR j (by omega)]; exact Y, by rw [kR j (by omega)]; exact z0, z1, ?_⟩
        rw [kR j (by omega)]
        rcases z2 with z2 | z2
        · exact .inl z2
        · rw [kR (j - 1) (by omega)]; exact .inr z2
      have L9 : LK s e b l u14 l3 c := by
        rcases L with ⟨x1, x2, x3⟩ | ⟨x1, x2, x3⟩
        · exact .inl ⟨by omega, x2, x3⟩
        · refine .inr ⟨by omega, ?_, ?_⟩
          · rw [k57, kR _ (by omega)]; exact x2
          · rw [k57, kR _ (by omega)]; exact x3
      refine wo_w50 S G hd hB hb ha bP b78 b87 bw b68 b88 hl nn l3 c u14 ⟨cw_le Ck (by omega), by omega, ⟨by omega, by omega⟩, ⟨by omega, by omega⟩, ⟨by omega, by omega⟩, ⟨by omega, by omega, by omega, by omega, by omega⟩, fun i hi => ?_, fun j hj => ?_⟩ R9 L9 (by omega) (by omega) (by omega)
      · rw [(kJ i (by omega)).1, (kJ i (by omega)).2, A 217 i (by omega) (by omega), A 218 i (by omega) (by omega)]; exact ⟨rfl, rfl⟩
      · rw [kR j (by omega)]; exact A9 j hj
    · have ll := P12.2 C
      clear P12
      obtain ⟨T1, V1, a3, b3, Y1⟩ := led_ch ll T Y
      have o1 := te_rg T1
      refine ok_wA (by omega) ?_; intro h17 E17
      obtain ⟨C17, q17, N17⟩ := cw_199 Cw E17 (by omega)
      have p57 := N17 160 57 (by omega)
      refine ok_add (by omega) ?_; intro v19 e19
      refine ok_xl ?_; intro h20 E20
      obtain ⟨C20, q20, N20⟩ := cw_57 C17 E20 (by omega)
      refine ok_rd (by omega) (gA_170 C20.1.1) ?_; intro v22 e22 _ _
      have t22 : v22 = s 170 l3.toNat := by rw [e22]; exact C20.1.2.1 170 _ (nw_ar rfl _)
      clear e22
      rw [← t22] at T1 V1 Y1 o1
      have r20 : ∀ j : Nat, (j : Int) < h 160 57 → h20 199 j = h 199 j := fun j hj => by rw [N20 199 j (by omega), N17 199 j (by omega)]
      have s20 : h20 199 (h 160 57).toNat = l3 := by rw [N20 199 _ (by omega), q17]
      have R20 : RW s d a b B l e h20 := fun j x y => by
        by_cases q : (j : Int) = h 160 57
        · have q2 : j = (h 160 57).toNat := by omega
          rw [q2, s20]
          refine ⟨c, T, ⟨a2, b2, Y⟩, ⟨gl, ll⟩, ⟨by omega, hc⟩, ?_⟩
          rcases L with ⟨x1, x2, x3⟩ | ⟨x1, x2, x3⟩
          · exact .inl ⟨by omega, x2, x3⟩
          · refine .inr ⟨by omega, ?_, ?_⟩
            · rw [r20 _ (by omega), show (h 160 57).toNat - 1 = (h 160 57 - 1).toNat by omega]; exact x2
            · rw [r20 _ (by omega), show (h 160 57).toNat - 1 = (h 160 57 - 1).toNat by omega]; exact x3
        · obtain ⟨c, T, Y, z0, z1, z2⟩ := R j x (by omega)
          refine ⟨c, by rw [r20 j (by omega)]; exact T, by rw [r20 j (by omega)]; exact Y, by rw [r20 j (by omega)]; exact z0, z1, ?_⟩
          rw [r20 j (by omega)]
          rcases z2 with z2 | z2
          · exact .inl z2
          · rw [r20 (j - 1) (by omega)]; exact .inr z2
      have L20 : LK s e b l h20 v22 l3 := .inr ⟨by omega, by rw [q20, show v19 - 1 = h 160 57 by omega, s20]; exact t22, by rw [q20, show v19 - 1 = h 160 57 by omega, s20]⟩
      exact ih v22 l3 a3 b3 h20 C20 (fun c k x y => by rw [N20 c k y, N17 c k (by omega)]; exact A c k x y) (fun j hj => by rw [r20 j (by omega)]; exact A9 j hj) R20 T1 Y1 (.inl V1) (by omega) (by omega) L20 (by omega) (by omega)
theorem wo_work (hn : 1000000 ≤ nn) (S : GZ s) {g : Int} {rc : tq_X13_work} (G : WG s g rc) {e d a b a2 b2 : Int} (C : CW s w h) (T : TE 0 s 0 d a b e) (Y : YT s 0 a2 b2 e) (gl : gv s e) (hb : b ≤ s 160 22) (hd : d + 1 ≤ g + 1) (B : BD h (Cm s b - Cm s a) a b d w (h 160 70)) : Ok_ (qo_X13_work nn rc e h) (QK s h (w + (Cm s b - Cm s a) + 1) (h 160 70 + dv s e) (Cm s b - Cm s a)) := by
  have o := te_rg T
  have g57 := gF_160_57 C.1.1
  have g22 := gF_160_22 S.1
  unfold qo_X13_work
  obtain ⟨bd1, bd2, bd3, bd4, bd5, bd6, bd7⟩ := B
  refine ok_im (wo_w7 (B := h 160 57 + b) S hn G (by omega) bd2 hb (by omega) bd1 bd3 bd4 bd5 bd6 bd7 (by omega) rfl nn e b a2 b2 h C (fun _ _ _ _ => rfl) (fun _ _ => rfl) (fun j x y => by exfalso; omega) T Y gl (by omega) (by omega) (.inl ⟨rfl, rfl, rfl⟩) (by omega) (by omega)) (fun r Q => ?_)
  obtain ⟨⟨Cq, q70, q68, q78, q88, ⟨q50, q54, q72, q84, q87⟩, qJ, qR⟩, q57⟩ := Q
  exact ⟨Cq, q70, q68, q78, q88, ⟨q50, q54, q57, q72, q84, q87⟩, qJ, qR⟩
theorem te_a1 {d a b e : Int} (T : TE 0 s 1 d a b e) (h1 : ¬ e = -1) : (0 ≤ a ∧ a ≤ e ∧ e < b) ∧ TE 0 s 0 d a e (s 170 e.toNat) ∧ TE 0 s 1 d (e + 1) b (s 173 e.toNat) := by
  rcases te_o1 T with x | x
  · exact absurd x h1
  · exact x
theorem yo_a1 {a b e : Int} (T : YT s 1 a b e) (h1 : ¬ e = -1) : ¬ s 174 (s 170 e.toNat).toNat = 3 ∧ YT s 0 a e (s 170 e.toNat) ∧ YT s 1 (e + 1) b (s 173 e.toNat) := by
  rcases yt_o1 T with x | x
  · exact absurd x h1
  · exact ⟨x.2.1.1.2.2, x.2.1.2, x.2.2⟩
theorem wo_c65 (hn : 1000000 ≤ nn) (S : GZ s) {rc : tq_X13_work} {e c n s0 : Int} (C : CW s w h) (hk : s 167 e.toNat = 26 ∨ s 167 e.toNat = 31) (he : 0 ≤ e ∧ e < s 160 22) (hc : -4 ≤ c ∧ c < 8 + s 160 24) (hw : w ≤ 3000) (h68 : h 160 68 ≤ 100000) (hs : 182 ≤ s0 ∧ s0 ≤ 184) (hn1 : 0 ≤ n ∧ n ≤ h 160 70) (h70 : h 160 70 ≤ 2900) : Ok_ (qj_X13_workCall_65 nn rc e c n s0 h) (QG s h (w + 2) (h 160 70 - n + dv s e) 5 0) := by
  have g22 := gF_160_22 S.1
  have g24 := gF_160_24 S.1
  have s24 := S.2.1.2.1
  have g68 := gF_160_68 C.1.1
  obtain ⟨x1, x2, x3, _, _⟩ := S.2.2.2 e.toNat (by omega)
  have x2 := x2 (by omega)
  have x3 := x3 (by omega)
  unfold qj_X13_workCall_65
  refine ok_sv (cw_put hn C (by omega) (by omega)) ?_; intro u2 P2
  obtain ⟨C2, k2, N2⟩ := P2
  refine ok_rd (by omega) (gA_175 C2.1.1) ?_; intro v4 e4 _ _
  have t4 : v4 = s 175 e.toNat := by rw [e4]; exact C2.1.2.1 175 _ (nw_ar rfl _)
  clear e4
  refine ok_sv (cw_member hn S.2.1 S.1 C2 hw hc (by omega)) ?_; intro u6 P6
  obtain ⟨C6, N6, x6⟩ := P6
  have k6 : u6.2 160 68 = u2 160 68 := N6 160 68 (by decide) (by decide)
  refine ok_sv (cw_put hn C6 (by omega) (by omega)) ?_; intro u8 P8
  obtain ⟨C8, k8, N8⟩ := P8
  refine ok_rd (by omega) (gA_174 C8.1.1) ?_; intro v10 e10 _ _
  have t10 : v10 = s 174 e.toNat := by rw [e10]; exact C8.1.2.1 174 _ (nw_ar rfl _)
  clear e10
  have M : ∀ c k : Nat, c ≠ 206 → (c < 200 ∨ 205 < c) → c ≠ 196 → ¬ (c = 160 ∧ (k = 68 ∨ k = 62 ∨ k = 64 ∨ k = 66)) → u8 c k = h c k := fun c k a1 a2 a4 a3 => by rw [N8 c k a1 (by omega), N6 c k (by omega) (by omega), N2 c k a1 (by omega)]
  have e70 := M 160 70 (by decide) (by decide) (by decide) (by decide)
  have e78 := M 160 78 (by decide) (by decide) (by decide) (by decide)
  have e88 := M 160 88 (by decide) (by decide) (by decide) (by decide)
  have e50 := M 160 50 (by decide) (by decide) (by decide) (by decide)
  have e54 := M 160 54 (by decide) (by decide) (by decide) (by decide)
  have e57 := M 160 57 (by decide) (by decide) (by decide) (by decide)
  have e72 := M 160 72 (by decide) (by decide) (by decide) (by decide)
  have e84 := M 160 84 (by decide) (by decide) (by decide) (by decide)
  have e87 := M 160 87 (by decide) (by decide) (by decide) (by decide)
  refine ok_sv (cw_turn C8 (by omega) (by omega) (by omega)) ?_; intro u12 K
  obtain ⟨Ck, k70, k68, k78, k88, ⟨k50, k54, k57, k72, k84, k87⟩, kJ, kR⟩ := K
  have hE : dv s e = tv v10 := by rw [t10]; rfl
  refine ok_ret ⟨Ck, by omega, by omega, by omega, by omega, by omega, fun i hi => ?_, fun j hj => ?_⟩
  · rw [(kJ i (by omega)).1, (kJ i (by omega)).2, M 217 i (by decide) (by omega) (by decide) (by omega), M 218 i (by decide) (by omega) (by decide) (by omega)]; exact ⟨rfl, rfl⟩
  · rw [kR j (by omega), M 199 j (by decide) (by omega) (by decide) (by omega)]
theorem wo_c19 (hn : 1000000 ≤ nn) (S : GZ s) {g : Int} {rc : tq_X13_work} (G : WG s g rc) {e c f d a b w0 : Int} (hk : s 167 e.toNat = 26 ∨ s 167 e.toNat = 31) (hb : b ≤ s 160 22) (hd : d - 1 ≤ g + 1) (hc : -4 ≤ c ∧ c < 8 + s 160 24) (hf : f = 0 ∨ f = 1) (ho : 0 ≤ a ∧ a ≤ e ∧ e < b ∧ 4 ≤ d) {h0 : ms_M} (B : BD h0 (Cm s b - Cm s (e + 1)) a b d w0 (h0 160 70 - (1 - f))) : ∀ (k : Nat) (n lo lo2 b2 l5 : Int) (h : ms_M), QK s h0 (w0 + (Cm s lo - Cm s (e + 1))) (h0 160 70 + n) (Cm s lo - Cm s (e + 1)) h → TE 0 s 1 (d - 3) lo b l5 → YT s 1 lo2 b2 l5 → (0 ≤ n ∧ e + 1 + 2 * n ≤ lo ∧ lo ≤ b) → b - lo < (k : Int) → Ok_ (qw_X13_workCall_19 nn rc k e c f (1 - f + n) l5 h) (QG s h0 (w0 + (Cm s b - Cm s (e + 1)) + 2) (h0 160 70 - (1 - f) + dv s e) (20 * (Cm s b - Cm s (e + 1)) + 5) (2 * (Cm s b - Cm s (e + 1)))) := by
  intro k
  induction k with
  | zero => intro n lo lo2 b2 l5 h Q T Y hl hm; exfalso; omega
  | succ k ih =>
    intro n lo lo2 b2 l5 h Q T Y hl hm
    obtain ⟨⟨bd1, bd0⟩, bd2, bd3, bd4, bd5, bd6, bd7⟩ := B
    have g22 := gF_160_22 S.1
    have s22 := S.2.2.1.2
    have m0 := cm_at (s := s) (e := e) (by omega)
    have wt0 := wt_1 (s 167 e.toNat)
    have m1 := cm_mono (s := s) (a := e + 1) (b := lo) (by omega) (by omega)
    have m2 := cm_mono (s := s) (a := lo) (b := b) (by omega) (by omega)
    have g57 := gF_160_57 Q.1.1.1
    have g70 := gF_160_70 Q.1.1.1
    obtain ⟨Cq, q70, q68, q78, q88, ⟨q50, q54, q57, q72, q84, q87⟩, qJ, qR⟩ := Q
    unfold qw_X13_workCall_19
    refine ok_if (fun C => ?_) (fun C => ?_)
    · have J : ∀ s0, (182 ≤ s0 ∧ s0 ≤ 184) → Ok_ (qj_X13_workCall_65 nn rc e c (1 - f + n) s0 h) (QG s h0 (w0 + (Cm s b - Cm s (e + 1)) + 2) (h0 160 70 - (1 - f) + dv s e) (20 * (Cm s b - Cm s (e + 1)) + 5) (2 * (Cm s b - Cm s (e + 1)))) := fun s0 hs => by
        refine ok_im (wo_c65 hn S Cq hk (by omega) hc (by omega) (by omega) hs (by omega) (by omega)) (fun r K => ?_)
        obtain ⟨Ck, k70, k68, k78, k88, ⟨k50, k54, k57, k72, k84, k87⟩, kJ, kR⟩ := K
        exact ⟨cw_le Ck (by omega), by omega, ⟨by omega, by omega⟩, ⟨by omega, by omega⟩, ⟨by omega, by omega⟩, ⟨by omega, by omega, by omega, by omega, by omega, by omega⟩, fun i hi => by rw [(kJ i (by omega)).1, (kJ i (by omega)).2]; exact qJ i hi, fun j hj => by rw [kR j (by omega)]; exact qR j hj⟩
      exact ok_if (fun _ => J 182 (by decide)) (fun _ => J 184 (by decide))
    · obtain ⟨o1, T1, T2⟩ := te_a1 T C
      obtain ⟨V1, Y1, Y2⟩ := yo_a1 Y C
      refine ok_rd (by omega) (gA_170 Cq.1.1) ?_; intro v15 e15 _ _
      have t15 : v15 = s 170 l5.toNat := by rw [e15]; exact Cq.1.2.1 170 _ (nw_ar rfl _)
      clear e15
      rw [← t15] at T1 V1 Y1
      have o2 := te_rg T1
      have m3 := cm_mono (s := s) (a := lo) (b := l5) (by omega) (by omega)
      have m4 := cm_mono (s := s) (a := l5) (b := l5 + 1) (by omega) (by omega)
      have m5 := cm_mono (s := s) (a := l5 + 1) (b := b) (by omega) (by omega)
      have D : dv s v15 = 1 := if_neg V1
      refine ok_sv (G.1 v15 _ _ _ _ _ _ h Cq T1 Y1 (.inl V1) (by omega) (by omega) ⟨⟨by omega, by omega⟩, by omega, by omega, by omega, by omega, by omega, by omega⟩) ?_; intro u17 K
      rw [D] at K
      obtain ⟨Ck, k70, k68, k78, k88, ⟨k50, k54, k57, k72, k84, k87⟩, kJ, kR⟩ := K
      refine ok_add (by omega) ?_; intro v18 e18
      refine ok_rd (by omega) (gA_173 Ck.1.1) ?_; intro v20 e20 _ _
      have t20 : v20 = s 173 l5.toNat := by rw [e20]; exact Ck.1.2.1 173 _ (nw_ar rfl _)
      clear e20
      rw [← t20] at T2 Y2
      rw [show v18 = 1 - f + (n + 1) by omega]
      exact ih (n + 1) (l5 + 1) _ _ v20 u17 ⟨cw_le Ck (by omega), by omega, ⟨by omega, by omega⟩, ⟨by omega, by omega⟩, ⟨by omega, by omega⟩, ⟨by omega, by omega, by omega, by omega, by omega, by omega⟩, fun i hi => by rw [(kJ i (by omega)).1, (kJ i (by omega)).2]; exact qJ i hi, fun j hj => by rw [kR j (by omega)]; exact qR j hj⟩ T2 Y2 (by omega) (by omega)
theorem wo_workCall (hn : 1000000 ≤ nn) (S : GZ s) {g : Int} {rc : tq_X13_work} (G : WG s g rc) {e c f d a b a2 b2 : Int} (C : CW s w h) (T : TE 0 s 0 d a b e) (Y : YT s 0 a2 b2 e) (hk : s 167 e.toNat = 26 ∨ s 167 e.toNat = 31) (hb : b ≤ s 160 22) (hd : d - 1 ≤ g + 1) (hc : -4 ≤ c ∧ c < 8 + s 160 24) (hf : f = 0 ∨ f = 1) (B : BD h (Cm s b - Cm s (e + 1)) a b d w (h 160 70 - (1 - f))) : Ok_ (qo_X13_workCall nn rc e c f h) (QG s h (w + (Cm s b - Cm s (e + 1)) + 2) (h 160 70 - (1 - f) + dv s e) (20 * (Cm s b - Cm s (e + 1)) + 5) (2 * (Cm s b - Cm s (e + 1)))) := by
  have o := te_rg T
  have g22 := gF_160_22 S.1
  have K : 4 ≤ d ∧ TE 0 s 1 (d - 3) (e + 1) b (s 171 e.toNat) ∧ YT s 1 (e + 1) b2 (s 171 e.toNat) := by
    rcases hk with k | k
    · have q := te_k26 T k
      exact ⟨q.1, te_wd q.2 (by omega) (by omega) (by omega) (by omega), yo_26 Y k⟩
    · have q := te_k31 T k
      exact ⟨q.1, te_wd q.2.2.2 (by omega) (by omega) (by omega) (by omega), (yo_31 Y k).2⟩
  obtain ⟨d4, T1, Y1⟩ := K
  have J : ∀ n, n = 1 - f → Ok_ (qj_X13_workCall_9 nn rc e c f n h) (QG s h (w + (Cm s b - Cm s (e + 1)) + 2) (h 160 70 - (1 - f) + dv s e) (20 * (Cm s b - Cm s (e + 1)) + 5) (2 * (Cm s b - Cm s (e + 1)))) := fun n en => by
    unfold qj_X13_workCall_9
    refine ok_rd (by omega) (gA_171 C.1.1) ?_; intro v23 e23 _ _
    have t23 : v23 = s 171 e.toNat := by rw [e23]; exact C.1.2.1 171 _ (nw_ar rfl _)
    clear e23
    rw [← t23] at T1 Y1
    rw [show n = 1 - f + 0 by omega]
    exact wo_c19 hn S G hk hb hd hc hf ⟨by omega, by omega, by omega, d4⟩ B nn 0 (e + 1) _ _ v23 h ⟨cw_le C (by omega), by omega, ⟨by omega, by omega⟩, ⟨by omega, by omega⟩, ⟨by omega, by omega⟩, ⟨rfl, rfl, rfl, rfl, rfl, rfl⟩, fun _ _ => ⟨rfl, rfl⟩, fun _ _ => rfl⟩ T1 Y1 (by omega) (by omega)
  unfold qo_X13_workCall
  exact ok_if (fun z => J 1 (by omega)) (fun z => J 0 (by omega))
theorem wg_all (hn : 1000000 ≤ nn) (S : GZ s) : ∀ n : Nat, WG s (n : Int) (qg_X13_work nn n) := by
  intro n
  induction n with
  | zero =>
    refine ⟨fun e d a b a2 b2 w h _ T _ _ _ x => ?_, fun e d a b a2 b2 w h x q _ T _ _ _ y => ?_, fun e c f d a b a2 b2 w h _ T _ k _ y => ?_, fun e d a b a2 b2 w h _ T _ k _ _ y => ?_⟩
    · have := te_rg T; exfalso; omega
    · have := te_rg T; exfalso; omega
    · have : 4 ≤ d := by
        rcases k with k | k
        · exact (te_k26 T k).1
        · exact (te_k31 T k).1
      exfalso; omega
    · have := te_rg (te_k37 T (.inr k)).2; exfalso; omega
  | succ n G =>
    have z : ((n + 1 : Nat) : Int) = (n : Int) + 1 := by omega
    rw [z]
    exact ⟨fun e d a b a2 b2 w h C T Y gl hb hd B => wo_work hn S G C T Y gl hb hd B, fun e d a b a2 b2 w h x q C T Y gl hb hd hx B => wo_workOne hn S G C T Y gl hb hd hx B, fun e c f d a b a2 b2 w h C T Y hk hb hd hc hf B => wo_workCall hn S G C T Y hk hb hd hc hf B, fun e d a b a2 b2 w h C T Y hk hG hb hd B => wo_workBoth hn S G C T Y hk hG hb hd B⟩
/-- an expression is made -/
theorem wk_work (hn : 1000000 ≤ nn) (S : GZ s) (e d a b a2 b2 w : Int) (C : CW s w h) (T : TE 0 s 0 d a b e) (Y : YT s 0 a2 b2 e) (gl : gv s e) (hb : b ≤ s 160 22) (hd : d + 1 ≤ 1450) (B : BD h (Cm s b - Cm s a) a b d w (h 160 70)) : Ok_ (qf_X13_work nn e h) (QK s h (w + (Cm s b - Cm s a) + 1) (h 160 70 + dv s e) (Cm s b - Cm s a)) := (wg_all hn S 1450).1 e d a b a2 b2 w h C T Y gl hb hd B
end
end
section
section
variable {nn : Nat} {s h h0 r z : ms_M} {w a f l n p q j m : Int}
/-- a jump to the label is open -/
def HJ (h : ms_M) (l : Int) : Prop := ∃ i : Nat, (i : Int) < h 160 87 ∧ h 218 i = l
def Mo (h r : ms_M) : Prop := (∀ l, HJ h l → HJ r l) ∧ h 160 88 ≤ r 160 88
theorem mo_eq (e87 : h 160 87 ≤ r 160 87) (e88 : h 160 88 ≤ r 160 88) (A : ∀ i : Nat, (i : Int) < h 160 87 → r 218 i = h 218 i) : Mo h r := ⟨fun l x => by
  obtain ⟨i, hi, x⟩ := x
  exact ⟨i, by omega, by rw [A i hi]; exact x⟩, e88⟩
theorem mo_tr (x : Mo h r) (y : Mo r z) : Mo h z := ⟨fun l g => y.1 l (x.1 l g), Int.le_trans x.2 y.2⟩
theorem pc_st8 {l1 l2 l' : Int} (hl : ¬ l' = l1) : ∀ (k : Nat) (l3 l4 l5 : Int) (h : ms_M), (0 ≤ l4 ∧ l4 ≤ l5 ∧ l5 ≤ h 160 87) → Pc (qw_X13_stands_8 nn k l1 l2 l3 l4 l5 h) (fun r => r 160 87 ≤ l4 + (h 160 87 - l5) ∧ ((∃ i : Nat, l5 ≤ (i : Int) ∧ (i : Int) < h 160 87 ∧ h 218 i = l1) → r 160 87 + 1 ≤ l4 + (h 160 87 - l5)) ∧ ((∃ i : Nat, ((i : Int) < l4 ∨ l5 ≤ (i : Int)) ∧ (i : Int) < h 160 87 ∧ h 218 i = l') → HJ r l')) := by
  intro k
  induction k with
  | zero => intro l3 l4 l5 h _; exact pc_none
  | succ k ih =>
    intro l3 l4 l5 h o
    unfold qw_X13_stands_8
    refine pc_if (fun C => ?_) (fun C => ?_)
    · refine pc_xl ?_; intro h2 E2
      have q87 : h2 160 87 = l4 := by rw [E2]; exact up_s
      have q218 : ∀ i : Nat, h2 218 i = h 218 i := fun i => by rw [E2]; exact up_n (by omega)
      have K : ∀ r : ms_M, r 160 87 = h2 160 87 → (∀ i : Nat, r 218 i = h2 218 i) → (r 160 87 ≤ l4 + (h 160 87 - l5) ∧ ((∃ i : Nat, l5 ≤ (i : Int) ∧ (i : Int) < h 160 87 ∧ h 218 i = l1) → r 160 87 + 1 ≤ l4 + (h 160 87 - l5)) ∧ ((∃ i : Nat, ((i : Int) < l4 ∨ l5 ≤ (i : Int)) ∧ (i : Int) < h 160 87 ∧ h 218 i = l') → HJ r l')) := fun r e1 e2 => by
        refine ⟨by omega, fun x => ?_, fun x => ?_⟩
        · obtain ⟨i, i1, i2, _⟩ := x
          exfalso; omega
        · obtain ⟨i, i1, i2, i3⟩ := x
          exact ⟨i, by omega, by rw [e2, q218]; exact i3⟩
      refine pc_if (fun C2 => ?_) (fun C2 => ?_)
      · unfold qj_X13_stands_154
        exact pc_ret (K h2 rfl (fun _ => rfl))
      · refine pc_se ?_; intro u eu
        unfold qj_X13_stands_154
        exact pc_ret (K u ((ff_X13_frame nn) _ eu 160 87 rfl) (fun i => (ff_X13_frame nn) _ eu 218 i (nw_ar rfl i)))
    · refine pc_rA ?_; intro p1 p2 v7 e7
      refine pc_if (fun C2 => ?_) (fun C2 => ?_)
      · refine pc_rA ?_; intro _ _ v10 e10
        refine pc_wA ?_; intro _ _ h11 E11
        refine pc_rA ?_; intro _ _ v14 e14
        refine pc_wA ?_; intro _ _ h15 E15
        have e14b : v14 = h 218 l5.toNat := by rw [e14, E11, up_n (by omega)]
        have q87 : h15 160 87 = h 160 87 := by rw [E15, up_n (by omega), E11, up_n (by omega)]
        have q8 : ∀ i : Nat, i ≠ l4.toNat → h15 218 i = h 218 i := fun i hi => by rw [E15, up_n (by omega), E11, up_n (by omega)]
        have q9 : h15 218 l4.toNat = h 218 l5.toNat := by rw [E15, up_s, e14b]
        refine pc_add (by omega) ?_; intro v16 e16
        refine pc_add (by omega) ?_; intro v17 e17
        refine pc_imp (ih l3 v16 v17 h15 (by omega)) (fun r R => ?_)
        obtain ⟨R1, R2, R3⟩ := R
        refine ⟨by omega, fun x => ?_, fun x => R3 ?_⟩
        · obtain ⟨i, i1, i2, i3⟩ := x
          have ne : ¬ (i : Int) = l5 := fun y => C2 (by rw [e7, show l5.toNat = i by omega]; exact i3)
          have := R2 ⟨i, by omega, by omega, by rw [q8 i (by omega)]; exact i3⟩
          omega
        · obtain ⟨i, i1, i2, i3⟩ := x
          by_cases y : (i : Int) = l5
          · exact ⟨l4.toNat, .inl (by omega), by omega, by rw [q9, show l5.toNat = i by omega]; exact i3⟩
          · exact ⟨i, by omega, by omega, by rw [q8 i (by omega)]; exact i3⟩
      · have C2 : v7 = l1 := Decidable.not_not.1 C2
        have K : ∀ (g : ms_M) (v : Int), g 160 87 = h 160 87 → (∀ i : Nat, g 218 i = h 218 i) → v = l5 + 1 → Pc (qw_X13_stands_8 nn k l1 l2 1 l4 v g) (fun r => r 160 87 ≤ l4 + (h 160 87 - l5) ∧ ((∃ i : Nat, l5 ≤ (i : Int) ∧ (i : Int) < h 160 87 ∧ h 218 i = l1) → r 160 87 + 1 ≤ l4 + (h 160 87 - l5)) ∧ ((∃ i : Nat, ((i : Int) < l4 ∨ l5 ≤ (i : Int)) ∧ (i : Int) < h 160 87 ∧ h 218 i = l') → HJ r l')) := fun g v g1 g2 ev => by
          refine pc_imp (ih 1 l4 v g (by omega)) (fun r R => ?_)
          obtain ⟨R1, R2, R3⟩ := R
          refine ⟨by omega, fun x => by omega, fun x => R3 ?_⟩
          obtain ⟨i, i1, i2, i3⟩ := x
          have ne : ¬ (i : Int) = l5 := fun y => hl (by rw [← i3, ← C2, e7, show l5.toNat = i by omega])
          exact ⟨i, by omega, by omega, by rw [g2]; exact i3⟩
        refine pc_rA ?_; intro _ _ v19 e19
        refine pc_xl ?_; intro v20 _
        refine pc_rA ?_; intro _ _ v22 e22
        refine pc_xl ?_; intro v23 _
        refine pc_if (fun C3 => ?_) (fun C3 => ?_)
        · refine pc_add (by omega) ?_; intro v24 e24
          exact K h v24 rfl (fun _ => rfl) e24
        · refine pc_rA ?_; intro _ _ v27 e27
          refine pc_xl ?_; intro v28 _
          refine pc_xl ?_; intro v29 _
          refine pc_xl ?_; intro v30 _
          refine pc_wA ?_; intro _ _ h31 E31
          refine pc_rA ?_; intro _ _ v34 e34
          refine pc_xl ?_; intro v35 _
          refine pc_xl ?_; intro v36 _
          refine pc_wA ?_; intro _ _ h37 E37
          refine pc_add (by omega) ?_; intro v38 e38
          exact K h37 v38 (by rw [E37, up_n (by omega), E31, up_n (by omega)]) (fun i => by rw [E37, up_n (by omega), E31, up_n (by omega)]) e38
/-- the loops' labels are old ones -/
def LB (h : ms_M) : Prop := ∀ i : Nat, i < 3000 → h 219 i ≤ h 160 88 ∧ h 220 i ≤ h 160 88
theorem lb_eq (L : LB h) (e : h 160 88 ≤ r 160 88) (A : ∀ i : Nat, r 219 i = h 219 i ∧ r 220 i = h 220 i) : LB r := fun i hi => by
  have := L i hi
  rw [(A i).1, (A i).2]; omega
/-- where making stands: behind h0, w half words, a bytes, f frames, l labels, n in sight, p on the pile, m loops, q quarter handlers, j half jumps more -/
def ST (s h0 : ms_M) (w a f l n p m q j : Int) (r : ms_M) : Prop := (CW s w r ∧ LB r) ∧ (r 160 50 = n ∧ r 160 70 = p ∧ r 160 54 = m ∧ r 160 57 = h0 160 57) ∧ (h0 160 68 ≤ r 160 68 ∧ r 160 68 ≤ h0 160 68 + a) ∧ (h0 160 78 ≤ r 160 78 ∧ r 160 78 ≤ h0 160 78 + f) ∧ (h0 160 88 ≤ r 160 88 ∧ r 160 88 ≤ h0 160 88 + l) ∧ (h0 160 84 ≤ r 160 84 ∧ 4 * r 160 84 ≤ 4 * h0 160 84 + q) ∧ (h0 160 87 ≤ r 160 87 ∧ 2 * r 160 87 ≤ 2 * h0 160 87 + j) ∧ (∀ i : Nat, (i : Int) < h0 160 87 → r 217 i = h0 217 i ∧ r 218 i = h0 218 i)
theorem st_0 (C : CW s w h) (L : LB h) : ST s h w 0 0 0 (h 160 50) (h 160 70) (h 160 54) 0 0 h := ⟨⟨C, L⟩, ⟨rfl, rfl, rfl, rfl⟩, by omega, by omega, by omega, by omega, by omega, fun _ _ => ⟨rfl, rfl⟩⟩
theorem st_le {w2 a2 f2 l2 q2 j2 : Int} (T : ST s h0 w a f l n p m q j h) (hw : w ≤ w2) (ha : a ≤ a2) (hf : f ≤ f2) (hl : l ≤ l2) (hq : q ≤ q2) (hj : j ≤ j2) : ST s h0 w2 a2 f2 l2 n p m q2 j2 h := by
  obtain ⟨⟨t1, t2⟩, t3, t4, t5, t6, t7, t8, t9⟩ := T
  exact ⟨⟨cw_le t1 hw, t2⟩, t3, by omega, by omega, by omega, by omega, by omega, t9⟩
/-- a step that leaves most as it was -/
theorem st_of {w2 a2 p2 n2 : Int} (T : ST s h0 w a f l n p m q j h) (C : CW s w2 r) (e88 : r 160 88 = h 160 88) (A : ∀ c k : Nat, (c = 217 ∨ c = 218 ∨ c = 219 ∨ c = 220 ∨ (c = 160 ∧ (k = 54 ∨ k = 57 ∨ k = 78 ∨ k = 84 ∨ k = 87))) → r c k = h c k) (e50 : r 160 50 = n2) (e70 : r 160 70 = p2) (e68 : h 160 68 ≤ r 160 68 ∧ r 160 68 ≤ h 160 68 + (a2 - a)) : ST s h0 w2 a2 f l n2 p2 m q j r ∧ Mo h r := by
  obtain ⟨⟨t1, t2⟩, ⟨t3, t3b, t3c, t3d⟩, t4, t5, t6, t7, t8, t9⟩ := T
  have e54 := A 160 54 (by decide)
  have e57 := A 160 57 (by decide)
  have e78 := A 160 78 (by decide)
  have e84 := A 160 84 (by decide)
  have e87 := A 160 87 (by decide)
  refine ⟨⟨⟨C, lb_eq t2 (by omega) (fun i => ⟨A 219 i (by omega), A 220 i (by omega)⟩)⟩, ⟨e50, e70, by omega, by omega⟩, by omega, by omega, by omega, by omega, by omega, fun i hi => ?_⟩, mo_eq (by omega) (by omega) (fun i _ => A 218 i (by omega))⟩
  rw [A 217 i (by omega), A 218 i (by omega)]; exact t9 i hi
theorem st_put (hn : 1000000 ≤ nn) {x : Int} (T : ST s h0 w a f l n p m q j h) (ra : -2147483645 ≤ x ∧ x ≤ 3001) (h68 : h0 160 68 + a ≤ 900000) : Ok_ (qf_X13_put nn x h) (fun r => ST s h0 w (a + 1) f l n p m q j r ∧ Mo h r) := by
  have t := T
  obtain ⟨⟨t1, t2⟩, ⟨t3, t3b, t3c, t3d⟩, t4, t5, t6, t7, t8, t9⟩ := t
  refine ok_im (cw_put hn t1 ra (by omega)) (fun r P => ?_)
  obtain ⟨C, k, N⟩ := P
  exact st_of T C (N 160 88 (by decide) (by decide)) (fun c k x => N c k (by omega) (by omega)) (by rw [N 160 50 (by decide) (by decide)]; exact t3) (by rw [N 160 70 (by decide) (by decide)]; exact t3b) (by omega)
theorem st_pop {v : Int} (T : ST s h0 w a f l n p m q j h) (E : z = up_M h 160 70 v) (hv : 0 ≤ v ∧ v ≤ p) : ST s h0 w a f l n v m q j z ∧ Mo h z := by
  have t := T
  obtain ⟨⟨t1, t2⟩, ⟨t3, t3b, t3c, t3d⟩, t4, t5, t6, t7, t8, t9⟩ := t
  obtain ⟨C, k, N⟩ := cw_pop t1 E (by omega)
  exact st_of T C (N 160 88 (by decide)) (fun c k x => N c k (by omega)) (by rw [N 160 50 (by decide)]; exact t3) k (by rw [N 160 68 (by decide)]; omega)
theorem st_label (T : ST s h0 w a f l n p m q j h) (h88 : h0 160 88 + l ≤ 1900000000) : Ok_ (qf_X13_label nn h) (fun u => ST s h0 w a f (l + 1) n p m q j u.2 ∧ Mo h u.2 ∧ (h0 160 88 < u.1 ∧ h 160 88 < u.1 ∧ u.1 = u.2 160 88) ∧ u.2 160 68 = h 160 68) := by
  obtain ⟨⟨t1, t2⟩, ⟨t3, t3b, t3c, t3d⟩, t4, t5, t6, t7, t8, t9⟩ := T
  refine ok_im (cw_label t1 (by omega)) (fun u P => ?_)
  obtain ⟨C, e, k, N⟩ := P
  have e54 := N 160 54 (by decide)
  have e57 := N 160 57 (by decide)
  have e78 := N 160 78 (by decide)
  have e84 := N 160 84 (by decide)
  have e87 := N 160 87 (by decide)
  have e68 := N 160 68 (by decide)
  have e50 := N 160 50 (by decide)
  have e70 := N 160 70 (by decide)
  refine ⟨⟨⟨C, lb_eq t2 (by omega) (fun i => ⟨N 219 i (by omega), N 220 i (by omega)⟩)⟩, ⟨by omega, by omega, by omega, by omega⟩, by omega, by omega, by omega, by omega, by omega, fun i hi => ?_⟩, mo_eq (by omega) (by omega) (fun i _ => N 218 i (by omega)), ⟨by omega, by omega, by omega⟩, e68⟩
  rw [N 217 i (by omega), N 218 i (by omega)]; exact t9 i hi
theorem st_jump (hn : 1000000 ≤ nn) {x y : Int} (T : ST s h0 w a f l n p m q j h) (r1 : 153 ≤ x ∧ x ≤ 167) (r2 : 0 ≤ y ∧ y ≤ h 160 88) (h68 : h0 160 68 + a ≤ 900000) (h87 : 2 * h0 160 87 + j ≤ 5998) : Ok_ (qf_X13_jump nn x y h) (fun r => ST s h0 w (a + 3) f l n p m q (j + 2) r ∧ Mo h r ∧ HJ r y) := by
  obtain ⟨⟨t1, t2⟩, ⟨t3, t3b, t3c, t3d⟩, t4, t5, t6, t7, t8, t9⟩ := T
  have g87 := gF_160_87 t1.1.1
  refine ok_im (cw_jump hn t1 r1 r2 (by omega) (by omega)) (fun r P => ?_)
  obtain ⟨C, k68, k87, k, A, N⟩ := P
  have e54 := N 160 54 rfl
  have e57 := N 160 57 rfl
  have e78 := N 160 78 rfl
  have e84 := N 160 84 rfl
  have e88 := N 160 88 rfl
  have e50 := N 160 50 rfl
  have e70 := N 160 70 rfl
  refine ⟨⟨⟨C, lb_eq t2 (by omega) (fun i => ⟨N 219 i (nw_ar rfl i), N 220 i (nw_ar rfl i)⟩)⟩, ⟨by omega, by omega, by omega, by omega⟩, by omega, by omega, by omega, by omega, by omega, fun i hi => ?_⟩, mo_eq (by omega) (by omega) (fun i hi => (A i hi).2), ⟨(h 160 87).toNat, by omega, k⟩⟩
  rw [(A i (by omega)).1, (A i (by omega)).2]; exact t9 i hi
theorem st_stands (hn : 1000000 ≤ nn) {x y v : Int} (T : ST s h0 w a f l n p m q j h) (r1 : 0 ≤ y ∧ y ≤ 900000) (hx : h0 160 88 < x) (gg : 0 ≤ h0 160 87) (J0 : ∀ i : Nat, (i : Int) < h0 160 87 → h0 218 i ≤ h0 160 88) (h78 : h0 160 78 + f ≤ 6199) (hv : v = 0 ∨ (v = 2 ∧ HJ h x)) : Ok_ (qf_X13_stands nn x y h) (fun r => ST s h0 w a (f + 1) l n p m q (j - v) r ∧ (∀ l', ¬ l' = x → HJ h l' → HJ r l') ∧ r 160 88 = h 160 88) := by
  obtain ⟨⟨t1, t2⟩, ⟨t3, t3b, t3c, t3d⟩, t4, t5, t6, t7, t8, t9⟩ := T
  have g87 := gF_160_87 t1.1.1
  have hN : ∀ i : Nat, (i : Int) < h0 160 87 → ¬ h 218 i = x := fun i hi => by
    rw [(t9 i hi).2]
    have := J0 i hi
    omega
  have A0 := fun l' (hl : ¬ l' = x) => pc_st8 (nn := nn) (l1 := x) (l2 := y) hl nn 0 0 0 h (by omega)
  obtain ⟨r, er, C, k87, k78, A, B, N⟩ := cw_stands (l := x) (a := y) hn t1 (by omega) hN ⟨gg, t8.1⟩ (by omega)
  have e54 := N 160 54 rfl
  have e57 := N 160 57 rfl
  have e84 := N 160 84 rfl
  have e88 := N 160 88 rfl
  have e68 := N 160 68 rfl
  have e50 := N 160 50 rfl
  have e70 := N 160 70 rfl
  have k87b : 2 * r 160 87 ≤ 2 * h 160 87 - v := by
    rcases hv with hv | ⟨hv, i, i1, i2⟩
    · omega
    · have := (A0 (x + 1) (by omega) r er).2.1 ⟨i, by omega, i1, i2⟩
      omega
  refine ⟨r, er, ⟨⟨C, lb_eq t2 (by omega) (fun i => ⟨N 219 i (nw_ar rfl i), N 220 i (nw_ar rfl i)⟩)⟩, ⟨by omega, by omega, by omega, by omega⟩, by omega, by omega, by omega, by omega, by omega, fun i hi => ?_⟩, fun l' hl g => ?_, e88⟩
  · rw [(A i hi).1, (A i hi).2]; exact t9 i hi
  · obtain ⟨i, i1, i2⟩ := g
    exact (A0 l' hl r er).2.2 ⟨i, .inr (by omega), i1, i2⟩
end
end
section
section
variable {nn : Nat} {s h h0 r z : ms_M} {w a f l n p q j m : Int}
theorem cw_comes {x y : Int} (C : CW s w h) (r1 : 0 ≤ x ∧ x ≤ 3000) (r2 : 0 ≤ y ∧ y < 24 + 2 * s 160 24) (h50 : h 160 50 ≤ 2998) : Ok_ (qf_X13_comes nn x y h) (fun r => CW s w r ∧ r 160 50 = h 160 50 + 1 ∧ (∀ c k : Nat, c ≠ 196 → c ≠ 197 → ¬ (c = 160 ∧ (k = 50 ∨ k = 72)) → r c k = h c k)) := by
  have C0 := C
  obtain ⟨⟨V, B, P, I, J, H, D1, D2⟩, _⟩ := C
  have g50 := gF_160_50 V
  have g71 := gF_160_71 V
  have g72 := gF_160_72 V
  have g84 := gF_160_84 V
  have pK := P.2.2.2
  unfold qf_X13_comes
  have K : Ok_ (qf_X13_come nn x y h) (fun u => (VS_ u ∧ MF s u) ∧ u 160 50 = h 160 50 + 1 ∧ u 197 (h 160 50).toNat = y ∧ (∀ k : Nat, k ≠ (h 160 50).toNat → u 197 k = h 197 k) ∧ (∀ c k : Nat, c ≠ 196 → c ≠ 197 → ¬ (c = 160 ∧ k = 50) → u c k = h c k)) := by
    unfold qf_X13_come
    refine ok_wA (by omega) ?_; intro h3 E3
    have V3 : VS_ h3 := by rw [E3]; exact wA_196 V (by omega)
    have q3 : h3 160 50 = h 160 50 := by rw [E3]; exact up_n (by omega)
    refine ok_wA (by omega) ?_; intro h6 E6
    rw [q3] at E6
    have V6 : VS_ h6 := by rw [E6]; exact wA_197 V3 (by omega)
    have q6 : h6 160 50 = h 160 50 := by rw [E6, up_n (by omega)]; exact q3
    refine ok_add (by omega) ?_; intro v8 e8
    refine ok_xl ?_; intro h9 E9
    have V9 : VS_ h9 := by rw [E9]; exact wF_160_50 V6 (by omega)
    refine ok_ret ⟨⟨V9, by rw [E9]; exact mf_f (by rw [E6]; exact mf_a (by rw [E3]; exact mf_a B rfl) rfl) rfl⟩, by rw [E9, up_s]; omega, by rw [E9, up_n (by omega), E6, up_s], fun k hk => by rw [E9, up_n (by omega), E6, up_n (by omega), E3, up_n (by omega)], fun c k n1 n2 n3 => by rw [E9, up_n n3, E6, up_n (by omega), E3, up_n (by omega)]⟩
  refine ok_sv K ?_; intro u K2
  obtain ⟨⟨Vu, Bu⟩, u50, u97, u97n, N⟩ := K2
  have u72 := N 160 72 (by decide) (by decide) (by decide)
  refine ok_ite ?_; intro v5 e5
  refine ok_xl ?_; intro h6 E6
  have V6 : VS_ h6 := by rw [E6]; exact wF_160_72 Vu (by omega)
  have M : ∀ c k : Nat, c ≠ 196 → c ≠ 197 → ¬ (c = 160 ∧ (k = 50 ∨ k = 72)) → h6 c k = h c k := fun c k n1 n2 n3 => by rw [E6, up_n (by omega), N c k n1 n2 (by omega)]
  have p50 : h6 160 50 = h 160 50 + 1 := by rw [E6, up_n (by decide)]; exact u50
  have p72 : h6 160 72 = v5 := by rw [E6]; exact up_s
  have p97 : ∀ k : Nat, h6 197 k = u 197 k := fun k => by rw [E6]; exact up_n (by omega)
  have e70 := M 160 70 (by decide) (by decide) (by decide)
  have e71 := M 160 71 (by decide) (by decide) (by decide)
  have e78 := M 160 78 (by decide) (by decide) (by decide)
  have e79 := M 160 79 (by decide) (by decide) (by decide)
  have e84 := M 160 84 (by decide) (by decide) (by decide)
  have e87 := M 160 87 (by decide) (by decide) (by decide)
  have e88 := M 160 88 (by decide) (by decide) (by decide)
  have e68 := M 160 68 (by decide) (by decide) (by decide)
  have e52 := M 160 52 (by decide) (by decide) (by decide)
  have P3 := P.2.2.1
  have Ck : CK s h6 := by
    refine ⟨V6, by rw [E6]; exact mf_f Bu rfl, ⟨fun x hx => ?_, fun x hx => ?_, by omega, by have := P.2.2.2; omega⟩, ⟨fun x hx => ?_, fun f hf => ?_, fun f g hf hg e => ?_⟩, fun i hi => ?_, fun f hf => ?_, by omega, ?_⟩
    · rw [M 207 x (by decide) (by decide) (by omega)]; exact P.1 x (by omega)
    · rw [p97]
      by_cases w : x = (h 160 50).toNat
      · rw [w, u97]; exact r2
      · rw [u97n x w]; exact P.2.1 x (by omega)
    · rw [M 212 x (by decide) (by decide) (by omega)]; exact I.1 x (by omega)
    · rw [M 209 f (by decide) (by decide) (by omega), M 210 f (by decide) (by decide) (by omega), M 211 f (by decide) (by decide) (by omega)]
      have := I.2.1 f (by omega)
      omega
    · rw [M 208 f (by decide) (by decide) (by omega), M 208 g (by decide) (by decide) (by omega)] at e
      exact I.2.2 f g (by omega) (by omega) e
    · rw [M 218 i (by decide) (by decide) (by omega), e88]; exact J i (by omega)
    · rw [M 216 f (by decide) (by decide) (by omega)]; exact H f (by omega)
    · rw [e79, p72, e71, e87, e84, e68]
      exact dw_X (by omega) (by omega) (by omega) D1 D2
  exact ok_ret ⟨cw_of C0 Ck (fun c k a b => M c k (by omega) (by omega) (by omega)) (M 160 62 (by decide) (by decide) (by decide)) (M 160 64 (by decide) (by decide) (by decide)) (M 160 66 (by decide) (by decide) (by decide)), p50, M⟩
theorem st_comes {x y : Int} (T : ST s h0 w a f l n p m q j h) (r1 : 0 ≤ x ∧ x ≤ 3000) (r2 : 0 ≤ y ∧ y < 24 + 2 * s 160 24) (h50 : n ≤ 2998) : Ok_ (qf_X13_comes nn x y h) (fun r => ST s h0 w a f l (n + 1) p m q j r ∧ Mo h r) := by
  have t := T
  obtain ⟨⟨t1, t2⟩, ⟨t3, t3b, t3c, t3d⟩, t4, t5, t6, t7, t8, t9⟩ := t
  refine ok_im (cw_comes t1 r1 r2 (by omega)) (fun r P => ?_)
  obtain ⟨C, k, N⟩ := P
  exact st_of T C (N 160 88 (by decide) (by decide) (by decide)) (fun c k x => N c k (by omega) (by omega) (by omega)) (by omega) (by rw [N 160 70 (by decide) (by decide) (by decide)]; exact t3b) (by rw [N 160 68 (by decide) (by decide) (by decide)]; omega)
theorem st_qk {w2 p2 C D : Int} (T : ST s h0 w a f l n p m q j h) (K : QG s h w2 p2 C D r) (A : ∀ i : Nat, r 219 i = h 219 i ∧ r 220 i = h 220 i) : ST s h0 w2 (a + C) (f + D) (l + D) n p2 m q j r ∧ Mo h r := by
  obtain ⟨⟨t1, t2⟩, ⟨t3, t3b, t3c, t3d⟩, t4, t5, t6, t7, t8, t9⟩ := T
  obtain ⟨Ck, k70, k68, k78, k88, ⟨k50, k54, k57, k72, k84, k87⟩, kJ, kR⟩ := K
  refine ⟨⟨⟨Ck, lb_eq t2 k88.1 A⟩, ⟨by omega, k70, by omega, by omega⟩, by omega, by omega, by omega, by omega, by omega, fun i hi => ?_⟩, mo_eq (by omega) (by omega) (fun i hi => (kJ i hi).2)⟩
  rw [(kJ i (by omega)).1, (kJ i (by omega)).2]; exact t9 i hi
theorem st_cv {w2 a2 f2 l2 n2 p2 m2 q2 j2 : Int} (T : ST s h0 w a f l n p m q j h) (hn : n = n2) (hp : p = p2) (hm : m = m2) (hw : w ≤ w2) (ha : a ≤ a2) (hf : f ≤ f2) (hl : l ≤ l2) (hq : q ≤ q2) (hj : j ≤ j2) : ST s h0 w2 a2 f2 l2 n2 p2 m2 q2 j2 h := by
  subst hn hp hm
  exact st_le T hw ha hf hl hq hj
theorem st_work (hn : 1000000 ≤ nn) (S : GZ s) {e d lo b a2 b2 : Int} (T : ST s h0 w a f l n p m q j h) (t : TE 0 s 0 d lo b e) (y : YT s 0 a2 b2 e) (g : gv s e) (hb : b ≤ s 160 22) (hd : d ≤ 1366) (bp : 0 ≤ p ∧ p ≤ 10) (b57 : h0 160 57 ≤ 5000) (b78 : h0 160 78 + f + 2 * (Cm s b - Cm s lo) ≤ 6190) (b87 : 2 * h0 160 87 + j ≤ 3100) (bw : w + (Cm s b - Cm s lo) ≤ 3000) (b68 : h0 160 68 + a + 20 * (Cm s b - Cm s lo) ≤ 100000) (b88 : h0 160 88 + l + 2 * (Cm s b - Cm s lo) ≤ 1900000000) : Ok_ (qf_X13_work nn e h) (fun r => ST s h0 (w + (Cm s b - Cm s lo) + 1) (a + 20 * (Cm s b - Cm s lo)) (f + 2 * (Cm s b - Cm s lo)) (l + 2 * (Cm s b - Cm s lo)) n (p + dv s e) m q j r ∧ Mo h r) := by
  have t0 := T
  obtain ⟨⟨t1, t2⟩, ⟨t3, t3b, t3c, t3d⟩, t4, t5, t6, t7, t8, t9⟩ := t0
  have rg := te_rg t
  have s22 := S.2.2.1.2
  obtain ⟨r, er, K⟩ := wk_work hn S e d lo b a2 b2 w t1 t y g hb (by omega) ⟨⟨by omega, by omega⟩, by omega, by omega, by omega, by omega, by omega, by omega⟩
  rw [t3b] at K
  exact ⟨r, er, st_qk T K (fun i => ⟨(ff_X13_work nn) _ er 219 i (nw_ar rfl i), (ff_X13_work nn) _ er 220 i (nw_ar rfl i)⟩)⟩
theorem st_self (hn : 1000000 ≤ nn) (S : GZ s) (T : ST s h0 w a f l n p m q j h) (b68 : h0 160 68 + a ≤ 900000) (bp : p ≤ 10) : Ok_ (qf_X13_self nn h) (fun r => ST s h0 w (a + 10) (f + 0) (l + 0) n (p + 1) m q j r ∧ Mo h r) := by
  have t0 := T
  obtain ⟨⟨t1, t2⟩, ⟨t3, t3b, t3c, t3d⟩, t4, t5, t6, t7, t8, t9⟩ := t0
  obtain ⟨r, er, K⟩ := cw_self hn S t1 (by omega) (by omega)
  rw [t3b] at K
  exact ⟨r, er, st_qk T K (fun i => ⟨(ff_X13_self nn) _ er 219 i (nw_ar rfl i), (ff_X13_self nn) _ er 220 i (nw_ar rfl i)⟩)⟩
theorem st_mem (hn : 1000000 ≤ nn) (S : GZ s) {c x : Int} (T : ST s h0 w a f l n p m q j h) (hw : w ≤ 3000) (hc : -4 ≤ c ∧ c < 8 + s 160 24) (hx : 0 ≤ x ∧ x < s 160 28) : Ok_ (qf_X13_memberConstant nn c x h) (fun u => ST s h0 (w + 2) a f l n p m q j u.2 ∧ Mo h u.2 ∧ (1 ≤ u.1 ∧ u.1 ≤ 1999)) := by
  have t := T
  obtain ⟨⟨t1, t2⟩, ⟨t3, t3b, t3c, t3d⟩, t4, t5, t6, t7, t8, t9⟩ := t
  refine ok_im (cw_member hn S.2.1 S.1 t1 hw hc hx) (fun u P => ?_)
  obtain ⟨C, N, v⟩ := P
  have Z := st_of (n2 := n) (p2 := p) T C (N 160 88 (by decide) (by decide)) (fun c k x => N c k (by omega) (by omega)) (by rw [N 160 50 (by decide) (by decide)]; exact t3) (by rw [N 160 70 (by decide) (by decide)]; exact t3b) (a2 := a) (by rw [N 160 68 (by decide) (by decide)]; omega)
  exact ⟨Z.1, Z.2, v⟩
theorem st_drop {α : Type} {Q : α → Prop} {F : ms_M → Option α} {c : Int} (T : ST s h0 w a f l n p m q j h) (hc : 0 ≤ c ∧ c ≤ p) (k : ∀ z, ST s h0 w a f l n (p - c) m q j z → Mo h z → Ok_ (F z) Q) : Ok_ (xl (oq_sub (h 160 70) c) fun v => xl (up_M h 160 70 v) F) Q := by
  have g := gF_160_70 T.1.1.1.1
  have e := T.2.1.2.1
  refine ok_sub (by omega) ?_; intro v ev
  refine ok_xl ?_; intro z E
  rw [show v = p - c by omega] at E
  have Z := st_pop T E (by omega)
  exact k z Z.1 Z.2
theorem st_store (hn : 1000000 ≤ nn) {x y : Int} (T : ST s h0 w a f l n p m q j h) (hp : 1 ≤ p) (ry : 0 ≤ y ∧ y ≤ 3000) (b68 : h0 160 68 + a ≤ 800000) : Ok_ (qf_X13_store nn x y h) (fun r => ST s h0 w (a + 1 + 1) f l n (p - 1) m q j r ∧ Mo h r) := by
  unfold qf_X13_store
  have K : ∀ v, (0 ≤ v ∧ v ≤ 200) → Ok_ (qj_X13_store_13 nn y v h) (fun r => ST s h0 w (a + 1 + 1) f l n (p - 1) m q j r ∧ Mo h r) := fun v hv => by
    unfold qj_X13_store_13
    refine ok_sv (st_put hn T (by omega) (by omega)) ?_; intro u2 P2
    obtain ⟨T2, M2⟩ := P2
    refine ok_sv (vf_X13_local hn ry.1 ry.2 T2.1.1.1.1) ?_; intro u4 P4
    obtain ⟨a4, b4⟩ := P4
    refine ok_sv (st_put hn T2 (by omega) (by omega)) ?_; intro u6 P6
    obtain ⟨T6, M6⟩ := P6
    refine st_drop T6 (by omega) ?_; intro z Tz Mz
    exact ok_ret ⟨Tz, mo_tr M2 (mo_tr M6 Mz)⟩
  exact ok_if (fun _ => K 58 (by decide)) (fun _ => K 54 (by decide))
theorem st_50 {v : Int} (T : ST s h0 w a f l n p m q j h) (E : z = up_M h 160 50 v) (hv : 0 ≤ v ∧ v ≤ n) : ST s h0 w a f l v p m q j z ∧ Mo h z := by
  have t := T
  obtain ⟨⟨t1, t2⟩, ⟨t3, t3b, t3c, t3d⟩, t4, t5, t6, t7, t8, t9⟩ := t
  have g50 := gF_160_50 t1.1.1
  have C0 := t1
  obtain ⟨⟨V, B, P, I, J, H, D⟩, _⟩ := t1
  have N : ∀ c k : Nat, ¬ (c = 160 ∧ k = 50) → z c k = h c k := fun c k w => by rw [E]; exact up_n w
  have q50 : z 160 50 = v := by rw [E]; exact up_s
  have e71 := N 160 71 (by decide)
  have e72 := N 160 72 (by decide)
  have e78 := N 160 78 (by decide)
  have e79 := N 160 79 (by decide)
  have e84 := N 160 84 (by decide)
  have e87 := N 160 87 (by decide)
  have e88 := N 160 88 (by decide)
  have e68 := N 160 68 (by decide)
  have e70 := N 160 70 (by decide)
  have e52 := N 160 52 (by decide)
  have P3 := P.2.2.1
  have Ck : CK s z := by
    refine ⟨by rw [E]; exact wF_160_50 V (by omega), by rw [E]; exact mf_f B rfl, ⟨fun x hx => ?_, fun x hx => ?_, by omega, by have := P.2.2.2; omega⟩, fi_eq I (fun c k a b => N c k (by omega)) e71 e72 e78 e79, fun i hi => ?_, fun f hf => ?_, ?_⟩
    · rw [N 207 x (by omega)]; exact P.1 x (by omega)
    · rw [N 197 x (by omega)]; exact P.2.1 x (by omega)
    · rw [N 218 i (by omega), e88]; exact J i (by omega)
    · rw [N 216 f (by omega)]; exact H f (by omega)
    · unfold DW
      rw [e87, e68, e79, e72, e71, e84]; exact D
  exact st_of T (cw_of C0 Ck (fun c k a b => N c k (by omega)) (N 160 62 (by decide)) (N 160 64 (by decide)) (N 160 66 (by decide))) e88 (fun c k x => N c k (by omega)) q50 (by omega) (by omega)
/-- room for a statement of weight C -/
def BM (h : ms_M) (C w : Int) : Prop := h 160 57 ≤ 5000 ∧ h 160 78 + 2 * C ≤ 6190 ∧ 2 * h 160 87 + C ≤ 3000 ∧ w + C ≤ 3000 ∧ h 160 68 + 20 * C ≤ 100000 ∧ h 160 88 + 2 * C ≤ 1900000000 ∧ 2 * h 160 50 + C ≤ 3100 ∧ 4 * h 160 84 + C ≤ 3900 ∧ h 160 54 + C ≤ 3000 ∧ h 160 70 = 0
/-- what a statement leaves -/
def QM (s h : ms_M) (w C : Int) (r : ms_M) : Prop := ST s h (w + C) (20 * C) (2 * C) (2 * C) (r 160 50) 0 (h 160 54) C C r ∧ (h 160 50 ≤ r 160 50 ∧ 2 * r 160 50 ≤ 2 * h 160 50 + C)
/-- make, makeLoop, guard at depth g -/
def MG (s : ms_M) (g : Int) (rc : tq_X13_make) : Prop :=
  (∀ e d a b a2 b2 w h, CW s w h → LB h → TE 0 s 2 d a b e → YT s 2 a2 b2 e → b ≤ s 160 22 → 2 * d + 1 ≤ g → BM h (Cm s b - Cm s e) w → Ok_ (rc.1 e h) (fun u => (u.1 = 0 ∨ u.1 = 1) ∧ QM s h w (Cm s b - Cm s e) u.2)) ∧
  (∀ e x d a b a2 b2 w h, CW s w h → LB h → TE 0 s 2 d a b e → YT s 2 a2 b2 e → s 167 e.toNat = 4 → x = h 160 50 → b ≤ s 160 22 → 2 * d ≤ g → BM h (Cm s b - Cm s e) w → Ok_ (rc.2.1 e x h) (fun u => (u.1 = 0 ∨ u.1 = 1) ∧ QM s h w (Cm s b - Cm s e) u.2)) ∧
  (∀ e x d a b a2 b2 w h, CW s w h → LB h → TE 0 s 2 d a b e → YT s 2 a2 b2 e → s 167 e.toNat = 9 → x = h 160 50 → b ≤ s 160 22 → 2 * d ≤ g → BM h (Cm s b - Cm s e) w → Ok_ (rc.2.2 e x h) (fun u => (u.1 = 0 ∨ u.1 = 1) ∧ QM s h w (Cm s b - Cm s e) u.2))
theorem st_tr {C : Int} (T : ST s h0 w a f l n p m q j h) (K : QM s h w C r) : ST s h0 (w + C) (a + 20 * C) (f + 2 * C) (l + 2 * C) (r 160 50) 0 m (q + C) (j + C) r ∧ Mo h r ∧ (n ≤ r 160 50 ∧ 2 * r 160 50 ≤ 2 * n + C) := by
  obtain ⟨⟨t1, t2⟩, ⟨t3, t3b, t3c, t3d⟩, t4, t5, t6, t7, t8, t9⟩ := T
  obtain ⟨⟨⟨k1, k2⟩, ⟨k3, k3b, k3c, k3d⟩, k4, k5, k6, k7, k8, k9⟩, k10⟩ := K
  refine ⟨⟨⟨k1, k2⟩, ⟨rfl, k3b, by omega, by omega⟩, by omega, by omega, by omega, by omega, by omega, fun i hi => ?_⟩, mo_eq (by omega) (by omega) (fun i hi => (k9 i hi).2), by omega, by omega⟩
  rw [(k9 i (by omega)).1, (k9 i (by omega)).2]; exact t9 i hi
theorem st_make {g : Int} {rc : tq_X13_make} (G : MG s g rc) {e d lo b a2 b2 : Int} (T : ST s h0 w a f l n p m q j h) (t : TE 0 s 2 d lo b e) (y : YT s 2 a2 b2 e) (hb : b ≤ s 160 22) (hd : 2 * d + 1 ≤ g) (bp : p = 0) (b57 : h0 160 57 ≤ 5000) (b78 : h0 160 78 + f + 2 * (Cm s b - Cm s e) ≤ 6190) (b87 : 2 * h0 160 87 + j + (Cm s b - Cm s e) ≤ 3000) (bw : w + (Cm s b - Cm s e) ≤ 3000) (b68 : h0 160 68 + a + 20 * (Cm s b - Cm s e) ≤ 100000) (b88 : h0 160 88 + l + 2 * (Cm s b - Cm s e) ≤ 1900000000) (b50 : 2 * n + (Cm s b - Cm s e) ≤ 3100) (b84 : 4 * h0 160 84 + q + (Cm s b - Cm s e) ≤ 3900) (b54 : m + (Cm s b - Cm s e) ≤ 3000) : Ok_ (rc.1 e h) (fun u => (u.1 = 0 ∨ u.1 = 1) ∧ ST s h0 (w + (Cm s b - Cm s e)) (a + 20 * (Cm s b - Cm s e)) (f + 2 * (Cm s b - Cm s e)) (l + 2 * (Cm s b - Cm s e)) (u.2 160 50) 0 m (q + (Cm s b - Cm s e)) (j + (Cm s b - Cm s e)) u.2 ∧ Mo h u.2 ∧ (n ≤ u.2 160 50 ∧ 2 * u.2 160 50 ≤ 2 * n + (Cm s b - Cm s e))) := by
  have t0 := T
  obtain ⟨⟨t1, t2⟩, ⟨t3, t3b, t3c, t3d⟩, t4, t5, t6, t7, t8, t9⟩ := t0
  refine ok_im (G.1 e d lo b a2 b2 w h t1 t2 t y hb hd ⟨by omega, by omega, by omega, by omega, by omega, by omega, by omega, by omega, by omega, by omega⟩) (fun u K => ?_)
  have Z := st_tr T K.2
  exact ⟨K.1, Z.1, Z.2.1, Z.2.2⟩
end
end

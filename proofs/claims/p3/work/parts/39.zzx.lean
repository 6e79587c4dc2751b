section
variable {nn : Nat} {s h h0 r z : ms_M} {w a f l n p q j m : Int}
theorem cw_comes {x y : Int} (C : CW s w h) (r1 : 0 ≤ x ∧ x ≤ 3000) (r2 : 0 ≤ y ∧ y < 24 + 2 * s 160 24) (h50 : h 160 50 ≤ 2998) : Ok_ (qf_X13_comes nn x y h) (fun r => CW s w r ∧ r 160 50 = h 160 50 + 1 ∧ (∀ c k : Nat, c ≠ 196 → c ≠ 197 → ¬ (c = 160 ∧ (k = 50 ∨ k = 72)) → r c k = h c k)) := by
  have C0 := C
  obtain ⟨⟨V, B, P, I, J, H, D1, D2⟩, _⟩ := C
  have g50 := gF_160_50 V
  have g71 := gF_160_71 V
  have g72 := gF_160_72 V
  have g84 := gF_160_84 V
  have pK := P.2.2.2
  unfold qf_X13_comes
  have K : Ok_ (qf_X13_come nn x y h) (fun u => (VS_ u ∧ MF s u) ∧ u 160 50 = h 160 50 + 1 ∧ u 197 (h 160 50).toNat = y ∧ (∀ k : Nat, k ≠ (h 160 50).toNat → u 197 k = h 197 k) ∧ (∀ c k : Nat, c ≠ 196 → c ≠ 197 → ¬ (c = 160 ∧ k = 50) → u c k = h c k)) := by
    unfold qf_X13_come
    refine ok_wA (by omega) ?_; intro h3 E3
    have V3 : VS_ h3 := by rw [E3]; exact wA_196 V (by omega)
    have q3 : h3 160 50 = h 160 50 := by rw [E3]; exact up_n (by omega)
    refine ok_wA (by omega) ?_; intro h6 E6
    rw [q3] at E6
    have V6 : VS_ h6 := by rw [E6]; exact wA_197 V3 (by omega)
    have q6 : h6 160 50 = h 160 50 := by rw [E6, up_n (by omega)]; exact q3
    refine ok_add (by omega) ?_; intro v8 e8
    refine ok_xl ?_; intro h9 E9
    have V9 : VS_ h9 := by rw [E9]; exact wF_160_50 V6 (by omega)
    refine ok_ret ⟨⟨V9, by rw [E9]; exact mf_f (by rw [E6]; exact mf_a (by rw [E3]; exact mf_a B rfl) rfl) rfl⟩, by rw [E9, up_s]; omega, by rw [E9, up_n (by omega), E6, up_s], fun k hk => by rw [E9, up_n (by omega), E6, up_n (by omega), E3, up_n (by omega)], fun c k n1 n2 n3 => by rw [E9, up_n n3, E6, up_n (by omega), E3, up_n (by omega)]⟩
  refine ok_sv K ?_; intro u K2
  obtain ⟨⟨Vu, Bu⟩, u50, u97, u97n, N⟩ := K2
  have u72 := N 160 72 (by decide) (by decide) (by decide)
  refine ok_ite ?_; intro v5 e5
  refine ok_xl ?_; intro h6 E6
  have V6 : VS_ h6 := by rw [E6]; exact wF_160_72 Vu (by omega)
  have M : ∀ c k : Nat, c ≠ 196 → c ≠ 197 → ¬ (c = 160 ∧ (k = 50 ∨ k = 72)) → h6 c k = h c k := fun c k n1 n2 n3 => by rw [E6, up_n (by omega), N c k n1 n2 (by omega)]
  have p50 : h6 160 50 = h 160 50 + 1 := by rw [E6, up_n (by decide)]; exact u50
  have p72 : h6 160 72 = v5 := by rw [E6]; exact up_s
  have p97 : ∀ k : Nat, h6 197 k = u 197 k := fun k => by rw [E6]; exact up_n (by omega)
  have e70 := M 160 70 (by decide) (by decide) (by decide)
  have e71 := M 160 71 (by decide) (by decide) (by decide)
  have e78 := M 160 78 (by decide) (by decide) (by decide)
  have e79 := M 160 79 (by decide) (by decide) (by decide)
  have e84 := M 160 84 (by decide) (by decide) (by decide)
  have e87 := M 160 87 (by decide) (by decide) (by decide)
  have e88 := M 160 88 (by decide) (by decide) (by decide)
  have e68 := M 160 68 (by decide) (by decide) (by decide)
  have e52 := M 160 52 (by decide) (by decide) (by decide)
  have P3 := P.2.2.1
  have Ck : CK s h6 := by
    refine ⟨V6, by rw [E6]; exact mf_f Bu rfl, ⟨fun x hx => ?_, fun x hx => ?_, by omega, by have := P.2.2.2; omega⟩, ⟨fun x hx => ?_, fun f hf => ?_, fun f g hf hg e => ?_⟩, fun i hi => ?_, fun f hf => ?_, by omega, ?_⟩
    · rw [M 207 x (by decide) (by decide) (by omega)]; exact P.1 x (by omega)
    · rw [p97]
      by_cases w : x = (h 160 50).toNat
      · rw [w, u97]; exact r2
      · rw [u97n x w]; exact P.2.1 x (by omega)
    · rw [M 212 x (by decide) (by decide) (by omega)]; exact I.1 x (by omega)
    · rw [M 209 f (by decide) (by decide) (by omega), M 210 f (by decide) (by decide) (by omega), M 211 f (by decide) (by decide) (by omega)]
      have := I.2.1 f (by omega)
      omega
    · rw [M 208 f (by decide) (by decide) (by omega), M 208 g (by decide) (by decide) (by omega)] at e
      exact I.2.2 f g (by omega) (by omega) e
    · rw [M 218 i (by decide) (by decide) (by omega), e88]; exact J i (by omega)
    · rw [M 216 f (by decide) (by decide) (by omega)]; exact H f (by omega)
    · rw [e79, p72, e71, e87, e84, e68]
      exact dw_X (by omega) (by omega) (by omega) D1 D2
  exact ok_ret ⟨cw_of C0 Ck (fun c k a b => M c k (by omega) (by omega) (by omega)) (M 160 62 (by decide) (by decide) (by decide)) (M 160 64 (by decide) (by decide) (by decide)) (M 160 66 (by decide) (by decide) (by decide)), p50, M⟩
theorem st_comes {x y : Int} (T : ST s h0 w a f l n p m q j h) (r1 : 0 ≤ x ∧ x ≤ 3000) (r2 : 0 ≤ y ∧ y < 24 + 2 * s 160 24) (h50 : n ≤ 2998) : Ok_ (qf_X13_comes nn x y h) (fun r => ST s h0 w a f l (n + 1) p m q j r ∧ Mo h r) := by
  have t := T
  obtain ⟨⟨t1, t2⟩, ⟨t3, t3b, t3c, t3d⟩, t4, t5, t6, t7, t8, t9⟩ := t
  refine ok_im (cw_comes t1 r1 r2 (by omega)) (fun r P => ?_)
  obtain ⟨C, k, N⟩ := P
  exact st_of T C (N 160 88 (by decide) (by decide) (by decide)) (fun c k x => N c k (by omega) (by omega) (by omega)) (by omega) (by rw [N 160 70 (by decide) (by decide) (by decide)]; exact t3b) (by rw [N 160 68 (by decide) (by decide) (by decide)]; omega)
theorem st_qk {w2 p2 C D : Int} (T : ST s h0 w a f l n p m q j h) (K : QG s h w2 p2 C D r) (A : ∀ i : Nat, r 219 i = h 219 i ∧ r 220 i = h 220 i) : ST s h0 w2 (a + C) (f + D) (l + D) n p2 m q j r ∧ Mo h r := by
  obtain ⟨⟨t1, t2⟩, ⟨t3, t3b, t3c, t3d⟩, t4, t5, t6, t7, t8, t9⟩ := T
  obtain ⟨Ck, k70, k68, k78, k88, ⟨k50, k54, k57, k72, k84, k87⟩, kJ, kR⟩ := K
  refine ⟨⟨⟨Ck, lb_eq t2 k88.1 A⟩, ⟨by omega, k70, by omega, by omega⟩, by omega, by omega, by omega, by omega, by omega, fun i hi => ?_⟩, mo_eq (by omega) (by omega) (fun i hi => (kJ i hi).2)⟩
  rw [(kJ i (by omega)).1, (kJ i (by omega)).2]; exact t9 i hi
theorem st_cv {w2 a2 f2 l2 n2 p2 m2 q2 j2 : Int} (T : ST s h0 w a f l n p m q j h) (hn : n = n2) (hp : p = p2) (hm : m = m2) (hw : w ≤ w2) (ha : a ≤ a2) (hf : f ≤ f2) (hl : l ≤ l2) (hq : q ≤ q2) (hj : j ≤ j2) : ST s h0 w2 a2 f2 l2 n2 p2 m2 q2 j2 h := by
  subst hn hp hm
  exact st_le T hw ha hf hl hq hj
theorem st_work (hn : 1000000 ≤ nn) (S : GZ s) {e d lo b a2 b2 : Int} (T : ST s h0 w a f l n p m q j h) (t : TE 0 s 0 d lo b e) (y : YT s 0 a2 b2 e) (g : gv s e) (hb : b ≤ s 160 22) (hd : d ≤ 1366) (bp : 0 ≤ p ∧ p ≤ 10) (b57 : h0 160 57 ≤ 5000) (b78 : h0 160 78 + f + 2 * (Cm s b - Cm s lo) ≤ 6190) (b87 : 2 * h0 160 87 + j ≤ 3100) (bw : w + (Cm s b - Cm s lo) ≤ 3000) (b68 : h0 160 68 + a + 20 * (Cm s b - Cm s lo) ≤ 100000) (b88 : h0 160 88 + l + 2 * (Cm s b - Cm s lo) ≤ 1900000000) : Ok_ (qf_X13_work nn e h) (fun r => ST s h0 (w + (Cm s b - Cm s lo) + 1) (a + 20 * (Cm s b - Cm s lo)) (f + 2 * (Cm s b - Cm s lo)) (l + 2 * (Cm s b - Cm s lo)) n (p + dv s e) m q j r ∧ Mo h r) := by
  have t0 := T
  obtain ⟨⟨t1, t2⟩, ⟨t3, t3b, t3c, t3d⟩, t4, t5, t6, t7, t8, t9⟩ := t0
  have rg := te_rg t
  have s22 := S.2.2.1.2
  obtain ⟨r, er, K⟩ := wk_work hn S e d lo b a2 b2 w t1 t y g hb (by omega) ⟨⟨by omega, by omega⟩, by omega, by omega, by omega, by omega, by omega, by omega⟩
  rw [t3b] at K
  exact ⟨r, er, st_qk T K (fun i => ⟨(ff_X13_work nn) _ er 219 i (nw_ar rfl i), (ff_X13_work nn) _ er 220 i (nw_ar rfl i)⟩)⟩
theorem st_self (hn : 1000000 ≤ nn) (S : GZ s) (T : ST s h0 w a f l n p m q j h) (b68 : h0 160 68 + a ≤ 900000) (bp : p ≤ 10) : Ok_ (qf_X13_self nn h) (fun r => ST s h0 w (a + 10) (f + 0) (l + 0) n (p + 1) m q j r ∧ Mo h r) := by
  have t0 := T
  obtain ⟨⟨t1, t2⟩, ⟨t3, t3b, t3c, t3d⟩, t4, t5, t6, t7, t8, t9⟩ := t0
  obtain ⟨r, er, K⟩ := cw_self hn S t1 (by omega) (by omega)
  rw [t3b] at K
  exact ⟨r, er, st_qk T K (fun i => ⟨(ff_X13_self nn) _ er 219 i (nw_ar rfl i), (ff_X13_self nn) _ er 220 i (nw_ar rfl i)⟩)⟩
theorem st_mem (hn : 1000000 ≤ nn) (S : GZ s) {c x : Int} (T : ST s h0 w a f l n p m q j h) (hw : w ≤ 3000) (hc : -4 ≤ c ∧ c < 8 + s 160 24) (hx : 0 ≤ x ∧ x < s 160 28) : Ok_ (qf_X13_memberConstant nn c x h) (fun u => ST s h0 (w + 2) a f l n p m q j u.2 ∧ Mo h u.2 ∧ (1 ≤ u.1 ∧ u.1 ≤ 1999)) := by
  have t := T
  obtain ⟨⟨t1, t2⟩, ⟨t3, t3b, t3c, t3d⟩, t4, t5, t6, t7, t8, t9⟩ := t
  refine ok_im (cw_member hn S.2.1 S.1 t1 hw hc hx) (fun u P => ?_)
  obtain ⟨C, N, v⟩ := P
  have Z := st_of (n2 := n) (p2 := p) T C (N 160 88 (by decide) (by decide)) (fun c k x => N c k (by omega) (by omega)) (by rw [N 160 50 (by decide) (by decide)]; exact t3) (by rw [N 160 70 (by decide) (by decide)]; exact t3b) (a2 := a) (by rw [N 160 68 (by decide) (by decide)]; omega)
  exact ⟨Z.1, Z.2, v⟩
theorem st_drop {α : Type} {Q : α → Prop} {F : ms_M → Option α} {c : Int} (T : ST s h0 w a f l n p m q j h) (hc : 0 ≤ c ∧ c ≤ p) (k : ∀ z, ST s h0 w a f l n (p - c) m q j z → Mo h z → Ok_ (F z) Q) : Ok_ (xl (oq_sub (h 160 70) c) fun v => xl (up_M h 160 70 v) F) Q := by
  have g := gF_160_70 T.1.1.1.1
  have e := T.2.1.2.1
  refine ok_sub (by omega) ?_; intro v ev
  refine ok_xl ?_; intro z E
  rw [show v = p - c by omega] at E
  have Z := st_pop T E (by omega)
  exact k z Z.1 Z.2
theorem st_store (hn : 1000000 ≤ nn) {x y : Int} (T : ST s h0 w a f l n p m q j h) (hp : 1 ≤ p) (ry : 0 ≤ y ∧ y ≤ 3000) (b68 : h0 160 68 + a ≤ 800000) : Ok_ (qf_X13_store nn x y h) (fun r => ST s h0 w (a + 1 + 1) f l n (p - 1) m q j r ∧ Mo h r) := by
  unfold qf_X13_store
  have K : ∀ v, (0 ≤ v ∧ v ≤ 200) → Ok_ (qj_X13_store_13 nn y v h) (fun r => ST s h0 w (a + 1 + 1) f l n (p - 1) m q j r ∧ Mo h r) := fun v hv => by
    unfold qj_X13_store_13
    refine ok_sv (st_put hn T (by omega) (by omega)) ?_; intro u2 P2
    obtain ⟨T2, M2⟩ := P2
    refine ok_sv (vf_X13_local hn ry.1 ry.2 T2.1.1.1.1) ?_; intro u4 P4
    obtain ⟨a4, b4⟩ := P4
    refine ok_sv (st_put hn T2 (by omega) (by omega)) ?_; intro u6 P6
    obtain ⟨T6, M6⟩ := P6
    refine st_drop T6 (by omega) ?_; intro z Tz Mz
    exact ok_ret ⟨Tz, mo_tr M2 (mo_tr M6 Mz)⟩
  exact ok_if (fun _ => K 58 (by decide)) (fun _ => K 54 (by decide))
theorem st_50 {v : Int} (T : ST s h0 w a f l n p m q j h) (E : z = up_M h 160 50 v) (hv : 0 ≤ v ∧ v ≤ n) : ST s h0 w a f l v p m q j z ∧ Mo h z := by
  have t := T
  obtain ⟨⟨t1, t2⟩, ⟨t3, t3b, t3c, t3d⟩, t4, t5, t6, t7, t8, t9⟩ := t
  have g50 := gF_160_50 t1.1.1
  have C0 := t1
  obtain ⟨⟨V, B, P, I, J, H, D⟩, _⟩ := t1
  have N : ∀ c k : Nat, ¬ (c = 160 ∧ k = 50) → z c k = h c k := fun c k w => by rw [E]; exact up_n w
  have q50 : z 160 50 = v := by rw [E]; exact up_s
  have e71 := N 160 71 (by decide)
  have e72 := N 160 72 (by decide)
  have e78 := N 160 78 (by decide)
  have e79 := N 160 79 (by decide)
  have e84 := N 160 84 (by decide)
  have e87 := N 160 87 (by decide)
  have e88 := N 160 88 (by decide)
  have e68 := N 160 68 (by decide)
  have e70 := N 160 70 (by decide)
  have e52 := N 160 52 (by decide)
  have P3 := P.2.2.1
  have Ck : CK s z := by
    refine ⟨by rw [E]; exact wF_160_50 V (by omega), by rw [E]; exact mf_f B rfl, ⟨fun x hx => ?_, fun x hx => ?_, by omega, by have := P.2.2.2; omega⟩, fi_eq I (fun c k a b => N c k (by omega)) e71 e72 e78 e79, fun i hi => ?_, fun f hf => ?_, ?_⟩
    · rw [N 207 x (by omega)]; exact P.1 x (by omega)
    · rw [N 197 x (by omega)]; exact P.2.1 x (by omega)
    · rw [N 218 i (by omega), e88]; exact J i (by omega)
    · rw [N 216 f (by omega)]; exact H f (by omega)
    · unfold DW
      rw [e87, e68, e79, e72, e71, e84]; exact D
  exact st_of T (cw_of C0 Ck (fun c k a b => N c k (by omega)) (N 160 62 (by decide)) (N 160 64 (by decide)) (N 160 66 (by decide))) e88 (fun c k x => N c k (by omega)) q50 (by omega) (by omega)
/-- room for a statement of weight C -/
def BM (h : ms_M) (C w : Int) : Prop := h 160 57 ≤ 5000 ∧ h 160 78 + 2 * C ≤ 6190 ∧ 2 * h 160 87 + C ≤ 3000 ∧ w + C ≤ 3000 ∧ h 160 68 + 20 * C ≤ 100000 ∧ h 160 88 + 2 * C ≤ 1900000000 ∧ 2 * h 160 50 + C ≤ 3100 ∧ 4 * h 160 84 + C ≤ 3900 ∧ h 160 54 + C ≤ 3000 ∧ h 160 70 = 0
/-- what a statement leaves -/
def QM (s h : ms_M) (w C : Int) (r : ms_M) : Prop := ST s h (w + C) (20 * C) (2 * C) (2 * C) (r 160 50) 0 (h 160 54) C C r ∧ (h 160 50 ≤ r 160 50 ∧ 2 * r 160 50 ≤ 2 * h 160 50 + C)
/-- make, makeLoop, guard at depth g -/
def MG (s : ms_M) (g : Int) (rc : tq_X13_make) : Prop :=
  (∀ e d a b a2 b2 w h, CW s w h → LB h → TE 0 s 2 d a b e → YT s 2 a2 b2 e → b ≤ s 160 22 → 2 * d + 1 ≤ g → BM h (Cm s b - Cm s e) w → Ok_ (rc.1 e h) (fun u => (u.1 = 0 ∨ u.1 = 1) ∧ QM s h w (Cm s b - Cm s e) u.2)) ∧
  (∀ e x d a b a2 b2 w h, CW s w h → LB h → TE 0 s 2 d a b e → YT s 2 a2 b2 e → s 167 e.toNat = 4 → x = h 160 50 → b ≤ s 160 22 → 2 * d ≤ g → BM h (Cm s b - Cm s e) w → Ok_ (rc.2.1 e x h) (fun u => (u.1 = 0 ∨ u.1 = 1) ∧ QM s h w (Cm s b - Cm s e) u.2)) ∧
  (∀ e x d a b a2 b2 w h, CW s w h → LB h → TE 0 s 2 d a b e → YT s 2 a2 b2 e → s 167 e.toNat = 9 → x = h 160 50 → b ≤ s 160 22 → 2 * d ≤ g → BM h (Cm s b - Cm s e) w → Ok_ (rc.2.2 e x h) (fun u => (u.1 = 0 ∨ u.1 = 1) ∧ QM s h w (Cm s b - Cm s e) u.2))
theorem st_tr {C : Int} (T : ST s h0 w a f l n p m q j h) (K : QM s h w C r) : ST s h0 (w + C) (a + 20 * C) (f + 2 * C) (l + 2 * C) (r 160 50) 0 m (q + C) (j + C) r ∧ Mo h r ∧ (n ≤ r 160 50 ∧ 2 * r 160 50 ≤ 2 * n + C) := by
  obtain ⟨⟨t1, t2⟩, ⟨t3, t3b, t3c, t3d⟩, t4, t5, t6, t7, t8, t9⟩ := T
  obtain ⟨⟨⟨k1, k2⟩, ⟨k3, k3b, k3c, k3d⟩, k4, k5, k6, k7, k8, k9⟩, k10⟩ := K
  refine ⟨⟨⟨k1, k2⟩, ⟨rfl, k3b, by omega, by omega⟩, by omega, by omega, by omega, by omega, by omega, fun i hi => ?_⟩, mo_eq (by omega) (by omega) (fun i hi => (k9 i hi).2), by omega, by omega⟩
  rw [(k9 i (by omega)).1, (k9 i (by omega)).2]; exact t9 i hi
theorem st_make {g : Int} {rc : tq_X13_make} (G : MG s g rc) {e d lo b a2 b2 : Int} (T : ST s h0 w a f l n p m q j h) (t : TE 0 s 2 d lo b e) (y : YT s 2 a2 b2 e) (hb : b ≤ s 160 22) (hd : 2 * d + 1 ≤ g) (bp : p = 0) (b57 : h0 160 57 ≤ 5000) (b78 : h0 160 78 + f + 2 * (Cm s b - Cm s e) ≤ 6190) (b87 : 2 * h0 160 87 + j + (Cm s b - Cm s e) ≤ 3000) (bw : w + (Cm s b - Cm s e) ≤ 3000) (b68 : h0 160 68 + a + 20 * (Cm s b - Cm s e) ≤ 100000) (b88 : h0 160 88 + l + 2 * (Cm s b - Cm s e) ≤ 1900000000) (b50 : 2 * n + (Cm s b - Cm s e) ≤ 3100) (b84 : 4 * h0 160 84 + q + (Cm s b - Cm s e) ≤ 3900) (b54 : m + (Cm s b - Cm s e) ≤ 3000) : Ok_ (rc.1 e h) (fun u => (u.1 = 0 ∨ u.1 = 1) ∧ ST s h0 (w + (Cm s b - Cm s e)) (a + 20 * (Cm s b - Cm s e)) (f + 2 * (Cm s b - Cm s e)) (l + 2 * (Cm s b - Cm s e)) (u.2 160 50) 0 m (q + (Cm s b - Cm s e)) (j + (Cm s b - Cm s e)) u.2 ∧ Mo h u.2 ∧ (n ≤ u.2 160 50 ∧ 2 * u.2 160 50 ≤ 2 * n + (Cm s b - Cm s e))) := by
  have t0 := T
  obtain ⟨⟨t1, t2⟩, ⟨t3, t3b, t3c, t3d⟩, t4, t5, t6, t7, t8, t9⟩ := t0
  refine ok_im (G.1 e d lo b a2 b2 w h t1 t2 t y hb hd ⟨by omega, by omega, by omega, by omega, by omega, by omega, by omega, by omega, by omega, by omega⟩) (fun u K => ?_)
  have Z := st_tr T K.2
  exact ⟨K.1, Z.1, Z.2.1, Z.2.2⟩
end

section
variable {nn : Nat} {s h r z : ms_M} {w : Int}
theorem kp_pe (K : KP s w h) (A : ∀ c k : Nat, 200 ≤ c → c ≤ 204 → r c k = h c k) (e62 : r 160 62 = h 160 62) (e64 : r 160 64 = h 160 64) : KP s w r := by
  have a : ∀ c k : Nat, 200 ≤ c → c ≤ 204 → r c k = h c k := A
  have tT : ∀ c T, isT r c T ↔ isT h c T := fun c T => by
    unfold isT
    rw [e62, a 200 _ (by decide) (by decide), a 202 _ (by decide) (by decide), a 201 _ (by decide) (by decide)]
    constructor
    · intro x; exact ⟨x.1, x.2.1, x.2.2.1, fun j v hj => by rw [← a 204 _ (by decide) (by decide)]; exact x.2.2.2 j v hj⟩
    · intro x; exact ⟨x.1, x.2.1, x.2.2.1, fun j v hj => by rw [a 204 _ (by decide) (by decide)]; exact x.2.2.2 j v hj⟩
  obtain ⟨⟨k01, k02⟩, b1, b3, k1, k2, k3, k4⟩ := K
  refine ⟨⟨fun c c1 c2 => ?_, fun c d T x y => k02 c d T ((tT c T).1 x) ((tT d T).1 y)⟩, b1, b3, fun i x y => ?_, fun i x y => ?_, by rw [e62]; exact k3, by rw [e64]; exact k4⟩
  · rw [e62] at c2
    have z := k01 c c1 c2
    refine ⟨kv_eq z.1 (a 200 _ (by decide) (by decide)) (a 201 _ (by decide) (by decide)) (a 202 _ (by decide) (by decide)) (a 203 _ (by decide) (by decide)) (by omega), ?_⟩
    rw [a 200 _ (by decide) (by decide), a 201 _ (by decide) (by decide), a 202 _ (by decide) (by decide), e64]
    exact z.2
  · obtain ⟨c, z⟩ := k1 i x y
    exact ⟨c, (tT _ _).2 z⟩
  · obtain ⟨c, d, z1, z2⟩ := k2 i x y
    refine ⟨c, d, (tT _ _).2 z1, ?_⟩
    unfold isC
    rw [e62, a 200 _ (by decide) (by decide), a 201 _ (by decide) (by decide), a 202 _ (by decide) (by decide), a 203 _ (by decide) (by decide)]
    exact z2
theorem cw_of (C : CW s w h) (Ck : CK s r) (A : ∀ c k : Nat, 200 ≤ c → c ≤ 204 → r c k = h c k) (e62 : r 160 62 = h 160 62) (e64 : r 160 64 = h 160 64) (e66 : r 160 66 = h 160 66) : CW s w r := ⟨Ck, kp_pe C.2.1 A e62 e64, e66.trans C.2.2⟩
theorem cw_F {L : List Nat} {LF : List (Nat × Nat)} (C : CW s w h) (Ck : CK s r) (F : ∀ c k, nw_F L LF false false c k = true → r c k = h c k) (h0 : ∀ k, nw_F L LF false false 200 k = true ∧ nw_F L LF false false 201 k = true ∧ nw_F L LF false false 202 k = true ∧ nw_F L LF false false 203 k = true ∧ nw_F L LF false false 204 k = true) (h2 : nw_F L LF false false 160 62 = true) (h4 : nw_F L LF false false 160 64 = true) (h6 : nw_F L LF false false 160 66 = true) : CW s w r := by
  refine cw_of C Ck (fun c k a b => ?_) (F _ _ h2) (F _ _ h4) (F _ _ h6)
  have q : c = 200 ∨ c = 201 ∨ c = 202 ∨ c = 203 ∨ c = 204 := by omega
  obtain ⟨x0, x1, x2, x3, x4⟩ := h0 k
  rcases q with q | q | q | q | q <;> subst q
  · exact F _ _ x0
  · exact F _ _ x1
  · exact F _ _ x2
  · exact F _ _ x3
  · exact F _ _ x4
theorem cw_put (hn : 1000000 ≤ nn) {a : Int} (C : CW s w h) (ra : -2147483645 ≤ a ∧ a ≤ 3001) (h68 : h 160 68 ≤ 900000000) : Ok_ (qf_X13_put nn a h) (fun r => CW s w r ∧ r 160 68 = h 160 68 + 1 ∧ (∀ c k : Nat, c ≠ 206 → ¬ (c = 160 ∧ k = 68) → r c k = h c k)) := ok_im (cm_put hn C.1 ra h68) (fun r P => ⟨cw_of C P.1 (fun c k a b => P.2.2 c k (by omega) (by omega)) (P.2.2 160 62 (by decide) (by decide)) (P.2.2 160 64 (by decide) (by decide)) (P.2.2 160 66 (by decide) (by decide)), P.2⟩)
theorem cw_push {a : Int} (C : CW s w h) (ra : 0 ≤ a ∧ a < 24 + 2 * s 160 24) (h70 : 0 ≤ h 160 70 ∧ h 160 70 ≤ 2999) : Ok_ (qf_X13_push nn a h) (fun r => CW s w r ∧ r 160 70 = h 160 70 + 1 ∧ (∀ c k : Nat, c ≠ 207 → ¬ (c = 160 ∧ (k = 70 ∨ k = 71)) → r c k = h c k)) := ok_im (cm_push C.1 ra h70) (fun r P => ⟨cw_of C P.1 (fun c k a b => P.2.2 c k (by omega) (by omega)) (P.2.2 160 62 (by decide) (by decide)) (P.2.2 160 64 (by decide) (by decide)) (P.2.2 160 66 (by decide) (by decide)), P.2⟩)
theorem cw_pop {v : Int} (C : CW s w h) (E : z = up_M h 160 70 v) (hv : 0 ≤ v ∧ v ≤ h 160 70) : CW s w z ∧ z 160 70 = v ∧ (∀ c k : Nat, ¬ (c = 160 ∧ k = 70) → z c k = h c k) := by
  have P := cm_pop C.1 E hv
  exact ⟨cw_of C P.1 (fun c k a b => P.2.2 c k (by omega)) (P.2.2 160 62 (by decide)) (P.2.2 160 64 (by decide)) (P.2.2 160 66 (by decide)), P.2⟩
theorem cw_label (C : CW s w h) (h88 : h 160 88 ≤ 2000000000) : Ok_ (qf_X13_label nn h) (fun u => CW s w u.2 ∧ u.1 = h 160 88 + 1 ∧ u.2 160 88 = h 160 88 + 1 ∧ (∀ c k : Nat, ¬ (c = 160 ∧ k = 88) → u.2 c k = h c k)) := ok_im (cm_label C.1 h88) (fun r P => ⟨cw_of C P.1 (fun c k a b => P.2.2.2 c k (by omega)) (P.2.2.2 160 62 (by decide)) (P.2.2.2 160 64 (by decide)) (P.2.2.2 160 66 (by decide)), P.2⟩)
theorem cw_jump (hn : 1000000 ≤ nn) {a1 a2 : Int} (C : CW s w h) (r1 : 153 ≤ a1 ∧ a1 ≤ 167) (r2 : 0 ≤ a2 ∧ a2 ≤ h 160 88) (h68 : h 160 68 ≤ 800000000) (h87 : h 160 87 ≤ 2999) : Ok_ (qf_X13_jump nn a1 a2 h) (fun r => CW s w r ∧ r 160 68 = h 160 68 + 3 ∧ r 160 87 = h 160 87 + 1 ∧ r 218 (h 160 87).toNat = a2 ∧ (∀ i : Nat, (i : Int) < h 160 87 → r 217 i = h 217 i ∧ r 218 i = h 218 i) ∧ (∀ c k, nw_F wl_X13_jump wf_X13_jump false false c k = true → r c k = h c k)) := ok_im (cm_jump hn C.1 r1 r2 h68 h87) (fun r P => ⟨cw_F C P.1 P.2.2.2.2.2 (fun k => ⟨nw_ar rfl k, nw_ar rfl k, nw_ar rfl k, nw_ar rfl k, nw_ar rfl k⟩) rfl rfl rfl, P.2⟩)

theorem cw_stands (hn : 1000000 ≤ nn) {l a n : Int} (C : CW s w h) (ra : 0 ≤ a ∧ a ≤ 1000000000) (hN : ∀ i : Nat, (i : Int) < n → ¬ h 218 i = l) (hn2 : 0 ≤ n ∧ n ≤ h 160 87) (h78 : h 160 78 ≤ 6199) : Ok_ (qf_X13_stands nn l a h) (fun r => CW s w r ∧ (n ≤ r 160 87 ∧ r 160 87 ≤ h 160 87) ∧ (h 160 78 ≤ r 160 78 ∧ r 160 78 ≤ h 160 78 + 1) ∧ (∀ i : Nat, (i : Int) < n → r 217 i = h 217 i ∧ r 218 i = h 218 i) ∧ (∀ i : Nat, n ≤ (i : Int) → (i : Int) < r 160 87 → ¬ r 218 i = l ∧ ∃ j : Nat, (n ≤ (j : Int) ∧ (j : Int) < h 160 87) ∧ r 218 i = h 218 j ∧ r 217 i = h 217 j) ∧ (∀ c k, nw_F wl_X13_stands wf_X13_stands false false c k = true → r c k = h c k)) := ok_im (cm_stands hn C.1 ra hN hn2 h78) (fun r P => ⟨cw_F C P.1 P.2.2.2.2.2 (fun k => ⟨nw_ar rfl k, nw_ar rfl k, nw_ar rfl k, nw_ar rfl k, nw_ar rfl k⟩) rfl rfl rfl, P.2⟩)
/-- what the nodes below x take -/
def Cm (s : ms_M) (x : Int) : Int := Cn s x.toNat
theorem wt_1 (k : Int) : 1 ≤ wt k := by unfold wt; split; omega; split <;> omega
theorem cm_at {e : Int} (h0 : 0 ≤ e) : Cm s (e + 1) = Cm s e + wt (s 167 e.toNat) := by
  unfold Cm
  rw [show (e + 1).toNat = e.toNat + 1 by omega]; rfl
theorem cn_mono : ∀ (n k : Nat), Cn s k + n ≤ Cn s (k + n) := by
  intro n
  induction n with
  | zero => intro k; show Cn s k + 0 ≤ Cn s k; omega
  | succ n ih =>
    intro k
    have := ih k
    have w := wt_1 (s 167 (k + n))
    show Cn s k + ((n + 1 : Nat) : Int) ≤ Cn s (k + n) + wt (s 167 (k + n))
    omega
theorem cm_mono {a b : Int} (h0 : 0 ≤ a) (h : a ≤ b) : Cm s a + (b - a) ≤ Cm s b := by
  unfold Cm
  have := cn_mono (s := s) (b - a).toNat a.toNat
  rw [show a.toNat + (b - a).toNat = b.toNat by omega] at this
  omega
/-- what making wants of the memory behind the rules -/
def GZ (s : ms_M) : Prop := VS_ s ∧ SP s ∧ ((8 ≤ s 160 52 ∧ s 160 52 < 8 + s 160 24) ∧ s 160 22 ≤ 3000) ∧ ∀ x : Nat, (x : Int) < s 160 22 → (0 ≤ s 174 x ∧ s 174 x < 24 + 2 * s 160 24) ∧ (20 ≤ s 167 x → s 175 x < s 160 28) ∧ ((s 167 x = 26 ∨ s 167 x = 31) → 0 ≤ s 175 x) ∧ ((s 167 x = 36 ∨ s 167 x = 38) → s 176 x < 24 + 2 * s 160 24) ∧ (s 167 x = 31 → s 176 x < 8 + s 160 24)
/-- how many values an expression leaves -/
def tv (t : Int) : Int := if t = 3 then 0 else 1
def dv (s : ms_M) (e : Int) : Int := tv (s 174 e.toNat)
theorem tv_r {t : Int} : (t = 3 ∧ tv t = 0) ∨ (¬ t = 3 ∧ tv t = 1) := by
  unfold tv
  by_cases q : t = 3
  · exact .inl ⟨q, if_pos q⟩
  · exact .inr ⟨q, if_neg q⟩
/-- what is worked before it -/
def led (s : ms_M) (e : Int) : Prop := s 167 e.toNat = 30 ∨ s 167 e.toNat = 32 ∨ s 167 e.toNat = 37 ∨ s 167 e.toNat = 38 ∨ (s 167 e.toNat = 31 ∧ s 176 e.toNat = -1)
def gv (s : ms_M) (e : Int) : Prop := ¬ s 174 e.toNat = 3 ∨ s 167 e.toNat = 26 ∨ s 167 e.toNat = 31
/-- room: C nodes are still to come, p values lie below -/
def BD (h : ms_M) (C a b d w p : Int) : Prop := (2 * p + d ≤ a + 1500 ∧ 0 ≤ p) ∧ h 160 57 + b ≤ 9000 ∧ h 160 78 + 2 * C ≤ 6190 ∧ h 160 87 + d ≤ 2990 ∧ w + C ≤ 3000 ∧ h 160 68 + 20 * C ≤ 100000 ∧ h 160 88 + 2 * C ≤ 1900000000
/-- what an expression leaves -/
def QG (s h : ms_M) (w p c f : Int) (r : ms_M) : Prop := CW s w r ∧ r 160 70 = p ∧ (h 160 68 ≤ r 160 68 ∧ r 160 68 ≤ h 160 68 + c) ∧ (h 160 78 ≤ r 160 78 ∧ r 160 78 ≤ h 160 78 + f) ∧ (h 160 88 ≤ r 160 88 ∧ r 160 88 ≤ h 160 88 + f) ∧ (r 160 50 = h 160 50 ∧ r 160 54 = h 160 54 ∧ r 160 57 = h 160 57 ∧ r 160 72 = h 160 72 ∧ r 160 84 = h 160 84 ∧ r 160 87 = h 160 87) ∧ (∀ i : Nat, (i : Int) < h 160 87 → r 217 i = h 217 i ∧ r 218 i = h 218 i) ∧ (∀ j : Nat, (j : Int) < h 160 57 → r 199 j = h 199 j)
def QK (s h : ms_M) (w p C : Int) (r : ms_M) : Prop := QG s h w p (20 * C) (2 * C) r
/-- work and its fellows at depth g -/
def WG (s : ms_M) (g : Int) (rc : tq_X13_work) : Prop :=
  (∀ e d a b a2 b2 w h, CW s w h → TE 0 s 0 d a b e → YT s 0 a2 b2 e → gv s e → b ≤ s 160 22 → d + 1 ≤ g → BD h (Cm s b - Cm s a) a b d w (h 160 70) → Ok_ (rc.1 e h) (QK s h (w + (Cm s b - Cm s a) + 1) (h 160 70 + dv s e) (Cm s b - Cm s a))) ∧
  (∀ e d a b a2 b2 w h x q, CW s w h → TE 0 s 0 d a b e → YT s 0 a2 b2 e → gv s e → b ≤ s 160 22 → d ≤ g → ((x = e ∧ q = 1 ∧ led s e) ∨ (x = a ∧ q = 0 ∧ ¬ led s e)) → BD h (Cm s b - Cm s x) a b d (w - q) (h 160 70 - q) → Ok_ (rc.2.1 e h) (QK s h (w + (Cm s b - Cm s x) + 1 - q) (h 160 70 - q + dv s e) (Cm s b - Cm s x))) ∧
  (∀ e c f d a b a2 b2 w h, CW s w h → TE 0 s 0 d a b e → YT s 0 a2 b2 e → (s 167 e.toNat = 26 ∨ s 167 e.toNat = 31) → b ≤ s 160 22 → d - 1 ≤ g → (-4 ≤ c ∧ c < 8 + s 160 24) → (f = 0 ∨ f = 1) → BD h (Cm s b - Cm s (e + 1)) a b d w (h 160 70 - (1 - f)) → Ok_ (rc.2.2.1 e c f h) (QG s h (w + (Cm s b - Cm s (e + 1)) + 2) (h 160 70 - (1 - f) + dv s e) (20 * (Cm s b - Cm s (e + 1)) + 5) (2 * (Cm s b - Cm s (e + 1))))) ∧
  (∀ e d a b a2 b2 w h, CW s w h → TE 0 s 0 d a b e → YT s 0 a2 b2 e → s 167 e.toNat = 37 → ¬ s 174 e.toNat = 3 → b ≤ s 160 22 → d - 1 ≤ g → BD h (Cm s b - Cm s e) a b d (w - 1) (h 160 70 - 1) → Ok_ (rc.2.2.2 e h) (QK s h (w + (Cm s b - Cm s e)) (h 160 70) (Cm s b - Cm s e)))

theorem yo_26 {a b e : Int} (Y : YT s 0 a b e) (hk : s 167 e.toNat = 26) : YT s 1 (e + 1) b (s 171 e.toNat) := by
  obtain ⟨_, x⟩ := yt_o0 Y
  rcases x with x | x | ⟨k, x⟩ | ⟨k, x⟩ | ⟨k, x⟩ | ⟨k, x, y⟩ | ⟨k, x, y⟩ | ⟨k, x⟩ | ⟨k, x, w, wr, y, z⟩
  · exfalso; omega
  · exfalso; omega
  · exact x
  · exfalso; omega
  · exfalso; omega
  · exfalso; omega
  · exfalso; omega
  · exfalso; omega
  · exfalso; omega
theorem yo_28 {a b e : Int} (Y : YT s 0 a b e) (hk : s 167 e.toNat = 28 ∨ s 167 e.toNat = 29) : ¬ s 174 (s 170 e.toNat).toNat = 3 ∧ YT s 0 (e + 1) b (s 170 e.toNat) := by
  obtain ⟨_, x⟩ := yt_o0 Y
  rcases x with x | x | ⟨k, x⟩ | ⟨k, x⟩ | ⟨k, x⟩ | ⟨k, x, y⟩ | ⟨k, x, y⟩ | ⟨k, x⟩ | ⟨k, x, w, wr, y, z⟩
  · exfalso; omega
  · exfalso; omega
  · exfalso; omega
  · exact ⟨x.1.2.2, x.2⟩
  · exfalso; omega
  · exfalso; omega
  · exfalso; omega
  · exfalso; omega
  · exfalso; omega
theorem yo_30 {a b e : Int} (Y : YT s 0 a b e) (hk : s 167 e.toNat = 30 ∨ s 167 e.toNat = 38) : ¬ s 174 (s 170 e.toNat).toNat = 3 ∧ YT s 0 a e (s 170 e.toNat) := by
  obtain ⟨_, x⟩ := yt_o0 Y
  rcases x with x | x | ⟨k, x⟩ | ⟨k, x⟩ | ⟨k, x⟩ | ⟨k, x, y⟩ | ⟨k, x, y⟩ | ⟨k, x⟩ | ⟨k, x, w, wr, y, z⟩
  · exfalso; omega
  · exfalso; omega
  · exfalso; omega
  · exfalso; omega
  · exact ⟨x.1.2.2, x.2⟩
  · exfalso; omega
  · exfalso; omega
  · exfalso; omega
  · exfalso; omega
theorem yo_31 {a b e : Int} (Y : YT s 0 a b e) (hk : s 167 e.toNat = 31) : (¬ s 176 e.toNat = -1 ∨ (¬ s 174 (s 170 e.toNat).toNat = 3 ∧ YT s 0 a e (s 170 e.toNat))) ∧ YT s 1 (e + 1) b (s 171 e.toNat) := by
  obtain ⟨_, x⟩ := yt_o0 Y
  rcases x with x | x | ⟨k, x⟩ | ⟨k, x⟩ | ⟨k, x⟩ | ⟨k, x, y⟩ | ⟨k, x, y⟩ | ⟨k, x⟩ | ⟨k, x, w, wr, y, z⟩
  · exfalso; omega
  · exfalso; omega
  · exfalso; omega
  · exfalso; omega
  · exfalso; omega
  · exact ⟨x.imp id (fun x => ⟨x.1.2.2, x.2⟩), y⟩
  · exfalso; omega
  · exfalso; omega
  · exfalso; omega
theorem yo_32 {a b e : Int} (Y : YT s 0 a b e) (hk : s 167 e.toNat = 32 ∨ s 167 e.toNat = 37) : (¬ s 174 (s 170 e.toNat).toNat = 3 ∧ YT s 0 a e (s 170 e.toNat)) ∧ ¬ s 174 (s 171 e.toNat).toNat = 3 ∧ YT s 0 (e + 1) b (s 171 e.toNat) := by
  obtain ⟨_, x⟩ := yt_o0 Y
  rcases x with x | x | ⟨k, x⟩ | ⟨k, x⟩ | ⟨k, x⟩ | ⟨k, x, y⟩ | ⟨k, x, y⟩ | ⟨k, x⟩ | ⟨k, x, w, wr, y, z⟩
  · exfalso; omega
  · exfalso; omega
  · exfalso; omega
  · exfalso; omega
  · exfalso; omega
  · exfalso; omega
  · exact ⟨⟨x.1.2.2, x.2⟩, ⟨y.1.2.2, y.2⟩⟩
  · exfalso; omega
  · exfalso; omega
theorem yo_33 {a b e : Int} (Y : YT s 0 a b e) (hk : 33 ≤ s 167 e.toNat ∧ s 167 e.toNat ≤ 36) : ¬ s 174 (s 170 e.toNat).toNat = 3 ∧ YT s 0 (e + 1) b (s 170 e.toNat) := by
  obtain ⟨_, x⟩ := yt_o0 Y
  rcases x with x | x | ⟨k, x⟩ | ⟨k, x⟩ | ⟨k, x⟩ | ⟨k, x, y⟩ | ⟨k, x, y⟩ | ⟨k, x⟩ | ⟨k, x, w, wr, y, z⟩
  · exfalso; omega
  · exfalso; omega
  · exfalso; omega
  · exfalso; omega
  · exfalso; omega
  · exfalso; omega
  · exfalso; omega
  · exact ⟨x.1.2.2, x.2⟩
  · exfalso; omega
theorem yo_39 {a b e : Int} (Y : YT s 0 a b e) (hk : s 167 e.toNat = 39) : (¬ s 174 (s 170 e.toNat).toNat = 3 ∧ YT s 0 a e (s 170 e.toNat)) ∧ ∃ c, (¬ s 174 (s 171 e.toNat).toNat = 3 ∧ YT s 0 (e + 1) c (s 171 e.toNat)) ∧ (¬ s 174 (s 172 e.toNat).toNat = 3 ∧ YT s 0 c b (s 172 e.toNat)) := by
  obtain ⟨_, x⟩ := yt_o0 Y
  rcases x with x | x | ⟨k, x⟩ | ⟨k, x⟩ | ⟨k, x⟩ | ⟨k, x, y⟩ | ⟨k, x, y⟩ | ⟨k, x⟩ | ⟨k, x, w, wr, y, z⟩
  · exfalso; omega
  · exfalso; omega
  · exfalso; omega
  · exfalso; omega
  · exfalso; omega
  · exfalso; omega
  · exfalso; omega
  · exfalso; omega
  · exact ⟨⟨x.1.2.2, x.2⟩, w, ⟨y.1.2.2, y.2⟩, ⟨z.1.2.2, z.2⟩⟩
end

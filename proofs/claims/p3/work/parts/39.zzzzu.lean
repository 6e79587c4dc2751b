section
variable {nn : Nat} {h g r z w v x : ms_M} {c d e k : Int} {ω : Int → ms_M}
theorem mc_v (A : ∀ x j : Nat, ¬ (x = 160 ∧ (j < 129 ∨ 135 < j ∨ j = 131)) → x < 238 → r x j = h x j) (M : MC h c k w) : MC r c k w := by
  obtain ⟨hc, hk, W, e1, e2, e3, e4, e5, e6⟩ := M
  refine ⟨hc, ?_, wi_k (fun x j _ _ => A x j (by omega) (by omega)) W, ?_, ?_, ?_, ?_, ?_, ?_⟩
  · rw [A 234 _ (by omega) (by decide)]; exact hk
  · rw [A 160 132 (by omega) (by decide)]; exact e1
  · rw [A 160 133 (by omega) (by decide)]; exact e2
  · rw [A 160 130 (by omega) (by decide), A 235 _ (by omega) (by decide)]; exact e3
  · rw [A 160 129 (by omega) (by decide), A 235 _ (by omega) (by decide)]; exact e4
  · rw [A 160 135 (by omega) (by decide), A 235 _ (by omega) (by decide)]; exact e5
  · rw [A 160 134 (by omega) (by decide), A 235 _ (by omega) (by decide)]; exact e6
theorem mc_30 (M : MC h c k w) : h 160 129 ≤ 30 ∧ h 160 130 ≤ 30 := by
  obtain ⟨hc, hk, W, _, _, e3, e4, _, _⟩ := M
  obtain ⟨_, _, m⟩ := wi_mt W hc hk
  obtain ⟨q, _, m⟩ := m
  unfold XM XI XG XE XD XC at m
  rw [e3, e4]
  exact ⟨m.2.2.2.2.1, m.2.2.2.1⟩
/-- what a good step of the flow leaves -/
def NFl (h r : ms_M) : Prop := ∀ x j : Nat, ¬ (x = 160 ∧ (j = 120 ∨ j = 121 ∨ j = 131)) → ¬ (243 ≤ x ∧ x ≤ 245) → r x j = h x j
theorem nfl_rf : NFl h h := fun _ _ _ _ => rfl
theorem nfl_tr (a : NFl h z) (b : NFl z r) : NFl h r := fun x j p q => (b x j p q).trans (a x j p q)
theorem nfl_12 (a : N12 h r) : NFl h r := fun x j p _ => a x j (by omega)
theorem nfl_agd (a : NFl h r) : AGd h r := ⟨fun x j p q => a x j (by omega) (by omega), a 160 98 (by decide) (by decide), a 900000 0 (by omega) (by omega)⟩
theorem nfl_mc (a : NFl h r) (M : MC h c k w) : MC r c k w := mc_v (fun x j p q => a x j (by omega) (by omega)) M
theorem nfl_oi (a : NFl h r) (O : OI h) : OI r := fun j hj => by
  rw [a 240 _ (by omega) (by omega), a 241 _ (by omega) (by omega)]
  exact O j (by rw [a 160 117 (by decide) (by decide)] at hj; exact hj)
theorem n12_agd (N : N12 h r) : AGd h r := nfl_agd (nfl_12 N)
/-- a value of type a may stand where b is wanted -/
def GOt (nn : Nat) (h : ms_M) (a b : Int) : Prop := qf_X13_goes nn a b h = some 1
theorem got_c (A : AGd h g) {a b : Int} (G : GOt nn h a b) : GOt nn g a b := by
  unfold GOt
  rw [cd_goes A]; exact G
theorem got_rf {a : Int} : GOt nn h a a := by
  unfold GOt qf_X13_goes
  by_cases y : a = 0
  · rw [if_pos y]
  · rw [if_neg y, if_neg (show ¬ ¬ a = a from fun z => z rfl)]
theorem got_0 {a : Int} : GOt nn h a 0 := by
  unfold GOt qf_X13_goes
  rw [if_pos rfl]
theorem rg_goes (hn : 1000000 ≤ nn) (V : VS_ h) (S : SPD h) {a b : Int} (ga : GTy h a) (gb : 0 ≤ b ∧ b ≤ 2147483647) : Ok_ (qf_X13_goes nn a b h) (fun u => (u = 0 ∨ u = 1) ∧ (¬ u = 0 → GOt nn h a b)) := by
  obtain ⟨u, e, b⟩ := rv_goes hn V S ga gb
  refine ⟨u, e, b, fun y => ?_⟩
  unfold GOt
  rw [e, show u = 1 by omega]
theorem gty_c (A : AGd h g) {t : Int} (G : GTy h t) : GTy g t := by
  unfold GTy at G ⊢
  rw [A.2.1]; exact G
theorem fv_rg {p t : Int} (V : VS_ h) (W : VS_ w) (hp : 0 ≤ p ∧ p < 6000) (F : FV nn h c w p t) : 0 ≤ t ∧ t < 20 + 2 * h 160 98 := by
  have g98 := gF_160_98 V
  rcases F with ⟨a, b⟩ | ⟨a, b⟩
  · have := gA_238 W p.toNat (by omega)
    omega
  · exact ctv_rg V b
/-- the locals and the stack hold good types -/
def GTs (h : ms_M) (t : Int) : Prop := 0 ≤ t ∧ t < 20 + 2 * h 160 98
theorem gts_y {t : Int} (V : VS_ h) (G : GTs h t) : GTy h t := ⟨⟨G.1, by have := gF_160_98 V; have := G.2; omega⟩, .inl G.2⟩
theorem gts_c (A : AGd h g) {t : Int} (G : GTs h t) : GTs g t := by
  unfold GTs at G ⊢
  rw [A.2.1]; exact G
def LGT (h : ms_M) : Prop := ∀ x : Int, 0 ≤ x → x < h 160 129 → GTs h (h 243 x.toNat)
def SGT (h : ms_M) : Prop := h 160 131 ≤ h 160 130 ∧ ∀ x : Int, 0 ≤ x → x < h 160 131 → GTs h (h 244 x.toNat)
theorem lgt_12 (N : N12 h r) (L : LGT h) : LGT r := fun x a b => by
  rw [N 243 _ (by omega)]
  rw [N 160 129 (by decide)] at b
  exact gts_c (n12_agd N) (L x a b)
theorem sgt_12 (N : N12 h r) (L : SGT h) : SGT r := by
  unfold SGT
  rw [N 160 131 (by decide), N 160 130 (by decide)]
  refine ⟨L.1, fun x a b => ?_⟩
  rw [N 244 _ (by omega)]
  exact gts_c (n12_agd N) (L.2 x a b)
/-- rows of types against rows of types -/
theorem ml_loop {row : Nat} {Z : Int} {LP : Nat → Int → Int → Int → ms_M → Option (Int × ms_M)} (hn : 1000000 ≤ nn) (V : VS_ h) (S : SPD h) (M : MC h c k w) {n a : Int} {L : Int → Int} (hrow : ¬ row = 160) (hZ : n ≤ Z) (ha : a ≤ w 160 113) (GT : ∀ x : Int, 0 ≤ x → x < n → GTy h (h row x.toNat)) (lp : ∀ (j : Nat) (l2 l3 l4 : Int) (f : ms_M), LP (j + 1) l2 l3 l4 f = if l3 ≤ l4 then (some (1, f)) else (rd_A Z row l4 f fun v4 => mx_sv (qf_X13_framed nn l2 f) fun u6 => mx_sv (qf_X13_goes nn v4 u6.1 u6.2) fun u8 => if ¬ u8 = 0 then (mx_sv (qf_X13_byteAt nn (u6.2 160 132) l2 u6.2) fun u11 => if ¬ u11 = 3 then (xl (oq_add l2 1) fun v1 => xl (oq_add l4 1) fun v2 => LP j v1 l3 v2 u6.2) else (xl (oq_add l2 2) fun v1 => xl (oq_add l4 1) fun v2 => LP j v1 l3 v2 u6.2)) else (some (0, u6.2)))) (hb : ∀ f : ms_M, VS_ f → ∀ q : Nat, (q : Int) < Z → -2147483648 ≤ f row q ∧ f row q ≤ 2147483647) : ∀ (j : Nat) (m : Nat) (i l2 : Int) (f : ms_M), VS_ f → N12 h f → 0 ≤ l2 → 0 ≤ i → i + m = n → n ≤ 255 → FTn nn h c w L m i l2 a → m < j → Ok_ (LP j l2 n i f) (fun x => VS_ x.2 ∧ N12 h x.2 ∧ (x.1 = 0 ∨ x.1 = 1) ∧ (¬ x.1 = 0 → ∀ y : Int, i ≤ y → y < n → GOt nn h (h row y.toNat) (L y))) := by
  have g3 := gF_160_113 M.2.2.1.1
  have hc := M.1
  intro j
  induction j with
  | zero => intro m i l2 f Vf N a1 a2 a3 a4 a5 hm; exfalso; omega
  | succ j ih =>
    intro m i l2 f Vf N a1 a2 a3 a4 F hm
    rw [lp]
    cases m with
    | zero =>
      rw [if_pos (show n ≤ i by omega)]
      exact ok_ret ⟨Vf, N, .inr rfl, fun _ y y1 y2 => by exfalso; omega⟩
    | succ m =>
      have le := ty_le _ _ _ (ftn_ty _ _ _ _ F)
      rw [if_neg (show ¬ n ≤ i by omega)]
      refine ok_rd (by omega) (hb f Vf) ?_; intro v4 e4 _ _
      rw [N row _ (by omega)] at e4
      have Mf : MC f c k w := nfl_mc (nfl_12 N) M
      have Af := n12_agd N
      have cl : w 238 l2.toNat = 3 → l2 + 1 < w 160 113 ∧ CL w c (w 238 (l2 + 1).toNat) := fun y => by
        rcases F.2 with b | b
        · exfalso; omega
        · have := ty_le _ _ _ (ftn_ty _ _ _ _ b.2.2)
          exact ⟨by omega, b.2.1⟩
      refine ok_sv (mg_framed hn Vf hc Mf.2.2.1 Mf.2.2.2.1 (by omega) cl (fv_c (agd_c Af) F.1)) ?_; intro u6 P6
      obtain ⟨⟨V6, N6, b6⟩, q6⟩ := P6
      have N6' := n12_tr N N6
      have A6 := n12_agd N6'
      have g98 := gF_160_98 Vf
      have gt : GTy u6.2 v4 := by rw [e4]; exact gty_c A6 (GT i a2 (by omega))
      refine ok_sv (rg_goes hn V6 (agd_spd V A6 S) gt (by omega)) ?_; intro u8 P8
      refine ok_if (fun y => ?_) (fun y => ok_ret ⟨V6, N6', .inl rfl, fun y => absurd rfl y⟩)
      have go : GOt nn h (h row i.toNat) (L i) := by
        have := got_c (agd_sy A6) (P8.2 y)
        rw [e4, q6] at this
        exact this
      have M6 : MC u6.2 c k w := nfl_mc (nfl_12 N6') M
      rw [M6.2.2.2.1]
      refine ok_sv (mv_bytew V6 hc M6.2.2.1 (by omega)) ?_; intro u11 P11
      have q11 := P11.1
      have fin : ∀ (l : Int), FTn nn h c w L m (i + 1) l a → 0 ≤ l → Ok_ (LP j l n (i + 1) u6.2) (fun x => VS_ x.2 ∧ N12 h x.2 ∧ (x.1 = 0 ∨ x.1 = 1) ∧ (¬ x.1 = 0 → ∀ y : Int, i ≤ y → y < n → GOt nn h (h row y.toNat) (L y))) := fun l fl l0 => ok_im (ih m (i + 1) l u6.2 V6 N6' l0 (by omega) (by omega) a4 fl (by omega)) (fun x P => ⟨P.1, P.2.1, P.2.2.1, fun q y y1 y2 => by
        by_cases y0 : y = i
        · rw [y0]; exact go
        · exact P.2.2.2 q y (by omega) y2⟩)
      rcases F.2 with b | b
      · rw [if_pos (show ¬ u11 = 3 by omega)]
        refine ok_add (by omega) ?_; intro v1 e1
        refine ok_add (by omega) ?_; intro v2 e2
        rw [e1, e2]
        exact fin _ b.2 (by omega)
      · rw [if_neg (show ¬ ¬ u11 = 3 by omega)]
        refine ok_add (by omega) ?_; intro v1 e1
        refine ok_add (by omega) ?_; intro v2 e2
        rw [e1, e2]
        exact fin _ b.2.2 (by omega)
theorem ml_locals (hn : 1000000 ≤ nn) (V : VS_ h) (S : SPD h) (M : MC h c k w) (LG : LGT h) {u n m : Int} {L K : Int → Int} (F : FRT nn h c w u n L m K) (nl : n ≤ h 160 129) : Ok_ (qf_X13_localsFit nn u h) (fun x => VS_ x.2 ∧ N12 h x.2 ∧ (x.1 = 0 ∨ x.1 = 1) ∧ (¬ x.1 = 0 → ∀ y : Int, 0 ≤ y → y < n → GOt nn h (h 243 y.toNat) (L y))) := by
  have g3 := gF_160_113 M.2.2.1.1
  have hc := M.1
  have m30 := mc_30 M
  obtain ⟨⟨u0, en⟩, a, b, t1, em, t2, lb⟩ := F
  have l1 := ty_le _ _ _ (ftn_ty _ _ _ _ t1)
  have l2 := ty_le _ _ _ (ftn_ty _ _ _ _ t2)
  have b2 := gA_238 M.2.2.1.1 (u + 2).toNat (by omega)
  unfold qf_X13_localsFit
  rw [M.2.2.2.1]
  refine ok_add (by omega) ?_; intro v15 e15
  refine ok_sv (mv_bytew V hc M.2.2.1 (by omega)) ?_; intro u18 P18
  have q18 := P18.1
  rw [e15] at q18
  refine ok_add (by omega) ?_; intro v19 e19
  rw [show v19 = u + 3 by omega, show u18 = n by omega]
  exact ml_loop (LP := qw_X13_localsFit_20 nn) (row := 243) (Z := 30) hn V S M (by decide) (by omega) (by omega) (fun x x1 x2 => gts_y V (LG x x1 (by omega))) (fun j l2 l3 l4 f => rfl) (fun f Vf q hq => by have := gA_243 Vf q hq; omega) nn n.toNat 0 (u + 3) h V (fun _ _ _ => rfl) (by omega) (by omega) (by omega) (by omega) t1 (by omega)
theorem ml_stack (hn : 1000000 ≤ nn) (V : VS_ h) (S : SPD h) (M : MC h c k w) (SG : SGT h) {u n m : Int} {L K : Int → Int} (F : FRT nn h c w u n L m K) : Ok_ (qf_X13_stackFits nn u h) (fun x => VS_ x.2 ∧ N12 h x.2 ∧ (x.1 = 0 ∨ x.1 = 1) ∧ (¬ x.1 = 0 → m = h 160 131 ∧ ∀ y : Int, 0 ≤ y → y < m → GOt nn h (h 244 y.toNat) (K y))) := by
  have g3 := gF_160_113 M.2.2.1.1
  have hc := M.1
  have m30 := mc_30 M
  obtain ⟨⟨u0, en⟩, a, b, t1, em, t2, lb⟩ := F
  have l1 := ty_le _ _ _ (ftn_ty _ _ _ _ t1)
  have l2 := ty_le _ _ _ (ftn_ty _ _ _ _ t2)
  have ba := gA_238 M.2.2.1.1 a.toNat (by omega)
  have tr : TYr w c (u + 2) a := by
    unfold TYr
    rw [← en, show u + 2 + 1 = u + 3 by omega]
    exact ftn_ty _ _ _ _ t1
  unfold qf_X13_stackFits
  rw [M.2.2.2.1]
  refine ok_add (by omega) ?_; intro v15 e15
  refine ok_sv (mv_ends hn V hc M.2.2.1 M.2.2.2.1 (q := a) (by omega) (by omega) (by rw [e15]; exact tr)) ?_; intro u17 P17
  rw [P17]
  refine ok_sv (mv_bytew V hc M.2.2.1 (by omega)) ?_; intro u20 P20
  have q20 := P20.1
  refine ok_add (by omega) ?_; intro v21 e21
  refine ok_if (fun y => ?_) (fun y => ok_ret ⟨V, fun _ _ _ => rfl, .inl rfl, fun y => absurd rfl y⟩)
  rw [show v21 = a + 1 by omega, show u20 = m by omega]
  have sg := SG.1
  refine ok_im (ml_loop (LP := qw_X13_stackFits_34 nn) (row := 244) (Z := 31) hn V S M (by decide) (by omega) lb (fun x x1 x2 => gts_y V (SG.2 x x1 (by omega))) (fun j l2 l3 l4 f => rfl) (fun f Vf q hq => gA_244 Vf q hq) nn m.toNat 0 (a + 1) h V (fun _ _ _ => rfl) (by omega) (by omega) (by omega) (by omega) t2 (by omega)) (fun x P => ⟨P.1, P.2.1, P.2.2.1, fun q => ⟨by omega, P.2.2.2 q⟩⟩)
/-- the state becomes the frame's -/
def BCM (h : ms_M) (n : Int) (L : Int → Int) (m : Int) (K : Int → Int) (r : ms_M) : Prop := (∀ y : Int, 0 ≤ y → y < n → r 243 y.toNat = L y) ∧ (∀ y : Int, n ≤ y → 0 ≤ y → y < h 160 129 → r 243 y.toNat = 0) ∧ r 160 131 = m ∧ (∀ y : Int, 0 ≤ y → y < m → r 244 y.toNat = K y)
theorem mb_114 (hn : 1000000 ≤ nn) (V : VS_ h) (M : MC h c k w) {m b : Int} {K : Int → Int} (hb : b ≤ w 160 113) (m31 : m ≤ 30) : ∀ (j : Nat) (q : Nat) (i l2 : Int) (f : ms_M), VS_ f → NFl h f → 0 ≤ l2 → 0 ≤ i → i + q = m → FTn nn h c w K q i l2 b → (∀ y : Int, 0 ≤ y → y < i → f 244 y.toNat = K y) → q < j → Ok_ (qw_X13_becomes_114 nn j l2 m i f) (fun r => VS_ r ∧ NFl h r ∧ r 160 131 = f 160 131 ∧ r 243 = f 243 ∧ ∀ y : Int, 0 ≤ y → y < m → r 244 y.toNat = K y) := by
  have g3 := gF_160_113 M.2.2.1.1
  have hc := M.1
  intro j
  induction j with
  | zero => intro q i l2 f Vf N a1 a2 a3 F D hm; exfalso; omega
  | succ j ih =>
    intro q i l2 f Vf N a1 a2 a3 F D hm
    unfold qw_X13_becomes_114
    cases q with
    | zero =>
      rw [if_pos (show m ≤ i by omega)]
      exact ok_ret ⟨Vf, N, rfl, rfl, fun y y1 y2 => D y y1 (by omega)⟩
    | succ q =>
      have le := ty_le _ _ _ (ftn_ty _ _ _ _ F)
      rw [if_neg (show ¬ m ≤ i by omega)]
      have Mf : MC f c k w := nfl_mc N M
      have cl : w 238 l2.toNat = 3 → l2 + 1 < w 160 113 ∧ CL w c (w 238 (l2 + 1).toNat) := fun y => by
        rcases F.2 with b | b
        · exfalso; omega
        · have := ty_le _ _ _ (ftn_ty _ _ _ _ b.2.2)
          exact ⟨by omega, b.2.1⟩
      refine ok_sv (mg_framed hn Vf hc Mf.2.2.1 Mf.2.2.2.1 (by omega) cl (fv_c (agd_c (nfl_agd N)) F.1)) ?_; intro u5 P5
      obtain ⟨⟨V5, N5, b5⟩, q5⟩ := P5
      have g98 := gF_160_98 Vf
      refine ok_wA (by omega) ?_; intro h6 E6
      have V6 : VS_ h6 := by rw [E6]; exact wA_244 V5 (by omega)
      have N56 : NFl u5.2 h6 := fun x j p q => by rw [E6, up_n (by omega)]
      have N6 : NFl h h6 := nfl_tr N (nfl_tr (nfl_12 N5) N56)
      have M6 : MC h6 c k w := nfl_mc N6 M
      have f131 : h6 160 131 = f 160 131 := by rw [E6, up_n (by omega), N5 160 131 (by decide)]
      have f243 : h6 243 = f 243 := funext fun y => by rw [E6, up_n (by omega), N5 243 _ (by omega)]
      have D6 : ∀ y : Int, 0 ≤ y → y < i + 1 → h6 244 y.toNat = K y := fun y y1 y2 => by
        by_cases y0 : y = i
        · rw [y0, E6, up_s, q5]
        · rw [E6, up_n (by omega), N5 244 _ (by omega)]
          exact D y y1 (by omega)
      rw [M6.2.2.2.1]
      refine ok_sv (mv_bytew V6 hc M6.2.2.1 (by omega)) ?_; intro u9 P9
      have q9 := P9.1
      rcases F.2 with b | b
      · rw [if_pos (show ¬ u9 = 3 by omega)]
        unfold qj_X13_becomes_151
        refine ok_add (by omega) ?_; intro v1 e1
        refine ok_add (by omega) ?_; intro v2 e2
        rw [e1, e2]
        refine ok_im (ih q (i + 1) (l2 + 1) h6 V6 N6 (by omega) (by omega) (by omega) b.2 D6 (by omega)) (fun r P => ?_)
        rw [f131, f243] at P
        exact P
      · rw [if_neg (show ¬ ¬ u9 = 3 by omega)]
        unfold qj_X13_becomes_151
        refine ok_add (by omega) ?_; intro v1 e1
        refine ok_add (by omega) ?_; intro v2 e2
        rw [e1, e2]
        refine ok_im (ih q (i + 1) (l2 + 2) h6 V6 N6 (by omega) (by omega) (by omega) b.2.2 D6 (by omega)) (fun r P => ?_)
        rw [f131, f243] at P
        exact P
theorem ml_becomes (hn : 1000000 ≤ nn) (V : VS_ h) (M : MC h c k w) {u n m : Int} {L K : Int → Int} (F : FRT nn h c w u n L m K) (nl : n ≤ h 160 129) (ml : m ≤ h 160 130) : Ok_ (qf_X13_becomes nn u h) (fun r => VS_ r ∧ NFl h r ∧ BCM h n L m K r) := by
  have g3 := gF_160_113 M.2.2.1.1
  have hc := M.1
  have m30 := mc_30 M
  obtain ⟨⟨u0, en⟩, a, b, t1, em, t2, lb⟩ := F
  have l1 := ty_le _ _ _ (ftn_ty _ _ _ _ t1)
  have l2 := ty_le _ _ _ (ftn_ty _ _ _ _ t2)
  have b2 := gA_238 M.2.2.1.1 (u + 2).toNat (by omega)
  have ba := gA_238 M.2.2.1.1 a.toNat (by omega)
  have tr : TYr w c (u + 2) a := by
    unfold TYr
    rw [← en, show u + 2 + 1 = u + 3 by omega]
    exact ftn_ty _ _ _ _ t1
  have T : ∀ (j : Nat) (i l2 : Int) (f : ms_M), VS_ f → NFl h f → 0 ≤ l2 → (0 ≤ i ∧ i ≤ h 160 129) → (i ≤ n → FTn nn h c w L (n - i).toNat i l2 a) → (∀ y : Int, 0 ≤ y → y < i → (y < n → f 243 y.toNat = L y) ∧ (n ≤ y → f 243 y.toNat = 0)) → h 160 129 - i < (j : Int) → Ok_ (qw_X13_becomes_20 nn j u l2 n i f) (fun r => VS_ r ∧ NFl h r ∧ BCM h n L m K r) := by
    intro j
    induction j with
    | zero => intro i l2 f Vf N a1 a2 F D hm; exfalso; omega
    | succ j ih =>
      intro i l2 f Vf N a1 a2 F D hm
      have Mf : MC f c k w := nfl_mc N M
      unfold qw_X13_becomes_20
      rw [N 160 129 (by decide) (by decide)]
      refine ok_if (fun C => ?_) (fun C => ?_)
      · refine ok_add (by omega) ?_; intro v15 e15
        refine ok_sv (mv_ends hn Vf hc Mf.2.2.1 Mf.2.2.2.1 (q := a) (by omega) (by omega) (by rw [e15]; exact tr)) ?_; intro u17 P17
        rw [P17, Mf.2.2.2.1]
        refine ok_sv (mv_bytew Vf hc Mf.2.2.1 (by omega)) ?_; intro u20 P20
        have q20 := P20.1
        refine ok_add (by omega) ?_; intro v21 e21
        refine ok_xl ?_; intro h22 E22
        have V22 : VS_ h22 := by rw [E22]; exact wF_160_131 Vf (by omega)
        have N22 : NFl h h22 := nfl_tr N (fun x j p q => by rw [E22, up_n (by omega)])
        have f131 : h22 160 131 = u20 := by rw [E22, up_s]
        rw [show v21 = a + 1 by omega, show u20 = m by omega]
        refine ok_im (mb_114 hn V M lb (by omega) nn m.toNat 0 (a + 1) h22 V22 N22 (by omega) (by omega) (by omega) t2 (fun y y1 y2 => by exfalso; omega) (by omega)) (fun r P => ?_)
        obtain ⟨p1, p2, p3, p4, p5⟩ := P
        have e243 : ∀ y : Nat, r 243 y = f 243 y := fun y => by rw [p4, E22, up_n (by omega)]
        refine ⟨p1, p2, fun y y1 y2 => ?_, fun y y1 y2 y3 => ?_, by omega, p5⟩
        · rw [e243]; exact (D y y1 (by omega)).1 y2
        · rw [e243]; exact (D y y2 (by omega)).2 y1
      · refine ok_wA (by omega) ?_; intro h24 E24
        have V24 : VS_ h24 := by rw [E24]; exact wA_243 Vf (by omega)
        have N24 : NFl h h24 := nfl_tr N (fun x j p q => by rw [E24, up_n (by omega)])
        refine ok_if (fun Y => ?_) (fun Y => ?_)
        · obtain ⟨q, eq⟩ : ∃ q : Nat, (n - i).toNat = q + 1 := ⟨(n - i).toNat - 1, by omega⟩
          have F0 := F (by omega)
          rw [eq] at F0
          have le := ty_le _ _ _ (ftn_ty _ _ _ _ F0)
          have M24 : MC h24 c k w := nfl_mc N24 M
          have cl : w 238 l2.toNat = 3 → l2 + 1 < w 160 113 ∧ CL w c (w 238 (l2 + 1).toNat) := fun y => by
            rcases F0.2 with b | b
            · exfalso; omega
            · have := ty_le _ _ _ (ftn_ty _ _ _ _ b.2.2)
              exact ⟨by omega, b.2.1⟩
          refine ok_sv (mg_framed hn V24 hc M24.2.2.1 M24.2.2.2.1 (by omega) cl (fv_c (agd_c (nfl_agd N24)) F0.1)) ?_; intro u27 P27
          obtain ⟨⟨V27, N27, b27⟩, q27⟩ := P27
          have g98 := gF_160_98 V24
          refine ok_wA (by omega) ?_; intro h28 E28
          have V28 : VS_ h28 := by rw [E28]; exact wA_243 V27 (by omega)
          have N28 : NFl h h28 := nfl_tr N24 (nfl_tr (nfl_12 N27) (fun x j p q => by rw [E28, up_n (by omega)]))
          have M28 : MC h28 c k w := nfl_mc N28 M
          have D28 : ∀ y : Int, 0 ≤ y → y < i + 1 → (y < n → h28 243 y.toNat = L y) ∧ (n ≤ y → h28 243 y.toNat = 0) := fun y y1 y2 => by
            by_cases y0 : y = i
            · rw [y0, E28, up_s]
              exact ⟨fun _ => q27, fun z => by exfalso; omega⟩
            · rw [E28, up_n (by omega), N27 243 _ (by omega), E24, up_n (by omega)]
              exact D y y1 (by omega)
          rw [M28.2.2.2.1]
          refine ok_sv (mv_bytew V28 hc M28.2.2.1 (by omega)) ?_; intro u31 P31
          have q31 := P31.1
          rcases F0.2 with b | b
          · rw [if_pos (show ¬ u31 = 3 by omega)]
            unfold qj_X13_becomes_77
            refine ok_add (by omega) ?_; intro v12 e12
            refine ok_add (by omega) ?_; intro v13 e13
            rw [e12, e13]
            exact ih (i + 1) (l2 + 1) h28 V28 N28 (by omega) (by omega) (fun _ => by rw [show (n - (i + 1)).toNat = q by omega]; exact b.2) D28 (by omega)
          · rw [if_neg (show ¬ ¬ u31 = 3 by omega)]
            unfold qj_X13_becomes_77
            refine ok_add (by omega) ?_; intro v12 e12
            refine ok_add (by omega) ?_; intro v13 e13
            rw [e12, e13]
            exact ih (i + 1) (l2 + 2) h28 V28 N28 (by omega) (by omega) (fun _ => by rw [show (n - (i + 1)).toNat = q by omega]; exact b.2.2) D28 (by omega)
        · refine ok_add (by omega) ?_; intro v33 e33
          rw [e33]
          refine ih (i + 1) l2 h24 V24 N24 a1 (by omega) (fun z => by exfalso; omega) (fun y y1 y2 => ?_) (by omega)
          by_cases y0 : y = i
          · rw [y0, E24, up_s]
            exact ⟨fun z => by exfalso; omega, fun _ => rfl⟩
          · rw [E24, up_n (by omega)]
            exact D y y1 (by omega)
  unfold qf_X13_becomes
  rw [M.2.2.2.1]
  refine ok_add (by omega) ?_; intro v36 e36
  refine ok_sv (mv_bytew V hc M.2.2.1 (by omega)) ?_; intro u39 P39
  have q39 := P39.1
  rw [e36] at q39
  refine ok_add (by omega) ?_; intro v40 e40
  rw [show v40 = u + 3 by omega, show u39 = n by omega]
  exact T nn 0 (u + 3) h V nfl_rf (by omega) (by omega) (fun _ => by rw [show n - 0 = n by omega]; exact t1) (fun y y1 y2 => by exfalso; omega) (by omega)
/-- the places of handler i -/
def hpl (h : ms_M) (c k i : Int) : Int := h 236 (12 * c + k).toNat + 1 + 7 * i
/-- all handlers around q fit -/
def HDO (nn : Nat) (h : ms_M) (c k : Int) (w : ms_M) (q : Int) (r : ms_M) : Prop := ∀ i : Int, 0 ≤ i → i < w 238 (h 236 (12 * c + k).toNat).toNat → pw (w 238 (hpl h c k i).toNat) (w 238 (hpl h c k i + 1).toNat) ≤ q → q < pw (w 238 (hpl h c k i + 2).toNat) (w 238 (hpl h c k i + 3).toNat) → ∃ (u n : Int) (L : Int → Int) (m : Int) (K : Int → Int) (t : Int), FFr h c k w (pw (w 238 (hpl h c k i + 4).toNat) (w 238 (hpl h c k i + 5).toNat)) u ∧ (FRT nn h c w u n L m K ∧ n ≤ h 160 129 ∧ m = 1) ∧ (∀ y : Int, 0 ≤ y → y < n → GOt nn h (r 243 y.toNat) (L y)) ∧ CTv nn h c w (w 238 (hpl h c k i + 6).toNat) t ∧ GOt nn h t (K 0)
/-- what the handlers' check told -/
def HDK (nn : Nat) (h : ms_M) (c k : Int) (w : ms_M) : Prop := ∀ i : Int, 0 ≤ i → i < w 238 (h 236 (12 * c + k).toNat).toNat → CFd nn h c w (w 238 (hpl h c k i + 6).toNat) ∧ HFr h c k w (pw (w 238 (hpl h c k i + 4).toNat) (w 238 (hpl h c k i + 5).toNat)) ∧ ∃ u : Int, (0 ≤ u ∧ u < 8 + h 160 98) ∧ CTv nn h c w (w 238 (hpl h c k i + 6).toNat) (4 + 2 * u)
theorem ml_handled (hn : 1000000 ≤ nn) (V : VS_ h) (S : SPD h) (M : MC h c k w) (LG : LGT h) (HK : HDK nn h c k w) (FK : ∀ u : Int, FRu h c k w u → FOK nn h c k w u) {q : Int} : Ok_ (qf_X13_handled nn q h) (fun x => VS_ x.2 ∧ N12 h x.2 ∧ (x.1 = 0 ∨ x.1 = 1) ∧ (¬ x.1 = 0 → HDO nn h c k w q h)) := by
  have M0 := M
  have g3 := gF_160_113 M.2.2.1.1
  obtain ⟨hc, hk, W, e2, e3, _⟩ := M
  obtain ⟨k12, _, mt⟩ := wi_mt W hc hk
  obtain ⟨⟨f1, f2⟩, f3, f4, f5, _⟩ := mth_fr mt
  have p0 := gA_236 V (12 * c + k).toNat (by omega)
  have b6 := gA_238 W.1 (h 236 (12 * c + k).toNat).toNat (by omega)
  have T : ∀ (j : Nat) (i : Int) (f : ms_M), VS_ f → N12 h f → (0 ≤ i ∧ i ≤ w 238 (h 236 (12 * c + k).toNat).toNat) → w 238 (h 236 (12 * c + k).toNat).toNat - i < (j : Int) → Ok_ (qw_X13_handled_20 nn j q (h 236 (12 * c + k).toNat) i f) (fun x => VS_ x.2 ∧ N12 h x.2 ∧ (x.1 = 0 ∨ x.1 = 1) ∧ (¬ x.1 = 0 → ∀ y : Int, i ≤ y → y < w 238 (h 236 (12 * c + k).toNat).toNat → pw (w 238 (hpl h c k y).toNat) (w 238 (hpl h c k y + 1).toNat) ≤ q → q < pw (w 238 (hpl h c k y + 2).toNat) (w 238 (hpl h c k y + 3).toNat) → ∃ (u n : Int) (L : Int → Int) (m : Int) (K : Int → Int) (t : Int), FFr h c k w (pw (w 238 (hpl h c k y + 4).toNat) (w 238 (hpl h c k y + 5).toNat)) u ∧ (FRT nn h c w u n L m K ∧ n ≤ h 160 129 ∧ m = 1) ∧ (∀ y : Int, 0 ≤ y → y < n → GOt nn h (h 243 y.toNat) (L y)) ∧ CTv nn h c w (w 238 (hpl h c k y + 6).toNat) t ∧ GOt nn h t (K 0))) := by
    intro j
    induction j with
    | zero => intro i f Vf N a hm; exfalso; omega
    | succ j ih =>
      intro i f Vf N a hm
      have Mf : MC f c k w := nfl_mc (nfl_12 N) M0
      have Af := n12_agd N
      unfold qw_X13_handled_20
      rw [Mf.2.2.2.1]
      refine ok_sv (mv_bytew Vf hc Mf.2.2.1 (by omega)) ?_; intro u3 P3
      have q3 := P3.1
      refine ok_if (fun C => ok_ret ⟨Vf, N, .inr rfl, fun _ y y1 y2 => by exfalso; omega⟩) (fun C => ?_)
      refine ok_add (by omega) ?_; intro v4 e4
      refine ok_mul (by omega) ?_; intro v5 e5
      refine ok_add (by omega) ?_; intro v6 e6
      have e6' : v6 = hpl h c k i := by unfold hpl; omega
      have lim : 0 ≤ v6 ∧ v6 + 7 < w 160 113 := by omega
      have nxt : ∀ (f2 : ms_M), VS_ f2 → N12 h f2 → (pw (w 238 (hpl h c k i).toNat) (w 238 (hpl h c k i + 1).toNat) ≤ q → q < pw (w 238 (hpl h c k i + 2).toNat) (w 238 (hpl h c k i + 3).toNat) → ∃ (u n : Int) (L : Int → Int) (m : Int) (K : Int → Int) (t : Int), FFr h c k w (pw (w 238 (hpl h c k i + 4).toNat) (w 238 (hpl h c k i + 5).toNat)) u ∧ (FRT nn h c w u n L m K ∧ n ≤ h 160 129 ∧ m = 1) ∧ (∀ y : Int, 0 ≤ y → y < n → GOt nn h (h 243 y.toNat) (L y)) ∧ CTv nn h c w (w 238 (hpl h c k i + 6).toNat) t ∧ GOt nn h t (K 0)) → Ok_ (qw_X13_handled_20 nn j q (h 236 (12 * c + k).toNat) (i + 1) f2) (fun x => VS_ x.2 ∧ N12 h x.2 ∧ (x.1 = 0 ∨ x.1 = 1) ∧ (¬ x.1 = 0 → ∀ y : Int, i ≤ y → y < w 238 (h 236 (12 * c + k).toNat).toNat → pw (w 238 (hpl h c k y).toNat) (w 238 (hpl h c k y + 1).toNat) ≤ q → q < pw (w 238 (hpl h c k y + 2).toNat) (w 238 (hpl h c k y + 3).toNat) → ∃ (u n : Int) (L : Int → Int) (m : Int) (K : Int → Int) (t : Int), FFr h c k w (pw (w 238 (hpl h c k y + 4).toNat) (w 238 (hpl h c k y + 5).toNat)) u ∧ (FRT nn h c w u n L m K ∧ n ≤ h 160 129 ∧ m = 1) ∧ (∀ y : Int, 0 ≤ y → y < n → GOt nn h (h 243 y.toNat) (L y)) ∧ CTv nn h c w (w 238 (hpl h c k y + 6).toNat) t ∧ GOt nn h t (K 0))) := fun f2 V2 N2 o => ok_im (ih (i + 1) f2 V2 N2 (by omega) (by omega)) (fun x P => ⟨P.1, P.2.1, P.2.2.1, fun z y y1 y2 => by
          by_cases y0 : y = i
          · rw [y0]; exact o
          · exact P.2.2.2 z y (by omega) y2⟩)
      refine ok_sv (mv_pairw Vf hc Mf.2.2.1 Mf.2.2.2.1 (by omega)) ?_; intro u8 P8
      have q8 := P8.2
      rw [e6'] at q8
      refine ok_if (fun D => ?_) (fun D => ?_)
      · refine ok_add (by omega) ?_; intro v9 e9
        rw [e9]
        exact nxt f Vf N (fun z _ => by exfalso; omega)
      refine ok_add (by omega) ?_; intro v10 e10
      refine ok_sv (mv_pairw Vf hc Mf.2.2.1 Mf.2.2.2.1 (by omega)) ?_; intro u12 P12
      have q12 := P12.2
      rw [e10, e6', show hpl h c k i + 2 + 1 = hpl h c k i + 3 by omega] at q12
      refine ok_if (fun E => ?_) (fun E => ?_)
      · refine ok_add (by omega) ?_; intro v13 e13
        refine ok_sv (mv_pairw Vf hc Mf.2.2.1 Mf.2.2.2.1 (by omega)) ?_; intro u15 P15
        have q15 := P15.2
        rw [e13, e6', show hpl h c k i + 4 + 1 = hpl h c k i + 5 by omega] at q15
        obtain ⟨cf, hf, _⟩ := HK i a.1 (by omega)
        refine ok_sv (mv_for3 hn Vf Mf) ?_; intro u17 P17
        have ff : FRa w c u17 ∧ FRu h c k w u17 ∧ FFr h c k w (pw (w 238 (hpl h c k i + 4).toNat) (w 238 (hpl h c k i + 5).toNat)) u17 := by
          rw [q15] at P17
          rcases P17 with P | ⟨⟨P1, P2⟩, P3⟩
          · have nf := P.2
            unfold HFr at nf hf
            rw [N 237 _ (by omega)] at nf
            exact absurd hf nf
          · unfold FRu at P2 ⊢
            unfold FFr at P3 ⊢
            rw [N 237 _ (by omega)] at P2 P3
            exact ⟨P1, P2, P3⟩
        have fk := FK u17 ff.2.1
        obtain ⟨n, L, m, K, F, fn, fm⟩ := frt_of hc W ff.1.1 fk
        have Ff := frt_c (agd_c Af) F
        refine ok_sv (ml_locals hn Vf (agd_spd V Af S) Mf (lgt_12 N LG) Ff (by rw [N 160 129 (by decide)]; exact fn)) ?_; intro u19 P19
        obtain ⟨V19, N19, _, lf⟩ := P19
        have N19' := n12_tr N N19
        refine ok_if (fun Y => ?_) (fun Y => ok_ret ⟨V19, N19', .inl rfl, fun y => absurd rfl y⟩)
        have lf2 : ∀ y : Int, 0 ≤ y → y < n → GOt nn h (h 243 y.toNat) (L y) := fun y y1 y2 => by
          have := got_c (agd_sy Af) (lf Y y y1 y2)
          rw [N 243 _ (by omega)] at this
          exact this
        have M19 : MC u19.2 c k w := nfl_mc (nfl_12 N19') M0
        have A19 := n12_agd N19'
        obtain ⟨⟨u0, en⟩, aa, bb, t1, em, t2, lb⟩ := F
        have l1 := ty_le _ _ _ (ftn_ty _ _ _ _ t1)
        have l2 := ty_le _ _ _ (ftn_ty _ _ _ _ t2)
        have tr : TYr w c (u17 + 2) aa := by
          unfold TYr
          rw [← en, show u17 + 2 + 1 = u17 + 3 by omega]
          exact ftn_ty _ _ _ _ t1
        refine ok_add (by omega) ?_; intro v20 e20
        refine ok_sv (mv_ends hn V19 hc M19.2.2.1 M19.2.2.2.1 (q := aa) (by omega) (by omega) (by rw [e20]; exact tr)) ?_; intro u22 P22
        rw [P22, M19.2.2.2.1]
        refine ok_sv (mv_bytew V19 hc M19.2.2.1 (by omega)) ?_; intro u25 P25
        have q25 := P25.1
        refine ok_if (fun Y2 => ok_ret ⟨V19, N19', .inl rfl, fun y => absurd rfl y⟩) (fun Y2 => ?_)
        have m1 : m = 1 := by omega
        refine ok_add (by omega) ?_; intro v28 e28
        refine ok_sv (mv_bytew V19 hc M19.2.2.1 (by omega)) ?_; intro u30 P30
        have q30 := P30.1
        rw [e28, e6'] at q30
        have cl := f3 i a.1 (by omega)
        rw [show h 236 (12 * c + k).toNat + 1 + 7 * i + 6 = hpl h c k i + 6 from rfl] at cl
        obtain ⟨t, ct⟩ := ctv_ex hc W cl cf
        refine ok_sv (rg_typeOf hn V19 hc M19.2.2.1 (i := u30) (t := t) (by rw [q30]; exact cl) (by rw [q30]; exact ctv_c (agd_c A19) ct)) ?_; intro u32 P32
        obtain ⟨⟨V32, N32, b32⟩, q32⟩ := P32
        have N32' := n12_tr N19' N32
        have A32 := n12_agd N32'
        have M32 : MC u32.2 c k w := nfl_mc (nfl_12 N32') M0
        refine ok_add (by omega) ?_; intro v33 e33
        have t2' : FTn nn h c w K 1 0 (aa + 1) bb := by rw [show (1 : Nat) = m.toNat by omega]; exact t2
        have cl2 : w 238 v33.toNat = 3 → v33 + 1 < w 160 113 ∧ CL w c (w 238 (v33 + 1).toNat) := fun y => by
          rw [e33] at y ⊢
          rcases t2'.2 with b | b
          · exfalso; omega
          · have := ty_le _ _ _ (ftn_ty _ _ _ _ b.2.2)
            exact ⟨by omega, b.2.1⟩
        refine ok_sv (mg_framed hn V32 hc M32.2.2.1 M32.2.2.2.1 (t := K 0) (by omega) cl2 (by rw [e33]; exact fv_c (agd_c A32) t2'.1)) ?_; intro u35 P35
        obtain ⟨⟨V35, N35, b35⟩, q35⟩ := P35
        have N35' := n12_tr N32' N35
        have A35 := n12_agd N35'
        have g98 := gF_160_98 V19
        have f98 : u32.2 160 98 = u19.2 160 98 := N32 160 98 (by decide)
        have f98' : u35.2 160 98 = u32.2 160 98 := N35 160 98 (by decide)
        refine ok_sv (rg_goes hn V35 (agd_spd V A35 S) (a := u32.1) (b := u35.1) ⟨by omega, by omega⟩ (by omega)) ?_; intro u37 P37
        refine ok_if (fun Y3 => ?_) (fun Y3 => ok_ret ⟨V35, N35', .inl rfl, fun y => absurd rfl y⟩)
        refine ok_add (by omega) ?_; intro v38 e38
        rw [e38]
        refine nxt u35.2 V35 N35' (fun _ _ => ⟨u17, n, L, m, K, t, ff.2.2, ⟨⟨⟨u0, en⟩, aa, bb, t1, em, t2, lb⟩, fn, m1⟩, lf2, ct, ?_⟩)
        have := got_c (agd_sy A35) (P37.2 Y3)
        rw [q32, q35] at this
        exact this
      · refine ok_add (by omega) ?_; intro v42 e42
        rw [e42]
        exact nxt f Vf N (fun _ z => by exfalso; omega)
  unfold qf_X13_handled
  rw [e2, e3]
  refine ok_mul (by omega) ?_; intro v48 e48
  refine ok_add (by omega) ?_; intro v50 e50
  refine ok_rd (by omega) (gA_236 V) ?_; intro v51 e51 _ _
  rw [e50, e48] at e51
  rw [e51]
  exact T nn 0 h V (fun _ _ _ => rfl) (by omega) (by omega)
end

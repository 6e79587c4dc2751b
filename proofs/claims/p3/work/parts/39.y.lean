theorem ok_any {α β : Type} {Q : α → Prop} {v : β} {F : β → Option α} (h : ∀ z, Ok_ (F z) Q) : Ok_ (xl v F) Q := h v
theorem vs_w43 {M : ms_M} (h : VS_ M) {c k : Nat} {y : Int} (hc : c = 43 ∨ c = 55) (hy : y = -1 ∨ (0 ≤ y ∧ y.toNat < cn_M M ∧ ly_T y.toNat = 1 ∧ ln_I M y.toNat ≤ 6000)) : VS_ (up_M M c k y) := by
  obtain ⟨h1, h2, h3, h4, h5, h6, h7, h8⟩ := h
  have A : ∀ c2, c2 ≠ c → up_M M c k y c2 = M c2 := fun c2 z => up_ne c2 z
  have e9 : up_M M c k y 900000 = M 900000 := A _ (by omega)
  have e8 : up_M M c k y 900001 = M 900001 := A _ (by omega)
  have ec : cn_M (up_M M c k y) = cn_M M := by unfold cn_M; rw [e9]
  have el : ∀ d, ln_I (up_M M c k y) d = ln_I M d := by intro d; unfold ln_I; rw [e8]
  have hcn : (cn_M M : Int) = M 900000 0 := by unfold cn_M; have := h2.1; omega
  have yr : -2147483648 ≤ y ∧ y ≤ 2147483647 := by have := h2.1; omega
  have nI : ∀ b, kc_O b = 3 → b ≠ c := by
    intro b hb
    rcases hc with rfl | rfl
    · exact nI_ hb rfl
    · exact nI_ hb rfl
  refine ⟨?_, ?_, ?_, ?_, ?_, ?_, ?_, ?_⟩
  · intro c2 k2 hc2 hk2
    by_cases w : c2 = c ∧ k2 = k
    · obtain ⟨rfl, rfl⟩ := w
      rw [up_s]
      rcases hc with rfl | rfl <;> (show -1 ≤ y ∧ y ≤ 2147483647; omega)
    · rw [up_n w]; exact h1 c2 k2 hc2 hk2
  · rw [e9, e8]; exact h2
  · intro b hb; rw [A b (nI b hb), ec, el]; exact h3 b hb
  · intro d j hd hd2 hj
    rw [el] at hj
    rw [A d (by omega)]; exact h4 d j hd hd2 hj
  · intro j hj; rw [A 60 (by omega)]; exact h5 j hj
  · rw [A 56 (by omega), A 127 (by omega), A 143 (by omega)]; exact h6
  · intro j hj
    by_cases w : 43 = c ∧ j = k
    · obtain ⟨rfl, rfl⟩ := w
      rw [up_s, ec, el]; intro q
      rcases hy with z | z
      · omega
      · exact z.2
    · rw [up_n w, ec, el]; exact h7 j hj
  · intro j hj
    by_cases w : 55 = c ∧ j = k
    · obtain ⟨rfl, rfl⟩ := w
      rw [up_s, ec, el]; intro q
      rcases hy with z | z
      · omega
      · exact z.2
    · rw [up_n w, ec, el]; exact h8 j hj
theorem cpn_fr {nn : Nat} {a1 : Int} {a2 : Nat} {a3 : Int} {h r : ms_M} (e : qf_X9_copyName nn a1 a2 a3 h = some r) : ∀ c k, c ≠ a2 → r c k = h c k := by
  unfold qf_X9_copyName at e
  obtain ⟨z, -, e⟩ := sv_i e
  split at e
  · cases e; intros; rfl
  · unfold xl ln_S at e
    dsimp only at e
    split at e
    · split at e
      · cases e; intros; rfl
      · split at e
        · cases e; intros; rfl
        · have e := rd_i e
          have e := cp_i e
          have e := Option.some.inj e
          intro c k hc
          rw [← e]; unfold cp_M; rw [if_neg (by omega)]
    · cases e
def WQ_ (a : Nat) (h r : ms_M) : Prop := VS_ r ∧ ∀ c k, c ≠ a → r c k = h c k
theorem ok_cV2 {α : Type} {Q : α → Prop} {x : Option ms_M} {F : ms_M → Option α} {a : Nat} {h : ms_M} (hx : Ok_ x (WQ_ a h)) (g : ∀ z, x = some z → VS_ z → (∀ c k, c ≠ a → z c k = h c k) → Ok_ (F z) Q) : Ok_ (mx_sv x F) Q := by
  obtain ⟨z, e, hq⟩ := hx
  rw [e, mx_svs]; exact g z e hq.1 hq.2
theorem cn_b {M : ms_M} (V : VS_ M) {c : Nat} (h : c < cn_M M) : c < 700000 := by
  have h1 := V.2.1.1
  unfold cn_M at h; omega
theorem ln_up {M : ms_M} {c d k : Nat} {v : Int} (hc : c < 900000) : ln_I (up_M M c k v) d = ln_I M d := by
  unfold ln_I; rw [up_n (by omega)]
theorem vw_X6_writeConstant_83 {nn : Nat} {l1 : Int} {l2 : Nat} {l3 l4 : Int} (r1 : 0 ≤ l1 ∧ l1 ≤ 200) (r3 : 0 ≤ l3 ∧ l3 ≤ 100000) (r4 : l4 ≤ 7000) : ∀ (k : Nat) (l5 : Int) (h : ms_M), VS_ h → 1 ≤ l5 ∧ l5 ≤ 7001 → l2 < cn_M h ∧ ly_T l2 = 1 → l3 + l4 ≤ ln_I h l2 → 7001 - l5 < (k : Int) → Ok_ (qw_X6_writeConstant_83 nn k l1 l2 l3 l4 l5 h) (WQ_ l2 h) := by
  intro k
  induction k with
  | zero => intros; exfalso; omega
  | succ k ih =>
    intro l5 h V a t hL hm
    have q := cn_b V t.1
    unfold qw_X6_writeConstant_83
    refine ok_if ?_ ?_
    · intro _; exact ok_ret ⟨V, fun _ _ _ => rfl⟩
    · intro C1
      refine ok_add (by omega) ?_; intro v1 e1
      refine ok_rd (by omega) (gA_47 V) ?_; intro v3 _ _ _
      refine ok_any ?_; intro v4
      refine ok_any ?_; intro v5
      refine ok_any ?_; intro v6
      refine ok_any ?_; intro v7
      refine ok_any ?_; intro v8
      refine ok_wT V t (by omega) ?_; intro h9 E9 V9
      refine ok_add (by omega) ?_; intro v10 e10
      have c9 : cn_M h9 = cn_M h := by rw [E9]; exact cn_up (by omega)
      have n9 : ln_I h9 l2 = ln_I h l2 := by rw [E9]; exact ln_up (by omega)
      obtain ⟨r, er, hr⟩ := ih v10 h9 V9 (by omega) ⟨by rw [c9]; exact t.1, t.2⟩ (by rw [n9]; exact hL) (by omega)
      exact ⟨r, er, hr.1, fun c k hc => by rw [hr.2 c k hc, E9]; exact up_n (by omega)⟩
theorem vf_X6_writeConstant {nn : Nat} (hn : 1000000 ≤ nn) {a1 : Int} {a2 : Nat} {a3 : Int} {h : ms_M} (r1 : 0 ≤ a1 ∧ a1 ≤ 200) (r3 : 0 ≤ a3 ∧ a3 ≤ 6000) (V : VS_ h) (t : a2 < cn_M h ∧ ly_T a2 = 1) (hL : ln_I h a2 ≤ 6000) (N : NM_ h) : Ok_ (qf_X6_writeConstant nn a1 a2 a3 h) (WQ_ a2 h) := by
  have q := cn_b V t.1
  unfold qf_X6_writeConstant
  refine ok_rd (by omega) (gA_46 V) ?_; intro v13 _ a13 b13
  refine ok_rd (by omega) (gA_47 V) ?_; intro v15 _ a15 b15
  refine ok_cP (vf_X6_bytesOf hn (by omega) (by omega) (by omega) (by omega) V N) ?_; intro u17 e17 a17 b17
  refine ok_if ?_ ?_
  · intro _; exact ok_ret ⟨V, fun _ _ _ => rfl⟩
  · intro _
    refine ok_add (by omega) ?_; intro v18 e18
    refine ok_lS t ?_; intro v19 e19
    refine ok_if ?_ ?_
    · intro C2
      refine ok_rd (by omega) (gA_46 V) ?_; intro v21 e21 _ _
      refine ok_any ?_; intro v22
      refine ok_wT V t (by omega) ?_; intro h23 E23 V23
      have c23 : cn_M h23 = cn_M h := by rw [E23]; exact cn_up (by omega)
      have n23 : ln_I h23 a2 = ln_I h a2 := by rw [E23]; exact ln_up (by omega)
      refine ok_rd (by omega) (gA_46 V23) ?_; intro v25 e25 _ _
      refine ok_if ?_ ?_
      · intro _
        obtain ⟨r, er, hr⟩ := vw_X6_writeConstant_83 (nn := nn) (l2 := a2) (l3 := a3) (l4 := u17) r1 (by omega) (by omega) nn 1 h23 V23 (by omega) ⟨by rw [c23]; exact t.1, t.2⟩ (by rw [n23]; omega) (by omega)
        exact ⟨r, er, hr.1, fun c k hc => by rw [hr.2 c k hc, E23]; exact up_n (by omega)⟩
      · intro C3
        refine ok_add (by omega) ?_; intro v26 e26
        refine ok_any ?_; intro v27
        refine ok_any ?_; intro v28
        refine ok_wT V23 ⟨by rw [c23]; exact t.1, t.2⟩ (by rw [n23]; omega) ?_; intro h29 E29 V29
        refine ok_rd (by omega) (gA_47 V29) ?_; intro v32 e32 a32 b32
        refine ok_add (by omega) ?_; intro v33 e33
        have c29 : cn_M h29 = cn_M h23 := by rw [E29]; exact cn_up (by omega)
        refine ok_cV (vf_X9_copyName hn (by omega) (by omega) (by omega) (by omega) V29 ⟨by rw [c29, c23]; exact t.1, t.2⟩) ?_; intro u35 E35 V35
        exact ok_ret ⟨V35, fun c k hc => by rw [cpn_fr E35 c k hc, E29, up_n (by omega), E23]; exact up_n (by omega)⟩
    · intro _; exact ok_ret ⟨V, fun _ _ _ => rfl⟩
theorem by_cg {nn : Nat} {a b : Int} {h m : ms_M} (h2 : ∀ k, m 2 k = h 2 k) (h7 : ∀ k, m 7 k = h 7 k) : qf_X6_bytesOf nn a b m = qf_X6_bytesOf nn a b h := by
  have e : qf_X9_nameLength nn b m = qf_X9_nameLength nn b h := by
    unfold qf_X9_nameLength rd_A
    simp only [h2, h7]
  unfold qf_X6_bytesOf
  rw [e]
theorem is_un {nn f : Nat} {a l y : Int} {h : ms_M} (e : qw_X6_imageSize_9 nn f a l h = some y) : (h 45 4 < l ∧ a = y) ∨ (l ≤ h 45 4 ∧ ∃ g u, qf_X6_bytesOf nn (h 46 l.toNat) (h 47 l.toNat) h = some u ∧ qw_X6_imageSize_9 nn g (oq_add a u) (oq_add l 1) h = some y) := by
  cases f with
  | zero => cases e
  | succ f =>
    unfold qw_X6_imageSize_9 at e
    split at e
    · cases e; left; exact ⟨by assumption, rfl⟩
    · right
      refine ⟨by omega, ?_⟩
      have e := rd_i e
      have e := rd_i e
      obtain ⟨u, e1, e2⟩ := sv_i e
      exact ⟨f, u, e1, e2⟩
theorem is_ge {nn : Nat} (hn : 1000000 ≤ nn) {y : Int} {h : ms_M} (V : VS_ h) (N : NM_ h) : ∀ (j : Nat) (f : Nat) (a l : Int), 202 - l ≤ (j : Int) → 1 ≤ l → 0 ≤ a → a ≤ 1000100000 + 7000 * l → qw_X6_imageSize_9 nn f a l h = some y → a ≤ y := by
  intro j
  induction j with
  | zero =>
    intro f a l h1 h2 h3 h4 e
    have g := gF_45_4 V
    rcases is_un e with ⟨_, z⟩ | ⟨z, _⟩
    · omega
    · omega
  | succ j ih =>
    intro f a l h1 h2 h3 h4 e
    have g := gF_45_4 V
    rcases is_un e with ⟨_, z⟩ | ⟨z, f2, u, e1, e2⟩
    · omega
    · have r46 := gA_46 V l.toNat (by omega)
      have r47 := gA_47 V l.toNat (by omega)
      obtain ⟨u2, e3, q⟩ := vf_X6_bytesOf hn r46.1 r46.2 r47.1 r47.2 V N
      rw [e3] at e1; cases e1
      have q1 := q.1
      have q2 := q.2
      rw [oq_add_eq (by omega) (by omega) (by omega), oq_add_eq (by omega) (by omega) (by omega)] at e2
      have := ih f2 _ _ (by omega) (by omega) (by omega) (by omega) e2
      omega
/-- what the loop of closeImage gives -/
def CQ_ (l1 : Nat) (h : ms_M) (c s : Nat) : Int × ms_M × Nat × Nat → Prop := fun r => VS_ r.2.1 ∧ r.1 = ((l1 : Nat) : Int) ∧ (∀ a j, a ≠ l1 → r.2.1 a j = h a j) ∧ r.2.2.1 = c ∧ r.2.2.2 = s
theorem vw_X6_closeImage_40 {nn : Nat} (hn : 1000000 ≤ nn) {l1 : Nat} {h0 : ms_M} {y : Int} (hl : 256 ≤ l1) (V0 : VS_ h0) (N0 : NM_ h0) (hy : 3 ≤ y ∧ y ≤ 6000) : ∀ (k : Nat) (l2 l3 : Int) (h : ms_M) (c s : Nat), VS_ h → (∀ a j, a < 256 → h a j = h0 a j) → l1 < cn_M h ∧ ly_T l1 = 1 → ln_I h l1 = y → (1 ≤ l3 ∧ l3 ≤ 201) → 3 ≤ l2 → l2 ≤ 6000 → (∃ f, qw_X6_imageSize_9 nn f (l2 + h0 45 7) l3 h0 = some y) → 202 - l3 < (k : Int) → Ok_ (qw_X6_closeImage_40 nn k l1 l2 l3 h c s) (CQ_ l1 h c s) := by
  intro k
  induction k with
  | zero => intro l2 l3 h c s V A t hL r3 r2 r2b ef hm; exfalso; omega
  | succ k ih =>
    intro l2 l3 h c s V A t hL r3 r2 r2b ⟨f, ef⟩ hm
    have q := cn_b V t.1
    have q4 := A 45 4 (by decide)
    have q7 := A 45 7 (by decide)
    have g4 := gF_45_4 V0
    have g7 := gF_45_7 V0
    have N : NM_ h := nm_eq N0 (fun j => A 7 j (by decide)) (A 2 9 (by decide))
    have hge := is_ge hn V0 N0 (202 - l3).toNat f _ _ (by omega) r3.1 (by omega) (by omega) ef
    unfold qw_X6_closeImage_40
    refine ok_if ?_ ?_
    · intro C1
      rcases is_un ef with ⟨_, z⟩ | ⟨z, _⟩
      · have L1 := vi_ln (M := h) (show 48 < 256 by decide)
        have L2 : (ly_N 48 : Int) = 6000 := rfl
        refine ok_cpB V ⟨Nat.lt_of_lt_of_le (by decide) (vi_c V), rfl⟩ t (by omega) ?_; intro h4 V4 F4
        exact ok_ret ⟨V4, rfl, F4, rfl, rfl⟩
      · omega
    · intro C1
      rcases is_un ef with ⟨z, _⟩ | ⟨z, f2, u, e1, e2⟩
      · omega
      · refine ok_cV2 (vf_X6_writeConstant hn (by omega) (by omega) V t (by omega) N) ?_; intro u6 E6 V6 F6
        have A6 : ∀ a j, a < 256 → u6 a j = h0 a j := fun a j ha => by rw [F6 a j (by omega)]; exact A a j ha
        have N6 : NM_ u6 := nm_eq N0 (fun j => A6 7 j (by decide)) (A6 2 9 (by decide))
        refine ok_rd (by omega) (gA_46 V6) ?_; intro v8 e8 a8 b8
        refine ok_rd (by omega) (gA_47 V6) ?_; intro v10 e10 a10 b10
        refine ok_cP (vf_X6_bytesOf hn (by omega) (by omega) (by omega) (by omega) V6 N6) ?_; intro u12 e12 a12 b12
        rw [e8, e10, by_cg (h := h0) (fun j => A6 2 j (by decide)) (fun j => A6 7 j (by decide)), A6 46 _ (by decide), A6 47 _ (by decide), e1] at e12
        cases e12
        rw [oq_add_eq (by omega) (by omega) (by omega), oq_add_eq (by omega) (by omega) (by omega)] at e2
        have hge2 := is_ge hn V0 N0 (202 - l3).toNat f2 _ _ (by omega) (by omega) (by omega) (by omega) e2
        refine ok_add (by omega) ?_; intro v13 e13
        refine ok_add (by omega) ?_; intro v14 e14
        have c6 : cn_M u6 = cn_M h := by unfold cn_M; rw [F6 900000 0 (by omega)]
        have n6 : ln_I u6 l1 = ln_I h l1 := by unfold ln_I; rw [F6 900001 l1 (by omega)]
        have w : v13 + h0 45 7 = l2 + h0 45 7 + u := by omega
        obtain ⟨r, er, hr⟩ := ih v13 v14 u6 c s V6 A6 ⟨by rw [c6]; exact t.1, t.2⟩ (by rw [n6]; exact hL) (by omega) (by omega) (by omega) ⟨f2, by rw [w, e14]; exact e2⟩ (by omega)
        refine ⟨r, er, hr.1, hr.2.1, fun a j ha => ?_, hr.2.2.2⟩
        rw [hr.2.2.1 a j ha]; exact F6 a j ha
theorem ok_nw {α : Type} {Q : α → Prop} {M : ms_M} (V : VS_ M) (hc : M 900000 0 < 700000) {y : Int} (hy : 0 ≤ y ∧ y ≤ 2147483647) {G : Nat → ms_M → Option α} (g : ∀ (b : Nat) (z : ms_M), VS_ z → (256 ≤ b ∧ b < 700000) → (b < cn_M z ∧ ly_T b = 1) → ln_I z b = y → z 900000 0 = M 900000 0 + 1 → (∀ d k, d < 256 → z d k = M d k) → Ok_ (G b z) Q) : Ok_ (nw_B y M G) Q := by
  have hM := V.2.1.1
  obtain ⟨n1, n2, n3, n4, n5⟩ := vs_nw V (y := y) (f := fun _ => 0) hc hy.1 (fun k hk => by omega)
  have hcn : (cn_M M : Int) = M 900000 0 := by unfold cn_M; omega
  unfold nw_B
  rw [if_pos ⟨⟨hM.1, hc⟩, hy⟩]
  refine g _ _ n1 (by omega) ⟨by omega, ly_Tbig (by omega)⟩ n5 ?_ (fun d k hd => by rw [n3 d (by omega) (by omega)])
  unfold nw_M; rw [if_neg (by omega), if_pos ⟨rfl, rfl⟩]
/-- what closeImage gives -/
def IQ_ (h : ms_M) : Int × ms_M × Nat × Nat → Prop := fun r => VS_ r.2.1 ∧ (0 ≤ r.1 ∧ r.1.toNat < cn_M r.2.1 ∧ ly_T r.1.toNat = 1 ∧ ln_I r.2.1 r.1.toNat ≤ 6000) ∧ (∀ a j, a < 256 → r.2.1 a j = h a j) ∧ r.2.1 900000 0 = h 900000 0 + 1 ∧ r.2.2.1 ≤ 1 ∧ r.2.2.2 ≤ 6000
theorem vf_X6_closeImage {nn : Nat} (hn : 1000000 ≤ nn) {h : ms_M} (V : VS_ h) (N : NM_ h) (hc : h 900000 0 < 700000) : Ok_ (qf_X6_closeImage nn h) (IQ_ h) := by
  have g7 := gF_45_7 V
  unfold qf_X6_closeImage
  refine ok_cP (vf_X6_isTooMuch hn V N) ?_; intro u17 e17 a17 b17
  refine ok_if ?_ ?_
  · intro C1
    refine ok_cP (vf_X6_imageSize hn V N) ?_; intro u19 e19 a19 b19
    have s6 : u19 ≤ 6000 := by
      rw [C1] at e17
      unfold qf_X6_isTooMuch at e17
      split at e17
      · cases e17
      · obtain ⟨z, e1, e2⟩ := sv_i e17
        rw [e19] at e1; cases e1
        split at e2
        · assumption
        · cases e2
    refine ok_ck (by omega) ?_
    refine ok_nw V hc (by omega) ?_; intro b h1 V1 hb t1 n1 z1 A1
    refine ok_wT V1 t1 (by rw [n1]; omega) ?_; intro h22 E22 V22
    have c22 : cn_M h22 = cn_M h1 := by rw [E22]; exact cn_up (by omega)
    have n22 : ln_I h22 b = u19 := by rw [E22, ln_up (by omega)]; exact n1
    refine ok_wT V22 ⟨by rw [c22]; exact t1.1, t1.2⟩ (by rw [n22]; omega) ?_; intro h23 E23 V23
    have c23 : cn_M h23 = cn_M h22 := by rw [E23]; exact cn_up (by omega)
    have n23 : ln_I h23 b = u19 := by rw [E23, ln_up (by omega)]; exact n22
    refine ok_any ?_; intro v25
    refine ok_wT V23 ⟨by rw [c23, c22]; exact t1.1, t1.2⟩ (by rw [n23]; omega) ?_; intro h26 E26 V26
    have c26 : cn_M h26 = cn_M h23 := by rw [E26]; exact cn_up (by omega)
    have n26 : ln_I h26 b = u19 := by rw [E26, ln_up (by omega)]; exact n23
    have A26 : ∀ a j, a ≠ b → h26 a j = h1 a j := fun a j ha => by rw [E26, up_n (by omega), E23, up_n (by omega), E22, up_n (by omega)]
    have e2 : qw_X6_imageSize_9 nn nn (3 + h 45 7) 1 h = some u19 := by
      have := e19
      unfold qf_X6_imageSize xl at this
      rw [oq_add_eq (by omega) (by omega) (by omega)] at this
      exact this
    obtain ⟨r, er, hr⟩ := vw_X6_closeImage_40 hn hb.1 V N ⟨a19, s6⟩ nn 3 1 h26 (0 + 1) (0 + u19.toNat) V26 (fun a j ha => by rw [A26 a j (by omega)]; exact A1 a j ha) ⟨by rw [c26, c23, c22]; exact t1.1, t1.2⟩ n26 (by omega) (by omega) (by omega) ⟨nn, e2⟩ (by omega)
    obtain ⟨r1, r2, r3, r4, r5⟩ := hr
    have k1 : r.1.toNat = b := by rw [r2]; omega
    have k9 : r.2.1 900000 0 = h 900000 0 + 1 := by rw [r3 _ _ (by omega), A26 _ _ (by omega)]; exact z1
    refine ⟨r, er, r1, ⟨by rw [r2]; omega, ?_, by rw [k1]; exact t1.2, ?_⟩, ?_, k9, by rw [r4]; decide, by rw [r5]; omega⟩
    · rw [k1]; have q1 := t1.1; unfold cn_M at q1 ⊢; rw [k9, ← z1]; exact q1
    · rw [k1]
      have : ln_I r.2.1 b = ln_I h26 b := by unfold ln_I; rw [r3 900001 b (by omega)]
      rw [this, n26]; exact s6
    · intro a j ha
      rw [r3 a j (by omega), A26 a j (by omega)]; exact A1 a j ha
  · intro C1
    refine ok_ck (by omega) ?_
    refine ok_nw V hc (by omega) ?_; intro b h1 V1 hb t1 n1 z1 A1
    have k1 : (((b : Nat) : Int)).toNat = b := by omega
    refine ok_ret ⟨V1, ⟨Int.natCast_nonneg _, ?_, ?_, ?_⟩, A1, z1, Nat.le_refl _, Nat.zero_le _⟩
    · show (((b : Nat) : Int)).toNat < cn_M h1
      rw [k1]; exact t1.1
    · show ly_T (((b : Nat) : Int)).toNat = 1
      rw [k1]; exact t1.2
    · show ln_I h1 (((b : Nat) : Int)).toNat ≤ 6000
      rw [k1, n1]; decide
theorem ci_40 {nn : Nat} : ∀ (k : Nat) {l1 : Nat} {l2 l3 : Int} {h : ms_M} {c s : Nat} {u : Int × ms_M × Nat × Nat}, qw_X6_closeImage_40 nn k l1 l2 l3 h c s = some u → u.2.2.1 = c := by
  intro k
  induction k with
  | zero => intro _ _ _ _ _ _ _ e; cases e
  | succ k ih =>
    intro l1 l2 l3 h c s u e
    unfold qw_X6_closeImage_40 at e
    split at e
    · have e := cp_i e
      cases e; rfl
    · obtain ⟨u6, -, e⟩ := sv_i e
      have e := rd_i e
      have e := rd_i e
      obtain ⟨u12, -, e⟩ := sv_i e
      exact ih e
theorem wt_i {α : Type} {M : ms_M} {r : α} {c : Nat} {j v : Int} {G : ms_M → Option α} (e : wr_T c j v M G = some r) : G (up_M M c j.toNat (oq_b v)) = some r := by
  unfold wr_T at e; split at e
  · exact e
  · cases e
theorem ci_1 {nn : Nat} {h : ms_M} {u : Int × ms_M × Nat × Nat} (e : qf_X6_closeImage nn h = some u) : u.2.2.1 = 1 := by
  unfold qf_X6_closeImage at e
  obtain ⟨z, -, e⟩ := sv_i e
  split at e
  · obtain ⟨y, -, e⟩ := sv_i e
    obtain ⟨-, e⟩ := ck_i e
    unfold nw_B at e
    split at e
    · have e := wt_i e
      have e := wt_i e
      unfold xl at e
      have e := wt_i e
      exact ci_40 _ e
    · cases e
  · obtain ⟨-, e⟩ := ck_i e
    unfold nw_B at e
    split at e
    · cases e; rfl
    · cases e
theorem note_fr {nn : Nat} {a1 a2 : Int} {h r : ms_M} (e : qf_X0_noteMuch nn a1 a2 h = some r) : ∀ a j, ¬ (a = 33 ∧ j = 7) → r a j = h a j := by
  unfold qf_X0_noteMuch at e
  split at e
  · cases e; intros; rfl
  · split at e
    · cases e; intros; rfl
    · unfold xl at e
      have e := Option.some.inj e
      intro a j hj; rw [← e]; exact up_n hj
/-- what closeClass gives -/
def KQ_ (h : ms_M) : ms_M × Nat × Nat → Prop := fun r => VS_ r.1 ∧ (∀ a j, a < 256 → a ≠ 43 → ¬ (a = 33 ∧ j = 7) → r.1 a j = h a j) ∧ (h 900000 0 ≤ r.1 900000 0 ∧ r.1 900000 0 ≤ h 900000 0 + (r.2.1 : Int)) ∧ r.2.1 ≤ 1 ∧ r.2.2 ≤ 6000
theorem vf_X0_closeClass {nn : Nat} (hn : 1000000 ≤ nn) {a1 : Int} {h : ms_M} (r1 : 0 ≤ a1 ∧ a1 ≤ 333) (V : VS_ h) (N : NM_ h) (hc : h 900000 0 < 700000) : Ok_ (qf_X0_closeClass nn a1 h) (KQ_ h) := by
  unfold qf_X0_closeClass
  refine ok_cP (vf_X6_isTooMuch hn V N) ?_; intro u3 e3 a3 b3
  refine ok_cP (vf_X2_tokenOfClass hn (by omega) (by omega) V) ?_; intro u6 e6 a6 b6
  refine ok_cV (vf_X0_noteMuch hn (by omega) (by omega) (by omega) (by omega) V) ?_; intro u8 E8 V8
  have F8 := note_fr E8
  have z8 : u8 900000 0 = h 900000 0 := F8 _ _ (by omega)
  have N8 : NM_ u8 := nm_eq N (fun j => F8 7 j (by omega)) (F8 2 9 (by omega))
  have K0 : Ok_ (some (u8, 0, 0)) (KQ_ h) := ok_ret ⟨V8, fun a j _ _ hj => F8 a j hj, by show h 900000 0 ≤ u8 900000 0 ∧ u8 900000 0 ≤ h 900000 0 + ((0 : Nat) : Int); omega, Nat.zero_le _, Nat.zero_le _⟩
  refine ok_if (fun _ => K0) (fun _ => ?_)
  refine ok_if (fun _ => K0) (fun _ => ?_)
  refine ok_if (fun _ => K0) (fun _ => ?_)
  refine ok_if (fun _ => K0) (fun C4 => ?_)
  obtain ⟨u, eu, q1, q2, q3, q4, q5, q6⟩ := vf_X6_closeImage hn V8 N8 (by omega)
  rw [eu, mx_svs]
  unfold wr_QB
  rw [if_pos ⟨.inr ⟨q2.1, q2.2.1, q2.2.2.1⟩, by omega⟩]
  refine ok_ret ⟨vs_w43 q1 (.inl rfl) (.inr q2), ?_, ?_, ?_, ?_⟩
  · intro a j ha h43 h33
    show up_M u.2.1 43 a1.toNat u.1 a j = _
    rw [up_n (by omega), q3 a j ha]; exact F8 a j h33
  · show h 900000 0 ≤ up_M u.2.1 43 a1.toNat u.1 900000 0 ∧ up_M u.2.1 43 a1.toNat u.1 900000 0 ≤ h 900000 0 + ((0 + u.2.2.1 : Nat) : Int)
    rw [up_n (by omega)]
    have : u.2.2.1 = 1 := ci_1 eu
    omega
  · show 0 + u.2.2.1 ≤ 1; omega
  · show 0 + u.2.2.2 ≤ 6000; omega
theorem vw_X12_takeImages_13 {nn : Nat} : ∀ (k : Nat) (l1 : Int) (h : ms_M), VS_ h → 0 ≤ l1 ∧ l1 ≤ 8 → 8 - l1 < (k : Int) → Ok_ (qw_X12_takeImages_13 nn k l1 h) (fun r => VS_ r.2 ∧ ∀ a j, a ≠ 55 → r.2 a j = h a j) := by
  intro k
  induction k with
  | zero => intros; exfalso; omega
  | succ k ih =>
    intro l1 h V a hm
    unfold qw_X12_takeImages_13
    refine ok_if (fun _ => ok_ret ⟨V, fun _ _ _ => rfl⟩) (fun _ => ?_)
    refine ok_if (fun _ => ok_ret ⟨V, fun _ _ _ => rfl⟩) (fun C2 => ?_)
    have em : qf_X0_made nn l1 h = some (h 43 l1.toNat) := by
      unfold qf_X0_made; rw [if_neg (by omega), if_neg (by omega)]
      unfold rd_A; rw [if_pos (by omega)]
    rw [em, mx_svs]
    have lo : -1 ≤ h 43 l1.toNat := (vs_g V l1.toNat (show 43 < 256 by decide) (.inr (show l1.toNat < 8 by omega))).1
    have vv : h 43 l1.toNat = -1 ∨ (0 ≤ h 43 l1.toNat ∧ (h 43 l1.toNat).toNat < cn_M h ∧ ly_T (h 43 l1.toNat).toNat = 1 ∧ ln_I h (h 43 l1.toNat).toNat ≤ 6000) := by
      by_cases w : 0 ≤ h 43 l1.toNat
      · exact .inr ⟨w, V.2.2.2.2.2.2.1 l1.toNat (by omega) w⟩
      · left; omega
    unfold wr_QB
    rw [if_pos ⟨vv.imp id (fun z => ⟨z.1, z.2.1, z.2.2.1⟩), by omega⟩]
    refine ok_add (by omega) ?_; intro v11 e11
    obtain ⟨r, er, hr⟩ := ih v11 _ (vs_w43 (k := l1.toNat) V (.inr rfl) vv) (by omega) (by omega)
    exact ⟨r, er, hr.1, fun a j ha => by rw [hr.2 a j ha]; exact up_n (by omega)⟩
theorem vf_X12_takeImages {nn : Nat} (hn : 1000000 ≤ nn) {h : ms_M} (V : VS_ h) : Ok_ (qf_X12_takeImages nn h) (fun r => VS_ r.2 ∧ ∀ a j, a ≠ 55 → ¬ (a = 0 ∧ j = 7) → r.2 a j = h a j) := by
  have g := gF_11_2 V
  unfold qf_X12_takeImages
  refine ok_xl ?_; intro h16 E16
  have V16 : VS_ h16 := by rw [E16]; exact wF_0_7 V (by omega)
  obtain ⟨r, er, hr⟩ := vw_X12_takeImages_13 (nn := nn) nn 0 h16 V16 (by omega) (by omega)
  exact ⟨r, er, hr.1, fun a j ha hj => by rw [hr.2 a j ha, E16]; exact up_n hj⟩
/-- what compile gives: at most eight new rows of at most 6000 bytes -/
def PQ_ (n0 : Int) : Int × ms_M × Nat × Nat → Prop := fun r => VS_ r.2.1 ∧ NM_ r.2.1 ∧ (n0 ≤ r.2.1 900000 0 ∧ r.2.1 900000 0 ≤ n0 + (r.2.2.1 : Int)) ∧ r.2.2.1 ≤ 8 ∧ r.2.2.2 ≤ 48000
theorem vj_X12_compile_175 {nn : Nat} (hn : 1000000 ≤ nn) {h : ms_M} {c s : Nat} {n0 : Int} (V : VS_ h) (N : NM_ h) (z : n0 ≤ h 900000 0 ∧ h 900000 0 ≤ n0 + (c : Int)) (hc : c ≤ 8) (hs : s ≤ 48000) : Ok_ (qj_X12_compile_175 nn h c s) (PQ_ n0) := by
  unfold qj_X12_compile_175
  refine ok_cV (vf_X0_closeProgram hn V) ?_; intro u3 E3 V3
  have z3 : u3 900000 0 = h 900000 0 := (ff_X0_closeProgram nn) _ E3 900000 0 rfl
  have N3 : NM_ u3 := nm_eq N (fun k => (ff_X0_closeProgram nn) _ E3 7 k (nw_ar rfl k)) ((ff_X0_closeProgram nn) _ E3 2 9 rfl)
  refine ok_if (fun _ => ?_) (fun _ => ?_)
  · refine ok_ret ⟨V3, N3, ?_, hc, hs⟩
    show n0 ≤ u3 900000 0 ∧ u3 900000 0 ≤ n0 + (c : Int)
    rw [z3]; exact z
  · obtain ⟨u7, e7, V7, F7⟩ := vf_X12_takeImages hn V3
    rw [e7, mx_svs]
    refine ok_ret ⟨V7, nm_eq N3 (fun k => F7 7 k (by decide) (by omega)) (F7 2 9 (by decide) (by omega)), ?_, hc, hs⟩
    show n0 ≤ u7.2 900000 0 ∧ u7.2 900000 0 ≤ n0 + (c : Int)
    rw [F7 900000 0 (by decide) (by omega), z3]; exact z
theorem mo_ {nn : Nat} {a1 : Int} {h : ms_M} {u : Int} (e : qf_X2_methodsOf nn a1 h = some u) : u = 0 ∨ u = h 21 a1.toNat := by
  unfold qf_X2_methodsOf xl at e
  obtain ⟨z, -, e⟩ := sv_i e
  split at e
  · cases e; exact .inl rfl
  · have e := rd_i e
    cases e; exact .inr rfl
theorem vw_X12_compile_124 {nn : Nat} (hn : 1000000 ≤ nn) {kk : Int → ms_M → Nat → Nat → Option (Int × ms_M × Nat × Nat)} {l2 : Int} {c s : Nat} {n0 : Int} (r2 : 0 ≤ l2 ∧ l2 ≤ 7) {Q : Int × ms_M × Nat × Nat → Prop} (hc0 : n0 + (c : Int) < 700000) (hk : ∀ (v : Int) (h : ms_M) (c2 s2 : Nat), v = l2 + 1 → VS_ h → NM_ h → h 11 2 ≤ 8 → (n0 ≤ h 900000 0 ∧ h 900000 0 ≤ n0 + (c2 : Int)) → c2 ≤ c + 1 → s2 ≤ s + 6000 → Ok_ (kk v h c2 s2) Q) : ∀ (k : Nat) (l3 : Int) (h : ms_M), VS_ h → NM_ h → h 11 2 ≤ 8 → h 45 7 ≤ 100 + 3000100 * l3 → (n0 ≤ h 900000 0 ∧ h 900000 0 ≤ n0 + (c : Int)) → 0 ≤ l3 ∧ l3 ≤ 12 → 12 - l3 < (k : Int) → Ok_ (qw_X12_compile_124 nn kk k l2 l3 h c s) Q := by
  have H : ∀ h : ms_M, VS_ h → NM_ h → h 11 2 ≤ 8 → (n0 ≤ h 900000 0 ∧ h 900000 0 ≤ n0 + (c : Int)) → Ok_ (qj_X12_compile_161 nn kk l2 h c s) Q := by
    intro h V N h8 z
    unfold qj_X12_compile_161
    obtain ⟨u, eu, q1, q2, q3, q4, q5⟩ := vf_X0_closeClass hn (a1 := l2) (by omega) V N (by omega)
    rw [eu, mx_svs]
    refine ok_add (by omega) ?_; intro v12 e12
    exact hk v12 _ _ _ (by omega) q1 (nm_eq N (fun k => q2 7 k (by decide) (by decide) (by omega)) (q2 2 9 (by decide) (by decide) (by omega))) (by rw [q2 11 2 (by decide) (by decide) (by omega)]; exact h8) (by omega) (by omega) (by omega)
  intro k
  induction k with
  | zero => intros; exfalso; omega
  | succ k ih =>
    intro l3 h V N h8 b7 z r3 hm
    unfold qw_X12_compile_124
    refine ok_cP (vf_X2_methodsOf hn (by omega) (by omega) V) ?_; intro u15 e15 a15 b15
    have m := mo_ e15
    refine ok_if (fun _ => H h V N h8 z) (fun C1 => ?_)
    refine ok_if (fun _ => H h V N h8 z) (fun C2 => ?_)
    refine ok_cVR (vf_X0_makeMethod hn (by omega) (by omega) (by omega) (by omega) V (by omega) (by omega)) ?_; intro u20 E20 V20 R20
    refine ok_add (by omega) ?_; intro v21 e21
    have z20 : u20 900000 0 = h 900000 0 := (ff_X0_makeMethod nn) _ E20 900000 0 rfl
    have h20 : u20 11 2 = h 11 2 := (ff_X0_makeMethod nn) _ E20 11 2 rfl
    have N20 : NM_ u20 := nm_eq N (fun k => (ff_X0_makeMethod nn) _ E20 7 k (nw_ar rfl k)) ((ff_X0_makeMethod nn) _ E20 2 9 rfl)
    exact ih v21 u20 V20 N20 (by omega) (by omega) (by omega) (by omega) (by omega)
theorem vw_X12_compile_93 {nn : Nat} (hn : 1000000 ≤ nn) {n0 : Int} (hc0 : n0 + 8 < 700000) : ∀ (k : Nat) (l2 : Int) (h : ms_M) (c s : Nat), VS_ h → NM_ h → (¬ h 2 11 = 0 ∨ h 11 2 ≤ 8) → 0 ≤ l2 ∧ l2 ≤ 8 → (c : Int) ≤ l2 → (s : Int) ≤ 6000 * l2 → (n0 ≤ h 900000 0 ∧ h 900000 0 ≤ n0 + (c : Int)) → 8 - l2 < (k : Int) → Ok_ (qw_X12_compile_93 nn k l2 h c s) (PQ_ n0) := by
  intro k
  induction k with
  | zero => intros; exfalso; omega
  | succ k ih =>
    intro l2 h c s V N h8 r2 hc hs z hm
    unfold qw_X12_compile_93
    refine ok_if (fun _ => vj_X12_compile_175 hn V N z (by omega) (by omega)) (fun C1 => ?_)
    refine ok_if (fun _ => vj_X12_compile_175 hn V N z (by omega) (by omega)) (fun C2 => ?_)
    refine ok_cVR (vf_X0_beginClass hn (by omega) (by omega) V) ?_; intro u30 E30 V30 R30
    have z30 : u30 900000 0 = h 900000 0 := (ff_X0_beginClass nn) _ E30 900000 0 rfl
    have h30 : u30 11 2 = h 11 2 := (ff_X0_beginClass nn) _ E30 11 2 rfl
    have N30 : NM_ u30 := nm_eq N (fun k => (ff_X0_beginClass nn) _ E30 7 k (nw_ar rfl k)) ((ff_X0_beginClass nn) _ E30 2 9 rfl)
    refine vw_X12_compile_124 hn (n0 := n0) (by omega) (by omega) ?_ nn 0 u30 V30 N30 (by omega) (by omega) (by omega) (by omega) (by omega)
    intro v g c2 s2 ev Vg Ng hg8 zg hc2 hs2
    exact ih v g c2 s2 Vg Ng (.inr hg8) (by omega) (by omega) (by omega) zg (by omega)
theorem fg_0 {nn : Nat} {h r : ms_M} (e : qf_X2_forget nn h = some r) : r 11 2 = 0 := by
  unfold qf_X2_forget xl at e
  obtain ⟨u3, e3, e⟩ := sv_i e
  obtain ⟨u5, e5, e⟩ := sv_i e
  obtain ⟨u8, e8, e⟩ := sv_i e
  cases e
  have a3 : u3 11 2 = up_M h 11 2 0 11 2 := (ff_J7_fill_53178 nn) _ e3 11 2 (show 11 ≠ 17 by decide)
  have a5 : u5 11 2 = u3 11 2 := (ff_J7_fill_53178 nn) _ e5 11 2 (show 11 ≠ 21 by decide)
  have a8 : r 11 2 = u5 11 2 := (ff_X4_forget nn rfl) _ e8 11 2 ⟨by decide, by decide⟩
  rw [a8, a5, a3]; exact up_s
theorem hk_B {nn : Nat} {a : Int} {g q : ms_M} (e : qf_X2_addKindByte nn a g = some q) : q 900000 0 = g 900000 0 := (ff_X2_addKindByte nn) _ e 900000 0 rfl
theorem hk_20 {nn : Nat} {l2 : Int} {h r : ms_M} (e : qj_X2_addKind_20 nn l2 h = some r) : r 900000 0 = h 900000 0 := by
  unfold qj_X2_addKind_20 at e
  obtain ⟨u1, e1, e⟩ := sv_i e
  split at e
  · obtain ⟨u3, e3, e⟩ := sv_i e
    have e := rd_i e
    obtain ⟨u10, e10, e⟩ := sv_i e
    obtain ⟨u14, e14, e⟩ := sv_i e
    unfold xl at e
    obtain ⟨u21, e21, e⟩ := sv_i e
    cases e
    rw [hk_B e21, up_n (by omega), cpn_fr e10 _ _ (by decide), hk_B e3]
  · split at e
    · split at e
      · obtain ⟨u, e2, e⟩ := sv_i e; cases e; exact hk_B e2
      · obtain ⟨u, e2, e⟩ := sv_i e; cases e; exact hk_B e2
    · obtain ⟨u, e2, e⟩ := sv_i e; cases e; exact hk_B e2
theorem hk_A {nn : Nat} {l2 : Int} {h r : ms_M} (e : qf_X2_addKind nn l2 h = some r) : r 900000 0 = h 900000 0 := by
  unfold qf_X2_addKind at e
  obtain ⟨u1, e1, e⟩ := sv_i e
  split at e
  · exact hk_20 e
  · obtain ⟨u3, e3, e⟩ := sv_i e
    obtain ⟨u4, e4, e⟩ := sv_i e
    rw [hk_20 e, hk_B e3]
theorem hk_N {nn : Nat} {l2 : Int} {h : ms_M} {r : Int × ms_M} (e : qf_X2_nameKind nn l2 h = some r) : r.2 900000 0 = h 900000 0 := by
  unfold qf_X2_nameKind xl at e
  obtain ⟨u3, e3, e⟩ := sv_i e
  obtain ⟨u8, e8, e⟩ := sv_i e
  cases e
  have z : u8.2 900000 0 = u3 900000 0 := (ff_X9_nameOf nn) _ e8 900000 0 rfl
  show u8.2 900000 0 = _
  rw [z, hk_A e3, up_n (by omega)]
theorem hk_M13 {nn : Nat} : ∀ (k : Nat) (l1 l2 : Int) {h : ms_M} {r : Int × ms_M}, qw_X2_nameMethodKind_13 nn k l1 l2 h = some r → r.2 900000 0 = h 900000 0 := by
  intro k
  induction k with
  | zero => intro l1 l2 h r e; cases e
  | succ k ih =>
    intro l1 l2 h r e
    unfold qw_X2_nameMethodKind_13 at e
    have e := rd_i e
    split at e
    · obtain ⟨u4, e4, e⟩ := sv_i e
      have e := rd_i e
      obtain ⟨u8, e8, e⟩ := sv_i e
      obtain ⟨u13, e13, e⟩ := sv_i e
      cases e
      have z : u13.2 900000 0 = u8 900000 0 := (ff_X9_nameOf nn) _ e13 900000 0 rfl
      show u13.2 900000 0 = _
      rw [z, hk_A e8, hk_B e4]
    · obtain ⟨u15, e15, e⟩ := sv_i e
      obtain ⟨u17, e17, e⟩ := sv_i e
      unfold xl at e
      rw [ih _ _ e, hk_A e17]
theorem hk_M {nn : Nat} {a1 : Int} {h : ms_M} {r : Int × ms_M} (e : qf_X2_nameMethodKind nn a1 h = some r) : r.2 900000 0 = h 900000 0 := by
  unfold qf_X2_nameMethodKind xl at e
  obtain ⟨u22, e22, e⟩ := sv_i e
  rw [hk_M13 _ _ _ e, hk_B e22, up_n (by omega)]
theorem hk_144 {nn : Nat} : ∀ (k : Nat) (l1 : Int) {h r : ms_M}, qw_X2_nameKinds_144 nn k l1 h = some r → r 900000 0 = h 900000 0 := by
  intro k
  induction k with
  | zero => intro l1 h r e; cases e
  | succ k ih =>
    intro l1 h r e
    unfold qw_X2_nameKinds_144 at e
    split at e
    · cases e; rfl
    · split at e
      · cases e; rfl
      · obtain ⟨u6, e6, e⟩ := sv_i e
        split at e
        · exact ih _ e
        · obtain ⟨u10, e10, e⟩ := sv_i e
          have e := wa_i e
          have := ih _ e
          rw [this, up_n (by omega), hk_M e10]
theorem hk_85 {nn : Nat} : ∀ (k : Nat) (l1 : Int) {h r : ms_M}, qw_X2_nameKinds_85 nn k l1 h = some r → r 900000 0 = h 900000 0 := by
  intro k
  induction k with
  | zero => intro l1 h r e; cases e
  | succ k ih =>
    intro l1 h r e
    unfold qw_X2_nameKinds_85 at e
    split at e
    · exact hk_144 _ _ e
    · split at e
      · exact hk_144 _ _ e
      · unfold xl at e
        have e := rd_i e
        split at e
        · exact ih _ e
        · have e := rd_i e
          obtain ⟨u29, e29, e⟩ := sv_i e
          have e := wa_i e
          have := ih _ e
          rw [this, up_n (by omega), hk_N e29]
theorem hk_59 {nn : Nat} {qkk : Int → ms_M → Option ms_M} (hq : ∀ (l : Int) {g r : ms_M}, qkk l g = some r → r 900000 0 = g 900000 0) {l1 s0 s1 : Int} {h r : ms_M} (e : qj_X2_nameKinds_59 nn qkk l1 s0 s1 h = some r) : r 900000 0 = h 900000 0 := by
  unfold qj_X2_nameKinds_59 at e
  have e := wa_i e
  unfold xl at e
  obtain ⟨u40, e40, e⟩ := sv_i e
  have e := wa_i e
  have := hq _ e
  rw [this, up_n (by omega), hk_N e40, up_n (by omega)]
theorem hk_2 {nn : Nat} : ∀ (k : Nat) (l1 : Int) {h r : ms_M}, qw_X2_nameKinds_2 nn k l1 h = some r → r 900000 0 = h 900000 0 := by
  intro k
  induction k with
  | zero => intro l1 h r e; cases e
  | succ k ih =>
    intro l1 h r e
    unfold qw_X2_nameKinds_2 xl at e
    dsimp only at e
    split at e
    · exact hk_85 _ _ e
    · split at e
      · exact hk_85 _ _ e
      · split at e
        · exact hk_85 _ _ e
        · split at e
          · obtain ⟨u51, e51, e⟩ := sv_i e
            obtain ⟨u53, e53, e⟩ := sv_i e
            exact hk_59 (fun l _ _ z => ih l z) e
          · exact hk_59 (fun l _ _ z => ih l z) e
theorem hk_ok {nn : Nat} {g r : ms_M} (e : qf_X2_nameKinds nn g = some r) : r 900000 0 = g 900000 0 := hk_2 _ _ e
theorem vf_X12_compile {nn : Nat} (hn : 1000000 ≤ nn) {h : ms_M} (V : VS_ h) (N : NM_ h) (hc : h 900000 0 + 8 < 700000) : Ok_ (qf_X12_compile nn h) (PQ_ (h 900000 0)) := by
  have g01 := gF_0_1 V
  unfold qf_X12_compile
  refine ok_xl ?_; intro h34 E34
  have V34 : VS_ h34 := by rw [E34]; exact wF_0_1 V (by omega)
  have N34 : NM_ h34 := by rw [E34]; exact nm_uf N (by decide)
  have z34 : h34 900000 0 = h 900000 0 := by rw [E34]; exact up_n (by decide)
  refine ok_if (fun C1 => ?_) (fun C1 => ?_)
  · refine ok_cVR (vf_X9_scan hn (by omega) (by omega) V34 N34) ?_; intro u38 E38 V38 R38
    obtain ⟨N38, i38, p38⟩ := R38
    have z38 : u38 900000 0 = h34 900000 0 := (ff_X9_scan nn) _ E38 900000 0 rfl
    refine ok_cV (vf_X2_forget hn V38) ?_; intro u41 E41 V41
    have z41 : u41 900000 0 = u38 900000 0 := (ff_X2_forget nn) _ E41 900000 0 rfl
    have n41 : u41 2 3 = u38 2 3 := (ff_X2_forget nn) _ E41 2 3 rfl
    have p41 : u41 2 10 = u38 2 10 := (ff_X2_forget nn) _ E41 2 10 rfl
    have I41 : EI_ u41 := ei_eq (M := u38) i38 (fun k => (ff_X2_forget nn) _ E41 3 k (nw_ar rfl k)) n41
    have N41 : NM_ u41 := nm_eq N38 (fun k => (ff_X2_forget nn) _ E41 7 k (nw_ar rfl k)) ((ff_X2_forget nn) _ E41 2 9 rfl)
    have f41 := fg_0 E41
    refine ok_cVR (vf_X8_readProgram hn V41 (by omega) (by omega) (by omega) I41) ?_; intro u44 E44 V44 R44
    have z44 : u44 900000 0 = u41 900000 0 := (ff_X8_readProgram nn) _ E44 900000 0 rfl
    have N44 : NM_ u44 := nm_eq N41 (fun k => (ff_X8_readProgram nn) _ E44 7 k (nw_ar rfl k)) ((ff_X8_readProgram nn) _ E44 2 9 rfl)
    refine ok_cVR (vf_X2_readClasses hn V44 R44) ?_; intro u47 E47 V47 R47
    have z47 : u47 900000 0 = u44 900000 0 := (ff_X2_readClasses nn) _ E47 900000 0 rfl
    have N47 : NM_ u47 := nm_eq N44 (fun k => (ff_X2_readClasses nn) _ E47 7 k (nw_ar rfl k)) ((ff_X2_readClasses nn) _ E47 2 9 rfl)
    refine ok_cVR (vf_X2_readMembers hn V47 R47) ?_; intro u50 E50 V50 R50
    have z50 : u50 900000 0 = u47 900000 0 := (ff_X2_readMembers nn) _ E50 900000 0 rfl
    have h50 : u50 11 2 = u47 11 2 := (ff_X2_readMembers nn) _ E50 11 2 rfl
    have N50 : NM_ u50 := nm_eq N47 (fun k => (ff_X2_readMembers nn) _ E50 7 k (nw_ar rfl k)) ((ff_X2_readMembers nn) _ E50 2 9 rfl)
    refine ok_cVR (vf_X2_checkOverrides hn V50) ?_; intro u53 E53 V53 R53
    have z53 : u53 900000 0 = u50 900000 0 := (ff_X2_checkOverrides nn) _ E53 900000 0 rfl
    have h53 : u53 11 2 = u50 11 2 := (ff_X2_checkOverrides nn) _ E53 11 2 rfl
    have N53 : NM_ u53 := nm_eq N50 (fun k => (ff_X2_checkOverrides nn) _ E53 7 k (nw_ar rfl k)) ((ff_X2_checkOverrides nn) _ E53 2 9 rfl)
    refine ok_cVR (vf_X2_nameKinds hn V53 N53) ?_; intro u56 E56 V56 N56
    have z56 : u56 900000 0 = u53 900000 0 := hk_ok E56
    have h56 : u56 11 2 = u53 11 2 := (ff_X2_nameKinds nn) _ E56 11 2 rfl
    have f56 : u56 2 11 = u53 2 11 := (ff_X2_nameKinds nn) _ E56 2 11 rfl
    refine ok_cV (vf_X0_beginProgram hn V56) ?_; intro u59 E59 V59
    have z59 : u59 900000 0 = u56 900000 0 := (ff_X0_beginProgram nn) _ E59 900000 0 rfl
    have h59 : u59 11 2 = u56 11 2 := (ff_X0_beginProgram nn) _ E59 11 2 rfl
    have f59 : u59 2 11 = u56 2 11 := (ff_X0_beginProgram nn) _ E59 2 11 rfl
    have N59 : NM_ u59 := nm_eq N56 (fun k => (ff_X0_beginProgram nn) _ E59 7 k (nw_ar rfl k)) ((ff_X0_beginProgram nn) _ E59 2 9 rfl)
    exact vw_X12_compile_93 hn (by omega) nn 0 u59 0 0 V59 N59 (by omega) (by omega) (by omega) (by omega) (by omega) (by omega)
  · refine ok_cV (vf_X9_refuse hn (by omega) (by omega) (by omega) (by omega) V34) ?_; intro u62 E62 V62
    have z62 : u62 900000 0 = h34 900000 0 := (ff_X9_refuse nn) _ E62 900000 0 rfl
    refine ok_ret ⟨V62, nm_eq N34 (fun k => (ff_X9_refuse nn) _ E62 7 k (nw_ar rfl k)) ((ff_X9_refuse nn) _ E62 2 9 rfl), ?_, Nat.zero_le _, Nat.zero_le _⟩
    show h 900000 0 ≤ u62 900000 0 ∧ u62 900000 0 ≤ h 900000 0 + ((0 : Nat) : Int)
    omega

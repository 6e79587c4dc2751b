section
theorem ok_any {α β : Type} {Q : α → Prop} {v : β} {F : β → Option α} (h : ∀ z, Ok_ (F z) Q) : Ok_ (xl v F) Q := h v
theorem vs_w43 {M : ms_M} (h : VS_ M) {c k : Nat} {y : Int} (hc : c = 43 ∨ c = 55) (hy : y = -1 ∨ (0 ≤ y ∧ y.toNat < cn_M M ∧ ly_T y.toNat = 1 ∧ ln_I M y.toNat ≤ 6000)) : VS_ (up_M M c k y) := by
  obtain ⟨h1, h2, h3, h4, h5, h6, h7, h8⟩ := h
  have A : ∀ c2, c2 ≠ c → up_M M c k y c2 = M c2 := fun c2 z => up_ne c2 z
  have e9 : up_M M c k y 900000 = M 900000 := A _ (by omega)
  have e8 : up_M M c k y 900001 = M 900001 := A _ (by omega)
  have ec : cn_M (up_M M c k y) = cn_M M := by unfold cn_M; rw [e9]
  have el : ∀ d, ln_I (up_M M c k y) d = ln_I M d := by intro d; unfold ln_I; rw [e8]
  have hcn : (cn_M M : Int) = M 900000 0 := by unfold cn_M; have := h2.1; omega
  have yr : -2147483648 ≤ y ∧ y ≤ 2147483647 := by have := h2.1; omega
  have nI : ∀ b, kc_O b = 3 → b ≠ c := by
    intro b hb
    rcases hc with rfl | rfl
    · exact nI_ hb rfl
    · exact nI_ hb rfl
  refine ⟨?_, ?_, ?_, ?_, ?_, ?_, ?_, ?_⟩
  · intro c2 k2 hc2 hk2
    by_cases w : c2 = c ∧ k2 = k
    · obtain ⟨rfl, rfl⟩ := w
      rw [up_s]
      rcases hc with rfl | rfl <;> (show -1 ≤ y ∧ y ≤ 2147483647; omega)
    · rw [up_n w]; exact h1 c2 k2 hc2 hk2
  · rw [e9, e8]; exact h2
  · intro b hb; rw [A b (nI b hb), ec, el]; exact h3 b hb
  · intro d j hd hd2 hj
    rw [el] at hj
    rw [A d (by omega)]; exact h4 d j hd hd2 hj
  · intro j hj; rw [A 60 (by omega)]; exact h5 j hj
  · rw [A 56 (by omega), A 127 (by omega), A 143 (by omega)]; exact h6
  · intro j hj
    by_cases w : 43 = c ∧ j = k
    · obtain ⟨rfl, rfl⟩ := w
      rw [up_s, ec, el]; intro q
      rcases hy with z | z
      · omega
      · exact z.2
    · rw [up_n w, ec, el]; exact h7 j hj
  · intro j hj
    by_cases w : 55 = c ∧ j = k
    · obtain ⟨rfl, rfl⟩ := w
      rw [up_s, ec, el]; intro q
      rcases hy with z | z
      · omega
      · exact z.2
    · rw [up_n w, ec, el]; exact h8 j hj
theorem cpn_fr {nn : Nat} {a1 : Int} {a2 : Nat} {a3 : Int} {h r : ms_M} (e : qf_X9_copyName nn a1 a2 a3 h = some r) : ∀ c k, c ≠ a2 → r c k = h c k := by
  unfold qf_X9_copyName at e
  obtain ⟨z, -, e⟩ := sv_i e
  split at e
  · cases e; intros; rfl
  · unfold xl ln_S at e
    dsimp only at e
    split at e
    · split at e
      · cases e; intros; rfl
      · split at e
        · cases e; intros; rfl
        · have e := rd_i e
          have e := cp_i e
          have e := Option.some.inj e
          intro c k hc
          rw [← e]; unfold cp_M; rw [if_neg (by omega)]
    · cases e
def WQ_ (a : Nat) (h r : ms_M) : Prop := VS_ r ∧ ∀ c k, c ≠ a → r c k = h c k
theorem ok_cV2 {α : Type} {Q : α → Prop} {x : Option ms_M} {F : ms_M → Option α} {a : Nat} {h : ms_M} (hx : Ok_ x (WQ_ a h)) (g : ∀ z, x = some z → VS_ z → (∀ c k, c ≠ a → z c k = h c k) → Ok_ (F z) Q) : Ok_ (mx_sv x F) Q := by
  obtain ⟨z, e, hq⟩ := hx
  rw [e, mx_svs]; exact g z e hq.1 hq.2
theorem cn_b {M : ms_M} (V : VS_ M) {c : Nat} (h : c < cn_M M) : c < 700000 := by
  have h1 := V.2.1.1
  unfold cn_M at h; omega
theorem ln_up {M : ms_M} {c d k : Nat} {v : Int} (hc : c < 900000) : ln_I (up_M M c k v) d = ln_I M d := by
  unfold ln_I; rw [up_n (by omega)]
theorem vw_X6_writeConstant_83 {nn : Nat} {l1 : Int} {l2 : Nat} {l3 l4 : Int} (r1 : 0 ≤ l1 ∧ l1 ≤ 200) (r3 : 0 ≤ l3 ∧ l3 ≤ 100000) (r4 : l4 ≤ 7000) : ∀ (k : Nat) (l5 : Int) (h : ms_M), VS_ h → 1 ≤ l5 ∧ l5 ≤ 7001 → l2 < cn_M h ∧ ly_T l2 = 1 → l3 + l4 ≤ ln_I h l2 → 7001 - l5 < (k : Int) → Ok_ (qw_X6_writeConstant_83 nn k l1 l2 l3 l4 l5 h) (WQ_ l2 h) := by
  intro k
  induction k with
  | zero => intros; exfalso; omega
  | succ k ih =>
    intro l5 h V a t hL hm
    have q := cn_b V t.1
    unfold qw_X6_writeConstant_83
    refine ok_if ?_ ?_
    · intro _; exact ok_ret ⟨V, fun _ _ _ => rfl⟩
    · intro C1
      refine ok_add (by omega) ?_; intro v1 e1
      refine ok_rd (by omega) (gA_47 V) ?_; intro v3 _ _ _
      refine ok_any ?_; intro v4
      refine ok_any ?_; intro v5
      refine ok_any ?_; intro v6
      refine ok_any ?_; intro v7
      refine ok_any ?_; intro v8
      refine ok_wT V t (by omega) ?_; intro h9 E9 V9
      refine ok_add (by omega) ?_; intro v10 e10
      have c9 : cn_M h9 = cn_M h := by rw [E9]; exact cn_up (by omega)
      have n9 : ln_I h9 l2 = ln_I h l2 := by rw [E9]; exact ln_up (by omega)
      obtain ⟨r, er, hr⟩ := ih v10 h9 V9 (by omega) ⟨by rw [c9]; exact t.1, t.2⟩ (by rw [n9]; exact hL) (by omega)
      exact ⟨r, er, hr.1, fun c k hc => by rw [hr.2 c k hc, E9]; exact up_n (by omega)⟩
theorem vf_X6_writeConstant {nn : Nat} (hn : 1000000 ≤ nn) {a1 : Int} {a2 : Nat} {a3 : Int} {h : ms_M} (r1 : 0 ≤ a1 ∧ a1 ≤ 200) (r3 : 0 ≤ a3 ∧ a3 ≤ 6000) (V : VS_ h) (t : a2 < cn_M h ∧ ly_T a2 = 1) (hL : ln_I h a2 ≤ 6000) (N : NM_ h) : Ok_ (qf_X6_writeConstant nn a1 a2 a3 h) (WQ_ a2 h) := by
  have q := cn_b V t.1
  unfold qf_X6_writeConstant
  refine ok_rd (by omega) (gA_46 V) ?_; intro v13 _ a13 b13
  refine ok_rd (by omega) (gA_47 V) ?_; intro v15 _ a15 b15
  refine ok_cP (vf_X6_bytesOf hn (by omega) (by omega) (by omega) (by omega) V N) ?_; intro u17 e17 a17 b17
  refine ok_if ?_ ?_
  · intro _; exact ok_ret ⟨V, fun _ _ _ => rfl⟩
  · intro _
    refine ok_add (by omega) ?_; intro v18 e18
    refine ok_lS t ?_; intro v19 e19
    refine ok_if ?_ ?_
    · intro C2
      refine ok_rd (by omega) (gA_46 V) ?_; intro v21 e21 _ _
      refine ok_any ?_; intro v22
      refine ok_wT V t (by omega) ?_; intro h23 E23 V23
      have c23 : cn_M h23 = cn_M h := by rw [E23]; exact cn_up (by omega)
      have n23 : ln_I h23 a2 = ln_I h a2 := by rw [E23]; exact ln_up (by omega)
      refine ok_rd (by omega) (gA_46 V23) ?_; intro v25 e25 _ _
      refine ok_if ?_ ?_
      · intro _
        obtain ⟨r, er, hr⟩ := vw_X6_writeConstant_83 (nn := nn) (l2 := a2) (l3 := a3) (l4 := u17) r1 (by omega) (by omega) nn 1 h23 V23 (by omega) ⟨by rw [c23]; exact t.1, t.2⟩ (by rw [n23]; omega) (by omega)
        exact ⟨r, er, hr.1, fun c k hc => by rw [hr.2 c k hc, E23]; exact up_n (by omega)⟩
      · intro C3
        refine ok_add (by omega) ?_; intro v26 e26
        refine ok_any ?_; intro v27
        refine ok_any ?_; intro v28
        refine ok_wT V23 ⟨by rw [c23]; exact t.1, t.2⟩ (by rw [n23]; omega) ?_; intro h29 E29 V29
        refine ok_rd (by omega) (gA_47 V29) ?_; intro v32 e32 a32 b32
        refine ok_add (by omega) ?_; intro v33 e33
        have c29 : cn_M h29 = cn_M h23 := by rw [E29]; exact cn_up (by omega)
        refine ok_cV (vf_X9_copyName hn (by omega) (by omega) (by omega) (by omega) V29 ⟨by rw [c29, c23]; exact t.1, t.2⟩) ?_; intro u35 E35 V35
        exact ok_ret ⟨V35, fun c k hc => by rw [cpn_fr E35 c k hc, E29, up_n (by omega), E23]; exact up_n (by omega)⟩
    · intro _; exact ok_ret ⟨V, fun _ _ _ => rfl⟩
theorem by_cg {nn : Nat} {a b : Int} {h m : ms_M} (h2 : ∀ k, m 2 k = h 2 k) (h7 : ∀ k, m 7 k = h 7 k) : qf_X6_bytesOf nn a b m = qf_X6_bytesOf nn a b h := by
  have e : qf_X9_nameLength nn b m = qf_X9_nameLength nn b h := by
    unfold qf_X9_nameLength rd_A
    simp only [h2, h7]
  unfold qf_X6_bytesOf
  rw [e]
theorem is_un {nn f : Nat} {a l y : Int} {h : ms_M} (e : qw_X6_imageSize_9 nn f a l h = some y) : (h 45 4 < l ∧ a = y) ∨ (l ≤ h 45 4 ∧ ∃ g u, qf_X6_bytesOf nn (h 46 l.toNat) (h 47 l.toNat) h = some u ∧ qw_X6_imageSize_9 nn g (oq_add a u) (oq_add l 1) h = some y) := by
  cases f with
  | zero => cases e
  | succ f =>
    unfold qw_X6_imageSize_9 at e
    split at e
    · cases e; left; exact ⟨by assumption, rfl⟩
    · right
      refine ⟨by omega, ?_⟩
      have e := rd_i e
      have e := rd_i e
      obtain ⟨u, e1, e2⟩ := sv_i e
      exact ⟨f, u, e1, e2⟩
theorem is_ge {nn : Nat} (hn : 1000000 ≤ nn) {y : Int} {h : ms_M} (V : VS_ h) (N : NM_ h) : ∀ (j : Nat) (f : Nat) (a l : Int), 202 - l ≤ (j : Int) → 1 ≤ l → 0 ≤ a → a ≤ 1000100000 + 7000 * l → qw_X6_imageSize_9 nn f a l h = some y → a ≤ y := by
  intro j
  induction j with
  | zero =>
    intro f a l h1 h2 h3 h4 e
    have g := gF_45_4 V
    rcases is_un e with ⟨_, z⟩ | ⟨z, _⟩
    · omega
    · omega
  | succ j ih =>
    intro f a l h1 h2 h3 h4 e
    have g := gF_45_4 V
    rcases is_un e with ⟨_, z⟩ | ⟨z, f2, u, e1, e2⟩
    · omega
    · have r46 := gA_46 V l.toNat (by omega)
      have r47 := gA_47 V l.toNat (by omega)
      obtain ⟨u2, e3, q⟩ := vf_X6_bytesOf hn r46.1 r46.2 r47.1 r47.2 V N
      rw [e3] at e1; cases e1
      have q1 := q.1
      have q2 := q.2
      rw [oq_add_eq (by omega) (by omega) (by omega), oq_add_eq (by omega) (by omega) (by omega)] at e2
      have := ih f2 _ _ (by omega) (by omega) (by omega) (by omega) e2
      omega
/-- what the loop of closeImage gives -/
def CQ_ (l1 : Nat) (h : ms_M) (c s : Nat) : Int × ms_M × Nat × Nat → Prop := fun r => VS_ r.2.1 ∧ r.1 = ((l1 : Nat) : Int) ∧ (∀ a j, a ≠ l1 → r.2.1 a j = h a j) ∧ r.2.2.1 = c ∧ r.2.2.2 = s
theorem vw_X6_closeImage_40 {nn : Nat} (hn : 1000000 ≤ nn) {l1 : Nat} {h0 : ms_M} {y : Int} (hl : 256 ≤ l1) (V0 : VS_ h0) (N0 : NM_ h0) (hy : 3 ≤ y ∧ y ≤ 6000) : ∀ (k : Nat) (l2 l3 : Int) (h : ms_M) (c s : Nat), VS_ h → (∀ a j, a < 256 → h a j = h0 a j) → l1 < cn_M h ∧ ly_T l1 = 1 → ln_I h l1 = y → (1 ≤ l3 ∧ l3 ≤ 201) → 3 ≤ l2 → l2 ≤ 6000 → (∃ f, qw_X6_imageSize_9 nn f (l2 + h0 45 7) l3 h0 = some y) → 202 - l3 < (k : Int) → Ok_ (qw_X6_closeImage_40 nn k l1 l2 l3 h c s) (CQ_ l1 h c s) := by
  intro k
  induction k with
  | zero => intro l2 l3 h c s V A t hL r3 r2 r2b ef hm; exfalso; omega
  | succ k ih =>
    intro l2 l3 h c s V A t hL r3 r2 r2b ⟨f, ef⟩ hm
    have q := cn_b V t.1
    have q4 := A 45 4 (by decide)
    have q7 := A 45 7 (by decide)
    have g4 := gF_45_4 V0
    have g7 := gF_45_7 V0
    have N : NM_ h := nm_eq N0 (fun j => A 7 j (by decide)) (A 2 9 (by decide))
    have hge := is_ge hn V0 N0 (202 - l3).toNat f _ _ (by omega) r3.1 (by omega) (by omega) ef
    unfold qw_X6_closeImage_40
    refine ok_if ?_ ?_
    · intro C1
      rcases is_un ef with ⟨_, z⟩ | ⟨z, _⟩
      · have L1 := vi_ln (M := h) (show 48 < 256 by decide)
        have L2 : (ly_N 48 : Int) = 6000 := rfl
        refine ok_cpB V ⟨Nat.lt_of_lt_of_le (by decide) (vi_c V), rfl⟩ t (by omega) ?_; intro h4 V4 F4
        exact ok_ret ⟨V4, rfl, F4, rfl, rfl⟩
      · omega
    · intro C1
      rcases is_un ef with ⟨z, _⟩ | ⟨z, f2, u, e1, e2⟩
      · omega
      · refine ok_cV2 (vf_X6_writeConstant hn (by omega) (by omega) V t (by omega) N) ?_; intro u6 E6 V6 F6
        have A6 : ∀ a j, a < 256 → u6 a j = h0 a j := fun a j ha => by rw [F6 a j (by omega)]; exact A a j ha
        have N6 : NM_ u6 := nm_eq N0 (fun j => A6 7 j (by decide)) (A6 2 9 (by decide))
        refine ok_rd (by omega) (gA_46 V6) ?_; intro v8 e8 a8 b8
        refine ok_rd (by omega) (gA_47 V6) ?_; intro v10 e10 a10 b10
        refine ok_cP (vf_X6_bytesOf hn (by omega) (by omega) (by omega) (by omega) V6 N6) ?_; intro u12 e12 a12 b12
        rw [e8, e10, by_cg (h := h0) (fun j => A6 2 j (by decide)) (fun j => A6 7 j (by decide)), A6 46 _ (by decide), A6 47 _ (by decide), e1] at e12
        cases e12
        rw [oq_add_eq (by omega) (by omega) (by omega), oq_add_eq (by omega) (by omega) (by omega)] at e2
        have hge2 := is_ge hn V0 N0 (202 - l3).toNat f2 _ _ (by omega) (by omega) (by omega) (by omega) e2
        refine ok_add (by omega) ?_; intro v13 e13
        refine ok_add (by omega) ?_; intro v14 e14
        have c6 : cn_M u6 = cn_M h := by unfold cn_M; rw [F6 900000 0 (by omega)]
        have n6 : ln_I u6 l1 = ln_I h l1 := by unfold ln_I; rw [F6 900001 l1 (by omega)]
        have w : v13 + h0 45 7 = l2 + h0 45 7 + u := by omega
        obtain ⟨r, er, hr⟩ := ih v13 v14 u6 c s V6 A6 ⟨by rw [c6]; exact t.1, t.2⟩ (by rw [n6]; exact hL) (by omega) (by omega) (by omega) ⟨f2, by rw [w, e14]; exact e2⟩ (by omega)
        refine ⟨r, er, hr.1, hr.2.1, fun a j ha => ?_, hr.2.2.2⟩
        rw [hr.2.2.1 a j ha]; exact F6 a j ha
theorem ok_nw {α : Type} {Q : α → Prop} {M : ms_M} (V : VS_ M) (hc : M 900000 0 < 700000) {y : Int} (hy : 0 ≤ y ∧ y ≤ 2147483647) {G : Nat → ms_M → Option α} (g : ∀ (b : Nat) (z : ms_M), VS_ z → (256 ≤ b ∧ b < 700000) → (b < cn_M z ∧ ly_T b = 1) → ln_I z b = y → z 900000 0 = M 900000 0 + 1 → (∀ d k, d < 256 → z d k = M d k) → Ok_ (G b z) Q) : Ok_ (nw_B y M G) Q := by
  have hM := V.2.1.1
  obtain ⟨n1, n2, n3, n4, n5⟩ := vs_nw V (y := y) (f := fun _ => 0) hc hy.1 (fun k hk => by omega)
  have hcn : (cn_M M : Int) = M 900000 0 := by unfold cn_M; omega
  unfold nw_B
  rw [if_pos ⟨⟨hM.1, hc⟩, hy⟩]
  refine g _ _ n1 (by omega) ⟨by omega, ly_Tbig (by omega)⟩ n5 ?_ (fun d k hd => by rw [n3 d (by omega) (by omega)])
  unfold nw_M; rw [if_neg (by omega), if_pos ⟨rfl, rfl⟩]
/-- what closeImage gives -/
def IQ_ (h : ms_M) : Int × ms_M × Nat × Nat → Prop := fun r => VS_ r.2.1 ∧ (0 ≤ r.1 ∧ r.1.toNat < cn_M r.2.1 ∧ ly_T r.1.toNat = 1 ∧ ln_I r.2.1 r.1.toNat ≤ 6000) ∧ (∀ a j, a < 256 → r.2.1 a j = h a j) ∧ r.2.1 900000 0 = h 900000 0 + 1 ∧ r.2.2.1 ≤ 1 ∧ r.2.2.2 ≤ 6000
theorem vf_X6_closeImage {nn : Nat} (hn : 1000000 ≤ nn) {h : ms_M} (V : VS_ h) (N : NM_ h) (hc : h 900000 0 < 700000) : Ok_ (qf_X6_closeImage nn h) (IQ_ h) := by
  have g7 := gF_45_7 V
  unfold qf_X6_closeImage
  refine ok_cP (vf_X6_isTooMuch hn V N) ?_; intro u17 e17 a17 b17
  refine ok_if ?_ ?_
  · intro C1
    refine ok_cP (vf_X6_imageSize hn V N) ?_; intro u19 e19 a19 b19
    have s6 : u19 ≤ 6000 := by
      rw [C1] at e17
      unfold qf_X6_isTooMuch at e17
      split at e17
      · cases e17
      · obtain ⟨z, e1, e2⟩ := sv_i e17
        rw [e19] at e1; cases e1
        split at e2
        · assumption
        · cases e2
    refine ok_ck (by omega) ?_
    refine ok_nw V hc (by omega) ?_; intro b h1 V1 hb t1 n1 z1 A1
    refine ok_wT V1 t1 (by rw [n1]; omega) ?_; intro h22 E22 V22
    have c22 : cn_M h22 = cn_M h1 := by rw [E22]; exact cn_up (by omega)
    have n22 : ln_I h22 b = u19 := by rw [E22, ln_up (by omega)]; exact n1
    refine ok_wT V22 ⟨by rw [c22]; exact t1.1, t1.2⟩ (by rw [n22]; omega) ?_; intro h23 E23 V23
    have c23 : cn_M h23 = cn_M h22 := by rw [E23]; exact cn_up (by omega)
    have n23 : ln_I h23 b = u19 := by rw [E23, ln_up (by omega)]; exact n22
    refine ok_any ?_; intro v25
    refine ok_wT V23 ⟨by rw [c23, c22]; exact t1.1, t1.2⟩ (by rw [n23]; omega) ?_; intro h26 E26 V26
    have c26 : cn_M h26 = cn_M h23 := by rw [E26]; exact cn_up (by omega)
    have n26 : ln_I h26 b = u19 := by rw [E26, ln_up (by omega)]; exact n23
    have A26 : ∀ a j, a ≠ b → h26 a j = h1 a j := fun a j ha => by rw [E26, up_n (by omega), E23, up_n (by omega), E22, up_n (by omega)]
    have e2 : qw_X6_imageSize_9 nn nn (3 + h 45 7) 1 h = some u19 := by
      have := e19
      unfold qf_X6_imageSize xl at this
      rw [oq_add_eq (by omega) (by omega) (by omega)] at this
      exact this
    obtain ⟨r, er, hr⟩ := vw_X6_closeImage_40 hn hb.1 V N ⟨a19, s6⟩ nn 3 1 h26 (0 + 1) (0 + u19.toNat) V26 (fun a j ha => by rw [A26 a j (by omega)]; exact A1 a j ha) ⟨by rw [c26, c23, c22]; exact t1.1, t1.2⟩ n26 (by omega) (by omega) (by omega) ⟨nn, e2⟩ (by omega)
    obtain ⟨r1, r2, r3, r4, r5⟩ := hr
    have k1 : r.1.toNat = b := by rw [r2]; omega
    have k9 : r.2.1 900000 0 = h 900000 0 + 1 := by rw [r3 _ _ (by omega), A26 _ _ (by omega)]; exact z1
    refine ⟨r, er, r1, ⟨by rw [r2]; omega, ?_, by rw [k1]; exact t1.2, ?_⟩, ?_, k9, by rw [r4]; decide, by rw [r5]; omega⟩
    · rw [k1]; have q1 := t1.1; unfold cn_M at q1 ⊢; rw [k9, ← z1]; exact q1
    · rw [k1]
      have : ln_I r.2.1 b = ln_I h26 b := by unfold ln_I; rw [r3 900001 b (by omega)]
      rw [this, n26]; exact s6
    · intro a j ha
      rw [r3 a j (by omega), A26 a j (by omega)]; exact A1 a j ha
  · intro C1
    refine ok_ck (by omega) ?_
    refine ok_nw V hc (by omega) ?_; intro b h1 V1 hb t1 n1 z1 A1
    have k1 : (((b : Nat) : Int)).toNat = b := by omega
    refine ok_ret ⟨V1, ⟨Int.natCast_nonneg _, ?_, ?_, ?_⟩, A1, z1, Nat.le_refl _, Nat.zero_le _⟩
    · show (((b : Nat) : Int)).toNat < cn_M h1
      rw [k1]; exact t1.1
    · show ly_T (((b : Nat) : Int)).toNat = 1
      rw [k1]; exact t1.2
    · show ln_I h1 (((b : Nat) : Int)).toNat ≤ 6000
      rw [k1, n1]; decide
theorem ci_40 {nn : Nat} : ∀ (k : Nat) {l1 : Nat} {l2 l3 : Int} {h : ms_M} {c s : Nat} {u : Int × ms_M × Nat × Nat}, qw_X6_closeImage_40 nn k l1 l2 l3 h c s = some u → u.2.2.1 = c := by
  intro k
  induction k with
  | zero => intro _ _ _ _ _ _ _ e; cases e
  | succ k ih =>
    intro l1 l2 l3 h c s u e
    unfold qw_X6_closeImage_40 at e
    split at e
    · have e := cp_i e
      cases e; rfl
    · obtain ⟨u6, -, e⟩ := sv_i e
      have e := rd_i e
      have e := rd_i e
      obtain ⟨u12, -, e⟩ := sv_i e
      exact ih e
theorem wt_i {α : Type} {M : ms_M} {r : α} {c : Nat} {j v : Int} {G : ms_M → Option α} (e : wr_T c j v M G = some r) : G (up_M M c j.toNat (oq_b v)) = some r := by
  unfold wr_T at e; split at e
  · exact e
  · cases e
theorem ci_1 {nn : Nat} {h : ms_M} {u : Int × ms_M × Nat × Nat} (e : qf_X6_closeImage nn h = some u) : u.2.2.1 = 1 := by
  unfold qf_X6_closeImage at e
  obtain ⟨z, -, e⟩ := sv_i e
  split at e
  · obtain ⟨y, -, e⟩ := sv_i e
    obtain ⟨-, e⟩ := ck_i e
    unfold nw_B at e
    split at e
    · have e := wt_i e
      have e := wt_i e
      unfold xl at e
      have e := wt_i e
      exact ci_40 _ e
    · cases e
  · obtain ⟨-, e⟩ := ck_i e
    unfold nw_B at e
    split at e
    · cases e; rfl
    · cases e
theorem note_fr {nn : Nat} {a1 a2 : Int} {h r : ms_M} (e : qf_X0_noteMuch nn a1 a2 h = some r) : ∀ a j, ¬ (a = 33 ∧ j = 7) → r a j = h a j := by
  unfold qf_X0_noteMuch at e
  split at e
  · cases e; intros; rfl
  · split at e
    · cases e; intros; rfl
    · unfold xl at e
      have e := Option.some.inj e
      intro a j hj; rw [← e]; exact up_n hj
/-- what closeClass gives -/
def KQ_ (h : ms_M) : ms_M × Nat × Nat → Prop := fun r => VS_ r.1 ∧ (∀ a j, a < 256 → a ≠ 43 → ¬ (a = 33 ∧ j = 7) → r.1 a j = h a j) ∧ (h 900000 0 ≤ r.1 900000 0 ∧ r.1 900000 0 ≤ h 900000 0 + (r.2.1 : Int)) ∧ r.2.1 ≤ 1 ∧ r.2.2 ≤ 6000
theorem vf_X0_closeClass {nn : Nat} (hn : 1000000 ≤ nn) {a1 : Int} {h : ms_M} (r1 : 0 ≤ a1 ∧ a1 ≤ 333) (V : VS_ h) (N : NM_ h) (hc : h 900000 0 < 700000) : Ok_ (qf_X0_closeClass nn a1 h) (KQ_ h) := by
  unfold qf_X0_closeClass
  refine ok_cP (vf_X6_isTooMuch hn V N) ?_; intro u3 e3 a3 b3
  refine ok_cP (vf_X2_tokenOfClass hn (by omega) (by omega) V) ?_; intro u6 e6 a6 b6
  refine ok_cV (vf_X0_noteMuch hn (by omega) (by omega) (by omega) (by omega) V) ?_; intro u8 E8 V8
  have F8 := note_fr E8
  have z8 : u8 900000 0 = h 900000 0 := F8 _ _ (by omega)
  have N8 : NM_ u8 := nm_eq N (fun j => F8 7 j (by omega)) (F8 2 9 (by omega))
  have K0 : Ok_ (some (u8, 0, 0)) (KQ_ h) := ok_ret ⟨V8, fun a j _ _ hj => F8 a j hj, by show h 900000 0 ≤ u8 900000 0 ∧ u8 900000 0 ≤ h 900000 0 + ((0 : Nat) : Int); omega, Nat.zero_le _, Nat.zero_le _⟩
  refine ok_if (fun _ => K0) (fun _ => ?_)
  refine ok_if (fun _ => K0) (fun _ => ?_)
  refine ok_if (fun _ => K0) (fun _ => ?_)
  refine ok_if (fun _ => K0) (fun C4 => ?_)
  obtain ⟨u, eu, q1, q2, q3, q4, q5, q6⟩ := vf_X6_closeImage hn V8 N8 (by omega)
  rw [eu, mx_svs]
  unfold wr_QB
  rw [if_pos ⟨.inr ⟨q2.1, q2.2.1, q2.2.2.1⟩, by omega⟩]
  refine ok_ret ⟨vs_w43 q1 (.inl rfl) (.inr q2), ?_, ?_, ?_, ?_⟩
  · intro a j ha h43 h33
    show up_M u.2.1 43 a1.toNat u.1 a j = _
    rw [up_n (by omega), q3 a j ha]; exact F8 a j h33
  · show h 900000 0 ≤ up_M u.2.1 43 a1.toNat u.1 900000 0 ∧ up_M u.2.1 43 a1.toNat u.1 900000 0 ≤ h 900000 0 + ((0 + u.2.2.1 : Nat) : Int)
    rw [up_n (by omega)]
    have : u.2.2.1 = 1 := ci_1 eu
    omega
  · show 0 + u.2.2.1 ≤ 1; omega
  · show 0 + u.2.2.2 ≤ 6000; omega
theorem vw_X12_takeImages_13 {nn : Nat} : ∀ (k : Nat) (l1 : Int) (h : ms_M), VS_ h → 0 ≤ l1 ∧ l1 ≤ 8 → 8 - l1 < (k : Int) → Ok_ (qw_X12_takeImages_13 nn k l1 h) (fun r => VS_ r.2 ∧ ∀ a j, a ≠ 55 → r.2 a j = h a j) := by
  intro k
  induction k with
  | zero => intros; exfalso; omega
  | succ k ih =>
    intro l1 h V a hm
    unfold qw_X12_takeImages_13
    refine ok_if (fun _ => ok_ret ⟨V, fun _ _ _ => rfl⟩) (fun _ => ?_)
    refine ok_if (fun _ => ok_ret ⟨V, fun _ _ _ => rfl⟩) (fun C2 => ?_)
    have em : qf_X0_made nn l1 h = some (h 43 l1.toNat) := by
      unfold qf_X0_made; rw [if_neg (by omega), if_neg (by omega)]
      unfold rd_A; rw [if_pos (by omega)]
    rw [em, mx_svs]
    have lo : -1 ≤ h 43 l1.toNat := (vs_g V l1.toNat (show 43 < 256 by decide) (.inr (show l1.toNat < 8 by omega))).1
    have vv : h 43 l1.toNat = -1 ∨ (0 ≤ h 43 l1.toNat ∧ (h 43 l1.toNat).toNat < cn_M h ∧ ly_T (h 43 l1.toNat).toNat = 1 ∧ ln_I h (h 43 l1.toNat).toNat ≤ 6000) := by
      by_cases w : 0 ≤ h 43 l1.toNat
      · exact .inr ⟨w, V.2.2.2.2.2.2.1 l1.toNat (by omega) w⟩
      · left; omega
    unfold wr_QB
    rw [if_pos ⟨vv.imp id (fun z => ⟨z.1, z.2.1, z.2.2.1⟩), by omega⟩]
    refine ok_add (by omega) ?_; intro v11 e11
    obtain ⟨r, er, hr⟩ := ih v11 _ (vs_w43 (k := l1.toNat) V (.inr rfl) vv) (by omega) (by omega)
    exact ⟨r, er, hr.1, fun a j ha => by rw [hr.2 a j ha]; exact up_n (by omega)⟩
theorem vf_X12_takeImages {nn : Nat} (hn : 1000000 ≤ nn) {h : ms_M} (V : VS_ h) : Ok_ (qf_X12_takeImages nn h) (fun r => VS_ r.2 ∧ ∀ a j, a ≠ 55 → ¬ (a = 0 ∧ j = 7) → r.2 a j = h a j) := by
  have g := gF_11_2 V
  unfold qf_X12_takeImages
  refine ok_xl ?_; intro h16 E16
  have V16 : VS_ h16 := by rw [E16]; exact wF_0_7 V (by omega)
  obtain ⟨r, er, hr⟩ := vw_X12_takeImages_13 (nn := nn) nn 0 h16 V16 (by omega) (by omega)
  exact ⟨r, er, hr.1, fun a j ha hj => by rw [hr.2 a j ha, E16]; exact up_n hj⟩
/-- what compile gives: at most eight new rows of at most 6000 bytes -/
def PQ_ (n0 : Int) : Int × ms_M × Nat × Nat → Prop := fun r => VS_ r.2.1 ∧ NM_ r.2.1 ∧ (n0 ≤ r.2.1 900000 0 ∧ r.2.1 900000 0 ≤ n0 + (r.2.2.1 : Int)) ∧ r.2.2.1 ≤ 8 ∧ r.2.2.2 ≤ 48000
theorem vj_X12_compile_175 {nn : Nat} (hn : 1000000 ≤ nn) {h : ms_M} {c s : Nat} {n0 : Int} (V : VS_ h) (N : NM_ h) (z : n0 ≤ h 900000 0 ∧ h 900000 0 ≤ n0 + (c : Int)) (hc : c ≤ 8) (hs : s ≤ 48000) : Ok_ (qj_X12_compile_175 nn h c s) (PQ_ n0) := by
  unfold qj_X12_compile_175
  refine ok_cV (vf_X0_closeProgram hn V) ?_; intro u3 E3 V3
  have z3 : u3 900000 0 = h 900000 0 := (ff_X0_closeProgram nn) _ E3 900000 0 rfl
  have N3 : NM_ u3 := nm_eq N (fun k => (ff_X0_closeProgram nn) _ E3 7 k (nw_ar rfl k)) ((ff_X0_closeProgram nn) _ E3 2 9 rfl)
  refine ok_if (fun _ => ?_) (fun _ => ?_)
  · refine ok_ret ⟨V3, N3, ?_, hc, hs⟩
    show n0 ≤ u3 900000 0 ∧ u3 900000 0 ≤ n0 + (c : Int)
    rw [z3]; exact z
  · obtain ⟨u7, e7, V7, F7⟩ := vf_X12_takeImages hn V3
    rw [e7, mx_svs]
    refine ok_ret ⟨V7, nm_eq N3 (fun k => F7 7 k (by decide) (by omega)) (F7 2 9 (by decide) (by omega)), ?_, hc, hs⟩
    show n0 ≤ u7.2 900000 0 ∧ u7.2 900000 0 ≤ n0 + (c : Int)
    rw [F7 900000 0 (by decide) (by omega), z3]; exact z
theorem mo_ {nn : Nat} {a1 : Int} {h : ms_M} {u : Int} (e : qf_X2_methodsOf nn a1 h = some u) : u = 0 ∨ u = h 21 a1.toNat := by
  unfold qf_X2_methodsOf xl at e
  obtain ⟨z, -, e⟩ := sv_i e
  split at e
  · cases e; exact .inl rfl
  · have e := rd_i e
    cases e; exact .inr rfl
theorem vw_X12_compile_124 {nn : Nat} (hn : 1000000 ≤ nn) {kk : Int → ms_M → Nat → Nat → Option (Int × ms_M × Nat × Nat)} {l2 : Int} {c s : Nat} {n0 : Int} (r2 : 0 ≤ l2 ∧ l2 ≤ 7) {Q : Int × ms_M × Nat × Nat → Prop} (hc0 : n0 + (c : Int) < 700000) (hk : ∀ (v : Int) (h : ms_M) (c2 s2 : Nat), v = l2 + 1 → VS_ h → NM_ h → h 11 2 ≤ 8 → (n0 ≤ h 900000 0 ∧ h 900000 0 ≤ n0 + (c2 : Int)) → c2 ≤ c + 1 → s2 ≤ s + 6000 → Ok_ (kk v h c2 s2) Q) : ∀ (k : Nat) (l3 : Int) (h : ms_M), VS_ h → NM_ h → h 11 2 ≤ 8 → h 45 7 ≤ 100 + 3000100 * l3 → (n0 ≤ h 900000 0 ∧ h 900000 0 ≤ n0 + (c : Int)) → 0 ≤ l3 ∧ l3 ≤ 12 → 12 - l3 < (k : Int) → Ok_ (qw_X12_compile_124 nn kk k l2 l3 h c s) Q := by
  have H : ∀ h : ms_M, VS_ h → NM_ h → h 11 2 ≤ 8 → (n0 ≤ h 900000 0 ∧ h 900000 0 ≤ n0 + (c : Int)) → Ok_ (qj_X12_compile_161 nn kk l2 h c s) Q := by
    intro h V N h8 z
    unfold qj_X12_compile_161
    obtain ⟨u, eu, q1, q2, q3, q4, q5⟩ := vf_X0_closeClass hn (a1 := l2) (by omega) V N (by omega)
    rw [eu, mx_svs]
    refine ok_add (by omega) ?_; intro v12 e12
    exact hk v12 _ _ _ (by omega) q1 (nm_eq N (fun k => q2 7 k (by decide) (by decide) (by omega)) (q2 2 9 (by decide) (by decide) (by omega))) (by rw [q2 11 2 (by decide) (by decide) (by omega)]; exact h8) (by omega) (by omega) (by omega)
  intro k
  induction k with
  | zero => intros; exfalso; omega
  | succ k ih =>
    intro l3 h V N h8 b7 z r3 hm
    unfold qw_X12_compile_124
    refine ok_cP (vf_X2_methodsOf hn (by omega) (by omega) V) ?_; intro u15 e15 a15 b15
    have m := mo_ e15
    refine ok_if (fun _ => H h V N h8 z) (fun C1 => ?_)
    refine ok_if (fun _ => H h V N h8 z) (fun C2 => ?_)
    refine ok_cVR (vf_X0_makeMethod hn (by omega) (by omega) (by omega) (by omega) V (by omega) (by omega)) ?_; intro u20 E20 V20 R20
    refine ok_add (by omega) ?_; intro v21 e21
    have z20 : u20 900000 0 = h 900000 0 := (ff_X0_makeMethod nn) _ E20 900000 0 rfl
    have h20 : u20 11 2 = h 11 2 := (ff_X0_makeMethod nn) _ E20 11 2 rfl
    have N20 : NM_ u20 := nm_eq N (fun k => (ff_X0_makeMethod nn) _ E20 7 k (nw_ar rfl k)) ((ff_X0_makeMethod nn) _ E20 2 9 rfl)
    exact ih v21 u20 V20 N20 (by omega) (by omega) (by omega) (by omega) (by omega)
theorem vw_X12_compile_93 {nn : Nat} (hn : 1000000 ≤ nn) {n0 : Int} (hc0 : n0 + 8 < 700000) : ∀ (k : Nat) (l2 : Int) (h : ms_M) (c s : Nat), VS_ h → NM_ h → (¬ h 2 11 = 0 ∨ h 11 2 ≤ 8) → 0 ≤ l2 ∧ l2 ≤ 8 → (c : Int) ≤ l2 → (s : Int) ≤ 6000 * l2 → (n0 ≤ h 900000 0 ∧ h 900000 0 ≤ n0 + (c : Int)) → 8 - l2 < (k : Int) → Ok_ (qw_X12_compile_93 nn k l2 h c s) (PQ_ n0) := by
  intro k
  induction k with
  | zero => intros; exfalso; omega
  | succ k ih =>
    intro l2 h c s V N h8 r2 hc hs z hm
    unfold qw_X12_compile_93
    refine ok_if (fun _ => vj_X12_compile_175 hn V N z (by omega) (by omega)) (fun C1 => ?_)
    refine ok_if (fun _ => vj_X12_compile_175 hn V N z (by omega) (by omega)) (fun C2 => ?_)
    refine ok_cVR (vf_X0_beginClass hn (by omega) (by omega) V) ?_; intro u30 E30 V30 R30
    have z30 : u30 900000 0 = h 900000 0 := (ff_X0_beginClass nn) _ E30 900000 0 rfl
    have h30 : u30 11 2 = h 11 2 := (ff_X0_beginClass nn) _ E30 11 2 rfl
    have N30 : NM_ u30 := nm_eq N (fun k => (ff_X0_beginClass nn) _ E30 7 k (nw_ar rfl k)) ((ff_X0_beginClass nn) _ E30 2 9 rfl)
    refine vw_X12_compile_124 hn (n0 := n0) (by omega) (by omega) ?_ nn 0 u30 V30 N30 (by omega) (by omega) (by omega) (by omega) (by omega)
    intro v g c2 s2 ev Vg Ng hg8 zg hc2 hs2
    exact ih v g c2 s2 Vg Ng (.inr hg8) (by omega) (by omega) (by omega) zg (by omega)
theorem fg_0 {nn : Nat} {h r : ms_M} (e : qf_X2_forget nn h = some r) : r 11 2 = 0 := by
  unfold qf_X2_forget xl at e
  obtain ⟨u3, e3, e⟩ := sv_i e
  obtain ⟨u5, e5, e⟩ := sv_i e
  obtain ⟨u8, e8, e⟩ := sv_i e
  cases e
  have a3 : u3 11 2 = up_M h 11 2 0 11 2 := (ff_J7_fill_53178 nn) _ e3 11 2 (show 11 ≠ 17 by decide)
  have a5 : u5 11 2 = u3 11 2 := (ff_J7_fill_53178 nn) _ e5 11 2 (show 11 ≠ 21 by decide)
  have a8 : r 11 2 = u5 11 2 := (ff_X4_forget nn rfl) _ e8 11 2 ⟨by decide, by decide⟩
  rw [a8, a5, a3]; exact up_s
theorem hk_B {nn : Nat} {a : Int} {g q : ms_M} (e : qf_X2_addKindByte nn a g = some q) : q 900000 0 = g 900000 0 := (ff_X2_addKindByte nn) _ e 900000 0 rfl
theorem hk_20 {nn : Nat} {l2 : Int} {h r : ms_M} (e : qj_X2_addKind_20 nn l2 h = some r) : r 900000 0 = h 900000 0 := by
  unfold qj_X2_addKind_20 at e
  obtain ⟨u1, e1, e⟩ := sv_i e
  split at e
  · obtain ⟨u3, e3, e⟩ := sv_i e
    have e := rd_i e
    obtain ⟨u10, e10, e⟩ := sv_i e
    obtain ⟨u14, e14, e⟩ := sv_i e
    unfold xl at e
    obtain ⟨u21, e21, e⟩ := sv_i e
    cases e
    rw [hk_B e21, up_n (by omega), cpn_fr e10 _ _ (by decide), hk_B e3]
  · split at e
    · split at e
      · obtain ⟨u, e2, e⟩ := sv_i e; cases e; exact hk_B e2
      · obtain ⟨u, e2, e⟩ := sv_i e; cases e; exact hk_B e2
    · obtain ⟨u, e2, e⟩ := sv_i e; cases e; exact hk_B e2
theorem hk_A {nn : Nat} {l2 : Int} {h r : ms_M} (e : qf_X2_addKind nn l2 h = some r) : r 900000 0 = h 900000 0 := by
  unfold qf_X2_addKind at e
  obtain ⟨u1, e1, e⟩ := sv_i e
  split at e
  · exact hk_20 e
  · obtain ⟨u3, e3, e⟩ := sv_i e
    obtain ⟨u4, e4, e⟩ := sv_i e
    rw [hk_20 e, hk_B e3]
theorem hk_N {nn : Nat} {l2 : Int} {h : ms_M} {r : Int × ms_M} (e : qf_X2_nameKind nn l2 h = some r) : r.2 900000 0 = h 900000 0 := by
  unfold qf_X2_nameKind xl at e
  obtain ⟨u3, e3, e⟩ := sv_i e
  obtain ⟨u8, e8, e⟩ := sv_i e
  cases e
  have z : u8.2 900000 0 = u3 900000 0 := (ff_X9_nameOf nn) _ e8 900000 0 rfl
  show u8.2 900000 0 = _
  rw [z, hk_A e3, up_n (by omega)]
theorem hk_M13 {nn : Nat} : ∀ (k : Nat) (l1 l2 : Int) {h : ms_M} {r : Int × ms_M}, qw_X2_nameMethodKind_13 nn k l1 l2 h = some r → r.2 900000 0 = h 900000 0 := by
  intro k
  induction k with
  | zero => intro l1 l2 h r e; cases e
  | succ k ih =>
    intro l1 l2 h r e
    unfold qw_X2_nameMethodKind_13 at e
    have e := rd_i e
    split at e
    · obtain ⟨u4, e4, e⟩ := sv_i e
      have e := rd_i e
      obtain ⟨u8, e8, e⟩ := sv_i e
      obtain ⟨u13, e13, e⟩ := sv_i e
      cases e
      have z : u13.2 900000 0 = u8 900000 0 := (ff_X9_nameOf nn) _ e13 900000 0 rfl
      show u13.2 900000 0 = _
      rw [z, hk_A e8, hk_B e4]
    · obtain ⟨u15, e15, e⟩ := sv_i e
      obtain ⟨u17, e17, e⟩ := sv_i e
      unfold xl at e
      rw [ih _ _ e, hk_A e17]
theorem hk_M {nn : Nat} {a1 : Int} {h : ms_M} {r : Int × ms_M} (e : qf_X2_nameMethodKind nn a1 h = some r) : r.2 900000 0 = h 900000 0 := by
  unfold qf_X2_nameMethodKind xl at e
  obtain ⟨u22, e22, e⟩ := sv_i e
  rw [hk_M13 _ _ _ e, hk_B e22, up_n (by omega)]
theorem hk_144 {nn : Nat} : ∀ (k : Nat) (l1 : Int) {h r : ms_M}, qw_X2_nameKinds_144 nn k l1 h = some r → r 900000 0 = h 900000 0 := by
  intro k
  induction k with
  | zero => intro l1 h r e; cases e
  | succ k ih =>
    intro l1 h r e
    unfold qw_X2_nameKinds_144 at e
    split at e
    · cases e; rfl
    · split at e
      · cases e; rfl
      · obtain ⟨u6, e6, e⟩ := sv_i e
        split at e
        · exact ih _ e
        · obtain ⟨u10, e10, e⟩ := sv_i e
          have e := wa_i e
          have := ih _ e
          rw [this, up_n (by omega), hk_M e10]
theorem hk_85 {nn : Nat} : ∀ (k : Nat) (l1 : Int) {h r : ms_M}, qw_X2_nameKinds_85 nn k l1 h = some r → r 900000 0 = h 900000 0 := by
  intro k
  induction k with
  | zero => intro l1 h r e; cases e
  | succ k ih =>
    intro l1 h r e
    unfold qw_X2_nameKinds_85 at e
    split at e
    · exact hk_144 _ _ e
    · split at e
      · exact hk_144 _ _ e
      · unfold xl at e
        have e := rd_i e
        split at e
        · exact ih _ e
        · have e := rd_i e
          obtain ⟨u29, e29, e⟩ := sv_i e
          have e := wa_i e
          have := ih _ e
          rw [this, up_n (by omega), hk_N e29]
theorem hk_59 {nn : Nat} {qkk : Int → ms_M → Option ms_M} (hq : ∀ (l : Int) {g r : ms_M}, qkk l g = some r → r 900000 0 = g 900000 0) {l1 s0 s1 : Int} {h r : ms_M} (e : qj_X2_nameKinds_59 nn qkk l1 s0 s1 h = some r) : r 900000 0 = h 900000 0 := by
  unfold qj_X2_nameKinds_59 at e
  have e := wa_i e
  unfold xl at e
  obtain ⟨u40, e40, e⟩ := sv_i e
  have e := wa_i e
  have := hq _ e
  rw [this, up_n (by omega), hk_N e40, up_n (by omega)]
theorem hk_2 {nn : Nat} : ∀ (k : Nat) (l1 : Int) {h r : ms_M}, qw_X2_nameKinds_2 nn k l1 h = some r → r 900000 0 = h 900000 0 := by
  intro k
  induction k with
  | zero => intro l1 h r e; cases e
  | succ k ih =>
    intro l1 h r e
    unfold qw_X2_nameKinds_2 xl at e
    dsimp only at e
    split at e
    · exact hk_85 _ _ e
    · split at e
      · exact hk_85 _ _ e
      · split at e
        · exact hk_85 _ _ e
        · split at e
          · obtain ⟨u51, e51, e⟩ := sv_i e
            obtain ⟨u53, e53, e⟩ := sv_i e
            exact hk_59 (fun l _ _ z => ih l z) e
          · exact hk_59 (fun l _ _ z => ih l z) e
theorem hk_ok {nn : Nat} {g r : ms_M} (e : qf_X2_nameKinds nn g = some r) : r 900000 0 = g 900000 0 := hk_2 _ _ e
theorem vf_X12_compile {nn : Nat} (hn : 1000000 ≤ nn) {h : ms_M} (V : VS_ h) (N : NM_ h) (hc : h 900000 0 + 8 < 700000) : Ok_ (qf_X12_compile nn h) (PQ_ (h 900000 0)) := by
  have g01 := gF_0_1 V
  unfold qf_X12_compile
  refine ok_xl ?_; intro h34 E34
  have V34 : VS_ h34 := by rw [E34]; exact wF_0_1 V (by omega)
  have N34 : NM_ h34 := by rw [E34]; exact nm_uf N (by decide)
  have z34 : h34 900000 0 = h 900000 0 := by rw [E34]; exact up_n (by decide)
  refine ok_if (fun C1 => ?_) (fun C1 => ?_)
  · refine ok_cVR (vf_X9_scan hn (by omega) (by omega) V34 N34) ?_; intro u38 E38 V38 R38
    obtain ⟨N38, i38, p38⟩ := R38
    have z38 : u38 900000 0 = h34 900000 0 := (ff_X9_scan nn) _ E38 900000 0 rfl
    refine ok_cV (vf_X2_forget hn V38) ?_; intro u41 E41 V41
    have z41 : u41 900000 0 = u38 900000 0 := (ff_X2_forget nn) _ E41 900000 0 rfl
    have n41 : u41 2 3 = u38 2 3 := (ff_X2_forget nn) _ E41 2 3 rfl
    have p41 : u41 2 10 = u38 2 10 := (ff_X2_forget nn) _ E41 2 10 rfl
    have I41 : EI_ u41 := ei_eq (M := u38) i38 (fun k => (ff_X2_forget nn) _ E41 3 k (nw_ar rfl k)) n41
    have N41 : NM_ u41 := nm_eq N38 (fun k => (ff_X2_forget nn) _ E41 7 k (nw_ar rfl k)) ((ff_X2_forget nn) _ E41 2 9 rfl)
    have f41 := fg_0 E41
    refine ok_cVR (vf_X8_readProgram hn V41 (by omega) (by omega) (by omega) I41) ?_; intro u44 E44 V44 R44
    have z44 : u44 900000 0 = u41 900000 0 := (ff_X8_readProgram nn) _ E44 900000 0 rfl
    have N44 : NM_ u44 := nm_eq N41 (fun k => (ff_X8_readProgram nn) _ E44 7 k (nw_ar rfl k)) ((ff_X8_readProgram nn) _ E44 2 9 rfl)
    refine ok_cVR (vf_X2_readClasses hn V44 R44) ?_; intro u47 E47 V47 R47
    have z47 : u47 900000 0 = u44 900000 0 := (ff_X2_readClasses nn) _ E47 900000 0 rfl
    have N47 : NM_ u47 := nm_eq N44 (fun k => (ff_X2_readClasses nn) _ E47 7 k (nw_ar rfl k)) ((ff_X2_readClasses nn) _ E47 2 9 rfl)
    refine ok_cVR (vf_X2_readMembers hn V47 R47) ?_; intro u50 E50 V50 R50
    have z50 : u50 900000 0 = u47 900000 0 := (ff_X2_readMembers nn) _ E50 900000 0 rfl
    have h50 : u50 11 2 = u47 11 2 := (ff_X2_readMembers nn) _ E50 11 2 rfl
    have N50 : NM_ u50 := nm_eq N47 (fun k => (ff_X2_readMembers nn) _ E50 7 k (nw_ar rfl k)) ((ff_X2_readMembers nn) _ E50 2 9 rfl)
    refine ok_cVR (vf_X2_checkOverrides hn V50) ?_; intro u53 E53 V53 R53
    have z53 : u53 900000 0 = u50 900000 0 := (ff_X2_checkOverrides nn) _ E53 900000 0 rfl
    have h53 : u53 11 2 = u50 11 2 := (ff_X2_checkOverrides nn) _ E53 11 2 rfl
    have N53 : NM_ u53 := nm_eq N50 (fun k => (ff_X2_checkOverrides nn) _ E53 7 k (nw_ar rfl k)) ((ff_X2_checkOverrides nn) _ E53 2 9 rfl)
    refine ok_cVR (vf_X2_nameKinds hn V53 N53) ?_; intro u56 E56 V56 N56
    have z56 : u56 900000 0 = u53 900000 0 := hk_ok E56
    have h56 : u56 11 2 = u53 11 2 := (ff_X2_nameKinds nn) _ E56 11 2 rfl
    have f56 : u56 2 11 = u53 2 11 := (ff_X2_nameKinds nn) _ E56 2 11 rfl
    refine ok_cV (vf_X0_beginProgram hn V56) ?_; intro u59 E59 V59
    have z59 : u59 900000 0 = u56 900000 0 := (ff_X0_beginProgram nn) _ E59 900000 0 rfl
    have h59 : u59 11 2 = u56 11 2 := (ff_X0_beginProgram nn) _ E59 11 2 rfl
    have f59 : u59 2 11 = u56 2 11 := (ff_X0_beginProgram nn) _ E59 2 11 rfl
    have N59 : NM_ u59 := nm_eq N56 (fun k => (ff_X0_beginProgram nn) _ E59 7 k (nw_ar rfl k)) ((ff_X0_beginProgram nn) _ E59 2 9 rfl)
    exact vw_X12_compile_93 hn (by omega) nn 0 u59 0 0 V59 N59 (by omega) (by omega) (by omega) (by omega) (by omega) (by omega)
  · refine ok_cV (vf_X9_refuse hn (by omega) (by omega) (by omega) (by omega) V34) ?_; intro u62 E62 V62
    have z62 : u62 900000 0 = h34 900000 0 := (ff_X9_refuse nn) _ E62 900000 0 rfl
    refine ok_ret ⟨V62, nm_eq N34 (fun k => (ff_X9_refuse nn) _ E62 7 k (nw_ar rfl k)) ((ff_X9_refuse nn) _ E62 2 9 rfl), ?_, Nat.zero_le _, Nat.zero_le _⟩
    show h 900000 0 ≤ u62 900000 0 ∧ u62 900000 0 ≤ h 900000 0 + ((0 : Nat) : Int)
    omega
end
section
theorem si_read {nn a1 : Nat} {a2 : Int} {h : ms_M} {r : Int × ms_M} (hn : 1000000 ≤ nn) (V : VS_ h) (S : SI_ h) (ta : a1 < cn_M h ∧ ly_T a1 = 1) (ha : 0 ≤ a2 ∧ a2 ≤ 6000) (e : qf_X3_read nn (h 56 2).toNat a1 a2 h = some r) : SI_ r.2 ∧ (r.1 = -1 → IG_ r.2 (h 56 2).toNat) ∧ r.2 56 2 = h 56 2 ∧ (∀ k, r.2 60 k = h 60 k) := by
  have hb := (vi_r V).1.2
  have h0 := (vi_r V).1.1
  have hf := im_at hb
  have F := (of_X3_read nn hb) _ e
  have f60 : ∀ k, r.2 60 k = h 60 k := fun k => F 60 k (by show _ ∨ _; omega)
  have f56 : r.2 56 2 = h 56 2 := F 56 2 (by show _ ∨ _; omega)
  refine ⟨⟨fun k hk => ?_, fun j k hj hk hne => ?_, fun k hk => ?_⟩, ig_read hn V hb ta ha e, f56, f60⟩
  · rw [f60]
    have hd := V.2.2.2.2.1 k hk
    have hne : (h 60 k).toNat ≠ (h 56 2).toNat := by have := S.2.2 k hk; omega
    have hdis := im_dis hb hd.2 hne
    exact ig_eq (S.1 k hk) (F _ _ hdis.1) (fun i => F _ _ hdis.2)
  · rw [f60, f60]; exact S.2.1 j k hj hk hne
  · rw [f60, f56]; exact S.2.2 k hk
theorem sw_i {nn : Nat} {a1 : Int} {h r : ms_M} (e : qf_X7_swapSpare nn a1 h = some r) : (0 ≤ a1 ∧ a1 < 8) ∧ r = up_M (up_M h 60 a1.toNat (h 56 2)) 56 2 (h 60 a1.toNat) := by
  unfold qf_X7_swapSpare at e
  unfold rd_A at e
  split at e
  · rename_i q
    obtain ⟨g, e⟩ := ck_i e
    unfold wr_QI at e
    split at e
    · unfold wr_R at e
      split at e
      · cases e
        refine ⟨q, ?_⟩
        rw [show (((h 56 2).toNat : Nat) : Int) = h 56 2 by omega]
      · cases e
    · cases e
  · cases e
theorem si_swap {nn : Nat} {a1 : Int} {h r : ms_M} (V : VS_ h) (S : SI_ h) (I : IG_ h (h 56 2).toNat) (e : qf_X7_swapSpare nn a1 h = some r) : SI_ r := by
  obtain ⟨ha, e⟩ := sw_i e
  have hs := (vi_r V).1
  have fb : ∀ b, kc_O b = 3 → r b 12 = h b 12 ∧ ∀ k, r (b + 6) k = h (b + 6) k := by
    intro b hb
    have := im_at hb
    rw [e]
    exact ⟨by rw [up_n (by omega), up_n (by omega)], fun k => by rw [up_n (by omega), up_n (by omega)]⟩
  have f60 : ∀ k, k ≠ a1.toNat → r 60 k = h 60 k := fun k hk => by rw [e, up_n (by omega), up_n (by omega)]
  have f61 : r 60 a1.toNat = h 56 2 := by rw [e, up_n (by omega), up_s]
  have f56 : r 56 2 = h 60 a1.toNat := by rw [e, up_s]
  refine ⟨fun k hk => ?_, fun j k hj hk hne => ?_, fun k hk => ?_⟩
  · by_cases q : k = a1.toNat
    · rw [q, f61]
      have := fb _ hs.2
      exact ig_eq I this.1 this.2
    · rw [f60 k q]
      have := fb _ (V.2.2.2.2.1 k hk).2
      exact ig_eq (S.1 k hk) this.1 this.2
  · by_cases q : j = a1.toNat
    · rw [q, f61, f60 k (by omega)]
      exact fun z => S.2.2 k hk z.symm
    · by_cases q2 : k = a1.toNat
      · rw [q2, f61, f60 j q]; exact S.2.2 j hj
      · rw [f60 j q, f60 k q2]; exact S.2.1 j k hj hk hne
  · rw [f56]
    by_cases q : k = a1.toNat
    · rw [q, f61]; exact fun z => S.2.2 a1.toNat (by omega) z.symm
    · rw [f60 k q]; exact S.2.1 k a1.toNat hk (by omega) q
theorem si_up {M : ms_M} {c k : Nat} {v : Int} (V : VS_ M) (S : SI_ M) (hc : c ≠ 60 ∧ (c ≠ 56 ∨ k ≠ 2) ∧ (c < 61 ∨ (67 < c ∧ c < 71) ∨ (126 < c ∧ c < 136) ∨ (142 < c ∧ c < 153) ∨ 159 < c)) : SI_ (up_M M c k v) := by
  refine si_eq V S (fun j => up_n (by omega)) (up_n (by omega)) (fun b hb => ?_)
  have := im_at hb
  exact ⟨up_n (by omega), fun j => up_n (by omega)⟩
theorem si_relate {nn : Nat} {h r : ms_M} (V : VS_ h) (S : SI_ h) (e : qf_X7_relate nn h = some r) : SI_ r := si_fr V S (fun c k z => (ff_X7_relate nn) _ e c k z) rfl
theorem si_bring {nn a1 : Nat} {a2 : Int} {h : ms_M} {r : Int × ms_M × Nat × Nat} (hn : 1000000 ≤ nn) (V : VS_ h) (S : SI_ h) (ta : a1 < cn_M h ∧ ly_T a1 = 1) (ha : 0 ≤ a2 ∧ a2 ≤ 6000) (hc : h 900000 0 < 700000) (e : qf_X7_bring nn a1 a2 h = some r) : SI_ r.2.1 := by
  unfold qf_X7_bring at e
  obtain ⟨-, e⟩ := ck_i e
  obtain ⟨hb, e⟩ := ck_i e
  obtain ⟨u3, e3, e⟩ := sv_i e
  have R := si_read hn V S ta ha e3
  have V3 := okof (vf_X3_read hn hb (by omega) (by omega) V ta ha) e3
  split at e
  · obtain ⟨-, e⟩ := ck_i e
    obtain ⟨hb3, e⟩ := ck_i e
    split at e
    · cases e; exact R.1
    · obtain ⟨-, e⟩ := ck_i e
      obtain ⟨-, e⟩ := ck_i e
      obtain ⟨u10, e10, e⟩ := sv_i e
      obtain ⟨-, e⟩ := ck_i e
      obtain ⟨u13, e13, e⟩ := sv_i e
      obtain ⟨u15, e15, e⟩ := sv_i e
      split at e
      · obtain ⟨-, e⟩ := ck_i e
        obtain ⟨u18, e18, e⟩ := sv_i e
        have z9 : u3.2 900000 0 = h 900000 0 := by
          have hf := im_at hb
          exact (of_X3_read nn hb) _ e3 900000 0 (by show _ ∨ _; omega)
        have K := okof (vf_X3_keepOwn hb3 V3.1 (by omega)) e18
        have S18 : SI_ u18.1 := by
          refine si_eq V3.1 R.1 (fun j => K.2.2.1 _ _ (by decide) (by rintro ⟨z, -⟩; rw [← z] at hb3; cases hb3)) (K.2.2.1 _ _ (by decide) (by rintro ⟨z, -⟩; rw [← z] at hb3; cases hb3)) (fun b hbb => ?_)
          have := im_at hbb
          exact ⟨K.2.2.1 _ _ (by omega) (by omega), fun j => K.2.2.1 _ _ (by omega) (by rintro ⟨z, z2⟩; have := im_at hb3; omega)⟩
        have s18 : u18.1 56 2 = u3.2 56 2 := K.2.2.1 _ _ (by decide) (by rintro ⟨z, -⟩; rw [← z] at hb3; cases hb3)
        have I18 : IG_ u18.1 (u18.1 56 2).toNat := by
          rw [s18, R.2.2.1]
          have := im_at hb
          refine ig_eq (R.2.1 (by assumption)) (K.2.2.1 _ _ (by omega) (by omega)) (fun j => K.2.2.1 _ _ (by omega) (by rintro ⟨z, z2⟩; have := im_at hb3; omega))
        obtain ⟨u21, e21, e⟩ := sv_i e
        have S21 := si_swap K.1 S18 I18 e21
        have i21 := sw_i e21
        have V21 := okof (vf_X7_swapSpare i21.1.1 (by omega) K.1) e21
        rw [xl_eq, xl_eq] at e
        obtain ⟨u26, e26, e⟩ := sv_i e
        rw [xl_eq, xl_eq] at e
        cases e
        have g3 := gF_56_3 V21
        have t3 : u21 56 3 = u18.1 56 3 := by rw [i21.2, up_n (by omega), up_n (by omega)]
        have t4 : u18.1 56 3 = u3.2 56 3 := K.2.2.1 _ _ (by decide) (by rintro ⟨z, -⟩; rw [← z] at hb3; cases hb3)
        have V24 : VS_ (up_M u21 56 3 (oq_add (u21 56 3) 1)) := by
          rw [oq_add_eq (by omega) (by omega) (by omega)]
          exact wF_56_3 V21 (by omega)
        exact si_relate V24 (si_up V21 S21 (by omega)) e26
      · cases e; exact R.1
  · rw [xl_eq] at e
    have e := Option.some.inj e
    rw [← e]; exact R.1
theorem si_wt {c : Nat} {k : Nat} {v : Int} {M : ms_M} (V : VS_ M) (S : SI_ M) (hc : ly_T c = 1) : SI_ (up_M M c k v) := by
  have n0 : c ≠ 60 := by rintro rfl; cases hc
  have n1 : c ≠ 56 := by rintro rfl; cases hc
  refine si_eq V S (fun j => up_n (by omega)) (up_n (by omega)) (fun b hb => ?_)
  have n2 : b ≠ c := by rintro rfl; have := T_img hb; omega
  have n3 : b + 6 ≠ c := by rintro rfl; have := T_arr hb (off := 6) (by decide); omega
  exact ⟨up_n (by omega), fun j => up_n (by omega)⟩
theorem wti_ {α : Type} {M : ms_M} {r : α} {c : Nat} {j v : Int} {G : ms_M → Option α} (e : wr_T c j v M G = some r) : ((c < cn_M M ∧ ly_T c = 1) ∧ 0 ≤ j ∧ j < ln_I M c) ∧ G (up_M M c j.toNat (oq_b v)) = some r := by
  unfold wr_T at e; split at e
  · rename_i q; exact ⟨q, e⟩
  · cases e
theorem vs_wt {c : Nat} {j v : Int} {h : ms_M} (V : VS_ h) (hc : (c < cn_M h ∧ ly_T c = 1) ∧ 0 ≤ j ∧ j < ln_I h c) : VS_ (up_M h c j.toNat (oq_b v)) := by
  have k : Ok_ (wr_T c j v h some) QV_ := ok_wT V hc.1 hc.2 (fun z _ Vz => ok_rV Vz)
  refine okof k ?_
  unfold wr_T; rw [if_pos hc]
theorem si_change {nn : Nat} {a1 a2 a3 : Int} {h : ms_M} {r : Int × ms_M} (hn : 1000000 ≤ nn) (V : VS_ h) (S : SI_ h) (e : qf_X7_change nn a1 a2 a3 h = some r) : SI_ r.2 := by
  unfold qf_X7_change at e
  obtain ⟨u4, e4, e⟩ := sv_i e
  split at e
  · cases e; exact S
  · split at e
    · cases e; exact S
    · obtain ⟨hb, e⟩ := ck_i e
      split at e
      · obtain ⟨u9, e9, e⟩ := sv_i e
        obtain ⟨-, e⟩ := ck_i e
        have e := rt_i e
        rw [xl_eq] at e
        obtain ⟨hw, e⟩ := wti_ e
        have V13 : VS_ (up_M h u9.toNat a2.toNat (oq_b (oq_b a3))) := vs_wt V hw
        have S13 : SI_ (up_M h u9.toNat a2.toNat (oq_b (oq_b a3))) := si_wt V S hw.1.2
        have c13 : cn_M (up_M h u9.toNat a2.toNat (oq_b (oq_b a3))) = cn_M h := cn_up (by have := V.2.1.1; have := hw.1.1; unfold cn_M at this; omega)
        generalize up_M h u9.toNat a2.toNat (oq_b (oq_b a3)) = h13 at *
        obtain ⟨-, e⟩ := ck_i e
        obtain ⟨hb13, e⟩ := ck_i e
        obtain ⟨u17, e17, e⟩ := sv_i e
        have g1 := gI_1 V13 hb
        have t9 : u9.toNat < cn_M h13 ∧ ly_T u9.toNat = 1 := ⟨by rw [c13]; exact hw.1.1, hw.1.2⟩
        have R := si_read hn V13 S13 t9 (by omega) e17
        have V17 := okof (vf_X3_read hn hb13 (by omega) (by omega) V13 t9 (by omega)) e17
        have back : ∀ {v : Int} {r : Int × ms_M}, qj_X7_change_72 nn a2 ((u9.toNat : Nat) : Int) v u17.2 = some r → SI_ r.2 := by
          intro v r e
          unfold qj_X7_change_72 at e
          obtain ⟨-, e⟩ := ck_i e
          obtain ⟨hw2, e⟩ := wti_ e
          cases e
          exact si_wt V17.1 R.1 hw2.1.2
        split at e
        · exact back e
        · obtain ⟨u19, e19, e⟩ := sv_i e
          split at e
          · rw [xl_eq] at e
            obtain ⟨u22, e22, e⟩ := sv_i e
            obtain ⟨u24, e24, e⟩ := sv_i e
            cases e
            have q : u17.1 = -1 := Decidable.not_not.1 (by assumption)
            have I17 : IG_ u17.2 (u17.2 56 2).toNat := by rw [R.2.2.1]; exact R.2.1 q
            have S22 := si_swap V17.1 R.1 I17 e22
            have i22 := sw_i e22
            have V22 := okof (vf_X7_swapSpare i22.1.1 (by omega) V17.1) e22
            exact si_relate V22 S22 e24
          · exact back e
      · cases e; exact S
/-- marks are below 0 as far as the code goes; every frame that was taken has counts that are not below 0, and marks name only such -/
def MN_ (M : ms_M) : Prop := ∀ q : Nat, (q : Int) < M 127 16 → M 132 q < 0
def MF_ (f : Int) (M : ms_M) : Prop := (∀ q : Nat, (q : Int) < M 127 16 → M 132 q < f) ∧ (∀ i : Nat, (i : Int) < f → 0 ≤ M 133 (64 * i + 1) ∧ 0 ≤ M 133 (64 * i + 2))
theorem ws_i {α : Type} {M : ms_M} {r : α} {c : Nat} {j v : Int} {G : ms_M → Option α} (e : wr_S c j v M G = some r) : G (up_M M c j.toNat v) = some r := by
  unfold wr_S at e; split at e
  · exact e
  · cases e
theorem fr_10 {nn c : Nat} {v b : Int} (hb : b ≤ 100000) : ∀ (k : Nat) (a : Nat) {h r : ms_M}, qw_J7_fill_fda19_10 nn k c b v (a : Int) h = some r → (∀ q : Nat, q < a → r c q = h c q) ∧ (∀ q : Nat, a ≤ q → (q : Int) < b → r c q = v) := by
  intro k
  induction k with
  | zero => intro a h r e; cases e
  | succ k ih =>
    intro a h r e
    unfold qw_J7_fill_fda19_10 at e
    split at e
    · cases e; exact ⟨fun _ _ => rfl, fun q h1 h2 => by omega⟩
    · have e := ws_i e
      rw [xl_eq, oq_add_eq (by omega) (by omega) (by omega)] at e
      have e : qw_J7_fill_fda19_10 nn k c b v ((a + 1 : Nat) : Int) (up_M h c (a : Int).toNat v) = some r := e
      have := ih (a + 1) e
      refine ⟨fun q hq => ?_, fun q h1 h2 => ?_⟩
      · rw [this.1 q (by omega), up_n (by omega)]
      · by_cases z : q = a
        · rw [this.1 q (by omega), z]; exact up_s
        · exact this.2 q (by omega) h2
theorem fr_v {nn c : Nat} {v b : Int} {h r : ms_M} (hb : b ≤ 100000) (e : qf_J7_fill_fda19 nn c 0 b v h = some r) : ∀ q : Nat, (q : Int) < b → r c q = v := by
  unfold qf_J7_fill_fda19 ln_S at e
  split at e
  · obtain ⟨w, e1, e⟩ := sv_i e
    have e : qw_J7_fill_fda19_10 nn nn c b v ((0 : Nat) : Int) h = some r := e
    exact fun q hq => (fr_10 hb nn 0 e).2 q (by omega) hq
  · cases e
theorem mn_33 {nn : Nat} : ∀ (k : Nat) (l1 : Int) {h : ms_M} {r : Int × ms_M}, MN_ h → qw_X11_proveInstructions_33 nn k l1 h = some r → MN_ r.2 := by
  intro k
  have bad : ∀ {l1 : Int} {h : ms_M} {r : Int × ms_M}, MN_ h → qj_X11_proveInstructions_64 nn l1 h = some r → MN_ r.2 := by
    intro l1 h r m e
    unfold qj_X11_proveInstructions_64 at e
    obtain ⟨w, e1, e⟩ := sv_i e
    unfold qf_X11_at at e1
    rw [xl_eq] at e1
    cases e1; cases e
    intro q hq
    have hq : (q : Int) < up_M h 127 7 l1 127 16 := hq
    rw [up_n (by omega)] at hq
    show up_M h 127 7 l1 132 q < 0
    rw [up_n (by omega)]; exact m q hq
  induction k with
  | zero => intro l1 h r m e; cases e
  | succ k ih =>
    intro l1 h r m e
    unfold qw_X11_proveInstructions_33 at e
    split at e
    · cases e; exact m
    · obtain ⟨u5, e5, e⟩ := sv_i e
      obtain ⟨u6, e6, e⟩ := sv_i e
      split at e
      · exact bad m e
      · rw [xl_eq] at e
        split at e
        · have e := wa_i e
          rw [xl_eq] at e
          refine ih _ ?_ e
          intro q hq
          rw [up_n (by omega)] at hq
          by_cases z : q = l1.toNat
          · rw [z, up_s]; decide
          · rw [up_n (by omega)]; exact m q hq
        · exact bad m e
theorem mn_pi {nn : Nat} {h : ms_M} {r : Int × ms_M} (V : VS_ h) (e : qf_X11_proveInstructions nn h = some r) : MN_ r.2 := by
  unfold qf_X11_proveInstructions at e
  obtain ⟨u, e1, e⟩ := sv_i e
  rw [xl_eq, xl_eq] at e
  obtain ⟨w, e2, e⟩ := sv_i e
  have hb : up_M h 127 16 (if 1500 < u then 1500 else u) 127 16 ≤ 100000 := by rw [up_s]; split <;> omega
  have f := fr_v hb e2
  have g : w 127 16 = up_M h 127 16 (if 1500 < u then 1500 else u) 127 16 := (ff_J7_fill_fda19 nn) _ e2 127 16 (show 127 ≠ 132 by decide)
  refine mn_33 _ _ ?_ e
  intro q hq
  rw [g] at hq
  rw [f q hq]; decide
theorem mn_eq {M N : ms_M} (h : MN_ M) (h1 : N 127 16 = M 127 16) (h2 : ∀ k, N 132 k = M 132 k) : MN_ N := by
  intro q hq
  rw [h1] at hq; rw [h2]; exact h q hq
theorem mf_eq {f : Int} {M N : ms_M} (h : MF_ f M) (h1 : N 127 16 = M 127 16) (h2 : ∀ k, N 132 k = M 132 k) (h3 : ∀ k, N 133 k = M 133 k) : MF_ f N := by
  refine ⟨fun q hq => ?_, fun i hi => ?_⟩
  · rw [h1] at hq; rw [h2]; exact h.1 q hq
  · rw [h3, h3]; exact h.2 i hi
theorem inf_eq {nn : Nat} {a : Int} {M N : ms_M} (V : VS_ M) (h5 : N 127 5 = M 127 5) (h6 : N 127 6 = M 127 6) (hI : ∀ c k, is_I c = true → N c k = M c k) : qf_X11_info nn a N = qf_X11_info nn a M := by
  have hb := is_Ib (vi_r V).2.1.2
  unfold qf_X11_info qf_X3_of rd_A
  rw [h5, h6, hI _ 12 hb.1]
  have : N ((M 127 5).toNat + 6) = M ((M 127 5).toNat + 6) := funext (fun k => hI _ k hb.2)
  rw [this]
theorem t67_i {nn : Nat} {qkk : Int → Int → Int → Int → ms_M → Option (Int × ms_M)} {l2 l3 l4 l5 l6 : Int} {h : ms_M} {r : Int × ms_M} (e : qj_X11_takeTypes_67 nn qkk l2 l3 l4 l5 l6 h = some r) : ∃ x, qkk l2 l3 x (oq_add l5 1) h = some r := by
  unfold qj_X11_takeTypes_67 at e
  split at e <;> (unfold qj_X11_takeTypes_80 at e; rw [xl_eq, xl_eq] at e; exact ⟨_, e⟩)
theorem tt_17 {nn : Nat} {l2 l3 : Int} (h2 : 0 ≤ l2 ∧ l2 ≤ 6369) (h3 : l3 ≤ 255) : ∀ (k : Nat) (l4 l5 : Int) {h : ms_M} {r : Int × ms_M}, 0 ≤ l5 → qw_X11_takeTypes_17 nn k l2 l3 l4 l5 h = some r → ∀ c j : Nat, ¬ (c = 133 ∧ l2 ≤ (j : Int) ∧ (j : Int) < l2 + 30) → r.2 c j = h c j := by
  intro k
  induction k with
  | zero => intro l4 l5 h r g e; cases e
  | succ k ih =>
    intro l4 l5 h r g e c j hc
    unfold qw_X11_takeTypes_17 at e
    split at e
    · cases e; rfl
    · obtain ⟨-, e⟩ := ck_i e
      obtain ⟨-, e⟩ := ck_i e
      obtain ⟨u6, e6, e⟩ := sv_i e
      split at e
      · obtain ⟨x, e⟩ := t67_i e
        rw [oq_add_eq (by omega) (by omega) (by omega)] at e
        exact ih _ _ (by omega) e c j hc
      · rw [xl_eq] at e
        obtain ⟨-, e⟩ := ck_i e
        rw [xl_eq] at e
        obtain ⟨u12, e12, e⟩ := sv_i e
        obtain ⟨u14, e14, e⟩ := sv_i e
        have e := wa_i e
        obtain ⟨x, e⟩ := t67_i e
        rw [oq_add_eq (by omega) (by omega) (by omega)] at e
        rw [oq_add_eq (by omega) (by omega) (by omega)] at e
        rw [ih _ _ (by omega) e c j hc]
        exact up_n (by omega)
theorem tt_fr {nn : Nat} {a1 a2 : Int} {h : ms_M} {r : Int × ms_M} (hn : 1000000 ≤ nn) (V : VS_ h) (h1 : 0 ≤ a1 ∧ a1 ≤ 200010) (h2 : 0 ≤ a2 ∧ a2 ≤ 6369) (e : qf_X11_takeTypes nn a1 a2 h = some r) : ∀ c j : Nat, ¬ (c = 133 ∧ a2 ≤ (j : Int) ∧ (j : Int) < a2 + 30) → r.2 c j = h c j := by
  unfold qf_X11_takeTypes at e
  obtain ⟨-, e⟩ := ck_i e
  obtain ⟨hb, e⟩ := ck_i e
  obtain ⟨u, e1, e⟩ := sv_i e
  have q := okof (vf_X3_byteAt hn hb (by omega) (by omega) V) e1
  have q : 0 ≤ u ∧ u ≤ 255 := q
  rw [xl_eq] at e
  exact tt_17 h2 q.2 _ _ _ (by omega) e
theorem tf_9 {nn : Nat} (hn : 1000000 ≤ nn) {l1 u : Int} (hl : ¬ l1 = 0) : ∀ (k : Nat) (l2 : Int) (i : Nat) {h r : ms_M}, VS_ h → VG_ h → qf_X11_info nn 9 h = some u → MF_ (i : Int) h → ((i : Int) ≤ u ∨ i = 0) → (-1 ≤ l2 ∧ l2 ≤ 70000 + 1100 * (i : Int)) → qw_X11_takeFrames_9 nn k l1 l2 (i : Int) h = some r → MF_ u r ∧ qf_X11_info nn 9 r = some u := by
  intro k
  induction k with
  | zero => intro l2 i h r V N hu hm hi h2 e; cases e
  | succ k ih =>
    intro l2 i h r V N hu hm hi h2 e
    have L := lm_info V N (by omega) hu
    unfold qw_X11_takeFrames_9 at e
    rw [hu, mx_svs] at e
    split at e
    · cases e
      have : u = (i : Int) := by omega
      rw [this]; exact ⟨hm, by rw [← this]; exact hu⟩
    · try rw [if_neg hl] at e
      have i99 : i ≤ 99 := by omega
      rw [xl_eq, oq_mul_eq (by omega) (by omega) (by omega)] at e
      obtain ⟨-, e⟩ := ck_i e
      obtain ⟨hb, e⟩ := ck_i e
      obtain ⟨u6, e6, e⟩ := sv_i e
      have q6 := okof (vf_X3_pairAt hn hb (by omega) (by omega) V) e6
      have q6 : 0 ≤ u6 ∧ u6 ≤ 65535 := q6
      have e := wa_i e
      rw [show ((i : Int) * 64).toNat = 64 * i by omega] at e
      have V8 : VS_ (up_M h 133 (64 * i) u6) := wA_133 V (by omega)
      have f8 : ∀ c j, ¬ (c = 133 ∧ j = 64 * i) → up_M h 133 (64 * i) u6 c j = h c j := fun c j z => up_n z
      generalize up_M h 133 (64 * i) u6 = h8 at *
      rw [xl_eq, oq_add_eq (by omega) (by omega) (by omega)] at e
      obtain ⟨-, e⟩ := ck_i e
      rw [xl_eq, oq_add_eq (by omega) (by omega) (by omega)] at e
      obtain ⟨hb8, e⟩ := ck_i e
      obtain ⟨u14, e14, e⟩ := sv_i e
      have q14 := okof (vf_X3_byteAt hn hb8 (by omega) (by omega) V8) e14
      have q14 : 0 ≤ u14 ∧ u14 ≤ 255 := q14
      have e := wa_i e
      rw [show ((i : Int) * 64 + 1).toNat = 64 * i + 1 by omega] at e
      have V15 : VS_ (up_M h8 133 (64 * i + 1) u14) := wA_133 V8 (by omega)
      have f15 : ∀ c j, ¬ (c = 133 ∧ j = 64 * i + 1) → up_M h8 133 (64 * i + 1) u14 c j = h8 c j := fun c j z => up_n z
      have g15 : up_M h8 133 (64 * i + 1) u14 133 (64 * i + 1) = u14 := up_s
      generalize up_M h8 133 (64 * i + 1) u14 = h15 at *
      rw [xl_eq, xl_eq, oq_add_eq (by omega) (by omega) (by omega)] at e
      rw [oq_add_eq (by omega) (by omega) (by omega)] at e
      obtain ⟨u19, e19, e⟩ := sv_i e
      have Q19 := okof (vf_X11_takeTypes hn (by omega) (by omega) (by omega) (by omega) V15) e19
      have b19 : 0 ≤ u19.1 ∧ u19.1 ≤ 210000 := ⟨Q19.2.1, Q19.2.2.1⟩
      have r19 : u19.1 ≤ l2 + 2 + 511 := Q19.2.2.2
      have f19 := tt_fr hn V15 (by omega) (by omega) e19
      rw [xl_eq, oq_add_eq (by omega) (by omega) (by omega)] at e
      obtain ⟨-, e⟩ := ck_i e
      obtain ⟨hb19, e⟩ := ck_i e
      obtain ⟨u24, e24, e⟩ := sv_i e
      have q24 := okof (vf_X3_byteAt hn hb19 (by omega) (by omega) Q19.1) e24
      have q24 : 0 ≤ u24 ∧ u24 ≤ 255 := q24
      have e := wa_i e
      rw [show ((i : Int) * 64 + 2).toNat = 64 * i + 2 by omega] at e
      have V25 : VS_ (up_M u19.2 133 (64 * i + 2) u24) := wA_133 Q19.1 (by omega)
      have f25 : ∀ c j, ¬ (c = 133 ∧ j = 64 * i + 2) → up_M u19.2 133 (64 * i + 2) u24 c j = u19.2 c j := fun c j z => up_n z
      have g25 : up_M u19.2 133 (64 * i + 2) u24 133 (64 * i + 2) = u24 := up_s
      generalize up_M u19.2 133 (64 * i + 2) u24 = h25 at *
      rw [xl_eq, oq_add_eq (by omega) (by omega) (by omega)] at e
      obtain ⟨u28, e28, e⟩ := sv_i e
      have Q28 := okof (vf_X11_takeTypes hn (by omega) (by omega) (by omega) (by omega) V25) e28
      have b28 : 0 ≤ u28.1 ∧ u28.1 ≤ 210000 := ⟨Q28.2.1, Q28.2.2.1⟩
      have r28 : u28.1 ≤ u19.1 + 511 := Q28.2.2.2
      have f28 := tt_fr hn V25 (by omega) (by omega) e28
      have F : ∀ c j : Nat, ¬ (c = 133 ∧ 64 * i ≤ j) → u28.2 c j = h c j := fun c j z => by
        rw [f28 c j (by omega), f25 c j (by omega), f19 c j (by omega), f15 c j (by omega), f8 c j (by omega)]
      have G1 : u28.2 133 (64 * i + 1) = u14 := by rw [f28 _ _ (by omega), f25 _ _ (by omega), f19 _ _ (by omega), g15]
      have G2 : u28.2 133 (64 * i + 2) = u24 := by rw [f28 _ _ (by omega), g25]
      have N28 : VG_ u28.2 := vg_eq V N (F _ _ (by omega)) (fun c j z => F c j (by rintro ⟨rfl, -⟩; cases z))
      have U28 : qf_X11_info nn 9 u28.2 = some u := by rw [inf_eq V (F _ _ (by omega)) (F _ _ (by omega)) (fun c j z => F c j (by rintro ⟨rfl, -⟩; cases z))]; exact hu
      have M28 : MF_ ((i + 1 : Nat) : Int) u28.2 := by
        refine ⟨fun q hq => ?_, fun j hj => ?_⟩
        · rw [F _ _ (by omega)] at hq ⊢
          have := hm.1 q hq; omega
        · by_cases z : j = i
          · rw [z, G1, G2]; omega
          · rw [F _ _ (by omega), F _ _ (by omega)]; exact hm.2 j (by omega)
      have nx : ∀ {g : ms_M}, VS_ g → VG_ g → qf_X11_info nn 9 g = some u → MF_ ((i + 1 : Nat) : Int) g → qw_X11_takeFrames_9 nn k l1 u28.1 ((i : Int) + 1) g = some r → MF_ u r ∧ qf_X11_info nn 9 r = some u := by
        intro g Vg Ng Ug Mg eg
        exact ih u28.1 (i + 1) Vg Ng Ug Mg (by omega) (by omega) eg
      obtain ⟨u30, e30, e⟩ := sv_i e
      split at e
      · rw [xl_eq] at e
        exact nx Q28.1 N28 U28 M28 e
      · have e := rd_i e
        split at e
        · rw [xl_eq] at e
          exact nx Q28.1 N28 U28 M28 e
        · have e := wa_i e
          rw [xl_eq] at e
          have V36 : VS_ (up_M u28.2 132 u6.toNat (i : Int)) := wA_132 Q28.1 (by omega)
          refine nx V36 (vg_ua Q28.1 N28 rfl) ?_ ?_ e
          · rw [inf_eq Q28.1 (up_n (by omega)) (up_n (by omega)) (fun c j z => up_n (by rintro ⟨rfl, -⟩; cases z))]; exact U28
          · refine ⟨fun q hq => ?_, fun j hj => ?_⟩
            · rw [up_n (by omega)] at hq
              by_cases z : q = u6.toNat
              · rw [z, up_s]; omega
              · rw [up_n (by omega)]; exact M28.1 q hq
            · rw [up_n (by omega), up_n (by omega)]; exact M28.2 j hj
theorem tf_ok {nn : Nat} {a1 u : Int} {h r : ms_M} (hn : 1000000 ≤ nn) (V : VS_ h) (N : VG_ h) (hm : MN_ h) (ha : ¬ a1 = 0) (hu : qf_X11_info nn 9 h = some u) (e : qf_X11_takeFrames nn a1 h = some r) : MF_ u r ∧ qf_X11_info nn 9 r = some u := by
  unfold qf_X11_takeFrames at e
  obtain ⟨w, e1, e⟩ := sv_i e
  have q := okof (vf_X11_info hn (by omega) (by omega) V) e1
  have q : -1 ≤ w ∧ w ≤ 65535 := q
  have e : qw_X11_takeFrames_9 nn nn a1 w ((0 : Nat) : Int) h = some r := e
  exact tf_9 hn ha nn w 0 V N hu ⟨fun q hq => hm q hq, fun i hi => by omega⟩ (.inr rfl) (by omega) e
theorem pf_4 {nn : Nat} {u : Int} {h : ms_M} (V : VS_ h) (N : VG_ h) (hu : qf_X11_info nn 9 h = some u) : ∀ (k : Nat) (l1 : Int) (i : Nat) {r : Int × ms_M}, i ≤ 100 → (∀ j : Nat, j < i → h 133 (64 * j + 1) ≤ 30 ∧ h 133 (64 * j + 2) ≤ 30) → qw_X11_proveFrames_4 nn k l1 (i : Int) h = some r → r.1 = 0 → r.2 = h ∧ ∀ j : Nat, (j : Int) < u → h 133 (64 * j + 1) ≤ 30 ∧ h 133 (64 * j + 2) ≤ 30 := by
  have hU := lm_info V N (by omega) hu
  intro k
  induction k with
  | zero => intro l1 i r hi hj e; cases e
  | succ k ih =>
    intro l1 i r hi hj e
    have bad : ∀ {v : Int} {r : Int × ms_M} {q : Int → Int → ms_M → Option (Int × ms_M)}, qj_X11_proveFrames_115 nn q (i : Int) v h = some r → r.1 = 0 → False := by
      intro v r q e z
      unfold qj_X11_proveFrames_115 qj_X11_proveFrames_116 at e
      rw [if_neg (by omega)] at e
      obtain ⟨w, e1, e⟩ := sv_i e
      unfold qf_X11_at at e1
      rw [xl_eq] at e1
      cases e1; cases e; cases z
    unfold qw_X11_proveFrames_4 at e
    rw [hu, mx_svs] at e
    split at e
    · cases e; exact fun _ => ⟨rfl, fun j hj2 => hj j (by omega)⟩
    · have i99 : i ≤ 99 := by omega
      rw [xl_eq, oq_mul_eq (by omega) (by omega) (by omega)] at e
      have e := rd_i e
      obtain ⟨u13, e13, e⟩ := sv_i e
      split at e
      · exact fun z => (bad e z).elim
      · have e := rd_i e
        split at e
        · exact fun z => (bad e z).elim
        · rw [xl_eq, oq_add_eq (by omega) (by omega) (by omega)] at e
          have e := rd_i e
          obtain ⟨u20, e20, e⟩ := sv_i e
          split at e
          · exact fun z => (bad e z).elim
          · rw [xl_eq, oq_add_eq (by omega) (by omega) (by omega)] at e
            have e := rd_i e
            obtain ⟨u25, e25, e⟩ := sv_i e
            split at e
            · exact fun z => (bad e z).elim
            · have h20 := lm_info V N (by omega) e20
              have h25 := lm_info V N (by omega) e25
              rw [xl_eq, xl_eq] at e
              have e := rd_i e
              obtain ⟨u31, e31, e⟩ := sv_i e
              split at e
              · exact fun z => (bad e z).elim
              · rw [xl_eq, xl_eq] at e
                have e := rd_i e
                obtain ⟨u37, e37, e⟩ := sv_i e
                split at e
                · exact fun z => (bad e z).elim
                · unfold qj_X11_proveFrames_116 at e
                  rw [if_pos (by omega)] at e
                  have e := rd_i e
                  rw [xl_eq, oq_add_eq (by omega) (by omega) (by omega)] at e
                  refine ih _ (i + 1) (by omega) (fun j hj2 => ?_) e
                  by_cases z : j = i
                  · rw [z]
                    rw [show ((i : Int) * 64 + 1).toNat = 64 * i + 1 by omega] at *
                    rw [show ((i : Int) * 64 + 2).toNat = 64 * i + 2 by omega] at *
                    omega
                  · exact hj j (by omega)
theorem fb_pf {nn : Nat} {u : Int} {h : ms_M} {r : Int × ms_M} (V : VS_ h) (N : VG_ h) (hu : qf_X11_info nn 9 h = some u) (hm : MF_ u h) (e : qf_X11_proveFrames nn h = some r) (z : r.1 = 0) : r.2 = h ∧ FB_ h := by
  have e : qw_X11_proveFrames_4 nn nn (-1) ((0 : Nat) : Int) h = some r := e
  have R := pf_4 V N hu nn (-1) 0 (by omega) (fun j hj => by omega) e z
  refine ⟨R.1, fun q hq h0 => ?_⟩
  have hm1 := hm.1 q hq
  have a := hm.2 (h 132 q).toNat (by omega)
  have b := R.2 (h 132 q).toNat (by omega)
  rw [show (h 132 q * 64 + 1).toNat = 64 * (h 132 q).toNat + 1 by omega, show (h 132 q * 64 + 2).toNat = 64 * (h 132 q).toNat + 2 by omega]
  exact ⟨⟨a.1, b.1⟩, a.2, b.2⟩
def SV_ (M : ms_M) : Prop := SI_ M ∧ VG_ M
theorem sv_fr {M N : ms_M} {L : List Nat} {LF : List (Nat × Nat)} (V : VS_ M) (h : SV_ M) (F : ∀ c k, nw_F L LF false false c k = true → N c k = M c k) (hc : (((L.all (fun x => !(is_I x)) && LF.all (fun q => !(is_I q.1))) && (nw_F L LF false false 56 2 && (!(L.contains 60) && LF.all (fun q => !(Nat.beq q.1 60))))) && nw_F L LF false false 127 5) = true) : SV_ N := by
  rw [Bool.and_eq_true] at hc
  refine ⟨si_fr V h.1 F hc.1, vg_fr V h.2 F ?_⟩
  have h1 := hc.1
  rw [Bool.and_eq_true] at h1
  rw [Bool.and_eq_true]
  exact ⟨h1.1, hc.2⟩
theorem ti_i {nn : Nat} {a1 : Int} {h r : ms_M} (V : VS_ h) (ha : 8 ≤ a1 ∧ a1 < 8 + h 56 3) (e : qf_X11_takeImage nn a1 h = some r) : r = up_M h 127 5 (h 60 (a1 - 8).toNat) := by
  have g3 := gF_56_3 V
  unfold qf_X11_takeImage at e
  obtain ⟨u, e1, e⟩ := sv_i e
  unfold qf_X7_imageOf at e1
  rw [if_neg (by omega), xl_eq, oq_add_eq (by omega) (by omega) (by omega), if_neg (by omega), xl_eq, oq_sub_eq (by omega) (by omega) (by omega)] at e1
  have e1 := rd_i e1
  cases e1
  have g6 := V.2.2.2.2.1 (a1 - 8).toNat (by omega)
  rw [if_neg (by omega)] at e
  unfold wr_R at e
  split at e
  · cases e
    rw [show (((h 60 (a1 - 8).toNat).toNat : Nat) : Int) = h 60 (a1 - 8).toNat by omega]
  · cases e
theorem sv_ti {nn : Nat} {a1 : Int} {h r : ms_M} (V : VS_ h) (S : SI_ h) (ha : 8 ≤ a1 ∧ a1 < 8 + h 56 3) (e : qf_X11_takeImage nn a1 h = some r) : SV_ r := by
  have g3 := gF_56_3 V
  have z := ti_i V ha e
  have S2 : SI_ r := by rw [z]; exact si_up V S (by omega)
  refine ⟨S2, ?_⟩
  unfold VG_
  have t5 : r 127 5 = r 60 (a1 - 8).toNat := by rw [z, up_s, up_n (by omega)]
  rw [t5]
  exact S2.1 _ (by omega)
section
variable {nn : Nat} {N3 : Int} {q3 : Int → ms_M → Option (Int × ms_M)} {qk : Int → Int → ms_M → Option (Int × ms_M)} {l1 l2 : Int}
theorem vm_118 (hn : 1000000 ≤ nn) (r1 : 8 ≤ l1 ∧ l1 ≤ 15) (r2 : 0 ≤ l2 ∧ l2 ≤ 11) (hk : ∀ {g : ms_M}, VS_ g → SV_ g → g 56 3 = N3 → Ok_ (qk l1 (l2 + 1) g) (QI_ 0 12)) {s0 : Int} {h : ms_M} (rs : 0 ≤ s0 ∧ s0 ≤ 12) (V : VS_ h) (S : SV_ h) (n3 : h 56 3 = N3) : Ok_ (qj_X11_proveMethods_118 nn q3 qk l1 l2 s0 h) (QI_ 0 12) := by
  unfold qj_X11_proveMethods_118
  refine ok_if (fun C => ?_) (fun C => ?_)
  · refine ok_add (by omega) ?_; intro v1 e1
    rw [e1]; exact hk V S n3
  · have g := gF_127_7 V
    refine ok_cI (vf_X11_tellNumber hn (by omega) (by omega) (by omega) (by omega) (by omega) (by omega) (by omega) (by omega) V) ?_; intro u4 E4 V4 a4 b4
    exact ok_rI V4 (by omega) (by omega)
theorem vm_100 (hn : 1000000 ≤ nn) (r1 : 8 ≤ l1 ∧ l1 ≤ 15) (r2 : 0 ≤ l2 ∧ l2 ≤ 11) (hk : ∀ {g : ms_M}, VS_ g → SV_ g → g 56 3 = N3 → Ok_ (qk l1 (l2 + 1) g) (QI_ 0 12)) {s0 : Int} {h : ms_M} (rs : 0 ≤ s0 ∧ s0 ≤ 12) (V : VS_ h) (S : SV_ h) (n3 : h 56 3 = N3) (hf : s0 = 0 → FB_ h) : Ok_ (qj_X11_proveMethods_100 nn q3 qk l1 l2 s0 h) (QI_ 0 12) := by
  unfold qj_X11_proveMethods_100
  refine ok_cV (vf_X11_beginState hn (by omega) (by omega) V S.2) ?_; intro u7 E7 V7
  have S7 : SV_ u7 := sv_fr V S (fun c k z => (ff_X11_beginState nn) _ E7 c k z) rfl
  have m7 : u7 56 3 = h 56 3 := (ff_X11_beginState nn) _ E7 56 3 rfl
  refine ok_if (fun C => ?_) (fun C => ?_)
  · have F7 : VF_ u7 := vf_fr V ⟨S.2, hf C⟩ (fun c k z => (ff_X11_beginState nn) _ E7 c k z) rfl
    refine ok_cI (vf_X11_proveStates hn V7 F7) ?_; intro u9 E9 V9 a9 b9
    have S9 : SV_ u9.2 := sv_fr V7 S7 (fun c k z => (ff_X11_proveStates nn) _ E9 c k z) rfl
    have m9 : u9.2 56 3 = u7 56 3 := (ff_X11_proveStates nn) _ E9 56 3 rfl
    exact vm_118 hn r1 r2 hk ⟨a9, b9⟩ V9 S9 (by omega)
  · exact vm_118 hn r1 r2 hk rs V7 S7 (by omega)
theorem vm_87 (hn : 1000000 ≤ nn) (r1 : 8 ≤ l1 ∧ l1 ≤ 15) (r2 : 0 ≤ l2 ∧ l2 ≤ 11) (hk : ∀ {g : ms_M}, VS_ g → SV_ g → g 56 3 = N3 → Ok_ (qk l1 (l2 + 1) g) (QI_ 0 12)) {s0 : Int} {h : ms_M} (rs : 0 ≤ s0 ∧ s0 ≤ 12) (V : VS_ h) (S : SV_ h) (n3 : h 56 3 = N3) (hf : s0 = 0 → ∃ u, qf_X11_info nn 9 h = some u ∧ MF_ u h) : Ok_ (qj_X11_proveMethods_87 nn q3 qk l1 l2 s0 h) (QI_ 0 12) := by
  unfold qj_X11_proveMethods_87
  refine ok_if (fun C => ?_) (fun C => ?_)
  · refine ok_cI (vf_X11_proveFrames hn V S.2) ?_; intro u12 E12 V12 a12 b12
    have S12 : SV_ u12.2 := sv_fr V S (fun c k z => (ff_X11_proveFrames nn) _ E12 c k z) rfl
    have m12 : u12.2 56 3 = h 56 3 := (ff_X11_proveFrames nn) _ E12 56 3 rfl
    obtain ⟨u, hu, hm⟩ := hf C
    refine vm_100 hn r1 r2 hk ⟨a12, b12⟩ V12 S12 (by omega) (fun z => ?_)
    have R := fb_pf V S.2 hu hm E12 z
    rw [R.1]; exact R.2
  · exact vm_100 hn r1 r2 hk rs V S n3 (fun z => absurd z C)
theorem vm_72 (hn : 1000000 ≤ nn) (r1 : 8 ≤ l1 ∧ l1 ≤ 15) (r2 : 0 ≤ l2 ∧ l2 ≤ 11) (hk : ∀ {g : ms_M}, VS_ g → SV_ g → g 56 3 = N3 → Ok_ (qk l1 (l2 + 1) g) (QI_ 0 12)) {l3 s0 : Int} {h : ms_M} (rs : 0 ≤ l3 ∧ l3 ≤ 12) (r0 : 0 ≤ s0 ∧ s0 ≤ 1) (rz : l3 = 0 → ¬ s0 = 0) (V : VS_ h) (S : SV_ h) (n3 : h 56 3 = N3) (hm : MN_ h) : Ok_ (qj_X11_proveMethods_72 nn q3 qk l1 l2 l3 s0 h) (QI_ 0 12) := by
  unfold qj_X11_proveMethods_72
  refine ok_cV (vf_X11_takeFrames hn (by omega) (by omega) V S.2) ?_; intro u15 E15 V15
  have S15 : SV_ u15 := sv_fr V S (fun c k z => (ff_X11_takeFrames nn) _ E15 c k z) rfl
  have m15 : u15 56 3 = h 56 3 := (ff_X11_takeFrames nn) _ E15 56 3 rfl
  refine ok_if (fun C => ?_) (fun C => ?_)
  · obtain ⟨u, hu, -⟩ := vf_X11_info (a1 := 9) hn (by omega) (by omega) V
    have T := tf_ok hn V S.2 hm (rz C) hu E15
    refine ok_cI (vf_X11_proveHandlers hn V15) ?_; intro u17 E17 V17 a17 b17
    have S17 : SV_ u17.2 := sv_fr V15 S15 (fun c k z => (ff_X11_proveHandlers nn) _ E17 c k z) rfl
    have m17 : u17.2 56 3 = u15 56 3 := (ff_X11_proveHandlers nn) _ E17 56 3 rfl
    refine vm_87 hn r1 r2 hk ⟨a17, b17⟩ V17 S17 (by omega) (fun _ => ⟨u, ?_, ?_⟩)
    · rw [inf_eq V15 ((ff_X11_proveHandlers nn) _ E17 127 5 rfl) ((ff_X11_proveHandlers nn) _ E17 127 6 rfl) (fun c k z => (ff_X11_proveHandlers nn) _ E17 c k (nw_is rfl c k z))]; exact T.2
    · exact mf_eq T.1 ((ff_X11_proveHandlers nn) _ E17 127 16 rfl) (fun k => (ff_X11_proveHandlers nn) _ E17 132 k (nw_ar rfl k)) (fun k => (ff_X11_proveHandlers nn) _ E17 133 k (nw_ar rfl k))
  · exact vm_87 hn r1 r2 hk rs V15 S15 (by omega) (fun z => absurd z C)
theorem vm_61 (hn : 1000000 ≤ nn) (r1 : 8 ≤ l1 ∧ l1 ≤ 15) (r2 : 0 ≤ l2 ∧ l2 ≤ 11) (hk : ∀ {g : ms_M}, VS_ g → SV_ g → g 56 3 = N3 → Ok_ (qk l1 (l2 + 1) g) (QI_ 0 12)) {s0 : Int} {h : ms_M} (rs : 0 ≤ s0 ∧ s0 ≤ 12) (V : VS_ h) (S : SV_ h) (n3 : h 56 3 = N3) (hm : MN_ h) : Ok_ (qj_X11_proveMethods_61 nn q3 qk l1 l2 s0 h) (QI_ 0 12) := by
  unfold qj_X11_proveMethods_61
  refine ok_if (fun C => ?_) (fun C => ?_)
  · exact vm_72 hn r1 r2 hk rs (by omega) (fun z => absurd z C) V S n3 hm
  · exact vm_72 hn r1 r2 hk rs (by omega) (fun z => by omega) V S n3 hm
end
theorem vm_28 {nn : Nat} (hn : 1000000 ≤ nn) {q3 : Int → ms_M → Option (Int × ms_M)} {l1 N3 : Int} (r1 : 8 ≤ l1 ∧ l1 ≤ 15) (h3 : ∀ {g : ms_M}, VS_ g → SV_ g → g 56 3 = N3 → Ok_ (q3 (l1 + 1) g) (QI_ 0 12)) : ∀ (k : Nat) (l2 : Int) {h : ms_M}, (0 ≤ l2 ∧ l2 ≤ 12) → VS_ h → SV_ h → h 56 3 = N3 → 13 - l2 < (k : Int) → Ok_ (qw_X11_proveMethods_28 nn q3 k l1 l2 h) (QI_ 0 12) := by
  intro k
  induction k with
  | zero => intro l2 h r2 V S n3 hm; exfalso; omega
  | succ k ih =>
    intro l2 h r2 V S n3 hm
    unfold qw_X11_proveMethods_28
    have hb := (vi_r V).2.1
    refine ok_ck hb.1 ?_
    refine ok_ck hb.2 ?_
    have g12 := gI_12 V hb.2
    refine ok_if (fun C => ?_) (fun C => ?_)
    · refine ok_add (by omega) ?_; intro v e
      rw [e]; exact h3 V S n3
    · refine ok_xl ?_; intro h23 E23
      have V23 : VS_ h23 := by rw [E23]; exact wF_127_6 V (by omega)
      have S23 : SV_ h23 := by rw [E23]; exact ⟨si_up V S.1 (by omega), vg_up V S.2 rfl⟩
      have m23 : h23 56 3 = h 56 3 := by rw [E23]; exact up_n (by omega)
      have nx : ∀ {g : ms_M}, VS_ g → SV_ g → g 56 3 = N3 → Ok_ (qw_X11_proveMethods_28 nn q3 k l1 (l2 + 1) g) (QI_ 0 12) := fun Vg Sg n => ih (l2 + 1) (by omega) Vg Sg n (by omega)
      refine ok_cI (vf_X11_proveInstructions hn V23 S23.2) ?_; intro u25 E25 V25 a25 b25
      have S25 : SV_ u25.2 := sv_fr V23 S23 (fun c k z => (ff_X11_proveInstructions nn) _ E25 c k z) rfl
      have m25 : u25.2 56 3 = h23 56 3 := (ff_X11_proveInstructions nn) _ E25 56 3 rfl
      have M25 := mn_pi V23 E25
      refine ok_if (fun C2 => ?_) (fun C2 => ?_)
      · refine ok_cI (vf_X11_proveJumps hn V25) ?_; intro u27 E27 V27 a27 b27
        have S27 : SV_ u27.2 := sv_fr V25 S25 (fun c k z => (ff_X11_proveJumps nn) _ E27 c k z) rfl
        have m27 : u27.2 56 3 = u25.2 56 3 := (ff_X11_proveJumps nn) _ E27 56 3 rfl
        have M27 : MN_ u27.2 := mn_eq M25 ((ff_X11_proveJumps nn) _ E27 127 16 rfl) (fun k => (ff_X11_proveJumps nn) _ E27 132 k (nw_ar rfl k))
        exact vm_61 hn r1 (by omega) nx ⟨a27, b27⟩ V27 S27 (by omega) M27
      · exact vm_61 hn r1 (by omega) nx ⟨a25, b25⟩ V25 S25 (by omega) M25
theorem vm_3 {nn : Nat} (hn : 1000000 ≤ nn) : ∀ (k : Nat) (l1 : Int) {h : ms_M}, (8 ≤ l1 ∧ l1 ≤ 16) → VS_ h → SI_ h → 17 - l1 < (k : Int) → Ok_ (qw_X11_proveMethods_3 nn k l1 h) (QI_ 0 12) := by
  intro k
  induction k with
  | zero => intro l1 h r1 V S hm; exfalso; omega
  | succ k ih =>
    intro l1 h r1 V S hm
    unfold qw_X11_proveMethods_3
    have g3 := gF_56_3 V
    refine ok_add (by omega) ?_; intro v e
    refine ok_if (fun C => ok_rI V (by omega) (by omega)) (fun C => ?_)
    refine ok_cV (vf_X11_takeImage hn (by omega) (by omega) V) ?_; intro u34 E34 V34
    have S34 := sv_ti V S (by omega) E34
    refine ok_cV (vf_X11_takeConstants hn V34) ?_; intro u36 E36 V36
    have S36 : SV_ u36 := sv_fr V34 S34 (fun c k z => (ff_X11_takeConstants nn) _ E36 c k z) rfl
    exact vm_28 hn (N3 := u36 56 3) (by omega) (fun Vg Sg n => ih (l1 + 1) (by omega) Vg Sg.1 (by omega)) nn 0 (by omega) V36 S36 rfl (by omega)
theorem vf_X11_proveMethods {nn : Nat} (hn : 1000000 ≤ nn) {h : ms_M} (V : VS_ h) (S : SI_ h) : Ok_ (qf_X11_proveMethods nn h) (QI_ 0 12) := vm_3 hn nn 8 (by omega) V S (by omega)
theorem vj_X12_verify_33 {nn : Nat} (hn : 1000000 ≤ nn) {l1 s0 : Int} {h : ms_M} (r1 : 0 ≤ l1 ∧ l1 ≤ 12) (r0 : 0 ≤ s0 ∧ s0 ≤ 1) (V : VS_ h) : Ok_ (qj_X12_verify_33 nn l1 s0 h) (QI_ 0 12) := by
  unfold qj_X12_verify_33
  refine ok_ck (by omega) ?_
  refine ok_xl ?_; intro h2 E2
  have V2 : VS_ h2 := by rw [E2]; exact wF_56_4 V (by omega)
  refine ok_if (fun C => ok_rI V2 (by omega) (by omega)) (fun C => ?_)
  refine ok_cV (vf_X7_linkAll hn V2) ?_; intro u7 E7 V7
  exact ok_rI V7 (by omega) (by omega)
theorem vj_X12_verify_20 {nn : Nat} (hn : 1000000 ≤ nn) {l1 : Int} {h : ms_M} (r1 : 0 ≤ l1 ∧ l1 ≤ 12) (V : VS_ h) : Ok_ (qj_X12_verify_20 nn l1 h) (QI_ 0 12) := by
  unfold qj_X12_verify_20
  exact ok_if (fun _ => vj_X12_verify_33 hn r1 (by omega) V) (fun _ => vj_X12_verify_33 hn r1 (by omega) V)
theorem vf_X12_verify {nn : Nat} (hn : 1000000 ≤ nn) {h : ms_M} (V : VS_ h) (S : SI_ h) : Ok_ (qf_X12_verify nn h) (QI_ 0 12) := by
  unfold qf_X12_verify
  refine ok_cI (vf_X11_proveHeads hn V) ?_; intro u13 E13 V13 a13 b13
  have S13 : SI_ u13.2 := si_fr V S (fun c k z => (ff_X11_proveHeads nn) _ E13 c k z) rfl
  refine ok_if (fun C => vj_X12_verify_20 hn ⟨a13, b13⟩ V13) (fun C => ?_)
  refine ok_cI (vf_X11_proveMethods hn V13 S13) ?_; intro u16 E16 V16 a16 b16
  exact vj_X12_verify_20 hn ⟨a16, b16⟩ V16
theorem si_verify {nn : Nat} {h : ms_M} {r : Int × ms_M} (V : VS_ h) (S : SI_ h) (e : qf_X12_verify nn h = some r) : SI_ r.2 := si_fr V S (fun c k z => (ff_X12_verify nn) _ e c k z) rfl
end
section
/-- what the class's calls keep (p: how many prints at most) -/
def CI_ (p : Int) (M : ms_M) : Prop := VS_ M ∧ NM_ M ∧ SI_ M ∧ (¬ M 143 1 = 1 ∨ 1 ≤ M 143 6) ∧ M 143 7 ≤ p
theorem si_frB {M N : ms_M} {L : List Nat} {LF : List (Nat × Nat)} (V : VS_ M) (h : SI_ M) (F : ∀ c k, nw_F L LF false true c k = true → N c k = M c k) (hc : ((L.all (fun x => !(is_I x)) && LF.all (fun q => !(is_I q.1))) && (nw_F L LF false true 56 2 && (!(L.contains 60) && LF.all (fun q => !(Nat.beq q.1 60))))) = true) : SI_ N := by
  simp only [Bool.and_eq_true] at hc
  obtain ⟨⟨q1, q0⟩, q2, q3, q4⟩ := hc
  have im : ∀ c k, is_I c = true → ly_T c ≠ 1 → N c k = M c k := by
    intro c k hI ht
    refine F c k ?_
    unfold nw_F
    simp only [Bool.and_eq_true]
    refine ⟨?_, ?_, rfl, ?_⟩
    · cases hq : L.contains c with
      | false => rfl
      | true => have := List.all_eq_true.mp q1 c (List.contains_iff_mem.mp hq); rw [hI] at this; cases this
    · cases hq : LF.contains (c, k) with
      | false => rfl
      | true => have := List.all_eq_true.mp q0 _ (List.contains_iff_mem.mp hq); simp only [hI] at this; cases this
    · cases hq : Nat.beq (ly_T c) 1 with
      | false => rfl
      | true => exact absurd (Nat.eq_of_beq_eq_true hq) ht
  refine si_eq V h (fun k => F _ _ (nw_ar ?_ k)) (F _ _ q2) (fun b hb => ⟨im b 12 (is_Ib hb).1 ?_, fun k => im _ k (is_Ib hb).2 ?_⟩)
  · simp only [Bool.and_eq_true]; exact ⟨q3, q4, rfl, rfl⟩
  · rw [T_img hb]; decide
  · rw [T_arr hb (off := 6) (by decide)]; decide
theorem ci_fr {p : Int} {M N : ms_M} {L : List Nat} {LF : List (Nat × Nat)} (C : CI_ p M) (V : VS_ N) (F : ∀ c k, nw_F L LF false false c k = true → N c k = M c k) (h1 : ((L.all (fun x => !(is_I x)) && LF.all (fun q => !(is_I q.1))) && (nw_F L LF false false 56 2 && (!(L.contains 60) && LF.all (fun q => !(Nat.beq q.1 60))))) = true) (h2 : ((!(L.contains 7) && LF.all (fun q => !(Nat.beq q.1 7))) && nw_F L LF false false 2 9) = true) (h3 : (nw_F L LF false false 143 1 && (nw_F L LF false false 143 6 && nw_F L LF false false 143 7)) = true) : CI_ p N := by
  simp only [Bool.and_eq_true] at h2 h3
  refine ⟨V, nm_eq C.2.1 (fun k => F _ _ (nw_ar ?_ k)) (F _ _ h2.2), si_fr C.1 C.2.2.1 F h1, ?_, ?_⟩
  · simp only [Bool.and_eq_true]; exact ⟨h2.1.1, h2.1.2, rfl, rfl⟩
  · rw [F _ _ h3.1, F _ _ h3.2.1]; exact C.2.2.2.1
  · rw [F _ _ h3.2.2]; exact C.2.2.2.2
theorem ci_feed {nn : Nat} (hn : 1000000 ≤ nn) {p a1 a2 a3 a4 a5 : Int} {h : ms_M} (r1 : -2147483648 ≤ a1 ∧ a1 ≤ 2147483647) (r2 : -2147483648 ≤ a2 ∧ a2 ≤ 2147483647) (r3 : -2147483648 ≤ a3 ∧ a3 ≤ 2147483647) (r4 : -2147483648 ≤ a4 ∧ a4 ≤ 2147483647) (r5 : -2147483648 ≤ a5 ∧ a5 ≤ 2147483647) (C : CI_ p h) : Ok_ (qf_X12_feed nn a1 a2 a3 a4 a5 h) (fun r => CI_ p r.2) := by
  obtain ⟨r, er, Q⟩ := vf_X12_feed hn r1.1 r1.2 r2.1 r2.2 r3.1 r3.2 r4.1 r4.2 r5.1 r5.2 C.1
  exact ⟨r, er, ci_fr C Q.1 (fun c k w => (ff_X12_feed nn) _ er c k w) rfl rfl rfl⟩
theorem ci_end {nn : Nat} (hn : 1000000 ≤ nn) {p a1 : Int} {h : ms_M} (r1 : -2147483648 ≤ a1 ∧ a1 ≤ 2147483647) (C : CI_ p h) : Ok_ (qf_X12_end nn a1 h) (fun r => CI_ p r.2) := by
  obtain ⟨r, er, Q⟩ := vf_X12_end hn r1.1 r1.2 C.1
  exact ⟨r, er, ci_fr C Q.1 (fun c k w => (ff_X12_end nn) _ er c k w) rfl rfl rfl⟩
theorem ci_verify {nn : Nat} (hn : 1000000 ≤ nn) {p : Int} {h : ms_M} (C : CI_ p h) : Ok_ (qf_X12_verify nn h) (fun r => CI_ p r.2) := by
  obtain ⟨r, er, Q⟩ := vf_X12_verify hn C.1 C.2.2.1
  exact ⟨r, er, ci_fr C Q.1 (fun c k w => (ff_X12_verify nn) _ er c k w) rfl rfl rfl⟩
theorem ci_compile {nn : Nat} (hn : 1000000 ≤ nn) {p : Int} {h : ms_M} (C : CI_ p h) (hc : h 900000 0 + 8 < 700000) : Ok_ (qf_X12_compile nn h) (fun r => CI_ p r.2.1 ∧ PQ_ (h 900000 0) r) := by
  obtain ⟨r, er, Q⟩ := vf_X12_compile hn C.1 C.2.1 hc
  have s1 : r.2.1 143 1 = h 143 1 := (ff_X12_compile nn) _ er 143 1 rfl
  have s6 : r.2.1 143 6 = h 143 6 := (ff_X12_compile nn) _ er 143 6 rfl
  have s7 : r.2.1 143 7 = h 143 7 := (ff_X12_compile nn) _ er 143 7 rfl
  refine ⟨r, er, ⟨Q.1, Q.2.1, si_frB C.1 C.2.2.1 (fun c k w => (ff_X12_compile nn) _ er c k w) rfl, ?_, ?_⟩, Q⟩
  · rw [s1, s6]; exact C.2.2.2.1
  · rw [s7]; exact C.2.2.2.2
theorem fg_st {nn : Nat} {h r : ms_M} (e : qf_X5_forget nn h = some r) : r 143 1 = 0 ∧ r 143 7 = 0 := by
  unfold qf_X5_forget at e
  rw [xl_eq, xl_eq, xl_eq, xl_eq, xl_eq, xl_eq, xl_eq] at e
  have e := Option.some.inj e
  rw [← e]
  exact ⟨by rw [up_n (by omega), up_n (by omega), up_n (by omega), up_n (by omega), up_n (by omega), up_n (by omega), up_s], up_s⟩
theorem ci_fg {nn : Nat} (hn : 1000000 ≤ nn) {p : Int} {h u : ms_M} (hp : 0 ≤ p) (V : VS_ h) (N : NM_ h) (S : SI_ h) (e : qf_X5_forget nn h = some u) : CI_ p u := by
  have Q := okof (vf_X5_forget hn V) e
  have z := fg_st e
  refine ⟨Q, nm_eq N (fun k => (ff_X5_forget nn) _ e 7 k (nw_ar rfl k)) ((ff_X5_forget nn) _ e 2 9 rfl), si_fr V S (fun c k w => (ff_X5_forget nn) _ e c k w) rfl, .inl (by omega), by omega⟩
theorem ci_clear {nn : Nat} (hn : 1000000 ≤ nn) {p : Int} {h : ms_M} (hp : 0 ≤ p) (C : CI_ p h) : Ok_ (qf_X12_clear nn h) (fun r => CI_ p r) := by
  obtain ⟨r, er, Q⟩ := vf_X12_clear hn C.1
  refine ⟨r, er, ?_⟩
  unfold qf_X12_clear at er
  obtain ⟨u3, e3, er⟩ := sv_i er
  obtain ⟨u6, e6, er⟩ := sv_i er
  cases er
  have V3 := okof (vf_X7_forget hn C.1) e3
  exact ci_fg hn hp V3 (nm_eq C.2.1 (fun k => (ff_X7_forget nn) _ e3 7 k (nw_ar rfl k)) ((ff_X7_forget nn) _ e3 2 9 rfl)) (si_fr C.1 C.2.2.1 (fun c k w => (ff_X7_forget nn) _ e3 c k w) rfl) e6
theorem ci_load {nn : Nat} (hn : 1000000 ≤ nn) {p : Int} {h : ms_M} (hp : 0 ≤ p) (C : CI_ p h) (hc : h 900000 0 < 700000) : Ok_ (qf_X12_load nn h) (fun r => CI_ p r.2.1 ∧ QB_ (h 900000 0) r) := by
  have g := gF_0_1 C.1
  obtain ⟨r, er, Q⟩ := vf_X12_load hn C.1 hc
  refine ⟨r, er, ?_, Q⟩
  unfold qf_X12_load at er
  obtain ⟨u5, e5, er⟩ := sv_i er
  have t1 : 1 < cn_M h ∧ ly_T 1 = 1 := ⟨Nat.lt_of_lt_of_le (by decide) (vi_c C.1), rfl⟩
  have S5 := si_bring hn C.1 C.2.2.1 t1 (by omega) hc e5
  have Q5 := okof (vf_X7_bring hn (by omega) C.1 t1 hc) e5
  have N5 : NM_ u5.2.1 := nm_eq C.2.1 (fun k => (ff_X7_bring nn) _ e5 7 k (nw_ar rfl k)) ((ff_X7_bring nn) _ e5 2 9 rfl)
  rw [xl_eq] at er
  have V6 : VS_ (up_M u5.2.1 0 1 0) := wF_0_1 Q5.1 (by omega)
  have N6 : NM_ (up_M u5.2.1 0 1 0) := nm_uf N5 (by decide)
  have S6 : SI_ (up_M u5.2.1 0 1 0) := si_up Q5.1 S5 (by omega)
  have s : ∀ k, up_M u5.2.1 0 1 0 143 k = u5.2.1 143 k := fun k => up_n (by omega)
  have s1 : u5.2.1 143 1 = h 143 1 := (ff_X7_bring nn) _ e5 143 1 rfl
  have s6 : u5.2.1 143 6 = h 143 6 := (ff_X7_bring nn) _ e5 143 6 rfl
  have s7 : u5.2.1 143 7 = h 143 7 := (ff_X7_bring nn) _ e5 143 7 rfl
  by_cases q : u5.1 < 0
  · rw [if_pos q] at er
    have er := Option.some.inj er
    rw [← er]
    refine ⟨V6, N6, S6, ?_, ?_⟩
    · show ¬ up_M u5.2.1 0 1 0 143 1 = 1 ∨ 1 ≤ up_M u5.2.1 0 1 0 143 6
      rw [s, s, s1, s6]; exact C.2.2.2.1
    · show up_M u5.2.1 0 1 0 143 7 ≤ p
      rw [s, s7]; exact C.2.2.2.2
  · rw [if_neg q] at er
    obtain ⟨u9, e9, er⟩ := sv_i er
    have er := Option.some.inj er
    rw [← er]
    exact ci_fg hn hp V6 N6 S6 e9
theorem ci_patch {nn : Nat} (hn : 1000000 ≤ nn) {p a1 a2 a3 : Int} {h : ms_M} (hp : 0 ≤ p) (r1 : -2147483648 ≤ a1 ∧ a1 ≤ 2147483647) (C : CI_ p h) : Ok_ (qf_X12_patch nn a1 a2 a3 h) (fun r => CI_ p r.2) := by
  obtain ⟨r, er, Q⟩ := vf_X12_patch (a2 := a2) (a3 := a3) hn r1 C.1
  refine ⟨r, er, ?_⟩
  unfold qf_X12_patch at er
  obtain ⟨u3, e3, er⟩ := sv_i er
  have S3 := si_change hn C.1 C.2.2.1 e3
  have Q3 := okof (vf_X7_change hn r1 C.1) e3
  have N3 : NM_ u3.2 := nm_eq C.2.1 (fun k => (ff_X7_change nn) _ e3 7 k (nw_ar rfl k)) ((ff_X7_change nn) _ e3 2 9 rfl)
  have s1 : u3.2 143 1 = h 143 1 := (ff_X7_change nn) _ e3 143 1 rfl
  have s6 : u3.2 143 6 = h 143 6 := (ff_X7_change nn) _ e3 143 6 rfl
  have s7 : u3.2 143 7 = h 143 7 := (ff_X7_change nn) _ e3 143 7 rfl
  by_cases q : u3.1 = 0
  · rw [if_pos q] at er
    obtain ⟨-, er⟩ := ck_i er
    have er := Option.some.inj er
    rw [← er]
    refine ⟨Q3.1, N3, S3, ?_, ?_⟩
    · show ¬ u3.2 143 1 = 1 ∨ 1 ≤ u3.2 143 6
      rw [s1, s6]; exact C.2.2.2.1
    · show u3.2 143 7 ≤ p
      rw [s7]; exact C.2.2.2.2
  · rw [if_neg q] at er
    obtain ⟨u7, e7, er⟩ := sv_i er
    obtain ⟨-, er⟩ := ck_i er
    have er := Option.some.inj er
    rw [← er]
    exact ci_fg hn hp Q3.1 N3 S3 e7
theorem ci_24 {nn : Nat} (hn : 1000000 ≤ nn) {p s0 : Int} {c s : Nat} {h : ms_M} {r : Int × ms_M × Nat × Nat} (hp : 0 ≤ p) (C : CI_ p h) (e : qj_X12_keep_24 nn s0 h c s = some r) : CI_ p r.2.1 := by
  unfold qj_X12_keep_24 at e
  by_cases q : s0 < 0
  · rw [if_pos q] at e
    have e := Option.some.inj e
    rw [← e]; exact C
  · rw [if_neg q] at e
    obtain ⟨u, eu, e⟩ := sv_i e
    have e := Option.some.inj e
    rw [← e]
    exact ci_fg hn hp C.1 C.2.1 C.2.2.1 eu
theorem ci_keep {nn : Nat} (hn : 1000000 ≤ nn) {p a1 : Int} {h : ms_M} (hp : 0 ≤ p) (C : CI_ p h) (hc : h 900000 0 < 700000) : Ok_ (qf_X12_keep nn a1 h) (fun r => CI_ p r.2.1 ∧ QB_ (h 900000 0) r) := by
  obtain ⟨r, er, Q⟩ := vf_X12_keep (a1 := a1) hn C.1 hc
  refine ⟨r, er, ?_, Q⟩
  unfold qf_X12_keep at er
  obtain ⟨u6, e6, er⟩ := sv_i er
  have Q6 := okof (vf_X12_imageOf C.1) e6
  by_cases q : u6 < 0
  · rw [if_pos q] at er
    exact ci_24 hn hp C er
  · rw [if_neg q] at er
    have Q6 := Q6.resolve_left q
    have l0 : 0 ≤ ln_I h u6.toNat := by
      unfold ln_I
      by_cases w : u6.toNat < 256
      · rw [if_pos w]; omega
      · rw [if_neg w]; exact C.1.2.1.2 _
    unfold ln_S at er
    split at er
    · obtain ⟨u12, e12, er⟩ := sv_i er
      have tt : u6.toNat < cn_M h ∧ ly_T u6.toNat = 1 := ⟨Q6.1, Q6.2.1⟩
      have S5 := si_bring hn C.1 C.2.2.1 tt ⟨l0, Q6.2.2⟩ hc e12
      have Q5 := okof (vf_X7_bring hn ⟨l0, Q6.2.2⟩ C.1 tt hc) e12
      have N5 : NM_ u12.2.1 := nm_eq C.2.1 (fun k => (ff_X7_bring nn) _ e12 7 k (nw_ar rfl k)) ((ff_X7_bring nn) _ e12 2 9 rfl)
      have s1 : u12.2.1 143 1 = h 143 1 := (ff_X7_bring nn) _ e12 143 1 rfl
      have s6 : u12.2.1 143 6 = h 143 6 := (ff_X7_bring nn) _ e12 143 6 rfl
      have s7 : u12.2.1 143 7 = h 143 7 := (ff_X7_bring nn) _ e12 143 7 rfl
      exact ci_24 hn hp ⟨Q5.1, N5, S5, by rw [s1, s6]; exact C.2.2.2.1, by rw [s7]; exact C.2.2.2.2⟩ er
    · cases er
theorem ci_start {nn : Nat} (hn : 1000000 ≤ nn) {p a1 a2 : Int} {h : ms_M} (hp : 0 ≤ p) (r1 : -2147483648 ≤ a1 ∧ a1 ≤ 2147483647) (r2 : -2147483648 ≤ a2 ∧ a2 ≤ 2147483647) (C : CI_ p h) : Ok_ (qf_X12_start nn a1 a2 h) (fun r => CI_ p r.2) := by
  obtain ⟨r, er, Q⟩ := vf_X12_start hn r1.1 r1.2 r2.1 r2.2 C.1 C.2.2.2.1
  refine ⟨r, er, Q.1, nm_eq C.2.1 (fun k => (ff_X12_start nn) _ er 7 k (nw_ar rfl k)) ((ff_X12_start nn) _ er 2 9 rfl), si_fr C.1 C.2.2.1 (fun c k w => (ff_X12_start nn) _ er c k w) rfl, Q.2.2.2, ?_⟩
  have same : ∀ {x : Int}, some (x, h) = some r → r.2 143 7 ≤ p := fun z => by
    have z := Option.some.inj z
    rw [← z]; exact C.2.2.2.2
  unfold qf_X12_start at er
  obtain ⟨u3, e3, er⟩ := sv_i er
  split at er
  · exact same er
  · split at er
    · exact same er
    · split at er
      · exact same er
      · obtain ⟨-, er⟩ := ck_i er
        split at er
        · obtain ⟨u10, e10, er⟩ := sv_i er
          split at er
          · exact same er
          · obtain ⟨u12, e12, er⟩ := sv_i er
            split at er
            · obtain ⟨u15, e15, er⟩ := sv_i er
              have er := Option.some.inj er
              rw [← er]
              show u15 143 7 ≤ p
              unfold qf_X5_beginRun at e15
              obtain ⟨w2, f2, e15⟩ := sv_i e15
              rw [xl_eq, xl_eq, xl_eq, xl_eq] at e15
              obtain ⟨w8, f8, e15⟩ := sv_i e15
              have e15 := Option.some.inj e15
              rw [← e15]
              have b7 : w8 143 7 = up_M w2 143 1 1 143 7 := (ff_X5_beginMethod nn) _ f8 143 7 rfl
              rw [b7, up_n (by omega), (fg_st f2).2]; exact hp
            · exact same er
        · exact same er
end
section
/-- one turn of a run: a step, and what it throws -/
def TN2_ (nn : Nat) (u g : ms_M) : Prop := (u 143 20 ≤ 0 ∧ g = up_M u 143 20 0) ∨ (0 < u 143 20 ∧ ∃ w, qf_X5_throwUp nn (u 143 20) u = some w ∧ g = up_M w 143 20 0)
def TN_ (nn : Nat) (h g : ms_M) : Prop := ∃ u, qf_X5_step nn h = some u ∧ ((0 ≤ u 143 20 ∧ TN2_ nn u g) ∨ (u 143 20 < 0 ∧ ∃ w, qf_X5_make nn (oq_neg (u 143 20)) 0 u = some w ∧ TN2_ nn (up_M w.2 143 20 w.1) g))
theorem mk_st {nn : Nat} {a b : Int} {h : ms_M} {r : Int × ms_M} (e : qf_X5_make nn a b h = some r) : r.2 143 1 = h 143 1 ∨ r.2 143 1 = 4 := by
  have bad : ∀ {r : Int × ms_M}, qj_X5_make_26 nn h = some r → r.2 143 1 = 4 := fun z => by
    unfold qj_X5_make_26 at z
    rw [xl_eq] at z
    have z := Option.some.inj z
    rw [← z]
    show up_M h 143 1 4 143 1 = 4
    exact up_s
  unfold qf_X5_make at e
  by_cases q : 2000 ≤ h 143 4
  · rw [if_pos q] at e; exact .inr (bad e)
  · rw [if_neg q] at e
    by_cases q2 : b < 0
    · rw [if_pos q2] at e; exact .inr (bad e)
    · rw [if_neg q2, xl_eq] at e
      split at e
      · left
        rw [xl_eq, xl_eq] at e
        have e := wa_i e
        have e := wa_i e
        rw [xl_eq] at e
        obtain ⟨u, eu, e⟩ := sv_i e
        rw [xl_eq, xl_eq, xl_eq] at e
        have e := wa_i e
        have e := Option.some.inj e
        have f := (ff_J7_fill_fda19 nn) _ eu 143 1 (show 143 ≠ 147 by decide)
        have f2 : u 143 1 = h 143 1 := by
          refine Eq.trans f ?_
          rw [up_n (by omega), up_n (by omega), up_n (by omega)]
        rw [← e]
        dsimp only
        rw [up_n (by omega), up_n (by omega)]; exact f2
      · exact .inr (bad e)
section
variable {nn : Nat} {W : ms_M → Prop} {Z : Int}
/-- a run is safe where every turn keeps W, and W tells of the links -/
theorem go_55 {qk : Int → Int → ms_M → Option (Int × ms_M)} {l1 l2 : Int} {h : ms_M} {p : Int} {Q : Int × ms_M → Prop} (r2 : 0 ≤ l2 ∧ l2 ≤ 20000) (C : CI_ p h) (hk : ∀ {g : ms_M}, g = up_M h 143 20 0 → CI_ p g → Ok_ (qk l1 (l2 + 1) g) Q) : Ok_ (qj_X5_go_55 nn qk l1 l2 h) Q := by
  unfold qj_X5_go_55
  refine ok_xl ?_; intro h4 E4
  refine ok_add (by omega) ?_; intro v5 e5
  rw [e5]
  refine hk E4 ?_
  have V4 : VS_ h4 := by rw [E4]; exact wF_143_20 C.1 (by omega)
  have f : ∀ c k, ¬ (c = 143 ∧ k = 20) → h4 c k = h c k := fun c k z => by rw [E4]; exact up_n z
  refine ⟨V4, nm_eq C.2.1 (fun k => f _ _ (by omega)) (f _ _ (by omega)), si_eq C.1 C.2.2.1 (fun k => f _ _ (by omega)) (f _ _ (by omega)) (fun b hb => ?_), ?_, ?_⟩
  · have := im_at hb
    exact ⟨f _ _ (by omega), fun k => f _ _ (by omega)⟩
  · rw [f _ _ (by omega), f _ _ (by omega)]; exact C.2.2.2.1
  · rw [f _ _ (by omega)]; exact C.2.2.2.2
theorem go_40 (hn : 1000000 ≤ nn) {qk : Int → Int → ms_M → Option (Int × ms_M)} {l1 l2 : Int} {h : ms_M} {p : Int} {Q : Int × ms_M → Prop} (r2 : 0 ≤ l2 ∧ l2 ≤ 20000) (C : CI_ p h) (hk : ∀ {g : ms_M}, TN2_ nn h g → CI_ p g → Ok_ (qk l1 (l2 + 1) g) Q) : Ok_ (qj_X5_go_40 nn qk l1 l2 h) Q := by
  unfold qj_X5_go_40
  refine ok_if (fun c => go_55 r2 C (fun e Cg => hk (.inl ⟨c, e⟩) Cg)) (fun c => ?_)
  have g20 := gF_143_20 C.1
  refine ok_cVR (vf_X5_throwUp hn (by omega) (by omega) C.1) ?_; intro u9 E9 V9 R9
  have s7 : u9 143 7 = h 143 7 := (ff_X5_throwUp nn) _ E9 143 7 rfl
  refine go_55 r2 ⟨V9, nm_eq C.2.1 (fun k => (ff_X5_throwUp nn) _ E9 7 k (nw_ar rfl k)) ((ff_X5_throwUp nn) _ E9 2 9 rfl), si_fr C.1 C.2.2.1 (fun c k w => (ff_X5_throwUp nn) _ E9 c k w) rfl, R9, by rw [s7]; exact C.2.2.2.2⟩ (fun e Cg => hk (.inr ⟨by omega, u9, E9, e⟩) Cg)
theorem go_2 (hn : 1000000 ≤ nn) (w1 : ∀ h, W h → h 143 1 = 1 → LKs_ nn h) (w2 : ∀ h g, VS_ h → SI_ h → W h → h 143 1 = 1 → TN_ nn h g → W g) (w3 : ∀ h v, W h → W (up_M h 143 3 v)) {l1 : Int} (r1 : l1 ≤ 20000) : ∀ (k : Nat) (l2 : Int) {h : ms_M} {p : Int}, CI_ p h → W h → (0 ≤ l2 ∧ l2 ≤ 20000) → p + (20000 - l2) ≤ Z → Z ≤ 1900000000 → 20001 - l2 < (k : Int) → Ok_ (qw_X5_go_2 nn k l1 l2 h) (fun r => CI_ Z r.2 ∧ W r.2) := by
  intro k
  induction k with
  | zero => intro l2 h p C w r2 hz hZ hm; exfalso; omega
  | succ k ih =>
    intro l2 h p C w r2 hz hZ hm
    have fin : Ok_ (qj_X5_go_66 nn l2 h) (fun r => CI_ Z r.2 ∧ W r.2) := by
      have g3 := gF_143_3 C.1
      unfold qj_X5_go_66
      refine ok_xl ?_; intro v2 e2
      refine ok_xl ?_; intro h3 E3
      have b : -2147483648 ≤ v2 ∧ v2 ≤ 2147483647 := by
        rw [e2]
        have e : oq_add (h 143 3) l2 = (Int32.ofInt (h 143 3) + Int32.ofInt l2).toInt := rfl
        rw [e]
        exact ⟨Int.le_trans (by decide) (Int32.le_toInt _), Int.le_of_lt_add_one (Int.lt_of_lt_of_le (Int32.toInt_lt _) (by decide))⟩
      have V3 : VS_ h3 := by rw [E3]; exact wF_143_3 C.1 b
      have f : ∀ c k, ¬ (c = 143 ∧ k = 3) → h3 c k = h c k := fun c k z => by rw [E3]; exact up_n z
      refine ok_ret ⟨⟨V3, nm_eq C.2.1 (fun k => f _ _ (by omega)) (f _ _ (by omega)), si_eq C.1 C.2.2.1 (fun k => f _ _ (by omega)) (f _ _ (by omega)) (fun b hb => ?_), ?_, ?_⟩, ?_⟩
      · have := im_at hb
        exact ⟨f _ _ (by omega), fun k => f _ _ (by omega)⟩
      · show ¬ h3 143 1 = 1 ∨ 1 ≤ h3 143 6
        rw [f _ _ (by omega), f _ _ (by omega)]; exact C.2.2.2.1
      · show h3 143 7 ≤ Z
        rw [f _ _ (by omega)]; have := C.2.2.2.2; omega
      · show W h3
        rw [E3]; exact w3 h v2 w
    unfold qw_X5_go_2
    refine ok_if (fun _ => fin) (fun c1 => ?_)
    refine ok_if (fun _ => fin) (fun c2 => ?_)
    have c2 : h 143 1 = 1 := Decidable.not_not.1 c2
    have d1 : 1 ≤ h 143 6 := by have := C.2.2.2.1; omega
    have pb := C.2.2.2.2
    refine ok_cVR (vf_X5_step hn C.1 d1 (by omega) (w1 h w c2) C.2.2.1) ?_; intro u13 E13 V13 R13
    have C13 : CI_ (p + 1) u13 := ⟨V13, nm_eq C.2.1 (fun k => (ff_X5_step nn) _ E13 7 k (nw_ar rfl k)) ((ff_X5_step nn) _ E13 2 9 rfl), si_fr C.1 C.2.2.1 (fun c k w => (ff_X5_step nn) _ E13 c k w) rfl, R13.1, by have := R13.2; omega⟩
    have nx : ∀ {g : ms_M}, TN_ nn h g → CI_ (p + 1) g → Ok_ (qw_X5_go_2 nn k l1 (l2 + 1) g) (fun r => CI_ Z r.2 ∧ W r.2) := fun t Cg => ih (l2 + 1) Cg (w2 h _ C.1 C.2.2.1 w c2 t) (by omega) (by omega) hZ (by omega)
    refine ok_if (fun c3 => go_40 hn r2 C13 (fun t Cg => nx ⟨u13, E13, .inl ⟨c3, t⟩⟩ Cg)) (fun c3 => ?_)
    refine ok_xl ?_; intro v16 e16
    have b : -2147483648 ≤ v16 ∧ v16 ≤ 2147483647 := by
      rw [e16]
      have e : oq_neg (u13 143 20) = (-(Int32.ofInt (u13 143 20))).toInt := rfl
      rw [e]
      exact ⟨Int.le_trans (by decide) (Int32.le_toInt _), Int.le_of_lt_add_one (Int.lt_of_lt_of_le (Int32.toInt_lt _) (by decide))⟩
    refine ok_cI (vf_X5_make hn b.1 b.2 (by omega) (by omega) V13) ?_; intro u18 E18 V18 a18 b18
    refine ok_xl ?_; intro h19 E19
    have V19 : VS_ h19 := by rw [E19]; exact wF_143_20 V18 (by omega)
    have m1 := mk_st E18
    have m6 : u18.2 143 6 = u13 143 6 := (ff_X5_make nn) _ E18 143 6 rfl
    have m7 : u18.2 143 7 = u13 143 7 := (ff_X5_make nn) _ E18 143 7 rfl
    have f : ∀ c k, ¬ (c = 143 ∧ k = 20) → h19 c k = u18.2 c k := fun c k z => by rw [E19]; exact up_n z
    have N18 : NM_ u18.2 := nm_eq C13.2.1 (fun k => (ff_X5_make nn) _ E18 7 k (nw_ar rfl k)) ((ff_X5_make nn) _ E18 2 9 rfl)
    have S18 : SI_ u18.2 := si_fr V13 C13.2.2.1 (fun c k w => (ff_X5_make nn) _ E18 c k w) rfl
    have q1 := f 143 1 (by omega)
    have q6 := f 143 6 (by omega)
    have q7 := f 143 7 (by omega)
    have r13 := R13.1
    have C19 : CI_ (p + 1) h19 := by
      refine ⟨V19, nm_eq N18 (fun k => f _ _ (by omega)) (f _ _ (by omega)), si_eq V18 S18 (fun k => f _ _ (by omega)) (f _ _ (by omega)) (fun b hb => ?_), by omega, by have := C13.2.2.2.2; omega⟩
      have := im_at hb
      exact ⟨f _ _ (by omega), fun k => f _ _ (by omega)⟩
    refine go_40 hn r2 C19 (fun t Cg => nx ⟨u13, E13, .inr ⟨by omega, u18, by rw [← e16]; exact E18, by rw [← E19]; exact t⟩⟩ Cg)
theorem ci_run (hn : 1000000 ≤ nn) (w1 : ∀ h, W h → h 143 1 = 1 → LKs_ nn h) (w2 : ∀ h g, VS_ h → SI_ h → W h → h 143 1 = 1 → TN_ nn h g → W g) (w3 : ∀ h v, W h → W (up_M h 143 3 v)) {a1 p : Int} {h : ms_M} (C : CI_ p h) (w : W h) (hz : p + 20000 ≤ Z) (hZ : Z ≤ 1900000000) : Ok_ (qf_X12_run nn a1 h) (fun r => CI_ Z r.2 ∧ W r.2) := by
  have C2 : CI_ Z h := ⟨C.1, C.2.1, C.2.2.1, C.2.2.2.1, by have := C.2.2.2.2; omega⟩
  unfold qf_X12_run
  refine ok_if (fun _ => ok_ret ⟨C2, w⟩) (fun c1 => ?_)
  refine ok_if (fun c2 => ?_) (fun _ => ok_ret ⟨C2, w⟩)
  obtain ⟨u, eu, Q⟩ := go_2 hn w1 w2 w3 (Z := Z) c2 nn 0 C w (by omega) (by omega) hZ (by omega)
  have eu : qf_X5_go nn a1 h = some u := eu
  rw [eu, mx_svs]
  exact ok_ret Q
end
end
section
/-- the reference's tokens: from the last one on there is only END or BAD -/
def EK_ (M : ms_M) : Prop := 1 ≤ M 160 8 ∧ ∀ k : Nat, M 160 8 - 1 ≤ (k : Int) → (k : Int) < M 160 8 + 4 → 5 ≤ M 163 k
theorem ek_eq {M N : ms_M} (h : EK_ M) (h1 : N 160 8 = M 160 8) (h2 : ∀ k, N 163 k = M 163 k) : EK_ N := by
  refine ⟨by rw [h1]; exact h.1, fun k a b => ?_⟩
  rw [h1] at a b; rw [h2]; exact h.2 k a b
theorem ek_up {M : ms_M} {c k : Nat} {v : Int} (_ : VS_ M) (h : EK_ M) (hc : (!(Nat.beq c 163) && (!(Nat.beq c 160) || !(Nat.beq k 8))) = true) : EK_ (up_M M c k v) := by
  simp only [Bool.and_eq_true, Bool.or_eq_true] at hc
  refine ek_eq h (up_n ?_) (fun j => up_n ?_)
  · rintro ⟨rfl, rfl⟩; rcases hc.2 with z | z <;> cases z
  · rintro ⟨rfl, -⟩; cases hc.1
theorem ek_ua {M : ms_M} {c k : Nat} {v : Int} (V : VS_ M) (h : EK_ M) (hc : (!(Nat.beq c 163) && !(Nat.beq c 160)) = true) : EK_ (up_M M c k v) := by
  rw [Bool.and_eq_true] at hc
  exact ek_up V h (by simp only [Bool.and_eq_true, Bool.or_eq_true]; exact ⟨hc.1, .inl hc.2⟩)
theorem ek_fr {M N : ms_M} {L : List Nat} {LF : List (Nat × Nat)} (_ : VS_ M) (h : EK_ M) (F : ∀ c k, nw_F L LF false false c k = true → N c k = M c k) (hc : ((!(L.contains 163) && LF.all (fun q => !(Nat.beq q.1 163))) && nw_F L LF false false 160 8) = true) : EK_ N := by
  simp only [Bool.and_eq_true] at hc
  obtain ⟨⟨q1, q2⟩, q3⟩ := hc
  refine ek_eq h (F _ _ q3) (fun j => F _ _ (nw_ar ?_ j))
  simp only [Bool.and_eq_true]; exact ⟨q1, q2, rfl, rfl⟩
theorem ek_rd {h : ms_M} {j v : Int} (N : EK_ h) (hj : 0 ≤ j) (e : v = h 163 j.toNat) : j + 2 ≤ h 160 8 ∨ 5 ≤ v ∨ h 160 8 + 4 ≤ j := by
  by_cases a : j + 2 ≤ h 160 8
  · exact .inl a
  · by_cases b : h 160 8 + 4 ≤ j
    · exact .inr (.inr b)
    · rw [e]; exact .inr (.inl (N.2 j.toNat (by omega) (by omega)))
theorem lm_ek_isWord {nn : Nat} {a1 a2 u : Int} {h : ms_M} (N : EK_ h) (h0 : 0 ≤ a1) (e : qf_X13_isWord nn a1 a2 h = some u) : u = 0 ∨ a1 + 2 ≤ h 160 8 ∨ h 160 8 + 4 ≤ a1 := by
  unfold qf_X13_isWord at e
  have e := rd_i e
  split at e
  · cases e; exact .inl rfl
  · rename_i q
    have := ek_rd N h0 rfl
    omega
theorem lm_ek_isSign {nn : Nat} {a1 a2 u : Int} {h : ms_M} (N : EK_ h) (h0 : 0 ≤ a1) (e : qf_X13_isSign nn a1 a2 h = some u) : u = 0 ∨ a1 + 2 ≤ h 160 8 ∨ h 160 8 + 4 ≤ a1 := by
  unfold qf_X13_isSign at e
  have e := rd_i e
  split at e
  · cases e; exact .inl rfl
  · rename_i q
    have := ek_rd N h0 rfl
    omega
theorem lm_ek_strength {nn : Nat} {a1 u : Int} {h : ms_M} (N : EK_ h) (h0 : 0 ≤ a1) (e : qf_X13_strength nn a1 h = some u) : u = -1 ∨ a1 + 2 ≤ h 160 8 ∨ h 160 8 + 4 ≤ a1 := by
  unfold qf_X13_strength at e
  obtain ⟨w, e1, e⟩ := sv_i e
  by_cases q : w = 0
  · rw [if_pos q] at e
    have e := rd_i e
    by_cases q2 : h 163 a1.toNat = 4
    · have := ek_rd N h0 rfl
      omega
    · rw [if_neg q2] at e
      cases e; exact .inl rfl
  · have := lm_ek_isWord N h0 e1
    omega
theorem lm_ek_isCast {nn : Nat} {u : Int} {h : ms_M} (V : VS_ h) (N : EK_ h) (hc : h 160 23 + 1 ≤ h 160 8) (e : qf_X13_isCast nn h = some u) : u = 0 ∨ h 160 23 + 4 ≤ h 160 8 := by
  have g := gF_160_23 V
  unfold qf_X13_isCast at e
  obtain ⟨u3, e3, e⟩ := sv_i e
  have L3 := lm_ek_isSign N (by omega) e3
  by_cases q : u3 = 0
  · rw [if_pos q] at e
    cases e; exact .inl rfl
  · rw [if_neg q, xl_eq] at e
    have w1 : oq_add (h 160 23) 1 = h 160 23 + 1 := oq_add_eq (by omega) (by omega) (by omega)
    have w2 : oq_add (h 160 23) 2 = h 160 23 + 2 := oq_add_eq (by omega) (by omega) (by omega)
    have e := rd_i e
    rw [w1] at e
    by_cases q2 : h 163 (h 160 23 + 1).toNat = 1
    · rw [if_neg (fun z => z q2), xl_eq] at e
      have L7 := ek_rd (j := h 160 23 + 1) N (by omega) rfl
      obtain ⟨u11, e11, e⟩ := sv_i e
      rw [w2] at e11
      have L11 := lm_ek_isSign N (by omega) e11
      by_cases q3 : u11 = 0
      · rw [if_neg (fun z => z q3)] at e
        cases e; exact .inl rfl
      · right; omega
    · rw [if_pos q2] at e
      cases e; exact .inl rfl
end
section
/-- the reference's word lists -/
def cx_ (a : Nat) (j : Int) : Int := match xsc a (Int32.ofInt j) with
  | some c => c.toInt
  | none => -1
def sp_ (a : Nat) : Nat → Int
  | 0 => 0
  | k + 1 => sp_ a k + (if cx_ a (k : Int) = 32 then 1 else 0)
def XT_ (a n : Nat) : Prop := n ≤ 1000 ∧ (∀ (G : Int → Option Int), ln_X a G = G (n : Int)) ∧ (∀ j : Int, 0 ≤ j → j < (n : Int) → ∀ (G : Int → Option Int), rd_X a j G = G (cx_ a j)) ∧ (∀ k : Nat, k ≤ n → 0 ≤ sp_ a k ∧ sp_ a k ≤ 100)
def xt_ck (a : Nat) (i : Nat) : Bool := match xsc a (Int32.ofInt (i : Int)) with
  | some _ => true
  | none => false
theorem xt_rd {a n : Nat} (h : (List.range n).all (xt_ck a) = true) (j : Int) (h0 : 0 ≤ j) (hj : j < (n : Int)) (G : Int → Option Int) : rd_X a j G = G (cx_ a j) := by
  have h1 := List.all_eq_true.1 h j.toNat (List.mem_range.2 (by omega))
  unfold xt_ck at h1
  have e : ((j.toNat : Nat) : Int) = j := by omega
  rw [e] at h1
  unfold rd_X cx_
  revert h1
  cases xsc a (Int32.ofInt j) with
  | none => intro h1; cases h1
  | some c => intro _; rfl
theorem sp_b {a : Nat} : ∀ k : Nat, 0 ≤ sp_ a k ∧ sp_ a k ≤ (k : Int) := by
  intro k
  induction k with
  | zero => exact ⟨Int.le_refl _, Int.le_refl _⟩
  | succ k ih => unfold sp_; split <;> omega
set_option maxRecDepth 100000 in
theorem XT_2 : XT_ (1000000000 + 2) 133 := by
  refine ⟨by omega, fun G => rfl, fun j h0 hj G => xt_rd (by decide +kernel) j h0 hj G, fun k hk => ?_⟩
  have h : (List.range 134).all (fun k => decide (sp_ (1000000000 + 2) k ≤ 100)) = true := by decide +kernel
  have h1 := List.all_eq_true.1 h k (List.mem_range.2 (by omega))
  exact ⟨(sp_b k).1, of_decide_eq_true h1⟩
set_option maxRecDepth 100000 in
theorem XT_3 : XT_ (1000000000 + 3) 77 := by
  refine ⟨by omega, fun G => rfl, fun j h0 hj G => xt_rd (by decide +kernel) j h0 hj G, fun k hk => ?_⟩
  have := sp_b (a := 1000000000 + 3) k
  omega
set_option maxRecDepth 100000 in
theorem XT_4 : XT_ (1000000000 + 4) 8 := by
  refine ⟨by omega, fun G => rfl, fun j h0 hj G => xt_rd (by decide +kernel) j h0 hj G, fun k hk => ?_⟩
  have := sp_b (a := 1000000000 + 4) k
  omega
/-- what among answers: nothing, or the number of a word as long as the one that is looked for -/
def QA_ (a n0 : Nat) (n : Int) (u : Int) : Prop := u = -1 ∨ ∃ k : Nat, (k : Int) + n + 1 < (n0 : Int) ∧ cx_ a (k : Int) = 32 ∧ cx_ a ((k : Int) + n + 1) = 32 ∧ u = sp_ a k
section
variable {nn a n0 : Nat} {p n : Int} {h : ms_M}
theorem am_119 {qk : Nat → Int → Int → Int → Int → ms_M → Option Int} {Q : Int → Prop} {w k l : Int} (hk : 0 ≤ k ∧ k ≤ 2000) (hw : ¬ l = 0 → Q w) (hq : Ok_ (qk a p n w (k + 1) h) Q) : Ok_ (qj_X13_among_119 nn qk a p n w k l h) Q := by
  unfold qj_X13_among_119
  refine ok_if (fun C => ?_) (fun C => ok_ret (hw C))
  refine ok_add (by omega) ?_; intro v e
  rw [e]; exact hq
theorem am_72 (X : XT_ a n0) (V : VS_ h) (hp : 0 ≤ p) (h0 : 0 ≤ n) (hpn : p + n ≤ 3000) {qk : Nat → Int → Int → Int → Int → ms_M → Option Int} {Q : Int → Prop} {w k : Int} (hk : 0 ≤ k ∧ k ≤ 2000) (hq : Ok_ (qk a p n w (k + 1) h) Q) : ∀ (f : Nat) (l i : Int), 0 ≤ i → i ≤ n → (l = 0 ∨ l = 1) → (¬ l = 0 → Q w ∧ k + n + 1 < (n0 : Int)) → n - i < (f : Int) → Ok_ (qw_X13_among_72 nn qk f a p n w k l i h) Q := by
  intro f
  induction f with
  | zero => intro l i a1 a2 a3 a4 hm; exfalso; omega
  | succ f ih =>
    intro l i a1 a2 a3 a4 hm
    unfold qw_X13_among_72
    refine ok_if (fun C => am_119 hk (fun z => (a4 z).1) hq) (fun C => ?_)
    refine ok_if (fun C2 => am_119 hk (fun z => (a4 z).1) hq) (fun C2 => ?_)
    have a5 := a4 C2
    have x0 := X.1
    refine ok_add (by omega) ?_; intro v3 e3
    refine ok_add (by omega) ?_; intro v4 e4
    rw [X.2.2.1 v4 (by omega) (by omega)]
    refine ok_add (by omega) ?_; intro v7 e7
    refine ok_rd (by omega) (gA_162 V) ?_; intro v8 e8 a8 b8
    refine ok_if (fun C3 => ?_) (fun C3 => ?_)
    · refine ok_add (by omega) ?_; intro v9 e9
      exact ih 0 v9 (by omega) (by omega) (.inl rfl) (fun z => absurd rfl z) (by omega)
    · refine ok_add (by omega) ?_; intro v9 e9
      exact ih 1 v9 (by omega) (by omega) (.inr rfl) (fun _ => a5) (by omega)
theorem am_6 (hn : 1000000 ≤ nn) (X : XT_ a n0) (V : VS_ h) (hp : 0 ≤ p) (h0 : 0 ≤ n) (hpn : p + n ≤ 3000) : ∀ (f k : Nat), k ≤ n0 → (n0 : Int) - k < (f : Int) → Ok_ (qw_X13_among_6 nn f a p n (sp_ a k - 1) (k : Int) h) (QA_ a n0 n) := by
  intro f
  induction f with
  | zero => intro k a1 hm; exfalso; omega
  | succ f ih =>
    intro k a1 hm
    have x0 := X.1
    have s0 := X.2.2.2 k a1
    unfold qw_X13_among_6
    refine ok_add (by omega) ?_; intro v14 e14
    rw [X.2.1]
    refine ok_if (fun C => ok_ret (.inl rfl)) (fun C => ?_)
    rw [X.2.2.1 (k : Int) (by omega) (by omega)]
    have nx : Ok_ (qw_X13_among_6 nn f a p n (sp_ a (k + 1) - 1) ((k : Int) + 1) h) (QA_ a n0 n) := ih (k + 1) (by omega) (by omega)
    have s1 : sp_ a (k + 1) = sp_ a k + (if cx_ a (k : Int) = 32 then 1 else 0) := rfl
    refine ok_if (fun C2 => ?_) (fun C2 => ?_)
    · rw [if_pos C2] at s1
      refine ok_add (by omega) ?_; intro v17 e17
      have nx : Ok_ (qw_X13_among_6 nn f a p n v17 ((k : Int) + 1) h) (QA_ a n0 n) := by rw [e17, show sp_ a k - 1 + 1 = sp_ a (k + 1) - 1 by omega]; exact nx
      have no : Ok_ (qj_X13_among_66 nn (qw_X13_among_6 nn f) a p n v17 (k : Int) h) (QA_ a n0 n) := by
        unfold qj_X13_among_66
        exact am_72 X V hp h0 hpn (by omega) nx nn 0 0 (by omega) (by omega) (.inl rfl) (fun z => absurd rfl z) (by omega)
      refine ok_add (by omega) ?_; intro v18 e18
      refine ok_add (by omega) ?_; intro v19 e19
      rw [X.2.1]
      refine ok_if (fun C3 => no) (fun C3 => ?_)
      refine ok_add (by omega) ?_; intro v21 e21
      refine ok_add (by omega) ?_; intro v22 e22
      rw [X.2.2.1 v22 (by omega) (by omega)]
      refine ok_if (fun C4 => no) (fun C4 => ?_)
      refine am_72 X V hp h0 hpn (by omega) nx nn 1 0 (by omega) (by omega) (.inr rfl) (fun _ => ⟨.inr ⟨k, by omega, C2, ?_, by omega⟩, by omega⟩) (by omega)
      rw [show (k : Int) + n + 1 = v22 by omega]
      exact Decidable.not_not.1 C4
    · rw [if_neg C2] at s1
      refine ok_add (by omega) ?_; intro v26 e26
      rw [e26, show sp_ a k - 1 = sp_ a (k + 1) - 1 by omega]; exact nx
theorem am_ok (hn : 1000000 ≤ nn) (X : XT_ a n0) (V : VS_ h) (hp : 0 ≤ p) (h0 : 0 ≤ n) (hpn : p + n ≤ 3000) : Ok_ (qf_X13_among nn a p n h) (QA_ a n0 n) := am_6 hn X V hp h0 hpn nn 0 (Nat.zero_le _) (by have := X.1; omega)
end
theorem sp_3 : (List.range 133).all (fun k => !(decide (cx_ (1000000000 + 2) ((k : Nat) : Int) = 32) && decide (sp_ (1000000000 + 2) k = 3)) || Nat.beq k 20) = true := by decide +kernel
theorem sp_5 : (List.range 5).all (fun n => !(decide (cx_ (1000000000 + 2) (((20 + n + 1 : Nat)) : Int) = 32))) = true := by decide +kernel
theorem qa_2 {n u : Int} (h0 : 0 ≤ n) (q : QA_ (1000000000 + 2) 133 n u) : (-1 ≤ u ∧ u ≤ 100) ∧ (u = 3 → 5 ≤ n) := by
  rcases q with q | ⟨k, k1, k2, k3, k4⟩
  · omega
  · have b := XT_2.2.2.2 k (by omega)
    refine ⟨by omega, fun z => ?_⟩
    have h1 := List.all_eq_true.1 sp_3 k (List.mem_range.2 (by omega))
    rw [decide_eq_true k2, decide_eq_true (show sp_ (1000000000 + 2) k = 3 by omega)] at h1
    have k20 : k = 20 := Nat.eq_of_beq_eq_true h1
    by_cases y : 5 ≤ n
    · exact y
    · have h2 := List.all_eq_true.1 sp_5 n.toNat (List.mem_range.2 (by omega))
      rw [show ((20 + n.toNat + 1 : Nat) : Int) = (k : Int) + n + 1 by omega, decide_eq_true k3] at h2
      cases h2
end
section
/-- the reference: every token lies within the text, every member's parameters within theirs -/
def HW_ (M : ms_M) : Prop := (∀ t : Nat, (t : Int) < 3002 → M 164 t + M 165 t ≤ 3000) ∧ (∀ m : Nat, (m : Int) < 800 → M 188 m + M 189 m ≤ 1500)
theorem hw_eq {M N : ms_M} (h : HW_ M) (h1 : ∀ k, N 164 k = M 164 k) (h2 : ∀ k, N 165 k = M 165 k) (h3 : ∀ k, N 188 k = M 188 k) (h4 : ∀ k, N 189 k = M 189 k) : HW_ N := by
  refine ⟨fun t ht => ?_, fun m hm => ?_⟩
  · rw [h1, h2]; exact h.1 t ht
  · rw [h3, h4]; exact h.2 m hm
theorem hw_up {M : ms_M} {c k : Nat} {v : Int} (_ : VS_ M) (h : HW_ M) (hc : (!(Nat.beq c 164) && (!(Nat.beq c 165) && (!(Nat.beq c 188) && !(Nat.beq c 189)))) = true) : HW_ (up_M M c k v) := by
  simp only [Bool.and_eq_true] at hc
  obtain ⟨a, b, c', d⟩ := hc
  refine hw_eq h (fun j => up_n ?_) (fun j => up_n ?_) (fun j => up_n ?_) (fun j => up_n ?_)
  · rintro ⟨rfl, -⟩; cases a
  · rintro ⟨rfl, -⟩; cases b
  · rintro ⟨rfl, -⟩; cases c'
  · rintro ⟨rfl, -⟩; cases d
theorem hw_ua {M : ms_M} {c k : Nat} {v : Int} (V : VS_ M) (h : HW_ M) (hc : (!(Nat.beq c 164) && (!(Nat.beq c 165) && (!(Nat.beq c 188) && !(Nat.beq c 189)))) = true) : HW_ (up_M M c k v) := hw_up V h hc
theorem hw_fr {M N : ms_M} {L : List Nat} {LF : List (Nat × Nat)} (_ : VS_ M) (h : HW_ M) (F : ∀ c k, nw_F L LF false false c k = true → N c k = M c k) (hc : ((!(L.contains 164) && LF.all (fun q => !(Nat.beq q.1 164))) && ((!(L.contains 165) && LF.all (fun q => !(Nat.beq q.1 165))) && ((!(L.contains 188) && LF.all (fun q => !(Nat.beq q.1 188))) && (!(L.contains 189) && LF.all (fun q => !(Nat.beq q.1 189)))))) = true) : HW_ N := by
  simp only [Bool.and_eq_true] at hc
  obtain ⟨⟨a1, a2⟩, ⟨b1, b2⟩, ⟨c1, c2⟩, d1, d2⟩ := hc
  refine hw_eq h (fun j => F _ _ (nw_ar ?_ j)) (fun j => F _ _ (nw_ar ?_ j)) (fun j => F _ _ (nw_ar ?_ j)) (fun j => F _ _ (nw_ar ?_ j)) <;> simp only [Bool.and_eq_true]
  · exact ⟨a1, a2, rfl, rfl⟩
  · exact ⟨b1, b2, rfl, rfl⟩
  · exact ⟨c1, c2, rfl, rfl⟩
  · exact ⟨d1, d2, rfl, rfl⟩
theorem vw_X13_isLike_24 {nn : Nat} (_hn : 1000000 ≤ nn) {l1 l2 : Int} {h : ms_M} (r1 : 0 ≤ l1 ∧ l1 ≤ 3001) (r2 : 0 ≤ l2 ∧ l2 ≤ 3001) (V : VS_ h) (N : HW_ h) : ∀ (k : Nat) (l3 l4 : Int), (l3 = 0 ∨ (l3 = 1 ∧ h 165 l1.toNat = h 165 l2.toNat)) → 0 ≤ l4 ∧ l4 ≤ 3000 → 3001 - l4 < (k : Int) → Ok_ (qw_X13_isLike_24 nn k l1 l2 l3 l4 h) (QP_ 0 1) := by
  have w1 := gA_165 V l1.toNat (by omega)
  intro k
  induction k with
  | zero => intro l3 l4 a b hm; exfalso; omega
  | succ k ih =>
    intro l3 l4 a b hm
    have z1 := N.1 l1.toNat (by omega)
    have z2 := N.1 l2.toNat (by omega)
    unfold qw_X13_isLike_24
    refine ok_rd (by omega) (gA_165 V) ?_; intro v2 e2 a2 b2
    refine ok_if (fun C => ?_) (fun C => ?_)
    · refine ok_ck (by omega) ?_
      exact ok_rP (by omega) (by omega)
    · refine ok_if (fun C2 => ?_) (fun C2 => ?_)
      · refine ok_ck (by omega) ?_
        exact ok_rP (by omega) (by omega)
      · refine ok_rd (by omega) (gA_164 V) ?_; intro v7 e7 a7 b7
        refine ok_add (by omega) ?_; intro v8 e8
        refine ok_rd (by omega) (gA_162 V) ?_; intro v9 e9 a9 b9
        refine ok_rd (by omega) (gA_164 V) ?_; intro v12 e12 a12 b12
        refine ok_add (by omega) ?_; intro v13 e13
        refine ok_rd (by omega) (gA_162 V) ?_; intro v14 e14 a14 b14
        refine ok_if (fun C3 => ?_) (fun C3 => ?_)
        · refine ok_add (by omega) ?_; intro v15 e15
          exact ih 0 v15 (.inl rfl) (by omega) (by omega)
        · refine ok_add (by omega) ?_; intro v16 e16
          exact ih 1 v16 (by omega) (by omega) (by omega)
theorem vf_X13_isLike {nn : Nat} (hn : 1000000 ≤ nn) {a1 : Int} {a2 : Int} {h : ms_M} (a_a1 : 0 ≤ a1) (b_a1 : a1 ≤ 3001) (a_a2 : 0 ≤ a2) (b_a2 : a2 ≤ 3001) (V_h : VS_ h) (N_h : HW_ h) : Ok_ (qf_X13_isLike nn a1 a2 h) (QP_ 0 1) := by
  unfold qf_X13_isLike
  refine ok_rd (by omega) (gA_165 V_h) ?_; intro v21 e21 a21 b21
  refine ok_rd (by omega) (gA_165 V_h) ?_; intro v23 e23 a23 b23
  refine ok_if (fun C => ?_) (fun C => ?_)
  · exact vw_X13_isLike_24 hn (by omega) (by omega) V_h N_h nn 0 0 (.inl rfl) (by omega) (by omega)
  · exact vw_X13_isLike_24 hn (by omega) (by omega) V_h N_h nn 1 0 (by omega) (by omega) (by omega)
theorem sp_k3 : (List.range 76).all (fun k => !(decide (cx_ (1000000000 + 3) ((k : Nat) : Int) = 32)) || decide (sp_ (1000000000 + 3) k ≤ 7)) = true := by decide +kernel
theorem qa_3 {n u : Int} (h0 : 0 ≤ n) (q : QA_ (1000000000 + 3) 77 n u) : -1 ≤ u ∧ u ≤ 7 := by
  rcases q with q | ⟨k, k1, k2, k3, k4⟩
  · omega
  · have h1 := List.all_eq_true.1 sp_k3 k (List.mem_range.2 (by omega))
    rw [decide_eq_true k2] at h1
    have h2 : sp_ (1000000000 + 3) k ≤ 7 := of_decide_eq_true h1
    have := sp_b (a := 1000000000 + 3) k
    omega
theorem vw_X13_classOf_28 {nn : Nat} (hn : 1000000 ≤ nn) {l1 : Int} {h : ms_M} (r1 : 0 ≤ l1 ∧ l1 ≤ 3001) (V : VS_ h) (N : HW_ h) : ∀ (k : Nat) (l3 : Int), 0 ≤ l3 ∧ l3 ≤ 400 → 401 - l3 < (k : Int) → Ok_ (qw_X13_classOf_28 nn k l1 l3 h) (QP_ (-1) 407) := by
  have g := gF_160_24 V
  intro k
  induction k with
  | zero => intro l3 a hm; exfalso; omega
  | succ k ih =>
    intro l3 a hm
    unfold qw_X13_classOf_28
    refine ok_if (fun C => ok_rP (by omega) (by omega)) (fun C => ?_)
    refine ok_rd (by omega) (gA_178 V) ?_; intro v3 e3 a3 b3
    refine ok_cP (vf_X13_isLike hn (by omega) (by omega) (by omega) (by omega) V N) ?_; intro u5 e5 a5 b5
    refine ok_if (fun C2 => ?_) (fun C2 => ?_)
    · refine ok_add (by omega) ?_; intro v6 e6
      exact ih v6 (by omega) (by omega)
    · refine ok_add (by omega) ?_; intro v7 e7
      exact ok_rP (by omega) (by omega)
theorem vf_X13_classOf {nn : Nat} (hn : 1000000 ≤ nn) {a1 : Int} {h : ms_M} (a_a1 : 0 ≤ a1) (b_a1 : a1 ≤ 3001) (V_h : VS_ h) (N_h : HW_ h) : Ok_ (qf_X13_classOf nn a1 h) (QP_ (-1) 407) := by
  have z := N_h.1 a1.toNat (by omega)
  unfold qf_X13_classOf
  refine ok_rd (by omega) (gA_164 V_h) ?_; intro v11 e11 a11 b11
  refine ok_rd (by omega) (gA_165 V_h) ?_; intro v13 e13 a13 b13
  obtain ⟨u, eu, qu⟩ := am_ok (nn := nn) (p := v11) (n := v13) hn XT_3 V_h (by omega) (by omega) (by omega)
  have q := qa_3 (by omega) qu
  rw [eu, mx_svs]
  refine ok_if (fun C => ?_) (fun C => ok_rP (by omega) (by omega))
  exact vw_X13_classOf_28 hn (by omega) V_h N_h nn 0 (by omega) (by omega)
end

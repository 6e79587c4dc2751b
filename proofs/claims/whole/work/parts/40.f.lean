/- THE CLASS READS AN IMAGE: from the first byte to the last -/
section
variable {nn : Nat} {M M1 M2 : ms_M} {b : Nat} {B : Nat → Int} {n : Nat} {st : Nat ⊕ Nat}
/-- where the methods begin: m of them -/
def mq_S (B : Nat → Int) (n p : Nat) : Nat → Option Nat
  | 0 => some p
  | m + 1 => match mq_S B n p m with
    | some q => (match mt_S B n q with
      | .inr x => some x
      | .inl _ => none)
    | none => none
theorem ms_q : ∀ (m p q : Nat), ms_S B n m p = .inr q → mq_S B n p m = some q := by
  have key : ∀ (m p j x q : Nat), mq_S B n p j = some x → ms_S B n m x = .inr q → mq_S B n p (j + m) = some q := by
    intro m
    induction m with
    | zero => intro p j x q h1 h2; unfold ms_S at h2; cases h2; exact h1
    | succ m ih =>
      intro p j x q h1 h2
      unfold ms_S at h2
      obtain ⟨y, hy, h2⟩ := bd_inr h2
      have e : mq_S B n p (j + 1) = some y := by
        show (match mq_S B n p j with
          | some q => (match mt_S B n q with
            | .inr x => some x
            | .inl _ => none)
          | none => none) = some y
        rw [h1]; dsimp only; rw [hy]
      rw [show j + (m + 1) = j + 1 + m by omega]
      exact ih p (j + 1) y q e h2
  intro m p q e
  have := key m p 0 p q rfl e
  rw [Nat.zero_add] at this
  exact this
/-- the rows of the first j methods, the first at p -/
def MSt (b : Nat) (B : Nat → Int) (n p : Nat) (j : Int) (M : ms_M) : Prop := ∀ i : Nat, (i : Int) < j → ∃ x y h f, mq_S B n p i = some x ∧ MPl B n x h f y ∧ MDt b B n (12 * (i : Int)) x h f M
theorem md_k {a : Int} {p h f : Nat} (e : ∀ k : Int, a ≤ k → k ≤ a + 11 → M2 (b + 6) k.toNat = M (b + 6) k.toNat) (D : MDt b B n a p h f M) : MDt b B n a p h f M2 := by
  unfold MDt
  rw [e _ (by omega) (by omega), e _ (by omega) (by omega), e _ (by omega) (by omega), e _ (by omega) (by omega), e _ (by omega) (by omega), e _ (by omega) (by omega), e _ (by omega) (by omega), e _ (by omega) (by omega), e _ (by omega) (by omega), e _ (by omega) (by omega), e _ (by omega) (by omega), e _ (by omega) (by omega)]
  exact D
/-- what is known behind the reading of the whole Image -/
def IMc (b n : Nat) (B : Nat → Int) (M : ms_M) : Prop := TTc b n B M ∧ ∃ p q, kk_S B n = .inr p ∧ (by_S B n (pc_S B n) p = .inr (p + 1) ∧ by_S B n (pc_S B n) (p + 1) = .inr (p + 2) ∧ fs_S B n (p + 2) = .inr q ∧ mm_S B n q = .inr n) ∧ (M b 8 = pt_S B n (B p) 0 ∧ M b 9 = pt_S B n (B (p + 1)) 0) ∧ (M b 10 = B (p + 2) ∧ FLt b B (p + 3) (B (p + 2)) M) ∧ (M b 12 = B q ∧ MSt b B n (q + 1) (B q) M)
theorem c_109r (I : sr_I M b B n) (C : CRs b n st M) : Pc (qj_X3_read_109 nn b M) (fun u => FRz b M u.2 ∧ CRs b n (bd_S st (fun p => if p < n then .inl p else .inr p)) u.2 ∧ u.1 = u.2 b 3) := by
  have e1 := I.2.2.1
  unfold qj_X3_read_109
  cases st with
  | inl e =>
    have C : M b 3 = (e : Int) := C
    refine pc_if (fun _ => pc_ret ⟨frp_r, C, rfl⟩) (fun _ => ?_)
    rw [c_badl (by omega), mx_svs]
    exact pc_ret ⟨frp_r, C, rfl⟩
  | inr p =>
    obtain ⟨c1, c2, c3⟩ : M b 3 = -1 ∧ M b 2 = (p : Int) ∧ p ≤ n := C
    refine pc_if (fun w => pc_ret ⟨frp_r, ?_, rfl⟩) (fun w => ?_)
    · rw [bd_r, if_neg (by omega)]; exact ⟨c1, c2, c3⟩
    · rw [c2]
      refine pc_sv (c_badx (s := .inr p) ⟨c1, c2, c3⟩) ?_; intro u6 q6
      refine pc_ret ⟨q6.1, ?_, rfl⟩
      rw [bd_r, if_pos (by omega)]; exact q6.2
theorem c_ms (hn : 1000000 ≤ nn) {p0 : Nat} : ∀ (m f : Nat) (many j : Int) (st : Nat ⊕ Nat) (M : ms_M), (j + m = many ∧ 0 ≤ j ∧ many ≤ 12) → (∀ p, st = .inr p → mq_S B n p0 j.toNat = some p ∧ M b 12 = j ∧ MSt b B n p0 j M) → TTc b n B M → CRs b n st M → Pc (qw_X3_read_70 nn f b many j M) (fun u => (∀ c k, ¬ (c = b ∧ (k = 2 ∨ k = 3 ∨ k = 12)) → ¬ c = b + 6 → u.2 c k = M c k) ∧ CRs b n (bd_S (bd_S st (ms_S B n m)) (fun p => if p < n then .inl p else .inr p)) u.2 ∧ u.1 = u.2 b 3 ∧ ∀ p, bd_S st (ms_S B n m) = .inr p → u.2 b 12 = many ∧ MSt b B n p0 many u.2) := by
  intro m
  induction m with
  | zero =>
    intro f many j st M hm H T C
    cases f with
    | zero => exact pc_none
    | succ f =>
      have es : bd_S st (ms_S B n 0) = st := by cases st <;> rfl
      unfold qw_X3_read_70
      refine pc_if (fun _ => ?_) (fun z => absurd (by omega) z)
      refine pc_imp (c_109r T.1 C) (fun u q => ⟨fun c k q1 q2 => q.1 c k (by omega), by rw [es]; exact q.2.1, q.2.2, fun p z => ?_⟩)
      rw [es] at z
      obtain ⟨h1, h2, h3⟩ := H p z
      rw [show many = j by omega]
      refine ⟨by rw [q.1 b 12 (by omega)]; exact h2, fun i hi => ?_⟩
      obtain ⟨x, y, hh, ff, y1, y2, y3⟩ := h3 i hi
      exact ⟨x, y, hh, ff, y1, y2, md_k (fun k _ _ => q.1 _ _ (by omega)) y3⟩
  | succ m ih =>
    intro f many j st M hm H T C
    cases f with
    | zero => exact pc_none
    | succ f =>
      unfold qw_X3_read_70
      refine pc_if (fun z => absurd z (by omega)) (fun _ => ?_)
      cases st with
      | inl e =>
        have C2 : M b 3 = (e : Int) := C
        refine pc_if (fun _ => ?_) (fun z => absurd (by omega) z)
        exact pc_imp (c_109r (st := .inl e) T.1 C) (fun u q => ⟨fun c k q1 q2 => q.1 c k (by omega), q.2.1, q.2.2, fun p z => nomatch z⟩)
      | inr p =>
        refine pc_if (fun z => absurd C.1 z) (fun _ => ?_)
        obtain ⟨h1, h2, h3⟩ := H p rfl
        refine pc_xl ?_; intro v10 e10
        rw [oq_mul_eq (by omega) (by omega) (by omega)] at e10
        refine pc_sv (c_method hn (a := v10) (by omega) T C) ?_; intro u12 q12
        obtain ⟨F12, C12, D12⟩ := q12
        refine pc_xl ?_; intro v14 e14
        refine pc_xl ?_; intro h15 e15
        refine pc_add (by omega) ?_; intro v16 e16
        have F15 : ∀ c k, ¬ (c = b ∧ (k = 2 ∨ k = 3 ∨ k = 12)) → ¬ c = b + 6 → h15 c k = M c k := fun c k q1 q2 => by
          rw [e15, up_n (by omega)]; exact F12 c k (by omega) (by omega)
        have I15 : IFp b M h15 := fun c k q w => F15 c k (by omega) (by omega)
        have T15 : TTc b n B h15 := ttc_k I15 (F15 b 7 (by omega) (by omega)) (fun k => F15 _ _ (by omega) (by omega)) (fun k => F15 _ _ (by omega) (by omega)) (fun k => F15 _ _ (by omega) (by omega)) T
        have C15 := cr_k (n := n) (M2 := h15) (by rw [e15, up_n (by omega)]) (by rw [e15, up_n (by omega)]) C12
        have em : bd_S (.inr p) (ms_S B n (m + 1)) = bd_S (mt_S B n p) (ms_S B n m) := rfl
        rw [em]
        refine pc_imp (ih f many v16 (mt_S B n p) h15 (by omega) (fun x hx => ?_) T15 C15) (fun u q => ⟨fun c k q1 q2 => (q.1 c k q1 q2).trans (F15 c k q1 q2), q.2⟩)
        have ej : v16.toNat = j.toNat + 1 := by omega
        have en : mq_S B n p0 (j.toNat + 1) = some x := by
          show (match mq_S B n p0 j.toNat with
            | some q => (match mt_S B n q with
              | .inr x => some x
              | .inl _ => none)
            | none => none) = some x
          rw [h1]; dsimp only; rw [hx]
        refine ⟨by rw [ej]; exact en, ?_, fun i hi => ?_⟩
        · have : u12 b 12 = j := by rw [F12 b 12 (by omega) (by omega)]; exact h2
          rw [e15, up_s, e14, this, oq_add_eq (by omega) (by omega) (by omega)]; omega
        · have R : ∀ k, h15 (b + 6) k = u12 (b + 6) k := fun k => by rw [e15, up_n (by omega)]
          by_cases qi : (i : Int) = j
          · obtain ⟨hh, ff, P⟩ := mt_pl hx
            refine ⟨p, x, hh, ff, by rw [show i = j.toNat by omega]; exact h1, P, ?_⟩
            have D := D12 hh ff x P
            rw [show v10 = 12 * (i : Int) by omega] at D
            exact md_k (fun k _ _ => R _) D
          · obtain ⟨x2, y2, hh, ff, y1, y3, y4⟩ := h3 i (by omega)
            refine ⟨x2, y2, hh, ff, y1, y3, md_k (fun k k1 k2 => ?_) y4⟩
            rw [R, F12 _ _ (by omega) (by omega)]
/-- THE CLASS'S READING -/
theorem c_read (hn : 1000000 ≤ nn) {a1 : Nat} {a2 : Int} (hb : kc_O b = 3) (V : VS_ M) (ta : a1 < cn_M M ∧ ly_T a1 = 1) (hs : a2 = (n : Int) ∧ n ≤ 6000 ∧ (n : Int) ≤ ln_I M a1) (hB : ∀ i : Nat, i < n → M a1 i % 256 = B i) : Pc (qf_X3_read nn b a1 a2 M) (fun u => u.2 b 3 = u.1 ∧ (∀ e, rdi_S B n = .inl e → u.1 = (e : Int)) ∧ ∀ q, rdi_S B n = .inr q → u.1 = -1 ∧ IMc b n B u.2) := by
  have ib := im_at hb
  unfold qf_X3_read
  refine pc_wR ?_; intro h19 e19
  refine pc_lS ?_; intro v20 e20
  have na : ¬ a1 = b := fun z => by have t := ta.2; rw [z, T_img hb] at t; omega
  have el : ln_I h19 a1 = ln_I M a1 := by
    unfold ln_I
    split
    · rfl
    · rw [e19, up_n (by omega)]
  refine pc_xl ?_; intro v21 e21
  rw [e20, el, if_neg (by omega)] at e21
  refine pc_xl ?_; intro h22 e22
  refine pc_xl ?_; intro h23 e23
  refine pc_xl ?_; intro h24 e24
  refine pc_xl ?_; intro h25 e25
  refine pc_xl ?_; intro h26 e26
  have K : ∀ c k, ¬ c = b → h26 c k = M c k := fun c k q => by
    rw [e26, up_n (by omega), e25, up_n (by omega), e24, up_n (by omega), e23, up_n (by omega), e22, up_n (by omega), e19, up_n (by omega)]
  have k0 : h26 b 0 = (a1 : Int) := by
    rw [e26, up_n (by omega), e25, up_n (by omega), e24, up_n (by omega), e23, up_n (by omega), e22, up_n (by omega), e19, up_s]
  have k1 : h26 b 1 = (n : Int) := by
    rw [e26, up_n (by omega), e25, up_n (by omega), e24, up_n (by omega), e23, up_n (by omega), e22, up_s, e21]; exact hs.1
  have k2 : h26 b 2 = 0 := by
    rw [e26, up_n (by omega), e25, up_n (by omega), e24, up_n (by omega), e23, up_s]
  have k3 : h26 b 3 = -1 := by
    rw [e26, up_n (by omega), e25, up_n (by omega), e24, up_s]
  have k10 : h26 b 10 = 0 := by
    rw [e26, up_n (by omega), e25, up_s]
  have k12 : h26 b 12 = 0 := by
    rw [e26, up_s]
  have I26 : sr_I h26 b B n := by
    refine ⟨hb, hs.2.1, k1, by rw [k0]; omega, ?_, ?_, ?_, fun i hi => ?_⟩
    · rw [k0, Int.toNat_natCast]
      have : cn_M h26 = cn_M M := by unfold cn_M; rw [K 900000 0 (by omega)]
      rw [this]; exact ta.1
    · rw [k0, Int.toNat_natCast]; exact ta.2
    · rw [k0, Int.toNat_natCast]
      have : ln_I h26 a1 = ln_I M a1 := by
        unfold ln_I
        split
        · rfl
        · exact K _ _ (by omega)
      rw [this]; exact hs.2.2
    · rw [k0, Int.toNat_natCast, K _ _ na]
      exact ⟨hB i hi, vi_y V ta.1 ta.2 (by omega)⟩
  have C26 : CRs b n (.inr 0) h26 := ⟨k3, k2, by omega⟩
  refine pc_sv (c_consts hn I26 C26) ?_; intro u28 q28
  obtain ⟨⟨F28, N28⟩, C28, T28⟩ := q28
  have I28 := sr_if I26 F28
  -- behind a FORM in the constants
  cases zk : kk_S B n with
  | inl e =>
    have er : rdi_S B n = .inl e := by unfold rdi_S; rw [zk]; rfl
    rw [zk] at C28
    have C28 : u28 b 3 = (e : Int) := C28
    refine pc_sv (c_plain_l I28 C28) ?_; intro u30 q30
    refine pc_xl ?_; intro h31 e31
    have I31 := sr_if I28 (ifp_t (ifp_p q30.1) (show IFp b u30.2 h31 by rw [e31]; exact ifp_u (.inl ⟨rfl, by omega⟩)))
    have C31 : h31 b 3 = (e : Int) := by rw [e31, up_n (by omega)]; exact q30.2
    refine pc_sv (c_plain_l I31 C31) ?_; intro u33 q33
    refine pc_xl ?_; intro h34 e34
    have I34 := sr_if I31 (ifp_t (ifp_p q33.1) (show IFp b u33.2 h34 by rw [e34]; exact ifp_u (.inl ⟨rfl, by omega⟩)))
    have C34 : h34 b 3 = (e : Int) := by rw [e34, up_n (by omega)]; exact q33.2
    refine pc_sv (c_fs hn (st := .inl e) (fun p z => nomatch z) I34 C34 (fun p z => nomatch z)) ?_; intro u36 q36
    have I36 := sr_if I34 (ff_if q36.1)
    refine pc_sv (c_upTo (st := .inl e) I36 q36.2.1) ?_; intro u38 q38
    have I38 := sr_fr I36 q38.1
    have C38 : u38.2 b 3 = (e : Int) := q38.2.1
    have out : ∀ f k, Pc (qw_X3_read_70 nn f b u38.1 k u38.2) (fun u => u.2 b 3 = (e : Int) ∧ u.1 = u.2 b 3) := fun f k => by
      cases f with
      | zero => exact pc_none
      | succ f =>
        unfold qw_X3_read_70
        refine pc_if (fun _ => ?_) (fun _ => pc_if (fun _ => ?_) (fun y => absurd (by omega) y))
        · exact pc_imp (c_109r (st := .inl e) I38 C38) (fun u q => ⟨q.2.1, q.2.2⟩)
        · exact pc_imp (c_109r (st := .inl e) I38 C38) (fun u q => ⟨q.2.1, q.2.2⟩)
    refine pc_imp (out _ _) (fun u q => ⟨q.2.symm, fun x hx => ?_, fun x hx => ?_⟩)
    · rw [er] at hx; cases hx; rw [q.2]; exact q.1
    · rw [er] at hx; cases hx
  | inr p =>
    have T28 := T28 p zk
    rw [zk] at C28
    refine pc_sv (c_plain T28 C28) ?_; intro u30 q30
    obtain ⟨f30, C30, w30⟩ := q30
    refine pc_xl ?_; intro h31 e31
    have N31 : ∀ c k, ¬ (c = b ∧ (k = 2 ∨ k = 3 ∨ k = 8)) → h31 c k = u28 c k := fun c k q => by rw [e31, up_n (by omega)]; exact f30 c k (by omega)
    have G31 : IFp b u28 h31 := fun c k q w => N31 c k (by omega)
    have T31 : TTc b n B h31 := ttc_k G31 (N31 b 7 (by omega)) (fun k => N31 _ _ (by omega)) (fun k => N31 _ _ (by omega)) (fun k => N31 _ _ (by omega)) T28
    have C31 := cr_k (n := n) (M2 := h31) (by rw [e31, up_n (by omega)]) (by rw [e31, up_n (by omega)]) C30
    refine pc_sv (c_plain T31 C31) ?_; intro u33 q33
    obtain ⟨f33, C33, w33⟩ := q33
    refine pc_xl ?_; intro h34 e34
    have N34 : ∀ c k, ¬ (c = b ∧ (k = 2 ∨ k = 3 ∨ k = 9)) → h34 c k = h31 c k := fun c k q => by rw [e34, up_n (by omega)]; exact f33 c k (by omega)
    have G34 : IFp b h31 h34 := fun c k q w => N34 c k (by omega)
    have T34 : TTc b n B h34 := ttc_k G34 (N34 b 7 (by omega)) (fun k => N34 _ _ (by omega)) (fun k => N34 _ _ (by omega)) (fun k => N34 _ _ (by omega)) T31
    have C34 := cr_k (n := n) (M2 := h34) (by rw [e34, up_n (by omega)]) (by rw [e34, up_n (by omega)]) C33
    have z10 : h34 b 10 = 0 := by rw [N34 b 10 (by omega), N31 b 10 (by omega), N28 10 (by omega)]; exact k10
    have z12 : h34 b 12 = 0 := by rw [N34 b 12 (by omega), N31 b 12 (by omega), N28 12 (by omega)]; exact k12
    refine pc_sv (c_fs hn (fun _ _ => T34) T34.1 C34 (fun _ _ => z10)) ?_; intro u36 q36
    obtain ⟨f36, C36, w36⟩ := q36
    have T36 := ttc_ff f36 T34
    refine pc_sv (c_upTo T36.1 C36) ?_; intro u38 q38
    obtain ⟨f38, C38, v38⟩ := q38
    have T38 := ttc_fr f38 T36
    have z38 : u38.2 b 12 = 0 := by rw [f38 b 12 (by omega), f36 b 12 (by omega) (by omega)]; exact z12
    have er : rdi_S B n = bd_S (bd_S (bd_S (bd_S (bd_S (.inr p) (by_S B n (pc_S B n))) (by_S B n (pc_S B n))) (fs_S B n)) (mm_S B n)) (fun p => if p < n then .inl p else .inr p) := by unfold rdi_S; rw [zk]
    cases zz : bd_S (bd_S (bd_S (bd_S (.inr p) (by_S B n (pc_S B n))) (by_S B n (pc_S B n))) (fs_S B n)) (by_S B n (up_T 0 12)) with
    | inl e =>
      rw [zz] at C38
      have C38 : u38.2 b 3 = (e : Int) := C38
      have er2 : rdi_S B n = .inl e := by
        rw [er]
        cases y : bd_S (bd_S (bd_S (.inr p) (by_S B n (pc_S B n))) (by_S B n (pc_S B n))) (fs_S B n) with
        | inl x => rw [y] at zz; cases zz; rfl
        | inr x =>
          rw [y, bd_r] at zz
          rw [bd_r]; unfold mm_S; rw [zz]; rfl
      have out : ∀ f k, Pc (qw_X3_read_70 nn f b u38.1 k u38.2) (fun u => u.2 b 3 = (e : Int) ∧ u.1 = u.2 b 3) := fun f k => by
        cases f with
        | zero => exact pc_none
        | succ f =>
          unfold qw_X3_read_70
          refine pc_if (fun _ => ?_) (fun _ => pc_if (fun _ => ?_) (fun y => absurd (by omega) y))
          · exact pc_imp (c_109r (st := .inl e) T38.1 C38) (fun u q => ⟨q.2.1, q.2.2⟩)
          · exact pc_imp (c_109r (st := .inl e) T38.1 C38) (fun u q => ⟨q.2.1, q.2.2⟩)
      refine pc_imp (out _ _) (fun u q => ⟨q.2.symm, fun x hx => ?_, fun x hx => ?_⟩)
      · rw [er2] at hx; cases hx; rw [q.2]; exact q.1
      · rw [er2] at hx; cases hx
    | inr q0 =>
      rw [zz] at C38
      obtain ⟨q, y3, y4⟩ := bd_inr zz
      obtain ⟨p2, y2, y5⟩ := bd_inr y3
      obtain ⟨p1, y1, y6⟩ := bd_inr y2
      have y1 : by_S B n (pc_S B n) p = .inr p1 := y1
      have a1' := by_le y1
      have a2' := by_le y6
      have a4 := by_le y4
      have e1 : p1 = p + 1 := a1'.1
      have e2 : p2 = p + 2 := by omega
      rw [e1] at y1 y6
      rw [e2] at y6 y5
      have hv : u38.1 = B q := v38 q y3 a4.2.1
      have t := up_Tt a4.2.2
      have em : mm_S B n q = bd_S (.inr q0) (ms_S B n (B q).toNat) := by unfold mm_S; rw [y4]
      have er2 : rdi_S B n = bd_S (bd_S (.inr q0) (ms_S B n (B q).toNat)) (fun p => if p < n then .inl p else .inr p) := by
        rw [er, y3, bd_r, em]
      rw [hv]
      refine pc_imp (c_ms hn (p0 := q + 1) (B q).toNat nn (B q) 0 (.inr q0) u38.2 (by omega) (fun x hx => ?_) T38 C38) (fun u w => ⟨w.2.2.1.symm, fun x hx => ?_, fun x hx => ?_⟩)
      · cases hx
        exact ⟨by rw [a4.1]; rfl, z38, fun i hi => by omega⟩
      · rw [er2] at hx
        have w2 := w.2.1
        rw [hx] at w2
        rw [w.2.2.1]; exact w2
      · rw [er2] at hx
        have w2 := w.2.1
        rw [hx] at w2
        obtain ⟨x1, hx1, hx2⟩ := bd_inr hx
        have xn : x1 = n := by
          by_cases y : x1 < n
          · rw [if_pos y] at hx2; cases hx2
          · have b1 : x1 ≤ n := by
              rw [if_neg y] at hx2; cases hx2; exact w2.2.2
            omega
        have fin := w.2.2.2 x1 hx1
        have N := w.1
        have TU : TTc b n B u.2 := ttc_k (fun c k q1 q2 => N c k (by omega) (by omega)) (N b 7 (by omega) (by omega)) (fun k => N _ _ (by omega) (by omega)) (fun k => N _ _ (by omega) (by omega)) (fun k => N _ _ (by omega) (by omega)) T38
        refine ⟨by rw [w.2.2.1]; exact w2.1, TU, p, q, zk, ⟨y1, y6, y5, by rw [em, hx1, xn]⟩, ⟨?_, ?_⟩, ⟨?_, ?_⟩, ?_, ?_⟩
        · rw [N b 8 (by omega) (by omega), f38 b 8 (by omega), f36 b 8 (by omega) (by omega), N34 b 8 (by omega), e31, up_s]
          exact w30 p (p + 1) rfl y1
        · rw [N b 9 (by omega) (by omega), f38 b 9 (by omega), f36 b 9 (by omega) (by omega), e34, up_s]
          exact w33 (p + 1) (p + 2) y1 y6
        · rw [N b 10 (by omega) (by omega), f38 b 10 (by omega)]
          exact (w36 (p + 2) q (by rw [bd_r, y1, bd_r]; exact y6) y5).1
        · have g := (w36 (p + 2) q (by rw [bd_r, y1, bd_r]; exact y6) y5).2
          intro i i1 i2
          rw [N (b + 5) _ (by omega) (by omega), f38 (b + 5) _ (by omega), N (b + 5) _ (by omega) (by omega), f38 (b + 5) _ (by omega)]
          exact g i i1 i2
        · exact fin.1
        · exact fin.2
end

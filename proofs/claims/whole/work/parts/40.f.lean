section
/- THE CLASS READS AN IMAGE: from the first byte to the last -/
section
variable {nn : Nat} {M M1 M2 : ms_M} {b : Nat} {B : Nat → Int} {n : Nat} {st : Nat ⊕ Nat}
/-- where the methods begin: m of them -/
def mq_S (B : Nat → Int) (n p : Nat) : Nat → Option Nat
  | 0 => some p
  | m + 1 => match mq_S B n p m with
    | some q => (match mt_S B n q with
      | .inr x => some x
      | .inl _ => none)
    | none => none
theorem ms_q : ∀ (m p q : Nat), ms_S B n m p = .inr q → mq_S B n p m = some q := by
  have key : ∀ (m p j x q : Nat), mq_S B n p j = some x → ms_S B n m x = .inr q → mq_S B n p (j + m) = some q := by
    intro m
    induction m with
    | zero => intro p j x q h1 h2; unfold ms_S at h2; cases h2; exact h1
    | succ m ih =>
      intro p j x q h1 h2
      unfold ms_S at h2
      obtain ⟨y, hy, h2⟩ := bd_inr h2
      have e : mq_S B n p (j + 1) = some y := by
        show (match mq_S B n p j with
          | some q => (match mt_S B n q with
            | .inr x => some x
            | .inl _ => none)
          | none => none) = some y
        rw [h1]; dsimp only; rw [hy]
      rw [show j + (m + 1) = j + 1 + m by omega]
      exact ih p (j + 1) y q e h2
  intro m p q e
  have := key m p 0 p q rfl e
  rw [Nat.zero_add] at this
  exact this
/-- the rows of the first j methods, the first at p -/
def MSt (b : Nat) (B : Nat → Int) (n p : Nat) (j : Int) (M : ms_M) : Prop := ∀ i : Nat, (i : Int) < j → ∃ x y h f, mq_S B n p i = some x ∧ MPl B n x h f y ∧ MDt b B n (12 * (i : Int)) x h f M
theorem md_k {a : Int} {p h f : Nat} (e : ∀ k : Int, a ≤ k → k ≤ a + 11 → M2 (b + 6) k.toNat = M (b + 6) k.toNat) (D : MDt b B n a p h f M) : MDt b B n a p h f M2 := by
  unfold MDt
  rw [e _ (by omega) (by omega), e _ (by omega) (by omega), e _ (by omega) (by omega), e _ (by omega) (by omega), e _ (by omega) (by omega), e _ (by omega) (by omega), e _ (by omega) (by omega), e _ (by omega) (by omega), e _ (by omega) (by omega), e _ (by omega) (by omega), e _ (by omega) (by omega), e _ (by omega) (by omega)]
  exact D
/-- what is known behind the reading of the whole Image -/
def IMc (b n : Nat) (B : Nat → Int) (M : ms_M) : Prop := TTc b n B M ∧ ∃ p q, kk_S B n = .inr p ∧ (by_S B n (pc_S B n) p = .inr (p + 1) ∧ by_S B n (pc_S B n) (p + 1) = .inr (p + 2) ∧ fs_S B n (p + 2) = .inr q ∧ mm_S B n q = .inr n) ∧ (M b 8 = pt_S B n (B p) 0 ∧ M b 9 = pt_S B n (B (p + 1)) 0) ∧ (M b 10 = B (p + 2) ∧ FLt b B (p + 3) (B (p + 2)) M) ∧ (M b 12 = B q ∧ MSt b B n (q + 1) (B q) M)
theorem c_109r (I : sr_I M b B n) (C : CRs b n st M) : Pc (qj_X3_read_109 nn b M) (fun u => FRz b M u.2 ∧ CRs b n (bd_S st (fun p => if p < n then .inl p else .inr p)) u.2 ∧ u.1 = u.2 b 3) := by
  have e1 := I.2.2.1
  unfold qj_X3_read_109
  cases st with
  | inl e =>
    have C : M b 3 = (e : Int) := C
    refine pc_if (fun _ => pc_ret ⟨frp_r, C, rfl⟩) (fun _ => ?_)
    rw [c_badl (by omega), mx_svs]
    exact pc_ret ⟨frp_r, C, rfl⟩
  | inr p =>
    obtain ⟨c1, c2, c3⟩ : M b 3 = -1 ∧ M b 2 = (p : Int) ∧ p ≤ n := C
    refine pc_if (fun w => pc_ret ⟨frp_r, ?_, rfl⟩) (fun w => ?_)
    · rw [bd_r, if_neg (by omega)]; exact ⟨c1, c2, c3⟩
    · rw [c2]
      refine pc_sv (c_badx (s := .inr p) ⟨c1, c2, c3⟩) ?_; intro u6 q6
      refine pc_ret ⟨q6.1, ?_, rfl⟩
      rw [bd_r, if_pos (by omega)]; exact q6.2
theorem c_ms (hn : 1000000 ≤ nn) {p0 : Nat} : ∀ (m f : Nat) (many j : Int) (st : Nat ⊕ Nat) (M : ms_M), (j + m = many ∧ 0 ≤ j ∧ many ≤ 12) → (∀ p, st = .inr p → mq_S B n p0 j.toNat = some p ∧ M b 12 = j ∧ MSt b B n p0 j M) → TTc b n B M → CRs b n st M → Pc (qw_X3_read_70 nn f b many j M) (fun u => (∀ c k, ¬ (c = b ∧ (k = 2 ∨ k = 3 ∨ k = 12)) → ¬ c = b + 6 → u.2 c k = M c k) ∧ CRs b n (bd_S (bd_S st (ms_S B n m)) (fun p => if p < n then .inl p else .inr p)) u.2 ∧ u.1 = u.2 b 3 ∧ ∀ p, bd_S st (ms_S B n m) = .inr p → u.2 b 12 = many ∧ MSt b B n p0 many u.2) := by
  intro m
  induction m with
  | zero =>
    intro f many j st M hm H T C
    cases f with
    | zero => exact pc_none
    | succ f =>
      have es : bd_S st (ms_S B n 0) = st := by cases st <;> rfl
      unfold qw_X3_read_70
      refine pc_if (fun _ => ?_) (fun z => absurd (by omega) z)
      refine pc_imp (c_109r T.1 C) (fun u q => ⟨fun c k q1 q2 => q.1 c k (by omega), by rw [es]; exact q.2.1, q.2.2, fun p z => ?_⟩)
      rw [es] at z
      obtain ⟨h1, h2, h3⟩ := H p z
      rw [show many = j by omega]
      refine ⟨by rw [q.1 b 12 (by omega)]; exact h2, fun i hi => ?_⟩
      obtain ⟨x, y, hh, ff, y1, y2, y3⟩ := h3 i hi
      exact ⟨x, y, hh, ff, y1, y2, md_k (fun k _ _ => q.1 _ _ (by omega)) y3⟩
  | succ m ih =>
    intro f many j st M hm H T C
    cases f with
    | zero => exact pc_none
    | succ f =>
      unfold qw_X3_read_70
      refine pc_if (fun z => absurd z (by omega)) (fun _ => ?_)
      cases st with
      | inl e =>
        have C2 : M b 3 = (e : Int) := C
        refine pc_if (fun _ => ?_) (fun z => absurd (by omega) z)
        exact pc_imp (c_109r (st := .inl e) T.1 C) (fun u q => ⟨fun c k q1 q2 => q.1 c k (by omega), q.2.1, q.2.2, fun p z => nomatch z⟩)
      | inr p =>
        refine pc_if (fun z => absurd C.1 z) (fun _ => ?_)
        obtain ⟨h1, h2, h3⟩ := H p rfl
        refine pc_xl ?_; intro v10 e10
        rw [oq_mul_eq (by omega) (by omega) (by omega)] at e10
        refine pc_sv (c_method hn (a := v10) (by omega) T C) ?_; intro u12 q12
        obtain ⟨F12, C12, D12⟩ := q12
        refine pc_xl ?_; intro v14 e14
        refine pc_xl ?_; intro h15 e15
        refine pc_add (by omega) ?_; intro v16 e16
        have F15 : ∀ c k, ¬ (c = b ∧ (k = 2 ∨ k = 3 ∨ k = 12)) → ¬ c = b + 6 → h15 c k = M c k := fun c k q1 q2 => by
          rw [e15, up_n (by omega)]; exact F12 c k (by omega) (by omega)
        have I15 : IFp b M h15 := fun c k q w => F15 c k (by omega) (by omega)
        have T15 : TTc b n B h15 := ttc_k I15 (F15 b 7 (by omega) (by omega)) (fun k => F15 _ _ (by omega) (by omega)) (fun k => F15 _ _ (by omega) (by omega)) (fun k => F15 _ _ (by omega) (by omega)) T
        have C15 := cr_k (n := n) (M2 := h15) (by rw [e15, up_n (by omega)]) (by rw [e15, up_n (by omega)]) C12
        have em : bd_S (.inr p) (ms_S B n (m + 1)) = bd_S (mt_S B n p) (ms_S B n m) := rfl
        rw [em]
        refine pc_imp (ih f many v16 (mt_S B n p) h15 (by omega) (fun x hx => ?_) T15 C15) (fun u q => ⟨fun c k q1 q2 => (q.1 c k q1 q2).trans (F15 c k q1 q2), q.2⟩)
        have ej : v16.toNat = j.toNat + 1 := by omega
        have en : mq_S B n p0 (j.toNat + 1) = some x := by
          show (match mq_S B n p0 j.toNat with
            | some q => (match mt_S B n q with
              | .inr x => some x
              | .inl _ => none)
            | none => none) = some x
          rw [h1]; dsimp only; rw [hx]
        refine ⟨by rw [ej]; exact en, ?_, fun i hi => ?_⟩
        · have : u12 b 12 = j := by rw [F12 b 12 (by omega) (by omega)]; exact h2
          rw [e15, up_s, e14, this, oq_add_eq (by omega) (by omega) (by omega)]; omega
        · have R : ∀ k, h15 (b + 6) k = u12 (b + 6) k := fun k => by rw [e15, up_n (by omega)]
          by_cases qi : (i : Int) = j
          · obtain ⟨hh, ff, P⟩ := mt_pl hx
            refine ⟨p, x, hh, ff, by rw [show i = j.toNat by omega]; exact h1, P, ?_⟩
            have D := D12 hh ff x P
            rw [show v10 = 12 * (i : Int) by omega] at D
            exact md_k (fun k _ _ => R _) D
          · obtain ⟨x2, y2, hh, ff, y1, y3, y4⟩ := h3 i (by omega)
            refine ⟨x2, y2, hh, ff, y1, y3, md_k (fun k k1 k2 => ?_) y4⟩
            rw [R, F12 _ _ (by omega) (by omega)]
/-- THE CLASS'S READING -/
theorem c_read (hn : 1000000 ≤ nn) {a1 : Nat} {a2 : Int} (hb : kc_O b = 3) (V : VS_ M) (ta : a1 < cn_M M ∧ ly_T a1 = 1) (hs : a2 = (n : Int) ∧ n ≤ 6000 ∧ (n : Int) ≤ ln_I M a1) (hB : ∀ i : Nat, i < n → M a1 i % 256 = B i) : Pc (qf_X3_read nn b a1 a2 M) (fun u => u.2 b 3 = u.1 ∧ (∀ e, rdi_S B n = .inl e → u.1 = (e : Int)) ∧ ∀ q, rdi_S B n = .inr q → u.1 = -1 ∧ IMc b n B u.2) := by
  have ib := im_at hb
  unfold qf_X3_read
  refine pc_wR ?_; intro h19 e19
  refine pc_lS ?_; intro v20 e20
  have na : ¬ a1 = b := fun z => by have t := ta.2; rw [z, T_img hb] at t; omega
  have el : ln_I h19 a1 = ln_I M a1 := by
    unfold ln_I
    split
    · rfl
    · rw [e19, up_n (by omega)]
  refine pc_xl ?_; intro v21 e21
  rw [e20, el, if_neg (by omega)] at e21
  refine pc_xl ?_; intro h22 e22
  refine pc_xl ?_; intro h23 e23
  refine pc_xl ?_; intro h24 e24
  refine pc_xl ?_; intro h25 e25
  refine pc_xl ?_; intro h26 e26
  have K : ∀ c k, ¬ c = b → h26 c k = M c k := fun c k q => by
    rw [e26, up_n (by omega), e25, up_n (by omega), e24, up_n (by omega), e23, up_n (by omega), e22, up_n (by omega), e19, up_n (by omega)]
  have k0 : h26 b 0 = (a1 : Int) := by
    rw [e26, up_n (by omega), e25, up_n (by omega), e24, up_n (by omega), e23, up_n (by omega), e22, up_n (by omega), e19, up_s]
  have k1 : h26 b 1 = (n : Int) := by
    rw [e26, up_n (by omega), e25, up_n (by omega), e24, up_n (by omega), e23, up_n (by omega), e22, up_s, e21]; exact hs.1
  have k2 : h26 b 2 = 0 := by
    rw [e26, up_n (by omega), e25, up_n (by omega), e24, up_n (by omega), e23, up_s]
  have k3 : h26 b 3 = -1 := by
    rw [e26, up_n (by omega), e25, up_n (by omega), e24, up_s]
  have k10 : h26 b 10 = 0 := by
    rw [e26, up_n (by omega), e25, up_s]
  have k12 : h26 b 12 = 0 := by
    rw [e26, up_s]
  have I26 : sr_I h26 b B n := by
    refine ⟨hb, hs.2.1, k1, by rw [k0]; omega, ?_, ?_, ?_, fun i hi => ?_⟩
    · rw [k0, Int.toNat_natCast]
      have : cn_M h26 = cn_M M := by unfold cn_M; rw [K 900000 0 (by omega)]
      rw [this]; exact ta.1
    · rw [k0, Int.toNat_natCast]; exact ta.2
    · rw [k0, Int.toNat_natCast]
      have : ln_I h26 a1 = ln_I M a1 := by
        unfold ln_I
        split
        · rfl
        · exact K _ _ (by omega)
      rw [this]; exact hs.2.2
    · rw [k0, Int.toNat_natCast, K _ _ na]
      exact ⟨hB i hi, vi_y V ta.1 ta.2 (by omega)⟩
  have C26 : CRs b n (.inr 0) h26 := ⟨k3, k2, by omega⟩
  refine pc_sv (c_consts hn I26 C26) ?_; intro u28 q28
  obtain ⟨⟨F28, N28⟩, C28, T28⟩ := q28
  have I28 := sr_if I26 F28
  -- behind a FORM in the constants
  cases zk : kk_S B n with
  | inl e =>
    have er : rdi_S B n = .inl e := by unfold rdi_S; rw [zk]; rfl
    rw [zk] at C28
    have C28 : u28 b 3 = (e : Int) := C28
    refine pc_sv (c_plain_l I28 C28) ?_; intro u30 q30
    refine pc_xl ?_; intro h31 e31
    have I31 := sr_if I28 (ifp_t (ifp_p q30.1) (show IFp b u30.2 h31 by rw [e31]; exact ifp_u (.inl ⟨rfl, by omega⟩)))
    have C31 : h31 b 3 = (e : Int) := by rw [e31, up_n (by omega)]; exact q30.2
    refine pc_sv (c_plain_l I31 C31) ?_; intro u33 q33
    refine pc_xl ?_; intro h34 e34
    have I34 := sr_if I31 (ifp_t (ifp_p q33.1) (show IFp b u33.2 h34 by rw [e34]; exact ifp_u (.inl ⟨rfl, by omega⟩)))
    have C34 : h34 b 3 = (e : Int) := by rw [e34, up_n (by omega)]; exact q33.2
    refine pc_sv (c_fs hn (st := .inl e) (fun p z => nomatch z) I34 C34 (fun p z => nomatch z)) ?_; intro u36 q36
    have I36 := sr_if I34 (ff_if q36.1)
    refine pc_sv (c_upTo (st := .inl e) I36 q36.2.1) ?_; intro u38 q38
    have I38 := sr_fr I36 q38.1
    have C38 : u38.2 b 3 = (e : Int) := q38.2.1
    have out : ∀ f k, Pc (qw_X3_read_70 nn f b u38.1 k u38.2) (fun u => u.2 b 3 = (e : Int) ∧ u.1 = u.2 b 3) := fun f k => by
      cases f with
      | zero => exact pc_none
      | succ f =>
        unfold qw_X3_read_70
        refine pc_if (fun _ => ?_) (fun _ => pc_if (fun _ => ?_) (fun y => absurd (by omega) y))
        · exact pc_imp (c_109r (st := .inl e) I38 C38) (fun u q => ⟨q.2.1, q.2.2⟩)
        · exact pc_imp (c_109r (st := .inl e) I38 C38) (fun u q => ⟨q.2.1, q.2.2⟩)
    refine pc_imp (out _ _) (fun u q => ⟨q.2.symm, fun x hx => ?_, fun x hx => ?_⟩)
    · rw [er] at hx; cases hx; rw [q.2]; exact q.1
    · rw [er] at hx; cases hx
  | inr p =>
    have T28 := T28 p zk
    rw [zk] at C28
    refine pc_sv (c_plain T28 C28) ?_; intro u30 q30
    obtain ⟨f30, C30, w30⟩ := q30
    refine pc_xl ?_; intro h31 e31
    have N31 : ∀ c k, ¬ (c = b ∧ (k = 2 ∨ k = 3 ∨ k = 8)) → h31 c k = u28 c k := fun c k q => by rw [e31, up_n (by omega)]; exact f30 c k (by omega)
    have G31 : IFp b u28 h31 := fun c k q w => N31 c k (by omega)
    have T31 : TTc b n B h31 := ttc_k G31 (N31 b 7 (by omega)) (fun k => N31 _ _ (by omega)) (fun k => N31 _ _ (by omega)) (fun k => N31 _ _ (by omega)) T28
    have C31 := cr_k (n := n) (M2 := h31) (by rw [e31, up_n (by omega)]) (by rw [e31, up_n (by omega)]) C30
    refine pc_sv (c_plain T31 C31) ?_; intro u33 q33
    obtain ⟨f33, C33, w33⟩ := q33
    refine pc_xl ?_; intro h34 e34
    have N34 : ∀ c k, ¬ (c = b ∧ (k = 2 ∨ k = 3 ∨ k = 9)) → h34 c k = h31 c k := fun c k q => by rw [e34, up_n (by omega)]; exact f33 c k (by omega)
    have G34 : IFp b h31 h34 := fun c k q w => N34 c k (by omega)
    have T34 : TTc b n B h34 := ttc_k G34 (N34 b 7 (by omega)) (fun k => N34 _ _ (by omega)) (fun k => N34 _ _ (by omega)) (fun k => N34 _ _ (by omega)) T31
    have C34 := cr_k (n := n) (M2 := h34) (by rw [e34, up_n (by omega)]) (by rw [e34, up_n (by omega)]) C33
    have z10 : h34 b 10 = 0 := by rw [N34 b 10 (by omega), N31 b 10 (by omega), N28 10 (by omega)]; exact k10
    have z12 : h34 b 12 = 0 := by rw [N34 b 12 (by omega), N31 b 12 (by omega), N28 12 (by omega)]; exact k12
    refine pc_sv (c_fs hn (fun _ _ => T34) T34.1 C34 (fun _ _ => z10)) ?_; intro u36 q36
    obtain ⟨f36, C36, w36⟩ := q36
    have T36 := ttc_ff f36 T34
    refine pc_sv (c_upTo T36.1 C36) ?_; intro u38 q38
    obtain ⟨f38, C38, v38⟩ := q38
    have T38 := ttc_fr f38 T36
    have z38 : u38.2 b 12 = 0 := by rw [f38 b 12 (by omega), f36 b 12 (by omega) (by omega)]; exact z12
    have er : rdi_S B n = bd_S (bd_S (bd_S (bd_S (bd_S (.inr p) (by_S B n (pc_S B n))) (by_S B n (pc_S B n))) (fs_S B n)) (mm_S B n)) (fun p => if p < n then .inl p else .inr p) := by unfold rdi_S; rw [zk]
    cases zz : bd_S (bd_S (bd_S (bd_S (.inr p) (by_S B n (pc_S B n))) (by_S B n (pc_S B n))) (fs_S B n)) (by_S B n (up_T 0 12)) with
    | inl e =>
      rw [zz] at C38
      have C38 : u38.2 b 3 = (e : Int) := C38
      have er2 : rdi_S B n = .inl e := by
        rw [er]
        cases y : bd_S (bd_S (bd_S (.inr p) (by_S B n (pc_S B n))) (by_S B n (pc_S B n))) (fs_S B n) with
        | inl x => rw [y] at zz; cases zz; rfl
        | inr x =>
          rw [y, bd_r] at zz
          rw [bd_r]; unfold mm_S; rw [zz]; rfl
      have out : ∀ f k, Pc (qw_X3_read_70 nn f b u38.1 k u38.2) (fun u => u.2 b 3 = (e : Int) ∧ u.1 = u.2 b 3) := fun f k => by
        cases f with
        | zero => exact pc_none
        | succ f =>
          unfold qw_X3_read_70
          refine pc_if (fun _ => ?_) (fun _ => pc_if (fun _ => ?_) (fun y => absurd (by omega) y))
          · exact pc_imp (c_109r (st := .inl e) T38.1 C38) (fun u q => ⟨q.2.1, q.2.2⟩)
          · exact pc_imp (c_109r (st := .inl e) T38.1 C38) (fun u q => ⟨q.2.1, q.2.2⟩)
      refine pc_imp (out _ _) (fun u q => ⟨q.2.symm, fun x hx => ?_, fun x hx => ?_⟩)
      · rw [er2] at hx; cases hx; rw [q.2]; exact q.1
      · rw [er2] at hx; cases hx
    | inr q0 =>
      rw [zz] at C38
      obtain ⟨q, y3, y4⟩ := bd_inr zz
      obtain ⟨p2, y2, y5⟩ := bd_inr y3
      obtain ⟨p1, y1, y6⟩ := bd_inr y2
      have y1 : by_S B n (pc_S B n) p = .inr p1 := y1
      have a1' := by_le y1
      have a2' := by_le y6
      have a4 := by_le y4
      have e1 : p1 = p + 1 := a1'.1
      have e2 : p2 = p + 2 := by omega
      rw [e1] at y1 y6
      rw [e2] at y6 y5
      have hv : u38.1 = B q := v38 q y3 a4.2.1
      have t := up_Tt a4.2.2
      have em : mm_S B n q = bd_S (.inr q0) (ms_S B n (B q).toNat) := by unfold mm_S; rw [y4]
      have er2 : rdi_S B n = bd_S (bd_S (.inr q0) (ms_S B n (B q).toNat)) (fun p => if p < n then .inl p else .inr p) := by
        rw [er, y3, bd_r, em]
      rw [hv]
      refine pc_imp (c_ms hn (p0 := q + 1) (B q).toNat nn (B q) 0 (.inr q0) u38.2 (by omega) (fun x hx => ?_) T38 C38) (fun u w => ⟨w.2.2.1.symm, fun x hx => ?_, fun x hx => ?_⟩)
      · cases hx
        exact ⟨by rw [a4.1]; rfl, z38, fun i hi => by omega⟩
      · rw [er2] at hx
        have w2 := w.2.1
        rw [hx] at w2
        rw [w.2.2.1]; exact w2
      · rw [er2] at hx
        have w2 := w.2.1
        rw [hx] at w2
        obtain ⟨x1, hx1, hx2⟩ := bd_inr hx
        have xn : x1 = n := by
          by_cases y : x1 < n
          · rw [if_pos y] at hx2; cases hx2
          · have b1 : x1 ≤ n := by
              rw [if_neg y] at hx2; cases hx2; exact w2.2.2
            omega
        have fin := w.2.2.2 x1 hx1
        have N := w.1
        have TU : TTc b n B u.2 := ttc_k (fun c k q1 q2 => N c k (by omega) (by omega)) (N b 7 (by omega) (by omega)) (fun k => N _ _ (by omega) (by omega)) (fun k => N _ _ (by omega) (by omega)) (fun k => N _ _ (by omega) (by omega)) T38
        refine ⟨by rw [w.2.2.1]; exact w2.1, TU, p, q, zk, ⟨y1, y6, y5, by rw [em, hx1, xn]⟩, ⟨?_, ?_⟩, ⟨?_, ?_⟩, ?_, ?_⟩
        · rw [N b 8 (by omega) (by omega), f38 b 8 (by omega), f36 b 8 (by omega) (by omega), N34 b 8 (by omega), e31, up_s]
          exact w30 p (p + 1) rfl y1
        · rw [N b 9 (by omega) (by omega), f38 b 9 (by omega), f36 b 9 (by omega) (by omega), e34, up_s]
          exact w33 (p + 1) (p + 2) y1 y6
        · rw [N b 10 (by omega) (by omega), f38 b 10 (by omega)]
          exact (w36 (p + 2) q (by rw [bd_r, y1, bd_r]; exact y6) y5).1
        · have g := (w36 (p + 2) q (by rw [bd_r, y1, bd_r]; exact y6) y5).2
          intro i i1 i2
          rw [N (b + 5) _ (by omega) (by omega), f38 (b + 5) _ (by omega), N (b + 5) _ (by omega) (by omega), f38 (b + 5) _ (by omega)]
          exact g i i1 i2
        · exact fin.1
        · exact fin.2
end
end
section
/- THE REFERENCE SCANS AN IMAGE: steps -/
section
variable {nn : Nat} {M M1 M2 g : ms_M} {c : Int} {B : Nat → Int} {n : Nat} {st s : Nat ⊕ Nat} {α : Type} {Q : α → Prop}
/-- what the constants are, once they are read -/
def KVs (B : Nat → Int) (n : Nat) (k : Int) : Prop := pl_S B n k < n ∧ (B (pl_S B n k) = 1 → pl_S B n k + 2 + tl_S B n k ≤ n ∧ 1 ≤ tl_S B n k ∧ tl_S B n k ≤ 120 ∧ B (pl_S B n k + 1) = (tl_S B n k : Int)) ∧ (B (pl_S B n k) = 3 → pl_S B n k + 2 ≤ n) ∧ (B (pl_S B n k) = 4 ∨ B (pl_S B n k) = 2 → pl_S B n k + 4 ≤ n ∧ (B (pl_S B n k) = 2 → pl_S B n k + 5 ≤ n))
theorem ct_v {p q : Nat} (hB : ∀ i, i < n → 0 ≤ B i ∧ B i ≤ 255) (e : ct_S B n p = .inr q) : p < n ∧ (B p = 1 → p + 2 + (B (p + 1)).toNat ≤ n ∧ 1 ≤ (B (p + 1)).toNat ∧ (B (p + 1)).toNat ≤ 120 ∧ B (p + 1) = ((B (p + 1)).toNat : Int)) ∧ (B p = 3 → p + 2 ≤ n) ∧ (B p = 4 ∨ B p = 2 → p + 4 ≤ n ∧ (B p = 2 → p + 5 ≤ n)) ∧ q ≤ n := by
  unfold ct_S at e
  by_cases w : p < n
  · rw [if_pos w] at e
    unfold ct_N at e
    by_cases b1 : B p = 1
    · rw [if_pos b1] at e
      by_cases w1 : p + 1 < n
      · rw [if_pos w1] at e
        dsimp only at e
        have hp := hB (p + 1) w1
        by_cases x : B (p + 1) < 1 ∨ 120 < B (p + 1)
        · rw [if_pos x] at e; cases e
        · rw [if_neg x] at e
          cases z : tb_N B n (p + 2) (B (p + 1)).toNat with
          | some f => rw [z] at e; cases e
          | none =>
            rw [z] at e
            have := tb_le _ _ (by omega) z
            cases e
            refine ⟨w, fun _ => ⟨this, by omega, by omega, by omega⟩, fun y => by omega, fun y => by omega, by omega⟩
      · rw [if_neg w1] at e; cases e
    · rw [if_neg b1] at e
      by_cases b2 : B p = 2
      · rw [if_pos b2] at e
        dsimp only at e
        by_cases x : p + 4 < n
        · rw [if_pos x] at e; cases e
          exact ⟨w, fun y => absurd y b1, fun y => by omega, fun y => by omega, by omega⟩
        · rw [if_neg x] at e; cases e
      · rw [if_neg b2] at e
        by_cases b3 : B p = 3
        · rw [if_pos b3] at e
          dsimp only at e
          by_cases x : p + 1 < n
          · rw [if_pos x] at e; cases e
            exact ⟨w, fun y => absurd y b1, fun y => by omega, fun y => by omega, by omega⟩
          · rw [if_neg x] at e; cases e
        · rw [if_neg b3] at e
          by_cases b4 : B p = 4
          · rw [if_pos b4] at e
            dsimp only at e
            by_cases x : p + 3 < n
            · rw [if_pos x] at e; cases e
              exact ⟨w, fun y => absurd y b1, fun y => by omega, fun y => by omega, by omega⟩
            · rw [if_neg x] at e; cases e
          · rw [if_neg b4] at e; cases e
  · rw [if_neg w] at e; cases e
/-- the reference's side: what is read, into which class -/
def ERs (c : Int) (n : Nat) (B : Nat → Int) (M : ms_M) : Prop := M 160 115 = c ∧ (0 ≤ c ∧ c ≤ 7) ∧ M 160 113 = (n : Int) ∧ n ≤ 6000 ∧ (∀ i, M 238 i = B i) ∧ 238 < cn_M M ∧ ∀ i, i < n → 0 ≤ B i ∧ B i ≤ 255
/-- its FORM -/
def RSs (s : Nat ⊕ Nat) (M : ms_M) : Prop := match s with
  | .inl e => M 160 114 = (e : Int)
  | .inr _ => M 160 114 = -1
/-- only FORM has changed -/
def FQp (M M2 : ms_M) : Prop := ∀ c k, ¬ (c = 160 ∧ k = 114) → M2 c k = M c k
theorem fq_r : FQp M M := fun _ _ _ => rfl
theorem fq_t (A : FQp M M1) (C : FQp M1 M2) : FQp M M2 := fun c k q => (C c k q).trans (A c k q)
theorem fq_u {v : Int} : FQp M (up_M M 160 114 v) := fun c k q => up_n (by omega)
theorem er_k (e5 : M2 160 115 = M 160 115) (e3 : M2 160 113 = M 160 113) (e8 : ∀ i, M2 238 i = M 238 i) (e0 : M2 900000 0 = M 900000 0) (E : ERs c n B M) : ERs c n B M2 := by
  obtain ⟨x1, x2, x3, x4, x5, x6, x7⟩ := E
  exact ⟨e5.trans x1, x2, e3.trans x3, x4, fun i => (e8 i).trans (x5 i), by unfold cn_M at *; rw [e0]; exact x6, x7⟩
theorem er_fq (F : FQp M M2) (E : ERs c n B M) : ERs c n B M2 := er_k (F _ _ (by omega)) (F _ _ (by omega)) (fun i => F _ _ (by omega)) (F _ _ (by omega)) E
theorem er_sr (E : ERs c n B M) : sr_M M B n := ⟨E.2.2.2.1, E.2.2.1, fun i _ => E.2.2.2.2.1 i⟩
theorem er_238 (E : ERs c n B M) : M 238 = B := funext E.2.2.2.2.1
theorem r_isB (E : ERs c n B M) {x : Nat} : (¬ M 160 114 = -1 ∧ qf_X13_isByte nn (x : Int) M = some (0, M)) ∨ (M 160 114 = -1 ∧ x < n ∧ qf_X13_isByte nn (x : Int) M = some (1, M)) ∨ (M 160 114 = -1 ∧ ¬ x < n ∧ qf_X13_isByte nn (x : Int) M = some (0, up_M M 160 114 (n : Int))) := by
  have e := isByte_ok (nn := nn) (er_sr E) (p := (x : Int)) (by omega)
  by_cases a : M 160 114 = -1
  · by_cases w : x < n
    · rw [if_pos ⟨a, by omega⟩] at e; exact .inr (.inl ⟨a, w, e⟩)
    · rw [if_neg (by omega), if_pos a] at e; exact .inr (.inr ⟨a, w, e⟩)
  · rw [if_neg (fun z => a z.1), if_neg a] at e; exact .inl ⟨a, e⟩
theorem rs_l {e : Nat} (R : RSs (.inl e) M) : ¬ M 160 114 = -1 := by
  have R : M 160 114 = (e : Int) := R
  omega
/-- a byte at p, tested -/
theorem r_by {p : Nat} {t : Int → Bool} {K : ms_M → Option α} {G : Int → ms_M → Option α} (E : ERs c n B M) (R : RSs s M) (hs : ∀ q, s = .inr q → q = p) (hK : ∀ g, FQp M g → RSs (bd_S s (by_S B n t)) g → (∀ q, s = .inr q → ¬ p < n) → Pc (K g) Q) (hT : s = .inr p → p < n → Pc (G (B p) M) Q) : Pc (mx_sv (qf_X13_isByte nn (p : Int) M) fun u => if u.1 = 0 then K u.2 else (rd_A 6000 238 (p : Int) u.2 fun v => G v u.2)) Q := by
  rcases r_isB (nn := nn) E (x := p) with ⟨a, e⟩ | ⟨a, w, e⟩ | ⟨a, w, e⟩
  · rw [e, mx_svs]
    refine pc_if (fun _ => hK M fq_r ?_ ?_) (fun z => absurd rfl z)
    · cases s with
      | inl x => exact R
      | inr q => exact absurd R a
    · intro q z; rw [z] at R; exact absurd R a
  · rw [e, mx_svs]
    refine pc_if (fun z => absurd (show (1 : Int) = 0 from z) (by decide)) (fun _ => ?_)
    refine pc_rA ?_; intro i1 i2 v ev
    rw [ev]
    have sp : s = .inr p := by
      cases s with
      | inl x => exact absurd a (rs_l R)
      | inr q => rw [hs q rfl]
    show Pc (G (M 238 ((p : Nat) : Int).toNat) M) Q
    rw [Int.toNat_natCast, E.2.2.2.2.1]
    exact hT sp w
  · rw [e, mx_svs]
    refine pc_if (fun _ => hK _ fq_u ?_ (fun _ _ => w)) (fun z => absurd rfl z)
    cases s with
    | inl x => exact absurd a (rs_l R)
    | inr q =>
      have eq := hs q rfl
      rw [bd_r]; unfold by_S; rw [eq, if_neg w]
      show up_M M 160 114 (n : Int) 160 114 = (n : Int)
      exact up_s
/-- the same, the other way about -/
theorem r_by2 {p : Nat} {t : Int → Bool} {K : ms_M → Option α} {G : Int × ms_M → Option α} (E : ERs c n B M) (R : RSs s M) (hs : ∀ q, s = .inr q → q = p) (hK : ∀ g, FQp M g → RSs (bd_S s (by_S B n t)) g → (∀ q, s = .inr q → ¬ p < n) → Pc (K g) Q) (hT : s = .inr p → p < n → Pc (G (1, M)) Q) : Pc (mx_sv (qf_X13_isByte nn (p : Int) M) fun u => if ¬ u.1 = 0 then G u else K u.2) Q := by
  rcases r_isB (nn := nn) E (x := p) with ⟨a, e⟩ | ⟨a, w, e⟩ | ⟨a, w, e⟩
  · rw [e, mx_svs]
    refine pc_if (fun z => absurd rfl z) (fun _ => hK M fq_r ?_ ?_)
    · cases s with
      | inl x => exact R
      | inr q => exact absurd R a
    · intro q z; rw [z] at R; exact absurd R a
  · rw [e, mx_svs]
    refine pc_if (fun _ => ?_) (fun z => absurd (show (1 : Int) = 0 from Decidable.not_not.1 z) (by decide))
    have sp : s = .inr p := by
      cases s with
      | inl x => exact absurd a (rs_l R)
      | inr q => rw [hs q rfl]
    exact hT sp w
  · rw [e, mx_svs]
    refine pc_if (fun z => absurd rfl z) (fun _ => hK _ fq_u ?_ (fun _ _ => w))
    cases s with
    | inl x => exact absurd a (rs_l R)
    | inr q =>
      have eq := hs q rfl
      rw [bd_r]; unfold by_S; rw [eq, if_neg w]
      show up_M M 160 114 (n : Int) 160 114 = (n : Int)
      exact up_s
theorem rs_ok {p : Nat} {t : Int → Bool} (R : RSs (.inr p) M) (w : p < n) (h : t (B p) = true) : RSs (bd_S (.inr p) (by_S B n t)) M := by
  rw [bd_r]; unfold by_S; rw [if_pos w, if_pos h]; exact R
/-- the test has failed: FORM -/
theorem r_unfit {p : Nat} {t : Int → Bool} {K : ms_M → Option α} (R : RSs (.inr p) M) (w : p < n) (h : ¬ t (B p) = true) (hK : ∀ g, FQp M g → RSs (bd_S (.inr p) (by_S B n t)) g → Pc (K g) Q) : Pc (mx_sv (qf_X13_unfit nn (p : Int) M) fun u => K u) Q := by
  have R : M 160 114 = -1 := R
  rw [unfit_ok, if_pos R, mx_svs]
  refine hK _ fq_u ?_
  rw [bd_r]; unfold by_S; rw [if_pos w, if_neg h]
  exact up_s
/-- FORM at x, if there is none -/
theorem r_unx {x : Nat} {K : ms_M → Option α} (R : RSs s M) (hK : ∀ g, FQp M g → RSs (bd_S s (fun _ => .inl x)) g → Pc (K g) Q) : Pc (mx_sv (qf_X13_unfit nn (x : Int) M) fun u => K u) Q := by
  rw [unfit_ok, mx_svs]
  cases s with
  | inl e => rw [if_neg (rs_l R)]; exact hK M fq_r R
  | inr q =>
    have R : M 160 114 = -1 := R
    rw [if_pos R]; exact hK _ fq_u up_s
/-- the tables of constants are there -/
def TTr (c : Int) (n : Nat) (B : Nat → Int) (M : ms_M) : Prop := ERs c n B M ∧ M 229 c.toNat = B 2 ∧ (0 ≤ B 2 ∧ B 2 ≤ 255) ∧ (∀ k : Int, 1 ≤ k → k ≤ B 2 → M 228 (256 * c + k).toNat = (pl_S B n k : Int)) ∧ ∀ k : Int, 1 ≤ k → k ≤ B 2 → KVs B n k
theorem ttr_k (F : FQp M M2) (T : TTr c n B M) : TTr c n B M2 := by
  obtain ⟨t1, t2, t3, t4, t5⟩ := T
  exact ⟨er_fq F t1, by rw [F _ _ (by omega)]; exact t2, t3, fun k a b => by rw [F _ _ (by omega)]; exact t4 k a b, t5⟩
theorem r_of (T : TTr c n B M) {k : Int} : qf_X13_constantOf nn c k M = some (if 1 ≤ k ∧ k ≤ B 2 then (pl_S B n k : Int) else -1) := by
  obtain ⟨⟨x1, x2, x3⟩, t2, t3, t4, t5⟩ := T
  by_cases q : 1 ≤ k ∧ k ≤ B 2
  · rw [if_pos q]
    have := constantOf_in (nn := nn) (M := M) (k := k) (p := pl_S B n k) ⟨by omega, by rw [x1, t2]; omega, by rw [x1]; exact t4 k q.1 q.2⟩
    rw [x1] at this; exact this
  · rw [if_neg q]
    have := constantOf_out (nn := nn) (M := M) (k := k) (by omega) (by rw [x1, t2]; exact q)
    rw [x1] at this; exact this
theorem r_tx (T : TTr c n B M) {k : Int} (q : tg_S B n k = 1) : tx_M M k (pl_S B n k + 2) (pl_S B n k + 2 + tl_S B n k) := by
  obtain ⟨⟨x1, x2, x3, x4, x5, x6, x7⟩, t2, t3, t4, t5⟩ := T
  obtain ⟨w1, w2, w3⟩ := tg_in (B := B) (n := n) (k := k) (by omega)
  obtain ⟨v1, v2, -⟩ := t5 k w1 w2
  have v2 := v2 (by omega)
  refine ⟨pl_S B n k, ⟨by omega, by rw [x1, t2]; omega, by rw [x1]; exact t4 k w1 w2⟩, rfl, by omega, by omega, by rw [x5]; omega, ?_⟩
  rw [x5, v2.2.2.2]; omega
theorem r_notx (T : TTr c n B M) {k a : Int} (q : ¬ tg_S B n k = 1) : qf_X13_isText nn k a M = some 0 := by
  have e := r_of (nn := nn) T (k := k)
  obtain ⟨⟨x1, x2, x3, x4, x5, x6, x7⟩, t2, t3, t4, t5⟩ := T
  unfold qf_X13_isText
  rw [x1, e, mx_svs]
  unfold tg_S at q
  by_cases w : 1 ≤ k ∧ k ≤ B 2
  · rw [if_pos w] at q ⊢
    have v := (t5 k w.1 w.2).1
    rw [if_neg (by omega)]
    unfold rd_A
    rw [if_pos (by omega), Int.toNat_natCast, x5]
    dsimp only
    rw [if_neg q]
  · rw [if_neg w, if_pos (by omega)]
theorem r_isText0 (hn : 1000000 ≤ nn) (T : TTr c n B M) {k : Int} : qf_X13_isText nn k 0 M = some (bi_N (nm_S B n k)) := by
  unfold nm_S
  by_cases q : tg_S B n k = 1
  · rw [isText_in (by omega) T.1.2.2.2.2.2.1 (r_tx T q) (by omega), if_pos rfl, er_238 T.1, decide_eq_true q, Bool.true_and]
    congr 3; omega
  · rw [r_notx T q, decide_eq_false q, Bool.false_and]; rfl
theorem r_isText1 (hn : 1000000 ≤ nn) (T : TTr c n B M) {k : Int} : qf_X13_isText nn k 1 M = some (bi_N (fk_S B n k)) := by
  unfold fk_S
  by_cases q : tg_S B n k = 1
  · rw [isText_in (by omega) T.1.2.2.2.2.2.1 (r_tx T q) (by omega), if_neg (by decide), if_pos rfl, er_238 T.1, decide_eq_true q, Bool.true_and]
  · rw [r_notx T q, decide_eq_false q, Bool.false_and]; rfl
theorem r_isText2 (hn : 1000000 ≤ nn) (T : TTr c n B M) {k : Int} : qf_X13_isText nn k 2 M = some (bi_N (pi_S B n k).isSome) := by
  unfold pi_S
  by_cases q : tg_S B n k = 1
  · rw [isText_in (by omega) T.1.2.2.2.2.2.1 (r_tx T q) (by omega), if_neg (by decide), if_neg (by decide), if_pos rfl, er_238 T.1, if_pos q]
  · rw [r_notx T q, if_neg q]; rfl
theorem r_isText3 (hn : 1000000 ≤ nn) (T : TTr c n B M) {k : Int} : qf_X13_isText nn k 3 M = some (bi_N (fk_S B n k || (pi_S B n k).isSome)) := by
  unfold fk_S pi_S
  by_cases q : tg_S B n k = 1
  · rw [isText_in (by omega) T.1.2.2.2.2.2.1 (r_tx T q) (by omega), if_neg (by decide), if_neg (by decide), if_neg (by decide), if_pos rfl, er_238 T.1, if_pos q, decide_eq_true q, Bool.true_and]
  · rw [r_notx T q, if_neg q, decide_eq_false q, Bool.false_and]; rfl
theorem nm_91 {f : Nat → Int} {m : Nat} (h : nm_N f m = true) : ¬ f 0 = 91 := by
  intro z
  unfold nm_N at h
  rw [Bool.and_eq_true, Bool.and_eq_true, decide_eq_true_iff] at h
  obtain ⟨⟨h1, -⟩, h2⟩ := h
  obtain ⟨j, rfl⟩ : ∃ j, m = j + 1 := ⟨m - 1, by omega⟩
  unfold al_N np_N lt_N at h2
  rw [z] at h2
  exact absurd (Bool.and_eq_true_iff.mp h2).1 (by decide)
theorem r_isText4 (hn : 1000000 ≤ nn) (T : TTr c n B M) {k : Int} : qf_X13_isText nn k 4 M = some (bi_N (nm_S B n k || (ar_S B n k && fk_S B n k))) := by
  by_cases q : tg_S B n k = 1
  · rw [isText_in (by omega) T.1.2.2.2.2.2.1 (r_tx T q) (by omega), if_neg (by decide), if_neg (by decide), if_neg (by decide), if_neg (by decide), er_238 T.1]
    have el : pl_S B n k + 2 + tl_S B n k - (pl_S B n k + 2) = tl_S B n k := by omega
    rw [el]
    unfold nm_S ar_S fk_S
    rw [decide_eq_true q, Bool.true_and, Bool.true_and, Bool.true_and]
    by_cases w : B (pl_S B n k + 2) = 91
    · rw [if_pos w, decide_eq_true w, Bool.true_and]
      have : nm_N (fun i => B (pl_S B n k + 2 + i)) (tl_S B n k) = false := by
        cases z : nm_N (fun i => B (pl_S B n k + 2 + i)) (tl_S B n k) with
        | false => rfl
        | true => exact absurd w (nm_91 z)
      rw [this, Bool.false_or]
    · rw [if_neg w, decide_eq_false w, Bool.false_and, Bool.or_false]
  · unfold nm_S ar_S
    rw [r_notx T q, decide_eq_false q, Bool.false_and, Bool.false_and, Bool.false_and]; rfl
theorem r_class1 (T : TTr c n B M) {k : Int} : Pc (qf_X13_isClassConstant nn k 1 M) (fun u => u = bi_N (cl_S B n k)) := by
  have e := r_of (nn := nn) T (k := k)
  obtain ⟨⟨x1, x2, x3, x4, x5, x6, x7⟩, t2, t3, t4, t5⟩ := T
  unfold qf_X13_isClassConstant cl_S
  rw [x1, e, mx_svs]
  unfold tg_S
  by_cases w : 1 ≤ k ∧ k ≤ B 2
  · rw [if_pos w, if_pos w]
    refine pc_if (fun z => absurd z (by omega)) (fun _ => ?_)
    refine pc_rA ?_; intro i1 i2 v5 e5
    rw [Int.toNat_natCast, x5] at e5
    refine pc_if (fun z => ?_) (fun z => pc_ret ?_)
    · refine pc_xl ?_; intro v8 e8
      refine pc_rA ?_; intro j1 j2 v9 e9
      refine pc_se ?_; intro u11 e11
      refine pc_if (fun _ => pc_ret ?_) (fun y => absurd (by decide) y)
      rw [decide_eq_true (by omega)]; rfl
    · rw [decide_eq_false (by omega)]; rfl
  · rw [if_neg w, if_neg w]
    refine pc_if (fun _ => pc_ret rfl) (fun z => absurd (by decide) z)
theorem r_class0 (T : TTr c n B M) {k : Int} (hc : tg_S B n k = 3 → tg_S B n (pt_S B n k 0) = 1) : Pc (qf_X13_isClassConstant nn k 0 M) (fun u => u = bi_N (pc_S B n k)) := by
  have e := fun k => r_of (nn := nn) T (k := k)
  obtain ⟨⟨x1, x2, x3, x4, x5, x6, x7⟩, t2, t3, t4, t5⟩ := T
  unfold qf_X13_isClassConstant pc_S cl_S
  rw [x1, e k, mx_svs]
  by_cases w : 1 ≤ k ∧ k ≤ B 2
  · have tk : tg_S B n k = B (pl_S B n k) := by unfold tg_S; rw [if_pos w]
    rw [if_pos w]
    refine pc_if (fun z => absurd z (by omega)) (fun _ => ?_)
    refine pc_rA ?_; intro i1 i2 v5 e5
    rw [Int.toNat_natCast, x5] at e5
    have lt := (t5 k w.1 w.2).1
    refine pc_if (fun z => ?_) (fun z => pc_ret ?_)
    · have t3 : tg_S B n k = 3 := by omega
      have h1 := hc t3
      refine pc_add (by omega) ?_; intro v8 e8
      refine pc_rA ?_; intro j1 j2 v9 e9
      have v9p : v9 = pt_S B n k 0 := by
        rw [e9, x5]; unfold pt_S; congr 1; omega
      rw [v9p, e, mx_svs]
      obtain ⟨w1, w2, w3⟩ := tg_in (B := B) (n := n) (k := pt_S B n k 0) (by omega)
      refine pc_if (fun y => absurd y (by decide)) (fun _ => ?_)
      rw [if_pos (show 1 ≤ pt_S B n k 0 ∧ pt_S B n k 0 ≤ B 2 from ⟨w1, w2⟩)]
      refine pc_if (fun y => absurd y (by omega)) (fun _ => ?_)
      refine pc_rA ?_; intro k1 k2 v13 e13
      rw [Int.toNat_natCast, x5] at e13
      refine pc_if (fun y => absurd (by omega) y) (fun _ => ?_)
      have l2 := (t5 _ w1 w2).1
      refine pc_add (by omega) ?_; intro v15 e15
      refine pc_rA ?_; intro l1 l2 v16 e16
      have e16 : v16 = B (pl_S B n (pt_S B n k 0) + 2) := by
        rw [e16, x5]; congr 1; omega
      unfold ar_S
      rw [decide_eq_true t3, decide_eq_true h1, Bool.true_and, Bool.true_and]
      refine pc_if (fun y => pc_ret ?_) (fun y => pc_ret ?_)
      · rw [decide_eq_true (by omega)]; rfl
      · rw [decide_eq_false (by omega)]; rfl
    · rw [decide_eq_false (by omega), Bool.false_and]; rfl
  · have tk : tg_S B n k = 0 := by unfold tg_S; rw [if_neg w]
    rw [if_neg w]
    refine pc_if (fun _ => pc_ret ?_) (fun z => absurd (by decide) z)
    rw [decide_eq_false (by omega), Bool.false_and]; rfl
end
end
section
/- THE REFERENCE SCANS AN IMAGE: methods -/
section
variable {nn : Nat} {M M1 M2 g : ms_M} {c : Int} {B : Nat → Int} {n : Nat} {s : Nat ⊕ Nat}
theorem r_isBl {x : Int} (h : ¬ M 160 114 = -1) : qf_X13_isByte nn x M = some (0, M) := by
  unfold qf_X13_isByte; rw [if_neg h]
theorem r_unl {x : Int} (h : ¬ M 160 114 = -1) : qf_X13_unfit nn x M = some M := by
  unfold qf_X13_unfit; rw [if_pos h]
theorem r_24l (h : ¬ M 160 114 = -1) {l2 l3 l4 : Int} {f : Nat} : Pc (qw_X13_scanTypes_24 nn f l2 l3 l4 M) (fun u => u.2 = M) := by
  cases f with
  | zero => exact pc_none
  | succ f =>
    unfold qw_X13_scanTypes_24
    refine pc_if (fun _ => pc_ret rfl) (fun _ => ?_)
    rw [r_isBl h, mx_svs]
    exact pc_if (fun z => absurd rfl z) (fun _ => pc_ret rfl)
theorem r_55l (h : ¬ M 160 114 = -1) {l2 l3 l4 : Int} {f : Nat} : Pc (qj_X13_scanTypes_55 nn (qw_X13_scanTypes_24 nn f) l2 l3 l4 M) (fun u => u.2 = M) := by
  unfold qj_X13_scanTypes_55
  refine pc_rA ?_; intro i1 i2 v2 e2
  refine pc_if (fun _ => pc_xl (fun _ _ => pc_xl (fun _ _ => r_24l h))) (fun _ => pc_xl (fun v5 _ => ?_))
  rw [r_isBl h, mx_svs]
  exact pc_if (fun _ => pc_xl (fun _ _ => pc_xl (fun _ _ => r_24l h))) (fun z => absurd rfl z)
theorem r_tsl (h : ¬ M 160 114 = -1) {x : Int} : Pc (qf_X13_scanTypes nn x M) (fun u => u.2 = M) := by
  unfold qf_X13_scanTypes
  rw [r_isBl h, mx_svs]
  exact pc_if (fun z => absurd rfl z) (fun _ => pc_ret rfl)
theorem r_497l (h : ¬ M 160 114 = -1) {l4 l9 l10 : Int} {f : Nat} : Pc (qw_X13_scanMethod_497 nn f l4 l9 l10 M) (fun u => u.2 = M) := by
  cases f with
  | zero => exact pc_none
  | succ f =>
    unfold qw_X13_scanMethod_497
    exact pc_if (fun _ => pc_ret rfl) (fun _ => pc_if (fun _ => pc_ret rfl) (fun z => absurd h z))
theorem r_444l (h : ¬ M 160 114 = -1) {l1 l2 l4 : Int} : Pc (qj_X13_scanMethod_444 nn l1 l2 l4 M) (fun u => u.2 = M) := by
  unfold qj_X13_scanMethod_444
  rw [r_isBl h, mx_svs]
  exact pc_if (fun z => absurd rfl z) (fun _ => pc_ret rfl)
theorem r_381l (h : ¬ M 160 114 = -1) {l1 l2 l4 l8 l9 : Int} {f : Nat} : Pc (qw_X13_scanMethod_381 nn f l1 l2 l4 l8 l9 M) (fun u => u.2 = M) := by
  cases f with
  | zero => exact pc_none
  | succ f =>
    unfold qw_X13_scanMethod_381
    exact pc_if (fun _ => r_444l h) (fun _ => pc_if (fun _ => r_444l h) (fun z => absurd h z))
theorem r_328l (h : ¬ M 160 114 = -1) {l1 l2 l4 : Int} : Pc (qj_X13_scanMethod_328 nn l1 l2 l4 M) (fun u => u.2 = M) := by
  unfold qj_X13_scanMethod_328
  rw [r_isBl h, mx_svs]
  exact pc_if (fun z => absurd rfl z) (fun _ => pc_ret rfl)
theorem r_293l (h : ¬ M 160 114 = -1) {l1 l2 l4 l7 : Int} : Pc (qj_X13_scanMethod_293 nn l1 l2 l4 l7 M) (fun u => u.2 = M) := by
  unfold qj_X13_scanMethod_293
  exact pc_xl (fun _ _ => pc_xl (fun _ _ => pc_if (fun _ => r_328l h) (fun z => absurd h z)))
theorem r_232l (h : ¬ M 160 114 = -1) {l1 l2 l4 : Int} : Pc (qj_X13_scanMethod_232 nn l1 l2 l4 M) (fun u => u.2 = M) := by
  unfold qj_X13_scanMethod_232
  refine pc_xl (fun _ _ => ?_)
  rw [r_isBl h, mx_svs]
  exact pc_if (fun z => absurd rfl z) (fun _ => pc_ret rfl)
theorem r_134l (h : ¬ M 160 114 = -1) {l1 l2 l4 : Int} : Pc (qj_X13_scanMethod_134 nn l1 l2 l4 M) (fun u => u.2 = M) := by
  unfold qj_X13_scanMethod_134
  refine pc_xl (fun _ _ => ?_)
  rw [r_isBl h, mx_svs]
  exact pc_if (fun z => absurd rfl z) (fun _ => pc_ret rfl)
end
end
section
/- types -/
section
variable {nn : Nat} {M M1 M2 g : ms_M} {c : Int} {B : Nat → Int} {n : Nat} {s : Nat ⊕ Nat}
/-- types, from i on -/
theorem r_24 : ∀ (m f : Nat) (l2 i : Int) (p : Nat) (M : ms_M), (i + m = l2 ∧ 0 ≤ i ∧ l2 ≤ 255) → p ≤ 6000 → TTr c n B M → RSs (.inr p) M → Pc (qw_X13_scanTypes_24 nn f l2 (p : Int) i M) (fun u => FQp M u.2 ∧ RSs (ty_S B n m p) u.2 ∧ ∀ q, ty_S B n m p = .inr q → u.1 = (q : Int)) := by
  intro m
  induction m with
  | zero =>
    intro f l2 i p M hm hp T R
    cases f with
    | zero => exact pc_none
    | succ f =>
      unfold qw_X13_scanTypes_24
      refine pc_if (fun _ => pc_ret ⟨fq_r, R, fun q z => ?_⟩) (fun z => absurd (by omega) z)
      unfold ty_S at z; cases z; rfl
  | succ m ih =>
    intro f l2 i p M hm hp T R
    have n6 := T.1.2.2.2.1
    cases f with
    | zero => exact pc_none
    | succ f =>
      have et : ty_S B n (m + 1) p = bd_S (bd_S (by_S B n (up_T 0 3) p) (fun q => if B p = 3 then by_S B n (cl_S B n) q else .inr q)) (ty_S B n m) := rfl
      unfold qw_X13_scanTypes_24
      refine pc_if (fun z => absurd z (by omega)) (fun _ => ?_)
      refine r_by2 (K := fun g => some ((p : Int), g)) (t := up_T 0 3) T.1 R (fun q z => by cases z; rfl) (fun g Fg Rg W => ?_) (fun _ w => ?_)
      · refine pc_ret ⟨Fg, ?_, fun q z => ?_⟩
        · have : by_S B n (up_T 0 3) p = .inl n := by unfold by_S; rw [if_neg (W p rfl)]
          rw [et, this]
          rw [bd_r, this] at Rg
          exact Rg
        · have : by_S B n (up_T 0 3) p = .inl n := by unfold by_S; rw [if_neg (W p rfl)]
          rw [et, this] at z; cases z
      · have hB := T.1.2.2.2.2.2.2 p w
        show Pc (rd_A 6000 238 (p : Int) M _) _
        dsimp only
        refine pc_rA ?_; intro i1 i2 v26 e26
        rw [Int.toNat_natCast, T.1.2.2.2.2.1] at e26
        refine pc_if (fun c3 => ?_) (fun c3 => ?_)
        · have e1 : by_S B n (up_T 0 3) p = .inr (p + 1) := by
            unfold by_S up_T
            rw [if_pos w, if_pos (by rw [Bool.and_eq_true, decide_eq_true_iff, decide_eq_true_iff]; omega)]
          rw [et, e1, bd_r]
          unfold qj_X13_scanTypes_55
          refine pc_rA ?_; intro j1 j2 v2 e2
          rw [Int.toNat_natCast, T.1.2.2.2.2.1] at e2
          refine pc_if (fun d => ?_) (fun d => ?_)
          · refine pc_add (by omega) ?_; intro v3 e3
            refine pc_add (by omega) ?_; intro v4 e4
            rw [if_neg (by omega), bd_r, show v3 = ((p + 1 : Nat) : Int) by omega]
            exact ih f l2 v4 (p + 1) M (by omega) (by omega) T R
          · refine pc_add (by omega) ?_; intro v5 e5
            rw [if_pos (by omega), show v5 = ((p + 1 : Nat) : Int) by omega]
            refine r_by (p := p + 1) (K := fun g => xl (oq_add ((p + 1 : Nat) : Int) 1) fun v8 => xl (oq_add i 1) fun v9 => qw_X13_scanTypes_24 nn f l2 v8 v9 g) (G := fun v11 g => mx_sv (qf_X13_isClassConstant nn v11 1 g) fun u13 => if ¬ u13 = 0 then (xl (oq_add ((p + 1 : Nat) : Int) 1) fun v14 => xl (oq_add i 1) fun v15 => qw_X13_scanTypes_24 nn f l2 v14 v15 g) else (mx_sv (qf_X13_unfit nn ((p + 1 : Nat) : Int) g) fun u17 => xl (oq_add ((p + 1 : Nat) : Int) 1) fun v18 => xl (oq_add i 1) fun v19 => qw_X13_scanTypes_24 nn f l2 v18 v19 u17)) (t := cl_S B n) (s := .inr (p + 1)) T.1 R (fun q z => by cases z; rfl) (fun g Fg Rg W => ?_) (fun _ w1 => ?_)
            · have e2 : by_S B n (cl_S B n) (p + 1) = .inl n := by unfold by_S; rw [if_neg (W _ rfl)]
              rw [bd_r, e2] at Rg
              rw [e2]
              refine pc_xl (fun _ _ => pc_xl (fun _ _ => pc_imp (r_24l (rs_l Rg)) (fun u q => ⟨by rw [q]; exact Fg, by rw [q]; exact Rg, fun x z => by cases z⟩)))
            · refine pc_sv (r_class1 T) ?_; intro u13 q13
              refine pc_if (fun y => ?_) (fun y => ?_)
              · have e2 : by_S B n (cl_S B n) (p + 1) = .inr (p + 1 + 1) := by unfold by_S; rw [if_pos w1, if_pos (bi_t (by rw [← q13]; exact y))]
                rw [e2, bd_r]
                refine pc_add (by omega) ?_; intro v14 e14
                refine pc_add (by omega) ?_; intro v15 e15
                rw [show v14 = ((p + 1 + 1 : Nat) : Int) by omega]
                exact ih f l2 v15 (p + 1 + 1) M (by omega) (by omega) T R
              · refine r_unfit (t := cl_S B n) (p := p + 1) (B := B) (n := n) R w1 (bi_f (by rw [← q13]; exact Decidable.not_not.1 y)) (fun g Fg Rg => ?_)
                have e2 : by_S B n (cl_S B n) (p + 1) = .inl (p + 1) := by unfold by_S; rw [if_pos w1, if_neg (bi_f (by rw [← q13]; exact Decidable.not_not.1 y))]
                rw [bd_r, e2] at Rg
                rw [e2]
                refine pc_xl (fun _ _ => pc_xl (fun _ _ => pc_imp (r_24l (rs_l Rg)) (fun u q => ⟨by rw [q]; exact Fg, by rw [q]; exact Rg, fun x z => by cases z⟩)))
        · have h3 : ¬ up_T 0 3 (B p) = true := fun z => by have := up_Tt z; omega
          refine r_unfit (t := up_T 0 3) (B := B) (n := n) R w h3 (fun g Fg Rg => ?_)
          have e1 : by_S B n (up_T 0 3) p = .inl p := by unfold by_S; rw [if_pos w, if_neg h3]
          rw [bd_r, e1] at Rg
          rw [et, e1]
          exact pc_imp (r_55l (rs_l Rg)) (fun u q => ⟨by rw [q]; exact Fg, by rw [q]; exact Rg, fun x z => by cases z⟩)
end
end
section
/- lists of types, frames -/
section
variable {nn : Nat} {M M1 M2 g : ms_M} {c : Int} {B : Nat → Int} {n : Nat} {s : Nat ⊕ Nat}
theorem r_ts {p : Nat} (hp : p ≤ 6000) (T : TTr c n B M) (R : RSs (.inr p) M) : Pc (qf_X13_scanTypes nn (p : Int) M) (fun u => FQp M u.2 ∧ RSs (ts_S B n p) u.2 ∧ ∀ q, ts_S B n p = .inr q → u.1 = (q : Int)) := by
  unfold qf_X13_scanTypes
  refine r_by2 (K := fun g => some ((p : Int), g)) (t := fun _ => true) T.1 R (fun q z => by cases z; rfl) (fun g Fg Rg W => ?_) (fun _ w => ?_)
  · refine pc_ret ⟨Fg, ?_, fun q z => ?_⟩
    · have e1 : nx_S n p = .inl n := by unfold nx_S; rw [if_neg (W p rfl)]
      unfold ts_S; rw [e1]
      rw [bd_r, ← nx_by, e1] at Rg; exact Rg
    · have e1 : nx_S n p = .inl n := by unfold nx_S; rw [if_neg (W p rfl)]
      unfold ts_S at z; rw [e1] at z; cases z
  · have hB := T.1.2.2.2.2.2.2 p w
    show Pc (rd_A 6000 238 (p : Int) M _) _
    dsimp only
    refine pc_rA ?_; intro i1 i2 v35 e35
    rw [Int.toNat_natCast, T.1.2.2.2.2.1] at e35
    refine pc_add (by omega) ?_; intro v36 e36
    have e1 : nx_S n p = .inr (p + 1) := by unfold nx_S; rw [if_pos w]
    have n6 := T.1.2.2.2.1
    have ef : ts_S B n p = ty_S B n (B p).toNat (p + 1) := by unfold ts_S; rw [e1]; rfl
    rw [ef, show v36 = ((p + 1 : Nat) : Int) by omega, e35]
    exact r_24 (B p).toNat nn (B p) 0 (p + 1) M (by omega) (by omega) T R
/-- frames, from i on -/
theorem r_497 : ∀ (m f : Nat) (l9 i : Int) (p : Nat) (M : ms_M), (i + m = l9 ∧ 0 ≤ i ∧ l9 ≤ 255) → p ≤ n → TTr c n B M → RSs (.inr p) M → Pc (qw_X13_scanMethod_497 nn f (p : Int) l9 i M) (fun u => FQp M u.2 ∧ RSs (fr_S B n m p) u.2 ∧ ∀ q, fr_S B n m p = .inr q → u.1 = (q : Int)) := by
  intro m
  induction m with
  | zero =>
    intro f l2 i p M hm hp T R
    cases f with
    | zero => exact pc_none
    | succ f =>
      unfold qw_X13_scanMethod_497
      refine pc_if (fun _ => pc_ret ⟨fq_r, R, fun q z => ?_⟩) (fun z => absurd (by omega) z)
      unfold fr_S at z; cases z; rfl
  | succ m ih =>
    intro f l2 i p M hm hp T R
    have n6 := T.1.2.2.2.1
    cases f with
    | zero => exact pc_none
    | succ f =>
      have et : fr_S B n (m + 1) p = bd_S (bd_S (bd_S (sk_S n 2 p) (ts_S B n)) (ts_S B n)) (fr_S B n m) := rfl
      unfold qw_X13_scanMethod_497
      refine pc_if (fun z => absurd z (by omega)) (fun _ => pc_if (fun z => absurd R z) (fun _ => ?_))
      refine pc_add (by omega) ?_; intro v2 e2
      rw [show v2 = ((p + 1 : Nat) : Int) by omega]
      refine r_by2 (K := fun g => some ((p : Int), g)) (t := fun _ => true) (s := .inr (p + 1)) T.1 R (fun q z => by cases z; rfl) (fun g Fg Rg W => ?_) (fun _ w => ?_)
      · refine pc_ret ⟨Fg, ?_, fun q z => ?_⟩
        · have e1 : sk_S n 2 p = .inl n := by unfold sk_S; rw [if_neg (by have := W _ rfl; omega)]
          rw [et, e1]
          rw [bd_r, ← nx_by] at Rg
          unfold nx_S at Rg
          rw [if_neg (W _ rfl)] at Rg
          exact Rg
        · have e1 : sk_S n 2 p = .inl n := by unfold sk_S; rw [if_neg (by have := W _ rfl; omega)]
          rw [et, e1] at z; cases z
      · have e1 : sk_S n 2 p = .inr (p + 2) := by unfold sk_S; rw [if_pos (by omega)]
        refine pc_add (by omega) ?_; intro v5 e5
        rw [show v5 = ((p + 2 : Nat) : Int) by omega, et, e1, bd_r]
        show Pc (mx_sv (qf_X13_scanTypes nn ((p + 2 : Nat) : Int) M) _) _
        refine pc_sv (r_ts (by omega) T R) ?_; intro u7 q7
        obtain ⟨F7, R7, P7⟩ := q7
        have T7 := ttr_k F7 T
        cases z1 : ts_S B n (p + 2) with
        | inl e =>
          rw [z1] at R7
          refine pc_sv (r_tsl (rs_l R7)) ?_; intro u9 q9
          rw [q9]
          refine pc_xl (fun v10 _ => ?_)
          exact pc_imp (r_497l (rs_l R7)) (fun u q => ⟨by rw [q]; exact F7, by rw [q]; exact R7, fun x z => by cases z⟩)
        | inr x =>
          rw [z1] at R7
          rw [P7 x z1, bd_r]
          have xl : x ≤ n := ts_le z1
          refine pc_sv (r_ts (by omega) T7 R7) ?_; intro u9 q9
          obtain ⟨F9, R9, P9⟩ := q9
          refine pc_add (by omega) ?_; intro v10 e10
          cases z2 : ts_S B n x with
          | inl e =>
            rw [z2] at R9
            exact pc_imp (r_497l (rs_l R9)) (fun u q => ⟨by rw [q]; exact fq_t F7 F9, by rw [q]; exact R9, fun x z => by cases z⟩)
          | inr y =>
            rw [z2] at R9
            rw [P9 y z2, bd_r]
            exact pc_imp (ih f l2 v10 y u9.2 (by omega) (ts_le z2) (ttr_k F9 T7) R9) (fun u q => ⟨fq_t (fq_t F7 F9) q.1, q.2⟩)
end
end
section
/- THE REFERENCE SCANS AN IMAGE: a method -/
section
variable {nn : Nat} {M M1 M2 g : ms_M} {c : Int} {B : Nat → Int} {n : Nat} {s : Nat ⊕ Nat}
/-- FORM, and the places of handlers and frames of one method -/
def FWp (i : Nat) (M M2 : ms_M) : Prop := ∀ a j, ¬ (a = 160 ∧ j = 114) → ¬ ((a = 236 ∨ a = 237) ∧ j = i) → M2 a j = M a j
theorem fw_q {i : Nat} (A : FQp M M1) : FWp i M M1 := fun a j q _ => A a j q
theorem fw_t {i : Nat} (A : FWp i M M1) (C : FWp i M1 M2) : FWp i M M2 := fun a j q w => (C a j q w).trans (A a j q w)
theorem fw_r {i : Nat} : FWp i M M := fun _ _ _ _ => rfl
theorem ttr_z (F : ∀ a j, ¬ (a = 160 ∧ j = 114) → ¬ (230 ≤ a ∧ a ≤ 237) → M2 a j = M a j) (T : TTr c n B M) : TTr c n B M2 := by
  obtain ⟨t1, t2, t3, t4, t5⟩ := T
  exact ⟨er_k (F _ _ (by omega) (by omega)) (F _ _ (by omega) (by omega)) (fun i => F _ _ (by omega) (by omega)) (F _ _ (by omega) (by omega)) t1, by rw [F _ _ (by omega) (by omega)]; exact t2, t3, fun k a b => by rw [F _ _ (by omega) (by omega)]; exact t4 k a b, t5⟩
theorem ttr_w {i : Nat} (F : FWp i M M2) (T : TTr c n B M) : TTr c n B M2 := ttr_z (fun a j q w => F a j q (fun z => w (by omega))) T
theorem rs_k (e : M2 160 114 = M 160 114) (R : RSs s M) : RSs s M2 := by
  cases s with
  | inl x => exact e.trans R
  | inr x => exact e.trans R
theorem r_444 {l2 : Int} {p : Nat} (h2 : 0 ≤ l2 ∧ l2 ≤ 11) (T : TTr c n B M) (hp : p ≤ 6000) (R : RSs (.inr p) M) : Pc (qj_X13_scanMethod_444 nn c l2 (p : Int) M) (fun u => FWp (12 * c + l2).toNat M u.2 ∧ RSs (ff_S B n p) u.2 ∧ (∀ k, u.2 236 k = M 236 k) ∧ ∀ q, ff_S B n p = .inr q → u.1 = (q : Int) ∧ u.2 237 (12 * c + l2).toNat = (p : Int)) := by
  have n6 := T.1.2.2.2.1
  have hc := T.1.2.1
  unfold qj_X13_scanMethod_444
  refine r_by2 (K := fun g => some ((p : Int), g)) (t := up_T 0 100) T.1 R (fun q z => by cases z; rfl) (fun g Fg Rg W => ?_) (fun _ w => ?_)
  · refine pc_ret ⟨fw_q Fg, ?_, fun k => Fg _ _ (by omega), fun q z => ?_⟩
    · have e1 : by_S B n (up_T 0 100) p = .inl n := by unfold by_S; rw [if_neg (W p rfl)]
      unfold ff_S; rw [e1]
      rw [bd_r, e1] at Rg; exact Rg
    · have e1 : by_S B n (up_T 0 100) p = .inl n := by unfold by_S; rw [if_neg (W p rfl)]
      unfold ff_S at z; rw [e1] at z; cases z
  · have hB := T.1.2.2.2.2.2.2 p w
    show Pc (xl (oq_mul 12 c) _) _
    dsimp only
    refine pc_xl ?_; intro v17 e17
    rw [oq_mul_eq (by omega) (by omega) (by omega)] at e17
    refine pc_add (by omega) ?_; intro v18 e18
    show Pc (wr_A 96 237 v18 (p : Int) M _) _
    refine pc_wA ?_; intro i1 i2 h19 e19
    have F19 : FWp (12 * c + l2).toNat M h19 := fun a j q z => by rw [e19, up_n (by omega)]
    have T19 := ttr_w F19 T
    have R19 : RSs (.inr p) h19 := rs_k (by rw [e19, up_n (by omega)]) R
    refine pc_rA ?_; intro j1 j2 v21 e21
    rw [Int.toNat_natCast, T19.1.2.2.2.2.1] at e21
    refine pc_if (fun d => ?_) (fun d => ?_)
    · have e1 : by_S B n (up_T 0 100) p = .inr (p + 1) := by
        unfold by_S up_T
        rw [if_pos w, if_pos (by rw [Bool.and_eq_true, decide_eq_true_iff, decide_eq_true_iff]; omega)]
      have ef : ff_S B n p = fr_S B n (B p).toNat (p + 1) := by unfold ff_S; rw [e1]; rfl
      refine pc_add (by omega) ?_; intro v22 e22
      rw [ef, show v22 = ((p + 1 : Nat) : Int) by omega, e21]
      refine pc_imp (r_497 (B p).toNat nn (B p) 0 (p + 1) h19 (by omega) (by omega) T19 R19) (fun u q => ⟨fw_t F19 (fw_q q.1), q.2.1, fun k => ?_, fun x z => ⟨q.2.2 x z, ?_⟩⟩)
      · rw [q.1 _ _ (by omega), e19, up_n (by omega)]
      · rw [q.1 _ _ (by omega), e19, show v18.toNat = (12 * c + l2).toNat by omega, up_s]
    · have h3 : ¬ up_T 0 100 (B p) = true := fun z => by have := up_Tt z; omega
      have e1 : by_S B n (up_T 0 100) p = .inl p := by unfold by_S; rw [if_pos w, if_neg h3]
      have ef : ff_S B n p = .inl p := by unfold ff_S; rw [e1]; rfl
      rw [ef]
      refine r_unfit (t := up_T 0 100) (B := B) (n := n) R19 w h3 (fun g Fg Rg => ?_)
      rw [bd_r, e1] at Rg
      refine pc_xl (fun _ _ => pc_imp (r_497l (rs_l Rg)) (fun u q => ⟨by rw [q]; exact fw_t F19 (fw_q Fg), by rw [q]; exact Rg, fun k => by rw [q, Fg _ _ (by omega), e19, up_n (by omega)], fun x z => by cases z⟩))
/-- handlers, from i on, then frames -/
theorem r_381 {l2 : Int} (h2 : 0 ≤ l2 ∧ l2 ≤ 11) : ∀ (m f : Nat) (l8 i : Int) (p : Nat) (M : ms_M), (i + m = l8 ∧ 0 ≤ i ∧ l8 ≤ 255) → p ≤ n → TTr c n B M → RSs (.inr p) M → Pc (qw_X13_scanMethod_381 nn f c l2 (p : Int) l8 i M) (fun u => FWp (12 * c + l2).toNat M u.2 ∧ RSs (bd_S (hd_S B n m p) (ff_S B n)) u.2 ∧ (∀ k, u.2 236 k = M 236 k) ∧ ∀ x q, hd_S B n m p = .inr x → ff_S B n x = .inr q → u.1 = (q : Int) ∧ u.2 237 (12 * c + l2).toNat = (x : Int)) := by
  intro m
  induction m with
  | zero =>
    intro f l8 i p M hm hp T R
    have n6 := T.1.2.2.2.1
    cases f with
    | zero => exact pc_none
    | succ f =>
      unfold qw_X13_scanMethod_381
      refine pc_if (fun _ => ?_) (fun z => absurd (by omega) z)
      exact pc_imp (r_444 h2 T (by omega) R) (fun u q => ⟨q.1, q.2.1, q.2.2.1, fun x y z1 z2 => by unfold hd_S at z1; cases z1; exact q.2.2.2 y z2⟩)
  | succ m ih =>
    intro f l8 i p M hm hp T R
    have n6 := T.1.2.2.2.1
    cases f with
    | zero => exact pc_none
    | succ f =>
      have et : hd_S B n (m + 1) p = bd_S (bd_S (sk_S n 6 p) (by_S B n (cl_S B n))) (hd_S B n m) := rfl
      have out : ∀ {e : Nat} {g : ms_M} {l4 l8 l9 : Int} {f : Nat}, FQp M g → RSs (.inl e) g → bd_S (sk_S n 6 p) (by_S B n (cl_S B n)) = .inl e → Pc (qw_X13_scanMethod_381 nn f c l2 l4 l8 l9 g) (fun u => FWp (12 * c + l2).toNat M u.2 ∧ RSs (bd_S (hd_S B n (m + 1) p) (ff_S B n)) u.2 ∧ (∀ k, u.2 236 k = M 236 k) ∧ ∀ x q, hd_S B n (m + 1) p = .inr x → ff_S B n x = .inr q → u.1 = (q : Int) ∧ u.2 237 (12 * c + l2).toNat = (x : Int)) := by
        intro e g l4 l8 l9 f Fg Rg hz
        rw [et, hz]
        exact pc_imp (r_381l (rs_l Rg)) (fun u q => ⟨by rw [q]; exact fw_q Fg, by rw [q]; exact Rg, fun k => by rw [q]; exact Fg _ _ (by omega), fun x y z1 z2 => by cases z1⟩)
      unfold qw_X13_scanMethod_381
      refine pc_if (fun z => absurd z (by omega)) (fun _ => pc_if (fun z => absurd R z) (fun _ => ?_))
      refine pc_add (by omega) ?_; intro v29 e29
      rw [show v29 = ((p + 6 : Nat) : Int) by omega]
      rcases r_isB (nn := nn) T.1 (x := p + 6) with ⟨a, e⟩ | ⟨a, w, e⟩ | ⟨a, w, e⟩
      · exact absurd R a
      · have hB := T.1.2.2.2.2.2.2 (p + 6) w
        have e6 : sk_S n 6 p = .inr (p + 6) := by unfold sk_S; rw [if_pos (by omega)]
        rw [e, mx_svs]
        dsimp only
        refine pc_if (fun z => absurd z (by decide)) (fun _ => ?_)
        refine pc_add (by omega) ?_; intro v35 e35
        refine pc_rA ?_; intro i1 i2 v36 e36
        have e36 : v36 = B (p + 6) := by
          rw [e36, show v35.toNat = p + 6 by omega]; exact T.1.2.2.2.2.1 _
        refine pc_sv (r_class1 T) ?_; intro u38 q38
        rw [e36] at q38
        refine pc_if (fun y => ?_) (fun y => ?_)
        · refine pc_add (by omega) ?_; intro v39 e39
          refine pc_add (by omega) ?_; intro v40 e40
          have e7 : by_S B n (cl_S B n) (p + 6) = .inr (p + 6 + 1) := by unfold by_S; rw [if_pos w, if_pos (bi_t (by rw [← q38]; exact y))]
          rw [et, e6, bd_r, e7, bd_r, show v39 = ((p + 6 + 1 : Nat) : Int) by omega]
          exact ih f l8 v40 (p + 6 + 1) M (by omega) (by omega) T R
        · refine pc_add (by omega) ?_; intro v41 e41
          rw [show v41 = ((p + 6 : Nat) : Int) by omega]
          have no := bi_f (x := cl_S B n (B (p + 6))) (by rw [← q38]; exact Decidable.not_not.1 y)
          have e7 : by_S B n (cl_S B n) (p + 6) = .inl (p + 6) := by unfold by_S; rw [if_pos w, if_neg no]
          refine r_unfit (t := cl_S B n) (p := p + 6) (B := B) (n := n) R w no (fun g Fg Rg => ?_)
          rw [bd_r, e7] at Rg
          exact pc_xl (fun _ _ => pc_xl (fun _ _ => out Fg Rg (by rw [e6, bd_r, e7])))
      · have e6 : bd_S (sk_S n 6 p) (by_S B n (cl_S B n)) = .inl n := by
          unfold sk_S
          by_cases q : p + 6 ≤ n
          · rw [if_pos q, bd_r]; unfold by_S; rw [if_neg w]
          · rw [if_neg q]; rfl
        rw [e, mx_svs]
        dsimp only
        refine pc_if (fun _ => ?_) (fun z => absurd rfl z)
        exact pc_xl (fun _ _ => pc_xl (fun _ _ => out (e := n) fq_u up_s e6))
theorem r_328 {l2 : Int} {p : Nat} (h2 : 0 ≤ l2 ∧ l2 ≤ 11) (T : TTr c n B M) (hp : p ≤ 6000) (R : RSs (.inr p) M) : Pc (qj_X13_scanMethod_328 nn c l2 (p : Int) M) (fun u => FWp (12 * c + l2).toNat M u.2 ∧ RSs (bd_S (hs_S B n p) (ff_S B n)) u.2 ∧ ∀ x q, hs_S B n p = .inr x → ff_S B n x = .inr q → u.1 = (q : Int) ∧ u.2 236 (12 * c + l2).toNat = (p : Int) ∧ u.2 237 (12 * c + l2).toNat = (x : Int)) := by
  have n6 := T.1.2.2.2.1
  have hc := T.1.2.1
  unfold qj_X13_scanMethod_328
  refine r_by2 (K := fun g => some ((p : Int), g)) (t := up_T 0 20) T.1 R (fun q z => by cases z; rfl) (fun g Fg Rg W => ?_) (fun _ w => ?_)
  · refine pc_ret ⟨fw_q Fg, ?_, fun x q z => ?_⟩
    · have e1 : by_S B n (up_T 0 20) p = .inl n := by unfold by_S; rw [if_neg (W p rfl)]
      unfold hs_S; rw [e1]
      rw [bd_r, e1] at Rg; exact Rg
    · have e1 : by_S B n (up_T 0 20) p = .inl n := by unfold by_S; rw [if_neg (W p rfl)]
      unfold hs_S at z; rw [e1] at z; cases z
  · have hB := T.1.2.2.2.2.2.2 p w
    show Pc (xl (oq_mul 12 c) _) _
    dsimp only
    refine pc_xl ?_; intro v17 e17
    rw [oq_mul_eq (by omega) (by omega) (by omega)] at e17
    refine pc_add (by omega) ?_; intro v18 e18
    show Pc (wr_A 96 236 v18 (p : Int) M _) _
    refine pc_wA ?_; intro i1 i2 h19 e19
    have F19 : FWp (12 * c + l2).toNat M h19 := fun a j q z => by rw [e19, up_n (by omega)]
    have T19 := ttr_w F19 T
    have R19 : RSs (.inr p) h19 := rs_k (by rw [e19, up_n (by omega)]) R
    refine pc_rA ?_; intro j1 j2 v21 e21
    rw [Int.toNat_natCast, T19.1.2.2.2.2.1] at e21
    refine pc_if (fun d => ?_) (fun d => ?_)
    · have e1 : by_S B n (up_T 0 20) p = .inr (p + 1) := by
        unfold by_S up_T
        rw [if_pos w, if_pos (by rw [Bool.and_eq_true, decide_eq_true_iff, decide_eq_true_iff]; omega)]
      have ef : hs_S B n p = hd_S B n (B p).toNat (p + 1) := by unfold hs_S; rw [e1]; rfl
      refine pc_add (by omega) ?_; intro v22 e22
      rw [ef, show v22 = ((p + 1 : Nat) : Int) by omega, e21]
      refine pc_imp (r_381 h2 (B p).toNat nn (B p) 0 (p + 1) h19 (by omega) (by omega) T19 R19) (fun u q => ⟨fw_t F19 q.1, q.2.1, fun x y z1 z2 => ?_⟩)
      obtain ⟨r1, r2⟩ := q.2.2.2 x y z1 z2
      refine ⟨r1, ?_, r2⟩
      rw [q.2.2.1, e19, show v18.toNat = (12 * c + l2).toNat by omega, up_s]
    · have h3 : ¬ up_T 0 20 (B p) = true := fun z => by have := up_Tt z; omega
      have e1 : by_S B n (up_T 0 20) p = .inl p := by unfold by_S; rw [if_pos w, if_neg h3]
      have ef : hs_S B n p = .inl p := by unfold hs_S; rw [e1]; rfl
      rw [ef]
      refine r_unfit (t := up_T 0 20) (B := B) (n := n) R19 w h3 (fun g Fg Rg => ?_)
      rw [bd_r, e1] at Rg
      exact pc_xl (fun _ _ => pc_imp (r_381l (rs_l Rg)) (fun u q => ⟨by rw [q]; exact fw_t F19 (fw_q Fg), by rw [q]; exact Rg, fun x y z => by cases z⟩))
/-- what a method's scan leaves, from a place on -/
def RMs (c l2 : Int) (n : Nat) (B : Nat → Int) (sc : Nat ⊕ Nat) (M : ms_M) : Int × ms_M → Prop := fun u => FWp (12 * c + l2).toNat M u.2 ∧ RSs (bd_S (bd_S sc (hs_S B n)) (ff_S B n)) u.2 ∧ ∀ h x q, sc = .inr h → hs_S B n h = .inr x → ff_S B n x = .inr q → u.1 = (q : Int) ∧ u.2 236 (12 * c + l2).toNat = (h : Int) ∧ u.2 237 (12 * c + l2).toNat = (x : Int)
theorem rm_l {l2 : Int} {e : Nat} {g : ms_M} {u : Int × ms_M} (F : FQp M g) (R : RSs (.inl e) g) (q : u.2 = g) : RMs c l2 n B (.inl e) M u := ⟨by rw [q]; exact fw_q F, by rw [q]; exact R, fun h x y z => nomatch z⟩
theorem rm_t {l2 : Int} {sc : Nat ⊕ Nat} {u : Int × ms_M} (F : FQp M M1) (q : RMs c l2 n B sc M1 u) : RMs c l2 n B sc M u := ⟨fw_t (fw_q F) q.1, q.2⟩
theorem r_232 {l2 : Int} {p : Nat} (h2 : 0 ≤ l2 ∧ l2 ≤ 11) (T : TTr c n B M) (hp : p + 5 ≤ n) (R : RSs (.inr p) M) : Pc (qj_X13_scanMethod_232 nn c l2 (p : Int) M) (RMs c l2 n B (co_S B n (p + 5)) M) := by
  have n6 := T.1.2.2.2.1
  unfold qj_X13_scanMethod_232
  refine pc_add (by omega) ?_; intro v75 e75
  rw [show v75 = ((p + 5 : Nat) : Int) by omega]
  refine r_by2 (p := p + 5) (K := fun g => some ((p : Int), g)) (t := fun _ => true) (s := .inr (p + 5)) T.1 R (fun q z => by cases z; rfl) (fun g Fg Rg W => pc_ret ?_) (fun _ w => ?_)
  · have e1 : co_S B n (p + 5) = .inl n := by unfold co_S sk_S; rw [if_neg (by have := W _ rfl; omega)]; rfl
    rw [bd_r, ← nx_by] at Rg
    unfold nx_S at Rg
    rw [if_neg (W _ rfl)] at Rg
    rw [e1]; exact rm_l Fg Rg rfl
  show Pc (xl (oq_add (p : Int) 6) _) _
  dsimp only
  refine pc_add (by omega) ?_; intro v78 e78
  rw [show v78 = ((p + 6 : Nat) : Int) by omega]
  show Pc (mx_sv (qf_X13_isByte nn ((p + 6 : Nat) : Int) M) _) _
  try dsimp only
  refine r_by2 (p := p + 6) (K := fun g => some ((p : Int), g)) (t := fun _ => true) (s := .inr (p + 6)) T.1 R (fun q z => by cases z; rfl) (fun g Fg Rg W => pc_ret ?_) (fun _ w6 => ?_)
  · have e1 : co_S B n (p + 5) = .inl n := by unfold co_S sk_S; rw [if_neg (by have := W _ rfl; omega)]; rfl
    rw [bd_r, ← nx_by] at Rg
    unfold nx_S at Rg
    rw [if_neg (W _ rfl)] at Rg
    rw [e1]; exact rm_l Fg Rg rfl
  show Pc (xl (oq_add (p : Int) 5) _) _
  dsimp only
  have h5 := T.1.2.2.2.2.2.2 (p + 5) w
  have h6 := T.1.2.2.2.2.2.2 (p + 6) w6
  refine pc_add (by omega) ?_; intro v81 e81
  refine pc_sv (P := fun u => u = ln_N B (p + 5)) ?_ ?_
  · unfold qf_X13_pairAt
    refine pc_rA ?_; intro i1 i2 v2 e2
    refine pc_xl ?_; intro v3 e3
    refine pc_add (by omega) ?_; intro v5 e5
    refine pc_rA ?_; intro j1 j2 v6 e6
    refine pc_xl ?_; intro v7 e7
    refine pc_ret ?_
    show v7 = _
    rw [e7, e3, e2, e6]
    unfold ln_N
    rw [show v81.toNat = p + 5 by omega, show v5.toNat = p + 5 + 1 by omega]
    show oq_or (oq_shl (M 238 _) 8) (M 238 _) = _
    rw [T.1.2.2.2.2.1, T.1.2.2.2.2.1]
  intro u83 q83
  have lr : 0 ≤ ln_N B (p + 5) ∧ ln_N B (p + 5) ≤ 65535 := by
    unfold ln_N
    rw [oq_shl_8 h5]
    have e56 : B (p + 5 + 1) = B (p + 6) := rfl
    exact oq_or_rg (by omega) (by omega)
  have e2 : sk_S n 2 (p + 5) = .inr (p + 5 + 2) := by unfold sk_S; rw [if_pos (by omega)]
  have bad : (u83 < 1 ∨ 1500 < u83) → Pc (qj_X13_scanMethod_285 nn c l2 (p : Int) u83 M) (RMs c l2 n B (co_S B n (p + 5)) M) := fun z => by
    have e1 : co_S B n (p + 5) = .inl (p + 5) := by unfold co_S; rw [e2, bd_r, if_pos (by omega)]
    rw [e1]
    unfold qj_X13_scanMethod_285
    refine pc_add (by omega) ?_; intro v72 e72
    rw [show v72 = ((p + 5 : Nat) : Int) by omega]
    exact r_unx (s := .inr (p + 5)) R (fun g Fg Rg => pc_imp (r_293l (rs_l Rg)) (fun u q => rm_l Fg Rg q))
  refine pc_if (fun z => bad (.inl z)) (fun z1 => pc_if (fun z2 => ?_) (fun z2 => bad (.inr (by omega))))
  show Pc (qj_X13_scanMethod_293 nn c l2 (p : Int) u83 M) _
  unfold qj_X13_scanMethod_293
  refine pc_add (by omega) ?_; intro v64 e64
  refine pc_add (by omega) ?_; intro v65 e65
  refine pc_if (fun z => absurd R z) (fun _ => ?_)
  rw [T.1.2.2.1]
  refine pc_if (fun z => ?_) (fun z => ?_)
  · have e1 : co_S B n (p + 5) = .inr (p + 7 + (ln_N B (p + 5)).toNat) := by
      unfold co_S
      rw [e2, bd_r, if_neg (by omega), if_pos (by omega)]
    rw [e1, show v65 = ((p + 7 + (ln_N B (p + 5)).toNat : Nat) : Int) by omega]
    refine pc_imp (r_328 h2 T (by omega) R) (fun u q => ⟨q.1, q.2.1, fun h x y z1 z2 z3 => ?_⟩)
    cases z1
    exact q.2.2 x y z2 z3
  · have e1 : co_S B n (p + 5) = .inl n := by
      unfold co_S
      rw [e2, bd_r, if_neg (by omega), if_neg (by omega)]
    rw [e1]
    refine pc_xl ?_; intro h69 e69
    have R69 : RSs (.inl n) h69 := by rw [e69]; exact up_s
    exact pc_imp (r_328l (rs_l R69)) (fun u q => rm_l (by rw [e69]; exact fq_u) R69 q)
theorem r_134 (hn : 1000000 ≤ nn) {l2 : Int} {p : Nat} (h2 : 0 ≤ l2 ∧ l2 ≤ 11) (T : TTr c n B M) (hp : p + 4 ≤ n) (H : (0 ≤ B p ∧ B p ≤ 1) ∧ (pi_S B n (B (p + 2))).isSome = true) (R : RSs (.inr p) M) : Pc (qj_X13_scanMethod_134 nn c l2 (p : Int) M) (RMs c l2 n B (bd_S (by_S B n (up_T (le_S B n p) 30) (p + 4)) (co_S B n)) M) := by
  have n6 := T.1.2.2.2.1
  unfold qj_X13_scanMethod_134
  refine pc_add (by omega) ?_; intro v91 e91
  rw [show v91 = ((p + 4 : Nat) : Int) by omega]
  refine r_by2 (p := p + 4) (K := fun g => some ((p : Int), g)) (t := fun _ => true) (s := .inr (p + 4)) T.1 R (fun q z => by cases z; rfl) (fun g Fg Rg W => pc_ret ?_) (fun _ w => ?_)
  · have e1 : by_S B n (up_T (le_S B n p) 30) (p + 4) = .inl n := by unfold by_S; rw [if_neg (W _ rfl)]
    rw [bd_r, ← nx_by] at Rg
    unfold nx_S at Rg
    rw [if_neg (W _ rfl)] at Rg
    rw [e1]; exact rm_l Fg Rg rfl
  have hk := T.1.2.2.2.2.2.2 (p + 2) (by omega)
  have h4 := T.1.2.2.2.2.2.2 (p + 4) w
  have tx : tg_S B n (B (p + 2)) = 1 := by
    by_cases z : tg_S B n (B (p + 2)) = 1
    · exact z
    · have := H.2; unfold pi_S at this; rw [if_neg z] at this; cases this
  obtain ⟨k1, k2, k3⟩ := tg_in (B := B) (n := n) (k := B (p + 2)) (by omega)
  obtain ⟨y1, y2, -⟩ := T.2.2.2.2 _ k1 k2
  have y2 := y2 (by omega)
  show Pc (xl (oq_add (p : Int) 2) _) _
  dsimp only
  refine pc_add (by omega) ?_; intro v95 e95
  refine pc_rA ?_; intro i1 i2 v96 e96
  have e96 : v96 = B (p + 2) := by rw [e96, show v95.toNat = p + 2 by omega]; exact T.1.2.2.2.2.1 _
  rw [e96, r_of T, mx_svs, if_pos ⟨k1, k2⟩]
  refine pc_add (by omega) ?_; intro v100 e100
  refine pc_add (by omega) ?_; intro v102 e102
  refine pc_rA ?_; intro j1 j2 v103 e103
  have e103 : v103 = (tl_S B n (B (p + 2)) : Int) := by
    rw [e103, show v102.toNat = pl_S B n (B (p + 2)) + 1 by omega]
    exact (T.1.2.2.2.2.1 _).trans y2.2.2.2
  have pm := params_M (nn := nn) (by omega) (M := M) (c := 238) T.1.2.2.2.2.2.1 rfl (a := pl_S B n (B (p + 2)) + 2) (m := tl_S B n (B (p + 2))) (by rw [l_238]; omega) (by omega)
  rw [er_238 T.1] at pm
  rw [e103, show v100 = ((pl_S B n (B (p + 2)) + 2 : Nat) : Int) by omega]
  show Pc (mx_sv (qf_X13_parametersIn nn 238 _ _ M) _) _
  rw [pm, mx_svs]
  have pe : ∃ m, pi_N B (pl_S B n (B (p + 2)) + 2) (pl_S B n (B (p + 2)) + 2 + tl_S B n (B (p + 2))) = some m ∧ m ≤ 6 ∧ pi_S B n (B (p + 2)) = some m := by
    have h := H.2
    unfold pi_S at h ⊢
    rw [if_pos tx] at h ⊢
    cases z : pi_N B (pl_S B n (B (p + 2)) + 2) (pl_S B n (B (p + 2)) + 2 + tl_S B n (B (p + 2))) with
    | none => rw [z] at h; cases h
    | some m =>
      rw [z] at h
      unfold up_6 at h ⊢
      dsimp only at h ⊢
      by_cases w6 : m ≤ 6
      · exact ⟨m, rfl, w6, if_pos w6⟩
      · rw [if_neg w6] at h; cases h
  obtain ⟨m, m1, m2, m3⟩ := pe
  rw [m1]
  show Pc (xl (oq_add (m : Int) 1) _) _
  refine pc_add (by omega) ?_; intro v105 e105
  refine pc_rA ?_; intro k1 k2 v107 e107
  have e107 : v107 = B p := by rw [e107]; exact T.1.2.2.2.2.1 _
  refine pc_sub (by omega) ?_; intro v108 e108
  have el : v108 = le_S B n p := by
    unfold le_S; rw [m3]; show v108 = (m : Int) + 1 - B p; omega
  refine pc_add (by omega) ?_; intro v110 e110
  refine pc_rA ?_; intro l1 l3 v111 e111
  have e111 : v111 = B (p + 4) := by rw [e111, show v110.toNat = p + 4 by omega]; exact T.1.2.2.2.2.1 _
  have bad : ¬ up_T (le_S B n p) 30 (B (p + 4)) = true → Pc (qj_X13_scanMethod_224 nn c l2 (p : Int) M) (RMs c l2 n B (bd_S (by_S B n (up_T (le_S B n p) 30) (p + 4)) (co_S B n)) M) := fun z => by
    have e1 : by_S B n (up_T (le_S B n p) 30) (p + 4) = .inl (p + 4) := by unfold by_S; rw [if_pos w, if_neg z]
    rw [e1]
    unfold qj_X13_scanMethod_224
    refine pc_add (by omega) ?_; intro v88 e88
    rw [show v88 = ((p + 4 : Nat) : Int) by omega]
    exact r_unx (s := .inr (p + 4)) R (fun g Fg Rg => pc_imp (r_232l (rs_l Rg)) (fun u q => rm_l Fg Rg q))
  refine pc_if (fun z => bad (fun y => by have := up_Tt y; omega)) (fun z => ?_)
  refine pc_add (by omega) ?_; intro v113 e113
  refine pc_rA ?_; intro o1 o2 v114 e114
  have e114 : v114 = B (p + 4) := by rw [e114, show v113.toNat = p + 4 by omega]; exact T.1.2.2.2.2.1 _
  refine pc_if (fun y => ?_) (fun y => bad (fun x => by have := up_Tt x; omega))
  have e1 : by_S B n (up_T (le_S B n p) 30) (p + 4) = .inr (p + 4 + 1) := by
    unfold by_S up_T
    rw [if_pos w, if_pos (by rw [Bool.and_eq_true, decide_eq_true_iff, decide_eq_true_iff]; omega)]
  rw [e1, bd_r]
  exact r_232 h2 T (by omega) R
/-- the head of a method, byte by byte -/
theorem r_101 (hn : 1000000 ≤ nn) {l2 : Int} {p : Nat} (h2 : 0 ≤ l2 ∧ l2 ≤ 11) (T : TTr c n B M) (hp : p + 3 ≤ n) (H : (0 ≤ B p ∧ B p ≤ 1) ∧ (pi_S B n (B (p + 2))).isSome = true) (R : RSs (.inr p) M) : Pc (qj_X13_scanMethod_101 nn c l2 (p : Int) M) (RMs c l2 n B (bd_S (bd_S (by_S B n (up_T 0 30) (p + 3)) (by_S B n (up_T (le_S B n p) 30))) (co_S B n)) M) := by
  have n6 := T.1.2.2.2.1
  unfold qj_X13_scanMethod_101
  refine pc_add (by omega) ?_; intro v118 e118
  rw [show v118 = ((p + 3 : Nat) : Int) by omega]
  rcases r_isB (nn := nn) T.1 (x := p + 3) with ⟨a, e⟩ | ⟨a, w, e⟩ | ⟨a, w, e⟩
  · exact absurd R a
  · have h3 := T.1.2.2.2.2.2.2 (p + 3) w
    rw [e, mx_svs]
    dsimp only
    refine pc_if (fun z => absurd z (by decide)) (fun _ => ?_)
    refine pc_add (by omega) ?_; intro v122 e122
    refine pc_rA ?_; intro i1 i2 v123 e123
    have e123 : v123 = B (p + 3) := by rw [e123, show v122.toNat = p + 3 by omega]; exact T.1.2.2.2.2.1 _
    refine pc_if (fun y => ?_) (fun y => ?_)
    · have e1 : by_S B n (up_T 0 30) (p + 3) = .inr (p + 3 + 1) := by
        unfold by_S up_T
        rw [if_pos w, if_pos (by rw [Bool.and_eq_true, decide_eq_true_iff, decide_eq_true_iff]; omega)]
      rw [e1, bd_r]
      exact r_134 hn h2 T (by omega) H R
    · have no : ¬ up_T 0 30 (B (p + 3)) = true := fun z => by have := up_Tt z; omega
      have e1 : by_S B n (up_T 0 30) (p + 3) = .inl (p + 3) := by unfold by_S; rw [if_pos w, if_neg no]
      rw [e1]
      refine pc_add (by omega) ?_; intro v124 e124
      rw [show v124 = ((p + 3 : Nat) : Int) by omega]
      exact r_unx (s := .inr (p + 3)) R (fun g Fg Rg => pc_imp (r_134l (rs_l Rg)) (fun u q => rm_l Fg Rg q))
  · have e1 : by_S B n (up_T 0 30) (p + 3) = .inl n := by unfold by_S; rw [if_neg w]
    rw [e, mx_svs, e1]
    dsimp only
    refine pc_if (fun _ => ?_) (fun z => absurd rfl z)
    have Rg : RSs (.inl n) (up_M M 160 114 (n : Int)) := up_s
    exact pc_imp (r_134l (rs_l Rg)) (fun u q => rm_l fq_u Rg q)
theorem r_101l (h : ¬ M 160 114 = -1) {l1 l2 l4 : Int} : Pc (qj_X13_scanMethod_101 nn l1 l2 l4 M) (fun u => u.2 = M) := by
  unfold qj_X13_scanMethod_101
  refine pc_xl (fun _ _ => ?_)
  rw [r_isBl h, mx_svs]
  exact pc_if (fun _ => r_134l h) (fun z => absurd rfl z)
theorem r_65l (h : ¬ M 160 114 = -1) {l1 l2 l4 : Int} : Pc (qj_X13_scanMethod_65 nn l1 l2 l4 M) (fun u => u.2 = M) := by
  unfold qj_X13_scanMethod_65
  refine pc_xl (fun _ _ => ?_)
  rw [r_isBl h, mx_svs]
  exact pc_if (fun _ => r_101l h) (fun z => absurd rfl z)
theorem r_29l (h : ¬ M 160 114 = -1) {l1 l2 l4 : Int} : Pc (qj_X13_scanMethod_29 nn l1 l2 l4 M) (fun u => u.2 = M) := by
  unfold qj_X13_scanMethod_29
  refine pc_xl (fun _ _ => ?_)
  rw [r_isBl h, mx_svs]
  exact pc_if (fun _ => r_65l h) (fun z => absurd rfl z)
theorem r_65 (hn : 1000000 ≤ nn) {l2 : Int} {p : Nat} (h2 : 0 ≤ l2 ∧ l2 ≤ 11) (T : TTr c n B M) (hp : p + 2 ≤ n) (H : 0 ≤ B p ∧ B p ≤ 1) (R : RSs (.inr p) M) : Pc (qj_X13_scanMethod_65 nn c l2 (p : Int) M) (RMs c l2 n B (bd_S (bd_S (bd_S (by_S B n (fun k => (pi_S B n k).isSome) (p + 2)) (by_S B n (up_T 0 30))) (by_S B n (up_T (le_S B n p) 30))) (co_S B n)) M) := by
  have n6 := T.1.2.2.2.1
  unfold qj_X13_scanMethod_65
  refine pc_add (by omega) ?_; intro v118 e118
  rw [show v118 = ((p + 2 : Nat) : Int) by omega]
  rcases r_isB (nn := nn) T.1 (x := p + 2) with ⟨a, e⟩ | ⟨a, w, e⟩ | ⟨a, w, e⟩
  · exact absurd R a
  · rw [e, mx_svs]
    dsimp only
    refine pc_if (fun z => absurd z (by decide)) (fun _ => ?_)
    refine pc_add (by omega) ?_; intro v122 e122
    refine pc_rA ?_; intro i1 i2 v123 e123
    have e123 : v123 = B (p + 2) := by rw [e123, show v122.toNat = p + 2 by omega]; exact T.1.2.2.2.2.1 _
    rw [e123]
    show Pc (mx_sv (qf_X13_isText nn (B (p + 2)) 2 M) _) _
    rw [r_isText2 hn T, mx_svs]
    refine pc_if (fun y => ?_) (fun y => ?_)
    · have e1 : by_S B n (fun k => (pi_S B n k).isSome) (p + 2) = .inr (p + 2 + 1) := by
        unfold by_S
        rw [if_pos w, if_pos (bi_t y)]
      rw [e1, bd_r]
      exact r_101 hn h2 T (by omega) ⟨H, bi_t y⟩ R
    · have no := bi_f (Decidable.not_not.1 y)
      have e1 : by_S B n (fun k => (pi_S B n k).isSome) (p + 2) = .inl (p + 2) := by unfold by_S; rw [if_pos w, if_neg no]
      rw [e1]
      refine pc_add (by omega) ?_; intro v124 e124
      rw [show v124 = ((p + 2 : Nat) : Int) by omega]
      exact r_unx (s := .inr (p + 2)) R (fun g Fg Rg => pc_imp (r_101l (rs_l Rg)) (fun u q => rm_l Fg Rg q))
  · have e1 : by_S B n (fun k => (pi_S B n k).isSome) (p + 2) = .inl n := by unfold by_S; rw [if_neg w]
    rw [e, mx_svs, e1]
    dsimp only
    refine pc_if (fun _ => ?_) (fun z => absurd rfl z)
    have Rg : RSs (.inl n) (up_M M 160 114 (n : Int)) := up_s
    exact pc_imp (r_101l (rs_l Rg)) (fun u q => rm_l fq_u Rg q)
theorem r_29 (hn : 1000000 ≤ nn) {l2 : Int} {p : Nat} (h2 : 0 ≤ l2 ∧ l2 ≤ 11) (T : TTr c n B M) (hp : p + 1 ≤ n) (H : 0 ≤ B p ∧ B p ≤ 1) (R : RSs (.inr p) M) : Pc (qj_X13_scanMethod_29 nn c l2 (p : Int) M) (RMs c l2 n B (bd_S (bd_S (bd_S (bd_S (by_S B n (nm_S B n) (p + 1)) (by_S B n (fun k => (pi_S B n k).isSome))) (by_S B n (up_T 0 30))) (by_S B n (up_T (le_S B n p) 30))) (co_S B n)) M) := by
  have n6 := T.1.2.2.2.1
  unfold qj_X13_scanMethod_29
  refine pc_add (by omega) ?_; intro v118 e118
  rw [show v118 = ((p + 1 : Nat) : Int) by omega]
  rcases r_isB (nn := nn) T.1 (x := p + 1) with ⟨a, e⟩ | ⟨a, w, e⟩ | ⟨a, w, e⟩
  · exact absurd R a
  · rw [e, mx_svs]
    dsimp only
    refine pc_if (fun z => absurd z (by decide)) (fun _ => ?_)
    refine pc_add (by omega) ?_; intro v122 e122
    refine pc_rA ?_; intro i1 i2 v123 e123
    have e123 : v123 = B (p + 1) := by rw [e123, show v122.toNat = p + 1 by omega]; exact T.1.2.2.2.2.1 _
    rw [e123]
    show Pc (mx_sv (qf_X13_isText nn (B (p + 1)) 0 M) _) _
    rw [r_isText0 hn T, mx_svs]
    refine pc_if (fun y => ?_) (fun y => ?_)
    · have e1 : by_S B n (nm_S B n) (p + 1) = .inr (p + 1 + 1) := by
        unfold by_S
        rw [if_pos w, if_pos (bi_t y)]
      rw [e1, bd_r]
      exact r_65 hn h2 T (by omega) H R
    · have no := bi_f (Decidable.not_not.1 y)
      have e1 : by_S B n (nm_S B n) (p + 1) = .inl (p + 1) := by unfold by_S; rw [if_pos w, if_neg no]
      rw [e1]
      refine pc_add (by omega) ?_; intro v124 e124
      rw [show v124 = ((p + 1 : Nat) : Int) by omega]
      exact r_unx (s := .inr (p + 1)) R (fun g Fg Rg => pc_imp (r_65l (rs_l Rg)) (fun u q => rm_l Fg Rg q))
  · have e1 : by_S B n (nm_S B n) (p + 1) = .inl n := by unfold by_S; rw [if_neg w]
    rw [e, mx_svs, e1]
    dsimp only
    refine pc_if (fun _ => ?_) (fun z => absurd rfl z)
    have Rg : RSs (.inl n) (up_M M 160 114 (n : Int)) := up_s
    exact pc_imp (r_65l (rs_l Rg)) (fun u q => rm_l fq_u Rg q)
theorem r_method (hn : 1000000 ≤ nn) {l2 : Int} {p : Nat} (h2 : 0 ≤ l2 ∧ l2 ≤ 11) (T : TTr c n B M) (hp : p ≤ n) (R : RSs (.inr p) M) : Pc (qf_X13_scanMethod nn c l2 (p : Int) M) (RMs c l2 n B (bd_S (mh_S B n p) (co_S B n)) M) := by
  have n6 := T.1.2.2.2.1
  unfold qf_X13_scanMethod mh_S
  rcases r_isB (nn := nn) T.1 (x := p) with ⟨a, e⟩ | ⟨a, w, e⟩ | ⟨a, w, e⟩
  · exact absurd R a
  · have hB := T.1.2.2.2.2.2.2 p w
    rw [e, mx_svs]
    dsimp only
    refine pc_if (fun z => absurd z (by decide)) (fun _ => ?_)
    refine pc_rA ?_; intro i1 i2 v123 e123
    have e123 : v123 = B p := by rw [e123]; exact T.1.2.2.2.2.1 _
    refine pc_if (fun y => ?_) (fun y => ?_)
    · have e1 : by_S B n (up_T 0 1) p = .inr (p + 1) := by
        unfold by_S up_T
        rw [if_pos w, if_pos (by rw [Bool.and_eq_true, decide_eq_true_iff, decide_eq_true_iff]; omega)]
      rw [e1, bd_r]
      exact r_29 hn h2 T (by omega) (by omega) R
    · have no : ¬ up_T 0 1 (B p) = true := fun z => by have := up_Tt z; omega
      have e1 : by_S B n (up_T 0 1) p = .inl p := by unfold by_S; rw [if_pos w, if_neg no]
      rw [e1]
      exact r_unx (s := .inr p) R (fun g Fg Rg => pc_imp (r_29l (rs_l Rg)) (fun u q => rm_l Fg Rg q))
  · have e1 : by_S B n (up_T 0 1) p = .inl n := by unfold by_S; rw [if_neg w]
    rw [e, mx_svs, e1]
    dsimp only
    refine pc_if (fun _ => ?_) (fun z => absurd rfl z)
    have Rg : RSs (.inl n) (up_M M 160 114 (n : Int)) := up_s
    exact pc_imp (r_29l (rs_l Rg)) (fun u q => rm_l fq_u Rg q)
end
end
section
/- THE REFERENCE SCANS AN IMAGE: fields, constants, all of it -/
section
variable {nn : Nat} {M M1 M2 g : ms_M} {c : Int} {B : Nat → Int} {n : Nat} {s : Nat ⊕ Nat}
theorem r_35l (h : ¬ M 160 114 = -1) {l1 l2 l3 l4 : Int} {f : Nat} : Pc (qw_X13_scanFields_35 nn f l1 l2 l3 l4 M) (fun u => u.2 = M) := by
  cases f with
  | zero => exact pc_none
  | succ f =>
    unfold qw_X13_scanFields_35
    exact pc_rA (fun _ _ _ _ => pc_if (fun _ => pc_ret rfl) (fun _ => pc_if (fun _ => pc_ret rfl) (fun z => absurd h z)))
theorem r_94l (h : ¬ M 160 114 = -1) {l1 l2 l3 l4 : Int} {f : Nat} : Pc (qj_X13_scanFields_94 nn (qw_X13_scanFields_35 nn f) l1 l2 l3 l4 M) (fun u => u.2 = M) := by
  unfold qj_X13_scanFields_94
  refine pc_xl (fun _ _ => ?_)
  rw [r_isBl h, mx_svs]
  exact pc_if (fun _ => pc_xl (fun _ _ => pc_xl (fun _ _ => r_35l h))) (fun z => absurd rfl z)
/-- FORM, and the places of fields -/
def FGp (M M2 : ms_M) : Prop := ∀ a j, ¬ (a = 160 ∧ j = 114) → ¬ a = 233 → M2 a j = M a j
theorem fg_q (A : FQp M M1) : FGp M M1 := fun a j q _ => A a j q
theorem fg_t (A : FGp M M1) (C : FGp M1 M2) : FGp M M2 := fun a j q w => (C a j q w).trans (A a j q w)
theorem ttr_g (F : FGp M M2) (T : TTr c n B M) : TTr c n B M2 := ttr_z (fun a j q w => F a j q (by omega)) T
/-- the places of fields as far as f, from p on -/
def FAt (c : Int) (p : Nat) (f : Int) (M : ms_M) : Prop := ∀ j : Int, 0 ≤ j → j < f → M 233 (12 * c + j).toNat = ((p + (2 * j).toNat : Nat) : Int)
theorem r_35 (hn : 1000000 ≤ nn) {a : Nat} (ha : a < n) (h12 : 0 ≤ B a ∧ B a ≤ 12) : ∀ (m f : Nat) (i : Int) (p : Nat) (M : ms_M), (i + m = B a ∧ 0 ≤ i) → p = a + 1 + (2 * i).toNat → p ≤ n → TTr c n B M → RSs (.inr p) M → FAt c (a + 1) i M → Pc (qw_X13_scanFields_35 nn f c (a : Int) (p : Int) i M) (fun u => FGp M u.2 ∧ RSs (fl_S B n m p) u.2 ∧ ∀ q, fl_S B n m p = .inr q → u.1 = (q : Int) ∧ FAt c (a + 1) (B a) u.2) := by
  intro m
  induction m with
  | zero =>
    intro f i p M hm ep hp T R FA
    cases f with
    | zero => exact pc_none
    | succ f =>
      unfold qw_X13_scanFields_35
      refine pc_rA ?_; intro i1 i2 v21 e21
      have e21 : v21 = B a := by rw [e21]; exact T.1.2.2.2.2.1 _
      refine pc_if (fun _ => pc_ret ⟨fun _ _ _ _ => rfl, R, fun q z => ?_⟩) (fun z => absurd (by omega) z)
      unfold fl_S at z; cases z
      exact ⟨rfl, by rw [show B a = i by omega]; exact FA⟩
  | succ m ih =>
    intro f i p M hm ep hp T R FA
    have n6 := T.1.2.2.2.1
    have hc := T.1.2.1
    cases f with
    | zero => exact pc_none
    | succ f =>
      have et : fl_S B n (m + 1) p = bd_S (bd_S (by_S B n (nm_S B n) p) (by_S B n (fk_S B n))) (fl_S B n m) := rfl
      unfold qw_X13_scanFields_35
      refine pc_rA ?_; intro i1 i2 v21 e21
      have e21 : v21 = B a := by rw [e21]; exact T.1.2.2.2.2.1 _
      refine pc_if (fun z => absurd z (by omega)) (fun _ => pc_if (fun z => absurd R z) (fun _ => ?_))
      refine pc_xl ?_; intro v24 e24
      rw [oq_mul_eq (by omega) (by omega) (by omega)] at e24
      refine pc_add (by omega) ?_; intro v25 e25
      refine pc_wA ?_; intro j1 j2 h26 e26
      have F26 : FGp M h26 := fun a j q w => by rw [e26, up_n (by omega)]
      have T26 := ttr_g F26 T
      have R26 : RSs (.inr p) h26 := rs_k (by rw [e26, up_n (by omega)]) R
      have A26 : FAt c (a + 1) (i + 1) h26 := fun j q1 q2 => by
        by_cases qj : j = i
        · rw [qj, e26, show v25.toNat = (12 * c + i).toNat by omega, up_s, ep]
        · rw [e26, up_n (by omega)]; exact FA j q1 (by omega)
      have out : ∀ {e : Nat} {g : ms_M} {l3 l4 : Int}, FQp h26 g → RSs (.inl e) g → bd_S (by_S B n (nm_S B n) p) (by_S B n (fk_S B n)) = .inl e → Pc (qw_X13_scanFields_35 nn f c (a : Int) l3 l4 g) (fun u => FGp M u.2 ∧ RSs (fl_S B n (m + 1) p) u.2 ∧ ∀ q, fl_S B n (m + 1) p = .inr q → u.1 = (q : Int) ∧ FAt c (a + 1) (B a) u.2) := by
        intro e g l3 l4 Fg Rg hz
        rw [et, hz]
        exact pc_imp (r_35l (rs_l Rg)) (fun u q => ⟨by rw [q]; exact fg_t F26 (fg_q Fg), by rw [q]; exact Rg, fun x z => by cases z⟩)
      have out94 : ∀ {e : Nat} {g : ms_M}, FQp h26 g → RSs (.inl e) g → by_S B n (nm_S B n) p = .inl e → Pc (qj_X13_scanFields_94 nn (qw_X13_scanFields_35 nn f) c (a : Int) (p : Int) i g) (fun u => FGp M u.2 ∧ RSs (fl_S B n (m + 1) p) u.2 ∧ ∀ q, fl_S B n (m + 1) p = .inr q → u.1 = (q : Int) ∧ FAt c (a + 1) (B a) u.2) := by
        intro e g Fg Rg hz
        rw [et, hz]
        exact pc_imp (r_94l (rs_l Rg)) (fun u q => ⟨by rw [q]; exact fg_t F26 (fg_q Fg), by rw [q]; exact Rg, fun x z => by cases z⟩)
      rcases r_isB (nn := nn) T26.1 (x := p) with ⟨a1, e⟩ | ⟨a1, w, e⟩ | ⟨a1, w, e⟩
      · exact absurd R26 a1
      · rw [e, mx_svs]
        dsimp only
        refine pc_if (fun z => absurd z (by decide)) (fun _ => ?_)
        refine pc_rA ?_; intro k1 k2 v30 e30
        have e30 : v30 = B p := by rw [e30]; exact T26.1.2.2.2.2.1 _
        rw [e30]
        show Pc (mx_sv (qf_X13_isText nn (B p) 0 h26) _) _
        rw [r_isText0 hn T26, mx_svs]
        refine pc_if (fun y => ?_) (fun y => ?_)
        · have e1 : by_S B n (nm_S B n) p = .inr (p + 1) := by unfold by_S; rw [if_pos w, if_pos (bi_t y)]
          unfold qj_X13_scanFields_94
          refine pc_add (by omega) ?_; intro v1 ev1
          rw [show v1 = ((p + 1 : Nat) : Int) by omega]
          show Pc (mx_sv (qf_X13_isByte nn ((p + 1 : Nat) : Int) h26) _) _
          rcases r_isB (nn := nn) T26.1 (x := p + 1) with ⟨a2, e2⟩ | ⟨a2, w2, e2⟩ | ⟨a2, w2, e2⟩
          · exact absurd R26 a2
          · rw [e2, mx_svs]
            try dsimp only
            refine pc_if (fun z => absurd z (by decide)) (fun _ => ?_)
            refine pc_add (by omega) ?_; intro v7 ev7
            refine pc_rA ?_; intro l1 l2 v8 ev8
            have ev8 : v8 = B (p + 1) := by rw [ev8, show v7.toNat = p + 1 by omega]; exact T26.1.2.2.2.2.1 _
            rw [ev8]
            show Pc (mx_sv (qf_X13_isText nn (B (p + 1)) 1 h26) _) _
            rw [r_isText1 hn T26, mx_svs]
            refine pc_if (fun y2 => ?_) (fun y2 => ?_)
            · have e3 : by_S B n (fk_S B n) (p + 1) = .inr (p + 1 + 1) := by unfold by_S; rw [if_pos w2, if_pos (bi_t y2)]
              refine pc_add (by omega) ?_; intro v11 ev11
              refine pc_add (by omega) ?_; intro v12 ev12
              rw [et, e1, bd_r, e3, bd_r, show v11 = ((p + 1 + 1 : Nat) : Int) by omega]
              refine pc_imp (ih f v12 (p + 1 + 1) h26 (by omega) (by omega) (by omega) T26 R26 (by rw [ev12]; exact A26)) (fun u q => ⟨fg_t F26 q.1, q.2⟩)
            · have no := bi_f (Decidable.not_not.1 y2)
              have e3 : by_S B n (fk_S B n) (p + 1) = .inl (p + 1) := by unfold by_S; rw [if_pos w2, if_neg no]
              refine pc_add (by omega) ?_; intro v13 ev13
              rw [show v13 = ((p + 1 : Nat) : Int) by omega]
              exact r_unx (s := .inr (p + 1)) R26 (fun g Fg Rg => pc_xl (fun _ _ => pc_xl (fun _ _ => out Fg Rg (by rw [e1, bd_r, e3]))))
          · have e3 : by_S B n (fk_S B n) (p + 1) = .inl n := by unfold by_S; rw [if_neg w2]
            rw [e2, mx_svs]
            refine pc_if (fun _ => ?_) (fun z => absurd rfl z)
            exact pc_xl (fun _ _ => pc_xl (fun _ _ => out (e := n) fq_u (show up_M h26 160 114 (n : Int) 160 114 = (n : Int) from up_s) (by rw [e1, bd_r, e3])))
        · have no := bi_f (Decidable.not_not.1 y)
          have e1 : by_S B n (nm_S B n) p = .inl p := by unfold by_S; rw [if_pos w, if_neg no]
          exact r_unx (s := .inr p) R26 (fun g Fg Rg => out94 Fg Rg e1)
      · have e1 : by_S B n (nm_S B n) p = .inl n := by unfold by_S; rw [if_neg w]
        rw [e, mx_svs]
        dsimp only
        refine pc_if (fun _ => ?_) (fun z => absurd rfl z)
        exact out94 (e := n) fq_u up_s e1
theorem fl_le {p q : Nat} : ∀ m, p ≤ n → fl_S B n m p = .inr q → q ≤ n := by
  intro m
  induction m generalizing p with
  | zero => intro h e; unfold fl_S at e; cases e; exact h
  | succ m ih =>
    intro h e
    unfold fl_S at e
    obtain ⟨x, hx, e⟩ := bd_inr e
    obtain ⟨y, hy, hx⟩ := bd_inr hx
    have := by_le hx
    exact ih (by omega) e
/-- fields: FORM, rows 232 and 233 -/
theorem r_fields (hn : 1000000 ≤ nn) {a : Nat} (ha : a < n) (T : TTr c n B M) (R : RSs (.inr a) M) : Pc (qf_X13_scanFields nn c (a : Int) M) (fun u => (∀ x j, ¬ (x = 160 ∧ j = 114) → ¬ x = 233 → ¬ (x = 232 ∧ j = c.toNat) → u.2 x j = M x j) ∧ RSs (fs_S B n a) u.2 ∧ ∀ q, fs_S B n a = .inr q → u.1 = (q : Int) ∧ q ≤ n ∧ u.2 232 c.toNat = B a ∧ FAt c (a + 1) (B a) u.2) := by
  have n6 := T.1.2.2.2.1
  have hc := T.1.2.1
  have hB := T.1.2.2.2.2.2.2 a ha
  unfold qf_X13_scanFields
  refine pc_rA ?_; intro i1 i2 v45 e45
  have e45 : v45 = B a := by rw [e45]; exact T.1.2.2.2.2.1 _
  refine pc_if (fun z => ?_) (fun z => ?_)
  · unfold qj_X13_scanFields_16
    refine pc_rA ?_; intro j1 j2 v41 e41
    have e41 : v41 = B a := by rw [e41]; exact T.1.2.2.2.2.1 _
    refine pc_wA ?_; intro k1 k2 h42 e42
    have F42 : ∀ x j, ¬ (x = 232 ∧ j = c.toNat) → h42 x j = M x j := fun x j q => by rw [e42, up_n (by omega)]
    have T42 : TTr c n B h42 := ttr_z (fun x j q w => F42 x j (by omega)) T
    have R42 : RSs (.inr (a + 1)) h42 := rs_k (s := .inr (a + 1)) (F42 _ _ (by omega)) R
    refine pc_add (by omega) ?_; intro v43 e43
    have e1 : by_S B n (up_T 0 12) a = .inr (a + 1) := by
      unfold by_S up_T
      rw [if_pos ha, if_pos (by rw [Bool.and_eq_true, decide_eq_true_iff, decide_eq_true_iff]; omega)]
    have ef : fs_S B n a = fl_S B n (B a).toNat (a + 1) := by unfold fs_S; rw [e1]; rfl
    rw [ef, show v43 = ((a + 1 : Nat) : Int) by omega]
    refine pc_imp (r_35 hn ha (by omega) (B a).toNat nn 0 (a + 1) h42 (by omega) (by omega) (by omega) T42 R42 (fun j q1 q2 => by omega)) (fun u q => ⟨fun x j q1 q2 q3 => (q.1 x j q1 q2).trans (F42 x j q3), q.2.1, fun y hy => ?_⟩)
    obtain ⟨r1, r2⟩ := q.2.2 y hy
    refine ⟨r1, fl_le _ (by omega) hy, ?_, r2⟩
    rw [q.1 _ _ (by omega) (by omega), e42, up_s]; exact e41
  · have no : ¬ up_T 0 12 (B a) = true := fun y => by have := up_Tt y; omega
    have e1 : by_S B n (up_T 0 12) a = .inl a := by unfold by_S; rw [if_pos ha, if_neg no]
    have ef : fs_S B n a = .inl a := by unfold fs_S; rw [e1]; rfl
    rw [ef]
    refine r_unx (s := .inr a) R (fun g Fg Rg => ?_)
    unfold qj_X13_scanFields_16
    refine pc_rA ?_; intro j1 j2 v41 e41
    refine pc_wA ?_; intro k1 k2 h42 e42
    refine pc_xl ?_; intro v43 e43
    have R42 : RSs (.inl a) h42 := rs_k (s := .inl a) (by rw [e42, up_n (by omega)]) Rg
    refine pc_imp (r_35l (rs_l R42)) (fun u q => ⟨fun x j q1 q2 q3 => ?_, by rw [q]; exact R42, fun y hy => by cases hy⟩)
    rw [q, e42, up_n (by omega)]; exact Fg x j q1
/- checks of constants -/
theorem r_chk (hn : 1000000 ≤ nn) {k : Int} {p : Nat} (T : TTr c n B M) (w : 1 ≤ k ∧ k ≤ B 2) (R : RSs (.inr p) M) : Pc (qf_X13_checkConstant nn (pl_S B n k : Int) M) (fun r => FQp M r ∧ RSs (match ck_S B n k with
    | some e => .inl e
    | none => .inr p) r) := by
  have n6 := T.1.2.2.2.1
  obtain ⟨v1, v2, v3, v4⟩ := T.2.2.2.2 k w.1 w.2
  have tk : tg_S B n k = B (pl_S B n k) := by unfold tg_S; rw [if_pos w]
  have L : ∀ {g : ms_M}, TTr c n B g → ∀ i : Nat, g 238 i = B i := fun Tg => Tg.1.2.2.2.2.1
  have r105 : ∀ {g : ms_M} {s : Nat ⊕ Nat}, tg_S B n k = 4 → TTr c n B g → RSs s g → Pc (qj_X13_checkConstant_105 nn (pl_S B n k : Int) g) (fun r => FQp g r ∧ RSs (bd_S s (te_S (fk_S B n (pt_S B n k 2) || (pi_S B n (pt_S B n k 2)).isSome) (pl_S B n k + 3))) r) := by
    intro g s t4 Tg Rg
    have v4 := v4 (by omega)
    unfold qj_X13_checkConstant_105
    refine pc_add (by omega) ?_; intro x2 ex2
    refine pc_rA ?_; intro i1 i2 x3 ex3
    have ex3 : x3 = pt_S B n k 2 := by rw [ex3, L Tg]; unfold pt_S; congr 1; omega
    rw [ex3, r_isText3 hn Tg, mx_svs]
    refine pc_if (fun y => pc_ret ⟨fq_r, ?_⟩) (fun y => ?_)
    · cases s with
      | inl e => exact Rg
      | inr q => rw [bd_r]; unfold te_S; rw [if_pos (bi_t y)]; exact Rg
    · refine pc_add (by omega) ?_; intro x6 ex6
      rw [show x6 = ((pl_S B n k + 3 : Nat) : Int) by omega]
      refine r_unx Rg (fun r Fr Rr => pc_ret ⟨Fr, ?_⟩)
      cases s with
      | inl e => exact Rr
      | inr q => rw [bd_r]; unfold te_S; rw [if_neg (bi_f (Decidable.not_not.1 y))]; exact Rr
  have r82 : ∀ {g : ms_M} {s : Nat ⊕ Nat}, tg_S B n k = 4 → TTr c n B g → RSs s g → Pc (qj_X13_checkConstant_82 nn (pl_S B n k : Int) g) (fun r => FQp g r ∧ RSs (bd_S (bd_S s (te_S (nm_S B n (pt_S B n k 1)) (pl_S B n k + 2))) (te_S (fk_S B n (pt_S B n k 2) || (pi_S B n (pt_S B n k 2)).isSome) (pl_S B n k + 3))) r) := by
    intro g s t4 Tg Rg
    have v4 := v4 (by omega)
    unfold qj_X13_checkConstant_82
    refine pc_add (by omega) ?_; intro x2 ex2
    refine pc_rA ?_; intro i1 i2 x3 ex3
    have ex3 : x3 = pt_S B n k 1 := by rw [ex3, L Tg]; unfold pt_S; congr 1; omega
    rw [ex3, r_isText0 hn Tg, mx_svs]
    refine pc_if (fun y => r105 t4 Tg ?_) (fun y => ?_)
    · cases s with
      | inl e => exact Rg
      | inr q => rw [bd_r]; unfold te_S; rw [if_pos (bi_t y)]; exact Rg
    · refine pc_add (by omega) ?_; intro x6 ex6
      rw [show x6 = ((pl_S B n k + 2 : Nat) : Int) by omega]
      refine r_unx Rg (fun r Fr Rr => ?_)
      refine pc_imp (r105 t4 (ttr_k Fr Tg) (s := bd_S s (te_S (nm_S B n (pt_S B n k 1)) (pl_S B n k + 2))) ?_) (fun z q => ⟨fq_t Fr q.1, q.2⟩)
      cases s with
      | inl e => exact Rr
      | inr q => rw [bd_r]; unfold te_S; rw [if_neg (bi_f (Decidable.not_not.1 y))]; exact Rr
  have r33 : ∀ {g : ms_M} {s : Nat ⊕ Nat}, TTr c n B g → RSs s g → Pc (qj_X13_checkConstant_33 nn (pl_S B n k : Int) g) (fun r => FQp g r ∧ RSs (if tg_S B n k = 4 then bd_S (bd_S (bd_S s (te_S (cl_S B n (pt_S B n k 0)) (pl_S B n k + 1))) (te_S (nm_S B n (pt_S B n k 1)) (pl_S B n k + 2))) (te_S (fk_S B n (pt_S B n k 2) || (pi_S B n (pt_S B n k 2)).isSome) (pl_S B n k + 3)) else s) r) := by
    intro g s Tg Rg
    unfold qj_X13_checkConstant_33
    refine pc_rA ?_; intro i1 i2 x3 ex3
    have ex3 : x3 = tg_S B n k := by rw [ex3, Int.toNat_natCast, L Tg]; exact tk.symm
    refine pc_if (fun t4 => ?_) (fun t4 => pc_ret ⟨fq_r, ?_⟩)
    · have t4 : tg_S B n k = 4 := by omega
      have v4 := v4 (by omega)
      rw [if_pos t4]
      refine pc_add (by omega) ?_; intro x26 ex26
      refine pc_rA ?_; intro j1 j2 x27 ex27
      have ex27 : x27 = pt_S B n k 0 := by rw [ex27, L Tg]; unfold pt_S; congr 1; omega
      rw [ex27, Tg.1.1, r_of Tg, mx_svs]
      have bad : ¬ cl_S B n (pt_S B n k 0) = true → Pc (qj_X13_checkConstant_75 nn (pl_S B n k : Int) g) (fun r => FQp g r ∧ RSs (bd_S (bd_S (bd_S s (te_S (cl_S B n (pt_S B n k 0)) (pl_S B n k + 1))) (te_S (nm_S B n (pt_S B n k 1)) (pl_S B n k + 2))) (te_S (fk_S B n (pt_S B n k 2) || (pi_S B n (pt_S B n k 2)).isSome) (pl_S B n k + 3))) r) := fun y => by
        unfold qj_X13_checkConstant_75
        refine pc_add (by omega) ?_; intro x6 ex6
        rw [show x6 = ((pl_S B n k + 1 : Nat) : Int) by omega]
        refine r_unx Rg (fun r Fr Rr => ?_)
        refine pc_imp (r82 t4 (ttr_k Fr Tg) (s := bd_S s (te_S (cl_S B n (pt_S B n k 0)) (pl_S B n k + 1))) ?_) (fun z q => ⟨fq_t Fr q.1, q.2⟩)
        cases s with
        | inl e => exact Rr
        | inr q => rw [bd_r]; unfold te_S; rw [if_neg y]; exact Rr
      have good : cl_S B n (pt_S B n k 0) = true → Pc (qj_X13_checkConstant_82 nn (pl_S B n k : Int) g) (fun r => FQp g r ∧ RSs (bd_S (bd_S (bd_S s (te_S (cl_S B n (pt_S B n k 0)) (pl_S B n k + 1))) (te_S (nm_S B n (pt_S B n k 1)) (pl_S B n k + 2))) (te_S (fk_S B n (pt_S B n k 2) || (pi_S B n (pt_S B n k 2)).isSome) (pl_S B n k + 3))) r) := fun y => by
        refine r82 t4 Tg ?_
        cases s with
        | inl e => exact Rg
        | inr q => rw [bd_r]; unfold te_S; rw [if_pos y]; exact Rg
      by_cases q : 1 ≤ pt_S B n k 0 ∧ pt_S B n k 0 ≤ B 2
      · have te : tg_S B n (pt_S B n k 0) = B (pl_S B n (pt_S B n k 0)) := by unfold tg_S; rw [if_pos q]
        rw [if_pos q]
        refine pc_if (fun z => absurd z (by omega)) (fun _ => ?_)
        refine pc_rA ?_; intro k1 k2 x31 ex31
        have ex31 : x31 = tg_S B n (pt_S B n k 0) := by rw [ex31, Int.toNat_natCast, L Tg, te]
        refine pc_if (fun z => good (decide_eq_true (by omega))) (fun z => bad (fun y => z (by have : tg_S B n (pt_S B n k 0) = 3 := of_decide_eq_true y; omega)))
      · have te : tg_S B n (pt_S B n k 0) = 0 := by unfold tg_S; rw [if_neg q]
        rw [if_neg q]
        refine pc_if (fun _ => bad (fun y => by have : tg_S B n (pt_S B n k 0) = 3 := of_decide_eq_true y; omega)) (fun z => absurd (by decide) z)
    · rw [if_neg (by omega)]; exact Rg
  unfold qf_X13_checkConstant
  refine pc_rA ?_; intro i1 i2 x36 ex36
  have ex36 : x36 = tg_S B n k := by rw [ex36, Int.toNat_natCast, L T]; exact tk.symm
  have fin4 : ¬ tg_S B n k = 3 → ∀ r, RSs (if tg_S B n k = 4 then bd_S (bd_S (bd_S (.inr p) (te_S (cl_S B n (pt_S B n k 0)) (pl_S B n k + 1))) (te_S (nm_S B n (pt_S B n k 1)) (pl_S B n k + 2))) (te_S (fk_S B n (pt_S B n k 2) || (pi_S B n (pt_S B n k 2)).isSome) (pl_S B n k + 3)) else .inr p) r → RSs (match ck_S B n k with
      | some e => .inl e
      | none => .inr p) r := fun t3 r q2 => by
    unfold ck_S
    rw [if_neg t3]
    by_cases t4 : tg_S B n k = 4
    · rw [if_pos t4] at q2 ⊢
      rw [bd_r] at q2
      unfold te_S at q2
      by_cases y1 : cl_S B n (pt_S B n k 0) = true
      · rw [if_pos y1] at q2 ⊢
        rw [bd_r] at q2
        by_cases y2 : nm_S B n (pt_S B n k 1) = true
        · rw [if_pos y2] at q2 ⊢
          rw [bd_r] at q2
          by_cases y3 : (fk_S B n (pt_S B n k 2) || (pi_S B n (pt_S B n k 2)).isSome) = true
          · rw [if_pos y3] at q2 ⊢; exact q2
          · rw [if_neg y3] at q2 ⊢; exact q2
        · rw [if_neg y2] at q2 ⊢; exact q2
      · rw [if_neg y1] at q2 ⊢; exact q2
    · rw [if_neg t4] at q2 ⊢; exact q2
  refine pc_if (fun t3 => ?_) (fun t3 => ?_)
  · exact pc_imp (r33 (s := .inr p) T R) (fun r q => ⟨q.1, fin4 (by omega) r q.2⟩)
  · have t3 : tg_S B n k = 3 := by omega
    have v3 := v3 (by omega)
    refine pc_add (by omega) ?_; intro x38 ex38
    refine pc_rA ?_; intro j1 j2 x39 ex39
    have ex39 : x39 = pt_S B n k 0 := by rw [ex39, L T]; unfold pt_S; congr 1; omega
    rw [ex39, r_isText4 hn T, mx_svs]
    refine pc_if (fun y => ?_) (fun y => ?_)
    · refine pc_imp (r33 (s := .inr p) T R) (fun r q => ⟨q.1, ?_⟩)
      have q2 := q.2
      rw [if_neg (by omega)] at q2
      unfold ck_S
      rw [if_pos t3, if_pos (bi_t y)]; exact q2
    · refine pc_add (by omega) ?_; intro x42 ex42
      rw [show x42 = ((pl_S B n k + 1 : Nat) : Int) by omega]
      refine r_unx (s := .inr p) R (fun g Fg Rg => ?_)
      refine pc_imp (r33 (s := .inl (pl_S B n k + 1)) (ttr_k Fg T) Rg) (fun r q => ⟨fq_t Fg q.1, ?_⟩)
      have q2 := q.2
      rw [if_neg (by omega)] at q2
      unfold ck_S
      rw [if_pos t3, if_neg (bi_f (Decidable.not_not.1 y))]; exact q2
end
end

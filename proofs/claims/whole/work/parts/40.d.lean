/- THE CLASS READS AN IMAGE: all of it -/
section
variable {nn : Nat} {M M1 M2 : ms_M} {b : Nat} {B : Nat → Int} {n : Nat} {st : Nat ⊕ Nat}
theorem ctl_S {p q : Nat} (e : ct_S B n p = .inr q) : q = (ct_N B n p).1 := by
  unfold ct_S at e
  by_cases a : p < n
  · rw [if_pos a] at e
    cases z : (ct_N B n p).2 with
    | some f => rw [z] at e; cases e
    | none => rw [z] at e; cases e; rfl
  · rw [if_neg a] at e; cases e
theorem pl_n {k : Int} (hk : 1 ≤ k) {q : Nat} (e : ct_S B n (pl_S B n k) = .inr q) : q = pl_S B n (k + 1) := by
  rw [ctl_S e]
  unfold pl_S
  have z : (k + 1 - 1).toNat = (k - 1).toNat + 1 := by omega
  rw [z]; rfl
theorem te_ttj {k : Int} (hk : 1 ≤ k) (T : TTj b n B (k - 1) M) (F : FKp b k M M2) (E : TEp b n B k (pl_S B n k) M2) : TTj b n B k M2 := by
  intro j h1 h2
  by_cases q : j = k
  · rw [q]; exact E
  · have w := T j h1 (by omega)
    rw [F (b + 2) j.toNat (by omega) (by omega), F (b + 3) j.toNat (by omega) (by omega), F (b + 4) j.toNat (by omega) (by omega)]
    exact w
/-- the check of the constants from k on -/
theorem c_57 (hn : 1000000 ≤ nn) : ∀ (m f : Nat) (k : Int) (st : Nat ⊕ Nat) (M : ms_M), (k + m = B 2 + 1 ∧ 1 ≤ k) → (∀ p, st = .inr p → TTc b n B M) → (M b 7 = B 2) → B 2 ≤ 255 → CRs b n st M → Pc (qw_X3_readConstants_57 nn f b k M) (fun r => FRz b M r ∧ CRs b n (bd_S st (fun p => match cks_S B n m k with
    | some e => .inl e
    | none => .inr p)) r) := by
  intro m
  induction m with
  | zero =>
    intro f k st M hk T e7 h2 C
    cases f with
    | zero => exact pc_none
    | succ f =>
      unfold qw_X3_readConstants_57
      refine pc_if (fun _ => pc_ret ⟨frp_r, ?_⟩) (fun z => absurd (by omega) z)
      cases st with
      | inl e => exact C
      | inr p => exact C
  | succ m ih =>
    intro f k st M hk T e7 h2 C
    cases f with
    | zero => exact pc_none
    | succ f =>
      unfold qw_X3_readConstants_57
      refine pc_if (fun z => absurd z (by omega)) (fun _ => ?_)
      cases st with
      | inl e =>
        have C : M b 3 = (e : Int) := C
        exact pc_if (fun _ => pc_ret ⟨frp_r, C⟩) (fun z => absurd (by omega) z)
      | inr p =>
        refine pc_if (fun z => absurd C.1 z) (fun _ => ?_)
        have T := T p rfl
        refine pc_sv (c_check hn T ⟨hk.2, by omega⟩ C) ?_; intro u4 q4
        refine pc_add (by omega) ?_; intro v5 e5
        have T4 := ttc_fr q4.1 T
        rw [e5]
        have q42 := q4.2
        refine pc_imp (ih f (k + 1) _ u4 (by omega) (fun _ _ => T4) (by rw [q4.1 b 7 (by omega)]; exact e7) h2 q42) (fun r q => ⟨frp_t q4.1 q.1, ?_⟩)
        have q2 := q.2
        rw [bd_r]
        unfold cks_S
        cases z : ck_S B n k with
        | some x => rw [z] at q2; exact q2
        | none => rw [z] at q2; exact q2
/-- the constants from k on, then their check -/
theorem c_28 (hn : 1000000 ≤ nn) : ∀ (m f : Nat) (k : Int) (st : Nat ⊕ Nat) (M : ms_M), (k + m = B 2 + 1 ∧ 1 ≤ k) → sr_I M b B n → M b 7 = B 2 → B 2 ≤ 255 → (∀ p, st = .inr p → p = pl_S B n k ∧ TTj b n B (k - 1) M) → CRs b n st M → Pc (qw_X3_readConstants_28 nn f b k M) (fun r => (IFp b M r ∧ ∀ j, 4 ≤ j → r b j = M b j) ∧ CRs b n (bd_S (bd_S st (ks_S B n m)) (fun p => match cks_S B n (B 2).toNat 1 with
    | some e => .inl e
    | none => .inr p)) r ∧ ∀ p, bd_S st (ks_S B n m) = .inr p → TTc b n B r) := by
  intro m
  induction m with
  | zero =>
    intro f k st M hk I e7 h2 T C
    cases f with
    | zero => exact pc_none
    | succ f =>
      have es : bd_S st (ks_S B n 0) = st := by cases st <;> rfl
      have TT : ∀ p, st = .inr p → TTc b n B M := fun p z => ⟨I, e7, by omega, by have := (T p z).2; rw [show k - 1 = B 2 by omega] at this; exact this⟩
      unfold qw_X3_readConstants_28
      refine pc_if (fun _ => ?_) (fun z => absurd (by omega) z)
      refine pc_imp (c_57 hn (B 2).toNat nn 1 st M (by omega) TT e7 h2 C) (fun r q => ⟨⟨ifp_p q.1, fun j hj => q.1 b j (by omega)⟩, ?_, fun p z => ?_⟩)
      · rw [es]; exact q.2
      · rw [es] at z; exact ttc_fr q.1 (TT p z)
  | succ m ih =>
    intro f k st M hk I e7 h2 T C
    cases f with
    | zero => exact pc_none
    | succ f =>
      unfold qw_X3_readConstants_28
      refine pc_if (fun z => absurd z (by omega)) (fun _ => ?_)
      cases st with
      | inl e =>
        have C : M b 3 = (e : Int) := C
        refine pc_if (fun _ => ?_) (fun z => absurd (by omega) z)
        exact pc_imp (c_57 hn (B 2).toNat nn 1 (.inl e) M (by omega) (fun p z => nomatch z) e7 h2 C) (fun r q => ⟨⟨ifp_p q.1, fun j hj => q.1 b j (by omega)⟩, q.2, fun p z => nomatch z⟩)
      | inr p =>
        refine pc_if (fun z => absurd C.1 z) (fun _ => ?_)
        obtain ⟨ep, T⟩ := T p rfl
        refine pc_sv (c_const hn (k := k) I C) ?_; intro u11 q11
        obtain ⟨F11, C11, E11⟩ := q11
        refine pc_add (by omega) ?_; intro v12 e12
        rw [e12]
        have e7b : u11 b 7 = B 2 := by rw [F11 b 7 (by omega) (by omega)]; exact e7
        refine pc_imp (ih f (k + 1) (ct_S B n p) u11 (by omega) (sr_if I (fk_if F11)) e7b h2 (fun x hx => ?_) C11) (fun r q => ⟨⟨ifp_t (fk_if F11) q.1.1, fun j hj => (q.1.2 j hj).trans (F11 b j (by omega) (by omega))⟩, q.2.1, q.2.2⟩)
        have E := E11 x hx
        rw [ep] at hx E
        refine ⟨pl_n hk.2 hx, ?_⟩
        rw [show k + 1 - 1 = k by omega]
        exact te_ttj hk.2 T F11 E
theorem c_consts (hn : 1000000 ≤ nn) (I : sr_I M b B n) (C : CRs b n (.inr 0) M) : Pc (qf_X3_readConstants nn b M) (fun r => (IFp b M r ∧ ∀ j, 8 ≤ j → r b j = M b j) ∧ CRs b n (kk_S B n) r ∧ ∀ p, kk_S B n = .inr p → TTc b n B r) := by
  unfold qf_X3_readConstants
  refine pc_sv (c_upTo I C) ?_; intro u16 q16
  obtain ⟨f16, C16, -⟩ := q16
  have I16 := sr_fr I f16
  refine pc_sv (c_upTo I16 C16) ?_; intro u18 q18
  obtain ⟨f18, C18, -⟩ := q18
  have I18 := sr_fr I16 f18
  refine pc_sv (c_next I18 C18) ?_; intro u20 q20
  obtain ⟨f20, C20, v20⟩ := q20
  have I20 := sr_fr I18 f20
  refine pc_xl ?_; intro h21 e21
  have F21 : IFp b M h21 := ifp_t (ifp_p (frp_t f16 (frp_t f18 f20))) (by rw [e21]; exact ifp_u (.inl ⟨rfl, by omega⟩))
  have I21 := sr_if I F21
  have K21 : ∀ j, 8 ≤ j → h21 b j = M b j := fun j hj => by rw [e21, up_n (by omega)]; exact (frp_t f16 (frp_t f18 f20)) b j (by omega)
  have C21 : CRs b n (bd_S (bd_S (bd_S (.inr 0) (by_S B n (up_T 74 74))) (by_S B n (up_T 77 77))) (nx_S n)) h21 := by
    cases z : bd_S (bd_S (bd_S (.inr 0) (by_S B n (up_T 74 74))) (by_S B n (up_T 77 77))) (nx_S n) with
    | inl e =>
      rw [z] at C20
      show h21 b 3 = (e : Int)
      rw [e21, up_n (by omega)]; exact C20
    | inr p =>
      rw [z] at C20
      refine ⟨?_, ?_, C20.2.2⟩
      · rw [e21, up_n (by omega)]; exact C20.1
      · rw [e21, up_n (by omega)]; exact C20.2.1
  have e7 : h21 b 7 = u20.1 := by rw [e21, up_s]
  have ek : kk_S B n = bd_S (bd_S (bd_S (bd_S (bd_S (.inr 0) (by_S B n (up_T 74 74))) (by_S B n (up_T 77 77))) (nx_S n)) (fun p => ks_S B n (B 2).toNat p)) (fun p => match cks_S B n (B 2).toNat 1 with
    | some e => .inl e
    | none => .inr p) := rfl
  cases z : bd_S (bd_S (bd_S (.inr 0) (by_S B n (up_T 74 74))) (by_S B n (up_T 77 77))) (nx_S n) with
  | inl e =>
    rw [z] at C21
    have C21 : h21 b 3 = (e : Int) := C21
    have ek : kk_S B n = .inl e := by rw [ek, z]; rfl
    rw [ek]
    have out : ∀ f k, Pc (qw_X3_readConstants_57 nn f b k h21) (fun r => r = h21) := fun f k => by
      cases f with
      | zero => exact pc_none
      | succ f =>
        unfold qw_X3_readConstants_57
        exact pc_if (fun _ => pc_ret rfl) (fun _ => pc_if (fun _ => pc_ret rfl) (fun y => absurd (by omega) y))
    have out2 : ∀ f k, Pc (qw_X3_readConstants_28 nn f b k h21) (fun r => r = h21) := fun f k => by
      cases f with
      | zero => exact pc_none
      | succ f =>
        unfold qw_X3_readConstants_28
        exact pc_if (fun _ => out _ _) (fun _ => pc_if (fun _ => out _ _) (fun y => absurd (by omega) y))
    exact pc_imp (out2 _ _) (fun r q => by rw [q]; exact ⟨⟨F21, K21⟩, C21, fun p y => nomatch y⟩)
  | inr p =>
    rw [z] at C21
    obtain ⟨p2, z2, z3⟩ := bd_inr z
    obtain ⟨p1, y2, y3⟩ := bd_inr z2
    have a1 := by_le (show by_S B n (up_T 74 74) 0 = .inr p1 from y2)
    have a2 := by_le y3
    have a3 := nx_le z3
    have e2 : p2 = 2 := by omega
    have ev : u20.1 = B 2 := by
      have := v20 p2 z2 (by omega)
      rw [this, e2]
    have hB := sr_B I (i := 2) (by omega)
    have e3 : p = 3 := by omega
    refine pc_imp (c_28 hn (B 2).toNat nn 1 (.inr p) h21 (by omega) I21 (by rw [e7]; exact ev) hB.2 (fun x hx => ?_) C21) (fun r q => ⟨⟨ifp_t F21 q.1.1, fun j hj => (q.1.2 j (by omega)).trans (K21 j hj)⟩, ?_, fun x hx => ?_⟩)
    · cases hx
      refine ⟨by rw [e3]; rfl, fun j h1 h2 => by omega⟩
    · rw [ek, z]; exact q.2.1
    · rw [ek, z] at hx
      obtain ⟨y, hy, -⟩ := bd_inr hx
      exact q.2.2 y hy
/-- the fields' row as far as f, from p on -/
def FLt (b : Nat) (B : Nat → Int) (p : Nat) (f : Int) (M : ms_M) : Prop := ∀ j : Int, 0 ≤ j → j < f → M (b + 5) (2 * j).toNat = B (p + (2 * j).toNat) ∧ M (b + 5) (2 * j + 1).toNat = B (p + (2 * j + 1).toNat)
/-- what reading fields leaves of the Image -/
def FFp (b : Nat) (M M2 : ms_M) : Prop := ∀ c k, ¬ (c = b ∧ (k = 2 ∨ k = 3 ∨ k = 10)) → ¬ c = b + 5 → M2 c k = M c k
theorem ff_if (A : FFp b M M1) : IFp b M M1 := fun c j q w => A c j (fun z => q ⟨z.1, by omega⟩) (fun z => w (by omega))
theorem ff_t (A : FFp b M M1) (C : FFp b M1 M2) : FFp b M M2 := fun c k q w => (C c k q w).trans (A c k q w)
theorem ff_p (A : FRz b M M1) : FFp b M M1 := fun c k q _ => A c k (fun z => q ⟨z.1, by omega⟩)
theorem ttc_ff (A : FFp b M M2) (T : TTc b n B M) : TTc b n B M2 := ttc_k (ff_if A) (A b 7 (by omega) (by omega)) (fun k => A _ _ (by omega) (by omega)) (fun k => A _ _ (by omega) (by omega)) (fun k => A _ _ (by omega) (by omega)) T
theorem fl_2 : ∀ (m p q : Nat), fl_S B n m p = .inr q → q = p + 2 * m := by
  intro m
  induction m with
  | zero => intro p q e; unfold fl_S at e; cases e; rfl
  | succ m ih =>
    intro p q e
    unfold fl_S at e
    obtain ⟨x, hx, e⟩ := bd_inr e
    obtain ⟨y, hy, hx⟩ := bd_inr hx
    have a := by_le hy
    have c := by_le hx
    have := ih x q e
    omega
theorem c_fields (hn : 1000000 ≤ nn) {p0 : Nat} : ∀ (m f : Nat) (many j : Int) (st : Nat ⊕ Nat) (M : ms_M), (j + m = many ∧ 0 ≤ j ∧ many ≤ 12) → (∀ p, st = .inr p → p = p0 + (2 * j).toNat ∧ M b 10 = j ∧ FLt b B p0 j M) → (∀ p, st = .inr p → TTc b n B M) → sr_I M b B n → CRs b n st M → Pc (qw_X3_readFields_10 nn f b many j M) (fun r => FFp b M r ∧ CRs b n (bd_S st (fl_S B n m)) r ∧ ∀ p, bd_S st (fl_S B n m) = .inr p → r b 10 = many ∧ FLt b B p0 many r) := by
  intro m
  induction m with
  | zero =>
    intro f many j st M hm H T I C
    cases f with
    | zero => exact pc_none
    | succ f =>
      have es : bd_S st (fl_S B n 0) = st := by cases st <;> rfl
      unfold qw_X3_readFields_10
      refine pc_if (fun _ => pc_ret ⟨fun _ _ _ _ => rfl, by rw [es]; exact C, fun p z => ?_⟩) (fun z => absurd (by omega) z)
      rw [es] at z
      have := H p z
      rw [show many = j by omega]; exact this.2
  | succ m ih =>
    intro f many j st M hm H T I C
    cases f with
    | zero => exact pc_none
    | succ f =>
      unfold qw_X3_readFields_10
      refine pc_if (fun z => absurd z (by omega)) (fun _ => ?_)
      cases st with
      | inl e =>
        have C : M b 3 = (e : Int) := C
        exact pc_if (fun _ => pc_ret ⟨fun _ _ _ _ => rfl, C, fun p z => nomatch z⟩) (fun z => absurd (by omega) z)
      | inr p =>
        refine pc_if (fun z => absurd C.1 z) (fun _ => ?_)
        obtain ⟨ep, e10, FT⟩ := H p rfl
        have T := T p rfl
        refine pc_xl ?_; intro v11 e11
        rw [oq_mul_eq (by omega) (by omega) (by omega)] at e11
        refine pc_sv (c_name hn T C) ?_; intro u13 q13
        obtain ⟨f13, C13, v13⟩ := q13
        refine pc_wA ?_; intro i1 i2 h14 e14
        have F14 : FFp b M h14 := fun c k q w => by rw [e14, up_n (by omega)]; exact f13 c k (by omega)
        have T14 := ttc_ff F14 T
        have C14 : CRs b n (bd_S (.inr p) (by_S B n (nm_S B n))) h14 := by
          cases z : bd_S (.inr p) (by_S B n (nm_S B n)) with
          | inl e => rw [z] at C13; show h14 b 3 = (e : Int); rw [e14, up_n (by omega)]; exact C13
          | inr x =>
            rw [z] at C13
            exact ⟨by rw [e14, up_n (by omega)]; exact C13.1, by rw [e14, up_n (by omega)]; exact C13.2.1, C13.2.2⟩
        refine pc_sv (c_next T14.1 C14) ?_; intro u16 q16
        obtain ⟨f16, C16, v16⟩ := q16
        have T16 := ttc_fr f16 T14
        have K := c_by (nn := nn) (t := fk_S B n) T16.1 C16 v16
        have F16 : FFp b M u16.2 := ff_t F14 (ff_p f16)
        have tail : ∀ g : ms_M, FFp b M g → (∀ k, g (b + 5) k = u16.2 (b + 5) k) → g b 10 = u16.2 b 10 → TTc b n B g → CRs b n (bd_S (bd_S (.inr p) (by_S B n (nm_S B n))) (by_S B n (fk_S B n))) g → Pc (qj_X3_readFields_58 nn (qw_X3_readFields_10 nn f) b many j u16.1 g) (fun r => FFp b M r ∧ CRs b n (bd_S (.inr p) (fl_S B n (m + 1))) r ∧ ∀ p2, bd_S (.inr p) (fl_S B n (m + 1)) = .inr p2 → r b 10 = many ∧ FLt b B p0 many r) := by
          intro g Fg g5 g10 Tg Cg
          unfold qj_X3_readFields_58
          refine pc_xl ?_; intro v2 e2
          rw [oq_mul_eq (by omega) (by omega) (by omega)] at e2
          refine pc_add (by omega) ?_; intro v3 e3
          refine pc_wA ?_; intro k1 k2 h4 e4
          refine pc_xl ?_; intro v6 e6
          refine pc_xl ?_; intro h7 e7
          refine pc_add (by omega) ?_; intro v8 e8
          have F7 : FFp b M h7 := fun c k q w => by rw [e7, up_n (by omega), e4, up_n (by omega)]; exact Fg c k q w
          have T7 : TTc b n B h7 := ttc_ff F7 T
          have C7 : CRs b n (bd_S (bd_S (.inr p) (by_S B n (nm_S B n))) (by_S B n (fk_S B n))) h7 := by
            cases z : bd_S (bd_S (.inr p) (by_S B n (nm_S B n))) (by_S B n (fk_S B n)) with
            | inl e => rw [z] at Cg; show h7 b 3 = (e : Int); rw [e7, up_n (by omega), e4, up_n (by omega)]; exact Cg
            | inr x =>
              rw [z] at Cg
              exact ⟨by rw [e7, up_n (by omega), e4, up_n (by omega)]; exact Cg.1, by rw [e7, up_n (by omega), e4, up_n (by omega)]; exact Cg.2.1, Cg.2.2⟩
          have ef : bd_S (.inr p) (fl_S B n (m + 1)) = bd_S (bd_S (bd_S (.inr p) (by_S B n (nm_S B n))) (by_S B n (fk_S B n))) (fl_S B n m) := rfl
          rw [ef]
          refine pc_imp (ih f many v8 _ h7 (by omega) (fun x hx => ?_) (fun _ _ => T7) T7.1 C7) (fun r q => ⟨ff_t F7 q.1, q.2.1, q.2.2⟩)
          obtain ⟨y, hy, hx⟩ := bd_inr hx
          have hy : by_S B n (nm_S B n) p = .inr y := hy
          have a := by_le hy
          have c := by_le hx
          have w13 := v13 p rfl a.2.1
          have w16 := v16 y hy c.2.1
          have g10 : g b 10 = j := by
            rw [g10, f16 b 10 (by omega), e14, up_n (by omega), f13 b 10 (by omega)]; exact e10
          have h10 : h7 b 10 = v8 := by
            rw [e7, up_s, e6, e4, up_n (by omega), g10, oq_add_eq (by omega) (by omega) (by omega)]; omega
          refine ⟨by omega, h10, fun i hi1 hi2 => ?_⟩
          have R : ∀ k, ¬ k = v3.toNat → h7 (b + 5) k = h14 (b + 5) k := fun k hk => by
            rw [e7, up_n (by omega), e4, up_n (by omega), g5, f16 (b + 5) k (by omega)]
          have R3 : h7 (b + 5) v3.toNat = u16.1 := by
            rw [e7, up_n (by omega), e4, up_s]
          by_cases qi : i = j
          · rw [qi]
            refine ⟨?_, ?_⟩
            · rw [R _ (by omega), e14, show v11.toNat = (2 * j).toNat by omega, up_s, w13, ep]
            · rw [show (2 * j + 1).toNat = v3.toNat by omega, R3, w16]
              congr 1; omega
          · have FT := FT i hi1 (by omega)
            have R11 : ∀ k, ¬ k = v11.toNat → h14 (b + 5) k = M (b + 5) k := fun k hk => by
              rw [e14, up_n (by omega)]; exact f13 _ _ (by omega)
            rw [R _ (by omega), R11 _ (by omega), R _ (by omega), R11 _ (by omega)]
            exact FT
        rw [c_isField hn T16, mx_svs]
        refine pc_if (fun c => tail u16.2 F16 (fun _ => rfl) rfl T16 (K.1 (bi_t c))) (fun c => ?_)
        refine pc_xl ?_; intro v20 e20
        refine pc_sv (K.2 (bi_f (Decidable.not_not.1 c)) v20 e20) ?_; intro u22 q22
        exact tail u22 (ff_t F16 (ff_p q22.1)) (fun k => q22.1 _ _ (by omega)) (q22.1 _ _ (by omega)) (ttc_fr q22.1 T16) q22.2
theorem c_fs (hn : 1000000 ≤ nn) (T : ∀ p, st = .inr p → TTc b n B M) (I : sr_I M b B n) (C : CRs b n st M) (z : ∀ p, st = .inr p → M b 10 = 0) : Pc (qf_X3_readFields nn b M) (fun r => FFp b M r ∧ CRs b n (bd_S st (fs_S B n)) r ∧ ∀ p q, st = .inr p → fs_S B n p = .inr q → r b 10 = B p ∧ FLt b B (p + 1) (B p) r) := by
  unfold qf_X3_readFields
  refine pc_sv (c_upTo I C) ?_; intro u27 q27
  obtain ⟨f27, C27, v27⟩ := q27
  have I27 := sr_fr I f27
  cases st with
  | inl e =>
    have C27 : u27.2 b 3 = (e : Int) := C27
    have out : ∀ f k, Pc (qw_X3_readFields_10 nn f b u27.1 k u27.2) (fun r => r = u27.2) := fun f k => by
      cases f with
      | zero => exact pc_none
      | succ f =>
        unfold qw_X3_readFields_10
        exact pc_if (fun _ => pc_ret rfl) (fun _ => pc_if (fun _ => pc_ret rfl) (fun y => absurd (by omega) y))
    exact pc_imp (out _ _) (fun r q => by rw [q]; exact ⟨ff_p f27, C27, fun p q y => nomatch y⟩)
  | inr p =>
    have T := T p rfl
    have T27 := ttc_fr f27 T
    rw [bd_r] at C27
    cases zz : by_S B n (up_T 0 12) p with
    | inl e =>
      rw [zz] at C27
      have C27 : u27.2 b 3 = (e : Int) := C27
      have ef : fs_S B n p = .inl e := by unfold fs_S; rw [zz]; rfl
      rw [bd_r, ef]
      have out : ∀ f k, Pc (qw_X3_readFields_10 nn f b u27.1 k u27.2) (fun r => r = u27.2) := fun f k => by
        cases f with
        | zero => exact pc_none
        | succ f =>
          unfold qw_X3_readFields_10
          exact pc_if (fun _ => pc_ret rfl) (fun _ => pc_if (fun _ => pc_ret rfl) (fun y => absurd (by omega) y))
      exact pc_imp (out _ _) (fun r q => by rw [q]; exact ⟨ff_p f27, C27, fun p2 q y1 y2 => by cases y1; rw [ef] at y2; cases y2⟩)
    | inr q0 =>
      rw [zz] at C27
      have a := by_le zz
      have hv := v27 p rfl a.2.1
      have hB := sr_B I a.2.1
      have t12 : 0 ≤ B p ∧ B p ≤ 12 := by
        have := a.2.2
        unfold up_T at this
        rw [Bool.and_eq_true, decide_eq_true_iff, decide_eq_true_iff] at this
        exact this
      have ef : fs_S B n p = bd_S (.inr q0) (fl_S B n (B p).toNat) := by unfold fs_S; rw [zz]
      rw [bd_r, ef, hv]
      refine pc_imp (c_fields hn (p0 := p + 1) (B p).toNat nn (B p) 0 (.inr q0) u27.2 (by omega) (fun x hx => ?_) (fun _ _ => T27) T27.1 C27) (fun r q => ⟨ff_t (ff_p f27) q.1, q.2.1, fun p2 q2 y1 y2 => ?_⟩)
      · cases hx
        refine ⟨by omega, by rw [f27 b 10 (by omega)]; exact z p rfl, fun j h1 h2 => by omega⟩
      · cases y1
        rw [ef] at y2
        exact q.2.2 q2 y2
end

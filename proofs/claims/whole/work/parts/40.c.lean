/- THE CLASS READS AN IMAGE: constants -/
section
variable {nn : Nat} {M M1 M2 : ms_M} {b : Nat} {B : Nat → Int} {n : Nat} {st : Nat ⊕ Nat}
theorem tb_le : ∀ (m q : Nat), q ≤ n → tb_N B n q m = none → q + m ≤ n := by
  intro m
  induction m with
  | zero => intro q hq _; exact hq
  | succ m ih =>
    intro q hq e
    unfold tb_N at e
    by_cases a : ¬ q < n
    · rw [if_pos a] at e; cases e
    · rw [if_neg a] at e
      by_cases c : B q < 33 ∨ 126 < B q
      · rw [if_pos c] at e; cases e
      · rw [if_neg c] at e
        have := ih (q + 1) (by omega) e
        omega
/-- bytes of a TEXT -/
def tb_S (B : Nat → Int) (n m q : Nat) : Nat ⊕ Nat := match tb_N B n q m with
  | some e => .inl e
  | none => .inr (q + m)
/-- one constant's row has changed -/
def FKp (b : Nat) (k : Int) (M M2 : ms_M) : Prop := ∀ c j, ¬ (c = b ∧ (j = 2 ∨ j = 3)) → ¬ ((c = b + 2 ∨ c = b + 3 ∨ c = b + 4) ∧ j = k.toNat) → M2 c j = M c j
theorem fk_fr {k : Int} (A : FKp b k M M1) (C : FRz b M1 M2) : FKp b k M M2 := fun c j q w => (C c j q).trans (A c j q w)
theorem fr_fk {k : Int} (A : FRz b M M1) (C : FKp b k M1 M2) : FKp b k M M2 := fun c j q w => (C c j q w).trans (A c j q)
theorem fk_if {k : Int} (A : FKp b k M M1) : IFp b M M1 := fun c j q w => A c j (fun z => q ⟨z.1, by omega⟩) (fun z => w (by omega))
theorem c_84l {k : Nat} {tag l3 l4 : Int} (C : ¬ M b 3 = -1) : Pc (qw_X3_readConstant_84 nn k b tag l3 l4 M) (fun r => r = M) := by
  cases k with
  | zero => exact pc_none
  | succ k =>
    unfold qw_X3_readConstant_84
    exact pc_if (fun _ => pc_ret rfl) (fun _ => pc_if (fun _ => pc_ret rfl) (fun z => absurd C z))
theorem c_40l {k tag l3 : Int} {e : Nat} (I : sr_I M b B n) (C : M b 3 = (e : Int)) : Pc (qj_X3_readConstant_40 nn b k tag l3 M) (fun r => FKp b k M r ∧ r b 3 = (e : Int)) := by
  unfold qj_X3_readConstant_40
  refine pc_wA ?_; intro i1 i2 h12 e12
  refine pc_wA ?_; intro j1 j2 h15 e15
  have F15 : FKp b k M h15 := fun c j q w => by rw [e15, up_n (by omega), e12, up_n (by omega)]
  have C15 : h15 b 3 = (e : Int) := by rw [e15, up_n (by omega), e12, up_n (by omega)]; exact C
  have D : ∀ v : Int, ∀ h, h = up_M h15 (b + 4) k.toNat v → FKp b k M h ∧ h b 3 = (e : Int) := fun v h eh => by
    refine ⟨fun c j q w => by rw [eh, up_n (by omega)]; exact F15 c j q w, ?_⟩
    rw [eh, up_n (by omega)]; exact C15
  refine pc_if (fun _ => ?_) (fun _ => ?_)
  · refine pc_wA ?_; intro l1 l2 h18 e18
    obtain ⟨d1, d2⟩ := D _ _ e18
    exact pc_imp (c_84l (by omega)) (fun r q => by rw [q]; exact ⟨d1, d2⟩)
  · refine pc_xl ?_; intro v20 e20
    refine pc_wA ?_; intro l1 l2 h21 e21
    obtain ⟨d1, d2⟩ := D _ _ e21
    exact pc_imp (c_84l (by omega)) (fun r q => by rw [q]; exact ⟨d1, d2⟩)
theorem c_40r (hn : 1000000 ≤ nn) {k tag : Int} {m q : Nat} (hm : m ≤ 120) (I : sr_I M b B n) (C : CRs b n (.inr q) M) : Pc (qj_X3_readConstant_40 nn b k tag (m : Int) M) (fun r => FKp b k M r ∧ CRs b n (if tag = 1 then tb_S B n m q else sk_S n m q) r ∧ (r (b + 2) k.toNat = tag ∧ r (b + 3) k.toNat = (q : Int) ∧ (tag = 1 → r (b + 4) k.toNat = ((q + m : Nat) : Int)))) := by
  obtain ⟨c1, c2, c3⟩ : M b 3 = -1 ∧ M b 2 = (q : Int) ∧ q ≤ n := C
  have n6 := I.2.1
  unfold qj_X3_readConstant_40
  refine pc_wA ?_; intro i1 i2 h12 e12
  refine pc_wA ?_; intro j1 j2 h15 e15
  have F15 : FKp b k M h15 := fun c j q w => by rw [e15, up_n (by omega), e12, up_n (by omega)]
  have p12 : h12 b 2 = (q : Int) := by rw [e12, up_n (by omega)]; exact c2
  have p15 : h15 b 2 = (q : Int) := by rw [e15, up_n (by omega)]; exact p12
  have f15 : h15 b 3 = -1 := by rw [e15, up_n (by omega), e12, up_n (by omega)]; exact c1
  have t15 : h15 (b + 2) k.toNat = tag := by rw [e15, up_n (by omega), e12, up_s]
  have a15 : h15 (b + 3) k.toNat = (q : Int) := by rw [e15, up_s]; exact p12
  have D : ∀ v : Int, ∀ h, h = up_M h15 (b + 4) k.toNat v → FKp b k M h ∧ (h b 3 = -1 ∧ h b 2 = (q : Int)) ∧ h (b + 2) k.toNat = tag ∧ h (b + 3) k.toNat = (q : Int) ∧ h (b + 4) k.toNat = v := fun v h eh => by
    refine ⟨fun c j q w => by rw [eh, up_n (by omega)]; exact F15 c j q w, ⟨?_, ?_⟩, ?_, ?_, ?_⟩
    · rw [eh, up_n (by omega)]; exact f15
    · rw [eh, up_n (by omega)]; exact p15
    · rw [eh, up_n (by omega)]; exact t15
    · rw [eh, up_n (by omega)]; exact a15
    · rw [eh, up_s]
  refine pc_if (fun w => ?_) (fun w => ?_)
  · refine pc_wA ?_; intro l1 l2 h18 e18
    obtain ⟨d1, ⟨d2, d3⟩, d4, d5, d6⟩ := D _ _ e18
    obtain ⟨g, g1, g2, g3, g4⟩ := rn_84 (nn := nn) (b := b) (B := B) (n := n) w m nn q 0 h18 (sr_if I (fk_if d1)) d2 d3 c3 (by omega) (by omega)
    rw [show ((0 + m : Nat) : Int) = (m : Int) by omega, show ((0 : Nat) : Int) = 0 from rfl] at g1
    rw [g1]
    refine pc_ret ⟨fk_fr d1 g2, ?_, ?_, ?_, fun z => absurd z w⟩
    · rw [if_neg w]
      unfold sk_S
      by_cases y : q + m ≤ n
      · rw [if_pos y]; exact ⟨(g3 y).2, (g3 y).1, y⟩
      · rw [if_neg y]; exact g4 y
    · rw [g2 _ _ (by omega)]; exact d4
    · rw [g2 _ _ (by omega)]; exact d5
  · have w := Decidable.not_not.1 w
    refine pc_xl ?_; intro v20 e20
    rw [p15, oq_add_eq (by omega) (by omega) (by omega)] at e20
    refine pc_wA ?_; intro l1 l2 h21 e21
    obtain ⟨d1, ⟨d2, d3⟩, d4, d5, d6⟩ := D _ _ e21
    obtain ⟨g, g1, g2, g3, g4⟩ := rt_84 (nn := nn) (b := b) (B := B) (n := n) m nn q 0 h21 (sr_if I (fk_if d1)) d2 d3 (by omega) (by omega)
    rw [show ((0 + m : Nat) : Int) = (m : Int) by omega, show ((0 : Nat) : Int) = 0 from rfl] at g1
    rw [w, g1]
    refine pc_ret ⟨fk_fr d1 g2, ?_, ?_, ?_, fun _ => ?_⟩
    · rw [if_pos rfl]
      unfold tb_S
      cases y : tb_N B n q m with
      | none => exact ⟨(g3 y).2, (g3 y).1, tb_le m q c3 y⟩
      | some f => exact g4 f y
    · rw [g2 _ _ (by omega), d4, w]
    · rw [g2 _ _ (by omega)]; exact d5
    · rw [g2 _ _ (by omega), d6]; omega
/-- what stands in the tables for the constant at p -/
def TEp (b n : Nat) (B : Nat → Int) (k : Int) (p : Nat) (M : ms_M) : Prop := M (b + 2) k.toNat = B p ∧ (B p = 1 → M (b + 3) k.toNat = ((p + 2 : Nat) : Int) ∧ M (b + 4) k.toNat = ((p + 2 + (B (p + 1)).toNat : Nat) : Int) ∧ p + 2 + (B (p + 1)).toNat ≤ n ∧ 1 ≤ (B (p + 1)).toNat ∧ (B (p + 1)).toNat ≤ 120 ∧ B (p + 1) = ((B (p + 1)).toNat : Int)) ∧ (B p = 3 → M (b + 3) k.toNat = ((p + 1 : Nat) : Int) ∧ p + 2 ≤ n) ∧ (B p = 4 ∨ B p = 2 → M (b + 3) k.toNat = ((p + 1 : Nat) : Int) ∧ p + 4 ≤ n ∧ (B p = 2 → p + 5 ≤ n))
theorem c_const (hn : 1000000 ≤ nn) {k : Int} {p : Nat} (I : sr_I M b B n) (C : CRs b n (.inr p) M) : Pc (qf_X3_readConstant nn b k M) (fun r => FKp b k M r ∧ CRs b n (ct_S B n p) r ∧ ∀ q, ct_S B n p = .inr q → TEp b n B k p r) := by
  have hB : ∀ i, i < n → 0 ≤ B i ∧ B i ≤ 255 := fun i hi => sr_B I hi
  unfold qf_X3_readConstant
  refine pc_sv (c_upTo I C) ?_; intro u27 q27
  obtain ⟨f27, C27, v27⟩ := q27
  have I27 := sr_fr I f27
  rw [bd_r] at C27
  by_cases w : p < n
  · have v := v27 p rfl w
    have hp := hB p w
    by_cases g : 1 ≤ B p ∧ B p ≤ 4
    · have e1 : by_S B n (up_T 1 4) p = .inr (p + 1) := by
        unfold by_S up_T
        rw [if_pos w, if_pos (by rw [Bool.and_eq_true, decide_eq_true_iff, decide_eq_true_iff]; exact g)]
      rw [e1] at C27
      have go : ∀ m : Nat, m ≤ 4 → ¬ B p = 1 → ct_S B n p = sk_S n m (p + 1) → (B p = 3 → 1 ≤ m) → (B p = 4 ∨ B p = 2 → 3 ≤ m ∧ (B p = 2 → 4 ≤ m)) → Pc (qj_X3_readConstant_26 nn b k u27.1 (m : Int) u27.2) (fun r => FKp b k M r ∧ CRs b n (ct_S B n p) r ∧ ∀ q, ct_S B n p = .inr q → TEp b n B k p r) := by
        intro m hm h1 hc h3 h4
        unfold qj_X3_readConstant_26
        rw [v, if_pos h1]
        refine pc_imp (c_40r hn (by omega) I27 C27) (fun r q => ⟨fr_fk f27 q.1, ?_, fun x hx => ?_⟩)
        · have := q.2.1
          rw [if_neg h1] at this
          rw [hc]; exact this
        · obtain ⟨y1, y2, y3⟩ := q.2.2
          rw [hc] at hx
          have z := sk_le hx
          exact ⟨y1, fun z1 => absurd z1 h1, fun z3 => ⟨y2, by have := h3 z3; omega⟩, fun z4 => ⟨y2, by have := (h4 z4).1; omega, fun z2 => by have := (h4 z4).2 z2; omega⟩⟩
      refine pc_if (fun n2 => pc_if (fun n3 => ?_) (fun n3 => ?_)) (fun n2 => ?_)
      · rw [v] at n2 n3
        by_cases n1 : B p = 1
        · unfold qj_X3_readConstant_26
          rw [v, if_neg (fun z => z n1)]
          refine pc_sv (c_upTo I27 C27) ?_; intro u24 q24
          obtain ⟨f24, C24, v24⟩ := q24
          have I24 := sr_fr I27 f24
          rw [bd_r] at C24
          by_cases w1 : p + 1 < n
          · have vv := v24 (p + 1) rfl w1
            have hp1 := hB (p + 1) w1
            by_cases g1 : 1 ≤ B (p + 1) ∧ B (p + 1) ≤ 120
            · have e2 : by_S B n (up_T 1 120) (p + 1) = .inr (p + 1 + 1) := by
                unfold by_S up_T
                rw [if_pos w1, if_pos (by rw [Bool.and_eq_true, decide_eq_true_iff, decide_eq_true_iff]; exact g1)]
              rw [e2] at C24
              have em : u24.1 = ((B (p + 1)).toNat : Int) := by rw [vv]; omega
              rw [em]
              have hc : ct_S B n p = tb_S B n (B (p + 1)).toNat (p + 2) := by
                unfold ct_S ct_N tb_S
                rw [if_pos w, if_pos n1, if_pos w1]
                dsimp only
                rw [if_neg (by omega)]
                cases tb_N B n (p + 2) (B (p + 1)).toNat <;> rfl
              refine pc_imp (c_40r hn (by omega) I24 C24) (fun r q => ⟨fr_fk f27 (fr_fk f24 q.1), ?_, fun x hx => ?_⟩)
              · have := q.2.1
                rw [if_pos n1] at this
                rw [hc]; exact this
              · obtain ⟨y1, y2, y3⟩ := q.2.2
                rw [hc] at hx
                have z : tb_N B n (p + 2) (B (p + 1)).toNat = none := by
                  unfold tb_S at hx
                  cases zz : tb_N B n (p + 2) (B (p + 1)).toNat with
                  | none => rfl
                  | some f => rw [zz] at hx; cases hx
                have z2 := tb_le _ _ (by omega) z
                refine ⟨y1, fun _ => ⟨y2, y3 n1, z2, by omega, by omega, by omega⟩, fun z3 => absurd z3 n3, fun z4 => absurd z4 (by omega)⟩
            · have e2 : by_S B n (up_T 1 120) (p + 1) = .inl (p + 1) := by
                unfold by_S up_T
                rw [if_pos w1, if_neg (by rw [Bool.and_eq_true, decide_eq_true_iff, decide_eq_true_iff]; exact g1)]
              rw [e2] at C24
              have hc : ct_S B n p = .inl (p + 1) := by
                unfold ct_S ct_N
                rw [if_pos w, if_pos n1, if_pos w1]
                dsimp only
                rw [if_pos (by omega)]
              rw [hc]
              exact pc_imp (c_40l I24 C24) (fun r q => ⟨fr_fk f27 (fr_fk f24 q.1), q.2, fun x hx => nomatch hx⟩)
          · have e2 : by_S B n (up_T 1 120) (p + 1) = .inl n := by unfold by_S; rw [if_neg w1]
            rw [e2] at C24
            have hc : ct_S B n p = .inl n := by
              unfold ct_S ct_N
              rw [if_pos w, if_pos n1, if_neg w1]
            rw [hc]
            exact pc_imp (c_40l I24 C24) (fun r q => ⟨fr_fk f27 (fr_fk f24 q.1), q.2, fun x hx => nomatch hx⟩)
        · have n4 : B p = 4 := by omega
          refine go 3 (by omega) n1 ?_ (fun z => absurd z n3) (fun _ => ⟨by omega, fun z => absurd z n2⟩)
          unfold ct_S ct_N sk_S
          rw [if_pos w, if_neg n1, if_neg n2, if_neg n3, if_pos n4]
          dsimp only
          by_cases y : p + 3 < n
          · rw [if_pos y, if_pos (by omega)]
          · rw [if_neg y, if_neg (by omega)]
      · have n3 := Decidable.not_not.1 n3
        rw [v] at n3
        refine go 1 (by omega) (by omega) ?_ (fun _ => by omega) (fun z => absurd z (by omega))
        unfold ct_S ct_N sk_S
        rw [if_pos w, if_neg (by omega), if_neg (by omega), if_pos n3]
        dsimp only
        by_cases y : p + 1 < n
        · rw [if_pos y, if_pos (by omega)]
        · rw [if_neg y, if_neg (by omega)]
      · have n2 := Decidable.not_not.1 n2
        rw [v] at n2
        refine go 4 (by omega) (by omega) ?_ (fun z => absurd z (by omega)) (fun _ => ⟨by omega, fun _ => by omega⟩)
        unfold ct_S ct_N sk_S
        rw [if_pos w, if_neg (by omega), if_pos n2]
        dsimp only
        by_cases y : p + 4 < n
        · rw [if_pos y, if_pos (by omega)]
        · rw [if_neg y, if_neg (by omega)]
    · have e1 : by_S B n (up_T 1 4) p = .inl p := by
        unfold by_S up_T
        rw [if_pos w, if_neg (by rw [Bool.and_eq_true, decide_eq_true_iff, decide_eq_true_iff]; exact g)]
      rw [e1] at C27
      have hc : ct_S B n p = .inl p := by
        unfold ct_S ct_N
        rw [if_pos w, if_neg (by omega), if_neg (by omega), if_neg (by omega), if_neg (by omega)]
      rw [hc]
      have out : ∀ s0 : Int, Pc (qj_X3_readConstant_26 nn b k u27.1 s0 u27.2) (fun r => FKp b k M r ∧ CRs b n (.inl p) r ∧ ∀ q, (.inl p : Nat ⊕ Nat) = .inr q → TEp b n B k p r) := fun s0 => by
        unfold qj_X3_readConstant_26
        rw [v, if_pos (by omega)]
        exact pc_imp (c_40l I27 C27) (fun r q => ⟨fr_fk f27 q.1, q.2, fun x hx => nomatch hx⟩)
      exact pc_if (fun _ => pc_if (fun _ => out _) (fun _ => out _)) (fun _ => out _)
  · have e1 : by_S B n (up_T 1 4) p = .inl n := by unfold by_S; rw [if_neg w]
    rw [e1] at C27
    have hc : ct_S B n p = .inl n := by unfold ct_S; rw [if_neg w]
    rw [hc]
    have out : ∀ s0 : Int, Pc (qj_X3_readConstant_26 nn b k u27.1 s0 u27.2) (fun r => FKp b k M r ∧ CRs b n (.inl n) r ∧ ∀ q, (.inl n : Nat ⊕ Nat) = .inr q → TEp b n B k p r) := fun s0 => by
      unfold qj_X3_readConstant_26
      refine pc_if (fun _ => ?_) (fun _ => ?_)
      · exact pc_imp (c_40l I27 C27) (fun r q => ⟨fr_fk f27 q.1, q.2, fun x hx => nomatch hx⟩)
      · refine pc_sv (c_upTo I27 C27) ?_; intro u24 q24
        exact pc_imp (c_40l (sr_fr I27 q24.1) q24.2.1) (fun r q => ⟨fr_fk f27 (fr_fk q24.1 q.1), q.2, fun x hx => nomatch hx⟩)
    exact pc_if (fun _ => pc_if (fun _ => out _) (fun _ => out _)) (fun _ => out _)
/-- FORM at x, if there is none yet -/
theorem c_badx {s : Nat ⊕ Nat} {x : Nat} (C : CRs b n s M) : Pc (qf_X3_bad nn b (x : Int) M) (fun r => FRz b M r ∧ CRs b n (bd_S s (fun _ => .inl x)) r) := by
  rw [bad_ok]
  cases s with
  | inl e =>
    have C : M b 3 = (e : Int) := C
    rw [if_neg (by omega)]
    exact pc_ret ⟨frp_r, C⟩
  | inr p =>
    rw [if_pos C.1]
    exact pc_ret ⟨frp_3, up_s⟩
/-- a test without a byte -/
def te_S (t : Bool) (x : Nat) (p : Nat) : Nat ⊕ Nat := if t = true then .inr p else .inl x
theorem c_te {s : Nat ⊕ Nat} {t : Bool} {x : Nat} (C : CRs b n s M) (q : t = true) : CRs b n (bd_S s (te_S t x)) M := by
  cases s with
  | inl e => exact C
  | inr p => rw [bd_r]; unfold te_S; rw [if_pos q]; exact C
theorem c_tf {s : Nat ⊕ Nat} {t : Bool} {x : Nat} (C : CRs b n s M) (q : ¬ t = true) : Pc (qf_X3_bad nn b (x : Int) M) (fun r => FRz b M r ∧ CRs b n (bd_S s (te_S t x)) r) := by
  refine pc_imp (c_badx C) (fun r w => ⟨w.1, ?_⟩)
  cases s with
  | inl e => exact w.2
  | inr p =>
    rw [bd_r]; unfold te_S; rw [if_neg q]; exact w.2
theorem c_109 (hn : 1000000 ≤ nn) {k : Int} {l2 : Int} {s : Nat ⊕ Nat} (T : TTc b n B M) (t4 : tg_S B n k = 4) (e2 : l2 = ((pl_S B n k + 1 : Nat) : Int)) (C : CRs b n s M) : Pc (qj_X3_checkConstant_109 nn b l2 (pt_S B n k 2) M) (fun r => FRz b M r ∧ CRs b n (bd_S s (te_S (fk_S B n (pt_S B n k 2) || (pi_S B n (pt_S B n k 2)).isSome) (pl_S B n k + 3))) r) := by
  have n6 := T.1.2.1
  have w := tg_in (B := B) (n := n) (k := k) (by omega)
  have x := (T.2.2.2 k w.1 w.2.1).2.2.2 (by omega)
  unfold qj_X3_checkConstant_109
  rw [c_isField hn T, mx_svs]
  refine pc_if (fun c => pc_ret ⟨frp_r, c_te C (by rw [bi_t c, Bool.true_or])⟩) (fun c => ?_)
  have c := bi_f (Decidable.not_not.1 c)
  rw [c_par hn T, mx_svs]
  refine pc_if (fun d => pc_ret ⟨frp_r, c_te C ?_⟩) (fun d => ?_)
  · cases y : pi_S B n (pt_S B n k 2) with
    | none => rw [y] at d; exact absurd rfl d
    | some m => rw [Option.isSome_some, Bool.or_true]
  · have d := Decidable.not_not.1 d
    refine pc_xl ?_; intro v5 e5
    rw [e2, oq_add_eq (by omega) (by omega) (by omega)] at e5
    have e5 : v5 = ((pl_S B n k + 3 : Nat) : Int) := by omega
    rw [e5]
    refine pc_sv (c_tf (t := (fk_S B n (pt_S B n k 2) || (pi_S B n (pt_S B n k 2)).isSome)) C ?_) ?_
    · intro z
      rw [Bool.or_eq_true] at z
      rcases z with z | z
      · exact c z
      · cases y : pi_S B n (pt_S B n k 2) with
        | none => rw [y] at z; cases z
        | some m => rw [y] at d; unfold op_E at d; dsimp only at d; omega
    · intro u7 q7; exact pc_ret q7
theorem c_89 (hn : 1000000 ≤ nn) {k : Int} {l2 : Int} {s : Nat ⊕ Nat} (T : TTc b n B M) (t4 : tg_S B n k = 4) (e2 : l2 = ((pl_S B n k + 1 : Nat) : Int)) (C : CRs b n s M) : Pc (qj_X3_checkConstant_89 nn b k l2 (pt_S B n k 2) M) (fun r => FRz b M r ∧ CRs b n (bd_S (bd_S s (te_S (nm_S B n (pt_S B n k 1)) (pl_S B n k + 2))) (te_S (fk_S B n (pt_S B n k 2) || (pi_S B n (pt_S B n k 2)).isSome) (pl_S B n k + 3))) r) := by
  have n6 := T.1.2.1
  have w := tg_in (B := B) (n := n) (k := k) (by omega)
  have x := (T.2.2.2 k w.1 w.2.1).2.2.2 (by omega)
  unfold qj_X3_checkConstant_89
  have p1 := c_part (nn := nn) T (k := k) (i := 1) (.inr ⟨t4, by omega⟩)
  rw [show ((1 : Nat) : Int) = 1 from rfl] at p1
  rw [p1, mx_svs, c_isName hn T, mx_svs]
  refine pc_if (fun c => c_109 hn T t4 e2 (c_te C (bi_t c))) (fun c => ?_)
  have c := bi_f (Decidable.not_not.1 c)
  refine pc_xl ?_; intro v14 e14
  rw [e2, oq_add_eq (by omega) (by omega) (by omega)] at e14
  have e14 : v14 = ((pl_S B n k + 2 : Nat) : Int) := by omega
  rw [e14]
  refine pc_sv (c_tf C c) ?_; intro u16 q16
  exact pc_imp (c_109 hn (ttc_fr q16.1 T) t4 e2 q16.2) (fun r q => ⟨frp_t q16.1 q.1, q.2⟩)
theorem c_53 (hn : 1000000 ≤ nn) {k : Int} {l2 : Int} {s : Nat ⊕ Nat} (T : TTc b n B M) (w : 1 ≤ k ∧ k ≤ B 2) (e2 : tg_S B n k = 4 → l2 = ((pl_S B n k + 1 : Nat) : Int)) (C : CRs b n s M) : Pc (qj_X3_checkConstant_53 nn b k l2 M) (fun r => FRz b M r ∧ CRs b n (if tg_S B n k = 4 then bd_S (bd_S (bd_S s (te_S (cl_S B n (pt_S B n k 0)) (pl_S B n k + 1))) (te_S (nm_S B n (pt_S B n k 1)) (pl_S B n k + 2))) (te_S (fk_S B n (pt_S B n k 2) || (pi_S B n (pt_S B n k 2)).isSome) (pl_S B n k + 3)) else s) r) := by
  have tk : tg_S B n k = M (b + 2) k.toNat := by
    unfold tg_S; rw [if_pos w, (T.2.2.2 k w.1 w.2).1]
  unfold qj_X3_checkConstant_53
  refine pc_rA ?_; intro i1 i2 v19 e19
  rw [← tk] at e19
  refine pc_if (fun c => pc_ret ⟨frp_r, by rw [if_neg (by omega)]; exact C⟩) (fun c => ?_)
  have t4 : tg_S B n k = 4 := by omega
  have e2 := e2 t4
  rw [if_pos t4]
  have p2 := c_part (nn := nn) T (k := k) (i := 2) (.inr ⟨t4, by omega⟩)
  have p0 := c_part (nn := nn) T (k := k) (i := 0) (.inr ⟨t4, by omega⟩)
  rw [show ((2 : Nat) : Int) = 2 from rfl] at p2
  rw [show ((0 : Nat) : Int) = 0 from rfl] at p0
  rw [p2, mx_svs, p0, mx_svs, c_tag T, mx_svs]
  refine pc_if (fun d => c_89 hn T t4 e2 (c_te C (decide_eq_true d))) (fun d => ?_)
  rw [e2]
  refine pc_sv (c_tf C (fun z => d (of_decide_eq_true z))) ?_; intro u27 q27
  exact pc_imp (c_89 hn (ttc_fr q27.1 T) t4 rfl q27.2) (fun r q => ⟨frp_t q27.1 q.1, q.2⟩)
theorem c_check (hn : 1000000 ≤ nn) {k : Int} {p : Nat} (T : TTc b n B M) (w : 1 ≤ k ∧ k ≤ B 2) (C : CRs b n (.inr p) M) : Pc (qf_X3_checkConstant nn b k M) (fun r => FRz b M r ∧ CRs b n (match ck_S B n k with
    | some e => .inl e
    | none => .inr p) r) := by
  have tk : tg_S B n k = M (b + 2) k.toNat := by
    unfold tg_S; rw [if_pos w, (T.2.2.2 k w.1 w.2).1]
  have tb : tg_S B n k = B (pl_S B n k) := by unfold tg_S; rw [if_pos w]
  obtain ⟨x1, x2, x3, x4⟩ := T.2.2.2 k w.1 w.2
  unfold qf_X3_checkConstant
  refine pc_rA ?_; intro i1 i2 v33 e33
  refine pc_rA ?_; intro j1 j2 v35 e35
  rw [← tk] at e35
  have h4 : tg_S B n k = 4 → v33 = ((pl_S B n k + 1 : Nat) : Int) := fun z => by rw [e33]; exact (x4 (by omega)).1
  refine pc_if (fun c => ?_) (fun c => ?_)
  · refine pc_imp (c_53 hn T w h4 C) (fun r q => ⟨q.1, ?_⟩)
    have q2 := q.2
    unfold ck_S
    rw [if_neg (by omega)]
    by_cases t4 : tg_S B n k = 4
    · rw [if_pos t4] at q2 ⊢
      rw [bd_r] at q2
      unfold te_S at q2
      by_cases y1 : cl_S B n (pt_S B n k 0) = true
      · rw [if_pos y1] at q2 ⊢
        rw [bd_r] at q2
        by_cases y2 : nm_S B n (pt_S B n k 1) = true
        · rw [if_pos y2] at q2 ⊢
          rw [bd_r] at q2
          by_cases y3 : (fk_S B n (pt_S B n k 2) || (pi_S B n (pt_S B n k 2)).isSome) = true
          · rw [if_pos y3] at q2 ⊢; exact q2
          · rw [if_neg y3] at q2 ⊢; exact q2
        · rw [if_neg y2] at q2 ⊢; exact q2
      · rw [if_neg y1] at q2 ⊢; exact q2
    · rw [if_neg t4] at q2 ⊢; exact q2
  · have t3 : tg_S B n k = 3 := by omega
    have h3 : v33 = ((pl_S B n k + 1 : Nat) : Int) := by rw [e33]; exact (x3 (by omega)).1
    have p0 := c_part (nn := nn) T (k := k) (i := 0) (.inl ⟨t3, rfl⟩)
    rw [show ((0 : Nat) : Int) = 0 from rfl] at p0
    rw [p0, mx_svs, c_isName hn T, mx_svs]
    have fin : ∀ {g : ms_M}, TTc b n B g → CRs b n (te_S (nm_S B n (pt_S B n k 0) || (ar_S B n (pt_S B n k 0) && fk_S B n (pt_S B n k 0))) (pl_S B n k + 1) p) g → Pc (qj_X3_checkConstant_53 nn b k v33 g) (fun r => FRz b g r ∧ CRs b n (match ck_S B n k with
        | some e => .inl e
        | none => .inr p) r) := fun Tg Cg => by
      refine pc_imp (c_53 hn Tg w (fun z => absurd z (by omega)) Cg) (fun r q => ⟨q.1, ?_⟩)
      have q2 := q.2
      rw [if_neg (by omega)] at q2
      unfold ck_S
      rw [if_pos t3]
      unfold te_S at q2
      by_cases y : (nm_S B n (pt_S B n k 0) || (ar_S B n (pt_S B n k 0) && fk_S B n (pt_S B n k 0))) = true
      · rw [if_pos y] at q2 ⊢; exact q2
      · rw [if_neg y] at q2 ⊢; exact q2
    have bad : ¬ (nm_S B n (pt_S B n k 0) || (ar_S B n (pt_S B n k 0) && fk_S B n (pt_S B n k 0))) = true → Pc (qj_X3_checkConstant_48 nn b k v33 M) (fun r => FRz b M r ∧ CRs b n (match ck_S B n k with
        | some e => .inl e
        | none => .inr p) r) := fun z => by
      unfold qj_X3_checkConstant_48
      rw [h3]
      refine pc_sv (c_tf C z) ?_; intro u31 q31
      rw [← h3]
      exact pc_imp (fin (ttc_fr q31.1 T) q31.2) (fun r q => ⟨frp_t q31.1 q.1, q.2⟩)
    refine pc_if (fun c1 => fin T (c_te (s := .inr p) C (by rw [bi_t c1, Bool.true_or]))) (fun c1 => ?_)
    have c1 := bi_f (Decidable.not_not.1 c1)
    rw [c_isArr T, mx_svs]
    refine pc_if (fun c2 => bad ?_) (fun c2 => ?_)
    · rw [bi_0.1 c2, Bool.false_and, Bool.or_false]; exact c1
    rw [c_isField hn T, mx_svs]
    refine pc_if (fun c3 => fin T (c_te (s := .inr p) C (by rw [bi_t c2, bi_t c3]; exact Bool.or_true _))) (fun c3 => bad ?_)
    rw [bi_0.1 (Decidable.not_not.1 c3), Bool.and_false, Bool.or_false]; exact c1
end

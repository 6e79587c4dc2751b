/- HEADS: over a BLOCK -/
def BCl (K : Nat → Int) (X : Int → Int → Prop) : Prop := ∀ x o : Int, 0 ≤ x → (1 ≤ o ∧ o ≤ x) → ¬ K x.toNat = 0 → ((K x.toNat = 42 → X (x + 1) (o + 1)) ∧ (K x.toNat = 43 → X (x + 1) (o - 1)) ∧ (¬ K x.toNat = 42 → ¬ K x.toNat = 43 → X (x + 1) o)) → X x o
/-- tokens [p, q): as many { as }, and never more } than { -/
def BLz (K : Nat → Int) (p q : Int) : Prop := p ≤ q ∧ ∀ X : Int → Int → Prop, BCl K X → 0 ≤ p → ∀ o : Int, (1 ≤ o ∧ o ≤ p) → X q o → X p o
def BKz (K : Nat → Int) (p q : Int) : Prop := K p.toNat = 42 ∧ ∃ t : Int, BLz K (p + 1) t ∧ K t.toNat = 43 ∧ q = t + 1
def OKk (k : Int) : Prop := ¬ k = 0 ∧ ¬ k = 42 ∧ ¬ k = 43
section
variable {nn : Nat} {K P V U : Nat → Int} {C : Nat → Nat} {c n N : Nat} {h g r w u v T : ms_M} {x y z t : Int}
theorem bl_t (A : BLz K x y) (B : BLz K y z) : BLz K x z := ⟨by have := A.1; have := B.1; omega, fun X cl h o ho q => A.2 X cl h o ho (B.2 X cl (by have := A.1; omega) o (by have := A.1; omega) q)⟩
theorem bl_0 : BLz K x x := ⟨by omega, fun X cl h o ho q => q⟩
theorem bl_e (e : z = y) (A : BLz K x y) : BLz K x z := by rw [e]; exact A
theorem bl_1 (k : OKk (K x.toNat)) : BLz K x (x + 1) := ⟨by omega, fun X cl h o ho q => cl x o h ho k.1 ⟨fun z => absurd z k.2.1, fun z => absurd z k.2.2, fun _ _ => q⟩⟩
theorem bl_s (k : OKk (K x.toNat)) (B : BLz K (x + 1) y) : BLz K x y := bl_t (bl_1 k) B
theorem bl_2 (a : OKk (K x.toNat)) (b : OKk (K (x + 1).toNat)) : BLz K x (x + 2) := bl_e (by omega) (bl_t (bl_1 a) (bl_1 b))
theorem bl_3 (a : OKk (K x.toNat)) (b : OKk (K (x + 1).toNat)) (d : OKk (K (x + 2).toNat)) : BLz K x (x + 3) := bl_e (by omega) (bl_t (bl_2 a b) (bl_1 d))
theorem bl_b (k1 : K x.toNat = 42) (A : BLz K (x + 1) t) (k2 : K t.toNat = 43) : BLz K x (t + 1) := ⟨by have := A.1; omega, fun X cl h o ho q => by
  have a1 := A.1
  refine cl x o h ho (by omega) ⟨fun _ => ?_, fun z => absurd z (by omega), fun z => absurd k1 z⟩
  refine A.2 X cl (by omega) (o + 1) (by omega) ?_
  refine cl t (o + 1) (by omega) (by omega) (by omega) ⟨fun z => absurd z (by omega), fun _ => ?_, fun _ z => absurd k2 z⟩
  rw [show o + 1 - 1 = o by omega]; exact q⟩
theorem ok_k {k : Int} (q : ¬ k = 0 ∧ ¬ k = 42 ∧ ¬ k = 43) : OKk k := q
theorem st_ok {k : Int} (q : 0 ≤ st_T k) : OKk k := ⟨fun z => by rw [z] at q; exact absurd q (by decide), fun z => by rw [z] at q; exact absurd q (by decide), fun z => by rw [z] at q; exact absurd q (by decide)⟩
theorem bl_ty {bs rw : Int} (H : TYk K x t bs rw) : BLz K x t := by
  rcases H with ⟨a, b, d, e⟩ | ⟨a, ⟨b1, b2, b3, b4⟩ | ⟨b1, b2, b3⟩⟩
  · exact bl_e e (bl_1 (ok_k (by omega)))
  · exact bl_e b4 (bl_3 (ok_k (by omega)) (ok_k (by omega)) (ok_k (by omega)))
  · exact bl_e b3 (bl_1 (ok_k (by omega)))
theorem lk_bl {s : Nat} {d i l a b p q e : Int} (H : LKn d K T s i l a b p q e) : BLz K p q ∧ (s = 8 → BKz K p q ∧ T 169 e.toNat = p) := by
  refine lk_ind (fun d s i l a b p q e => BLz K p q ∧ (s = 8 → BKz K p q ∧ T 169 e.toNat = p)) ?_ ?_ ?_ ?_ ?_ ?_ ?_ ?_ ?_ ?_ ?_ ?_ ?_ ?_ ?_ ?_ ?_ ?_ ?_ ?_ ?_ ?_ ?_ ?_ ?_ ?_ ?_ ?_ ?_ ?_ ?_ ?_ ?_ ?_ ?_ ?_ ?_ ?_ H
  · intro d i a b p q e x _; exact ⟨x.2.1, fun z => absurd z (by decide)⟩
  · intro d ix iy iz t u y a b p q e _ _ _ x1 _ k1 x2 _ k2 x3 _
    exact ⟨bl_t x1.2.1 (bl_s (ok_k (by omega)) (bl_t x2.2.1 (bl_s (ok_k (by omega)) x3.2.1))), fun z => absurd z (by decide)⟩
  · intro d i l a b p q e x; exact ⟨x.2.1, fun z => absurd z (by decide)⟩
  · intro d ix iy l s t a b p q e _ _ ks x1 _ x2 _
    exact ⟨bl_t x1.2.1 (bl_s (st_ok (by omega)) x2.2.1), fun z => absurd z (by decide)⟩
  · intro d ix l t a b p q e _ _ k x _
    exact ⟨bl_t x.2.1 (bl_e k.2.2.2 (bl_2 (ok_k (by omega)) (ok_k (by omega)))), fun z => absurd z (by decide)⟩
  · intro d ix a b p q e _ k x _
    exact ⟨bl_s (ok_k (by omega)) x.2.1, fun z => absurd z (by decide)⟩
  · intro d ix a b p q e _ k x _
    obtain ⟨⟨k1, k2, k3, -⟩, -⟩ := k
    exact ⟨bl_t (bl_3 (ok_k (by omega)) (ok_k (by omega)) (ok_k (by omega))) x.2.1, fun z => absurd z (by decide)⟩
  · intro d i a b p q e x _; exact ⟨x.2.1, fun z => absurd z (by decide)⟩
  · intro d a b p q e _ k _
    exact ⟨bl_e k.2.2 (bl_1 (ok_k (by omega))), fun z => absurd z (by decide)⟩
  · intro d a b p q e _ _ k _
    exact ⟨bl_e k.2.2 (bl_1 (ok_k (by omega))), fun z => absurd z (by decide)⟩
  · intro d a b p q e _ _ k x _
    exact ⟨bl_s (ok_k (by omega)) x.2.1, fun z => absurd z (by decide)⟩
  · intro d i t a b p q e k x
    exact ⟨bl_s (ok_k (by omega)) (bl_t x.2.1 (bl_e k.2.2 (bl_1 (ok_k (by omega))))), fun z => absurd z (by decide)⟩
  · intro d ix t a b p q e _ _ k x _ k2
    exact ⟨bl_t (bl_3 (ok_k (by omega)) (ok_k (by omega)) (ok_k (by omega))) (bl_t x.2.1 (bl_e k2.2 (bl_1 (ok_k (by omega))))), fun z => absurd z (by decide)⟩
  · intro d a b p q e _ _ k _
    exact ⟨bl_e (by omega) (bl_t (bl_3 (x := p) (ok_k (by omega)) (ok_k (by omega)) (ok_k (by omega))) (bl_1 (ok_k (by omega)))), fun z => absurd z (by decide)⟩
  · intro d ix t a b p q e _ _ k x _ k2
    exact ⟨bl_t (bl_3 (ok_k (by omega)) (ok_k (by omega)) (ok_k (by omega))) (bl_t x.2.1 (bl_e k2.2 (bl_1 (ok_k (by omega))))), fun z => absurd z (by decide)⟩
  · intro d ix t a b p q e _ _ k x _
    exact ⟨bl_t x.2.1 (bl_e k.2.2.2 (bl_2 (ok_k (by omega)) (ok_k (by omega)))), fun z => absurd z (by decide)⟩
  · intro d ix t a b p q e _ _ k x _ x2
    exact ⟨bl_t x.2.1 (bl_t (bl_2 (ok_k (by omega)) (ok_k (by omega))) x2.2.1), fun z => absurd z (by decide)⟩
  · intro d ix iy t u a b p q e _ _ k x _ x2 _
    exact ⟨bl_t x.2.1 (bl_s (ok_k (by omega)) (bl_t x2.2.1 (bl_e k.2.2 (bl_1 (ok_k (by omega)))))), fun z => absurd z (by decide)⟩
  · intro d a b p q k
    exact ⟨bl_e k.2.2 (bl_2 (ok_k (by omega)) (ok_k (by omega))), fun z => absurd z (by decide)⟩
  · intro d a b p q e k x
    exact ⟨bl_s (ok_k (by omega)) x.2.1, fun z => absurd z (by decide)⟩
  · intro d ix t a b p q e _ x _ k
    exact ⟨bl_t x.2.1 (bl_e k.2.2 (bl_1 (ok_k (by omega)))), fun z => absurd z (by decide)⟩
  · intro d ix t a b p q e _ x _ k x2
    exact ⟨bl_t x.2.1 (bl_s (ok_k (by omega)) x2.2.1), fun z => absurd z (by decide)⟩
  · intro d a b p q e x; exact ⟨x.2.1, fun z => absurd z (by decide)⟩
  · intro d ix t u bs rw a b p q e _ _ k x _ k2
    exact ⟨bl_t (bl_ty k.1) (bl_t (bl_2 (ok_k (by omega)) (ok_k (by omega))) (bl_t x.2.1 (bl_e k2.2 (bl_1 (ok_k (by omega)))))), fun z => absurd z (by decide)⟩
  · intro d ix t y a b p q e _ _ _ k x _ k2 x2
    exact ⟨bl_t (bl_2 (ok_k (by omega)) (ok_k (by omega))) (bl_t x.2.1 (bl_s (ok_k (by omega)) x2.2.1)), fun z => absurd z (by decide)⟩
  · intro d ix t u y z a b p q e _ _ _ k x _ k2 x2 x3
    exact ⟨bl_t (bl_2 (ok_k (by omega)) (ok_k (by omega))) (bl_t x.2.1 (bl_s (ok_k (by omega)) (bl_t x2.2.1 (bl_s (ok_k (by omega)) x3.2.1)))), fun z => absurd z (by decide)⟩
  · intro d ix t y a b p q e _ _ _ k _ x _ k2 x2
    exact ⟨bl_t (bl_2 (ok_k (by omega)) (ok_k (by omega))) (bl_t x.2.1 (bl_s (ok_k (by omega)) x2.2.1)), fun z => absurd z (by decide)⟩
  · intro d a b p q e _ k k2 _
    exact ⟨bl_e k2.2 (bl_2 (ok_k (by omega)) (ok_k (by omega))), fun z => absurd z (by decide)⟩
  · intro d a b p q e _ _ k _
    exact ⟨bl_e k.2.2 (bl_2 (ok_k (by omega)) (ok_k (by omega))), fun z => absurd z (by decide)⟩
  · intro d ix t a b p q e _ _ k x _ k2
    exact ⟨bl_s (ok_k (by omega)) (bl_t x.2.1 (bl_e k2.2 (bl_1 (ok_k (by omega))))), fun z => absurd z (by decide)⟩
  · intro d ix t a b p q e _ _ k x _ k2
    exact ⟨bl_s (ok_k (by omega)) (bl_t x.2.1 (bl_e k2.2 (bl_1 (ok_k (by omega))))), fun z => absurd z (by decide)⟩
  · intro d ix t a b p q e _ _ k x _ k2
    exact ⟨bl_t (bl_2 (ok_k (by omega)) (ok_k (by omega))) (bl_t x.2.1 (bl_e k2.2.2 (bl_2 (ok_k (by omega)) (ok_k (by omega))))), fun z => absurd z (by decide)⟩
  · intro d t y a b p q e _ _ _ k x k2 x2
    exact ⟨bl_s (ok_k (by omega)) (bl_t x.2.1 (bl_t (bl_3 (ok_k (by omega)) (ok_k (by omega)) (ok_k (by omega))) (bl_t (bl_e (y := t + 3 + 2) (z := t + 5) (by omega) (bl_2 (x := t + 3) (ok_k (by omega)) (ok_k (by rw [show t + 3 + 1 = t + 4 by omega]; omega)))) x2.2.1))), fun z => absurd z (by decide)⟩
  · intro d ix t a b p q e _ _ _ x _ k
    exact ⟨bl_t x.2.1 (bl_e k.2 (bl_1 (ok_k (by omega)))), fun z => absurd z (by decide)⟩
  · intro d ix iy t u y a b p q e _ _ _ _ x _ k x2 _ k2
    exact ⟨bl_t x.2.1 (bl_s (ok_k (by omega)) (bl_t x2.2.1 (bl_e k2.2 (bl_1 (ok_k (by omega)))))), fun z => absurd z (by decide)⟩
  · intro d a b p _ _; exact ⟨bl_0, fun z => absurd z (by decide)⟩
  · intro d t y a b p q e _ _ x x2; exact ⟨bl_t x.2.1 x2.2.1, fun z => absurd z (by decide)⟩
  · intro d t a b p q e _ k0 k x k2
    exact ⟨bl_e k2.2 (bl_b k x.2.1 k2.1), fun _ => ⟨⟨k, t, x.2.1, k2⟩, k0.2⟩⟩
theorem tbc_k (B : TBc K P c h) (e : ∀ cc y : Nat, cc = 3 ∨ cc = 4 ∨ (cc = 2 ∧ y = 3) → g cc y = h cc y) : TBc K P c g := ⟨by rw [e 2 3 (by omega)]; exact B.1, fun i hi => by rw [e 3 i (by omega), e 4 i (by omega)]; exact B.2 i hi⟩
/-- the class goes over a BLOCK -/
theorem c_skp (BK : TBn K c) (B : TBc K P c h) (hf : h 2 11 = 0) {p : Nat} {q : Int} (p1 : 1 ≤ p) (h10 : h 2 10 = (p : Int)) (H : BKz K (p : Int) q) : Pc (qf_X2_skipBlock nn h) (fun u => u 2 10 = q ∧ ∀ cc y : Nat, ¬ (cc = 2 ∧ y = 10) → u cc y = h cc y) := by
  have n3 := BK.2.1
  obtain ⟨k42, t, bl, k43, qe⟩ := H
  rw [Int.toNat_natCast] at k42
  have pt := bl.1
  have plc := tb_lt BK (i := p) (by omega)
  have S6 : ∀ (X : Int → Int → Prop), X = (fun x o => ∀ (f : Nat) (g : ms_M), (∀ cc y : Nat, ¬ (cc = 2 ∧ y = 10) → g cc y = h cc y) → g 2 10 = x → Pc (qw_X2_skipBlock_6 nn f o (if o ≤ 0 then 0 else 1) (x - p) g) (fun u => u 2 10 = q ∧ ∀ cc y : Nat, ¬ (cc = 2 ∧ y = 10) → u cc y = h cc y)) → ∀ (x o : Int) (f : Nat) (g : ms_M), (0 ≤ x ∧ x ≤ 3001) → (∀ cc y : Nat, ¬ (cc = 2 ∧ y = 10) → g cc y = h cc y) → g 2 10 = x → X (x + 1) o → Pc (qj_X2_skipBlock_60 nn (qw_X2_skipBlock_6 nn f) o (x - p) g) (fun u => u 2 10 = q ∧ ∀ cc y : Nat, ¬ (cc = 2 ∧ y = 10) → u cc y = h cc y) := by
    intro X eX x o f g bx Ag gx HX
    rw [eX] at HX
    unfold qj_X2_skipBlock_60
    rw [gx]
    refine pc_add (by omega) ?_; intro v3 e3
    refine pc_xl ?_; intro h4 e4
    have A4 : ∀ cc y : Nat, ¬ (cc = 2 ∧ y = 10) → h4 cc y = h cc y := fun cc y z => by rw [e4, up_n z]; exact Ag cc y z
    have R := HX f h4 A4 (by rw [e4, up_s]; exact e3)
    rw [show x + 1 - (p : Int) = x - p + 1 by omega] at R
    refine pc_if (fun z => ?_) (fun z => ?_)
    · refine pc_add (by omega) ?_; intro v5 e5
      rw [if_pos z] at R
      rw [e5]; exact R
    · refine pc_add (by omega) ?_; intro v5 e5
      rw [if_neg z] at R
      rw [e5]; exact R
  have cl : BCl K (fun x o => ∀ (f : Nat) (g : ms_M), (∀ cc y : Nat, ¬ (cc = 2 ∧ y = 10) → g cc y = h cc y) → g 2 10 = x → Pc (qw_X2_skipBlock_6 nn f o (if o ≤ 0 then 0 else 1) (x - p) g) (fun u => u 2 10 = q ∧ ∀ cc y : Nat, ¬ (cc = 2 ∧ y = 10) → u cc y = h cc y)) := by
    intro x o hx ho kx ⟨a42, a43, an⟩ f g Ag gx
    have xc := tb_lt BK kx
    have gB := tbc_k B (fun cc y z => Ag cc y (by omega))
    have gf : g 2 11 = 0 := by rw [Ag 2 11 (by omega)]; exact hf
    rw [if_neg (show ¬ o ≤ 0 by omega)]
    cases f with
    | zero => exact pc_none
    | succ f =>
      unfold qw_X2_skipBlock_6
      refine pc_if (fun z => absurd z (by omega)) (fun _ => ?_)
      refine pc_if (fun z => absurd z (by decide)) (fun _ => ?_)
      refine pc_sv (c_kind BK gB xc (by omega) gf) ?_; intro u10 q10
      refine pc_if (fun z => absurd (q10.symm.trans z) kx) (fun _ => ?_)
      refine pc_sv (c_kind BK gB xc (by omega) gf) ?_; intro u13 q13
      refine pc_if (fun z => ?_) (fun z => ?_)
      · refine pc_sv (c_kind BK gB xc (by omega) gf) ?_; intro u16 q16
        refine pc_if (fun z2 => ?_) (fun z2 => ?_)
        · exact S6 _ rfl x o f g (by omega) Ag gx (an (by omega) (by omega))
        · refine pc_add (by omega) ?_; intro v17 e17
          rw [show v17 = o - 1 by omega]
          exact S6 _ rfl x (o - 1) f g (by omega) Ag gx (a43 (by omega))
      · refine pc_add (by omega) ?_; intro v19 e19
        rw [e19]
        exact S6 _ rfl x (o + 1) f g (by omega) Ag gx (a42 (by omega))
  unfold qf_X2_skipBlock
  cases hn : nn with
  | zero => exact pc_none
  | succ m =>
    rw [← hn]
    have pc := tb_lt BK (i := p) (by omega)
    have E : qw_X2_skipBlock_6 nn nn 0 1 0 h = qw_X2_skipBlock_6 nn (m + 1) 0 1 0 h := by rw [← hn]
    rw [E]
    unfold qw_X2_skipBlock_6
    refine pc_if (fun z => absurd z (by decide)) (fun _ => ?_)
    refine pc_if (fun z => absurd z (by decide)) (fun _ => ?_)
    refine pc_sv (c_kind BK B pc h10 hf) ?_; intro u10 q10
    refine pc_if (fun z => absurd z (by omega)) (fun _ => ?_)
    refine pc_sv (c_kind BK B pc h10 hf) ?_; intro u13 q13
    refine pc_if (fun z => absurd (q13.trans k42) z) (fun _ => ?_)
    refine pc_add (by omega) ?_; intro v19 e19
    rw [show v19 = 1 by omega]
    have XQ : ∀ (f : Nat) (g : ms_M), (∀ cc y : Nat, ¬ (cc = 2 ∧ y = 10) → g cc y = h cc y) → g 2 10 = t + 1 → Pc (qw_X2_skipBlock_6 nn f (1 - 1) (if (1 : Int) - 1 ≤ 0 then 0 else 1) (t + 1 - p) g) (fun u => u 2 10 = q ∧ ∀ cc y : Nat, ¬ (cc = 2 ∧ y = 10) → u cc y = h cc y) := by
      intro f g Ag gx
      rw [show (1 : Int) - 1 = 0 by omega, if_pos (show (0 : Int) ≤ 0 by decide)]
      cases f with
      | zero => exact pc_none
      | succ f =>
        unfold qw_X2_skipBlock_6
        refine pc_if (fun _ => pc_ret ⟨by omega, Ag⟩) (fun _ => ?_)
        exact pc_if (fun _ => pc_ret ⟨by omega, Ag⟩) (fun z => absurd rfl z)
    have ST := S6 _ rfl (p : Int) 1 m h (by omega) (fun _ _ _ => rfl) h10 (bl.2 _ cl (by omega) 1 (by omega) (cl t 1 (by omega) (by omega) (by omega) ⟨fun z => absurd z (by omega), fun _ => XQ, fun _ z => absurd k43 z⟩))
    rw [show (p : Int) - p = 0 by omega] at ST
    exact ST
end

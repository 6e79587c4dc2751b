/- RUN: what the reference's verify told, in the bytes of the images; constants of the method that runs -/
/-- both machines' surroundings -/
def ENa (Bf : Nat → Nat → Int) (nf : Nat → Nat) (cnt : Int) (A B : ms_M) : Prop := (CSw Bf nf A ∧ A 56 3 = cnt ∧ LKt Bf nf cnt A) ∧ (RSv Bf nf B ∧ B 160 98 = cnt) ∧ NKn Bf nf cnt ∧ HGo Bf nf cnt ∧ VOk Bf nf cnt
section
variable {nn : Nat} {Bf : Nat → Nat → Int} {nf : Nat → Nat} {cnt : Int} {k i t : Nat} {h g r p w R A B : ms_M} {ω : Int → ms_M} {o u c kk : Int}
theorem lkt_k (L : LKt Bf nf cnt A) (e : ∀ c : Nat, 68 ≤ c → c ≤ 70 → g c = A c) : LKt Bf nf cnt g := by
  unfold LKt LCs LMs LMt at L ⊢
  rw [e 68 (by omega) (by omega), e 69 (by omega) (by omega), e 70 (by omega) (by omega)]
  exact L
theorem en_k (E : ENa Bf nf cnt A B) (C : ∀ c j : Nat, c < 160 ∨ 256 ≤ c → ¬ (143 ≤ c ∧ c ≤ 152) → g c j = A c j) (D : ∀ x j : Nat, 226 ≤ x → x ≤ 237 → r x j = B x j) (e98 : r 160 98 = B 160 98) : ENa Bf nf cnt g r := by
  obtain ⟨⟨c1, c2, c3⟩, ⟨r1, r2⟩, rest⟩ := E
  exact ⟨⟨csw_r c1 C, (C 56 3 (by omega) (by omega)).trans c2, lkt_k c3 (fun c h1 h2 => funext fun j => C c j (by omega) (by omega))⟩, ⟨rsv_k r1 (fun x j w => D x j (by omega) (by omega)) e98, e98.trans r2⟩, rest⟩
/-- the text of class constant o -/
theorem rr_toc (S : RSv Bf nf h) (hk : (k : Int) < h 160 98) (t3 : tg_S (Bf k) (nf k) o = 3) : Pc (qf_X13_textOfClass nn (k : Int) o h) (fun u => u = pt_S (Bf k) (nf k) o 0) := by
  obtain ⟨n6, k8⟩ := tb_n6 S hk
  obtain ⟨i1, i2, i3⟩ := tg_in (B := Bf k) (n := nf k) (k := o) (by omega)
  obtain ⟨e228, kv, b255⟩ := tb_pl S hk i1 i2
  have kv3 := kv.2.2.1 (by omega)
  unfold qf_X13_textOfClass
  refine pc_xl ?_; intro w1 f1
  rw [oq_mul_eq (by omega) (by omega) (by omega)] at f1
  refine pc_add (by omega) ?_; intro w2 f2
  refine pc_rA ?_; intro _ _ w3 f3
  rw [show w2.toNat = (256 * (k : Int) + o).toNat by omega, e228] at f3
  refine pc_add (by omega) ?_; intro w4 f4
  rw [show w4 = ((pl_S (Bf k) (nf k) o + 1 : Nat) : Int) by omega]
  exact pc_sv (vq_rbyte S hk (p := pl_S (Bf k) (nf k) o + 1) (by omega)) (fun u q => pc_ret q)
/-- the class that name t says -/
theorem rr_cat (S : RSv Bf nf h) (hk : (k : Int) < h 160 98) {x : Int} (t1 : tg_S (Bf k) (nf k) x = 1) (nm : ∀ j : Nat, j < tl_S (Bf k) (nf k) x → ¬ Bf k (na_S (Bf k) (nf k) x + j) = 32) : Pc (qf_X13_classAtText nn (k : Int) x h) (CNo Bf nf (h 160 98) (fun j => Bf k (na_S (Bf k) (nf k) x + j)) (tl_S (Bf k) (nf k) x)) := by
  obtain ⟨n6, k8⟩ := tb_n6 S hk
  obtain ⟨p1, p2, p3, p4, p5, p6, p7⟩ := pi_le S hk t1
  have ena : na_S (Bf k) (nf k) x = pl_S (Bf k) (nf k) x + 2 := rfl
  unfold qf_X13_classAtText
  refine pc_xl ?_; intro w1 f1
  rw [oq_mul_eq (by omega) (by omega) (by omega)] at f1
  refine pc_xl ?_; intro w2 f2
  rw [oq_mul_eq (by omega) (by omega) (by omega)] at f2
  refine pc_add (by omega) ?_; intro w3 f3
  refine pc_rA ?_; intro _ _ w4 f4
  rw [show w3.toNat = (256 * (k : Int) + x).toNat by omega, p6] at f4
  refine pc_add (by omega) ?_; intro w5 f5
  refine pc_add (by omega) ?_; intro w6 f6
  refine pc_add (by omega) ?_; intro w7 f7
  refine pc_rA ?_; intro _ _ w8 f8
  rw [show w7.toNat = 6000 * k + (pl_S (Bf k) (nf k) x + 1) by omega, tb_by S hk (by omega), p4] at f8
  rw [f8, show w6 = ((6000 * k + na_S (Bf k) (nf k) x : Nat) : Int) by omega]
  have RW : RWt h 226 ((6000 * k + na_S (Bf k) (nf k) x : Nat) : Int) (tl_S (Bf k) (nf k) x) (fun j => Bf k (na_S (Bf k) (nf k) x + j)) := by
    refine ⟨by omega, by omega, by omega, fun j hj => ?_⟩
    rw [Int.toNat_natCast, Nat.add_assoc]; exact tb_by S hk (by omega)
  refine pc_sv (P := CNo Bf nf (h 160 98) (fun j => Bf k (na_S (Bf k) (nf k) x + j)) (tl_S (Bf k) (nf k) x)) ?_ (fun u q => pc_ret q)
  unfold qf_X13_classNamed
  exact r_classNamed (nn := nn) S.2 S.1 RW nm nn 0 (fun j _ hj => absurd hj (Nat.not_lt_zero j)) (fun j hj => absurd hj (Nat.not_lt_zero _)) (by have := S.1; show ((0 : Nat) : Int) ≤ _; omega)
theorem rs_zk (S : RSv Bf nf h) (hk : (k : Int) < h 160 98) : ∃ x : Nat, kk_S (Bf k) (nf k) = .inr x ∧ 0 ≤ Bf k 2 := by
  obtain ⟨x, a, b, _⟩ := kz_rk S hk
  exact ⟨x, a, b⟩
/-- the class that class constant o says -/
theorem rr_cls {α : Type} {G : Int → Option α} {Q : α → Prop} (N : NKn Bf nf (h 160 98)) (S : RSv Bf nf h) (hk : (k : Int) < h 160 98) (t3 : tg_S (Bf k) (nf k) o = 3) (n91 : ¬ Bf k (na_S (Bf k) (nf k) (pt_S (Bf k) (nf k) o 0)) = 91) (K : Pc (G (cq_F Bf nf (h 160 98) (Bf k) (nf k) o)) Q) : Pc (mx_sv (qf_X13_textOfClass nn (k : Int) o h) fun u7 => mx_sv (qf_X13_classAtText nn (k : Int) u7 h) fun u9 => G u9) Q := by
  obtain ⟨zx, zk, z2⟩ := rs_zk S hk
  obtain ⟨t1, tx⟩ := cl_tx zk z2 t3
  refine pc_sv (rr_toc S hk t3) ?_; intro u7 q7
  rw [q7]
  have nm : nm_N (fun j => Bf k (na_S (Bf k) (nf k) (pt_S (Bf k) (nf k) o 0) + j)) (tl_S (Bf k) (nf k) (pt_S (Bf k) (nf k) o 0)) = true := by
    rcases tx with ⟨w, _⟩ | ⟨w, _⟩
    · exact w
    · exact absurd w n91
  refine pc_sv (rr_cat S hk t1 (nm_32 nm)) ?_; intro u9 q9
  have e9 : u9 = cq_F Bf nf (h 160 98) (Bf k) (nf k) o := by
    unfold cq_F
    rw [if_neg n91]
    exact (cl_cn N lo_ok q9).symm
  rw [e9]; exact K
/-- .. of the method that runs -/
theorem rr_cin (N : NKn Bf nf (h 160 98)) (S : RSv Bf nf h) (hk : (k : Int) < h 160 98) (ht : h 160 149 = (t : Int) + 1) (t60 : t < 60) (e1 : h 251 t = 8 + (k : Int)) (t3 : tg_S (Bf k) (nf k) o = 3) (n91 : ¬ Bf k (na_S (Bf k) (nf k) (pt_S (Bf k) (nf k) o 0)) = 91) : Pc (qf_X13_classIn nn o h) (fun u => u = cq_F Bf nf (h 160 98) (Bf k) (nf k) o) := by
  obtain ⟨n6, k8⟩ := tb_n6 S hk
  unfold qf_X13_classIn
  rw [ht]
  refine pc_sub (by omega) ?_; intro v3 e3
  rw [show v3 = (t : Int) by omega]
  refine pc_rA ?_; intro _ _ v4 e4
  rw [Int.toNat_natCast, e1] at e4
  refine pc_sub (by omega) ?_; intro v5 e5
  rw [show v5 = (k : Int) by omega]
  exact rr_cls N S hk t3 n91 (pc_ret rfl)
theorem rr_prt (S : RSv Bf nf h) (hk : (k : Int) < h 160 98) (ht : h 160 149 = (t : Int) + 1) (t60 : t < 60) (e1 : h 251 t = 8 + (k : Int)) (t4 : tg_S (Bf k) (nf k) o = 4) {y : Nat} (hy : y ≤ 2) : Pc (qf_X13_memberPart nn o (y : Int) h) (fun u => u = pt_S (Bf k) (nf k) o y) := by
  obtain ⟨n6, k8⟩ := tb_n6 S hk
  obtain ⟨i1, i2, i3⟩ := tg_in (B := Bf k) (n := nf k) (k := o) (by omega)
  obtain ⟨e228, kv, b255⟩ := tb_pl S hk i1 i2
  have kv4 := (kv.2.2.2 (by omega)).1
  unfold qf_X13_memberPart
  rw [ht]
  refine pc_sub (by omega) ?_; intro v3 e3
  rw [show v3 = (t : Int) by omega]
  refine pc_rA ?_; intro _ _ v4 e4
  rw [Int.toNat_natCast, e1] at e4
  refine pc_sub (by omega) ?_; intro v5 e5
  rw [show v5 = (k : Int) by omega]
  refine pc_xl ?_; intro w1 f1
  rw [oq_mul_eq (by omega) (by omega) (by omega)] at f1
  refine pc_add (by omega) ?_; intro w2 f2
  refine pc_rA ?_; intro _ _ w3 f3
  rw [show w2.toNat = (256 * (k : Int) + o).toNat by omega, e228] at f3
  refine pc_add (by omega) ?_; intro w4 f4
  refine pc_add (by omega) ?_; intro w5 f5
  rw [show w5 = ((pl_S (Bf k) (nf k) o + 1 + y : Nat) : Int) by omega]
  exact pc_sv (vq_rbyte S hk (p := pl_S (Bf k) (nf k) o + 1 + y) (by omega)) (fun u q => pc_ret q)
/-- the scanned image and its bytes -/
theorem tr_w (X : RX nn ω g R) (hk : (k : Int) < R 160 98) : WI R (k : Int) (ω k) ∧ (k : Int) < g 160 98 := by
  have e := X.2.1.1
  have c : 0 ≤ (k : Int) ∧ (k : Int) < g 160 98 := by omega
  exact ⟨wi_e X.2.1 c (X.1.2.1 (k : Int) c.1 c.2), c.2⟩
theorem tr_b (S : RSv Bf nf R) (W : WI R (k : Int) w) (hk : (k : Int) < R 160 98) {x : Int} (x0 : 0 ≤ x) (x1 : x < w 160 113) (x2 : x < (nf k : Int)) : w 238 x.toNat = Bf k x.toNat := by
  have e := W.2.2.1 x x0 x1
  have b := tb_by S hk (i := x.toNat) (by omega)
  rw [← e, ← b, show (6000 * (k : Int) + x).toNat = 6000 * k + x.toNat by omega]
theorem tr_p (S : RSv Bf nf R) (W : WI R (k : Int) w) (hk : (k : Int) < R 160 98) {x : Int} (h1 : 1 ≤ x) (h2 : x ≤ w 229 (k : Int).toNat) : pl w (k : Int) x = (pl_S (Bf k) (nf k) x : Int) ∧ x ≤ Bf k 2 ∧ KVs (Bf k) (nf k) x := by
  have e229 := W.2.2.2.2.1
  have b229 := (S.2 k hk).2.1.1
  have x2 : x ≤ Bf k 2 := by rw [← b229, e229]; exact h2
  obtain ⟨e228, kv, b255⟩ := tb_pl S hk h1 x2
  have := W.2.2.2.1 x (by omega) (by omega)
  exact ⟨by rw [← this, e228], x2, kv⟩
theorem tr_t (S : RSv Bf nf R) (W : WI R (k : Int) w) (hk : (k : Int) < R 160 98) {x s : Int} (T : SRT w (k : Int) x s) : tg_S (Bf k) (nf k) x = s := by
  obtain ⟨n6, k8⟩ := tb_n6 S hk
  obtain ⟨e, x2, kv⟩ := tr_p S W hk T.1.1 T.1.2
  obtain ⟨b1, b2, b3, _⟩ := wi_cs W (by omega) T.1
  have kv1 := kv.1
  have q := tr_b S W hk (x := pl w (k : Int) x) b3.1 (by omega) (by omega)
  rw [T.2, e, Int.toNat_natCast] at q
  have t1 := T.1.1
  unfold tg_S
  rw [if_pos ⟨t1, x2⟩]; exact q.symm
theorem tr_4 (S : RSv Bf nf R) (W : WI R (k : Int) w) (hk : (k : Int) < R 160 98) {x : Int} (T : SRT w (k : Int) x 4) {y : Nat} (hy : y ≤ 2) : w 238 (pl w (k : Int) x + 1 + (y : Int)).toNat = pt_S (Bf k) (nf k) x y := by
  obtain ⟨n6, k8⟩ := tb_n6 S hk
  obtain ⟨e, x2, kv⟩ := tr_p S W hk T.1.1 T.1.2
  obtain ⟨b1, b2, b3, _, b4⟩ := wi_cs W (by omega) T.1
  have b4 := b4 T.2
  have t4 := tr_t S W hk T
  obtain ⟨i1, i2, i3⟩ := tg_in (B := Bf k) (n := nf k) (k := x) (by omega)
  have kv4 := (kv.2.2.2 (by omega)).1
  have q := tr_b S W hk (x := pl w (k : Int) x + 1 + (y : Int)) (by omega) (by omega) (by omega)
  rw [q, show (pl w (k : Int) x + 1 + (y : Int)).toNat = pl_S (Bf k) (nf k) x + 1 + y by omega]; rfl
theorem tr_3 (S : RSv Bf nf R) (W : WI R (k : Int) w) (hk : (k : Int) < R 160 98) {x : Int} (T : CL w (k : Int) x) : tg_S (Bf k) (nf k) x = 3 ∧ w 238 (pl w (k : Int) x + 1).toNat = pt_S (Bf k) (nf k) x 0 := by
  obtain ⟨n6, k8⟩ := tb_n6 S hk
  obtain ⟨e, x2, kv⟩ := tr_p S W hk T.1.1 T.1.2
  obtain ⟨b1, b2, b3, _⟩ := wi_cs W (by omega) T.1
  have t3 := tr_t S W hk (s := 3) T
  obtain ⟨i1, i2, i3⟩ := tg_in (B := Bf k) (n := nf k) (k := x) (by omega)
  have kv3 := kv.2.2.1 (by omega)
  have q := tr_b S W hk (x := pl w (k : Int) x + 1) (by omega) (by omega) (by omega)
  exact ⟨t3, by rw [q, show (pl w (k : Int) x + 1).toNat = pl_S (Bf k) (nf k) x + 1 + 0 by omega]; rfl⟩
theorem ctv_91 {j u : Int} (F : CTv nn h c w j (4 + 2 * u)) : ¬ w 238 (pl w c (w 238 (pl w c j + 1).toNat) + 2).toNat = 91 := by
  rcases F with ⟨a, y, b, d⟩ | ⟨a, b⟩
  · exact a
  · exfalso
    rcases b with b | b | b | b | b
    · omega
    · omega
    · omega
    · omega
    · obtain ⟨_, _, y, _, b⟩ := b
      omega
/-- a class constant that stands for class u -/
theorem tr_cq (X : RX nn ω g R) (S : RSv Bf nf R) (N : NKn Bf nf (R 160 98)) (hk : (k : Int) < R 160 98) (cl : CL (ω k) (k : Int) o) (F : CTv nn g (k : Int) (ω k) o (4 + 2 * u)) : tg_S (Bf k) (nf k) o = 3 ∧ ¬ Bf k (na_S (Bf k) (nf k) (pt_S (Bf k) (nf k) o 0)) = 91 ∧ cq_F Bf nf (R 160 98) (Bf k) (nf k) o = u := by
  obtain ⟨n6, k8⟩ := tb_n6 S hk
  obtain ⟨W, hg⟩ := tr_w X hk
  obtain ⟨t3, e0⟩ := tr_3 S W hk cl
  obtain ⟨zx, zk, z2⟩ := rs_zk S hk
  obtain ⟨t1, tx⟩ := cl_tx zk z2 t3
  have c91 := ctv_91 F
  have cx := (wi_cl W (by omega) cl).2.2.2.2.1
  rw [e0] at c91 cx
  obtain ⟨a1, a2, a3, a4, a5⟩ := wi_tx W (by omega) cx
  obtain ⟨e, x2, kv⟩ := tr_p S W hk cx.1.1 cx.1.2
  obtain ⟨p1, p2, p3, p4, p5, p6, p7⟩ := pi_le S hk t1
  have ena : na_S (Bf k) (nf k) (pt_S (Bf k) (nf k) o 0) = pl_S (Bf k) (nf k) (pt_S (Bf k) (nf k) o 0) + 2 := rfl
  have q := tr_b S W hk (x := pl (ω k) (k : Int) (pt_S (Bf k) (nf k) o 0) + 2) (by omega) (by omega) (by omega)
  have n91 : ¬ Bf k (na_S (Bf k) (nf k) (pt_S (Bf k) (nf k) o 0)) = 91 := fun z => c91 (by rw [q, show (pl (ω k) (k : Int) (pt_S (Bf k) (nf k) o 0) + 2).toNat = na_S (Bf k) (nf k) (pt_S (Bf k) (nf k) o 0) by omega]; exact z)
  refine ⟨t3, n91, ?_⟩
  obtain ⟨y, ey, qy⟩ := g_class X ⟨by omega, hg⟩ cl F (G := fun z => some z) (Q := fun z => z = u) ⟨u, rfl, rfl⟩
  have := rr_cls (nn := nn) (G := fun z => some z) (Q := fun z => z = cq_F Bf nf (R 160 98) (Bf k) (nf k) o) N S hk t3 n91 (pc_ret rfl) y ey
  rw [← this, qy]
/-- the code of the method that runs -/
theorem tr_op {f tt : Int} {N : Nat} {T U : Nat → ms_M} {a : Nat} (X : RX nn ω g R) (S : RSv Bf nf R) (AT : ATF nn g ω R f (k : Int) (i : Int) N T U tt a p) : (k : Int) < R 160 98 ∧ (i : Int) < mc_S (Bf k) (nf k) ∧ p 160 134 = ((ma_S (Bf k) (nf k) i + 7 : Nat) : Int) ∧ (p 160 135 ≤ 1500 ∧ ∀ x : Nat, (x : Int) ≤ p 160 135 → ω k 238 (p 160 134 + (x : Int)).toNat = Bf k (ma_S (Bf k) (nf k) i + 7 + x) ∧ ma_S (Bf k) (nf k) i + 7 + x < nf k) := by
  obtain ⟨⟨m, L, q0, bd⟩, ⟨c0, k0⟩, _⟩ := AT
  have e98 := X.2.1.1
  have AE := X.2.1
  have hk : (k : Int) < R 160 98 := by omega
  obtain ⟨n6, k8⟩ := tb_n6 S hk
  obtain ⟨W, hg⟩ := tr_w X hk
  have M := bd.1.2.2
  have cd := mc_code M
  obtain ⟨_, _, _, _, _, _, _, e135, e134⟩ := M
  obtain ⟨GI, _, m234, MD⟩ := rg_im (S.2 k hk)
  have hi : (i : Int) < mc_S (Bf k) (nf k) := by
    rw [← m234, (AE.2 (k : Int) c0.1 c0.2).2.2.1.2.2.2.2]; exact k0.2
  have m12 := GI.2.2.1
  have G := GI.2.2.2 i hi
  obtain ⟨_, _, _, ⟨l1, l2, l3⟩, _⟩ := G
  have e235 : p 235 (12 * (k : Int) + (i : Int)).toNat = (ma_S (Bf k) (nf k) i : Int) := by
    rw [bd.1.1.1 235 _ (by decide) (by decide), ← ((AE.2 (k : Int) c0.1 c0.2).2.2.2 (i : Int) (by omega) (by omega)).2.1]
    exact (MD i hi).1
  rw [e235] at e134 e135
  have b5 := tr_b S W hk (x := (ma_S (Bf k) (nf k) i : Int) + 5) (by omega) (by omega) (by omega)
  have b6 := tr_b S W hk (x := (ma_S (Bf k) (nf k) i : Int) + 6) (by omega) (by omega) (by omega)
  rw [show ((ma_S (Bf k) (nf k) i : Int) + 5).toNat = ma_S (Bf k) (nf k) i + 5 by omega] at b5
  rw [show ((ma_S (Bf k) (nf k) i : Int) + 6).toNat = ma_S (Bf k) (nf k) i + 5 + 1 by omega] at b6
  have r5 := (S.2 k hk).1.2.2.2 (ma_S (Bf k) (nf k) i + 5) (by omega)
  have eln : p 160 135 = ln_N (Bf k) (ma_S (Bf k) (nf k) i + 5) := by
    rw [e135, show ((ma_S (Bf k) (nf k) i : Int) + 5).toNat = ma_S (Bf k) (nf k) i + 5 by omega, show ((ma_S (Bf k) (nf k) i : Int) + 6).toNat = ma_S (Bf k) (nf k) i + 5 + 1 by omega, b5, b6]
    unfold pw ln_N
    rw [oq_shl_8 r5]
  refine ⟨hk, hi, by omega, by omega, fun x hx => ?_⟩
  have xn : ma_S (Bf k) (nf k) i + 7 + x < nf k := by omega
  refine ⟨?_, xn⟩
  rw [tr_b S W hk (x := p 160 134 + (x : Int)) (by omega) (by omega) (by omega), show (p 160 134 + (x : Int)).toNat = ma_S (Bf k) (nf k) i + 7 + x by omega]
end

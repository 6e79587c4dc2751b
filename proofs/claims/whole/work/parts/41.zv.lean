/- VERIFY: what the class links once all is right -/
/-- how many fields the first i classes on the way up from c have; in all -/
noncomputable def fs_A (Bf : Nat → Nat → Int) (nf : Nat → Nat) (cnt c : Int) : Nat → Int
  | 0 => 0
  | i + 1 => fs_A Bf nf cnt c i + (if 8 ≤ ch_F Bf nf cnt c i then fc_S (Bf (ch_F Bf nf cnt c i - 8).toNat) (nf (ch_F Bf nf cnt c i - 8).toNat) else 0)
noncomputable def ca_F (Bf : Nat → Nat → Int) (nf : Nat → Nat) (cnt c : Int) : Int := fs_A Bf nf cnt c 17
/-- the number that INT a tells -/
def iv_V (B : Nat → Int) (n : Nat) (a : Int) : Int := oq_or (oq_or (oq_or (oq_shl (pt_S B n a 0) 24) (oq_shl (pt_S B n a 1) 16)) (oq_shl (pt_S B n a 2) 8)) (pt_S B n a 3)
/-- what constant a of image k is linked to -/
def LKv (Bf : Nat → Nat → Int) (nf : Nat → Nat) (cnt : Int) (k : Nat) (a v : Int) : Prop := (tg_S (Bf k) (nf k) a = 3 → v = cq_F Bf nf cnt (Bf k) (nf k) a) ∧ (tg_S (Bf k) (nf k) a = 4 → sk_V (Bf k) (nf k) a = 1 → LKu Bf nf cnt k (pt_S (Bf k) (nf k) a 1) 1 (cq_F Bf nf cnt (Bf k) (nf k) (pt_S (Bf k) (nf k) a 0)) v) ∧ (tg_S (Bf k) (nf k) a = 4 → sk_V (Bf k) (nf k) a = 0 → ∀ (d : Int) (j : Nat), (0 ≤ cq_F Bf nf cnt (Bf k) (nf k) (pt_S (Bf k) (nf k) a 0) ∧ cq_F Bf nf cnt (Bf k) (nf k) (pt_S (Bf k) (nf k) a 0) < 16) → HFd Bf nf cnt k (pt_S (Bf k) (nf k) a 1) 0 (cq_F Bf nf cnt (Bf k) (nf k) (pt_S (Bf k) (nf k) a 0)) d j → v = ca_F Bf nf cnt (sp_F Bf nf cnt d) + (j : Int)) ∧ (tg_S (Bf k) (nf k) a = 2 → v = iv_V (Bf k) (nf k) a)
/-- the method that stands for method m of class d in class 8 + k -/
def NRv2 (Bf : Nat → Nat → Int) (nf : Nat → Nat) (cnt : Int) (k : Nat) (d : Int) (m : Nat) (v : Int) : Prop := LKu Bf nf cnt (d - 8).toNat (nt_S (Bf (d - 8).toNat) (nf (d - 8).toNat) m 1) 1 (8 + (k : Int)) v
section
variable {nn : Nat} {Bf : Nat → Nat → Int} {nf : Nat → Nat} {cnt mx lc : Int} {B C D : Nat → Int} {n m b d k i L p q y : Nat} {M h g r h0 hb : ms_M} {t t2 c a op x rc : Int}
theorem csw_l (S : CSw Bf nf h) (A : ∀ c j : Nat, c < 160 ∨ 256 ≤ c → ¬ (68 ≤ c ∧ c ≤ 70) → g c j = h c j) : CSw Bf nf g := by
  obtain ⟨⟨s0, s1⟩, n1, n2, n3, n4⟩ := S
  have e3 : g 56 3 = h 56 3 := A _ _ (by omega) (by omega)
  refine ⟨⟨by rw [e3]; exact s0, fun k hk => ?_⟩, ⟨?_, fun j hj => by rw [A _ _ (by omega) (by omega)]; exact n2 j hj, fun j hj h2 => by rw [A _ _ (by omega) (by omega)]; exact n3 j hj (by omega), fun k hk => by rw [A 58 _ (by omega) (by omega), e3]; exact n4 k (by omega)⟩⟩
  · rw [A 60 k (by omega) (by omega)]
    have X := s1 k (by omega)
    have id := im_at X.1.1.1
    have t1 : ly_T (h (h 60 k).toNat 0).toNat = 1 := X.1.1.2.2.2.2.2.1
    have ec : cn_M g = cn_M h := by unfold cn_M; rw [A _ _ (by omega) (by omega)]
    refine imc_s ⟨fun c i c1 c2 => A _ _ (by omega) (by omega), fun i => A _ _ (ly_1r t1) (ly_68 t1).1, by omega, ?_⟩ X
    unfold ln_I
    split
    · rfl
    · exact A _ _ (by omega) (by omega)
  · have ef : g (57 + 1) = h (57 + 1) := funext (fun j => A _ _ (by omega) (by omega))
    unfold un_R
    rw [ef]
    intro x y hx hy
    rw [show g (57 + 2) (16 * x + y) = h (57 + 2) (16 * x + y) from A _ _ (by omega) (by omega)]
    exact n1 x y hx hy
theorem ch_lo {i : Nat} (e : ch_F Bf nf cnt c i < 8) (hc : c = -1 ∨ ISc cnt c) (c0 : 0 ≤ cnt) : ∀ j : Nat, ch_F Bf nf cnt c (i + j) < 8 := by
  intro j
  induction j with
  | zero => exact e
  | succ j ih =>
    rcases ch_is (Bf := Bf) (nf := nf) c0 hc (i + j) with w | w
    · have := ch_mm w 1
      rw [Nat.add_assoc] at this
      omega
    · have := chv_s (Bf := Bf) (nf := nf) (cnt := cnt) (c := c) (i := i + j) w.1
      rw [Nat.add_assoc] at this
      rw [this]
      have w1 := w.1
      rw [show ch_F Bf nf cnt c (i + j) = (((ch_F Bf nf cnt c (i + j)).toNat : Nat) : Int) by omega, sp_lt (by omega)]
      unfold bi_A
      split
      · omega
      · split <;> omega
theorem fs_st {i : Nat} (e : ch_F Bf nf cnt c i < 8) (hc : c = -1 ∨ ISc cnt c) (c0 : 0 ≤ cnt) : ∀ j : Nat, fs_A Bf nf cnt c (i + j) = fs_A Bf nf cnt c i := by
  intro j
  induction j with
  | zero => rfl
  | succ j ih =>
    have := ch_lo e hc c0 j
    show fs_A Bf nf cnt c (i + j) + (if 8 ≤ ch_F Bf nf cnt c (i + j) then fc_S (Bf (ch_F Bf nf cnt c (i + j) - 8).toNat) (nf (ch_F Bf nf cnt c (i + j) - 8).toNat) else 0) = _
    rw [if_neg (by omega), ih]
    omega
theorem fs_rg (H : HGo Bf nf cnt) (hc : c = -1 ∨ ISc cnt c) : ∀ i : Nat, 0 ≤ fs_A Bf nf cnt c i ∧ fs_A Bf nf cnt c i ≤ 12 * (i : Int) := by
  intro i
  induction i with
  | zero => exact ⟨Int.le_refl _, by show (0 : Int) ≤ 12 * ((0 : Nat) : Int); omega⟩
  | succ i ih =>
    show 0 ≤ fs_A Bf nf cnt c i + (if 8 ≤ ch_F Bf nf cnt c i then fc_S (Bf (ch_F Bf nf cnt c i - 8).toNat) (nf (ch_F Bf nf cnt c i - 8).toNat) else 0) ∧ fs_A Bf nf cnt c i + (if 8 ≤ ch_F Bf nf cnt c i then fc_S (Bf (ch_F Bf nf cnt c i - 8).toNat) (nf (ch_F Bf nf cnt c i - 8).toNat) else 0) ≤ _
    by_cases w : 8 ≤ ch_F Bf nf cnt c i
    · rw [if_pos w]
      rcases ch_is (Bf := Bf) (nf := nf) H.1.1 hc i with v | v
      · omega
      · unfold ISc at v
        have := (H.2 (ch_F Bf nf cnt c i - 8).toNat (by omega)).1.1
        omega
    · rw [if_neg w]
      omega
/-- FIELDS IN ALL, the class -/
theorem vc_ca7 (H : HGo Bf nf cnt) (S : CSw Bf nf h) (ec : h 56 3 = cnt) (hc : c = -1 ∨ ISc cnt c) {fe : Nat} (E : ch_F Bf nf cnt c fe = -1) : ∀ (f i : Nat), (∀ x : Nat, x < i → 8 ≤ ch_F Bf nf cnt c x) → Pc (qw_X7_cellsAbove_7 nn f (fs_A Bf nf cnt c i) (ch_F Bf nf cnt c i) (i : Int) h) (fun u => u = ca_F Bf nf cnt c) := by
  intro f
  induction f with
  | zero => intro i _; exact pc_none
  | succ f ih =>
    intro i A
    obtain ⟨z, z1, z2⟩ := ch_8 (Bf := Bf) (nf := nf) H.1 hc E
    have i8 : i ≤ 8 := Classical.byContradiction fun w => by
      have := A z (by omega)
      omega
    have r := fs_rg H hc i
    unfold qw_X7_cellsAbove_7
    refine pc_if (fun w => absurd w (by omega)) (fun _ => ?_)
    by_cases l8 : ch_F Bf nf cnt c i < 8
    · refine pc_sv (vc_im0 l8) ?_; intro u2 q2
      refine pc_if (fun _ => pc_ret ?_) (fun w => absurd (show u2 < 0 by omega) w)
      have := fs_st l8 hc H.1.1 (17 - i)
      rw [show i + (17 - i) = 17 by omega] at this
      exact this.symm
    · rcases ch_is (Bf := Bf) (nf := nf) H.1.1 hc i with v | v
      · omega
      have v' := v
      unfold ISc at v'
      have hd : (((ch_F Bf nf cnt c i - 8).toNat : Nat) : Int) < h 56 3 := by omega
      have X := S.1.2 (ch_F Bf nf cnt c i - 8).toNat hd
      have k3 : kc_O (h 60 (ch_F Bf nf cnt c i - 8).toNat).toNat = 3 := X.1.1.1
      have h60 : 0 ≤ h 60 (ch_F Bf nf cnt c i - 8).toNat := Classical.byContradiction fun w => by
        rw [show (h 60 (ch_F Bf nf cnt c i - 8).toNat).toNat = 0 by omega] at k3
        exact absurd k3 (by decide)
      obtain ⟨G, ⟨e10, -⟩, -⟩ := cg_im X
      have g1 := G.1
      refine pc_sv (vc_img S.1 (c := ch_F Bf nf cnt c i) (by omega) (by omega)) ?_; intro u2 q2
      rw [q2]
      refine pc_if (fun w => absurd w (by omega)) (fun _ => ?_)
      refine pc_ck (fun _ => ?_)
      rw [e10]
      refine pc_add (by omega) ?_; intro v6 e6
      have qa := vc_above (nn := nn) S (c := ch_F Bf nf cnt c i) (by rw [ec]; exact v)
      rw [ec] at qa
      refine pc_sv qa ?_; intro u9 q9
      refine pc_add (by omega) ?_; intro v10 e10'
      have ef : fs_A Bf nf cnt c (i + 1) = fs_A Bf nf cnt c i + fc_S (Bf (ch_F Bf nf cnt c i - 8).toNat) (nf (ch_F Bf nf cnt c i - 8).toNat) := by
        show fs_A Bf nf cnt c i + (if 8 ≤ ch_F Bf nf cnt c i then fc_S (Bf (ch_F Bf nf cnt c i - 8).toNat) (nf (ch_F Bf nf cnt c i - 8).toNat) else 0) = _
        rw [if_pos (by omega)]
      rw [e6, ← ef, q9, ← chv_s v.1, show v10 = ((i + 1 : Nat) : Int) by omega]
      refine ih (i + 1) (fun x hx => ?_)
      by_cases e : x = i
      · rw [e]; omega
      · exact A x (by omega)
theorem vc_cab (H : HGo Bf nf cnt) (S : CSw Bf nf h) (ec : h 56 3 = cnt) (hc : c = -1 ∨ ISc cnt c) : Pc (qf_X7_cellsAbove nn c h) (fun u => u = ca_F Bf nf cnt c) := by
  unfold qf_X7_cellsAbove
  have E : ∃ fe : Nat, ch_F Bf nf cnt c fe = -1 := by
    rcases hc with z | z
    · exact ⟨0, z⟩
    · exact ⟨17, hg_end H z⟩
  obtain ⟨fe, E⟩ := E
  exact vc_ca7 H S ec hc E nn 0 (fun x hx => absurd hx (by omega))
/-- .. the reference -/
theorem vr_fo4 (H : HGo Bf nf cnt) (N : NKn Bf nf cnt) (S : RSv Bf nf h) (ec : h 160 98 = cnt) (hc : c = -1 ∨ ISc cnt c) (E : ch_F Bf nf cnt c 17 = -1) : ∀ (f i : Nat), i ≤ 17 → Pc (qw_X13_fieldsOf_4 nn f (fs_A Bf nf cnt c i) (ch_F Bf nf cnt c i) h) (fun u => u = ca_F Bf nf cnt c) := by
  intro f
  induction f with
  | zero => intro i _; exact pc_none
  | succ f ih =>
    intro i hi
    have r := fs_rg H hc i
    have N' := N
    have h8 := H.1.2
    rw [← ec] at N'
    unfold qw_X13_fieldsOf_4
    refine pc_if (fun w => pc_ret ?_) (fun w => ?_)
    · have := fs_st (show ch_F Bf nf cnt c i < 8 by omega) hc H.1.1 (17 - i)
      rw [show i + (17 - i) = 17 by omega] at this
      exact this.symm
    have i17 : i < 17 := Classical.byContradiction fun v => w (by rw [show i = 17 by omega]; exact E)
    rcases ch_is (Bf := Bf) (nf := nf) H.1.1 hc i with v | v
    · exact absurd v w
    have v' := v
    unfold ISc at v'
    have qs := vr_super (nn := nn) N' S (c := ch_F Bf nf cnt c i) (by rw [ec]; exact v)
    rw [ec] at qs
    have NX : ∀ z : Int, fs_A Bf nf cnt c (i + 1) = fs_A Bf nf cnt c i + z → 0 ≤ z → z ≤ 12 → Pc (qj_X13_fieldsOf_29 nn (qw_X13_fieldsOf_4 nn f) (ch_F Bf nf cnt c i) z (fs_A Bf nf cnt c i) h) (fun u => u = ca_F Bf nf cnt c) := fun z ez z0 z12 => by
      unfold qj_X13_fieldsOf_29
      refine pc_add (by omega) ?_; intro v1 e1
      refine pc_sv qs ?_; intro u3 q3
      rw [e1, ← ez, q3, ← chv_s v.1]
      exact ih (i + 1) (by omega)
    refine pc_if (fun w8 => ?_) (fun w8 => ?_)
    · have hd : (((ch_F Bf nf cnt c i - 8).toNat : Nat) : Int) < h 160 98 := by omega
      obtain ⟨G, ⟨e232, -⟩, -⟩ := rg_im (S.2 (ch_F Bf nf cnt c i - 8).toNat hd)
      have g1 := G.1
      rw [Int.toNat_natCast] at e232
      refine pc_sub (by omega) ?_; intro v5 e5
      refine pc_rA ?_; intro _ _ v6 e6
      rw [show v5.toNat = (ch_F Bf nf cnt c i - 8).toNat by omega, e232] at e6
      rw [e6]
      refine NX _ ?_ g1.1 g1.2
      show fs_A Bf nf cnt c i + (if 8 ≤ ch_F Bf nf cnt c i then fc_S (Bf (ch_F Bf nf cnt c i - 8).toNat) (nf (ch_F Bf nf cnt c i - 8).toNat) else 0) = _
      rw [if_pos w8]
    · refine NX 0 ?_ (by omega) (by omega)
      show fs_A Bf nf cnt c i + (if 8 ≤ ch_F Bf nf cnt c i then fc_S (Bf (ch_F Bf nf cnt c i - 8).toNat) (nf (ch_F Bf nf cnt c i - 8).toNat) else 0) = _
      rw [if_neg w8]
theorem vr_fields (H : HGo Bf nf cnt) (N : NKn Bf nf cnt) (S : RSv Bf nf h) (ec : h 160 98 = cnt) (hc : c = -1 ∨ ISc cnt c) : Pc (qf_X13_fieldsOf nn c h) (fun u => u = ca_F Bf nf cnt c) := by
  have E : ch_F Bf nf cnt c 17 = -1 := by
    rcases hc with z | z
    · exact ch_mm (i := 0) z 17
    · exact hg_end H z
  unfold qf_X13_fieldsOf
  exact vr_fo4 H N S ec hc E nn 0 (by omega)
/-- a part of an INT; its number -/
theorem c_part2 (T : TTc b n B M) {e : Int} {i : Nat} (q2 : tg_S B n e = 2) (hi : i ≤ 3) : qf_X3_partOf nn b e (i : Int) M = some (pt_S B n e i) := by
  obtain ⟨t1, t2, t3, t4⟩ := T
  obtain ⟨w1, w2, w3⟩ := tg_in (B := B) (n := n) (k := e) (by omega)
  obtain ⟨x1, -, x3, x4⟩ := t4 e w1 w2
  have y : M (b + 3) e.toNat = ((pl_S B n e + 1 : Nat) : Int) ∧ pl_S B n e + 1 + i < n := by
    have z := x4 (by omega)
    have z2 := z.2.2 (by omega)
    exact ⟨z.1, by omega⟩
  have n6 := t1.2.1
  unfold qf_X3_partOf rd_A
  rw [if_neg (show ¬ e < 1 by omega), if_neg (show ¬ M b 7 < e by omega), if_neg (show ¬ 256 ≤ e by omega), if_pos (show 0 ≤ e ∧ e < 256 by omega)]
  dsimp only
  rw [xl_eq, y.1, oq_add_eq (by omega) (by omega) (by omega), byteAt_ok t1, mx_svs, if_pos (by omega)]
  unfold pt_S
  congr 2
theorem c_numI (T : TTc b n B M) {e : Int} (q : tg_S B n e = 2) : Pc (qf_X3_numberOf nn b e M) (fun u => u = iv_V B n e) := by
  have P : ∀ i : Nat, i ≤ 3 → Pc (qf_X3_partOf nn b e (i : Int) M) (fun u => u = pt_S B n e i) := fun i hi u eu => by
    rw [c_part2 T q hi] at eu
    exact (Option.some.inj eu).symm
  unfold qf_X3_numberOf
  refine pc_sv (P 0 (by omega)) ?_; intro u2 q2
  refine pc_xl ?_; intro v3 e3
  refine pc_sv (P 1 (by omega)) ?_; intro u5 q5
  refine pc_xl ?_; intro v6 e6
  refine pc_xl ?_; intro v7 e7
  refine pc_sv (P 2 (by omega)) ?_; intro u9 q9
  refine pc_xl ?_; intro v10 e10
  refine pc_xl ?_; intro v11 e11
  refine pc_sv (P 3 (by omega)) ?_; intro u13 q13
  refine pc_xl ?_; intro v14 e14
  refine pc_ret ?_
  unfold iv_V
  rw [e14, e11, e10, e7, e6, e3, q2, q5, q9, q13]
theorem vr_num (S : RSv Bf nf h) (hk : (k : Int) < h 160 98) {e : Int} (q : tg_S (Bf k) (nf k) e = 2) (hd : 1 ≤ h 160 149 ∧ h 160 149 ≤ 60) (ht : h 251 (h 160 149 - 1).toNat = 8 + (k : Int)) : Pc (qf_X13_intOf nn e h) (fun u => u = iv_V (Bf k) (nf k) e) := by
  obtain ⟨w1, w2, w3⟩ := tg_in (B := Bf k) (n := nf k) (k := e) (by omega)
  obtain ⟨a1, a2, a3⟩ := tb_pl S hk w1 w2
  have z := (a2.2.2.2 (.inr (by omega))).2 (by omega)
  obtain ⟨n6, k8⟩ := tb_n6 S hk
  have P : ∀ i : Nat, i ≤ 3 → Pc (qf_X13_byteAt nn (k : Int) (((pl_S (Bf k) (nf k) e + 1 + i : Nat)) : Int) h) (fun u => u = pt_S (Bf k) (nf k) e i) := fun i hi => pc_imp (vq_rbyte S hk (by omega)) (fun u eu => by rw [eu]; rfl)
  unfold qf_X13_intOf
  refine pc_sub (by omega) ?_; intro v3 e3
  refine pc_rA ?_; intro _ _ v4 e4
  rw [e3, ht] at e4
  refine pc_sub (by omega) ?_; intro v5 e5
  have e5 : v5 = (k : Int) := by omega
  subst e5
  refine pc_xl ?_; intro v7 e7
  rw [oq_mul_eq (by omega) (by omega) (by omega)] at e7
  refine pc_add (by omega) ?_; intro v8 e8
  refine pc_rA ?_; intro _ _ v9 e9
  rw [show v8.toNat = (256 * (k : Int) + e).toNat by omega, a1] at e9
  refine pc_add (by omega) ?_; intro v10 e10
  have e10 : v10 = ((pl_S (Bf k) (nf k) e + 1 + 0 : Nat) : Int) := by omega
  rw [e10]
  refine pc_sv (P 0 (by omega)) ?_; intro u12 q12
  refine pc_xl ?_; intro v13 e13
  refine pc_add (by omega) ?_; intro v14 e14
  rw [show v14 = ((pl_S (Bf k) (nf k) e + 1 + 1 : Nat) : Int) by omega]
  refine pc_sv (P 1 (by omega)) ?_; intro u16 q16
  refine pc_xl ?_; intro v17 e17
  refine pc_xl ?_; intro v18 e18
  refine pc_add (by omega) ?_; intro v19 e19
  rw [show v19 = ((pl_S (Bf k) (nf k) e + 1 + 2 : Nat) : Int) by omega]
  refine pc_sv (P 2 (by omega)) ?_; intro u21 q21
  refine pc_xl ?_; intro v22 e22
  refine pc_xl ?_; intro v23 e23
  refine pc_add (by omega) ?_; intro v24 e24
  rw [show v24 = ((pl_S (Bf k) (nf k) e + 1 + 3 : Nat) : Int) by omega]
  refine pc_sv (P 3 (by omega)) ?_; intro u26 q26
  refine pc_xl ?_; intro v27 e27
  refine pc_ret ?_
  unfold iv_V
  rw [e27, e23, e22, e18, e17, e13, q12, q16, q21, q26]
/-- LINK OF, the class -/
theorem vc_linkOf (H : HGo Bf nf cnt) (S : CSw Bf nf h) (ec : h 56 3 = cnt) (hk : (k : Int) < cnt) : Pc (qf_X7_linkOf nn (h 60 k).toNat a h) (LKv Bf nf cnt k a) := by
  have hk' : (k : Int) < h 56 3 := by omega
  obtain ⟨-, -, zx, zk, z2⟩ := H.2 k hk
  have T := (S.1.2 k hk').1
  have TG : Pc (qf_X3_tagOf nn (h 60 k).toNat a h) (fun u => u = tg_S (Bf k) (nf k) a) := fun u eu => by rw [c_tag T] at eu; exact (Option.some.inj eu).symm
  unfold qf_X7_linkOf
  refine pc_ck (fun _ => ?_)
  refine pc_sv TG ?_; intro u2 q2
  refine pc_if (fun n2 => ?_) (fun n2 => ?_)
  · refine pc_if (fun n3 => ?_) (fun n3 => ?_)
    · refine pc_if (fun n4 => ?_) (fun n4 => pc_ret ⟨fun w => absurd w (by omega), fun w => absurd w (by omega), fun w => absurd w (by omega), fun w => absurd w (by omega)⟩)
      have t4 : tg_S (Bf k) (nf k) a = 4 := by omega
      obtain ⟨t0, t1, t2', KK⟩ := mb_tx zk z2 t4
      have ci := cq_is (Bf := Bf) (nf := nf) H.1 zk z2 t0
      have P : ∀ i : Nat, i ≤ 2 → Pc (qf_X3_partOf nn (h 60 k).toNat a (i : Int) h) (fun u => u = pt_S (Bf k) (nf k) a i) := fun i hi u eu => by
        rw [c_part T (k := a) (i := i) (.inr ⟨t4, hi⟩)] at eu
        exact (Option.some.inj eu).symm
      have LK := vc_lk (nn := nn) S hk' (by rw [ec]; exact fun c hc => hg_end H hc) t1 (c := cq_F Bf nf cnt (Bf k) (nf k) (pt_S (Bf k) (nf k) a 0)) (by
        rw [ec]
        rcases ci with c | c
        · exact .inl c
        · rcases c.2 with c | c | c
          · exact .inr (.inr (by omega))
          · exact .inr (.inl c)
          · exact .inr (.inr (by omega)))
      rw [ec] at LK
      refine pc_sv (P 0 (by omega)) ?_; intro u4 q4
      rw [q4]
      have qc := vc_class (nn := nn) S.1 hk' (i := pt_S (Bf k) (nf k) a 0) t0
      rw [ec] at qc
      refine pc_sv qc ?_; intro u6 q6
      refine pc_sv (P 2 (by omega)) ?_; intro u8 q8
      rw [q8, q6]
      obtain ⟨w1, w2, w3⟩ := c_text (nn := nn) T t2'
      refine pc_sv (P := fun u => u = ((na_S (Bf k) (nf k) (pt_S (Bf k) (nf k) a 2) : Nat) : Int)) (fun u eu => by rw [w1] at eu; exact (Option.some.inj eu).symm) ?_; intro u10 q10
      rw [q10]
      have nl : na_S (Bf k) (nf k) (pt_S (Bf k) (nf k) a 2) < nf k := by
        rcases KK with ⟨_, z⟩ | ⟨_, m, z⟩
        · unfold fk_S at z
          rw [Bool.and_eq_true] at z
          have := (kd_s (of_decide_eq_true z.2)).2.1
          have e : na_S (Bf k) (nf k) (pt_S (Bf k) (nf k) a 2) = pl_S (Bf k) (nf k) (pt_S (Bf k) (nf k) a 2) + 2 := rfl
          omega
        · have := mkd_rg (ps_ok z).2.2 0 (Nat.zero_le _)
          omega
      refine pc_sv (P := fun u => u = Bf k (na_S (Bf k) (nf k) (pt_S (Bf k) (nf k) a 2))) (fun u eu => by rw [byteAt_in T.1 nl] at eu; exact (Option.some.inj eu).symm) ?_; intro u12 q12
      refine pc_if (fun w => ?_) (fun w => ?_)
      · have s0 : sk_V (Bf k) (nf k) a = 0 := by unfold sk_V; rw [if_neg (by rw [← q12]; exact w)]
        refine pc_sv (P 1 (by omega)) ?_; intro u14 q14
        rw [q14]
        refine pc_sv LK.2 ?_; intro u16 q16
        rcases q16 with ⟨l1, l2⟩ | ⟨d, j, ⟨l1, l2⟩, l3, l4, l5⟩
        · refine pc_if (fun v => absurd l1 v) (fun _ => pc_ret ⟨fun y => absurd y (by omega), fun _ y => absurd y (by omega), fun _ _ d j c16 HF => absurd ⟨c16, HF⟩ (l2 d j), fun y => absurd y (by omega)⟩)
        · have Gd := (H.2 (d - 8).toNat (by omega)).1
          have h8 := H.1
          have j12 : (j : Int) < 12 := by
            have g1 := Gd.1
            unfold mb_S at l4
            rw [if_pos rfl] at l4
            omega
          refine pc_if (fun _ => ?_) (fun v => absurd (show ¬ u16 = -1 by omega) v)
          refine pc_xl ?_; intro v17 e17
          rw [Int.tdiv_eq_ediv_of_nonneg (by omega)] at e17
          refine pc_add (by omega) ?_; intro v18 e18
          rw [show v18 = d by omega]
          have dI : ISc cnt d := by unfold ISc; omega
          have qa := vc_above (nn := nn) S (c := d) (by rw [ec]; exact dI)
          rw [ec] at qa
          refine pc_sv qa ?_; intro u21 q21
          rw [q21]
          have spc := sp_is (Bf := Bf) (nf := nf) H.1.1 (c := d) dI.1
          refine pc_sv (vc_cab H S ec spc) ?_; intro u23 q23
          have r := fs_rg H spc 17
          have r : 0 ≤ ca_F Bf nf cnt (sp_F Bf nf cnt d) ∧ ca_F Bf nf cnt (sp_F Bf nf cnt d) ≤ 12 * ((17 : Nat) : Int) := r
          refine pc_xl ?_; intro v24 e24
          rw [Int.tmod_eq_emod_of_nonneg (by omega)] at e24
          refine pc_add (by omega) ?_; intro v25 e25
          refine pc_ret ⟨fun y => absurd y (by omega), fun _ y => absurd y (by omega), fun _ _ d2 j2 c16 HF => ?_, fun y => absurd y (by omega)⟩
          obtain ⟨x1, x2⟩ := hfd_u HF l2
          rw [x1, x2]
          omega
      · have s1 : sk_V (Bf k) (nf k) a = 1 := by unfold sk_V; rw [if_pos (by rw [← q12]; omega)]
        refine pc_sv (P 1 (by omega)) ?_; intro u28 q28
        rw [q28]
        refine pc_sv LK.1 ?_; intro u30 q30
        exact pc_ret ⟨fun y => absurd y (by omega), fun _ _ => q30, fun _ y => absurd y (by omega), fun y => absurd y (by omega)⟩
    · have qc := vc_class (nn := nn) S.1 hk' (i := a) (by omega)
      rw [ec] at qc
      refine pc_sv qc ?_; intro u34 q34
      exact pc_ret ⟨fun _ => q34, fun y => absurd y (by omega), fun y => absurd y (by omega), fun y => absurd y (by omega)⟩
  · refine pc_sv (c_numI T (e := a) (by omega)) ?_; intro u37 q37
    exact pc_ret ⟨fun y => absurd y (by omega), fun y => absurd y (by omega), fun y => absurd y (by omega), fun _ => q37⟩
end

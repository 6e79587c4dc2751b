section
/- HEADS: parameters of both sides -/
/-- i parameters of member m (rows b on in the reference, at x in the class) -/
def PST (V : Nat → Int) (C : Nat → Nat) (n : Nat) (x b i : Nat) (g r : ms_M) : Prop := (g 27 x = (i : Int) ∧ i ≤ 6) ∧ ∀ j : Nat, j < i → g 28 (6 * x + j) = V (r 194 (b + j)).toNat ∧ TYR (g 29 (6 * x + j)) (r 195 (b + j)) ∧ ¬ g 29 (6 * x + j) = 303 ∧ TYS V C n (r 192 (b + j)) (r 191 (b + j)) (r 193 (b + j)) (g 29 (6 * x + j))
def AGp (x : Nat) (g0 g : ms_M) : Prop := ∀ cc y : Nat, ¬ (cc = 2 ∧ (y = 10 ∨ y = 11 ∨ y = 12)) → ¬ (cc = 27 ∧ y = x) → ¬ ((cc = 28 ∨ cc = 29) ∧ 6 * x ≤ y ∧ y < 6 * x + 6) → g cc y = g0 cc y
def ARr (b t : Nat) (r0 r : ms_M) : Prop := ∀ cc y : Nat, ¬ (cc = 160 ∧ (y = 9 ∨ y = 10)) → ¬ (cc = 195 ∧ b ≤ y ∧ y < b + t) → r cc y = r0 cc y
section
variable {nn : Nat} {K P V U : Nat → Int} {C : Nat → Nat} {c n N : Nat} {h g r w u v g0 r0 : ms_M}
theorem c_prm (BK : TBn K c) (S : CKd K V C n N) (n8 : n ≤ 8) (B : TBc K P c g) (L : VLc K V c g) (NC : NCl V C n N g) (gf : g 2 11 = 0) {x i p t : Nat} {bs rw : Int} (hx : x < 96) (g10 : g 2 10 = (p : Int)) (e27 : g 27 x = (i : Int)) (i6 : i ≤ 6) (T : TYk K (p : Int) (t : Int) bs rw) (kt : K t = 2) : Pc (qf_X2_addParameter nn (x : Int) g) (fun u => (bs = 3 ∧ CLz (fun k => V (C k)) n (V p) (-1) ∧ u 2 11 = 5 ∧ u 2 12 = P p) ∨ ∃ ty : Int, TYS V C n (p : Int) bs rw ty ∧ ((i = 6 ∧ u 2 11 = 11 ∧ u 2 12 = P t) ∨ (i < 6 ∧ (∃ j : Nat, j < i ∧ g 28 (6 * x + j) = V t) ∧ u 2 11 = 4 ∧ u 2 12 = P t) ∨ (i < 6 ∧ (∀ j : Nat, j < i → ¬ g 28 (6 * x + j) = V t) ∧ ((K (t + 1) = 47 ∧ u 2 10 = ((t + 2 : Nat) : Int)) ∨ (¬ K (t + 1) = 47 ∧ u 2 10 = ((t + 1 : Nat) : Int))) ∧ (u 27 x = (i : Int) + 1 ∧ u 28 (6 * x + i) = V t ∧ u 29 (6 * x + i) = ty) ∧ ∀ cc y : Nat, ¬ (cc = 2 ∧ y = 10) → ¬ (cc = 27 ∧ y = x) → ¬ ((cc = 28 ∨ cc = 29) ∧ y = 6 * x + i) → u cc y = g cc y))) := by
  have n3 := BK.2.1
  have tc := tb_lt BK (i := t) (by omega)
  have tb := tyk_b T
  unfold qf_X2_addParameter
  refine pc_sv (c_type BK S n8 B L NC gf g10 T (by omega)) ?_; intro u40 q40
  rcases q40 with ⟨q1, q2, q3⟩ | q5
  · have B2 := tbc_k B (fun cc y z => q3 cc y (by omega))
    have L2 : VLc K V c u40.2 := fun i hi ki => by rw [q3 5 i (by omega)]; exact L i hi ki
    have f2 : u40.2 2 11 = 0 := by rw [q3 2 11 (by omega)]; exact gf
    rw [q2]
    refine pc_sv (c_valueAt BK B2 L2 kt rfl) ?_; intro u45 q45
    rw [q45]
    refine pc_xl ?_; intro v46 e46
    rw [oq_mul_eq (by omega) (by omega) (by omega)] at e46
    refine pc_rA ?_; intro _ _ v48 e48
    rw [Int.toNat_natCast, q3 27 x (by omega), e27] at e48
    refine pc_if (fun z => ?_) (fun z => ?_)
    · rw [show v46 = 6 * (x : Int) by omega]
      refine c_54 BK B2 f2 hx kt q2 (by rw [q3 27 x (by omega)]; exact e27) (by omega) (fun d u a1 a2 => ?_) (fun nd u a1 a2 a3 => ?_) nn 0 (by omega) (fun j hj => absurd hj (by omega))
      · obtain ⟨j, d1, d2⟩ := d
        rw [q3 28 _ (by omega)] at d2
        exact .inr ⟨u40.1, q1, .inr (.inl ⟨by omega, ⟨j, d1, d2⟩, a1, a2⟩)⟩
      · refine .inr ⟨u40.1, q1, .inr (.inr ⟨by omega, fun j hj => ?_, a1, a2, fun cc y z1 z2 z3 => ?_⟩)⟩
        · have := nd j hj
          rw [q3 28 _ (by omega)] at this; exact this
        · rw [a3 cc y z1 z2 z3]; exact q3 cc y z1
    · refine pc_sv (c_tell B2 f2 tc rfl) ?_; intro u51 q51
      exact pc_ret (.inr ⟨u40.1, q1, .inl ⟨by omega, q51.1⟩⟩)
  · have F : ¬ u40.2 2 11 = 0 := by rw [q5.2.2.1]; decide
    refine pc_se ?_; intro u45 _
    refine pc_xl ?_; intro v46 _
    refine pc_rA ?_; intro _ _ v48 _
    refine pc_if (fun _ => ?_) (fun _ => ?_)
    · exact pc_imp (fs_qw_X2_addParameter_54 _ _ _ _ _ _ _ _ F) (fun u G => .inl ⟨q5.1, q5.2.1, by rw [G.1]; exact q5.2.2.1, by rw [G.2]; exact q5.2.2.2⟩)
    · refine pc_sv (c_tell2 F) ?_; intro u51 q51
      rw [q51]
      exact pc_ret (.inl q5)
theorem r_par (BK : TBn K c) (S : CKd K V C n N) (n8 : n ≤ 8) (D : HDr K P V C c n r) (rf : r 160 9 = 0) {m b i p t f2 tot : Nat} {bs rw : Int} (hb : r 188 m = (b : Int)) (ht : r 189 m = (tot : Int)) (hi : i < tot) (hbt : b + tot ≤ 1500) (R : r 191 (b + i) = bs ∧ r 192 (b + i) = (p : Int) ∧ r 193 (b + i) = rw ∧ r 194 (b + i) = (t : Int)) (T : TYk K (p : Int) (t : Int) bs rw) (kt : K t = 2) (HP : ∀ j : Nat, j < i → 0 ≤ r 194 (b + j) ∧ K (r 194 (b + j)).toNat = 2) {Q : ms_M → Prop} (Z5 : bs = 3 → CLz (fun k => V (C k)) n (V p) (-1) → ∀ v : ms_M, v 160 9 = 5 → v 160 10 = P p → Q v) (Z11 : i = 6 → ∀ ty : Int, TYS V C n (p : Int) bs rw ty → ∀ v : ms_M, v 160 9 = 11 → v 160 10 = P t → Q v) (Z4 : ¬ i = 6 → ∀ ty : Int, TYS V C n (p : Int) bs rw ty → (∃ j : Nat, j < i ∧ V (r 194 (b + j)).toNat = V t) → ∀ v : ms_M, v 160 9 = 4 → v 160 10 = P t → Q v) (Z0 : ¬ i = 6 → ∀ ty : Int, TYS V C n (p : Int) bs rw ty → (∀ j : Nat, j < i → ¬ V (r 194 (b + j)).toNat = V t) → ∀ v : ms_M, v 195 (b + i) = ty_T ty → (∀ cc y : Nat, ¬ (cc = 195 ∧ y = b + i) → v cc y = r cc y) → Pc (qw_X13_memberHead_157 nn f2 (m : Int) ((i + 1 : Nat) : Int) v) Q) : Pc (qw_X13_memberHead_157 nn (f2 + 1) (m : Int) (i : Int) r) Q := by
  have tc := tb_lt BK (i := t) (by omega)
  have tb := tyk_b T
  rw [Int.toNat_natCast] at tb
  have Hk : ∀ (x y : Int) (z : ms_M), ¬ z 160 9 = 0 → Pc (qw_X13_memberHead_157 nn f2 x y z) (fun u => FSr z u) := fun x y z S => ft_qw_X13_memberHead_157 f2 x y z S
  unfold qw_X13_memberHead_157
  refine pc_rA ?_; intro _ _ v19 e19
  rw [Int.toNat_natCast, ht] at e19
  refine pc_if (fun z => absurd z (by omega)) (fun _ => ?_)
  refine pc_rA ?_; intro _ _ v21 e21
  rw [Int.toNat_natCast, hb] at e21
  refine pc_add (by omega) ?_; intro v22 e22
  have x22 : v22 = ((b + i : Nat) : Int) := by omega
  rw [x22]
  refine pc_rA ?_; intro _ _ v25 e25
  refine pc_rA ?_; intro _ _ v27 e27
  refine pc_rA ?_; intro _ _ v29 e29
  rw [Int.toNat_natCast] at e25 e27 e29
  rw [R.1] at e25
  rw [R.2.1] at e27
  rw [R.2.2.1] at e29
  rw [e25, e27, e29]
  refine pc_sv (r_type BK S n8 D rf (p := p) (bs := bs) (rw := rw) (by omega) tb.2.1) ?_; intro u31 q31
  refine pc_wA ?_; intro _ _ h32 e32
  rw [Int.toNat_natCast] at e32
  rcases q31 with ⟨⟨ty, q1, q2⟩, q3⟩ | q5
  · rw [q3, q2] at e32
    have F : ∀ cc y : Nat, ¬ (cc = 195 ∧ y = b + i) → h32 cc y = r cc y := fun cc y z => by rw [e32, up_n z]
    have D2 := hdr_k D (fun cc y z => F cc y (by omega))
    have f2' : h32 160 9 = 0 := by rw [F 160 9 (by omega)]; exact rf
    refine pc_if (fun z => ?_) (fun z => ?_)
    · unfold qj_X13_memberHead_231
      refine pc_rA ?_; intro _ _ v17 e17
      rw [Int.toNat_natCast, F 188 m (by omega), hb] at e17
      rw [e17]
      refine r_239 BK D2.1 D2.2.1 f2' (m := m) (by omega) (by rw [F 194 _ (by omega)]; exact R.2.2.2) kt (fun j hj => by rw [F 194 _ (by omega)]; exact HP j hj) (fun d v a1 a2 => ?_) Hk (fun nd => ?_) nn 0 (by omega) (fun j hj => absurd hj (by omega))
      · obtain ⟨j, d1, d2⟩ := d
        rw [F 194 _ (by omega)] at d2
        exact Z4 (by omega) ty q1 ⟨j, d1, d2⟩ v a1 a2
      · refine Z0 (by omega) ty q1 (fun j hj => ?_) h32 (by rw [e32, up_s]) F
        have := nd j hj
        rw [F 194 _ (by omega)] at this; exact this
    · refine pc_rA ?_; intro _ _ v34 e34
      rw [Int.toNat_natCast, F 194 _ (by omega), R.2.2.2] at e34
      refine pc_sv (r_wrg D2.1 f2' tc e34) ?_; intro u36 q36
      refine pc_imp (ft_qj_X13_memberHead_231 Hk (by rw [q36.1.1]; decide)) (fun v G => Z11 (by omega) ty q1 v (by rw [G.1]; exact q36.1.1) (by rw [G.2]; exact q36.1.2))
  · have f9 : h32 160 9 = 5 := by rw [e32, up_n (by omega)]; exact q5.2.2.1
    have f10 : h32 160 10 = P p := by rw [e32, up_n (by omega)]; exact q5.2.2.2
    refine pc_if (fun z => ?_) (fun z => ?_)
    · exact pc_imp (ft_qj_X13_memberHead_231 Hk (by rw [f9]; decide)) (fun v G => Z5 q5.1 q5.2.1 v (by rw [G.1]; exact f9) (by rw [G.2]; exact f10))
    · refine pc_rA ?_; intro _ _ v34 e34
      refine pc_sv (r_wrg2 (by rw [f9]; decide)) ?_; intro u36 q36
      rw [q36]
      exact pc_imp (ft_qj_X13_memberHead_231 Hk (by rw [f9]; decide)) (fun v G => Z5 q5.1 q5.2.1 v (by rw [G.1]; exact f9) (by rw [G.2]; exact f10))
theorem j_prm (BK : TBn K c) (S : CKd K V C n N) (n8 : n ≤ 8) (B0 : TBc K P c g0) (L0 : VLc K V c g0) (N0 : NCl V C n N g0) (D0 : HDr K P V C c n r0) {x b m tot : Nat} {xe : Int} (hx : x < 96) (hb : r0 188 m = (b : Int)) (ht : r0 189 m = (tot : Int)) (hbt : b + tot ≤ 1500) (kx : K xe.toNat = 41) {Z : ms_M → ms_M → Prop} (HS : ∀ u v, SFj u v → Z u v) (HP : ∀ j : Nat, j < tot → 0 ≤ r0 194 (b + j) ∧ K (r0 194 (b + j)).toNat = 2) (HO : ∀ g r : ms_M, AGp x g0 g → ARr b tot r0 r → g 2 11 = 0 → r 160 9 = 0 → g 2 10 = xe → PST V C n x b tot g r → Pc (qj_X2_addMethod_162 nn (x : Int) g) (fun u => Z u r)) : ∀ (d f f2 i p : Nat) (g r : ms_M), i + d = tot → AGp x g0 g → ARr b tot r0 r → g 2 11 = 0 → r 160 9 = 0 → g 2 10 = (p : Int) → PST V C n x b i g r → PRL K r0 d ((b + i : Nat) : Int) (p : Int) xe → Pc (qw_X2_addMethod_120 nn f (x : Int) (i : Int) g) (fun u => Pc (qw_X13_memberHead_157 nn f2 (m : Int) (i : Int) r) (fun v => Z u v)) := by
  have n3 := BK.2.1
  intro d
  induction d with
  | zero =>
    intro f f2 i p g r hi Ag Ar gf rf g10 PS PR
    cases f with
    | zero => exact pc_none
    | succ f =>
      have xp : xe = (p : Int) := PR
      have B := tbc_k B0 (fun cc y z => Ag cc y (by omega) (by omega) (by omega))
      have kp : K p = 41 := by rw [xp, Int.toNat_natCast] at kx; exact kx
      have pc := tb_lt BK (i := p) (by omega)
      have i6 := PS.1
      unfold qw_X2_addMethod_120
      refine pc_if (fun z => absurd z (by omega)) (fun _ => ?_)
      refine pc_if (fun z => absurd gf z) (fun _ => ?_)
      refine pc_sv (c_kind BK B pc g10 gf) ?_; intro u15 q15
      refine pc_if (fun _ => ?_) (fun z => absurd (by omega) z)
      refine pc_imp (HO g r Ag Ar gf rf (by omega) (by rw [show tot = i by omega]; exact PS)) (fun u zz => ?_)
      cases f2 with
      | zero => exact pc_none
      | succ f2 =>
        unfold qw_X13_memberHead_157
        refine pc_rA ?_; intro _ _ v19 e19
        rw [Int.toNat_natCast, Ar 189 m (by omega) (by omega), ht] at e19
        refine pc_if (fun _ => pc_ret zz) (fun z => absurd (by omega) z)
  | succ d ih =>
    intro f f2 i p g r hi Ag Ar gf rf g10 PS PR
    cases f with
    | zero => exact pc_none
    | succ f =>
      cases f2 with
      | zero => exact fun _ _ => pc_none
      | succ f2 =>
        obtain ⟨t0, bs, rw, T, R, kt, PR2⟩ := PR
        have tb := tyk_b T
        obtain ⟨t, t0e⟩ : ∃ t : Nat, t0 = (t : Int) := ⟨t0.toNat, by omega⟩
        subst t0e
        rw [Int.toNat_natCast] at kt
        rw [show (((b + i : Nat) : Int)).toNat = b + i by omega] at R
        have B := tbc_k B0 (fun cc y z => Ag cc y (by omega) (by omega) (by omega))
        have L : VLc K V c g := fun i hi ki => by rw [Ag 5 i (by omega) (by omega) (by omega)]; exact L0 i hi ki
        have NC : NCl V C n N g := fun y hy => by rw [Ag 16 y (by omega) (by omega) (by omega)]; exact N0 y hy
        have D := hdr_k D0 (fun cc y z => Ar cc y (by omega) (by omega))
        have i6 := PS.1
        have kp : ¬ K p = 41 ∧ p < c := by
          have tc := tb_lt BK (i := t) (by omega)
          unfold TYk at T
          rw [Int.toNat_natCast] at T
          exact ⟨by omega, by omega⟩
        have E194 : ∀ j : Nat, r 194 (b + j) = r0 194 (b + j) := fun j => Ar 194 _ (by omega) (by omega)
        unfold qw_X2_addMethod_120
        refine pc_if (fun z => absurd z (by omega)) (fun _ => ?_)
        refine pc_if (fun z => absurd gf z) (fun _ => ?_)
        refine pc_sv (c_kind BK B kp.2 g10 gf) ?_; intro u15 q15
        refine pc_if (fun z => absurd z (by omega)) (fun _ => ?_)
        refine pc_sv (c_prm BK S n8 B L NC gf hx g10 i6.1 i6.2 T kt) ?_; intro u17 q17
        refine pc_add (by omega) ?_; intro v18 e18
        rw [show v18 = ((i + 1 : Nat) : Int) by omega]
        refine pc_fl ?_
        -- the same FAULT
        have SF : ∀ v : ms_M, SFj u17 v → Pc (qw_X2_addMethod_120 nn f (x : Int) ((i + 1 : Nat) : Int) u17) (fun u => Z u v) := fun v s => pc_imp (fs_qw_X2_addMethod_120 f _ _ _ s.1) (fun u F => HS u v (sf_k s F ft_r))
        refine r_par BK S n8 D rf (f2 := f2) (tot := tot) (by rw [Ar 188 m (by omega) (by omega)]; exact hb) (by rw [Ar 189 m (by omega) (by omega)]; exact ht) (by omega) hbt (by rw [Ar 191 _ (by omega) (by omega), Ar 192 _ (by omega) (by omega), Ar 193 _ (by omega) (by omega), Ar 194 _ (by omega) (by omega)]; exact R) T kt (fun j hj => by rw [E194 j]; exact HP j (by omega)) (fun b3 cl v a1 a2 => ?_) (fun i6' ty q v a1 a2 => ?_) (fun i6' ty q dd v a1 a2 => ?_) (fun i6' ty q nd v a1 a2 => ?_)
        · rcases q17 with ⟨y1, y2, y3, y4⟩ | ⟨ty, y1, _⟩
          · exact SF v ⟨by omega, by omega, by omega⟩
          · rcases y1 with ⟨w1, _⟩ | ⟨w1, _⟩ | ⟨w1, _⟩ | ⟨w1, _⟩ | ⟨w1, x2, w2, w3, _⟩
            · omega
            · omega
            · omega
            · omega
            · rw [Int.toNat_natCast] at w2; exact absurd (cls_d w2 cl) w3
        · have nb : ¬ (bs = 3 ∧ CLz (fun k => V (C k)) n (V p) (-1)) := fun y => by
            rcases q with ⟨w1, _⟩ | ⟨w1, _⟩ | ⟨w1, _⟩ | ⟨w1, _⟩ | ⟨w1, x2, w2, w3, _⟩
            · omega
            · omega
            · omega
            · omega
            · rw [Int.toNat_natCast] at w2; exact absurd (cls_d w2 y.2) w3
          rcases q17 with ⟨y1, y2, _⟩ | ⟨ty2, y1, ⟨y2, y3, y4⟩ | ⟨y2, _⟩ | ⟨y2, _⟩⟩
          · exact absurd ⟨y1, y2⟩ nb
          · exact SF v ⟨by omega, by omega, by omega⟩
          · omega
          · omega
        · have nb : ¬ (bs = 3 ∧ CLz (fun k => V (C k)) n (V p) (-1)) := fun y => by
            rcases q with ⟨w1, _⟩ | ⟨w1, _⟩ | ⟨w1, _⟩ | ⟨w1, _⟩ | ⟨w1, x2, w2, w3, _⟩
            · omega
            · omega
            · omega
            · omega
            · rw [Int.toNat_natCast] at w2; exact absurd (cls_d w2 y.2) w3
          rcases q17 with ⟨y1, y2, _⟩ | ⟨ty2, y1, ⟨y2, y3, y4⟩ | ⟨y2, y3, y4, y5⟩ | ⟨y2, y3, _⟩⟩
          · exact absurd ⟨y1, y2⟩ nb
          · omega
          · exact SF v ⟨by omega, by omega, by omega⟩
          · obtain ⟨j, d1, d2⟩ := dd
            refine absurd ?_ (y3 j d1)
            rw [(PS.2 j d1).1]; exact d2
        · have nb : ¬ (bs = 3 ∧ CLz (fun k => V (C k)) n (V p) (-1)) := fun y => by
            rcases q with ⟨w1, _⟩ | ⟨w1, _⟩ | ⟨w1, _⟩ | ⟨w1, _⟩ | ⟨w1, x2, w2, w3, _⟩
            · omega
            · omega
            · omega
            · omega
            · rw [Int.toNat_natCast] at w2; exact absurd (cls_d w2 y.2) w3
          rcases q17 with ⟨y1, y2, _⟩ | ⟨ty2, y1, ⟨y2, y3, y4⟩ | ⟨y2, y3, y4, y5⟩ | ⟨y2, y3, y4, y5, y6⟩⟩
          · exact absurd ⟨y1, y2⟩ nb
          · omega
          · obtain ⟨j, d1, d2⟩ := y3
            refine absurd ?_ (nd j d1)
            rw [← (PS.2 j d1).1]; exact d2
          · have tt : ty2 = ty := tys_d y1 q
            have tv := tys_v S n8 (fun z => by rw [Int.toNat_natCast]; have := tb.1; rw [Int.toNat_natCast] at this; omega) q
            have Av : ARr b tot r0 v := fun cc y z1 z2 => by rw [a2 cc y (by omega)]; exact Ar cc y z1 z2
            have Au : AGp x g0 u17 := fun cc y z1 z2 z3 => by rw [y6 cc y (by omega) (by omega) (by omega)]; exact Ag cc y z1 z2 z3
            have PS2 : PST V C n x b (i + 1) u17 v := by
              refine ⟨⟨by rw [y5.1]; omega, by omega⟩, fun j hj => ?_⟩
              by_cases ji : j = i
              · rw [ji]
                refine ⟨?_, ?_, ?_, ?_⟩
                · rw [y5.2.1, a2 194 _ (by omega), E194 i, R.2.2.2, Int.toNat_natCast]
                · rw [y5.2.2, a1, tt]; exact ⟨tv.1, tv.2.2, rfl⟩
                · rw [y5.2.2, tt]; have x1 := tv.2.1; have x2 := tb.1; omega
                · rw [y5.2.2, tt, a2 192 _ (by omega), a2 191 _ (by omega), a2 193 _ (by omega), Ar 192 _ (by omega) (by omega), Ar 191 _ (by omega) (by omega), Ar 193 _ (by omega) (by omega), R.1, R.2.1, R.2.2.1]; exact q
              · rw [y6 28 _ (by omega) (by omega) (by omega), y6 29 _ (by omega) (by omega) (by omega), a2 194 _ (by omega), a2 195 _ (by omega), a2 192 _ (by omega), a2 191 _ (by omega), a2 193 _ (by omega)]
                exact PS.2 j (by omega)
            have uf : u17 2 11 = 0 := by rw [y6 2 11 (by omega) (by omega) (by omega)]; exact gf
            have vf : v 160 9 = 0 := by rw [a2 160 9 (by omega)]; exact rf
            refine pc_fl ?_
            rcases PR2 with ⟨d0, x1⟩ | ⟨d0, k47, PR3⟩
            · -- the last one
              have kt1 : K (t + 1) = 41 := by rw [x1, show ((t : Int) + 1).toNat = t + 1 by omega] at kx; exact kx
              have u10 : u17 2 10 = ((t + 1 : Nat) : Int) := by omega
              subst d0
              exact ih f f2 (i + 1) (t + 1) u17 v (by omega) Au Av uf vf u10 PS2 (by show xe = _; omega)
            · rw [show ((t : Int) + 1).toNat = t + 1 by omega] at k47
              have u10 : u17 2 10 = ((t + 2 : Nat) : Int) := by omega
              exact ih f f2 (i + 1) (t + 2) u17 v (by omega) Au Av uf vf u10 PS2 (by rw [show ((b + (i + 1) : Nat) : Int) = ((b + i : Nat) : Int) + 1 by omega, show ((t + 2 : Nat) : Int) = (t : Int) + 2 by omega]; exact PR3)
end
end
section
/- HEADS: one member of both sides -/
def AHc (h u : ms_M) : Prop := ∀ cc y : Nat, ¬ (cc = 2 ∧ (y = 10 ∨ y = 11 ∨ y = 12)) → ¬ (17 ≤ cc ∧ cc ≤ 29 ∧ ¬ cc = 20 ∧ ¬ cc = 26) → u cc y = h cc y
def AHr (r v : ms_M) : Prop := ∀ cc y : Nat, ¬ (cc = 160 ∧ (y = 9 ∨ y = 10)) → ¬ cc = 187 → ¬ cc = 195 → v cc y = r cc y
def JMH (V : Nat → Int) (C : Nat → Nat) (n m : Nat) (q : Int) (h r u v : ms_M) : Prop := SFj u v ∨ ((u 2 10 = q ∧ u 2 11 = 0 ∧ v 160 9 = 0) ∧ MTB V C n (m + 1) q u v ∧ AHc h u ∧ AHr r v)
section
variable {nn : Nat} {K P V U : Nat → Int} {C : Nat → Nat} {c n N : Nat} {h g r w u v g0 r0 : ms_M}
theorem mbm_k {j x : Nat} (M : MBm V C n h r j x) (eu : ∀ cc y : Nat, ((cc = 22 ∨ cc = 23 ∨ cc = 24 ∨ cc = 25 ∨ cc = 27) ∧ y = x) ∨ ((cc = 28 ∨ cc = 29) ∧ 6 * x ≤ y ∧ y < 6 * x + 6) → u cc y = h cc y) (ev : ∀ cc y : Nat, cc = 169 ∨ cc = 182 ∨ cc = 183 ∨ cc = 184 ∨ cc = 185 ∨ cc = 186 ∨ cc = 188 ∨ cc = 189 ∨ cc = 190 ∨ cc = 191 ∨ cc = 192 ∨ cc = 193 ∨ cc = 194 ∨ (cc = 187 ∧ y = j) → v cc y = r cc y) (e5 : ∀ i : Nat, (i : Int) < r 189 j → v 195 ((r 188 j).toNat + i) = r 195 ((r 188 j).toNat + i)) : MBm V C n u v j x := by
  obtain ⟨⟨a1, a2⟩, a3, ⟨a4, a5, a6, a7⟩, a8, a9⟩ := M
  unfold MBm
  rw [ev 182 j (by omega), ev 183 j (by omega), ev 184 j (by omega), ev 185 j (by omega), ev 186 j (by omega), ev 187 j (by omega), ev 188 j (by omega), ev 189 j (by omega), ev 190 j (by omega), ev 169 _ (by omega), eu 22 x (by omega), eu 23 x (by omega), eu 24 x (by omega), eu 25 x (by omega), eu 27 x (by omega)]
  refine ⟨⟨a1, a2⟩, a3, ⟨a4, a5, a6, a7⟩, fun i hi => ?_, a9⟩
  rw [ev 194 _ (by omega), ev 191 _ (by omega), ev 192 _ (by omega), ev 193 _ (by omega), e5 i hi, eu 28 _ (by omega), eu 29 _ (by omega)]
  exact a8 i hi
theorem mtb_f {m k t : Nat} {q0 q ty : Int} (tys : TYS V C n (r 184 m) (r 183 m) (r 185 m) ty) (M : MTB V C n m q0 h r) (hk : k < 8) (A : MSm r k 0 m) (c12 : mcn_T r k 0 m < 12) (nt : ¬ TWm V r m k 0 (V t)) (e186 : r 186 m = (t : Int)) (e189 : r 189 m = 0) (qq : q0 ≤ q) (ty1 : VTy ty ∧ ¬ ty = 300) (ty3 : ¬ ty = 303) (ev : v = up_M r 187 m (ty_T ty)) (G : u 17 k = (mcn_T r k 0 m : Int) + 1 ∧ u 18 (12 * k + mcn_T r k 0 m) = V t ∧ u 19 (12 * k + mcn_T r k 0 m) = ty) (eu : ∀ cc y : Nat, ¬ cc = 2 → ¬ (cc = 17 ∧ y = k) → ¬ ((cc = 18 ∨ cc = 19) ∧ y = 12 * k + mcn_T r k 0 m) → u cc y = h cc y) : MTB V C n (m + 1) q u v := by
  have F : ∀ cc y : Nat, ¬ (cc = 187 ∧ y = m) → v cc y = r cc y := fun cc y z => by rw [ev, up_n z]
  have mc : ∀ (k s : Int) (j : Nat), mcn_T v k s j = mcn_T r k s j := fun k s j => mcn_k (fun cc x z => F cc x (by omega)) j
  have ms : ∀ (k s : Int) (j : Nat), MSm v k s j ↔ MSm r k s j := fun k s j => msm_k (F 181 j (by omega)) (F 182 j (by omega))
  have am := A.2
  have m0 := M.1 k hk
  refine ⟨fun k' hk' => ?_, fun j k' hj hk' q' => ?_, fun j k' hj hk' q' => ?_, fun i j k' s' ij hj qi qj => ?_, fun j i hj hi => ?_⟩
  · obtain ⟨⟨m1, m2⟩, m3, m4⟩ := M.1 k' hk'
    have n1 : ¬ MSm r k' 1 m := fun z => by have := (msm_u A z).2; omega
    rw [mc, mc, mcn_n n1, eu 21 k' (by omega) (by omega) (by omega)]
    by_cases kk : k' = k
    · rw [kk, mcn_s A, G.1]
      rw [kk] at m2 m4
      exact ⟨⟨by omega, m2⟩, by omega, m4⟩
    · have n0 : ¬ MSm r k' 0 m := fun z => by have := (msm_u A z).1; omega
      rw [mcn_n n0, eu 17 k' (by omega) (by omega) (by omega)]
      exact ⟨⟨m1, m2⟩, m3, m4⟩
  · have q2 := (ms _ _ _).mp q'
    rw [mc]
    by_cases jm : j = m
    · rw [jm] at q2 ⊢
      have kk : k' = k := by have := (msm_u A q2).1; omega
      rw [kk]
      refine ⟨?_, ?_, ?_, ?_⟩
      · rw [G.2.1, F 186 m (by omega), e186, Int.toNat_natCast]
      · rw [G.2.2, ev, up_s]; exact ⟨ty1.1, ty1.2, rfl⟩
      · rw [G.2.2]; exact ty3
      · rw [G.2.2, F 183 m (by omega), F 184 m (by omega), F 185 m (by omega)]; exact tys
    · have old := M.2.1 j k' (by omega) hk' q2
      have lt := mcn_lt (r := r) (i := j) (j := m) (by omega) q2
      have ne : ¬ 12 * k' + mcn_T r k' 0 j = 12 * k + mcn_T r k 0 m := fun e => jm (mix_i q2 A (by have := (M.1 k' hk').2.1; omega) c12 e)
      unfold MBf
      rw [eu 18 _ (by omega) (by omega) (by omega), eu 19 _ (by omega) (by omega) (by omega), F 186 j (by omega), F 187 j (by omega), F 183 j (by omega), F 184 j (by omega), F 185 j (by omega)]
      exact old
  · have q2 := (ms _ _ _).mp q'
    rw [mc]
    have jm : ¬ j = m := fun e => by rw [e] at q2; have := (msm_u A q2).2; omega
    exact mbm_k (M.2.2.1 j k' (by omega) hk' q2) (fun cc y z => eu cc y (by omega) (by omega) (by omega)) (fun cc y z => F cc y (by omega)) (fun i hi => F 195 _ (by omega))
  · have qi2 := (ms _ _ _).mp qi
    have qj2 := (ms _ _ _).mp qj
    rw [F 186 i (by omega), F 186 j (by omega)]
    by_cases jm : j = m
    · rw [jm] at qj2 ⊢
      have e := msm_u A qj2
      rw [e186, Int.toNat_natCast]
      intro z
      rw [← e.1, ← e.2] at qi2
      exact nt ⟨i, by omega, qi2, z⟩
    · exact M.2.2.2.1 i j k' s' ij (by omega) qi2 qj2
  · rw [F 189 j (by omega)] at hi
    rw [F 188 j (by omega), F 194 _ (by omega)]
    by_cases jm : j = m
    · rw [jm, e189] at hi; omega
    · have := M.2.2.2.2 j i (by omega) hi; omega
theorem mtb_m {m k t b tot : Nat} {q0 q ty : Int} (tys : TYS V C n (r 184 m) (r 183 m) (r 185 m) ty) (M : MTB V C n m q0 h r) (hk : k < 8) (A : MSm r k 1 m) (c12 : mcn_T r k 1 m < 12) (nt : ¬ TWm V r m k 1 (V t)) (e186 : r 186 m = (t : Int)) (e188 : r 188 m = (b : Int)) (e189 : r 189 m = (tot : Int)) (qq : q0 ≤ q) (HP : ∀ i : Nat, i < tot → q0 ≤ r 194 (b + i) ∧ r 194 (b + i) < q) (v187 : v 187 m = ty_T ty) (ty1 : VTy ty ∧ ¬ ty = 300) (ev : ∀ cc y : Nat, ¬ (cc = 187 ∧ y = m) → ¬ (cc = 160 ∧ (y = 9 ∨ y = 10)) → ¬ (cc = 195 ∧ b ≤ y ∧ y < b + tot) → v cc y = r cc y) (G : (u 21 k = (mcn_T r k 1 m : Int) + 1 ∧ u 22 (12 * k + mcn_T r k 1 m) = (t : Int) ∧ u 24 (12 * k + mcn_T r k 1 m) = ty) ∧ ((r 182 m = 2 ∧ u 25 (12 * k + mcn_T r k 1 m) = 1) ∨ (r 182 m = 1 ∧ u 25 (12 * k + mcn_T r k 1 m) = 0)) ∧ u 23 (12 * k + mcn_T r k 1 m) = r 169 (r 190 m).toNat) (PS : PST V C n (12 * k + mcn_T r k 1 m) b tot u v) (eu : ∀ cc y : Nat, ¬ cc = 2 → ¬ (cc = 21 ∧ y = k) → ¬ ((cc = 22 ∨ cc = 23 ∨ cc = 24 ∨ cc = 25 ∨ cc = 27) ∧ y = 12 * k + mcn_T r k 1 m) → ¬ ((cc = 28 ∨ cc = 29) ∧ 6 * (12 * k + mcn_T r k 1 m) ≤ y ∧ y < 6 * (12 * k + mcn_T r k 1 m) + 6) → u cc y = h cc y) : MTB V C n (m + 1) q u v := by
  have mc : ∀ (k s : Int) (j : Nat), mcn_T v k s j = mcn_T r k s j := fun k s j => mcn_k (fun cc x z => ev cc x (by omega) (by omega) (by omega)) j
  have ms : ∀ (k s : Int) (j : Nat), MSm v k s j ↔ MSm r k s j := fun k s j => msm_k (ev 181 j (by omega) (by omega) (by omega)) (ev 182 j (by omega) (by omega) (by omega))
  have am := A.2
  have m0 := M.1 k hk
  refine ⟨fun k' hk' => ?_, fun j k' hj hk' q' => ?_, fun j k' hj hk' q' => ?_, fun i j k' s' ij hj qi qj => ?_, fun j i hj hi => ?_⟩
  · obtain ⟨⟨m1, m2⟩, m3, m4⟩ := M.1 k' hk'
    have n1 : ¬ MSm r k' 0 m := fun z => by have := (msm_u A z).2; omega
    rw [mc, mc, mcn_n n1, eu 17 k' (by omega) (by omega) (by omega) (by omega)]
    by_cases kk : k' = k
    · rw [kk, mcn_s A, G.1.1]
      rw [kk] at m1 m3
      exact ⟨⟨m1, by omega⟩, m3, by omega⟩
    · have n0 : ¬ MSm r k' 1 m := fun z => by have := (msm_u A z).1; omega
      rw [mcn_n n0, eu 21 k' (by omega) (by omega) (by omega) (by omega)]
      exact ⟨⟨m1, m2⟩, m3, m4⟩
  · have q2 := (ms _ _ _).mp q'
    rw [mc]
    have jm : ¬ j = m := fun e => by rw [e] at q2; have := (msm_u A q2).2; omega
    have old := M.2.1 j k' (by omega) hk' q2
    unfold MBf
    rw [eu 18 _ (by omega) (by omega) (by omega) (by omega), eu 19 _ (by omega) (by omega) (by omega) (by omega), ev 186 j (by omega) (by omega) (by omega), ev 187 j (by omega) (by omega) (by omega), ev 183 j (by omega) (by omega) (by omega), ev 184 j (by omega) (by omega) (by omega), ev 185 j (by omega) (by omega) (by omega)]
    exact old
  · have q2 := (ms _ _ _).mp q'
    rw [mc]
    by_cases jm : j = m
    · rw [jm] at q2 ⊢
      have kk : k' = k := by have := (msm_u A q2).1; omega
      rw [kk]
      unfold MBm
      rw [ev 183 m (by omega) (by omega) (by omega), ev 184 m (by omega) (by omega) (by omega), ev 185 m (by omega) (by omega) (by omega), ev 186 m (by omega) (by omega) (by omega), ev 182 m (by omega) (by omega) (by omega), ev 188 m (by omega) (by omega) (by omega), ev 189 m (by omega) (by omega) (by omega), ev 190 m (by omega) (by omega) (by omega), ev 169 _ (by omega) (by omega) (by omega), e186, e188, e189, v187, G.1.2.1, G.1.2.2]
      refine ⟨⟨rfl, ty1.1, ty1.2, rfl⟩, G.2.1, ⟨PS.1.1, by omega, by have := PS.1.2; omega, by omega⟩, fun i hi => ?_, G.2.2, tys⟩
      rw [Int.toNat_natCast]
      exact PS.2 i (by omega)
    · have old := M.2.2.1 j k' (by omega) hk' q2
      have lt := mcn_lt (r := r) (i := j) (j := m) (by omega) q2
      have cj := (M.1 k' hk').2.2
      have ne : ¬ 12 * k' + mcn_T r k' 1 j = 12 * k + mcn_T r k 1 m := fun e => jm (mix_i q2 A (by omega) c12 e)
      refine mbm_k old (fun cc y z => eu cc y (by omega) (by omega) (by omega) (by omega)) (fun cc y z => ev cc y (by omega) (by omega) (by omega)) (fun i hi => ev 195 _ (by omega) (by omega) (fun z => ?_))
      -- its parameters stand elsewhere
      have p1 := M.2.2.2.2 j i (by omega) hi
      have p2 := HP ((r 188 j).toNat + i - b) (by omega)
      rw [show b + ((r 188 j).toNat + i - b) = (r 188 j).toNat + i by omega] at p2
      omega
  · have qi2 := (ms _ _ _).mp qi
    have qj2 := (ms _ _ _).mp qj
    rw [ev 186 i (by omega) (by omega) (by omega), ev 186 j (by omega) (by omega) (by omega)]
    by_cases jm : j = m
    · rw [jm] at qj2 ⊢
      have e := msm_u A qj2
      rw [e186, Int.toNat_natCast]
      intro z
      rw [← e.1, ← e.2] at qi2
      exact nt ⟨i, by omega, qi2, z⟩
    · exact M.2.2.2.1 i j k' s' ij (by omega) qi2 qj2
  · rw [ev 189 j (by omega) (by omega) (by omega)] at hi
    rw [ev 188 j (by omega) (by omega) (by omega), ev 194 _ (by omega) (by omega) (by omega)]
    by_cases jm : j = m
    · rw [jm, e189] at hi
      rw [jm, e188, Int.toNat_natCast]
      exact (HP i (by omega)).2
    · have := M.2.2.2.2 j i (by omega) hi; omega
/-- n parameters: their names' tokens -/
theorem prl_n {xe : Int} : ∀ (d i : Nat) (p : Int), 0 ≤ p → PRL K r d (i : Int) p xe → p ≤ xe ∧ ∀ j : Nat, j < d → (p ≤ r 194 (i + j) ∧ r 194 (i + j) < xe) ∧ K (r 194 (i + j)).toNat = 2 := by
  intro d
  induction d with
  | zero => intro i p hp H; have e : xe = p := H; exact ⟨by omega, fun j hj => absurd hj (by omega)⟩
  | succ d ih =>
    intro i p hp H
    obtain ⟨t, bs, rw, T, R, kt, H2⟩ := H
    have tb := tyk_b T
    rw [Int.toNat_natCast] at R
    rcases H2 with ⟨d0, x1⟩ | ⟨d0, k47, H3⟩
    · refine ⟨by omega, fun j hj => ?_⟩
      rw [show i + j = i by omega, R.2.2.2]
      exact ⟨by omega, kt⟩
    · have q := ih (i + 1) (t + 2) (by omega) (by rw [show ((i + 1 : Nat) : Int) = (i : Int) + 1 by omega]; exact H3)
      refine ⟨by omega, fun j hj => ?_⟩
      by_cases j0 : j = 0
      · rw [j0, Nat.add_zero, R.2.2.2]
        exact ⟨by omega, kt⟩
      · have q2 := q.2 (j - 1) (by omega)
        rw [show i + 1 + (j - 1) = i + j by omega] at q2
        exact ⟨by omega, q2.2⟩
/-- the reference's member: its type, then the rest -/
theorem r_mh (BK : TBn K c) (S : CKd K V C n N) (n8 : n ≤ 8) (D : HDr K P V C c n r) (rf : r 160 9 = 0) {m p : Nat} {bs rw : Int} (R : r 183 m = bs ∧ r 184 m = (p : Int) ∧ r 185 m = rw) (hb : bs = 0 ∨ bs = 1 ∨ bs = 2 ∨ (bs = 3 ∧ K p = 2)) (hr : rw = 0 ∨ rw = 1) {Q : ms_M → Prop} (Z5 : bs = 3 → CLz (fun k => V (C k)) n (V p) (-1) → ∀ v : ms_M, v 160 9 = 5 → v 160 10 = P p → Q v) (Z0 : ∀ ty : Int, TYS V C n (p : Int) bs rw ty → ∀ v : ms_M, v = up_M r 187 m (ty_T ty) → Pc (qw_X13_memberHead_35 nn nn (m : Int) 0 0 0 v) Q) : Pc (qf_X13_memberHead nn (m : Int) r) Q := by
  unfold qf_X13_memberHead
  refine pc_rA ?_; intro _ _ v75 e75
  refine pc_rA ?_; intro _ _ v77 e77
  refine pc_rA ?_; intro _ _ v79 e79
  rw [Int.toNat_natCast] at e75 e77 e79
  rw [R.1] at e75
  rw [R.2.1] at e77
  rw [R.2.2] at e79
  rw [e75, e77, e79]
  refine pc_sv (r_type BK S n8 D rf (p := p) (bs := bs) (rw := rw) hb hr) ?_; intro u81 q81
  refine pc_wA ?_; intro _ _ h82 e82
  rw [Int.toNat_natCast] at e82
  rcases q81 with ⟨⟨ty, q1, q2⟩, q3⟩ | q5
  · exact Z0 ty q1 h82 (by rw [e82, q2, q3])
  · have f9 : h82 160 9 = 5 := by rw [e82, up_n (by omega)]; exact q5.2.2.1
    have f10 : h82 160 10 = P p := by rw [e82, up_n (by omega)]; exact q5.2.2.2
    exact pc_imp (ft_qw_X13_memberHead_35 nn _ _ _ _ _ (by rw [f9]; decide)) (fun v G => Z5 q5.1 q5.2.1 v (by rw [G.1]; exact f9) (by rw [G.2]; exact f10))
end
end
section
/- HEADS: one member of both sides, second half -/
section
variable {nn : Nat} {K P V U : Nat → Int} {C : Nat → Nat} {c n N : Nat} {h g r w u v g0 r0 : ms_M}
theorem twm_k {m : Nat} {k s x : Int} (e : ∀ cc y : Nat, cc = 181 ∨ cc = 182 ∨ cc = 186 → v cc y = r cc y) : TWm V v m k s x ↔ TWm V r m k s x := by
  constructor
  · intro z
    obtain ⟨j, j1, j2, j3⟩ := z
    exact ⟨j, j1, (msm_k (e 181 j (by omega)) (e 182 j (by omega))).mp j2, by rw [← e 186 j (by omega)]; exact j3⟩
  · intro z
    obtain ⟨j, j1, j2, j3⟩ := z
    exact ⟨j, j1, (msm_k (e 181 j (by omega)) (e 182 j (by omega))).mpr j2, by rw [e 186 j (by omega)]; exact j3⟩
theorem mtb_h {m : Nat} {q : Int} (M : MTB V C n m q h r) (e : ∀ cc y : Nat, 17 ≤ cc → cc ≤ 29 → g cc y = h cc y) : MTB V C n m q g r := by
  refine ⟨fun k hk => ?_, fun j k hj hk z => ?_, fun j k hj hk z => ?_, M.2.2.2⟩
  · rw [e 17 k (by omega) (by omega), e 21 k (by omega) (by omega)]; exact M.1 k hk
  · unfold MBf
    rw [e 18 _ (by omega) (by omega), e 19 _ (by omega) (by omega)]; exact M.2.1 j k hj hk z
  · exact mbm_k (M.2.2.1 j k hj hk z) (fun cc y y2 => e cc y (by omega) (by omega)) (fun _ _ _ => rfl) (fun _ _ => rfl)
/-- the reference behind a member's type: the first FAULT of its name, or on to the parameters -/
theorem r_mhd (BK : TBn K c) (D : HDr K P V C c n r) (rf : r 160 9 = 0) {m t : Nat} {k s : Int} (m8 : m ≤ 800) (HN : ∀ j : Nat, j ≤ m → 0 ≤ r 186 j ∧ K (r 186 j).toNat = 2) (e186 : r 186 m = (t : Int)) (A : MSm r k s m) {Q : ms_M → Prop} (Z11 : mcn_T r k s m = 12 → ∀ v : ms_M, v 160 9 = 11 → v 160 10 = P t → Q v) (Z4 : ¬ mcn_T r k s m = 12 → TWm V r m k s (V t) → ∀ v : ms_M, v 160 9 = 4 → v 160 10 = P t → Q v) (Z0 : ¬ mcn_T r k s m = 12 → ¬ TWm V r m k s (V t) → Pc (qw_X13_memberHead_157 nn nn (m : Int) 0 r) Q) : Pc (qw_X13_memberHead_35 nn nn (m : Int) 0 0 0 r) Q := by
  have kt : K t = 2 := by have := (HN m (by omega)).2; rw [e186, Int.toNat_natCast] at this; exact this
  have tc := tb_lt BK (i := t) (by omega)
  refine rh_35 BK D.2.1 (k := k) (s := s) m8 HN A (fun fl F => ?_) nn 0 0 (by omega) (Int.le_refl _) (.inr ⟨rfl, fun z => ?_⟩)
  · rw [e186, Int.toNat_natCast] at F
    refine pc_if (fun z => ?_) (fun z => ?_)
    · have n12 : ¬ mcn_T r k s m = 12 := by omega
      unfold qj_X13_memberHead_139
      refine pc_if (fun y => ?_) (fun y => ?_)
      · rcases F with ⟨a, b⟩ | ⟨a, b⟩
        · omega
        · exact Z0 n12 b
      · rcases F with ⟨a, b⟩ | ⟨a, b⟩
        · refine pc_rA ?_; intro _ _ v40 e40
          rw [Int.toNat_natCast, e186] at e40
          refine pc_sv (r_wrg D.1 rf tc e40) ?_; intro u42 q42
          exact pc_imp (ft_qw_X13_memberHead_157 nn _ _ _ (by rw [q42.1.1]; decide)) (fun v G => Z4 n12 b v (by rw [G.1]; exact q42.1.1) (by rw [G.2]; exact q42.1.2))
        · exact absurd a y
    · refine pc_rA ?_; intro _ _ v59 e59
      rw [Int.toNat_natCast, e186] at e59
      refine pc_sv (r_wrg D.1 rf tc e59) ?_; intro u61 q61
      exact pc_imp (ft_qj_X13_memberHead_139 (by rw [q61.1.1]; decide)) (fun v G => Z11 (by omega) v (by rw [G.1]; exact q61.1.1) (by rw [G.2]; exact q61.1.2))
  · obtain ⟨j, j1, _⟩ := z
    omega
theorem r_157z {m : Nat} (e : r 189 m = 0) : ∀ f : Nat, Pc (qw_X13_memberHead_157 nn f (m : Int) 0 r) (fun v => v = r) := by
  intro f
  cases f with
  | zero => exact pc_none
  | succ f =>
    unfold qw_X13_memberHead_157
    refine pc_rA ?_; intro _ _ v19 e19
    rw [Int.toNat_natCast, e] at e19
    exact pc_if (fun _ => pc_ret rfl) (fun z => absurd (by omega) z)
theorem j_fld (BK : TBn K c) (S : CKd K V C n N) (n8 : n ≤ 8) (B : TBc K P c h) (L : VLc K V c h) (D : HDr K P V C c n r) (hf : h 2 11 = 0) (rf : r 160 9 = 0) {m k t : Nat} {q0 l2 ty : Int} (hk : k < 8) (m8 : m < 800) (M : MTB V C n m q0 h r) (HN : ∀ j : Nat, j ≤ m → 0 ≤ r 186 j ∧ K (r 186 j).toNat = 2) (e186 : r 186 m = (t : Int)) (q0t : q0 ≤ (t : Int)) (A : MSm r k 0 m) (ty1 : VTy ty ∧ ¬ ty = 300) (ty3 : ¬ ty = 303) (tys : TYS V C n (r 184 m) (r 183 m) (r 185 m) ty) (g10 : g 2 10 = (t : Int)) (Ag : ∀ cc y : Nat, ¬ (cc = 2 ∧ y = 10) → g cc y = h cc y) (k46 : K (t + 1) = 46) (e189 : r 189 m = 0) (ev : v = up_M r 187 m (ty_T ty)) : Pc (qw_X13_memberHead_35 nn nn (m : Int) 0 0 0 v) (fun v2 => Pc (qj_X2_readMember_72 nn (k : Int) l2 ty g) (fun u => JMH V C n m ((t : Int) + 2) h r u v2)) := by
  have n3 := BK.2.1
  have F : ∀ cc y : Nat, ¬ (cc = 187 ∧ y = m) → v cc y = r cc y := fun cc y z => by rw [ev, up_n z]
  have D1 := hdr_k D (fun cc y z => F cc y (by omega))
  have mc : ∀ (k s : Int) (j : Nat), mcn_T v k s j = mcn_T r k s j := fun k s j => mcn_k (fun cc x z => F cc x (by omega)) j
  have tw : ∀ (k s x : Int), TWm V v m k s x ↔ TWm V r m k s x := fun k s x => twm_k (fun cc y z => F cc y (by omega))
  have kt : K t = 2 := by have := (HN m (by omega)).2; rw [e186, Int.toNat_natCast] at this; exact this
  have tc := tb_lt BK (i := t) (by omega)
  have tc1 := tb_lt BK (i := t + 1) (by omega)
  have c12 := (M.1 k hk).2.1
  -- the class
  have CF : Pc (qj_X2_readMember_72 nn (k : Int) l2 ty g) (fun u => (mcn_T r k 0 m = 12 ∧ u 2 11 = 11 ∧ u 2 12 = P t) ∨ (mcn_T r k 0 m < 12 ∧ TWm V r m k 0 (V t) ∧ u 2 11 = 4 ∧ u 2 12 = P t) ∨ (mcn_T r k 0 m < 12 ∧ ¬ TWm V r m k 0 (V t) ∧ (u 17 k = (mcn_T r k 0 m : Int) + 1 ∧ u 18 (12 * k + mcn_T r k 0 m) = V t ∧ u 19 (12 * k + mcn_T r k 0 m) = ty) ∧ u 2 10 = (t : Int) + 2 ∧ ∀ cc y : Nat, ¬ (cc = 2 ∧ y = 10) → ¬ (cc = 17 ∧ y = k) → ¬ ((cc = 18 ∨ cc = 19) ∧ y = 12 * k + mcn_T r k 0 m) → u cc y = h cc y)) := by
    unfold qj_X2_readMember_72
    rw [g10]
    refine pc_add (by omega) ?_; intro v5 e5
    refine pc_xl ?_; intro h6 e6
    have A6 : ∀ cc y : Nat, ¬ (cc = 2 ∧ y = 10) → h6 cc y = h cc y := fun cc y z => by rw [e6, up_n z]; exact Ag cc y z
    have p6 : h6 2 10 = ((t + 1 : Nat) : Int) := by rw [e6, up_s]; omega
    refine pc_sv (c_kind BK (tbc_k B (fun cc y z => A6 cc y (by omega))) tc1 p6 (by rw [A6 2 11 (by omega)]; exact hf)) ?_; intro u9 q9
    refine pc_if (fun z => absurd (q9.trans k46) z) (fun _ => ?_)
    rw [p6]
    refine pc_add (by omega) ?_; intro v17 e17
    refine pc_xl ?_; intro h18 e18
    have A8 : ∀ cc y : Nat, ¬ (cc = 2 ∧ y = 10) → h18 cc y = h cc y := fun cc y z => by rw [e18, up_n z]; exact A6 cc y z
    refine pc_sv (c_addField BK (tbc_k B (fun cc y z => A8 cc y (by omega))) (fun i hi ki => by rw [A8 5 i (by omega)]; exact L i hi ki) (by rw [A8 2 11 (by omega)]; exact hf) (mtb_h M (fun cc y z1 z2 => A8 cc y (by omega))) hk kt) ?_; intro u20 q20
    refine pc_ret ?_
    rcases q20 with q | q | ⟨q1, q2, q3, q4⟩
    · exact .inl q
    · exact .inr (.inl q)
    · exact .inr (.inr ⟨q1, q2, q3, by rw [q4 2 10 (by omega) (by omega), e18, up_s]; omega, fun cc y z1 z2 z3 => by rw [q4 cc y z2 z3]; exact A8 cc y z1⟩)
  refine r_mhd BK D1 (by rw [F 160 9 (by omega)]; exact rf) (by omega) (fun j hj => by rw [F 186 j (by omega)]; exact HN j hj) (by rw [F 186 m (by omega)]; exact e186) ((msm_k (F 181 m (by omega)) (F 182 m (by omega))).mpr A) (fun z v2 a1 a2 => ?_) (fun z z4 v2 a1 a2 => ?_) (fun z z0 => ?_)
  · rw [mc] at z
    refine pc_imp CF (fun u Q => .inl ?_)
    rcases Q with ⟨b1, b2, b3⟩ | ⟨b1, _⟩ | ⟨b1, _⟩
    · exact ⟨by omega, by omega, by omega⟩
    · omega
    · omega
  · rw [mc] at z
    have z5 := (tw _ _ _).mp z4
    refine pc_imp CF (fun u Q => .inl ?_)
    rcases Q with ⟨b1, b2, b3⟩ | ⟨b1, b2, b3, b4⟩ | ⟨b1, b2, _⟩
    · omega
    · exact ⟨by omega, by omega, by omega⟩
    · exact absurd z5 b2
  · rw [mc] at z
    have z5 : ¬ TWm V r m k 0 (V t) := fun y => z0 ((tw _ _ _).mpr y)
    refine pc_imp (r_157z (by rw [F 189 m (by omega)]; exact e189) nn) (fun v2 e2 => ?_)
    rw [e2]
    refine pc_imp CF (fun u Q => ?_)
    rcases Q with ⟨b1, b2, b3⟩ | ⟨b1, b2, b3, b4⟩ | ⟨b1, b2, b3, b4, b5⟩
    · omega
    · exact absurd b2 z5
    · refine .inr ⟨⟨b4, by rw [b5 2 11 (by omega) (by omega) (by omega)]; exact hf, by rw [F 160 9 (by omega)]; exact rf⟩, mtb_f tys M hk A b1 b2 e186 e189 (by omega) ty1 ty3 ev b3 (fun cc y z1 z2 z3 => b5 cc y (by omega) z2 z3), fun cc y z1 z2 => b5 cc y (by omega) (by omega) (by omega), fun cc y z1 z2 z3 => F cc y (by omega)⟩
theorem j_mtd (BK : TBn K c) (S : CKd K V C n N) (n8 : n ≤ 8) (B : TBc K P c h) (L : VLc K V c h) (NC : NCl V C n N h) (D : HDr K P V C c n r) (hf : h 2 11 = 0) (rf : r 160 9 = 0) {m k t b tot : Nat} {q0 l2 ty xe q na nb : Int} (hk : k < 8) (m8 : m < 800) (M : MTB V C n m q0 h r) (HN : ∀ j : Nat, j ≤ m → 0 ≤ r 186 j ∧ K (r 186 j).toNat = 2) (e186 : r 186 m = (t : Int)) (q0t : q0 ≤ (t : Int)) (A : MSm r k 1 m) (ty1 : VTy ty ∧ ¬ ty = 300) (tys : TYS V C n (r 184 m) (r 183 m) (r 185 m) ty) (g10 : g 2 10 = (t : Int)) (Ag : ∀ cc y : Nat, ¬ (cc = 2 ∧ y = 10) → g cc y = h cc y) (k40 : K (t + 1) = 40) (el : (l2 = 1 ∧ r 182 m = 2) ∨ (l2 = 0 ∧ r 182 m = 1)) (e188 : r 188 m = (b : Int)) (e189 : r 189 m = (tot : Int)) (hbt : b + tot ≤ 1500) (PR : PRL K r tot (b : Int) ((t : Int) + 2) xe) (kx : K xe.toNat = 41) (LK : LKn 0 K r 8 0 0 na nb (xe + 1) q (r 190 m)) (ev : v = up_M r 187 m (ty_T ty)) : Pc (qw_X13_memberHead_35 nn nn (m : Int) 0 0 0 v) (fun v2 => Pc (qj_X2_readMember_72 nn (k : Int) l2 ty g) (fun u => JMH V C n m q h r u v2)) := by
  have n3 := BK.2.1
  have F : ∀ cc y : Nat, ¬ (cc = 187 ∧ y = m) → v cc y = r cc y := fun cc y z => by rw [ev, up_n z]
  have D1 := hdr_k D (fun cc y z => F cc y (by omega))
  have mc : ∀ (k s : Int) (j : Nat), mcn_T v k s j = mcn_T r k s j := fun k s j => mcn_k (fun cc x z => F cc x (by omega)) j
  have tw : ∀ (k s x : Int), TWm V v m k s x ↔ TWm V r m k s x := fun k s x => twm_k (fun cc y z => F cc y (by omega))
  have kt : K t = 2 := by have := (HN m (by omega)).2; rw [e186, Int.toNat_natCast] at this; exact this
  have tc1 := tb_lt BK (i := t + 1) (by omega)
  have c12 := (M.1 k hk).2.2
  have PN := prl_n tot b ((t : Int) + 2) (by omega) PR
  have BZ := (lk_bl LK).2 rfl
  have xc := tb_lt BK (i := xe.toNat) (by omega)
  have qx : xe + 1 ≤ q := (lk_bl LK).1.1
  -- the class, as far as its parameters
  have CM : ∀ Q : ms_M → Prop, (mcn_T r k 1 m = 12 → ∀ u : ms_M, u 2 11 = 11 → u 2 12 = P t → Q u) → (mcn_T r k 1 m < 12 → TWm V r m k 1 (V t) → ∀ u : ms_M, u 2 11 = 4 → u 2 12 = P t → Q u) → (mcn_T r k 1 m < 12 → ¬ TWm V r m k 1 (V t) → ∀ u : ms_M, (u 2 10 = ((t + 2 : Nat) : Int) ∧ u 21 k = (mcn_T r k 1 m : Int) + 1 ∧ u 22 (12 * k + mcn_T r k 1 m) = (t : Int) ∧ u 24 (12 * k + mcn_T r k 1 m) = ty ∧ u 25 (12 * k + mcn_T r k 1 m) = l2 ∧ u 27 (12 * k + mcn_T r k 1 m) = 0) → (∀ cc y : Nat, ¬ (cc = 2 ∧ y = 10) → ¬ (cc = 21 ∧ y = k) → ¬ ((cc = 22 ∨ cc = 24 ∨ cc = 25 ∨ cc = 27) ∧ y = 12 * k + mcn_T r k 1 m) → u cc y = h cc y) → Pc (qw_X2_addMethod_120 nn nn ((12 * k + mcn_T r k 1 m : Nat) : Int) 0 u) Q) → Pc (qj_X2_readMember_72 nn (k : Int) l2 ty g) Q := by
    intro Q Z11 Z4 Z0
    unfold qj_X2_readMember_72
    rw [g10]
    refine pc_add (by omega) ?_; intro v5 e5
    refine pc_xl ?_; intro h6 e6
    have A6 : ∀ cc y : Nat, ¬ (cc = 2 ∧ y = 10) → h6 cc y = h cc y := fun cc y z => by rw [e6, up_n z]; exact Ag cc y z
    have p6 : h6 2 10 = ((t + 1 : Nat) : Int) := by rw [e6, up_s]; omega
    have f6 : h6 2 11 = 0 := by rw [A6 2 11 (by omega)]; exact hf
    refine pc_sv (c_kind BK (tbc_k B (fun cc y z => A6 cc y (by omega))) tc1 p6 f6) ?_; intro u9 q9
    refine pc_if (fun _ => ?_) (fun z => absurd (fun y => by omega) z)
    refine pc_if (fun z => absurd f6 z) (fun _ => ?_)
    refine pc_sv (c_addMethod BK (tbc_k B (fun cc y z => A6 cc y (by omega))) (fun i hi ki => by rw [A6 5 i (by omega)]; exact L i hi ki) f6 (p := t + 1) (mtb_h M (fun cc y z1 z2 => A6 cc y (by omega))) (fun j hj => HN j (by omega)) hk kt p6 (by omega) (Q := Q) Z11 Z4 (fun z z0 u G1 G2 => Z0 z z0 u ⟨by have := G1.1; omega, G1.2⟩ (fun cc y z1 z2 z3 => by rw [G2 cc y z1 z2 z3]; exact A6 cc y z1))) (fun a qa => pc_ret qa)
  refine r_mhd BK D1 (by rw [F 160 9 (by omega)]; exact rf) (by omega) (fun j hj => by rw [F 186 j (by omega)]; exact HN j hj) (by rw [F 186 m (by omega)]; exact e186) ((msm_k (F 181 m (by omega)) (F 182 m (by omega))).mpr A) (fun z v2 a1 a2 => ?_) (fun z z4 v2 a1 a2 => ?_) (fun z z0 => ?_)
  · rw [mc] at z
    refine CM _ (fun _ u b1 b2 => .inl ⟨by omega, by omega, by omega⟩) (fun y => by omega) (fun y => by omega)
  · rw [mc] at z
    have z5 := (tw _ _ _).mp z4
    refine CM _ (fun y => absurd y z) (fun _ _ u b1 b2 => .inl ⟨by omega, by omega, by omega⟩) (fun _ y => absurd z5 y)
  · rw [mc] at z
    have z5 : ¬ TWm V r m k 1 (V t) := fun y => z0 ((tw _ _ _).mpr y)
    refine pc_fl ?_
    refine CM _ (fun y => absurd y z) (fun _ y => absurd y z5) (fun y _ u G1 G2 => ?_)
    -- the parameters
    have Bu : TBc K P c u := tbc_k B (fun cc y z => G2 cc y (by omega) (by omega) (by omega))
    have Lu : VLc K V c u := fun i hi ki => by rw [G2 5 i (by omega) (by omega) (by omega)]; exact L i hi ki
    have Nu : NCl V C n N u := fun y hy => by rw [G2 16 y (by omega) (by omega) (by omega)]; exact NC y hy
    refine j_prm BK S n8 Bu Lu Nu D1 (b := b) (m := m) (tot := tot) (xe := xe) (by omega) (by rw [F 188 m (by omega)]; exact e188) (by rw [F 189 m (by omega)]; exact e189) hbt kx (fun u v s => .inl s) (fun j hj => by rw [F 194 _ (by omega)]; have := PN.2 j hj; exact ⟨by omega, this.2⟩) (fun g2 r2 Ag2 Ar2 gf2 rf2 g210 PS => ?_) tot nn nn 0 (t + 2) u v (by omega) (fun _ _ _ _ _ => rfl) (fun _ _ _ _ => rfl) (by rw [G2 2 11 (by omega) (by omega) (by omega)]; exact hf) (by rw [F 160 9 (by omega)]; exact rf) G1.1 ⟨⟨G1.2.2.2.2.2, by omega⟩, fun j hj => absurd hj (by omega)⟩ (by rw [show ((t + 2 : Nat) : Int) = (t : Int) + 2 by omega]; exact prl_k tot _ _ _ (by omega) (fun cc j z1 z2 _ _ => F cc j (by omega)) PR)
    -- over the BLOCK
    unfold qj_X2_addMethod_162
    rw [g210]
    refine pc_add (by omega) ?_; intro v3 e3
    refine pc_xl ?_; intro h4 e4
    refine pc_wA ?_; intro _ _ h8 e8
    rw [Int.toNat_natCast] at e8
    have p4 : h4 2 10 = xe + 1 := by rw [e4, up_s]; omega
    rw [p4] at e8
    have p8 : h8 2 10 = (((xe + 1).toNat : Nat) : Int) := by rw [e8, up_n (by omega), p4]; omega
    have A8 : ∀ cc y : Nat, ¬ (cc = 2 ∧ y = 10) → ¬ (cc = 23 ∧ y = 12 * k + mcn_T r k 1 m) → h8 cc y = g2 cc y := fun cc y z1 z2 => by rw [e8, up_n (by omega), e4, up_n z1]
    refine pc_sv (c_skp BK (tbc_k Bu (fun cc y z => by rw [A8 cc y (by omega) (by omega)]; exact Ag2 cc y (by omega) (by omega) (by omega))) (by rw [A8 2 11 (by omega) (by omega)]; exact gf2) (p := (xe + 1).toNat) (q := q) (by omega) p8 (by rw [show (((xe + 1).toNat : Nat) : Int) = xe + 1 by omega]; exact BZ.1)) ?_; intro u10 q10
    refine pc_ret (.inr ⟨⟨q10.1, by rw [q10.2 2 11 (by omega), A8 2 11 (by omega) (by omega)]; exact gf2, rf2⟩, ?_, ?_, ?_⟩)
    · have EU : ∀ cc y : Nat, ¬ cc = 2 → ¬ (cc = 23 ∧ y = 12 * k + mcn_T r k 1 m) → u10 cc y = g2 cc y := fun cc y z1 z2 => by rw [q10.2 cc y (by omega), A8 cc y (by omega) z2]
      have EG : ∀ cc y : Nat, ¬ cc = 2 → ¬ (cc = 27 ∧ y = 12 * k + mcn_T r k 1 m) → ¬ ((cc = 28 ∨ cc = 29) ∧ 6 * (12 * k + mcn_T r k 1 m) ≤ y ∧ y < 6 * (12 * k + mcn_T r k 1 m) + 6) → g2 cc y = u cc y := fun cc y z1 z2 z3 => Ag2 cc y (by omega) z2 z3
      refine mtb_m tys M hk A (by omega) z5 e186 e188 e189 (by omega) (fun i hi => by have := (PN.2 i hi).1; omega) ?_ ty1 (fun cc y z1 z2 z3 => ?_) ⟨⟨?_, ?_, ?_⟩, ?_, ?_⟩ ?_ (fun cc y z1 z2 z3 z4 => ?_)
      · rw [Ar2 187 m (by omega) (by omega), ev, up_s]
      · rw [Ar2 cc y z2 z3]; exact F cc y z1
      · rw [EU 21 k (by omega) (by omega), EG 21 k (by omega) (by omega) (by omega)]; exact G1.2.1
      · rw [EU 22 _ (by omega) (by omega), EG 22 _ (by omega) (by omega) (by omega)]; exact G1.2.2.1
      · rw [EU 24 _ (by omega) (by omega), EG 24 _ (by omega) (by omega) (by omega)]; exact G1.2.2.2.1
      · rw [EU 25 _ (by omega) (by omega), EG 25 _ (by omega) (by omega) (by omega), G1.2.2.2.2.1]
        rcases el with ⟨a, b⟩ | ⟨a, b⟩
        · exact .inl ⟨b, a⟩
        · exact .inr ⟨b, a⟩
      · rw [q10.2 23 _ (by omega), e8, up_s]; exact BZ.2.symm
      · refine ⟨⟨by rw [EU 27 _ (by omega) (by omega)]; exact PS.1.1, PS.1.2⟩, fun j hj => ?_⟩
        rw [EU 28 _ (by omega) (by omega), EU 29 _ (by omega) (by omega)]
        exact PS.2 j hj
      · rw [EU cc y z1 (by omega), EG cc y z1 (by omega) (by omega)]
        exact G2 cc y (by omega) z2 (by omega)
    · intro cc y z1 z2
      rw [q10.2 cc y (by omega), A8 cc y (by omega) (by omega), Ag2 cc y z1 (by omega) (by omega)]
      exact G2 cc y (by omega) (by omega) (by omega)
    · intro cc y z1 z2 z3
      rw [Ar2 cc y z1 (by omega)]
      exact F cc y (by omega)
/-- one member of both sides -/
theorem j_mem (BK : TBn K c) (S : CKd K V C n N) (n8 : n ≤ 8) (B : TBc K P c h) (L : VLc K V c h) (NC : NCl V C n N h) (D : HDr K P V C c n r) (hf : h 2 11 = 0) (rf : r 160 9 = 0) {m k p b tot : Nat} {q na nb : Int} (hk : k < 8) (m8 : m < 800) (M : MTB V C n m (p : Int) h r) (HN : ∀ j : Nat, j ≤ m → 0 ≤ r 186 j ∧ K (r 186 j).toNat = 2) (h10 : h 2 10 = (p : Int)) (R : RMB K r (m : Int) (p : Int) q na nb) (e181 : r 181 m = (k : Int)) (e188 : r 188 m = (b : Int)) (e189 : r 189 m = (tot : Int)) (hbt : b + tot ≤ 1500) : Pc (qf_X2_readMember nn (k : Int) h) (fun u => Pc (qf_X13_memberHead nn (m : Int) r) (fun v => JMH V C n m q h r u v)) := by
  have n3 := BK.2.1
  obtain ⟨p1, t0, bs, rw, hp1, hty, ⟨r183, r184, r185, r186, kt0⟩, alt⟩ := R
  rw [Int.toNat_natCast] at r183 r184 r185 r186 hp1
  -- the places as numbers
  have t0p : p1 + 1 ≤ t0 ∧ (rw = 0 ∨ rw = 1) ∧ (bs = 0 ∨ bs = 1 ∨ bs = 2 ∨ (bs = 3 ∧ K p1.toNat = 2)) ∧ ¬ K p1.toNat = 0 ∧ ¬ K p1.toNat = 25 := by
    rcases hty with ⟨a1, a2, a3, a4⟩ | ⟨a1, T⟩
    · omega
    · have tb := tyk_b T
      unfold TYk at T
      omega
  obtain ⟨p2, p1e⟩ : ∃ p2 : Nat, p1 = (p2 : Int) := ⟨p1.toNat, by clear alt; omega⟩
  obtain ⟨t, t0e⟩ : ∃ t : Nat, t0 = (t : Int) := ⟨t0.toNat, by clear alt; omega⟩
  subst p1e
  subst t0e
  rw [Int.toNat_natCast] at kt0
  simp only [Int.toNat_natCast] at t0p hty alt
  have tc := tb_lt BK (i := t) (by omega)
  have p2c : p2 < c := by omega
  have kp : ¬ K p = 0 := by
    rcases hp1 with ⟨x1, x2⟩ | ⟨x1, x2⟩
    · rw [x1]; decide
    · rw [show p = p2 by clear alt; omega]; exact t0p.2.2.2.1
  have pc := tb_lt BK kp
  have M0 := M
  -- behind 'static'
  have J35 : ∀ (g : ms_M) (l2 : Int), ((K p = 25 ∧ l2 = 1) ∨ (¬ K p = 25 ∧ l2 = 0)) → g 2 10 = (p2 : Int) → (∀ cc y : Nat, ¬ (cc = 2 ∧ y = 10) → g cc y = h cc y) → Pc (qj_X2_readMember_35 nn (k : Int) l2 g) (fun u => Pc (qf_X13_memberHead nn (m : Int) r) (fun v => JMH V C n m q h r u v)) := by
    intro g l2 hl g10 Ag
    have Bg := tbc_k B (fun cc y z => Ag cc y (by omega))
    have gf : g 2 11 = 0 := by rw [Ag 2 11 (by omega)]; exact hf
    -- behind the type
    have J72 : ∀ (g2 : ms_M) (ty : Int), TYS V C n (p2 : Int) bs rw ty → g2 2 10 = (t : Int) → (∀ cc y : Nat, ¬ (cc = 2 ∧ y = 10) → g2 cc y = h cc y) → Pc (qj_X2_readMember_72 nn (k : Int) l2 ty g2) (fun u => Pc (qf_X13_memberHead nn (m : Int) r) (fun v => JMH V C n m q h r u v)) := by
      intro g2 ty T g210 Ag2
      have tv := tys_v S n8 (fun z => by rw [Int.toNat_natCast]; omega) T
      refine pc_fl ?_
      refine r_mh BK S n8 D rf (p := p2) (bs := bs) (rw := rw) ⟨r183, r184, r185⟩ t0p.2.2.1 t0p.2.1 (fun b3 cl v a1 a2 => ?_) (fun ty2 T2 v ev => ?_)
      · rcases T with ⟨w1, _⟩ | ⟨w1, _⟩ | ⟨w1, _⟩ | ⟨w1, _⟩ | ⟨w1, x2, w2, w3, _⟩
        · omega
        · omega
        · omega
        · omega
        · rw [Int.toNat_natCast] at w2; exact absurd (cls_d w2 cl) w3
      · rw [tys_d T2 T] at ev
        rcases alt with ⟨⟨a1, a2⟩, a3, a4, a5, a6⟩ | ⟨tn, xe, a1, a2, a3, a4, a5, a6, a7⟩
        · rw [show ((t : Int) + 1).toNat = t + 1 by omega] at a3
          have b2 : ¬ bs = 2 := by
            rcases hty with ⟨x1, _⟩ | ⟨_, T3⟩
            · exact absurd x1 a2
            · have := (tyk_b T3).1; omega
          rw [a6]
          exact j_fld BK S n8 B L D hf rf hk m8 M HN r186 (by omega) ⟨e181, .inr ⟨by omega, rfl⟩⟩ ⟨tv.1, tv.2.2⟩ (by have := tv.2.1; omega) (by rw [r184, r183, r185]; exact T) g210 Ag2 a3 a5 ev
        · rw [show ((t : Int) + 1).toNat = t + 1 by omega] at a3
          rw [e188] at a5
          have tt : tn = tot := by omega
          rw [tt] at a5
          exact j_mtd BK S n8 B L NC D hf rf hk m8 M HN r186 (by omega) ⟨e181, .inl ⟨by omega, rfl⟩⟩ ⟨tv.1, tv.2.2⟩ (by rw [r184, r183, r185]; exact T) g210 Ag2 a3 (by omega) e188 e189 hbt a5 a6 a7 ev
    unfold qj_X2_readMember_35
    refine pc_sv (c_kind BK Bg p2c g10 gf) ?_; intro u24 q24
    refine pc_if (fun z => ?_) (fun z => ?_)
    · rcases hty with ⟨a1, _⟩ | ⟨a1, T⟩
      · exact absurd (q24.trans a1) z
      · refine pc_sv (c_type BK S n8 Bg (fun i hi ki => by rw [Ag 5 i (by omega)]; exact L i hi ki) (fun x hx => by rw [Ag 16 x (by omega)]; exact NC x hx) gf g10 T (by omega)) ?_; intro u26 q26
        rcases q26 with ⟨q1, q2, q3⟩ | ⟨q1, q2, q3, q4⟩
        · exact J72 u26.2 u26.1 q1 q2 (fun cc y z => by rw [q3 cc y z]; exact Ag cc y z)
        · refine pc_fl ?_
          refine r_mh BK S n8 D rf (p := p2) (bs := bs) (rw := rw) ⟨r183, r184, r185⟩ t0p.2.2.1 t0p.2.1 (fun b3 cl v a1 a2 => ?_) (fun ty2 T2 v ev => ?_)
          · exact pc_imp (fs_qj_X2_readMember_72 (by rw [q3]; decide)) (fun u G => .inl ⟨by rw [G.1, q3]; decide, by rw [G.1, q3]; exact a1, by rw [G.2, q4]; exact a2⟩)
          · rcases T2 with ⟨w1, _⟩ | ⟨w1, _⟩ | ⟨w1, _⟩ | ⟨w1, _⟩ | ⟨w1, x2, w2, w3, _⟩
            · omega
            · omega
            · omega
            · omega
            · rw [Int.toNat_natCast] at w2; exact absurd (cls_d w2 q2) w3
    · have k30 : K p2 = 30 := by omega
      rw [g10]
      refine pc_add (by omega) ?_; intro v29 e29
      refine pc_xl ?_; intro h30 e30
      rcases hty with ⟨a1, a2, a3, a4⟩ | ⟨a1, _⟩
      · exact J72 h30 303 (.inr (.inr (.inr (.inl ⟨a2, rfl⟩)))) (by rw [e30, up_s]; omega) (fun cc y z => by rw [e30, up_n z]; exact Ag cc y z)
      · exact absurd k30 a1
  unfold qf_X2_readMember
  refine pc_sv (c_kind BK B pc h10 hf) ?_; intro u39 q39
  refine pc_if (fun z => ?_) (fun z => ?_)
  · unfold qj_X2_readMember_17
    refine pc_if (fun _ => ?_) (fun y => absurd rfl y)
    have np : ¬ K p = 25 := by rw [← q39]; clear alt; omega
    exact J35 h 0 (.inr ⟨np, rfl⟩) (by rcases hp1 with ⟨x1, _⟩ | ⟨_, x2⟩; exact absurd x1 np; rw [h10]; exact x2.symm) (fun _ _ _ => rfl)
  · unfold qj_X2_readMember_17
    refine pc_if (fun y => absurd y (by decide)) (fun _ => ?_)
    rw [h10]
    refine pc_add (by omega) ?_; intro v34 e34
    refine pc_xl ?_; intro h35 e35
    have yp : K p = 25 := by rw [← q39]; clear alt; omega
    exact J35 h35 1 (.inl ⟨yp, rfl⟩) (by rw [e35, up_s]; rcases hp1 with ⟨_, x2⟩ | ⟨x1, _⟩; rw [e34, x2]; exact absurd yp x1) (fun cc y z => by rw [e35, up_n z])
end
end
section
/- HEADS: all members of both sides -/
section
variable {nn : Nat} {K P V U : Nat → Int} {C : Nat → Nat} {c n N : Nat} {h g r w u v h0 r0 : ms_M}
theorem mtb_q {m : Nat} {q q2 : Int} (M : MTB V C n m q h r) (e : q ≤ q2) : MTB V C n m q2 h r := ⟨M.1, M.2.1, M.2.2.1, M.2.2.2.1, fun j i hj hi => by have := M.2.2.2.2 j i hj hi; omega⟩
theorem ahc_t (A : AHc h g) (B : AHc g u) : AHc h u := fun cc y z1 z2 => by rw [B cc y z1 z2]; exact A cc y z1 z2
theorem ahr_t (A : AHr r w) (B : AHr w v) : AHr r v := fun cc y z1 z2 z3 => by rw [B cc y z1 z2 z3]; exact A cc y z1 z2 z3
/-- the names of members are names -/
theorem mml_n {N : Int} : ∀ (d : Nat) (m : Nat) (p q a b : Int), 0 ≤ p → MML K r N d (m : Int) p q a b → ∀ j : Nat, m ≤ j → j < m + d → 0 ≤ r 186 j ∧ K (r 186 j).toNat = 2 := by
  intro d
  induction d with
  | zero => intro m p q a b _ _ j h1 h2; omega
  | succ d ih =>
    intro m p q a b hp H j h1 h2
    obtain ⟨_, p2, a2, ⟨q1, q2⟩, R, _, H2⟩ := H
    by_cases jm : j = m
    · obtain ⟨p1, t, bs, rw, hp1, hty, ⟨r183, r184, r185, r186, kt⟩, -⟩ := R
      rw [Int.toNat_natCast] at r186
      rw [jm, r186]
      refine ⟨?_, kt⟩
      rcases hty with ⟨x1, x2, x3, x4⟩ | ⟨x1, T⟩
      · omega
      · have := tyk_b T; omega
    · exact ih (m + 1) p2 q a2 b (by omega) (by rw [show ((m + 1 : Nat) : Int) = (m : Int) + 1 by omega]; exact H2) j (by omega) (by omega)
theorem pgm_n {N : Int} : ∀ (d : Nat) (k m : Nat) (mE p q a b : Int), 0 ≤ p → PGM K r N d (k : Int) (m : Int) mE p q a b → (m : Int) ≤ mE ∧ ∀ j : Nat, m ≤ j → (j : Int) < mE → 0 ≤ r 186 j ∧ K (r 186 j).toNat = 2 := by
  intro d
  induction d with
  | zero => intro k m mE p q a b _ H; obtain ⟨_, _, e⟩ := H; exact ⟨by omega, fun j h1 h2 => by omega⟩
  | succ d ih =>
    intro k m mE p q a b hp H
    obtain ⟨n2, p2, a2, ha, CL, H2⟩ := H
    obtain ⟨⟨k1, k2, k3⟩, s, e, k4, ML, _, k5, qe⟩ := CL
    have sp : 0 ≤ s := by omega
    have mm := mml_ab n2 _ _ _ _ _ ML
    have r1 := mml_n n2 m s e a a2 sp ML
    have r2 := ih (k + 1) (m + n2) mE p2 q a2 b (by omega) (by rw [show ((k + 1 : Nat) : Int) = (k : Int) + 1 by omega, show ((m + n2 : Nat) : Int) = (m : Int) + n2 by omega]; exact H2)
    refine ⟨by omega, fun j h1 h2 => ?_⟩
    by_cases jm : j < m + n2
    · exact r1 j h1 jm
    · exact r2.2 j (by omega) h2
theorem j_mms (BK : TBn K c) (S : CKd K V C n N) (n8 : n ≤ 8) (B0 : TBc K P c h0) (L0 : VLc K V c h0) (NC0 : NCl V C n N h0) (D0 : HDr K P V C c n r0) {mt k : Nat} {nN : Int} (e28 : r0 160 28 = (mt : Int)) (hN : nN ≤ 1500) (HN : ∀ j : Nat, j < mt → 0 ≤ r0 186 j ∧ K (r0 186 j).toNat = 2) (hk : k < 8) {qk : Int → ms_M → Option ms_M} (Hk : ∀ (x : Int) (z : ms_M), ¬ z 2 11 = 0 → Pc (qk x z) (fun u => FSc z u)) {Z : ms_M → ms_M → Prop} (HS : ∀ u v, SFj u v → Z u v) : ∀ (d f f2 m p : Nat) (l3 q na nb : Int) (h r : ms_M), AHc h0 h → AHr r0 r → h 2 11 = 0 → r 160 9 = 0 → h 2 10 = (p : Int) → MTB V C n m (p : Int) h r → MML K r0 nN d (m : Int) (p : Int) q na nb → K q.toNat = 43 → (∀ i : Nat, m ≤ i → i < m + d → r0 181 i = (k : Int)) → m + d ≤ mt → (0 ≤ l3 ∧ l3 < (p : Int)) → (∀ (h r : ms_M) (f2 : Nat), AHc h0 h → AHr r0 r → h 2 11 = 0 → r 160 9 = 0 → MTB V C n (m + d) q h r → Pc (qk ((k + 1 : Nat) : Int) h) (fun u => Pc (qw_X13_heads_192 nn f2 ((m + d : Nat) : Int) r) (fun v => Z u v))) → Pc (qw_X2_readMembers_57 nn qk f (k : Int) l3 h) (fun u => Pc (qw_X13_heads_192 nn f2 (m : Int) r) (fun v => Z u v)) := by
  have n3 := BK.2.1
  intro d
  induction d with
  | zero =>
    intro f f2 m p l3 q na nb h r Ah Ar hf rf h10 M ML k43 cl md hl HO
    cases f with
    | zero => exact pc_none
    | succ f =>
      have qp : q = (p : Int) := ML.1
      rw [qp, Int.toNat_natCast] at k43
      have pc := tb_lt BK (i := p) (by omega)
      have B := tbc_k B0 (fun cc y z => Ah cc y (by omega) (by omega))
      unfold qw_X2_readMembers_57
      refine pc_if (fun z => absurd z (by omega)) (fun _ => ?_)
      refine pc_if (fun z => absurd hf z) (fun _ => ?_)
      refine pc_sv (c_kind BK B pc h10 hf) ?_; intro u7 q7
      refine pc_if (fun _ => ?_) (fun z => absurd (by omega) z)
      refine pc_add (by omega) ?_; intro v8 e8
      rw [show v8 = ((k + 1 : Nat) : Int) by omega]
      exact HO h r f2 Ah Ar hf rf (by rw [qp]; exact M)
  | succ d ih =>
    intro f f2 m p l3 q na nb h r Ah Ar hf rf h10 M ML k43 cl md hl HO
    cases f with
    | zero => exact pc_none
    | succ f =>
      cases f2 with
      | zero => exact fun _ _ => pc_none
      | succ f2 =>
        obtain ⟨np, p2, a2, ⟨pp, aa⟩, R, ⟨b1, b2, b3⟩, ML2⟩ := ML
        rw [Int.toNat_natCast] at np b1 b2 b3
        have mm := mml_ab d _ _ _ _ _ ML2
        have qc := tb_lt BK (i := q.toNat) (by omega)
        have B := tbc_k B0 (fun cc y z => Ah cc y (by omega) (by omega))
        have L : VLc K V c h := fun i hi ki => by rw [Ah 5 i (by omega) (by omega)]; exact L0 i hi ki
        have NC : NCl V C n N h := fun x hx => by rw [Ah 16 x (by omega) (by omega)]; exact NC0 x hx
        have D := hdr_k D0 (fun cc y z => Ar cc y (by omega) (by omega) (by omega))
        unfold qw_X2_readMembers_57
        refine pc_if (fun z => absurd z (by omega)) (fun _ => ?_)
        refine pc_if (fun z => absurd hf z) (fun _ => ?_)
        refine pc_sv (c_kind BK B (p := p) (by omega) h10 hf) ?_; intro u7 q7
        refine pc_if (fun z => absurd (q7.symm.trans z) np) (fun _ => ?_)
        refine pc_fl ?_
        unfold qw_X13_heads_192
        refine pc_if (fun z => absurd z (by rw [Ar 160 28 (by omega) (by omega) (by omega), e28]; omega)) (fun _ => ?_)
        refine pc_if (fun z => absurd rf z) (fun _ => ?_)
        refine pc_fl ?_
        by_cases m8 : m < 800
        · refine p2_sv (R := fun u v => JMH V C n m p2 h r u v) (j_mem BK S n8 B L NC D hf rf (b := (r0 188 m).toNat) (tot := (r0 189 m).toNat) (na := na) (nb := a2) hk m8 M (fun j hj => by rw [Ar 186 j (by omega) (by omega) (by omega)]; exact HN j (by omega)) h10 (rmb_k (by rw [Int.toNat_natCast]; exact b1) (fun cc z1 z2 z3 => Ar cc _ (by omega) z3 (by omega)) (fun cc j z1 z2 _ _ => Ar cc j (by omega) (by omega) (by omega)) (fun cc x z1 z2 _ _ _ => Ar cc x (by omega) (by omega) (by omega)) R) (by rw [Ar 181 m (by omega) (by omega) (by omega)]; exact cl m (by omega) (by omega)) (by rw [Ar 188 m (by omega) (by omega) (by omega)]; omega) (by rw [Ar 189 m (by omega) (by omega) (by omega)]; omega) (by omega)) ?_
          intro u v J
          refine pc_add (by omega) ?_; intro v11 e11
          refine pc_fl ?_
          refine pc_add (by omega) ?_; intro v16 e16
          rw [show v16 = ((m + 1 : Nat) : Int) by omega]
          rcases J with s | ⟨⟨j1, j2, j3⟩, j4, j5, j6⟩
          · exact pc_fl (pj_sf (o := fun a => a) (q := fun b => b) s (fs_qw_X2_readMembers_57 Hk f _ _ _ s.1) (ft_qw_X13_heads_192 f2 _ _ (sf_r s)) (fun a b s => HS a b s))
          · obtain ⟨p3, p3e⟩ : ∃ p3 : Nat, p2 = (p3 : Int) := ⟨p2.toNat, by omega⟩
            subst p3e
            refine pc_fl (ih f f2 (m + 1) p3 v11 q a2 nb u v (ahc_t Ah j5) (ahr_t Ar j6) j2 j3 j1 j4 (by rw [show ((m + 1 : Nat) : Int) = (m : Int) + 1 by omega]; exact ML2) k43 (fun i h1 h2 => cl i (by omega) (by omega)) (by omega) (by omega) (fun h r f2 x1 x2 x3 x4 x5 => ?_))
            have HO2 := HO h r f2 x1 x2 x3 x4 (by rw [show m + (d + 1) = m + 1 + d by omega]; exact x5)
            rw [show m + (d + 1) = m + 1 + d by omega] at HO2
            exact HO2
        · -- more members than there are rows
          refine pc_fl ?_
          refine pc_se ?_; intro u15 e15
          exfalso
          unfold qf_X13_memberHead at e15
          exact (pc_rA (Q := fun _ => False) (fun _ z _ _ => absurd z (by omega)) : Pc _ (fun _ => False)) u15 e15
theorem j_pms (BK : TBn K c) (S : CKd K V C n N) (n8 : n ≤ 8) (H0 : HDc K P V C c n h0) (NC0 : NCl V C n N h0) (D0 : HDr K P V C c n r0) {mt : Nat} {nN : Int} (e28 : r0 160 28 = (mt : Int)) (hN : nN ≤ 1500) (HN : ∀ j : Nat, j < mt → 0 ≤ r0 186 j ∧ K (r0 186 j).toNat = 2) {Z : ms_M → ms_M → Prop} (HS : ∀ u v, SFj u v → Z u v) (HO : ∀ (h r : ms_M) (q : Int), AHc h0 h → AHr r0 r → h 2 11 = 0 → r 160 9 = 0 → MTB V C n mt q h r → Pc (qw_X13_heads_220 nn nn 0 r) (fun v => Z h v)) : ∀ (j f f2 k m : Nat) (p q na nb q0 : Int) (h r : ms_M), AHc h0 h → AHr r0 r → h 2 11 = 0 → r 160 9 = 0 → MTB V C n m q0 h r → 0 ≤ p → q0 ≤ p → PGM K r0 nN j (k : Int) (m : Int) (mt : Int) p q na nb → k + j = n → Pc (qw_X2_readMembers_2 nn f (k : Int) h) (fun u => Pc (qw_X13_heads_192 nn f2 (m : Int) r) (fun v => Z u v)) := by
  have n3 := BK.2.1
  intro j
  induction j with
  | zero =>
    intro f f2 k m p q na nb q0 h r Ah Ar hf rf M hp qp PG kj
    cases f with
    | zero => exact pc_none
    | succ f =>
      obtain ⟨_, _, me⟩ := PG
      have em : mt = m := by omega
      have e2 : h 11 2 = (n : Int) := by rw [Ah 11 2 (by omega) (by omega)]; exact H0.2.2.1
      unfold qw_X2_readMembers_2
      refine pc_if (fun _ => ?_) (fun z => absurd (by omega) z)
      refine pc_ret ?_
      cases f2 with
      | zero => exact pc_none
      | succ f2 =>
        unfold qw_X13_heads_192
        refine pc_if (fun _ => ?_) (fun z => absurd (by rw [Ar 160 28 (by omega) (by omega) (by omega), e28]; omega) z)
        exact HO h r q0 Ah Ar hf rf (by rw [em]; exact M)
  | succ j ih =>
    intro f f2 k m p q na nb q0 h r Ah Ar hf rf M hp qp PG kj
    cases f with
    | zero => exact pc_none
    | succ f =>
      obtain ⟨n2, p2, a2, ha, CL, PG2⟩ := PG
      obtain ⟨⟨k1, k2, k3⟩, s, e, k4, ML, c181, k5, qe⟩ := CL
      rw [Int.toNat_natCast] at k3 k4
      have H := hdc_k H0 (fun cc y z => Ah cc y (by omega) (by omega))
      have e2 := H.2.2.1
      have ck := (D0.2.2.2 k (by omega)).1
      have cp : p + 1 = (C k : Int) := by rw [← k3]; exact ck
      have s2 := S.2.1 k (by omega)
      have lt := tb_lt BK (i := C k) (by omega)
      have mm := mml_ab n2 _ _ _ _ _ ML
      have ec := tb_lt BK (i := e.toNat) (by omega)
      have me := (pgm_n j (k + 1) (m + n2) (mt : Int) p2 q a2 nb (by omega) (by rw [show ((k + 1 : Nat) : Int) = (k : Int) + 1 by omega, show ((m + n2 : Nat) : Int) = (m : Int) + n2 by omega]; exact PG2)).1
      unfold qw_X2_readMembers_2
      refine pc_if (fun z => absurd z (by omega)) (fun _ => ?_)
      refine pc_if (fun z => absurd hf z) (fun _ => ?_)
      refine pc_sv (c_token H (k := k) (by omega) rfl) ?_; intro u21 q21
      refine pc_add (by omega) ?_; intro v24 e24
      refine pc_sv (c_kindAt BK H.1 (t := C k + 1) (by omega)) ?_; intro u26 q26
      -- to the first member
      have GO : ∀ (o s3 : Int), s = (C k : Int) + o → (o = 2 ∨ o = 4) → Pc (qj_X2_readMembers_51 nn (qw_X2_readMembers_2 nn f) (k : Int) o u21 h) (fun u => Pc (qw_X13_heads_192 nn f2 (m : Int) r) (fun v => Z u v)) := by
        intro o _ se ho
        unfold qj_X2_readMembers_51
        refine pc_add (by omega) ?_; intro v15 e15
        refine pc_xl ?_; intro h16 e16
        have A6 : ∀ cc y : Nat, ¬ (cc = 2 ∧ y = 10) → h16 cc y = h cc y := fun cc y z => by rw [e16, up_n z]
        obtain ⟨s4, s4e⟩ : ∃ s4 : Nat, s = (s4 : Int) := ⟨s.toNat, by omega⟩
        rw [s4e] at ML
        refine j_mms BK S n8 H0.1 H0.2.1 NC0 D0 e28 hN HN (by omega) (fun x z y => fs_qw_X2_readMembers_2 f x z y) HS n2 nn f2 m s4 0 e na a2 h16 r (fun cc y z1 z2 => by rw [A6 cc y (by omega)]; exact Ah cc y z1 z2) Ar (by rw [A6 2 11 (by omega)]; exact hf) rf (by rw [e16, up_s]; omega) (mtb_q (mtb_h M (fun cc y z1 z2 => A6 cc y (by omega))) (by omega)) ML k5 (fun i h1 h2 => c181 i (by omega) (by omega)) (by omega) (by omega) (fun h2 r2 f3 x1 x2 x3 x4 x5 => ?_)
        exact ih f f3 (k + 1) (m + n2) p2 q a2 nb e h2 r2 x1 x2 x3 x4 x5 (by omega) (by omega) (by rw [show ((k + 1 : Nat) : Int) = (k : Int) + 1 by omega, show ((m + n2 : Nat) : Int) = (m : Int) + n2 by omega]; exact PG2) (by omega)
      have w2 : (p + 2).toNat = C k + 1 := by omega
      rw [w2] at k4
      rcases k4 with ⟨x1, x2, x3, x4, x5⟩ | ⟨x1, x2, x3, x4⟩
      · refine pc_if (fun z => absurd (q26.trans x1) z) (fun _ => ?_)
        exact GO 4 0 (by omega) (by omega)
      · refine pc_if (fun _ => ?_) (fun z => absurd (fun y => x1 (by omega)) z)
        exact GO 2 0 (by omega) (by omega)
end
end
section
/- HEADS: looking members up, both sides -/
/-- all that heads leave, both sides -/
def HDS (K P V : Nat → Int) (C : Nat → Nat) (c n N mt : Nat) (q : Int) (h r : ms_M) : Prop := (HDc K P V C c n h ∧ NCl V C n N h ∧ HDr K P V C c n r) ∧ (n ≤ 8 ∧ (∀ k : Nat, k < n → UPk K V C n k (r 180 k)) ∧ OKc V C (r 180) n n ∧ KNc (r 180) n h) ∧ MTB V C n mt q h r ∧ (r 160 28 = (mt : Int) ∧ (∀ j : Nat, j < mt → 0 ≤ r 186 j ∧ K (r 186 j).toNat = 2) ∧ (∀ j : Nat, j < mt → 0 ≤ r 181 j ∧ r 181 j < (n : Int)) ∧ ∀ i j : Nat, i < j → j < mt → r 181 i ≤ r 181 j)
/-- what a lookup gives on both sides -/
def LKR (V : Nat → Int) (mt : Nat) (s x : Int) (r : ms_M) (u v : Int) : Prop := (u = -1 ∧ v = -1) ∨ ∃ j k : Nat, j < mt ∧ k < 8 ∧ MSm r k s j ∧ V (r 186 j).toNat = x ∧ v = (j : Int) ∧ u = ((12 * k + mcn_T r k s j : Nat) : Int)
section
variable {nn : Nat} {K P V U : Nat → Int} {C : Nat → Nat} {c n N mt : Nat} {q : Int} {h g r w u v h0 r0 : ms_M}
/-- the reference looks through its members for one of class at - 8 -/
theorem r_12 (BK : TBn K c) (NM : NMr K V c r) (e28 : r 160 28 = (mt : Int)) (HN : ∀ j : Nat, j < mt → 0 ≤ r 186 j ∧ K (r 186 j).toNat = 2) {t : Nat} {s a : Int} (kt : K t = 2) (hs : s = 0 ∨ s = 1) (ha : -1 ≤ a ∧ a ≤ 1000) {qk : Int → Int → Int → ms_M → Option Int} {Q : Int → Prop} (ZF : ∀ j : Nat, j < mt → MSm r (a - 8) s j → V (r 186 j).toNat = V t → Q (j : Int)) (ZN : (∀ j : Nat, j < mt → ¬ (MSm r (a - 8) s j ∧ V (r 186 j).toNat = V t)) → Pc (qk (t : Int) s (uq_T (r 180) a) r) Q) : ∀ (f l : Nat), l ≤ mt → (∀ j : Nat, j < l → ¬ (MSm r (a - 8) s j ∧ V (r 186 j).toNat = V t)) → Pc (qw_X13_memberOf_12 nn qk f (t : Int) s a (l : Int) r) Q := by
  intro f
  induction f with
  | zero => intros; exact pc_none
  | succ f ih =>
    intro l hl A
    unfold qw_X13_memberOf_12
    refine pc_if (fun z => ?_) (fun z => ?_)
    · refine pc_sv (r_up ha) ?_; intro u11 q11
      rw [q11]
      exact ZN (fun j hj => A j (by omega))
    · -- on to the next
      have lm : l < mt := by omega
      refine pc_rA ?_; intro _ l8 v13 e13
      rw [Int.toNat_natCast] at e13
      refine pc_sub (by omega) ?_; intro v14 e14
      have NX : ¬ (MSm r (a - 8) s l ∧ V (r 186 l).toNat = V t) → ∀ v15 : Int, v15 = (l : Int) + 1 → Pc (qw_X13_memberOf_12 nn qk f (t : Int) s a v15 r) Q := fun y v15 e15 => by
        rw [show v15 = ((l + 1 : Nat) : Int) by omega]
        refine ih (l + 1) (by omega) (fun j hj => ?_)
        by_cases jl : j = l
        · rw [jl]; exact y
        · exact A j (by omega)
      refine pc_if (fun y => ?_) (fun y => ?_)
      · refine pc_add (by omega) ?_; intro v15 e15
        exact NX (fun y2 => y (by rw [e13, e14]; exact y2.1.1)) v15 e15
      · have c1 : r 181 l = a - 8 := by omega
        refine pc_rA ?_; intro _ _ v17 e17
        rw [Int.toNat_natCast] at e17
        have HT := HN l lm
        have M51 : ∀ s0 : Int, (MSm r (a - 8) s l ↔ s0 = s) → Pc (qj_X13_memberOf_51 nn qk (qw_X13_memberOf_12 nn qk f) (t : Int) s a (l : Int) s0 r) Q := fun s0 hs0 => by
          unfold qj_X13_memberOf_51
          refine pc_if (fun y0 => ?_) (fun y0 => ?_)
          · refine pc_add (by omega) ?_; intro v1 e1
            exact NX (fun y2 => y0 (hs0.mp y2.1)) v1 e1
          · have y1 : s0 = s := Classical.byContradiction y0
            refine pc_rA ?_; intro _ _ v3 e3
            rw [Int.toNat_natCast] at e3
            refine pc_sv (r_like NM (i := (r 186 l).toNat) (j := t) (tb_lt BK (by omega)) (tb_lt BK (by omega)) HT.2 kt (by omega) rfl) ?_; intro u5 q5
            refine pc_if (fun y5 => ?_) (fun y5 => ?_)
            · refine pc_add (by omega) ?_; intro v6 e6
              refine NX (fun y2 => ?_) v6 e6
              rcases q5 with ⟨a5, b5⟩ | ⟨a5, b5⟩
              · omega
              · exact b5 y2.2
            · refine pc_ret (ZF l lm (hs0.mpr y1) ?_)
              rcases q5 with ⟨a5, b5⟩ | ⟨a5, b5⟩
              · exact b5
              · exact absurd a5 y5
        refine pc_if (fun y7 => ?_) (fun y7 => ?_)
        · refine M51 0 ⟨fun z => ?_, fun z => ⟨c1, by omega⟩⟩
          have := z.2; omega
        · refine M51 1 ⟨fun z => ?_, fun z => ⟨c1, by omega⟩⟩
          have := z.2; omega
/-- below 8 there are no members -/
theorem r_low (BK : TBn K c) (H : HDS K P V C c n N mt q h r) {t : Nat} {s : Int} (kt : K t = 2) (hs : s = 0 ∨ s = 1) : ∀ (f : Nat) (a : Int), (-1 ≤ a ∧ a < 8) → Pc (qw_X13_memberOf_3 nn f (t : Int) s a r) (fun v => v = -1) := by
  obtain ⟨⟨H1, H2, H3⟩, ⟨n8, UP, OK, KN⟩, M, e28, HN, HC, HM⟩ := H
  intro f
  induction f with
  | zero => intros; exact pc_none
  | succ f ih =>
    intro a ha
    unfold qw_X13_memberOf_3
    refine pc_if (fun _ => pc_ret rfl) (fun z => ?_)
    refine r_12 BK H3.2.1 e28 HN kt hs (by omega) (fun j hj y _ => ?_) (fun _ => ?_) nn 0 (by omega) (fun j hj => absurd hj (by omega))
    · have := (HC j hj).1
      have := y.1
      omega
    · refine ih _ ?_
      unfold uq_T
      by_cases q0 : a = 0
      · rw [if_pos q0]; omega
      · rw [if_neg q0]
        by_cases q1 : a = 1
        · rw [if_pos q1]; omega
        · rw [if_neg q1, if_neg (by omega)]; omega
/-- the class has found it -/
theorem c_methodF {x y a : Int} {cnt : Int} (hy : ¬ y = -1) : ∀ f : Nat, Pc (qw_X2_methodOf_8 nn f x y a cnt h) (fun u => u = y) := by
  intro f
  cases f with
  | zero => exact pc_none
  | succ f =>
    unfold qw_X2_methodOf_8
    refine pc_if (fun _ => pc_ret rfl) (fun _ => ?_)
    refine pc_se ?_; intro u1 _
    refine pc_if (fun _ => pc_ret rfl) (fun _ => ?_)
    exact pc_if (fun _ => pc_ret rfl) (fun z => absurd hy z)
theorem j_method8 (BK : TBn K c) (S : CKd K V C n N) (H : HDS K P V C c n N mt q h r) {t : Nat} (kt : K t = 2) : ∀ (d f f2 : Nat) (a cnt : Int), (-1 ≤ a ∧ a < 8 + (n : Int)) → (∃ i : Nat, i ≤ d ∧ ui_T (r 180) a i < 8) → (0 ≤ cnt ∧ cnt + d ≤ 15) → Pc (qw_X2_methodOf_8 nn f (V t) (-1) a cnt h) (fun u => Pc (qw_X13_memberOf_3 nn f2 (t : Int) 1 a r) (fun v => LKR V mt 1 (V t) r u v)) := by
  have H' := H
  obtain ⟨⟨H1, H2, H3⟩, ⟨n8, UP, OK, KN⟩, M, e28, HN, HC, HM⟩ := H'
  intro d
  induction d with
  | zero =>
    intro f f2 a cnt ha E hc
    obtain ⟨i, i1, i2⟩ := E
    have a8 : a < 8 := by
      have i0 : i = 0 := by omega
      rw [i0] at i2; exact i2
    refine pc_imp (P := fun u => u = -1) ?_ (fun u e => pc_imp (r_low BK H kt (by decide) f2 a (by omega)) (fun v e2 => .inl ⟨e, e2⟩))
    cases f with
    | zero => exact pc_none
    | succ f =>
      unfold qw_X2_methodOf_8 qf_X2_isOwn
      refine pc_if (fun _ => pc_ret rfl) (fun _ => ?_)
      refine pc_sv (P := fun y => y = 0) ?_ ?_
      · exact pc_if (fun _ => pc_ret rfl) (fun y => absurd a8 y)
      · intro u1 e1
        exact pc_if (fun _ => pc_ret rfl) (fun y => absurd e1 y)
  | succ d ih =>
    intro f f2 a cnt ha E hc
    by_cases a8 : a < 8
    · refine pc_imp (P := fun u => u = -1) ?_ (fun u e => pc_imp (r_low BK H kt (by decide) f2 a (by omega)) (fun v e2 => .inl ⟨e, e2⟩))
      cases f with
      | zero => exact pc_none
      | succ f =>
        unfold qw_X2_methodOf_8 qf_X2_isOwn
        refine pc_if (fun _ => pc_ret rfl) (fun _ => ?_)
        refine pc_sv (P := fun y => y = 0) ?_ ?_
        · exact pc_if (fun _ => pc_ret rfl) (fun y => absurd a8 y)
        · intro u1 e1
          exact pc_if (fun _ => pc_ret rfl) (fun y => absurd e1 y)
    · cases f with
      | zero => exact pc_none
      | succ f =>
        cases f2 with
        | zero => exact fun _ _ => pc_none
        | succ f2 =>
          obtain ⟨k, ak⟩ : ∃ k : Nat, a = 8 + (k : Int) := ⟨(a - 8).toNat, by omega⟩
          have kn : k < n := by omega
          unfold qw_X2_methodOf_8
          refine pc_if (fun y => absurd y (by omega)) (fun _ => ?_)
          refine pc_sv (P := fun y => y = 1) ?_ ?_
          · unfold qf_X2_isOwn
            refine pc_if (fun y => absurd y a8) (fun _ => ?_)
            exact pc_if (fun y => absurd y (by omega)) (fun _ => pc_ret rfl)
          · intro u1 e1
            refine pc_if (fun y => absurd y (by omega)) (fun _ => ?_)
            refine pc_if (fun y => absurd rfl y) (fun _ => ?_)
            refine pc_sub (by omega) ?_; intro v2 e2
            rw [show v2 = (k : Int) by omega]
            refine pc_sv (c_mIn BK H1.1 H1.2.1 M HN (x := V t) (k := k) (by omega)) ?_; intro u4 q4
            -- the class above
            refine pc_sv (P := fun y => y = uq_T (r 180) a) ?_ ?_
            · unfold qf_X4_above qf_X4_isClass
              refine pc_sv (P := fun y => y = 1) ?_ ?_
              · refine pc_if (fun y => absurd y (by omega)) (fun _ => ?_)
                exact pc_if (fun y => absurd y (by omega)) (fun _ => pc_ret rfl)
              · intro u6 e6
                refine pc_if (fun y => absurd y (by omega)) (fun _ => ?_)
                refine pc_rA ?_; intro _ _ v3 e3
                refine pc_ret ?_
                have e13 : v3 = h 13 a.toNat := e3
                rw [e13, KN.1 a.toNat (by omega), if_neg (by omega), if_pos (by omega), uq_8 (by omega), show a.toNat - 8 = (a - 8).toNat by omega]
            · intro u7 e7
              refine pc_add (by omega) ?_; intro v8 e8
              refine pc_fl ?_
              unfold qw_X13_memberOf_3
              refine pc_if (fun y => absurd y (by omega)) (fun _ => ?_)
              refine r_12 BK H3.2.1 e28 HN kt (by decide) (by omega) (fun j hj y y2 => ?_) (fun y => ?_) nn 0 (by omega) (fun j hj => absurd hj (by omega))
              · -- the reference has found member j
                have y' : MSm r (k : Int) 1 j := by rw [show (k : Int) = a - 8 by omega]; exact y
                rcases q4 with ⟨b1, b2⟩ | ⟨i, b1, b2, b3, b4⟩
                · exact absurd ⟨j, hj, y', y2⟩ b2
                · have ij : i = j := Classical.byContradiction fun ne => by
                    by_cases lt : i < j
                    · exact M.2.2.2.1 i j k 1 lt hj b2 y' (by rw [b3, y2])
                    · exact M.2.2.2.1 j i k 1 (by omega) b1 y' b2 (by rw [b3, y2])
                  rw [ij] at b4
                  have n1 : ¬ u4 = -1 := by omega
                  refine pc_imp (c_methodF n1 f) (fun u eu => .inr ⟨j, k, hj, by omega, y', y2, rfl, by rw [eu]; exact b4⟩)
              · rcases q4 with ⟨b1, b2⟩ | ⟨i, b1, b2, b3, b4⟩
                · rw [b1, e7]
                  refine pc_fl (ih f f2 (uq_T (r 180) a) v8 ?_ ?_ (by omega))
                  · rw [uq_8 (by omega)]
                    exact upk_b S (by omega) (UP (a - 8).toNat (by omega))
                  · obtain ⟨i, i1, i2⟩ := E
                    cases i with
                    | zero => exact absurd i2 a8
                    | succ i =>
                      refine ⟨i, by omega, ?_⟩
                      have := ui_a (U := r 180) (x := a) i 1
                      rw [show 1 + i = i + 1 by omega] at this
                      rw [this] at i2
                      exact i2
                · exact absurd ⟨by rw [show a - 8 = (k : Int) by omega]; exact b2, b3⟩ (y i b1)
/-- a lookup of both sides, from class a up -/
theorem j_methodOf (BK : TBn K c) (S : CKd K V C n N) (H : HDS K P V C c n N mt q h r) {t : Nat} (kt : K t = 2) {a : Int} (ha : -1 ≤ a ∧ a < 8 + (n : Int)) : Pc (qf_X2_methodOf nn a (V t) h) (fun u => Pc (qf_X13_memberOf nn a (t : Int) 1 r) (fun v => LKR V mt 1 (V t) r u v)) := by
  have n8 := H.2.1.1
  have OK := H.2.1.2.2.1
  unfold qf_X2_methodOf qf_X13_memberOf
  refine j_method8 BK S H kt 9 nn nn a 0 ha ?_ (by decide)
  by_cases a8 : a < 8
  · exact ⟨0, by omega, a8⟩
  · obtain ⟨i, i1, i2⟩ := (OK (a - 8).toNat (by omega)).2.2
    rw [show 8 + (((a - 8).toNat : Nat) : Int) = a by omega] at i2
    exact ⟨i, by omega, i2⟩
/-- the class has found it -/
theorem c_fieldF {x y a : Int} {cnt : Int} (hy : ¬ y = -1) : ∀ f : Nat, Pc (qw_X2_fieldOf_8 nn f x y a cnt h) (fun u => u = y) := by
  intro f
  cases f with
  | zero => exact pc_none
  | succ f =>
    unfold qw_X2_fieldOf_8
    refine pc_if (fun _ => pc_ret rfl) (fun _ => ?_)
    refine pc_se ?_; intro u1 _
    refine pc_if (fun _ => pc_ret rfl) (fun _ => ?_)
    exact pc_if (fun _ => pc_ret rfl) (fun z => absurd hy z)
theorem j_field8 (BK : TBn K c) (S : CKd K V C n N) (H : HDS K P V C c n N mt q h r) {t : Nat} (kt : K t = 2) : ∀ (d f f2 : Nat) (a cnt : Int), (-1 ≤ a ∧ a < 8 + (n : Int)) → (∃ i : Nat, i ≤ d ∧ ui_T (r 180) a i < 8) → (0 ≤ cnt ∧ cnt + d ≤ 15) → Pc (qw_X2_fieldOf_8 nn f (V t) (-1) a cnt h) (fun u => Pc (qw_X13_memberOf_3 nn f2 (t : Int) 0 a r) (fun v => LKR V mt 0 (V t) r u v)) := by
  have H' := H
  obtain ⟨⟨H1, H2, H3⟩, ⟨n8, UP, OK, KN⟩, M, e28, HN, HC, HM⟩ := H'
  intro d
  induction d with
  | zero =>
    intro f f2 a cnt ha E hc
    obtain ⟨i, i1, i2⟩ := E
    have a8 : a < 8 := by
      have i0 : i = 0 := by omega
      rw [i0] at i2; exact i2
    refine pc_imp (P := fun u => u = -1) ?_ (fun u e => pc_imp (r_low BK H kt (by decide) f2 a (by omega)) (fun v e2 => .inl ⟨e, e2⟩))
    cases f with
    | zero => exact pc_none
    | succ f =>
      unfold qw_X2_fieldOf_8 qf_X2_isOwn
      refine pc_if (fun _ => pc_ret rfl) (fun _ => ?_)
      refine pc_sv (P := fun y => y = 0) ?_ ?_
      · exact pc_if (fun _ => pc_ret rfl) (fun y => absurd a8 y)
      · intro u1 e1
        exact pc_if (fun _ => pc_ret rfl) (fun y => absurd e1 y)
  | succ d ih =>
    intro f f2 a cnt ha E hc
    by_cases a8 : a < 8
    · refine pc_imp (P := fun u => u = -1) ?_ (fun u e => pc_imp (r_low BK H kt (by decide) f2 a (by omega)) (fun v e2 => .inl ⟨e, e2⟩))
      cases f with
      | zero => exact pc_none
      | succ f =>
        unfold qw_X2_fieldOf_8 qf_X2_isOwn
        refine pc_if (fun _ => pc_ret rfl) (fun _ => ?_)
        refine pc_sv (P := fun y => y = 0) ?_ ?_
        · exact pc_if (fun _ => pc_ret rfl) (fun y => absurd a8 y)
        · intro u1 e1
          exact pc_if (fun _ => pc_ret rfl) (fun y => absurd e1 y)
    · cases f with
      | zero => exact pc_none
      | succ f =>
        cases f2 with
        | zero => exact fun _ _ => pc_none
        | succ f2 =>
          obtain ⟨k, ak⟩ : ∃ k : Nat, a = 8 + (k : Int) := ⟨(a - 8).toNat, by omega⟩
          have kn : k < n := by omega
          unfold qw_X2_fieldOf_8
          refine pc_if (fun y => absurd y (by omega)) (fun _ => ?_)
          refine pc_sv (P := fun y => y = 1) ?_ ?_
          · unfold qf_X2_isOwn
            refine pc_if (fun y => absurd y a8) (fun _ => ?_)
            exact pc_if (fun y => absurd y (by omega)) (fun _ => pc_ret rfl)
          · intro u1 e1
            refine pc_if (fun y => absurd y (by omega)) (fun _ => ?_)
            refine pc_if (fun y => absurd rfl y) (fun _ => ?_)
            refine pc_sub (by omega) ?_; intro v2 e2
            rw [show v2 = (k : Int) by omega]
            refine pc_sv (c_fIn M (x := V t) (k := k) (by omega)) ?_; intro u4 q4
            -- the class above
            refine pc_sv (P := fun y => y = uq_T (r 180) a) ?_ ?_
            · unfold qf_X4_above qf_X4_isClass
              refine pc_sv (P := fun y => y = 1) ?_ ?_
              · refine pc_if (fun y => absurd y (by omega)) (fun _ => ?_)
                exact pc_if (fun y => absurd y (by omega)) (fun _ => pc_ret rfl)
              · intro u6 e6
                refine pc_if (fun y => absurd y (by omega)) (fun _ => ?_)
                refine pc_rA ?_; intro _ _ v3 e3
                refine pc_ret ?_
                have e13 : v3 = h 13 a.toNat := e3
                rw [e13, KN.1 a.toNat (by omega), if_neg (by omega), if_pos (by omega), uq_8 (by omega), show a.toNat - 8 = (a - 8).toNat by omega]
            · intro u7 e7
              refine pc_add (by omega) ?_; intro v8 e8
              refine pc_fl ?_
              unfold qw_X13_memberOf_3
              refine pc_if (fun y => absurd y (by omega)) (fun _ => ?_)
              refine r_12 BK H3.2.1 e28 HN kt (by decide) (by omega) (fun j hj y y2 => ?_) (fun y => ?_) nn 0 (by omega) (fun j hj => absurd hj (by omega))
              · -- the reference has found member j
                have y' : MSm r (k : Int) 0 j := by rw [show (k : Int) = a - 8 by omega]; exact y
                rcases q4 with ⟨b1, b2⟩ | ⟨i, b1, b2, b3, b4⟩
                · exact absurd ⟨j, hj, y', y2⟩ b2
                · have ij : i = j := Classical.byContradiction fun ne => by
                    by_cases lt : i < j
                    · exact M.2.2.2.1 i j k 0 lt hj b2 y' (by rw [b3, y2])
                    · exact M.2.2.2.1 j i k 0 (by omega) b1 y' b2 (by rw [b3, y2])
                  rw [ij] at b4
                  have n1 : ¬ u4 = -1 := by omega
                  refine pc_imp (c_fieldF n1 f) (fun u eu => .inr ⟨j, k, hj, by omega, y', y2, rfl, by rw [eu]; exact b4⟩)
              · rcases q4 with ⟨b1, b2⟩ | ⟨i, b1, b2, b3, b4⟩
                · rw [b1, e7]
                  refine pc_fl (ih f f2 (uq_T (r 180) a) v8 ?_ ?_ (by omega))
                  · rw [uq_8 (by omega)]
                    exact upk_b S (by omega) (UP (a - 8).toNat (by omega))
                  · obtain ⟨i, i1, i2⟩ := E
                    cases i with
                    | zero => exact absurd i2 a8
                    | succ i =>
                      refine ⟨i, by omega, ?_⟩
                      have := ui_a (U := r 180) (x := a) i 1
                      rw [show 1 + i = i + 1 by omega] at this
                      rw [this] at i2
                      exact i2
                · exact absurd ⟨by rw [show a - 8 = (k : Int) by omega]; exact b2, b3⟩ (y i b1)
/-- a lookup of both sides, from class a up -/
theorem j_fieldOf (BK : TBn K c) (S : CKd K V C n N) (H : HDS K P V C c n N mt q h r) {t : Nat} (kt : K t = 2) {a : Int} (ha : -1 ≤ a ∧ a < 8 + (n : Int)) : Pc (qf_X2_fieldOf nn a (V t) h) (fun u => Pc (qf_X13_memberOf nn a (t : Int) 0 r) (fun v => LKR V mt 0 (V t) r u v)) := by
  have n8 := H.2.1.1
  have OK := H.2.1.2.2.1
  unfold qf_X2_fieldOf qf_X13_memberOf
  refine j_field8 BK S H kt 9 nn nn a 0 ha ?_ (by decide)
  by_cases a8 : a < 8
  · exact ⟨0, by omega, a8⟩
  · obtain ⟨i, i1, i2⟩ := (OK (a - 8).toNat (by omega)).2.2
    rw [show 8 + (((a - 8).toNat : Nat) : Int) = a by omega] at i2
    exact ⟨i, by omega, i2⟩
end
end
section
/- HEADS: overriding, both sides -/
/-- member j may stand in place of member o -/
def SMo (r : ms_M) (j o : Nat) : Prop := r 182 j = 1 ∧ r 182 o = 1 ∧ r 187 j = r 187 o ∧ r 189 j = r 189 o ∧ ∀ i : Nat, (i : Int) < r 189 j → r 195 ((r 188 j).toNat + i) = r 195 ((r 188 o).toNat + i)
section
variable {nn : Nat} {K P V U : Nat → Int} {C : Nat → Nat} {c n N mt : Nat} {q : Int} {h g r w u v h0 r0 : ms_M}
theorem pc_div {α : Type} {Q : α → Prop} {x y : Int} {F : Int → Option α} (hx : 0 ≤ x) (k : ∀ v, v = x / y → Pc (F v) Q) : Pc (xl (Int.tdiv x y) F) Q := k _ (Int.tdiv_eq_ediv_of_nonneg hx)
theorem pc_mod {α : Type} {Q : α → Prop} {x y : Int} {F : Int → Option α} (hx : 0 ≤ x) (k : ∀ v, v = x % y → Pc (F v) Q) : Pc (xl (Int.tmod x y) F) Q := k _ (Int.tmod_eq_emod_of_nonneg hx)
theorem c_isM {x : Nat} (hx : x < 96) : Pc (qf_X2_isMethod nn (x : Int) h) (fun u => (u = 1 ∧ ((x % 12 : Nat) : Int) < h 21 (x / 12)) ∨ (u = 0 ∧ ¬ ((x % 12 : Nat) : Int) < h 21 (x / 12))) := by
  unfold qf_X2_isMethod
  refine pc_if (fun z => absurd z (by omega)) (fun _ => ?_)
  refine pc_if (fun z => absurd z (by omega)) (fun _ => ?_)
  refine pc_mod (by omega) ?_; intro v3 e3
  refine pc_div (by omega) ?_; intro v5 e5
  refine pc_rA ?_; intro _ _ v6 e6
  rw [show v5.toNat = x / 12 by omega] at e6
  refine pc_if (fun z => pc_ret (.inr ⟨rfl, by omega⟩)) (fun z => pc_ret (.inl ⟨rfl, by omega⟩))
/-- the method in its row is one -/
theorem c_isMm (M : MTB V C n mt q h r) {j k : Nat} (hk : k < 8) (hj : j < mt) (A : MSm r k 1 j) : Pc (qf_X2_isMethod nn ((12 * k + mcn_T r k 1 j : Nat) : Int) h) (fun u => u = 1) := by
  have m0 := M.1 k hk
  have lt := mcn_lt hj A
  refine pc_imp (c_isM (by omega)) (fun u z => ?_)
  rw [show (12 * k + mcn_T r k 1 j) % 12 = mcn_T r k 1 j by omega, show (12 * k + mcn_T r k 1 j) / 12 = k by omega] at z
  rcases z with ⟨a, b⟩ | ⟨a, b⟩
  · exact a
  · omega
theorem c_parT (M : MTB V C n mt q h r) {j k i : Nat} (hk : k < 8) (hj : j < mt) (A : MSm r k 1 j) (hi : (i : Int) < r 189 j) : Pc (qf_X2_parameterType nn ((12 * k + mcn_T r k 1 j : Nat) : Int) (i : Int) h) (fun u => u = h 29 (6 * (12 * k + mcn_T r k 1 j) + i)) := by
  have m0 := M.1 k hk
  have lt := mcn_lt hj A
  have mb := M.2.2.1 j k hj hk A
  have b1 := mb.2.2.1
  unfold qf_X2_parameterType qf_X2_parametersOf
  refine pc_if (fun z => absurd z (by omega)) (fun _ => ?_)
  refine pc_sv (P := fun y => y = r 189 j) ?_ ?_
  · refine pc_sv (c_isMm M hk hj A) ?_; intro u2 e2
    refine pc_if (fun z => absurd z (by omega)) (fun _ => ?_)
    refine pc_rA ?_; intro _ _ v4 e4
    rw [Int.toNat_natCast, b1.1] at e4
    exact pc_ret e4
  · intro u2 e2
    refine pc_if (fun z => absurd z (by omega)) (fun _ => ?_)
    refine pc_xl ?_; intro v4 e4
    rw [oq_mul_eq (by omega) (by omega) (by omega)] at e4
    refine pc_add (by omega) ?_; intro v5 e5
    refine pc_rA ?_; intro _ _ v6 e6
    rw [show v5.toNat = 6 * (12 * k + mcn_T r k 1 j) + i by omega] at e6
    exact pc_ret e6
theorem c_131 (B : TBc K P c h) (hf : h 2 11 = 0) {x t : Nat} {l3 : Int} (ht : t < c) (e22 : h 22 x = (t : Int)) : Pc (qj_X2_checkOverride_131 nn (x : Int) l3 h) (fun u => (¬ l3 = 0 ∧ u = h) ∨ (l3 = 0 ∧ u 2 11 = 10 ∧ u 2 12 = P t)) := by
  unfold qj_X2_checkOverride_131
  refine pc_if (fun z => pc_ret (.inl ⟨z, rfl⟩)) (fun z => ?_)
  refine pc_rA ?_; intro _ _ v3 e3
  rw [Int.toNat_natCast, e22] at e3
  refine pc_sv (c_tell B hf ht e3) ?_; intro u5 q5
  exact pc_ret (.inr ⟨Classical.byContradiction z, q5.1⟩)
theorem c_ov (B : TBc K P c h) (hf : h 2 11 = 0) (M : MTB V C n mt q h r) {j k o k2 t : Nat} (hk : k < 8) (hj : j < mt) (A : MSm r k 1 j) (hk2 : k2 < 8) (ho : o < mt) (A2 : MSm r k2 1 o) (ht : t < c) (e186 : r 186 j = (t : Int)) : ∀ (f l : Nat) (l3 : Int), ((l3 = 1 ∧ (r 182 j = 1 ∧ r 182 o = 1 ∧ r 187 j = r 187 o ∧ r 189 j = r 189 o) ∧ ∀ i : Nat, i < l → (i : Int) < r 189 j → r 195 ((r 188 j).toNat + i) = r 195 ((r 188 o).toNat + i)) ∨ (l3 = 0 ∧ ¬ SMo r j o)) → Pc (qw_X2_checkOverride_87 nn f ((12 * k + mcn_T r k 1 j : Nat) : Int) ((12 * k2 + mcn_T r k2 1 o : Nat) : Int) l3 (l : Int) h) (fun u => (SMo r j o ∧ u = h) ∨ (¬ SMo r j o ∧ u 2 11 = 10 ∧ u 2 12 = P t)) := by
  have m0 := M.1 k hk
  have lt := mcn_lt hj A
  have mj := M.2.2.1 j k hj hk A
  have mo := M.2.2.1 o k2 ho hk2 A2
  have b1 := mj.2.2.1
  have e22 : h 22 (12 * k + mcn_T r k 1 j) = (t : Int) := by rw [mj.1.1]; exact e186
  intro f
  induction f with
  | zero => intros; exact pc_none
  | succ f ih =>
    intro l l3 H
    have END : (l3 = 1 → SMo r j o) → Pc (qj_X2_checkOverride_131 nn ((12 * k + mcn_T r k 1 j : Nat) : Int) l3 h) (fun u => (SMo r j o ∧ u = h) ∨ (¬ SMo r j o ∧ u 2 11 = 10 ∧ u 2 12 = P t)) := fun y => by
      refine pc_imp (c_131 B hf ht e22) (fun u z => ?_)
      rcases H with ⟨a, b, d⟩ | ⟨a, b⟩
      · rcases z with ⟨z1, z2⟩ | ⟨z1, z2⟩
        · exact .inl ⟨y a, z2⟩
        · omega
      · rcases z with ⟨z1, z2⟩ | ⟨z1, z2⟩
        · exact absurd a z1
        · exact .inr ⟨b, z2⟩
    unfold qw_X2_checkOverride_87
    refine pc_rA ?_; intro _ _ v8 e8
    rw [Int.toNat_natCast, b1.1] at e8
    refine pc_if (fun z => ?_) (fun z => ?_)
    · refine END (fun y => ?_)
      rcases H with ⟨a, b, d⟩ | ⟨a, b⟩
      · exact ⟨b.1, b.2.1, b.2.2.1, b.2.2.2, fun i hi => d i (by omega) hi⟩
      · omega
    · refine pc_if (fun y => END (fun y2 => absurd y (by omega))) (fun y => ?_)
      rcases H with ⟨a, b, d⟩ | ⟨a, b⟩
      · have p1 := mj.2.2.2.1 l (by omega)
        have p2 := mo.2.2.2.1 l (by omega)
        refine pc_sv (c_parT M hk hj A (i := l) (by omega)) ?_; intro u10 q10
        refine pc_sv (c_parT M hk2 ho A2 (i := l) (by omega)) ?_; intro u12 q12
        refine pc_if (fun y1 => ?_) (fun y1 => ?_)
        · refine pc_add (by omega) ?_; intro v13 e13
          rw [show v13 = ((l + 1 : Nat) : Int) by omega]
          refine ih (l + 1) 0 (.inr ⟨rfl, fun s => y1 ?_⟩)
          rw [q10, q12]
          have e := s.2.2.2.2 l (by omega)
          rw [p1.2.1.2.2, p2.2.1.2.2] at e
          exact (ty_i p1.2.1.1 p2.2.1.1).mp e
        · refine pc_add (by omega) ?_; intro v14 e14
          rw [show v14 = ((l + 1 : Nat) : Int) by omega]
          refine ih (l + 1) 1 (.inl ⟨rfl, b, fun i hi hi2 => ?_⟩)
          by_cases il : i = l
          · rw [il, p1.2.1.2.2, p2.2.1.2.2]
            have e : u10 = u12 := Classical.byContradiction y1
            rw [← q10, ← q12, e]
          · exact d i (by omega) hi2
      · exact absurd a y
theorem r_148 (BK : TBn K c) (D : HDr K P V C c n r) (rf : r 160 9 = 0) {j t : Nat} {l3 : Int} (ht : t < c) (e186 : r 186 j = (t : Int)) : Pc (qj_X13_overrides_148 nn (j : Int) l3 r) (fun v => (¬ l3 = 0 ∧ v = r) ∨ (l3 = 0 ∧ v 160 9 = 10 ∧ v 160 10 = P t)) := by
  unfold qj_X13_overrides_148
  refine pc_if (fun z => pc_ret (.inl ⟨z, rfl⟩)) (fun z => ?_)
  refine pc_rA ?_; intro _ _ v2 e2
  rw [Int.toNat_natCast, e186] at e2
  refine pc_sv (r_wrg D.1 rf ht e2) ?_; intro u4 q4
  exact pc_ret (.inr ⟨Classical.byContradiction z, q4.1⟩)
theorem r_ov (BK : TBn K c) (D : HDr K P V C c n r) (rf : r 160 9 = 0) {j o t : Nat} (b1 : 0 ≤ r 189 j ∧ r 189 j ≤ 6) (ht : t < c) (e186 : r 186 j = (t : Int)) : ∀ (f l : Nat) (l3 : Int), ((l3 = 1 ∧ (r 182 j = 1 ∧ r 182 o = 1 ∧ r 187 j = r 187 o ∧ r 189 j = r 189 o) ∧ ∀ i : Nat, i < l → (i : Int) < r 189 j → r 195 ((r 188 j).toNat + i) = r 195 ((r 188 o).toNat + i)) ∨ (l3 = 0 ∧ ¬ SMo r j o)) → (0 ≤ r 188 j ∧ r 188 j ≤ 1000000) → (0 ≤ r 188 o ∧ r 188 o ≤ 1000000) → Pc (qw_X13_overrides_90 nn f (j : Int) (o : Int) l3 (l : Int) r) (fun v => (SMo r j o ∧ v = r) ∨ (¬ SMo r j o ∧ v 160 9 = 10 ∧ v 160 10 = P t)) := by
  intro f
  induction f with
  | zero => intros; exact pc_none
  | succ f ih =>
    intro l l3 H hj ho
    have END : (l3 = 1 → SMo r j o) → Pc (qj_X13_overrides_148 nn (j : Int) l3 r) (fun v => (SMo r j o ∧ v = r) ∨ (¬ SMo r j o ∧ v 160 9 = 10 ∧ v 160 10 = P t)) := fun y => by
      refine pc_imp (r_148 BK D rf ht e186) (fun u z => ?_)
      rcases H with ⟨a, b, d⟩ | ⟨a, b⟩
      · rcases z with ⟨z1, z2⟩ | ⟨z1, z2⟩
        · exact .inl ⟨y a, z2⟩
        · omega
      · rcases z with ⟨z1, z2⟩ | ⟨z1, z2⟩
        · exact absurd a z1
        · exact .inr ⟨b, z2⟩
    unfold qw_X13_overrides_90
    refine pc_rA ?_; intro _ _ v7 e7
    rw [Int.toNat_natCast] at e7
    refine pc_if (fun z => ?_) (fun z => ?_)
    · refine END (fun y => ?_)
      rcases H with ⟨a, b, d⟩ | ⟨a, b⟩
      · exact ⟨b.1, b.2.1, b.2.2.1, b.2.2.2, fun i hi => d i (by omega) hi⟩
      · omega
    · refine pc_if (fun y => END (fun y2 => absurd y (by omega))) (fun y => ?_)
      rcases H with ⟨a, b, d⟩ | ⟨a, b⟩
      · refine pc_rA ?_; intro _ _ v10 e10
        rw [Int.toNat_natCast] at e10
        refine pc_add (by omega) ?_; intro v11 e11
        refine pc_rA ?_; intro _ _ v12 e12
        refine pc_rA ?_; intro _ _ v15 e15
        rw [Int.toNat_natCast] at e15
        refine pc_add (by omega) ?_; intro v16 e16
        refine pc_rA ?_; intro _ _ v17 e17
        rw [show v11.toNat = (r 188 j).toNat + l by omega] at e12
        rw [show v16.toNat = (r 188 o).toNat + l by omega] at e17
        refine pc_if (fun y1 => ?_) (fun y1 => ?_)
        · refine pc_add (by omega) ?_; intro v18 e18
          rw [show v18 = ((l + 1 : Nat) : Int) by omega]
          refine ih (l + 1) 0 (.inr ⟨rfl, fun s => y1 ?_⟩) hj ho
          rw [e12, e17]; exact s.2.2.2.2 l (by omega)
        · refine pc_add (by omega) ?_; intro v19 e19
          rw [show v19 = ((l + 1 : Nat) : Int) by omega]
          refine ih (l + 1) 1 (.inl ⟨rfl, b, fun i hi hi2 => ?_⟩) hj ho
          by_cases il : i = l
          · rw [il, ← e12, ← e17]; exact Classical.byContradiction y1
          · exact d i (by omega) hi2
      · exact absurd a y
/-- one method against what it overrides, both sides -/
theorem j_ov (BK : TBn K c) (S : CKd K V C n N) (H : HDS K P V C c n N mt q h r) (hp : ∀ j : Nat, j < mt → 0 ≤ r 188 j ∧ r 188 j ≤ 1000000) (hf : h 2 11 = 0) (rf : r 160 9 = 0) {j k : Nat} (hk : k < n) (hj : j < mt) (A : MSm r k 1 j) : Pc (qf_X2_checkOverride nn ((12 * k + mcn_T r k 1 j : Nat) : Int) h) (fun u => Pc (qf_X13_overrides nn (j : Int) r) (fun v => (u = h ∧ v = r) ∨ SFj u v)) := by
  have H' := H
  obtain ⟨⟨H1, H2, H3⟩, ⟨n8, UP, OK, KN⟩, M, e28, HN, HC, HM⟩ := H'
  have k8 : k < 8 := by omega
  have m0 := M.1 k k8
  have lt := mcn_lt hj A
  have mj := M.2.2.1 j k hj k8 A
  have nj := HN j hj
  obtain ⟨t, et⟩ : ∃ t : Nat, r 186 j = (t : Int) := ⟨(r 186 j).toNat, by omega⟩
  have kt : K t = 2 := by have := nj.2; rw [et, Int.toNat_natCast] at this; exact this
  have tc := tb_lt BK (i := t) (by omega)
  have ub := upk_b S hk (UP k hk)
  have hpj := hp j hj
  have j1 : r 181 j = (k : Int) := A.1
  unfold qf_X2_checkOverride
  refine pc_div (by omega) ?_; intro v19 e19
  have x19 : v19 = (k : Int) := by omega
  refine pc_add (by omega) ?_; intro v20 e20
  refine pc_sv (P := fun y => y = r 180 k) ?_ ?_
  · unfold qf_X4_above qf_X4_isClass
    refine pc_sv (P := fun y => y = 1) ?_ ?_
    · refine pc_if (fun y => absurd y (by omega)) (fun _ => ?_)
      exact pc_if (fun y => absurd y (by omega)) (fun _ => pc_ret rfl)
    · intro u6 e6
      refine pc_if (fun y => absurd y (by omega)) (fun _ => ?_)
      refine pc_rA ?_; intro _ _ v3 e3
      refine pc_ret ?_
      have e13 : v3 = h 13 v20.toNat := e3
      rw [e13, KN.1 v20.toNat (by omega), if_neg (by omega), if_pos (by omega), show v20.toNat - 8 = k by omega]
  · intro u22 e22
    rw [e22]
    refine pc_sv (P := fun y => y = V t) ?_ ?_
    · unfold qf_X2_nameOfMethod
      refine pc_sv (c_isMm M k8 hj A) ?_; intro u2 e2
      refine pc_if (fun y => absurd y (by omega)) (fun _ => ?_)
      refine pc_rA ?_; intro _ _ v5 e5
      rw [Int.toNat_natCast, mj.1.1, et] at e5
      refine pc_sv (c_valueAt BK H1.1 H1.2.1 kt e5) ?_; intro u7 q7
      exact pc_ret q7
    · intro u24 e24
      rw [e24]
      refine pc_fl ?_
      unfold qf_X13_overrides
      refine pc_rA ?_; intro _ _ w24 f24
      rw [Int.toNat_natCast, j1] at f24
      refine pc_add (by omega) ?_; intro w25 f25
      refine pc_sv (r_up (by omega)) ?_; intro w27 f27
      rw [uq_8 (by omega), show (w25 - 8).toNat = k by omega] at f27
      rw [f27]
      refine pc_rA ?_; intro _ _ w29 f29
      rw [Int.toNat_natCast, et] at f29
      rw [f29]
      refine pc_fl ?_
      refine p2_sv (j_methodOf BK S H kt ub) ?_; intro u26 w31 L
      rcases L with ⟨a1, a2⟩ | ⟨o, k2, ho, hk2, A2, _, ew, eu⟩
      · refine pc_if (fun y => absurd a1 y) (fun _ => ?_)
        refine pc_ret ?_
        refine pc_if (fun y => absurd a2 y) (fun _ => ?_)
        exact pc_ret (.inl ⟨rfl, rfl⟩)
      · have m2 := M.1 k2 hk2
        have lo := mcn_lt ho A2
        have mo := M.2.2.1 o k2 ho hk2 A2
        have hpo := hp o ho
        rw [ew, eu]
        -- both come to the same
        have FIN : ∀ (u v : ms_M), ((SMo r j o ∧ u = h) ∨ (¬ SMo r j o ∧ u 2 11 = 10 ∧ u 2 12 = P t)) → ((SMo r j o ∧ v = r) ∨ (¬ SMo r j o ∧ v 160 9 = 10 ∧ v 160 10 = P t)) → (u = h ∧ v = r) ∨ SFj u v := fun u v x y => by
          rcases x with ⟨x1, x2⟩ | ⟨x1, x2, x3⟩
          · rcases y with ⟨y1, y2⟩ | ⟨y1, _⟩
            · exact .inl ⟨x2, y2⟩
            · exact absurd x1 y1
          · rcases y with ⟨y1, _⟩ | ⟨y1, y2, y3⟩
            · exact absurd y1 x1
            · exact .inr ⟨by omega, by omega, by omega⟩
        have c0 : ∀ l : Nat, l = 0 → ¬ SMo r j o → Pc (qj_X2_checkOverride_82 nn ((12 * k + mcn_T r k 1 j : Nat) : Int) ((12 * k2 + mcn_T r k2 1 o : Nat) : Int) h) (fun u => (SMo r j o ∧ u = h) ∨ (¬ SMo r j o ∧ u 2 11 = 10 ∧ u 2 12 = P t)) := fun _ _ z => by
          unfold qj_X2_checkOverride_82
          exact c_ov H1.1 hf M k8 hj A hk2 ho A2 tc et nn 0 0 (.inr ⟨rfl, z⟩)
        have r0' : ¬ SMo r j o → Pc (qj_X13_overrides_85 nn (j : Int) (o : Int) r) (fun v => (SMo r j o ∧ v = r) ∨ (¬ SMo r j o ∧ v 160 9 = 10 ∧ v 160 10 = P t)) := fun z => by
          unfold qj_X13_overrides_85
          exact r_ov BK H3 rf (by have := mj.2.2.1; omega) tc et nn 0 0 (.inr ⟨rfl, z⟩) hpj hpo
        refine pc_if (fun _ => ?_) (fun y => absurd (fun y2 => by omega) y)
        have CC1 : Pc (rd_A 96 25 ((12 * k + mcn_T r k 1 j : Nat) : Int) h fun v28 => if ¬ v28 = 0 then (qj_X2_checkOverride_82 nn ((12 * k + mcn_T r k 1 j : Nat) : Int) ((12 * k2 + mcn_T r k2 1 o : Nat) : Int) h) else (rd_A 96 25 ((12 * k2 + mcn_T r k2 1 o : Nat) : Int) h fun v30 => if ¬ v30 = 0 then (qj_X2_checkOverride_82 nn ((12 * k + mcn_T r k 1 j : Nat) : Int) ((12 * k2 + mcn_T r k2 1 o : Nat) : Int) h) else (rd_A 96 24 ((12 * k + mcn_T r k 1 j : Nat) : Int) h fun v32 => rd_A 96 24 ((12 * k2 + mcn_T r k2 1 o : Nat) : Int) h fun v34 => if ¬ v32 = v34 then (qj_X2_checkOverride_82 nn ((12 * k + mcn_T r k 1 j : Nat) : Int) ((12 * k2 + mcn_T r k2 1 o : Nat) : Int) h) else (rd_A 96 27 ((12 * k + mcn_T r k 1 j : Nat) : Int) h fun v36 => rd_A 96 27 ((12 * k2 + mcn_T r k2 1 o : Nat) : Int) h fun v38 => if ¬ v36 = v38 then (qj_X2_checkOverride_82 nn ((12 * k + mcn_T r k 1 j : Nat) : Int) ((12 * k2 + mcn_T r k2 1 o : Nat) : Int) h) else (qw_X2_checkOverride_87 nn nn ((12 * k + mcn_T r k 1 j : Nat) : Int) ((12 * k2 + mcn_T r k2 1 o : Nat) : Int) 1 0 h))))) (fun u => (SMo r j o ∧ u = h) ∨ (¬ SMo r j o ∧ u 2 11 = 10 ∧ u 2 12 = P t)) := by
          have s1 := mj.2.1
          have s2 := mo.2.1
          refine pc_rA ?_; intro _ _ v28 e28'
          rw [Int.toNat_natCast] at e28'
          refine pc_if (fun z => c0 0 rfl (fun s => by have := s.1; omega)) (fun z => ?_)
          refine pc_rA ?_; intro _ _ v30 e30
          rw [Int.toNat_natCast] at e30
          refine pc_if (fun z => c0 0 rfl (fun s => by have := s.2.1; omega)) (fun z2 => ?_)
          refine pc_rA ?_; intro _ _ v32 e32
          refine pc_rA ?_; intro _ _ v34 e34
          rw [Int.toNat_natCast] at e32 e34
          have ti := ty_i mj.1.2.1 mo.1.2.1
          refine pc_if (fun z => c0 0 rfl (fun s => z ?_)) (fun z3 => ?_)
          · rw [e32, e34]
            have := s.2.2.1
            rw [mj.1.2.2.2, mo.1.2.2.2] at this
            exact ti.mp this
          · refine pc_rA ?_; intro _ _ v36 e36
            refine pc_rA ?_; intro _ _ v38 e38
            rw [Int.toNat_natCast] at e36 e38
            rw [mj.2.2.1.1] at e36
            rw [mo.2.2.1.1] at e38
            refine pc_if (fun z => c0 0 rfl (fun s => z (by rw [e36, e38]; exact s.2.2.2.1))) (fun z4 => ?_)
            refine c_ov H1.1 hf M k8 hj A hk2 ho A2 tc et nn 0 1 (.inl ⟨rfl, ⟨by omega, by omega, ?_, by omega⟩, fun i hi => absurd hi (by omega)⟩)
            rw [mj.1.2.2.2, mo.1.2.2.2]
            exact ti.mpr (by rw [← e32, ← e34]; exact Classical.byContradiction z3)
        refine pc_imp CC1 (fun u x => ?_)
        refine pc_if (fun _ => ?_) (fun y => absurd (fun y2 => by omega) y)
        refine pc_rA ?_; intro _ _ w33 f33
        rw [Int.toNat_natCast] at f33
        refine pc_if (fun z => pc_imp (r0' (fun s => by have := s.1; omega)) (fun v y => FIN u v x y)) (fun z => ?_)
        refine pc_rA ?_; intro _ _ w35 f35
        rw [Int.toNat_natCast] at f35
        refine pc_if (fun z => pc_imp (r0' (fun s => by have := s.2.1; omega)) (fun v y => FIN u v x y)) (fun z2 => ?_)
        refine pc_rA ?_; intro _ _ w37 f37
        refine pc_rA ?_; intro _ _ w39 f39
        rw [Int.toNat_natCast] at f37 f39
        refine pc_if (fun z => pc_imp (r0' (fun s => by have := s.2.2.1; omega)) (fun v y => FIN u v x y)) (fun z3 => ?_)
        refine pc_rA ?_; intro _ _ w41 f41
        refine pc_rA ?_; intro _ _ w43 f43
        rw [Int.toNat_natCast] at f41 f43
        refine pc_if (fun z => pc_imp (r0' (fun s => by have := s.2.2.2.1; omega)) (fun v y => FIN u v x y)) (fun z4 => ?_)
        refine pc_imp (r_ov BK H3 rf (by have := mj.2.2.1; omega) tc et nn 0 1 (.inl ⟨rfl, ⟨by omega, by omega, by omega, by omega⟩, fun i hi => absurd hi (by omega)⟩) hpj hpo) (fun v y => FIN u v x y)
/-- all methods, both sides -/
theorem j_ovs (BK : TBn K c) (S : CKd K V C n N) (H : HDS K P V C c n N mt q h r) (hp : ∀ j : Nat, j < mt → 0 ≤ r 188 j ∧ r 188 j ≤ 1000000) (hf : h 2 11 = 0) (rf : r 160 9 = 0) : ∀ (d f f2 x m : Nat), 96 + mt ≤ x + m + d → x ≤ 96 → m ≤ mt → (∀ j k : Nat, j < m → MSm r k 1 j → k < 8 → 12 * k + mcn_T r k 1 j < x) → (∀ j k : Nat, m ≤ j → j < mt → MSm r k 1 j → k < 8 → x ≤ 12 * k + mcn_T r k 1 j) → Pc (qw_X2_checkOverrides_2 nn f (x : Int) h) (fun u => Pc (qw_X13_heads_220 nn f2 (m : Int) r) (fun v => (u = h ∧ v = r) ∨ SFj u v)) := by
  have H' := H
  obtain ⟨⟨H1, H2, H3⟩, ⟨n8, UP, OK, KN⟩, M, e28, HN, HC, HM⟩ := H'
  intro d
  induction d with
  | zero =>
    intro f f2 x m hd hx hm A1 A2
    cases f with
    | zero => exact pc_none
    | succ f =>
      unfold qw_X2_checkOverrides_2
      refine pc_if (fun _ => ?_) (fun z => absurd (by omega) z)
      refine pc_ret ?_
      cases f2 with
      | zero => exact pc_none
      | succ f2 =>
        unfold qw_X13_heads_220
        refine pc_if (fun _ => pc_ret (.inl ⟨rfl, rfl⟩)) (fun z => absurd (by omega) z)
  | succ d ih =>
    intro f f2 x m hd hx hm A1 A2
    -- the class passes a place that is no method
    have CN : x < 96 → (∀ j k : Nat, j < mt → MSm r k 1 j → k < 8 → ¬ 12 * k + mcn_T r k 1 j = x) → Pc (qw_X2_checkOverrides_2 nn f (x : Int) h) (fun u => Pc (qw_X13_heads_220 nn f2 (m : Int) r) (fun v => (u = h ∧ v = r) ∨ SFj u v)) := fun x9 no => by
      cases f with
      | zero => exact pc_none
      | succ f =>
        unfold qw_X2_checkOverrides_2
        refine pc_if (fun z => absurd z (by omega)) (fun _ => ?_)
        refine pc_if (fun z => absurd hf z) (fun _ => ?_)
        refine pc_sv (c_isM x9) ?_; intro u6 q6
        refine pc_if (fun _ => ?_) (fun z => ?_)
        · refine pc_add (by omega) ?_; intro v7 e7
          rw [show v7 = ((x + 1 : Nat) : Int) by omega]
          refine ih f f2 (x + 1) m (by omega) (by omega) hm (fun j k h1 h2 h3 => by have := A1 j k h1 h2 h3; omega) (fun j k h1 h2 h3 h4 => ?_)
          have a := A2 j k h1 h2 h3 h4
          have b := no j k h2 h3 h4
          omega
        · exfalso
          rcases q6 with ⟨a, b⟩ | ⟨a, b⟩
          · have m0 := M.1 (x / 12) (by omega)
            rw [m0.1.2] at b
            obtain ⟨j, j1, j2, j3⟩ := mcn_sur (r := r) (k := ((x / 12 : Nat) : Int)) (s := 1) mt (x % 12) (by omega)
            exact no j (x / 12) j1 j2 (by omega) (by omega)
          · exact z a
    by_cases mm : m < mt
    · have cm := HC m mm
      obtain ⟨k, ek⟩ : ∃ k : Nat, r 181 m = (k : Int) := ⟨(r 181 m).toNat, by omega⟩
      have kn : k < n := by omega
      rcases msm_c ek with F0 | F1
      · -- a field: the reference goes on
        refine pc_fl ?_
        cases f2 with
        | zero => exact pc_none
        | succ f2 =>
          unfold qw_X13_heads_220
          refine pc_if (fun z => absurd z (by omega)) (fun _ => ?_)
          refine pc_if (fun z => absurd rf z) (fun _ => ?_)
          refine pc_rA ?_; intro _ m8 v4 e4
          rw [Int.toNat_natCast] at e4
          have s0 := F0.2
          refine pc_if (fun _ => ?_) (fun z => absurd (by omega) z)
          refine pc_add (by omega) ?_; intro v5 e5
          rw [show v5 = ((m + 1 : Nat) : Int) by omega]
          refine pc_fl (ih f f2 x (m + 1) (by omega) hx (by omega) (fun j k' h1 h2 h3 => ?_) (fun j k' h1 h2 h3 h4 => A2 j k' (by omega) h2 h3 h4))
          by_cases jm : j = m
          · rw [jm] at h2
            have := (msm_u F0 h2).2
            omega
          · exact A1 j k' (by omega) h2 h3
      · have k8 : k < 8 := by omega
        have m0 := M.1 k k8
        have lt := mcn_lt mm F1
        have ge := A2 m k (by omega) mm F1 k8
        by_cases eq : 12 * k + mcn_T r k 1 m = x
        · -- both look at it
          cases f with
          | zero => exact pc_none
          | succ f =>
            cases f2 with
            | zero => exact fun _ _ => pc_none
            | succ f2 =>
              unfold qw_X2_checkOverrides_2
              refine pc_if (fun z => absurd z (by omega)) (fun _ => ?_)
              refine pc_if (fun z => absurd hf z) (fun _ => ?_)
              rw [← eq]
              refine pc_sv (c_isMm M k8 mm F1) ?_; intro u6 q6
              refine pc_if (fun z => absurd z (by omega)) (fun _ => ?_)
              refine pc_fl ?_
              unfold qw_X13_heads_220
              refine pc_if (fun z => absurd z (by omega)) (fun _ => ?_)
              refine pc_if (fun z => absurd rf z) (fun _ => ?_)
              refine pc_rA ?_; intro _ m8 v4 e4
              rw [Int.toNat_natCast] at e4
              have s1 := F1.2
              refine pc_if (fun z => absurd z (by omega)) (fun _ => ?_)
              refine pc_fl ?_
              refine p2_sv (j_ov BK S H hp hf rf kn mm F1) ?_; intro u9 w7 J
              refine pc_add (by omega) ?_; intro v10 e10
              refine pc_fl ?_
              refine pc_add (by omega) ?_; intro v8 e8
              rw [show v8 = ((m + 1 : Nat) : Int) by omega, show v10 = ((x + 1 : Nat) : Int) by omega]
              rcases J with ⟨j1, j2⟩ | s
              · rw [j1, j2]
                refine pc_fl (ih f f2 (x + 1) (m + 1) (by omega) (by omega) (by omega) (fun j k' h1 h2 h3 => ?_) (fun j k' h1 h2 h3 h4 => ?_))
                · by_cases jm : j = m
                  · rw [jm] at h2 ⊢
                    have e := (msm_u F1 h2).1
                    have ek2 : k' = k := by omega
                    rw [ek2]; omega
                  · have := A1 j k' (by omega) h2 h3; omega
                · -- the next ones stand behind
                  have h5 := HM m j (by omega) h2
                  rw [ek, h3.1] at h5
                  by_cases kk : k' = k
                  · rw [kk] at h3 ⊢
                    have := mcn_lt (r := r) (i := m) (j := j) (by omega) F1
                    omega
                  · omega
              · refine pc_fl (pj_sf (o := fun a => a) (q := fun b => b) s (fs_qw_X2_checkOverrides_2 f _ _ s.1) (ft_qw_X13_heads_220 f2 _ _ (sf_r s)) (fun a b s => .inr s))
        · refine CN (by omega) (fun j k' h1 h2 h3 e => ?_)
          by_cases jm : j < m
          · have := A1 j k' jm h2 h3; omega
          · by_cases je : j = m
            · rw [je] at h2 e
              have e2 := (msm_u F1 h2).1
              have ek2 : k' = k := by omega
              rw [ek2] at e; exact eq e
            · -- behind m: further on
              have h5 := HM m j (by omega) h1
              rw [ek, h2.1] at h5
              by_cases kk : k' = k
              · rw [kk] at h2 e
                have := mcn_lt (r := r) (i := m) (j := j) (by omega) F1
                omega
              · omega
    · -- no more members
      by_cases x9 : x < 96
      · refine CN x9 (fun j k' h1 h2 h3 e => ?_)
        have := A1 j k' (by omega) h2 h3
        omega
      · cases f with
        | zero => exact pc_none
        | succ f =>
          unfold qw_X2_checkOverrides_2
          refine pc_if (fun _ => ?_) (fun z => absurd (by omega) z)
          refine pc_ret ?_
          cases f2 with
          | zero => exact pc_none
          | succ f2 =>
            unfold qw_X13_heads_220
            refine pc_if (fun _ => pc_ret (.inl ⟨rfl, rfl⟩)) (fun z => absurd (by omega) z)
end
end

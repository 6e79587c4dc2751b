/- HEADS: parameters of both sides -/
/-- i parameters of member m (rows b on in the reference, at x in the class) -/
def PST (V : Nat → Int) (C : Nat → Nat) (n : Nat) (x b i : Nat) (g r : ms_M) : Prop := (g 27 x = (i : Int) ∧ i ≤ 6) ∧ ∀ j : Nat, j < i → g 28 (6 * x + j) = V (r 194 (b + j)).toNat ∧ TYR (g 29 (6 * x + j)) (r 195 (b + j)) ∧ ¬ g 29 (6 * x + j) = 303 ∧ TYS V C n (r 192 (b + j)) (r 191 (b + j)) (r 193 (b + j)) (g 29 (6 * x + j))
def AGp (x : Nat) (g0 g : ms_M) : Prop := ∀ cc y : Nat, ¬ (cc = 2 ∧ (y = 10 ∨ y = 11 ∨ y = 12)) → ¬ (cc = 27 ∧ y = x) → ¬ ((cc = 28 ∨ cc = 29) ∧ 6 * x ≤ y ∧ y < 6 * x + 6) → g cc y = g0 cc y
def ARr (b t : Nat) (r0 r : ms_M) : Prop := ∀ cc y : Nat, ¬ (cc = 160 ∧ (y = 9 ∨ y = 10)) → ¬ (cc = 195 ∧ b ≤ y ∧ y < b + t) → r cc y = r0 cc y
section
variable {nn : Nat} {K P V U : Nat → Int} {C : Nat → Nat} {c n N : Nat} {h g r w u v g0 r0 : ms_M}
theorem c_prm (BK : TBn K c) (S : CKd K V C n N) (n8 : n ≤ 8) (B : TBc K P c g) (L : VLc K V c g) (NC : NCl V C n N g) (gf : g 2 11 = 0) {x i p t : Nat} {bs rw : Int} (hx : x < 96) (g10 : g 2 10 = (p : Int)) (e27 : g 27 x = (i : Int)) (i6 : i ≤ 6) (T : TYk K (p : Int) (t : Int) bs rw) (kt : K t = 2) : Pc (qf_X2_addParameter nn (x : Int) g) (fun u => (bs = 3 ∧ CLz (fun k => V (C k)) n (V p) (-1) ∧ u 2 11 = 5 ∧ u 2 12 = P p) ∨ ∃ ty : Int, TYS V C n (p : Int) bs rw ty ∧ ((i = 6 ∧ u 2 11 = 11 ∧ u 2 12 = P t) ∨ (i < 6 ∧ (∃ j : Nat, j < i ∧ g 28 (6 * x + j) = V t) ∧ u 2 11 = 4 ∧ u 2 12 = P t) ∨ (i < 6 ∧ (∀ j : Nat, j < i → ¬ g 28 (6 * x + j) = V t) ∧ ((K (t + 1) = 47 ∧ u 2 10 = ((t + 2 : Nat) : Int)) ∨ (¬ K (t + 1) = 47 ∧ u 2 10 = ((t + 1 : Nat) : Int))) ∧ (u 27 x = (i : Int) + 1 ∧ u 28 (6 * x + i) = V t ∧ u 29 (6 * x + i) = ty) ∧ ∀ cc y : Nat, ¬ (cc = 2 ∧ y = 10) → ¬ (cc = 27 ∧ y = x) → ¬ ((cc = 28 ∨ cc = 29) ∧ y = 6 * x + i) → u cc y = g cc y))) := by
  have n3 := BK.2.1
  have tc := tb_lt BK (i := t) (by omega)
  have tb := tyk_b T
  unfold qf_X2_addParameter
  refine pc_sv (c_type BK S n8 B L NC gf g10 T (by omega)) ?_; intro u40 q40
  rcases q40 with ⟨q1, q2, q3⟩ | q5
  · have B2 := tbc_k B (fun cc y z => q3 cc y (by omega))
    have L2 : VLc K V c u40.2 := fun i hi ki => by rw [q3 5 i (by omega)]; exact L i hi ki
    have f2 : u40.2 2 11 = 0 := by rw [q3 2 11 (by omega)]; exact gf
    rw [q2]
    refine pc_sv (c_valueAt BK B2 L2 kt rfl) ?_; intro u45 q45
    rw [q45]
    refine pc_xl ?_; intro v46 e46
    rw [oq_mul_eq (by omega) (by omega) (by omega)] at e46
    refine pc_rA ?_; intro _ _ v48 e48
    rw [Int.toNat_natCast, q3 27 x (by omega), e27] at e48
    refine pc_if (fun z => ?_) (fun z => ?_)
    · rw [show v46 = 6 * (x : Int) by omega]
      refine c_54 BK B2 f2 hx kt q2 (by rw [q3 27 x (by omega)]; exact e27) (by omega) (fun d u a1 a2 => ?_) (fun nd u a1 a2 a3 => ?_) nn 0 (by omega) (fun j hj => absurd hj (by omega))
      · obtain ⟨j, d1, d2⟩ := d
        rw [q3 28 _ (by omega)] at d2
        exact .inr ⟨u40.1, q1, .inr (.inl ⟨by omega, ⟨j, d1, d2⟩, a1, a2⟩)⟩
      · refine .inr ⟨u40.1, q1, .inr (.inr ⟨by omega, fun j hj => ?_, a1, a2, fun cc y z1 z2 z3 => ?_⟩)⟩
        · have := nd j hj
          rw [q3 28 _ (by omega)] at this; exact this
        · rw [a3 cc y z1 z2 z3]; exact q3 cc y z1
    · refine pc_sv (c_tell B2 f2 tc rfl) ?_; intro u51 q51
      exact pc_ret (.inr ⟨u40.1, q1, .inl ⟨by omega, q51.1⟩⟩)
  · have F : ¬ u40.2 2 11 = 0 := by rw [q5.2.2.1]; decide
    refine pc_se ?_; intro u45 _
    refine pc_xl ?_; intro v46 _
    refine pc_rA ?_; intro _ _ v48 _
    refine pc_if (fun _ => ?_) (fun _ => ?_)
    · exact pc_imp (fs_qw_X2_addParameter_54 _ _ _ _ _ _ _ _ F) (fun u G => .inl ⟨q5.1, q5.2.1, by rw [G.1]; exact q5.2.2.1, by rw [G.2]; exact q5.2.2.2⟩)
    · refine pc_sv (c_tell2 F) ?_; intro u51 q51
      rw [q51]
      exact pc_ret (.inl q5)
theorem r_par (BK : TBn K c) (S : CKd K V C n N) (n8 : n ≤ 8) (D : HDr K P V C c n r) (rf : r 160 9 = 0) {m b i p t f2 tot : Nat} {bs rw : Int} (hb : r 188 m = (b : Int)) (ht : r 189 m = (tot : Int)) (hi : i < tot) (hbt : b + tot ≤ 1500) (R : r 191 (b + i) = bs ∧ r 192 (b + i) = (p : Int) ∧ r 193 (b + i) = rw ∧ r 194 (b + i) = (t : Int)) (T : TYk K (p : Int) (t : Int) bs rw) (kt : K t = 2) (HP : ∀ j : Nat, j < i → 0 ≤ r 194 (b + j) ∧ K (r 194 (b + j)).toNat = 2) {Q : ms_M → Prop} (Z5 : bs = 3 → CLz (fun k => V (C k)) n (V p) (-1) → ∀ v : ms_M, v 160 9 = 5 → v 160 10 = P p → Q v) (Z11 : i = 6 → ∀ ty : Int, TYS V C n (p : Int) bs rw ty → ∀ v : ms_M, v 160 9 = 11 → v 160 10 = P t → Q v) (Z4 : ¬ i = 6 → ∀ ty : Int, TYS V C n (p : Int) bs rw ty → (∃ j : Nat, j < i ∧ V (r 194 (b + j)).toNat = V t) → ∀ v : ms_M, v 160 9 = 4 → v 160 10 = P t → Q v) (Z0 : ¬ i = 6 → ∀ ty : Int, TYS V C n (p : Int) bs rw ty → (∀ j : Nat, j < i → ¬ V (r 194 (b + j)).toNat = V t) → ∀ v : ms_M, v 195 (b + i) = ty_T ty → (∀ cc y : Nat, ¬ (cc = 195 ∧ y = b + i) → v cc y = r cc y) → Pc (qw_X13_memberHead_157 nn f2 (m : Int) ((i + 1 : Nat) : Int) v) Q) : Pc (qw_X13_memberHead_157 nn (f2 + 1) (m : Int) (i : Int) r) Q := by
  have tc := tb_lt BK (i := t) (by omega)
  have tb := tyk_b T
  rw [Int.toNat_natCast] at tb
  have Hk : ∀ (x y : Int) (z : ms_M), ¬ z 160 9 = 0 → Pc (qw_X13_memberHead_157 nn f2 x y z) (fun u => FSr z u) := fun x y z S => ft_qw_X13_memberHead_157 f2 x y z S
  unfold qw_X13_memberHead_157
  refine pc_rA ?_; intro _ _ v19 e19
  rw [Int.toNat_natCast, ht] at e19
  refine pc_if (fun z => absurd z (by omega)) (fun _ => ?_)
  refine pc_rA ?_; intro _ _ v21 e21
  rw [Int.toNat_natCast, hb] at e21
  refine pc_add (by omega) ?_; intro v22 e22
  have x22 : v22 = ((b + i : Nat) : Int) := by omega
  rw [x22]
  refine pc_rA ?_; intro _ _ v25 e25
  refine pc_rA ?_; intro _ _ v27 e27
  refine pc_rA ?_; intro _ _ v29 e29
  rw [Int.toNat_natCast] at e25 e27 e29
  rw [R.1] at e25
  rw [R.2.1] at e27
  rw [R.2.2.1] at e29
  rw [e25, e27, e29]
  refine pc_sv (r_type BK S n8 D rf (p := p) (bs := bs) (rw := rw) (by omega) tb.2.1) ?_; intro u31 q31
  refine pc_wA ?_; intro _ _ h32 e32
  rw [Int.toNat_natCast] at e32
  rcases q31 with ⟨⟨ty, q1, q2⟩, q3⟩ | q5
  · rw [q3, q2] at e32
    have F : ∀ cc y : Nat, ¬ (cc = 195 ∧ y = b + i) → h32 cc y = r cc y := fun cc y z => by rw [e32, up_n z]
    have D2 := hdr_k D (fun cc y z => F cc y (by omega))
    have f2' : h32 160 9 = 0 := by rw [F 160 9 (by omega)]; exact rf
    refine pc_if (fun z => ?_) (fun z => ?_)
    · unfold qj_X13_memberHead_231
      refine pc_rA ?_; intro _ _ v17 e17
      rw [Int.toNat_natCast, F 188 m (by omega), hb] at e17
      rw [e17]
      refine r_239 BK D2.1 D2.2.1 f2' (m := m) (by omega) (by rw [F 194 _ (by omega)]; exact R.2.2.2) kt (fun j hj => by rw [F 194 _ (by omega)]; exact HP j hj) (fun d v a1 a2 => ?_) Hk (fun nd => ?_) nn 0 (by omega) (fun j hj => absurd hj (by omega))
      · obtain ⟨j, d1, d2⟩ := d
        rw [F 194 _ (by omega)] at d2
        exact Z4 (by omega) ty q1 ⟨j, d1, d2⟩ v a1 a2
      · refine Z0 (by omega) ty q1 (fun j hj => ?_) h32 (by rw [e32, up_s]) F
        have := nd j hj
        rw [F 194 _ (by omega)] at this; exact this
    · refine pc_rA ?_; intro _ _ v34 e34
      rw [Int.toNat_natCast, F 194 _ (by omega), R.2.2.2] at e34
      refine pc_sv (r_wrg D2.1 f2' tc e34) ?_; intro u36 q36
      refine pc_imp (ft_qj_X13_memberHead_231 Hk (by rw [q36.1.1]; decide)) (fun v G => Z11 (by omega) ty q1 v (by rw [G.1]; exact q36.1.1) (by rw [G.2]; exact q36.1.2))
  · have f9 : h32 160 9 = 5 := by rw [e32, up_n (by omega)]; exact q5.2.2.1
    have f10 : h32 160 10 = P p := by rw [e32, up_n (by omega)]; exact q5.2.2.2
    refine pc_if (fun z => ?_) (fun z => ?_)
    · exact pc_imp (ft_qj_X13_memberHead_231 Hk (by rw [f9]; decide)) (fun v G => Z5 q5.1 q5.2.1 v (by rw [G.1]; exact f9) (by rw [G.2]; exact f10))
    · refine pc_rA ?_; intro _ _ v34 e34
      refine pc_sv (r_wrg2 (by rw [f9]; decide)) ?_; intro u36 q36
      rw [q36]
      exact pc_imp (ft_qj_X13_memberHead_231 Hk (by rw [f9]; decide)) (fun v G => Z5 q5.1 q5.2.1 v (by rw [G.1]; exact f9) (by rw [G.2]; exact f10))
theorem j_prm (BK : TBn K c) (S : CKd K V C n N) (n8 : n ≤ 8) (B0 : TBc K P c g0) (L0 : VLc K V c g0) (N0 : NCl V C n N g0) (D0 : HDr K P V C c n r0) {x b m tot : Nat} {xe : Int} (hx : x < 96) (hb : r0 188 m = (b : Int)) (ht : r0 189 m = (tot : Int)) (hbt : b + tot ≤ 1500) (kx : K xe.toNat = 41) {Z : ms_M → ms_M → Prop} (HS : ∀ u v, SFj u v → Z u v) (HP : ∀ j : Nat, j < tot → 0 ≤ r0 194 (b + j) ∧ K (r0 194 (b + j)).toNat = 2) (HO : ∀ g r : ms_M, AGp x g0 g → ARr b tot r0 r → g 2 11 = 0 → r 160 9 = 0 → g 2 10 = xe → PST V C n x b tot g r → Pc (qj_X2_addMethod_162 nn (x : Int) g) (fun u => Z u r)) : ∀ (d f f2 i p : Nat) (g r : ms_M), i + d = tot → AGp x g0 g → ARr b tot r0 r → g 2 11 = 0 → r 160 9 = 0 → g 2 10 = (p : Int) → PST V C n x b i g r → PRL K r0 d ((b + i : Nat) : Int) (p : Int) xe → Pc (qw_X2_addMethod_120 nn f (x : Int) (i : Int) g) (fun u => Pc (qw_X13_memberHead_157 nn f2 (m : Int) (i : Int) r) (fun v => Z u v)) := by
  have n3 := BK.2.1
  intro d
  induction d with
  | zero =>
    intro f f2 i p g r hi Ag Ar gf rf g10 PS PR
    cases f with
    | zero => exact pc_none
    | succ f =>
      have xp : xe = (p : Int) := PR
      have B := tbc_k B0 (fun cc y z => Ag cc y (by omega) (by omega) (by omega))
      have kp : K p = 41 := by rw [xp, Int.toNat_natCast] at kx; exact kx
      have pc := tb_lt BK (i := p) (by omega)
      have i6 := PS.1
      unfold qw_X2_addMethod_120
      refine pc_if (fun z => absurd z (by omega)) (fun _ => ?_)
      refine pc_if (fun z => absurd gf z) (fun _ => ?_)
      refine pc_sv (c_kind BK B pc g10 gf) ?_; intro u15 q15
      refine pc_if (fun _ => ?_) (fun z => absurd (by omega) z)
      refine pc_imp (HO g r Ag Ar gf rf (by omega) (by rw [show tot = i by omega]; exact PS)) (fun u zz => ?_)
      cases f2 with
      | zero => exact pc_none
      | succ f2 =>
        unfold qw_X13_memberHead_157
        refine pc_rA ?_; intro _ _ v19 e19
        rw [Int.toNat_natCast, Ar 189 m (by omega) (by omega), ht] at e19
        refine pc_if (fun _ => pc_ret zz) (fun z => absurd (by omega) z)
  | succ d ih =>
    intro f f2 i p g r hi Ag Ar gf rf g10 PS PR
    cases f with
    | zero => exact pc_none
    | succ f =>
      cases f2 with
      | zero => exact fun _ _ => pc_none
      | succ f2 =>
        obtain ⟨t0, bs, rw, T, R, kt, PR2⟩ := PR
        have tb := tyk_b T
        obtain ⟨t, t0e⟩ : ∃ t : Nat, t0 = (t : Int) := ⟨t0.toNat, by omega⟩
        subst t0e
        rw [Int.toNat_natCast] at kt
        rw [show (((b + i : Nat) : Int)).toNat = b + i by omega] at R
        have B := tbc_k B0 (fun cc y z => Ag cc y (by omega) (by omega) (by omega))
        have L : VLc K V c g := fun i hi ki => by rw [Ag 5 i (by omega) (by omega) (by omega)]; exact L0 i hi ki
        have NC : NCl V C n N g := fun y hy => by rw [Ag 16 y (by omega) (by omega) (by omega)]; exact N0 y hy
        have D := hdr_k D0 (fun cc y z => Ar cc y (by omega) (by omega))
        have i6 := PS.1
        have kp : ¬ K p = 41 ∧ p < c := by
          have tc := tb_lt BK (i := t) (by omega)
          unfold TYk at T
          rw [Int.toNat_natCast] at T
          exact ⟨by omega, by omega⟩
        have E194 : ∀ j : Nat, r 194 (b + j) = r0 194 (b + j) := fun j => Ar 194 _ (by omega) (by omega)
        unfold qw_X2_addMethod_120
        refine pc_if (fun z => absurd z (by omega)) (fun _ => ?_)
        refine pc_if (fun z => absurd gf z) (fun _ => ?_)
        refine pc_sv (c_kind BK B kp.2 g10 gf) ?_; intro u15 q15
        refine pc_if (fun z => absurd z (by omega)) (fun _ => ?_)
        refine pc_sv (c_prm BK S n8 B L NC gf hx g10 i6.1 i6.2 T kt) ?_; intro u17 q17
        refine pc_add (by omega) ?_; intro v18 e18
        rw [show v18 = ((i + 1 : Nat) : Int) by omega]
        refine pc_fl ?_
        -- the same FAULT
        have SF : ∀ v : ms_M, SFj u17 v → Pc (qw_X2_addMethod_120 nn f (x : Int) ((i + 1 : Nat) : Int) u17) (fun u => Z u v) := fun v s => pc_imp (fs_qw_X2_addMethod_120 f _ _ _ s.1) (fun u F => HS u v (sf_k s F ft_r))
        refine r_par BK S n8 D rf (f2 := f2) (tot := tot) (by rw [Ar 188 m (by omega) (by omega)]; exact hb) (by rw [Ar 189 m (by omega) (by omega)]; exact ht) (by omega) hbt (by rw [Ar 191 _ (by omega) (by omega), Ar 192 _ (by omega) (by omega), Ar 193 _ (by omega) (by omega), Ar 194 _ (by omega) (by omega)]; exact R) T kt (fun j hj => by rw [E194 j]; exact HP j (by omega)) (fun b3 cl v a1 a2 => ?_) (fun i6' ty q v a1 a2 => ?_) (fun i6' ty q dd v a1 a2 => ?_) (fun i6' ty q nd v a1 a2 => ?_)
        · rcases q17 with ⟨y1, y2, y3, y4⟩ | ⟨ty, y1, _⟩
          · exact SF v ⟨by omega, by omega, by omega⟩
          · rcases y1 with ⟨w1, _⟩ | ⟨w1, _⟩ | ⟨w1, _⟩ | ⟨w1, _⟩ | ⟨w1, x2, w2, w3, _⟩
            · omega
            · omega
            · omega
            · omega
            · rw [Int.toNat_natCast] at w2; exact absurd (cls_d w2 cl) w3
        · have nb : ¬ (bs = 3 ∧ CLz (fun k => V (C k)) n (V p) (-1)) := fun y => by
            rcases q with ⟨w1, _⟩ | ⟨w1, _⟩ | ⟨w1, _⟩ | ⟨w1, _⟩ | ⟨w1, x2, w2, w3, _⟩
            · omega
            · omega
            · omega
            · omega
            · rw [Int.toNat_natCast] at w2; exact absurd (cls_d w2 y.2) w3
          rcases q17 with ⟨y1, y2, _⟩ | ⟨ty2, y1, ⟨y2, y3, y4⟩ | ⟨y2, _⟩ | ⟨y2, _⟩⟩
          · exact absurd ⟨y1, y2⟩ nb
          · exact SF v ⟨by omega, by omega, by omega⟩
          · omega
          · omega
        · have nb : ¬ (bs = 3 ∧ CLz (fun k => V (C k)) n (V p) (-1)) := fun y => by
            rcases q with ⟨w1, _⟩ | ⟨w1, _⟩ | ⟨w1, _⟩ | ⟨w1, _⟩ | ⟨w1, x2, w2, w3, _⟩
            · omega
            · omega
            · omega
            · omega
            · rw [Int.toNat_natCast] at w2; exact absurd (cls_d w2 y.2) w3
          rcases q17 with ⟨y1, y2, _⟩ | ⟨ty2, y1, ⟨y2, y3, y4⟩ | ⟨y2, y3, y4, y5⟩ | ⟨y2, y3, _⟩⟩
          · exact absurd ⟨y1, y2⟩ nb
          · omega
          · exact SF v ⟨by omega, by omega, by omega⟩
          · obtain ⟨j, d1, d2⟩ := dd
            refine absurd ?_ (y3 j d1)
            rw [(PS.2 j d1).1]; exact d2
        · have nb : ¬ (bs = 3 ∧ CLz (fun k => V (C k)) n (V p) (-1)) := fun y => by
            rcases q with ⟨w1, _⟩ | ⟨w1, _⟩ | ⟨w1, _⟩ | ⟨w1, _⟩ | ⟨w1, x2, w2, w3, _⟩
            · omega
            · omega
            · omega
            · omega
            · rw [Int.toNat_natCast] at w2; exact absurd (cls_d w2 y.2) w3
          rcases q17 with ⟨y1, y2, _⟩ | ⟨ty2, y1, ⟨y2, y3, y4⟩ | ⟨y2, y3, y4, y5⟩ | ⟨y2, y3, y4, y5, y6⟩⟩
          · exact absurd ⟨y1, y2⟩ nb
          · omega
          · obtain ⟨j, d1, d2⟩ := y3
            refine absurd ?_ (nd j d1)
            rw [← (PS.2 j d1).1]; exact d2
          · have tt : ty2 = ty := tys_d y1 q
            have tv := tys_v S n8 (fun z => by rw [Int.toNat_natCast]; have := tb.1; rw [Int.toNat_natCast] at this; omega) q
            have Av : ARr b tot r0 v := fun cc y z1 z2 => by rw [a2 cc y (by omega)]; exact Ar cc y z1 z2
            have Au : AGp x g0 u17 := fun cc y z1 z2 z3 => by rw [y6 cc y (by omega) (by omega) (by omega)]; exact Ag cc y z1 z2 z3
            have PS2 : PST V C n x b (i + 1) u17 v := by
              refine ⟨⟨by rw [y5.1]; omega, by omega⟩, fun j hj => ?_⟩
              by_cases ji : j = i
              · rw [ji]
                refine ⟨?_, ?_, ?_, ?_⟩
                · rw [y5.2.1, a2 194 _ (by omega), E194 i, R.2.2.2, Int.toNat_natCast]
                · rw [y5.2.2, a1, tt]; exact ⟨tv.1, tv.2.2, rfl⟩
                · rw [y5.2.2, tt]; have x1 := tv.2.1; have x2 := tb.1; omega
                · rw [y5.2.2, tt, a2 192 _ (by omega), a2 191 _ (by omega), a2 193 _ (by omega), Ar 192 _ (by omega) (by omega), Ar 191 _ (by omega) (by omega), Ar 193 _ (by omega) (by omega), R.1, R.2.1, R.2.2.1]; exact q
              · rw [y6 28 _ (by omega) (by omega) (by omega), y6 29 _ (by omega) (by omega) (by omega), a2 194 _ (by omega), a2 195 _ (by omega), a2 192 _ (by omega), a2 191 _ (by omega), a2 193 _ (by omega)]
                exact PS.2 j (by omega)
            have uf : u17 2 11 = 0 := by rw [y6 2 11 (by omega) (by omega) (by omega)]; exact gf
            have vf : v 160 9 = 0 := by rw [a2 160 9 (by omega)]; exact rf
            refine pc_fl ?_
            rcases PR2 with ⟨d0, x1⟩ | ⟨d0, k47, PR3⟩
            · -- the last one
              have kt1 : K (t + 1) = 41 := by rw [x1, show ((t : Int) + 1).toNat = t + 1 by omega] at kx; exact kx
              have u10 : u17 2 10 = ((t + 1 : Nat) : Int) := by omega
              subst d0
              exact ih f f2 (i + 1) (t + 1) u17 v (by omega) Au Av uf vf u10 PS2 (by show xe = _; omega)
            · rw [show ((t : Int) + 1).toNat = t + 1 by omega] at k47
              have u10 : u17 2 10 = ((t + 2 : Nat) : Int) := by omega
              exact ih f f2 (i + 1) (t + 2) u17 v (by omega) Au Av uf vf u10 PS2 (by rw [show ((b + (i + 1) : Nat) : Int) = ((b + i : Nat) : Int) + 1 by omega, show ((t + 2 : Nat) : Int) = (t : Int) + 2 by omega]; exact PR3)
end

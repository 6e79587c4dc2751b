section
variable {nn : Nat} {g s h t : ms_M} {w : Int}
theorem wrong_n {r : ms_M} {a1 a2 : Int} {c k : Nat} (e : qf_X13_wrong nn a1 a2 h = some r) (n : ¬ (c = 160 ∧ (k = 9 ∨ k = 10))) : r c k = h c k := by
  refine (ff_X13_wrong nn) _ e c k ?_
  show nw_F [] [(160, 9), (160, 10)] false false c k = true
  unfold nw_F
  have z : (List.contains [(160, 9), (160, 10)] (c, k)) = false := by
    rw [Bool.eq_false_iff]
    intro y
    rw [List.contains_iff_mem] at y
    simp only [List.mem_cons, List.not_mem_nil, Prod.mk.injEq, or_false] at y
    omega
  rw [z]; rfl
theorem fz_of (V : VS_ t) (C : CK s t) (A : s 160 24 = g 160 24) (l72 : t 160 72 ≤ 30) (l71 : t 160 71 ≤ 20) (l68 : t 160 68 ≤ 1500) (l84 : t 160 84 ≤ 20) (l78 : t 160 78 ≤ 100) : FZ g t := by
  obtain ⟨_, B, P, I, J, H, D1, D2⟩ := C
  have g68 := gF_160_68 V
  have g71 := gF_160_71 V
  have g72 := gF_160_72 V
  have g78 := gF_160_78 V
  have g79 := gF_160_79 V
  have g84 := gF_160_84 V
  have g87 := gF_160_87 V
  have x1 : (1 + t 160 72 + t 160 71) * (t 160 68 + 3 * t 160 84) ≤ 51 * 1560 := Int.mul_le_mul (by omega) (by omega) (by omega) (by decide)
  have x2 : 0 ≤ (1 + t 160 72 + t 160 71) * t 160 87 := Int.mul_nonneg (by omega) (by omega)
  have z79 : t 160 79 ≤ 26520 := by omega
  clear D2 x1 x2
  rw [A] at H I
  refine ⟨by omega, by omega, by omega, H, fun f hf => ?_, I.2.2⟩
  have i1 := I.2.1 f hf
  have b8 := gA_208 V f (by omega)
  have b9 := gA_209 V f (by omega)
  have b10 := gA_210 V f (by omega)
  have b11 := gA_211 V f (by omega)
  exact ⟨by omega, fun x hx => I.1 x (by omega)⟩
/-- what a method leaves -/
def QMM (g : ms_M) (w c : Int) (h r : ms_M) : Prop := CT g w r ∧ LB r ∧ r 160 52 = h 160 52 ∧ (h 160 88 ≤ r 160 88 ∧ r 160 88 ≤ h 160 88 + c) ∧ r 160 97 ≤ h 160 97 + 12500
theorem mm_164 (hn : 1000000 ≤ nn) (P : SP g) (A : AG g s) {a f l n p m q j l1 l2 l3 : Int} (T : ST s s w a f l n p m q j h) (hw : w ≤ 3001) (h1 : 0 ≤ l1 ∧ l1 < g 160 28) (h97 : 0 ≤ s 160 97 ∧ s 160 97 ≤ 300000000) : Ok_ (qj_X13_makeMethod_164 nn l1 l2 l3 h) (QMM g w l s) := by
  have t0 := T
  obtain ⟨⟨t1, t2⟩, ⟨t3, t3b, t3c, t3d⟩, t4, t5, t6, t7, t8, t9⟩ := t0
  have V := t1.1.1
  have C := cw_ct A t1
  have e97 : h 160 97 = s 160 97 := t1.1.2.1 160 97 rfl
  have e52 : h 160 52 = s 160 52 := t1.1.2.1 160 52 rfl
  have p28 := P.2.2.2.1
  have g72 := gF_160_72 V
  have g53 := gF_160_53 V
  have K : ∀ r : ms_M, QTL g w h (s 160 97 + 12500) r → QMM g w l s r := fun r q => by
    have x88 := q.2.1 160 88 (by decide) (by decide) (by decide)
    have x52 := q.2.1 160 52 (by decide) (by decide) (by decide)
    exact ⟨q.1, lb_eq t2 (by omega) (fun i => ⟨q.2.1 219 i (by decide) (by omega) (by omega), q.2.1 220 i (by decide) (by omega) (by omega)⟩), by omega, by omega, q.2.2⟩
  have K2 : ∀ r : ms_M, VS_ r → (∀ c k : Nat, ¬ (c = 160 ∧ (k = 9 ∨ k = 10)) → r c k = h c k) → QMM g w l s r := fun r Vr N => by
    have x88 := N 160 88 (by decide)
    have x52 := N 160 52 (by decide)
    have x97 := N 160 97 (by decide)
    exact ⟨ct_of C Vr (fun c k a b d => N c k (by omega)), lb_eq t2 (by omega) (fun i => ⟨N 219 i (by omega), N 220 i (by omega)⟩), by omega, by omega, by omega⟩
  have J227 : ∀ v : Int, Ok_ (qj_X13_makeMethod_227 nn l1 l2 l3 v h) (QMM g w l s) := fun v => by
    unfold qj_X13_makeMethod_227
    refine ok_rd (by omega) (gA_186 V) ?_; intro v108 _ a108 b108
    obtain ⟨u, eu, Vu, n9⟩ := vf_X13_wrong hn (a1 := 11) (by decide) (by decide) a108 (show v108 ≤ 3001 by omega) V
    rw [eu, mx_svs]
    unfold qj_X13_makeMethod_239
    rw [if_neg n9]
    exact ok_ret (K2 u Vu (fun c k n => wrong_n eu n))
  have J : ∀ x : Int, (0 ≤ x ∧ x ≤ 1) → Ok_ (qj_X13_makeMethod_180 nn l1 l2 l3 x (h 160 72) h) (QMM g w l s) := fun x hx => by
    unfold qj_X13_makeMethod_180
    refine ok_add (by omega) ?_; intro v111 e111
    refine ok_if (fun _ => J227 v111) (fun c1 => ?_)
    refine ok_if (fun _ => J227 v111) (fun c2 => ?_)
    refine ok_if (fun _ => J227 v111) (fun c3 => ?_)
    refine ok_if (fun _ => J227 v111) (fun c4 => ?_)
    refine ok_if (fun c5 => ?_) (fun _ => J227 v111)
    have F := fz_of V t1.1 A.2.2.1 (by omega) (by omega) (by omega) (by omega) c5
    have q0 : QTL g w h (s 160 97) h := ⟨C, nq_rf, by omega⟩
    unfold qj_X13_makeMethod_239
    refine ok_if (fun _ => ?_) (fun _ => ok_ret (K h (qtl_le q0 (by omega))))
    exact ok_if (fun _ => ok_im (mm_260 hn P F hw (by omega) q0) K) (fun _ => ok_im (mm_260 hn P F hw (by omega) q0) K)
  unfold qj_X13_makeMethod_164
  exact ok_if (fun _ => J 1 (by decide)) (fun _ => J 0 (by decide))
theorem mm_81 (hn : 1000000 ≤ nn) (B : GB g) (A : AG g s) (Vs : VS_ s) {m b b2 : Int} (h52 : 8 ≤ s 160 52 ∧ s 160 52 < 8 + s 160 24) (hm : 0 ≤ m ∧ m < g 160 28) (hb : b ≤ g 160 22) (Te : TE 0 g 2 82 (g 190 m.toNat) b (g 190 m.toNat)) (Ye : YT g 2 (g 190 m.toNat) b2 (g 190 m.toNat)) (hw : w ≤ Cm g (g 190 m.toNat)) (h88 : s 160 88 ≤ 1800000000) (h97 : 0 ≤ s 160 97 ∧ s 160 97 ≤ 300000000) (z : s 160 57 = 0 ∧ s 160 68 = 0 ∧ s 160 78 = 0 ∧ s 160 84 = 0 ∧ s 160 87 = 0) : ∀ (k : Nat) (l2 : Int) (h : ms_M), ST s s w 0 0 0 l2 0 0 0 0 h → (0 ≤ l2 ∧ l2 ≤ g 189 m.toNat) → g 189 m.toNat - l2 < (k : Int) → Ok_ (qw_X13_makeMethod_81 nn k m l2 h) (QMM g (Cm g b) (2 * (Cm g b - Cm g (g 190 m.toNat))) s) := by
  have S := gb_gz A Vs B h52
  have P := B.1
  have p28 := P.2.2.2.1
  have g24 := A.2.2.1
  have g28 := A.2.2.2
  have g22 := A.2.1
  obtain ⟨q1, q2, q3, q4⟩ := P.2.2.2.2 m.toNat (by omega)
  have hw2 := P.1.2 m.toNat (by omega)
  have rg := te_sk Te
  have v22 := gF_160_22 Vs
  have b22 := B.2.1
  have c1 := cm_mono (s := g) (a := g 190 m.toNat) (b := b) (by omega) (by omega)
  have c2 := cm_mono (s := g) (a := b) (b := g 160 22) (by omega) (by omega)
  have c3 := cm_mono (s := g) (a := 0) (b := g 190 m.toNat) (by omega) (by omega)
  rw [cm_z] at c3
  intro k
  induction k with
  | zero => intro l2 h T a1 hm; exfalso; omega
  | succ k ih =>
    intro l2 h T a1 hk
    have V := T.1.1.1.1
    have M : ∀ c x : Nat, c ≤ 195 → c ≠ 160 → h c x = g c x := (ag_tr A (ag_mf T.1.1.1.2.1)).1
    have r8 := gA_188 V m.toNat (by omega)
    rw [M 188 _ (by decide) (by decide)] at r8
    unfold qw_X13_makeMethod_81
    refine ok_rd (by omega) (gA_189 V) ?_; intro v125 e125 _ _
    rw [M 189 _ (by decide) (by decide)] at e125
    refine ok_if (fun C => ?_) (fun C => ?_)
    · refine ok_rd (by omega) (gA_186 V) ?_; intro v127 e127 _ _
      have t127 : v127 = s 186 m.toNat := by rw [e127]; exact T.1.1.1.2.1 186 _ (nw_ar rfl _)
      refine ok_sv (cw_text hn S.2.1 Vs T.1.1 (by omega) (by omega) t127) ?_; intro u129 P129
      obtain ⟨C129, N129, x129, _⟩ := P129
      have T129 := (st_of T C129 (N129 160 88 (by decide) (by decide)) (fun c k x => N129 c k (by omega) (by omega)) (n2 := l2) (p2 := 0) (a2 := 0) (by rw [N129 160 50 (by decide) (by decide)]; exact T.2.1.1) (by rw [N129 160 70 (by decide) (by decide)]; exact T.2.1.2.1) (by rw [N129 160 68 (by decide) (by decide)]; omega)).1
      refine ok_sv (cw_kind hn S.2.1 Vs T129.1.1 (by omega) (by omega)) ?_; intro u131 P131
      obtain ⟨C131, N131, x131, _⟩ := P131
      have T131 := (st_of T129 C131 (N131 160 88 (by decide) (by decide)) (fun c k x => N131 c k (by omega) (by omega)) (n2 := l2) (p2 := 0) (a2 := 0) (by rw [N131 160 50 (by decide) (by decide)]; exact T129.2.1.1) (by rw [N131 160 70 (by decide) (by decide)]; exact T129.2.1.2.1) (by rw [N131 160 68 (by decide) (by decide)]; omega)).1
      refine ok_rd (by omega) (gA_190 C131.1.1) ?_; intro v133 e133 _ _
      rw [(ag_tr A (ag_mf C131.1.2.1)).1 190 _ (by decide) (by decide)] at e133
      have Ts := ag_te A (by omega) Te
      have Ys := ag_yt A Ye
      rw [← e133] at Ts Ys c1 c3 hw rg
      have t0 := T131
      obtain ⟨⟨t1, t2⟩, ⟨t3, t3b, t3c, t3d⟩, t4, t5, t6, t7, t8, t9⟩ := t0
      have cmb := ag_cm A b
      have cme := ag_cm A v133
      refine ok_sv (wk_make hn S C131 T131.1.2 Ts Ys (by omega) (by decide) ⟨by omega, by omega, by omega, by omega, by omega, by omega, by omega, by omega, by omega, by omega⟩) ?_; intro u135 K
      obtain ⟨Z, _, _⟩ := st_tr T131 K.2
      have Z := st_cv (w2 := Cm g b) (a2 := 0 + 20 * (Cm s b - Cm s v133)) (f2 := 0 + 2 * (Cm s b - Cm s v133)) (l2 := 0 + 2 * (Cm s b - Cm s v133)) (q2 := 0 + (Cm s b - Cm s v133)) (j2 := 0 + (Cm s b - Cm s v133)) Z rfl rfl rfl (by omega) (by omega) (by omega) (by omega) (by omega) (by omega)
      refine ok_if (fun _ => ?_) (fun _ => ?_)
      · exact ok_im (mm_164 hn P A Z (by omega) hm h97) (fun r q => ⟨q.1, q.2.1, q.2.2.1, by have := q.2.2.2.1; rw [← e133]; omega, q.2.2.2.2⟩)
      · refine ok_sv (st_put hn Z (by omega) (by omega)) ?_; intro u137 P137
        exact ok_im (mm_164 hn P A P137.1 (by omega) hm h97) (fun r q => ⟨q.1, q.2.1, q.2.2.1, by have := q.2.2.2.1; rw [← e133]; omega, q.2.2.2.2⟩)
    · refine ok_rd (by omega) (gA_188 V) ?_; intro v141 e141 _ _
      rw [M 188 _ (by decide) (by decide)] at e141
      refine ok_add (by omega) ?_; intro v142 e142
      refine ok_rd (by omega) (gA_194 V) ?_; intro v143 _ a143 b143
      refine ok_rd (by omega) (gA_188 V) ?_; intro v146 e146 _ _
      rw [M 188 _ (by decide) (by decide)] at e146
      refine ok_add (by omega) ?_; intro v147 e147
      refine ok_rd (by omega) (gA_195 V) ?_; intro v148 e148 a148 b148
      rw [M 195 _ (by decide) (by decide), show v147.toNat = (g 188 m.toNat).toNat + l2.toNat by omega] at e148
      have y := q4 l2.toNat (by omega)
      refine ok_sv (st_comes T (by omega) (by omega) (by omega)) ?_; intro u150 P150
      refine ok_add (by omega) ?_; intro v151 e151
      rw [e151]
      exact ih (l2 + 1) u150 P150.1 (by omega) (by omega)
theorem mm_make (hn : 1000000 ≤ nn) (B : GB g) {m b b2 : Int} (C : CT g w h) (L : LB h) (h52 : 8 ≤ h 160 52 ∧ h 160 52 < 8 + g 160 24) (hm : 0 ≤ m ∧ m < g 160 28) (hb : b ≤ g 160 22) (Te : TE 0 g 2 82 (g 190 m.toNat) b (g 190 m.toNat)) (Ye : YT g 2 (g 190 m.toNat) b2 (g 190 m.toNat)) (hw : w ≤ Cm g (g 190 m.toNat)) (h88 : h 160 88 ≤ 1800000000) (h97 : h 160 97 ≤ 300000000) : Ok_ (qf_X13_makeMethod nn m h) (QMM g (Cm g b) (2 * (Cm g b - Cm g (g 190 m.toNat))) h) := by
  have p28 := B.1.2.2.2.1
  have p24 := B.1.2.1
  have g97 := gF_160_97 C.1
  have g24 := C.2.1.2.2.1
  obtain ⟨q1, q2, q3, q4⟩ := B.1.2.2.2.2 m.toNat (by omega)
  unfold qf_X13_makeMethod
  refine ok_xl ?_; intro h166 E166
  have V166 : VS_ h166 := by rw [E166]; exact wF_160_51 C.1 (by omega)
  refine ok_rd (by omega) (gA_182 V166) ?_; intro v168 _ _ _
  have J : ∀ x : Int, (x = 0 ∨ x = 1) → Ok_ (qj_X13_makeMethod_21 nn m x h166) (QMM g (Cm g b) (2 * (Cm g b - Cm g (g 190 m.toNat))) h) := fun x hx => by
    unfold qj_X13_makeMethod_21
    refine ok_ck hx ?_
    refine ok_xl ?_; intro h154 E154
    have V154 : VS_ h154 := by rw [E154]; exact wF_160_53 V166 (by omega)
    refine ok_xl ?_; intro h155 E155
    have V155 : VS_ h155 := by rw [E155]; exact wF_160_50 V154 (by omega)
    refine ok_xl ?_; intro h156 E156
    have V156 : VS_ h156 := by rw [E156]; exact wF_160_72 V155 (by omega)
    refine ok_xl ?_; intro h157 E157
    have V157 : VS_ h157 := by rw [E157]; exact wF_160_54 V156 (by omega)
    refine ok_xl ?_; intro h158 E158
    have V158 : VS_ h158 := by rw [E158]; exact wF_160_57 V157 (by omega)
    refine ok_xl ?_; intro h159 E159
    have V159 : VS_ h159 := by rw [E159]; exact wF_160_68 V158 (by omega)
    refine ok_xl ?_; intro h160 E160
    have V160 : VS_ h160 := by rw [E160]; exact wF_160_70 V159 (by omega)
    refine ok_xl ?_; intro h161 E161
    have V161 : VS_ h161 := by rw [E161]; exact wF_160_71 V160 (by omega)
    refine ok_xl ?_; intro h162 E162
    have V162 : VS_ h162 := by rw [E162]; exact wF_160_78 V161 (by omega)
    refine ok_xl ?_; intro h163 E163
    have V163 : VS_ h163 := by rw [E163]; exact wF_160_79 V162 (by omega)
    refine ok_xl ?_; intro h164 E164
    have V164 : VS_ h164 := by rw [E164]; exact wF_160_84 V163 (by omega)
    refine ok_xl ?_; intro h165 E165
    have V165 : VS_ h165 := by rw [E165]; exact wF_160_87 V164 (by omega)
    have N : ∀ c k : Nat, ¬ (c = 160 ∧ (k = 51 ∨ k = 53 ∨ k = 50 ∨ k = 72 ∨ k = 54 ∨ k = 57 ∨ k = 68 ∨ k = 70 ∨ k = 71 ∨ k = 78 ∨ k = 79 ∨ k = 84 ∨ k = 87)) → h165 c k = h c k := fun c k n => by rw [E165, up_n (by omega), E164, up_n (by omega), E163, up_n (by omega), E162, up_n (by omega), E161, up_n (by omega), E160, up_n (by omega), E159, up_n (by omega), E158, up_n (by omega), E157, up_n (by omega), E156, up_n (by omega), E155, up_n (by omega), E154, up_n (by omega), E166, up_n (by omega)]
    have z50 : h165 160 50 = 0 := by rw [E165, up_n (by decide), E164, up_n (by decide), E163, up_n (by decide), E162, up_n (by decide), E161, up_n (by decide), E160, up_n (by decide), E159, up_n (by decide), E158, up_n (by decide), E157, up_n (by decide), E156, up_n (by decide), E155, up_s]
    have z72 : h165 160 72 = 0 := by rw [E165, up_n (by decide), E164, up_n (by decide), E163, up_n (by decide), E162, up_n (by decide), E161, up_n (by decide), E160, up_n (by decide), E159, up_n (by decide), E158, up_n (by decide), E157, up_n (by decide), E156, up_s]
    have z54 : h165 160 54 = 0 := by rw [E165, up_n (by decide), E164, up_n (by decide), E163, up_n (by decide), E162, up_n (by decide), E161, up_n (by decide), E160, up_n (by decide), E159, up_n (by decide), E158, up_n (by decide), E157, up_s]
    have z57 : h165 160 57 = 0 := by rw [E165, up_n (by decide), E164, up_n (by decide), E163, up_n (by decide), E162, up_n (by decide), E161, up_n (by decide), E160, up_n (by decide), E159, up_n (by decide), E158, up_s]
    have z68 : h165 160 68 = 0 := by rw [E165, up_n (by decide), E164, up_n (by decide), E163, up_n (by decide), E162, up_n (by decide), E161, up_n (by decide), E160, up_n (by decide), E159, up_s]
    have z70 : h165 160 70 = 0 := by rw [E165, up_n (by decide), E164, up_n (by decide), E163, up_n (by decide), E162, up_n (by decide), E161, up_n (by decide), E160, up_s]
    have z71 : h165 160 71 = 0 := by rw [E165, up_n (by decide), E164, up_n (by decide), E163, up_n (by decide), E162, up_n (by decide), E161, up_s]
    have z78 : h165 160 78 = 0 := by rw [E165, up_n (by decide), E164, up_n (by decide), E163, up_n (by decide), E162, up_s]
    have z79 : h165 160 79 = 0 := by rw [E165, up_n (by decide), E164, up_n (by decide), E163, up_s]
    have z84 : h165 160 84 = 0 := by rw [E165, up_n (by decide), E164, up_s]
    have z87 : h165 160 87 = 0 := by rw [E165, up_s]
    have x88 := N 160 88 (by decide)
    have x97 := N 160 97 (by decide)
    have x52 := N 160 52 (by decide)
    have Cs : CT g w h165 := ct_of C V165 (fun c k a b d => N c k (by omega))
    have s24 := Cs.2.1.2.2.1
    have Ls : LB h165 := lb_eq L (by omega) (fun i => ⟨N 219 i (by omega), N 220 i (by omega)⟩)
    have Ck : CK h165 h165 := by
      refine ⟨V165, fun _ _ _ => rfl, ⟨fun x hx => by exfalso; omega, fun x hx => by exfalso; omega, by omega, by omega⟩, ⟨fun x hx => by exfalso; omega, fun f hf => by exfalso; omega, fun f g hf _ _ => by exfalso; omega⟩, fun i hi => by exfalso; omega, fun f hf => by exfalso; omega, by omega, ?_⟩
      rw [z87, z68, z79, z72, z71, z84]; decide
    have Cw : CW h165 w h165 := ⟨Ck, ag_kp Cs.2.1 Cs.2.2.1, Cs.2.2.2⟩
    have T0 : ST h165 h165 w 0 0 0 0 0 0 0 0 h165 := st_cv (st_0 Cw Ls) z50 z70 z54 (by omega) (by omega) (by omega) (by omega) (by omega) (by omega)
    have g9 := gA_189 C.1 m.toNat (by omega)
    rw [C.2.1.1 189 _ (by decide) (by decide)] at g9
    refine ok_im (mm_81 hn B Cs.2.1 V165 (by omega) hm hb Te Ye hw (by omega) (by omega) ⟨z57, z68, z78, z84, z87⟩ nn 0 h165 T0 (by omega) (by omega)) (fun r q => ⟨q.1, q.2.1, by have := q.2.2.1; omega, by have := q.2.2.2.1; omega, by have := q.2.2.2.2; omega⟩)
  exact ok_if (fun _ => J 0 (.inl rfl)) (fun _ => J 1 (.inr rfl))
end

section
section
variable {nn : Nat} {g s h t : ms_M} {w : Int}
theorem wrong_n {r : ms_M} {a1 a2 : Int} {c k : Nat} (e : qf_X13_wrong nn a1 a2 h = some r) (n : ¬ (c = 160 ∧ (k = 9 ∨ k = 10))) : r c k = h c k := by
  refine (ff_X13_wrong nn) _ e c k ?_
  show nw_F [] [(160, 9), (160, 10)] false false c k = true
  unfold nw_F
  have z : (List.contains [(160, 9), (160, 10)] (c, k)) = false := by
    rw [Bool.eq_false_iff]
    intro y
    rw [List.contains_iff_mem] at y
    simp only [List.mem_cons, List.not_mem_nil, Prod.mk.injEq, or_false] at y
    omega
  rw [z]; rfl
theorem fz_of (V : VS_ t) (C : CK s t) (A : s 160 24 = g 160 24) (l72 : t 160 72 ≤ 30) (l71 : t 160 71 ≤ 20) (l68 : t 160 68 ≤ 1500) (l84 : t 160 84 ≤ 20) (l78 : t 160 78 ≤ 100) : FZ g t := by
  obtain ⟨_, B, P, I, J, H, D1, D2⟩ := C
  have g68 := gF_160_68 V
  have g71 := gF_160_71 V
  have g72 := gF_160_72 V
  have g78 := gF_160_78 V
  have g79 := gF_160_79 V
  have g84 := gF_160_84 V
  have g87 := gF_160_87 V
  have x1 : (1 + t 160 72 + t 160 71) * (t 160 68 + 3 * t 160 84) ≤ 51 * 1560 := Int.mul_le_mul (by omega) (by omega) (by omega) (by decide)
  have x2 : 0 ≤ (1 + t 160 72 + t 160 71) * t 160 87 := Int.mul_nonneg (by omega) (by omega)
  have z79 : t 160 79 ≤ 26520 := by omega
  clear D2 x1 x2
  rw [A] at H I
  refine ⟨by omega, by omega, by omega, H, fun f hf => ?_, I.2.2⟩
  have i1 := I.2.1 f hf
  have b8 := gA_208 V f (by omega)
  have b9 := gA_209 V f (by omega)
  have b10 := gA_210 V f (by omega)
  have b11 := gA_211 V f (by omega)
  exact ⟨by omega, fun x hx => I.1 x (by omega)⟩
/-- what a method leaves -/
def QMM (g : ms_M) (w c : Int) (h r : ms_M) : Prop := CT g w r ∧ LB r ∧ r 160 52 = h 160 52 ∧ (h 160 88 ≤ r 160 88 ∧ r 160 88 ≤ h 160 88 + c) ∧ r 160 97 ≤ h 160 97 + 12500
theorem mm_164 (hn : 1000000 ≤ nn) (P : SP g) (A : AG g s) {a f l n p m q j l1 l2 l3 : Int} (T : ST s s w a f l n p m q j h) (hw : w ≤ 3001) (h1 : 0 ≤ l1 ∧ l1 < g 160 28) (h97 : 0 ≤ s 160 97 ∧ s 160 97 ≤ 300000000) : Ok_ (qj_X13_makeMethod_164 nn l1 l2 l3 h) (QMM g w l s) := by
  have t0 := T
  obtain ⟨⟨t1, t2⟩, ⟨t3, t3b, t3c, t3d⟩, t4, t5, t6, t7, t8, t9⟩ := t0
  have V := t1.1.1
  have C := cw_ct A t1
  have e97 : h 160 97 = s 160 97 := t1.1.2.1 160 97 rfl
  have e52 : h 160 52 = s 160 52 := t1.1.2.1 160 52 rfl
  have p28 := P.2.2.2.1
  have g72 := gF_160_72 V
  have g53 := gF_160_53 V
  have K : ∀ r : ms_M, QTL g w h (s 160 97 + 12500) r → QMM g w l s r := fun r q => by
    have x88 := q.2.1 160 88 (by decide) (by decide) (by decide)
    have x52 := q.2.1 160 52 (by decide) (by decide) (by decide)
    exact ⟨q.1, lb_eq t2 (by omega) (fun i => ⟨q.2.1 219 i (by decide) (by omega) (by omega), q.2.1 220 i (by decide) (by omega) (by omega)⟩), by omega, by omega, q.2.2⟩
  have K2 : ∀ r : ms_M, VS_ r → (∀ c k : Nat, ¬ (c = 160 ∧ (k = 9 ∨ k = 10)) → r c k = h c k) → QMM g w l s r := fun r Vr N => by
    have x88 := N 160 88 (by decide)
    have x52 := N 160 52 (by decide)
    have x97 := N 160 97 (by decide)
    exact ⟨ct_of C Vr (fun c k a b d => N c k (by omega)), lb_eq t2 (by omega) (fun i => ⟨N 219 i (by omega), N 220 i (by omega)⟩), by omega, by omega, by omega⟩
  have J227 : ∀ v : Int, Ok_ (qj_X13_makeMethod_227 nn l1 l2 l3 v h) (QMM g w l s) := fun v => by
    unfold qj_X13_makeMethod_227
    refine ok_rd (by omega) (gA_186 V) ?_; intro v108 _ a108 b108
    obtain ⟨u, eu, Vu, n9⟩ := vf_X13_wrong hn (a1 := 11) (by decide) (by decide) a108 (show v108 ≤ 3001 by omega) V
    rw [eu, mx_svs]
    unfold qj_X13_makeMethod_239
    rw [if_neg n9]
    exact ok_ret (K2 u Vu (fun c k n => wrong_n eu n))
  have J : ∀ x : Int, (0 ≤ x ∧ x ≤ 1) → Ok_ (qj_X13_makeMethod_180 nn l1 l2 l3 x (h 160 72) h) (QMM g w l s) := fun x hx => by
    unfold qj_X13_makeMethod_180
    refine ok_add (by omega) ?_; intro v111 e111
    refine ok_if (fun _ => J227 v111) (fun c1 => ?_)
    refine ok_if (fun _ => J227 v111) (fun c2 => ?_)
    refine ok_if (fun _ => J227 v111) (fun c3 => ?_)
    refine ok_if (fun _ => J227 v111) (fun c4 => ?_)
    refine ok_if (fun c5 => ?_) (fun _ => J227 v111)
    have F := fz_of V t1.1 A.2.2.1 (by omega) (by omega) (by omega) (by omega) c5
    have q0 : QTL g w h (s 160 97) h := ⟨C, nq_rf, by omega⟩
    unfold qj_X13_makeMethod_239
    refine ok_if (fun _ => ?_) (fun _ => ok_ret (K h (qtl_le q0 (by omega))))
    exact ok_if (fun _ => ok_im (mm_260 hn P F hw (by omega) q0) K) (fun _ => ok_im (mm_260 hn P F hw (by omega) q0) K)
  unfold qj_X13_makeMethod_164
  exact ok_if (fun _ => J 1 (by decide)) (fun _ => J 0 (by decide))
theorem mm_81 (hn : 1000000 ≤ nn) (B : GB g) (A : AG g s) (Vs : VS_ s) {m b b2 : Int} (h52 : 8 ≤ s 160 52 ∧ s 160 52 < 8 + s 160 24) (hm : 0 ≤ m ∧ m < g 160 28) (hb : b ≤ g 160 22) (Te : TE 0 g 2 82 (g 190 m.toNat) b (g 190 m.toNat)) (Ye : YT g 2 (g 190 m.toNat) b2 (g 190 m.toNat)) (hw : w ≤ Cm g (g 190 m.toNat)) (h88 : s 160 88 ≤ 1800000000) (h97 : 0 ≤ s 160 97 ∧ s 160 97 ≤ 300000000) (z : s 160 57 = 0 ∧ s 160 68 = 0 ∧ s 160 78 = 0 ∧ s 160 84 = 0 ∧ s 160 87 = 0) : ∀ (k : Nat) (l2 : Int) (h : ms_M), ST s s w 0 0 0 l2 0 0 0 0 h → (0 ≤ l2 ∧ l2 ≤ g 189 m.toNat) → g 189 m.toNat - l2 < (k : Int) → Ok_ (qw_X13_makeMethod_81 nn k m l2 h) (QMM g (Cm g b) (2 * (Cm g b - Cm g (g 190 m.toNat))) s) := by
  have S := gb_gz A Vs B h52
  have P := B.1
  have p28 := P.2.2.2.1
  have g24 := A.2.2.1
  have g28 := A.2.2.2
  have g22 := A.2.1
  obtain ⟨q1, q2, q3, q4⟩ := P.2.2.2.2 m.toNat (by omega)
  have hw2 := P.1.2 m.toNat (by omega)
  have rg := te_sk Te
  have v22 := gF_160_22 Vs
  have b22 := B.2.1
  have c1 := cm_mono (s := g) (a := g 190 m.toNat) (b := b) (by omega) (by omega)
  have c2 := cm_mono (s := g) (a := b) (b := g 160 22) (by omega) (by omega)
  have c3 := cm_mono (s := g) (a := 0) (b := g 190 m.toNat) (by omega) (by omega)
  rw [cm_z] at c3
  intro k
  induction k with
  | zero => intro l2 h T a1 hm; exfalso; omega
  | succ k ih =>
    intro l2 h T a1 hk
    have V := T.1.1.1.1
    have M : ∀ c x : Nat, c ≤ 195 → c ≠ 160 → h c x = g c x := (ag_tr A (ag_mf T.1.1.1.2.1)).1
    have r8 := gA_188 V m.toNat (by omega)
    rw [M 188 _ (by decide) (by decide)] at r8
    unfold qw_X13_makeMethod_81
    refine ok_rd (by omega) (gA_189 V) ?_; intro v125 e125 _ _
    rw [M 189 _ (by decide) (by decide)] at e125
    refine ok_if (fun C => ?_) (fun C => ?_)
    · refine ok_rd (by omega) (gA_186 V) ?_; intro v127 e127 _ _
      have t127 : v127 = s 186 m.toNat := by rw [e127]; exact T.1.1.1.2.1 186 _ (nw_ar rfl _)
      refine ok_sv (cw_text hn S.2.1 Vs T.1.1 (by omega) (by omega) t127) ?_; intro u129 P129
      obtain ⟨C129, N129, x129, _⟩ := P129
      have T129 := (st_of T C129 (N129 160 88 (by decide) (by decide)) (fun c k x => N129 c k (by omega) (by omega)) (n2 := l2) (p2 := 0) (a2 := 0) (by rw [N129 160 50 (by decide) (by decide)]; exact T.2.1.1) (by rw [N129 160 70 (by decide) (by decide)]; exact T.2.1.2.1) (by rw [N129 160 68 (by decide) (by decide)]; omega)).1
      refine ok_sv (cw_kind hn S.2.1 Vs T129.1.1 (by omega) (by omega)) ?_; intro u131 P131
      obtain ⟨C131, N131, x131, _⟩ := P131
      have T131 := (st_of T129 C131 (N131 160 88 (by decide) (by decide)) (fun c k x => N131 c k (by omega) (by omega)) (n2 := l2) (p2 := 0) (a2 := 0) (by rw [N131 160 50 (by decide) (by decide)]; exact T129.2.1.1) (by rw [N131 160 70 (by decide) (by decide)]; exact T129.2.1.2.1) (by rw [N131 160 68 (by decide) (by decide)]; omega)).1
      refine ok_rd (by omega) (gA_190 C131.1.1) ?_; intro v133 e133 _ _
      rw [(ag_tr A (ag_mf C131.1.2.1)).1 190 _ (by decide) (by decide)] at e133
      have Ts := ag_te A (by omega) Te
      have Ys := ag_yt A Ye
      rw [← e133] at Ts Ys c1 c3 hw rg
      have t0 := T131
      obtain ⟨⟨t1, t2⟩, ⟨t3, t3b, t3c, t3d⟩, t4, t5, t6, t7, t8, t9⟩ := t0
      have cmb := ag_cm A b
      have cme := ag_cm A v133
      refine ok_sv (wk_make hn S C131 T131.1.2 Ts Ys (by omega) (by decide) ⟨by omega, by omega, by omega, by omega, by omega, by omega, by omega, by omega, by omega, by omega⟩) ?_; intro u135 K
      obtain ⟨Z, _, _⟩ := st_tr T131 K.2
      have Z := st_cv (w2 := Cm g b) (a2 := 0 + 20 * (Cm s b - Cm s v133)) (f2 := 0 + 2 * (Cm s b - Cm s v133)) (l2 := 0 + 2 * (Cm s b - Cm s v133)) (q2 := 0 + (Cm s b - Cm s v133)) (j2 := 0 + (Cm s b - Cm s v133)) Z rfl rfl rfl (by omega) (by omega) (by omega) (by omega) (by omega) (by omega)
      refine ok_if (fun _ => ?_) (fun _ => ?_)
      · exact ok_im (mm_164 hn P A Z (by omega) hm h97) (fun r q => ⟨q.1, q.2.1, q.2.2.1, by have := q.2.2.2.1; rw [← e133]; omega, q.2.2.2.2⟩)
      · refine ok_sv (st_put hn Z (by omega) (by omega)) ?_; intro u137 P137
        exact ok_im (mm_164 hn P A P137.1 (by omega) hm h97) (fun r q => ⟨q.1, q.2.1, q.2.2.1, by have := q.2.2.2.1; rw [← e133]; omega, q.2.2.2.2⟩)
    · refine ok_rd (by omega) (gA_188 V) ?_; intro v141 e141 _ _
      rw [M 188 _ (by decide) (by decide)] at e141
      refine ok_add (by omega) ?_; intro v142 e142
      refine ok_rd (by omega) (gA_194 V) ?_; intro v143 _ a143 b143
      refine ok_rd (by omega) (gA_188 V) ?_; intro v146 e146 _ _
      rw [M 188 _ (by decide) (by decide)] at e146
      refine ok_add (by omega) ?_; intro v147 e147
      refine ok_rd (by omega) (gA_195 V) ?_; intro v148 e148 a148 b148
      rw [M 195 _ (by decide) (by decide), show v147.toNat = (g 188 m.toNat).toNat + l2.toNat by omega] at e148
      have y := q4 l2.toNat (by omega)
      refine ok_sv (st_comes T (by omega) (by omega) (by omega)) ?_; intro u150 P150
      refine ok_add (by omega) ?_; intro v151 e151
      rw [e151]
      exact ih (l2 + 1) u150 P150.1 (by omega) (by omega)
theorem mm_make (hn : 1000000 ≤ nn) (B : GB g) {m b b2 : Int} (C : CT g w h) (L : LB h) (h52 : 8 ≤ h 160 52 ∧ h 160 52 < 8 + g 160 24) (hm : 0 ≤ m ∧ m < g 160 28) (hb : b ≤ g 160 22) (Te : TE 0 g 2 82 (g 190 m.toNat) b (g 190 m.toNat)) (Ye : YT g 2 (g 190 m.toNat) b2 (g 190 m.toNat)) (hw : w ≤ Cm g (g 190 m.toNat)) (h88 : h 160 88 ≤ 1800000000) (h97 : h 160 97 ≤ 300000000) : Ok_ (qf_X13_makeMethod nn m h) (QMM g (Cm g b) (2 * (Cm g b - Cm g (g 190 m.toNat))) h) := by
  have p28 := B.1.2.2.2.1
  have p24 := B.1.2.1
  have g97 := gF_160_97 C.1
  have g24 := C.2.1.2.2.1
  obtain ⟨q1, q2, q3, q4⟩ := B.1.2.2.2.2 m.toNat (by omega)
  unfold qf_X13_makeMethod
  refine ok_xl ?_; intro h166 E166
  have V166 : VS_ h166 := by rw [E166]; exact wF_160_51 C.1 (by omega)
  refine ok_rd (by omega) (gA_182 V166) ?_; intro v168 _ _ _
  have J : ∀ x : Int, (x = 0 ∨ x = 1) → Ok_ (qj_X13_makeMethod_21 nn m x h166) (QMM g (Cm g b) (2 * (Cm g b - Cm g (g 190 m.toNat))) h) := fun x hx => by
    unfold qj_X13_makeMethod_21
    refine ok_ck hx ?_
    refine ok_xl ?_; intro h154 E154
    have V154 : VS_ h154 := by rw [E154]; exact wF_160_53 V166 (by omega)
    refine ok_xl ?_; intro h155 E155
    have V155 : VS_ h155 := by rw [E155]; exact wF_160_50 V154 (by omega)
    refine ok_xl ?_; intro h156 E156
    have V156 : VS_ h156 := by rw [E156]; exact wF_160_72 V155 (by omega)
    refine ok_xl ?_; intro h157 E157
    have V157 : VS_ h157 := by rw [E157]; exact wF_160_54 V156 (by omega)
    refine ok_xl ?_; intro h158 E158
    have V158 : VS_ h158 := by rw [E158]; exact wF_160_57 V157 (by omega)
    refine ok_xl ?_; intro h159 E159
    have V159 : VS_ h159 := by rw [E159]; exact wF_160_68 V158 (by omega)
    refine ok_xl ?_; intro h160 E160
    have V160 : VS_ h160 := by rw [E160]; exact wF_160_70 V159 (by omega)
    refine ok_xl ?_; intro h161 E161
    have V161 : VS_ h161 := by rw [E161]; exact wF_160_71 V160 (by omega)
    refine ok_xl ?_; intro h162 E162
    have V162 : VS_ h162 := by rw [E162]; exact wF_160_78 V161 (by omega)
    refine ok_xl ?_; intro h163 E163
    have V163 : VS_ h163 := by rw [E163]; exact wF_160_79 V162 (by omega)
    refine ok_xl ?_; intro h164 E164
    have V164 : VS_ h164 := by rw [E164]; exact wF_160_84 V163 (by omega)
    refine ok_xl ?_; intro h165 E165
    have V165 : VS_ h165 := by rw [E165]; exact wF_160_87 V164 (by omega)
    have N : ∀ c k : Nat, ¬ (c = 160 ∧ (k = 51 ∨ k = 53 ∨ k = 50 ∨ k = 72 ∨ k = 54 ∨ k = 57 ∨ k = 68 ∨ k = 70 ∨ k = 71 ∨ k = 78 ∨ k = 79 ∨ k = 84 ∨ k = 87)) → h165 c k = h c k := fun c k n => by rw [E165, up_n (by omega), E164, up_n (by omega), E163, up_n (by omega), E162, up_n (by omega), E161, up_n (by omega), E160, up_n (by omega), E159, up_n (by omega), E158, up_n (by omega), E157, up_n (by omega), E156, up_n (by omega), E155, up_n (by omega), E154, up_n (by omega), E166, up_n (by omega)]
    have z50 : h165 160 50 = 0 := by rw [E165, up_n (by decide), E164, up_n (by decide), E163, up_n (by decide), E162, up_n (by decide), E161, up_n (by decide), E160, up_n (by decide), E159, up_n (by decide), E158, up_n (by decide), E157, up_n (by decide), E156, up_n (by decide), E155, up_s]
    have z72 : h165 160 72 = 0 := by rw [E165, up_n (by decide), E164, up_n (by decide), E163, up_n (by decide), E162, up_n (by decide), E161, up_n (by decide), E160, up_n (by decide), E159, up_n (by decide), E158, up_n (by decide), E157, up_n (by decide), E156, up_s]
    have z54 : h165 160 54 = 0 := by rw [E165, up_n (by decide), E164, up_n (by decide), E163, up_n (by decide), E162, up_n (by decide), E161, up_n (by decide), E160, up_n (by decide), E159, up_n (by decide), E158, up_n (by decide), E157, up_s]
    have z57 : h165 160 57 = 0 := by rw [E165, up_n (by decide), E164, up_n (by decide), E163, up_n (by decide), E162, up_n (by decide), E161, up_n (by decide), E160, up_n (by decide), E159, up_n (by decide), E158, up_s]
    have z68 : h165 160 68 = 0 := by rw [E165, up_n (by decide), E164, up_n (by decide), E163, up_n (by decide), E162, up_n (by decide), E161, up_n (by decide), E160, up_n (by decide), E159, up_s]
    have z70 : h165 160 70 = 0 := by rw [E165, up_n (by decide), E164, up_n (by decide), E163, up_n (by decide), E162, up_n (by decide), E161, up_n (by decide), E160, up_s]
    have z71 : h165 160 71 = 0 := by rw [E165, up_n (by decide), E164, up_n (by decide), E163, up_n (by decide), E162, up_n (by decide), E161, up_s]
    have z78 : h165 160 78 = 0 := by rw [E165, up_n (by decide), E164, up_n (by decide), E163, up_n (by decide), E162, up_s]
    have z79 : h165 160 79 = 0 := by rw [E165, up_n (by decide), E164, up_n (by decide), E163, up_s]
    have z84 : h165 160 84 = 0 := by rw [E165, up_n (by decide), E164, up_s]
    have z87 : h165 160 87 = 0 := by rw [E165, up_s]
    have x88 := N 160 88 (by decide)
    have x97 := N 160 97 (by decide)
    have x52 := N 160 52 (by decide)
    have Cs : CT g w h165 := ct_of C V165 (fun c k a b d => N c k (by omega))
    have s24 := Cs.2.1.2.2.1
    have Ls : LB h165 := lb_eq L (by omega) (fun i => ⟨N 219 i (by omega), N 220 i (by omega)⟩)
    have Ck : CK h165 h165 := by
      refine ⟨V165, fun _ _ _ => rfl, ⟨fun x hx => by exfalso; omega, fun x hx => by exfalso; omega, by omega, by omega⟩, ⟨fun x hx => by exfalso; omega, fun f hf => by exfalso; omega, fun f g hf _ _ => by exfalso; omega⟩, fun i hi => by exfalso; omega, fun f hf => by exfalso; omega, by omega, ?_⟩
      rw [z87, z68, z79, z72, z71, z84]; decide
    have Cw : CW h165 w h165 := ⟨Ck, ag_kp Cs.2.1 Cs.2.2.1, Cs.2.2.2⟩
    have T0 : ST h165 h165 w 0 0 0 0 0 0 0 0 h165 := st_cv (st_0 Cw Ls) z50 z70 z54 (by omega) (by omega) (by omega) (by omega) (by omega) (by omega)
    have g9 := gA_189 C.1 m.toNat (by omega)
    rw [C.2.1.1 189 _ (by decide) (by decide)] at g9
    refine ok_im (mm_81 hn B Cs.2.1 V165 (by omega) hm hb Te Ye hw (by omega) (by omega) ⟨z57, z68, z78, z84, z87⟩ nn 0 h165 T0 (by omega) (by omega)) (fun r q => ⟨q.1, q.2.1, by have := q.2.2.1; omega, by have := q.2.2.2.1; omega, by have := q.2.2.2.2; omega⟩)
  exact ok_if (fun _ => J 0 (.inl rfl)) (fun _ => J 1 (.inr rfl))
end
end
section
section
variable {nn : Nat} {g h : ms_M} {w : Int}
/-- how many bytes a row of the pool takes -/
def sz (h : ms_M) (c : Nat) : Int := if h 200 c = 1 then 2 + h 202 c else if h 200 c = 2 then 5 else if h 200 c = 3 then 2 else 4
def SZ (h : ms_M) : Nat → Int
  | 0 => 0
  | n + 1 => SZ h n + sz h (n + 1)
theorem sz_0 (V : VS_ h) (c : Nat) (hc : (c : Int) < 2000) : 2 ≤ sz h c ∧ sz h c ≤ 2002 := by
  have := gA_202 V c hc
  unfold sz
  split
  · omega
  split
  · omega
  split <;> omega
theorem SZ_0 (V : VS_ h) : ∀ n : Nat, (n : Int) < 2000 → 0 ≤ SZ h n ∧ SZ h n ≤ 2002 * n := by
  intro n
  induction n with
  | zero => intro _; exact ⟨Int.le_refl _, by show (0 : Int) ≤ _; omega⟩
  | succ n ih =>
    intro hn
    have a := ih (by omega)
    have b := sz_0 V (n + 1) (by omega)
    show 0 ≤ SZ h n + sz h (n + 1) ∧ SZ h n + sz h (n + 1) ≤ _
    omega
theorem SZ_s {n : Int} (h0 : 0 ≤ n) : SZ h (n + 1).toNat = SZ h n.toNat + sz h (n + 1).toNat := by
  rw [show (n + 1).toNat = n.toNat + 1 by omega]; rfl
theorem SZ_m (V : VS_ h) : ∀ (n k : Nat), (k : Int) + n < 2000 → SZ h k ≤ SZ h (k + n) := by
  intro n
  induction n with
  | zero => intro k _; exact Int.le_refl _
  | succ n ih =>
    intro k hk
    have a := ih k (by omega)
    have b := sz_0 V (k + n + 1) (by omega)
    show SZ h k ≤ SZ h (k + n) + sz h (k + n + 1)
    omega
/-- the image is written -/
def N3 (h r : ms_M) : Prop := ∀ c k : Nat, c ≠ 223 → r c k = h c k
theorem n3_rf : N3 h h := fun _ _ _ => rfl
theorem n3_w {z r : ms_M} {j v : Int} (N : N3 h z) (E : r = up_M z 223 j.toNat v) : N3 h r := fun c k a => by rw [E, up_n (by omega)]; exact N c k a
def QW3 (h : ms_M) (p : Int) (u : Int × ms_M) : Prop := VS_ u.2 ∧ N3 h u.2 ∧ u.1 = p
theorem wc_63 {l1 l3 m : Int} (V0 : VS_ h) (r1 : 0 ≤ l1 ∧ l1 < 2000) (e2 : h 201 l1.toNat + h 202 l1.toNat ≤ 40000) (e1 : h 202 l1.toNat ≤ 200) (r3 : 0 ≤ l3 ∧ l3 + 1 + h 202 l1.toNat ≤ 48000) : ∀ (k : Nat) (l4 : Int) (z : ms_M), VS_ z → N3 h z → (0 ≤ l4 ∧ l4 ≤ h 202 l1.toNat) → h 202 l1.toNat - l4 < (k : Int) → Ok_ (qw_X13_writeConstant_63 nn k l1 l3 l4 z) (QW3 h (l3 + 1 + h 202 l1.toNat)) := by
  have g1 := gA_201 V0 l1.toNat (by omega)
  have g2 := gA_202 V0 l1.toNat (by omega)
  intro k
  induction k with
  | zero => intro l4 z V N a hm; exfalso; omega
  | succ k ih =>
    intro l4 z V N a hm
    unfold qw_X13_writeConstant_63
    refine ok_rd (by omega) (gA_202 V) ?_; intro v14 e14 _ _
    rw [N 202 _ (by decide)] at e14
    refine ok_if (fun C => ?_) (fun C => ?_)
    · refine ok_add (by omega) ?_; intro v15 e15
      refine ok_rd (by omega) (gA_202 V) ?_; intro v17 e17 _ _
      rw [N 202 _ (by decide)] at e17
      refine ok_add (by omega) ?_; intro v18 e18
      exact ok_ret ⟨V, N, by show v18 = _; omega⟩
    · refine ok_add (by omega) ?_; intro v20 e20
      refine ok_add (by omega) ?_; intro v21 e21
      refine ok_rd (by omega) (gA_201 V) ?_; intro v24 e24 _ _
      rw [N 201 _ (by decide)] at e24
      refine ok_add (by omega) ?_; intro v25 e25
      refine ok_rd (by omega) (gA_204 V) ?_; intro v26 e26 a26 b26
      refine ok_wA (by omega) ?_; intro h27 E27
      refine ok_add (by omega) ?_; intro v28 e28
      exact ih v28 h27 (by rw [E27]; exact wA_223 V (by omega)) (n3_w N E27) (by omega) (by omega)
theorem wc_119 {l1 l3 : Int} (r1 : 0 ≤ l1 ∧ l1 < 2000) (r3 : 0 ≤ l3 ∧ l3 + 4 ≤ 48000) : ∀ (k : Nat) (l4 : Int) (z : ms_M), VS_ z → N3 h z → (0 ≤ l4 ∧ l4 ≤ 4) → 4 - l4 < (k : Int) → Ok_ (qw_X13_writeConstant_119 nn k l1 l3 l4 z) (QW3 h (l3 + 4)) := by
  intro k
  induction k with
  | zero => intro l4 z V N a hm; exfalso; omega
  | succ k ih =>
    intro l4 z V N a hm
    unfold qw_X13_writeConstant_119
    refine ok_if (fun C => ?_) (fun C => ?_)
    · refine ok_add (by omega) ?_; intro v1 e1
      exact ok_ret ⟨V, N, e1⟩
    · refine ok_add (by omega) ?_; intro v3 e3
      refine ok_rd (by omega) (gA_201 V) ?_; intro v5 e5 _ _
      refine ok_xl ?_; intro v6 _
      refine ok_xl ?_; intro v7 _
      refine ok_xl ?_; intro v8 _
      refine ok_and (by decide) ?_; intro v9 a9 b9
      refine ok_wA (by omega) ?_; intro h10 E10
      refine ok_add (by omega) ?_; intro v11 e11
      exact ih v11 h10 (by rw [E10]; exact wA_223 V (by omega)) (n3_w N E10) (by omega) (by omega)
theorem wc_write (hn : 1000000 ≤ nn) {z : ms_M} {l1 l2 : Int} (V0 : VS_ h) (K : KW1 h) (h62 : h 160 62 ≤ 200) (V : VS_ z) (N : N3 h z) (r1 : 1 ≤ l1 ∧ l1 ≤ h 160 62) (r2 : 0 ≤ l2 ∧ l2 + sz h l1.toNat ≤ 48000) : Ok_ (qf_X13_writeConstant nn l1 l2 z) (QW3 h (l2 + sz h l1.toNat)) := by
  obtain ⟨⟨k1, k2, k3, k4⟩, k5⟩ := K.1 l1.toNat (by omega) (by omega)
  have g64 := gF_160_64 V0
  have s0 := sz_0 V0 l1.toNat (by omega)
  have g2 := gA_202 V0 l1.toNat (by omega)
  unfold qf_X13_writeConstant
  refine ok_rd (by omega) (gA_200 V) ?_; intro v32 e32 a32 b32
  rw [N 200 _ (by decide)] at e32
  refine ok_wA (by omega) ?_; intro h33 E33
  have V33 : VS_ h33 := by rw [E33]; exact wA_223 V (by omega)
  have N33 := n3_w N E33
  refine ok_add (by omega) ?_; intro v34 e34
  refine ok_rd (by omega) (gA_200 V33) ?_; intro v36 e36 _ _
  rw [N33 200 _ (by decide)] at e36
  refine ok_if (fun C => ?_) (fun C => ?_)
  · have c1 : h 200 l1.toNat = 1 := by omega
    have q : sz h l1.toNat = 2 + h 202 l1.toNat := by unfold sz; rw [if_pos c1]
    have k2 := k2 c1
    have k5 := k5 c1
    refine ok_rd (by omega) (gA_202 V33) ?_; intro v54 e54 a54 b54
    rw [N33 202 _ (by decide)] at e54
    refine ok_wA (by omega) ?_; intro h55 E55
    refine ok_im (wc_63 (m := 0) V0 (by omega) (by omega) (by omega) (by omega) nn 0 h55 (by rw [E55]; exact wA_223 V33 (by omega)) (n3_w N33 E55) (by omega) (by omega)) (fun u Q => ⟨Q.1, Q.2.1, by have := Q.2.2; omega⟩)
  · refine ok_if (fun C2 => ?_) (fun C2 => ?_)
    · have c1 : h 200 l1.toNat = 2 := by omega
      have q : sz h l1.toNat = 5 := by unfold sz; rw [if_neg (show ¬ h 200 l1.toNat = 1 by omega), if_pos c1]
      exact ok_im (wc_119 (by omega) (by omega) nn 0 h33 V33 N33 (by omega) (by omega)) (fun u Q => ⟨Q.1, Q.2.1, by have := Q.2.2; omega⟩)
    · refine ok_if (fun C3 => ?_) (fun C3 => ?_)
      · have c1 : h 200 l1.toNat = 3 := by omega
        have q : sz h l1.toNat = 2 := by unfold sz; rw [if_neg (show ¬ h 200 l1.toNat = 1 by omega), if_neg (show ¬ h 200 l1.toNat = 2 by omega), if_pos c1]
        have k3 := k3 c1
        refine ok_rd (by omega) (gA_201 V33) ?_; intro v58 e58 a58 b58
        rw [N33 201 _ (by decide)] at e58
        refine ok_wA (by omega) ?_; intro h59 E59
        refine ok_add (by omega) ?_; intro v60 e60
        exact ok_ret ⟨by show VS_ h59; rw [E59]; exact wA_223 V33 (by omega), n3_w N33 E59, by show v60 = _; omega⟩
      · have g0 := gA_200 V0 l1.toNat (by omega)
        have c1 : h 200 l1.toNat = 4 := by omega
        have q : sz h l1.toNat = 4 := by unfold sz; rw [if_neg (show ¬ h 200 l1.toNat = 1 by omega), if_neg (show ¬ h 200 l1.toNat = 2 by omega), if_neg (show ¬ h 200 l1.toNat = 3 by omega)]
        have k4 := k4 c1
        refine ok_rd (by omega) (gA_201 V33) ?_; intro v39 e39 a39 b39
        rw [N33 201 _ (by decide)] at e39
        refine ok_wA (by omega) ?_; intro h40 E40
        have V40 : VS_ h40 := by rw [E40]; exact wA_223 V33 (by omega)
        have N40 := n3_w N33 E40
        refine ok_add (by omega) ?_; intro v42 e42
        refine ok_rd (by omega) (gA_202 V40) ?_; intro v44 e44 a44 b44
        rw [N40 202 _ (by decide)] at e44
        refine ok_wA (by omega) ?_; intro h45 E45
        have V45 : VS_ h45 := by rw [E45]; exact wA_223 V40 (by omega)
        have N45 := n3_w N40 E45
        refine ok_add (by omega) ?_; intro v47 e47
        refine ok_rd (by omega) (gA_203 V45) ?_; intro v49 e49 a49 b49
        rw [N45 203 _ (by decide)] at e49
        refine ok_wA (by omega) ?_; intro h50 E50
        refine ok_add (by omega) ?_; intro v51 e51
        exact ok_ret ⟨by show VS_ h50; rw [E50]; exact wA_223 V45 (by omega), n3_w N45 E50, by show v51 = _; omega⟩
/-- what stays of h when a class was made -/
def QC4 (h r : ms_M) : Prop := VS_ r ∧ ∀ c k : Nat, c ≠ 223 → c ≠ 224 → ¬ (c = 160 ∧ (k = 9 ∨ k = 10)) → r c k = h c k
theorem mc_440 {l1 l2 l3 : Int} (r1 : 0 ≤ l1 ∧ l1 ≤ 7) (r2 : 0 ≤ l2 ∧ l2 ≤ 6000) (r3 : 0 ≤ l3 ∧ l3 + h 160 97 ≤ 48000) (h97 : h 160 97 ≤ 6000) : ∀ (k : Nat) (l4 : Int) (z : ms_M), VS_ z → N3 h z → 0 ≤ l4 → l4 ≤ h 160 97 → h 160 97 - l4 < (k : Int) → Ok_ (qw_X13_makeClass_440 nn k l1 l2 l3 l4 z) (QC4 h) := by
  intro k
  induction k with
  | zero => intro l4 z V N a b hm; exfalso; omega
  | succ k ih =>
    intro l4 z V N a b hm
    have e97 := N 160 97 (by decide)
    unfold qw_X13_makeClass_440
    refine ok_if (fun C => ?_) (fun C => ?_)
    · refine ok_wA (by omega) ?_; intro h3 E3
      exact ok_ret ⟨by rw [E3]; exact wA_224 V (by omega), fun c k a b d => by rw [E3, up_n (by omega)]; exact N c k a⟩
    · refine ok_add (by omega) ?_; intro v5 e5
      refine ok_rd (by omega) (gA_225 V) ?_; intro v7 e7 a7 b7
      refine ok_wA (by omega) ?_; intro h8 E8
      refine ok_add (by omega) ?_; intro v9 e9
      exact ih v9 h8 (by rw [E8]; exact wA_223 V (by omega)) (n3_w N E8) (by omega) (by omega) (by omega)
theorem mc_414 (hn : 1000000 ≤ nn) {l1 l2 : Int} (V0 : VS_ h) (K : KW1 h) (h62 : h 160 62 ≤ 200) (r1 : 0 ≤ l1 ∧ l1 ≤ 7) (r2 : l2 ≤ 6000) (e2 : l2 = 3 + h 160 97 + SZ h (h 160 62).toNat) : ∀ (k : Nat) (l3 l4 : Int) (z : ms_M), VS_ z → N3 h z → (1 ≤ l4 ∧ l4 ≤ h 160 62 + 1) → l3 = 6000 * l1 + 3 + SZ h (l4 - 1).toNat → h 160 62 + 1 - l4 < (k : Int) → Ok_ (qw_X13_makeClass_414 nn k l1 l2 l3 l4 z) (QC4 h) := by
  have g62 := gF_160_62 V0
  have g97 := gF_160_97 V0
  have s0 := SZ_0 V0 (h 160 62).toNat (by omega)
  intro k
  induction k with
  | zero => intro l3 l4 z V N a e hm; exfalso; omega
  | succ k ih =>
    intro l3 l4 z V N a e hm
    have e62 := N 160 62 (by decide)
    unfold qw_X13_makeClass_414
    refine ok_if (fun C => ?_) (fun C => ?_)
    · rw [show (l4 - 1).toNat = (h 160 62).toNat by omega] at e
      exact mc_440 r1 (by omega) (by omega) (by omega) nn 0 z V N (by omega) (by omega) (by omega)
    · have s1 := SZ_0 V0 (l4 - 1).toNat (by omega)
      have s2 := SZ_s (h := h) (n := l4 - 1) (by omega)
      have s3 := SZ_m V0 (h 160 62 - l4).toNat l4.toNat (by omega)
      rw [show l4 - 1 + 1 = l4 by omega] at s2
      rw [show l4.toNat + (h 160 62 - l4).toNat = (h 160 62).toNat by omega] at s3
      refine ok_sv (wc_write hn V0 K h62 V N (by omega) (by omega)) ?_; intro u13 P13
      obtain ⟨V13, N13, e13⟩ := P13
      refine ok_add (by omega) ?_; intro v14 e14
      rw [e14]
      exact ih u13.1 (l4 + 1) u13.2 V13 N13 (by omega) (by rw [e13, show l4 + 1 - 1 = l4 by omega]; omega) (by omega)
theorem mc_364 (hn : 1000000 ≤ nn) {l1 l2 : Int} (V0 : VS_ h) (K : KW1 h) (r1 : 0 ≤ l1 ∧ l1 ≤ 7) (hh : h 160 9 = 0 → h 160 62 ≤ 200 ∧ l2 ≤ 6000 ∧ l2 = 3 + h 160 97 + SZ h (h 160 62).toNat) : Ok_ (qj_X13_makeClass_364 nn l1 l2 h) (QC4 h) := by
  have g62 := gF_160_62 V0
  unfold qj_X13_makeClass_364
  refine ok_if (fun C => ?_) (fun C => ok_ret ⟨V0, fun _ _ _ _ _ => rfl⟩)
  obtain ⟨h62, hl, e2⟩ := hh C
  refine ok_mul (by omega) ?_; intro v17 e17
  refine ok_wA (by omega) ?_; intro h19 E19
  have V19 : VS_ h19 := by rw [E19]; exact wA_223 V0 (by omega)
  have N19 := n3_w n3_rf E19
  refine ok_add (by omega) ?_; intro v21 e21
  refine ok_wA (by omega) ?_; intro h22 E22
  have V22 : VS_ h22 := by rw [E22]; exact wA_223 V19 (by omega)
  have N22 := n3_w N19 E22
  have q62 := N22 160 62 (by decide)
  refine ok_add (by omega) ?_; intro v24 e24
  refine ok_wA (by omega) ?_; intro h26 E26
  have V26 : VS_ h26 := by rw [E26]; exact wA_223 V22 (by omega)
  have N26 := n3_w N22 E26
  refine ok_add (by omega) ?_; intro v27 e27
  exact mc_414 hn V0 K h62 r1 hl e2 nn v27 1 h26 V26 N26 (by omega) (by show v27 = _ + SZ h 0; show v27 = _ + 0; omega) (by omega)
theorem mc_352 (hn : 1000000 ≤ nn) {l1 l2 : Int} (V0 : VS_ h) (r1 : 0 ≤ l1 ∧ l1 ≤ 7) : Ok_ (qj_X13_makeClass_352 nn l1 l2 h) (QC4 h) := by
  unfold qj_X13_makeClass_352
  refine ok_rd (by omega) (gA_178 V0) ?_; intro v30 _ a30 b30
  obtain ⟨u, eu, Vu, n9⟩ := vf_X13_wrong hn (a1 := 11) (by decide) (by decide) (show 0 ≤ v30 by omega) (show v30 ≤ 3001 by omega) V0
  rw [eu, mx_svs]
  unfold qj_X13_makeClass_364
  rw [if_neg n9]
  exact ok_ret ⟨Vu, fun c k a b d => wrong_n eu d⟩
theorem mc_261 (hn : 1000000 ≤ nn) {l1 : Int} (V0 : VS_ h) (K : KW1 h) (r1 : 0 ≤ l1 ∧ l1 ≤ 7) (h97 : h 160 97 ≤ 900000000) : ∀ (k : Nat) (l2 l3 : Int), (1 ≤ l3 ∧ l3 ≤ h 160 62 + 1) → l2 = 3 + h 160 97 + SZ h (l3 - 1).toNat → h 160 62 + 1 - l3 < (k : Int) → Ok_ (qw_X13_makeClass_261 nn k l1 l2 l3 h) (QC4 h) := by
  have g62 := gF_160_62 V0
  have g97 := gF_160_97 V0
  intro k
  induction k with
  | zero => intro l2 l3 a e hm; exfalso; omega
  | succ k ih =>
    intro l2 l3 a e hm
    have s1 := SZ_0 V0 (l3 - 1).toNat (by omega)
    unfold qw_X13_makeClass_261
    refine ok_if (fun C => ?_) (fun C => ?_)
    · rw [show (l3 - 1).toNat = (h 160 62).toNat by omega] at e
      refine ok_if (fun C2 => mc_364 hn V0 K r1 (fun y => absurd y C2)) (fun C2 => ?_)
      refine ok_if (fun _ => mc_352 hn V0 r1) (fun C3 => ?_)
      exact ok_if (fun C4 => mc_364 hn V0 K r1 (fun _ => ⟨by omega, C4, e⟩)) (fun _ => mc_352 hn V0 r1)
    · have s2 := SZ_s (h := h) (n := l3 - 1) (by omega)
      rw [show l3 - 1 + 1 = l3 by omega] at s2
      have J : ∀ x : Int, x = sz h l3.toNat → Ok_ (qj_X13_makeClass_320 nn (qw_X13_makeClass_261 nn k) l1 l3 x l2 h) (QC4 h) := fun x ex => by
        have s3 := sz_0 V0 l3.toNat (by omega)
        unfold qj_X13_makeClass_320
        refine ok_add (by omega) ?_; intro v33 e33
        refine ok_add (by omega) ?_; intro v34 e34
        rw [e34]
        exact ih v33 (l3 + 1) (by omega) (by rw [show l3 + 1 - 1 = l3 by omega]; omega) (by omega)
      refine ok_rd (by omega) (gA_200 V0) ?_; intro v42 e42 _ _
      refine ok_if (fun C1 => ?_) (fun C1 => ?_)
      · refine ok_rd (by omega) (gA_200 V0) ?_; intro v44 e44 _ _
        refine ok_if (fun C2 => ?_) (fun C2 => ?_)
        · refine ok_rd (by omega) (gA_200 V0) ?_; intro v46 e46 _ _
          refine ok_if (fun C3 => J 4 ?_) (fun C3 => J 2 ?_)
          · unfold sz; rw [if_neg (show ¬ h 200 l3.toNat = 1 by omega), if_neg (show ¬ h 200 l3.toNat = 2 by omega), if_neg (show ¬ h 200 l3.toNat = 3 by omega)]
          · unfold sz; rw [if_neg (show ¬ h 200 l3.toNat = 1 by omega), if_neg (show ¬ h 200 l3.toNat = 2 by omega), if_pos (show h 200 l3.toNat = 3 by omega)]
        · refine J 5 ?_
          unfold sz; rw [if_neg (show ¬ h 200 l3.toNat = 1 by omega), if_pos (show h 200 l3.toNat = 2 by omega)]
      · refine ok_rd (by omega) (gA_202 V0) ?_; intro v50 e50 _ _
        refine ok_add (by omega) ?_; intro v51 e51
        refine J v51 ?_
        unfold sz; rw [if_pos (show h 200 l3.toNat = 1 by omega)]; omega
end
end
section
section
variable {nn : Nat} {g h : ms_M}
/-- a class that is being made: l1; all methods before W are made -/
def CLS (g : ms_M) (l1 W L8 L9 : Int) (h : ms_M) : Prop := CT g (Cm g W) h ∧ LB h ∧ h 160 52 = 8 + l1 ∧ (L8 ≤ h 160 88 ∧ h 160 88 ≤ L8 + 2 * Cm g W) ∧ h 160 97 ≤ L9
def QCL (g : ms_M) (L8 : Int) (r : ms_M) : Prop := VS_ r ∧ AG g r ∧ LB r ∧ (L8 ≤ r 160 88 ∧ r 160 88 ≤ L8 + 6000)
theorem cls_le {l1 W L8 L9 M9 : Int} (C : CLS g l1 W L8 L9 h) (hl : L9 ≤ M9) : CLS g l1 W L8 M9 h := ⟨C.1, C.2.1, C.2.2.1, C.2.2.2.1, Int.le_trans C.2.2.2.2 hl⟩
theorem cls_of {l1 W L8 L9 M9 : Int} {r : ms_M} (C : CLS g l1 W L8 L9 h) (T : CT g (Cm g W) r) (N : NQ h r) (h97 : r 160 97 ≤ M9) : CLS g l1 W L8 M9 r := by
  have x88 := N 160 88 (by decide) (by decide) (by decide)
  have x52 := N 160 52 (by decide) (by decide) (by decide)
  exact ⟨T, lb_eq C.2.1 (by omega) (fun i => ⟨N 219 i (by decide) (by omega) (by omega), N 220 i (by decide) (by omega) (by omega)⟩), by rw [x52]; exact C.2.2.1, by rw [x88]; exact C.2.2.2.1, h97⟩
theorem qcl_of {l1 W L8 L9 : Int} {r : ms_M} (C : CLS g l1 W L8 L9 h) (hW : Cm g W ≤ 3000) (Q : QC4 h r) : QCL g L8 r := by
  obtain ⟨V, N⟩ := Q
  have x88 := N 160 88 (by decide) (by decide) (by decide)
  have c8 := C.2.2.2.1
  refine ⟨V, ag_tr C.1.2.1 ⟨fun c k a b => N c k (by omega) (by omega) (by omega), N 160 22 (by decide) (by decide) (by decide), N 160 24 (by decide) (by decide) (by decide), N 160 28 (by decide) (by decide) (by decide)⟩, lb_eq C.2.1 (by omega) (fun i => ⟨N 219 i (by decide) (by decide) (by omega), N 220 i (by decide) (by decide) (by omega)⟩), by omega⟩
/-- the methods from l4 on lie behind W -/
def WM (g : ms_M) (l4 W : Int) : Prop := (0 ≤ W ∧ W ≤ g 160 22) ∧ ∀ y : Nat, l4 ≤ (y : Int) → (y : Int) < g 160 28 → ¬ g 182 y = 0 → W ≤ g 190 y
theorem wm_next {l4 W : Int} (x : WM g l4 W) : WM g (l4 + 1) W := ⟨x.1, fun y h1 => x.2 y (by omega)⟩
theorem mc_143 (hn : 1000000 ≤ nn) (B : GB g) {qk : Int → Int → ms_M → Option ms_M} {l1 l2 L8 L9 : Int} (h1 : 0 ≤ l1 ∧ l1 < g 160 24) (h2 : l2 = 0 ∨ l2 = 1) (h8 : 0 ≤ L8 ∧ L8 ≤ 1700000000) (h9 : 0 ≤ L9 ∧ L9 ≤ 100000000) (hk : ∀ (W : Int) (z : ms_M), (l2 = 1 ∨ W = 0) → (0 ≤ W ∧ W ≤ g 160 22) → CLS g l1 W L8 (L9 + 2496000) z → Ok_ (qk l1 (l2 + 1) z) (QCL g L8)) : ∀ (k : Nat) (l4 W : Int) (h : ms_M), CLS g l1 W L8 (L9 + 13000 * l4) h → WM g l4 W → (l2 = 1 ∨ W = 0) → (0 ≤ l4 ∧ l4 ≤ g 160 28) → g 160 28 - l4 < (k : Int) → Ok_ (qw_X13_makeClass_143 nn qk k l1 l2 l4 h) (QCL g L8) := by
  have P := B.1
  have p24 := P.2.1
  have p28 := P.2.2.2.1
  have b22 := B.2.1
  intro k
  induction k with
  | zero => intro l4 W h C x z a hm; exfalso; omega
  | succ k ih =>
    intro l4 W h C x z a hm
    have V := C.1.1
    have M := C.1.2.1
    have e28 := M.2.2.2
    have e24 := M.2.2.1
    have cw := cm_mono (s := g) (a := W) (b := g 160 22) x.1.1 x.1.2
    have cw0 := cm_mono (s := g) (a := 0) (b := W) (by omega) x.1.1
    rw [cm_z] at cw0
    have x12 := x.1
    unfold qw_X13_makeClass_143
    have Kq : ∀ v : Int, v = l2 + 1 → Ok_ (qk l1 v h) (QCL g L8) := fun v ev => by
      rw [ev]; exact hk W h z x.1 (cls_le C (by omega))
    refine ok_if (fun D => ?_) (fun D => ?_)
    · refine ok_add (by omega) ?_; intro v73 e73
      exact Kq v73 e73
    · refine ok_if (fun D2 => ?_) (fun D2 => ?_)
      · refine ok_add (by omega) ?_; intro v75 e75
        exact Kq v75 e75
      · have nxt : ∀ v : Int, v = l4 + 1 → Ok_ (qw_X13_makeClass_143 nn qk k l1 l2 v h) (QCL g L8) := fun v ev => by
          rw [ev]; exact ih (l4 + 1) W h (cls_le C (by omega)) (wm_next x) z (by omega) (by omega)
        refine ok_rd (by omega) (gA_181 V) ?_; intro v77 _ _ _
        refine ok_if (fun _ => ?_) (fun _ => ?_)
        · refine ok_add (by omega) ?_; intro v78 e78
          exact nxt v78 e78
        · refine ok_rd (by omega) (gA_182 V) ?_; intro v80 e80 a80 b80
          rw [M.1 182 _ (by decide) (by decide)] at e80
          have J : ∀ s0 s1 : Int, (s0 = 0 ∨ s0 = 1) → (s1 = 0 ∨ s1 = 1) → (s1 = 1 → ¬ v80 ≤ 0) → (s0 = 1 ↔ l2 = 1) → Ok_ (qj_X13_makeClass_195 nn qk (qw_X13_makeClass_143 nn qk k) l1 l2 l4 s0 s1 h) (QCL g L8) := fun s0 s1 d0 d1 d2 d3 => by
            unfold qj_X13_makeClass_195
            refine ok_if (fun E => ?_) (fun E => ?_)
            · refine ok_if (fun F => ?_) (fun F => ?_)
              · refine ok_rd (by omega) (gA_186 V) ?_; intro v55 e55 _ _
                refine ok_sv (ct_text hn P C.1 (by omega) (by omega) e55) ?_; intro u57 P57
                have n57 := P57.2.1 160 97 (by decide) (by decide)
                have c97 := C.2.2.2.2
                refine ok_sv (ct_tell P57.1 (by omega)) ?_; intro u59 P59
                refine ok_sv (ct_kind hn P P59.1 (by omega) (by omega)) ?_; intro u61 P61
                have n61 := P61.2.1 160 97 (by decide) (by decide)
                refine ok_sv (ct_tell P61.1 (by omega)) ?_; intro u63 P63
                refine ok_add (by omega) ?_; intro v64 e64
                rw [e64]
                have N := nq_tr (nq_np P57.2.1) (nq_tr (nq_nt P59.2.1) (nq_tr (nq_np P61.2.1) (nq_nt P63.2.1)))
                exact ih (l4 + 1) W u63 (cls_of C P63.1 N (by omega)) (wm_next x) z (by omega) (by omega)
              · have F : l2 = 1 := by omega
                have q82 : ¬ g 182 l4.toNat = 0 := by have := d2 (by omega); omega
                obtain ⟨b, b2, ⟨hb, hy⟩, Te, Ye⟩ := B.2.2.2.1 l4.toNat (by omega) q82
                have xw := x.2 l4.toNat (by omega) (by omega) q82
                have rg := te_sk Te
                have c1 := cm_mono (s := g) (a := W) (b := g 190 l4.toNat) (by omega) xw
                have c2 := cm_mono (s := g) (a := g 190 l4.toNat) (b := b) (by omega) (by omega)
                have c3 := cm_mono (s := g) (a := b) (b := g 160 22) (by omega) (by omega)
                have c97 := C.2.2.2.2
                have c88 := C.2.2.2.1
                have c52 := C.2.2.1
                refine ok_sv (mm_make hn B C.1 C.2.1 (by omega) (by omega) hb Te Ye (by omega) (by omega) (by omega)) ?_; intro u66 P66
                obtain ⟨p1, p2, p3, p4, p5⟩ := P66
                refine ok_add (by omega) ?_; intro v67 e67
                rw [e67]
                exact ih (l4 + 1) b u66 ⟨p1, p2, by omega, by omega, by omega⟩ ⟨by omega, fun y h1 => hy y (by omega)⟩ (.inl F) (by omega) (by omega)
            · refine ok_add (by omega) ?_; intro v69 e69
              exact nxt v69 e69
          have J2 : ∀ s0 : Int, (s0 = 0 ∨ s0 = 1) → (s0 = 1 → ¬ v80 ≤ 0) → Ok_ (qj_X13_makeClass_185 nn qk (qw_X13_makeClass_143 nn qk k) l1 l2 l4 s0 h) (QCL g L8) := fun s0 d0 d2 => by
            unfold qj_X13_makeClass_185
            exact ok_if (fun E => J 0 s0 (.inl rfl) d0 d2 (by omega)) (fun E => J 1 s0 (.inr rfl) d0 d2 (by omega))
          exact ok_if (fun E => J2 0 (.inl rfl) (by omega)) (fun E => J2 1 (.inr rfl) (by omega))
theorem mc_78 (hn : 1000000 ≤ nn) (B : GB g) {qk : Int → Int → ms_M → Option ms_M} {l1 l2 L8 L9 : Int} (h1 : 0 ≤ l1 ∧ l1 < g 160 24) (h2 : l2 = 0 ∨ l2 = 1) (h8 : 0 ≤ L8 ∧ L8 ≤ 1700000000) (h9 : 0 ≤ L9 ∧ L9 ≤ 90000000) (hk : ∀ (W : Int) (z : ms_M), (l2 = 1 ∨ W = 0) → (0 ≤ W ∧ W ≤ g 160 22) → CLS g l1 W L8 (L9 + 1 + 2496000) z → Ok_ (qk l1 (l2 + 1) z) (QCL g L8)) {h : ms_M} (C : CLS g l1 0 L8 L9 h) : ∀ (k : Nat) (l3 l4 : Int), (0 ≤ l4 ∧ l4 ≤ g 160 28) → (0 ≤ l3 ∧ l3 ≤ l4) → g 160 28 - l4 < (k : Int) → Ok_ (qw_X13_makeClass_78 nn qk k l1 l2 l3 l4 h) (QCL g L8) := by
  have P := B.1
  have p24 := P.2.1
  have p28 := P.2.2.2.1
  have V := C.1.1
  have M := C.1.2.1
  have e28 := M.2.2.2
  have c97 := C.2.2.2.2
  have v22 := gF_160_22 V
  have e22 := M.2.1
  intro k
  induction k with
  | zero => intro l3 l4 a b hm; exfalso; omega
  | succ k ih =>
    intro l3 l4 a b hm
    unfold qw_X13_makeClass_78
    refine ok_if (fun D => ?_) (fun D => ?_)
    · refine ok_sv (ct_tell C.1 (by omega)) ?_; intro u92 P92
      refine mc_143 hn B (L9 := L9 + 1) h1 h2 h8 (by omega) hk nn 0 0 u92 (cls_of C P92.1 (nq_nt P92.2.1) (by omega)) ⟨⟨by omega, by omega⟩, fun y _ hy q => ?_⟩ (.inr rfl) (by omega) (by omega)
      obtain ⟨b, b2, _, Te, _⟩ := B.2.2.2.1 y hy q
      have := te_sk Te
      omega
    · refine ok_rd (by omega) (gA_181 V) ?_; intro v94 _ _ _
      refine ok_if (fun _ => ?_) (fun _ => ?_)
      · refine ok_add (by omega) ?_; intro v95 e95
        exact ih l3 v95 (by omega) (by omega) (by omega)
      · refine ok_rd (by omega) (gA_182 V) ?_; intro v97 _ _ _
        have J : ∀ s0 s1 : Int, Ok_ (qj_X13_makeClass_123 nn qk (qw_X13_makeClass_78 nn qk k) l1 l2 l3 l4 s0 s1 h) (QCL g L8) := fun s0 s1 => by
          unfold qj_X13_makeClass_123
          refine ok_if (fun _ => ?_) (fun _ => ?_)
          · refine ok_add (by omega) ?_; intro v85 e85
            exact ih l3 v85 (by omega) (by omega) (by omega)
          · refine ok_add (by omega) ?_; intro v86 e86
            refine ok_add (by omega) ?_; intro v87 e87
            exact ih v86 v87 (by omega) (by omega) (by omega)
        have J2 : ∀ s0 : Int, Ok_ (qj_X13_makeClass_113 nn qk (qw_X13_makeClass_78 nn qk k) l1 l2 l3 l4 s0 h) (QCL g L8) := fun s0 => by
          unfold qj_X13_makeClass_113
          exact ok_if (fun _ => J 0 s0) (fun _ => J 1 s0)
        exact ok_if (fun _ => J2 0) (fun _ => J2 1)
theorem mc_fin (hn : 1000000 ≤ nn) (B : GB g) {l1 W L8 L9 : Int} (h1 : 0 ≤ l1 ∧ l1 < g 160 24) (h9 : L9 ≤ 100000000) (hW : 0 ≤ W ∧ W ≤ g 160 22) (C : CLS g l1 W L8 L9 h) : Ok_ (xl (oq_add 3 (h 160 97)) fun v102 => qw_X13_makeClass_261 nn nn l1 v102 1 h) (QCL g L8) := by
  have p24 := B.1.2.1
  have b22 := B.2.1
  have g97 := gF_160_97 C.1.1
  have g62 := gF_160_62 C.1.1
  have c97 := C.2.2.2.2
  have cw := cm_mono (s := g) (a := W) (b := g 160 22) hW.1 hW.2
  refine ok_add (by omega) ?_; intro v102 e102
  exact ok_im (mc_261 hn C.1.1 C.1.2.2.1.1 (by omega) (by omega) nn v102 1 (by omega) (by show v102 = _ + SZ h 0; show v102 = _ + 0; omega) (by omega)) (fun r q => qcl_of C (by omega) q)
theorem mc_68 (hn : 1000000 ≤ nn) (B : GB g) {l1 L8 : Int} (h1 : 0 ≤ l1 ∧ l1 < g 160 24) (h8 : 0 ≤ L8 ∧ L8 ≤ 1700000000) {h : ms_M} (C : CLS g l1 0 L8 10 h) : Ok_ (qw_X13_makeClass_68 nn nn l1 0 h) (QCL g L8) := by
  obtain ⟨n3, en⟩ : ∃ n3, nn = n3 + 3 := ⟨nn - 3, by omega⟩
  have p28 := B.1.2.2.2.1
  have v28 := gF_160_28 C.1.1
  have e28 := C.1.2.1.2.2.2
  have S2 : ∀ (W : Int) (z : ms_M), (0 ≤ W ∧ W ≤ g 160 22) → CLS g l1 W L8 20000000 z → ∀ k : Nat, Ok_ (qw_X13_makeClass_68 nn (k + 1) l1 2 z) (QCL g L8) := fun W z hW Cz k => by
    unfold qw_X13_makeClass_68
    rw [if_pos (show (2 : Int) ≤ 2 by decide)]
    exact mc_fin hn B h1 (by decide) hW Cz
  have S1 : ∀ (z : ms_M), CLS g l1 0 L8 10000000 z → ∀ k : Nat, Ok_ (qw_X13_makeClass_68 nn (k + 2) l1 1 z) (QCL g L8) := fun z Cz k => by
    unfold qw_X13_makeClass_68
    rw [if_neg (show ¬ (2 : Int) ≤ 1 by decide)]
    exact mc_78 hn B (L9 := 10000000) h1 (.inr rfl) h8 (by decide) (fun W z _ hW Cz => S2 W z hW (cls_le Cz (by decide)) k) Cz nn 0 0 (by omega) (by omega) (by omega)
  have S0 : ∀ (k : Nat), Ok_ (qw_X13_makeClass_68 nn (k + 3) l1 0 h) (QCL g L8) := fun k => by
    unfold qw_X13_makeClass_68
    rw [if_neg (show ¬ (2 : Int) ≤ 0 by decide)]
    refine mc_78 hn B (L9 := 10) h1 (.inl rfl) h8 (by decide) (fun W z hz hW Cz => ?_) C nn 0 0 (by omega) (by omega) (by omega)
    rcases hz with hz | hz
    · exact absurd hz (by decide)
    · subst hz
      exact S1 z (cls_le Cz (by decide)) k
  have := S0 n3
  rw [← en] at this
  exact this
theorem mc_make (hn : 1000000 ≤ nn) (B : GB g) {l1 : Int} (V : VS_ h) (A : AG g h) (L : LB h) (h1 : 0 ≤ l1 ∧ l1 < g 160 24) (h8 : h 160 88 ≤ 1700000000) : Ok_ (qf_X13_makeClass nn l1 h) (QCL g (h 160 88)) := by
  have p24 := B.1.2.1
  have g88 := gF_160_88 V
  unfold qf_X13_makeClass
  refine ok_xl ?_; intro h104 E104
  have V104 : VS_ h104 := by rw [E104]; exact wF_160_62 V (by omega)
  refine ok_xl ?_; intro h105 E105
  have V105 : VS_ h105 := by rw [E105]; exact wF_160_64 V104 (by omega)
  refine ok_xl ?_; intro h106 E106
  have V106 : VS_ h106 := by rw [E106]; exact wF_160_66 V105 (by omega)
  refine ok_xl ?_; intro h107 E107
  have V107 : VS_ h107 := by rw [E107]; exact wF_160_97 V106 (by omega)
  refine ok_add (by omega) ?_; intro v108 e108
  refine ok_xl ?_; intro h109 E109
  have V109 : VS_ h109 := by rw [E109]; exact wF_160_52 V107 (by omega)
  have N : ∀ c k : Nat, ¬ (c = 160 ∧ (k = 62 ∨ k = 64 ∨ k = 66 ∨ k = 97 ∨ k = 52)) → h109 c k = h c k := fun c k n => by rw [E109, up_n (by omega), E107, up_n (by omega), E106, up_n (by omega), E105, up_n (by omega), E104, up_n (by omega)]
  have z52 : h109 160 52 = v108 := by rw [E109, up_s]
  have z97 : h109 160 97 = 0 := by rw [E109, up_n (by decide), E107, up_s]
  have z66 : h109 160 66 = 0 := by rw [E109, up_n (by decide), E107, up_n (by decide), E106, up_s]
  have z64 : h109 160 64 = 0 := by rw [E109, up_n (by decide), E107, up_n (by decide), E106, up_n (by decide), E105, up_s]
  have z62 : h109 160 62 = 0 := by rw [E109, up_n (by decide), E107, up_n (by decide), E106, up_n (by decide), E105, up_n (by decide), E104, up_s]
  have K0 : KP g 0 h109 := by
    refine ⟨⟨fun c c1 c2 => by exfalso; omega, fun c d T x y => by have := x.1; exfalso; omega⟩, fun _ => false, fun _ => false, fun i x => absurd (show false = true from x) (by decide), fun i x => absurd (show false = true from x) (by decide), ?_, ?_⟩
    · rw [z62, cs_non 424 (fun _ _ x => absurd (show false = true from x) (by decide)), cs_non 40 (fun _ _ x => absurd (show false = true from x) (by decide))]; decide
    · rw [z64]
      have : ∀ n : Nat, cs wS (fun _ => false) n = 0 := fun n => by
        induction n with
        | zero => rfl
        | succ n ih => show cs wS (fun _ => false) n + 0 = 0; rw [ih]; rfl
      rw [this]; exact Int.le_refl _
  have A9 : AG g h109 := ag_tr A ⟨fun c k a b => N c k (by omega), N 160 22 (by decide), N 160 24 (by decide), N 160 28 (by decide)⟩
  have C9 : CT g (Cm g 0) h109 := ⟨V109, A9, K0, z66⟩
  have x88 := N 160 88 (by decide)
  have S9 : CLS g l1 0 (h 160 88) 0 h109 := ⟨C9, lb_eq L (by omega) (fun i => ⟨N 219 i (by omega), N 220 i (by omega)⟩), by omega, by rw [cm_z]; omega, by omega⟩
  refine ok_mul (by omega) ?_; intro v111 e111
  refine ok_add (by omega) ?_; intro v112 e112
  refine ok_sv (ct_class hn B.1 C9 (by rw [cm_z]; omega) (by omega)) ?_; intro u114 P114
  have n114 := P114.2.1 160 97 (by decide) (by decide)
  refine ok_sv (ct_tell P114.1 (by omega)) ?_; intro u116 P116
  have S16 := cls_of S9 P116.1 (nq_tr (nq_np P114.2.1) (nq_nt P116.2.1)) (M9 := 1) (by omega)
  have q52 := S16.2.2.1
  have u180 := gA_180 S16.1.1 l1.toNat (by omega)
  have k180 := B.2.2.2.2 l1.toNat (by omega)
  rw [← S16.1.2.1.1 180 _ (by decide) (by decide)] at k180
  have U : Ok_ (qf_X13_upperOf nn (u116 160 52) u116) (fun u => u = u116 180 l1.toNat) := by
    unfold qf_X13_upperOf
    rw [if_pos (show ¬ u116 160 52 = 0 by omega), if_pos (show ¬ u116 160 52 = 1 by omega), if_pos (show 8 ≤ u116 160 52 by omega)]
    refine ok_sub (by omega) ?_; intro v2 e2
    refine ok_rd (by omega) (gA_180 S16.1.1) ?_; intro v3 e3 _ _
    exact ok_ret (by rw [e3, show v2.toNat = l1.toNat by omega])
  refine ok_sv U ?_; intro u119 e119
  refine ok_mul (by omega) ?_; intro v120 e120
  refine ok_add (by omega) ?_; intro v121 e121
  refine ok_sv (ct_class hn B.1 S16.1 (by rw [cm_z]; omega) (by omega)) ?_; intro u123 P123
  have n123 := P123.2.1 160 97 (by decide) (by decide)
  have c97 := S16.2.2.2.2
  refine ok_sv (ct_tell P123.1 (by omega)) ?_; intro u125 P125
  have S25 := cls_of S16 P125.1 (nq_tr (nq_np P123.2.1) (nq_nt P125.2.1)) (M9 := 10) (by omega)
  exact mc_68 hn B h1 (by omega) S25
/-- the images of all classes -/
def QCO (g : ms_M) (L8 : Int) (u : Int × ms_M) : Prop := VS_ u.2 ∧ AG g u.2 ∧ LB u.2 ∧ (L8 ≤ u.2 160 88 ∧ u.2 160 88 ≤ L8 + 48000) ∧ (-1 ≤ u.1 ∧ u.1 ≤ 8)
theorem qco_of {L8 : Int} {r z : ms_M} {v : Int} (V : VS_ r) (A : AG g z) (L : LB z) (b : L8 ≤ z 160 88 ∧ z 160 88 ≤ L8 + 48000) (hv : -1 ≤ v ∧ v ≤ 8) (N : ∀ c k : Nat, c ≠ 221 → c ≠ 222 → ¬ (c = 160 ∧ k = 93) → r c k = z c k) : QCO g L8 (v, r) := by
  have x88 := N 160 88 (by decide) (by decide) (by decide)
  exact ⟨V, ag_tr A ⟨fun c k a b => N c k (by omega) (by omega) (by omega), N 160 22 (by decide) (by decide) (by decide), N 160 24 (by decide) (by decide) (by decide), N 160 28 (by decide) (by decide) (by decide)⟩, lb_eq L (by show z 160 88 ≤ r 160 88; omega) (fun i => ⟨N 219 i (by decide) (by decide) (by omega), N 220 i (by decide) (by decide) (by omega)⟩), by show L8 ≤ r 160 88 ∧ r 160 88 ≤ L8 + 48000; omega, hv⟩
theorem co_169 {Q : Int × ms_M → Prop} {z : ms_M} {qk : Int → ms_M → Option (Int × ms_M)} {l2 : Int} (h2 : 0 ≤ l2 ∧ l2 ≤ 7) (hk : ∀ r : ms_M, VS_ r → (∀ c k : Nat, c ≠ 221 → c ≠ 222 → r c k = z c k) → Ok_ (qk (l2 + 1) r) Q) : ∀ (k : Nat) (l3 : Int) (h : ms_M), VS_ h → (∀ c k : Nat, c ≠ 221 → c ≠ 222 → h c k = z c k) → (0 ≤ l3 ∧ l3 ≤ z 224 l2.toNat) → z 224 l2.toNat - l3 < (k : Int) → Ok_ (qw_X13_compile_169 nn qk k l2 l3 h) Q := by
  intro k
  induction k with
  | zero => intro l3 h V N a hm; exfalso; omega
  | succ k ih =>
    intro l3 h V N a hm
    have g224 := gA_224 V l2.toNat (by omega)
    rw [N 224 _ (by decide) (by decide)] at g224
    unfold qw_X13_compile_169
    refine ok_rd (by omega) (gA_224 V) ?_; intro v2 e2 _ _
    rw [N 224 _ (by decide) (by decide)] at e2
    refine ok_if (fun C => ?_) (fun C => ?_)
    · refine ok_add (by omega) ?_; intro v3 e3
      rw [e3]; exact hk h V N
    · refine ok_mul (by omega) ?_; intro v5 e5
      refine ok_add (by omega) ?_; intro v6 e6
      refine ok_mul (by omega) ?_; intro v8 e8
      refine ok_add (by omega) ?_; intro v9 e9
      refine ok_rd (by omega) (gA_223 V) ?_; intro v10 e10 a10 b10
      refine ok_wA (by omega) ?_; intro h11 E11
      refine ok_add (by omega) ?_; intro v12 e12
      exact ih v12 h11 (by rw [E11]; exact wA_221 V (by omega)) (fun c k n1 n2 => by rw [E11, up_n (by omega)]; exact N c k n1 n2) (by omega) (by omega)
theorem co_147 (hn : 1000000 ≤ nn) {L8 : Int} {z : ms_M} (A : AG g z) (L : LB z) (b : L8 ≤ z 160 88 ∧ z 160 88 ≤ L8 + 48000) (h24 : 0 ≤ z 160 24 ∧ z 160 24 ≤ 8) : ∀ (k : Nat) (l2 : Int) (h : ms_M), VS_ h → (∀ c k : Nat, c ≠ 221 → c ≠ 222 → h c k = z c k) → (0 ≤ l2 ∧ l2 ≤ z 160 24) → z 160 24 - l2 < (k : Int) → Ok_ (qw_X13_compile_147 nn k l2 h) (QCO g L8) := by
  intro k
  induction k with
  | zero => intro l2 h V N a hm; exfalso; omega
  | succ k ih =>
    intro l2 h V N a hm
    have e24 := N 160 24 (by decide) (by decide)
    unfold qw_X13_compile_147
    refine ok_if (fun C => ?_) (fun C => ?_)
    · refine ok_xl ?_; intro h16 E16
      have x24 : h16 160 24 = h 160 24 := by rw [E16, up_n (by decide)]
      exact ok_ret (qco_of (by rw [E16]; exact wF_160_93 V (by omega)) A L b (by omega) (fun c k n1 n2 n3 => by rw [E16, up_n n3]; exact N c k n1 n2))
    · refine ok_rd (by omega) (gA_224 V) ?_; intro v20 e20 a20 b20
      rw [N 224 _ (by decide) (by decide)] at e20
      refine ok_wA (by omega) ?_; intro h21 E21
      exact co_169 (z := z) (by omega) (fun r Vr Nr => ih (l2 + 1) r Vr Nr (by omega) (by omega)) nn 0 h21 (by rw [E21]; exact wA_222 V (by omega)) (fun c k n1 n2 => by rw [E21, up_n (by omega)]; exact N c k n1 n2) (by omega) (by omega)
theorem co_110 (hn : 1000000 ≤ nn) (B : GB g) {L8 : Int} (h8 : 0 ≤ L8 ∧ L8 ≤ 1600000000) : ∀ (k : Nat) (l2 : Int) (h : ms_M), VS_ h → AG g h → LB h → (L8 ≤ h 160 88 ∧ h 160 88 ≤ L8 + 6000 * l2) → (0 ≤ l2 ∧ l2 ≤ g 160 24) → g 160 24 - l2 < (k : Int) → Ok_ (qw_X13_compile_110 nn k l2 h) (QCO g L8) := by
  have p24 := B.1.2.1
  intro k
  induction k with
  | zero => intro l2 h V A L b a hm; exfalso; omega
  | succ k ih =>
    intro l2 h V A L b a hm
    have e24 := A.2.2.1
    have v24 := gF_160_24 V
    have J : Ok_ (qj_X13_compile_136 nn h) (QCO g L8) := by
      unfold qj_X13_compile_136
      exact ok_if (fun _ => co_147 hn A L (by omega) (by omega) nn 0 h V (fun _ _ _ _ => rfl) (by omega) (by omega)) (fun _ => ok_ret ⟨V, A, L, by show L8 ≤ h 160 88 ∧ h 160 88 ≤ L8 + 48000; omega, by show (-1 : Int) ≤ -1 ∧ (-1 : Int) ≤ 8; omega⟩)
    unfold qw_X13_compile_110
    refine ok_if (fun _ => J) (fun C => ?_)
    refine ok_if (fun _ => J) (fun C2 => ?_)
    refine ok_sv (mc_make hn B V A L (by omega) (by omega)) ?_; intro u28 P28
    obtain ⟨p1, p2, p3, p4⟩ := P28
    refine ok_add (by omega) ?_; intro v29 e29
    rw [e29]
    exact ih (l2 + 1) u28 p1 p2 p3 (by omega) (by omega) (by omega)
end
end
section
section
variable {nn : Nat} {h r : ms_M}
theorem pc_c6 {α : Type} {Q : α → Prop} {z : Int} {G : Int → Option α} (k : ∀ v, Pc (G v) Q) : Pc (ck_6 z G) Q := by
  unfold ck_6
  split
  · exact k z
  · exact pc_none
/-- a NAME is at most twelve wide -/
def NW_ (M : ms_M) : Prop := ∀ t : Nat, (t < 3002 ∧ M 163 t = 1) → M 165 t ≤ 12
theorem nw_eq (N : NW_ h) (a : ∀ k, r 163 k = h 163 k) (b : ∀ k, r 165 k = h 165 k) : NW_ r := fun t x => by
  rw [a] at x; rw [b]; exact N t x
theorem nw_token {a1 a2 a3 a4 : Int} (N : NW_ h) (ha : a1 = 1 → a3 ≤ 12) : Pc (qf_X13_token nn a1 a2 a3 a4 h) NW_ := by
  unfold qf_X13_token
  refine pc_wA ?_; intro _ _ h3 E3
  have e3 : h3 160 8 = h 160 8 := by rw [E3, up_n (by omega)]
  refine pc_wA ?_; intro _ _ h6 E6
  have e6 : h6 160 8 = h 160 8 := by rw [E6, up_n (by omega)]; exact e3
  refine pc_wA ?_; intro _ _ h9 E9
  have e9 : h9 160 8 = h 160 8 := by rw [E9, up_n (by omega)]; exact e6
  refine pc_wA ?_; intro _ _ h12 E12
  refine pc_xl ?_; intro v14 _
  refine pc_xl ?_; intro h15 E15
  refine pc_ret (fun t x => ?_)
  rw [e6] at E9
  by_cases q : t = (h 160 8).toNat
  · have a : h15 163 t = a1 := by rw [E15, up_n (by omega), E12, up_n (by omega), E9, up_n (by omega), E6, up_n (by omega), E3, q, up_s]
    have b : h15 165 t = a3 := by rw [E15, up_n (by omega), E12, up_n (by omega), E9, q, up_s]
    rw [a] at x; rw [b]; exact ha x.2
  · have a : h15 163 t = h 163 t := by rw [E15, up_n (by omega), E12, up_n (by omega), E9, up_n (by omega), E6, up_n (by omega), E3, up_n (by omega)]
    have b : h15 165 t = h 165 t := by rw [E15, up_n (by omega), E12, up_n (by omega), E9, up_n (by omega), E6, up_n (by omega), E3, up_n (by omega)]
    rw [a] at x; rw [b]; exact N t x
theorem nw_5 {j : Nat} {z : ms_M} (N : NW_ h) (E : z = up_M h 163 j 5) : NW_ z := fun t x => by
  by_cases q : t = j
  · rw [E, q, up_s] at x; exact absurd x.2 (by decide)
  · rw [E, up_n (by omega)] at x
    rw [E, up_n (by omega)]; exact N t x
theorem nw_400 : ∀ (k : Nat) (l : Int) (h : ms_M), NW_ h → Pc (qw_X13_tokenize_400 nn k l h) NW_ := by
  intro k
  induction k with
  | zero => intros; exact pc_none
  | succ k ih =>
    intro l h N
    unfold qw_X13_tokenize_400
    refine pc_xl ?_; intro v8 _
    refine pc_if (fun _ => pc_ret N) (fun _ => ?_)
    refine pc_wA ?_; intro _ _ h10 E10
    refine pc_xl ?_; intro v11 _
    exact ih v11 h10 (nw_5 N E10)
theorem nw_449 : ∀ (k : Nat) (l : Int) (h : ms_M), NW_ h → Pc (qw_X13_tokenize_449 nn k l h) NW_ := by
  intro k
  induction k with
  | zero => intros; exact pc_none
  | succ k ih =>
    intro l h N
    unfold qw_X13_tokenize_449
    refine pc_xl ?_; intro v8 _
    refine pc_if (fun _ => pc_ret N) (fun _ => ?_)
    refine pc_wA ?_; intro _ _ h10 E10
    refine pc_xl ?_; intro v11 _
    exact ih v11 h10 (nw_5 N E10)
variable {qk : Int → ms_M → Option ms_M}
theorem nw_378 (hk : ∀ l h, NW_ h → Pc (qk l h) NW_) {l1 l3 : Int} (N : NW_ h) : Pc (qj_X13_tokenize_378 nn qk l1 l3 h) NW_ := by
  unfold qj_X13_tokenize_378
  refine pc_xl ?_; intro v15 _
  refine pc_rA ?_; intro _ _ v16 _
  refine pc_if (fun _ => ?_) (fun _ => nw_400 nn _ h N)
  refine pc_xl ?_; intro v17 _
  exact hk v17 h N
theorem nw_169 (hk : ∀ l h, NW_ h → Pc (qk l h) NW_) {l1 l3 l4 s0 : Int} (N : NW_ h) (hs : s0 = 1 → l3 ≤ 12) : Pc (qj_X13_tokenize_169 nn qk l1 l3 l4 s0 h) NW_ := by
  unfold qj_X13_tokenize_169
  refine pc_sv (nw_token N hs) ?_; intro u64 N64
  exact nw_378 hk N64
theorem nw_307 (hk : ∀ l h, NW_ h → Pc (qk l h) NW_) {l1 l3 l4 s0 : Int} (N : NW_ h) (hs : ¬ s0 = 1) : Pc (qj_X13_tokenize_307 nn qk l1 l3 l4 s0 h) NW_ := by
  unfold qj_X13_tokenize_307
  refine pc_xl ?_; intro v30 _
  refine pc_sv (nw_token N (fun x => absurd x hs)) ?_; intro u64 N64
  exact nw_378 hk N64
theorem nw_371 (hk : ∀ l h, NW_ h → Pc (qk l h) NW_) {l1 l3 l4 s0 : Int} (N : NW_ h) (hs : ¬ s0 = 1) : Pc (qj_X13_tokenize_371 nn qk l1 l3 l4 s0 h) NW_ := by
  unfold qj_X13_tokenize_371
  refine pc_sv (nw_token N (fun x => absurd x hs)) ?_; intro u64 N64
  exact nw_378 hk N64
theorem nw_293 (hk : ∀ l h, NW_ h → Pc (qk l h) NW_) {l1 l3 l4 s0 : Int} (N : NW_ h) : Pc (qj_X13_tokenize_293 nn qk l1 l3 l4 s0 h) NW_ := by
  unfold qj_X13_tokenize_293
  exact pc_if (fun _ => nw_307 hk N (by decide)) (fun _ => nw_307 hk N (by decide))
theorem nw_292 (hk : ∀ l h, NW_ h → Pc (qk l h) NW_) {l1 l3 l4 : Int} (N : NW_ h) : Pc (qj_X13_tokenize_292 nn qk l1 l3 l4 h) NW_ := by
  unfold qj_X13_tokenize_292
  exact nw_293 hk N
theorem nw_263 (hk : ∀ l h, NW_ h → Pc (qk l h) NW_) {l1 l3 l4 : Int} (N : NW_ h) : Pc (qj_X13_tokenize_263 nn qk l1 l3 l4 h) NW_ := by
  unfold qj_X13_tokenize_263
  refine pc_xl ?_; intro v34 _
  refine pc_se ?_; intro u36 _
  refine pc_se ?_; intro u37 _
  refine pc_if (fun _ => nw_292 hk N) (fun _ => ?_)
  refine pc_xl ?_; intro v38 _
  refine pc_se ?_; intro u40 _
  exact pc_if (fun _ => nw_292 hk N) (fun _ => nw_293 hk N)
theorem nw_189 (hk : ∀ l h, NW_ h → Pc (qk l h) NW_) (N : NW_ h) : ∀ (k : Nat) (l1 l2 l3 l4 : Int), Pc (qw_X13_tokenize_189 nn qk k l1 l2 l3 l4 h) NW_ := by
  intro k
  induction k with
  | zero => intros; exact pc_none
  | succ k ih =>
    intro l1 l2 l3 l4
    unfold qw_X13_tokenize_189
    refine pc_xl ?_; intro v43 _
    refine pc_se ?_; intro u45 _
    refine pc_se ?_; intro u46 _
    refine pc_if (fun _ => ?_) (fun _ => ?_)
    · refine pc_xl ?_; intro v47 _
      refine pc_if (fun _ => nw_292 hk N) (fun _ => ?_)
      refine pc_if (fun _ => nw_263 hk N) (fun _ => ?_)
      exact pc_if (fun _ => nw_292 hk N) (fun _ => nw_263 hk N)
    · refine pc_xl ?_; intro v51 _
      refine pc_if (fun _ => ?_) (fun _ => ?_)
      · refine pc_c6 ?_; intro v52
        refine pc_xl ?_; intro v53 _
        refine pc_se ?_; intro u55 _
        refine pc_xl ?_; intro v56 _
        refine pc_c6 ?_; intro v57
        refine pc_c6 ?_; intro v58
        refine pc_xl ?_; intro v59 _
        exact ih _ _ _ _
      · refine pc_xl ?_; intro v60 _
        exact ih _ _ _ _
theorem nw_330 (hk : ∀ l h, NW_ h → Pc (qk l h) NW_) (N : NW_ h) : ∀ (k : Nat) (l1 l3 l4 l5 : Int), Pc (qw_X13_tokenize_330 nn qk k l1 l3 l4 l5 h) NW_ := by
  intro k
  induction k with
  | zero => intros; exact pc_none
  | succ k ih =>
    intro l1 l3 l4 l5
    unfold qw_X13_tokenize_330
    refine pc_if (fun _ => ?_) (fun _ => ?_)
    · exact pc_if (fun _ => nw_371 hk N (by decide)) (fun _ => nw_371 hk N (by decide))
    · refine pc_xl ?_; intro v23 _
      refine pc_xl ?_; intro v25 _
      refine pc_rA ?_; intro _ _ v26 _
      refine pc_xl ?_; intro v27 _
      refine pc_xl ?_; intro v28 _
      exact ih _ _ _ _
theorem nw_92 (hk : ∀ l h, NW_ h → Pc (qk l h) NW_) (N : NW_ h) : ∀ (k : Nat) (l1 l3 : Int), Pc (qw_X13_tokenize_92 nn qk k l1 l3 h) NW_ := by
  intro k
  induction k with
  | zero => intros; exact pc_none
  | succ k ih =>
    intro l1 l3
    unfold qw_X13_tokenize_92
    refine pc_xl ?_; intro v65 _
    refine pc_se ?_; intro u67 _
    refine pc_se ?_; intro u68 _
    refine pc_if (fun _ => ?_) (fun _ => ?_)
    · refine pc_xl ?_; intro v69 _
      exact ih _ _
    · refine pc_xl ?_; intro v70 _
      refine pc_se ?_; intro u72 _
      refine pc_se ?_; intro u73 _
      refine pc_if (fun _ => ?_) (fun _ => ?_)
      · refine pc_xl ?_; intro v74 _
        exact ih _ _
      · refine pc_xl ?_; intro v75 _
        refine pc_se ?_; intro u77 _
        refine pc_if (fun _ => ?_) (fun _ => ?_)
        · refine pc_se ?_; intro u79 _
          refine pc_if (fun _ => ?_) (fun _ => nw_169 hk N (fun x => absurd x (by decide)))
          exact pc_if (fun _ => nw_169 hk N (fun x => absurd x (by decide))) (fun C => nw_169 hk N (fun _ => by omega))
        · refine pc_xl ?_; intro v82 _
          exact ih _ _
theorem nw_58 (hk : ∀ l h, NW_ h → Pc (qk l h) NW_) (N : NW_ h) : ∀ (k : Nat) (l1 : Int), Pc (qw_X13_tokenize_58 nn qk k l1 h) NW_ := by
  intro k
  induction k with
  | zero => intros; exact pc_none
  | succ k ih =>
    intro l1
    unfold qw_X13_tokenize_58
    refine pc_if (fun _ => hk _ _ N) (fun _ => ?_)
    refine pc_rA ?_; intro _ _ v94 _
    refine pc_if (fun _ => hk _ _ N) (fun _ => ?_)
    refine pc_xl ?_; intro v95 _
    exact ih _
theorem nw_83 (hk : ∀ l h, NW_ h → Pc (qk l h) NW_) {l1 l2 : Int} (N : NW_ h) : Pc (qj_X13_tokenize_83 nn qk l1 l2 h) NW_ := by
  unfold qj_X13_tokenize_83
  refine pc_se ?_; intro u86 _
  refine pc_if (fun _ => ?_) (fun _ => nw_92 hk N nn _ _)
  refine pc_se ?_; intro u87 _
  refine pc_if (fun _ => ?_) (fun _ => nw_189 hk N nn _ _ _ _)
  refine pc_se ?_; intro u89 _
  exact nw_330 hk N nn _ _ _ _
theorem nw_7 : ∀ (k : Nat) (l1 : Int) (h : ms_M), NW_ h → Pc (qw_X13_tokenize_7 nn k l1 h) NW_ := by
  intro k
  induction k with
  | zero => intros; exact pc_none
  | succ k ih =>
    intro l1 h N
    unfold qw_X13_tokenize_7
    refine pc_if (fun _ => ?_) (fun _ => ?_)
    · refine pc_sv (nw_token N (fun x => absurd x (by decide))) ?_; intro u101 N1
      exact nw_449 nn _ _ N1
    · refine pc_rA ?_; intro _ _ v104 _
      refine pc_if (fun _ => ?_) (fun _ => ?_)
      · refine pc_xl ?_; intro v105 _
        exact ih _ _ N
      · refine pc_if (fun _ => ?_) (fun _ => ?_)
        · refine pc_if (fun _ => nw_83 ih N) (fun _ => ?_)
          refine pc_xl ?_; intro v106 _
          refine pc_se ?_; intro u108 _
          exact pc_if (fun _ => nw_83 ih N) (fun _ => nw_58 ih N nn _)
        · refine pc_xl ?_; intro v111 _
          exact ih _ _ N
theorem nw_tokenize (N : NW_ h) : Pc (qf_X13_tokenize nn h) NW_ := by
  unfold qf_X13_tokenize
  refine pc_xl ?_; intro h115 E
  exact nw_7 nn 0 h115 (nw_eq N (fun k => by rw [E, up_n (by omega)]) (fun k => by rw [E, up_n (by omega)]))
end
section
variable {nn : Nat} {h r z : ms_M}
/-- the names of classes and members are NAMEs -/
def NK (h : ms_M) : Prop := (∀ c : Nat, (c : Int) < h 160 24 → h 163 (h 178 c).toNat = 1) ∧ (∀ m : Nat, (m : Int) < h 160 28 → h 163 (h 186 m).toNat = 1)
theorem nk_eq (N : NK h) (e24 : r 160 24 = h 160 24) (e28 : r 160 28 = h 160 28) (A : ∀ k, r 163 k = h 163 k ∧ r 178 k = h 178 k ∧ r 186 k = h 186 k) : NK r := by
  refine ⟨fun c hc => ?_, fun m hm => ?_⟩
  · rw [(A _).1, (A c).2.1]; exact N.1 c (by omega)
  · rw [(A _).1, (A m).2.2]; exact N.2 m (by omega)
theorem nk_F {L : List Nat} {LF : List (Nat × Nat)} (N : NK h) (F : ∀ c k, nw_F L LF false false c k = true → r c k = h c k) (h0 : ∀ k, nw_F L LF false false 163 k = true ∧ nw_F L LF false false 178 k = true ∧ nw_F L LF false false 186 k = true) (h2 : nw_F L LF false false 160 24 = true) (h3 : nw_F L LF false false 160 28 = true) : NK r := nk_eq N (F _ _ h2) (F _ _ h3) (fun k => ⟨F _ _ (h0 k).1, F _ _ (h0 k).2.1, F _ _ (h0 k).2.2⟩)
theorem nk_up {c k : Nat} {v : Int} (N : NK h) (E : z = up_M h c k v) (hc : c ≠ 163 ∧ c ≠ 178 ∧ c ≠ 186 ∧ ¬ (c = 160 ∧ (k = 24 ∨ k = 28))) : NK z := nk_eq N (by rw [E, up_n (by omega)]) (by rw [E, up_n (by omega)]) (fun x => by rw [E, up_n (by omega), up_n (by omega), up_n (by omega)]; exact ⟨rfl, rfl, rfl⟩)
theorem nk_word {v : Int} (N : NK h) (e : qf_X13_word nn v h = some r) : NK r := nk_F N (fun c k w => (ff_X13_word nn) _ e c k w) (fun k => ⟨nw_ar rfl k, nw_ar rfl k, nw_ar rfl k⟩) rfl rfl
theorem nk_sign {v : Int} (N : NK h) (e : qf_X13_sign_ nn v h = some r) : NK r := nk_F N (fun c k w => (ff_X13_sign_ nn) _ e c k w) (fun k => ⟨nw_ar rfl k, nw_ar rfl k, nw_ar rfl k⟩) rfl rfl
theorem nk_type (N : NK h) (e : qf_X13_type nn h = some r) : NK r := nk_F N (fun c k w => (ff_X13_type nn) _ e c k w) (fun k => ⟨nw_ar rfl k, nw_ar rfl k, nw_ar rfl k⟩) rfl rfl
theorem nk_name {u : Int × ms_M} (N : NK h) (e : qf_X13_name nn h = some u) : NK u.2 := nk_F N (fun c k w => (ff_X13_name nn) _ e c k w) (fun k => ⟨nw_ar rfl k, nw_ar rfl k, nw_ar rfl k⟩) rfl rfl
theorem nk_block {d : Int} {u : Int × ms_M} (N : NK h) (e : qf_X13_block nn d h = some u) : NK u.2 := nk_F N (fun c k w => (ff_X13_block nn) _ e c k w) (fun k => ⟨nw_ar rfl k, nw_ar rfl k, nw_ar rfl k⟩) rfl rfl
theorem pk_name : Pc (qf_X13_name nn h) (fun u => u.2 160 9 = 0 → u.2 163 u.1.toNat = 1) := by
  unfold qf_X13_name
  refine pc_if (fun C => ?_) (fun C => pc_ret (fun y => absurd y C))
  refine pc_rA ?_; intro p1 p2 v4 e4
  refine pc_if (fun C4 => ?_) (fun _ => ?_)
  · refine pc_add (by omega) ?_; intro v6 e6
    refine pc_xl ?_; intro h7 E7
    have q7 : h7 160 23 = v6 := by rw [E7]; exact up_s
    refine pc_sub (by omega) ?_; intro v9 e9
    refine pc_ret (fun _ => ?_)
    show h7 163 v9.toNat = 1
    rw [E7, up_n (by omega), show v9.toNat = (h 160 23).toNat by omega, ← e4]; exact C4
  · refine pc_sv pc_misplaced ?_; intro u11 P
    exact pc_ret (fun y => absurd y P.2)
variable {l : Int}
theorem nm_360 (N : NK h) : Pc (qj_X13_member_360 nn l h) NK := by
  unfold qj_X13_member_360
  refine pc_se ?_; intro u2 e2
  refine pc_se ?_; intro u5 e5
  refine pc_wA ?_; intro _ _ h6 E6
  exact pc_ret (nk_up (nk_block (nk_sign N e2) e5) E6 (by omega))
theorem nm_269 {qk : Int → ms_M → Option ms_M} (ih : ∀ g : ms_M, NK g → Pc (qk l g) NK) (N : NK h) : Pc (qj_X13_member_269 nn qk l h) NK := by
  unfold qj_X13_member_269
  refine pc_se ?_; intro u8 e8
  refine pc_se ?_; intro u10 e10
  have N10 := nk_name (nk_type N e8) e10
  refine pc_if (fun _ => ?_) (fun _ => pc_ret N10)
  refine pc_wA ?_; intro _ _ h15 E15
  have N15 := nk_up N10 E15 (by omega)
  refine pc_wA ?_; intro _ _ h19 E19
  have N19 := nk_up N15 E19 (by omega)
  refine pc_wZ ?_; intro _ _ h23 E23
  have N23 := nk_up N19 E23 (by omega)
  refine pc_wA ?_; intro _ _ h26 E26
  have N26 := nk_up N23 E26 (by omega)
  refine pc_xl ?_; intro v28 _
  refine pc_xl ?_; intro h29 E29
  have N29 := nk_up N26 E29 (by omega)
  refine pc_rA ?_; intro _ _ v31 _
  refine pc_xl ?_; intro v32 _
  refine pc_wA ?_; intro _ _ h33 E33
  exact ih h33 (nk_up N29 E33 (by omega))
theorem nm_234 : ∀ (k : Nat) (h : ms_M), NK h → Pc (qw_X13_member_234 nn k l h) NK := by
  intro k
  induction k with
  | zero => intros; exact pc_none
  | succ k ih =>
    intro h N
    unfold qw_X13_member_234
    refine pc_if (fun _ => nm_360 N) (fun _ => ?_)
    refine pc_se ?_; intro u38 _
    refine pc_if (fun _ => nm_360 N) (fun _ => ?_)
    refine pc_rA ?_; intro _ _ v40 _
    refine pc_if (fun _ => nm_269 ih N) (fun _ => ?_)
    refine pc_se ?_; intro u42 e42
    exact nm_269 ih (nk_sign N e42)
theorem nm_170 {l1 l2 s0 : Int} (N : NK h) (hn : h 160 9 = 0 → h 163 (h 186 (h 160 28).toNat).toNat = 1) (h28 : 0 ≤ h 160 28 ∧ h 160 28 ≤ 799) : Pc (qj_X13_member_170 nn l1 l2 (h 160 28) s0 (h 160 28) h) NK := by
  unfold qj_X13_member_170
  refine pc_wA ?_; intro _ _ h46 E46
  have N46 := nk_up N E46 (by omega)
  have f : ∀ c k : Nat, c ≠ 182 → h46 c k = h c k := fun c k w => by rw [E46, up_n (by omega)]
  refine pc_if (fun C => ?_) (fun _ => pc_ret N46)
  rw [f 160 9 (by decide)] at C
  have q28 := f 160 28 (by decide)
  refine pc_add (by omega) ?_; intro v49 e49
  refine pc_xl ?_; intro h50 E50
  have g : ∀ c k : Nat, ¬ (c = 160 ∧ k = 28) → h50 c k = h46 c k := fun c k w => by rw [E50, up_n w]
  have q50 : h50 160 28 = v49 := by rw [E50, up_s]
  have N50 : NK h50 := by
    refine ⟨fun c hc => ?_, fun m hm => ?_⟩
    · rw [g 160 24 (by decide)] at hc
      rw [g 163 _ (by omega), g 178 _ (by omega)]; exact N46.1 c hc
    · rw [g 163 _ (by omega), g 186 _ (by omega)]
      by_cases q : (m : Int) < h46 160 28
      · exact N46.2 m q
      · rw [f 163 _ (by decide), f 186 _ (by decide), show m = (h 160 28).toNat by omega]; exact hn C
  refine pc_if (fun _ => ?_) (fun _ => ?_)
  · refine pc_se ?_; intro u52 e52
    exact nm_234 nn u52 (nk_sign N50 e52)
  · refine pc_if (fun _ => ?_) (fun _ => ?_)
    · refine pc_se ?_; intro u54 e54
      exact nm_234 nn u54 (nk_sign N50 e54)
    · refine pc_se ?_; intro u57 _
      refine pc_if (fun _ => ?_) (fun _ => ?_)
      · refine pc_se ?_; intro u59 e59
        exact nm_234 nn u59 (nk_sign N50 e59)
      · refine pc_xl ?_; intro v61 _
        refine pc_xl ?_; intro h62 E62
        refine pc_wA ?_; intro _ _ h64 E64
        exact pc_ret (nk_up (nk_up N50 E62 (by omega)) E64 (by omega))
theorem nm_75 {l1 l2 : Int} (N : NK h) : Pc (qj_X13_member_75 nn l1 l2 h) NK := by
  unfold qj_X13_member_75
  refine pc_wA ?_; intro p1 p2 h72 E72
  have N72 := nk_up N E72 (by omega)
  refine pc_wA ?_; intro _ _ h75 E75
  have N75 := nk_up N72 E75 (by omega)
  refine pc_wZ ?_; intro _ _ h78 E78
  have N78 := nk_up N75 E78 (by omega)
  have q78 : h78 160 28 = h 160 28 := by rw [E78, up_n (by omega), E75, up_n (by omega), E72, up_n (by omega)]
  refine pc_se ?_; intro u81 e81
  have N81 := nk_name N78 e81
  have k81 := pk_name u81 e81
  have q81 : u81.2 160 28 = h 160 28 := ((ff_X13_name nn) _ e81 160 28 rfl).trans q78
  refine pc_wA ?_; intro _ _ h82 E82
  have f82 : ∀ c k : Nat, ¬ (c = 186 ∧ k = (h 160 28).toNat) → h82 c k = u81.2 c k := fun c k w => by rw [E82, up_n w]
  have N82 : NK h82 := by
    refine ⟨fun c hc => ?_, fun m hm => ?_⟩
    · rw [f82 160 24 (by omega)] at hc
      rw [f82 163 _ (by omega), f82 178 _ (by omega)]; exact N81.1 c hc
    · rw [f82 160 28 (by omega)] at hm
      rw [f82 163 _ (by omega), f82 186 m (by omega)]; exact N81.2 m hm
  have s82 : h82 186 (h 160 28).toNat = u81.1 := by rw [E82, up_s]
  refine pc_xl ?_; intro v85 _
  refine pc_wA ?_; intro _ _ h86 E86
  have N86 := nk_up N82 E86 (by omega)
  refine pc_wA ?_; intro _ _ h89 E89
  have N89 := nk_up N86 E89 (by omega)
  refine pc_wA ?_; intro _ _ h91 E91
  have N91 := nk_up N89 E91 (by omega)
  refine pc_wA ?_; intro _ _ h93 E93
  have N93 := nk_up N91 E93 (by omega)
  have f93 : ∀ c k : Nat, c ≠ 181 → c ≠ 188 → c ≠ 189 → c ≠ 190 → h93 c k = h82 c k := fun c k a b d e => by rw [E93, up_n (by omega), E91, up_n (by omega), E89, up_n (by omega), E86, up_n (by omega)]
  have q93 : h93 160 28 = h 160 28 := by rw [f93 160 28 (by decide) (by decide) (by decide) (by decide), f82 160 28 (by omega)]; exact q81
  have H : h93 160 9 = 0 → h93 163 (h93 186 (h93 160 28).toNat).toNat = 1 := fun y => by
    rw [f93 160 9 (by decide) (by decide) (by decide) (by decide), f82 160 9 (by omega)] at y
    rw [q93, f93 186 _ (by decide) (by decide) (by decide) (by decide), s82, f93 163 _ (by decide) (by decide) (by decide) (by decide), f82 163 _ (by omega)]
    exact k81 y
  have e : h 160 28 = h93 160 28 := q93.symm
  refine pc_if (fun _ => ?_) (fun _ => ?_)
  · rw [e]; exact nm_170 N93 H (by omega)
  · rw [e]; exact nm_170 N93 H (by omega)
theorem nm_25 {l1 : Int} (N : NK h) : Pc (qj_X13_member_25 nn l1 h) NK := by
  unfold qj_X13_member_25
  refine pc_se ?_; intro u98 _
  refine pc_if (fun _ => ?_) (fun _ => ?_)
  · refine pc_se ?_; intro u100 e100
    exact nm_75 (nk_type N e100)
  · refine pc_xl ?_; intro h101 E101
    refine pc_xl ?_; intro h102 E102
    refine pc_xl ?_; intro h104 E104
    refine pc_xl ?_; intro v106 _
    refine pc_xl ?_; intro h107 E107
    exact nm_75 (nk_up (nk_up (nk_up (nk_up N E101 (by omega)) E102 (by omega)) E104 (by omega)) E107 (by omega))
theorem nm_member (N : NK h) : Pc (qf_X13_member nn h) NK := by
  unfold qf_X13_member
  refine pc_se ?_; intro u111 _
  refine pc_if (fun _ => nm_25 N) (fun _ => ?_)
  refine pc_xl ?_; intro v113 _
  refine pc_xl ?_; intro h114 E114
  exact nm_25 (nk_up N E114 (by omega))
theorem np_143 {qk : ms_M → Option ms_M} (ih : ∀ g : ms_M, NK g → Pc (qk g) NK) (N : NK h) : Pc (qj_X13_program_143 nn qk h) NK := by
  unfold qj_X13_program_143
  refine pc_se ?_; intro u2 e2
  have N2 := nk_sign N e2
  refine pc_if (fun _ => pc_ret N2) (fun _ => ?_)
  refine pc_rA ?_; intro _ _ v6 _
  exact pc_if (fun _ => ih u2 N2) (fun _ => pc_ret N2)
theorem np_116 {qk : ms_M → Option ms_M} (ih : ∀ g : ms_M, NK g → Pc (qk g) NK) : ∀ (k : Nat) (h : ms_M), NK h → Pc (qw_X13_program_116 nn qk k h) NK := by
  intro k
  induction k with
  | zero => intros; exact pc_none
  | succ k ih2 =>
    intro h N
    unfold qw_X13_program_116
    refine pc_if (fun _ => np_143 ih N) (fun _ => ?_)
    refine pc_se ?_; intro u12 _
    refine pc_if (fun _ => np_143 ih N) (fun _ => ?_)
    refine pc_sv (nm_member N) ?_; intro u14 N14
    exact ih2 u14 N14
theorem np_72 {qk : ms_M → Option ms_M} (ih : ∀ g : ms_M, NK g → Pc (qk g) NK) {l1 l2 : Int} (N : NK h) (hl : h 160 9 = 0 → h 163 l1.toNat = 1) : Pc (qj_X13_program_72 nn qk l1 l2 h) NK := by
  unfold qj_X13_program_72
  refine pc_if (fun C => ?_) (fun _ => pc_ret N)
  refine pc_wA ?_; intro p1 p2 h20 E20
  have f20 : ∀ c k : Nat, ¬ (c = 178 ∧ k = (h 160 24).toNat) → h20 c k = h c k := fun c k w => by rw [E20, up_n w]
  refine pc_wA ?_; intro _ _ h23 E23
  have f23 : ∀ c k : Nat, c ≠ 179 → h23 c k = h20 c k := fun c k w => by rw [E23, up_n (by omega)]
  have q24 : h23 160 24 = h 160 24 := by rw [f23 160 24 (by decide), f20 160 24 (by omega)]
  refine pc_add (by omega) ?_; intro v25 e25
  refine pc_xl ?_; intro h26 E26
  have f26 : ∀ c k : Nat, ¬ (c = 160 ∧ k = 24) → h26 c k = h23 c k := fun c k w => by rw [E26, up_n w]
  have q26 : h26 160 24 = v25 := by rw [E26, up_s]
  have N26 : NK h26 := by
    refine ⟨fun c hc => ?_, fun m hm => ?_⟩
    · rw [f26 163 _ (by omega), f23 163 _ (by decide), f20 163 _ (by omega), f26 178 _ (by omega), f23 178 _ (by decide)]
      by_cases q : (c : Int) < h 160 24
      · rw [f20 178 c (by omega)]; exact N.1 c q
      · rw [show c = (h 160 24).toNat by omega, E20, up_s]; exact hl C
    · rw [f26 160 28 (by omega), f23 160 28 (by decide), f20 160 28 (by omega)] at hm
      rw [f26 163 _ (by omega), f23 163 _ (by decide), f20 163 _ (by omega), f26 186 _ (by omega), f23 186 _ (by decide), f20 186 _ (by omega)]
      exact N.2 m hm
  refine pc_se ?_; intro u28 e28
  exact np_116 ih nn u28 (nk_sign N26 e28)
theorem np_25 : ∀ (k : Nat) (h : ms_M), NK h → Pc (qw_X13_program_25 nn k h) NK := by
  intro k
  induction k with
  | zero => intros; exact pc_none
  | succ k ih =>
    intro h N
    unfold qw_X13_program_25
    refine pc_se ?_; intro u31 e31
    refine pc_se ?_; intro u33 e33
    have N33 := nk_name (nk_word N e31) e33
    have k33 := pk_name u33 e33
    refine pc_if (fun _ => np_72 ih N33 k33) (fun C => ?_)
    have C : u33.2 160 9 = 0 := Decidable.not_not.1 C
    refine pc_se ?_; intro u37 _
    refine pc_if (fun _ => np_72 ih N33 k33) (fun _ => ?_)
    refine pc_xl ?_; intro v39 _
    refine pc_xl ?_; intro h40 E40
    have N40 := nk_up N33 E40 (by omega)
    refine pc_se ?_; intro u42 e42
    refine np_72 ih (nk_name N40 e42) (fun _ => ?_)
    rw [show u42.2 163 u33.1.toNat = h40 163 u33.1.toNat from (ff_X13_name nn) _ e42 163 _ (nw_ar rfl _), E40, up_n (by omega)]; exact k33 C
theorem np_program : Pc (qf_X13_program nn h) NK := by
  unfold qf_X13_program
  refine pc_xl ?_; intro h45 E45
  refine pc_xl ?_; intro h46 E46
  refine pc_xl ?_; intro h47 E47
  refine pc_xl ?_; intro h48 E48
  refine pc_xl ?_; intro h49 E49
  have a : h49 160 24 = 0 := by rw [E49, up_n (by decide), E48, up_n (by decide), E47, up_n (by decide), E46, up_n (by decide), E45, up_s]
  have b : h49 160 28 = 0 := by rw [E49, up_n (by decide), E48, up_n (by decide), E47, up_n (by decide), E46, up_s]
  exact np_25 nn h49 ⟨fun c hc => by exfalso; omega, fun m hm => by exfalso; omega⟩
end
end
section
section
variable {nn : Nat} {h r : ms_M}
/-- behind a FAULT overrides are not seen -/
theorem dead_220 (hn : 1000000 ≤ nn) (z : ¬ h 160 9 = 0) {l : Int} : Pc (qw_X13_heads_220 nn nn l h) (fun r => r = h) := by
  obtain ⟨k, hk⟩ : ∃ k, nn = k + 1 := ⟨nn - 1, by omega⟩
  have : Pc (qw_X13_heads_220 nn (k + 1) l h) (fun r => r = h) := by
    unfold qw_X13_heads_220
    exact pc_if (fun _ => pc_ret rfl) (fun _ => pc_if (fun _ => pc_ret rfl) (fun C => absurd (Decidable.not_not.1 C) z))
  rw [← hk] at this
  exact this
def U8 (h r : ms_M) : Prop := (∀ k : Nat, r 180 k = h 180 k) ∧ r 160 24 = h 160 24
theorem u8_rf : U8 h h := ⟨fun _ => rfl, rfl⟩
theorem u8_tr {z : ms_M} (a : U8 h z) (b : U8 z r) : U8 h r := ⟨fun k => (b.1 k).trans (a.1 k), b.2.trans a.2⟩
theorem u8_wrong {a b : Int} (e : qf_X13_wrong nn a b h = some r) : U8 h r := ⟨fun k => (ff_X13_wrong nn) _ e 180 k (nw_ar rfl k), (ff_X13_wrong nn) _ e 160 24 rfl⟩
theorem u8_220 : ∀ (k : Nat) (l : Int) (h : ms_M), Pc (qw_X13_heads_220 nn k l h) (U8 h) := by
  intro k
  induction k with
  | zero => intros; exact pc_none
  | succ k ih =>
    intro l h
    unfold qw_X13_heads_220
    refine pc_if (fun _ => pc_ret u8_rf) (fun _ => ?_)
    refine pc_if (fun _ => pc_ret u8_rf) (fun _ => ?_)
    refine pc_rA ?_; intro _ _ v4 _
    refine pc_if (fun _ => ?_) (fun _ => ?_)
    · refine pc_xl ?_; intro v5 _
      exact ih _ _
    · refine pc_se ?_; intro u7 e7
      refine pc_xl ?_; intro v8 _
      exact pc_imp (ih v8 u7) (fun r q => u8_tr ⟨fun k => (ff_X13_overrides nn) _ e7 180 k (nw_ar rfl k), (ff_X13_overrides nn) _ e7 160 24 rfl⟩ q)
theorem u8_192 : ∀ (k : Nat) (l : Int) (h : ms_M), Pc (qw_X13_heads_192 nn k l h) (U8 h) := by
  intro k
  induction k with
  | zero => intros; exact pc_none
  | succ k ih =>
    intro l h
    unfold qw_X13_heads_192
    refine pc_if (fun _ => u8_220 nn 0 h) (fun _ => ?_)
    refine pc_if (fun _ => u8_220 nn 0 h) (fun _ => ?_)
    refine pc_se ?_; intro u15 e15
    refine pc_xl ?_; intro v16 _
    exact pc_imp (ih v16 u15) (fun r q => u8_tr ⟨fun k => (ff_X13_memberHead nn) _ e15 180 k (nw_ar rfl k), (ff_X13_memberHead nn) _ e15 160 24 rfl⟩ q)
variable {qk : Int → ms_M → Option ms_M}
theorem u8_167 (hk : ∀ l h, Pc (qk l h) (U8 h)) {l1 l2 : Int} : Pc (qj_X13_heads_167 nn qk l1 l2 h) (U8 h) := by
  unfold qj_X13_heads_167
  refine pc_if (fun _ => ?_) (fun _ => ?_)
  · refine pc_xl ?_; intro v19 _
    exact hk _ _
  · refine pc_rA ?_; intro _ _ v21 _
    refine pc_se ?_; intro u23 e23
    refine pc_xl ?_; intro v24 _
    exact pc_imp (hk v24 u23) (fun r q => u8_tr (u8_wrong e23) q)
theorem u8_139 (hk : ∀ l h, Pc (qk l h) (U8 h)) : ∀ (k : Nat) (l1 l2 l3 : Int), Pc (qw_X13_heads_139 nn qk k l1 l2 l3 h) (U8 h) := by
  intro k
  induction k with
  | zero => intros; exact pc_none
  | succ k ih =>
    intro l1 l2 l3
    unfold qw_X13_heads_139
    refine pc_xl ?_; intro v27 _
    refine pc_if (fun _ => u8_167 hk) (fun _ => ?_)
    refine pc_if (fun _ => u8_167 hk) (fun _ => ?_)
    refine pc_se ?_; intro u29 _
    refine pc_xl ?_; intro v30 _
    exact ih _ _ _
theorem u8_132 (hk : ∀ l h, Pc (qk l h) (U8 h)) {l1 : Int} : Pc (qj_X13_heads_132 nn qk l1 h) (U8 h) := by
  unfold qj_X13_heads_132
  refine pc_xl ?_; intro v33 _
  exact u8_139 hk nn _ _ _
theorem u8_111 (hk : ∀ l h, Pc (qk l h) (U8 h)) {l1 : Int} : Pc (qj_X13_heads_111 nn qk l1 h) (U8 h) := by
  unfold qj_X13_heads_111
  refine pc_rA ?_; intro _ _ v35 _
  refine pc_if (fun _ => u8_132 hk) (fun _ => ?_)
  refine pc_rA ?_; intro _ _ v37 _
  refine pc_se ?_; intro u39 e39
  exact pc_imp (u8_132 hk) (fun r q => u8_tr (u8_wrong e39) q)
theorem u8_83 (hk : ∀ l h, Pc (qk l h) (U8 h)) {l1 : Int} : Pc (qj_X13_heads_83 nn qk l1 h) (U8 h) := by
  unfold qj_X13_heads_83
  refine pc_rA ?_; intro _ _ v42 _
  refine pc_se ?_; intro u44 _
  refine pc_xl ?_; intro v45 _
  refine pc_if (fun _ => u8_111 hk) (fun _ => ?_)
  refine pc_rA ?_; intro _ _ v47 _
  refine pc_se ?_; intro u49 e49
  exact pc_imp (u8_111 hk) (fun r q => u8_tr (u8_wrong e49) q)
theorem u8_50 : ∀ (k : Nat) (l : Int) (h : ms_M), Pc (qw_X13_heads_50 nn k l h) (U8 h) := by
  intro k
  induction k with
  | zero => intros; exact pc_none
  | succ k ih =>
    intro l h
    unfold qw_X13_heads_50
    refine pc_if (fun _ => u8_192 nn 0 h) (fun _ => ?_)
    refine pc_if (fun _ => u8_192 nn 0 h) (fun _ => ?_)
    refine pc_if (fun _ => u8_83 ih) (fun _ => ?_)
    refine pc_rA ?_; intro _ _ v54 _
    refine pc_se ?_; intro u56 e56
    exact pc_imp (u8_83 ih) (fun r q => u8_tr (u8_wrong e56) q)
/-- the class above a class is a class -/
def UC (h : ms_M) : Prop := ∀ c : Nat, (c : Int) < h 160 24 → h 180 c < 8 + h 160 24
theorem uc_2 (hn : 1000000 ≤ nn) : ∀ (k : Nat) (l1 : Int) (h : ms_M), VS_ h → HW_ h → 0 ≤ l1 → (∀ c : Nat, (c : Int) < l1 → (c : Int) < h 160 24 → h 180 c < 8 + h 160 24) → Pc (qw_X13_heads_2 nn k l1 h) UC := by
  intro k
  induction k with
  | zero => intros; exact pc_none
  | succ k ih =>
    intro l1 h V W a U
    have g24 := gF_160_24 V
    unfold qw_X13_heads_2
    refine pc_if (fun C => ?_) (fun C => ?_)
    · refine pc_imp (u8_50 nn 0 h) (fun r q => fun c hc => ?_)
      rw [q.2] at hc ⊢
      rw [q.1]; exact U c (by omega) hc
    · have J : ∀ v : Int, (-1 ≤ v ∧ v ≤ 407) → v < 8 + h 160 24 → Pc (qj_X13_heads_34 nn (qw_X13_heads_2 nn k) l1 v h) UC := fun v r1 r2 => by
        unfold qj_X13_heads_34
        refine pc_wA ?_; intro _ _ h61 E61
        refine pc_add (by omega) ?_; intro v62 e62
        have q24 : h61 160 24 = h 160 24 := by rw [E61, up_n (by omega)]
        refine ih v62 h61 (by rw [E61]; exact wA_180 V (by omega)) (by rw [E61]; exact hw_up V W rfl) (by omega) (fun c h1 h2 => ?_)
        rw [q24] at h2 ⊢
        by_cases y : c = l1.toNat
        · rw [E61, y, up_s]; exact r2
        · rw [E61, up_n (by omega)]; exact U c (by omega) h2
      refine pc_rA ?_; intro p1 p2 v65 _
      refine pc_if (fun C1 => ?_) (fun _ => J 0 (by omega) (by omega))
      refine pc_rA ?_; intro _ _ v67 e67
      have g179 := gA_179 V l1.toNat (by omega)
      refine pc_sv (pc_ok (cl_ok hn V W (by omega))) ?_; intro u69 P
      exact J u69 (by omega) P.2.2
theorem uc_heads (hn : 1000000 ≤ nn) (V : VS_ h) (W : HW_ h) : Pc (qf_X13_heads nn h) UC := by
  unfold qf_X13_heads
  exact uc_2 hn nn 0 h V W (by omega) (fun c h1 => by exfalso; omega)
/-- members of one kind of one class before m -/
def sm (h : ms_M) (m : Nat) : Nat → Bool := fun i => decide (h 181 i = h 181 m ∧ (h 182 i ≤ 0 ↔ h 182 m ≤ 0))
def gc (h : ms_M) (m : Nat) : Int := cs w1 (sm h m) m
theorem pd_157 (hn : 1000000 ≤ nn) {l1 : Int} (r1 : 0 ≤ l1 ∧ l1 ≤ 799) : ∀ (k : Nat) (l4 : Int) (h : ms_M), VS_ h → HW_ h → ¬ h 160 9 = 0 → (0 ≤ l4 ∧ l4 ≤ 2000) → Pc (qw_X13_memberHead_157 nn k l1 l4 h) (fun r => ¬ r 160 9 = 0) := by
  intro k
  induction k with
  | zero => intros; exact pc_none
  | succ k ih =>
    intro l4 h V W z r4
    have g189 := gA_189 V l1.toNat (by omega)
    unfold qw_X13_memberHead_157
    refine pc_rA ?_; intro _ _ v19 e19
    refine pc_if (fun _ => pc_ret z) (fun C => ?_)
    refine pc_rA ?_; intro _ _ v21 e21
    refine pc_xl ?_; intro v22 _
    refine pc_rA ?_; intro p1 p2 v25 e25
    have k1 := gA_191 V v22.toNat (by omega)
    refine pc_rA ?_; intro _ _ v27 e27
    have k2 := gA_192 V v22.toNat (by omega)
    refine pc_rA ?_; intro _ _ v29 e29
    have k3 := gA_193 V v22.toNat (by omega)
    refine pc_sv (pt_typeOf hn V W (by omega) (by omega) (by omega)) ?_; intro u31 P
    obtain ⟨q1, q2, q3⟩ := P
    refine pc_wA ?_; intro _ _ h32 E32
    have V32 : VS_ h32 := by rw [E32]; exact wA_195 q3.1 (by omega)
    have W32 : HW_ h32 := by rw [E32]; exact hw_up q3.1 (wr_hw q3 W) rfl
    have z32 : ¬ h32 160 9 = 0 := fun y => by rw [E32, up_n (by omega)] at y; exact z (q3.2.2.2 y)
    have J : ∀ g : ms_M, Wr h32 g → Pc (qj_X13_memberHead_231 nn (qw_X13_memberHead_157 nn k) l1 l4 v22 g) (fun r => ¬ r 160 9 = 0) := fun g X => by
      unfold qj_X13_memberHead_231
      refine pc_rA ?_; intro _ _ v17 _
      exact pm_239 hn (by omega) (fun r Xr => ih (l4 + 1) r Xr.1 (wr_hw Xr W32) (fun y => z32 (Xr.2.2.2 y)) (by omega)) nn _ g X
    refine pc_if (fun _ => J h32 (wr_rf V32)) (fun _ => ?_)
    refine pc_rA ?_; intro _ _ v34 e34
    have k4 := gA_194 V32 v22.toNat (by omega)
    refine pc_sv (pw_wrong hn V32 (by omega) (by omega)) ?_; intro u36 P36
    exact J u36 P36.1
theorem pd_139 (hn : 1000000 ≤ nn) {l1 l3 : Int} (r1 : 0 ≤ l1 ∧ l1 ≤ 799) (V : VS_ h) (W : HW_ h) (z : ¬ h 160 9 = 0) : Pc (qj_X13_memberHead_139 nn l1 l3 h) (fun r => ¬ r 160 9 = 0) := by
  unfold qj_X13_memberHead_139
  refine pc_if (fun _ => pd_157 hn r1 nn 0 h V W z (by omega)) (fun _ => ?_)
  refine pc_rA ?_; intro _ _ v40 e40
  have g := gA_186 V l1.toNat (by omega)
  refine pc_sv (pw_wrong hn V (by omega) (by omega)) ?_; intro u42 P
  exact pd_157 hn r1 nn 0 u42 P.1.1 (wr_hw P.1 W) P.2 (by omega)
theorem pg_35 (hn : 1000000 ≤ nn) {l1 : Int} (r1 : 0 ≤ l1 ∧ l1 ≤ 799) (V : VS_ h) (W : HW_ h) : ∀ (k : Nat) (l2 l3 l4 : Int), (0 ≤ l4 ∧ l4 ≤ l1) → l2 = cs w1 (sm h l1.toNat) l4.toNat → Pc (qw_X13_memberHead_35 nn k l1 l2 l3 l4 h) (fun r => r 160 9 = 0 → ¬ gc h l1.toNat = 12) := by
  intro k
  induction k with
  | zero => intros; exact pc_none
  | succ k ih =>
    intro l2 l3 l4 a e
    have nx : ∀ v : Int, v = l4 + 1 → cs w1 (sm h l1.toNat) v.toNat = l2 + (if sm h l1.toNat l4.toNat = true then w1 l4.toNat else 0) := fun v ev => by
      rw [show v.toNat = l4.toNat + 1 by omega, e]; rfl
    have c0 : 0 ≤ l2 ∧ l2 ≤ 800 := by
      have a1 := cs_le (f := w1) (b := sm h l1.toNat) (fun _ => show (0 : Int) ≤ 1 by decide) l4.toNat
      have a2 := cs_all (b := fun _ => true) l4.toNat (fun _ _ => rfl)
      have a3 : ∀ n : Nat, 0 ≤ cs w1 (sm h l1.toNat) n := fun n => by
        induction n with
        | zero => exact Int.le_refl _
        | succ n ihn =>
          show 0 ≤ cs w1 (sm h l1.toNat) n + _
          have : (0 : Int) ≤ (if sm h l1.toNat n = true then w1 n else 0) := by
            split
            · show (0 : Int) ≤ 1; decide
            · exact Int.le_refl _
          omega
      have := a3 l4.toNat
      omega
    unfold qw_X13_memberHead_35
    refine pc_if (fun C => ?_) (fun C => ?_)
    · have e4 : l4 = l1 := by omega
      have eg : gc h l1.toNat = l2 := by rw [e, e4]; rfl
      refine pc_if (fun D => ?_) (fun D => ?_)
      · exact fun r _ _ => by rw [eg]; exact D
      · refine pc_rA ?_; intro _ _ v59 e59
        have g := gA_186 V l1.toNat (by omega)
        refine pc_sv (pw_wrong hn V (by omega) (by omega)) ?_; intro u61 P
        exact pc_imp (pd_139 hn r1 P.1.1 (wr_hw P.1 W) P.2) (fun r z y => absurd y z)
    · have go : ∀ (v4 x2 x3 : Int), v4 = l4 + 1 → x2 = l2 + (if sm h l1.toNat l4.toNat = true then w1 l4.toNat else 0) → Pc (qw_X13_memberHead_35 nn k l1 x2 x3 v4 h) (fun r => r 160 9 = 0 → ¬ gc h l1.toNat = 12) := fun v4 x2 x3 e4 e2 => ih x2 x3 v4 (by omega) (by rw [nx v4 e4]; exact e2)
      refine pc_rA ?_; intro _ _ v64 e64
      refine pc_rA ?_; intro _ _ v66 e66
      refine pc_if (fun D => ?_) (fun D => ?_)
      · refine pc_add (by omega) ?_; intro v67 e67
        refine go v67 l2 l3 e67 ?_
        rw [if_neg (fun y => by have := of_decide_eq_true y; omega)]; omega
      · have D : v64 = v66 := Decidable.not_not.1 D
        refine pc_rA ?_; intro _ _ v69 e69
        have J : ∀ s0 s1 : Int, (s1 = s0 ↔ (h 182 l4.toNat ≤ 0 ↔ h 182 l1.toNat ≤ 0)) → Pc (qj_X13_memberHead_86 nn (qw_X13_memberHead_35 nn k) l1 l2 l3 l4 s0 s1 h) (fun r => r 160 9 = 0 → ¬ gc h l1.toNat = 12) := fun s0 s1 hs => by
          unfold qj_X13_memberHead_86
          refine pc_if (fun Q => ?_) (fun Q => ?_)
          · refine pc_add (by omega) ?_; intro v44 e44
            refine pc_rA ?_; intro _ _ v46 _
            refine pc_rA ?_; intro _ _ v48 _
            refine pc_se ?_; intro u50 _
            refine pc_xl ?_; intro v51 _
            refine pc_add (by omega) ?_; intro v52 e52
            refine go v52 v44 v51 e52 ?_
            rw [if_pos (show sm h l1.toNat l4.toNat = true from decide_eq_true ⟨by omega, hs.1 Q⟩)]; exact e44
          · refine pc_add (by omega) ?_; intro v53 e53
            refine go v53 l2 l3 e53 ?_
            rw [if_neg (fun y => Q (hs.2 (of_decide_eq_true y).2))]; omega
        have K : ∀ s1 : Int, ((s1 = 0 ∧ h 182 l4.toNat ≤ 0) ∨ (s1 = 1 ∧ ¬ h 182 l4.toNat ≤ 0)) → Pc (qj_X13_memberHead_72 nn (qw_X13_memberHead_35 nn k) l1 l2 l3 l4 s1 h) (fun r => r 160 9 = 0 → ¬ gc h l1.toNat = 12) := fun s1 hs => by
          unfold qj_X13_memberHead_72
          refine pc_rA ?_; intro _ _ v56 e56
          exact pc_if (fun Q => J 0 s1 (by omega)) (fun Q => J 1 s1 (by omega))
        exact pc_if (fun Q => K 0 (.inl ⟨rfl, by omega⟩)) (fun Q => K 1 (.inr ⟨rfl, by omega⟩))
theorem gc_eq {m : Nat} (A : ∀ k : Nat, r 181 k = h 181 k ∧ r 182 k = h 182 k) : gc r m = gc h m := by
  unfold gc
  refine cs_cg m (fun i _ => ?_)
  unfold sm
  rw [(A i).1, (A m).1, (A i).2, (A m).2]
theorem pg_head (hn : 1000000 ≤ nn) (V : VS_ h) (W : HW_ h) {l1 : Int} (r1 : 0 ≤ l1 ∧ l1 ≤ 799) : Pc (qf_X13_memberHead nn l1 h) (fun r => r 160 9 = 0 → ¬ gc h l1.toNat = 12) := by
  have k1 := gA_183 V l1.toNat (by omega)
  have k2 := gA_184 V l1.toNat (by omega)
  have k3 := gA_185 V l1.toNat (by omega)
  unfold qf_X13_memberHead
  refine pc_rA ?_; intro _ _ v75 e75
  refine pc_rA ?_; intro _ _ v77 e77
  refine pc_rA ?_; intro _ _ v79 e79
  refine pc_sv (pt_typeOf hn V W (by omega) (by omega) (by omega)) ?_; intro u81 P
  obtain ⟨q1, q2, q3⟩ := P
  refine pc_wA ?_; intro _ _ h82 E82
  have V82 : VS_ h82 := by rw [E82]; exact wA_187 q3.1 (by omega)
  have W82 : HW_ h82 := by rw [E82]; exact hw_up q3.1 (wr_hw q3 W) rfl
  have A : ∀ k : Nat, h82 181 k = h 181 k ∧ h82 182 k = h 182 k := fun k => by rw [E82, up_n (by omega), up_n (by omega), q3.2.1 181 k (by decide), q3.2.1 182 k (by decide)]; exact ⟨rfl, rfl⟩
  refine pc_imp (pg_35 hn r1 V82 W82 nn 0 0 0 (by omega) rfl) (fun r p z => ?_)
  rw [← gc_eq A]; exact p z
theorem pg_192 (hn : 1000000 ≤ nn) : ∀ (k : Nat) (l1 : Int) (h : ms_M), VS_ h → HW_ h → 0 ≤ l1 → Pc (qw_X13_heads_192 nn k l1 h) (fun r => r 160 9 = 0 → h 160 9 = 0 ∧ ∀ m : Nat, l1 ≤ (m : Int) → (m : Int) < h 160 28 → ¬ gc h m = 12) := by
  intro k
  induction k with
  | zero => intros; exact pc_none
  | succ k ih =>
    intro l1 h V W a
    have g28 := gF_160_28 V
    unfold qw_X13_heads_192
    refine pc_if (fun C => ?_) (fun C => ?_)
    · by_cases z : h 160 9 = 0
      · exact fun r _ _ => ⟨z, fun m h1 h2 => by exfalso; omega⟩
      · exact pc_imp (dead_220 hn z) (fun r e y => by rw [e] at y; exact absurd y z)
    · refine pc_if (fun z => ?_) (fun z => ?_)
      · exact pc_imp (dead_220 hn z) (fun r e y => by rw [e] at y; exact absurd y z)
      · have z : h 160 9 = 0 := Decidable.not_not.1 z
        refine pc_se ?_; intro u15 e15
        have F : ∀ c k, nw_F wl_X13_memberHead wf_X13_memberHead false false c k = true → u15 c k = h c k := fun c k w => (ff_X13_memberHead nn) _ e15 c k w
        obtain ⟨u, eu, Vu⟩ := vf_X13_memberHead hn (a1 := l1) (by omega) (by omega) V W
        rw [e15] at eu; cases eu
        have W15 : HW_ u15 := hw_eq W (fun k => F 164 k (nw_ar rfl k)) (fun k => F 165 k (nw_ar rfl k)) (fun k => F 188 k (nw_ar rfl k)) (fun k => F 189 k (nw_ar rfl k))
        refine pc_add (by omega) ?_; intro v16 e16
        refine pc_imp (ih v16 u15 Vu W15 (by omega)) (fun r p y => ⟨z, fun m h1 h2 => ?_⟩)
        obtain ⟨p1, p2⟩ := p y
        by_cases q : (m : Int) = l1
        · have := pg_head hn V W (l1 := l1) (by omega) u15 e15 p1
          rw [show m = l1.toNat by omega]; exact this
        · rw [← gc_eq (r := u15) (fun k => ⟨F 181 k (nw_ar rfl k), F 182 k (nw_ar rfl k)⟩)]
          exact p2 m (by omega) (by rw [F 160 28 rfl]; exact h2)
end
end
section
section
variable {nn : Nat} {h r t g : ms_M} {Q : Int × ms_M → Prop}
def grp (h : ms_M) (m : Nat) : Int := 2 * h 181 m + (if h 182 m ≤ 0 then 0 else 1)
theorem sm_grp (m i : Nat) : sm h m i = decide (grp h i = grp h m) := by
  unfold sm grp
  by_cases a : h 182 i ≤ 0
  · by_cases b : h 182 m ≤ 0
    · rw [if_pos a, if_pos b]
      by_cases c : h 181 i = h 181 m
      · rw [decide_eq_true ⟨c, by omega⟩, decide_eq_true (by omega)]
      · rw [decide_eq_false (fun z => c z.1), decide_eq_false (by omega)]
    · rw [if_pos a, if_neg b, decide_eq_false (fun z => b (z.2.1 a)), decide_eq_false (by omega)]
  · by_cases b : h 182 m ≤ 0
    · rw [if_neg a, if_pos b, decide_eq_false (fun z => a (z.2.2 b)), decide_eq_false (by omega)]
    · rw [if_neg a, if_neg b]
      by_cases c : h 181 i = h 181 m
      · rw [decide_eq_true ⟨c, by omega⟩, decide_eq_true (by omega)]
      · rw [decide_eq_false (fun z => c z.1), decide_eq_false (by omega)]
theorem gp_12 {n : Nat} (H : ∀ m : Nat, m < n → ¬ gc h m = 12) : ∀ k : Nat, k ≤ n → ∀ x : Int, cs w1 (fun i => decide (grp h i = x)) k ≤ 12 := by
  intro k
  induction k with
  | zero => intro _ x; show (0 : Int) ≤ 12; decide
  | succ k ih =>
    intro hk x
    have a := ih (by omega) x
    show cs w1 (fun i => decide (grp h i = x)) k + (if decide (grp h k = x) = true then w1 k else 0) ≤ 12
    by_cases q : grp h k = x
    · rw [if_pos (decide_eq_true q)]
      have e : gc h k = cs w1 (fun i => decide (grp h i = x)) k := by
        unfold gc
        refine cs_cg k (fun i _ => ?_)
        rw [sm_grp, q]
      have := H k (by omega)
      show _ + (1 : Int) ≤ 12
      omega
    · rw [if_neg (fun z => q (of_decide_eq_true z))]; omega
def sg (f : Int → Int) : Nat → Int
  | 0 => 0
  | n + 1 => sg f n + f n
theorem sg_add {f e : Int → Int} : ∀ n : Nat, sg (fun x => f x + e x) n = sg f n + sg e n := by
  intro n
  induction n with
  | zero => rfl
  | succ n ih =>
    show sg (fun x => f x + e x) n + (f n + e n) = (sg f n + f n) + (sg e n + e n)
    rw [ih]; omega
theorem sg_le {f : Int → Int} (H : ∀ x, f x ≤ 12) : ∀ n : Nat, sg f n ≤ 12 * n := by
  intro n
  induction n with
  | zero => exact Int.le_refl _
  | succ n ih =>
    have := H n
    show sg f n + f n ≤ _
    omega
theorem sg_d {y : Int} : ∀ n : Nat, sg (fun x => if decide (y = x) = true then (1 : Int) else 0) n = (if 0 ≤ y ∧ y < (n : Int) then 1 else 0) := by
  intro n
  induction n with
  | zero => rw [if_neg (by omega)]; rfl
  | succ n ih =>
    show sg _ n + (if decide (y = (n : Int)) = true then (1 : Int) else 0) = _
    rw [ih]
    by_cases q : y = (n : Int)
    · rw [if_pos (decide_eq_true q), if_neg (show ¬ (0 ≤ y ∧ y < (n : Int)) by omega), if_pos (show 0 ≤ y ∧ y < ((n + 1 : Nat) : Int) by omega)]; rfl
    · rw [if_neg (fun z => q (of_decide_eq_true z))]
      by_cases p : 0 ≤ y ∧ y < (n : Int)
      · rw [if_pos p, if_pos (show 0 ≤ y ∧ y < ((n + 1 : Nat) : Int) by omega)]; rfl
      · rw [if_neg p, if_neg (show ¬ (0 ≤ y ∧ y < ((n + 1 : Nat) : Int)) by omega)]; rfl
theorem sg_all : ∀ k : Nat, (∀ i : Nat, i < k → 0 ≤ grp h i ∧ grp h i < 16) → sg (fun x => cs w1 (fun i => decide (grp h i = x)) k) 16 = (k : Int) := by
  intro k
  induction k with
  | zero => intro _; exact (sg_d (y := -1) 16).symm ▸ rfl
  | succ k ih =>
    intro H
    have a := ih (fun i hi => H i (by omega))
    have b := H k (by omega)
    have e : (fun x => cs w1 (fun i => decide (grp h i = x)) (k + 1)) = (fun x => cs w1 (fun i => decide (grp h i = x)) k + (if decide (grp h k = x) = true then (1 : Int) else 0)) := rfl
    rw [e, sg_add, a, sg_d, if_pos (by omega)]
    omega
theorem m_192 {n : Nat} (H : ∀ m : Nat, m < n → ¬ gc h m = 12) (G : ∀ i : Nat, i < n → 0 ≤ h 181 i ∧ h 181 i < 8) : (n : Int) ≤ 192 := by
  have a := sg_all (h := h) n (fun i hi => by
    have := G i hi
    unfold grp
    split <;> omega)
  have b := sg_le (f := fun x => cs w1 (fun i => decide (grp h i = x)) n) (fun x => gp_12 H n (Nat.le_refl _) x) 16
  rw [a] at b
  omega
/-- the heads, and how many members there are -/
theorem hc_heads (hn : 1000000 ≤ nn) (V : VS_ h) (W : HW_ h) (M : MC_ h) : Ok_ (qf_X13_heads nn h) (fun r => QT2 r ∧ (r 160 9 = 0 → r 160 28 ≤ 192)) := by
  refine hq_heads hn (fun {g} q => ?_) V W M
  obtain ⟨r, er, R⟩ := ht_192 hn nn 0 q (fun _ m hm => by omega) (by omega) (by omega)
  have F : ∀ c k, nw_F wl_X13_heads wf_X13_heads false false c k = true → r c k = g c k := fun c k w => (fw_X13_heads_192 nn nn) _ er c k w
  refine ⟨r, er, R, fun y => ?_⟩
  obtain ⟨_, p⟩ := pg_192 hn nn 0 g q.1 q.2.1 (by omega) r er y
  have g28 := gF_160_28 R.1.1
  have e28 := F 160 28 rfl
  have := m_192 (h := r) (n := (r 160 28).toNat) (fun m hm => by rw [gc_eq (h := g) (fun k => ⟨F 181 k (nw_ar rfl k), F 182 k (nw_ar rfl k)⟩)]; exact p m (by omega) (by omega)) (fun i hi => by
    have a := gA_181 R.1.1 i (by omega)
    have b := R.1.2.2.1 i (by omega)
    have c := (R.1.2.2.2 y).2
    omega)
  omega
/-- what is left of loops and labels -/
def RLb (L : Int) (h : ms_M) : Prop := LB h ∧ h 160 88 = L
theorem rl_eq {L : Int} (R : RLb L h) (e : r 160 88 = h 160 88) (A : ∀ i : Nat, r 219 i = h 219 i ∧ r 220 i = h 220 i) : RLb L r := ⟨lb_eq R.1 (by omega) A, e.trans R.2⟩
theorem rl_F {L : Int} {X : List Nat} {XF : List (Nat × Nat)} (R : RLb L h) (F : ∀ c k, nw_F X XF false false c k = true → r c k = h c k) (h1 : nw_F X XF false false 160 88 = true) (h2 : ∀ k, nw_F X XF false false 219 k = true ∧ nw_F X XF false false 220 k = true) : RLb L r := rl_eq R (F _ _ h1) (fun i => ⟨F _ _ (h2 i).1, F _ _ (h2 i).2⟩)
theorem rl_up {L : Int} {c k : Nat} {v : Int} {z : ms_M} (R : RLb L h) (E : z = up_M h c k v) (hc : c ≠ 219 ∧ c ≠ 220 ∧ ¬ (c = 160 ∧ k = 88)) : RLb L z := rl_eq R (by rw [E, up_n (by omega)]) (fun i => by rw [E, up_n (by omega), up_n (by omega)]; exact ⟨rfl, rfl⟩)
theorem nw_F2 {X : List Nat} {XF : List (Nat × Nat)} (N : NW_ h) (F : ∀ c k, nw_F X XF false false c k = true → r c k = h c k) (h2 : ∀ k, nw_F X XF false false 163 k = true ∧ nw_F X XF false false 165 k = true) : NW_ r := nw_eq N (fun k => F _ _ (h2 k).1) (fun k => F _ _ (h2 k).2)
theorem nw_up {c k : Nat} {v : Int} {z : ms_M} (N : NW_ h) (E : z = up_M h c k v) (hc : c ≠ 163 ∧ c ≠ 165) : NW_ z := nw_eq N (fun k => by rw [E, up_n (by omega)]) (fun k => by rw [E, up_n (by omega)])
theorem gb_of (T : QT2 t) (P : MP t) (C : t 160 9 = 0) (B : QB t g) (z : g 160 9 = 0) (N : NW_ t) (K : NK t) (U : UC t) (m : t 160 28 ≤ 192) : GB g := by
  obtain ⟨⟨V, F, y1, y2, y3⟩, MI0, MT0⟩ := B
  have e22 : g 160 22 = t 160 22 := F 160 22 rfl
  have e24 : g 160 24 = t 160 24 := F 160 24 rfl
  have e28 : g 160 28 = t 160 28 := F 160 28 rfl
  have g22 := gF_160_22 V
  have v23 := gF_160_23 T.1.1
  have cc := (P.2.2 C).2.2
  have cn : ∀ n : Nat, Cn g n = Cn t n := fun n => by
    induction n with
    | zero => rfl
    | succ n ih =>
      show Cn g n + wt (g 167 n) = Cn t n + wt (t 167 n)
      rw [ih, F 167 n (nw_ar rfl n)]
  have c1 : Cm g (g 160 22) ≤ 3000 := by
    show Cn g (g 160 22).toNat ≤ 3000
    rw [cn, e22]
    show CC t ≤ 3000
    omega
  have c2 := cm_mono (s := g) (a := 0) (b := g 160 22) (by omega) (by omega)
  rw [cm_z] at c2
  refine ⟨⟨yb_hw ⟨V, F, y1, y2, y3⟩ T.1.2.1, by rw [e24]; exact (T.1.2.2.2 C).2, fun c hc => ?_, by omega, fun x hx => ?_⟩, ⟨by omega, c1⟩, fun x hx => ?_, fun x hx h182 => ?_, fun c hc => ?_⟩
  · rw [F 165 _ (nw_ar rfl _), F 178 _ (nw_ar rfl _)]; exact N _ ⟨by have := gF_160_24 T.1.1; have := gA_178 T.1.1 c (by omega); omega, K.1 c (by omega)⟩
  · rw [F 165 _ (nw_ar rfl _), F 186 _ (nw_ar rfl _), F 187 _ (nw_ar rfl _), F 189 _ (nw_ar rfl _), F 188 _ (nw_ar rfl _), e24]
    obtain ⟨⟨q1, q2⟩, q3⟩ := T.2 C x (by omega)
    exact ⟨N _ ⟨by have := gA_186 T.1.1 x (by omega); omega, K.2 x (by omega)⟩, q1, q3, fun k hk => by rw [F 195 _ (nw_ar rfl _)]; exact q2 k hk⟩
  · rw [F 167 _ (nw_ar rfl _), e24, e28]
    obtain ⟨w1, w2⟩ := MI0 z x (by omega)
    obtain ⟨w3, w4, w5⟩ := y3 x (by omega)
    exact ⟨⟨w1, y1 x (by omega)⟩, w3, w2, w4, w5⟩
  · rw [F 182 _ (nw_ar rfl _)] at h182
    obtain ⟨b, ⟨hb, hy⟩, Te⟩ := (P.2.2 C).1 0 (.inl rfl) x (by omega) h182
    obtain ⟨b2, _, _, Ye⟩ := MT0 z x (by omega) h182
    have rg := te_sk Te
    rw [F 190 _ (nw_ar rfl _)]
    refine ⟨b, b2, ⟨by omega, fun y h1 h2 h3 => ?_⟩, te_map (a0 := t 190 x) (b0 := b) (fun c k hc _ _ => ?_) (fun k _ _ => F 169 k (nw_ar rfl k)) (fun k _ _ hk => y2 k hk) Te (Int.le_refl _) (by omega) (Int.le_refl _) (Int.le_refl _) (Int.le_refl _) (Int.le_refl _), Ye⟩
    · rw [F 182 _ (nw_ar rfl _)] at h3
      rw [F 190 _ (nw_ar rfl _)]; exact hy y h1 (by omega) h3
    · have q : c = 167 ∨ c = 170 ∨ c = 171 ∨ c = 172 ∨ c = 173 := by omega
      rcases q with q | q | q | q | q <;> subst q <;> exact F _ _ (nw_ar rfl _)
  · rw [F 180 _ (nw_ar rfl _), e24]; exact U c (by omega)
/-- what making wants -/
def HM (nn : Nat) (L : Int) (Q : Int × ms_M → Prop) : Prop := ∀ {t g : ms_M}, QT2 t → MP t → t 160 9 = 0 → QB t g → g 160 9 = 0 → NW_ t → NK t → UC t → t 160 28 ≤ 192 → RLb L g → Ok_ (qw_X13_compile_110 nn nn 0 g) Q
def HF (L : Int) (Q : Int × ms_M → Prop) : Prop := ∀ {g : ms_M}, VS_ g → HW_ g → NW_ g → RLb L g → Q (-1, g)
theorem ch_97 (hn : 1000000 ≤ nn) {L : Int} (hM : HM nn L Q) (hF : HF L Q) (T : QT2 h) (P : MP h) (N : NW_ h) (R : RLb L h) (K : h 160 9 = 0 → NK h ∧ UC h ∧ h 160 28 ≤ 192) : Ok_ (qj_X13_compile_97 nn h) Q := by
  unfold qj_X13_compile_97
  refine ok_if (fun C => cg_dead hn C (hF T.1.1 T.1.2.1 N R)) (fun C => ?_)
  have C : h 160 9 = 0 := Decidable.not_not.1 C
  have Y := yb_0 T.1.1 P.1 (P.2.2 C).2.1
  obtain ⟨u, eu, B⟩ := vb_bodies hn (sf_of T C) ((P.2.2 C).1 1 (.inr rfl)) Y.1 Y.2
  rw [eu, mx_svs]
  have F : ∀ c k, nw_F wl_X13_bodies wf_X13_bodies false false c k = true → u c k = h c k := fun c k w => (ff_X13_bodies nn) _ eu c k w
  have Ru := rl_F R F rfl (fun k => ⟨nw_ar rfl k, nw_ar rfl k⟩)
  have Nu := nw_F2 N F (fun k => ⟨nw_ar rfl k, nw_ar rfl k⟩)
  by_cases z : u 160 9 = 0
  · exact hM T P C B z N (K C).1 (K C).2.1 (K C).2.2 Ru
  · exact cg_dead hn z (hF B.1.1 (yb_hw B.1 T.1.2.1) Nu Ru)
theorem ch_86 (hn : 1000000 ≤ nn) {L : Int} (hM : HM nn L Q) (hF : HF L Q) (X : QX_ h) (P : MP h) (N : NW_ h) (R : RLb L h) (K : NK h) : Ok_ (qj_X13_compile_86 nn h) Q := by
  unfold qj_X13_compile_86
  refine ok_if (fun C => ch_97 hn hM hF ⟨qh_of X C, fun y => absurd y C⟩ P N R (fun y => absurd y C)) (fun C => ?_)
  have C : h 160 9 = 0 := Decidable.not_not.1 C
  obtain ⟨u, eu, H, H2⟩ := hc_heads hn X.1 ⟨X.2.2.1.2.2, X.2.2.2.1⟩ X.2.2.2.2
  rw [eu, mx_svs]
  have F : ∀ c k, nw_F wl_X13_heads wf_X13_heads false false c k = true → u c k = h c k := fun c k w => (ff_X13_heads nn) _ eu c k w
  exact ch_97 hn hM hF H (mp_sx (sx_heads eu C) P) (nw_F2 N F (fun k => ⟨nw_ar rfl k, nw_ar rfl k⟩)) (rl_F R F rfl (fun k => ⟨nw_ar rfl k, nw_ar rfl k⟩)) (fun y => ⟨nk_F K F (fun k => ⟨nw_ar rfl k, nw_ar rfl k, nw_ar rfl k⟩) rfl rfl, uc_heads hn X.1 ⟨X.2.2.1.2.2, X.2.2.2.1⟩ u eu, H2 y⟩)
theorem ch_43 (hn : 1000000 ≤ nn) {L : Int} (hM : HM nn L Q) (hF : HF L Q) {l1 : Int} (r1 : 0 ≤ l1 ∧ l1 ≤ 3000) : ∀ (k : Nat) (l2 : Int) {h : ms_M}, VS_ h → HW_ h → NW_ h → RLb L h → h 160 9 = 0 → (0 ≤ l2 ∧ l2 ≤ 3000) → 3001 - l2 < (k : Int) → Ok_ (qw_X13_compile_43 nn k l1 l2 h) Q := by
  intro k
  induction k with
  | zero => intro l2 h V W N R z r hm; exfalso; omega
  | succ k ih =>
    intro l2 h V W N R z r hm
    unfold qw_X13_compile_43
    refine ok_if (fun C => ?_) (fun C => ?_)
    · refine ok_xl ?_; intro h40 E40
      have V40 : VS_ h40 := by rw [E40]; exact wF_160_3 V (by omega)
      have W40 : HW_ h40 := by rw [E40]; exact hw_up V W rfl
      have z40 : h40 160 9 = 0 := by rw [E40, up_n (by omega)]; exact z
      have N40 := nw_up N E40 (by decide)
      have R40 := rl_up R E40 (by decide)
      obtain ⟨u, eu, T⟩ := tz_ok hn V40 W40.1
      rw [eu, mx_svs]
      have zu : u 160 9 = h40 160 9 := (ff_X13_tokenize nn) _ eu 160 9 rfl
      have w1 : ∀ m, u 188 m = h40 188 m := fun m => (ff_X13_tokenize nn) _ eu 188 m (nw_ar rfl m)
      have w2 : ∀ m, u 189 m = h40 189 m := fun m => (ff_X13_tokenize nn) _ eu 189 m (nw_ar rfl m)
      have Nu := nw_tokenize N40 u eu
      have Ru := rl_F R40 (fun c k w => (ff_X13_tokenize nn) _ eu c k w) rfl (fun k => ⟨nw_ar rfl k, nw_ar rfl k⟩)
      refine ok_if (fun C2 => absurd (by omega) C2) (fun C2 => ?_)
      obtain ⟨v, ev, X⟩ := vx_X13_program hn T (fun m hm => by rw [w1, w2]; exact W40.2 m hm) (by omega)
      rw [ev, mx_svs]
      have F : ∀ c k, nw_F wl_X13_program wf_X13_program false false c k = true → v c k = u c k := fun c k w => (ff_X13_program nn) _ ev c k w
      exact ch_86 hn hM hF X (mg_program v ev) (nw_F2 Nu F (fun k => ⟨nw_ar rfl k, nw_ar rfl k⟩)) (rl_F Ru F rfl (fun k => ⟨nw_ar rfl k, nw_ar rfl k⟩)) (np_program v ev)
    · refine ok_rd (by omega) (gA_161 V) ?_; intro v49 e49 a49 b49
      refine ok_wA (by omega) ?_; intro h50 E50
      have V50 : VS_ h50 := by rw [E50]; exact wA_162 V (by omega)
      have W50 : HW_ h50 := by rw [E50]; exact hw_up V W rfl
      have z50 : h50 160 9 = 0 := by rw [E50, up_n (by omega)]; exact z
      refine ok_add (by omega) ?_; intro v51 e51
      exact ih v51 V50 W50 (nw_up N E50 (by decide)) (rl_up R E50 (by omega)) z50 (by omega) (by omega)
theorem ch_compile (hn : 1000000 ≤ nn) {L : Int} (hM : HM nn L Q) (hF : HF L Q) (V : VS_ h) (W : HW_ h) (N : NW_ h) (R : RLb L h) : Ok_ (qf_X13_compile nn h) Q := by
  have g := gF_160_1 V
  unfold qf_X13_compile
  refine ok_xl ?_; intro h54 E54
  have V54 : VS_ h54 := by rw [E54]; exact wF_160_1 V (by omega)
  have W54 : HW_ h54 := by rw [E54]; exact hw_up V W rfl
  have N54 := nw_up N E54 (by decide)
  have R54 := rl_up R E54 (by decide)
  refine ok_xl ?_; intro h55 E55
  have V55 : VS_ h55 := by rw [E55]; exact wF_160_9 V54 (by omega)
  have W55 : HW_ h55 := by rw [E55]; exact hw_up V54 W54 rfl
  have z55 : h55 160 9 = 0 := by rw [E55, up_s]
  have N55 := nw_up N54 E55 (by decide)
  have R55 := rl_up R54 E55 (by decide)
  refine ok_xl ?_; intro h56 E56
  have V56 : VS_ h56 := by rw [E56]; exact wF_160_10 V55 (by omega)
  have W56 : HW_ h56 := by rw [E56]; exact hw_up V55 W55 rfl
  have z56 : h56 160 9 = 0 := by rw [E56, up_n (by omega)]; exact z55
  have N56 := nw_up N55 E56 (by decide)
  have R56 := rl_up R55 E56 (by decide)
  refine ok_if (fun C => ch_43 hn hM hF (by omega) nn 0 V56 W56 N56 R56 z56 (by omega) (by omega)) (fun C => ?_)
  refine ok_xl ?_; intro h57 E57
  have V57 : VS_ h57 := by rw [E57]; exact wF_160_9 V56 (by omega)
  have W57 : HW_ h57 := by rw [E57]; exact hw_up V56 W56 rfl
  refine ok_xl ?_; intro h58 E58
  have V58 : VS_ h58 := by rw [E58]; exact wF_160_10 V57 (by omega)
  have W58 : HW_ h58 := by rw [E58]; exact hw_up V57 W57 rfl
  exact ok_ret (hF V58 W58 (nw_up (nw_up N56 E57 (by decide)) E58 (by decide)) (rl_up (rl_up R56 E57 (by decide)) E58 (by decide)))
/-- what the reference's compile leaves -/
def QRC (h : ms_M) (u : Int × ms_M) : Prop := VS_ u.2 ∧ HW_ u.2 ∧ NW_ u.2 ∧ LB u.2 ∧ (h 160 88 ≤ u.2 160 88 ∧ u.2 160 88 ≤ h 160 88 + 48000) ∧ (-1 ≤ u.1 ∧ u.1 ≤ 8)
/-- the reference's compile is safe -/
theorem rc_compile (hn : 1000000 ≤ nn) (V : VS_ h) (W : HW_ h) (N : NW_ h) (L : LB h) (h8 : h 160 88 ≤ 1600000000) : Ok_ (qf_X13_compile nn h) (QRC h) := by
  have g8 := gF_160_88 V
  refine ch_compile (L := h 160 88) hn (fun {t g} T P C B z Nt K U m R => ?_) (fun {g} Vg Wg Ng R => ⟨Vg, Wg, Ng, R.1, by have := R.2; show h 160 88 ≤ g 160 88 ∧ g 160 88 ≤ h 160 88 + 48000; omega, by show (-1 : Int) ≤ -1 ∧ (-1 : Int) ≤ 8; omega⟩) V W N ⟨L, rfl⟩
  have G := gb_of T P C B z Nt K U m
  have Vg := B.1.1
  have g24 := gF_160_24 Vg
  have p24 := G.1.2.1
  have R2 := R.2
  have Fg := B.1.2.1
  refine ok_im (co_110 hn G (L8 := h 160 88) (by omega) nn 0 g Vg ag_rf R.1 (by omega) (by omega) (by omega)) (fun u q => ?_)
  obtain ⟨q1, q2, q3, q4, q5⟩ := q
  exact ⟨q1, hw_eq G.1.1 (fun k => q2.1 164 k (by decide) (by decide)) (fun k => q2.1 165 k (by decide) (by decide)) (fun k => q2.1 188 k (by decide) (by decide)) (fun k => q2.1 189 k (by decide) (by decide)), nw_eq Nt (fun k => (q2.1 163 k (by decide) (by decide)).trans (Fg 163 k (nw_ar rfl k))) (fun k => (q2.1 165 k (by decide) (by decide)).trans (Fg 165 k (nw_ar rfl k))), q3, q4, q5⟩
end
end

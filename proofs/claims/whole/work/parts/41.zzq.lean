/- RUN: fields -/
section
variable {nn : Nat} {Bf : Nat → Nat → Int} {nf : Nat → Nat} {cnt : Int} {k i t P H d : Nat} {A B g r u z p h w A1 B1 g0 f : ms_M} {ω : Int → ms_M} {op o v wd c kk tt ty x y a e s uu bb j q L : Int} {N ai : Nat} {T U : Nat → ms_M}
theorem kd_40 {fn : Nat → Int} {a e : Int} (K : KD fn a e) : ¬ fn a.toNat = 40 := by
  rcases K with K | ⟨_, K⟩ | K
  · omega
  · rcases K with K | K
    · omega
    · have := K.1; omega
  · omega
theorem tr_x0 (S : RSv Bf nf B) (W : WI B (k : Int) w) (hk : (k : Int) < B 160 98) (T : TX w (k : Int) x) : tg_S (Bf k) (nf k) x = 1 ∧ w 238 (pl w (k : Int) x + 2).toNat = Bf k (na_S (Bf k) (nf k) x) := by
  obtain ⟨n6, k8⟩ := tb_n6 S hk
  have t1 := tr_t S W hk (s := 1) T
  obtain ⟨e, x2, kv⟩ := tr_p S W hk T.1.1 T.1.2
  obtain ⟨a1, a2, a3, a4, a5⟩ := wi_tx W (by omega) T
  obtain ⟨p1, p2, p3, p4, p5, p6, p7⟩ := pi_le S hk t1
  have ena : na_S (Bf k) (nf k) x = pl_S (Bf k) (nf k) x + 2 := rfl
  refine ⟨t1, ?_⟩
  rw [tr_b S W hk (x := pl w (k : Int) x + 2) (by omega) (by omega) (by omega), show (pl w (k : Int) x + 2).toNat = na_S (Bf k) (nf k) x by omega]
/-- a member constant: what it says -/
theorem sx_mf (hn : 1000000 ≤ nn) (S : SXc Bf nf cnt A B k i t P op o) (X : RTP nn g0 ω B (t : Int) (k : Int) kk N T U tt ai p) (mr : MRF nn g0 ω (k : Int) (ω (k : Int)) o s uu bb j) : tg_S (Bf k) (nf k) o = 4 ∧ (tg_S (Bf k) (nf k) (pt_S (Bf k) (nf k) o 0) = 3 ∧ (¬ Bf k (na_S (Bf k) (nf k) (pt_S (Bf k) (nf k) (pt_S (Bf k) (nf k) o 0) 0)) = 91) ∧ cq_F Bf nf cnt (Bf k) (nf k) (pt_S (Bf k) (nf k) o 0) = uu ∧ ISc cnt uu) ∧ tg_S (Bf k) (nf k) (pt_S (Bf k) (nf k) o 1) = 1 ∧ (TX (ω (k : Int)) (k : Int) (pt_S (Bf k) (nf k) o 2) ∧ ω (k : Int) 238 (pl (ω (k : Int)) (k : Int) o + 1 + 2).toNat = pt_S (Bf k) (nf k) o 2) ∧ (8 ≤ bb ∧ bb < 8 + cnt) ∧ ∃ jj : Nat, (jj : Int) = j ∧ HFd Bf nf cnt k (pt_S (Bf k) (nf k) o 1) s uu bb jj := by
  obtain ⟨⟨c1, c2, c3⟩, ⟨d1, d2⟩, Nk, HG, _⟩ := S.1
  have g3 := HG.1
  have hk := S.2.2.2.2.1.2.1
  have e98 := X.rx.2.1.1
  obtain ⟨W, hg⟩ := tr_w X.rx hk
  obtain ⟨n6, k8⟩ := tb_n6 d1 hk
  obtain ⟨st4, ⟨ub, ct⟩, hs, hbb, hj, eqt⟩ := mr
  have t4 := tr_t d1 W hk st4
  have p0 := tr_4 d1 W hk st4 (y := 0) (by omega)
  have p1 := tr_4 d1 W hk st4 (y := 1) (by omega)
  have p2 := tr_4 d1 W hk st4 (y := 2) (by omega)
  rw [show ((0 : Nat) : Int) = 0 from rfl] at p0
  rw [show ((1 : Nat) : Int) = 1 from rfl] at p1
  rw [show ((2 : Nat) : Int) = 2 from rfl] at p2
  have ckk := (W.2.1.2.2 o st4.1.1 st4.1.2).2 st4.2
  have cl : CL (ω (k : Int)) (k : Int) (pt_S (Bf k) (nf k) o 0) := by
    rw [← p0, show pl (ω (k : Int)) (k : Int) o + 1 + 0 = pl (ω (k : Int)) (k : Int) o + 1 by omega]; exact ckk.1
  have tx : TX (ω (k : Int)) (k : Int) (pt_S (Bf k) (nf k) o 1) := by
    rw [← p1, show pl (ω (k : Int)) (k : Int) o + 1 + 1 = pl (ω (k : Int)) (k : Int) o + 2 by omega]; exact ckk.2.1.1
  have tx2 : TX (ω (k : Int)) (k : Int) (pt_S (Bf k) (nf k) o 2) := by
    rw [← p2, show pl (ω (k : Int)) (k : Int) o + 1 + 2 = pl (ω (k : Int)) (k : Int) o + 3 by omega]; exact ckk.2.2.1
  rw [p0] at ct
  rw [p1] at hs
  obtain ⟨t3, n91, cq⟩ := tr_cq X.rx d1 (by rw [d2]; exact Nk) hk cl ct
  rw [d2] at cq
  have t1 := tr_t d1 W hk (s := 1) tx
  have hu : ISc cnt uu := ⟨ub.1, by omega⟩
  refine ⟨t4, ⟨t3, n91, cq, hu⟩, t1, ⟨tx2, p2⟩, ⟨hbb.1, by omega⟩, ?_⟩
  obtain ⟨y, ey, j2, hs2, Py⟩ := rt_holder hn X.vs X.rx.2.2.2 (om_e X.rx.2.1 X.rx.1.2.1) (c := (k : Int)) (by omega) W (f := uu) (s := s) (by omega) tx
  have hs3 := hsn_e hn X.rx.1 X.rx.2.1 X.vs _ _ _ _ (by omega) hs2
  obtain ⟨eb, ej⟩ := hsn_det _ _ _ _ _ _ hs hs3
  have ej := ej (by omega)
  have VH := vr_holder (nn := nn) (o := k) (t := pt_S (Bf k) (nf k) o 1) (s := s) (c := uu) (h := B) (by rw [d2]; exact Nk) d1 hk t1 (.inr (by rw [d2]; exact hu)) (by rw [d2]; exact hg_end HG hu) y ey
  rcases VH with ⟨ev, _⟩ | ⟨dd, jj, hf, ev⟩
  · rw [ev] at eb
    have eb : bb = -1 := eb
    exfalso; omega
  · rw [d2] at hf
    have ed : bb = dd := by rw [eb, ev]
    have e121 : y.2 160 121 = (jj : Int) := by rw [ev]; show up_M B 160 121 (jj : Int) 160 121 = _; rw [up_s]
    refine ⟨jj, ?_, by rw [ed]; exact hf⟩
    rcases Py with ⟨z, _⟩ | ⟨_, _, z⟩
    · exfalso; omega
    · rw [z, up_s] at e121
      omega
/-- fields: the kind is no method's -/
theorem sx_s0 (S : SXc Bf nf cnt A B k i t P op o) (X : RTP nn g0 ω B (t : Int) (k : Int) kk N T U tt ai p) (tx : TX (ω (k : Int)) (k : Int) (pt_S (Bf k) (nf k) o 2)) (tk : TKU nn f (k : Int) (ω (k : Int)) (pt_S (Bf k) (nf k) o 2) ty) : sk_V (Bf k) (nf k) o = 0 := by
  have d1 := S.1.2.1.1
  have hk := S.2.2.2.2.1.2.1
  obtain ⟨W, hg⟩ := tr_w X.rx hk
  have e := (tr_x0 d1 W hk tx).2
  have n40 := kd_40 tk.1
  rw [e] at n40
  unfold sk_V
  rw [if_neg n40]
/-- where the field of an object lies -/
theorem sx_fx (hn : 1000000 ≤ nn) (S : SXc Bf nf cnt A B k i t P op o) (X : RTP nn g0 ω B (t : Int) (k : Int) kk N T U tt ai p) (mr : MRF nn g0 ω (k : Int) (ω (k : Int)) o 0 uu bb j) (cv : CVt nn g0 B (4 + 2 * uu) v) (v0 : ¬ v = 0) : (1 ≤ v ∧ v ≤ B 160 141) ∧ (0 ≤ ca_F Bf nf cnt (sp_F Bf nf cnt bb) ∧ ca_F Bf nf cnt (sp_F Bf nf cnt bb) + j < B 248 v.toNat) := by
  obtain ⟨⟨c1, c2, c3⟩, ⟨d1, d2⟩, Nk, HG, _⟩ := S.1
  have e98 := X.rx.2.1.1
  have V := X.vs
  have XV0 := X.rx.1
  have AE := X.rx.2.1
  obtain ⟨⟨Vg, Sg⟩, O, CA, _⟩ := X.rx.1
  obtain ⟨st4, ⟨ub, ct⟩, hs, hbb, hj, eqt⟩ := mr
  have un : (1 ≤ v ∧ v ≤ B 160 141) ∧ B 246 v.toNat < 99 ∧ UNd nn g0 (B 246 v.toNat) uu := by
    rcases cv with z | z | z | ⟨z0, z⟩
    · exfalso; omega
    · exfalso; omega
    · exact absurd z v0
    · refine ⟨z0, ?_⟩
      rcases z with z | ⟨y, y0, z1, z2⟩ | ⟨y, y0, z1, z2⟩
      · exfalso; omega
      · rw [show y = uu by omega] at z2
        rcases z2 with z2 | z2
        · exfalso
          obtain ⟨m, up⟩ := hsn_up _ _ _ _ hs (by omega)
          rw [z2.2] at up
          have := und_0 ⟨show ¬ bb = -1 by omega, m, up⟩
          omega
        · exact z2
      · exfalso; omega
  obtain ⟨ob, so, un⟩ := un
  obtain ⟨m, up⟩ := hsn_up _ _ _ _ hs (by omega)
  have unb : UNd nn g0 (B 246 v.toNat) bb := und_tr un ⟨by omega, m, up⟩
  obtain ⟨o1, o2⟩ := X.hp.1 v ob.1 ob.2
  obtain ⟨w1, w2, w3⟩ : (0 ≤ B 246 v.toNat ∧ B 246 v.toNat < 8 + g0 160 98) ∧ FO nn g0 (B 246 v.toNat) (B 248 v.toNat) ∧ FLV nn g0 ω B v := by
    rcases o2 with z | z | z
    · exact z.2
    · exfalso; omega
    · exfalso; omega
  obtain ⟨sy, esy, psy⟩ := su_rg hn Vg Sg (k := bb) (by omega)
  have es := ce_super (nn := nn) Vg V O AE (k := bb) (by omega)
  rw [esy] at es
  have hb : ISc (B 160 98) bb := ⟨by omega, by omega⟩
  have sp := vr_super (nn := nn) (c := bb) (h := B) (by rw [d2]; exact Nk) d1 hb sy es
  rw [d2] at sp
  obtain ⟨fv, ef, P23, _⟩ := rt_fields hn XV0 AE V psy
  have rg := flv_rg hn XV0 w1 unb w2 hbb hj esy P23
  have ef2 := vr_fields HG Nk d1 d2 (c := sy) (by unfold ISc; omega) fv ef
  rw [ef2, sp] at rg
  exact ⟨ob, rg.1, rg.2⟩
/-- the class's cell of a field -/
theorem rc_fce (S : SXc Bf nf cnt A B k i t P op o) (X : RTP nn g0 ω B (t : Int) c kk N T U tt ai p) (C : CPp A u t H) (hv : v = 0 ∨ ((1 ≤ v ∧ v ≤ B 160 141) ∧ 0 ≤ L ∧ L < B 248 v.toNat)) : Pc (qf_X5_fieldCell nn v L u) (fun y => (v = 0 ∧ y = -1) ∨ (¬ v = 0 ∧ y = B 247 v.toNat + L)) := by
  have E := S.2.1.2.2.2.1
  have g141 := gF_160_141 X.vs
  unfold qf_X5_fieldCell
  refine pc_sv (rc_iso (B := B) (by rw [C.1 143 4 (by omega)]; exact E.1.1) (by omega) (by omega)) ?_; intro u4 q4
  refine pc_if (fun z => ?_) (fun z => ?_)
  · unfold qj_X5_fieldCell_20
    refine pc_if (fun _ => pc_ret (.inl ⟨by omega, rfl⟩)) (fun _ => ?_)
    exact pc_if (fun _ => pc_ret (.inl ⟨by omega, rfl⟩)) (fun _ => pc_ret (.inl ⟨by omega, rfl⟩))
  · have v0 : ¬ v = 0 := by omega
    have hv1 : (1 ≤ v ∧ v ≤ B 160 141) ∧ 0 ≤ L ∧ L < B 248 v.toNat := by omega
    obtain ⟨⟨_, _, o3, o4⟩, ⟨o5, o6, o7⟩, o8, o9, _⟩ := sx_ob S X hv1.1
    refine pc_rA ?_; intro _ _ v6 e6
    rw [C.1 146 _ (by omega), o3] at e6
    refine pc_add (by omega) ?_; intro v7 e7
    unfold qj_X5_fieldCell_20
    refine pc_if (fun w => absurd w (by omega)) (fun _ => ?_)
    refine pc_if (fun w => absurd w (by omega)) (fun _ => ?_)
    exact pc_ret (.inr ⟨v0, by omega⟩)
theorem rgv_121 {x : Int} (D : RGV (up_M B 160 121 y) r t H v x) : RGV B r t H v x := by
  obtain ⟨D1, D2, D3, D4⟩ := D
  refine ⟨fun x j w1 w2 w3 w4 => ?_, D2, D3, fun n hn => ?_⟩
  · rw [D1 x j w1 w2 w3 w4, up_n w1]
  · rw [D4 n hn, up_n (by omega)]
theorem jo_g2 (S : SXc Bf nf cnt A B k i t P op o) (C : CPp A u t H) (D : RPp (up_M B 160 121 y) z t H) (h30 : H < 30) (hl : (H : Int) ≤ B 254 t) (hw : -10000 ≤ wd ∧ wd ≤ 10000) : Pc (qf_X5_give nn v wd u) (fun g => Pc (mx_sv (qf_X13_give nn v z) fun y => qj_X13_step_1150 nn wd y) (STQ nn Bf nf cnt t B g)) := by
  obtain ⟨⟨q1, q2, q3⟩, q4, q5, _⟩ := sxc_p S
  refine pc_imp (rc_gvp C q1 q3 h30 q4 hw) (fun g G => pc_imp (rr_gvp D (by rw [up_n (by omega)]; exact q2) q3 h30 (by rw [up_n (by omega)]; exact q5) hw) (fun r Rr => ?_))
  rw [up_n (by omega)] at Rr
  exact fin_v S G (rgv_121 Rr) hl
theorem jo_h2 (S : SXc Bf nf cnt A B k i t P op o) (C : CPp A u t H) (D : RPp (up_M B 160 121 y) z t H) (hl : (H : Int) ≤ B 254 t) (hw : -10000 ≤ wd ∧ wd ≤ 10000) : Pc (wr_A 20000 147 x v u fun h2 => mx_sv (qf_X5_goOn nn wd h2) fun u4 => some u4) (fun g => Pc (wr_A 20000 249 x v z fun h14 => qj_X13_step_1150 nn wd h14) (STQ nn Bf nf cnt t B g)) := by
  obtain ⟨q, q4, q5, q6, q7, q8⟩ := sxc_p S
  have f := rr_fra S.2.1 (t := t) (by omega)
  refine pc_wA ?_; intro x0 x1 h2 e2
  refine pc_tw (pc_wA ?_); intro _ _ h14 e14
  refine pc_tw ?_
  refine pc_sv (P := fun g => Pc _ (STQ nn Bf nf cnt t B g)) ?_ (fun u q => pc_ret q)
  have C2 : CPp (up_M A 147 x.toNat v) h2 t H := by
    refine ⟨fun c j w => ?_, by rw [e2, up_n (by omega)]; exact C.2⟩
    by_cases y : c = 147 ∧ j = x.toNat
    · rw [y.1, y.2, e2, up_s, up_s]
    · rw [e2, up_n y, up_n y, C.1 c j w]
  have D2 : RPp (up_M (up_M B 160 121 y) 249 x.toNat v) h14 t H := by
    refine ⟨fun c j w => ?_, by rw [e14, up_n (by omega)]; exact D.2⟩
    by_cases y : c = 249 ∧ j = x.toNat
    · rw [y.1, y.2, e14, up_s, up_s]
    · rw [e14, up_n y, up_n y, D.1 c j w]
  refine pc_imp (rc_gop C2 (by rw [up_n (by omega)]; exact q.1) (by rw [up_n (by omega)]; exact q4) (w := wd) (by omega)) (fun g G => ?_)
  refine pc_imp (rr_on1 D2 (by rw [up_n (by omega), up_n (by omega)]; exact q.2.1) q.2.2 (by rw [up_n (by omega), up_n (by omega)]; exact q5) (w := wd) (by omega)) (fun r Rr => ?_)
  obtain ⟨G1, ⟨G2, G3⟩, G4, G5⟩ := G
  obtain ⟨r1, ⟨r2, r3⟩, r5⟩ := Rr
  refine fin_h (H := H) S (rr_hw S.2.1 x0 rfl rfl) G1 (fun xx jj w1 w2 w3 w4 => ?_) (fun c j w => by rw [up_n (by omega)]) (fun x j w => by rw [up_n (by omega)]) hl ?_ ?_ (by rw [G3, r3]) (fun n hn => ?_) (fun n hn n1 n2 => ?_)
  · rw [r1 xx jj w1 w2 w3 w4]
    by_cases y2 : xx = 249 ∧ jj = x.toNat
    · rw [y2.1, y2.2, up_s, up_s]
    · rw [up_n y2, up_n y2, up_n w1]
  · rw [G4, up_n (by omega)]; exact S.2.2.1
  · rw [G2, r2, up_n (by omega), up_n (by omega), up_n (by omega), q6]
  · rw [G5 n hn, r5 n hn, up_n (by omega), up_n (by omega), up_n (by omega)]; exact f.2.2.1 n hn
  · exfalso; omega
/-- the reference's way to a field, behind its drop -/
theorem rr_fch {K : Int → ms_M → Option ms_M} {Q : ms_M → Prop} (S : SXc Bf nf cnt A B k i t P op o) (D : RPp B z t H) (t4 : tg_S (Bf k) (nf k) o = 4) (t3 : tg_S (Bf k) (nf k) (pt_S (Bf k) (nf k) o 0) = 3) (n91 : ¬ Bf k (na_S (Bf k) (nf k) (pt_S (Bf k) (nf k) (pt_S (Bf k) (nf k) o 0) 0)) = 91) (cq : cq_F Bf nf cnt (Bf k) (nf k) (pt_S (Bf k) (nf k) o 0) = uu) (hu : ISc cnt uu) (t1 : tg_S (Bf k) (nf k) (pt_S (Bf k) (nf k) o 1) = 1) {jj : Nat} (hf : HFd Bf nf cnt k (pt_S (Bf k) (nf k) o 1) 0 uu bb jj) (hb : 8 ≤ bb ∧ bb < 8 + cnt) (rg : 0 ≤ B 247 v.toNat ∧ B 247 v.toNat ≤ 20000 ∧ 0 ≤ ca_F Bf nf cnt (sp_F Bf nf cnt bb) ∧ ca_F Bf nf cnt (sp_F Bf nf cnt bb) + (jj : Int) ≤ 20000) (HK : ∀ z2 : ms_M, RPp (up_M B 160 121 (jj : Int)) z2 t H → Pc (K (B 247 v.toNat + (ca_F Bf nf cnt (sp_F Bf nf cnt bb) + (jj : Int))) z2) Q) : Pc (mx_sv (qf_X13_memberPart nn o 0 z) fun u6 => mx_sv (qf_X13_classIn nn u6 z) fun u8 => xl (oq_sub (z 160 149) 1) fun v11 => rd_A 60 251 v11 z fun v12 => xl (oq_sub v12 8) fun v13 => mx_sv (qf_X13_memberPart nn o 1 z) fun u15 => mx_sv (qf_X13_holder nn u8 v13 u15 0 z) fun u17 => rd_A 2001 247 v u17.2 fun v19 => mx_sv (qf_X13_superOf nn u17.1 u17.2) fun u21 => mx_sv (qf_X13_fieldsOf nn u21 u17.2) fun u23 => xl (oq_add v19 u23) fun v24 => xl (oq_add v24 (u17.2 160 121)) fun v26 => K v26 u17.2) Q := by
  obtain ⟨⟨c1, c2, c3⟩, ⟨d1, d2⟩, Nk, HG, _⟩ := S.1
  have q := (sxc_p S).1
  have hk := S.2.2.2.2.1.2.1
  have g3 := HG.1
  obtain ⟨n6, k8⟩ := tb_n6 d1 hk
  have e251 : z 251 t = 8 + (k : Int) := by rw [D.1 251 t (by omega)]; exact S.2.2.2.2.2.1.2.1
  have e149 : z 160 149 = (t : Int) + 1 := by rw [D.1 160 149 (by omega)]; exact q.2.1
  have RZ : RSv Bf nf z := rsv_k d1 (fun x j w => D.1 x j (by omega)) (D.1 160 98 (by omega))
  have z98 : z 160 98 = cnt := by rw [D.1 160 98 (by omega)]; exact d2
  have hkz : (k : Int) < z 160 98 := by rw [D.1 160 98 (by omega)]; exact hk
  have M0 := rr_prt (nn := nn) (o := o) RZ hkz e149 q.2.2 e251 t4 (y := 0) (by omega)
  have M1 := rr_prt (nn := nn) (o := o) RZ hkz e149 q.2.2 e251 t4 (y := 1) (by omega)
  rw [show ((0 : Nat) : Int) = 0 from rfl] at M0
  rw [show ((1 : Nat) : Int) = 1 from rfl] at M1
  refine pc_sv M0 ?_; intro u6 q6
  rw [q6]
  have CI := rr_cin (nn := nn) (o := pt_S (Bf k) (nf k) o 0) (t := t) (k := k) (h := z) (by rw [z98]; exact Nk) RZ hkz e149 q.2.2 e251 t3 n91
  rw [z98, cq] at CI
  refine pc_sv CI ?_; intro u8 q8
  rw [q8, e149]
  refine pc_sub (by omega) ?_; intro v11 e11
  rw [show v11 = (t : Int) by omega]
  refine pc_rA ?_; intro _ _ v12 e12
  rw [Int.toNat_natCast, e251] at e12
  refine pc_sub (by omega) ?_; intro v13 e13
  rw [show v13 = (k : Int) by omega]
  refine pc_sv M1 ?_; intro u15 q15
  rw [q15]
  have VH := vr_holder (nn := nn) (o := k) (t := pt_S (Bf k) (nf k) o 1) (s := 0) (c := uu) (h := z) (by rw [z98]; exact Nk) RZ hkz t1 (.inr (by rw [z98]; exact hu)) (by rw [z98]; exact hg_end HG hu)
  refine pc_sv VH ?_; intro u17 q17
  rcases q17 with ⟨_, no⟩ | ⟨dd, j2, hf2, e17⟩
  · rw [z98] at no
    exact absurd (hfd_n hf no) id
  · rw [z98] at hf2
    obtain ⟨ed, ej⟩ := hfd_u hf hf2
    rw [← ed, ← ej] at e17
    rw [e17]
    show Pc (rd_A 2001 247 v (up_M z 160 121 (jj : Int)) fun v19 => mx_sv (qf_X13_superOf nn bb (up_M z 160 121 (jj : Int))) fun u21 => mx_sv (qf_X13_fieldsOf nn u21 (up_M z 160 121 (jj : Int))) fun u23 => xl (oq_add v19 u23) fun v24 => xl (oq_add v24 (up_M z 160 121 (jj : Int) 160 121)) fun v26 => K v26 (up_M z 160 121 (jj : Int))) Q
    have D2 : RPp (up_M B 160 121 (jj : Int)) (up_M z 160 121 (jj : Int)) t H := by
      refine ⟨fun x j w => ?_, by rw [up_n (by omega)]; exact D.2⟩
      by_cases y : x = 160 ∧ j = 121
      · rw [y.1, y.2, up_s, up_s]
      · rw [up_n y, up_n y, D.1 x j w]
    have R2 : RSv Bf nf (up_M z 160 121 (jj : Int)) := rsv_k RZ (fun x j w => up_n (by omega)) (up_n (by omega))
    have z298 : up_M z 160 121 (jj : Int) 160 98 = cnt := by rw [up_n (by omega)]; exact z98
    generalize up_M z 160 121 (jj : Int) = z2 at *
    refine pc_rA ?_; intro _ _ v19 e19
    rw [D2.1 247 _ (by omega), up_n (by omega)] at e19
    have SP := vr_super (nn := nn) (c := bb) (h := z2) (by rw [z298]; exact Nk) R2 (by rw [z298]; exact ⟨by omega, hb.2⟩)
    rw [z298] at SP
    refine pc_sv SP ?_; intro u21 q21
    have hsp : sp_F Bf nf cnt bb = -1 ∨ ISc cnt (sp_F Bf nf cnt bb) := sp_is g3.1 (by omega)
    rw [q21]
    refine pc_sv (vr_fields HG Nk R2 z298 hsp) ?_; intro u23 q23
    rw [D2.1 160 121 (by omega), up_s]
    refine pc_add (by omega) ?_; intro v24 e24
    refine pc_add (by omega) ?_; intro v26 e26
    rw [show v26 = B 247 v.toNat + (ca_F Bf nf cnt (sp_F Bf nf cnt bb) + (jj : Int)) by omega]
    exact HK z2 D2
theorem js_180 (hn : 1000000 ≤ nn) (S : SXc Bf nf cnt A B k i t P op o) (X : RTP nn g0 ω B (t : Int) (k : Int) kk N T U tt ai p) (y : op = 180) (po : B 254 t = ((H + 1 : Nat) : Int)) (mr : MRF nn g0 ω (k : Int) (ω (k : Int)) o 0 uu bb j) (tk : TKU nn f (k : Int) (ω (k : Int)) (ω (k : Int) 238 (pl (ω (k : Int)) (k : Int) o + 1 + 2).toNat) ty) (cv : CVt nn g0 B (4 + 2 * uu) (B 255 (60 * t + 30 + H))) : Pc (qf_X5_step nn A) (fun g => Pc (qf_X13_step nn B) (STQ nn Bf nf cnt t B g)) := by
  refine j_two (fun Q => cz_g180 S.2.2.2.1 y) (fun Q => rz_g180 S.2.2.2.2 (.inl y)) ?_
  have h := rtp_h X
  have q := (sxc_p S).1
  have E := S.2.1.2.2.2.1
  obtain ⟨c0, r0⟩ := sx_c0 S po
  have vv := sx_v S (H := H) (by omega) (by omega)
  obtain ⟨t4, ⟨t3, n91, cq, hu⟩, t1, ⟨tx2, e2⟩, hb, jj, ej, hf⟩ := sx_mf hn S X mr
  rw [e2] at tk
  have s0 := sx_s0 S X tx2 tk
  have hu' := hu
  unfold ISc at hu'
  have g3 := S.1.2.2.2.1.1
  obtain ⟨i1, i2, i3⟩ := tg_in (B := Bf k) (n := nf k) (k := o) (by omega)
  have fx := sx_fx hn S X mr cv
  have iso : B 255 (60 * t + 30 + H) = 0 ∨ ((1 ≤ B 255 (60 * t + 30 + H) ∧ B 255 (60 * t + 30 + H) ≤ B 160 141) ∧ 0 ≤ ca_F Bf nf cnt (sp_F Bf nf cnt bb) + (jj : Int) ∧ ca_F Bf nf cnt (sp_F Bf nf cnt bb) + (jj : Int) < B 248 (B 255 (60 * t + 30 + H)).toNat) := by
    by_cases z : B 255 (60 * t + 30 + H) = 0
    · exact .inl z
    · have := fx z
      exact .inr ⟨this.1, by omega, by omega⟩
  unfold qj_X13_step_1020
  refine pc_sv (P := fun g => Pc _ (STQ nn Bf nf cnt t B g)) ?_ (fun u q => pc_ret q)
  refine pc_tw (pc_sv (P := fun r => Pc _ (fun g => STQ nn Bf nf cnt t B g r)) ?_ (fun u q => pc_ret q))
  unfold qf_X13_fieldOf
  rw [if_pos (show ¬ op = 181 by omega)]
  unfold qj_X13_fieldOf_15
  refine pc_sv (rr_pp r0 q.2.1 q.2.2 (by omega)) ?_; intro u4 ⟨v4, D4⟩
  refine pc_tw ?_
  unfold qf_X5_stepField
  refine pc_sv (rc_pp c0 q.1 q.2.2 (by omega)) ?_; intro u2 ⟨v2, C2⟩
  have ev : u2.1 = u4.1 := by rw [v2, v4, vv]
  rw [ev]
  refine pc_sv (sx_ln S (C2.1 143 17 (by omega)) (C2.1 148 t (by omega)) (fun x => C2.1 68 x (by omega)) ⟨i1, i2⟩) ?_; intro u4' ⟨_, q4⟩
  have q4 := q4.2.2.1 t4 s0 bb jj (by rw [cq]; omega) (by rw [cq]; exact hf)
  rw [q4]
  rw [← v4] at iso
  refine pc_sv (rc_fce S X C2 iso) ?_; intro u6 q6
  by_cases z : u4.1 = 0
  · rw [if_neg (show ¬ ¬ u6 = -1 by omega), if_neg (show ¬ ¬ u4.1 = 0 from fun n => n z)]
    refine pc_xl ?_; intro h11 e11
    exact pc_ret (pc_se (fun r er => pc_ret (fin_f S C2 D4 (by omega) (c := 2) (by omega) e11 er)))
  · have iso2 : (1 ≤ u4.1 ∧ u4.1 ≤ B 160 141) ∧ 0 ≤ ca_F Bf nf cnt (sp_F Bf nf cnt bb) + (jj : Int) ∧ ca_F Bf nf cnt (sp_F Bf nf cnt bb) + (jj : Int) < B 248 u4.1.toNat := by omega
    obtain ⟨⟨_, _, o3, o4⟩, ⟨o5, o6, o7⟩, o8, o9, _⟩ := sx_ob S X iso2.1
    rw [if_pos (show ¬ u6 = -1 by omega), if_pos (show ¬ u4.1 = 0 from z), if_pos (show ¬ op = 190 by omega)]
    refine pc_rA ?_; intro _ _ v8 e8
    rw [C2.1 147 _ (by omega), E.2.2.2 _ (by omega)] at e8
    refine pc_tw ?_
    rw [← v4] at cv
    have fx2 := sx_fx hn S X mr cv z
    refine rr_fch (K := fun v26 z2 => if ¬ op = 180 then (wr_A 20000 249 v26 0 z2 fun h28 => qj_X13_fieldOf_147 nn 2 h28) else (rd_A 20000 249 v26 z2 fun v30 => mx_sv (qf_X13_give nn v30 z2) fun u32 => qj_X13_fieldOf_147 nn 2 u32)) (v := u4.1) S D4 t4 t3 n91 cq hu t1 hf hb ⟨by omega, by omega, fx2.2.1, by omega⟩ (fun z2 D2 => ?_)
    show Pc (if ¬ op = 180 then _ else _) _
    rw [if_neg (show ¬ ¬ op = 180 from fun n => n y)]
    refine pc_rA ?_; intro _ _ v30 e30
    rw [D2.1 249 _ (by omega), up_n (by omega)] at e30
    rw [show v30 = v8 by rw [e30, e8, show u6 = B 247 u4.1.toNat + (ca_F Bf nf cnt (sp_F Bf nf cnt bb) + (jj : Int)) by omega]]
    refine pc_tw ?_
    exact pc_sv (jo_g2 S C2 D2 (by omega) (by omega) (by omega)) (fun u q => pc_ret q)
theorem js_181 (hn : 1000000 ≤ nn) (S : SXc Bf nf cnt A B k i t P op o) (X : RTP nn g0 ω B (t : Int) (k : Int) kk N T U tt ai p) (y : op = 181) (po : B 254 t = ((H + 1 + 1 : Nat) : Int)) (mr : MRF nn g0 ω (k : Int) (ω (k : Int)) o 0 uu bb j) (tk : TKU nn f (k : Int) (ω (k : Int)) (ω (k : Int) 238 (pl (ω (k : Int)) (k : Int) o + 1 + 2).toNat) ty) (cv : CVt nn g0 B (4 + 2 * uu) (B 255 (60 * t + 30 + H))) : Pc (qf_X5_step nn A) (fun g => Pc (qf_X13_step nn B) (STQ nn Bf nf cnt t B g)) := by
  refine j_two (fun Q => cz_g181 S.2.2.2.1 y) (fun Q => rz_g180 S.2.2.2.2 (.inr y)) ?_
  have h := rtp_h X
  have q := (sxc_p S).1
  have E := S.2.1.2.2.2.1
  obtain ⟨c0, r0⟩ := sx_c0 S po
  have vv := sx_v S (H := H) (by omega) (by omega)
  have vw := sx_v S (H := H + 1) (by omega) (by omega)
  obtain ⟨t4, ⟨t3, n91, cq, hu⟩, t1, ⟨tx2, e2⟩, hb, jj, ej, hf⟩ := sx_mf hn S X mr
  rw [e2] at tk
  have s0 := sx_s0 S X tx2 tk
  have hu' := hu
  unfold ISc at hu'
  have g3 := S.1.2.2.2.1.1
  obtain ⟨i1, i2, i3⟩ := tg_in (B := Bf k) (n := nf k) (k := o) (by omega)
  have fx := sx_fx hn S X mr cv
  have iso : B 255 (60 * t + 30 + H) = 0 ∨ ((1 ≤ B 255 (60 * t + 30 + H) ∧ B 255 (60 * t + 30 + H) ≤ B 160 141) ∧ 0 ≤ ca_F Bf nf cnt (sp_F Bf nf cnt bb) + (jj : Int) ∧ ca_F Bf nf cnt (sp_F Bf nf cnt bb) + (jj : Int) < B 248 (B 255 (60 * t + 30 + H)).toNat) := by
    by_cases z : B 255 (60 * t + 30 + H) = 0
    · exact .inl z
    · have := fx z
      exact .inr ⟨this.1, by omega, by omega⟩
  unfold qj_X13_step_1020
  refine pc_sv (P := fun g => Pc _ (STQ nn Bf nf cnt t B g)) ?_ (fun u q => pc_ret q)
  refine pc_tw (pc_sv (P := fun r => Pc _ (fun g => STQ nn Bf nf cnt t B g r)) ?_ (fun u q => pc_ret q))
  unfold qf_X13_fieldOf
  rw [if_neg (show ¬ ¬ op = 181 from fun n => n y)]
  refine pc_sv (rr_pp r0 q.2.1 q.2.2 (by omega)) ?_; intro u43 ⟨v43, D43⟩
  unfold qj_X13_fieldOf_15
  refine pc_sv (rr_pp D43 q.2.1 q.2.2 (by omega)) ?_; intro u4 ⟨v4, D4⟩
  refine pc_tw ?_
  unfold qf_X5_stepGiveField
  refine pc_sv (rc_pp c0 q.1 q.2.2 (by omega)) ?_; intro u1 ⟨v1, C1⟩
  refine pc_sv (rc_pp C1 q.1 q.2.2 (by omega)) ?_; intro u2 ⟨v2, C2⟩
  have ev : u2.1 = u4.1 := by rw [v2, v4, vv]
  have ew : u1.1 = u43.1 := by rw [v1, v43, vw]
  rw [ev, ew]
  refine pc_sv (sx_ln S (C2.1 143 17 (by omega)) (C2.1 148 t (by omega)) (fun x => C2.1 68 x (by omega)) ⟨i1, i2⟩) ?_; intro u4' ⟨_, q4⟩
  have q4 := q4.2.2.1 t4 s0 bb jj (by rw [cq]; omega) (by rw [cq]; exact hf)
  rw [q4]
  rw [← v4] at iso
  refine pc_sv (rc_fce S X C2 iso) ?_; intro u6 q6
  by_cases z : u4.1 = 0
  · rw [if_neg (show ¬ ¬ u6 = -1 by omega), if_neg (show ¬ ¬ u4.1 = 0 from fun n => n z)]
    refine pc_xl ?_; intro h11 e11
    exact pc_ret (pc_se (fun r er => pc_ret (fin_f S C2 D4 (by omega) (c := 2) (by omega) e11 er)))
  · have iso2 : (1 ≤ u4.1 ∧ u4.1 ≤ B 160 141) ∧ 0 ≤ ca_F Bf nf cnt (sp_F Bf nf cnt bb) + (jj : Int) ∧ ca_F Bf nf cnt (sp_F Bf nf cnt bb) + (jj : Int) < B 248 u4.1.toNat := by omega
    obtain ⟨⟨_, _, o3, o4⟩, ⟨o5, o6, o7⟩, o8, o9, _⟩ := sx_ob S X iso2.1
    rw [if_pos (show ¬ u6 = -1 by omega), if_pos (show ¬ u4.1 = 0 from z), if_pos (show ¬ op = 190 by omega)]
    refine pc_tw ?_
    rw [← v4] at cv
    have fx2 := sx_fx hn S X mr cv z
    refine rr_fch (K := fun v26 z2 => if ¬ op = 180 then (wr_A 20000 249 v26 u43.1 z2 fun h28 => qj_X13_fieldOf_147 nn 2 h28) else (rd_A 20000 249 v26 z2 fun v30 => mx_sv (qf_X13_give nn v30 z2) fun u32 => qj_X13_fieldOf_147 nn 2 u32)) (v := u4.1) S D4 t4 t3 n91 cq hu t1 hf hb ⟨by omega, by omega, fx2.2.1, by omega⟩ (fun z2 D2 => ?_)
    show Pc (if ¬ op = 180 then _ else _) _
    rw [if_pos (show ¬ op = 180 by omega)]
    rw [show u6 = B 247 u4.1.toNat + (ca_F Bf nf cnt (sp_F Bf nf cnt bb) + (jj : Int)) by omega]
    refine pc_tw ?_
    exact jo_h2 S C2 D2 (by omega) (by omega)
end

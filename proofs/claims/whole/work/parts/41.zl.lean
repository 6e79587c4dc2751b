/- VERIFY: constants of instructions; what an instruction makes of the state: the class's side -/
section
variable {nn : Nat} {Bf : Nat → Nat → Int} {nf : Nat → Nat} {cnt mx : Int} {B C D : Nat → Int} {n m b d k i L p q : Nat} {M h g r h0 : ms_M} {t c a op : Int} {o : Option ST3} {o2 : Option (Int × ST3)} {s : ST3}
theorem vc_iom (S : CSv Bf nf h) {d num : Int} {j : Nat} (dr : 8 ≤ d ∧ d < 8 + h 56 3) (j12 : (j : Int) < 12) (en : num = (d - 8) * 12 + (j : Int)) : Pc (qf_X7_imageOfMember nn num h) (fun v => v = h 60 (d - 8).toNat ∧ 0 ≤ v) := by
  have g3 := S.1
  have X := S.2 (d - 8).toNat (by omega)
  have k3 : kc_O (h 60 (d - 8).toNat).toNat = 3 := X.1.1.1
  have h60 : 0 ≤ h 60 (d - 8).toNat := Classical.byContradiction fun z => by
    rw [show (h 60 (d - 8).toNat).toNat = 0 by omega] at k3
    exact absurd k3 (by decide)
  unfold qf_X7_imageOfMember
  refine pc_if (fun z => absurd z (by omega)) (fun _ => ?_)
  refine pc_xl ?_; intro v2 e2
  rw [oq_mul_eq (by omega) (by omega) (by omega)] at e2
  refine pc_if (fun z => absurd z (by omega)) (fun _ => ?_)
  refine pc_xl ?_; intro v4 e4
  rw [Int.tdiv_eq_ediv_of_nonneg (by omega)] at e4
  refine pc_rA ?_; intro _ _ v5 e5'
  rw [show v4 = d - 8 by omega] at e5'
  exact pc_ret ⟨e5', by rw [e5']; exact h60⟩
theorem vc_iom0 {num : Int} (e : num = -1) : Pc (qf_X7_imageOfMember nn num h) (fun v => v = -1) := by
  unfold qf_X7_imageOfMember
  exact pc_if (fun _ => pc_ret rfl) (fun z => absurd (show num < 0 by omega) z)
theorem vc_mr131 {x y : Int} : Pc (qj_X11_isMemberRight_131 nn x y h) (fun u => (u = 1 ∧ y = x) ∨ (u = 0 ∧ ¬ y = x)) := by
  unfold qj_X11_isMemberRight_131
  exact pc_if (fun z => pc_ret (.inr ⟨rfl, z⟩)) (fun z => pc_ret (.inl ⟨rfl, by omega⟩))
theorem vc_mr115 {x : Int} : Pc (qj_X11_isMemberRight_115 nn op x h) (fun u => (u = 1 ∧ x = (if op = 184 then 1 else 0)) ∨ (u = 0 ∧ ¬ x = (if op = 184 then 1 else 0))) := by
  unfold qj_X11_isMemberRight_115
  refine pc_if (fun z => ?_) (fun z => ?_)
  · rw [if_neg z]; exact vc_mr131
  · rw [if_pos (by omega)]; exact vc_mr131
/-- IS THE MEMBER RIGHT -/
theorem vc_mright (C : CMz Bf nf cnt k i h) (H : HGo Bf nf cnt) (ho : op = 180 ∨ op = 181 ∨ op = 182 ∨ op = 184) : Pc (qf_X11_isMemberRight nn op a h) (fun u => (u = 1 ∧ MBr Bf nf cnt k op a) ∨ (u = 0 ∧ ¬ MBr Bf nf cnt k op a)) := by
  obtain ⟨⟨c1, c2⟩, -, ⟨c6, c7⟩, -⟩ := C
  obtain ⟨S, hi, hk, e5, e6⟩ := c1
  have hk' : (k : Int) < cnt := by omega
  obtain ⟨Gk, Ok, z, zk, z2⟩ := H.2 k hk'
  have X := S.1.2 k hk
  have T := X.1
  unfold qf_X11_isMemberRight
  rw [e5]
  refine pc_ck (fun _ => pc_ck (fun _ => pc_ck (fun _ => pc_ck (fun _ => ?_))))
  by_cases t4 : tg_S (Bf k) (nf k) a = 4
  · obtain ⟨a1, a2, -⟩ := tg_in (B := Bf k) (n := nf k) (k := a) (by omega)
    obtain ⟨t0, t1, t2, KK⟩ := mb_tx zk z2 t4
    have ci := cq_is (Bf := Bf) (nf := nf) H.1 zk z2 t0
    have hc : (0 ≤ cq_F Bf nf cnt (Bf k) (nf k) (pt_S (Bf k) (nf k) a 0) ∧ cq_F Bf nf cnt (Bf k) (nf k) (pt_S (Bf k) (nf k) a 0) < 16) → cq_F Bf nf cnt (Bf k) (nf k) (pt_S (Bf k) (nf k) a 0) = -1 ∨ ISc cnt (cq_F Bf nf cnt (Bf k) (nf k) (pt_S (Bf k) (nf k) a 0)) := fun w => by
      rcases ci with c | c
      · exact .inl c
      · rcases c.2 with c | c | c
        · omega
        · exact .inr c.1
        · omega
    refine pc_sv (P := fun u => u = pt_S (Bf k) (nf k) a 2) (fun u eu => by
      have z := c_part (nn := nn) T (k := a) (i := 2) (.inr ⟨t4, by omega⟩)
      rw [show ((2 : Nat) : Int) = 2 from rfl] at z
      rw [z] at eu; exact (Option.some.inj eu).symm) ?_; intro u26 q26
    rw [q26]
    obtain ⟨w1, w2, w3⟩ := c_text (nn := nn) T t2
    refine pc_sv (P := fun u => u = ((na_S (Bf k) (nf k) (pt_S (Bf k) (nf k) a 2) : Nat) : Int)) (fun u eu => by rw [w1] at eu; exact (Option.some.inj eu).symm) ?_; intro u28 q28
    rw [q28]
    have nl : na_S (Bf k) (nf k) (pt_S (Bf k) (nf k) a 2) < nf k := by
      rcases KK with ⟨_, z⟩ | ⟨_, m, z⟩
      · unfold fk_S at z
        rw [Bool.and_eq_true] at z
        have := (kd_s (of_decide_eq_true z.2)).2.1
        have e : na_S (Bf k) (nf k) (pt_S (Bf k) (nf k) a 2) = pl_S (Bf k) (nf k) (pt_S (Bf k) (nf k) a 2) + 2 := rfl
        omega
      · have := mkd_rg (ps_ok z).2.2 0 (Nat.zero_le _)
        omega
    refine pc_sv (P := fun u => u = Bf k (na_S (Bf k) (nf k) (pt_S (Bf k) (nf k) a 2))) (fun u eu => by rw [byteAt_in T.1 nl] at eu; exact (Option.some.inj eu).symm) ?_; intro u30 q30
    have E : ∀ s0 : Int, s0 = sk_V (Bf k) (nf k) a → Pc (qj_X11_isMemberRight_33 nn op a s0 h) (fun u => (u = 1 ∧ MBr Bf nf cnt k op a) ∨ (u = 0 ∧ ¬ MBr Bf nf cnt k op a)) := fun s0 es => by
      unfold qj_X11_isMemberRight_33
      rw [e5]
      refine pc_ck (fun _ => pc_ck (fun _ => ?_))
      refine pc_sv (P := fun u => u = tg_S (Bf k) (nf k) a) (fun u eu => by rw [c_tag T] at eu; exact (Option.some.inj eu).symm) ?_; intro u18 q18
      refine pc_if (fun w => absurd (q18.trans t4) w) (fun _ => ?_)
      refine pc_rA ?_; intro _ _ v20 e20
      unfold qj_X11_isMemberRight_56
      rcases c7 a t4 with ⟨m1, m2⟩ | ⟨d, j, m1, m2, -⟩
      · refine pc_sv (vc_iom0 (e20.trans m1)) ?_; intro u12 q12
        refine pc_if (fun _ => pc_ret (.inr ⟨rfl, fun w => ?_⟩)) (fun w => absurd (show u12 < 0 by omega) w)
        obtain ⟨x1, -⟩ := mbr_t H hk' w
        obtain ⟨-, w16, d, j, w4, w5, -⟩ := w
        rw [← x1] at w4 w5
        exact m2 d j ⟨w16, w4, w5⟩
      · obtain ⟨m16, mH, mT⟩ := m1
        obtain ⟨dr, jm⟩ := hfd_is H.1.1 (hc m16) mH
        obtain ⟨Gd, -, -⟩ := H.2 (d - 8).toNat (by omega)
        have s01 : sk_V (Bf k) (nf k) a = 0 ∨ sk_V (Bf k) (nf k) a = 1 := by
          rcases KK with z | z
          · exact .inl z.1
          · exact .inr z.1
        have j12 : (j : Int) < 12 := by
          have g1 := Gd.1
          have g2 := Gd.2.2.1
          unfold mb_S at jm
          by_cases s0' : sk_V (Bf k) (nf k) a = 0
          · rw [if_pos s0'] at jm; omega
          · rw [if_neg s0'] at jm; omega
        refine pc_sv (vc_iom S.1 (d := d) (j := j) (by rw [c2]; exact dr) j12 (e20.trans m2)) ?_; intro u12 ⟨q12, p12⟩
        refine pc_if (fun w => absurd w (by omega)) (fun _ => ?_)
        have F : ∀ f0 : Int, f0 = (if 182 ≤ op then 1 else 0) → Pc (qj_X11_isMemberRight_87 nn op s0 v20 (((u12).toNat : Nat) : Int) f0 s0 h) (fun u => (u = 1 ∧ MBr Bf nf cnt k op a) ∨ (u = 0 ∧ ¬ MBr Bf nf cnt k op a)) := fun f0 ef => by
          unfold qj_X11_isMemberRight_87
          refine pc_if (fun w => ?_) (fun w => pc_ret (.inr ⟨rfl, fun v => w ?_⟩))
          · have sf : sk_V (Bf k) (nf k) a = (if 182 ≤ op then 1 else 0) := by rw [← es, w, ef]
            refine pc_if (fun y => ?_) (fun y => ?_)
            · have no : ¬ 182 ≤ op := fun v => by rw [if_pos v] at sf; omega
              unfold qj_X11_isMemberRight_114
              refine pc_imp vc_mr115 (fun u q => ?_)
              rw [if_neg (by omega)] at q
              refine .inl ⟨?_, t4, m16, d, j, ?_, ?_, fun v => absurd v no⟩
              · rcases q with q | q
                · exact q.1
                · exact absurd rfl q.2
              · rw [← sf]; exact mH
              · rw [← sf]; exact mT
            · have yo : 182 ≤ op := Classical.byContradiction fun v => by rw [if_neg v] at sf; omega
              rw [sf, if_pos yo] at jm
              unfold mb_S at jm
              rw [if_neg (by decide)] at jm
              have Xd := S.1.2 (d - 8).toNat (by omega)
              obtain ⟨-, -, -, MD⟩ := cg_im Xd
              have b01 := (Gd.2.2.2 j jm).1.1
              refine pc_xl ?_; intro v3 e3
              rw [Int.tmod_eq_emod_of_nonneg (by omega)] at e3
              rw [show v3 = (j : Int) by omega, Int.toNat_natCast, q12]
              refine pc_ck (fun _ => pc_ck (fun _ => ?_))
              refine pc_sv (vq_of (nn := nn) Xd jm (w := 0) (by decide) (MD j jm).1.1) ?_; intro u6 q6
              have FIN : ∀ x : Int, (x = Bf (d - 8).toNat (ma_S (Bf (d - 8).toNat) (nf (d - 8).toNat) j)) → Pc (qj_X11_isMemberRight_115 nn op x h) (fun u => (u = 1 ∧ MBr Bf nf cnt k op a) ∨ (u = 0 ∧ ¬ MBr Bf nf cnt k op a)) := fun x ex => by
                refine pc_imp vc_mr115 (fun u q => ?_)
                rcases q with ⟨q1, q2⟩ | ⟨q1, q2⟩
                · refine .inl ⟨q1, t4, m16, d, j, ?_, ?_, fun _ => by rw [← ex]; exact q2⟩
                  · rw [← sf]; exact mH
                  · rw [← sf]; exact mT
                · refine .inr ⟨q1, fun v => ?_⟩
                  obtain ⟨-, -, d2, j2, v4, v5, v6⟩ := v
                  rw [← sf] at v4
                  obtain ⟨x1, x2⟩ := hfd_u v4 mH
                  rw [x1, x2] at v6
                  exact q2 (ex.trans (v6 yo))
              refine pc_if (fun v => ?_) (fun v => FIN 1 (by omega))
              unfold qj_X11_isMemberRight_114
              exact FIN 0 (by omega)
          · obtain ⟨x1, -⟩ := mbr_t H hk' v
            rw [es, ef]; exact x1
        refine pc_if (fun w => F 0 (by rw [if_neg (by omega)])) (fun w => F 1 (by rw [if_pos (by omega)]))
    refine pc_if (fun w => E 0 (by unfold sk_V; rw [if_neg (by rw [← q30]; exact w)])) (fun w => E 1 (by unfold sk_V; rw [if_pos (by rw [← q30]; omega)]))
  · have E : ∀ s0 : Int, Pc (qj_X11_isMemberRight_33 nn op a s0 h) (fun u => (u = 1 ∧ MBr Bf nf cnt k op a) ∨ (u = 0 ∧ ¬ MBr Bf nf cnt k op a)) := fun s0 => by
      unfold qj_X11_isMemberRight_33
      rw [e5]
      refine pc_ck (fun _ => pc_ck (fun _ => ?_))
      refine pc_sv (P := fun u => u = tg_S (Bf k) (nf k) a) (fun u eu => by rw [c_tag T] at eu; exact (Option.some.inj eu).symm) ?_; intro u18 q18
      refine pc_if (fun _ => ?_) (fun w => absurd (by omega) w)
      unfold qj_X11_isMemberRight_56
      refine pc_sv (vc_iom0 rfl) ?_; intro u12 q12
      exact pc_if (fun _ => pc_ret (.inr ⟨rfl, fun w => t4 w.1⟩)) (fun w => absurd (show u12 < 0 by omega) w)
    refine pc_se ?_; intro u26 _
    refine pc_se ?_; intro u28 _
    refine pc_se ?_; intro u30 _
    exact pc_if (fun _ => E 0) (fun _ => E 1)
/-- IS THE CONSTANT RIGHT -/
theorem vc_cright (C : CMz Bf nf cnt k i h) (H : HGo Bf nf cnt) : Pc (qf_X11_isConstantRight nn op a h) (fun u => (u = 1 ∧ CRt Bf nf cnt k op a) ∨ (u = 0 ∧ ¬ CRt Bf nf cnt k op a)) := by
  have C0 := C
  obtain ⟨⟨c1, c2⟩, -, ⟨c6, c7⟩, -⟩ := C
  obtain ⟨S, hi, hk, e5, e6⟩ := c1
  have T := (S.1.2 k hk).1
  have TG : Pc (qf_X3_tagOf nn (h 60 k).toNat a h) (fun u => u = tg_S (Bf k) (nf k) a) := fun u eu => by rw [c_tag T] at eu; exact (Option.some.inj eu).symm
  have M : (op = 180 ∨ op = 181 ∨ op = 182 ∨ op = 184) → Pc (qj_X11_isConstantRight_152 nn op a h) (fun u => (u = 1 ∧ CRt Bf nf cnt k op a) ∨ (u = 0 ∧ ¬ CRt Bf nf cnt k op a)) := fun ho => by
    unfold qj_X11_isConstantRight_152
    refine pc_sv (vc_mright C0 H ho) ?_; intro u2 q2
    refine pc_ck (fun _ => pc_ret ?_)
    rcases q2 with q | q
    · exact .inl ⟨q.1, fun w => absurd w (by omega), fun w => absurd w (by omega), fun w => absurd w (by omega), fun _ => q.2⟩
    · exact .inr ⟨q.1, fun w => q.2 (w.2.2.2 ho)⟩
  have K : (op = 187 ∨ op = 189 ∨ op = 192 ∨ op = 193) → Pc (qj_X11_isConstantRight_110 nn a h) (fun u => (u = 1 ∧ CRt Bf nf cnt k op a) ∨ (u = 0 ∧ ¬ CRt Bf nf cnt k op a)) := fun ho => by
    unfold qj_X11_isConstantRight_110
    rw [e5]
    refine pc_ck (fun _ => pc_ck (fun _ => ?_))
    refine pc_sv TG ?_; intro u6 q6
    refine pc_if (fun w => pc_ret (.inr ⟨rfl, fun v => w (q6.trans (v.2.1 ho).1)⟩)) (fun w => ?_)
    have t3 : tg_S (Bf k) (nf k) a = 3 := by omega
    refine pc_rA ?_; intro _ _ v8 e8
    rw [c6 a t3] at e8
    unfold qf_X4_isClass
    refine pc_sv (P := fun u => (u = 1 ∧ (0 ≤ v8 ∧ v8 < 16)) ∨ (u = 0 ∧ ¬ (0 ≤ v8 ∧ v8 < 16))) ?_ ?_
    · refine pc_if (fun z => pc_ret (.inr ⟨rfl, by omega⟩)) (fun z => ?_)
      exact pc_if (fun z => pc_ret (.inr ⟨rfl, by omega⟩)) (fun z => pc_ret (.inl ⟨rfl, by omega⟩))
    intro u9 q9
    refine pc_if (fun z => pc_ret (.inr ⟨rfl, fun v => ?_⟩)) (fun z => pc_ret (.inl ⟨rfl, fun w => absurd w (by omega), fun _ => ⟨t3, ?_, ?_⟩, fun w => absurd w (by omega), fun w => absurd w (by omega)⟩))
    · have := (v.2.1 ho).2
      omega
    · omega
    · omega
  unfold qf_X11_isConstantRight
  rw [e5]
  refine pc_if (fun z => ?_) (fun z0 => ?_)
  · refine pc_ck (fun _ => pc_ck (fun _ => ?_))
    refine pc_sv TG ?_; intro u14 q14
    refine pc_if (fun w => pc_ret (.inr ⟨rfl, fun v => w (q14.trans (v.1 z))⟩)) (fun w => pc_ret (.inl ⟨rfl, fun _ => by omega, fun w => absurd w (by omega), fun w => absurd w (by omega), fun w => absurd w (by omega)⟩))
  refine pc_if (fun z => M (by omega)) (fun z1 => ?_)
  refine pc_if (fun z => M (by omega)) (fun z2 => ?_)
  refine pc_if (fun z => M (by omega)) (fun z3 => ?_)
  refine pc_if (fun z => M (by omega)) (fun z4 => ?_)
  refine pc_if (fun z => K (by omega)) (fun z5 => ?_)
  refine pc_if (fun z => ?_) (fun z6 => ?_)
  · refine pc_if (fun w => pc_ret (.inr ⟨rfl, fun v => w (v.2.2.1 z)⟩)) (fun w => pc_ret (.inl ⟨rfl, fun w => absurd w (by omega), fun w => absurd w (by omega), fun _ => by omega, fun w => absurd w (by omega)⟩))
  refine pc_if (fun z => K (by omega)) (fun z7 => ?_)
  refine pc_if (fun z => K (by omega)) (fun z8 => ?_)
  refine pc_if (fun z => K (by omega)) (fun z9 => ?_)
  exact pc_ret (.inl ⟨rfl, fun w => absurd w (by omega), fun w => absurd w (by omega), fun w => absurd w (by omega), fun w => absurd w (by omega)⟩)
/-- one step each -/
theorem vt_301 : VTq cnt 301 := .inr (.inl rfl)
theorem vt_300 : VTq cnt 300 := .inr (.inr (.inl rfl))
theorem vt_200 : VTq cnt 200 := .inr (.inr (.inr (.inl rfl)))
theorem vc_pu (C : CMz Bf nf cnt k i h0) (em : Bf k (ma_S (Bf k) (nf k) i + 3) = mx) (m30 : mx ≤ 30) (A : CSo cnt mx h0 o h) (V : ∀ s : ST3, o = some s → VTq cnt t) : Pc (qf_X11_push nn t h) (CSo cnt mx h0 (o.bind (aU mx t))) := vc_push A ((cms_k C A.1).2.1.2.1.trans em) m30 V
theorem vc_pv (C : CMz Bf nf cnt k i h0) (em : Bf k (ma_S (Bf k) (nf k) i + 3) = mx) (m30 : mx ≤ 30) {u : Int × ms_M} (A : CVp cnt mx h0 o2 u) (V : VTq cnt t) : Pc (qf_X11_push nn t u.2) (CSo cnt mx h0 (o2.bind (fun x => aU mx t x.2))) := pc_imp (vc_pu C em m30 (cs_p A) (fun _ _ => V)) (fun _ z => cs_b z)
theorem cs_loc {x : Nat} (A : CSo cnt mx h0 o h) (V : ∀ s : ST3, o = some s → VTq cnt t) (ea : a = (x : Int)) (e : g = up_M h 134 x t) : CSo cnt mx h0 (o.bind (fun s => some (aL s a t))) g := by
  obtain ⟨K, z | ⟨s, s1, s2, s3, s4, s5, s6⟩⟩ := A
  · rw [z.1]
    exact ⟨fun x y z1 z2 => by rw [e, up_n (by omega)]; exact K x y z1 z2, .inl ⟨rfl, by rw [e, up_n (by omega)]; exact z.2⟩⟩
  · have Vt := V s s1
    rw [s1]
    refine ⟨fun x y z1 z2 => by rw [e, up_n (by omega)]; exact K x y z1 z2, .inr ⟨aL s a t, rfl, by rw [e, up_n (by omega)]; exact s2, ⟨fun j hj => ?_, s3.2.1, s3.2.2⟩, fun j hj => ?_, fun j hj => by rw [e, up_n (by omega)]; exact s5 j hj, by rw [e, up_n (by omega)]; exact s6⟩⟩
    · show VTq cnt (if (j : Int) = a then t else s.1 j)
      by_cases q : (j : Int) = a
      · rw [if_pos q]; exact Vt
      · rw [if_neg q]; exact s3.1 j hj
    · show g 134 j = (if (j : Int) = a then t else s.1 j)
      by_cases q : (j : Int) = a
      · rw [if_pos q, e, show j = x by omega, up_s]
      · rw [if_neg q, e, up_n (by omega)]; exact s4 j hj
/-- OBJECTS -/
theorem vc_apO (C : CMz Bf nf cnt k i h0) (H : HGo Bf nf cnt) (em : Bf k (ma_S (Bf k) (nf k) i + 3) = mx) (m30 : mx ≤ 30) (A : CSo cnt mx h0 (some s) h) (cr : op = 187 ∨ op = 189 ∨ op = 192 ∨ op = 193 → tg_S (Bf k) (nf k) a = 3 ∧ 0 ≤ cq_F Bf nf cnt (Bf k) (nf k) a ∧ cq_F Bf nf cnt (Bf k) (nf k) a < 16) : Pc (qf_X11_applyObject nn op a h) (CSo cnt mx h0 (ap_O (FTq Bf nf cnt) mx (cq_F Bf nf cnt (Bf k) (nf k) a) op s)) := by
  have hk' : (k : Int) < cnt := by have := C.1.1.2.2.1; rw [C.1.2] at this; exact this
  obtain ⟨-, -, zx, zk, z2⟩ := H.2 k hk'
  have IS : (op = 187 ∨ op = 189 ∨ op = 192 ∨ op = 193) → ISc cnt (cq_F Bf nf cnt (Bf k) (nf k) a) := fun w => by
    obtain ⟨t3, r⟩ := cr w
    rcases cq_is (Bf := Bf) (nf := nf) H.1 zk z2 t3 with c | c
    · omega
    · rcases c.2 with c | c | c
      · omega
      · exact c.1
      · omega
  have RD : (op = 187 ∨ op = 189 ∨ op = 192 ∨ op = 193) → ∀ g : ms_M, SKe h0 g → g 128 a.toNat = cq_F Bf nf cnt (Bf k) (nf k) a := fun w g K => (cms_k C K).2.2.1.1 a (cr w).1
  unfold qf_X11_applyObject ap_O
  refine pc_if (fun z => ?_) (fun z => ?_)
  · rw [if_pos z]
    refine pc_sv (vc_want C A m30) ?_; intro u q
    exact pc_ret q
  rw [if_neg z]
  refine pc_if (fun z => ?_) (fun z => ?_)
  · rw [if_pos z]
    refine pc_rA ?_; intro _ _ v8 e8
    rw [RD (by omega) h A.1] at e8
    rw [e8]
    refine pc_sv (vc_pu C em m30 A (fun _ _ => .inr (.inr (.inr (.inr (.inl (IS (by omega)))))))) ?_; intro u q
    exact pc_ret q
  rw [if_neg z]
  refine pc_if (fun z => ?_) (fun z => ?_)
  · rw [if_pos z]
    refine pc_sv (vc_want C A m30) ?_; intro u q
    refine pc_sv (vc_pu C em m30 q (fun _ _ => vt_200)) ?_; intro v w
    exact pc_ret w
  rw [if_neg z]
  refine pc_if (fun z => ?_) (fun z => ?_)
  · rw [if_pos z]
    refine pc_sv (vc_want C A m30) ?_; intro u q
    refine pc_rA ?_; intro _ _ v18 e18
    rw [RD (by omega) u q.1] at e18
    have r := (cr (by omega)).2
    refine pc_add (by omega) ?_; intro v19 e19
    rw [show v19 = 100 + cq_F Bf nf cnt (Bf k) (nf k) a by omega]
    refine pc_sv (vc_pu C em m30 q (fun _ _ => .inr (.inr (.inr (.inr (.inr ?_)))))) ?_
    · rw [show 100 + cq_F Bf nf cnt (Bf k) (nf k) a - 100 = cq_F Bf nf cnt (Bf k) (nf k) a by omega]
      exact IS (by omega)
    intro v w
    exact pc_ret w
  rw [if_neg z]
  refine pc_if (fun z => ?_) (fun z => ?_)
  · rw [if_pos z]
    refine pc_sv (vc_wantA (oi := True) (oc := True) (by simp) (by simp) A m30) ?_; intro u q
    refine pc_sv (vc_pv C em m30 q vt_301) ?_; intro v w
    exact pc_ret w
  rw [if_neg z]
  refine pc_if (fun z => ?_) (fun z => ?_)
  · rw [if_pos z]
    refine pc_sv (vc_want C A m30) ?_; intro u q
    exact pc_ret q
  rw [if_neg z]
  refine pc_if (fun z => ?_) (fun z => ?_)
  · rw [if_pos z]
    refine pc_sv (vc_wantR A m30) ?_; intro u q
    refine pc_rA ?_; intro _ _ v31 e31
    rw [RD (by omega) u.2 q.1] at e31
    rw [e31]
    refine pc_sv (vc_pv C em m30 q (.inr (.inr (.inr (.inr (.inl (IS (by omega)))))))) ?_; intro v w
    exact pc_ret w
  rw [if_neg z]
  refine pc_sv (vc_wantR A m30) ?_; intro u q
  refine pc_sv (vc_pv C em m30 q vt_301) ?_; intro v w
  exact pc_ret w
/-- RETURNS -/
theorem vc_apR (C : CMz Bf nf cnt k i h0) (m30 : mx ≤ 30) (A : CSo cnt mx h0 (some s) h) : Pc (qf_X11_applyReturn nn op h) (CSo cnt mx h0 (ap_R (FTq Bf nf cnt) (rk_F Bf nf cnt k (kt_S (Bf k) (nf k) i 1)) op s)) := by
  have RT : ∀ g : ms_M, SKe h0 g → g 127 20 = rk_F Bf nf cnt k (kt_S (Bf k) (nf k) i 1) := fun g K => (cms_k C K).2.1.2.2
  generalize rk_F Bf nf cnt k (kt_S (Bf k) (nf k) i 1) = rt at RT ⊢
  have ST : ∀ (o : Option ST3) (G : ST3 → Option ST3) (u h1 : ms_M), CSo cnt mx h0 o u → h1 = up_M u 127 19 0 → (∀ s : ST3, o = some s → G s = none) → CSo cnt mx h0 (o.bind G) h1 := fun o G u h1 q e z => by
    refine ⟨ske_19 q.1 e, .inl ⟨?_, by rw [e, up_s]⟩⟩
    cases o with
    | none => rfl
    | some s => exact z s rfl
  unfold qf_X11_applyReturn ap_R
  refine pc_if (fun z => ?_) (fun z => ?_)
  · rw [if_neg z]
    refine pc_if (fun z1 => ?_) (fun z1 => ?_)
    · rw [if_neg z1, RT h A.1]
      refine pc_sv (vc_want C A m30) ?_; intro u4 q4
      have r20 := RT u4 q4.1
      have q4 : CSo cnt mx h0 (aW (FTq Bf nf cnt) rt s) u4 := q4
      refine pc_if (fun y => ?_) (fun y => ?_)
      · refine pc_xl ?_; intro h6 e6
        refine pc_ret (ST _ _ u4 h6 q4 e6 (fun s e => ?_))
        obtain ⟨_, w | ⟨s2, s3, s4, _⟩⟩ := q4
        · rw [w.1] at e; exact nomatch e
        · omega
      rw [r20]
      refine pc_if (fun y1 => ?_) (fun y1 => ?_)
      · refine pc_xl ?_; intro h8 e8
        exact pc_ret (ST _ _ u4 h8 q4 e8 (fun s _ => if_pos (.inl y1)))
      refine pc_if (fun y2 => ?_) (fun y2 => ?_)
      · refine pc_xl ?_; intro h8 e8
        exact pc_ret (ST _ _ u4 h8 q4 e8 (fun s _ => if_pos (.inr y2)))
      · refine pc_xl ?_; intro h11 e11
        obtain ⟨K, w | ⟨s2, s3, s4, s5⟩⟩ := q4
        · exact absurd w.2 y
        · refine pc_ret ⟨ske_19 K e11, .inr ⟨s2, ?_, by rw [e11, up_s], stc_19 s5 e11⟩⟩
          rw [s3]
          show (if rt = 301 ∨ rt = 303 then none else some s2) = some s2
          rw [if_neg (by omega)]
    · have z1 : op = 172 := by omega
      rw [if_pos z1]
      refine pc_sv (vc_want C A m30) ?_; intro u16 q16
      have r20 := RT u16 q16.1
      have q16 : CSo cnt mx h0 (aW (FTq Bf nf cnt) 301 s) u16 := q16
      unfold qj_X11_applyReturn_65
      refine pc_if (fun y => ?_) (fun y => ?_)
      · refine pc_xl ?_; intro h1 e1
        refine pc_ret (ST _ _ u16 h1 q16 e1 (fun s e => ?_))
        obtain ⟨_, w | ⟨s2, s3, s4, _⟩⟩ := q16
        · rw [w.1] at e; exact nomatch e
        · omega
      rw [r20]
      refine pc_if (fun y1 => ?_) (fun y1 => ?_)
      · refine pc_xl ?_; intro h1 e1
        exact pc_ret (ST _ _ u16 h1 q16 e1 (fun s _ => if_neg y1))
      · refine pc_xl ?_; intro h19 e19
        obtain ⟨K, w | ⟨s2, s3, s4, s5⟩⟩ := q16
        · exact absurd w.2 y
        · refine pc_ret ⟨ske_19 K e19, .inr ⟨s2, ?_, by rw [e19, up_s], stc_19 s5 e19⟩⟩
          rw [s3]
          show (if rt = 301 then some s2 else none) = some s2
          rw [if_pos (by omega)]
  · have z : op = 177 := by omega
    rw [if_pos z, RT h A.1]
    obtain ⟨K, w | ⟨s2, s3, s4, s5⟩⟩ := A
    · exact absurd w.1 (by simp)
    · have e2 : s = s2 := Option.some.inj s3
      refine pc_if (fun y => ?_) (fun y => ?_)
      · refine pc_xl ?_; intro h24 e24
        rw [if_neg y]
        exact pc_ret ⟨ske_19 K e24, .inl ⟨rfl, by rw [e24, up_s]⟩⟩
      · refine pc_xl ?_; intro h25 e25
        rw [if_pos (by omega), e2]
        exact pc_ret ⟨ske_19 K e25, .inr ⟨s2, rfl, by rw [e25, up_s], stc_19 s5 e25⟩⟩
/-- ARRAYS AND THE STACK -/
theorem vc_apA (C : CMz Bf nf cnt k i h0) (em : Bf k (ma_S (Bf k) (nf k) i + 3) = mx) (m30 : mx ≤ 30) (A : CSo cnt mx h0 (some s) h) : Pc (qf_X11_applyArray nn op h) (CSo cnt mx h0 (ap_A (FTq Bf nf cnt) mx op s)) := by
  unfold qf_X11_applyArray ap_A
  refine pc_if (fun z => ?_) (fun z => ?_)
  · rw [if_pos z]
    refine pc_sv (vc_want C A m30) ?_; intro u2 q2
    refine pc_sv (vc_wantA (oi := True) (oc := False) (by simp) (by simp) q2 m30) ?_; intro u4 q4
    refine pc_sv (vc_pv C em m30 q4 vt_301) ?_; intro u6 q6
    exact pc_ret q6
  rw [if_neg z]
  refine pc_if (fun z => ?_) (fun z => ?_)
  · rw [if_pos z]
    refine pc_sv (vc_want C A m30) ?_; intro u8 q8
    refine pc_sv (vc_wantA (oi := False) (oc := True) (by simp) (by simp) q8 m30) ?_; intro u10 q10
    have q10 : CVp cnt mx h0 ((aW (FTq Bf nf cnt) 301 s).bind (aA False True)) u10 := q10
    have X : ∀ x : Int × ST3, (aW (FTq Bf nf cnt) 301 s).bind (aA False True) = some x → ARy False True x.1 := fun x e => by
      rw [show (aW (FTq Bf nf cnt) 301 s).bind (aA False True) = ((aW (FTq Bf nf cnt) 301 s).bind aPop).bind (fun x => pr_I (ARy False True x.1) (some x) none) from aa_b] at e
      cases hp : (aW (FTq Bf nf cnt) 301 s).bind aPop with
      | none => rw [hp] at e; exact nomatch e
      | some y =>
        rw [hp] at e
        have e : pr_I (ARy False True y.1) (some y) none = some x := e
        by_cases w : ARy False True y.1
        · rw [pr_t w] at e
          rw [← Option.some.inj e]; exact w
        · rw [pr_f w] at e; exact nomatch e
    generalize (aW (FTq Bf nf cnt) 301 s).bind (aA False True) = o2 at q10 X ⊢
    have FIN : ∀ t : Int, (∀ x : Int × ST3, o2 = some x → t = (if x.1 = 300 then 300 else x.1 - 100)) → (∀ x : Int × ST3, o2 = some x → VTq cnt t) → Pc (qf_X11_push nn t u10.2) (CSo cnt mx h0 (o2.bind (fun x => aU mx (if x.1 = 300 then 300 else x.1 - 100) x.2))) := fun t ht hv => by
      refine pc_imp (vc_pu C em m30 (t := t) (cs_p q10) (fun s' e => ?_)) (fun u w => ?_)
      · cases ho : o2 with
        | none => rw [ho] at e; exact nomatch e
        | some x => exact hv x ho
      · have w := cs_b (G := aU mx t) w
        cases ho : o2 with
        | none => rw [ho] at w; exact w
        | some x =>
          rw [ho] at w
          have ex := ht x ho
          rw [ex] at w
          exact w
    have FA : ∀ x : Int × ST3, o2 = some x → u10.1 = x.1 ∧ VTq cnt x.1 := fun x e => by
      obtain ⟨_, w | ⟨y, y1, y2, y3, _⟩⟩ := q10
      · rw [w.1] at e; exact nomatch e
      · rw [y1] at e
        rw [← Option.some.inj e]; exact ⟨y2, y3⟩
    refine pc_if (fun y => ?_) (fun y => ?_)
    · refine pc_sv (P := fun u => ∀ x : Int × ST3, o2 = some x → u = x.1 - 100) ?_ ?_
      · unfold qf_X4_elementOf
        have NO : ∀ v : Int, (∀ x : Int × ST3, o2 = some x → False) → Pc (some v) (fun u => ∀ x : Int × ST3, o2 = some x → u = x.1 - 100) := fun v hv => pc_ret (fun x e => (hv x e).elim)
        refine pc_if (fun y1 => ?_) (fun y1 => NO _ (fun x e => ?_))
        · refine pc_if (fun y2 => NO _ (fun x e => ?_)) (fun y2 => ?_)
          · obtain ⟨w1, w2⟩ := FA x e
            rcases X x e with v | v | v
            · omega
            · exact v.2
            · omega
          refine pc_if (fun y3 => NO _ (fun x e => ?_)) (fun y3 => ?_)
          · obtain ⟨w1, w2⟩ := FA x e
            rcases X x e with v | v | v
            · omega
            · exact v.2
            · omega
          refine pc_sub (by omega) ?_; intro v1 e1
          refine pc_ret (fun x e => ?_)
          obtain ⟨w1, w2⟩ := FA x e
          omega
        · obtain ⟨w1, w2⟩ := FA x e
          rcases X x e with v | v | v
          · omega
          · exact v.2
          · exact v.1 (by omega)
      intro u11 q11
      refine pc_sv (FIN u11 (fun x e => ?_) (fun x e => ?_)) ?_
      · obtain ⟨w1, w2⟩ := FA x e
        rw [if_neg (by omega)]; exact q11 x e
      · obtain ⟨w1, w2⟩ := FA x e
        rw [q11 x e]
        rcases X x e with v | v | v
        · omega
        · exact v.2.elim
        · unfold VTq at w2 ⊢
          unfold ISc at w2 ⊢
          omega
      intro u13 q13
      exact pc_ret q13
    · refine pc_sv (FIN 300 (fun x e => ?_) (fun _ _ => vt_300)) ?_
      · obtain ⟨w1, w2⟩ := FA x e
        rw [if_pos (by omega)]
      intro u15 q15
      exact pc_ret q15
  rw [if_neg z]
  refine pc_if (fun z => ?_) (fun z => ?_)
  · rw [if_pos z]
    refine pc_sv (vc_want C A m30) ?_; intro u18 q18
    refine pc_sv (vc_want C q18 m30) ?_; intro u20 q20
    refine pc_sv (vc_wantA (oi := True) (oc := False) (by simp) (by simp) q20 m30) ?_; intro u22 q22
    exact pc_ret (cs_p q22)
  rw [if_neg z]
  refine pc_if (fun z => ?_) (fun z => ?_)
  · rw [if_pos z]
    refine pc_sv (vc_wantR A m30) ?_; intro u24 q24
    have q24 : CVp cnt mx h0 (aR s) u24 := q24
    refine pc_sv (vc_want C (cs_p q24) m30) ?_; intro u26 q26
    have q26 := cs_b (G := aW (FTq Bf nf cnt) 301) q26
    refine pc_sv (vc_wantA (oi := False) (oc := True) (by simp) (by simp) q26 m30) ?_; intro u28 q28
    exact pc_ret (cs_p q28)
  rw [if_neg z]
  refine pc_if (fun z => ?_) (fun z => ?_)
  · rw [if_pos z]
    refine pc_sv (vc_pop A m30) ?_; intro u30 q30
    exact pc_ret (cs_p q30)
  rw [if_neg z]
  refine pc_if (fun z => ?_) (fun z => ?_)
  · rw [if_pos z]
    refine pc_sv (vc_pop A m30) ?_; intro u32 q32
    have q32 : CVp cnt mx h0 (aPop s) u32 := q32
    generalize aPop s = o2 at q32 ⊢
    have FA : ∀ x : Int × ST3, o2 = some x → u32.1 = x.1 ∧ VTq cnt x.1 := fun x e => by
      obtain ⟨_, w | ⟨y, y1, y2, y3, _⟩⟩ := q32
      · rw [w.1] at e; exact nomatch e
      · rw [y1] at e
        rw [← Option.some.inj e]; exact ⟨y2, y3⟩
    refine pc_sv (vc_pu C em m30 (t := u32.1) (cs_p q32) (fun s' e => ?_)) ?_
    · cases ho : o2 with
      | none => rw [ho] at e; exact nomatch e
      | some x =>
        obtain ⟨w1, w2⟩ := FA x ho
        rw [w1]; exact w2
    intro u34 q34
    refine pc_sv (vc_pu C em m30 (t := u32.1) q34 (fun s' e => ?_)) ?_
    · cases ho : o2 with
      | none => rw [ho] at e; exact nomatch e
      | some x =>
        obtain ⟨w1, w2⟩ := FA x ho
        rw [w1]; exact w2
    intro u36 q36
    refine pc_ret ?_
    cases ho : o2 with
    | none => rw [ho] at q36; exact q36
    | some x =>
      rw [ho, (FA x ho).1] at q36
      exact q36
  rw [if_neg z]
  refine pc_if (fun z => ?_) (fun z => ?_)
  · rw [if_pos z]
    refine pc_sv (vc_want C A m30) ?_; intro u38 q38
    refine pc_sv (vc_pu C em m30 q38 (fun _ _ => vt_301)) ?_; intro u40 q40
    exact pc_ret q40
  rw [if_neg z]
  exact pc_ret A
/-- JUMPS -/
theorem vc_apJ (C : CMz Bf nf cnt k i h0) (m30 : mx ≤ 30) (A : CSo cnt mx h0 (some s) h) : Pc (qf_X11_applyJump nn op h) (CSo cnt mx h0 (ap_J (FTq Bf nf cnt) op s)) := by
  have R2 : Pc (qj_X11_applyJump_22 nn h) (CSo cnt mx h0 ((aR s).bind (fun x => (aR x.2).bind (fun y => some y.2)))) := by
    unfold qj_X11_applyJump_22
    refine pc_sv (vc_wantR A m30) ?_; intro u2 q2
    have q2 : CVp cnt mx h0 (aR s) u2 := q2
    refine pc_sv (vc_wantR (cs_p q2) m30) ?_; intro u4 q4
    refine pc_ret ?_
    have q5 := cs_p q4
    cases ho : aR s with
    | none => rw [ho] at q5; exact q5
    | some x => rw [ho] at q5; exact q5
  unfold qf_X11_applyJump ap_J
  refine pc_if (fun z => ?_) (fun z => ?_)
  · rw [if_neg z]
    refine pc_if (fun z1 => ?_) (fun z1 => ?_)
    · rw [if_pos (.inl z1)]; exact R2
    · refine pc_if (fun z2 => ?_) (fun z2 => ?_)
      · rw [if_neg (by omega)]
        refine pc_sv (vc_want C A m30) ?_; intro u6 q6
        refine pc_if (fun z3 => ?_) (fun z3 => ?_)
        · rw [if_pos z3]; exact pc_ret q6
        · rw [if_neg z3]
          refine pc_sv (vc_want C q6 m30) ?_; intro u8 q8
          exact pc_ret q8
      · rw [if_pos (by omega)]; exact R2
  · rw [if_pos (by omega)]; exact pc_ret A
/-- LOCALS -/
theorem vc_apL (C : CMz Bf nf cnt k i h0) (em : Bf k (ma_S (Bf k) (nf k) i + 3) = mx) (m30 : mx ≤ 30) (A : CSo cnt mx h0 (some s) h) (ar : 0 ≤ a) (ho : op = 21 ∨ op = 25 ∨ op = 54 ∨ op = 58) : Pc (qf_X11_applyLocal nn op a h) (CSo cnt mx h0 (ap_L (FTq Bf nf cnt) mx (Bf k (ma_S (Bf k) (nf k) i + 4)) op a s)) := by
  have Ch := cms_k C A.1
  have g30 := (cme_m Ch.1.1).2.2.1.2
  have A0 := A
  obtain ⟨K, w | ⟨s2, s3, s4, s5⟩⟩ := A
  · exact absurd w.1 (by simp)
  have e2 : s = s2 := Option.some.inj s3
  rw [← e2] at s5
  have s5' := s5
  obtain ⟨t1, t2, t3, t4⟩ := s5
  unfold qf_X11_applyLocal ap_L
  refine pc_sv (vc_info Ch.1.1 (w := 4) (by decide) (cme_d Ch.1.1).1.2.2.2.2.2) ?_; intro u19 q19
  rw [q19]
  refine pc_if (fun z => ?_) (fun z => ?_)
  · rw [if_pos z]
    unfold qj_X11_applyLocal_18
    refine pc_xl ?_; intro h17 e17
    exact pc_ret ⟨ske_19 K e17, .inl ⟨rfl, by rw [e17, up_s]⟩⟩
  rw [if_neg z]
  refine pc_if (fun z1 => ?_) (fun z1 => absurd (show a < 30 by omega) z1)
  have a134 := t2 a.toNat (by omega)
  have va := t1.1 a.toNat (by omega)
  have P90 : Pc (qj_X11_applyLocal_90 nn a h) (CSo cnt mx h0 none) := by
    unfold qj_X11_applyLocal_90 qj_X11_applyLocal_91
    refine pc_ck (fun _ => ?_)
    refine pc_xl ?_; intro h2 e2
    refine pc_rA ?_; intro _ _ v4 e4
    refine pc_sv (vc_pu C em m30 (o := none) ⟨ske_19 K e2, .inl ⟨rfl, by rw [e2, up_s]⟩⟩ (fun _ e => nomatch e)) ?_; intro u6 q6
    exact pc_ret q6
  have P91 : Pc (qj_X11_applyLocal_91 nn a 1 h) (CSo cnt mx h0 (aU mx (s.1 a.toNat) s)) := by
    unfold qj_X11_applyLocal_91
    refine pc_ck (fun _ => ?_)
    refine pc_xl ?_; intro h2 e2
    refine pc_rA ?_; intro _ _ v4 e4
    rw [e2, up_n (by omega), a134] at e4
    rw [e4]
    refine pc_sv (vc_pu C em m30 (o := some s) ⟨ske_19 K e2, .inr ⟨s, rfl, by rw [e2, up_s], stc_19 s5' e2⟩⟩ (fun _ _ => va)) ?_; intro u6 q6
    exact pc_ret q6
  have P73 : ∀ (R : Prop) (x : Int), ((x = 1 ∧ R) ∨ (x = 0 ∧ ¬ R)) → Pc (qj_X11_applyLocal_73 nn a x h) (CSo cnt mx h0 (pr_I R (aU mx (s.1 a.toNat) s) none)) := fun R x hx => by
    unfold qj_X11_applyLocal_73
    refine pc_if (fun y => absurd y (by omega)) (fun _ => ?_)
    refine pc_if (fun y => ?_) (fun y => ?_)
    · rw [pr_f (show ¬ R by
        rcases hx with q | q
        · omega
        · exact q.2)]
      exact P90
    · rw [pr_t (show R by
        rcases hx with q | q
        · exact q.2
        · exact absurd q.1 y)]
      exact P91
  refine pc_if (fun z2 => ?_) (fun z2 => ?_)
  · rw [if_pos z2]
    unfold qj_X11_applyLocal_38
    refine pc_if (fun y => absurd z2 y) (fun _ => ?_)
    refine pc_rA ?_; intro _ _ v14 e14
    rw [a134] at e14
    refine pc_if (fun y => P73 _ 0 (.inr ⟨rfl, by omega⟩)) (fun y => P73 _ 1 (.inl ⟨rfl, by omega⟩))
  rw [if_neg z2]
  refine pc_if (fun z3 => ?_) (fun z3 => ?_)
  · rw [if_neg z3]
    refine pc_if (fun z4 => ?_) (fun z4 => ?_)
    · rw [if_neg z4]
      refine pc_sv (vc_wantR A0 m30) ?_; intro u24 q24
      have q24 : CVp cnt mx h0 (aR s) u24 := q24
      refine pc_wA ?_; intro _ _ h25 e25
      have FA : ∀ x : Int × ST3, aR s = some x → u24.1 = x.1 ∧ VTq cnt x.1 := fun x e => by
        obtain ⟨_, w | ⟨y, y1, y2, y3, _⟩⟩ := q24
        · rw [w.1] at e; exact nomatch e
        · rw [y1] at e
          rw [← Option.some.inj e]; exact ⟨y2, y3⟩
      have w := cs_loc (a := a) (cs_p q24) (t := u24.1) (x := a.toNat) (fun s' e => ?_) (by omega) e25
      · refine pc_ret ?_
        cases ho : aR s with
        | none => rw [ho] at w; exact w
        | some x =>
          rw [ho, (FA x ho).1] at w
          exact w
      · cases ho : aR s with
        | none => rw [ho] at e; exact nomatch e
        | some x =>
          obtain ⟨w1, w2⟩ := FA x ho
          rw [w1]; exact w2
    · rw [if_pos (by omega)]
      refine pc_sv (vc_want C A0 m30) ?_; intro u27 q27
      refine pc_wA ?_; intro _ _ h29 e29
      exact pc_ret (cs_loc (a := a) q27 (fun _ _ => vt_301) (x := a.toNat) (by omega) e29)
  · rw [if_pos (by omega)]
    unfold qj_X11_applyLocal_38
    refine pc_if (fun _ => ?_) (fun y => absurd (by omega) y)
    refine pc_rA ?_; intro _ _ v11 e11
    rw [a134] at e11
    rw [e11]
    refine pc_sv vc_isRef ?_; intro u12 q12
    exact P73 _ u12 q12
/-- MEMBERS -/
theorem vc_apM94 (C : CMz Bf nf cnt k i h0) (em : Bf k (ma_S (Bf k) (nf k) i + 3) = mx) (m30 : mx ≤ 30) {x cl rk : Int} {y pm : Nat} {pk : Nat → Int} (ex : x = ((y : Nat) : Int)) (y9 : y + 6 < 1799) (p6 : pm ≤ 6) (RR : ∀ g : ms_M, SKe h0 g → g 131 y = rk ∧ ∀ j : Nat, j < pm → g 131 (y + 1 + j) = pk j) (VR : rk = 303 ∨ VTq cnt rk) (ho : op = 182 ∨ op = 184) : ∀ (f p : Nat) (o : Option ST3) (h : ms_M), p ≤ pm → CSo cnt mx h0 o h → Pc (qw_X11_applyMember_94 nn f op cl x (p : Int) h) (CSo cnt mx h0 ((o.bind (aPs (FTq Bf nf cnt) pk p)).bind (fun s => (if op = 182 then aW (FTq Bf nf cnt) cl s else some s).bind (fun s => if rk = 303 then some s else aU mx rk s)))) := by
  have E131 : ∀ (o : Option ST3) (h : ms_M), CSo cnt mx h0 o h → Pc (qj_X11_applyMember_131 nn x h) (CSo cnt mx h0 (o.bind (fun s => if rk = 303 then some s else aU mx rk s))) := fun o h A => by
    unfold qj_X11_applyMember_131
    refine pc_rA ?_; intro _ _ v2 e2
    rw [show x.toNat = y by omega, (RR h A.1).1] at e2
    refine pc_if (fun z => pc_ret ?_) (fun z => ?_)
    · have : o.bind (fun s => if rk = 303 then some s else aU mx rk s) = o := by
        cases o with
        | none => rfl
        | some s => exact if_pos (by omega)
      rw [this]; exact A
    · refine pc_rA ?_; intro _ _ v4 e4
      rw [show x.toNat = y by omega, (RR h A.1).1] at e4
      rw [e4]
      have V : VTq cnt rk := by
        rcases VR with v | v
        · omega
        · exact v
      refine pc_sv (vc_pu C em m30 A (fun _ _ => V)) ?_; intro u6 q6
      refine pc_ret ?_
      cases o with
      | none => exact q6
      | some s =>
        show CSo cnt mx h0 (if rk = 303 then some s else aU mx rk s) u6
        rw [if_neg (by omega)]; exact q6
  intro f
  induction f with
  | zero => intro p o h _ _; exact pc_none
  | succ f ih =>
    intro p o h hp A
    unfold qw_X11_applyMember_94
    cases p with
    | zero =>
      refine pc_if (fun _ => ?_) (fun z => absurd (show ((0 : Nat) : Int) ≤ 0 by omega) z)
      have e0 : o.bind (aPs (FTq Bf nf cnt) pk 0) = o := by
        cases o with
        | none => rfl
        | some s => rfl
      rw [e0]
      refine pc_if (fun z => ?_) (fun z => ?_)
      · refine pc_imp (E131 o h A) (fun u q => ?_)
        cases o with
        | none => exact q
        | some s =>
          show CSo cnt mx h0 ((if op = 182 then aW (FTq Bf nf cnt) cl s else some s).bind (fun s => if rk = 303 then some s else aU mx rk s)) u
          rw [if_neg z]; exact q
      · refine pc_sv (vc_want C A m30 (t := cl)) ?_; intro u9 q9
        refine pc_imp (E131 _ u9 q9) (fun u q => ?_)
        cases o with
        | none => exact q
        | some s =>
          show CSo cnt mx h0 ((if op = 182 then aW (FTq Bf nf cnt) cl s else some s).bind (fun s => if rk = 303 then some s else aU mx rk s)) u
          rw [if_pos (by omega)]; exact q
    | succ p =>
      refine pc_if (fun z => absurd z (by omega)) (fun _ => ?_)
      refine pc_add (by omega) ?_; intro v12 e12
      refine pc_rA ?_; intro _ _ v13 e13
      rw [show v12.toNat = y + 1 + p by omega, (RR h A.1).2 p (by omega)] at e13
      rw [e13]
      refine pc_sv (vc_want C A m30 (t := pk p)) ?_; intro u15 q15
      refine pc_add (by omega) ?_; intro v16 e16
      rw [show v16 = ((p : Nat) : Int) by omega]
      refine pc_imp (ih p _ u15 (by omega) q15) (fun u q => ?_)
      cases o with
      | none => exact q
      | some s => exact q
theorem vc_apM (C : CMz Bf nf cnt k i h0) (H : HGo Bf nf cnt) (em : Bf k (ma_S (Bf k) (nf k) i + 3) = mx) (m30 : mx ≤ 30) (A : CSo cnt mx h0 (some s) h) (ho : op = 180 ∨ op = 181 ∨ op = 182 ∨ op = 184) (MB : MBr Bf nf cnt k op a) : Pc (qf_X11_applyMember nn op a h) (CSo cnt mx h0 (ap_M (FTq Bf nf cnt) mx (rk_F Bf nf cnt k (kt_S (Bf k) (nf k) i 1)) (cq_F Bf nf cnt (Bf k) (nf k) (pt_S (Bf k) (nf k) a 0)) (fy_F Bf nf cnt k (pt_S (Bf k) (nf k) a 2)) (pk_F Bf nf cnt k (pt_S (Bf k) (nf k) a 2)) (pm_S (Bf k) (nf k) (pt_S (Bf k) (nf k) a 2)) (rk_F Bf nf cnt k (pt_S (Bf k) (nf k) a 2)) op s)) := by
  have Ch := cms_k C A.1
  have hk' : (k : Int) < cnt := by have := Ch.1.1.2.2.1; rw [Ch.1.2] at this; exact this
  obtain ⟨-, -, zx, zk, z2⟩ := H.2 k hk'
  have t4 := MB.1
  obtain ⟨a1, a2, -⟩ := tg_in (B := Bf k) (n := nf k) (k := a) (by omega)
  have B2 := (Ch.1.1.1.1.2 k Ch.1.1.2.2.1).1.2.2.1
  obtain ⟨t0, -, -, -⟩ := mb_tx zk z2 t4
  obtain ⟨sk, TT⟩ := mbr_t H hk' MB
  have T := (Ch.1.1.1.1.2 k Ch.1.1.2.2.1).1
  have ROW : ∀ g : ms_M, SKe h0 g → (sk_V (Bf k) (nf k) a = 1 → pm_S (Bf k) (nf k) (pt_S (Bf k) (nf k) a 2) ≤ 6 ∧ g 130 a.toNat = (pm_S (Bf k) (nf k) (pt_S (Bf k) (nf k) a 2) : Int) ∧ g 131 (7 * a.toNat) = rk_F Bf nf cnt k (pt_S (Bf k) (nf k) a 2) ∧ ∀ x : Nat, x < pm_S (Bf k) (nf k) (pt_S (Bf k) (nf k) a 2) → g 131 (7 * a.toNat + 1 + x) = pk_F Bf nf cnt k (pt_S (Bf k) (nf k) a 2) x) ∧ (sk_V (Bf k) (nf k) a = 0 → g 131 (7 * a.toNat) = fy_F Bf nf cnt k (pt_S (Bf k) (nf k) a 2)) := fun g K => by
    rcases (cms_k C K).2.2.1.2 a t4 with ⟨m1, m2⟩ | ⟨d, j, m1, m2, m3, m4⟩
    · exfalso
      obtain ⟨-, w16, d, j, w4, w5, -⟩ := MB
      rw [← sk] at w4 w5
      exact m2 d j ⟨w16, w4, w5⟩
    · exact ⟨m3, m4⟩
  unfold qf_X11_applyMember
  rw [Ch.1.1.2.2.2.1]
  refine pc_ck (fun _ => pc_ck (fun _ => ?_))
  refine pc_sv (P := fun u => u = pt_S (Bf k) (nf k) a 0) (fun u eu => by
    have z := c_part (nn := nn) T (k := a) (i := 0) (.inr ⟨t4, by omega⟩)
    rw [show ((0 : Nat) : Int) = 0 from rfl] at z
    rw [z] at eu; exact (Option.some.inj eu).symm) ?_; intro u21 q21
  refine pc_rA ?_; intro _ _ v22 e22
  rw [q21, Ch.2.2.1.1 _ t0] at e22
  rw [e22]
  refine pc_xl ?_; intro v23 e23
  rw [oq_mul_eq (by omega) (by omega) (by omega)] at e23
  have ev : v23.toNat = 7 * a.toNat := by omega
  unfold ap_M
  refine pc_if (fun z => ?_) (fun z => ?_)
  · rw [if_pos z]
    rw [if_neg (by omega)] at sk
    have VF : VTq cnt (fy_F Bf nf cnt k (pt_S (Bf k) (nf k) a 2)) := by
      rcases TT with w | w
      · exact w.2.1
      · omega
    refine pc_sv (vc_want C A m30) ?_; intro u27 q27
    refine pc_rA ?_; intro _ _ v29 e29
    rw [ev, (ROW u27 q27.1).2 sk] at e29
    rw [e29]
    refine pc_sv (vc_pu C em m30 q27 (fun _ _ => VF)) ?_; intro u31 q31
    exact pc_ret q31
  rw [if_neg z]
  refine pc_if (fun z1 => ?_) (fun z1 => ?_)
  · rw [if_pos z1]
    rw [if_neg (by omega)] at sk
    refine pc_rA ?_; intro _ _ v33 e33
    rw [ev, (ROW h A.1).2 sk] at e33
    rw [e33]
    refine pc_sv (vc_want C A m30) ?_; intro u35 q35
    refine pc_sv (vc_want C q35 m30) ?_; intro u37 q37
    exact pc_ret q37
  rw [if_neg z1]
  rw [if_pos (by omega)] at sk
  obtain ⟨p6, r1, r2, r3⟩ := (ROW h A.1).1 sk
  have VR : rk_F Bf nf cnt k (pt_S (Bf k) (nf k) a 2) = 303 ∨ VTq cnt (rk_F Bf nf cnt k (pt_S (Bf k) (nf k) a 2)) := by
    rcases TT with w | w
    · omega
    · exact w.2.2.2
  refine pc_rA ?_; intro _ _ v25 e25
  rw [r1] at e25
  rw [e25]
  refine pc_imp (vc_apM94 C em m30 (y := 7 * a.toNat) (pk := pk_F Bf nf cnt k (pt_S (Bf k) (nf k) a 2)) (pm := pm_S (Bf k) (nf k) (pt_S (Bf k) (nf k) a 2)) (rk := rk_F Bf nf cnt k (pt_S (Bf k) (nf k) a 2)) (by omega) (by omega) p6 (fun g K => ⟨((ROW g K).1 sk).2.2.1, ((ROW g K).1 sk).2.2.2⟩) VR (by omega) nn _ (some s) h (Nat.le_refl _) A) (fun u q => ?_)
  by_cases w : op = 182
  · rw [if_pos w]
    have q : CSo cnt mx h0 ((aPs (FTq Bf nf cnt) (pk_F Bf nf cnt k (pt_S (Bf k) (nf k) a 2)) (pm_S (Bf k) (nf k) (pt_S (Bf k) (nf k) a 2)) s).bind (fun s => (if op = 182 then aW (FTq Bf nf cnt) (cq_F Bf nf cnt (Bf k) (nf k) (pt_S (Bf k) (nf k) a 0)) s else some s).bind (fun s => if rk_F Bf nf cnt k (pt_S (Bf k) (nf k) a 2) = 303 then some s else aU mx (rk_F Bf nf cnt k (pt_S (Bf k) (nf k) a 2)) s))) u := q
    cases ho : aPs (FTq Bf nf cnt) (pk_F Bf nf cnt k (pt_S (Bf k) (nf k) a 2)) (pm_S (Bf k) (nf k) (pt_S (Bf k) (nf k) a 2)) s with
    | none => rw [ho] at q; exact q
    | some s2 =>
      rw [ho] at q
      have q : CSo cnt mx h0 ((if op = 182 then aW (FTq Bf nf cnt) (cq_F Bf nf cnt (Bf k) (nf k) (pt_S (Bf k) (nf k) a 0)) s2 else some s2).bind (fun s => if rk_F Bf nf cnt k (pt_S (Bf k) (nf k) a 2) = 303 then some s else aU mx (rk_F Bf nf cnt k (pt_S (Bf k) (nf k) a 2)) s)) u := q
      rw [if_pos w] at q
      exact q
  · rw [if_neg w]
    have q : CSo cnt mx h0 ((aPs (FTq Bf nf cnt) (pk_F Bf nf cnt k (pt_S (Bf k) (nf k) a 2)) (pm_S (Bf k) (nf k) (pt_S (Bf k) (nf k) a 2)) s).bind (fun s => (if op = 182 then aW (FTq Bf nf cnt) (cq_F Bf nf cnt (Bf k) (nf k) (pt_S (Bf k) (nf k) a 0)) s else some s).bind (fun s => if rk_F Bf nf cnt k (pt_S (Bf k) (nf k) a 2) = 303 then some s else aU mx (rk_F Bf nf cnt k (pt_S (Bf k) (nf k) a 2)) s))) u := q
    cases ho : aPs (FTq Bf nf cnt) (pk_F Bf nf cnt k (pt_S (Bf k) (nf k) a 2)) (pm_S (Bf k) (nf k) (pt_S (Bf k) (nf k) a 2)) s with
    | none => rw [ho] at q; exact q
    | some s2 =>
      rw [ho] at q
      have q : CSo cnt mx h0 ((if op = 182 then aW (FTq Bf nf cnt) (cq_F Bf nf cnt (Bf k) (nf k) (pt_S (Bf k) (nf k) a 0)) s2 else some s2).bind (fun s => if rk_F Bf nf cnt k (pt_S (Bf k) (nf k) a 2) = 303 then some s else aU mx (rk_F Bf nf cnt k (pt_S (Bf k) (nf k) a 2)) s)) u := q
      rw [if_neg w] at q
      exact q
/-- WHAT AN INSTRUCTION MAKES OF THE STATE, the class -/
theorem vc_arith : Pc (qf_X11_isArithmetic nn op h) (fun u => (u = 1 ∧ ARo op) ∨ (u = 0 ∧ ¬ ARo op)) := by
  unfold qf_X11_isArithmetic qj_X11_isArithmetic_156 qj_X11_isArithmetic_158 ARo
  refine pc_if (fun z => pc_ret (.inl ⟨rfl, by omega⟩)) (fun z => ?_)
  refine pc_if (fun z => pc_ret (.inl ⟨rfl, by omega⟩)) (fun z => ?_)
  refine pc_if (fun z => pc_ret (.inl ⟨rfl, by omega⟩)) (fun z => ?_)
  refine pc_if (fun z => pc_ret (.inl ⟨rfl, by omega⟩)) (fun z => ?_)
  refine pc_if (fun z => pc_ret (.inl ⟨rfl, by omega⟩)) (fun z => ?_)
  refine pc_if (fun z => pc_ret (.inl ⟨rfl, by omega⟩)) (fun z => ?_)
  refine pc_if (fun z => pc_ret (.inl ⟨rfl, by omega⟩)) (fun z => ?_)
  refine pc_if (fun z => pc_ret (.inl ⟨rfl, by omega⟩)) (fun z => ?_)
  refine pc_if (fun z => pc_ret (.inl ⟨rfl, by omega⟩)) (fun z => ?_)
  refine pc_if (fun z => pc_ret (.inl ⟨rfl, by omega⟩)) (fun z => ?_)
  exact pc_if (fun z => pc_ret (.inl ⟨rfl, by omega⟩)) (fun z => pc_ret (.inr ⟨rfl, by omega⟩))
theorem vc_apply (C : CMz Bf nf cnt k i h0) (H : HGo Bf nf cnt) (A : CSo cnt (Bf k (ma_S (Bf k) (nf k) i + 3)) h0 (some s) h) (ar : 0 ≤ a) (wd : 0 < WD op) (o0 : 0 ≤ op ∧ op ≤ 255) (CR : CRt Bf nf cnt k op a) : Pc (qf_X11_applySimple nn op a h) (CSo cnt (Bf k (ma_S (Bf k) (nf k) i + 3)) h0 (ap_F Bf nf cnt k i op a s)) := by
  have m30 := (cme_m C.1.1).2.2.1.1.2
  have P3 : Pc (qj_X11_applySimple_38 nn h) (CSo cnt (Bf k (ma_S (Bf k) (nf k) i + 3)) h0 (aU (Bf k (ma_S (Bf k) (nf k) i + 3)) 301 s)) := by
    unfold qj_X11_applySimple_38
    refine pc_sv (vc_pu C rfl m30 A (fun _ _ => vt_301)) ?_; intro u4 q4
    exact pc_ret q4
  have w183 : ¬ op = 183 := fun e => by rw [e] at wd; exact absurd wd (by decide)
  have P26 : ¬ op = 1 → ¬ (2 ≤ op ∧ op ≤ 8) → Pc (qj_X11_applySimple_26 nn op a h) (CSo cnt (Bf k (ma_S (Bf k) (nf k) i + 3)) h0 (ap_F Bf nf cnt k i op a s)) := fun n1 n2 => by
    unfold qj_X11_applySimple_26 ap_F
    rw [if_neg n1]
    refine pc_if (fun z => ?_) (fun z => ?_)
    · rw [if_pos (show (2 ≤ op ∧ op ≤ 8) ∨ op = 16 ∨ op = 18 by omega)]; exact P3
    refine pc_if (fun z1 => ?_) (fun z1 => ?_)
    · rw [if_neg (show ¬ ((2 ≤ op ∧ op ≤ 8) ∨ op = 16 ∨ op = 18) by omega)]
      refine pc_sv vc_arith ?_; intro u5 q5
      refine pc_if (fun y => ?_) (fun y => ?_)
      · rw [pr_f (show ¬ ARo op by
          rcases q5 with q | q
          · omega
          · exact q.2)]
        have L : (op = 21 ∨ op = 25 ∨ op = 54 ∨ op = 58) → Pc (qj_X11_applySimple_103 nn op a h) (CSo cnt (Bf k (ma_S (Bf k) (nf k) i + 3)) h0 (ap_L (FTq Bf nf cnt) (Bf k (ma_S (Bf k) (nf k) i + 3)) (Bf k (ma_S (Bf k) (nf k) i + 4)) op a s)) := fun w => by
          unfold qj_X11_applySimple_103
          refine pc_sv (vc_apL C rfl m30 A ar w) ?_; intro u2 q2
          exact pc_ret q2
        refine pc_if (fun z => by rw [if_pos (show op = 21 ∨ op = 25 ∨ op = 54 ∨ op = 58 by omega)]; exact L (by omega)) (fun z2 => ?_)
        refine pc_if (fun z => by rw [if_pos (show op = 21 ∨ op = 25 ∨ op = 54 ∨ op = 58 by omega)]; exact L (by omega)) (fun z3 => ?_)
        refine pc_if (fun z => by rw [if_pos (show op = 21 ∨ op = 25 ∨ op = 54 ∨ op = 58 by omega)]; exact L (by omega)) (fun z4 => ?_)
        refine pc_if (fun z5 => ?_) (fun z5 => by rw [if_pos (show op = 21 ∨ op = 25 ∨ op = 54 ∨ op = 58 by omega)]; exact L (by omega))
        rw [if_neg (show ¬ (op = 21 ∨ op = 25 ∨ op = 54 ∨ op = 58) by omega)]
        refine pc_sv pv_jump ?_; intro u6 q6
        refine pc_if (fun y6 => ?_) (fun y6 => ?_)
        · rw [pr_f (show ¬ JMP op by
            rcases q6 with q | q
            · omega
            · exact q.2)]
          refine pc_if (fun z6 => ?_) (fun z6 => ?_)
          · rw [if_neg (show ¬ op < 172 by omega)]
            refine pc_if (fun z7 => ?_) (fun z7 => ?_)
            · rw [if_neg (show ¬ op < 180 by omega)]
              refine pc_if (fun z8 => ?_) (fun z8 => ?_)
              · rw [if_neg (show ¬ op ≤ 184 by omega)]
                refine pc_sv (vc_apO C H rfl m30 A (fun w => CR.2.1 w)) ?_; intro u8 q8
                exact pc_ret q8
              · rw [if_pos (show op ≤ 184 by omega)]
                have h4 : op = 180 ∨ op = 181 ∨ op = 182 ∨ op = 184 := by omega
                refine pc_sv (vc_apM C H rfl m30 A h4 (CR.2.2.2 h4)) ?_; intro u10 q10
                exact pc_ret q10
            · rw [if_pos (show op < 180 by omega)]
              refine pc_sv (vc_apR C m30 A) ?_; intro u13 q13
              exact pc_ret q13
          · rw [if_pos (show op < 172 by omega)]
            refine pc_sv (vc_apA C rfl m30 A) ?_; intro u16 q16
            exact pc_ret q16
        · rw [pr_t (show JMP op by
            rcases q6 with q | q
            · exact q.2
            · exact absurd q.1 y6)]
          refine pc_sv (vc_apJ C m30 A) ?_; intro u19 q19
          exact pc_ret q19
      · rw [pr_t (show ARo op by
          rcases q5 with q | q
          · exact q.2
          · exact absurd q.1 y)]
        refine pc_sv (vc_want C A m30) ?_; intro u26 q26
        refine pc_sv (vc_want C q26 m30) ?_; intro u28 q28
        refine pc_sv (vc_pu C rfl m30 q28 (fun _ _ => vt_301)) ?_; intro u30 q30
        exact pc_ret q30
    · rw [if_pos (show (2 ≤ op ∧ op ≤ 8) ∨ op = 16 ∨ op = 18 by omega)]; exact P3
  unfold qf_X11_applySimple
  refine pc_if (fun n1 => ?_) (fun n1 => ?_)
  · refine pc_if (fun z => P26 n1 (by omega)) (fun z => ?_)
    refine pc_if (fun z1 => ?_) (fun z1 => P26 n1 (by omega))
    unfold ap_F
    rw [if_neg n1, if_pos (show (2 ≤ op ∧ op ≤ 8) ∨ op = 16 ∨ op = 18 by omega)]
    exact P3
  · unfold ap_F
    rw [if_pos (show op = 1 by omega)]
    refine pc_sv (vc_pu C rfl m30 A (fun _ _ => vt_300)) ?_; intro u37 q37
    exact pc_ret q37
end

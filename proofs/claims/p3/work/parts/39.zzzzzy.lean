/- A TURN OF THE MACHINE KEEPS THE FRAMES GOOD; ITS LINKS OF FIELDS ARE SMALL -/
section
variable {nn : Nat} {h g z X : ms_M}
theorem st_obj {o a : Int} (S : STC h) (F : FRS h) (ho : o = OPt h) (h1 : ¬ JMP o) (h2 : ¬ ARI o) : Pc (qf_X5_stepObject nn o a h) (fun g => g 143 1 = 1 → STC g ∧ FRS g) := by
  have w1 : ∀ {x : Option ms_M}, Pc x (fun g => MVW h g 1) → BAR o → ¬ LST o → Pc (mx_sv x fun u => some u) (fun g => g 143 1 = 1 → STC g ∧ FRS g) := fun hx b l => pc_sv hx (fun u W => pc_ret (fun _ => frs_w S F W (by rw [← ho]; exact .inl ⟨rfl, .inr b⟩) (by rw [← ho]; exact l)))
  have w2 : ∀ {x : Option ms_M}, Pc x (fun g => MVW h g 2) → TWO o → ¬ LST o → Pc (mx_sv x fun u => some u) (fun g => g 143 1 = 1 → STC g ∧ FRS g) := fun hx b l => pc_sv hx (fun u W => pc_ret (fun _ => frs_w S F W (by rw [← ho]; exact .inr (.inr ⟨rfl, b⟩)) (by rw [← ho]; exact l)))
  have w0 : ∀ {x : Option ms_M}, Pc x (fun g => g 143 1 = 1 → STC g ∧ FRS g) → Pc (mx_sv x fun u => some u) (fun g => g 143 1 = 1 → STC g ∧ FRS g) := fun hx => pc_sv hx (fun u Q => pc_ret Q)
  unfold qf_X5_stepObject
  refine pc_if (fun c => w1 pl_element (by unfold BAR; omega) (by unfold LST; omega)) (fun _ => ?_)
  refine pc_if (fun c => w1 pl_element (by unfold BAR; omega) (by unfold LST; omega)) (fun _ => ?_)
  refine pc_if (fun c => w1 pl_giveElement (by unfold BAR; omega) (by unfold LST; omega)) (fun _ => ?_)
  refine pc_if (fun c => w1 pl_giveElement (by unfold BAR; omega) (by unfold LST; omega)) (fun _ => ?_)
  refine pc_if (fun c => w0 (pl_return S F)) (fun _ => ?_)
  refine pc_if (fun c => w0 (pl_return S F)) (fun _ => ?_)
  refine pc_if (fun c => w0 (pl_return S F)) (fun _ => ?_)
  refine pc_if (fun c => w2 pl_field (by unfold TWO; omega) (by unfold LST; omega)) (fun _ => ?_)
  refine pc_if (fun c => w2 pl_giveField (by unfold TWO; omega) (by unfold LST; omega)) (fun _ => ?_)
  refine pc_if (fun c => w0 (pl_call S F (by omega))) (fun _ => ?_)
  refine pc_if (fun c => w0 (pl_call S F (by omega))) (fun _ => ?_)
  refine pc_if (fun c => w1 pl_print (by unfold BAR; omega) (by unfold LST; omega)) (fun _ => ?_)
  refine pc_if (fun c => pc_se (fun u29 _ => pc_se (fun u32 _ => pc_se (fun u34 _ => w2 pl_giveNew (by unfold TWO; omega) (by unfold LST; omega))))) (fun _ => ?_)
  have j243 : (o = 188 ∨ o = 189) → Pc (qj_X5_stepObject_243 nn o a h) (fun g => g 143 1 = 1 → STC g ∧ FRS g) := fun c => by
    unfold qj_X5_stepObject_243
    exact pc_if (fun _ => pc_se (fun u6 _ => pc_xl (fun v7 _ => w2 pl_newArray (by unfold TWO; omega) (by unfold LST; omega)))) (fun _ => w2 pl_newArray (by unfold TWO; omega) (by unfold LST; omega))
  have j285 : (o = 192 ∨ o = 193) → Pc (qj_X5_stepObject_285 nn o a h) (fun g => g 143 1 = 1 → STC g ∧ FRS g) := fun c => by
    unfold qj_X5_stepObject_285
    exact pc_se (fun u6 _ => w2 pl_kin (by unfold TWO; omega) (by unfold LST; omega))
  refine pc_if (fun c => j243 (.inl c)) (fun _ => ?_)
  refine pc_if (fun c => j243 (.inr c)) (fun _ => ?_)
  refine pc_if (fun c => w1 pl_length (by unfold BAR; omega) (by unfold LST; omega)) (fun _ => ?_)
  refine pc_if (fun c => pc_sv pl_throw (fun u M => pc_ret (fun _ => frs_0 S F M))) (fun _ => ?_)
  refine pc_if (fun c => j285 (.inl c)) (fun _ => ?_)
  refine pc_if (fun c => j285 (.inr c)) (fun _ => ?_)
  exact pc_xl (fun z e => pc_ret (fun q => absurd q (by rw [e, up_s]; decide)))
theorem st_all (S : STC h) (F : FRS h) : Pc (qf_X5_step nn h) (fun g => g 143 1 = 1 → STC g ∧ FRS g) := by
  have N := F.2.2.1.1
  have b18 := F.2.2.1.2.1
  have V : VBb h (h 143 18).toNat := by rw [b18]; exact nva_vb S N
  unfold qf_X5_step
  refine pc_rA (fun _ _ v8 e8 => pc_ck (fun _ => pc_xl (fun v11 e11 => pc_ck (fun _ => pc_sv pv_byte (fun o e13 => ?_)))))
  have ho : o = OPt h := by rw [e13, e11, e8]; rfl
  refine pc_ck (fun _ => pc_xl (fun v16 _ => pc_xl (fun v17 _ => pc_se (fun a _ => ?_))))
  have w1 : ∀ {x : Option ms_M}, Pc x (fun g => MVW h g 1) → (o ≤ 8 ∨ BAR o) → ¬ LST o → Pc (mx_sv x fun u => some u) (fun g => g 143 1 = 1 → STC g ∧ FRS g) := fun hx b l => pc_sv hx (fun u W => pc_ret (fun _ => frs_w S F W (by rw [← ho]; exact .inl ⟨rfl, b⟩) (by rw [← ho]; exact l)))
  have w2 : ∀ {x : Option ms_M}, Pc x (fun g => MVW h g 2) → TWO o → ¬ LST o → Pc (mx_sv x fun u => some u) (fun g => g 143 1 = 1 → STC g ∧ FRS g) := fun hx b l => pc_sv hx (fun u W => pc_ret (fun _ => frs_w S F W (by rw [← ho]; exact .inr (.inr ⟨rfl, b⟩)) (by rw [← ho]; exact l)))
  have w0 : ∀ {x : Option ms_M}, Pc x (fun g => g 143 1 = 1 → STC g ∧ FRS g) → Pc (mx_sv x fun u => some u) (fun g => g 143 1 = 1 → STC g ∧ FRS g) := fun hx => pc_sv hx (fun u Q => pc_ret Q)
  have j213 : (o ≤ 8) → Pc (qj_X5_step_213 nn o h) (fun g => g 143 1 = 1 → STC g ∧ FRS g) := fun c => by
    unfold qj_X5_step_213
    exact pc_xl (fun v _ => w1 pl_give (.inl c) (by unfold LST; omega))
  have j247 : (o = 21 ∨ o = 25 ∨ o = 54 ∨ o = 58) → Pc (qj_X5_step_247 nn o a h) (fun g => g 143 1 = 1 → STC g ∧ FRS g) := fun c => by
    unfold qj_X5_step_247
    exact w2 pl_local (by unfold TWO; omega) (by unfold LST; omega)
  refine pc_if (fun c => w1 pl_goOn (.inl (by omega)) (by unfold LST; omega)) (fun _ => ?_)
  refine pc_if (fun c => w1 pl_give (.inl (by omega)) (by unfold LST; omega)) (fun _ => ?_)
  iterate 7 refine pc_if (fun c => j213 (by omega)) (fun _ => ?_)
  refine pc_if (fun c => pc_xl (fun v _ => w2 pl_give (by unfold TWO; omega) (by unfold LST; omega))) (fun _ => ?_)
  refine pc_if (fun c => pc_se (fun u _ => w2 pl_give (by unfold TWO; omega) (by unfold LST; omega))) (fun _ => ?_)
  iterate 4 refine pc_if (fun c => j247 (by omega)) (fun _ => ?_)
  refine pc_if (fun c => pc_sv pl_pop (fun u M => w1 (pc_imp pl_goOn (fun g W => mvw_l M W)) (.inr (by unfold BAR; omega)) (by unfold LST; omega))) (fun _ => ?_)
  refine pc_if (fun c => pc_sv pl_pop (fun u M => pc_sv pl_push (fun u2 M2 => w1 (pc_imp pl_give (fun g W => mvw_l (mv0_tr M M2) W)) (.inr (by unfold BAR; omega)) (by unfold LST; omega)))) (fun _ => ?_)
  refine pc_if (fun c => pc_sv pl_pop (fun u M => pc_xl (fun v _ => w1 (pc_imp pl_give (fun g W => mvw_l M W)) (.inr (by unfold BAR; omega)) (by unfold LST; omega)))) (fun _ => ?_)
  refine pc_sv pv_jump (fun u20 e20 => pc_if (fun c20 => ?_) (fun c20 => ?_))
  · have nj : ¬ JMP o := by
      rcases e20 with q | q
      · omega
      · exact q.2
    refine pc_sv pv_arith (fun u21 e21 => pc_if (fun c21 => ?_) (fun c21 => ?_))
    · refine w0 (st_obj S F ho nj ?_)
      rcases e21 with q | q
      · omega
      · exact q.2
    · have ya : ARI o := by
        rcases e21 with q | q
        · exact q.2
        · exact absurd q.1 c21
      exact w1 pl_arith (.inr (by unfold BAR; simp only [ya, or_true])) (by unfold ARI at ya; unfold LST; omega)
  · have yj : JMP o := by
      rcases e20 with q | q
      · exact q.2
      · exact absurd q.1 c20
    refine w0 (pc_imp (pl_jump V) (fun g Q _ => ?_))
    rcases Q with ⟨W, c⟩ | W
    · refine frs_w S F W (by rw [← ho]; exact .inr (.inl ⟨rfl, yj⟩)) ?_
      rw [← ho]; unfold JMP at yj; unfold LST; omega
    · rw [e8] at W
      exact frs_j S F W (by rw [← ho]; exact yj)
/-- handlers are few -/
def H20 (h : ms_M) : Prop := ∀ k : Nat, k < 8 → ∀ m : Int, mo h (h 60 k).toNat m 7 ≤ 20
theorem h20_q (S : STC h) (F : SPF h g) (H : H20 h) : H20 g := fun k hk m => by
  rw [F.1, mo_q (F.2.2 _ (S.2.2.1 k hk).2)]; exact H k hk m
theorem pl_giveX {v w : Int} : Pc (qf_X5_give nn v w h) (fun g => MVW h g w ∧ g 149 (h 143 17).toNat = oq_add (h 149 (h 143 17).toNat) w) := by
  unfold qf_X5_give
  refine pc_sv pl_push (fun u M => pc_sv pl_goOnX (fun u4 W => pc_ret ⟨mvw_l M W.1, ?_⟩))
  have := W.2
  rw [M.2.2.2.1.2.1, M.2.2.2.2] at this; exact this
/-- the uppermost method has been taken -/
def TPd (h : ms_M) : Prop := (1 ≤ h 143 6 ∧ h 143 6 ≤ 60) ∧ h 143 17 = h 143 6 - 1 ∧ NVa h (h 148 (h 143 6 - 1).toNat) ∧ (h 143 18).toNat = bN h (h 148 (h 143 6 - 1).toNat) ∧ h 143 19 = mo h (bN h (h 148 (h 143 6 - 1).toNat)) (h 148 (h 143 6 - 1).toNat % 12) 6 ∧ ∀ i : Nat, (i : Int) < h 143 6 - 1 → LOk h i
theorem ic_27 (S : STC h) (H : H20 h) (T : TPd h) {l1 : Int} : ∀ (k : Nat) (l3 x : Int), 0 ≤ x → (∀ y, oq_add l3 y = oq_add (oq_add (mo h (h 143 18).toNat (h 148 (h 143 6 - 1).toNat % 12) 8) (oq_mul x 7)) y) → Pc (qw_X5_isCaught_27 nn k l1 (h 148 (h 143 6 - 1).toNat % 12) l3 x h) (fun r => (r.1 = 0 ∧ r.2 = h) ∨ (¬ r.1 = 0 ∧ STC r.2 ∧ FRS r.2)) := by
  obtain ⟨d1, d2, d3, d4, d5, d6⟩ := T
  have c3 := S.2.2.2
  have V : VBb h (h 143 18).toNat := by rw [d4]; exact nva_vb S d3
  have h7 : mo h (h 143 18).toNat (h 148 (h 143 6 - 1).toNat % 12) 7 ≤ 20 := by
    rw [d4]; exact H (h 148 (h 143 6 - 1).toNat / 12).toNat (by have := d3.1; have := d3.2; omega) _
  intro k
  induction k with
  | zero => intro l3 x r0 e; exact pc_none
  | succ k ih =>
    intro l3 x r0 e
    have nx : x < 20 → Pc (xl (oq_add l3 7) fun v1 => xl (oq_add x 1) fun v2 => qw_X5_isCaught_27 nn k l1 (h 148 (h 143 6 - 1).toNat % 12) v1 v2 h) (fun r => (r.1 = 0 ∧ r.2 = h) ∨ (¬ r.1 = 0 ∧ STC r.2 ∧ FRS r.2)) := by
      intro hx
      refine pc_xl (fun v1 e1 => pc_add (by omega) (fun v2 e2 => ih v1 v2 (by omega) (fun y => ?_)))
      rw [e1, e 7, oq_as (b := oq_mul x 7), e2, oq_mul_eq (by omega) (by omega) (by omega), oq_mul_eq (by omega) (by omega) (by omega), oq_add_eq (x := x * 7) (by omega) (by omega) (by omega), show x * 7 + 7 = (x + 1) * 7 by omega]
    have j89 : ∀ s0 : Int, x < mo h (h 143 18).toNat (h 148 (h 143 6 - 1).toNat % 12) 7 → Pc (qj_X5_isCaught_89 nn (qw_X5_isCaught_27 nn k) l1 (h 148 (h 143 6 - 1).toNat % 12) l3 x s0 h) (fun r => (r.1 = 0 ∧ r.2 = h) ∨ (¬ r.1 = 0 ∧ STC r.2 ∧ FRS r.2)) := by
      intro s0 hx
      unfold qj_X5_isCaught_89
      refine pc_if (fun _ => nx (by omega)) (fun _ => ?_)
      refine pc_rA (fun _ _ v6 _ => pc_ck (fun _ => pc_xl (fun v8 _ => pc_ck (fun _ => pc_se (fun u10 _ => pc_se (fun u12 _ => pc_se (fun u14 _ => ?_)))))))
      refine pc_if (fun _ => nx (by omega)) (fun _ => ?_)
      refine pc_wA (fun _ _ h19 e19 => ?_)
      have M : MV0 h h19 := by rw [e19]; exact mv0_up rfl (by omega) (by omega)
      obtain ⟨m6, m17, m18, m19⟩ := M.2.2.2.1
      refine pc_ck (fun _ => pc_xl (fun v21 e21 => pc_ck (fun _ => pc_sv pv_pair (fun u23 e23 => pc_rA (fun _ _ v26 e26 => pc_xl (fun v27 e27 => ?_))))))
      rw [m18, pr2_q (M.1.2.2 _ V), e21, e] at e23
      have e23 : u23 = HDv h (h 143 18).toNat (h 148 (h 143 6 - 1).toNat % 12) x := e23
      refine pc_sv pl_giveX (fun u29 W => pc_ret (.inr ⟨show ¬ (1 : Int) = 0 by decide, ?_⟩))
      obtain ⟨W, We⟩ := W
      rw [e27, ← e26] at We
      have hm : ¬ h (bN h (h 148 (h 143 6 - 1).toNat)) 12 ≤ h 148 (h 143 6 - 1).toNat % 12 := by
        intro q
        rw [d4] at hx
        unfold mo at hx
        rw [if_neg (by have := d3.1; omega), if_pos q] at hx
        omega
      obtain ⟨B, G⟩ := S.1.1 (h 148 (h 143 6 - 1).toNat / 12).toNat (by have := d3.1; have := d3.2; omega) (h 148 (h 143 6 - 1).toNat % 12) (by have := d3.1; omega) (by show _ < h (bN h (h 148 (h 143 6 - 1).toNat)) 12; omega)
      have b : B u23 := by
        rw [e23, d4]
        exact G.a x r0 (by rw [d4] at hx; exact hx)
      have rr := G.r _ b
      rw [oq_back (by omega), m17] at We
      have MY := mvw_l M W
      obtain ⟨y6, y17, y18, y19⟩ := MY.2.2.2.1
      show STC u29 ∧ FRS u29
      refine frs_mk (d := h 143 6) S MY.1 MY.2.1 MY.2.2.1 y6 d1 (y17.trans d2) d3 (by rw [y18]; exact d4) (by rw [y19]; exact d5) (.inl ?_) (fun i hi => ⟨d6 i hi, ?_⟩)
      · rw [d2] at We
        rw [We]; exact ⟨B, G, b⟩
      · exact (MY.2.2.2.2 i).resolve_right (by omega)
    have j88 : x < mo h (h 143 18).toNat (h 148 (h 143 6 - 1).toNat % 12) 7 → Pc (qj_X5_isCaught_88 nn (qw_X5_isCaught_27 nn k) l1 (h 148 (h 143 6 - 1).toNat % 12) l3 x h) (fun r => (r.1 = 0 ∧ r.2 = h) ∨ (¬ r.1 = 0 ∧ STC r.2 ∧ FRS r.2)) := fun hx => j89 0 hx
    unfold qw_X5_isCaught_27
    refine pc_ck (fun _ => pc_ck (fun _ => pc_sv pv_mo (fun u34 e34 => ?_)))
    refine pc_if (fun _ => pc_ret (.inl ⟨rfl, rfl⟩)) (fun c => ?_)
    have hx : x < mo h (h 143 18).toNat (h 148 (h 143 6 - 1).toNat % 12) 7 := by omega
    refine pc_rA (fun _ _ v37 _ => pc_ck (fun _ => pc_se (fun u40 _ => ?_)))
    refine pc_if (fun _ => j88 hx) (fun _ => ?_)
    refine pc_rA (fun _ _ v43 _ => pc_ck (fun _ => pc_xl (fun v45 _ => pc_se (fun u47 _ => ?_))))
    exact pc_if (fun _ => j88 hx) (fun _ => j89 1 hx)
theorem ic_all (S : STC h) (H : H20 h) (T : TPd h) {l1 : Int} : Pc (qf_X5_isCaught nn l1 h) (fun r => (r.1 = 0 ∧ r.2 = h) ∨ (¬ r.1 = 0 ∧ STC r.2 ∧ FRS r.2)) := by
  unfold qf_X5_isCaught
  refine pc_rA (fun _ _ v53 e53 => pc_xl (fun v54 e54 => pc_ck (fun _ => pc_ck (fun _ => pc_sv pv_mo (fun u57 e57 => ?_)))))
  rw [T.2.1] at e53
  rw [e53, Int.tmod_eq_emod_of_nonneg T.2.2.1.1] at e54
  rw [e54]
  rw [e54] at e57
  refine ic_27 S H T nn u57 0 (by omega) (fun y => ?_)
  rw [e57, show oq_mul 0 7 = 0 from rfl]
  show (Int32.ofInt _ + Int32.ofInt y).toInt = (Int32.ofInt (Int32.ofInt _ + 0).toInt + Int32.ofInt y).toInt
  rw [Int32.ofInt_toInt, Int32.add_zero]
/-- every begun method is one of the space's -/
def THI (h : ms_M) : Prop := (0 ≤ h 143 6 ∧ h 143 6 ≤ 60) ∧ (∀ i : Nat, (i : Int) < h 143 6 → NVa h (h 148 i)) ∧ ∀ i : Nat, (i : Int) < h 143 6 - 1 → LOk h i
theorem th_17 {l1 : Int} : ∀ (k : Nat) (l2 : Int) {h : ms_M}, STC h → H20 h → THI h → 0 ≤ l2 → Pc (qw_X5_throwUp_17 nn k l1 l2 h) (fun g => g 143 1 = 1 → STC g ∧ FRS g) := by
  intro k
  induction k with
  | zero => intro l2 h S H T r2; exact pc_none
  | succ k ih =>
    intro l2 h S H T r2
    obtain ⟨d1, d2, d3⟩ := T
    have fin : Pc (qj_X5_throwUp_59 nn l1 h) (fun g => g 143 1 = 1 → STC g ∧ FRS g) := by
      unfold qj_X5_throwUp_59
      refine pc_xl (fun h1 e1 => pc_rA (fun _ _ v3 _ => pc_xl (fun h4 e4 => pc_ret (fun q => ?_))))
      rw [e4, up_n (by omega), e1, up_s] at q; omega
    unfold qw_X5_throwUp_17
    refine pc_if (fun _ => fin) (fun c => pc_if (fun _ => fin) (fun c2 => ?_))
    refine pc_sv (pl_top S (by omega)) (fun u7 T7 => ?_)
    obtain ⟨t1, t2, t3, t4, t5, t6, t7, t8, t9⟩ := T7
    have N := d2 (h 143 6 - 1).toNat (by omega)
    obtain ⟨t7, t7'⟩ := t7 N
    have S7 := stc_q t1 t2 S
    have H7 := h20_q S t1 H
    have L7 : ∀ i : Nat, (i : Int) < h 143 6 - 1 → LOk u7 i := fun i hi => by
      have L := d3 i hi
      refine ⟨by rw [t3]; exact nva_q t1 L.1, ?_⟩
      rw [t3, t4]; exact pgo_q S L.1 t1 L.2
    have T : TPd u7 := by
      refine ⟨by omega, by rw [t6, t5], ?_, ?_, ?_, fun i hi => L7 i (by omega)⟩
      · rw [t5, t3]; exact nva_q t1 N
      · rw [t5, t3, bN_q t1]; exact t7
      · rw [t5, t3, bN_q t1, mo_q (t1.2.2 _ (nva_vb S N))]; exact t7'
    refine pc_sv (ic_all S7 H7 T) (fun u9 Q => ?_)
    refine pc_if (fun z => ?_) (fun z => pc_ret (fun _ => ?_))
    · have e9 : u9.2 = u7 := by
        rcases Q with q | q
        · exact q.2
        · exact absurd z q.1
      rw [e9]
      refine pc_xl (fun v11 e11 => pc_xl (fun h12 e12 => pc_add (by omega) (fun v13 e13 => ?_)))
      rw [t5, oq_sub_eq (by omega) (by omega) (by omega)] at e11
      have d12 : h12 143 6 = h 143 6 - 1 := by rw [e12, up_s]; exact e11
      have n12 : ∀ c k, ¬ (c = 143 ∧ k = 6) → h12 c k = u7 c k := fun c k q => by rw [e12]; exact up_n q
      have F12 : SPF u7 h12 := by rw [e12]; exact spf_up rfl (by omega)
      refine ih v13 (stc_q F12 (fun k => n12 _ _ (by omega)) S7) (h20_q S7 F12 H7) ⟨by omega, fun i hi => ?_, fun i hi => ?_⟩ (by omega)
      · rw [n12 _ _ (by omega), t3]
        exact nva_q F12 (nva_q t1 (d2 i (by omega)))
      · have L := L7 i (by omega)
        refine ⟨by rw [n12 _ _ (by omega)]; exact nva_q F12 L.1, ?_⟩
        rw [n12 _ _ (by omega), n12 _ _ (by omega)]; exact pgo_q S7 L.1 F12 L.2
    · rcases Q with q | q
      · exact absurd q.1 z
      · exact q.2
theorem th_all {l1 : Int} (S : STC h) (H : H20 h) (F : FRS h) : Pc (qf_X5_throwUp nn l1 h) (fun g => g 143 1 = 1 → STC g ∧ FRS g) := by
  unfold qf_X5_throwUp
  refine pc_se (fun u _ => pc_if (fun _ => ?_) (fun _ => pc_xl (fun z e => pc_ret (fun q => absurd q (by rw [e, up_s]; decide)))))
  refine th_17 nn 0 S H ⟨by have := F.1; omega, fun i hi => ?_, F.2.2.2⟩ (by omega)
  by_cases q : (i : Int) < h 143 6 - 1
  · exact (F.2.2.2 i q).1
  · rw [show i = (h 143 6 - 1).toNat by omega]; exact F.2.2.1.1
end

/- THE MACHINE OF THE CLASS STAYS WHERE INSTRUCTIONS BEGIN -/
section
variable {nn : Nat} {h g z : ms_M}
theorem oq_as {a b c : Int} : oq_add (oq_add a b) c = oq_add a (oq_add b c) := by
  show (Int32.ofInt (Int32.ofInt a + Int32.ofInt b).toInt + Int32.ofInt c).toInt = (Int32.ofInt a + Int32.ofInt (Int32.ofInt b + Int32.ofInt c).toInt).toInt
  rw [Int32.ofInt_toInt, Int32.ofInt_toInt, Int32.add_assoc]
theorem oq_back {p a : Int} (ha : -2147483648 ≤ a ∧ a ≤ 2147483647) : oq_add p (oq_sub a p) = a := by
  show (Int32.ofInt p + Int32.ofInt (Int32.ofInt a - Int32.ofInt p).toInt).toInt = a
  rw [Int32.ofInt_toInt, Int32.add_comm, Int32.sub_add_cancel, Int32.toInt_ofInt_of_le (by omega) (by omega)]
/-- method number n is a class's of the space -/
def NVa (h : ms_M) (n : Int) : Prop := 0 ≤ n ∧ n < h 56 3 * 12
def bN (h : ms_M) (n : Int) : Nat := (h 60 (n / 12).toNat).toNat
/-- place p of method n goes well -/
def PGo (h : ms_M) (n p : Int) : Prop := ∃ B, BGo h (bN h n) (n % 12) B ∧ B p
def LOk (h : ms_M) (i : Nat) : Prop := NVa h (h 148 i) ∧ PGo h (h 148 i) (h 149 i + 2)
def TOk (h : ms_M) (t : Nat) : Prop := NVa h (h 148 t) ∧ (h 143 18).toNat = bN h (h 148 t) ∧ h 143 19 = mo h (bN h (h 148 t)) (h 148 t % 12) 6 ∧ (PGo h (h 148 t) (h 149 t) ∨ (h (bN h (h 148 t)) 12 ≤ h 148 t % 12 ∧ h 149 t = 0))
def J74 (h : ms_M) : Prop := ∀ k : Nat, (k : Int) < h 56 3 → bt h (h 60 k).toNat 0 = 74
def FRS (h : ms_M) : Prop := (1 ≤ h 143 6 ∧ h 143 6 ≤ 60) ∧ h 143 17 = h 143 6 - 1 ∧ TOk h (h 143 6 - 1).toNat ∧ ∀ i : Nat, (i : Int) < h 143 6 - 1 → LOk h i
/-- the space is sound -/
def STC (h : ms_M) : Prop := SGo h ∧ J74 h ∧ (∀ k : Nat, k < 8 → 0 ≤ h 60 k ∧ VBb h (h 60 k).toNat) ∧ (0 ≤ h 56 3 ∧ h 56 3 ≤ 8)
theorem stc_q (F : SPF h g) (hl : ∀ k, g 68 k = h 68 k) (S : STC h) : STC g := by
  refine ⟨sgo_q (fun k hk => (S.2.2.1 k hk).2) S.2.2.2.2 F hl S.1, fun k hk => ?_, fun k hk => ?_, by rw [F.2.1]; exact S.2.2.2⟩
  · rw [F.2.1] at hk
    have := S.2.2.2.2
    rw [F.1, bt_q (F.2.2 _ (S.2.2.1 k (by omega)).2)]
    exact S.2.1 k hk
  · rw [F.1]
    exact ⟨(S.2.2.1 k hk).1, vbb_q (F.2.2 _ (S.2.2.1 k hk).2) (S.2.2.1 k hk).2⟩
theorem nva_vb {n : Int} (S : STC h) (N : NVa h n) : VBb h (bN h n) := (S.2.2.1 (n / 12).toNat (by have := S.2.2.2; have := N.1; have := N.2; omega)).2
theorem bN_q {n : Int} (F : SPF h g) : bN g n = bN h n := by unfold bN; rw [F.1]
theorem nva_q {n : Int} (F : SPF h g) (N : NVa h n) : NVa g n := by unfold NVa; rw [F.2.1]; exact N
theorem pgo_q {n p : Int} (S : STC h) (N : NVa h n) (F : SPF h g) (P : PGo h n p) : PGo g n p := by
  obtain ⟨B, G, b⟩ := P
  refine ⟨B, ?_, b⟩
  rw [bN_q F]
  exact bgo_q (F.2.2 _ (nva_vb S N)) G
/-- nothing of the frames has changed -/
def MV0 (h g : ms_M) : Prop := SPF h g ∧ (∀ k, g 68 k = h 68 k) ∧ (∀ k, g 148 k = h 148 k) ∧ (g 143 6 = h 143 6 ∧ g 143 17 = h 143 17 ∧ g 143 18 = h 143 18 ∧ g 143 19 = h 143 19) ∧ ∀ k, g 149 k = h 149 k
/-- .. but the uppermost place, that may have gone on by w -/
def MVW (h g : ms_M) (w : Int) : Prop := SPF h g ∧ (∀ k, g 68 k = h 68 k) ∧ (∀ k, g 148 k = h 148 k) ∧ (g 143 6 = h 143 6 ∧ g 143 17 = h 143 17 ∧ g 143 18 = h 143 18 ∧ g 143 19 = h 143 19) ∧ ∀ k : Nat, g 149 k = h 149 k ∨ (k = (h 143 17).toNat ∧ g 149 k = oq_add (h 149 k) w)
theorem mv0_refl : MV0 h h := ⟨spf_refl, fun _ => rfl, fun _ => rfl, ⟨rfl, rfl, rfl, rfl⟩, fun _ => rfl⟩
theorem mv0_tr (A : MV0 h g) (B : MV0 g z) : MV0 h z := by
  obtain ⟨a1, a2, a3, ⟨a4, a5, a6, a7⟩, a8⟩ := A
  obtain ⟨b1, b2, b3, ⟨b4, b5, b6, b7⟩, b8⟩ := B
  exact ⟨spf_tr a1 b1, fun k => (b2 k).trans (a2 k), fun k => (b3 k).trans (a3 k), ⟨b4.trans a4, b5.trans a5, b6.trans a6, b7.trans a7⟩, fun k => (b8 k).trans (a8 k)⟩
theorem mvw_of {w : Int} (A : MV0 h g) : MVW h g w := ⟨A.1, A.2.1, A.2.2.1, A.2.2.2.1, fun k => .inl (A.2.2.2.2 k)⟩
theorem mvw_l {w : Int} (A : MV0 h g) (B : MVW g z w) : MVW h z w := by
  obtain ⟨a1, a2, a3, ⟨a4, a5, a6, a7⟩, a8⟩ := A
  obtain ⟨b1, b2, b3, ⟨b4, b5, b6, b7⟩, b8⟩ := B
  refine ⟨spf_tr a1 b1, fun k => (b2 k).trans (a2 k), fun k => (b3 k).trans (a3 k), ⟨b4.trans a4, b5.trans a5, b6.trans a6, b7.trans a7⟩, fun k => ?_⟩
  have := b8 k
  rw [a8, a5] at this; exact this
theorem mvw_r {w : Int} (A : MVW h g w) (B : MV0 g z) : MVW h z w := by
  obtain ⟨a1, a2, a3, ⟨a4, a5, a6, a7⟩, a8⟩ := A
  obtain ⟨b1, b2, b3, ⟨b4, b5, b6, b7⟩, b8⟩ := B
  refine ⟨spf_tr a1 b1, fun k => (b2 k).trans (a2 k), fun k => (b3 k).trans (a3 k), ⟨b4.trans a4, b5.trans a5, b6.trans a6, b7.trans a7⟩, fun k => ?_⟩
  rw [b8]; exact a8 k
theorem mv0_fr {L : List Nat} {LF : List (Nat × Nat)} (F : ∀ c k, nw_F L LF false false c k = true → g c k = h c k) (hc : ((L.all (fun x => !(is_I x) && !(Nat.beq (ly_T x) 1)) && LF.all (fun q => !(is_I q.1) && !(Nat.beq (ly_T q.1) 1))) && (nw_F L LF false false 56 3 && (!(L.contains 60) && LF.all (fun q => !(Nat.beq q.1 60))))) = true) (h2 : ((!(L.contains 68) && LF.all (fun q => !(Nat.beq q.1 68))) && ((!(L.contains 148) && LF.all (fun q => !(Nat.beq q.1 148))) && (!(L.contains 149) && LF.all (fun q => !(Nat.beq q.1 149))))) = true) (h3 : (nw_F L LF false false 143 6 && (nw_F L LF false false 143 17 && (nw_F L LF false false 143 18 && nw_F L LF false false 143 19))) = true) : MV0 h g := by
  rw [Bool.and_eq_true, Bool.and_eq_true (!(L.contains 148) && _), Bool.and_eq_true (!(L.contains 68)), Bool.and_eq_true (!(L.contains 148)), Bool.and_eq_true (!(L.contains 149))] at h2
  rw [Bool.and_eq_true, Bool.and_eq_true (nw_F L LF false false 143 17), Bool.and_eq_true (nw_F L LF false false 143 18)] at h3
  obtain ⟨⟨x1, x2⟩, ⟨y1, y2⟩, z1, z2⟩ := h2
  refine ⟨spf_fr F hc, fun k => F _ _ (nw_ar ?_ k), fun k => F _ _ (nw_ar ?_ k), ⟨F _ _ h3.1, F _ _ h3.2.1, F _ _ h3.2.2.1, F _ _ h3.2.2.2⟩, fun k => F _ _ (nw_ar ?_ k)⟩
  · simp only [Bool.and_eq_true]; exact ⟨x1, x2, rfl, rfl⟩
  · simp only [Bool.and_eq_true]; exact ⟨y1, y2, rfl, rfl⟩
  · simp only [Bool.and_eq_true]; exact ⟨z1, z2, rfl, rfl⟩
theorem mv0_up {c k : Nat} {v : Int} (hc : ((!(is_I c) && !(Nat.beq (ly_T c) 1)) && !(Nat.beq c 60)) = true) (h3 : ¬ (c = 56 ∧ k = 3)) (h4 : c ≠ 68 ∧ c ≠ 148 ∧ c ≠ 149 ∧ (c ≠ 143 ∨ (k ≠ 6 ∧ k ≠ 17 ∧ k ≠ 18 ∧ k ≠ 19))) : MV0 h (up_M h c k v) :=
  ⟨spf_up hc h3, fun j => up_n (by omega), fun j => up_n (by omega), ⟨up_n (by omega), up_n (by omega), up_n (by omega), up_n (by omega)⟩, fun j => up_n (by omega)⟩
theorem pl_goOn {w : Int} : Pc (qf_X5_goOn nn w h) (fun g => MVW h g w) := by
  unfold qf_X5_goOn
  refine pc_rA (fun j0 j1 v3 e3 => pc_xl (fun v4 e4 => pc_wA (fun _ _ h5 e5 => pc_ret ?_)))
  rw [e5]
  refine ⟨spf_up rfl (by omega), fun k => up_n (by omega), fun k => up_n (by omega), ⟨up_n (by omega), up_n (by omega), up_n (by omega), up_n (by omega)⟩, fun k => ?_⟩
  by_cases q : k = (h 143 17).toNat
  · right
    refine ⟨q, ?_⟩
    rw [q, up_s, e4, e3]
  · left; exact up_n (by omega)
theorem pl_push {v : Int} : Pc (qf_X5_push nn v h) (fun g => MV0 h g) := fun r e => mv0_fr (fun c k w => (ff_X5_push nn) _ e c k w) rfl rfl rfl
theorem pl_pop : Pc (qf_X5_pop nn h) (fun r => MV0 h r.2) := fun r e => mv0_fr (fun c k w => (ff_X5_pop nn) _ e c k w) rfl rfl rfl
theorem pl_make {a b : Int} : Pc (qf_X5_make nn a b h) (fun r => MV0 h r.2) := fun r e => mv0_fr (fun c k w => (ff_X5_make nn) _ e c k w) rfl rfl rfl
theorem pl_cellOf {a b : Int} : Pc (qf_X5_cellOf nn a b h) (fun r => MV0 h r.2) := fun r e => mv0_fr (fun c k w => (ff_X5_cellOf nn) _ e c k w) rfl rfl rfl
theorem pl_give {v w : Int} : Pc (qf_X5_give nn v w h) (fun g => MVW h g w) := by
  unfold qf_X5_give
  exact pc_sv pl_push (fun u M => pc_sv pl_goOn (fun u4 W => pc_ret (mvw_l M W)))
theorem pl_give_ {v w : Int} : Pc (mx_sv (qf_X5_give nn v w h) fun u4 => some u4) (fun g => MVW h g w) := pc_sv pl_give (fun u W => pc_ret W)
theorem pl_goOn_ {w : Int} : Pc (mx_sv (qf_X5_goOn nn w h) fun u4 => some u4) (fun g => MVW h g w) := pc_sv pl_goOn (fun u W => pc_ret W)
theorem mv_thr {v : Int} : MV0 h (up_M h 143 20 v) := mv0_up rfl (by omega) (by omega)
theorem mv_st {v : Int} : MV0 h (up_M h 143 1 v) := mv0_up rfl (by omega) (by omega)
theorem pl_local {o n : Int} : Pc (qf_X5_stepLocal nn o n h) (fun g => MVW h g 2) := by
  have j : ∀ l, Pc (qj_X5_stepLocal_37 nn l h) (fun g => MVW h g 2) := fun l => by
    unfold qj_X5_stepLocal_37
    exact pc_rA (fun _ _ v e => pl_give_)
  unfold qf_X5_stepLocal
  refine pc_xl (fun v6 e6 => pc_xl (fun v7 e7 => ?_))
  refine pc_if (fun _ => pc_if (fun _ => j _) (fun _ => pc_if (fun _ => ?_) (fun _ => j _))) (fun _ => pc_xl (fun h16 e16 => pc_ret (by rw [e16]; exact mvw_of mv_st)))
  refine pc_sv pl_pop (fun u10 M => pc_wA (fun _ _ h11 e11 => ?_))
  refine pc_imp pl_goOn_ (fun g W => mvw_l (mv0_tr M ?_) W)
  rw [e11]; exact mv0_up rfl (by omega) (by omega)
theorem pl_arith {o : Int} : Pc (qf_X5_stepArithmetic nn o h) (fun g => MVW h g 1) := by
  have j : ∀ {z : ms_M} (a b : Int), MV0 h z → Pc (qj_X5_stepArithmetic_35 nn o a b z) (fun g => MVW h g 1) := fun a b M => by
    unfold qj_X5_stepArithmetic_35
    exact pc_se (fun u _ => pc_imp pl_give_ (fun g W => mvw_l M W))
  have t : ∀ {z : ms_M}, MV0 h z → Pc (qj_X5_stepArithmetic_26 nn z) (fun g => MVW h g 1) := fun M => by
    unfold qj_X5_stepArithmetic_26
    exact pc_xl (fun h4 e => pc_ret (by rw [e]; exact mvw_of (mv0_tr M mv_thr)))
  unfold qf_X5_stepArithmetic
  refine pc_sv pl_pop (fun u6 M6 => pc_sv pl_pop (fun u8 M8 => ?_))
  have M := mv0_tr M6 M8
  exact pc_if (fun _ => j _ _ M) (fun _ => pc_if (fun _ => t M) (fun _ => pc_if (fun _ => j _ _ M) (fun _ => t M)))
theorem pl_element : Pc (qf_X5_stepElement nn h) (fun g => MVW h g 1) := by
  unfold qf_X5_stepElement
  refine pc_sv pl_pop (fun u2 M2 => pc_sv pl_pop (fun u4 M4 => pc_sv pl_cellOf (fun u6 M6 => ?_)))
  have M := mv0_tr M2 (mv0_tr M4 M6)
  exact pc_if (fun _ => pc_ret (mvw_of M)) (fun _ => pc_if (fun _ => pc_ret (mvw_of M)) (fun _ => pc_rA (fun _ _ v e => pc_imp pl_give_ (fun g W => mvw_l M W))))
theorem pl_giveElement {o : Int} : Pc (qf_X5_stepGiveElement nn o h) (fun g => MVW h g 1) := by
  have j : ∀ {z : ms_M} (a b : Int), MV0 h z → Pc (qj_X5_stepGiveElement_89 nn a b z) (fun g => MVW h g 1) := fun a b M => by
    unfold qj_X5_stepGiveElement_89
    refine pc_wA (fun _ _ h2 e => pc_imp pl_goOn_ (fun g W => mvw_l (mv0_tr M ?_) W))
    rw [e]; exact mv0_up rfl (by omega) (by omega)
  unfold qf_X5_stepGiveElement
  refine pc_sv pl_pop (fun u6 M6 => pc_sv pl_pop (fun u8 M8 => pc_sv pl_pop (fun u10 M10 => pc_sv pl_cellOf (fun u12 M12 => ?_))))
  have M := mv0_tr M6 (mv0_tr M8 (mv0_tr M10 M12))
  refine pc_if (fun _ => pc_ret (mvw_of M)) (fun _ => pc_if (fun _ => ?_) (fun _ => pc_ret (mvw_of M)))
  refine pc_if (fun _ => j _ _ M) (fun _ => pc_se (fun u14 _ => pc_if (fun _ => j _ _ M) (fun _ => ?_)))
  refine pc_rA (fun _ _ v18 _ => pc_rA (fun _ _ v20 _ => pc_se (fun u21 _ => pc_se (fun u23 _ => ?_))))
  exact pc_if (fun _ => j _ _ M) (fun _ => pc_xl (fun h24 e => pc_ret (by rw [e]; exact mvw_of (mv0_tr M mv_thr))))
theorem pl_field {a : Int} : Pc (qf_X5_stepField nn a h) (fun g => MVW h g 2) := by
  unfold qf_X5_stepField
  refine pc_sv pl_pop (fun u2 M => pc_se (fun u4 _ => pc_se (fun u6 _ => ?_)))
  exact pc_if (fun _ => pc_rA (fun _ _ v e => pc_imp pl_give_ (fun g W => mvw_l M W))) (fun _ => pc_xl (fun h24 e => pc_ret (by rw [e]; exact mvw_of (mv0_tr M mv_thr))))
theorem pl_giveField {a : Int} : Pc (qf_X5_stepGiveField nn a h) (fun g => MVW h g 2) := by
  unfold qf_X5_stepGiveField
  refine pc_sv pl_pop (fun u2 M2 => pc_sv pl_pop (fun u4 M4 => pc_se (fun u6 _ => pc_se (fun u8 _ => ?_))))
  have M := mv0_tr M2 M4
  refine pc_if (fun _ => pc_wA (fun _ _ h10 e => pc_imp pl_goOn_ (fun g W => mvw_l (mv0_tr M ?_) W))) (fun _ => pc_xl (fun h24 e => pc_ret (by rw [e]; exact mvw_of (mv0_tr M mv_thr))))
  rw [e]; exact mv0_up rfl (by omega) (by omega)
theorem pl_print : Pc (qf_X5_stepPrint nn h) (fun g => MVW h g 1) := by
  have j : ∀ {z : ms_M}, MV0 h z → Pc (qj_X5_stepPrint_25 nn z) (fun g => MVW h g 1) := fun M => by
    unfold qj_X5_stepPrint_25
    refine pc_xl (fun v2 _ => pc_xl (fun h3 e => pc_imp pl_goOn_ (fun g W => mvw_l (mv0_tr M ?_) W)))
    rw [e]; exact mv0_up rfl (by omega) (by omega)
  unfold qf_X5_stepPrint
  refine pc_sv pl_pop (fun u7 M => pc_if (fun _ => j M) (fun _ => pc_wA (fun _ _ h11 e => j (mv0_tr M ?_))))
  rw [e]; exact mv0_up rfl (by omega) (by omega)
theorem pl_giveNew {a b : Int} : Pc (qf_X5_giveNew nn a b h) (fun g => MVW h g 2) := by
  unfold qf_X5_giveNew
  exact pc_sv pl_make (fun u2 M => pc_if (fun _ => pc_ret (mvw_of M)) (fun _ => pc_imp pl_give_ (fun g W => mvw_l M W)))
theorem pl_newArray {a : Int} : Pc (qf_X5_stepNewArray nn a h) (fun g => MVW h g 2) := by
  unfold qf_X5_stepNewArray
  exact pc_sv pl_pop (fun u2 M => pc_if (fun _ => pc_sv pl_giveNew (fun u W => pc_ret (mvw_l M W))) (fun _ => pc_xl (fun h24 e => pc_ret (by rw [e]; exact mvw_of (mv0_tr M mv_thr)))))
theorem pl_length : Pc (qf_X5_stepLength nn h) (fun g => MVW h g 1) := by
  unfold qf_X5_stepLength
  refine pc_sv pl_pop (fun u2 M => pc_se (fun u4 _ => pc_if (fun _ => pc_xl (fun h24 e => pc_ret (by rw [e]; exact mvw_of (mv0_tr M mv_thr)))) (fun _ => ?_)))
  exact pc_xl (fun v7 _ => pc_rA (fun _ _ v8 _ => pc_rA (fun _ _ v10 _ => pc_xl (fun v11 _ => pc_imp pl_give_ (fun g W => mvw_l M W)))))
theorem pl_kin {o c : Int} : Pc (qf_X5_stepKin nn o c h) (fun g => MVW h g 2) := by
  have j : ∀ {z : ms_M} (a b : Int), MV0 h z → Pc (qj_X5_stepKin_38 nn o a b z) (fun g => MVW h g 2) := fun a b M => by
    unfold qj_X5_stepKin_38 qj_X5_stepKin_74 qj_X5_stepKin_58
    have k : ∀ v, Pc (mx_sv (qf_X5_give nn v 2 _) fun u2 => some u2) (fun g => MVW h g 2) := fun v => pc_imp pl_give_ (fun g W => mvw_l M W)
    exact pc_if (fun _ => pc_if (fun _ => k _) (fun _ => pc_if (fun _ => pc_xl (fun h24 e => pc_ret (by rw [e]; exact mvw_of (mv0_tr M mv_thr)))) (fun _ => k _))) (fun _ => pc_if (fun _ => k _) (fun _ => k _))
  have j7 : ∀ {z : ms_M} (a : Int), MV0 h z → Pc (qj_X5_stepKin_37 nn o a z) (fun g => MVW h g 2) := fun a M => by
    unfold qj_X5_stepKin_37
    exact j a 0 M
  unfold qf_X5_stepKin
  refine pc_sv pl_pop (fun u11 M => pc_se (fun u13 _ => pc_if (fun _ => j7 _ M) (fun _ => ?_)))
  exact pc_rA (fun _ _ v17 _ => pc_se (fun u19 _ => pc_if (fun _ => j7 _ M) (fun _ => j _ _ M)))
theorem pl_throw : Pc (qf_X5_stepThrow nn h) (fun g => MV0 h g) := by
  unfold qf_X5_stepThrow
  exact pc_sv pl_pop (fun u2 M => pc_if (fun _ => pc_xl (fun h24 e => pc_ret (by rw [e]; exact (mv0_tr M mv_thr)))) (fun _ => pc_xl (fun h24 e => pc_ret (by rw [e]; exact (mv0_tr M mv_thr)))))
/-- how far a jump at p goes -/
def JOF (h : ms_M) (p : Int) : Int := oq_s (pr2 h (h 143 18).toNat (oq_add (oq_add (h 143 19) p) 1))
theorem jof_q {p : Int} (V : VBb h (h 143 18).toNat) (M : MV0 h g) : JOF g p = JOF h p := by
  unfold JOF
  rw [M.2.2.2.1.2.2.1, M.2.2.2.1.2.2.2, pr2_q (M.1.2.2 _ V)]
theorem pl_jump {o p : Int} (V : VBb h (h 143 18).toNat) : Pc (qf_X5_stepJump nn o p h) (fun g => (MVW h g 3 ∧ ¬ o = 167) ∨ MVW h g (JOF h p)) := by
  have j : ∀ {z : ms_M} (s : Int), (s = 0 → ¬ o = 167) → MV0 h z → Pc (qj_X5_stepJump_76 nn p s z) (fun g => (MVW h g 3 ∧ ¬ o = 167) ∨ MVW h g (JOF h p)) := fun {z} s hs M => by
    unfold qj_X5_stepJump_76
    refine pc_if (fun c => pc_imp pl_goOn_ (fun g W => .inl ⟨mvw_l M W, hs c⟩)) (fun _ => ?_)
    refine pc_ck (fun _ => pc_xl (fun v5 e5 => pc_xl (fun v6 e6 => pc_ck (fun _ => pc_sv pv_pair (fun u8 e8 => pc_xl (fun v9 e9 => pc_imp pl_goOn_ (fun g W => .inr (mvw_l M ?_))))))))
    have : v9 = JOF z p := by rw [e9, e8, e6, e5]; rfl
    rw [← jof_q V M, ← this]; exact W
  unfold qf_X5_stepJump qj_X5_stepJump_44 qj_X5_stepJump_21
  refine pc_if (fun c1 => pc_if (fun c2 => ?_) (fun c2 => ?_)) (fun c1 => ?_)
  · refine pc_if (fun _ => j 1 (fun z => absurd z (by decide)) mv0_refl) (fun c3 => ?_)
    exact pc_sv pl_pop (fun u14 M14 => pc_sv pl_pop (fun u16 M16 => pc_se (fun u17 _ => j _ (fun _ => c3) (mv0_tr M14 M16))))
  · exact pc_sv pl_pop (fun u M => pc_if (fun _ => j _ (fun _ => by omega) M) (fun _ => j _ (fun _ => by omega) M))
  · exact pc_sv pl_pop (fun u M => pc_if (fun _ => j _ (fun _ => by omega) M) (fun _ => j _ (fun _ => by omega) M))
end

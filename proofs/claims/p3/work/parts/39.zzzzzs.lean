/- WHAT THE VERIFIER OF THE CLASS TELLS OF THE STATES, AND OF ALL METHODS -/
section
variable {nn : Nat} {h g : ms_M}
/-- constant k of Image b is a field's MEMBER -/
def CRf (h : ms_M) (b : Nat) (k : Int) : Prop := tg h b k = 4 ∧ ¬ bt h b (ta h b (pa h b k 2)) = 40
theorem crf_q {b : Nat} {k : Int} (A : IMQ h g b) : CRf g b k ↔ CRf h b k := by
  unfold CRf
  rw [tg_q A, bt_q A, ta_q A, pa_q A]
theorem pv_memberRight {o k : Int} (ho : o = 180 ∨ o = 181) : Pc (qf_X11_isMemberRight nn o k h) (fun u => ¬ u = 0 → CRf h (h 127 5).toNat k) := by
  have j56 : ∀ l3 s : Int, Pc (qj_X11_isMemberRight_56 nn o l3 s h) (fun u => ¬ u = 0 → l3 = 0 ∧ ¬ s = -1) := by
    intro l3 s
    unfold qj_X11_isMemberRight_56
    refine pc_se (fun u12 e12 => ?_)
    refine pc_if (fun _ => pc_ret (fun z => absurd rfl z)) (fun c => ?_)
    have hs : ¬ s = -1 := by
      intro z
      rw [z] at e12
      unfold qf_X7_imageOfMember at e12
      rw [if_pos (by decide)] at e12
      cases e12
      exact c (by decide)
    refine pc_if (fun _ => ?_) (fun c2 => by omega)
    unfold qj_X11_isMemberRight_87
    refine pc_if (fun z => ?_) (fun _ => pc_ret (fun z => absurd rfl z))
    exact fun r _ _ => ⟨z, hs⟩
  have j33 : ∀ l3 : Int, Pc (qj_X11_isMemberRight_33 nn o k l3 h) (fun u => ¬ u = 0 → l3 = 0 ∧ tg h (h 127 5).toNat k = 4) := by
    intro l3
    unfold qj_X11_isMemberRight_33
    refine pc_ck (fun _ => pc_ck (fun _ => pc_sv pv_tag (fun u18 e18 => ?_)))
    refine pc_if (fun _ => pc_imp (j56 l3 (-1)) (fun u q z => absurd rfl (q z).2)) (fun c => ?_)
    refine pc_rA (fun _ _ v20 _ => pc_imp (j56 l3 v20) (fun u q z => ⟨(q z).1, ?_⟩))
    rw [← e18]; exact Decidable.not_not.1 c
  unfold qf_X11_isMemberRight
  refine pc_ck (fun _ => pc_ck (fun _ => pc_ck (fun _ => pc_ck (fun _ => pc_sv pv_part (fun u26 e26 => pc_sv pv_textAt (fun u28 e28 => pc_sv pv_byte (fun u30 e30 => ?_)))))))
  refine pc_if (fun c => ?_) (fun c => ?_)
  · exact pc_imp (j33 0) (fun u q z => ⟨(q z).2, by rw [← e26, ← e28, ← e30]; exact c⟩)
  · exact pc_imp (j33 1) (fun u q z => absurd (q z).1 (by decide))
theorem pv_constRight {o k : Int} : Pc (qf_X11_isConstantRight nn o k h) (fun u => ¬ u = 0 → (o = 180 ∨ o = 181) → CRf h (h 127 5).toNat k) := by
  have j : (o = 180 ∨ o = 181) → Pc (qj_X11_isConstantRight_152 nn o k h) (fun u => ¬ u = 0 → (o = 180 ∨ o = 181) → CRf h (h 127 5).toNat k) := by
    intro ho
    unfold qj_X11_isConstantRight_152
    exact pc_sv (pv_memberRight ho) (fun u q => pc_ck (fun _ => pc_ret (fun z _ => q z)))
  unfold qf_X11_isConstantRight
  refine pc_if (fun c => fun r _ _ z => by omega) (fun _ => ?_)
  refine pc_if (fun c => j (.inl c)) (fun c1 => ?_)
  refine pc_if (fun c => j (.inr c)) (fun c2 => ?_)
  exact fun r _ _ z => by omega
theorem pv_state {pc o re : Int} (V : VBv h) : Pc (qf_X11_proveState nn pc o re h) (fun r => r.1 = 0 → (o = 180 ∨ o = 181) → CRf h (h 127 5).toNat (oc h (oq_add pc 1))) := by
  have j46 : ∀ {z : ms_M}, SAV h z → Pc (qj_X11_proveState_46 nn pc o z) (fun r => r.1 = 0 → (o = 180 ∨ o = 181) → CRf h (h 127 5).toNat (oc h (oq_add pc 1))) := by
    intro z S
    unfold qj_X11_proveState_46
    refine pc_se (fun u6 _ => ?_)
    refine pc_if (fun _ => ?_) (fun _ => pc_ret (fun z => absurd z (show ¬ (12 : Int) = 0 by decide)))
    refine pc_xl (fun v7 e7 => pc_sv pv_code (fun u9 e9 => pc_sv pv_constRight (fun u11 q11 => ?_)))
    refine pc_if (fun c => ?_) (fun _ => pc_ret (fun z => absurd z (show ¬ (11 : Int) = 0 by decide)))
    intro r _ _ ho
    have q := q11 c ho
    rw [e9, e7, oc_q S, S.1.1] at q
    exact (crf_q S.2).1 q
  have j40 : ∀ l4 : Int, Pc (qj_X11_proveState_40 nn pc o l4 h) (fun r => r.1 = 0 → (o = 180 ∨ o = 181) → CRf h (h 127 5).toNat (oc h (oq_add pc 1))) := by
    intro l4
    unfold qj_X11_proveState_40
    exact pc_se (fun u30 e30 => j46 (sav_fr V (fun c k w => (ff_X11_takeFrame nn) _ e30 c k w) rfl))
  have j19 : ∀ l4 : Int, Pc (qj_X11_proveState_19 nn pc o re l4 h) (fun r => r.1 = 0 → (o = 180 ∨ o = 181) → CRf h (h 127 5).toNat (oc h (oq_add pc 1))) := by
    intro l4
    unfold qj_X11_proveState_19
    refine pc_if (fun _ => j46 sav_refl) (fun _ => ?_)
    refine pc_if (fun _ => j40 l4) (fun _ => pc_se (fun u _ => ?_))
    exact pc_if (fun _ => j40 l4) (fun _ => pc_ret (fun z => absurd z (show ¬ (12 : Int) = 0 by decide)))
  unfold qf_X11_proveState
  refine pc_se (fun u _ => ?_)
  refine pc_if (fun _ => j19 u) (fun _ => ?_)
  exact pc_if (fun _ => j19 u) (fun _ => pc_ret (fun z => absurd z (show ¬ (10 : Int) = 0 by decide)))
theorem pv_width0 {o w : Int} : Pc (qf_X11_widthOf nn o h) (fun u => u = 0 → ¬ WIo o w) := by
  unfold qf_X11_widthOf qj_X11_widthOf_156
  refine pc_if (fun c => pc_ret (fun z => absurd z (by decide))) (fun c => ?_)
  refine pc_sv pv_bare (fun u1 q1 => ?_)
  refine pc_if (fun z1 => ?_) (fun z1 => pc_ret (fun z => absurd z (by decide)))
  refine pc_sv pv_jump (fun u2 q2 => ?_)
  refine pc_if (fun z2 => ?_) (fun z2 => pc_ret (fun z => absurd z (by decide)))
  iterate 15 refine pc_if (fun c => pc_ret (fun z => absurd z (by decide))) (fun _ => ?_)
  refine pc_ret (fun _ k => ?_)
  rcases k with ⟨-, k | k⟩ | ⟨-, k⟩ | ⟨-, k⟩
  · omega
  · rcases q1 with q | q
    · omega
    · exact q.2 k
  · rcases q2 with q | q
    · omega
    · exact q.2 k
  · unfold TWO at k; omega
/-- what the states tell -/
def STv (h : ms_M) : Prop := 0 < h 127 16 ∧ ∀ q, BGm h q → ((oc h q = 180 ∨ oc h q = 181) → CRf h (h 127 5).toNat (oc h (q + 1))) ∧ ∀ w, WIo (oc h q) w → q + w = h 127 16 → LST (oc h q)
def STi (h : ms_M) (pc re : Int) : Prop := (∀ q, BGm h q → q < pc → ((oc h q = 180 ∨ oc h q = 181) → CRf h (h 127 5).toNat (oc h (q + 1))) ∧ ∀ w, WIo (oc h q) w → q + w = pc → re = 0 → LST (oc h q)) ∧ (re = 0 → 0 < pc)
theorem sti_q {pc re : Int} (T : TFR h g) (S : STi h pc re) : STi g pc re := by
  refine ⟨fun q hq hl => ?_, S.2⟩
  rw [oc_q T.1, T.1.1.1, oc_q T.1, crf_q T.1.2]
  exact S.1 q ((T.2 q).1 hq) hl
theorem chn2_q {pc : Int} (T : TFR h g) (C : CHn2 h pc) : CHn2 g pc := by
  refine ⟨fun q hq => ?_, ?_⟩
  · rw [oc_q T.1]
    obtain ⟨c1, w, c2, c3, c4, c5⟩ := C.1 q ((T.2 q).1 hq)
    refine ⟨c1, w, c2, c3, c4.imp id (fun z => (T.2 _).2 z), fun r r1 r2 z => c5 r r1 r2 ((T.2 r).1 z)⟩
  · exact C.2.imp id (fun z => (T.2 _).2 z)
theorem stv_q (T : TFR h g) (S : STv h) : STv g := by
  refine ⟨by rw [T.1.1.2.2]; exact S.1, fun q hq => ?_⟩
  rw [oc_q T.1, T.1.1.1, oc_q T.1, crf_q T.1.2, T.1.1.2.2]
  exact S.2 q ((T.2 q).1 hq)
theorem ps_4 : ∀ (k : Nat) (re pc : Int) {h : ms_M}, VBv h → h 127 16 ≤ 1500 → (h 127 16 ≤ 0 ∨ CHn2 h (h 127 16)) → STi h pc re → 0 ≤ pc → (pc = 0 ∨ pc = h 127 16 ∨ BGm h pc) → Pc (qw_X11_proveStates_4 nn k re pc h) (fun r => r.1 = 0 → TFR h r.2 ∧ STv r.2) := by
  intro k
  induction k with
  | zero => intro re pc h V h5 C S h0 hp; exact pc_none
  | succ k ih =>
    intro re pc h V h5 C S h0 hp
    unfold qw_X11_proveStates_4
    refine pc_if (fun c => ?_) (fun c => ?_)
    · refine pc_if (fun z => pc_ret (fun _ => ⟨tfr_refl, ?_⟩)) (fun z => ?_)
      · have p0 := S.2 z
        have e : pc = h 127 16 := by
          rcases hp with q | q | q
          · omega
          · exact q
          · have := q.1.2; omega
        show STv h
        refine ⟨by omega, fun q hq => ?_⟩
        obtain ⟨s1, s2⟩ := S.1 q hq (by have := hq.1.2; omega)
        exact ⟨s1, fun w hw hl => s2 w hw (by omega) z⟩
      · intro r e z2
        unfold qf_X11_at at e
        rw [xl_eq] at e
        obtain ⟨u, e1, e⟩ := sv_i e
        cases e1; cases e
        exact absurd z2 (show ¬ (10 : Int) = 0 by decide)
    have C := C.resolve_left (by omega)
    have B : BGm h pc := by
      rcases hp with q | q | q
      · rw [q]; exact C.2.resolve_left (by omega)
      · omega
      · exact q
    obtain ⟨b1, w, b2, b3, b4, b5⟩ := C.1 pc B
    have wr := wio_r b2
    refine pc_sv pv_code (fun u10 e10 => ?_)
    refine pc_se (fun u12 e12 => ?_)
    have T : TFR h u12.2 := tfr_fr V (fun c k w => (ff_X11_proveState nn) _ e12 c k w) rfl rfl
    have Q := pv_state V _ e12
    refine pc_if (fun c12 => ?_) (fun c12 => ?_)
    · have Q := Q c12
      rw [oq_add_eq (by omega) (by omega) (by omega), e10] at Q
      have nx : ∀ s : Int, (s = 0 → LST (oc h pc)) → Pc (qj_X11_proveStates_52 nn (qw_X11_proveStates_4 nn k) pc u10 s u12.2) (fun r => r.1 = 0 → TFR h r.2 ∧ STv r.2) := by
        intro s hs
        unfold qj_X11_proveStates_52
        refine pc_se (fun u1 e0 => ?_)
        have e1 := pv_width _ e0
        refine pc_xl (fun v2 e2 => ?_)
        have ew : v2 = w ∨ u1 = 0 := by
          rcases e1 with z | z
          · exact .inr z
          · rw [e10] at z
            have := wio_det z b2
            left
            rw [e2]; split <;> omega
        have z0 : ¬ u1 = 0 := fun z => pv_width0 (w := w) _ e0 z (by rw [e10]; exact b2)
        have ew := ew.resolve_right z0
        refine pc_add (by omega) (fun v3 e3 => ?_)
        have D : STi h v3 s := by
          refine ⟨fun q hq hl => ?_, fun _ => by omega⟩
          by_cases z : q = pc
          · rw [z]
            exact ⟨Q, fun _ _ _ => hs⟩
          · by_cases z2 : q < pc
            · obtain ⟨s1, s2⟩ := S.1 q hq z2
              refine ⟨s1, fun w2 hw hl2 => ?_⟩
              exfalso
              obtain ⟨d1, w3, d2, d3, d4, d5⟩ := C.1 q hq
              have := wio_det hw d2
              exact d5 pc z2 (by omega) B
            · exact absurd hq (b5 q (by omega) (by omega))
        refine pc_imp (ih s v3 (vbv_q T.1 V) (by rw [T.1.1.2.2]; exact h5) (.inr ?_) (sti_q T D) (by omega) (.inr ?_)) (fun r q z => ?_)
        · rw [T.1.1.2.2]; exact chn2_q T C
        · rw [T.1.1.2.2, e3, ew]
          exact b4.imp id (fun z => (T.2 _).2 z)
        · obtain ⟨q1, q2⟩ := q z
          exact ⟨tfr_tr T q1, q2⟩
      refine pc_sv pv_last (fun u13 e13 => ?_)
      rw [e10] at e13
      refine pc_if (fun z => nx 0 (fun _ => ?_)) (fun z => nx 1 (fun z => absurd z (by decide)))
      rcases e13 with e | e
      · exact e.2
      · exact absurd e.1 z
    · intro r e z2
      unfold qf_X11_at at e
      rw [xl_eq] at e
      obtain ⟨u, e1, e⟩ := sv_i e
      cases e1; cases e
      exact absurd z2 c12
theorem ps_all (V : VBv h) (h5 : h 127 16 ≤ 1500) (C : h 127 16 ≤ 0 ∨ CHn2 h (h 127 16)) : Pc (qf_X11_proveStates nn h) (fun r => r.1 = 0 → TFR h r.2 ∧ STv r.2) :=
  ps_4 nn 1 0 V h5 C ⟨fun q hq z => by have := hq.1.1; omega, fun z => absurd z (by decide)⟩ (by omega) (.inl rfl)
/-- byte p of the code of method m of Image b -/
def ocb (h : ms_M) (b : Nat) (m p : Int) : Int := bt h b (oq_add (mo h b m 6) p)
def AIMb (h : ms_M) (b : Nat) (m p : Int) : Int := oq_add p (oq_s (oq_or (oq_shl (ocb h b m (oq_add p 1)) 8) (ocb h b m (oq_add p 2))))
/-- the code of method m of Image b goes well from the places B -/
def BGo (h : ms_M) (b : Nat) (m : Int) (B : Int → Prop) : Prop := B 0 ∧ (∀ p, B p → 0 ≤ p ∧ p < 1500) ∧ (∀ p, B p → ¬ LST (ocb h b m p) → ∃ w, WIo (ocb h b m p) w ∧ B (p + w)) ∧ (∀ p, B p → JMP (ocb h b m p) → B (AIMb h b m p)) ∧ (∀ p, B p → (ocb h b m p = 180 ∨ ocb h b m p = 181) → CRf h b (ocb h b m (p + 1))) ∧ ∀ x : Int, 0 ≤ x → x < mo h b m 7 → B (HDv h b m x)
section
variable {b : Nat} {m : Int} {B : Int → Prop}
theorem BGo.z (G : BGo h b m B) : B 0 := G.1
theorem BGo.r (G : BGo h b m B) : ∀ p, B p → 0 ≤ p ∧ p < 1500 := G.2.1
theorem BGo.n (G : BGo h b m B) : ∀ p, B p → ¬ LST (ocb h b m p) → ∃ w, WIo (ocb h b m p) w ∧ B (p + w) := G.2.2.1
theorem BGo.j (G : BGo h b m B) : ∀ p, B p → JMP (ocb h b m p) → B (AIMb h b m p) := G.2.2.2.1
theorem BGo.c (G : BGo h b m B) : ∀ p, B p → (ocb h b m p = 180 ∨ ocb h b m p = 181) → CRf h b (ocb h b m (p + 1)) := G.2.2.2.2.1
theorem BGo.a (G : BGo h b m B) : ∀ x : Int, 0 ≤ x → x < mo h b m 7 → B (HDv h b m x) := G.2.2.2.2.2
end
theorem ocb_q {b : Nat} {m : Int} (A : IMQ h g b) (p : Int) : ocb g b m p = ocb h b m p := by
  unfold ocb
  rw [mo_q A, bt_q A]
theorem hdv_q {b : Nat} {m : Int} (A : IMQ h g b) (x : Int) : HDv g b m x = HDv h b m x := by
  unfold HDv
  rw [mo_q A, pr2_q A]
theorem bgo_q {b : Nat} {m : Int} {B : Int → Prop} (A : IMQ h g b) (G : BGo h b m B) : BGo g b m B := by
  refine ⟨G.z, G.r, fun p hp hl => ?_, fun p hp hj => ?_, fun p hp hc => ?_, fun x x0 x1 => ?_⟩
  · rw [ocb_q A] at hl ⊢; exact G.n p hp hl
  · rw [ocb_q A] at hj
    have := G.j p hp hj
    unfold AIMb at this ⊢
    rw [ocb_q A, ocb_q A]; exact this
  · rw [ocb_q A] at hc ⊢
    exact (crf_q A).2 (G.c p hp hc)
  · rw [mo_q A] at x1
    rw [hdv_q A]; exact G.a x x0 x1
/-- every method below m of Image b goes well -/
def MGo (h : ms_M) (b : Nat) (m : Int) : Prop := ∀ i : Int, 0 ≤ i → i < m → ∃ B, BGo h b i B
theorem mgo_q {b : Nat} {m : Int} (A : IMQ h g b) (G : MGo h b m) : MGo g b m := fun i i0 i1 => by
  obtain ⟨B, z⟩ := G i i0 i1
  exact ⟨B, bgo_q A z⟩
theorem bgo_of (P : PIr h) (J : JOK h) (H : HOK h) (S : STv h) : BGo h (h 127 5).toNat (h 127 6) (BGm h) := by
  have l0 := S.1
  refine ⟨((P.2.2.resolve_left (by omega)).2).resolve_left (by omega), fun p hp => by have := hp.1; have := P.2.1; omega, fun p hp hl => ?_, fun p hp hj => J p hp hj, fun p hp hc => (S.2 p hp).1 hc, H⟩
  obtain ⟨c1, w, c2, c3, c4, c5⟩ := (P.2.2.resolve_left (by omega)).1 p hp
  exact ⟨w, c2, c4.resolve_left (fun z => hl ((S.2 p hp).2 w c2 z))⟩
end

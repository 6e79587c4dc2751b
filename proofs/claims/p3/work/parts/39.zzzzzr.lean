/- WHAT THE VERIFIER OF THE CLASS TELLS OF THE CODE OF A METHOD -/
section
variable {nn : Nat} {h g : ms_M}
/-- the instructions below pc follow each other -/
def CHn2 (h : ms_M) (pc : Int) : Prop := (∀ q, BGm h q → q < pc ∧ ∃ w, WIo (oc h q) w ∧ q + w ≤ pc ∧ (q + w = pc ∨ BGm h (q + w)) ∧ ∀ r, q < r → r < q + w → ¬ BGm h r) ∧ (pc = 0 ∨ BGm h 0)
theorem wio_r {o w : Int} (a : WIo o w) : 1 ≤ w ∧ w ≤ 3 := by
  unfold WIo at a; rcases a with ⟨a, -⟩ | ⟨a, -⟩ | ⟨a, -⟩ <;> omega
theorem chn2_st {pc w : Int} (V : VBv h) (C : CHn2 h pc) (h0 : 0 ≤ pc) (hL : pc < h 127 16) (hw : WIo (oc h pc) w) : CHn2 (up_M h 132 pc.toNat (-1)) (pc + w) := by
  have S : SAV h (up_M h 132 pc.toNat (-1)) := sav_up V rfl
  have hr := wio_r hw
  have B : ∀ q, BGm (up_M h 132 pc.toNat (-1)) q ↔ (BGm h q ∨ q = pc) := by
    intro q
    unfold BGm
    rw [S.1.2.2]
    by_cases e : q = pc
    · subst e
      rw [up_s]
      exact ⟨fun _ => .inr rfl, fun _ => ⟨⟨h0, hL⟩, by decide⟩⟩
    · constructor
      · rintro ⟨a, b⟩
        rw [up_n (by rintro ⟨-, z⟩; exact e (by omega))] at b
        exact .inl ⟨a, b⟩
      · rintro (⟨a, b⟩ | z)
        · exact ⟨a, by rw [up_n (by rintro ⟨-, z⟩; exact e (by omega))]; exact b⟩
        · exact absurd z e
  refine ⟨fun q hq => ?_, .inr ?_⟩
  · rw [oc_q S]
    rcases (B q).1 hq with z | z
    · obtain ⟨c1, v, c2, c3, c4, c5⟩ := C.1 q z
      refine ⟨by omega, v, c2, by omega, .inr ((B _).2 ?_), fun r r1 r2 k => ?_⟩
      · rcases c4 with c4 | c4
        · exact .inr c4
        · exact .inl c4
      · rcases (B r).1 k with k | k
        · exact c5 r r1 r2 k
        · omega
    · subst z
      refine ⟨by omega, w, hw, by omega, .inl rfl, fun r r1 r2 k => ?_⟩
      rcases (B r).1 k with k | k
      · have := (C.1 r k).1; omega
      · omega
  · rcases C.2 with z | z
    · exact (B 0).2 (.inr z.symm)
    · exact (B 0).2 (.inl z)
theorem pi_33 : ∀ (k : Nat) (pc : Int) {h : ms_M}, VBv h → CHn2 h pc → (0 ≤ pc ∧ pc ≤ 1500) → (pc ≤ h 127 16 ∨ pc = 0) → h 127 16 ≤ 1500 → Pc (qw_X11_proveInstructions_33 nn k pc h) (fun r => r.1 = 0 → VBv r.2 ∧ r.2 127 16 ≤ 1500 ∧ (r.2 127 16 ≤ 0 ∨ CHn2 r.2 (r.2 127 16))) := by
  intro k
  induction k with
  | zero => intro pc h V C r0 hL h5; exact pc_none
  | succ k ih =>
    intro pc h V C r0 hL h5
    have bad : Pc (qj_X11_proveInstructions_64 nn pc h) (fun r => r.1 = 0 → VBv r.2 ∧ r.2 127 16 ≤ 1500 ∧ (r.2 127 16 ≤ 0 ∨ CHn2 r.2 (r.2 127 16))) := by
      intro r e z
      unfold qj_X11_proveInstructions_64 qf_X11_at at e
      rw [xl_eq] at e
      obtain ⟨u, e1, e⟩ := sv_i e
      cases e1; cases e
      exact absurd z (show ¬ (6 : Int) = 0 by decide)
    unfold qw_X11_proveInstructions_33
    refine pc_if (fun c => pc_ret (fun _ => ⟨V, h5, ?_⟩)) (fun c => ?_)
    · rcases hL with z | z
      · right
        show CHn2 h (h 127 16)
        rw [show h 127 16 = pc by omega]; exact C
      · left; show h 127 16 ≤ 0; omega
    refine pc_sv pv_code (fun u5 e5 => ?_)
    refine pc_sv pv_width (fun u6 e6 => ?_)
    refine pc_if (fun _ => bad) (fun c6 => ?_)
    have hw : WIo (oc h pc) u6 := by rw [← e5]; exact e6.resolve_left c6
    have hr := wio_r hw
    refine pc_add (by omega) (fun v7 e7 => ?_)
    refine pc_if (fun c7 => ?_) (fun _ => bad)
    refine pc_wA (fun _ _ h10 e10 => ?_)
    refine pc_add (by omega) (fun v11 e11 => ?_)
    have S : SAV h h10 := by rw [e10]; exact sav_up V rfl
    refine ih v11 (vbv_q S V) ?_ (by omega) (.inl (by rw [S.1.2.2]; omega)) (by rw [S.1.2.2]; exact h5)
    rw [e10, e11]
    exact chn2_st V C (by omega) (by omega) hw
/-- a method's chain -/
def PIr (h : ms_M) : Prop := VBv h ∧ h 127 16 ≤ 1500 ∧ (h 127 16 ≤ 0 ∨ CHn2 h (h 127 16))
theorem pi_all (V : VBv h) : Pc (qf_X11_proveInstructions nn h) (fun r => r.1 = 0 → PIr r.2) := by
  unfold qf_X11_proveInstructions
  refine pc_se (fun u16 e16 => ?_)
  refine pc_xl (fun v19 e19 => ?_)
  refine pc_xl (fun h20 e20 => ?_)
  refine pc_se (fun u23 e23 => ?_)
  have b : v19 ≤ 1500 := by rw [e19]; split <;> omega
  have l20 : h20 127 16 = v19 := by rw [e20, up_s]
  have A : IMQ h h20 (h 127 5).toNat := by rw [e20]; exact imq_up V rfl
  have V20 : VBv h20 := by
    unfold VBv
    rw [show h20 127 5 = h 127 5 by rw [e20]; exact up_n (by omega)]
    exact vbb_q A V
  have F := (ff_J7_fill_fda19 nn) _ e23
  have S : SAV h20 u23 := by
    refine ⟨⟨F 127 5 (show 127 ≠ 132 by decide), F 127 6 (show 127 ≠ 132 by decide), F 127 16 (show 127 ≠ 132 by decide)⟩, fun i k q => F _ _ ?_, fun k => F _ _ ?_⟩
    · intro z
      have := is_I6 V20.1 q.1
      rw [z] at this; cases this
    · intro z
      have := V20.2
      rw [z] at this; cases this
  have V23 := vbv_q S V20
  have l23 : u23 127 16 = v19 := S.1.2.2.trans l20
  have M := fr_v (show h20 127 16 ≤ 100000 by omega) e23
  have N : ∀ q, ¬ BGm u23 q := by
    rintro q ⟨⟨q0, q1⟩, q2⟩
    exact q2 (M q.toNat (by omega))
  refine pc_imp (pi_33 nn 0 V23 ⟨fun q hq => absurd hq (N q), .inl rfl⟩ (by omega) (.inr rfl) (by omega)) (fun r q => q)
/-- the aims of jumps begin an instruction -/
def JOK (h : ms_M) : Prop := ∀ q, BGm h q → JMP (oc h q) → BGm h (AIMv h q)
theorem pj_2 : ∀ (k : Nat) (pc : Int), 0 ≤ pc → h 127 16 ≤ 1500 → (∀ q, q < pc → BGm h q → JMP (oc h q) → BGm h (AIMv h q)) → Pc (qw_X11_proveJumps_2 nn k pc h) (fun r => r.1 = 0 → r.2 = h ∧ JOK h) := by
  intro k
  induction k with
  | zero => intro pc h0 h5 C; exact pc_none
  | succ k ih =>
    intro pc h0 h5 C
    unfold qw_X11_proveJumps_2
    refine pc_if (fun c => pc_ret (fun _ => ⟨rfl, fun q hq => C q (by have := hq.1.2; omega) hq⟩)) (fun c => ?_)
    have nx : (BGm h pc → JMP (oc h pc) → BGm h (AIMv h pc)) → Pc (xl (oq_add pc 1) fun v4 => qw_X11_proveJumps_2 nn k v4 h) (fun r => r.1 = 0 → r.2 = h ∧ JOK h) := by
      intro z
      refine pc_add (by omega) (fun v e => ih v (by omega) h5 (fun q hq => ?_))
      by_cases q2 : q = pc
      · subst q2; exact z
      · exact C q (by omega)
    refine pc_sv pv_begins (fun u3 e3 => ?_)
    refine pc_if (fun z => nx (fun b => absurd b ?_)) (fun z => ?_)
    · rcases e3 with e | e
      · omega
      · exact e.2
    refine pc_sv pv_code (fun u6 e6 => pc_sv pv_jump (fun u7 e7 => ?_))
    rw [e6] at e7
    refine pc_if (fun z2 => nx (fun _ b => absurd b ?_)) (fun z2 => ?_)
    · rcases e7 with e | e
      · omega
      · exact e.2
    refine pc_sv pv_aim (fun u10 e10 => pc_sv pv_begins (fun u12 e12 => ?_))
    refine pc_if (fun z3 => nx (fun _ _ => ?_)) (fun z3 => ?_)
    · rw [← e10]
      rcases e12 with e | e
      · exact e.2
      · exact absurd e.1 z3
    · intro r e z4
      unfold qf_X11_at at e
      rw [xl_eq] at e
      obtain ⟨u, e1, e⟩ := sv_i e
      cases e1; cases e
      exact absurd z4 (show ¬ (7 : Int) = 0 by decide)
theorem pj_all (h5 : h 127 16 ≤ 1500) : Pc (qf_X11_proveJumps nn h) (fun r => r.1 = 0 → r.2 = h ∧ JOK h) :=
  pj_2 nn 0 (by omega) h5 (fun q z b => by have := b.1.1; omega)
/-- the FRAMES leave where instructions begin -/
def TFR (h g : ms_M) : Prop := SAV h g ∧ ∀ q, BGm g q ↔ BGm h q
theorem tfr_refl : TFR h h := ⟨sav_refl, fun _ => Iff.rfl⟩
theorem tfr_tr {z : ms_M} (A : TFR h g) (B : TFR g z) : TFR h z := ⟨sav_tr A.1 B.1, fun q => (B.2 q).trans (A.2 q)⟩
theorem tfr_fr {L : List Nat} {LF : List (Nat × Nat)} (B : VBv h) (F : ∀ c k, nw_F L LF false false c k = true → g c k = h c k) (hc : ((L.all (fun x => !(is_I x) && !(Nat.beq (ly_T x) 1)) && LF.all (fun q => !(is_I q.1) && !(Nat.beq (ly_T q.1) 1))) && (nw_F L LF false false 127 5 && (nw_F L LF false false 127 6 && nw_F L LF false false 127 16))) = true) (hm : (!(L.contains 132) && (LF.all (fun q => !(Nat.beq q.1 132)) && ((!false || !(is_I 132)) && (!false || !(Nat.beq (ly_T 132) 1))))) = true) : TFR h g := by
  have S := sav_fr B F hc
  exact ⟨S, bgm_q S (fun k => F _ _ (nw_ar hm k))⟩
theorem tfr_up {c k : Nat} {v : Int} (B : VBv h) (hc : (((!(is_I c) && !(Nat.beq (ly_T c) 1)) && !(Nat.beq c 127)) && !(Nat.beq c 132)) = true) : TFR h (up_M h c k v) := by
  rw [Bool.and_eq_true] at hc
  have S : SAV h (up_M h c k v) := sav_up B hc.1
  refine ⟨S, bgm_q S (fun j => up_n ?_)⟩
  rintro ⟨rfl, -⟩; cases hc.2
theorem tfr_m {j v : Int} (B : VBv h) (hj : 0 ≤ j) (h1 : h 132 j.toNat = -1) (hv : ¬ v = -2) : TFR h (up_M h 132 j.toNat v) := by
  have S : SAV h (up_M h 132 j.toNat v) := sav_up B rfl
  refine ⟨S, fun q => ?_⟩
  unfold BGm
  rw [S.1.2.2]
  by_cases e : q.toNat = j.toNat
  · rw [e, up_s, h1]
    exact ⟨fun z => ⟨z.1, by decide⟩, fun z => ⟨z.1, hv⟩⟩
  · rw [up_n (by omega)]
theorem tf_9m {l1 : Int} : ∀ (k : Nat) (l2 l3 : Int) {h : ms_M}, VBv h → 0 ≤ l3 → l3 ≤ 3000 → Pc (qw_X11_takeFrames_9 nn k l1 l2 l3 h) (fun r => TFR h r) := by
  intro k
  induction k with
  | zero => intro l2 l3 h V r3 r4; exact pc_none
  | succ k ih =>
    intro l2 l3 h V r3 r4
    unfold qw_X11_takeFrames_9
    refine pc_se (fun u2 e2 => ?_)
    refine pc_if (fun _ => pc_ret tfr_refl) (fun c2 => ?_)
    refine pc_if (fun _ => pc_ret tfr_refl) (fun c3 => ?_)
    refine pc_xl (fun v3 e3 => pc_ck (fun _ => pc_ck (fun _ => ?_)))
    refine pc_se (fun u6 e6 => ?_)
    refine pc_wA (fun q1 q2 h8 e8 => ?_)
    have l3b : l3 < 2999 := by
      by_cases z : l3 < 2999
      · exact z
      · exfalso
        rw [e3, oq_mul_eq (by omega) (by omega) (by omega)] at q2; omega
    have T8 : TFR h h8 := by rw [e8]; exact tfr_up V rfl
    have V8 := vbv_q T8.1 V
    refine pc_xl (fun v10 e10 => pc_ck (fun _ => pc_xl (fun v12 e12 => pc_ck (fun _ => pc_se (fun u14 e14 => ?_)))))
    refine pc_wA (fun _ _ h15 e15 => ?_)
    have T15 : TFR h8 h15 := by rw [e15]; exact tfr_up V8 rfl
    have V15 := vbv_q T15.1 V8
    refine pc_xl (fun v16 e16 => pc_xl (fun v17 e17 => pc_se (fun u19 e19 => ?_)))
    have T19 : TFR h15 u19.2 := tfr_fr V15 (fun c k w => (ff_X11_takeTypes nn) _ e19 c k w) rfl rfl
    have V19 := vbv_q T19.1 V15
    refine pc_xl (fun v21 e21 => pc_ck (fun _ => pc_ck (fun _ => pc_se (fun u24 e24 => ?_))))
    refine pc_wA (fun _ _ h25 e25 => ?_)
    have T25 : TFR u19.2 h25 := by rw [e25]; exact tfr_up V19 rfl
    have V25 := vbv_q T25.1 V19
    refine pc_xl (fun v26 e26 => pc_se (fun u28 e28 => ?_))
    have T28 : TFR h25 u28.2 := tfr_fr V25 (fun c k w => (ff_X11_takeTypes nn) _ e28 c k w) rfl rfl
    have V28 := vbv_q T28.1 V25
    have T : TFR h u28.2 := tfr_tr T8 (tfr_tr T15 (tfr_tr T19 (tfr_tr T25 T28)))
    refine pc_se (fun u30 e30 => ?_)
    refine pc_if (fun _ => ?_) (fun c30 => ?_)
    · exact pc_add (by omega) (fun v e => pc_imp (ih _ v V28 (by omega) (by omega)) (fun r q => tfr_tr T q))
    refine pc_rA (fun j0 j1 v33 e33 => ?_)
    refine pc_if (fun _ => ?_) (fun c33 => ?_)
    · exact pc_add (by omega) (fun v e => pc_imp (ih _ v V28 (by omega) (by omega)) (fun r q => tfr_tr T q))
    refine pc_wA (fun _ _ h36 e36 => ?_)
    have T36 : TFR u28.2 h36 := by rw [e36]; exact tfr_m V28 j0 (by omega) (by omega)
    exact pc_add (by omega) (fun v e => pc_imp (ih _ v (vbv_q T36.1 V28) (by omega) (by omega)) (fun r q => tfr_tr T (tfr_tr T36 q)))
theorem tf_m {a1 : Int} (V : VBv h) : Pc (qf_X11_takeFrames nn a1 h) (fun r => TFR h r) := by
  unfold qf_X11_takeFrames
  exact pc_se (fun u e => tf_9m nn _ 0 V (by omega) (by omega))
/-- handler x is at .. -/
def HDv (h : ms_M) (b : Nat) (m x : Int) : Int := pr2 h b (oq_add (oq_add (mo h b m 8) (oq_mul x 7)) 4)
def HOK (h : ms_M) : Prop := ∀ x : Int, 0 ≤ x → x < mo h (h 127 5).toNat (h 127 6) 7 → BGm h (HDv h (h 127 5).toNat (h 127 6) x)
theorem pv_handler {x : Int} : Pc (qf_X11_handler nn x 4 h) (fun u => u = HDv h (h 127 5).toNat (h 127 6) x) := by
  unfold qf_X11_handler HDv
  refine pc_ck (fun _ => pc_sv pv_info (fun u3 e3 => ?_))
  refine pc_xl (fun v4 e4 => pc_xl (fun v5 e5 => pc_xl (fun v6 e6 => pc_ck (fun _ => pc_sv pv_pair (fun u8 e8 => pc_ret ?_)))))
  rw [e8, e6, e5, e4, e3]
theorem ph_2 : ∀ (k : Nat) (x : Int), 0 ≤ x → x ≤ 100000 → (∀ y : Int, 0 ≤ y → y < x → BGm h (HDv h (h 127 5).toNat (h 127 6) y)) → Pc (qw_X11_proveHandlers_2 nn k x h) (fun r => mo h (h 127 5).toNat (h 127 6) 7 ≤ 20 → r.1 = 0 → r.2 = h ∧ HOK h) := by
  intro k
  induction k with
  | zero => intro x h0 h5 C; exact pc_none
  | succ k ih =>
    intro x h0 h5 C
    have bad : Pc (qj_X11_proveHandlers_100 nn x h) (fun r => mo h (h 127 5).toNat (h 127 6) 7 ≤ 20 → r.1 = 0 → r.2 = h ∧ HOK h) := by
      intro r e _ z
      unfold qj_X11_proveHandlers_100 qf_X11_at at e
      rw [xl_eq] at e
      obtain ⟨u, e1, e⟩ := sv_i e
      cases e1; cases e
      exact absurd z (show ¬ (8 : Int) = 0 by decide)
    have j68 : ∀ s a : Int, a = HDv h (h 127 5).toNat (h 127 6) x → x < mo h (h 127 5).toNat (h 127 6) 7 → Pc (qj_X11_proveHandlers_68 nn (qw_X11_proveHandlers_2 nn k) x a s h) (fun r => mo h (h 127 5).toNat (h 127 6) 7 ≤ 20 → r.1 = 0 → r.2 = h ∧ HOK h) := by
      intro s a ea hx
      unfold qj_X11_proveHandlers_68
      refine pc_if (fun _ => bad) (fun _ => ?_)
      refine pc_sv pv_frameAt (fun u4 e4 => ?_)
      refine pc_if (fun _ => bad) (fun c4 => ?_)
      have B : BGm h a := e4.resolve_left (by omega)
      refine pc_se (fun u7 _ => pc_se (fun u9 _ => ?_))
      refine pc_if (fun _ => ?_) (fun _ => bad)
      by_cases hm : mo h (h 127 5).toNat (h 127 6) 7 ≤ 20
      · refine pc_add (by omega) (fun v e => ih v (by omega) (by omega) (fun y y0 y1 => ?_))
        by_cases z : y = x
        · rw [z, ← ea]; exact B
        · exact C y y0 (by omega)
      · intro r _ z; exact absurd z hm
    have j67 : ∀ a : Int, Pc (qj_X11_proveHandlers_67 nn (qw_X11_proveHandlers_2 nn k) x a h) (fun r => mo h (h 127 5).toNat (h 127 6) 7 ≤ 20 → r.1 = 0 → r.2 = h ∧ HOK h) := by
      intro a
      unfold qj_X11_proveHandlers_67 qj_X11_proveHandlers_68
      exact pc_if (fun _ => bad) (fun z => absurd rfl z)
    have j58 : ∀ f t a : Int, a = HDv h (h 127 5).toNat (h 127 6) x → x < mo h (h 127 5).toNat (h 127 6) 7 → Pc (qj_X11_proveHandlers_58 nn (qw_X11_proveHandlers_2 nn k) x f t a h) (fun r => mo h (h 127 5).toNat (h 127 6) 7 ≤ 20 → r.1 = 0 → r.2 = h ∧ HOK h) := by
      intro f t a ea hx
      unfold qj_X11_proveHandlers_58
      exact pc_if (fun _ => j67 a) (fun _ => j68 1 a ea hx)
    unfold qw_X11_proveHandlers_2
    refine pc_sv pv_info (fun u16 e16 => ?_)
    refine pc_if (fun c => pc_ret (fun _ _ => ⟨rfl, fun y y0 y1 => C y y0 (by omega)⟩)) (fun c => ?_)
    have hx : x < mo h (h 127 5).toNat (h 127 6) 7 := by omega
    refine pc_se (fun u18 _ => pc_se (fun u20 _ => pc_sv pv_handler (fun u22 e22 => pc_se (fun u24 _ => ?_))))
    refine pc_if (fun _ => j67 u22) (fun _ => pc_se (fun u26 _ => ?_))
    refine pc_if (fun _ => j58 _ _ _ e22 hx) (fun _ => ?_)
    exact pc_if (fun _ => j67 u22) (fun _ => j58 _ _ _ e22 hx)
theorem ph_all : Pc (qf_X11_proveHandlers nn h) (fun r => mo h (h 127 5).toNat (h 127 6) 7 ≤ 20 → r.1 = 0 → r.2 = h ∧ HOK h) :=
  ph_2 nn 0 (by omega) (by omega) (fun y a b => by omega)
end

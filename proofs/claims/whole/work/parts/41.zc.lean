/- VERIFY: a method of the class: rows told, code, beginnings, jumps -/
/-- the class's memory while it looks at method i of image k -/
def CMe (Bf : Nat → Nat → Int) (nf : Nat → Nat) (k i : Nat) (h : ms_M) : Prop := CSw Bf nf h ∧ (i : Int) < mc_S (Bf k) (nf k) ∧ (k : Int) < h 56 3 ∧ h 127 5 = h 60 k ∧ h 127 6 = (i : Int)
/-- what stays as long as cells 128 to 135 and these fields are written alone -/
def CKe (h g : ms_M) : Prop := ∀ x j : Nat, ¬ (128 ≤ x ∧ x ≤ 135) → ¬ (x = 127 ∧ (j = 7 ∨ (16 ≤ j ∧ j ≤ 20))) → g x j = h x j
/-- the marks of the class -/
def MKb (D : Nat → Int) (L : Nat) (h : ms_M) : Prop := ∀ p : Nat, p < L → (BGn D L p ∧ ¬ h 132 p = -2) ∨ (¬ BGn D L p ∧ h 132 p = -2)
section
variable {nn : Nat} {Bf : Nat → Nat → Int} {nf : Nat → Nat} {cnt : Int} {B C D : Nat → Int} {n m b d k o i L : Nat} {M h g r h0 : ms_M} {t c : Int}
theorem cke_r : CKe h h := fun _ _ _ _ => rfl
theorem cke_t (A : CKe h g) (E : CKe g r) : CKe h r := fun x j z1 z2 => (E x j z1 z2).trans (A x j z1 z2)
theorem cme_k (C : CMe Bf nf k i h) (A : CKe h g) : CMe Bf nf k i g := by
  obtain ⟨c1, c2, c3, c4, c5⟩ := C
  refine ⟨csw_k c1 (fun c j _ z => A c j (by omega) (by omega)), c2, ?_, ?_, ?_⟩
  · rw [A 56 3 (by omega) (by omega)]; exact c3
  · rw [A 127 5 (by omega) (by omega), A 60 k (by omega) (by omega)]; exact c4
  · rw [A 127 6 (by omega) (by omega)]; exact c5
theorem cme_n6 (C : CMe Bf nf k i h) : nf k ≤ 6000 := (C.1.1.2 k C.2.2.1).1.1.2.1
theorem cme_J (C : CMe Bf nf k i h) : sr_I h (h 60 k).toNat (Bf k) (nf k) := (C.1.1.2 k C.2.2.1).1.1
theorem cme_g (C : CMe Bf nf k i h) : GIM (Bf k) (nf k) := (cg_im (C.1.1.2 k C.2.2.1)).1
theorem cme_m (C : CMe Bf nf k i h) : GMt (Bf k) (nf k) i := (cme_g C).2.2.2 i C.2.1
theorem cme_l (C : CMe Bf nf k i h) : (ln_N (Bf k) (ma_S (Bf k) (nf k) i + 5) = (cl_N (Bf k) (nf k) i : Int)) ∧ 1 ≤ cl_N (Bf k) (nf k) i ∧ cl_N (Bf k) (nf k) i ≤ 1500 ∧ mh_P (Bf k) (nf k) i = ma_S (Bf k) (nf k) i + 7 + cl_N (Bf k) (nf k) i ∧ mh_P (Bf k) (nf k) i < nf k := by
  have l1 := (cme_m C).2.2.2.1
  unfold cl_N
  exact ⟨by omega, by omega, by omega, l1.2.1, l1.2.2⟩
theorem cme_b (C : CMe Bf nf k i h) {p : Nat} (hp : p < nf k) : 0 ≤ Bf k p ∧ Bf k p ≤ 255 := by_rg C.1.1 C.2.2.1 hp
/-- rows told -/
theorem vc_info (C : CMe Bf nf k i h) {w x : Int} (hw : 0 ≤ w ∧ w ≤ 11) (ex : h ((h 60 k).toNat + 6) (12 * (i : Int) + w).toNat = x) : Pc (qf_X11_info nn w h) (fun u => u = x) := by
  obtain ⟨c1, c2, c3, c4, c5⟩ := C
  unfold qf_X11_info
  rw [c4, c5]
  refine pc_ck (fun _ => pc_ck (fun _ => ?_))
  refine pc_sv (vq_of (nn := nn) (c1.1.2 k c3) c2 hw ex) ?_; intro u4 q4
  exact pc_ret q4
theorem cme_d (C : CMe Bf nf k i h) : MDt (h 60 k).toNat (Bf k) (nf k) (12 * (i : Int)) (ma_S (Bf k) (nf k) i) (mh_P (Bf k) (nf k) i) (mf_P (Bf k) (nf k) i) h := (cg_im (C.1.1.2 k C.2.2.1)).2.2.2 i C.2.1
/-- bytes of the image -/
theorem vc_byte (C : CMe Bf nf k i h) {p : Nat} (hp : p < nf k) : Pc (qf_X3_byteAt nn (h 60 k).toNat (p : Int) h) (fun u => u = Bf k p) := fun u eu => by
  rw [byteAt_in (cme_J C) hp] at eu; exact (Option.some.inj eu).symm
theorem vc_pair (C : CMe Bf nf k i h) {p : Nat} (hp : p + 1 < nf k) : Pc (qf_X3_pairAt nn (h 60 k).toNat (p : Int) h) (fun u => u = ln_N (Bf k) p) := by
  have n6 := cme_n6 C
  unfold qf_X3_pairAt
  refine pc_sv (vc_byte C (p := p) (by omega)) ?_; intro u2 q2
  refine pc_xl ?_; intro v3 e3
  refine pc_add (by omega) ?_; intro v4 e4
  rw [show v4 = ((p + 1 : Nat) : Int) by omega]
  refine pc_sv (vc_byte C (p := p + 1) hp) ?_; intro u6 q6
  refine pc_xl ?_; intro v7 e7
  refine pc_ret ?_
  show v7 = oq_or (oq_shl (Bf k p) 8) (Bf k (p + 1))
  rw [e7, e3, q2, q6]
theorem cme_p (C : CMe Bf nf k i h) {p : Nat} (hp : p + 1 < nf k) : 0 ≤ ln_N (Bf k) p ∧ ln_N (Bf k) p ≤ 65535 := lnr_S (cme_J C) hp
/-- the code, and one byte behind it -/
theorem vc_codeL (C : CMe Bf nf k i h) {p : Nat} (hp : p ≤ cl_N (Bf k) (nf k) i) : Pc (qf_X11_codeAt nn (p : Int) h) (fun u => u = cd_S (Bf k) (nf k) i p ∧ 0 ≤ u ∧ u ≤ 255) := by
  have n6 := cme_n6 C
  obtain ⟨l1, l2, l3, l4, l5⟩ := cme_l C
  unfold qf_X11_codeAt
  refine pc_ck (fun _ => ?_)
  refine pc_sv (vc_info C (w := 6) (by decide) (cme_d C).2.1.2) ?_; intro u3 q3
  refine pc_add (by omega) ?_; intro v4 e4
  rw [C.2.2.2.1]
  refine pc_ck (fun _ => ?_)
  rw [show v4 = ((ma_S (Bf k) (nf k) i + 7 + p : Nat) : Int) by omega]
  refine pc_sv (vc_byte C (by omega)) ?_; intro u6 q6
  have rg := cme_b C (p := ma_S (Bf k) (nf k) i + 7 + p) (by omega)
  refine pc_ret ⟨q6, ?_, ?_⟩
  · rw [q6]; exact rg.1
  · rw [q6]; exact rg.2
theorem vc_begins (e16 : h 127 16 = (L : Int)) (MK : MKb D L h) {x : Int} : Pc (qf_X11_begins nn x h) (fun u => (u = 1 ∧ BGi D L x) ∨ (u = 0 ∧ ¬ BGi D L x)) := by
  unfold qf_X11_begins
  refine pc_if (fun z => pc_ret (.inr ⟨rfl, fun w => absurd w.1 (by omega)⟩)) (fun z => ?_)
  rw [e16]
  refine pc_if (fun y => pc_ret (.inr ⟨rfl, fun w => ?_⟩)) (fun y => ?_)
  · have := bgn_lt w.2
    omega
  refine pc_rA ?_; intro _ _ v3 e3
  have q := MK x.toNat (by omega)
  refine pc_if (fun w => pc_ret (.inr ⟨rfl, fun v => ?_⟩)) (fun w => pc_ret (.inl ⟨rfl, by omega, ?_⟩))
  · rcases q with q | q
    · exact q.2 (by rw [← e3]; exact w)
    · exact q.1 v.2
  · rcases q with q | q
    · exact q.1
    · exact absurd (e3.trans q.2) w
theorem vc_aim (C : CMe Bf nf k i h) {p : Nat} (hp : p + 2 < cl_N (Bf k) (nf k) i) : Pc (qf_X11_aimOf nn (p : Int) h) (fun u => u = aim_S (cd_S (Bf k) (nf k) i) p) := by
  obtain ⟨l1, l2, l3, l4, l5⟩ := cme_l C
  unfold qf_X11_aimOf
  refine pc_add (by omega) ?_; intro v1 e1
  rw [show v1 = ((p + 1 : Nat) : Int) by omega]
  refine pc_sv (vc_codeL C (p := p + 1) (by omega)) ?_; intro u3 q3
  refine pc_xl ?_; intro v4 e4
  refine pc_add (by omega) ?_; intro v5 e5
  rw [show v5 = ((p + 2 : Nat) : Int) by omega]
  refine pc_sv (vc_codeL C (p := p + 2) (by omega)) ?_; intro u7 q7
  refine pc_xl ?_; intro v8 e8
  refine pc_xl ?_; intro v9 e9
  have r9 := oq_s_rg (v := v8)
  refine pc_add (by omega) ?_; intro v10 e10
  refine pc_ret ?_
  show v10 = (p : Int) + oq_s (oq_or (oq_shl (cd_S (Bf k) (nf k) i (p + 1)) 8) (cd_S (Bf k) (nf k) i (p + 2)))
  rw [e10, e9, e8, e4, q3.1, q7.1]
theorem vc_at {c p : Int} : Pc (qf_X11_at nn c p h) (fun u => u.1 = c ∧ u.2 = up_M h 127 7 p) := by
  unfold qf_X11_at
  exact pc_xl (fun h1 e1 => pc_ret ⟨rfl, e1⟩)
/-- PROVE JUMPS, the class -/
theorem vc_j2 (C : CMe Bf nf k i h) (IO : IOk (cd_S (Bf k) (nf k) i) (cl_N (Bf k) (nf k) i)) (e16 : h 127 16 = (cl_N (Bf k) (nf k) i : Int)) (MK : MKb (cd_S (Bf k) (nf k) i) (cl_N (Bf k) (nf k) i) h) : ∀ (f p : Nat), (∀ q : Nat, q < p → ¬ JBm (cd_S (Bf k) (nf k) i) (cl_N (Bf k) (nf k) i) q) → Pc (qw_X11_proveJumps_2 nn f (p : Int) h) (fun u => (∀ x j : Nat, ¬ (x = 127 ∧ j = 7) → u.2 x j = h x j) ∧ FNx (JBm (cd_S (Bf k) (nf k) i) (cl_N (Bf k) (nf k) i)) (cl_N (Bf k) (nf k) i) 7 u.1 (u.2 127 7)) := by
  obtain ⟨l1, l2, l3, l4, l5⟩ := cme_l C
  intro f
  induction f with
  | zero => intro p _; exact pc_none
  | succ f ih =>
    intro p A
    unfold qw_X11_proveJumps_2
    rw [e16]
    refine pc_if (fun z => pc_ret ⟨fun _ _ _ => rfl, .inl ⟨rfl, fs_z (fun q hq => A q (by omega))⟩⟩) (fun z => ?_)
    have NX : ¬ JBm (cd_S (Bf k) (nf k) i) (cl_N (Bf k) (nf k) i) p → ∀ v : Int, v = (p : Int) + 1 → Pc (qw_X11_proveJumps_2 nn f v h) (fun u => (∀ x j : Nat, ¬ (x = 127 ∧ j = 7) → u.2 x j = h x j) ∧ FNx (JBm (cd_S (Bf k) (nf k) i) (cl_N (Bf k) (nf k) i)) (cl_N (Bf k) (nf k) i) 7 u.1 (u.2 127 7)) := fun w v ev => by
      rw [ev, show (p : Int) + 1 = ((p + 1 : Nat) : Int) by omega]
      refine ih (p + 1) (fun q hq => ?_)
      by_cases e : q = p
      · rw [e]; exact w
      · exact A q (by omega)
    refine pc_sv (vc_begins e16 MK (x := (p : Int))) ?_; intro u3 q3
    refine pc_if (fun y => pc_add (by omega) (fun v e => NX (fun w => ?_) v e)) (fun y => ?_)
    · rcases q3 with q | q
      · omega
      · exact q.2 ⟨by omega, by rw [Int.toNat_natCast]; exact w.1⟩
    have bg : BGn (cd_S (Bf k) (nf k) i) (cl_N (Bf k) (nf k) i) p := by
      rcases q3 with q | q
      · have := q.2.2
        rw [Int.toNat_natCast] at this; exact this
      · exact absurd q.1 y
    refine pc_sv (vc_codeL C (p := p) (by omega)) ?_; intro u6 ⟨q6, _⟩
    rw [q6]
    refine pc_sv pv_jump ?_; intro u7 q7
    refine pc_if (fun y7 => pc_add (by omega) (fun v e => NX (fun w => ?_) v e)) (fun y7 => ?_)
    · rcases q7 with q | q
      · omega
      · exact q.2 w.2.1
    have jm : JMP (cd_S (Bf k) (nf k) i p) := by
      rcases q7 with q | q
      · exact q.2
      · exact absurd q.1 y7
    have wd := (bgn_wd IO bg).2
    rw [wd_jmp jm] at wd
    refine pc_sv (vc_aim C (p := p) (by omega)) ?_; intro u10 q10
    rw [q10]
    refine pc_sv (vc_begins e16 MK (x := aim_S (cd_S (Bf k) (nf k) i) p)) ?_; intro u12 q12
    refine pc_if (fun y12 => pc_add (by omega) (fun v e => NX (fun w => ?_) v e)) (fun y12 => ?_)
    · rcases q12 with q | q
      · exact w.2.2 q.2
      · exact y12 q.1
    have nb : ¬ BGi (cd_S (Bf k) (nf k) i) (cl_N (Bf k) (nf k) i) (aim_S (cd_S (Bf k) (nf k) i) p) := by
      rcases q12 with q | q
      · omega
      · exact q.2
    refine pc_sv vc_at ?_; intro u15 ⟨r1, r2⟩
    refine pc_ret ⟨fun x j w => ?_, .inr ⟨p, r1, fs_s (by omega) ⟨bg, jm, nb⟩ A, ?_⟩⟩
    · show u15.2 x j = h x j
      rw [r2, up_n w]
    · show u15.2 127 7 = _
      rw [r2, up_s]
theorem vc_jumps (C : CMe Bf nf k i h) (IO : IOk (cd_S (Bf k) (nf k) i) (cl_N (Bf k) (nf k) i)) (e16 : h 127 16 = (cl_N (Bf k) (nf k) i : Int)) (MK : MKb (cd_S (Bf k) (nf k) i) (cl_N (Bf k) (nf k) i) h) : Pc (qf_X11_proveJumps nn h) (fun u => (∀ x j : Nat, ¬ (x = 127 ∧ j = 7) → u.2 x j = h x j) ∧ FNx (JBm (cd_S (Bf k) (nf k) i) (cl_N (Bf k) (nf k) i)) (cl_N (Bf k) (nf k) i) 7 u.1 (u.2 127 7)) := by
  unfold qf_X11_proveJumps
  exact vc_j2 C IO e16 MK nn 0 (fun q hq => absurd hq (by omega))
end

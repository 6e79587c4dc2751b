/- A STEP OF THE MACHINE KEEPS THE FRAMES GOOD -/
section
variable {nn : Nat} {h g z : ms_M}
theorem lok_mv {w : Int} {i : Nat} (S : STC h) (M : MVW h g w) (hi : i ≠ (h 143 17).toNat) (L : LOk h i) : LOk g i := by
  have e : g 149 i = h 149 i := (M.2.2.2.2 i).resolve_right (fun z => hi z.1)
  refine ⟨by rw [M.2.2.1]; exact nva_q M.1 L.1, ?_⟩
  rw [M.2.2.1, e]; exact pgo_q S L.1 M.1 L.2
theorem frs_mv {w : Int} (S : STC h) (F : FRS h) (M : MVW h g w) (hp : g 149 (h 143 6 - 1).toNat = oq_add (h 149 (h 143 6 - 1).toNat) w → PGo h (h 148 (h 143 6 - 1).toNat) (oq_add (h 149 (h 143 6 - 1).toNat) w)) : STC g ∧ FRS g := by
  refine ⟨stc_q M.1 M.2.1 S, ?_⟩
  obtain ⟨f1, f2, ⟨t1, t2, t3, t4⟩, f4⟩ := F
  obtain ⟨m6, m17, m18, m19⟩ := M.2.2.2.1
  refine ⟨by rw [m6]; exact f1, by rw [m17, m6]; exact f2, ?_, fun i hi => lok_mv S M (by omega) (f4 i (by rw [m6] at hi; exact hi))⟩
  rw [m6]
  have A := M.1.2.2 _ (nva_vb S t1)
  refine ⟨by rw [M.2.2.1]; exact nva_q M.1 t1, ?_, ?_, ?_⟩
  · rw [M.2.2.1, m18, bN_q M.1]; exact t2
  · rw [M.2.2.1, m19, bN_q M.1, mo_q A]; exact t3
  · rw [M.2.2.1, bN_q M.1, show g (bN h (h 148 (h 143 6 - 1).toNat)) 12 = h (bN h (h 148 (h 143 6 - 1).toNat)) 12 from A.1 0 12 (by omega)]
    rcases M.2.2.2.2 (h 143 6 - 1).toNat with e | ⟨-, e⟩
    · rw [e]
      exact t4.imp (fun z => pgo_q S t1 M.1 z) id
    · have q := hp e
      left
      rw [e]; exact pgo_q S t1 M.1 q
/-- the instruction that is to be done -/
def OPt (h : ms_M) : Int := bt h (h 143 18).toNat (oq_add (h 143 19) (h 149 (h 143 17).toNat))
theorem opt_c (S : STC h) (F : FRS h) : (∃ B, BGo h (bN h (h 148 (h 143 17).toNat)) (h 148 (h 143 17).toNat % 12) B ∧ B (h 149 (h 143 17).toNat) ∧ OPt h = ocb h (bN h (h 148 (h 143 17).toNat)) (h 148 (h 143 17).toNat % 12) (h 149 (h 143 17).toNat)) ∨ OPt h = 74 := by
  obtain ⟨f1, f2, ⟨t1, t2, t3, t4⟩, f4⟩ := F
  rw [← f2] at t1 t2 t3 t4
  rcases t4 with ⟨B, G, b⟩ | ⟨c1, c2⟩
  · refine .inl ⟨B, G, b, ?_⟩
    unfold OPt ocb
    rw [t2, t3]
  · right
    have hm : mo h (bN h (h 148 (h 143 17).toNat)) (h 148 (h 143 17).toNat % 12) 6 = 0 := by
      unfold mo
      rw [if_neg (by have := t1.1; omega), if_pos c1]
    unfold OPt
    rw [t2, t3, hm, c2]
    exact S.2.1 (h 148 (h 143 17).toNat / 12).toNat (by have := t1.1; have := t1.2; omega)
theorem frs_w {w : Int} (S : STC h) (F : FRS h) (M : MVW h g w) (hw : WIo (OPt h) w) (hl : ¬ LST (OPt h)) : STC g ∧ FRS g := by
  refine frs_mv S F M (fun _ => ?_)
  rw [← F.2.1]
  rcases opt_c S F with ⟨B, G, b, e⟩ | e
  · rw [e] at hw hl
    obtain ⟨v, v1, v2⟩ := G.n _ b hl
    have := wio_det v1 hw
    have r := G.r _ b
    have r2 := wio_r hw
    refine ⟨B, G, ?_⟩
    rw [oq_add_eq (by omega) (by omega) (by omega), ← this]; exact v2
  · rw [e] at hw
    unfold WIo BAR ARI JMP TWO at hw; omega
theorem frs_j (S : STC h) (F : FRS h) (M : MVW h g (JOF h (h 149 (h 143 17).toNat))) (hj : JMP (OPt h)) : STC g ∧ FRS g := by
  refine frs_mv S F M (fun _ => ?_)
  rw [← F.2.1]
  have t2 := F.2.2.1.2.1
  have t3 := F.2.2.1.2.2.1
  rw [← F.2.1] at t2 t3
  rcases opt_c S F with ⟨B, G, b, e⟩ | e
  · rw [e] at hj
    refine ⟨B, G, ?_⟩
    have := G.j _ b hj
    have k : JOF h (h 149 (h 143 17).toNat) = oq_s (oq_or (oq_shl (ocb h (bN h (h 148 (h 143 17).toNat)) (h 148 (h 143 17).toNat % 12) (oq_add (h 149 (h 143 17).toNat) 1)) 8) (ocb h (bN h (h 148 (h 143 17).toNat)) (h 148 (h 143 17).toNat % 12) (oq_add (h 149 (h 143 17).toNat) 2))) := by
      unfold JOF pr2 ocb
      rw [t2, t3, oq_as, oq_as, oq_as, show oq_add 1 1 = 2 from rfl]
    rw [k]; exact this
  · rw [e] at hj
    unfold JMP at hj; omega
/-- taking the uppermost method -/
def TTp (h g : ms_M) : Prop := SPF h g ∧ (∀ k, g 68 k = h 68 k) ∧ (∀ k, g 148 k = h 148 k) ∧ (∀ k, g 149 k = h 149 k) ∧ g 143 6 = h 143 6 ∧ g 143 17 = h 143 6 - 1 ∧ (NVa h (h 148 (h 143 6 - 1).toNat) → (g 143 18).toNat = bN h (h 148 (h 143 6 - 1).toNat) ∧ g 143 19 = mo h (bN h (h 148 (h 143 6 - 1).toNat)) (h 148 (h 143 6 - 1).toNat % 12) 6) ∧ (g 143 1 = h 143 1 ∨ g 143 1 = 6) ∧ (¬ NVa h (h 148 (h 143 6 - 1).toNat) → g 143 1 = 6)
theorem pl_top (S : STC h) (hd : 1 ≤ h 143 6 ∧ h 143 6 ≤ 60) : Pc (qf_X5_takeTop nn h) (fun g => TTp h g) := by
  have c3 := S.2.2.2
  unfold qf_X5_takeTop
  refine pc_xl (fun v2 e2 => pc_xl (fun v3 e3 => pc_xl (fun h4 e4 => ?_)))
  rw [oq_sub_eq (by omega) (by omega) (by omega)] at e2
  have e3 : v3 = h 143 6 - 1 := by rw [e3]; split <;> omega
  have t4 : h4 143 17 = h 143 6 - 1 := by rw [e4, up_s]; exact e3
  have n4 : ∀ c k, ¬ (c = 143 ∧ k = 17) → h4 c k = h c k := fun c k q => by rw [e4]; exact up_n q
  have F4 : SPF h h4 := by rw [e4]; exact spf_up rfl (by omega)
  refine pc_rA (fun _ _ v8 e8 => ?_)
  rw [t4, n4 _ _ (by omega)] at e8
  refine pc_se (fun u10 e10 => ?_)
  have i10 : (NVa h v8 ∧ u10 = h 60 (v8 / 12).toNat) ∨ (¬ NVa h v8 ∧ u10 = -1) := by
    unfold qf_X7_imageOfMember at e10
    unfold NVa
    split at e10
    · cases e10; right; exact ⟨by omega, rfl⟩
    · rw [n4 _ _ (by omega), xl_eq, oq_mul_eq (by omega) (by omega) (by omega)] at e10
      split at e10
      · cases e10; right; exact ⟨by omega, rfl⟩
      · rw [xl_eq] at e10
        have e10 := rd_i e10
        cases e10
        left
        refine ⟨by omega, ?_⟩
        rw [n4 _ _ (by omega), Int.tdiv_eq_ediv_of_nonneg (by omega)]
  refine pc_if (fun c => ?_) (fun c => ?_)
  · refine pc_xl (fun h13 e13 => pc_ret ?_)
    have nv : ¬ NVa h v8 := by
      rcases i10 with ⟨a, b⟩ | ⟨a, b⟩
      · have := (S.2.2.1 (v8 / 12).toNat (by have := a.1; have := a.2; omega)).1
        omega
      · exact a
    have n13 : ∀ c k, ¬ (c = 143 ∧ k = 1) → h13 c k = h4 c k := fun c k q => by rw [e13]; exact up_n q
    rw [e8] at nv
    refine ⟨spf_tr F4 (by rw [e13]; exact spf_up rfl (by omega)), fun k => ?_, fun k => ?_, fun k => ?_, ?_, ?_, fun q => absurd q nv, .inr (by rw [e13]; exact up_s), fun _ => by rw [e13]; exact up_s⟩
    · rw [n13 _ _ (by omega), n4 _ _ (by omega)]
    · rw [n13 _ _ (by omega), n4 _ _ (by omega)]
    · rw [n13 _ _ (by omega), n4 _ _ (by omega)]
    · rw [n13 _ _ (by omega), n4 _ _ (by omega)]
    · rw [n13 _ _ (by omega), t4]
  · have nv : NVa h v8 ∧ u10 = h 60 (v8 / 12).toNat := by
      rcases i10 with q | ⟨a, b⟩
      · exact q
      · omega
    have nv2 := nv.1
    rw [e8] at nv2
    have hbn : (u10.toNat : Int) = h 60 (v8 / 12).toNat := by
      rw [nv.2]
      exact Int.toNat_of_nonneg (S.2.2.1 (v8 / 12).toNat (by have := nv.1.1; have := nv.1.2; omega)).1
    have W : ∀ {a : Int} {G : ms_M → Option ms_M} {Q : ms_M → Prop}, (∀ z, z = up_M h4 143 18 a → Pc (G z) Q) → Pc (wr_R 143 18 a h4 G) Q := by
      intro a G Q k r e
      unfold wr_R at e
      split at e
      · exact k _ rfl r e
      · cases e
    refine W (fun h14 e14 => ?_)
    have n14 : ∀ c k, ¬ (c = 143 ∧ k = 18) → h14 c k = h4 c k := fun c k q => by rw [e14]; exact up_n q
    have F14 : SPF h4 h14 := by rw [e14]; exact spf_up rfl (by omega)
    have s14 : (h14 143 18).toNat = bN h v8 := by
      rw [e14, up_s, hbn]; rfl
    refine pc_ck (fun _ => pc_rA (fun _ _ v18 e18 => pc_xl (fun v19 e19 => pc_ck (fun _ => pc_sv pv_mo (fun u21 e21 => pc_xl (fun h22 e22 => pc_ret ?_))))))
    rw [n14 148 _ (by omega), n14 143 17 (by omega), t4, n4 148 _ (by omega), ← e8] at e18
    rw [s14, e19, e18, Int.tmod_eq_emod_of_nonneg nv.1.1, mo_q ((spf_tr F4 F14).2.2 _ (nva_vb S nv.1))] at e21
    have n22 : ∀ c k, ¬ (c = 143 ∧ k = 19) → h22 c k = h14 c k := fun c k q => by rw [e22]; exact up_n q
    refine ⟨spf_tr F4 (spf_tr F14 (by rw [e22]; exact spf_up rfl (by omega))), fun k => ?_, fun k => ?_, fun k => ?_, ?_, ?_, fun _ => ⟨?_, ?_⟩, .inl ?_, fun q => absurd nv2 q⟩
    · rw [n22 _ _ (by omega), n14 _ _ (by omega), n4 _ _ (by omega)]
    · rw [n22 _ _ (by omega), n14 _ _ (by omega), n4 _ _ (by omega)]
    · rw [n22 _ _ (by omega), n14 _ _ (by omega), n4 _ _ (by omega)]
    · rw [n22 _ _ (by omega), n14 _ _ (by omega), n4 _ _ (by omega)]
    · rw [n22 _ _ (by omega), n14 _ _ (by omega), t4]
    · rw [n22 _ _ (by omega), s14, e8]
    · rw [e22, up_s, e21, e8]
    · rw [n22 _ _ (by omega), n14 _ _ (by omega), n4 _ _ (by omega)]
end

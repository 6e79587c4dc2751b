/- CALLS, RETURNS AND THROWN OBJECTS OF THE MACHINE -/
section
variable {nn : Nat} {h g z X : ms_M}
theorem frs_mk {d : Int} (S : STC X) (F : SPF X g) (hl : ∀ k, g 68 k = X 68 k) (h8 : ∀ k, g 148 k = X 148 k) (hd : g 143 6 = d) (rd : 1 ≤ d ∧ d ≤ 60) (ht : g 143 17 = d - 1) (N : NVa X (X 148 (d - 1).toNat)) (e18 : (g 143 18).toNat = bN X (X 148 (d - 1).toNat)) (e19 : g 143 19 = mo X (bN X (X 148 (d - 1).toNat)) (X 148 (d - 1).toNat % 12) 6) (hp : PGo X (X 148 (d - 1).toNat) (g 149 (d - 1).toNat) ∨ (X (bN X (X 148 (d - 1).toNat)) 12 ≤ X 148 (d - 1).toNat % 12 ∧ g 149 (d - 1).toNat = 0)) (low : ∀ i : Nat, (i : Int) < d - 1 → LOk X i ∧ g 149 i = X 149 i) : STC g ∧ FRS g := by
  have A := F.2.2 _ (nva_vb S N)
  refine ⟨stc_q F hl S, by rw [hd]; exact rd, by rw [hd]; exact ht, ?_, fun i hi => ?_⟩
  · rw [hd]
    refine ⟨by rw [h8]; exact nva_q F N, by rw [h8, bN_q F]; exact e18, by rw [h8, bN_q F, mo_q A]; exact e19, ?_⟩
    rw [h8, bN_q F, show g (bN X (X 148 (d - 1).toNat)) 12 = X (bN X (X 148 (d - 1).toNat)) 12 from A.1 0 12 (by omega)]
    exact hp.imp (fun q => pgo_q S N F q) id
  · rw [hd] at hi
    obtain ⟨l1, l2⟩ := low i hi
    refine ⟨by rw [h8]; exact nva_q F l1.1, ?_⟩
    rw [h8, l2]; exact pgo_q S l1.1 F l1.2
theorem frs_0 (S : STC h) (F : FRS h) (M : MV0 h g) : STC g ∧ FRS g := by
  obtain ⟨f1, f2, ⟨t1, t2, t3, t4⟩, f4⟩ := F
  obtain ⟨m6, m17, m18, m19⟩ := M.2.2.2.1
  exact frs_mk S M.1 M.2.1 M.2.2.1 m6 f1 (m17.trans f2) t1 (by rw [m18]; exact t2) (by rw [m19]; exact t3) (by rw [M.2.2.2.2]; exact t4) (fun i hi => ⟨f4 i hi, M.2.2.2.2 i⟩)
theorem top_new {n : Int} (S : STC h) (N : NVa h n) : PGo h n 0 ∨ h (bN h n) 12 ≤ n % 12 := by
  have c3 := S.2.2.2
  by_cases q : h (bN h n) 12 ≤ n % 12
  · exact .inr q
  · left
    obtain ⟨B, G⟩ := S.1.1 (n / 12).toNat (by have := N.1; have := N.2; omega) (n % 12) (by have := N.1; omega) (by show n % 12 < h (bN h n) 12; omega)
    exact ⟨B, G, G.z⟩
theorem pl_begin {n a2 a3 : Int} (S : STC h) (hd : 0 ≤ h 143 6 ∧ h 143 6 ≤ 60) (low : ∀ i : Nat, (i : Int) < h 143 6 → LOk h i) : Pc (qf_X5_beginMethod nn n a2 a3 h) (fun g => g 143 1 = 1 → STC g ∧ FRS g) := by
  unfold qf_X5_beginMethod
  refine pc_if (fun c => ?_) (fun _ => pc_xl (fun h24 e => pc_ret (fun q => absurd q (by rw [e, up_s]; decide))))
  refine pc_xl (fun v3 e3 => pc_xl (fun v5 e5 => pc_se (fun u6 e6 => ?_)))
  have F6 := (ff_J7_fill_fda19 nn) _ e6
  have CP : ∀ {G : ms_M → Option ms_M} {Q : ms_M → Prop}, (∀ z : ms_M, (∀ c k, c ≠ 151 → z c k = u6 c k) → Pc (G z) Q) → Pc (cp_S 152 a2 151 v3 a3 u6 G) Q := by
    intro G Q k r e
    have e := cp_i e
    refine k _ (fun c j q => ?_) r e
    unfold cp_M; rw [if_neg (by omega)]
  refine CP (fun h9 e9 => ?_)
  have n9 : ∀ c k, c ≠ 151 → h9 c k = h c k := fun c k q => by rw [e9 c k q]; exact F6 c k q
  have d9 : h9 143 6 = h 143 6 := n9 _ _ (by omega)
  refine pc_wA (fun _ _ h12 e12 => ?_)
  have d12 : h12 143 6 = h 143 6 := by rw [e12, up_n (by omega)]; exact d9
  refine pc_wA (fun _ _ h15 e15 => ?_)
  have d15 : h15 143 6 = h 143 6 := by rw [e15, up_n (by omega)]; exact d12
  refine pc_wA (fun _ _ h18 e18 => ?_)
  have d18 : h18 143 6 = h 143 6 := by rw [e18, up_n (by omega)]; exact d15
  refine pc_xl (fun v20 e20 => pc_xl (fun Y eY => ?_))
  rw [d18, oq_add_eq (by omega) (by omega) (by omega)] at e20
  rw [d9] at e12
  rw [d12] at e15
  rw [d15] at e18
  have dY : Y 143 6 = h 143 6 + 1 := by rw [eY, up_s]; exact e20
  have nY : ∀ c k, c ≠ 151 → c ≠ 150 → ¬ (c = 148 ∧ k = (h 143 6).toNat) → ¬ (c = 149 ∧ k = (h 143 6).toNat) → ¬ (c = 143 ∧ k = 6) → Y c k = h c k := by
    intro c k q1 q2 q3 q4 q5
    rw [eY, up_n q5, e18, up_n (by omega), e15, up_n q4, e12, up_n q3]
    exact n9 c k q1
  have Y8 : Y 148 (h 143 6).toNat = n := by
    rw [eY, up_n (by omega), e18, up_n (by omega), e15, up_n (by omega), e12, up_s]
  have Y9 : Y 149 (h 143 6).toNat = 0 := by
    rw [eY, up_n (by omega), e18, up_n (by omega), e15, up_s]
  have FY : SPF h Y := by
    refine ⟨fun k => nY _ _ (by omega) (by omega) (by omega) (by omega) (by omega), nY _ _ (by omega) (by omega) (by omega) (by omega) (by omega), fun b V => ⟨fun i k q => ?_, fun k => ?_⟩⟩
    · have := im_at V.1
      exact nY _ _ (by omega) (by omega) (by omega) (by omega) (by omega)
    · have t := V.2
      have bad : ∀ x : Nat, ¬ ly_T x = 1 → (h b 0).toNat ≠ x := fun x q e => q (by rw [← e]; exact t)
      have b1 := bad 151 (by decide)
      have b2 := bad 150 (by decide)
      have b3 := bad 148 (by decide)
      have b4 := bad 149 (by decide)
      have b5 := bad 143 (by decide)
      exact nY _ _ b1 b2 (fun q => b3 q.1) (fun q => b4 q.1) (fun q => b5 q.1)
  have LY : ∀ k, Y 68 k = h 68 k := fun k => nY _ _ (by omega) (by omega) (by omega) (by omega) (by omega)
  have SY := stc_q FY LY S
  have eT : (Y 143 6 - 1).toNat = (h 143 6).toNat := by rw [dY]; omega
  refine pc_sv (pl_top SY (by omega)) (fun g T => pc_ret (fun st => ?_))
  obtain ⟨t1, t2, t3, t4, t5, t6, t7, t8, t9⟩ := T
  rw [eT] at t7 t9
  have N : NVa Y (Y 148 (h 143 6).toNat) := by
    by_cases q : NVa Y (Y 148 (h 143 6).toNat)
    · exact q
    · have := t9 q; omega
  obtain ⟨t7, t7'⟩ := t7 N
  have eD : (h 143 6 + 1 - 1).toNat = (h 143 6).toNat := by omega
  refine frs_mk (d := h 143 6 + 1) SY t1 t2 t3 (by rw [t5, dY]) (by omega) (by rw [t6, dY]) (by rw [eD]; exact N) (by rw [eD]; exact t7) (by rw [eD]; exact t7') ?_ (fun i hi => ⟨?_, t4 i⟩)
  · rw [eD, t4, Y9]
    exact (top_new SY N).imp id (fun q => ⟨q, rfl⟩)
  · have L := low i (by omega)
    have y8 : Y 148 i = h 148 i := nY _ _ (by omega) (by omega) (by omega) (by omega) (by omega)
    have y9 : Y 149 i = h 149 i := nY _ _ (by omega) (by omega) (by omega) (by omega) (by omega)
    refine ⟨by rw [y8]; exact nva_q FY L.1, ?_⟩
    rw [y8, y9]; exact pgo_q S L.1 FY L.2
theorem pl_call {o a : Int} (S : STC h) (F : FRS h) (ho : OPt h = 182 ∨ OPt h = 184) : Pc (qf_X5_stepCall nn o a h) (fun g => g 143 1 = 1 → STC g ∧ FRS g) := by
  have low : ∀ i : Nat, (i : Int) < h 143 6 → LOk h i := by
    intro i hi
    by_cases q : (i : Int) < h 143 6 - 1
    · exact F.2.2.2 i q
    · have ei : i = (h 143 17).toNat := by have := F.2.1; omega
      have N := F.2.2.1.1
      rw [← F.2.1] at N
      rw [ei]
      refine ⟨N, ?_⟩
      rcases opt_c S F with ⟨B, G, b, e⟩ | e
      · obtain ⟨v, v1, v2⟩ := G.n _ b (by rw [← e]; unfold LST; omega)
        have w2 : WIo (OPt h) 2 := .inr (.inr ⟨rfl, by unfold TWO; omega⟩)
        rw [e] at w2
        have := wio_det v1 w2
        exact ⟨B, G, by rw [← this]; exact v2⟩
      · omega
  have j136 : ∀ l3 l5 l6 : Int, Pc (qj_X5_stepCall_136 nn l3 l5 l6 h) (fun g => g 143 1 = 1 → STC g ∧ FRS g) := by
    intro l3 l5 l6
    unfold qj_X5_stepCall_136
    refine pc_wA (fun _ _ h3 e3 => pc_xl (fun v5 _ => pc_xl (fun v6 _ => ?_)))
    have M : MV0 h h3 := by rw [e3]; exact mv0_up rfl (by omega) (by omega)
    have d3 := M.2.2.2.1.1
    refine pc_sv (pl_begin (stc_q M.1 M.2.1 S) (by have := F.1; omega) (fun i hi => ?_)) (fun g Q => pc_ret Q)
    have L := low i (by omega)
    refine ⟨by rw [M.2.2.1]; exact nva_q M.1 L.1, ?_⟩
    rw [M.2.2.1, M.2.2.2.2]; exact pgo_q S L.1 M.1 L.2
  have j51 : ∀ l3 s0 s1 : Int, Pc (qj_X5_stepCall_51 nn o l3 s0 s1 h) (fun g => g 143 1 = 1 → STC g ∧ FRS g) := by
    intro l3 s0 s1
    unfold qj_X5_stepCall_51
    refine pc_xl (fun v9 _ => pc_rA (fun _ _ v12 _ => pc_xl (fun v13 _ => ?_)))
    refine pc_if (fun _ => pc_if (fun _ => j136 _ _ _) (fun _ => ?_)) (fun _ => pc_xl (fun z e => pc_ret (fun q => absurd q (by rw [e, up_s]; decide))))
    refine pc_xl (fun v16 _ => pc_xl (fun v17 _ => pc_rA (fun _ _ v18 _ => pc_se (fun u20 _ => ?_))))
    refine pc_if (fun _ => pc_rA (fun _ _ v23 _ => pc_se (fun u25 _ => j136 _ _ _))) (fun _ => pc_xl (fun z e => pc_ret (fun _ => ?_)))
    have M : MV0 h z := by rw [e]; exact mv_thr
    exact frs_0 S F M
  unfold qf_X5_stepCall
  refine pc_se (fun u32 _ => pc_se (fun u35 _ => ?_))
  refine pc_if (fun _ => pc_xl (fun z e => pc_ret (fun q => absurd q (by rw [e, up_s]; decide)))) (fun _ => ?_)
  exact pc_xl (fun v39 _ => pc_ck (fun _ => pc_se (fun u41 _ => pc_if (fun _ => j51 _ _ _) (fun _ => j51 _ _ _))))
theorem pl_goOnX {w : Int} : Pc (qf_X5_goOn nn w h) (fun g => MVW h g w ∧ g 149 (h 143 17).toNat = oq_add (h 149 (h 143 17).toNat) w) := by
  intro r e
  refine ⟨pl_goOn _ e, ?_⟩
  unfold qf_X5_goOn at e
  have e := rd_i e
  rw [xl_eq] at e
  have e := wa_i e
  have e := Option.some.inj e
  rw [← e, up_s]
theorem pl_return {o : Int} (S : STC h) (F : FRS h) : Pc (qf_X5_stepReturn nn o h) (fun g => g 143 1 = 1 → STC g ∧ FRS g) := by
  have j15 : ∀ {z : ms_M} (s0 : Int), MV0 h z → Pc (qj_X5_stepReturn_15 nn o s0 z) (fun g => g 143 1 = 1 → STC g ∧ FRS g) := by
    intro z s0 M
    obtain ⟨f1, f2, f3, f4⟩ := F
    obtain ⟨m6, m17, m18, m19⟩ := M.2.2.2.1
    unfold qj_X5_stepReturn_15
    refine pc_xl (fun v2 e2 => pc_xl (fun h3 e3 => ?_))
    rw [m6, oq_sub_eq (by omega) (by omega) (by omega)] at e2
    have d3 : h3 143 6 = h 143 6 - 1 := by rw [e3, up_s]; exact e2
    have n3 : ∀ c k, ¬ (c = 143 ∧ k = 6) → h3 c k = z c k := fun c k q => by rw [e3]; exact up_n q
    refine pc_if (fun c => ?_) (fun c => ?_)
    · refine pc_xl (fun h5 e5 => ?_)
      have s5 : h5 143 1 = 2 := by rw [e5]; exact up_s
      have bad : ∀ {v : Int}, up_M h5 143 2 v 143 1 = 1 → STC (up_M h5 143 2 v) ∧ FRS (up_M h5 143 2 v) := fun q => by
        rw [up_n (by omega), s5] at q; omega
      refine pc_if (fun _ => pc_se (fun u7 _ => pc_if (fun _ => pc_xl (fun h8 e8 => pc_ret (by rw [e8]; exact bad))) (fun _ => pc_rA (fun _ _ v10 _ => pc_xl (fun h8 e8 => pc_ret (by rw [e8]; exact bad)))))) (fun _ => pc_xl (fun h8 e8 => pc_ret (by rw [e8]; exact bad)))
    · have F3 : SPF h h3 := spf_tr M.1 (by rw [e3]; exact spf_up rfl (by omega))
      have L3 : ∀ k, h3 68 k = h 68 k := fun k => by rw [n3 _ _ (by omega), M.2.1]
      have S3 := stc_q F3 L3 S
      have k8 : ∀ k, h3 148 k = h 148 k := fun k => by rw [n3 _ _ (by omega), M.2.2.1]
      have k9 : ∀ k, h3 149 k = h 149 k := fun k => by rw [n3 _ _ (by omega), M.2.2.2.2]
      have lok : ∀ i : Nat, (i : Int) < h 143 6 - 1 → LOk h3 i := fun i hi => by
        have L := f4 i hi
        refine ⟨by rw [k8]; exact nva_q F3 L.1, ?_⟩
        rw [k8, k9]; exact pgo_q S L.1 F3 L.2
      refine pc_sv (pl_top S3 (by omega)) (fun u16 T => ?_)
      obtain ⟨t1, t2, t3, t4, t5, t6, t7, t8, t9⟩ := T
      have L := lok (h3 143 6 - 1).toNat (by omega)
      obtain ⟨t7, t7'⟩ := t7 L.1
      refine pc_sv pl_goOnX (fun u18 W => ?_)
      obtain ⟨W, We⟩ := W
      rw [t6, t4] at We
      have fin : ∀ {y : ms_M}, MV0 u18 y → STC y ∧ FRS y := by
        intro y My
        have MY := mvw_r W My
        obtain ⟨y6, y17, y18, y19⟩ := MY.2.2.2.1
        refine frs_mk (d := h3 143 6) S3 (spf_tr t1 MY.1) (fun k => (MY.2.1 k).trans (t2 k)) (fun k => (MY.2.2.1 k).trans (t3 k)) (y6.trans t5) (by omega) (y17.trans t6) L.1 (by rw [y18]; exact t7) (by rw [y19]; exact t7') (.inl ?_) (fun i hi => ⟨lok i (by omega), ?_⟩)
        · rw [My.2.2.2.2, We]
          obtain ⟨B, G, b⟩ := L.2
          have r := G.r _ b
          refine ⟨B, G, ?_⟩
          rw [oq_add_eq (by omega) (by omega) (by omega)]; exact b
        · rw [(MY.2.2.2.2 i).resolve_right (by rw [t6]; omega), t4]
      exact pc_if (fun _ => pc_ret (fun _ => fin mv0_refl)) (fun _ => pc_sv pl_push (fun u20 P => pc_ret (fun _ => fin P)))
  unfold qf_X5_stepReturn
  exact pc_if (fun _ => pc_sv pl_pop (fun u24 M => j15 _ M)) (fun _ => j15 _ mv0_refl)
end

section
/- CALLS, RETURNS AND THROWN OBJECTS OF THE MACHINE -/
section
variable {nn : Nat} {h g z X : ms_M}
theorem frs_mk {d : Int} (S : STC X) (F : SPF X g) (hl : ∀ k, g 68 k = X 68 k) (h8 : ∀ k, g 148 k = X 148 k) (hd : g 143 6 = d) (rd : 1 ≤ d ∧ d ≤ 60) (ht : g 143 17 = d - 1) (N : NVa X (X 148 (d - 1).toNat)) (e18 : (g 143 18).toNat = bN X (X 148 (d - 1).toNat)) (e19 : g 143 19 = mo X (bN X (X 148 (d - 1).toNat)) (X 148 (d - 1).toNat % 12) 6) (hp : PGo X (X 148 (d - 1).toNat) (g 149 (d - 1).toNat) ∨ (X (bN X (X 148 (d - 1).toNat)) 12 ≤ X 148 (d - 1).toNat % 12 ∧ g 149 (d - 1).toNat = 0)) (low : ∀ i : Nat, (i : Int) < d - 1 → LOk X i ∧ g 149 i = X 149 i) : STC g ∧ FRS g := by
  have A := F.2.2 _ (nva_vb S N)
  refine ⟨stc_q F hl S, by rw [hd]; exact rd, by rw [hd]; exact ht, ?_, fun i hi => ?_⟩
  · rw [hd]
    refine ⟨by rw [h8]; exact nva_q F N, by rw [h8, bN_q F]; exact e18, by rw [h8, bN_q F, mo_q A]; exact e19, ?_⟩
    rw [h8, bN_q F, show g (bN X (X 148 (d - 1).toNat)) 12 = X (bN X (X 148 (d - 1).toNat)) 12 from A.1 0 12 (by omega)]
    exact hp.imp (fun q => pgo_q S N F q) id
  · rw [hd] at hi
    obtain ⟨l1, l2⟩ := low i hi
    refine ⟨by rw [h8]; exact nva_q F l1.1, ?_⟩
    rw [h8, l2]; exact pgo_q S l1.1 F l1.2
theorem frs_0 (S : STC h) (F : FRS h) (M : MV0 h g) : STC g ∧ FRS g := by
  obtain ⟨f1, f2, ⟨t1, t2, t3, t4⟩, f4⟩ := F
  obtain ⟨m6, m17, m18, m19⟩ := M.2.2.2.1
  exact frs_mk S M.1 M.2.1 M.2.2.1 m6 f1 (m17.trans f2) t1 (by rw [m18]; exact t2) (by rw [m19]; exact t3) (by rw [M.2.2.2.2]; exact t4) (fun i hi => ⟨f4 i hi, M.2.2.2.2 i⟩)
theorem top_new {n : Int} (S : STC h) (N : NVa h n) : PGo h n 0 ∨ h (bN h n) 12 ≤ n % 12 := by
  have c3 := S.2.2.2
  by_cases q : h (bN h n) 12 ≤ n % 12
  · exact .inr q
  · left
    obtain ⟨B, G⟩ := S.1.1 (n / 12).toNat (by have := N.1; have := N.2; omega) (n % 12) (by have := N.1; omega) (by show n % 12 < h (bN h n) 12; omega)
    exact ⟨B, G, G.z⟩
theorem pl_begin {n a2 a3 : Int} (S : STC h) (hd : 0 ≤ h 143 6 ∧ h 143 6 ≤ 60) (low : ∀ i : Nat, (i : Int) < h 143 6 → LOk h i) : Pc (qf_X5_beginMethod nn n a2 a3 h) (fun g => g 143 1 = 1 → STC g ∧ FRS g) := by
  unfold qf_X5_beginMethod
  refine pc_if (fun c => ?_) (fun _ => pc_xl (fun h24 e => pc_ret (fun q => absurd q (by rw [e, up_s]; decide))))
  refine pc_xl (fun v3 e3 => pc_xl (fun v5 e5 => pc_se (fun u6 e6 => ?_)))
  have F6 := (ff_J7_fill_fda19 nn) _ e6
  have CP : ∀ {G : ms_M → Option ms_M} {Q : ms_M → Prop}, (∀ z : ms_M, (∀ c k, c ≠ 151 → z c k = u6 c k) → Pc (G z) Q) → Pc (cp_S 152 a2 151 v3 a3 u6 G) Q := by
    intro G Q k r e
    have e := cp_i e
    refine k _ (fun c j q => ?_) r e
    unfold cp_M; rw [if_neg (by omega)]
  refine CP (fun h9 e9 => ?_)
  have n9 : ∀ c k, c ≠ 151 → h9 c k = h c k := fun c k q => by rw [e9 c k q]; exact F6 c k q
  have d9 : h9 143 6 = h 143 6 := n9 _ _ (by omega)
  refine pc_wA (fun _ _ h12 e12 => ?_)
  have d12 : h12 143 6 = h 143 6 := by rw [e12, up_n (by omega)]; exact d9
  refine pc_wA (fun _ _ h15 e15 => ?_)
  have d15 : h15 143 6 = h 143 6 := by rw [e15, up_n (by omega)]; exact d12
  refine pc_wA (fun _ _ h18 e18 => ?_)
  have d18 : h18 143 6 = h 143 6 := by rw [e18, up_n (by omega)]; exact d15
  refine pc_xl (fun v20 e20 => pc_xl (fun Y eY => ?_))
  rw [d18, oq_add_eq (by omega) (by omega) (by omega)] at e20
  rw [d9] at e12
  rw [d12] at e15
  rw [d15] at e18
  have dY : Y 143 6 = h 143 6 + 1 := by rw [eY, up_s]; exact e20
  have nY : ∀ c k, c ≠ 151 → c ≠ 150 → ¬ (c = 148 ∧ k = (h 143 6).toNat) → ¬ (c = 149 ∧ k = (h 143 6).toNat) → ¬ (c = 143 ∧ k = 6) → Y c k = h c k := by
    intro c k q1 q2 q3 q4 q5
    rw [eY, up_n q5, e18, up_n (by omega), e15, up_n q4, e12, up_n q3]
    exact n9 c k q1
  have Y8 : Y 148 (h 143 6).toNat = n := by
    rw [eY, up_n (by omega), e18, up_n (by omega), e15, up_n (by omega), e12, up_s]
  have Y9 : Y 149 (h 143 6).toNat = 0 := by
    rw [eY, up_n (by omega), e18, up_n (by omega), e15, up_s]
  have FY : SPF h Y := by
    refine ⟨fun k => nY _ _ (by omega) (by omega) (by omega) (by omega) (by omega), nY _ _ (by omega) (by omega) (by omega) (by omega) (by omega), fun b V => ⟨fun i k q => ?_, fun k => ?_⟩⟩
    · have := im_at V.1
      exact nY _ _ (by omega) (by omega) (by omega) (by omega) (by omega)
    · have t := V.2
      have bad : ∀ x : Nat, ¬ ly_T x = 1 → (h b 0).toNat ≠ x := fun x q e => q (by rw [← e]; exact t)
      have b1 := bad 151 (by decide)
      have b2 := bad 150 (by decide)
      have b3 := bad 148 (by decide)
      have b4 := bad 149 (by decide)
      have b5 := bad 143 (by decide)
      exact nY _ _ b1 b2 (fun q => b3 q.1) (fun q => b4 q.1) (fun q => b5 q.1)
  have LY : ∀ k, Y 68 k = h 68 k := fun k => nY _ _ (by omega) (by omega) (by omega) (by omega) (by omega)
  have SY := stc_q FY LY S
  have eT : (Y 143 6 - 1).toNat = (h 143 6).toNat := by rw [dY]; omega
  refine pc_sv (pl_top SY (by omega)) (fun g T => pc_ret (fun st => ?_))
  obtain ⟨t1, t2, t3, t4, t5, t6, t7, t8, t9⟩ := T
  rw [eT] at t7 t9
  have N : NVa Y (Y 148 (h 143 6).toNat) := by
    by_cases q : NVa Y (Y 148 (h 143 6).toNat)
    · exact q
    · have := t9 q; omega
  obtain ⟨t7, t7'⟩ := t7 N
  have eD : (h 143 6 + 1 - 1).toNat = (h 143 6).toNat := by omega
  refine frs_mk (d := h 143 6 + 1) SY t1 t2 t3 (by rw [t5, dY]) (by omega) (by rw [t6, dY]) (by rw [eD]; exact N) (by rw [eD]; exact t7) (by rw [eD]; exact t7') ?_ (fun i hi => ⟨?_, t4 i⟩)
  · rw [eD, t4, Y9]
    exact (top_new SY N).imp id (fun q => ⟨q, rfl⟩)
  · have L := low i (by omega)
    have y8 : Y 148 i = h 148 i := nY _ _ (by omega) (by omega) (by omega) (by omega) (by omega)
    have y9 : Y 149 i = h 149 i := nY _ _ (by omega) (by omega) (by omega) (by omega) (by omega)
    refine ⟨by rw [y8]; exact nva_q FY L.1, ?_⟩
    rw [y8, y9]; exact pgo_q S L.1 FY L.2
theorem pl_call {o a : Int} (S : STC h) (F : FRS h) (ho : OPt h = 182 ∨ OPt h = 184) : Pc (qf_X5_stepCall nn o a h) (fun g => g 143 1 = 1 → STC g ∧ FRS g) := by
  have low : ∀ i : Nat, (i : Int) < h 143 6 → LOk h i := by
    intro i hi
    by_cases q : (i : Int) < h 143 6 - 1
    · exact F.2.2.2 i q
    · have ei : i = (h 143 17).toNat := by have := F.2.1; omega
      have N := F.2.2.1.1
      rw [← F.2.1] at N
      rw [ei]
      refine ⟨N, ?_⟩
      rcases opt_c S F with ⟨B, G, b, e⟩ | e
      · obtain ⟨v, v1, v2⟩ := G.n _ b (by rw [← e]; unfold LST; omega)
        have w2 : WIo (OPt h) 2 := .inr (.inr ⟨rfl, by unfold TWO; omega⟩)
        rw [e] at w2
        have := wio_det v1 w2
        exact ⟨B, G, by rw [← this]; exact v2⟩
      · omega
  have j136 : ∀ l3 l5 l6 : Int, Pc (qj_X5_stepCall_136 nn l3 l5 l6 h) (fun g => g 143 1 = 1 → STC g ∧ FRS g) := by
    intro l3 l5 l6
    unfold qj_X5_stepCall_136
    refine pc_wA (fun _ _ h3 e3 => pc_xl (fun v5 _ => pc_xl (fun v6 _ => ?_)))
    have M : MV0 h h3 := by rw [e3]; exact mv0_up rfl (by omega) (by omega)
    have d3 := M.2.2.2.1.1
    refine pc_sv (pl_begin (stc_q M.1 M.2.1 S) (by have := F.1; omega) (fun i hi => ?_)) (fun g Q => pc_ret Q)
    have L := low i (by omega)
    refine ⟨by rw [M.2.2.1]; exact nva_q M.1 L.1, ?_⟩
    rw [M.2.2.1, M.2.2.2.2]; exact pgo_q S L.1 M.1 L.2
  have j51 : ∀ l3 s0 s1 : Int, Pc (qj_X5_stepCall_51 nn o l3 s0 s1 h) (fun g => g 143 1 = 1 → STC g ∧ FRS g) := by
    intro l3 s0 s1
    unfold qj_X5_stepCall_51
    refine pc_xl (fun v9 _ => pc_rA (fun _ _ v12 _ => pc_xl (fun v13 _ => ?_)))
    refine pc_if (fun _ => pc_if (fun _ => j136 _ _ _) (fun _ => ?_)) (fun _ => pc_xl (fun z e => pc_ret (fun q => absurd q (by rw [e, up_s]; decide))))
    refine pc_xl (fun v16 _ => pc_xl (fun v17 _ => pc_rA (fun _ _ v18 _ => pc_se (fun u20 _ => ?_))))
    refine pc_if (fun _ => pc_rA (fun _ _ v23 _ => pc_se (fun u25 _ => j136 _ _ _))) (fun _ => pc_xl (fun z e => pc_ret (fun _ => ?_)))
    have M : MV0 h z := by rw [e]; exact mv_thr
    exact frs_0 S F M
  unfold qf_X5_stepCall
  refine pc_se (fun u32 _ => pc_se (fun u35 _ => ?_))
  refine pc_if (fun _ => pc_xl (fun z e => pc_ret (fun q => absurd q (by rw [e, up_s]; decide)))) (fun _ => ?_)
  exact pc_xl (fun v39 _ => pc_ck (fun _ => pc_se (fun u41 _ => pc_if (fun _ => j51 _ _ _) (fun _ => j51 _ _ _))))
theorem pl_goOnX {w : Int} : Pc (qf_X5_goOn nn w h) (fun g => MVW h g w ∧ g 149 (h 143 17).toNat = oq_add (h 149 (h 143 17).toNat) w) := by
  intro r e
  refine ⟨pl_goOn _ e, ?_⟩
  unfold qf_X5_goOn at e
  have e := rd_i e
  rw [xl_eq] at e
  have e := wa_i e
  have e := Option.some.inj e
  rw [← e, up_s]
theorem pl_return {o : Int} (S : STC h) (F : FRS h) : Pc (qf_X5_stepReturn nn o h) (fun g => g 143 1 = 1 → STC g ∧ FRS g) := by
  have j15 : ∀ {z : ms_M} (s0 : Int), MV0 h z → Pc (qj_X5_stepReturn_15 nn o s0 z) (fun g => g 143 1 = 1 → STC g ∧ FRS g) := by
    intro z s0 M
    obtain ⟨f1, f2, f3, f4⟩ := F
    obtain ⟨m6, m17, m18, m19⟩ := M.2.2.2.1
    unfold qj_X5_stepReturn_15
    refine pc_xl (fun v2 e2 => pc_xl (fun h3 e3 => ?_))
    rw [m6, oq_sub_eq (by omega) (by omega) (by omega)] at e2
    have d3 : h3 143 6 = h 143 6 - 1 := by rw [e3, up_s]; exact e2
    have n3 : ∀ c k, ¬ (c = 143 ∧ k = 6) → h3 c k = z c k := fun c k q => by rw [e3]; exact up_n q
    refine pc_if (fun c => ?_) (fun c => ?_)
    · refine pc_xl (fun h5 e5 => ?_)
      have s5 : h5 143 1 = 2 := by rw [e5]; exact up_s
      have bad : ∀ {v : Int}, up_M h5 143 2 v 143 1 = 1 → STC (up_M h5 143 2 v) ∧ FRS (up_M h5 143 2 v) := fun q => by
        rw [up_n (by omega), s5] at q; omega
      refine pc_if (fun _ => pc_se (fun u7 _ => pc_if (fun _ => pc_xl (fun h8 e8 => pc_ret (by rw [e8]; exact bad))) (fun _ => pc_rA (fun _ _ v10 _ => pc_xl (fun h8 e8 => pc_ret (by rw [e8]; exact bad)))))) (fun _ => pc_xl (fun h8 e8 => pc_ret (by rw [e8]; exact bad)))
    · have F3 : SPF h h3 := spf_tr M.1 (by rw [e3]; exact spf_up rfl (by omega))
      have L3 : ∀ k, h3 68 k = h 68 k := fun k => by rw [n3 _ _ (by omega), M.2.1]
      have S3 := stc_q F3 L3 S
      have k8 : ∀ k, h3 148 k = h 148 k := fun k => by rw [n3 _ _ (by omega), M.2.2.1]
      have k9 : ∀ k, h3 149 k = h 149 k := fun k => by rw [n3 _ _ (by omega), M.2.2.2.2]
      have lok : ∀ i : Nat, (i : Int) < h 143 6 - 1 → LOk h3 i := fun i hi => by
        have L := f4 i hi
        refine ⟨by rw [k8]; exact nva_q F3 L.1, ?_⟩
        rw [k8, k9]; exact pgo_q S L.1 F3 L.2
      refine pc_sv (pl_top S3 (by omega)) (fun u16 T => ?_)
      obtain ⟨t1, t2, t3, t4, t5, t6, t7, t8, t9⟩ := T
      have L := lok (h3 143 6 - 1).toNat (by omega)
      obtain ⟨t7, t7'⟩ := t7 L.1
      refine pc_sv pl_goOnX (fun u18 W => ?_)
      obtain ⟨W, We⟩ := W
      rw [t6, t4] at We
      have fin : ∀ {y : ms_M}, MV0 u18 y → STC y ∧ FRS y := by
        intro y My
        have MY := mvw_r W My
        obtain ⟨y6, y17, y18, y19⟩ := MY.2.2.2.1
        refine frs_mk (d := h3 143 6) S3 (spf_tr t1 MY.1) (fun k => (MY.2.1 k).trans (t2 k)) (fun k => (MY.2.2.1 k).trans (t3 k)) (y6.trans t5) (by omega) (y17.trans t6) L.1 (by rw [y18]; exact t7) (by rw [y19]; exact t7') (.inl ?_) (fun i hi => ⟨lok i (by omega), ?_⟩)
        · rw [My.2.2.2.2, We]
          obtain ⟨B, G, b⟩ := L.2
          have r := G.r _ b
          refine ⟨B, G, ?_⟩
          rw [oq_add_eq (by omega) (by omega) (by omega)]; exact b
        · rw [(MY.2.2.2.2 i).resolve_right (by rw [t6]; omega), t4]
      exact pc_if (fun _ => pc_ret (fun _ => fin mv0_refl)) (fun _ => pc_sv pl_push (fun u20 P => pc_ret (fun _ => fin P)))
  unfold qf_X5_stepReturn
  exact pc_if (fun _ => pc_sv pl_pop (fun u24 M => j15 _ M)) (fun _ => j15 _ mv0_refl)
end
end
section
/- A TURN OF THE MACHINE KEEPS THE FRAMES GOOD; ITS LINKS OF FIELDS ARE SMALL -/
section
variable {nn : Nat} {h g z X : ms_M}
theorem st_obj {o a : Int} (S : STC h) (F : FRS h) (ho : o = OPt h) (h1 : ¬ JMP o) (h2 : ¬ ARI o) : Pc (qf_X5_stepObject nn o a h) (fun g => g 143 1 = 1 → STC g ∧ FRS g) := by
  have w1 : ∀ {x : Option ms_M}, Pc x (fun g => MVW h g 1) → BAR o → ¬ LST o → Pc (mx_sv x fun u => some u) (fun g => g 143 1 = 1 → STC g ∧ FRS g) := fun hx b l => pc_sv hx (fun u W => pc_ret (fun _ => frs_w S F W (by rw [← ho]; exact .inl ⟨rfl, .inr b⟩) (by rw [← ho]; exact l)))
  have w2 : ∀ {x : Option ms_M}, Pc x (fun g => MVW h g 2) → TWO o → ¬ LST o → Pc (mx_sv x fun u => some u) (fun g => g 143 1 = 1 → STC g ∧ FRS g) := fun hx b l => pc_sv hx (fun u W => pc_ret (fun _ => frs_w S F W (by rw [← ho]; exact .inr (.inr ⟨rfl, b⟩)) (by rw [← ho]; exact l)))
  have w0 : ∀ {x : Option ms_M}, Pc x (fun g => g 143 1 = 1 → STC g ∧ FRS g) → Pc (mx_sv x fun u => some u) (fun g => g 143 1 = 1 → STC g ∧ FRS g) := fun hx => pc_sv hx (fun u Q => pc_ret Q)
  unfold qf_X5_stepObject
  refine pc_if (fun c => w1 pl_element (by unfold BAR; omega) (by unfold LST; omega)) (fun _ => ?_)
  refine pc_if (fun c => w1 pl_element (by unfold BAR; omega) (by unfold LST; omega)) (fun _ => ?_)
  refine pc_if (fun c => w1 pl_giveElement (by unfold BAR; omega) (by unfold LST; omega)) (fun _ => ?_)
  refine pc_if (fun c => w1 pl_giveElement (by unfold BAR; omega) (by unfold LST; omega)) (fun _ => ?_)
  refine pc_if (fun c => w0 (pl_return S F)) (fun _ => ?_)
  refine pc_if (fun c => w0 (pl_return S F)) (fun _ => ?_)
  refine pc_if (fun c => w0 (pl_return S F)) (fun _ => ?_)
  refine pc_if (fun c => w2 pl_field (by unfold TWO; omega) (by unfold LST; omega)) (fun _ => ?_)
  refine pc_if (fun c => w2 pl_giveField (by unfold TWO; omega) (by unfold LST; omega)) (fun _ => ?_)
  refine pc_if (fun c => w0 (pl_call S F (by omega))) (fun _ => ?_)
  refine pc_if (fun c => w0 (pl_call S F (by omega))) (fun _ => ?_)
  refine pc_if (fun c => w1 pl_print (by unfold BAR; omega) (by unfold LST; omega)) (fun _ => ?_)
  refine pc_if (fun c => pc_se (fun u29 _ => pc_se (fun u32 _ => pc_se (fun u34 _ => w2 pl_giveNew (by unfold TWO; omega) (by unfold LST; omega))))) (fun _ => ?_)
  have j243 : (o = 188 ∨ o = 189) → Pc (qj_X5_stepObject_243 nn o a h) (fun g => g 143 1 = 1 → STC g ∧ FRS g) := fun c => by
    unfold qj_X5_stepObject_243
    exact pc_if (fun _ => pc_se (fun u6 _ => pc_xl (fun v7 _ => w2 pl_newArray (by unfold TWO; omega) (by unfold LST; omega)))) (fun _ => w2 pl_newArray (by unfold TWO; omega) (by unfold LST; omega))
  have j285 : (o = 192 ∨ o = 193) → Pc (qj_X5_stepObject_285 nn o a h) (fun g => g 143 1 = 1 → STC g ∧ FRS g) := fun c => by
    unfold qj_X5_stepObject_285
    exact pc_se (fun u6 _ => w2 pl_kin (by unfold TWO; omega) (by unfold LST; omega))
  refine pc_if (fun c => j243 (.inl c)) (fun _ => ?_)
  refine pc_if (fun c => j243 (.inr c)) (fun _ => ?_)
  refine pc_if (fun c => w1 pl_length (by unfold BAR; omega) (by unfold LST; omega)) (fun _ => ?_)
  refine pc_if (fun c => pc_sv pl_throw (fun u M => pc_ret (fun _ => frs_0 S F M))) (fun _ => ?_)
  refine pc_if (fun c => j285 (.inl c)) (fun _ => ?_)
  refine pc_if (fun c => j285 (.inr c)) (fun _ => ?_)
  exact pc_xl (fun z e => pc_ret (fun q => absurd q (by rw [e, up_s]; decide)))
theorem st_all (S : STC h) (F : FRS h) : Pc (qf_X5_step nn h) (fun g => g 143 1 = 1 → STC g ∧ FRS g) := by
  have N := F.2.2.1.1
  have b18 := F.2.2.1.2.1
  have V : VBb h (h 143 18).toNat := by rw [b18]; exact nva_vb S N
  unfold qf_X5_step
  refine pc_rA (fun _ _ v8 e8 => pc_ck (fun _ => pc_xl (fun v11 e11 => pc_ck (fun _ => pc_sv pv_byte (fun o e13 => ?_)))))
  have ho : o = OPt h := by rw [e13, e11, e8]; rfl
  refine pc_ck (fun _ => pc_xl (fun v16 _ => pc_xl (fun v17 _ => pc_se (fun a _ => ?_))))
  have w1 : ∀ {x : Option ms_M}, Pc x (fun g => MVW h g 1) → (o ≤ 8 ∨ BAR o) → ¬ LST o → Pc (mx_sv x fun u => some u) (fun g => g 143 1 = 1 → STC g ∧ FRS g) := fun hx b l => pc_sv hx (fun u W => pc_ret (fun _ => frs_w S F W (by rw [← ho]; exact .inl ⟨rfl, b⟩) (by rw [← ho]; exact l)))
  have w2 : ∀ {x : Option ms_M}, Pc x (fun g => MVW h g 2) → TWO o → ¬ LST o → Pc (mx_sv x fun u => some u) (fun g => g 143 1 = 1 → STC g ∧ FRS g) := fun hx b l => pc_sv hx (fun u W => pc_ret (fun _ => frs_w S F W (by rw [← ho]; exact .inr (.inr ⟨rfl, b⟩)) (by rw [← ho]; exact l)))
  have w0 : ∀ {x : Option ms_M}, Pc x (fun g => g 143 1 = 1 → STC g ∧ FRS g) → Pc (mx_sv x fun u => some u) (fun g => g 143 1 = 1 → STC g ∧ FRS g) := fun hx => pc_sv hx (fun u Q => pc_ret Q)
  have j213 : (o ≤ 8) → Pc (qj_X5_step_213 nn o h) (fun g => g 143 1 = 1 → STC g ∧ FRS g) := fun c => by
    unfold qj_X5_step_213
    exact pc_xl (fun v _ => w1 pl_give (.inl c) (by unfold LST; omega))
  have j247 : (o = 21 ∨ o = 25 ∨ o = 54 ∨ o = 58) → Pc (qj_X5_step_247 nn o a h) (fun g => g 143 1 = 1 → STC g ∧ FRS g) := fun c => by
    unfold qj_X5_step_247
    exact w2 pl_local (by unfold TWO; omega) (by unfold LST; omega)
  refine pc_if (fun c => w1 pl_goOn (.inl (by omega)) (by unfold LST; omega)) (fun _ => ?_)
  refine pc_if (fun c => w1 pl_give (.inl (by omega)) (by unfold LST; omega)) (fun _ => ?_)
  iterate 7 refine pc_if (fun c => j213 (by omega)) (fun _ => ?_)
  refine pc_if (fun c => pc_xl (fun v _ => w2 pl_give (by unfold TWO; omega) (by unfold LST; omega))) (fun _ => ?_)
  refine pc_if (fun c => pc_se (fun u _ => w2 pl_give (by unfold TWO; omega) (by unfold LST; omega))) (fun _ => ?_)
  iterate 4 refine pc_if (fun c => j247 (by omega)) (fun _ => ?_)
  refine pc_if (fun c => pc_sv pl_pop (fun u M => w1 (pc_imp pl_goOn (fun g W => mvw_l M W)) (.inr (by unfold BAR; omega)) (by unfold LST; omega))) (fun _ => ?_)
  refine pc_if (fun c => pc_sv pl_pop (fun u M => pc_sv pl_push (fun u2 M2 => w1 (pc_imp pl_give (fun g W => mvw_l (mv0_tr M M2) W)) (.inr (by unfold BAR; omega)) (by unfold LST; omega)))) (fun _ => ?_)
  refine pc_if (fun c => pc_sv pl_pop (fun u M => pc_xl (fun v _ => w1 (pc_imp pl_give (fun g W => mvw_l M W)) (.inr (by unfold BAR; omega)) (by unfold LST; omega)))) (fun _ => ?_)
  refine pc_sv pv_jump (fun u20 e20 => pc_if (fun c20 => ?_) (fun c20 => ?_))
  · have nj : ¬ JMP o := by
      rcases e20 with q | q
      · omega
      · exact q.2
    refine pc_sv pv_arith (fun u21 e21 => pc_if (fun c21 => ?_) (fun c21 => ?_))
    · refine w0 (st_obj S F ho nj ?_)
      rcases e21 with q | q
      · omega
      · exact q.2
    · have ya : ARI o := by
        rcases e21 with q | q
        · exact q.2
        · exact absurd q.1 c21
      exact w1 pl_arith (.inr (by unfold BAR; simp only [ya, or_true])) (by unfold ARI at ya; unfold LST; omega)
  · have yj : JMP o := by
      rcases e20 with q | q
      · exact q.2
      · exact absurd q.1 c20
    refine w0 (pc_imp (pl_jump V) (fun g Q _ => ?_))
    rcases Q with ⟨W, c⟩ | W
    · refine frs_w S F W (by rw [← ho]; exact .inr (.inl ⟨rfl, yj⟩)) ?_
      rw [← ho]; unfold JMP at yj; unfold LST; omega
    · rw [e8] at W
      exact frs_j S F W (by rw [← ho]; exact yj)
/-- handlers are few -/
def H20 (h : ms_M) : Prop := ∀ k : Nat, k < 8 → ∀ m : Int, mo h (h 60 k).toNat m 7 ≤ 20
theorem h20_q (S : STC h) (F : SPF h g) (H : H20 h) : H20 g := fun k hk m => by
  rw [F.1, mo_q (F.2.2 _ (S.2.2.1 k hk).2)]; exact H k hk m
theorem pl_giveX {v w : Int} : Pc (qf_X5_give nn v w h) (fun g => MVW h g w ∧ g 149 (h 143 17).toNat = oq_add (h 149 (h 143 17).toNat) w) := by
  unfold qf_X5_give
  refine pc_sv pl_push (fun u M => pc_sv pl_goOnX (fun u4 W => pc_ret ⟨mvw_l M W.1, ?_⟩))
  have := W.2
  rw [M.2.2.2.1.2.1, M.2.2.2.2] at this; exact this
/-- the uppermost method has been taken -/
def TPd (h : ms_M) : Prop := (1 ≤ h 143 6 ∧ h 143 6 ≤ 60) ∧ h 143 17 = h 143 6 - 1 ∧ NVa h (h 148 (h 143 6 - 1).toNat) ∧ (h 143 18).toNat = bN h (h 148 (h 143 6 - 1).toNat) ∧ h 143 19 = mo h (bN h (h 148 (h 143 6 - 1).toNat)) (h 148 (h 143 6 - 1).toNat % 12) 6 ∧ ∀ i : Nat, (i : Int) < h 143 6 - 1 → LOk h i
theorem ic_27 (S : STC h) (H : H20 h) (T : TPd h) {l1 : Int} : ∀ (k : Nat) (l3 x : Int), 0 ≤ x → (∀ y, oq_add l3 y = oq_add (oq_add (mo h (h 143 18).toNat (h 148 (h 143 6 - 1).toNat % 12) 8) (oq_mul x 7)) y) → Pc (qw_X5_isCaught_27 nn k l1 (h 148 (h 143 6 - 1).toNat % 12) l3 x h) (fun r => (r.1 = 0 ∧ r.2 = h) ∨ (¬ r.1 = 0 ∧ STC r.2 ∧ FRS r.2)) := by
  obtain ⟨d1, d2, d3, d4, d5, d6⟩ := T
  have c3 := S.2.2.2
  have V : VBb h (h 143 18).toNat := by rw [d4]; exact nva_vb S d3
  have h7 : mo h (h 143 18).toNat (h 148 (h 143 6 - 1).toNat % 12) 7 ≤ 20 := by
    rw [d4]; exact H (h 148 (h 143 6 - 1).toNat / 12).toNat (by have := d3.1; have := d3.2; omega) _
  intro k
  induction k with
  | zero => intro l3 x r0 e; exact pc_none
  | succ k ih =>
    intro l3 x r0 e
    have nx : x < 20 → Pc (xl (oq_add l3 7) fun v1 => xl (oq_add x 1) fun v2 => qw_X5_isCaught_27 nn k l1 (h 148 (h 143 6 - 1).toNat % 12) v1 v2 h) (fun r => (r.1 = 0 ∧ r.2 = h) ∨ (¬ r.1 = 0 ∧ STC r.2 ∧ FRS r.2)) := by
      intro hx
      refine pc_xl (fun v1 e1 => pc_add (by omega) (fun v2 e2 => ih v1 v2 (by omega) (fun y => ?_)))
      rw [e1, e 7, oq_as (b := oq_mul x 7), e2, oq_mul_eq (by omega) (by omega) (by omega), oq_mul_eq (by omega) (by omega) (by omega), oq_add_eq (x := x * 7) (by omega) (by omega) (by omega), show x * 7 + 7 = (x + 1) * 7 by omega]
    have j89 : ∀ s0 : Int, x < mo h (h 143 18).toNat (h 148 (h 143 6 - 1).toNat % 12) 7 → Pc (qj_X5_isCaught_89 nn (qw_X5_isCaught_27 nn k) l1 (h 148 (h 143 6 - 1).toNat % 12) l3 x s0 h) (fun r => (r.1 = 0 ∧ r.2 = h) ∨ (¬ r.1 = 0 ∧ STC r.2 ∧ FRS r.2)) := by
      intro s0 hx
      unfold qj_X5_isCaught_89
      refine pc_if (fun _ => nx (by omega)) (fun _ => ?_)
      refine pc_rA (fun _ _ v6 _ => pc_ck (fun _ => pc_xl (fun v8 _ => pc_ck (fun _ => pc_se (fun u10 _ => pc_se (fun u12 _ => pc_se (fun u14 _ => ?_)))))))
      refine pc_if (fun _ => nx (by omega)) (fun _ => ?_)
      refine pc_wA (fun _ _ h19 e19 => ?_)
      have M : MV0 h h19 := by rw [e19]; exact mv0_up rfl (by omega) (by omega)
      obtain ⟨m6, m17, m18, m19⟩ := M.2.2.2.1
      refine pc_ck (fun _ => pc_xl (fun v21 e21 => pc_ck (fun _ => pc_sv pv_pair (fun u23 e23 => pc_rA (fun _ _ v26 e26 => pc_xl (fun v27 e27 => ?_))))))
      rw [m18, pr2_q (M.1.2.2 _ V), e21, e] at e23
      have e23 : u23 = HDv h (h 143 18).toNat (h 148 (h 143 6 - 1).toNat % 12) x := e23
      refine pc_sv pl_giveX (fun u29 W => pc_ret (.inr ⟨show ¬ (1 : Int) = 0 by decide, ?_⟩))
      obtain ⟨W, We⟩ := W
      rw [e27, ← e26] at We
      have hm : ¬ h (bN h (h 148 (h 143 6 - 1).toNat)) 12 ≤ h 148 (h 143 6 - 1).toNat % 12 := by
        intro q
        rw [d4] at hx
        unfold mo at hx
        rw [if_neg (by have := d3.1; omega), if_pos q] at hx
        omega
      obtain ⟨B, G⟩ := S.1.1 (h 148 (h 143 6 - 1).toNat / 12).toNat (by have := d3.1; have := d3.2; omega) (h 148 (h 143 6 - 1).toNat % 12) (by have := d3.1; omega) (by show _ < h (bN h (h 148 (h 143 6 - 1).toNat)) 12; omega)
      have b : B u23 := by
        rw [e23, d4]
        exact G.a x r0 (by rw [d4] at hx; exact hx)
      have rr := G.r _ b
      rw [oq_back (by omega), m17] at We
      have MY := mvw_l M W
      obtain ⟨y6, y17, y18, y19⟩ := MY.2.2.2.1
      show STC u29 ∧ FRS u29
      refine frs_mk (d := h 143 6) S MY.1 MY.2.1 MY.2.2.1 y6 d1 (y17.trans d2) d3 (by rw [y18]; exact d4) (by rw [y19]; exact d5) (.inl ?_) (fun i hi => ⟨d6 i hi, ?_⟩)
      · rw [d2] at We
        rw [We]; exact ⟨B, G, b⟩
      · exact (MY.2.2.2.2 i).resolve_right (by omega)
    have j88 : x < mo h (h 143 18).toNat (h 148 (h 143 6 - 1).toNat % 12) 7 → Pc (qj_X5_isCaught_88 nn (qw_X5_isCaught_27 nn k) l1 (h 148 (h 143 6 - 1).toNat % 12) l3 x h) (fun r => (r.1 = 0 ∧ r.2 = h) ∨ (¬ r.1 = 0 ∧ STC r.2 ∧ FRS r.2)) := fun hx => j89 0 hx
    unfold qw_X5_isCaught_27
    refine pc_ck (fun _ => pc_ck (fun _ => pc_sv pv_mo (fun u34 e34 => ?_)))
    refine pc_if (fun _ => pc_ret (.inl ⟨rfl, rfl⟩)) (fun c => ?_)
    have hx : x < mo h (h 143 18).toNat (h 148 (h 143 6 - 1).toNat % 12) 7 := by omega
    refine pc_rA (fun _ _ v37 _ => pc_ck (fun _ => pc_se (fun u40 _ => ?_)))
    refine pc_if (fun _ => j88 hx) (fun _ => ?_)
    refine pc_rA (fun _ _ v43 _ => pc_ck (fun _ => pc_xl (fun v45 _ => pc_se (fun u47 _ => ?_))))
    exact pc_if (fun _ => j88 hx) (fun _ => j89 1 hx)
theorem ic_all (S : STC h) (H : H20 h) (T : TPd h) {l1 : Int} : Pc (qf_X5_isCaught nn l1 h) (fun r => (r.1 = 0 ∧ r.2 = h) ∨ (¬ r.1 = 0 ∧ STC r.2 ∧ FRS r.2)) := by
  unfold qf_X5_isCaught
  refine pc_rA (fun _ _ v53 e53 => pc_xl (fun v54 e54 => pc_ck (fun _ => pc_ck (fun _ => pc_sv pv_mo (fun u57 e57 => ?_)))))
  rw [T.2.1] at e53
  rw [e53, Int.tmod_eq_emod_of_nonneg T.2.2.1.1] at e54
  rw [e54]
  rw [e54] at e57
  refine ic_27 S H T nn u57 0 (by omega) (fun y => ?_)
  rw [e57, show oq_mul 0 7 = 0 from rfl]
  show (Int32.ofInt _ + Int32.ofInt y).toInt = (Int32.ofInt (Int32.ofInt _ + 0).toInt + Int32.ofInt y).toInt
  rw [Int32.ofInt_toInt, Int32.add_zero]
/-- every begun method is one of the space's -/
def THI (h : ms_M) : Prop := (0 ≤ h 143 6 ∧ h 143 6 ≤ 60) ∧ (∀ i : Nat, (i : Int) < h 143 6 → NVa h (h 148 i)) ∧ ∀ i : Nat, (i : Int) < h 143 6 - 1 → LOk h i
theorem th_17 {l1 : Int} : ∀ (k : Nat) (l2 : Int) {h : ms_M}, STC h → H20 h → THI h → 0 ≤ l2 → Pc (qw_X5_throwUp_17 nn k l1 l2 h) (fun g => g 143 1 = 1 → STC g ∧ FRS g) := by
  intro k
  induction k with
  | zero => intro l2 h S H T r2; exact pc_none
  | succ k ih =>
    intro l2 h S H T r2
    obtain ⟨d1, d2, d3⟩ := T
    have fin : Pc (qj_X5_throwUp_59 nn l1 h) (fun g => g 143 1 = 1 → STC g ∧ FRS g) := by
      unfold qj_X5_throwUp_59
      refine pc_xl (fun h1 e1 => pc_rA (fun _ _ v3 _ => pc_xl (fun h4 e4 => pc_ret (fun q => ?_))))
      rw [e4, up_n (by omega), e1, up_s] at q; omega
    unfold qw_X5_throwUp_17
    refine pc_if (fun _ => fin) (fun c => pc_if (fun _ => fin) (fun c2 => ?_))
    refine pc_sv (pl_top S (by omega)) (fun u7 T7 => ?_)
    obtain ⟨t1, t2, t3, t4, t5, t6, t7, t8, t9⟩ := T7
    have N := d2 (h 143 6 - 1).toNat (by omega)
    obtain ⟨t7, t7'⟩ := t7 N
    have S7 := stc_q t1 t2 S
    have H7 := h20_q S t1 H
    have L7 : ∀ i : Nat, (i : Int) < h 143 6 - 1 → LOk u7 i := fun i hi => by
      have L := d3 i hi
      refine ⟨by rw [t3]; exact nva_q t1 L.1, ?_⟩
      rw [t3, t4]; exact pgo_q S L.1 t1 L.2
    have T : TPd u7 := by
      refine ⟨by omega, by rw [t6, t5], ?_, ?_, ?_, fun i hi => L7 i (by omega)⟩
      · rw [t5, t3]; exact nva_q t1 N
      · rw [t5, t3, bN_q t1]; exact t7
      · rw [t5, t3, bN_q t1, mo_q (t1.2.2 _ (nva_vb S N))]; exact t7'
    refine pc_sv (ic_all S7 H7 T) (fun u9 Q => ?_)
    refine pc_if (fun z => ?_) (fun z => pc_ret (fun _ => ?_))
    · have e9 : u9.2 = u7 := by
        rcases Q with q | q
        · exact q.2
        · exact absurd z q.1
      rw [e9]
      refine pc_xl (fun v11 e11 => pc_xl (fun h12 e12 => pc_add (by omega) (fun v13 e13 => ?_)))
      rw [t5, oq_sub_eq (by omega) (by omega) (by omega)] at e11
      have d12 : h12 143 6 = h 143 6 - 1 := by rw [e12, up_s]; exact e11
      have n12 : ∀ c k, ¬ (c = 143 ∧ k = 6) → h12 c k = u7 c k := fun c k q => by rw [e12]; exact up_n q
      have F12 : SPF u7 h12 := by rw [e12]; exact spf_up rfl (by omega)
      refine ih v13 (stc_q F12 (fun k => n12 _ _ (by omega)) S7) (h20_q S7 F12 H7) ⟨by omega, fun i hi => ?_, fun i hi => ?_⟩ (by omega)
      · rw [n12 _ _ (by omega), t3]
        exact nva_q F12 (nva_q t1 (d2 i (by omega)))
      · have L := L7 i (by omega)
        refine ⟨by rw [n12 _ _ (by omega)]; exact nva_q F12 L.1, ?_⟩
        rw [n12 _ _ (by omega), n12 _ _ (by omega)]; exact pgo_q S7 L.1 F12 L.2
    · rcases Q with q | q
      · exact absurd q.1 z
      · exact q.2
theorem th_all {l1 : Int} (S : STC h) (H : H20 h) (F : FRS h) : Pc (qf_X5_throwUp nn l1 h) (fun g => g 143 1 = 1 → STC g ∧ FRS g) := by
  unfold qf_X5_throwUp
  refine pc_se (fun u _ => pc_if (fun _ => ?_) (fun _ => pc_xl (fun z e => pc_ret (fun q => absurd q (by rw [e, up_s]; decide)))))
  refine th_17 nn 0 S H ⟨by have := F.1; omega, fun i hi => ?_, F.2.2.2⟩ (by omega)
  by_cases q : (i : Int) < h 143 6 - 1
  · exact (F.2.2.2 i q).1
  · rw [show i = (h 143 6 - 1).toNat by omega]; exact F.2.2.1.1
end
end
section
/- THE RUN OF THE CLASS IS SAFE -/
section
variable {nn : Nat} {h g z X : ms_M}
theorem ns_push {v : Int} : Pc (qf_X5_push nn v h) (fun g => g 143 1 = 1 → h 143 1 = 1) := by
  unfold qf_X5_push
  refine pc_rA (fun _ _ v3 _ => pc_if (fun _ => ?_) (fun _ => pc_xl (fun z e => pc_ret (fun q => absurd q (by rw [e, up_s]; decide)))))
  refine pc_xl (fun v6 _ => pc_xl (fun v7 _ => pc_wA (fun _ _ h8 e8 => pc_xl (fun v11 _ => pc_wA (fun _ _ h12 e12 => pc_ret (fun q => ?_))))))
  rw [e12, up_n (by omega), e8, up_n (by omega)] at q; exact q
theorem ns_give {v w : Int} : Pc (qf_X5_give nn v w h) (fun g => g 143 1 = 1 → h 143 1 = 1) := by
  unfold qf_X5_give
  refine pc_sv ns_push (fun u N => pc_se (fun u4 e4 => pc_ret (fun q => N ?_)))
  rw [show u4 143 1 = u 143 1 from (ff_X5_goOn nn) _ e4 143 1 rfl] at q; exact q
theorem ns_top : Pc (qf_X5_takeTop nn h) (fun g => g 143 1 = 1 → h 143 1 = 1) := by
  unfold qf_X5_takeTop
  refine pc_xl (fun v2 _ => pc_xl (fun v3 _ => pc_xl (fun h4 e4 => pc_rA (fun _ _ v8 _ => pc_se (fun u10 _ => ?_)))))
  refine pc_if (fun _ => pc_xl (fun z e => pc_ret (fun q => absurd q (by rw [e, up_s]; decide)))) (fun _ => ?_)
  intro r e q
  unfold wr_R at e
  split at e
  · obtain ⟨-, e⟩ := ck_i e
    have e := rd_i e
    rw [xl_eq] at e
    obtain ⟨-, e⟩ := ck_i e
    obtain ⟨u, -, e⟩ := sv_i e
    rw [xl_eq] at e
    have e := Option.some.inj e
    rw [← e, up_n (by omega), up_n (by omega), e4, up_n (by omega)] at q
    exact q
  · cases e
theorem ns_ic {l1 l2 : Int} : ∀ (k : Nat) (l3 l4 : Int), Pc (qw_X5_isCaught_27 nn k l1 l2 l3 l4 h) (fun r => r.2 143 1 = 1 → h 143 1 = 1) := by
  intro k
  induction k with
  | zero => intro l3 l4; exact pc_none
  | succ k ih =>
    intro l3 l4
    have j89 : ∀ s0 : Int, Pc (qj_X5_isCaught_89 nn (qw_X5_isCaught_27 nn k) l1 l2 l3 l4 s0 h) (fun r => r.2 143 1 = 1 → h 143 1 = 1) := by
      intro s0
      unfold qj_X5_isCaught_89
      refine pc_if (fun _ => pc_xl (fun _ _ => pc_xl (fun _ _ => ih _ _))) (fun _ => ?_)
      refine pc_rA (fun _ _ v6 _ => pc_ck (fun _ => pc_xl (fun v8 _ => pc_ck (fun _ => pc_se (fun u10 _ => pc_se (fun u12 _ => pc_se (fun u14 _ => ?_)))))))
      refine pc_if (fun _ => pc_xl (fun _ _ => pc_xl (fun _ _ => ih _ _))) (fun _ => ?_)
      refine pc_wA (fun _ _ h19 e19 => pc_ck (fun _ => pc_xl (fun v21 _ => pc_ck (fun _ => pc_se (fun u23 _ => pc_rA (fun _ _ v26 _ => pc_xl (fun v27 _ => pc_sv ns_give (fun u29 N => pc_ret (fun q => ?_)))))))))
      have := N q
      rw [e19, up_n (by omega)] at this; exact this
    unfold qw_X5_isCaught_27 qj_X5_isCaught_88
    refine pc_ck (fun _ => pc_ck (fun _ => pc_se (fun u34 _ => ?_)))
    refine pc_if (fun _ => pc_ret (fun q => q)) (fun c => ?_)
    refine pc_rA (fun _ _ v37 _ => pc_ck (fun _ => pc_se (fun u40 _ => ?_)))
    refine pc_if (fun _ => j89 0) (fun _ => ?_)
    refine pc_rA (fun _ _ v43 _ => pc_ck (fun _ => pc_xl (fun v45 _ => pc_se (fun u47 _ => ?_))))
    exact pc_if (fun _ => j89 0) (fun _ => j89 1)
theorem ns_17 {l1 : Int} : ∀ (k : Nat) (l2 : Int) {h : ms_M}, Pc (qw_X5_throwUp_17 nn k l1 l2 h) (fun g => g 143 1 = 1 → h 143 1 = 1) := by
  intro k
  induction k with
  | zero => intro l2 h; exact pc_none
  | succ k ih =>
    intro l2 h
    have fin : Pc (qj_X5_throwUp_59 nn l1 h) (fun g => g 143 1 = 1 → h 143 1 = 1) := by
      unfold qj_X5_throwUp_59
      refine pc_xl (fun h1 e1 => pc_rA (fun _ _ v3 _ => pc_xl (fun h4 e4 => pc_ret (fun q => ?_))))
      rw [e4, up_n (by omega), e1, up_s] at q; omega
    unfold qw_X5_throwUp_17
    refine pc_if (fun _ => fin) (fun c => pc_if (fun _ => fin) (fun c2 => ?_))
    refine pc_sv ns_top (fun u7 N7 => pc_se (fun u9 e9 => ?_))
    have N9 : u9.2 143 1 = 1 → u7 143 1 = 1 := by
      unfold qf_X5_isCaught at e9
      have e9 := rd_i e9
      rw [xl_eq] at e9
      obtain ⟨-, e9⟩ := ck_i e9
      obtain ⟨-, e9⟩ := ck_i e9
      obtain ⟨u57, -, e9⟩ := sv_i e9
      exact ns_ic nn _ _ _ e9
    refine pc_if (fun z => ?_) (fun z => pc_ret (fun q => N7 (N9 q)))
    refine pc_xl (fun v11 _ => pc_xl (fun h12 e12 => pc_xl (fun v13 _ => pc_imp (ih _) (fun g Q q => N7 (N9 ?_)))))
    have := Q q
    rw [e12, up_n (by omega)] at this; exact this
theorem ns_throw {l1 : Int} : Pc (qf_X5_throwUp nn l1 h) (fun g => g 143 1 = 1 → h 143 1 = 1) := by
  unfold qf_X5_throwUp
  exact pc_se (fun u _ => pc_if (fun _ => ns_17 nn 0) (fun _ => pc_xl (fun z e => pc_ret (fun q => absurd q (by rw [e, up_s]; decide)))))
/-- a run that is going on is a good one -/
def WMa (h : ms_M) : Prop := h 143 1 = 1 → STC h ∧ FRS h
theorem h20_of (V : VS_ h) (S : SI_ h) : H20 h := fun k hk m => mo7_le V (V.2.2.2.2.1 k hk).2 (S.1 k hk)
theorem wma_mv (W : WMa h) (M : MV0 h g) (e : g 143 1 = h 143 1) : WMa g := fun q => by
  rw [e] at q
  obtain ⟨S, F⟩ := W q
  exact frs_0 S F M
theorem wma_tn {w1 : WMa h} (H : h 143 1 = 1 → H20 h) (T : TN2_ nn h g) : WMa g := by
  rcases T with ⟨-, e⟩ | ⟨-, w, ew, e⟩
  · rw [e]
    exact wma_mv w1 mv_thr (up_n (by omega))
  · intro q
    rw [e, up_n (by omega)] at q
    have n := ns_throw _ ew q
    obtain ⟨S, F⟩ := w1 n
    obtain ⟨S2, F2⟩ := th_all S (H n) F _ ew q
    rw [e]
    exact frs_0 S2 F2 mv_thr
theorem wma_w2 {h g : ms_M} (V : VS_ h) (I : SI_ h) (W : WMa h) (st : h 143 1 = 1) (T : TN_ nn h g) : WMa g := by
  obtain ⟨S, F⟩ := W st
  have H := h20_of V I
  obtain ⟨u, eu, T⟩ := T
  have Wu : WMa u := st_all S F _ eu
  have Fu : SPF h u := spf_fr (fun c k w => (ff_X5_step nn) _ eu c k w) rfl
  have Hu := h20_q S Fu H
  rcases T with ⟨-, T⟩ | ⟨-, w, ew, T⟩
  · exact wma_tn (w1 := Wu) (fun _ => Hu) T
  · have M : MV0 u w.2 := pl_make _ ew
    have Ww : WMa w.2 := fun q => by
      have := mk_st ew
      obtain ⟨S2, F2⟩ := Wu (by omega)
      exact frs_0 S2 F2 M
    refine wma_tn (w1 := wma_mv Ww mv_thr (up_n (by omega))) (fun q => ?_) T
    rw [up_n (by omega)] at q
    have := mk_st ew
    obtain ⟨S2, F2⟩ := Wu (by omega)
    exact h20_q S2 (spf_tr M.1 mv_thr.1) Hu
theorem wma_w1 (W : WMa h) (st : h 143 1 = 1) : LKs_ nn h := by
  obtain ⟨S, F⟩ := W st
  intro p a ep ea ho u eu
  have c3 := S.2.2.2
  have ep : p = OPt h := pv_byte _ ep
  have ea := pv_byte _ ea
  have N := F.2.2.1.1
  have t2 := F.2.2.1.2.1
  have t3 := F.2.2.1.2.2.1
  rw [← F.2.1] at N t2 t3
  rcases opt_c S F with ⟨B, G, b, e⟩ | e
  · have r := G.r _ b
    have K := G.c _ b (by rw [← e, ← ep]; exact ho)
    have ea : a = ocb h (bN h (h 148 (h 143 17).toNat)) (h 148 (h 143 17).toNat % 12) (h 149 (h 143 17).toNat + 1) := by
      rw [ea]
      unfold ocb
      rw [t2, t3, oq_as, oq_add_eq (x := h 149 (h 143 17).toNat) (by omega) (by omega) (by omega)]
    rw [← ea] at K
    have tr := tg_r K.1
    have L := S.1.2 (h 148 (h 143 17).toNat / 12).toNat a (.inl (by have := N.1; have := N.2; omega)) K
    unfold qf_X5_link at eu
    have eu := rd_i eu
    rw [xl_eq] at eu
    obtain ⟨v, ev, eu⟩ := sv_i eu
    cases eu
    rw [Int.tdiv_eq_ediv_of_nonneg N.1] at ev
    unfold qf_X7_link at ev
    rw [if_neg (by have := N.1; omega), if_neg (by have := N.2; omega), if_neg (by omega), if_neg (by omega), xl_eq, xl_eq, oq_mul_eq (by have := N.1; have := N.2; omega) (by omega) (by have := N.1; have := N.2; omega), oq_add_eq (by have := N.1; have := N.2; omega) (by omega) (by have := N.1; have := N.2; omega)] at ev
    have ev := rd_i ev
    cases ev
    rw [show h 148 (h 143 17).toNat / 12 * 256 + a = ((h 148 (h 143 17).toNat / 12).toNat : Int) * 256 + a by have := N.1; omega]
    exact L
  · omega
/-- run is safe and keeps a good run -/
theorem cl_run (hn : 1000000 ≤ nn) {a1 p Z : Int} (C : CI_ p h) (w : WMa h) (hz : p + 20000 ≤ Z) (hZ : Z ≤ 1900000000) : Ok_ (qf_X12_run nn a1 h) (fun r => CI_ Z r.2 ∧ WMa r.2) :=
  ci_run hn (fun h W st => wma_w1 W st) (fun h g V I W st T => wma_w2 V I W st T) (fun h v W => wma_mv W (mv0_up rfl (by omega) (by omega)) (up_n (by omega))) C w hz hZ
/-- start begins a good run -/
theorem cl_start {a1 a2 : Int} (V : VS_ h) (W : WMa h) (hv : ¬ h 56 4 = 0 → STC h) : Pc (qf_X12_start nn a1 a2 h) (fun r => SPF h r.2 ∧ (∀ k, r.2 68 k = h 68 k) ∧ r.2 56 4 = h 56 4 ∧ WMa r.2) := by
  unfold qf_X12_start
  have same : Pc (some ((0 : Int), h)) (fun r : Int × ms_M => SPF h r.2 ∧ (∀ k, r.2 68 k = h 68 k) ∧ r.2 56 4 = h 56 4 ∧ WMa r.2) := pc_ret ⟨spf_refl, fun _ => rfl, rfl, W⟩
  refine pc_se (fun u3 _ => ?_)
  refine pc_if (fun _ => same) (fun c => pc_if (fun _ => same) (fun c2 => pc_if (fun _ => same) (fun c3 => pc_ck (fun _ => ?_))))
  refine pc_if (fun c4 => ?_) (fun _ => same)
  refine pc_se (fun u10 _ => pc_if (fun _ => same) (fun _ => pc_se (fun u12 _ => pc_if (fun _ => ?_) (fun _ => same))))
  have S := hv c
  refine pc_se (fun u15 e15 => pc_ret ?_)
  have FF : SPF h u15 := spf_fr (fun c k w => (ff_X5_beginRun nn) _ e15 c k w) rfl
  have LL : ∀ k, u15 68 k = h 68 k := fun k => (ff_X5_beginRun nn) _ e15 68 k (nw_ar rfl k)
  refine ⟨FF, LL, (ff_X5_beginRun nn) _ e15 56 4 rfl, ?_⟩
  show WMa u15
  unfold qf_X5_beginRun at e15
  obtain ⟨u2, e2, e15⟩ := sv_i e15
  rw [xl_eq, xl_eq, xl_eq, xl_eq] at e15
  obtain ⟨u8, e8, e15⟩ := sv_i e15
  cases e15
  have F2 : SPF h u2 := spf_fr (fun c k w => (ff_X5_forget nn) _ e2 c k w) rfl
  have L2 : ∀ k, u2 68 k = h 68 k := fun k => (ff_X5_forget nn) _ e2 68 k (nw_ar rfl k)
  have F3 : SPF u2 (up_M u2 143 1 1) := spf_up rfl (by omega)
  have d2 : u2 143 6 = 0 := by
    unfold qf_X5_forget at e2
    rw [xl_eq, xl_eq, xl_eq, xl_eq, xl_eq, xl_eq, xl_eq] at e2
    have e2 := Option.some.inj e2
    rw [← e2, up_n (by omega), up_s]
  have d3 : up_M u2 143 1 1 143 6 = 0 := by rw [up_n (by omega)]; exact d2
  exact pl_begin (stc_q (spf_tr F2 F3) (fun k => by rw [up_n (by omega)]; exact L2 k) S) (by omega) (fun i hi => by omega) _ e8
end
end
section
/- AN IMAGE THAT WAS READ WITHOUT FORM BEGINS WITH 74 -/
section
variable {nn b : Nat} {h g z : ms_M}
/-- FORM that is told stays told -/
def FO3 (b : Nat) (h g : ms_M) : Prop := g b 3 = -1 → h b 3 = -1
theorem f3_bad {a : Int} : Pc (qf_X3_bad nn b a h) (fun g => FO3 b h g) := fun r e => (st_bad e).1
theorem f3_next : Pc (qf_X3_next nn b h) (fun r => FO3 b h r.2) := fun r e => (st_next e).1
theorem f3_upTo {lo hi : Int} : Pc (qf_X3_nextUpTo nn b lo hi h) (fun r => FO3 b h r.2) := fun r e => (st_nextUpTo e).1
theorem f3_name : Pc (qf_X3_nextName nn b h) (fun r => FO3 b h r.2) := fun r e => (st_nextName e).1
theorem f3_up {c k : Nat} {v : Int} (hc : c ≠ b ∨ k ≠ 3) : FO3 b h (up_M h c k v) := fun z => by
  rw [up_n (by omega)] at z; exact z
theorem f3_tr (A : FO3 b h g) (B : FO3 b g z) : FO3 b h z := fun q => A (B q)
theorem f3_e {c k : Nat} {v : Int} (A : FO3 b h g) (e : z = up_M g c k v) (hc : c ≠ b ∨ k ≠ 3) : FO3 b h z := f3_tr A (by rw [e]; exact f3_up hc)
theorem f3_plain : Pc (qf_X3_nextPlainClass nn b h) (fun r => FO3 b h r.2) := by
  have j : ∀ {z : ms_M} (a : Int), FO3 b h z → Pc (qj_X3_nextPlainClass_29 nn b a z) (fun r => FO3 b h r.2) := fun a F => by
    unfold qj_X3_nextPlainClass_29
    exact pc_xl (fun _ _ => pc_sv f3_bad (fun u B => pc_ret (f3_tr F B)))
  unfold qf_X3_nextPlainClass
  refine pc_sv f3_next (fun u6 F => pc_se (fun u8 _ => pc_se (fun u10 _ => ?_)))
  exact pc_if (fun _ => j _ F) (fun _ => pc_se (fun u12 _ => pc_if (fun _ => pc_ret F) (fun _ => j _ F)))
theorem f3_check {a : Int} : Pc (qf_X3_checkConstant nn b a h) (fun r => FO3 b h r) := by
  have j109 : ∀ {z : ms_M} (x y : Int), FO3 b h z → Pc (qj_X3_checkConstant_109 nn b x y z) (fun r => FO3 b h r) := fun x y F => by
    unfold qj_X3_checkConstant_109
    exact pc_se (fun _ _ => pc_if (fun _ => pc_ret F) (fun _ => pc_se (fun _ _ => pc_if (fun _ => pc_ret F) (fun _ => pc_xl (fun _ _ => pc_sv f3_bad (fun u B => pc_ret (f3_tr F B)))))))
  have j89 : ∀ {z : ms_M} (x y w : Int), FO3 b h z → Pc (qj_X3_checkConstant_89 nn b x y w z) (fun r => FO3 b h r) := fun x y w F => by
    unfold qj_X3_checkConstant_89
    exact pc_se (fun _ _ => pc_se (fun _ _ => pc_if (fun _ => j109 _ _ F) (fun _ => pc_xl (fun _ _ => pc_sv f3_bad (fun u B => j109 _ _ (f3_tr F B))))))
  have j53 : ∀ {z : ms_M} (x y : Int), FO3 b h z → Pc (qj_X3_checkConstant_53 nn b x y z) (fun r => FO3 b h r) := fun x y F => by
    unfold qj_X3_checkConstant_53
    refine pc_rA (fun _ _ _ _ => pc_if (fun _ => pc_ret F) (fun _ => pc_se (fun _ _ => pc_se (fun _ _ => pc_se (fun _ _ => ?_)))))
    exact pc_if (fun _ => j89 _ _ _ F) (fun _ => pc_sv f3_bad (fun u B => j89 _ _ _ (f3_tr F B)))
  have j48 : ∀ (x y : Int), Pc (qj_X3_checkConstant_48 nn b x y h) (fun r => FO3 b h r) := fun x y => by
    unfold qj_X3_checkConstant_48
    exact pc_sv f3_bad (fun u B => j53 _ _ B)
  unfold qf_X3_checkConstant
  refine pc_rA (fun _ _ _ _ => pc_rA (fun _ _ _ _ => pc_if (fun _ => j53 _ _ id) (fun _ => pc_se (fun _ _ => pc_se (fun _ _ => ?_)))))
  refine pc_if (fun _ => j53 _ _ id) (fun _ => pc_se (fun _ _ => pc_if (fun _ => j48 _ _) (fun _ => pc_se (fun _ _ => ?_))))
  exact pc_if (fun _ => j53 _ _ id) (fun _ => j48 _ _)
theorem f3_84 {l2 l3 : Int} : ∀ (k : Nat) (l4 : Int) {h : ms_M}, Pc (qw_X3_readConstant_84 nn k b l2 l3 l4 h) (fun r => FO3 b h r) := by
  intro k
  induction k with
  | zero => intro l4 h; exact pc_none
  | succ k ih =>
    intro l4 h
    unfold qw_X3_readConstant_84
    refine pc_if (fun _ => pc_ret id) (fun _ => pc_if (fun _ => pc_ret id) (fun _ => ?_))
    exact pc_if (fun _ => pc_sv f3_next (fun u F => pc_xl (fun _ _ => pc_imp (ih _) (fun r Q => f3_tr F Q)))) (fun _ => pc_sv f3_upTo (fun u F => pc_xl (fun _ _ => pc_imp (ih _) (fun r Q => f3_tr F Q))))
theorem f3_rc {a : Int} : Pc (qf_X3_readConstant nn b a h) (fun r => FO3 b h r) := by
  have j40 : ∀ {z : ms_M} (x y w : Int), FO3 b h z → Pc (qj_X3_readConstant_40 nn b x y w z) (fun r => FO3 b h r) := fun {z} x y w F => by
    unfold qj_X3_readConstant_40
    refine pc_wA (fun _ _ h12 e12 => pc_wA (fun _ _ h15 e15 => ?_))
    have F2 : FO3 b z h15 := f3_e (f3_e id e12 (by omega)) e15 (by omega)
    refine pc_if (fun _ => pc_wA (fun _ _ h18 e18 => pc_imp (f3_84 _ _) (fun r Q => f3_tr F (f3_tr F2 (f3_tr ?_ Q))))) (fun _ => pc_xl (fun _ _ => pc_wA (fun _ _ h18 e18 => pc_imp (f3_84 _ _) (fun r Q => f3_tr F (f3_tr F2 (f3_tr ?_ Q))))))
    · rw [e18]; exact f3_up (by omega)
    · rw [e18]; exact f3_up (by omega)
  have j26 : ∀ {z : ms_M} (x y w : Int), FO3 b h z → Pc (qj_X3_readConstant_26 nn b x y w z) (fun r => FO3 b h r) := fun x y w F => by
    unfold qj_X3_readConstant_26
    exact pc_if (fun _ => j40 _ _ _ F) (fun _ => pc_sv f3_upTo (fun u Q => j40 _ _ _ (f3_tr F Q)))
  unfold qf_X3_readConstant
  exact pc_sv f3_upTo (fun u F => pc_if (fun _ => pc_if (fun _ => j26 _ _ _ F) (fun _ => j26 _ _ _ F)) (fun _ => j26 _ _ _ F))
theorem f3_57 : ∀ (k : Nat) (l : Int) {h : ms_M}, Pc (qw_X3_readConstants_57 nn k b l h) (fun r => FO3 b h r) := by
  intro k
  induction k with
  | zero => intro l4 h; exact pc_none
  | succ k ih =>
    intro l4 h
    unfold qw_X3_readConstants_57
    exact pc_if (fun _ => pc_ret id) (fun _ => pc_if (fun _ => pc_ret id) (fun _ => pc_sv f3_check (fun u F => pc_xl (fun _ _ => pc_imp (ih _) (fun r Q => f3_tr F Q)))))
theorem f3_28 : ∀ (k : Nat) (l : Int) {h : ms_M}, Pc (qw_X3_readConstants_28 nn k b l h) (fun r => FO3 b h r) := by
  intro k
  induction k with
  | zero => intro l4 h; exact pc_none
  | succ k ih =>
    intro l4 h
    unfold qw_X3_readConstants_28
    exact pc_if (fun _ => f3_57 _ _) (fun _ => pc_if (fun _ => f3_57 _ _) (fun _ => pc_sv f3_rc (fun u F => pc_xl (fun _ _ => pc_imp (ih _) (fun r Q => f3_tr F Q)))))
theorem f3_10 {l1 : Int} : ∀ (k : Nat) (l : Int) {h : ms_M}, Pc (qw_X3_readFields_10 nn k b l1 l h) (fun r => FO3 b h r) := by
  intro k
  induction k with
  | zero => intro l4 h; exact pc_none
  | succ k ih =>
    intro l4 h
    have j : ∀ {z : ms_M} (x : Int), FO3 b h z → Pc (qj_X3_readFields_58 nn (qw_X3_readFields_10 nn k) b l1 l4 x z) (fun r => FO3 b h r) := fun {z} x F => by
      unfold qj_X3_readFields_58
      refine pc_xl (fun _ _ => pc_xl (fun _ _ => pc_wA (fun _ _ h4 e4 => pc_xl (fun _ _ => pc_xl (fun h7 e7 => pc_xl (fun _ _ => pc_imp (ih _) (fun r Q => f3_tr F (f3_tr ?_ Q))))))))
      exact f3_e (f3_e id e4 (by omega)) e7 (by omega)
    unfold qw_X3_readFields_10
    refine pc_if (fun _ => pc_ret id) (fun _ => pc_if (fun _ => pc_ret id) (fun _ => pc_xl (fun _ _ => pc_sv f3_name (fun u13 F13 => pc_wA (fun _ _ h14 e14 => pc_sv f3_next (fun u16 F16 => pc_se (fun _ _ => ?_)))))))
    have F : FO3 b h u16.2 := f3_tr F13 (f3_tr (by rw [e14]; exact f3_up (by omega)) F16)
    exact pc_if (fun _ => j _ F) (fun _ => pc_xl (fun _ _ => pc_sv f3_bad (fun u B => j _ (f3_tr F B))))
theorem f3_code {a : Int} : Pc (qf_X3_readCode nn b a h) (fun r => FO3 b h r) := by
  have j85 : ∀ {z : ms_M} (x : Int), FO3 b h z → Pc (qj_X3_readCode_85 nn b x z) (fun r => FO3 b h r) := fun x F => by
    unfold qj_X3_readCode_85
    exact pc_xl (fun _ _ => pc_xl (fun _ _ => pc_xl (fun h5 e5 => pc_ret (f3_tr F (by rw [e5]; exact f3_up (by omega))))))
  have j40 : ∀ {z : ms_M} (x : Int), FO3 b h z → Pc (qj_X3_readCode_40 nn b a x z) (fun r => FO3 b h r) := fun {z} x F => by
    unfold qj_X3_readCode_40
    refine pc_xl (fun _ _ => pc_wA (fun _ _ h8 e8 => pc_xl (fun _ _ => pc_wA (fun _ _ h12 e12 => pc_xl (fun _ _ => ?_)))))
    have F2 : FO3 b h h12 := f3_tr F (f3_e (f3_e id e8 (by omega)) e12 (by omega))
    exact pc_if (fun _ => j85 _ F2) (fun _ => pc_sv f3_bad (fun u B => j85 _ (f3_tr F2 B)))
  have j35 : ∀ {z : ms_M} (x y : Int), FO3 b h z → Pc (qj_X3_readCode_35 nn b a x y z) (fun r => FO3 b h r) := fun x y F => by
    unfold qj_X3_readCode_35
    exact pc_sv f3_bad (fun u B => j40 _ (f3_tr F B))
  unfold qf_X3_readCode
  refine pc_sv f3_next (fun u24 F24 => pc_xl (fun _ _ => pc_sv f3_next (fun u27 F27 => pc_xl (fun _ _ => ?_))))
  have F := f3_tr F24 F27
  exact pc_if (fun _ => j35 _ _ F) (fun _ => pc_if (fun _ => j40 _ F) (fun _ => j35 _ _ F))
theorem f3_hands {a : Int} : Pc (qf_X3_readHandlers nn b a h) (fun r => FO3 b h r) := by
  unfold qf_X3_readHandlers
  refine pc_sv f3_upTo (fun u10 F => pc_xl (fun _ _ => pc_wA (fun _ _ h13 e13 => pc_xl (fun _ _ => pc_wA (fun _ _ h17 e17 => fun r e => f3_tr F (f3_tr ?_ (st_rH33 _ _ _ e).1))))))
  exact f3_e (f3_e id e13 (by omega)) e17 (by omega)
theorem f3_frames {a : Int} : Pc (qf_X3_readFrames nn b a h) (fun r => FO3 b h r) := by
  unfold qf_X3_readFrames
  refine pc_sv f3_upTo (fun u10 F => pc_xl (fun _ _ => pc_wA (fun _ _ h13 e13 => pc_xl (fun _ _ => pc_wA (fun _ _ h17 e17 => fun r e => f3_tr F (f3_tr ?_ (st_rF33 _ _ _ e).1))))))
  exact f3_e (f3_e id e13 (by omega)) e17 (by omega)
theorem f3_method {a : Int} : Pc (qf_X3_readMethod nn b a h) (fun r => FO3 b h r) := by
  have j : ∀ {z : ms_M} (x y : Int), FO3 b h z → Pc (qj_X3_readMethod_52 nn b a x y z) (fun r => FO3 b h r) := fun {z} x y F => by
    unfold qj_X3_readMethod_52
    refine pc_xl (fun _ _ => pc_wA (fun _ _ h3 e3 => pc_xl (fun _ _ => pc_wA (fun _ _ h6 e6 => pc_xl (fun _ _ => pc_sv f3_upTo (fun u10 F10 => pc_wA (fun _ _ h11 e11 => ?_)))))))
    have F6 : FO3 b z h6 := f3_e (f3_e id e3 (by omega)) e6 (by omega)
    have F11 : FO3 b h h11 := f3_tr F (f3_tr F6 (f3_tr F10 (by rw [e11]; exact f3_up (by omega))))
    refine pc_xl (fun _ _ => pc_xl (fun _ _ => pc_xl (fun _ _ => pc_rA (fun _ _ _ _ => pc_xl (fun _ _ => pc_sv f3_upTo (fun u20 F20 => pc_wA (fun _ _ h21 e21 => ?_)))))))
    have F21 : FO3 b h h21 := f3_tr F11 (f3_tr F20 (by rw [e21]; exact f3_up (by omega)))
    exact pc_sv f3_code (fun u23 F23 => pc_sv f3_hands (fun u25 F25 => pc_sv f3_frames (fun u27 F27 => pc_ret (f3_tr F21 (f3_tr F23 (f3_tr F25 F27))))))
  unfold qf_X3_readMethod
  refine pc_xl (fun _ _ => pc_sv f3_upTo (fun u31 F31 => pc_wA (fun _ _ h32 e32 => pc_xl (fun _ _ => pc_sv f3_name (fun u36 F36 => pc_wA (fun _ _ h37 e37 => pc_sv f3_next (fun u39 F39 => pc_se (fun u41 _ => ?_))))))))
  have F : FO3 b h u39.2 := f3_tr F31 (f3_tr (by rw [e32]; exact f3_up (by omega)) (f3_tr F36 (f3_tr (by rw [e37]; exact f3_up (by omega)) F39)))
  exact pc_if (fun _ => j _ _ F) (fun _ => pc_xl (fun _ _ => pc_sv f3_bad (fun u B => j _ _ (f3_tr F B))))
theorem f3_70 {l3 : Int} : ∀ (k : Nat) (l : Int) {h : ms_M}, Pc (qw_X3_read_70 nn k b l3 l h) (fun r => r.1 = -1 → h b 3 = -1) := by
  intro k
  induction k with
  | zero => intro l h; exact pc_none
  | succ k ih =>
    intro l h
    have j : Pc (qj_X3_read_109 nn b h) (fun r => r.1 = -1 → h b 3 = -1) := by
      unfold qj_X3_read_109
      exact pc_if (fun _ => pc_ret (fun z => z)) (fun _ => pc_sv f3_bad (fun u B => pc_ret (fun z => B z)))
    unfold qw_X3_read_70
    refine pc_if (fun _ => j) (fun _ => pc_if (fun _ => j) (fun _ => pc_xl (fun _ _ => pc_sv f3_method (fun u12 F => pc_xl (fun _ _ => pc_xl (fun h15 e15 => pc_xl (fun _ _ => pc_imp (ih _) (fun r Q z => F ?_))))))))
    have := Q z
    rw [e15, up_n (by omega)] at this; exact this
/-- the first byte of an Image that has no FORM -/
theorem f3_first {h : ms_M} (h2 : h b 2 = 0) (h1 : 0 ≤ h b 1) (hr : (h b 0).toNat ≠ b) : Pc (qf_X3_nextUpTo nn b 74 74 h) (fun r => r.2 b 3 = -1 → bt h b 0 = 74) := by
  have j : ∀ {z : ms_M} (x : Int), z b 2 = 1 ∨ ¬ z b 3 = -1 → Pc (qj_X3_nextUpTo_15 nn b x z) (fun r => r.2 b 3 = -1 → bt h b 0 = 74) := by
    intro z x hz
    unfold qj_X3_nextUpTo_15 qf_X3_bad
    refine pc_xl (fun v2 e2 => pc_se (fun u4 e4 => pc_ret (fun q => ?_)))
    exfalso
    have q : u4 b 3 = -1 := q
    by_cases c : ¬ z b 3 = -1
    · rw [if_pos c] at e4
      cases e4; exact c q
    · rw [if_neg c, xl_eq] at e4
      have e4 := Option.some.inj e4
      rw [← e4, up_s] at q
      have hz := hz.resolve_right c
      rw [e2, hz, oq_sub_eq (by omega) (by omega) (by omega)] at q
      omega
  unfold qf_X3_nextUpTo
  refine pc_se (fun u6 e6 => ?_)
  have K : (u6.2 b 2 = 1 ∧ u6.1 = bt h b 0) ∨ ¬ u6.2 b 3 = -1 := by
    unfold qf_X3_next at e6
    rw [h2] at e6
    split at e6
    · left
      rw [xl_eq, xl_eq, oq_add_eq (by omega) (by omega) (by omega)] at e6
      obtain ⟨-, e6⟩ := ck_i e6
      rw [xl_eq, up_s, oq_sub_eq (by omega) (by omega) (by omega)] at e6
      unfold rd_T at e6
      split at e6
      · simp only [xl_v] at e6
        cases e6
        refine ⟨up_s, ?_⟩
        rename_i c1 c2
        unfold bt
        rw [if_neg (by omega), if_neg (by omega)]
        have k0 : up_M h b 2 (0 + 1) b 0 = h b 0 := up_n (by omega)
        show oq_and (up_M h b 2 (0 + 1) (up_M h b 2 (0 + 1) b 0).toNat _) 255 = _
        rw [k0, up_n (by rintro ⟨z, -⟩; exact hr z)]
        rfl
      · cases e6
    · right
      split at e6
      · rw [xl_eq] at e6; cases e6
        rename_i c
        show ¬ up_M h b 3 (h b 3) b 3 = -1
        rw [up_s]; exact c
      · rw [xl_eq] at e6; cases e6
        show ¬ up_M h b 3 (h b 1) b 3 = -1
        rw [up_s]; omega
  refine pc_if (fun _ => j _ (K.imp (fun q => q.1) id)) (fun c1 => pc_if (fun c2 => pc_ret (fun q => ?_)) (fun _ => j _ (K.imp (fun q => q.1) id)))
  rcases K with K | K
  · rw [← K.2]; omega
  · exact absurd q K
theorem pc_wR {α : Type} {Q : α → Prop} {M : ms_M} {c k : Nat} {y : Int} {G : ms_M → Option α} (q : ∀ z, z = up_M M c k y → Pc (G z) Q) : Pc (wr_R c k y M G) Q := by
  unfold wr_R
  exact pc_if (fun _ => q _ rfl) (fun _ => pc_none)
theorem pc_lS {α : Type} {Q : α → Prop} {M : ms_M} {c : Nat} {G : Int → Option α} (q : ∀ v, v = ln_I M c → Pc (G v) Q) : Pc (ln_S c M G) Q := by
  unfold ln_S
  exact pc_if (fun _ => q _ rfl) (fun _ => pc_none)
/-- the Image's bytes and size, and all outside it, stay -/
def KBi (b : Nat) (h g : ms_M) : Prop := g b 0 = h b 0 ∧ g b 1 = h b 1 ∧ ∀ c k, (c < b ∨ b + 6 < c) → g c k = h c k
theorem kbi_tr (A : KBi b h g) (B : KBi b g z) : KBi b h z := ⟨B.1.trans A.1, B.2.1.trans A.2.1, fun c k q => (B.2.2 c k q).trans (A.2.2 c k q)⟩
theorem kbi_up {c k : Nat} {v : Int} (hc : b ≤ c ∧ c ≤ b + 6) (hk : c ≠ b ∨ (k ≠ 0 ∧ k ≠ 1)) : KBi b h (up_M h c k v) := ⟨up_n (by omega), up_n (by omega), fun c2 k2 q => up_n (by omega)⟩
theorem kbi_70 (hb : kc_O b = 3) {l3 : Int} : ∀ (k : Nat) (l : Int) {h : ms_M}, Pc (qw_X3_read_70 nn k b l3 l h) (fun r => KBi b h r.2) := by
  intro k
  induction k with
  | zero => intro l h; exact pc_none
  | succ k ih =>
    intro l h
    have j : Pc (qj_X3_read_109 nn b h) (fun r => KBi b h r.2) := by
      unfold qj_X3_read_109
      refine pc_if (fun _ => pc_ret ⟨rfl, rfl, fun _ _ _ => rfl⟩) (fun _ => pc_se (fun u e => pc_ret ?_))
      exact ⟨(pf_X3_bad nn hb) _ e b 0 ⟨rfl, rfl⟩, (pf_X3_bad nn hb) _ e b 1 ⟨rfl, rfl⟩, fun c k q => (of_X3_bad nn hb) _ e c k q⟩
    unfold qw_X3_read_70
    refine pc_if (fun _ => j) (fun _ => pc_if (fun _ => j) (fun _ => pc_xl (fun _ _ => pc_se (fun u12 e12 => pc_xl (fun _ _ => pc_xl (fun h15 e15 => pc_xl (fun _ _ => pc_imp (ih _) (fun r Q => ?_))))))))
    have K : KBi b h u12 := ⟨(pf_X3_readMethod nn hb) _ e12 b 0 ⟨rfl, rfl⟩, (pf_X3_readMethod nn hb) _ e12 b 1 ⟨rfl, rfl⟩, fun c k q => (of_X3_readMethod nn hb) _ e12 c k q⟩
    exact kbi_tr K (kbi_tr (by rw [e15]; exact kbi_up (by omega) (by omega)) Q)
theorem img_1 : ((List.range 256).filter (fun x => Nat.beq (kc_O x) 3)).all (fun x => decide (ly_N (x + 1) = 0)) = true := by decide +kernel
theorem f3_read (hb : kc_O b = 3) {a1 : Nat} {a2 : Int} {h : ms_M} (ta : ly_T a1 = 1) (ha : 0 ≤ a2) (V : VS_ h) : Pc (qf_X3_read nn b a1 a2 h) (fun r => r.2 b 0 = (a1 : Int) ∧ (r.1 = -1 → bt r.2 b 0 = 74)) := by
  have l0 : ∀ {M : ms_M}, (∀ k, M 900001 k = h 900001 k) → 0 ≤ ln_I M a1 := by
    intro M q
    unfold ln_I
    split
    · omega
    · rw [q]; exact V.2.1.2 a1
  unfold qf_X3_read
  refine pc_wR (fun h19 e19 => pc_lS (fun v20 e20 => pc_xl (fun v21 e21 => pc_xl (fun h22 e22 => pc_xl (fun h23 e23 => pc_xl (fun h24 e24 => pc_xl (fun h25 e25 => pc_xl (fun h26 e26 => ?_))))))))
  have hbb := im_at hb
  have v0 : 0 ≤ v21 := by
    have := l0 (M := h19) (fun k => by rw [e19]; exact up_n (by omega))
    rw [e21]; split <;> omega
  have x0 : h26 b 0 = (a1 : Int) := by
    rw [e26, up_n (by omega), e25, up_n (by omega), e24, up_n (by omega), e23, up_n (by omega), e22, up_n (by omega), e19, up_s]
  have x1 : h26 b 1 = v21 := by
    rw [e26, up_n (by omega), e25, up_n (by omega), e24, up_n (by omega), e23, up_n (by omega), e22, up_s]
  have x2 : h26 b 2 = 0 := by
    rw [e26, up_n (by omega), e25, up_n (by omega), e24, up_n (by omega), e23, up_s]
  refine pc_se (fun u28 e28 => ?_)
  have K28 : KBi b h26 u28 := ⟨(pf_X3_readConstants nn hb) _ e28 b 0 ⟨rfl, rfl⟩, (pf_X3_readConstants nn hb) _ e28 b 1 ⟨rfl, rfl⟩, fun c k q => (of_X3_readConstants nn hb) _ e28 c k q⟩
  have J28 : u28 b 3 = -1 → bt h26 b 0 = 74 := by
    unfold qf_X3_readConstants at e28
    obtain ⟨u16, e16, e28⟩ := sv_i e28
    obtain ⟨u18, e18, e28⟩ := sv_i e28
    obtain ⟨u20, e20, e28⟩ := sv_i e28
    rw [xl_eq] at e28
    intro q
    have q := f3_28 _ _ _ e28 q
    rw [up_n (by omega)] at q
    have q := f3_next _ e20 q
    have q := f3_upTo _ e18 q
    exact f3_first x2 (by omega) (by rw [x0, Int.toNat_natCast]; intro z; rw [z, T_img hb] at ta; cases ta) _ e16 q
  refine pc_se (fun u30 e30 => pc_xl (fun h31 e31 => pc_se (fun u33 e33 => pc_xl (fun h34 e34 => pc_se (fun u36 e36 => pc_se (fun u38 e38 => ?_))))))
  have K30 : KBi b u28 u30.2 := ⟨(pf_X3_nextPlainClass nn hb) _ e30 b 0 ⟨rfl, rfl⟩, (pf_X3_nextPlainClass nn hb) _ e30 b 1 ⟨rfl, rfl⟩, fun c k q => (of_X3_nextPlainClass nn hb) _ e30 c k q⟩
  have K31 : KBi b u30.2 h31 := by rw [e31]; exact kbi_up (by omega) (by omega)
  have K33 : KBi b h31 u33.2 := ⟨(pf_X3_nextPlainClass nn hb) _ e33 b 0 ⟨rfl, rfl⟩, (pf_X3_nextPlainClass nn hb) _ e33 b 1 ⟨rfl, rfl⟩, fun c k q => (of_X3_nextPlainClass nn hb) _ e33 c k q⟩
  have K34 : KBi b u33.2 h34 := by rw [e34]; exact kbi_up (by omega) (by omega)
  have K36 : KBi b h34 u36 := ⟨(pf_X3_readFields nn hb) _ e36 b 0 ⟨rfl, rfl⟩, (pf_X3_readFields nn hb) _ e36 b 1 ⟨rfl, rfl⟩, fun c k q => (of_X3_readFields nn hb) _ e36 c k q⟩
  have K38 : KBi b u36 u38.2 := ⟨(pf_X3_nextUpTo nn hb) _ e38 b 0 ⟨rfl, rfl⟩, (pf_X3_nextUpTo nn hb) _ e38 b 1 ⟨rfl, rfl⟩, fun c k q => (of_X3_nextUpTo nn hb) _ e38 c k q⟩
  have K : KBi b h26 u38.2 := kbi_tr K28 (kbi_tr K30 (kbi_tr K31 (kbi_tr K33 (kbi_tr K34 (kbi_tr K36 K38)))))
  intro r e
  have KK := kbi_tr K (kbi_70 hb _ _ _ e)
  refine ⟨KK.1.trans x0, fun st => ?_⟩
  have q := f3_70 _ _ _ e st
  have q := f3_upTo _ e38 q
  have q : h34 b 3 = -1 := by
    unfold qf_X3_readFields at e36
    obtain ⟨u27, e27, e36⟩ := sv_i e36
    exact f3_upTo _ e27 (f3_10 _ _ _ e36 q)
  rw [e34, up_n (by omega)] at q
  have q := f3_plain _ e33 q
  rw [e31, up_n (by omega)] at q
  have q := J28 (f3_plain _ e30 q)
  have no : a1 < b ∨ b + 6 < a1 := by
    by_cases w : a1 < b ∨ b + 6 < a1
    · exact w
    · exfalso
      have e1 : a1 = b + 1 := by
        by_cases w0 : a1 = b
        · rw [w0, T_img hb] at ta; cases ta
        · by_cases w1 : a1 = b + 1
          · exact w1
          · have := T_arr hb (off := a1 - b) (by omega)
            rw [show b + (a1 - b) = a1 by omega] at this; omega
      have n0 : ly_N (b + 1) = 0 := of_decide_eq_true (List.all_eq_true.mp img_1 b (List.mem_filter.mpr ⟨List.mem_range.mpr (kc_lt hb (by decide)), by rw [hb]; rfl⟩))
      have v1 : v20 = 0 := by
        rw [e20, e1]
        unfold ln_I
        rw [if_pos (by have := kc_lt hb (by decide); omega), n0]; rfl
      have v2 : v21 ≤ 0 := by rw [e21]; split <;> omega
      unfold bt at q
      rw [if_neg (by omega), if_pos (by omega)] at q
      omega
  unfold bt at q ⊢
  rw [KK.1, KK.2.1, x0]
  rw [x0] at q
  rw [KK.2.2 (a1 : Int).toNat _ (by rw [Int.toNat_natCast]; exact no)]
  exact q
end
end
section
/- COMPILE LEAVES THE OLDER ROWS OF BYTES -/
theorem nw_big {L : List Nat} {LF : List (Nat × Nat)} {c k : Nat} (h : (L.all (fun x => Nat.blt x 256) && LF.all (fun q => Nat.blt q.1 256)) = true) (hc : 256 ≤ c) : nw_F L LF false false c k = true := by
  rw [Bool.and_eq_true] at h
  unfold nw_F
  simp only [Bool.and_eq_true]
  refine ⟨?_, ?_, rfl, rfl⟩
  · cases hq : L.contains c with
    | false => rfl
    | true => have := List.all_eq_true.mp h.1 c (List.contains_iff_mem.mp hq); rw [Nat.blt_eq] at this; omega
  · cases hq : LF.contains (c, k) with
    | false => rfl
    | true => have := List.all_eq_true.mp h.2 _ (List.contains_iff_mem.mp hq); rw [Nat.blt_eq] at this; omega
theorem ho_B {nn cc kk : Nat} (hc : 256 ≤ cc) {a : Int} {g q : ms_M} (e : qf_X2_addKindByte nn a g = some q) : q cc kk = g cc kk := (ff_X2_addKindByte nn) _ e cc kk (nw_big rfl hc)
theorem ho_20 {nn cc kk : Nat} (hc : 256 ≤ cc) {l2 : Int} {h r : ms_M} (e : qj_X2_addKind_20 nn l2 h = some r) : r cc kk = h cc kk := by
  unfold qj_X2_addKind_20 at e
  obtain ⟨u1, e1, e⟩ := sv_i e
  split at e
  · obtain ⟨u3, e3, e⟩ := sv_i e
    have e := rd_i e
    obtain ⟨u10, e10, e⟩ := sv_i e
    obtain ⟨u14, e14, e⟩ := sv_i e
    unfold xl at e
    obtain ⟨u21, e21, e⟩ := sv_i e
    cases e
    rw [ho_B hc e21, up_n (by omega), cpn_fr e10 _ _ (by omega), ho_B hc e3]
  · split at e
    · split at e
      · obtain ⟨u, e2, e⟩ := sv_i e; cases e; exact ho_B hc e2
      · obtain ⟨u, e2, e⟩ := sv_i e; cases e; exact ho_B hc e2
    · obtain ⟨u, e2, e⟩ := sv_i e; cases e; exact ho_B hc e2
theorem ho_A {nn cc kk : Nat} (hc : 256 ≤ cc) {l2 : Int} {h r : ms_M} (e : qf_X2_addKind nn l2 h = some r) : r cc kk = h cc kk := by
  unfold qf_X2_addKind at e
  obtain ⟨u1, e1, e⟩ := sv_i e
  split at e
  · exact ho_20 hc e
  · obtain ⟨u3, e3, e⟩ := sv_i e
    obtain ⟨u4, e4, e⟩ := sv_i e
    rw [ho_20 hc e, ho_B hc e3]
theorem ho_N {nn cc kk : Nat} (hc : 256 ≤ cc) {l2 : Int} {h : ms_M} {r : Int × ms_M} (e : qf_X2_nameKind nn l2 h = some r) : r.2 cc kk = h cc kk := by
  unfold qf_X2_nameKind xl at e
  obtain ⟨u3, e3, e⟩ := sv_i e
  obtain ⟨u8, e8, e⟩ := sv_i e
  cases e
  have z : u8.2 cc kk = u3 cc kk := (ff_X9_nameOf nn) _ e8 cc kk (nw_big rfl hc)
  show u8.2 cc kk = _
  rw [z, ho_A hc e3, up_n (by omega)]
theorem ho_M13 {nn cc kk : Nat} (hc : 256 ≤ cc) : ∀ (k : Nat) (l1 l2 : Int) {h : ms_M} {r : Int × ms_M}, qw_X2_nameMethodKind_13 nn k l1 l2 h = some r → r.2 cc kk = h cc kk := by
  intro k
  induction k with
  | zero => intro l1 l2 h r e; cases e
  | succ k ih =>
    intro l1 l2 h r e
    unfold qw_X2_nameMethodKind_13 at e
    have e := rd_i e
    split at e
    · obtain ⟨u4, e4, e⟩ := sv_i e
      have e := rd_i e
      obtain ⟨u8, e8, e⟩ := sv_i e
      obtain ⟨u13, e13, e⟩ := sv_i e
      cases e
      have z : u13.2 cc kk = u8 cc kk := (ff_X9_nameOf nn) _ e13 cc kk (nw_big rfl hc)
      show u13.2 cc kk = _
      rw [z, ho_A hc e8, ho_B hc e4]
    · obtain ⟨u15, e15, e⟩ := sv_i e
      obtain ⟨u17, e17, e⟩ := sv_i e
      unfold xl at e
      rw [ih _ _ e, ho_A hc e17]
theorem ho_M {nn cc kk : Nat} (hc : 256 ≤ cc) {a1 : Int} {h : ms_M} {r : Int × ms_M} (e : qf_X2_nameMethodKind nn a1 h = some r) : r.2 cc kk = h cc kk := by
  unfold qf_X2_nameMethodKind xl at e
  obtain ⟨u22, e22, e⟩ := sv_i e
  rw [ho_M13 hc _ _ _ e, ho_B hc e22, up_n (by omega)]
theorem ho_144 {nn cc kk : Nat} (hc : 256 ≤ cc) : ∀ (k : Nat) (l1 : Int) {h r : ms_M}, qw_X2_nameKinds_144 nn k l1 h = some r → r cc kk = h cc kk := by
  intro k
  induction k with
  | zero => intro l1 h r e; cases e
  | succ k ih =>
    intro l1 h r e
    unfold qw_X2_nameKinds_144 at e
    split at e
    · cases e; rfl
    · split at e
      · cases e; rfl
      · obtain ⟨u6, e6, e⟩ := sv_i e
        split at e
        · exact ih _ e
        · obtain ⟨u10, e10, e⟩ := sv_i e
          have e := wa_i e
          have := ih _ e
          rw [this, up_n (by omega), ho_M hc e10]
theorem ho_85 {nn cc kk : Nat} (hc : 256 ≤ cc) : ∀ (k : Nat) (l1 : Int) {h r : ms_M}, qw_X2_nameKinds_85 nn k l1 h = some r → r cc kk = h cc kk := by
  intro k
  induction k with
  | zero => intro l1 h r e; cases e
  | succ k ih =>
    intro l1 h r e
    unfold qw_X2_nameKinds_85 at e
    split at e
    · exact ho_144 hc _ _ e
    · split at e
      · exact ho_144 hc _ _ e
      · unfold xl at e
        have e := rd_i e
        split at e
        · exact ih _ e
        · have e := rd_i e
          obtain ⟨u29, e29, e⟩ := sv_i e
          have e := wa_i e
          have := ih _ e
          rw [this, up_n (by omega), ho_N hc e29]
theorem ho_59 {nn cc kk : Nat} (hc : 256 ≤ cc) {qkk : Int → ms_M → Option ms_M} (hq : ∀ (l : Int) {g r : ms_M}, qkk l g = some r → r cc kk = g cc kk) {l1 s0 s1 : Int} {h r : ms_M} (e : qj_X2_nameKinds_59 nn qkk l1 s0 s1 h = some r) : r cc kk = h cc kk := by
  unfold qj_X2_nameKinds_59 at e
  have e := wa_i e
  unfold xl at e
  obtain ⟨u40, e40, e⟩ := sv_i e
  have e := wa_i e
  have := hq _ e
  rw [this, up_n (by omega), ho_N hc e40, up_n (by omega)]
theorem ho_2 {nn cc kk : Nat} (hc : 256 ≤ cc) : ∀ (k : Nat) (l1 : Int) {h r : ms_M}, qw_X2_nameKinds_2 nn k l1 h = some r → r cc kk = h cc kk := by
  intro k
  induction k with
  | zero => intro l1 h r e; cases e
  | succ k ih =>
    intro l1 h r e
    unfold qw_X2_nameKinds_2 xl at e
    dsimp only at e
    split at e
    · exact ho_85 hc _ _ e
    · split at e
      · exact ho_85 hc _ _ e
      · split at e
        · exact ho_85 hc _ _ e
        · split at e
          · obtain ⟨u51, e51, e⟩ := sv_i e
            obtain ⟨u53, e53, e⟩ := sv_i e
            exact ho_59 hc (fun l _ _ z => ih l z) e
          · exact ho_59 hc (fun l _ _ z => ih l z) e
theorem ho_ok {nn cc kk : Nat} (hc : 256 ≤ cc) {g r : ms_M} (e : qf_X2_nameKinds nn g = some r) : r cc kk = g cc kk := ho_2 hc _ _ e
section
variable {nn n : Nat} {h g z : ms_M}
/-- rows of bytes below n stay; there are at least n cells -/
def OLn (n : Nat) (h g : ms_M) : Prop := (∀ c k, 256 ≤ c → c < n → g c k = h c k) ∧ n ≤ cn_M g
theorem ol_tr (A : OLn n h g) (B : OLn n g z) : OLn n h z := ⟨fun c k a b => (B.1 c k a b).trans (A.1 c k a b), B.2⟩
theorem ol_all (hn : n ≤ cn_M h) (F : ∀ c k, 256 ≤ c → g c k = h c k) : OLn n h g := ⟨fun c k a _ => F c k a, by unfold cn_M; rw [F 900000 0 (by omega)]; exact hn⟩
theorem ol_up {c k : Nat} {v : Int} (hn : n ≤ cn_M h) (hc : c < 256 ∨ (n ≤ c ∧ c < 900000)) : OLn n h (up_M h c k v) := by
  refine ⟨fun c2 k2 a b => up_n (by omega), ?_⟩
  unfold cn_M
  rw [up_n (by omega)]; exact hn
theorem pc_wT {α : Type} {Q : α → Prop} {M : ms_M} {c : Nat} {j v : Int} {G : ms_M → Option α} (q : ∀ z, z = up_M M c j.toNat (oq_b v) → Pc (G z) Q) : Pc (wr_T c j v M G) Q := by
  unfold wr_T
  exact pc_if (fun _ => q _ rfl) (fun _ => pc_none)
theorem ol_wc83 {l1 l3 l4 : Int} {l2 : Nat} (h2 : n ≤ l2 ∧ l2 < 900000) : ∀ (k : Nat) (l5 : Int) {h : ms_M}, n ≤ cn_M h → Pc (qw_X6_writeConstant_83 nn k l1 l2 l3 l4 l5 h) (fun g => OLn n h g) := by
  intro k
  induction k with
  | zero => intro l5 h hn; exact pc_none
  | succ k ih =>
    intro l5 h hn
    unfold qw_X6_writeConstant_83
    refine pc_if (fun _ => pc_ret ⟨fun _ _ _ _ => rfl, hn⟩) (fun _ => ?_)
    refine pc_xl (fun _ _ => pc_rA (fun _ _ _ _ => pc_xl (fun _ _ => pc_xl (fun _ _ => pc_xl (fun _ _ => pc_xl (fun _ _ => pc_xl (fun _ _ => pc_wT (fun h9 e9 => pc_xl (fun _ _ => ?_)))))))))
    have O : OLn n h h9 := by rw [e9]; exact ol_up hn (.inr h2)
    exact pc_imp (ih _ O.2) (fun r Q => ol_tr O Q)
theorem ol_wc {a1 a3 : Int} {a2 : Nat} (h2 : n ≤ a2 ∧ a2 < 900000) (hn : n ≤ cn_M h) (h256 : 256 ≤ n) : Pc (qf_X6_writeConstant nn a1 a2 a3 h) (fun g => OLn n h g) := by
  have same : OLn n h h := ⟨fun _ _ _ _ => rfl, hn⟩
  unfold qf_X6_writeConstant
  refine pc_rA (fun _ _ _ _ => pc_rA (fun _ _ _ _ => pc_se (fun u17 _ => pc_if (fun _ => pc_ret same) (fun _ => pc_xl (fun _ _ => pc_lS (fun _ _ => pc_if (fun _ => ?_) (fun _ => pc_ret same)))))))
  refine pc_rA (fun _ _ _ _ => pc_xl (fun _ _ => pc_wT (fun h23 e23 => pc_rA (fun _ _ _ _ => ?_))))
  have O : OLn n h h23 := by rw [e23]; exact ol_up hn (.inr h2)
  refine pc_if (fun _ => pc_imp (ol_wc83 h2 _ _ O.2) (fun r Q => ol_tr O Q)) (fun _ => ?_)
  refine pc_xl (fun _ _ => pc_xl (fun _ _ => pc_xl (fun _ _ => pc_wT (fun h29 e29 => pc_rA (fun _ _ _ _ => pc_xl (fun _ _ => pc_se (fun u35 e35 => pc_ret ?_)))))))
  have O2 : OLn n h23 h29 := by rw [e29]; exact ol_up O.2 (.inr h2)
  refine ol_tr O (ol_tr O2 ⟨fun c k a b => cpn_fr e35 c k (by omega), ?_⟩)
  unfold cn_M
  rw [cpn_fr e35 900000 0 (by omega)]; exact O2.2
theorem ol_ci40 {l1 : Nat} (h2 : n ≤ l1 ∧ l1 < 900000) (h256 : 256 ≤ n) : ∀ (k : Nat) (l2 l3 : Int) {h : ms_M} (c s : Nat), n ≤ cn_M h → Pc (qw_X6_closeImage_40 nn k l1 l2 l3 h c s) (fun r => OLn n h r.2.1) := by
  intro k
  induction k with
  | zero => intro l2 l3 h c s hn; exact pc_none
  | succ k ih =>
    intro l2 l3 h c s hn
    unfold qw_X6_closeImage_40
    refine pc_if (fun _ => ?_) (fun _ => ?_)
    · intro r e
      have e := cp_i e
      have e := Option.some.inj e
      rw [← e]
      refine ⟨fun c k a b => ?_, ?_⟩
      · show cp_M _ _ _ _ _ _ c k = _
        unfold cp_M; rw [if_neg (by omega)]
      · show n ≤ cn_M (cp_M _ _ _ _ _ _)
        unfold cn_M cp_M; rw [if_neg (by omega)]; exact hn
    · refine pc_sv (ol_wc h2 hn h256) (fun u6 O => pc_rA (fun _ _ _ _ => pc_rA (fun _ _ _ _ => pc_se (fun _ _ => pc_xl (fun _ _ => pc_xl (fun _ _ => ?_))))))
      exact pc_imp (ih _ _ _ _ O.2) (fun r Q => ol_tr O Q)
theorem pc_nB {α : Type} {Q : α → Prop} {M : ms_M} {y : Int} {G : Nat → ms_M → Option α} (q : ∀ z, (256 ≤ M 900000 0 ∧ M 900000 0 < 700000) → z = nw_M M y (fun _ => 0) → Pc (G (cn_M M) z) Q) : Pc (nw_B y M G) Q := by
  unfold nw_B
  exact pc_if (fun c => q _ c.1 rfl) (fun _ => pc_none)
theorem ol_nw {y : Int} {f : Nat → Int} (hn : n ≤ cn_M h) (hc : 256 ≤ h 900000 0 ∧ h 900000 0 < 700000) : OLn n h (nw_M h y f) := by
  have : cn_M h < 700000 := by unfold cn_M; omega
  refine ⟨fun c k a b => ?_, ?_⟩
  · unfold nw_M
    rw [if_neg (by omega), if_neg (by omega), if_neg (by omega)]
  · unfold cn_M nw_M
    rw [if_neg (by unfold cn_M at this ⊢; omega), if_pos ⟨rfl, rfl⟩]
    unfold cn_M at hn; omega
theorem ol_ci (hn : n ≤ cn_M h) (h256 : 256 ≤ n) : Pc (qf_X6_closeImage nn h) (fun r => OLn n h r.2.1) := by
  unfold qf_X6_closeImage
  refine pc_se (fun u17 _ => pc_if (fun _ => pc_se (fun u19 _ => pc_ck (fun _ => pc_nB (fun z hc ez => ?_)))) (fun _ => pc_ck (fun _ => pc_nB (fun z hc ez => pc_ret ?_))))
  · have b : n ≤ cn_M h ∧ cn_M h < 900000 := ⟨hn, by unfold cn_M; omega⟩
    have O : OLn n h z := by rw [ez]; exact ol_nw hn hc
    refine pc_wT (fun h22 e22 => pc_wT (fun h23 e23 => pc_xl (fun _ _ => pc_wT (fun h26 e26 => ?_))))
    have O22 : OLn n z h22 := by rw [e22]; exact ol_up O.2 (.inr b)
    have O23 : OLn n h22 h23 := by rw [e23]; exact ol_up O22.2 (.inr b)
    have O26 : OLn n h23 h26 := by rw [e26]; exact ol_up O23.2 (.inr b)
    exact pc_imp (ol_ci40 b h256 _ _ _ _ _ O26.2) (fun r Q => ol_tr O (ol_tr O22 (ol_tr O23 (ol_tr O26 Q))))
  · show OLn n h z
    rw [ez]; exact ol_nw hn hc
theorem ol_cc {a1 : Int} (hn : n ≤ cn_M h) (h256 : 256 ≤ n) : Pc (qf_X0_closeClass nn a1 h) (fun r => OLn n h r.1) := by
  unfold qf_X0_closeClass
  refine pc_se (fun u3 _ => pc_se (fun u6 _ => pc_se (fun u8 e8 => ?_)))
  have O : OLn n h u8 := ol_all hn (fun c k q => note_fr e8 c k (by omega))
  refine pc_if (fun _ => pc_ret O) (fun _ => pc_if (fun _ => pc_ret O) (fun _ => pc_if (fun _ => pc_ret O) (fun _ => pc_if (fun _ => pc_ret O) (fun _ => ?_))))
  refine pc_sv (ol_ci O.2 h256) (fun u17 O17 => ?_)
  intro r e
  unfold wr_QB at e
  split at e
  · have e := Option.some.inj e
    rw [← e]
    exact ol_tr O (ol_tr O17 (ol_up O17.2 (.inl (by omega))))
  · cases e
theorem ol_175 {c s : Nat} (hn : n ≤ cn_M h) : Pc (qj_X12_compile_175 nn h c s) (fun r => OLn n h r.2.1) := by
  unfold qj_X12_compile_175
  refine pc_se (fun u3 e3 => ?_)
  have O : OLn n h u3 := ol_all hn (fun c k q => (ff_X0_closeProgram nn) _ e3 c k (nw_big rfl q))
  refine pc_if (fun _ => pc_ret O) (fun _ => pc_se (fun u7 e7 => pc_ret (ol_tr O (ol_all O.2 (fun c k q => (ff_X12_takeImages nn) _ e7 c k (nw_big rfl q))))))
theorem ol_124 {kk : Int → ms_M → Nat → Nat → Option (Int × ms_M × Nat × Nat)} {l2 : Int} {c s : Nat} (h256 : 256 ≤ n) (hk : ∀ (v : Int) {h : ms_M} (c s : Nat), n ≤ cn_M h → Pc (kk v h c s) (fun r => OLn n h r.2.1)) : ∀ (k : Nat) (l3 : Int) {h : ms_M}, n ≤ cn_M h → Pc (qw_X12_compile_124 nn kk k l2 l3 h c s) (fun r => OLn n h r.2.1) := by
  intro k
  induction k with
  | zero => intro l3 h hn; exact pc_none
  | succ k ih =>
    intro l3 h hn
    have j : Pc (qj_X12_compile_161 nn kk l2 h c s) (fun r => OLn n h r.2.1) := by
      unfold qj_X12_compile_161
      exact pc_sv (ol_cc hn h256) (fun u11 O => pc_xl (fun _ _ => pc_imp (hk _ _ _ O.2) (fun r Q => ol_tr O Q)))
    unfold qw_X12_compile_124
    refine pc_se (fun u15 _ => pc_if (fun _ => j) (fun _ => pc_if (fun _ => j) (fun _ => pc_se (fun u20 e20 => pc_xl (fun _ _ => ?_)))))
    have O : OLn n h u20 := ol_all hn (fun c k q => (ff_X0_makeMethod nn) _ e20 c k (nw_big rfl q))
    exact pc_imp (ih _ O.2) (fun r Q => ol_tr O Q)
theorem ol_93 (h256 : 256 ≤ n) : ∀ (k : Nat) (l2 : Int) {h : ms_M} (c s : Nat), n ≤ cn_M h → Pc (qw_X12_compile_93 nn k l2 h c s) (fun r => OLn n h r.2.1) := by
  intro k
  induction k with
  | zero => intro l2 h c s hn; exact pc_none
  | succ k ih =>
    intro l2 h c s hn
    unfold qw_X12_compile_93
    refine pc_if (fun _ => ol_175 hn) (fun _ => pc_if (fun _ => ol_175 hn) (fun _ => pc_se (fun u30 e30 => ?_)))
    have O : OLn n h u30 := ol_all hn (fun c k q => (ff_X0_beginClass nn) _ e30 c k (nw_big rfl q))
    exact pc_imp (ol_124 h256 (fun v h c s q => ih v c s q) _ _ O.2) (fun r Q => ol_tr O Q)
/-- compile leaves the rows of bytes that were there -/
theorem ol_compile (V : VS_ h) : Pc (qf_X12_compile nn h) (fun r => OLn (cn_M h) h r.2.1) := by
  have h256 := vi_c V
  unfold qf_X12_compile
  refine pc_xl (fun h34 e34 => ?_)
  have O : OLn (cn_M h) h h34 := by rw [e34]; exact ol_up (by omega) (.inl (by omega))
  refine pc_if (fun _ => ?_) (fun _ => pc_se (fun u62 e62 => pc_ret (ol_tr O (ol_all O.2 (fun c k q => (ff_X9_refuse nn) _ e62 c k (nw_big rfl q))))))
  refine pc_se (fun u38 e38 => pc_se (fun u41 e41 => pc_se (fun u44 e44 => pc_se (fun u47 e47 => pc_se (fun u50 e50 => pc_se (fun u53 e53 => pc_se (fun u56 e56 => pc_se (fun u59 e59 => ?_))))))))
  have F : ∀ c k, 256 ≤ c → u59 c k = h34 c k := fun c k q => by
    rw [show u59 c k = u56 c k from (ff_X0_beginProgram nn) _ e59 c k (nw_big rfl q), ho_ok q e56, show u53 c k = u50 c k from (ff_X2_checkOverrides nn) _ e53 c k (nw_big rfl q), show u50 c k = u47 c k from (ff_X2_readMembers nn) _ e50 c k (nw_big rfl q), show u47 c k = u44 c k from (ff_X2_readClasses nn) _ e47 c k (nw_big rfl q), show u44 c k = u41 c k from (ff_X8_readProgram nn) _ e44 c k (nw_big rfl q), show u41 c k = u38 c k from (ff_X2_forget nn) _ e41 c k (nw_big rfl q)]
    exact (ff_X9_scan nn) _ e38 c k (nw_big rfl q)
  have O59 := ol_all O.2 F
  exact pc_imp (ol_93 h256 _ _ _ _ O59.2) (fun r Q => ol_tr O (ol_tr O59 Q))
end
end
section
/- WHAT THE CALLS OF THE CLASS KEEP, ONE AND ALL -/
section
variable {nn : Nat} {h g z : ms_M} {p q : Int}
/-- the space's Images have bytes of their own, that begin with 74 -/
def OJ (h : ms_M) : Prop := ∀ k : Nat, (k : Int) < h 56 3 → 256 ≤ (h (h 60 k).toNat 0).toNat ∧ bt h (h 60 k).toNat 0 = 74
/-- the space's Images are the same in both -/
def SPW (h g : ms_M) : Prop := (∀ k, g 60 k = h 60 k) ∧ g 56 3 = h 56 3 ∧ ∀ k : Nat, (k : Int) < h 56 3 → IMQ h g (h 60 k).toNat
theorem spw_of (V : VS_ h) (F : SPF h g) : SPW h g := by
  have g3 := gF_56_3 V
  exact ⟨F.1, F.2.1, fun k hk => F.2.2 _ (vbb_of V (V.2.2.2.2.1 k (by omega)).2)⟩
theorem oj_w (F : SPW h g) (J : OJ h) : OJ g := fun k hk => by
  rw [F.2.1] at hk
  have A := F.2.2 k hk
  rw [F.1, bt_q A, show g (h 60 k).toNat 0 = h (h 60 k).toNat 0 from A.1 0 0 (by omega)]
  exact J k hk
theorem stc_w (V : VS_ g) (F : SPW h g) (hl : ∀ k, g 68 k = h 68 k) (S : STC h) : STC g := by
  refine ⟨⟨fun k hk => ?_, fun k c hk K => ?_⟩, fun k hk => ?_, fun k hk => ⟨(V.2.2.2.2.1 k hk).1, vbb_of V (V.2.2.2.2.1 k hk).2⟩, by rw [F.2.1]; exact S.2.2.2⟩
  · rw [F.2.1] at hk
    have A := F.2.2 k hk
    rw [F.1, show g (h 60 k).toNat 12 = h (h 60 k).toNat 12 from A.1 0 12 (by omega)]
    exact mgo_q A (S.1.1 k hk)
  · rw [F.2.1] at hk
    have t := tg_r K.1
    rw [hl]
    refine S.1.2 k c hk ?_
    rw [F.1] at K
    exact (crf_q (F.2.2 k (by omega))).1 K
  · rw [F.2.1] at hk
    rw [F.1, bt_q (F.2.2 k hk)]
    exact S.2.1 k hk
/-- nothing of space and run has changed -/
def KEP (h g : ms_M) : Prop := SPW h g ∧ (∀ k, g 68 k = h 68 k) ∧ (∀ k, g 148 k = h 148 k) ∧ (∀ k, g 149 k = h 149 k) ∧ (g 143 1 = h 143 1 ∧ g 143 6 = h 143 6 ∧ g 143 17 = h 143 17 ∧ g 143 18 = h 143 18 ∧ g 143 19 = h 143 19) ∧ g 56 4 = h 56 4
theorem nva_k {n : Int} (N : NVa h n) : (((n / 12).toNat : Nat) : Int) < h 56 3 := by
  have := N.1; have := N.2; omega
theorem pgo_w {n x : Int} (F : SPW h g) (N : NVa h n) (P : PGo h n x) : PGo g n x := by
  obtain ⟨B, G, b⟩ := P
  refine ⟨B, ?_, b⟩
  have e : bN g n = bN h n := by unfold bN; rw [F.1]
  rw [e]
  exact bgo_q (F.2.2 _ (nva_k N)) G
theorem frs_k (F : SPW h g) (k8 : ∀ k, g 148 k = h 148 k) (k9 : ∀ k, g 149 k = h 149 k) (s6 : g 143 6 = h 143 6) (s17 : g 143 17 = h 143 17) (s18 : g 143 18 = h 143 18) (s19 : g 143 19 = h 143 19) (R : FRS h) : FRS g := by
  obtain ⟨f1, f2, ⟨t1, t2, t3, t4⟩, f4⟩ := R
  have bn : ∀ n, bN g n = bN h n := fun n => by unfold bN; rw [F.1]
  have nv : ∀ n, NVa h n → NVa g n := fun n N => by unfold NVa; rw [F.2.1]; exact N
  have A : IMQ h g (bN h (h 148 (h 143 6 - 1).toNat)) := F.2.2 _ (nva_k t1)
  refine ⟨by rw [s6]; exact f1, by rw [s17, s6]; exact f2, ?_, fun i hi => ?_⟩
  · rw [s6]
    refine ⟨by rw [k8]; exact nv _ t1, by rw [s18, k8, bn]; exact t2, by rw [s19, k8, bn, mo_q A]; exact t3, ?_⟩
    rw [k8, k9, bn, show g (bN h (h 148 (h 143 6 - 1).toNat)) 12 = h (bN h (h 148 (h 143 6 - 1).toNat)) 12 from A.1 0 12 (by omega)]
    exact t4.imp (fun z => pgo_w F t1 z) id
  · rw [s6] at hi
    have L := f4 i hi
    refine ⟨by rw [k8]; exact nv _ L.1, ?_⟩
    rw [k8, k9]; exact pgo_w F L.1 L.2
theorem wma_k (V : VS_ g) (K : KEP h g) (W : WMa h) : WMa g := fun st => by
  obtain ⟨F, k68, k8, k9, ⟨s1, s6, s17, s18, s19⟩, -⟩ := K
  rw [s1] at st
  obtain ⟨S, R⟩ := W st
  exact ⟨stc_w V F k68 S, frs_k F k8 k9 s6 s17 s18 s19 R⟩
/-- THE INVARIANT OF THE CLASS -/
def CVa (p : Int) (h : ms_M) : Prop := CI_ p h ∧ WMa h ∧ (¬ h 56 4 = 0 → STC h) ∧ OJ h
theorem cv_k (C : CVa p h) (D : CI_ q g) (K : KEP h g) : CVa q g :=
  ⟨D, wma_k D.1 K C.2.1, fun z => stc_w D.1 K.1 K.2.1 (C.2.2.1 (by rw [← K.2.2.2.2.2]; exact z)), oj_w K.1 C.2.2.2⟩
theorem kep_fr {L : List Nat} {LF : List (Nat × Nat)} {bB : Bool} (V : VS_ h) (J : OJ h) (F : ∀ c k, nw_F L LF false bB c k = true → g c k = h c k) (O : ∀ c k, 256 ≤ c → c < cn_M h → g c k = h c k) (hc : (L.all (fun x => !(is_I x)) && LF.all (fun q => !(is_I q.1))) = true) (h1 : (!(L.contains 60) && LF.all (fun q => !(Nat.beq q.1 60))) = true) (h2 : (!(L.contains 68) && LF.all (fun q => !(Nat.beq q.1 68))) = true) (h3 : (!(L.contains 148) && LF.all (fun q => !(Nat.beq q.1 148))) = true) (h4 : (!(L.contains 149) && LF.all (fun q => !(Nat.beq q.1 149))) = true) (h5 : (!(L.contains 56) && LF.all (fun q => !(Nat.beq q.1 56))) = true) (h6 : (!(L.contains 143) && LF.all (fun q => !(Nat.beq q.1 143))) = true) : KEP h g := by
  have g3 := gF_56_3 V
  have R : ∀ c : Nat, ly_T c ≠ 1 → (!(L.contains c) && LF.all (fun q => !(Nat.beq q.1 c))) = true → ∀ k, g c k = h c k := by
    intro c ht z k
    rw [Bool.and_eq_true] at z
    refine F c k (nw_ar ?_ k)
    simp only [Bool.and_eq_true, Bool.or_eq_true]
    refine ⟨z.1, z.2, .inl rfl, .inr ?_⟩
    cases hq : Nat.beq (ly_T c) 1 with
    | false => rfl
    | true => exact absurd (Nat.eq_of_beq_eq_true hq) ht
  rw [Bool.and_eq_true] at hc
  have im : ∀ c k, is_I c = true → ly_T c ≠ 1 → g c k = h c k := by
    intro c k hI ht
    refine R c ht ?_ k
    rw [Bool.and_eq_true]
    refine ⟨?_, List.all_eq_true.mpr (fun x hx => ?_)⟩
    · cases hq : L.contains c with
      | false => rfl
      | true => have := List.all_eq_true.mp hc.1 c (List.contains_iff_mem.mp hq); rw [hI] at this; cases this
    · have := List.all_eq_true.mp hc.2 x hx
      cases hq : Nat.beq x.1 c with
      | false => rfl
      | true => have e := Nat.eq_of_beq_eq_true hq; rw [e, hI] at this; cases this
  refine ⟨⟨R 60 (by decide) h1, R 56 (by decide) h5 3, fun k hk => ⟨fun i j hi => ?_, fun j => ?_⟩⟩, R 68 (by decide) h2, R 148 (by decide) h3, R 149 (by decide) h4, ⟨R 143 (by decide) h6 1, R 143 (by decide) h6 6, R 143 (by decide) h6 17, R 143 (by decide) h6 18, R 143 (by decide) h6 19⟩, R 56 (by decide) h5 4⟩
  · have hb := (V.2.2.2.2.1 k (by omega)).2
    refine im _ j (is_I6 hb hi.1) ?_
    by_cases z : i = 0
    · rw [z]; show ly_T (h 60 k).toNat ≠ 1; rw [T_img hb]; decide
    · rw [T_arr hb (off := i) (by omega)]; decide
  · exact O _ _ (J k hk).1 (vi_b V (V.2.2.2.2.1 k (by omega)).2).1.2.1
theorem cva_feed (hn : 1000000 ≤ nn) {a1 a2 a3 a4 a5 : Int} (r1 : -2147483648 ≤ a1 ∧ a1 ≤ 2147483647) (r2 : -2147483648 ≤ a2 ∧ a2 ≤ 2147483647) (r3 : -2147483648 ≤ a3 ∧ a3 ≤ 2147483647) (r4 : -2147483648 ≤ a4 ∧ a4 ≤ 2147483647) (r5 : -2147483648 ≤ a5 ∧ a5 ≤ 2147483647) (C : CVa p h) : Ok_ (qf_X12_feed nn a1 a2 a3 a4 a5 h) (fun r => CVa p r.2) := by
  obtain ⟨r, er, D⟩ := ci_feed hn r1 r2 r3 r4 r5 C.1
  exact ⟨r, er, cv_k C D (kep_fr C.1.1 C.2.2.2 (fun c k w => (ff_X12_feed nn) _ er c k w) (fun c k a _ => (ff_X12_feed nn) _ er c k (nw_big rfl a)) rfl rfl rfl rfl rfl rfl rfl)⟩
theorem cva_end (hn : 1000000 ≤ nn) {a1 : Int} (r1 : -2147483648 ≤ a1 ∧ a1 ≤ 2147483647) (C : CVa p h) : Ok_ (qf_X12_end nn a1 h) (fun r => CVa p r.2) := by
  obtain ⟨r, er, D⟩ := ci_end hn r1 C.1
  exact ⟨r, er, cv_k C D (kep_fr C.1.1 C.2.2.2 (fun c k w => (ff_X12_end nn) _ er c k w) (fun c k a _ => (ff_X12_end nn) _ er c k (nw_big rfl a)) rfl rfl rfl rfl rfl rfl rfl)⟩
theorem cva_compile (hn : 1000000 ≤ nn) (C : CVa p h) (hc : h 900000 0 + 8 < 700000) : Ok_ (qf_X12_compile nn h) (fun r => CVa p r.2.1 ∧ PQ_ (h 900000 0) r) := by
  obtain ⟨r, er, D, Q⟩ := ci_compile hn C.1 hc
  have O := ol_compile C.1.1 _ er
  exact ⟨r, er, cv_k C D (kep_fr C.1.1 C.2.2.2 (fun c k w => (ff_X12_compile nn) _ er c k w) (fun c k a b => O.1 c k a b) rfl rfl rfl rfl rfl rfl rfl), Q⟩
theorem cva_clear (hn : 1000000 ≤ nn) (hp : 0 ≤ p) (C : CVa p h) : Ok_ (qf_X12_clear nn h) (fun r => CVa p r) := by
  obtain ⟨r, er, D⟩ := ci_clear hn hp C.1
  refine ⟨r, er, D, ?_⟩
  unfold qf_X12_clear at er
  obtain ⟨u3, e3, er⟩ := sv_i er
  obtain ⟨u6, e6, er⟩ := sv_i er
  cases er
  have st := (fg_st e6).1
  have c3 : r 56 3 = u3 56 3 := (ff_X5_forget nn) _ e6 56 3 rfl
  have c4 : r 56 4 = u3 56 4 := (ff_X5_forget nn) _ e6 56 4 rfl
  unfold qf_X7_forget at e3
  rw [xl_eq, xl_eq] at e3
  obtain ⟨u5, e5, e3⟩ := sv_i e3
  cases e3
  have k3 : u3 56 3 = 0 := by
    rw [show u3 56 3 = _ from (ff_X4_forget nn (a0 := 57) rfl) _ e5 56 3 ⟨by decide, by decide⟩, up_n (by omega), up_s]
  have k4 : u3 56 4 = 0 := by
    rw [show u3 56 4 = _ from (ff_X4_forget nn (a0 := 57) rfl) _ e5 56 4 ⟨by decide, by decide⟩, up_s]
  exact ⟨fun q => by omega, fun q => absurd (c4.trans k4) q, fun k hk => by omega⟩
theorem stc_mk (V : VS_ h) (S : SGo h) (J : OJ h) : STC h :=
  ⟨S, fun k hk => (J k hk).2, fun k hk => ⟨(V.2.2.2.2.1 k hk).1, vbb_of V (V.2.2.2.2.1 k hk).2⟩, by have := gF_56_3 V; omega⟩
theorem cva_verify (hn : 1000000 ≤ nn) (C : CVa p h) : Ok_ (qf_X12_verify nn h) (fun r => CVa p r.2) := by
  obtain ⟨r, er, D⟩ := ci_verify hn C.1
  obtain ⟨F, P⟩ := pv_verify hn C.1.1 C.1.2.2.1 _ er
  have W := spw_of C.1.1 F
  have J := oj_w W C.2.2.2
  have R : FRS h → FRS r.2 := frs_k W (fun k => (ff_X12_verify nn) _ er 148 k (nw_ar rfl k)) (fun k => (ff_X12_verify nn) _ er 149 k (nw_ar rfl k)) ((ff_X12_verify nn) _ er 143 6 rfl) ((ff_X12_verify nn) _ er 143 17 rfl) ((ff_X12_verify nn) _ er 143 18 rfl) ((ff_X12_verify nn) _ er 143 19 rfl)
  have s1 : r.2 143 1 = h 143 1 := (ff_X12_verify nn) _ er 143 1 rfl
  refine ⟨r, er, D, fun st => ?_, fun q => ?_, J⟩
  · obtain ⟨S, f⟩ := C.2.1 (by rw [← s1]; exact st)
    refine ⟨?_, R f⟩
    rcases P with ⟨-, k68⟩ | P
    · exact stc_w D.1 W k68 S
    · exact stc_mk D.1 P J
  · rcases P with ⟨z, -⟩ | P
    · exact absurd z q
    · exact stc_mk D.1 P J
theorem cva_start (hn : 1000000 ≤ nn) (hp : 0 ≤ p) {a1 a2 : Int} (r1 : -2147483648 ≤ a1 ∧ a1 ≤ 2147483647) (r2 : -2147483648 ≤ a2 ∧ a2 ≤ 2147483647) (C : CVa p h) : Ok_ (qf_X12_start nn a1 a2 h) (fun r => CVa p r.2) := by
  obtain ⟨r, er, D⟩ := ci_start hn hp r1 r2 C.1
  obtain ⟨F, k68, k4, W⟩ := cl_start C.1.1 C.2.1 C.2.2.1 _ er
  have W2 := spw_of C.1.1 F
  exact ⟨r, er, D, W, fun q => stc_w D.1 W2 k68 (C.2.2.1 (by rw [← k4]; exact q)), oj_w W2 C.2.2.2⟩
theorem cva_run (hn : 1000000 ≤ nn) {a1 Z : Int} (C : CVa p h) (hz : p + 20000 ≤ Z) (hZ : Z ≤ 1900000000) : Ok_ (qf_X12_run nn a1 h) (fun r => CVa Z r.2) := by
  obtain ⟨r, er, D, W⟩ := cl_run hn (a1 := a1) C.1 C.2.1 hz hZ
  have F : SPF h r.2 := spf_fr (fun c k w => (ff_X12_run nn) _ er c k w) rfl
  have W2 := spw_of C.1.1 F
  have k4 : r.2 56 4 = h 56 4 := (ff_X12_run nn) _ er 56 4 rfl
  exact ⟨r, er, D, W, fun q => stc_w D.1 W2 (fun k => (ff_X12_run nn) _ er 68 k (nw_ar rfl k)) (C.2.2.1 (by rw [← k4]; exact q)), oj_w W2 C.2.2.2⟩
end
end
section
/- LOAD, KEEP AND PATCH KEEP THE INVARIANT OF THE CLASS -/
section
variable {nn : Nat} {h g z : ms_M} {p q : Int}
theorem rl_14 : ∀ (k : Nat) (l : Int) {h : ms_M}, Pc (qw_X7_relate_14 nn k l h) (fun r => r 56 4 = h 56 4) := by
  intro k
  induction k with
  | zero => intro l h; exact pc_none
  | succ k ih =>
    intro l h
    unfold qw_X7_relate_14
    refine pc_if (fun _ => pc_se (fun u4 e4 => pc_ret ((ff_X4_settle nn (a0 := 57) rfl) _ e4 56 4 ⟨by decide, by decide⟩))) (fun _ => ?_)
    refine pc_rA (fun _ _ _ _ => pc_ck (fun _ => pc_ck (fun _ => pc_xl (fun _ _ => pc_rA (fun _ _ _ _ => pc_rA (fun _ _ _ _ => pc_ck (fun _ => pc_ck (fun _ => pc_se (fun _ _ => pc_rA (fun _ _ _ _ => pc_ck (fun _ => pc_ck (fun _ => pc_se (fun _ _ => pc_ck (fun _ => pc_se (fun u25 _ => pc_se (fun u27 e27 => pc_xl (fun _ _ => pc_imp (ih _) (fun r Q => ?_))))))))))))))))))
    rw [Q]
    exact (ff_X4_setAbove nn (a0 := 57) rfl) _ e27 56 4 ⟨by decide, by decide⟩
theorem rl_4 : Pc (qf_X7_relate nn h) (fun r => r 56 4 = 0) := by
  unfold qf_X7_relate
  refine pc_xl (fun h30 e30 => pc_se (fun u33 e33 => pc_imp (rl_14 _ _) (fun r Q => ?_)))
  rw [Q, show u33 56 4 = h30 56 4 from (ff_X4_forget nn (a0 := 57) rfl) _ e33 56 4 ⟨by decide, by decide⟩, e30, up_s]
theorem rl_fr {r : ms_M} (e : qf_X7_relate nn h = some r) (c k : Nat) (hc : c ≠ 58 ∧ c ≠ 59 ∧ ¬ (c = 56 ∧ k = 4)) : r c k = h c k := by
  refine (ff_X7_relate nn) _ e c k ?_
  have w : nw_F [58, 59] [(56, 4)] false false c k = true := by
    unfold nw_F
    simp only [List.contains_cons, List.contains_nil, Bool.or_false, Bool.not_or, Bool.and_eq_true, Bool.not_eq_true', beq_eq_false_iff_ne, ne_eq, Prod.mk.injEq, Bool.not_false, Bool.true_or, and_true]
    omega
  exact w
/-- only the spare Image has changed -/
theorem kep_rd (V : VS_ h) (S : SI_ h) (J : OJ h) (F : ∀ c k, (c < (h 56 2).toNat ∨ (h 56 2).toNat + 6 < c) → g c k = h c k) : KEP h g := by
  have hb := (vi_r V).1.2
  have h0 := (vi_r V).1.1
  have g3 := gF_56_3 V
  have ib := im_at hb
  have R : ∀ c : Nat, (c = 60 ∨ c = 68 ∨ c = 148 ∨ c = 149 ∨ c = 56 ∨ c = 143) → ∀ k, g c k = h c k := fun c hc k => F c k (by omega)
  refine ⟨⟨R 60 (by omega), R 56 (by omega) 3, fun k hk => ⟨fun i j hi => ?_, fun j => ?_⟩⟩, R 68 (by omega), R 148 (by omega), R 149 (by omega), ⟨R 143 (by omega) 1, R 143 (by omega) 6, R 143 (by omega) 17, R 143 (by omega) 18, R 143 (by omega) 19⟩, R 56 (by omega) 4⟩
  · have hd := V.2.2.2.2.1 k (by omega)
    have hne : (h 60 k).toNat ≠ (h 56 2).toNat := by have := S.2.2 k (by omega); omega
    have d := im_dis hb hd.2 hne
    exact F _ _ (by omega)
  · have := (J k hk).1
    exact F _ _ (by omega)
theorem bt_pos {b : Nat} {x : Int} (e : bt h b x = 74) : (0 ≤ x ∧ x < h b 1) ∧ oq_and (h (h b 0).toNat x.toNat) 255 = 74 := by
  unfold bt at e
  split at e
  · omega
  · split at e
    · omega
    · exact ⟨by omega, e⟩
theorem bt_mk {b : Nat} {x : Int} (hx : 0 ≤ x ∧ x < h b 1) (e : oq_and (h (h b 0).toNat x.toNat) 255 = 74) : bt h b x = 74 := by
  unfold bt
  rw [if_neg (by omega), if_neg (by omega)]; exact e
theorem br_all (hn : 1000000 ≤ nn) {a1 : Nat} {a2 : Int} (V : VS_ h) (S : SI_ h) (J : OJ h) (ta : a1 < cn_M h ∧ ly_T a1 = 1) (ha : 0 ≤ a2 ∧ a2 ≤ 6000) (hc : h 900000 0 < 700000) : Pc (qf_X7_bring nn a1 a2 h) (fun r => KEP h r.2.1 ∨ (0 ≤ r.1 ∧ r.2.1 56 4 = 0 ∧ OJ r.2.1)) := by
  have hb := (vi_r V).1.2
  have h0 := (vi_r V).1.1
  have g3 := gF_56_3 V
  have ib := im_at hb
  unfold qf_X7_bring
  refine pc_ck (fun _ => pc_ck (fun _ => pc_se (fun u3 e3 => ?_)))
  have F : ∀ c k, (c < (h 56 2).toNat ∨ (h 56 2).toNat + 6 < c) → u3.2 c k = h c k := fun c k q => (of_X3_read nn hb) _ e3 c k q
  have K : KEP h u3.2 := kep_rd V S J F
  obtain ⟨x0, x74⟩ := f3_read hb ta.2 ha.1 V _ e3
  have V3 := (okof (vf_X3_read hn hb (by omega) (by omega) V ta ha) e3).1
  refine pc_if (fun c => ?_) (fun _ => pc_xl (fun _ _ => pc_ret (.inl K)))
  have x74 := x74 c
  refine pc_ck (fun _ => pc_ck (fun _ => pc_if (fun _ => pc_ret (.inl K)) (fun c8 => ?_)))
  refine pc_ck (fun _ => pc_ck (fun _ => pc_se (fun _ _ => pc_ck (fun _ => pc_se (fun _ _ => pc_se (fun u15 _ => ?_))))))
  refine pc_if (fun _ => ?_) (fun _ => pc_ret (.inl K))
  refine pc_ck (fun _ => pc_se (fun u18 e18 => pc_se (fun u21 e21 => ?_)))
  have s2 : u3.2 56 2 = h 56 2 := F 56 2 (by omega)
  have s3 : u3.2 56 3 = h 56 3 := F 56 3 (by omega)
  have s9 : cn_M u3.2 = cn_M h := by unfold cn_M; rw [F 900000 0 (by omega)]
  rw [s2] at e18
  rw [s3] at c8
  have B3 := vi_b V3 hb
  have P := bt_pos x74
  have c256 := vi_c V
  have cm : cn_M h < 700000 := by unfold cn_M; omega
  -- the copy
  have K18 : (∀ c k, c ≠ cn_M h → c < 900000 → ¬ (c = (h 56 2).toNat ∧ k = 0) → u18.1 c k = u3.2 c k) ∧ u18.1 (h 56 2).toNat 0 = (cn_M h : Int) ∧ u18.1 (cn_M h) 0 = u3.2 (u3.2 (h 56 2).toNat 0).toNat 0 := by
    unfold qf_X3_keepOwn at e18
    obtain ⟨-, e18⟩ := ck_i e18
    obtain ⟨w, ew, e18⟩ := sv_i e18
    unfold qf_J7_copyOf_9075b at ew
    split at ew
    · have ew := Option.some.inj ew
      unfold wr_R at e18
      split at e18
      · have e18 := Option.some.inj e18
        rw [← e18, ← ew]
        rw [s9]
        refine ⟨fun c k q1 q2 q3 => ?_, up_s, ?_⟩
        · dsimp only
          rw [up_n q3]
          unfold nw_M
          rw [s9, if_neg q1, if_neg (by omega), if_neg (by omega)]
        · dsimp only
          rw [up_n (by omega)]
          unfold nw_M
          rw [s9, if_pos rfl]
          dsimp only
          rw [if_pos (.inr (by have := P.1.2; have := B3.2; omega))]
      · cases e18
    · cases ew
  obtain ⟨k1, k2, k3⟩ := K18
  have t2 : u18.1 56 2 = h 56 2 := (k1 _ _ (by omega) (by omega) (by omega)).trans s2
  have t3 : u18.1 56 3 = h 56 3 := (k1 _ _ (by omega) (by omega) (by omega)).trans s3
  have i21 := (sw_i e21).2
  rw [t3, t2] at i21
  refine pc_xl (fun v23 e23 => pc_xl (fun h24 e24 => pc_se (fun u26 e26 => pc_xl (fun v28 e28 => pc_xl (fun v29 e29 => pc_ret (.inr ?_))))))
  have y3 : u21 56 3 = h 56 3 := by rw [i21, up_n (by omega), up_n (by omega)]; exact t3
  rw [y3, oq_add_eq (by omega) (by omega) (by omega)] at e23
  have z3 : u26 56 3 = h 56 3 + 1 := by rw [rl_fr e26 56 3 (by omega), e24, up_s]; exact e23
  have G : ∀ c k, c ≠ 58 ∧ c ≠ 59 ∧ c ≠ 56 → ¬ (c = 60 ∧ k = (h 56 3).toNat) → u26 c k = u18.1 c k := by
    intro c k q1 q2
    rw [rl_fr e26 c k (by omega), e24, up_n (by omega), i21, up_n (by omega), up_n q2]
  have z60 : u26 60 (h 56 3).toNat = h 56 2 := by
    rw [rl_fr e26 60 _ (by omega), e24, up_n (by omega), i21, up_n (by omega), up_s]
  refine ⟨?_, rl_4 _ e26, fun k hk => ?_⟩
  · show 0 ≤ v29
    rw [e29, e28, z3, oq_add_eq (by omega) (by omega) (by omega), oq_sub_eq (by omega) (by omega) (by omega)]; omega
  · have hk : (k : Int) < h 56 3 + 1 := by rw [← z3]; exact hk
    show 256 ≤ (u26 (u26 60 k).toNat 0).toNat ∧ bt u26 (u26 60 k).toNat 0 = 74
    by_cases e : k = (h 56 3).toNat
    · rw [e, z60]
      have y0 : u26 (h 56 2).toNat 0 = (cn_M h : Int) := (G _ _ (by omega) (by omega)).trans k2
      have y1 : u26 (h 56 2).toNat 1 = u3.2 (h 56 2).toNat 1 := (G _ _ (by omega) (by omega)).trans (k1 _ _ (by omega) (by omega) (by omega))
      refine ⟨by rw [y0]; omega, bt_mk (by rw [y1]; exact P.1) ?_⟩
      rw [y0, Int.toNat_natCast, G _ _ (by omega) (by omega)]
      show oq_and (u18.1 (cn_M h) 0) 255 = 74
      rw [k3]; exact P.2
    · have hk2 : (k : Int) < h 56 3 := by omega
      have J1 := J k hk2
      have hd := V.2.2.2.2.1 k (by omega)
      have hne : (h 60 k).toNat ≠ (h 56 2).toNat := by have := S.2.2 k (by omega); omega
      have d := im_dis hb hd.2 hne
      have id := im_at hd.2
      have all : ∀ c j, (c < (h 56 2).toNat ∨ (h 56 2).toNat + 6 < c) → c ≠ 58 ∧ c ≠ 59 ∧ c ≠ 56 → ¬ (c = 60 ∧ j = (h 56 3).toNat) → c ≠ cn_M h → c < 900000 → u26 c j = h c j := by
        intro c j q1 q2 q3 q4 q5
        rw [G c j q2 q3, k1 c j q4 q5 (by omega), F c j q1]
      have m60 : u26 60 k = h 60 k := all _ _ (by omega) (by omega) (by omega) (by omega) (by omega)
      have m0 : u26 (h 60 k).toNat 0 = h (h 60 k).toNat 0 := all _ _ (by omega) (by omega) (by omega) (by omega) (by omega)
      have m1 : u26 (h 60 k).toNat 1 = h (h 60 k).toNat 1 := all _ _ (by omega) (by omega) (by omega) (by omega) (by omega)
      have Bd := vi_b V hd.2
      have P1 := bt_pos J1.2
      rw [m60, m0]
      refine ⟨J1.1, bt_mk (by rw [m1]; exact P1.1) ?_⟩
      rw [m0, all _ _ (by omega) (by omega) (by omega) (by omega) (by omega)]
      exact P1.2
theorem cva_fg (hn : 1000000 ≤ nn) {u : ms_M} (hp : 0 ≤ p) (V : VS_ h) (N : NM_ h) (S : SI_ h) (A : ¬ h 56 4 = 0 → STC h) (J : OJ h) (e : qf_X5_forget nn h = some u) : CVa p u := by
  have D := ci_fg hn hp V N S e
  have F : SPF h u := spf_fr (fun c k w => (ff_X5_forget nn) _ e c k w) rfl
  have W := spw_of V F
  have st := (fg_st e).1
  have k4 : u 56 4 = h 56 4 := (ff_X5_forget nn) _ e 56 4 rfl
  exact ⟨D, fun q => by omega, fun q => stc_w D.1 W (fun k => (ff_X5_forget nn) _ e 68 k (nw_ar rfl k)) (A (by rw [← k4]; exact q)), oj_w W J⟩
theorem cva_load (hn : 1000000 ≤ nn) (hp : 0 ≤ p) (C : CVa p h) (hc : h 900000 0 < 700000) : Ok_ (qf_X12_load nn h) (fun r => CVa p r.2.1 ∧ QB_ (h 900000 0) r) := by
  have g := gF_0_1 C.1.1
  obtain ⟨r, er, D, Q⟩ := ci_load hn hp C.1 hc
  refine ⟨r, er, ?_, Q⟩
  have er0 := er
  unfold qf_X12_load at er
  obtain ⟨u5, e5, er⟩ := sv_i er
  have t1 : 1 < cn_M h ∧ ly_T 1 = 1 := ⟨Nat.lt_of_lt_of_le (by decide) (vi_c C.1.1), rfl⟩
  have B := br_all hn C.1.1 C.1.2.2.1 C.2.2.2 t1 (by omega) hc _ e5
  have V5 := (okof (vf_X7_bring hn (by omega) C.1.1 t1 hc) e5).1
  have S5 := si_bring hn C.1.1 C.1.2.2.1 t1 (by omega) hc e5
  have N5 : NM_ u5.2.1 := nm_eq C.1.2.1 (fun k => (ff_X7_bring nn) _ e5 7 k (nw_ar rfl k)) ((ff_X7_bring nn) _ e5 2 9 rfl)
  rw [xl_eq] at er
  have V6 : VS_ (up_M u5.2.1 0 1 0) := wF_0_1 V5 (by omega)
  have N6 : NM_ (up_M u5.2.1 0 1 0) := nm_uf N5 (by decide)
  have S6 : SI_ (up_M u5.2.1 0 1 0) := si_up V5 S5 (by omega)
  have F6 : SPF u5.2.1 (up_M u5.2.1 0 1 0) := spf_up rfl (by omega)
  have W6 := spw_of V5 F6
  have A6 : ¬ up_M u5.2.1 0 1 0 56 4 = 0 → STC (up_M u5.2.1 0 1 0) := fun q => by
    rw [up_n (by omega)] at q
    refine stc_w V6 W6 (fun k => up_n (by omega)) ?_
    rcases B with K | ⟨-, z, -⟩
    · exact stc_w V5 K.1 K.2.1 (C.2.2.1 (by rw [← K.2.2.2.2.2]; exact q))
    · exact absurd z q
  have J6 : OJ (up_M u5.2.1 0 1 0) := oj_w W6 (by
    rcases B with K | ⟨-, -, J⟩
    · exact oj_w K.1 C.2.2.2
    · exact J)
  by_cases c : u5.1 < 0
  · rw [if_pos c] at er
    cases er
    refine ⟨D, ?_, A6, J6⟩
    rcases B with K | ⟨z, -⟩
    · exact wma_mv (wma_k V5 K C.2.1) (mv0_up rfl (by omega) (by omega)) (show up_M u5.2.1 0 1 0 143 1 = u5.2.1 143 1 from up_n (by omega))
    · omega
  · rw [if_neg c] at er
    obtain ⟨u9, e9, er⟩ := sv_i er
    cases er
    exact cva_fg hn hp V6 N6 S6 A6 J6 e9
theorem cva_keep (hn : 1000000 ≤ nn) (hp : 0 ≤ p) {a1 : Int} (C : CVa p h) (hc : h 900000 0 < 700000) : Ok_ (qf_X12_keep nn a1 h) (fun r => CVa p r.2.1 ∧ QB_ (h 900000 0) r) := by
  obtain ⟨r, er, D, Q⟩ := ci_keep hn hp C.1 hc
  refine ⟨r, er, ?_, Q⟩
  unfold qf_X12_keep at er
  obtain ⟨u6, e6, er⟩ := sv_i er
  have R := okof (vf_X12_imageOf C.1.1) e6
  by_cases c : u6 < 0
  · rw [if_pos c] at er
    unfold qj_X12_keep_24 at er
    rw [if_pos (by decide)] at er
    cases er
    exact C
  · rw [if_neg c] at er
    have R := R.resolve_left c
    unfold ln_S at er
    rw [if_pos ⟨R.1, by have := R.2.1; omega⟩] at er
    obtain ⟨u12, e12, er⟩ := sv_i er
    have l0 : 0 ≤ ln_I h u6.toNat := by
      unfold ln_I
      split
      · omega
      · exact C.1.1.2.1.2 _
    have t1 : u6.toNat < cn_M h ∧ ly_T u6.toNat = 1 := ⟨R.1, R.2.1⟩
    have B := br_all hn C.1.1 C.1.2.2.1 C.2.2.2 t1 ⟨l0, R.2.2⟩ hc _ e12
    have V5 := (okof (vf_X7_bring hn ⟨l0, R.2.2⟩ C.1.1 t1 hc) e12).1
    have S5 := si_bring hn C.1.1 C.1.2.2.1 t1 ⟨l0, R.2.2⟩ hc e12
    have N5 : NM_ u12.2.1 := nm_eq C.1.2.1 (fun k => (ff_X7_bring nn) _ e12 7 k (nw_ar rfl k)) ((ff_X7_bring nn) _ e12 2 9 rfl)
    have A6 : ¬ u12.2.1 56 4 = 0 → STC u12.2.1 := fun q => by
      rcases B with K | ⟨-, z, -⟩
      · exact stc_w V5 K.1 K.2.1 (C.2.2.1 (by rw [← K.2.2.2.2.2]; exact q))
      · exact absurd z q
    have J6 : OJ u12.2.1 := by
      rcases B with K | ⟨-, -, J⟩
      · exact oj_w K.1 C.2.2.2
      · exact J
    unfold qj_X12_keep_24 at er
    by_cases c2 : u12.1 < 0
    · rw [if_pos c2] at er
      cases er
      refine ⟨D, ?_, A6, J6⟩
      rcases B with K | ⟨z, -⟩
      · exact wma_k V5 K C.2.1
      · omega
    · rw [if_neg c2] at er
      obtain ⟨u9, e9, er⟩ := sv_i er
      cases er
      exact cva_fg hn hp V5 N5 S5 A6 J6 e9
end
end
section
/- PATCH KEEPS THE INVARIANT OF THE CLASS -/
section
variable {nn : Nat} {h g z : ms_M} {p q : Int}
theorem oq_b_id {x : Int} (hx : -128 ≤ x ∧ x ≤ 127) : oq_b x = x := by
  rw [oq_b_eq (by unfold in_R; omega)]
  unfold Int.bmod
  dsimp only
  split <;> omega
theorem chg_all (hn : 1000000 ≤ nn) {a1 a2 a3 : Int} (V : VS_ h) (S : SI_ h) (J : OJ h) : Pc (qf_X7_change nn a1 a2 a3 h) (fun r => (r.1 = 0 ∧ KEP h r.2) ∨ (¬ r.1 = 0 ∧ r.2 56 4 = 0 ∧ OJ r.2)) := by
  have hb := (vi_r V).1.2
  have h0 := (vi_r V).1.1
  have g3 := gF_56_3 V
  have ib := im_at hb
  have same : KEP h h := kep_rd V S J (fun _ _ _ => rfl)
  unfold qf_X7_change
  refine pc_se (fun u4 e4 => ?_)
  refine pc_if (fun _ => pc_ret (.inl ⟨rfl, same⟩)) (fun c4 => pc_if (fun _ => pc_ret (.inl ⟨rfl, same⟩)) (fun c2 => pc_ck (fun hd => ?_)))
  have I4 : (8 ≤ a1 ∧ a1 < 8 + h 56 3) ∧ u4 = h 60 (a1 - 8).toNat := by
    unfold qf_X7_imageOf at e4
    split at e4
    · cases e4; omega
    · rw [xl_eq, oq_add_eq (by omega) (by omega) (by omega)] at e4
      split at e4
      · cases e4; omega
      · rw [xl_eq, oq_sub_eq (by omega) (by omega) (by omega)] at e4
        have e4 := rd_i e4
        cases e4
        exact ⟨by omega, rfl⟩
  obtain ⟨ra, e4⟩ := I4
  have Jd := J (a1 - 8).toNat (by omega)
  rw [← e4] at Jd
  refine pc_if (fun c3 => ?_) (fun _ => pc_ret (.inl ⟨rfl, same⟩))
  have Bd := vi_b V hd
  refine pc_se (fun u9 e9 => ?_)
  have e9 : u9 = h u4.toNat 0 := by
    unfold qf_X3_ownBytes at e9
    obtain ⟨-, e9⟩ := ck_i e9
    have e9 := Option.some.inj e9
    rw [← e9]
    exact Int.toNat_of_nonneg Bd.1.1
  refine pc_ck (fun _ => ?_)
  intro r e
  have e := rt_i e
  rw [xl_eq] at e
  obtain ⟨hw, e⟩ := wti_ e
  have n9 : 256 ≤ u9.toNat := by rw [e9]; exact Jd.1
  have V13 : VS_ (up_M h u9.toNat a2.toNat (oq_b (oq_b a3))) := vs_wt V hw
  have f13 : ∀ c k, ¬ (c = u9.toNat ∧ k = a2.toNat) → up_M h u9.toNat a2.toNat (oq_b (oq_b a3)) c k = h c k := fun c k w => up_n w
  have l9 : u9.toNat < 900000 := by have := V.2.1.1; have := hw.1.1; unfold cn_M at this; omega
  have c13 : cn_M (up_M h u9.toNat a2.toNat (oq_b (oq_b a3))) = cn_M h := cn_up l9
  generalize up_M h u9.toNat a2.toNat (oq_b (oq_b a3)) = h13 at *
  obtain ⟨-, e⟩ := ck_i e
  obtain ⟨hb13, e⟩ := ck_i e
  obtain ⟨u17, e17, e⟩ := sv_i e
  have s2 : h13 56 2 = h 56 2 := f13 _ _ (by omega)
  rw [s2] at e17
  have g1 := gI_1 V13 hd
  have t9 : u9.toNat < cn_M h13 ∧ ly_T u9.toNat = 1 := ⟨by rw [c13]; exact hw.1.1, hw.1.2⟩
  obtain ⟨x0, x74⟩ := f3_read hb hw.1.2 g1.1 V13 _ e17
  have F17 : ∀ c k, (c < (h 56 2).toNat ∨ (h 56 2).toNat + 6 < c) → u17.2 c k = h13 c k := fun c k w => (of_X3_read nn hb) _ e17 c k w
  have F : ∀ c k, (c < (h 56 2).toNat ∨ (h 56 2).toNat + 6 < c) → ¬ (c = u9.toNat ∧ k = a2.toNat) → u17.2 c k = h c k := fun c k w1 w2 => (F17 c k w1).trans (f13 c k w2)
  have back : ∀ {r : Int × ms_M}, qj_X7_change_72 nn a2 ((u9.toNat : Nat) : Int) (h u9.toNat a2.toNat) u17.2 = some r → r.1 = 0 ∧ KEP h r.2 := by
    intro r e
    unfold qj_X7_change_72 at e
    obtain ⟨-, e⟩ := ck_i e
    obtain ⟨hw2, e⟩ := wti_ e
    cases e
    refine ⟨rfl, kep_rd V S J (fun c k w => ?_)⟩
    rw [Int.toNat_natCast]
    by_cases y : c = u9.toNat ∧ k = a2.toNat
    · rw [y.1, y.2]
      show up_M _ _ _ _ _ _ = _
      rw [up_s]
      exact oq_b_id (vi_y V hw.1.1 hw.1.2 (by omega))
    · show up_M _ _ _ _ c k = _
      rw [up_n y]; exact F c k w y
  by_cases d1 : ¬ u17.1 = -1
  · rw [if_pos d1] at e
    exact .inl (back e)
  · rw [if_neg d1] at e
    have x74 := x74 (Decidable.not_not.1 d1)
    obtain ⟨u19, e19, e⟩ := sv_i e
    by_cases d2 : u19 = 0
    · rw [if_pos d2, xl_eq, oq_sub_eq (by omega) (by omega) (by omega)] at e
      obtain ⟨u22, e22, e⟩ := sv_i e
      obtain ⟨u24, e24, e⟩ := sv_i e
      cases e
      right
      refine ⟨show ¬ (1 : Int) = 0 by decide, rl_4 _ e24, fun k hk => ?_⟩
      have i22 := (sw_i e22).2
      have q2 : u17.2 56 2 = h 56 2 := F 56 2 (by omega) (by omega)
      rw [q2] at i22
      have k3 : u24 56 3 = h 56 3 := by
        rw [rl_fr e24 56 3 (by omega), i22, up_n (by omega), up_n (by omega)]
        exact F 56 3 (by omega) (by omega)
      have hk : (k : Int) < h 56 3 := by rw [← k3]; exact hk
      show 256 ≤ (u24 (u24 60 k).toNat 0).toNat ∧ bt u24 (u24 60 k).toNat 0 = 74
      have G : ∀ c j, c ≠ 58 ∧ c ≠ 59 ∧ c ≠ 56 → ¬ (c = 60 ∧ j = (a1 - 8).toNat) → u24 c j = u17.2 c j := by
        intro c j w1 w2
        rw [rl_fr e24 c j (by omega), i22, up_n (by omega), up_n w2]
      have P := bt_pos x74
      rw [x0, Int.toNat_natCast] at P
      by_cases y : k = (a1 - 8).toNat
      · have m60 : u24 60 k = h 56 2 := by
          rw [y, rl_fr e24 60 _ (by omega), i22, up_n (by omega), up_s]
        rw [m60]
        have m0 : u24 (h 56 2).toNat 0 = ((u9.toNat : Nat) : Int) := (G _ _ (by omega) (by omega)).trans x0
        have m1 : u24 (h 56 2).toNat 1 = u17.2 (h 56 2).toNat 1 := G _ _ (by omega) (by omega)
        refine ⟨by rw [m0]; omega, bt_mk (by rw [m1]; exact P.1) ?_⟩
        rw [m0, Int.toNat_natCast, G _ _ (by omega) (by omega)]
        exact P.2
      · have J1 := J k hk
        have hdk := V.2.2.2.2.1 k (by omega)
        have hne : (h 60 k).toNat ≠ (h 56 2).toNat := by have := S.2.2 k (by omega); omega
        have d := im_dis hb hdk.2 hne
        have id := im_at hdk.2
        have m60 : u24 60 k = h 60 k := (G _ _ (by omega) (by omega)).trans (F _ _ (by omega) (by omega))
        have m0 : u24 (h 60 k).toNat 0 = h (h 60 k).toNat 0 := (G _ _ (by omega) (by omega)).trans (F _ _ (by omega) (by omega))
        have m1 : u24 (h 60 k).toNat 1 = h (h 60 k).toNat 1 := (G _ _ (by omega) (by omega)).trans (F _ _ (by omega) (by omega))
        have P1 := bt_pos J1.2
        rw [m60, m0]
        refine ⟨J1.1, bt_mk (by rw [m1]; exact P1.1) ?_⟩
        rw [m0]
        by_cases w : (h (h 60 k).toNat 0).toNat = u9.toNat
        · rw [w, G _ _ (by omega) (by omega)]
          exact P.2
        · rw [G _ _ (by omega) (by omega), F _ _ (by omega) (by omega)]
          exact P1.2
    · rw [if_neg d2] at e
      exact .inl (back e)
theorem cva_patch (hn : 1000000 ≤ nn) (hp : 0 ≤ p) {a1 a2 a3 : Int} (r1 : -2147483648 ≤ a1 ∧ a1 ≤ 2147483647) (C : CVa p h) : Ok_ (qf_X12_patch nn a1 a2 a3 h) (fun r => CVa p r.2) := by
  obtain ⟨r, er, D⟩ := ci_patch hn hp (a2 := a2) (a3 := a3) r1 C.1
  refine ⟨r, er, ?_⟩
  unfold qf_X12_patch at er
  obtain ⟨u3, e3, er⟩ := sv_i er
  have B := chg_all hn C.1.1 C.1.2.2.1 C.2.2.2 _ e3
  have V3 := (okof (vf_X7_change hn r1 C.1.1) e3).1
  have S3 := si_change hn C.1.1 C.1.2.2.1 e3
  have N3 : NM_ u3.2 := nm_eq C.1.2.1 (fun k => (ff_X7_change nn) _ e3 7 k (nw_ar rfl k)) ((ff_X7_change nn) _ e3 2 9 rfl)
  by_cases c : u3.1 = 0
  · rw [if_pos c] at er
    obtain ⟨-, er⟩ := ck_i er
    cases er
    rcases B with ⟨-, K⟩ | ⟨z, -⟩
    · exact cv_k C D K
    · exact absurd c z
  · rw [if_neg c] at er
    obtain ⟨u7, e7, er⟩ := sv_i er
    obtain ⟨-, er⟩ := ck_i er
    cases er
    rcases B with ⟨z, -⟩ | ⟨-, z, J⟩
    · exact absurd z c
    · exact cva_fg hn hp V3 N3 S3 (fun q => absurd z q) J e7
end
end
section
/- WHAT THE CALLS OF THE REFERENCE KEEP -/
section
variable {nn : Nat} {h g r z : ms_M} {p q P Q L : Int}
theorem rgo_k (V : VS_ r) (S : SPD r) (A : AGe h r) (N : ∀ x j : Nat, 246 ≤ x → x ≤ 255 → r x j = h x j) (e1 : r 160 141 = h 160 141) (e2 : r 160 142 = h 160 142) (e9 : r 160 149 = h 160 149) (G : RGO nn h) : RGO nn r := by
  obtain ⟨ω, g, X, hd, H, t, ⟨c, k, N2, T, U, a, p, ⟨b1, b2, b3, b4, b5⟩, C⟩, S2⟩ := G
  have K : HSM h r := ⟨fun x y1 y2 => funext fun j => N x j (by omega) (by omega), e1, e2⟩
  have hx := hsm_x K
  have L3 : ∀ i : Int, LWK h i r := fun i => ⟨fun y _ _ => ⟨N 251 _ (by omega) (by omega), N 252 _ (by omega) (by omega), N 253 _ (by omega) (by omega), N 254 _ (by omega) (by omega)⟩, fun y _ _ => N 255 _ (by omega) (by omega)⟩
  refine ⟨ω, g, ⟨X.1, age_tr X.2.1 A, V, S⟩, by rw [e9]; exact hd, hpo_s K H, t, ⟨c, k, N2, T, U, a, p, ⟨b1, b2, ?_, b4, ?_⟩, ?_⟩, ?_⟩
  · rw [e9, N 251 _ (by omega) (by omega), N 252 _ (by omega) (by omega)]; exact b3
  · rw [e9, N 253 _ (by omega) (by omega)]; exact b5
  · rw [e9]
    refine ⟨fun y y1 y2 => ?_, ?_, fun y y1 y2 => ?_⟩
    · rw [N 255 _ (by omega) (by omega)]; exact cv_x hx (C.1 y y1 y2)
    · rw [N 254 _ (by omega) (by omega)]; exact C.2.1
    · rw [N 255 _ (by omega) (by omega)]; exact cv_x hx (C.2.2 y y1 y2)
  · rw [e9]; exact stk_k _ _ (L3 _) hx S2
theorem vrd_k (A : AGe h r) (D : VRD nn h) : VRD nn r := by
  obtain ⟨ω, g, X, B⟩ := D
  exact ⟨ω, g, X, age_tr B A⟩
/-- the texts of the reference -/
def RTa (L : Int) (h : ms_M) : Prop := HW_ h ∧ NW_ h ∧ LB h ∧ h 160 88 ≤ L
/-- THE INVARIANT OF THE REFERENCE -/
def RVa (nn : Nat) (P L : Int) (h : ms_M) : Prop := RTa L h ∧ SPD h ∧ (¬ h 160 99 = 0 → VRD nn h) ∧ (h 160 138 = 1 → RGO nn h) ∧ (0 ≤ h 160 143 ∧ h 160 143 ≤ P)
theorem rta_k (N : ∀ x k : Nat, 163 ≤ x → x ≤ 220 → r x k = h x k) (e : r 160 88 = h 160 88) (A : RTa L h) : RTa L r := by
  obtain ⟨a, b, c, d⟩ := A
  refine ⟨⟨fun t ht => ?_, fun m hm => ?_⟩, fun t ht => ?_, fun i hi => ?_, by rw [e]; exact d⟩
  · rw [N 164 t (by omega) (by omega), N 165 t (by omega) (by omega)]; exact a.1 t ht
  · rw [N 188 m (by omega) (by omega), N 189 m (by omega) (by omega)]; exact a.2 m hm
  · rw [N 163 t (by omega) (by omega)] at ht
    rw [N 165 t (by omega) (by omega)]; exact b t ht
  · rw [N 219 i (by omega) (by omega), N 220 i (by omega) (by omega), e]; exact c i hi
/-- space and run of the reference are the same -/
theorem rva_k (V0 : VS_ h) (V : VS_ r) (T : RTa Q r) (N : ∀ x k : Nat, 226 ≤ x → x ≤ 255 → (x ≤ 237 ∨ 246 ≤ x) → r x k = h x k) (e : ∀ k : Nat, (k = 98 ∨ k = 99 ∨ k = 138 ∨ k = 141 ∨ k = 142 ∨ k = 143 ∨ k = 149) → r 160 k = h 160 k) (A : RVa nn P L h) : RVa nn P Q r := by
  obtain ⟨a, b, c, d, f⟩ := A
  have N1 : ∀ x k : Nat, 226 ≤ x → x ≤ 237 → r x k = h x k := fun x k y1 y2 => N x k (by omega) (by omega) (by omega)
  have S := spd_k V0 N1 (e 98 (by omega)) b
  have G := age_k N1 (e 98 (by omega))
  refine ⟨T, S, fun y => vrd_k G (c (by rw [← e 99 (by omega)]; exact y)), fun y => ?_, by rw [e 143 (by omega)]; exact f⟩
  exact rgo_k V S G (fun x j y1 y2 => N x j (by omega) (by omega) (by omega)) (e 141 (by omega)) (e 142 (by omega)) (e 149 (by omega)) (d (by rw [← e 138 (by omega)]; exact y))
theorem rva_all (V0 : VS_ h) (V : VS_ r) (N : ∀ x k : Nat, 160 ≤ x → x ≤ 255 → r x k = h x k) (A : RVa nn P L h) : RVa nn P L r :=
  rva_k V0 V (rta_k (fun x k y1 y2 => N x k (by omega) (by omega)) (N 160 88 (by omega) (by omega)) A.1) (fun x k y1 y2 _ => N x k (by omega) (by omega)) (fun k _ => N 160 k (by omega) (by omega)) A
/-- the class is left as it was -/
theorem cva_ref (V : VS_ g) (N : ∀ x k : Nat, (x < 160 ∨ 256 ≤ x) → g x k = h x k) (C : CVa p h) : CVa p g := by
  obtain ⟨⟨V0, M, S, d, e⟩, W, A, J⟩ := C
  have g3 := gF_56_3 V0
  have K : KEP h g := by
    refine ⟨⟨fun k => N _ _ (by omega), N _ _ (by omega), fun k hk => ⟨fun i j hi => ?_, fun j => ?_⟩⟩, fun k => N _ _ (by omega), fun k => N _ _ (by omega), fun k => N _ _ (by omega), ⟨N _ _ (by omega), N _ _ (by omega), N _ _ (by omega), N _ _ (by omega), N _ _ (by omega)⟩, N _ _ (by omega)⟩
    · have := im_at (V0.2.2.2.2.1 k (by omega)).2
      exact N _ _ (by omega)
    · have := (J k hk).1
      exact N _ _ (by omega)
  refine cv_k ⟨⟨V0, M, S, d, e⟩, W, A, J⟩ ⟨V, nm_eq M (fun k => N _ _ (by omega)) (N _ _ (by omega)), si_eq V0 S (fun k => N _ _ (by omega)) (N _ _ (by omega)) (fun b hb => ?_), ?_, ?_⟩ K
  · have := im_at hb
    exact ⟨N _ _ (by omega), fun k => N _ _ (by omega)⟩
  · rw [N _ _ (by omega), N _ _ (by omega)]; exact d
  · rw [N _ _ (by omega)]; exact e
theorem T_ref : (List.range 96).all (fun i => !(Nat.beq (ly_T (160 + i)) 1) && !(is_I (160 + i))) = true := by decide +kernel
theorem nw_ref {A : List Nat} {B : List (Nat × Nat)} {bI bB : Bool} {c k : Nat} (q : (A.all (fun x => Nat.blt x 160) && B.all (fun y => Nat.blt y.1 160)) = true) (hc : 160 ≤ c ∧ c ≤ 255) : nw_F A B bI bB c k = true := by
  rw [Bool.and_eq_true] at q
  have t := List.all_eq_true.mp T_ref (c - 160) (List.mem_range.mpr (by omega))
  rw [show 160 + (c - 160) = c by omega, Bool.and_eq_true] at t
  unfold nw_F
  simp only [Bool.and_eq_true, Bool.or_eq_true]
  refine ⟨?_, ?_, .inr t.2, .inr t.1⟩
  · cases hq : A.contains c with
    | false => rfl
    | true => have := List.all_eq_true.mp q.1 c (List.contains_iff_mem.mp hq); rw [Nat.blt_eq] at this; omega
  · cases hq : B.contains (c, k) with
    | false => rfl
    | true => have := List.all_eq_true.mp q.2 _ (List.contains_iff_mem.mp hq); rw [Nat.blt_eq] at this; omega
theorem nw_cls {A : List Nat} {B : List (Nat × Nat)} {c k : Nat} (q : (A.all (fun x => Nat.ble 160 x && Nat.ble x 255) && B.all (fun y => Nat.ble 160 y.1 && Nat.ble y.1 255)) = true) (hc : c < 160 ∨ 256 ≤ c) : nw_F A B false false c k = true := by
  rw [Bool.and_eq_true] at q
  unfold nw_F
  simp only [Bool.and_eq_true]
  refine ⟨?_, ?_, rfl, rfl⟩
  · cases hq : A.contains c with
    | false => rfl
    | true => have := List.all_eq_true.mp q.1 c (List.contains_iff_mem.mp hq); rw [Bool.and_eq_true, Nat.ble_eq, Nat.ble_eq] at this; omega
  · cases hq : B.contains (c, k) with
    | false => rfl
    | true => have := List.all_eq_true.mp q.2 _ (List.contains_iff_mem.mp hq); rw [Bool.and_eq_true, Nat.ble_eq, Nat.ble_eq] at this; dsimp only at this; omega
/-- BOTH -/
def BVa (nn : Nat) (P L : Int) (h : ms_M) : Prop := CVa P h ∧ RVa nn P L h
theorem bva_v (B : BVa nn P L h) : VS_ h := B.1.1.1
/-- a call of the class keeps the reference -/
theorem bva_c (B : BVa nn P L h) (C : CVa Q g) (le : P ≤ Q) (N : ∀ x k : Nat, 160 ≤ x → x ≤ 255 → g x k = h x k) : BVa nn Q L g := by
  have R := rva_all B.1.1.1 C.1.1 N B.2
  exact ⟨C, R.1, R.2.1, R.2.2.1, R.2.2.2.1, R.2.2.2.2.1, by have := R.2.2.2.2.2; omega⟩
/-- a call of the reference keeps the class -/
theorem bva_r (B : BVa nn P L h) (V : VS_ g) (R : RVa nn P Q g) (N : ∀ x k : Nat, (x < 160 ∨ 256 ≤ x) → g x k = h x k) : BVa nn P Q g := ⟨cva_ref V N B.1, R⟩
end
end

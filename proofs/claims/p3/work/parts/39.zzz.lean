section
variable {nn : Nat} {s h r z : ms_M} {w : Int} {T : List Int}
def CJ (s h : ms_M) : Prop := VS_ h ∧ MF s h ∧ True
def CV (s : ms_M) (w : Int) (h : ms_M) : Prop := CJ s h ∧ KP s w h ∧ h 160 66 = 0
theorem cj_np (C : CJ s h) (V : VS_ r) (N : NP h r) : CJ s r := ⟨V, mf_np C.2.1 N, trivial⟩
theorem cv_class (hn : 1000000 ≤ nn) (P : SP s) (Vs : VS_ s) {t : Int} (C : CV s w h) (hw : w ≤ 3001) (ht : -1 ≤ t ∧ t < 24 + 2 * s 160 24) : Ok_ (qf_X13_classConstant nn t h) (fun u => CV s w u.2 ∧ NP h u.2 ∧ (1 ≤ u.1 ∧ u.1 ≤ 1999 ∧ u.1 ≤ u.2 160 62 ∧ h 160 62 ≤ u.2 160 62)) := by
  obtain ⟨K, L, e⟩ := C
  have V := K.1
  have B := K.2.1
  have p2 := P.2.1
  have g24 := gF_160_24 Vs
  have I := si_t P Vs ht.2
  have J : ∀ u : ms_M, VS_ u → NS h u → SpL u (srcL s t.toNat) → Ok_ (qj_X13_classConstant_38 nn u) (fun u => CV s w u.2 ∧ NP h u.2 ∧ (1 ≤ u.1 ∧ u.1 ≤ 1999 ∧ u.1 ≤ u.2 160 62 ∧ h 160 62 ≤ u.2 160 62)) := fun u Vu Nu Su => by
    unfold qj_X13_classConstant_38
    refine ok_sv (kp_spelling hn Vu (kp_ns Nu L) hw I Su) ?_; intro u2 P2
    obtain ⟨V2, N2, L2, z2, t2⟩ := P2
    refine ok_sv (kp_class hn V2 L2 hw (by omega) t2) ?_; intro u4 P4
    obtain ⟨V4, N4, L4, z4, t4⟩ := P4
    have N := np_tr (np_ns Nu) (np_tr N2 N4)
    have n62 := Nu 160 62 (by decide) (by decide)
    exact ok_ret ⟨⟨cj_np K V4 N, L4, by show u4.2 160 66 = 0; omega⟩, N, by show 1 ≤ u4.1 ∧ u4.1 ≤ 1999 ∧ u4.1 ≤ u4.2 160 62 ∧ h 160 62 ≤ u4.2 160 62; omega⟩
  have en : Int.tdiv (((t.toNat : Nat) : Int) - 8) 2 = Int.tdiv (t - 8) 2 := by
    by_cases q : t = -1
    · rw [q]; rfl
    · rw [show ((t.toNat : Nat) : Int) = t by omega]
  unfold qf_X13_classConstant
  refine ok_if (fun C4 => ?_) (fun C4 => ?_)
  · refine ok_sv is_arr ?_; intro u5 P5
    refine ok_if (fun C => ?_) (fun C => ?_)
    · rcases P5 with P5 | P5
      · refine ok_sub (by omega) ?_; intro v6 e6
        refine ok_xl ?_; intro v7 e7
        rw [e6] at e7
        have w7 := td_lt (t := t) ht.2 g24.1
        have w8 : -1000 ≤ Int.tdiv (t - 8) 2 := by
          by_cases q : 8 ≤ t
          · rw [Int.tdiv_eq_ediv_of_nonneg (by omega)]; omega
          · rw [show t - 8 = -(8 - t) by omega, Int.neg_tdiv, Int.tdiv_eq_ediv_of_nonneg (by omega)]; omega
        refine ok_sv (sl_class hn P Vs V B (sp_nil e) (c := v7) (by omega) (by decide)) ?_; intro u9 P9
        obtain ⟨V9, N9, S9⟩ := P9
        refine J u9 V9 N9 ?_
        unfold srcL
        rw [if_pos (show t.toNat < 40 by omega), if_neg (show ¬ t.toNat = 4 by omega), if_neg ?_, en, ← e7]
        · rw [List.nil_append] at S9; exact S9
        · by_cases q : 8 ≤ t
          · have m : Int.tmod t 2 = t % 2 := Int.tmod_eq_emod_of_nonneg (by omega)
            have := P5.2.2; omega
          · omega
      · exact absurd C P5.1
    · rcases P5 with P5 | P5
      · exact absurd P5.1 C
      · refine ok_sv (sl_kind hn P Vs V B (sp_nil e) (t := t) (by omega) (by decide)) ?_; intro u11 P11
        obtain ⟨V1, N1, S1⟩ := P11
        refine J u11 V1 N1 ?_
        have m : Int.tmod t 2 = t % 2 := Int.tmod_eq_emod_of_nonneg (by have := P5.2; omega)
        unfold srcL
        rw [if_pos (show t.toNat < 40 by omega), if_neg (show ¬ t.toNat = 4 by omega), if_pos (show (8 ≤ t.toNat ∧ ¬ t.toNat % 2 = 0) by have := P5.2; omega), show ((t.toNat : Nat) : Int) = t by have := P5.2; omega]
        rw [List.nil_append] at S1; exact S1
  · have C' := Classical.not_not.mp C4
    refine ok_sv (sl_kind hn P Vs V B (sp_nil e) (t := t) (by omega) (by decide)) ?_; intro u14 P14
    obtain ⟨V1, N1, S1⟩ := P14
    refine J u14 V1 N1 ?_
    unfold srcL
    rw [if_pos (show t.toNat < 40 by omega), if_pos (show t.toNat = 4 by omega)]
    rw [List.nil_append, C'] at S1; exact S1
theorem cv_text (hn : 1000000 ≤ nn) (P : SP s) (Vs : VS_ s) {m t : Int} (C : CV s w h) (hw : w ≤ 3001) (hm : 0 ≤ m ∧ m < s 160 28) (et : t = s 186 m.toNat) : Ok_ (qf_X13_textOf nn t h) (fun u => CV s w u.2 ∧ NP h u.2 ∧ (1 ≤ u.1 ∧ u.1 ≤ 1999) ∧ (u.1 ≤ u.2 160 62 ∧ h 160 62 ≤ u.2 160 62)) := by
  obtain ⟨K, L, e⟩ := C
  have I := si_n (m := m.toNat) P (by omega)
  have p4 := P.2.2.2.1
  have g := gA_186 Vs m.toNat (by omega)
  have w12 := (P.2.2.2.2 m.toNat (by omega)).1
  rw [← et] at w12
  unfold qf_X13_textOf
  refine ok_sv (sl_tok hn K.1 K.2.1 (sp_nil e) (t := t) (by omega) (P.1.1 _ (by omega)) (by show (0 : Int) + _ ≤ _; omega)) ?_; intro u2 P2
  obtain ⟨V2, N2, S2⟩ := P2
  refine ok_sv (kp_spelling hn V2 (kp_ns N2 L) hw I ?_) ?_
  · unfold srcL
    rw [if_neg (show ¬ 40 + m.toNat < 40 by omega), if_pos (show 40 + m.toNat < 232 by omega), show 40 + m.toNat - 40 = m.toNat by omega, ← et]
    rw [List.nil_append] at S2; exact S2
  · intro u4 P4
    obtain ⟨V4, N4, L4, z4, t4⟩ := P4
    have N := np_tr (np_ns N2) N4
    have rm := kp_room L4 hw
    have t1 := t4.1
    have n62 := N2 160 62 (by decide) (by decide)
    exact ok_ret ⟨⟨cj_np K V4 N, L4, z4.1⟩, N, by show 1 ≤ u4.1 ∧ u4.1 ≤ 1999; omega, t1.2, by show h 160 62 ≤ u4.2 160 62; omega⟩
theorem cv_kind56 (hn : 1000000 ≤ nn) (P : SP s) (Vs : VS_ s) {m : Int} (K : CJ s z) (N0 : NS z h) (V : VS_ h) (L : KP s w h) (hw : w ≤ 3001) (hm : 0 ≤ m ∧ m < s 160 28) (S : SpL h (if s 182 m.toNat ≤ 0 then [] else [40] ++ (parL s (s 188 m.toNat).toNat (s 189 m.toNat).toNat ++ [41]))) : Ok_ (qj_X13_kindOf_56 nn m h) (fun u => CV s w u.2 ∧ NP z u.2 ∧ (1 ≤ u.1 ∧ u.1 ≤ 1999) ∧ (u.1 ≤ u.2 160 62 ∧ z 160 62 ≤ u.2 160 62)) := by
  have I := si_k (m := m.toNat) P Vs (by omega)
  have p4 := P.2.2.2.1
  obtain ⟨q1, q2, q3, q4⟩ := P.2.2.2.2 m.toNat (by omega)
  have B := mf_np K.2.1 (np_ns N0)
  have ml := mk_len P Vs (m := m.toNat) (by omega)
  unfold mkL at ml
  rw [List.length_append] at ml
  have g9 := gA_189 Vs m.toNat (by omega)
  unfold qj_X13_kindOf_56
  refine ok_rd (by omega) (gA_187 V) ?_; intro v2 e2 a2 b2
  have e2' : v2 = s 187 m.toNat := by rw [e2]; exact B 187 _ (nw_ar rfl _)
  refine ok_sv (sl_kind hn P Vs V B S (t := v2) (by omega) (by omega)) ?_; intro u4 P4
  obtain ⟨V4, N4, S4⟩ := P4
  refine ok_sv (kp_spelling hn V4 (kp_ns N4 L) hw I ?_) ?_
  · unfold srcL mkL
    rw [if_neg (show ¬ 232 + m.toNat < 40 by omega), if_neg (show ¬ 232 + m.toNat < 232 by omega), show 232 + m.toNat - 232 = m.toNat by omega, ← e2']
    exact S4
  · intro u6 P6
    obtain ⟨V6, N6, L6, z6, t6⟩ := P6
    have N := np_tr (np_ns (ns_tr N0 N4)) N6
    have rm := kp_room L6 hw
    have t1 := t6.1
    have n62 := (ns_tr N0 N4) 160 62 (by decide) (by decide)
    exact ok_ret ⟨⟨cj_np K V6 N, L6, z6.1⟩, N, by show 1 ≤ u6.1 ∧ u6.1 ≤ 1999; omega, t1.2, by show z 160 62 ≤ u6.2 160 62; omega⟩
theorem cv_kind17 (hn : 1000000 ≤ nn) (P : SP s) (Vs : VS_ s) {m : Int} (K : CJ s z) (hw : w ≤ 3001) (hm : 0 ≤ m ∧ m < s 160 28) (h0 : ¬ s 182 m.toNat ≤ 0) : ∀ (k : Nat) (l2 : Int) (h : ms_M), NS z h → VS_ h → KP s w h → 0 ≤ l2 → l2 ≤ s 189 m.toNat → s 189 m.toNat - l2 < (k : Int) → SpL h ([40] ++ parL s (s 188 m.toNat).toNat l2.toNat) → Ok_ (qw_X13_kindOf_17 nn k m l2 h) (fun u => CV s w u.2 ∧ NP z u.2 ∧ (1 ≤ u.1 ∧ u.1 ≤ 1999) ∧ (u.1 ≤ u.2 160 62 ∧ z 160 62 ≤ u.2 160 62)) := by
  have p4 := P.2.2.2.1
  obtain ⟨q1, q2, q3, q4⟩ := P.2.2.2.2 m.toNat (by omega)
  have g9 := gA_189 Vs m.toNat (by omega)
  have g8 := gA_188 Vs m.toNat (by omega)
  have hw2 := P.1.2 m.toNat (by omega)
  intro k
  induction k with
  | zero => intro l2 h N0 V L a1 a2 hm; exfalso; omega
  | succ k ih =>
    intro l2 h N0 V L a1 a2 hk S
    have B := mf_np K.2.1 (np_ns N0)
    have e9 : h 189 m.toNat = s 189 m.toNat := B 189 _ (nw_ar rfl _)
    have e8 : h 188 m.toNat = s 188 m.toNat := B 188 _ (nw_ar rfl _)
    have pl := par_len P Vs l2.toNat (s 188 m.toNat).toNat (fun k hk => q4 k (by omega))
    have ll : ((([40] ++ parL s (s 188 m.toNat).toNat l2.toNat : List Int).length : Nat) : Int) ≤ 91 := by rw [List.length_append, List.length_singleton]; omega
    unfold qw_X13_kindOf_17
    refine ok_rd (by omega) (gA_189 V) ?_; intro v8 e8' _ _
    refine ok_if (fun C => ?_) (fun C => ?_)
    · refine ok_sv (sl_spell V S (by omega) (by omega)) ?_; intro u10 P10
      obtain ⟨V1, N1, S1⟩ := P10
      refine cv_kind56 hn P Vs K (ns_tr N0 N1) V1 (kp_ns N1 L) hw hm ?_
      rw [if_neg h0, show (s 189 m.toNat).toNat = l2.toNat by omega]
      rw [List.append_assoc] at S1; exact S1
    · refine ok_rd (by omega) (gA_188 V) ?_; intro v13 e13 _ _
      refine ok_add (by omega) ?_; intro v14 e14
      refine ok_rd (by omega) (gA_195 V) ?_; intro v15 e15 a15 b15
      have e15' : v15 = s 195 ((s 188 m.toNat).toNat + l2.toNat) := by rw [e15, B 195 _ (nw_ar rfl _), show v14.toNat = (s 188 m.toNat).toNat + l2.toNat by omega]
      have t15 := q4 l2.toNat (by omega)
      rw [← e15'] at t15
      refine ok_sv (sl_kind hn P Vs V B S (t := v15) (by omega) (by omega)) ?_; intro u17 P17
      obtain ⟨V7, N7, S7⟩ := P17
      refine ok_add (by omega) ?_; intro v18 e18
      refine ih v18 u17 (ns_tr N0 N7) V7 (kp_ns N7 L) (by omega) (by omega) (by omega) ?_
      rw [show v18.toNat = l2.toNat + 1 by omega, par_snoc, ← e15']
      rw [List.append_assoc] at S7; exact S7
theorem cv_kind (hn : 1000000 ≤ nn) (P : SP s) (Vs : VS_ s) {m : Int} (C : CV s w h) (hw : w ≤ 3001) (hm : 0 ≤ m ∧ m < s 160 28) : Ok_ (qf_X13_kindOf nn m h) (fun u => CV s w u.2 ∧ NP h u.2 ∧ (1 ≤ u.1 ∧ u.1 ≤ 1999) ∧ (u.1 ≤ u.2 160 62 ∧ h 160 62 ≤ u.2 160 62)) := by
  obtain ⟨K, L, e⟩ := C
  have p4 := P.2.2.2.1
  have e2 : h 182 m.toNat = s 182 m.toNat := K.2.1 182 _ (nw_ar rfl _)
  have g9 := gA_189 Vs m.toNat (by omega)
  unfold qf_X13_kindOf
  refine ok_rd (by omega) (gA_182 K.1) ?_; intro v21 e21 _ _
  refine ok_if (fun C => ?_) (fun C => ?_)
  · refine cv_kind56 hn P Vs K ns_rf K.1 L hw hm ?_
    rw [if_pos (by omega)]; exact sp_nil e
  · refine ok_sv (sl_spell K.1 (sp_nil e) (by omega) (by decide)) ?_; intro u23 P23
    obtain ⟨V3, N3, S3⟩ := P23
    refine cv_kind17 hn P Vs K hw hm (by omega) nn 0 u23 N3 V3 (kp_ns N3 L) (by omega) (by omega) (by omega) ?_
    exact S3
end

section
variable {nn : Nat} {s h r z : ms_M} {w : Int} {T : List Int}
theorem sl_class (hn : 1000000 ≤ nn) (P : SP s) (Vs : VS_ s) {c : Int} (V : VS_ h) (B : MF s h) (S : SpL h T) (hc : -1000 ≤ c ∧ c < 8 + s 160 24) (hl : (T.length : Int) + 12 ≤ 200) : Ok_ (qf_X13_spellClass nn c h) (fun r => VS_ r ∧ NS h r ∧ SpL r (T ++ clsL s c)) := by
  have cl := cls_len P Vs hc.2
  have g := gF_160_24 Vs
  have p2 := P.2.1
  unfold qf_X13_spellClass
  unfold clsL at cl ⊢
  refine ok_if (fun C => ?_) (fun C => ?_)
  · rw [if_pos C] at cl ⊢
    exact sl_cls24 nn 80 (-1) 0 T h V S (by omega) (by omega) (by omega) (by omega) (by omega)
  · rw [if_neg C] at cl ⊢
    refine ok_sub (by omega) ?_; intro v14 e14
    refine ok_rd (by omega) (gA_178 V) ?_; intro v15 e15 a15 b15
    have q : v15 = s 178 (c - 8).toNat := by rw [e15, e14]; exact B 178 _ (nw_ar rfl _)
    rw [← q] at cl ⊢
    rw [tokL_len] at cl
    have g5 := gA_165 Vs v15.toNat (by omega)
    refine ok_sv (sl_tok hn V B S (by omega) (P.1.1 _ (by omega)) (by omega)) ?_; intro u17 P17
    exact ok_ret P17
theorem sl_kind54 (hn : 1000000 ≤ nn) (P : SP s) (Vs : VS_ s) {t : Int} (V : VS_ h) (B : MF s h) (S : SpL h T) (ht : -1000 ≤ t ∧ t < 24 + 2 * s 160 24) (hl : (T.length : Int) + 14 ≤ 200) : Ok_ (qj_X13_spellKind_54 nn t h) (fun r => VS_ r ∧ NS h r ∧ SpL r (T ++ (if t = 4 then [73] else [76] ++ clsL s (Int.tdiv (t - 8) 2) ++ [59]))) := by
  have g := gF_160_24 Vs
  have p2 := P.2.1
  have cl := cls_len (c := Int.tdiv (t - 8) 2) P Vs (td_lt ht.2 g.1)
  unfold qj_X13_spellKind_54
  refine ok_if (fun C => ?_) (fun C => ?_)
  · rw [if_neg C]
    refine ok_sv (sl_spell V S (by omega) (by omega)) ?_; intro u2 P2
    obtain ⟨V2, N2, S2⟩ := P2
    refine ok_sub (by omega) ?_; intro v3 e3
    refine ok_xl ?_; intro v4 e4
    rw [e3] at e4
    refine ok_sv (sl_class hn P Vs V2 (mf_np B (np_ns N2)) S2 ⟨?_, ?_⟩ (by rw [List.length_append, List.length_singleton]; omega)) ?_
    · rw [e4]
      by_cases q : 8 ≤ t
      · rw [Int.tdiv_eq_ediv_of_nonneg (by omega)]; omega
      · rw [show t - 8 = -(8 - t) by omega, Int.neg_tdiv, Int.tdiv_eq_ediv_of_nonneg (by omega)]; omega
    · rw [e4]; exact td_lt ht.2 g.1
    · intro u6 P6
      obtain ⟨V6, N6, S6⟩ := P6
      rw [e4] at S6
      refine ok_sv (sl_spell V6 S6 (by omega) (by rw [List.length_append, List.length_append, List.length_singleton]; omega)) ?_; intro u8 P8
      obtain ⟨V8, N8, S8⟩ := P8
      refine ok_ret ⟨V8, ns_tr N2 (ns_tr N6 N8), ?_⟩
      rw [List.append_assoc, List.append_assoc] at S8
      rw [List.append_assoc]
      exact S8
  · have C' := Classical.not_not.mp C
    rw [if_pos C']
    refine ok_sv (sl_spell V S (by omega) (by omega)) ?_; intro u10 P
    exact ok_ret P
theorem is_arr {a : Int} : Ok_ (qf_X13_isArray nn a h) (fun u => (u = 0 ∧ ¬ a = 4 ∧ ¬ (8 ≤ a ∧ ¬ Int.tmod a 2 = 0)) ∨ (¬ u = 0 ∧ (a = 4 ∨ (8 ≤ a ∧ ¬ Int.tmod a 2 = 0)))) := by
  unfold qf_X13_isArray
  refine ok_if (fun C => ok_ret (.inr ⟨by decide, .inl C⟩)) (fun C => ?_)
  refine ok_if (fun C2 => ok_ret (.inl ⟨rfl, C, by omega⟩)) (fun C2 => ?_)
  refine ok_xl ?_; intro v1 e1
  by_cases q : 8 ≤ a
  · have t : Int.tmod a 2 = a % 2 := Int.tmod_eq_emod_of_nonneg (by omega)
    rw [t] at e1 ⊢
    refine ok_if (fun C3 => ok_ret ?_) (fun C3 => ok_ret ?_)
    · exact .inl ⟨rfl, C, by omega⟩
    · exact .inr ⟨by decide, .inr ⟨by omega, by omega⟩⟩
  · exfalso; omega
theorem sl_kind (hn : 1000000 ≤ nn) (P : SP s) (Vs : VS_ s) {t : Int} (V : VS_ h) (B : MF s h) (S : SpL h T) (ht : -1000 ≤ t ∧ t < 24 + 2 * s 160 24) (hl : (T.length : Int) + 15 ≤ 200) : Ok_ (qf_X13_spellKind nn t h) (fun r => VS_ r ∧ NS h r ∧ SpL r (T ++ kndL s t)) := by
  unfold qf_X13_spellKind kndL
  refine ok_if (fun C0 => ?_) (fun C0 => ?_)
  · rw [if_neg C0]
    refine ok_if (fun C1 => ?_) (fun C1 => ?_)
    · rw [if_neg C1]
      refine ok_if (fun C3 => ?_) (fun C3 => ?_)
      · rw [if_neg C3]
        refine ok_sv is_arr ?_; intro u12 P12
        refine ok_if (fun C => ?_) (fun C => ?_)
        · rcases P12 with P12 | P12
          · refine ok_im (sl_kind54 hn P Vs V B S ht (by omega)) (fun r Q => ?_)
            rw [if_neg P12.2.1] at Q ⊢
            rw [if_neg P12.2.2, List.nil_append]
            exact Q
          · exact absurd C P12.1
        · rcases P12 with P12 | P12
          · exact absurd P12.1 C
          · refine ok_sv (sl_spell V S (by omega) (by omega)) ?_; intro u14 P14
            obtain ⟨V4, N4, S4⟩ := P14
            refine ok_im (sl_kind54 hn P Vs V4 (mf_np B (np_ns N4)) S4 ht (by rw [List.length_append, List.length_singleton]; omega)) (fun r Q => ⟨Q.1, ns_tr N4 Q.2.1, ?_⟩)
            have Q2 := Q.2.2
            rw [List.append_assoc] at Q2
            by_cases q : t = 4
            · rw [if_pos q] at Q2 ⊢; exact Q2
            · rw [if_neg q] at Q2 ⊢
              rcases P12.2 with z | z
              · exact absurd z q
              · rw [if_pos z]; exact Q2
      · rw [if_pos (Classical.not_not.mp C3)]
        refine ok_sv (sl_spell V S (by omega) (by omega)) ?_; intro u P
        exact ok_ret P
    · rw [if_pos (Classical.not_not.mp C1)]
      refine ok_sv (sl_spell V S (by omega) (by omega)) ?_; intro u P
      exact ok_ret P
  · rw [if_pos (Classical.not_not.mp C0)]
    refine ok_sv (sl_spell V S (by omega) (by omega)) ?_; intro u P
    exact ok_ret P
theorem sp_nil (e : h 160 66 = 0) : SpL h [] := ⟨e, fun j v hj => by cases hj⟩
/-- what is spelled does not count -/
theorem kp_ns (N : NS h r) (K : KP s w h) : KP s w r := by
  have a : ∀ c k, c ≠ 205 → ¬ (c = 160 ∧ k = 66) → r c k = h c k := N
  have tT : ∀ c T, isT r c T ↔ isT h c T := fun c T => by
    unfold isT
    rw [a 160 62 (by decide) (by decide), a 200 _ (by decide) (by omega), a 202 _ (by decide) (by omega), a 201 _ (by decide) (by omega)]
    constructor
    · intro x; exact ⟨x.1, x.2.1, x.2.2.1, fun j v hj => by rw [← a 204 _ (by decide) (by omega)]; exact x.2.2.2 j v hj⟩
    · intro x; exact ⟨x.1, x.2.1, x.2.2.1, fun j v hj => by rw [a 204 _ (by decide) (by omega)]; exact x.2.2.2 j v hj⟩
  obtain ⟨⟨k01, k02⟩, b1, b3, k1, k2, k3, k4⟩ := K
  refine ⟨⟨fun c c1 c2 => ?_, fun c d T x y => k02 c d T ((tT c T).1 x) ((tT d T).1 y)⟩, b1, b3, fun i x y => ?_, fun i x y => ?_, by rw [a 160 62 (by decide) (by decide)]; exact k3, by rw [a 160 64 (by decide) (by decide)]; exact k4⟩
  · rw [a 160 62 (by decide) (by decide)] at c2
    have z := k01 c c1 c2
    refine ⟨kv_eq z.1 (a 200 _ (by decide) (by omega)) (a 201 _ (by decide) (by omega)) (a 202 _ (by decide) (by omega)) (a 203 _ (by decide) (by omega)) (by rw [a 160 62 (by decide) (by decide)]; exact Int.le_refl _), ?_⟩
    rw [a 200 _ (by decide) (by omega), a 201 _ (by decide) (by omega), a 202 _ (by decide) (by omega), a 160 64 (by decide) (by decide)]
    exact z.2
  · obtain ⟨c, z⟩ := k1 i x y
    exact ⟨c, (tT _ _).2 z⟩
  · obtain ⟨c, d, z1, z2⟩ := k2 i x y
    refine ⟨c, d, (tT _ _).2 z1, ?_⟩
    unfold isC
    rw [a 160 62 (by decide) (by decide), a 200 _ (by decide) (by omega), a 201 _ (by decide) (by omega), a 202 _ (by decide) (by omega), a 203 _ (by decide) (by omega)]
    exact z2
theorem kp_spelling (hn : 1000000 ≤ nn) {i : Nat} (V : VS_ h) (K : KP s w h) (hw : w ≤ 3001) (I : SI s i) (S : SpL h (srcL s i)) : Ok_ (qf_X13_spelling nn h) (fun u => VS_ u.2 ∧ NP h u.2 ∧ KP s w u.2 ∧ (u.2 160 66 = 0 ∧ h 160 62 ≤ u.2 160 62) ∧ isT u.2 u.1 (srcL s i)) := by
  unfold qf_X13_spelling
  refine ok_xl ?_; intro h38 E
  have V8 : VS_ h38 := by rw [E]; exact wF_160_66 V (by omega)
  have N : NS h h38 := fun c k a b => by rw [E]; exact up_n b
  have g62 := gF_160_62 V8
  rw [S.1]
  refine ok_im (kp_12 hn V8 (kp_ns N K) hw I (fun j v hj => by rw [E, up_n (by omega)]; exact S.2 j v hj) nn 1 (by omega) (by omega) (by omega) (fun c hc x => by have := x.1; omega)) (fun u P => ?_)
  obtain ⟨p1, p2, p3, p4, p5⟩ := P
  exact ⟨p1, np_tr (np_ns N) p2, p3, ⟨by rw [p4.1, E]; exact up_s, by have := N 160 62 (by decide) (by decide); omega⟩, p5⟩
/-- the code that is being made, and the pool -/
def CW (s : ms_M) (w : Int) (h : ms_M) : Prop := CK s h ∧ KP s w h ∧ h 160 66 = 0
theorem ck_np (C : CK s h) (V : VS_ r) (N : NP h r) : CK s r := by
  obtain ⟨_, B, P, I, J, H, D⟩ := C
  have e : ∀ k : Nat, k ≠ 62 → k ≠ 64 → k ≠ 66 → r 160 k = h 160 k := fun k a b c => N 160 k (by decide) (by omega)
  have e71 := e 71 (by decide) (by decide) (by decide)
  have e72 := e 72 (by decide) (by decide) (by decide)
  have e78 := e 78 (by decide) (by decide) (by decide)
  have e79 := e 79 (by decide) (by decide) (by decide)
  have e84 := e 84 (by decide) (by decide) (by decide)
  have e87 := e 87 (by decide) (by decide) (by decide)
  have e88 := e 88 (by decide) (by decide) (by decide)
  have e68 := e 68 (by decide) (by decide) (by decide)
  refine ⟨V, mf_np B N, fp_eq P (fun k => ⟨N 207 k (by decide) (by omega), N 197 k (by decide) (by omega)⟩) (e 50 (by decide) (by decide) (by decide)) (e 70 (by decide) (by decide) (by decide)) e71 e72 (e 52 (by decide) (by decide) (by decide)), fi_eq I (fun c k a b => N c k (by omega) (by omega)) e71 e72 e78 e79, fun i hi => ?_, fun f hf => ?_, ?_⟩
  · rw [N 218 i (by decide) (by omega), e88]; exact J i (by omega)
  · rw [N 216 f (by decide) (by omega)]; exact H f (by omega)
  · unfold DW
    rw [e87, e68, e79, e72, e71, e84]; exact D
theorem cw_class (hn : 1000000 ≤ nn) (P : SP s) (Vs : VS_ s) {t : Int} (C : CW s w h) (hw : w ≤ 3001) (ht : -1 ≤ t ∧ t < 24 + 2 * s 160 24) : Ok_ (qf_X13_classConstant nn t h) (fun u => CW s w u.2 ∧ NP h u.2 ∧ (1 ≤ u.1 ∧ u.1 ≤ 1999 ∧ u.1 ≤ u.2 160 62 ∧ h 160 62 ≤ u.2 160 62)) := by
  obtain ⟨K, L, e⟩ := C
  have V := K.1
  have B := K.2.1
  have p2 := P.2.1
  have g24 := gF_160_24 Vs
  have I := si_t P Vs ht.2
  have J : ∀ u : ms_M, VS_ u → NS h u → SpL u (srcL s t.toNat) → Ok_ (qj_X13_classConstant_38 nn u) (fun u => CW s w u.2 ∧ NP h u.2 ∧ (1 ≤ u.1 ∧ u.1 ≤ 1999 ∧ u.1 ≤ u.2 160 62 ∧ h 160 62 ≤ u.2 160 62)) := fun u Vu Nu Su => by
    unfold qj_X13_classConstant_38
    refine ok_sv (kp_spelling hn Vu (kp_ns Nu L) hw I Su) ?_; intro u2 P2
    obtain ⟨V2, N2, L2, z2, t2⟩ := P2
    refine ok_sv (kp_class hn V2 L2 hw (by omega) t2) ?_; intro u4 P4
    obtain ⟨V4, N4, L4, z4, t4⟩ := P4
    have N := np_tr (np_ns Nu) (np_tr N2 N4)
    have n62 := Nu 160 62 (by decide) (by decide)
    exact ok_ret ⟨⟨ck_np K V4 N, L4, by show u4.2 160 66 = 0; omega⟩, N, by show 1 ≤ u4.1 ∧ u4.1 ≤ 1999 ∧ u4.1 ≤ u4.2 160 62 ∧ h 160 62 ≤ u4.2 160 62; omega⟩
  have en : Int.tdiv (((t.toNat : Nat) : Int) - 8) 2 = Int.tdiv (t - 8) 2 := by
    by_cases q : t = -1
    · rw [q]; rfl
    · rw [show ((t.toNat : Nat) : Int) = t by omega]
  unfold qf_X13_classConstant
  refine ok_if (fun C4 => ?_) (fun C4 => ?_)
  · refine ok_sv is_arr ?_; intro u5 P5
    refine ok_if (fun C => ?_) (fun C => ?_)
    · rcases P5 with P5 | P5
      · refine ok_sub (by omega) ?_; intro v6 e6
        refine ok_xl ?_; intro v7 e7
        rw [e6] at e7
        have w7 := td_lt (t := t) ht.2 g24.1
        have w8 : -1000 ≤ Int.tdiv (t - 8) 2 := by
          by_cases q : 8 ≤ t
          · rw [Int.tdiv_eq_ediv_of_nonneg (by omega)]; omega
          · rw [show t - 8 = -(8 - t) by omega, Int.neg_tdiv, Int.tdiv_eq_ediv_of_nonneg (by omega)]; omega
        refine ok_sv (sl_class hn P Vs V B (sp_nil e) (c := v7) (by omega) (by decide)) ?_; intro u9 P9
        obtain ⟨V9, N9, S9⟩ := P9
        refine J u9 V9 N9 ?_
        unfold srcL
        rw [if_pos (show t.toNat < 40 by omega), if_neg (show ¬ t.toNat = 4 by omega), if_neg ?_, en, ← e7]
        · rw [List.nil_append] at S9; exact S9
        · by_cases q : 8 ≤ t
          · have m : Int.tmod t 2 = t % 2 := Int.tmod_eq_emod_of_nonneg (by omega)
            have := P5.2.2; omega
          · omega
      · exact absurd C P5.1
    · rcases P5 with P5 | P5
      · exact absurd P5.1 C
      · refine ok_sv (sl_kind hn P Vs V B (sp_nil e) (t := t) (by omega) (by decide)) ?_; intro u11 P11
        obtain ⟨V1, N1, S1⟩ := P11
        refine J u11 V1 N1 ?_
        have m : Int.tmod t 2 = t % 2 := Int.tmod_eq_emod_of_nonneg (by have := P5.2; omega)
        unfold srcL
        rw [if_pos (show t.toNat < 40 by omega), if_neg (show ¬ t.toNat = 4 by omega), if_pos (show (8 ≤ t.toNat ∧ ¬ t.toNat % 2 = 0) by have := P5.2; omega), show ((t.toNat : Nat) : Int) = t by have := P5.2; omega]
        rw [List.nil_append] at S1; exact S1
  · have C' := Classical.not_not.mp C4
    refine ok_sv (sl_kind hn P Vs V B (sp_nil e) (t := t) (by omega) (by decide)) ?_; intro u14 P14
    obtain ⟨V1, N1, S1⟩ := P14
    refine J u14 V1 N1 ?_
    unfold srcL
    rw [if_pos (show t.toNat < 40 by omega), if_pos (show t.toNat = 4 by omega)]
    rw [List.nil_append, C'] at S1; exact S1
theorem cw_text (hn : 1000000 ≤ nn) (P : SP s) (Vs : VS_ s) {m t : Int} (C : CW s w h) (hw : w ≤ 3001) (hm : 0 ≤ m ∧ m < s 160 28) (et : t = s 186 m.toNat) : Ok_ (qf_X13_textOf nn t h) (fun u => CW s w u.2 ∧ NP h u.2 ∧ (1 ≤ u.1 ∧ u.1 ≤ 1999) ∧ (u.1 ≤ u.2 160 62 ∧ h 160 62 ≤ u.2 160 62)) := by
  obtain ⟨K, L, e⟩ := C
  have I := si_n (m := m.toNat) P (by omega)
  have p4 := P.2.2.2.1
  have g := gA_186 Vs m.toNat (by omega)
  have w12 := (P.2.2.2.2 m.toNat (by omega)).1
  rw [← et] at w12
  unfold qf_X13_textOf
  refine ok_sv (sl_tok hn K.1 K.2.1 (sp_nil e) (t := t) (by omega) (P.1.1 _ (by omega)) (by show (0 : Int) + _ ≤ _; omega)) ?_; intro u2 P2
  obtain ⟨V2, N2, S2⟩ := P2
  refine ok_sv (kp_spelling hn V2 (kp_ns N2 L) hw I ?_) ?_
  · unfold srcL
    rw [if_neg (show ¬ 40 + m.toNat < 40 by omega), if_pos (show 40 + m.toNat < 232 by omega), show 40 + m.toNat - 40 = m.toNat by omega, ← et]
    rw [List.nil_append] at S2; exact S2
  · intro u4 P4
    obtain ⟨V4, N4, L4, z4, t4⟩ := P4
    have N := np_tr (np_ns N2) N4
    have rm := kp_room L4 hw
    have t1 := t4.1
    have n62 := N2 160 62 (by decide) (by decide)
    exact ok_ret ⟨⟨ck_np K V4 N, L4, z4.1⟩, N, by show 1 ≤ u4.1 ∧ u4.1 ≤ 1999; omega, t1.2, by show h 160 62 ≤ u4.2 160 62; omega⟩
theorem cw_kind56 (hn : 1000000 ≤ nn) (P : SP s) (Vs : VS_ s) {m : Int} (K : CK s z) (N0 : NS z h) (V : VS_ h) (L : KP s w h) (hw : w ≤ 3001) (hm : 0 ≤ m ∧ m < s 160 28) (S : SpL h (if s 182 m.toNat ≤ 0 then [] else [40] ++ (parL s (s 188 m.toNat).toNat (s 189 m.toNat).toNat ++ [41]))) : Ok_ (qj_X13_kindOf_56 nn m h) (fun u => CW s w u.2 ∧ NP z u.2 ∧ (1 ≤ u.1 ∧ u.1 ≤ 1999) ∧ (u.1 ≤ u.2 160 62 ∧ z 160 62 ≤ u.2 160 62)) := by
  have I := si_k (m := m.toNat) P Vs (by omega)
  have p4 := P.2.2.2.1
  obtain ⟨q1, q2, q3, q4⟩ := P.2.2.2.2 m.toNat (by omega)
  have B := mf_np K.2.1 (np_ns N0)
  have ml := mk_len P Vs (m := m.toNat) (by omega)
  unfold mkL at ml
  rw [List.length_append] at ml
  have g9 := gA_189 Vs m.toNat (by omega)
  unfold qj_X13_kindOf_56
  refine ok_rd (by omega) (gA_187 V) ?_; intro v2 e2 a2 b2
  have e2' : v2 = s 187 m.toNat := by rw [e2]; exact B 187 _ (nw_ar rfl _)
  refine ok_sv (sl_kind hn P Vs V B S (t := v2) (by omega) (by omega)) ?_; intro u4 P4
  obtain ⟨V4, N4, S4⟩ := P4
  refine ok_sv (kp_spelling hn V4 (kp_ns N4 L) hw I ?_) ?_
  · unfold srcL mkL
    rw [if_neg (show ¬ 232 + m.toNat < 40 by omega), if_neg (show ¬ 232 + m.toNat < 232 by omega), show 232 + m.toNat - 232 = m.toNat by omega, ← e2']
    exact S4
  · intro u6 P6
    obtain ⟨V6, N6, L6, z6, t6⟩ := P6
    have N := np_tr (np_ns (ns_tr N0 N4)) N6
    have rm := kp_room L6 hw
    have t1 := t6.1
    have n62 := (ns_tr N0 N4) 160 62 (by decide) (by decide)
    exact ok_ret ⟨⟨ck_np K V6 N, L6, z6.1⟩, N, by show 1 ≤ u6.1 ∧ u6.1 ≤ 1999; omega, t1.2, by show z 160 62 ≤ u6.2 160 62; omega⟩
theorem par_snoc : ∀ (n f : Nat), parL s f (n + 1) = parL s f n ++ kndL s (s 195 (f + n)) := by
  intro n
  induction n with
  | zero => intro f; show kndL s (s 195 f) ++ [] = [] ++ kndL s (s 195 f); rw [List.append_nil, List.nil_append]
  | succ n ih =>
    intro f
    show kndL s (s 195 f) ++ parL s (f + 1) (n + 1) = kndL s (s 195 f) ++ parL s (f + 1) n ++ kndL s (s 195 (f + (n + 1)))
    rw [ih (f + 1), List.append_assoc, show f + 1 + n = f + (n + 1) by omega]
theorem cw_kind17 (hn : 1000000 ≤ nn) (P : SP s) (Vs : VS_ s) {m : Int} (K : CK s z) (hw : w ≤ 3001) (hm : 0 ≤ m ∧ m < s 160 28) (h0 : ¬ s 182 m.toNat ≤ 0) : ∀ (k : Nat) (l2 : Int) (h : ms_M), NS z h → VS_ h → KP s w h → 0 ≤ l2 → l2 ≤ s 189 m.toNat → s 189 m.toNat - l2 < (k : Int) → SpL h ([40] ++ parL s (s 188 m.toNat).toNat l2.toNat) → Ok_ (qw_X13_kindOf_17 nn k m l2 h) (fun u => CW s w u.2 ∧ NP z u.2 ∧ (1 ≤ u.1 ∧ u.1 ≤ 1999) ∧ (u.1 ≤ u.2 160 62 ∧ z 160 62 ≤ u.2 160 62)) := by
  have p4 := P.2.2.2.1
  obtain ⟨q1, q2, q3, q4⟩ := P.2.2.2.2 m.toNat (by omega)
  have g9 := gA_189 Vs m.toNat (by omega)
  have g8 := gA_188 Vs m.toNat (by omega)
  have hw2 := P.1.2 m.toNat (by omega)
  intro k
  induction k with
  | zero => intro l2 h N0 V L a1 a2 hm; exfalso; omega
  | succ k ih =>
    intro l2 h N0 V L a1 a2 hk S
    have B := mf_np K.2.1 (np_ns N0)
    have e9 : h 189 m.toNat = s 189 m.toNat := B 189 _ (nw_ar rfl _)
    have e8 : h 188 m.toNat = s 188 m.toNat := B 188 _ (nw_ar rfl _)
    have pl := par_len P Vs l2.toNat (s 188 m.toNat).toNat (fun k hk => q4 k (by omega))
    have ll : ((([40] ++ parL s (s 188 m.toNat).toNat l2.toNat : List Int).length : Nat) : Int) ≤ 91 := by rw [List.length_append, List.length_singleton]; omega
    unfold qw_X13_kindOf_17
    refine ok_rd (by omega) (gA_189 V) ?_; intro v8 e8' _ _
    refine ok_if (fun C => ?_) (fun C => ?_)
    · refine ok_sv (sl_spell V S (by omega) (by omega)) ?_; intro u10 P10
      obtain ⟨V1, N1, S1⟩ := P10
      refine cw_kind56 hn P Vs K (ns_tr N0 N1) V1 (kp_ns N1 L) hw hm ?_
      rw [if_neg h0, show (s 189 m.toNat).toNat = l2.toNat by omega]
      rw [List.append_assoc] at S1; exact S1
    · refine ok_rd (by omega) (gA_188 V) ?_; intro v13 e13 _ _
      refine ok_add (by omega) ?_; intro v14 e14
      refine ok_rd (by omega) (gA_195 V) ?_; intro v15 e15 a15 b15
      have e15' : v15 = s 195 ((s 188 m.toNat).toNat + l2.toNat) := by rw [e15, B 195 _ (nw_ar rfl _), show v14.toNat = (s 188 m.toNat).toNat + l2.toNat by omega]
      have t15 := q4 l2.toNat (by omega)
      rw [← e15'] at t15
      refine ok_sv (sl_kind hn P Vs V B S (t := v15) (by omega) (by omega)) ?_; intro u17 P17
      obtain ⟨V7, N7, S7⟩ := P17
      refine ok_add (by omega) ?_; intro v18 e18
      refine ih v18 u17 (ns_tr N0 N7) V7 (kp_ns N7 L) (by omega) (by omega) (by omega) ?_
      rw [show v18.toNat = l2.toNat + 1 by omega, par_snoc, ← e15']
      rw [List.append_assoc] at S7; exact S7
theorem cw_kind (hn : 1000000 ≤ nn) (P : SP s) (Vs : VS_ s) {m : Int} (C : CW s w h) (hw : w ≤ 3001) (hm : 0 ≤ m ∧ m < s 160 28) : Ok_ (qf_X13_kindOf nn m h) (fun u => CW s w u.2 ∧ NP h u.2 ∧ (1 ≤ u.1 ∧ u.1 ≤ 1999) ∧ (u.1 ≤ u.2 160 62 ∧ h 160 62 ≤ u.2 160 62)) := by
  obtain ⟨K, L, e⟩ := C
  have p4 := P.2.2.2.1
  have e2 : h 182 m.toNat = s 182 m.toNat := K.2.1 182 _ (nw_ar rfl _)
  have g9 := gA_189 Vs m.toNat (by omega)
  unfold qf_X13_kindOf
  refine ok_rd (by omega) (gA_182 K.1) ?_; intro v21 e21 _ _
  refine ok_if (fun C => ?_) (fun C => ?_)
  · refine cw_kind56 hn P Vs K ns_rf K.1 L hw hm ?_
    rw [if_pos (by omega)]; exact sp_nil e
  · refine ok_sv (sl_spell K.1 (sp_nil e) (by omega) (by decide)) ?_; intro u23 P23
    obtain ⟨V3, N3, S3⟩ := P23
    refine cw_kind17 hn P Vs K hw hm (by omega) nn 0 u23 N3 V3 (kp_ns N3 L) (by omega) (by omega) (by omega) ?_
    exact S3
theorem cw_le {v : Int} (C : CW s w h) (hv : w ≤ v) : CW s v h := ⟨C.1, kp_le C.2.1 hv, C.2.2⟩
theorem cw_member (hn : 1000000 ≤ nn) (P : SP s) (Vs : VS_ s) {c m : Int} (C : CW s w h) (hw : w ≤ 3000) (hc : -4 ≤ c ∧ c < 8 + s 160 24) (hm : 0 ≤ m ∧ m < s 160 28) : Ok_ (qf_X13_memberConstant nn c m h) (fun u => CW s (w + 2) u.2 ∧ NP h u.2 ∧ (1 ≤ u.1 ∧ u.1 ≤ 1999)) := by
  have p2 := P.2.1
  have p4 := P.2.2.2.1
  unfold qf_X13_memberConstant
  refine ok_mul (by omega) ?_; intro v1 e1
  refine ok_add (by omega) ?_; intro v2 e2
  refine ok_sv (cw_class hn P Vs C (by omega) (t := v2) (by omega)) ?_; intro u4 P4
  obtain ⟨C4, N4, t4⟩ := P4
  refine ok_rd (by omega) (gA_186 C4.1.1) ?_; intro v6 e6 _ _
  refine ok_sv (cw_text hn P Vs C4 (by omega) hm (by rw [e6]; exact C4.1.2.1 186 _ (nw_ar rfl _))) ?_; intro u8 P8
  obtain ⟨C8, N8, t8, y8⟩ := P8
  refine ok_sv (cw_kind hn P Vs C8 (by omega) hm) ?_; intro u10 P10
  obtain ⟨C10, N10, t10, y10⟩ := P10
  refine ok_sv (kp_word hn C10.1.1 C10.2.1 hw (.inr rfl) (by omega) (by omega) (by omega) (.inr (by omega))) ?_; intro u12 P12
  obtain ⟨V12, N12, L12, z12, t12⟩ := P12
  have z10 := C10.2.2
  exact ok_ret ⟨⟨ck_np C10.1 V12 N12, L12, by show u12.2 160 66 = 0; omega⟩, np_tr N4 (np_tr N8 (np_tr N10 N12)), t12.1, t12.2.1⟩
theorem cw_int (hn : 1000000 ≤ nn) {a : Int} (C : CW s w h) (hw : w ≤ 3000) (ha : 0 ≤ a ∧ a ≤ 2147483647) : Ok_ (qf_X13_constant nn 2 a 0 0 h) (fun u => CW s (w + 2) u.2 ∧ NP h u.2 ∧ (1 ≤ u.1 ∧ u.1 ≤ 1999)) := by
  refine ok_im (kp_word hn C.1.1 C.2.1 hw (.inl rfl) ha (by omega) (by omega) (.inl rfl)) (fun u P => ?_)
  obtain ⟨V12, N12, L12, z12, t12⟩ := P
  exact ⟨⟨ck_np C.1 V12 N12, L12, by rw [z12.1]; exact C.2.2⟩, N12, t12.1, t12.2.1⟩
end

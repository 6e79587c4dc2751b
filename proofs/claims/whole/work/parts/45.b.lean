/- THE POOL of both sides: texts -/
def SPL (m : ms_M) (L : List Int) : Prop := (m 160 66 = (L.length : Int) ∧ L.length ≤ 200 ∧ LRg L) ∧ ∀ k : Nat, k < L.length → m 205 k = L.getD k 0
def ASp (m w : ms_M) : Prop := ∀ cc y : Nat, ¬ cc = 205 → ¬ (cc = 160 ∧ y = 66) → w cc y = m cc y
/-- token t of the reference is spelled A -/
def TLt (m : ms_M) (t : Nat) (A : List Int) : Prop := (m 165 t = (A.length : Int) ∧ A.length ≤ 12 ∧ LRg A) ∧ (0 ≤ m 164 t ∧ m 164 t ≤ 3000) ∧ ∀ k : Nat, k < A.length → m 162 ((m 164 t).toNat + k) = A.getD k 0
/-- the letters of the known class c, from place i on -/
def sc_L (c : Int) : Nat → Int → Nat → List Int
  | 0, _, _ => []
  | f + 1, k, i => if cx_ (1000000000 + 3) (i : Int) = 32 then sc_L c f (k + 1) (i + 1) else if k = c then cx_ (1000000000 + 3) (i : Int) :: sc_L c f k (i + 1) else sc_L c f k (i + 1)
set_option maxRecDepth 100000 in
theorem xt_l3 {α : Type} {G : Int → Option α} : ln_X (1000000000 + 3) G = G 77 := rfl
theorem xt_c3 : (List.range 77).all (xt_ck (1000000000 + 3)) = true := by decide +kernel
theorem xt_r3 {α : Type} {G : Int → Option α} {j : Int} (h0 : 0 ≤ j) (hj : j < 77) : rd_X (1000000000 + 3) j G = G (cx_ (1000000000 + 3) j) := by
  have h1 := List.all_eq_true.1 xt_c3 j.toNat (List.mem_range.2 (by omega))
  unfold xt_ck at h1
  have e : ((j.toNat : Nat) : Int) = j := by omega
  rw [e] at h1
  unfold rd_X cx_
  revert h1
  cases xsc (1000000000 + 3) (Int32.ofInt j) with
  | none => intro h1; cases h1
  | some c => intro _; rfl
section
variable {nn : Nat} {K P V U D : Nat → Int} {C : Nat → Nat} {c n N mt : Nat} {q : Int} {h g r w u v a b m : ms_M} {L A : List Int} {W : Nat → List Int}
theorem asp_r : ASp m m := fun _ _ _ _ => rfl
theorem asp_t (A : ASp m w) (B : ASp w v) : ASp m v := fun cc y z1 z2 => by rw [B cc y z1 z2]; exact A cc y z1 z2
theorem lr_0 : LRg [] := fun x hx => absurd hx List.not_mem_nil
theorem lr_a (H : LRg L) (G : LRg A) : LRg (L ++ A) := fun x hx => by
  rcases List.mem_append.1 hx with z | z
  · exact H x z
  · exact G x z
theorem lr_1 {x : Int} (hx : 0 ≤ x ∧ x ≤ 255) : LRg [x] := fun y hy => by rw [List.mem_singleton.1 hy]; exact hx
theorem lr_g (H : LRg L) {k : Nat} (hk : k < L.length) : 0 ≤ L.getD k 0 ∧ L.getD k 0 ≤ 255 := by
  rw [List.getD_eq_getElem?_getD, List.getElem?_eq_getElem hk]
  exact H _ (List.getElem_mem hk)
theorem cx_lr3 {i : Nat} (hi : i < 77) : 0 ≤ cx_ (1000000000 + 3) (i : Int) ∧ cx_ (1000000000 + 3) (i : Int) ≤ 255 := by
  have h : (List.range 77).all (fun i => decide (0 ≤ cx_ (1000000000 + 3) ((i : Nat) : Int)) && decide (cx_ (1000000000 + 3) ((i : Nat) : Int) ≤ 255)) = true := by decide +kernel
  have x := List.all_eq_true.1 h i (List.mem_range.2 hi)
  rw [Bool.and_eq_true] at x
  exact ⟨of_decide_eq_true x.1, of_decide_eq_true x.2⟩
theorem r_spell {x : Int} (S : SPL m L) (hx : 0 ≤ x ∧ x ≤ 255 := by omega) : Pc (qf_X13_spell nn x m) (fun w => SPL w (L ++ [x]) ∧ ASp m w) := by
  obtain ⟨⟨s1, s2⟩, s3⟩ := S
  unfold qf_X13_spell
  refine pc_wA ?_; intro i1 i2 h3 e3
  rw [s1, Int.toNat_natCast] at e3
  have q3 : h3 160 66 = (L.length : Int) := by rw [e3, up_n (by omega)]; exact s1
  rw [q3]
  refine pc_add (by omega) ?_; intro v5 e5
  refine pc_xl ?_; intro h6 e6
  refine pc_ret ⟨⟨⟨?_, ?_⟩, fun k hk => ?_⟩, fun cc y z1 z2 => ?_⟩
  · rw [e6, up_s, List.length_append]; show v5 = ((L.length + 1 : Nat) : Int); omega
  · rw [List.length_append]; exact ⟨by show L.length + 1 ≤ 200; omega, lr_a s2.2 (lr_1 hx)⟩
  · rw [List.length_append] at hk
    have hk2 : k < L.length + 1 := hk
    rw [e6, up_n (by omega), gd_a]
    by_cases z : k < L.length
    · rw [if_pos z, e3, up_n (by omega)]; exact s3 k z
    · have ek : k = L.length := by omega
      rw [if_neg z, ek, e3, up_s, Nat.sub_self]; rfl
  · rw [e6, up_n z2, e3, up_n (by omega)]
/-- the first k letters of a text -/
theorem tk_s (A : List Int) {k : Nat} (hk : k < A.length) : A.take (k + 1) = A.take k ++ [A.getD k 0] := by
  revert k
  induction A with
  | nil => intro k hk; exact absurd hk (Nat.not_lt_zero _)
  | cons x A ih =>
    intro k hk
    cases k with
    | zero => rfl
    | succ k =>
      show x :: A.take (k + 1) = x :: (A.take k ++ [A.getD k 0])
      rw [ih (Nat.lt_of_succ_lt_succ hk)]
theorem r_spTok {t : Nat} (T : TLt m t A) (S : SPL m L) : Pc (qf_X13_spellToken nn (t : Int) m) (fun w => SPL w (L ++ A) ∧ ASp m w) := by
  obtain ⟨⟨t1, t12⟩, t2, t3⟩ := T
  have G : ∀ (f i : Nat) (w : ms_M), i ≤ A.length → ASp m w → SPL w (L ++ A.take i) → Pc (qw_X13_spellToken_2 nn f (t : Int) (i : Int) w) (fun w => SPL w (L ++ A) ∧ ASp m w) := by
    intro f
    induction f with
    | zero => intros; exact pc_none
    | succ f ih =>
      intro i w hi Aw Sw
      unfold qw_X13_spellToken_2
      refine pc_rA ?_; intro _ _ v2 e2
      rw [Int.toNat_natCast, Aw 165 t (by omega) (by omega), t1] at e2
      refine pc_if (fun z => ?_) (fun z => ?_)
      · have ei : i = A.length := by omega
        rw [ei, List.take_length] at Sw
        exact pc_ret ⟨Sw, Aw⟩
      · refine pc_rA ?_; intro _ _ v5 e5
        rw [Int.toNat_natCast, Aw 164 t (by omega) (by omega)] at e5
        refine pc_add (by omega) ?_; intro v6 e6
        refine pc_rA ?_; intro _ _ v7 e7
        rw [show v6.toNat = (m 164 t).toNat + i by omega, Aw 162 _ (by omega) (by omega), t3 i (by omega)] at e7
        have lg := lr_g t12.2 (k := i) (by omega)
        refine pc_sv (r_spell Sw (by omega)) ?_; intro u9 q9
        refine pc_add (by omega) ?_; intro v10 e10
        rw [show v10 = ((i + 1 : Nat) : Int) by omega]
        refine ih (i + 1) u9 (by omega) (asp_t Aw q9.2) ?_
        rw [tk_s A (by omega), ← List.append_assoc, ← e7]
        exact q9.1
  unfold qf_X13_spellToken
  exact G nn 0 m (by omega) asp_r (by rw [List.take_zero, List.append_nil]; exact S)
theorem r_spC24 {c : Int} : ∀ (f i : Nat) (k : Int) (L : List Int) (m0 w : ms_M), i ≤ 77 → (-1 ≤ k ∧ k ≤ 100 + (i : Int)) → ASp m0 w → SPL w L → Pc (qw_X13_spellClass_24 nn f c k (i : Int) w) (fun w2 => SPL w2 (L ++ sc_L c (77 - i) k i) ∧ ASp m0 w2) := by
  intro f
  induction f with
  | zero => intros; exact pc_none
  | succ f ih =>
    intro i k L m0 w hi hk Aw Sw
    unfold qw_X13_spellClass_24
    rw [xt_l3]
    refine pc_if (fun z => ?_) (fun z => ?_)
    · have ei : 77 - i = 0 := by omega
      rw [ei]
      exact pc_ret ⟨by show SPL w (L ++ []); rw [List.append_nil]; exact Sw, Aw⟩
    · have e77 : 77 - i = (77 - (i + 1)) + 1 := by omega
      rw [e77, xt_r3 (by omega) (by omega)]
      show Pc _ (fun w2 => SPL w2 (L ++ (if cx_ (1000000000 + 3) (i : Int) = 32 then sc_L c (77 - (i + 1)) (k + 1) (i + 1) else if k = c then cx_ (1000000000 + 3) (i : Int) :: sc_L c (77 - (i + 1)) k (i + 1) else sc_L c (77 - (i + 1)) k (i + 1))) ∧ ASp m0 w2)
      refine pc_if (fun y => ?_) (fun y => ?_)
      · rw [if_neg y]
        refine pc_if (fun y2 => ?_) (fun y2 => ?_)
        · rw [if_neg y2]
          refine pc_add (by omega) ?_; intro v3 e3
          rw [show v3 = ((i + 1 : Nat) : Int) by omega]
          exact ih (i + 1) k L m0 w (by omega) (by omega) Aw Sw
        · rw [if_pos (Classical.byContradiction y2), xt_r3 (by omega) (by omega)]
          refine pc_sv (r_spell Sw (cx_lr3 (by omega))) ?_; intro u6 q6
          refine pc_add (by omega) ?_; intro v7 e7
          rw [show v7 = ((i + 1 : Nat) : Int) by omega]
          refine pc_imp (ih (i + 1) k (L ++ [cx_ (1000000000 + 3) (i : Int)]) m0 u6 (by omega) (by omega) (asp_t Aw q6.2) q6.1) (fun w2 q => ⟨?_, q.2⟩)
          have e := q.1
          rw [List.append_assoc] at e
          exact e
      · rw [if_pos (Classical.byContradiction y)]
        refine pc_add (by omega) ?_; intro v9 e9
        refine pc_add (by omega) ?_; intro v10 e10
        rw [show v10 = ((i + 1 : Nat) : Int) by omega, e9]
        exact ih (i + 1) (k + 1) L m0 w (by omega) (by omega) Aw Sw
/-- the known classes' letters -/
theorem sc_kl : (List.range 8).all (fun i => decide (sc_L (i : Int) 77 (-1) 0 = kl_T i)) = true := by decide +kernel
/-- how the classes are spelled in the reference -/
def WSr (W : Nat → List Int) (C : Nat → Nat) (n : Nat) (m : ms_M) : Prop := (∀ k : Nat, k < 8 → W k = kl_T k) ∧ ∀ k : Nat, k < n → m 178 k = (C k : Int) ∧ TLt m (C k) (W (8 + k))
theorem wsr_a (H : WSr W C n m) (A : ASp m w) : WSr W C n w := ⟨H.1, fun k hk => by
  obtain ⟨x, ⟨⟨t1, t12⟩, t2, t3⟩⟩ := H.2 k hk
  refine ⟨by rw [A 178 k (by omega) (by omega)]; exact x, ⟨by rw [A 165 _ (by omega) (by omega)]; exact t1, t12⟩, by rw [A 164 _ (by omega) (by omega)]; exact t2, fun i hi => ?_⟩
  rw [A 162 _ (by omega) (by omega), A 164 _ (by omega) (by omega)]; exact t3 i hi⟩
theorem r_spCls (H : WSr W C n m) (n8 : n ≤ 8) {k : Nat} (hk : k < 8 + n) (S : SPL m L) : Pc (qf_X13_spellClass nn (k : Int) m) (fun w => SPL w (L ++ W k) ∧ ASp m w) := by
  unfold qf_X13_spellClass
  refine pc_if (fun z => ?_) (fun z => ?_)
  · have x := List.all_eq_true.mp sc_kl k (List.mem_range.mpr (by omega))
    have y : sc_L (k : Int) 77 (-1) 0 = kl_T k := of_decide_eq_true x
    rw [H.1 k (by omega), ← y]
    exact r_spC24 nn 0 (-1) L m m (by omega) (by omega) asp_r S
  · obtain ⟨j, jk⟩ : ∃ j : Nat, k = 8 + j := ⟨k - 8, by omega⟩
    have x := H.2 j (by omega)
    refine pc_sub (by omega) ?_; intro v14 e14
    refine pc_rA ?_; intro _ _ v15 e15
    rw [show v14.toNat = j by omega, x.1] at e15
    rw [e15]
    refine pc_sv (r_spTok x.2 S) ?_; intro u17 q17
    rw [jk]
    exact pc_ret q17
theorem r_spKind (H : WSr W C n m) (n8 : n ≤ 8) {t : Int} (vt : VTn n t ∧ ¬ t = 300) (S : SPL m L) : Pc (qf_X13_spellKind nn (ty_T t) m) (fun w => SPL w (L ++ kd_L W t) ∧ ASp m w) := by
  have tc := ty_c (vtn_v n8 vt.1)
  have v1 := vt.1
  unfold VTn at v1
  -- L name ;
  have G : ∀ (k : Nat) (x : Int) (L2 : List Int) (m2 : ms_M), k < 8 + n → (x = 8 + 2 * (k : Int) ∨ x = 9 + 2 * (k : Int)) → WSr W C n m2 → SPL m2 L2 → Pc (qj_X13_spellKind_54 nn x m2) (fun w => SPL w (L2 ++ ((76 :: W k) ++ [59])) ∧ ASp m2 w) := by
    intro k x L2 m2 hk hx H2 S2
    unfold qj_X13_spellKind_54
    refine pc_if (fun _ => ?_) (fun y => absurd (fun y2 => by omega) y)
    refine pc_sv (r_spell S2) ?_; intro u2 q2
    refine pc_sub (by omega) ?_; intro v3 e3
    refine pc_div (by omega) ?_; intro v4 e4
    rw [show v4 = (k : Int) by omega]
    refine pc_sv (r_spCls (wsr_a H2 q2.2) n8 hk q2.1) ?_; intro u6 q6
    refine pc_sv (r_spell q6.1) ?_; intro u8 q8
    refine pc_ret ⟨?_, asp_t (asp_t q2.2 q6.2) q8.2⟩
    have e : L2 ++ ((76 :: W k) ++ [59]) = L2 ++ [76] ++ W k ++ [59] := by rw [List.append_assoc, List.append_assoc]; rfl
    rw [e]; exact q8.1
  unfold qf_X13_spellKind
  by_cases a1 : t = 301
  · have e : ty_T t = 0 := by omega
    refine pc_if (fun y => absurd e y) (fun _ => ?_)
    have kl : kd_L W t = [73] := by unfold kd_L; rw [if_pos a1]
    rw [kl]
    exact pc_sv (r_spell S) (fun u q => pc_ret q)
  · refine pc_if (fun _ => ?_) (fun y => absurd (fun y2 => by omega) y)
    by_cases a2 : t = 302
    · have e : ty_T t = 1 := by omega
      refine pc_if (fun y => absurd e y) (fun _ => ?_)
      have kl : kd_L W t = [90] := by unfold kd_L; rw [if_neg a1, if_pos a2]
      rw [kl]
      exact pc_sv (r_spell S) (fun u q => pc_ret q)
    · refine pc_if (fun _ => ?_) (fun y => absurd (fun y2 => by omega) y)
      by_cases a3 : t = 303
      · have e : ty_T t = 3 := by omega
        refine pc_if (fun y => absurd e y) (fun _ => ?_)
        have kl : kd_L W t = [86] := by unfold kd_L; rw [if_neg a1, if_neg a2, if_pos a3]
        rw [kl]
        exact pc_sv (r_spell S) (fun u q => pc_ret q)
      · refine pc_if (fun _ => ?_) (fun y => absurd (fun y2 => by omega) y)
        unfold qf_X13_isArray
        by_cases a4 : t = 200
        · have e : ty_T t = 4 := by omega
          have kl : kd_L W t = [91, 73] := by unfold kd_L; rw [if_neg a1, if_neg a2, if_neg a3, if_pos a4]
          refine pc_sv (P := fun y => y = 1) ?_ ?_
          · exact pc_if (fun _ => pc_ret rfl) (fun y => absurd e y)
          · intro u12 e12
            refine pc_if (fun y => absurd y (by omega)) (fun _ => ?_)
            refine pc_sv (r_spell S) ?_; intro u14 q14
            unfold qj_X13_spellKind_54
            refine pc_if (fun y => absurd e y) (fun _ => ?_)
            refine pc_sv (r_spell q14.1) ?_; intro u10 q10
            refine pc_ret ⟨?_, asp_t q14.2 q10.2⟩
            have e2 : L ++ kd_L W t = L ++ [91] ++ [73] := by rw [kl, List.append_assoc]; rfl
            rw [e2]; exact q10.1
        · by_cases a5 : t < 100
          · obtain ⟨k, tk⟩ : ∃ k : Nat, t = (k : Int) := ⟨t.toNat, by omega⟩
            have e : ty_T t = 8 + 2 * (k : Int) := by omega
            have kl : kd_L W t = (76 :: W k) ++ [59] := by
              unfold kd_L
              rw [if_neg a1, if_neg a2, if_neg a3, if_neg a4, if_pos a5, show t.toNat = k by omega]
            refine pc_sv (P := fun y => y = 0) ?_ ?_
            · refine pc_if (fun y => absurd y (by omega)) (fun _ => ?_)
              refine pc_if (fun y => absurd y (by omega)) (fun _ => ?_)
              refine pc_mod (by omega) ?_; intro v1 e1
              exact pc_if (fun _ => pc_ret rfl) (fun y => absurd (fun y2 => by omega) y)
            · intro u12 e12
              refine pc_if (fun _ => ?_) (fun y => absurd e12 y)
              rw [kl]
              exact G k _ L m (by omega) (.inl e) H S
          · obtain ⟨k, tk⟩ : ∃ k : Nat, t = 100 + (k : Int) := ⟨(t - 100).toNat, by omega⟩
            have e : ty_T t = 9 + 2 * (k : Int) := by omega
            have kl : kd_L W t = 91 :: ((76 :: W k) ++ [59]) := by
              unfold kd_L
              rw [if_neg a1, if_neg a2, if_neg a3, if_neg a4, if_neg a5, show (t - 100).toNat = k by omega]
              rfl
            refine pc_sv (P := fun y => y = 1) ?_ ?_
            · refine pc_if (fun y => absurd y (by omega)) (fun _ => ?_)
              refine pc_if (fun y => absurd y (by omega)) (fun _ => ?_)
              refine pc_mod (by omega) ?_; intro v1 e1
              exact pc_if (fun y => absurd (by omega) y) (fun _ => pc_ret rfl)
            · intro u12 e12
              refine pc_if (fun y => absurd y (by omega)) (fun _ => ?_)
              refine pc_sv (r_spell S) ?_; intro u14 q14
              refine pc_imp (G k _ (L ++ [91]) u14 (by omega) (.inr e) (wsr_a H q14.2) q14.1) (fun w q => ⟨?_, asp_t q14.2 q.2⟩)
              have e2 : L ++ kd_L W t = L ++ [91] ++ ((76 :: W k) ++ [59]) := by rw [kl, List.append_assoc]; rfl
              rw [e2]; exact q.1
end

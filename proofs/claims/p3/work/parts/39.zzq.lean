section
variable {nn : Nat} {s h r z : ms_M} {w : Int} {T : List Int}
/-- counting -/
def cs (f : Nat → Int) (b : Nat → Bool) : Nat → Int
  | 0 => 0
  | n + 1 => cs f b n + (if b n = true then f n else 0)
def bu (b : Nat → Bool) (i : Nat) : Nat → Bool := fun j => if j = i then true else b j
theorem cs_up {f : Nat → Int} {b : Nat → Bool} {i : Nat} (hb : ¬ b i = true) : ∀ n : Nat, cs f (bu b i) n = cs f b n + (if i < n then f i else 0) := by
  intro n
  induction n with
  | zero => show (0 : Int) = 0 + _; rw [if_neg (by omega)]; rfl
  | succ n ih =>
    show cs f (bu b i) n + (if bu b i n = true then f n else 0) = cs f b n + (if b n = true then f n else 0) + _
    rw [ih]
    by_cases q : n = i
    · subst q
      rw [if_neg (by omega), if_pos (show bu b n n = true by unfold bu; rw [if_pos rfl]), if_neg hb, if_pos (by omega)]
      try omega
    · rw [show bu b i n = b n by unfold bu; rw [if_neg q]]
      by_cases q2 : i < n
      · rw [if_pos q2, if_pos (show i < n + 1 by omega)]; omega
      · rw [if_neg q2, if_neg (show ¬ i < n + 1 by omega)]; omega
theorem cs_le {f : Nat → Int} {b : Nat → Bool} (hf : ∀ i, 0 ≤ f i) : ∀ n : Nat, cs f b n ≤ cs f (fun _ => true) n := by
  intro n
  induction n with
  | zero => exact Int.le_refl _
  | succ n ih =>
    show cs f b n + (if b n = true then f n else 0) ≤ cs f (fun _ => true) n + (if true = true then f n else 0)
    have := hf n
    rw [if_pos rfl]
    by_cases q : b n = true
    · rw [if_pos q]; omega
    · rw [if_neg q]; omega
/-- a source's text is at most so long -/
def wS (i : Nat) : Int := if i < 40 then 15 else if i < 232 then 12 else 107
def w1 (_ : Nat) : Int := 1
theorem wS_0 : ∀ i, 0 ≤ wS i := fun i => by unfold wS; split; omega; split <;> omega
set_option maxRecDepth 100000 in
theorem cs_S : cs wS (fun _ => true) 424 = 23448 := by decide +kernel
set_option maxRecDepth 100000 in
theorem cs_1 : cs w1 (fun _ => true) 424 = 424 := by decide +kernel
theorem cs_3 : cs w1 (fun _ => true) 40 = 40 := by decide +kernel
/-- the texts -/
def tokL (s : ms_M) (t : Int) : List Int := (List.range (s 165 t.toNat).toNat).map (fun j => s 162 ((s 164 t.toNat).toNat + j))
def knF (c : Int) : Nat → Int → Int → List Int
  | 0, _, _ => []
  | k + 1, l2, l3 => if 77 ≤ l3 then [] else if ¬ cx_ (1000000000 + 3) l3 = 32 then (if ¬ l2 = c then knF c k l2 (l3 + 1) else cx_ (1000000000 + 3) l3 :: knF c k l2 (l3 + 1)) else knF c k (l2 + 1) (l3 + 1)
def clsL (s : ms_M) (c : Int) : List Int := if c < 8 then knF c 80 (-1) 0 else tokL s (s 178 (c - 8).toNat)
def kndL (s : ms_M) (t : Int) : List Int := if t = 0 then [73] else if t = 1 then [90] else if t = 3 then [86] else if t = 4 then [91, 73] else (if 8 ≤ t ∧ ¬ Int.tmod t 2 = 0 then [91] else []) ++ ([76] ++ clsL s (Int.tdiv (t - 8) 2) ++ [59])
def parL (s : ms_M) : Nat → Nat → List Int
  | _, 0 => []
  | f, n + 1 => kndL s (s 195 f) ++ parL s (f + 1) n
def mkL (s : ms_M) (m : Nat) : List Int := (if s 182 m ≤ 0 then [] else [40] ++ (parL s (s 188 m).toNat (s 189 m).toNat ++ [41])) ++ kndL s (s 187 m)
def srcL (s : ms_M) (i : Nat) : List Int := if i < 40 then (if i = 4 then kndL s 4 else if 8 ≤ i ∧ ¬ i % 2 = 0 then kndL s (i : Int) else clsL s (Int.tdiv ((i : Int) - 8) 2)) else if i < 232 then tokL s (s 186 (i - 40)) else mkL s (i - 232)
/-- all but the pool stays -/
def NP (h r : ms_M) : Prop := ∀ c k : Nat, ¬ (200 ≤ c ∧ c ≤ 205) → ¬ (c = 160 ∧ (k = 62 ∨ k = 64 ∨ k = 66)) → r c k = h c k
/-- all but what is spelled stays -/
def NS (h r : ms_M) : Prop := ∀ c k : Nat, c ≠ 205 → ¬ (c = 160 ∧ k = 66) → r c k = h c k
theorem ns_rf : NS h h := fun _ _ _ _ => rfl
theorem ns_tr (x : NS h z) (y : NS z r) : NS h r := fun c k a b => (y c k a b).trans (x c k a b)
theorem np_ns (x : NS h r) : NP h r := fun c k a b => x c k (by omega) (by omega)
theorem np_rf : NP h h := fun _ _ _ _ => rfl
theorem np_tr (x : NP h z) (y : NP z r) : NP h r := fun c k a b => (y c k a b).trans (x c k a b)
theorem mf_np (B : MF s h) (N : NP h r) : MF s r := fun c k q => by
  have n0 := nw_ne (show ml_.contains 200 = true from rfl) c k q
  have n1 := nw_ne (show ml_.contains 201 = true from rfl) c k q
  have n2 := nw_ne (show ml_.contains 202 = true from rfl) c k q
  have n3 := nw_ne (show ml_.contains 203 = true from rfl) c k q
  have n4 := nw_ne (show ml_.contains 204 = true from rfl) c k q
  have n5 := nw_ne (show ml_.contains 205 = true from rfl) c k q
  have m2 := nw_nf (show mf_.contains (160, 62) = true from rfl) c k q
  have m4 := nw_nf (show mf_.contains (160, 64) = true from rfl) c k q
  have m6 := nw_nf (show mf_.contains (160, 66) = true from rfl) c k q
  rw [N c k (by omega) (by omega)]; exact B c k q
/-- what is spelled -/
def SpL (h : ms_M) (T : List Int) : Prop := h 160 66 = (T.length : Int) ∧ ∀ (j : Nat) (v : Int), T[j]? = some v → h 205 j = v
theorem sl_spell {a : Int} (V : VS_ h) (S : SpL h T) (ra : 0 ≤ a ∧ a ≤ 255) (hl : (T.length : Int) ≤ 199) : Ok_ (qf_X13_spell nn a h) (fun r => VS_ r ∧ NS h r ∧ SpL r (T ++ [a])) := by
  obtain ⟨S1, S2⟩ := S
  unfold qf_X13_spell
  refine ok_wA (by omega) ?_; intro h3 E3
  have V3 : VS_ h3 := by rw [E3]; exact wA_205 V ra
  have q : h3 160 66 = h 160 66 := by rw [E3]; exact up_n (by omega)
  refine ok_add (by omega) ?_; intro v5 e5
  refine ok_xl ?_; intro h6 E6
  refine ok_ret ⟨by rw [E6]; exact wF_160_66 V3 (by omega), fun c k a b => by rw [E6, up_n (by omega), E3, up_n (by omega)], ?_, fun j v hj => ?_⟩
  · rw [E6, up_s, e5, q, S1, List.length_append]; rfl
  · rw [E6, up_n (by omega), E3]
    by_cases p : j < T.length
    · rw [List.getElem?_append_left p] at hj
      rw [up_n (by omega)]; exact S2 j v hj
    · rw [List.getElem?_append_right (by omega)] at hj
      have p2 : j - T.length = 0 := by
        by_cases p3 : j - T.length = 0
        · exact p3
        · rw [List.getElem?_eq_none (by show 1 ≤ _; omega)] at hj; cases hj
      rw [p2] at hj
      have e : a = v := by simpa using hj
      rw [show j = (h 160 66).toNat by omega, up_s]; exact e
theorem sl_app {U W : List Int} (S : SpL h (T ++ (U ++ W))) : SpL h (T ++ U ++ W) := by rw [List.append_assoc]; exact S
theorem tok_q {t : Int} {n : Nat} (hn : n < (s 165 t.toNat).toNat) : (tokL s t)[n]? = some (s 162 ((s 164 t.toNat).toNat + n)) := by
  unfold tokL
  rw [List.getElem?_map, List.getElem?_range hn]; rfl
theorem tokL_len {t : Int} : (tokL s t).length = (s 165 t.toNat).toNat := by unfold tokL; rw [List.length_map, List.length_range]
theorem sl_tok2 {t : Int} (rt : 0 ≤ t ∧ t < 3002) (hf : s 164 t.toNat + s 165 t.toNat ≤ 3000) (hw : (T.length : Int) + s 165 t.toNat ≤ 200) : ∀ (k : Nat) (l2 : Int) (h : ms_M), VS_ h → MF s h → SpL h (T ++ (tokL s t).take l2.toNat) → 0 ≤ l2 → l2 ≤ s 165 t.toNat → s 165 t.toNat - l2 < (k : Int) → Ok_ (qw_X13_spellToken_2 nn k t l2 h) (fun r => VS_ r ∧ NS h r ∧ SpL r (T ++ tokL s t)) := by
  intro k
  induction k with
  | zero => intro l2 h V B S a1 a2 hm; exfalso; omega
  | succ k ih =>
    intro l2 h V B S a1 a2 hm
    unfold qw_X13_spellToken_2
    have q5 : h 165 t.toNat = s 165 t.toNat := B 165 _ (nw_ar rfl _)
    have q4 : h 164 t.toNat = s 164 t.toNat := B 164 _ (nw_ar rfl _)
    refine ok_rd (by omega) (gA_165 V) ?_; intro v2 e2 a2' b2
    refine ok_if (fun C => ?_) (fun C => ?_)
    · refine ok_ret ⟨V, ns_rf, ?_⟩
      rw [List.take_of_length_le (by rw [tokL_len]; omega)] at S
      exact S
    · refine ok_rd (by omega) (gA_164 V) ?_; intro v5 e5 a5 b5
      refine ok_add (by omega) ?_; intro v6 e6
      refine ok_rd (by omega) (gA_162 V) ?_; intro v7 e7 a7 b7
      have e7' : v7 = s 162 ((s 164 t.toNat).toNat + l2.toNat) := by rw [e7, B 162 _ (nw_ar rfl _), show v6.toNat = (s 164 t.toNat).toNat + l2.toNat by omega]
      refine ok_sv (sl_spell V S (by omega) ?_) ?_
      · rw [List.length_append, List.length_take, tokL_len]; omega
      · intro u9 P
        obtain ⟨V9, N9, S9⟩ := P
        refine ok_add (by omega) ?_; intro v10 e10
        refine ok_im (ih v10 u9 V9 (mf_np B (np_ns N9)) ?_ (by omega) (by omega) (by omega)) (fun r P => ⟨P.1, ns_tr N9 P.2.1, P.2.2⟩)
        rw [show v10.toNat = l2.toNat + 1 by omega]
        have e : (tokL s t).take (l2.toNat + 1) = (tokL s t).take l2.toNat ++ [v7] := by
          rw [e7', List.take_succ, tok_q (by omega)]; rfl
        rw [e, ← List.append_assoc]; exact S9
theorem sl_tok (hn : 1000000 ≤ nn) {t : Int} (V : VS_ h) (B : MF s h) (S : SpL h T) (rt : 0 ≤ t ∧ t < 3002) (hf : s 164 t.toNat + s 165 t.toNat ≤ 3000) (hw : (T.length : Int) + s 165 t.toNat ≤ 200) : Ok_ (qf_X13_spellToken nn t h) (fun r => VS_ r ∧ NS h r ∧ SpL r (T ++ tokL s t)) := by
  have g := gA_165 V t.toNat (by omega)
  have q5 : h 165 t.toNat = s 165 t.toNat := B 165 _ (nw_ar rfl _)
  unfold qf_X13_spellToken
  refine sl_tok2 rt hf hw nn 0 h V B ?_ (Int.le_refl 0) (by omega) (by omega)
  rw [show (0 : Int).toNat = 0 by rfl, List.take_zero, List.append_nil]; exact S
theorem xt_rdm {j : Int} (h0 : 0 ≤ j) (hj : j < 77) (G : Int → Option ms_M) : rd_X (1000000000 + 3) j G = G (cx_ (1000000000 + 3) j) := by
  have h : (List.range 77).all (xt_ck (1000000000 + 3)) = true := by decide +kernel
  have h1 := List.all_eq_true.1 h j.toNat (List.mem_range.2 (by omega))
  unfold xt_ck at h1
  have e : ((j.toNat : Nat) : Int) = j := by omega
  rw [e] at h1
  unfold rd_X cx_
  revert h1
  cases xsc (1000000000 + 3) (Int32.ofInt j) with
  | none => intro h1; cases h1
  | some c => intro _; rfl
theorem cx_r {j : Int} (h0 : 0 ≤ j) (hj : j < 77) : 0 ≤ cx_ (1000000000 + 3) j ∧ cx_ (1000000000 + 3) j ≤ 255 := by
  have h : (List.range 77).all (fun k => decide (0 ≤ cx_ (1000000000 + 3) (k : Int) ∧ cx_ (1000000000 + 3) (k : Int) ≤ 255)) = true := by decide +kernel
  have h1 := of_decide_eq_true (List.all_eq_true.1 h j.toNat (List.mem_range.2 (by omega)))
  rw [show ((j.toNat : Nat) : Int) = j by omega] at h1
  exact h1
theorem sl_cls24 {c : Int} : ∀ (k F : Nat) (l2 l3 : Int) (T : List Int) (h : ms_M), VS_ h → SpL h T → (-1 ≤ l2 ∧ l2 ≤ l3) → (0 ≤ l3 ∧ l3 ≤ 77) → 77 - l3 < (k : Int) → 77 - l3 < (F : Int) → (T.length : Int) + ((knF c F l2 l3).length : Int) ≤ 200 → Ok_ (qw_X13_spellClass_24 nn k c l2 l3 h) (fun r => VS_ r ∧ NS h r ∧ SpL r (T ++ knF c F l2 l3)) := by
  intro k
  induction k with
  | zero => intro F l2 l3 T h V S a1 a2 hm; exfalso; omega
  | succ k ih =>
    intro F l2 l3 T h V S a1 a2 hm hF hl
    cases F with
    | zero => exfalso; have : ((0 : Nat) : Int) = 0 := rfl; omega
    | succ F =>
      unfold qw_X13_spellClass_24
      unfold knF
      unfold knF at hl
      rw [show ln_X (1000000000 + 3) (fun v1 => if v1 ≤ l3 then some h else rd_X (1000000000 + 3) l3 fun v2 => if ¬ v2 = 32 then (if ¬ l2 = c then (xl (oq_add l3 1) fun v3 => qw_X13_spellClass_24 nn k c l2 v3 h) else (rd_X (1000000000 + 3) l3 fun v4 => mx_sv (qf_X13_spell nn v4 h) fun u6 => xl (oq_add l3 1) fun v7 => qw_X13_spellClass_24 nn k c l2 v7 u6)) else (xl (oq_add l2 1) fun v9 => xl (oq_add l3 1) fun v10 => qw_X13_spellClass_24 nn k c v9 v10 h)) = (fun v1 => if v1 ≤ l3 then some h else rd_X (1000000000 + 3) l3 fun v2 => if ¬ v2 = 32 then (if ¬ l2 = c then (xl (oq_add l3 1) fun v3 => qw_X13_spellClass_24 nn k c l2 v3 h) else (rd_X (1000000000 + 3) l3 fun v4 => mx_sv (qf_X13_spell nn v4 h) fun u6 => xl (oq_add l3 1) fun v7 => qw_X13_spellClass_24 nn k c l2 v7 u6)) else (xl (oq_add l2 1) fun v9 => xl (oq_add l3 1) fun v10 => qw_X13_spellClass_24 nn k c v9 v10 h)) (77 : Int) from rfl]
      by_cases C : (77 : Int) ≤ l3
      · rw [if_pos C] at hl ⊢
        simp only [if_pos C]
        exact ok_ret ⟨V, ns_rf, by rw [List.append_nil]; exact S⟩
      · rw [if_neg C] at hl ⊢
        simp only [if_neg C]
        rw [xt_rdm (by omega) (by omega), xt_rdm (by omega) (by omega)]
        by_cases C2 : ¬ cx_ (1000000000 + 3) l3 = 32
        · rw [if_pos C2] at hl ⊢
          rw [if_pos C2]
          by_cases C3 : ¬ l2 = c
          · rw [if_pos C3] at hl ⊢
            rw [if_pos C3]
            refine ok_add (by omega) ?_; intro v3 e3
            rw [e3]
            exact ih F l2 (l3 + 1) T h V S (by omega) (by omega) (by omega) (by omega) hl
          · rw [if_neg C3] at hl ⊢
            rw [if_neg C3]
            rw [List.length_cons] at hl
            refine ok_sv (sl_spell V S (cx_r (by omega) (by omega)) (by omega)) ?_; intro u6 P
            obtain ⟨V6, N6, S6⟩ := P
            refine ok_add (by omega) ?_; intro v7 e7
            rw [e7]
            refine ok_im (ih F l2 (l3 + 1) (T ++ [cx_ (1000000000 + 3) l3]) u6 V6 S6 (by omega) (by omega) (by omega) (by omega) (by rw [List.length_append, List.length_singleton]; omega)) (fun r P => ⟨P.1, ns_tr N6 P.2.1, by have := P.2.2; rw [List.append_assoc] at this; exact this⟩)
        · rw [if_neg C2] at hl ⊢
          rw [if_neg C2]
          refine ok_add (by omega) ?_; intro v9 e9
          refine ok_add (by omega) ?_; intro v10 e10
          rw [e9, e10]
          exact ih F (l2 + 1) (l3 + 1) T h V S (by omega) (by omega) (by omega) (by omega) hl
theorem knF_neg {c : Int} : ∀ (F : Nat) (l2 l3 : Int), c < l2 → knF c F l2 l3 = [] := by
  intro F
  induction F with
  | zero => intros; rfl
  | succ F ih =>
    intro l2 l3 w
    unfold knF
    split
    · rfl
    · split
      · rw [if_pos (by omega)]; exact ih _ _ w
      · exact ih _ _ (by omega)
theorem kn_len {c : Int} (hc : c < 8) : (knF c 80 (-1) 0).length ≤ 12 := by
  by_cases q : c < 0
  · rw [show knF c 80 (-1) 0 = knF c 79 0 1 from by
      conv => lhs; unfold knF
      rw [if_neg (by decide), if_neg (by decide +kernel)]; rfl]
    rw [knF_neg _ _ _ q]; exact Nat.zero_le _
  · have h : (List.range 8).all (fun k => decide ((knF (k : Int) 80 (-1) 0).length ≤ 12)) = true := by decide +kernel
    have h1 := of_decide_eq_true (List.all_eq_true.1 h c.toNat (List.mem_range.2 (by omega)))
    rw [show ((c.toNat : Nat) : Int) = c by omega] at h1
    exact h1
end

section
section
variable {nn : Nat} {s h r z : ms_M} {w : Int} {T : List Int}
/-- counting -/
def cs (f : Nat → Int) (b : Nat → Bool) : Nat → Int
  | 0 => 0
  | n + 1 => cs f b n + (if b n = true then f n else 0)
def bu (b : Nat → Bool) (i : Nat) : Nat → Bool := fun j => if j = i then true else b j
theorem cs_up {f : Nat → Int} {b : Nat → Bool} {i : Nat} (hb : ¬ b i = true) : ∀ n : Nat, cs f (bu b i) n = cs f b n + (if i < n then f i else 0) := by
  intro n
  induction n with
  | zero => show (0 : Int) = 0 + _; rw [if_neg (by omega)]; rfl
  | succ n ih =>
    show cs f (bu b i) n + (if bu b i n = true then f n else 0) = cs f b n + (if b n = true then f n else 0) + _
    rw [ih]
    by_cases q : n = i
    · subst q
      rw [if_neg (by omega), if_pos (show bu b n n = true by unfold bu; rw [if_pos rfl]), if_neg hb, if_pos (by omega)]
      try omega
    · rw [show bu b i n = b n by unfold bu; rw [if_neg q]]
      by_cases q2 : i < n
      · rw [if_pos q2, if_pos (show i < n + 1 by omega)]; omega
      · rw [if_neg q2, if_neg (show ¬ i < n + 1 by omega)]; omega
theorem cs_le {f : Nat → Int} {b : Nat → Bool} (hf : ∀ i, 0 ≤ f i) : ∀ n : Nat, cs f b n ≤ cs f (fun _ => true) n := by
  intro n
  induction n with
  | zero => exact Int.le_refl _
  | succ n ih =>
    show cs f b n + (if b n = true then f n else 0) ≤ cs f (fun _ => true) n + (if true = true then f n else 0)
    have := hf n
    rw [if_pos rfl]
    by_cases q : b n = true
    · rw [if_pos q]; omega
    · rw [if_neg q]; omega
/-- a source's text is at most so long -/
def wS (i : Nat) : Int := if i < 40 then 15 else if i < 232 then 12 else 107
def w1 (_ : Nat) : Int := 1
theorem wS_0 : ∀ i, 0 ≤ wS i := fun i => by unfold wS; split; omega; split <;> omega
set_option maxRecDepth 100000 in
theorem cs_S : cs wS (fun _ => true) 424 = 23448 := by decide +kernel
set_option maxRecDepth 100000 in
theorem cs_1 : cs w1 (fun _ => true) 424 = 424 := by decide +kernel
theorem cs_3 : cs w1 (fun _ => true) 40 = 40 := by decide +kernel
/-- the texts -/
def tokL (s : ms_M) (t : Int) : List Int := (List.range (s 165 t.toNat).toNat).map (fun j => s 162 ((s 164 t.toNat).toNat + j))
def knF (c : Int) : Nat → Int → Int → List Int
  | 0, _, _ => []
  | k + 1, l2, l3 => if 77 ≤ l3 then [] else if ¬ cx_ (1000000000 + 3) l3 = 32 then (if ¬ l2 = c then knF c k l2 (l3 + 1) else cx_ (1000000000 + 3) l3 :: knF c k l2 (l3 + 1)) else knF c k (l2 + 1) (l3 + 1)
def clsL (s : ms_M) (c : Int) : List Int := if c < 8 then knF c 80 (-1) 0 else tokL s (s 178 (c - 8).toNat)
def kndL (s : ms_M) (t : Int) : List Int := if t = 0 then [73] else if t = 1 then [90] else if t = 3 then [86] else if t = 4 then [91, 73] else (if 8 ≤ t ∧ ¬ Int.tmod t 2 = 0 then [91] else []) ++ ([76] ++ clsL s (Int.tdiv (t - 8) 2) ++ [59])
def parL (s : ms_M) : Nat → Nat → List Int
  | _, 0 => []
  | f, n + 1 => kndL s (s 195 f) ++ parL s (f + 1) n
def mkL (s : ms_M) (m : Nat) : List Int := (if s 182 m ≤ 0 then [] else [40] ++ (parL s (s 188 m).toNat (s 189 m).toNat ++ [41])) ++ kndL s (s 187 m)
def srcL (s : ms_M) (i : Nat) : List Int := if i < 40 then (if i = 4 then kndL s 4 else if 8 ≤ i ∧ ¬ i % 2 = 0 then kndL s (i : Int) else clsL s (Int.tdiv ((i : Int) - 8) 2)) else if i < 232 then tokL s (s 186 (i - 40)) else mkL s (i - 232)
/-- all but the pool stays -/
def NP (h r : ms_M) : Prop := ∀ c k : Nat, ¬ (200 ≤ c ∧ c ≤ 205) → ¬ (c = 160 ∧ (k = 62 ∨ k = 64 ∨ k = 66)) → r c k = h c k
/-- all but what is spelled stays -/
def NS (h r : ms_M) : Prop := ∀ c k : Nat, c ≠ 205 → ¬ (c = 160 ∧ k = 66) → r c k = h c k
theorem ns_rf : NS h h := fun _ _ _ _ => rfl
theorem ns_tr (x : NS h z) (y : NS z r) : NS h r := fun c k a b => (y c k a b).trans (x c k a b)
theorem np_ns (x : NS h r) : NP h r := fun c k a b => x c k (by omega) (by omega)
theorem np_rf : NP h h := fun _ _ _ _ => rfl
theorem np_tr (x : NP h z) (y : NP z r) : NP h r := fun c k a b => (y c k a b).trans (x c k a b)
theorem mf_np (B : MF s h) (N : NP h r) : MF s r := fun c k q => by
  have n0 := nw_ne (show ml_.contains 200 = true from rfl) c k q
  have n1 := nw_ne (show ml_.contains 201 = true from rfl) c k q
  have n2 := nw_ne (show ml_.contains 202 = true from rfl) c k q
  have n3 := nw_ne (show ml_.contains 203 = true from rfl) c k q
  have n4 := nw_ne (show ml_.contains 204 = true from rfl) c k q
  have n5 := nw_ne (show ml_.contains 205 = true from rfl) c k q
  have m2 := nw_nf (show mf_.contains (160, 62) = true from rfl) c k q
  have m4 := nw_nf (show mf_.contains (160, 64) = true from rfl) c k q
  have m6 := nw_nf (show mf_.contains (160, 66) = true from rfl) c k q
  rw [N c k (by omega) (by omega)]; exact B c k q
/-- what is spelled -/
def SpL (h : ms_M) (T : List Int) : Prop := h 160 66 = (T.length : Int) ∧ ∀ (j : Nat) (v : Int), T[j]? = some v → h 205 j = v
theorem sl_spell {a : Int} (V : VS_ h) (S : SpL h T) (ra : 0 ≤ a ∧ a ≤ 255) (hl : (T.length : Int) ≤ 199) : Ok_ (qf_X13_spell nn a h) (fun r => VS_ r ∧ NS h r ∧ SpL r (T ++ [a])) := by
  obtain ⟨S1, S2⟩ := S
  unfold qf_X13_spell
  refine ok_wA (by omega) ?_; intro h3 E3
  have V3 : VS_ h3 := by rw [E3]; exact wA_205 V ra
  have q : h3 160 66 = h 160 66 := by rw [E3]; exact up_n (by omega)
  refine ok_add (by omega) ?_; intro v5 e5
  refine ok_xl ?_; intro h6 E6
  refine ok_ret ⟨by rw [E6]; exact wF_160_66 V3 (by omega), fun c k a b => by rw [E6, up_n (by omega), E3, up_n (by omega)], ?_, fun j v hj => ?_⟩
  · rw [E6, up_s, e5, q, S1, List.length_append]; rfl
  · rw [E6, up_n (by omega), E3]
    by_cases p : j < T.length
    · rw [List.getElem?_append_left p] at hj
      rw [up_n (by omega)]; exact S2 j v hj
    · rw [List.getElem?_append_right (by omega)] at hj
      have p2 : j - T.length = 0 := by
        by_cases p3 : j - T.length = 0
        · exact p3
        · rw [List.getElem?_eq_none (by show 1 ≤ _; omega)] at hj; cases hj
      rw [p2] at hj
      have e : a = v := by simpa using hj
      rw [show j = (h 160 66).toNat by omega, up_s]; exact e
theorem sl_app {U W : List Int} (S : SpL h (T ++ (U ++ W))) : SpL h (T ++ U ++ W) := by rw [List.append_assoc]; exact S
theorem tok_q {t : Int} {n : Nat} (hn : n < (s 165 t.toNat).toNat) : (tokL s t)[n]? = some (s 162 ((s 164 t.toNat).toNat + n)) := by
  unfold tokL
  rw [List.getElem?_map, List.getElem?_range hn]; rfl
theorem tokL_len {t : Int} : (tokL s t).length = (s 165 t.toNat).toNat := by unfold tokL; rw [List.length_map, List.length_range]
theorem sl_tok2 {t : Int} (rt : 0 ≤ t ∧ t < 3002) (hf : s 164 t.toNat + s 165 t.toNat ≤ 3000) (hw : (T.length : Int) + s 165 t.toNat ≤ 200) : ∀ (k : Nat) (l2 : Int) (h : ms_M), VS_ h → MF s h → SpL h (T ++ (tokL s t).take l2.toNat) → 0 ≤ l2 → l2 ≤ s 165 t.toNat → s 165 t.toNat - l2 < (k : Int) → Ok_ (qw_X13_spellToken_2 nn k t l2 h) (fun r => VS_ r ∧ NS h r ∧ SpL r (T ++ tokL s t)) := by
  intro k
  induction k with
  | zero => intro l2 h V B S a1 a2 hm; exfalso; omega
  | succ k ih =>
    intro l2 h V B S a1 a2 hm
    unfold qw_X13_spellToken_2
    have q5 : h 165 t.toNat = s 165 t.toNat := B 165 _ (nw_ar rfl _)
    have q4 : h 164 t.toNat = s 164 t.toNat := B 164 _ (nw_ar rfl _)
    refine ok_rd (by omega) (gA_165 V) ?_; intro v2 e2 a2' b2
    refine ok_if (fun C => ?_) (fun C => ?_)
    · refine ok_ret ⟨V, ns_rf, ?_⟩
      rw [List.take_of_length_le (by rw [tokL_len]; omega)] at S
      exact S
    · refine ok_rd (by omega) (gA_164 V) ?_; intro v5 e5 a5 b5
      refine ok_add (by omega) ?_; intro v6 e6
      refine ok_rd (by omega) (gA_162 V) ?_; intro v7 e7 a7 b7
      have e7' : v7 = s 162 ((s 164 t.toNat).toNat + l2.toNat) := by rw [e7, B 162 _ (nw_ar rfl _), show v6.toNat = (s 164 t.toNat).toNat + l2.toNat by omega]
      refine ok_sv (sl_spell V S (by omega) ?_) ?_
      · rw [List.length_append, List.length_take, tokL_len]; omega
      · intro u9 P
        obtain ⟨V9, N9, S9⟩ := P
        refine ok_add (by omega) ?_; intro v10 e10
        refine ok_im (ih v10 u9 V9 (mf_np B (np_ns N9)) ?_ (by omega) (by omega) (by omega)) (fun r P => ⟨P.1, ns_tr N9 P.2.1, P.2.2⟩)
        rw [show v10.toNat = l2.toNat + 1 by omega]
        have e : (tokL s t).take (l2.toNat + 1) = (tokL s t).take l2.toNat ++ [v7] := by
          rw [e7', List.take_succ, tok_q (by omega)]; rfl
        rw [e, ← List.append_assoc]; exact S9
theorem sl_tok (hn : 1000000 ≤ nn) {t : Int} (V : VS_ h) (B : MF s h) (S : SpL h T) (rt : 0 ≤ t ∧ t < 3002) (hf : s 164 t.toNat + s 165 t.toNat ≤ 3000) (hw : (T.length : Int) + s 165 t.toNat ≤ 200) : Ok_ (qf_X13_spellToken nn t h) (fun r => VS_ r ∧ NS h r ∧ SpL r (T ++ tokL s t)) := by
  have g := gA_165 V t.toNat (by omega)
  have q5 : h 165 t.toNat = s 165 t.toNat := B 165 _ (nw_ar rfl _)
  unfold qf_X13_spellToken
  refine sl_tok2 rt hf hw nn 0 h V B ?_ (Int.le_refl 0) (by omega) (by omega)
  rw [show (0 : Int).toNat = 0 by rfl, List.take_zero, List.append_nil]; exact S
theorem xt_rdm {j : Int} (h0 : 0 ≤ j) (hj : j < 77) (G : Int → Option ms_M) : rd_X (1000000000 + 3) j G = G (cx_ (1000000000 + 3) j) := by
  have h : (List.range 77).all (xt_ck (1000000000 + 3)) = true := by decide +kernel
  have h1 := List.all_eq_true.1 h j.toNat (List.mem_range.2 (by omega))
  unfold xt_ck at h1
  have e : ((j.toNat : Nat) : Int) = j := by omega
  rw [e] at h1
  unfold rd_X cx_
  revert h1
  cases xsc (1000000000 + 3) (Int32.ofInt j) with
  | none => intro h1; cases h1
  | some c => intro _; rfl
theorem cx_r {j : Int} (h0 : 0 ≤ j) (hj : j < 77) : 0 ≤ cx_ (1000000000 + 3) j ∧ cx_ (1000000000 + 3) j ≤ 255 := by
  have h : (List.range 77).all (fun k => decide (0 ≤ cx_ (1000000000 + 3) (k : Int) ∧ cx_ (1000000000 + 3) (k : Int) ≤ 255)) = true := by decide +kernel
  have h1 := of_decide_eq_true (List.all_eq_true.1 h j.toNat (List.mem_range.2 (by omega)))
  rw [show ((j.toNat : Nat) : Int) = j by omega] at h1
  exact h1
theorem sl_cls24 {c : Int} : ∀ (k F : Nat) (l2 l3 : Int) (T : List Int) (h : ms_M), VS_ h → SpL h T → (-1 ≤ l2 ∧ l2 ≤ l3) → (0 ≤ l3 ∧ l3 ≤ 77) → 77 - l3 < (k : Int) → 77 - l3 < (F : Int) → (T.length : Int) + ((knF c F l2 l3).length : Int) ≤ 200 → Ok_ (qw_X13_spellClass_24 nn k c l2 l3 h) (fun r => VS_ r ∧ NS h r ∧ SpL r (T ++ knF c F l2 l3)) := by
  intro k
  induction k with
  | zero => intro F l2 l3 T h V S a1 a2 hm; exfalso; omega
  | succ k ih =>
    intro F l2 l3 T h V S a1 a2 hm hF hl
    cases F with
    | zero => exfalso; have : ((0 : Nat) : Int) = 0 := rfl; omega
    | succ F =>
      unfold qw_X13_spellClass_24
      unfold knF
      unfold knF at hl
      rw [show ln_X (1000000000 + 3) (fun v1 => if v1 ≤ l3 then some h else rd_X (1000000000 + 3) l3 fun v2 => if ¬ v2 = 32 then (if ¬ l2 = c then (xl (oq_add l3 1) fun v3 => qw_X13_spellClass_24 nn k c l2 v3 h) else (rd_X (1000000000 + 3) l3 fun v4 => mx_sv (qf_X13_spell nn v4 h) fun u6 => xl (oq_add l3 1) fun v7 => qw_X13_spellClass_24 nn k c l2 v7 u6)) else (xl (oq_add l2 1) fun v9 => xl (oq_add l3 1) fun v10 => qw_X13_spellClass_24 nn k c v9 v10 h)) = (fun v1 => if v1 ≤ l3 then some h else rd_X (1000000000 + 3) l3 fun v2 => if ¬ v2 = 32 then (if ¬ l2 = c then (xl (oq_add l3 1) fun v3 => qw_X13_spellClass_24 nn k c l2 v3 h) else (rd_X (1000000000 + 3) l3 fun v4 => mx_sv (qf_X13_spell nn v4 h) fun u6 => xl (oq_add l3 1) fun v7 => qw_X13_spellClass_24 nn k c l2 v7 u6)) else (xl (oq_add l2 1) fun v9 => xl (oq_add l3 1) fun v10 => qw_X13_spellClass_24 nn k c v9 v10 h)) (77 : Int) from rfl]
      by_cases C : (77 : Int) ≤ l3
      · rw [if_pos C] at hl ⊢
        simp only [if_pos C]
        exact ok_ret ⟨V, ns_rf, by rw [List.append_nil]; exact S⟩
      · rw [if_neg C] at hl ⊢
        simp only [if_neg C]
        rw [xt_rdm (by omega) (by omega), xt_rdm (by omega) (by omega)]
        by_cases C2 : ¬ cx_ (1000000000 + 3) l3 = 32
        · rw [if_pos C2] at hl ⊢
          rw [if_pos C2]
          by_cases C3 : ¬ l2 = c
          · rw [if_pos C3] at hl ⊢
            rw [if_pos C3]
            refine ok_add (by omega) ?_; intro v3 e3
            rw [e3]
            exact ih F l2 (l3 + 1) T h V S (by omega) (by omega) (by omega) (by omega) hl
          · rw [if_neg C3] at hl ⊢
            rw [if_neg C3]
            rw [List.length_cons] at hl
            refine ok_sv (sl_spell V S (cx_r (by omega) (by omega)) (by omega)) ?_; intro u6 P
            obtain ⟨V6, N6, S6⟩ := P
            refine ok_add (by omega) ?_; intro v7 e7
            rw [e7]
            refine ok_im (ih F l2 (l3 + 1) (T ++ [cx_ (1000000000 + 3) l3]) u6 V6 S6 (by omega) (by omega) (by omega) (by omega) (by rw [List.length_append, List.length_singleton]; omega)) (fun r P => ⟨P.1, ns_tr N6 P.2.1, by have := P.2.2; rw [List.append_assoc] at this; exact this⟩)
        · rw [if_neg C2] at hl ⊢
          rw [if_neg C2]
          refine ok_add (by omega) ?_; intro v9 e9
          refine ok_add (by omega) ?_; intro v10 e10
          rw [e9, e10]
          exact ih F (l2 + 1) (l3 + 1) T h V S (by omega) (by omega) (by omega) (by omega) hl
theorem knF_neg {c : Int} : ∀ (F : Nat) (l2 l3 : Int), c < l2 → knF c F l2 l3 = [] := by
  intro F
  induction F with
  | zero => intros; rfl
  | succ F ih =>
    intro l2 l3 w
    unfold knF
    split
    · rfl
    · split
      · rw [if_pos (by omega)]; exact ih _ _ w
      · exact ih _ _ (by omega)
theorem kn_len {c : Int} (hc : c < 8) : (knF c 80 (-1) 0).length ≤ 12 := by
  by_cases q : c < 0
  · rw [show knF c 80 (-1) 0 = knF c 79 0 1 from by
      conv => lhs; unfold knF
      rw [if_neg (by decide), if_neg (by decide +kernel)]; rfl]
    rw [knF_neg _ _ _ q]; exact Nat.zero_le _
  · have h : (List.range 8).all (fun k => decide ((knF (k : Int) 80 (-1) 0).length ≤ 12)) = true := by decide +kernel
    have h1 := of_decide_eq_true (List.all_eq_true.1 h c.toNat (List.mem_range.2 (by omega)))
    rw [show ((c.toNat : Nat) : Int) = c by omega] at h1
    exact h1
end
end
section
section
variable {nn : Nat} {s h r z : ms_M} {w : Int} {T : List Int}
/-- what making wants of names and kinds -/
def SP (s : ms_M) : Prop := HW_ s ∧ s 160 24 ≤ 8 ∧ (∀ c : Nat, (c : Int) < s 160 24 → s 165 (s 178 c).toNat ≤ 12) ∧ s 160 28 ≤ 192 ∧ (∀ m : Nat, (m : Int) < s 160 28 → s 165 (s 186 m).toNat ≤ 12 ∧ s 187 m < 24 + 2 * s 160 24 ∧ s 189 m ≤ 6 ∧ ∀ k : Nat, (k : Int) < s 189 m → s 195 ((s 188 m).toNat + k) < 24 + 2 * s 160 24)
theorem cls_len {c : Int} (P : SP s) (V : VS_ s) (hc : c < 8 + s 160 24) : ((clsL s c).length : Int) ≤ 12 := by
  unfold clsL
  by_cases q : c < 8
  · rw [if_pos q]; have := kn_len q; omega
  · rw [if_neg q, tokL_len]
    have := P.2.2.1 (c - 8).toNat (by omega)
    omega
theorem td_lt {t n : Int} (h : t < 24 + 2 * n) (hn : 0 ≤ n) : Int.tdiv (t - 8) 2 < 8 + n := by
  by_cases q : 8 ≤ t
  · rw [Int.tdiv_eq_ediv_of_nonneg (by omega)]; omega
  · rw [show t - 8 = -(8 - t) by omega, Int.neg_tdiv, Int.tdiv_eq_ediv_of_nonneg (by omega)]; omega
theorem knd_len {t : Int} (P : SP s) (V : VS_ s) (ht : t < 24 + 2 * s 160 24) : ((kndL s t).length : Int) ≤ 15 := by
  have g := gF_160_24 V
  unfold kndL
  split; · decide
  split; · decide
  split; · decide
  split; · decide
  rename_i n1 n2 n3 n4
  have c := cls_len (c := Int.tdiv (t - 8) 2) P V (td_lt ht g.1)
  rw [List.length_append, List.length_append, List.length_append]
  split
  · simp only [List.length_cons, List.length_nil]; omega
  · simp only [List.length_cons, List.length_nil]; omega
theorem par_len (P : SP s) (V : VS_ s) : ∀ (n f : Nat), (∀ k : Nat, k < n → s 195 (f + k) < 24 + 2 * s 160 24) → ((parL s f n).length : Int) ≤ 15 * n := by
  intro n
  induction n with
  | zero => intro f _; exact Int.le_refl _
  | succ n ih =>
    intro f H
    unfold parL
    rw [List.length_append]
    have a := knd_len P V (H 0 (by omega))
    have b := ih (f + 1) (fun k hk => by rw [show f + 1 + k = f + (k + 1) by omega]; exact H (k + 1) (by omega))
    have e : s 195 (f + 0) = s 195 f := rfl
    rw [e] at a
    omega
theorem mk_len {m : Nat} (P : SP s) (V : VS_ s) (hm : (m : Int) < s 160 28) : ((mkL s m).length : Int) ≤ 107 := by
  obtain ⟨p1, p2, p3, p4⟩ := P.2.2.2.2 m hm
  have g := gF_160_28 V
  have g9 := gA_189 V m (by omega)
  have a := knd_len P V p2
  unfold mkL
  rw [List.length_append]
  split
  · simp only [List.length_nil]; omega
  · rw [List.length_append, List.length_append]
    have b := par_len P V (s 189 m).toNat (s 188 m).toNat (fun k hk => p4 k (by omega))
    simp only [List.length_cons, List.length_nil]
    omega
/-- what stands for a source -/
def SI (s : ms_M) (i : Nat) : Prop := i < 424 ∧ ((srcL s i).length : Int) ≤ wS i
theorem si_t {t : Int} (P : SP s) (V : VS_ s) (ht : t < 24 + 2 * s 160 24) : SI s t.toNat := by
  have g24 := gF_160_24 V
  have p2 := P.2.1
  refine ⟨by omega, ?_⟩
  unfold srcL wS
  rw [if_pos (show t.toNat < 40 by omega), if_pos (show t.toNat < 40 by omega)]
  have g := gF_160_24 V
  split
  · exact knd_len P V (by omega)
  · split
    · exact knd_len P V (by omega)
    · have := cls_len (c := Int.tdiv (((t.toNat : Nat) : Int) - 8) 2) P V (td_lt (by omega) g.1)
      omega
theorem si_n {m : Nat} (P : SP s) (hm : (m : Int) < s 160 28) : SI s (40 + m) := by
  have p4 := P.2.2.2.1
  have := (P.2.2.2.2 m hm).1
  refine ⟨by omega, ?_⟩
  unfold srcL wS
  rw [if_neg (show ¬ 40 + m < 40 by omega), if_neg (show ¬ 40 + m < 40 by omega), if_pos (show 40 + m < 232 by omega), if_pos (show 40 + m < 232 by omega), tokL_len, show 40 + m - 40 = m by omega]
  omega
theorem si_k {m : Nat} (P : SP s) (V : VS_ s) (hm : (m : Int) < s 160 28) : SI s (232 + m) := by
  have p4 := P.2.2.2.1
  refine ⟨by omega, ?_⟩
  unfold srcL wS
  rw [if_neg (show ¬ 232 + m < 40 by omega), if_neg (show ¬ 232 + m < 40 by omega), if_neg (show ¬ 232 + m < 232 by omega), if_neg (show ¬ 232 + m < 232 by omega), show 232 + m - 232 = m by omega]
  exact mk_len P V hm
/-- a text of the pool -/
def isT (h : ms_M) (c : Int) (T : List Int) : Prop := (1 ≤ c ∧ c ≤ h 160 62) ∧ h 200 c.toNat = 1 ∧ h 202 c.toNat = (T.length : Int) ∧ ∀ (j : Nat) (v : Int), T[j]? = some v → h 204 ((h 201 c.toNat).toNat + j) = v
def isC (h : ms_M) (c k a b d : Int) : Prop := (1 ≤ c ∧ c ≤ h 160 62) ∧ h 200 c.toNat = k ∧ h 201 c.toNat = a ∧ h 202 c.toNat = b ∧ h 203 c.toNat = d
/-- what a row of the pool holds -/
def KV (h : ms_M) (c : Nat) : Prop := 1 ≤ h 200 c ∧ (h 200 c = 1 → h 202 c ≤ 107) ∧ (h 200 c = 3 → h 201 c ≤ h 160 62) ∧ (h 200 c = 4 → h 201 c ≤ h 160 62 ∧ h 202 c ≤ h 160 62 ∧ h 203 c ≤ h 160 62)
theorem kv_eq {c : Nat} (K : KV h c) (e0 : r 200 c = h 200 c) (e1 : r 201 c = h 201 c) (e2 : r 202 c = h 202 c) (e3 : r 203 c = h 203 c) (e : h 160 62 ≤ r 160 62) : KV r c := by
  obtain ⟨k1, k2, k3, k4⟩ := K
  unfold KV
  rw [e0, e1, e2, e3]
  exact ⟨k1, k2, fun z => by have := k3 z; omega, fun z => by have := k4 z; omega⟩
def KW1 (h : ms_M) : Prop := (∀ c : Nat, 1 ≤ c → (c : Int) ≤ h 160 62 → KV h c ∧ (h 200 c = 1 → h 201 c + h 202 c ≤ h 160 64)) ∧ (∀ c d T, isT h c T → isT h d T → c = d)
/-- the pool: w half words -/
def KP (s : ms_M) (w : Int) (h : ms_M) : Prop := KW1 h ∧ ∃ b1 b3 : Nat → Bool, (∀ i, b1 i = true → i < 424 → ∃ c, isT h c (srcL s i)) ∧ (∀ i, b3 i = true → i < 40 → ∃ c d, isT h d (srcL s i) ∧ isC h c 3 d 0 0) ∧ 2 * h 160 62 ≤ 2 * (cs w1 b1 424 + cs w1 b3 40) + w ∧ h 160 64 ≤ cs wS b1 424
theorem kp_room (K : KP s w h) (hw : w ≤ 3001) : h 160 62 ≤ 1970 ∧ h 160 64 ≤ 23448 := by
  obtain ⟨_, b1, b3, _, _, k1, k2⟩ := K
  have a1 := cs_le (f := w1) (b := b1) (fun _ => show (0 : Int) ≤ 1 by decide) 424
  have a3 := cs_le (f := w1) (b := b3) (fun _ => show (0 : Int) ≤ 1 by decide) 40
  have a4 := cs_le (f := wS) (b := b1) wS_0 424
  rw [cs_1] at a1; rw [cs_3] at a3; rw [cs_S] at a4
  omega
theorem kp_le {v : Int} (K : KP s w h) (hv : w ≤ v) : KP s v h := by
  obtain ⟨k0, b1, b3, k1, k2, k3, k4⟩ := K
  exact ⟨k0, b1, b3, k1, k2, by omega, k4⟩
/-- a step that leaves what is in the pool, and adds at most one -/
def PG (h r : ms_M) : Prop := h 160 62 ≤ r 160 62 ∧ h 160 64 ≤ r 160 64 ∧ (∀ c k : Nat, 200 ≤ c → c ≤ 203 → (k : Int) ≤ h 160 62 → r c k = h c k) ∧ (∀ k : Nat, (k : Int) < h 160 64 → r 204 k = h 204 k)
theorem pg_T {c : Int} (G : PG h r) (K : KW1 h) (V : VS_ h) (x : isT h c T) : isT r c T := by
  obtain ⟨x1, x2, x3, x4⟩ := x
  obtain ⟨g1, g2, g3, g4⟩ := G
  have q := (K.1 c.toNat (by omega) (by omega)).2 x2
  have v62 := gF_160_62 V
  have v1 := gA_201 V c.toNat (by omega)
  refine ⟨by omega, by rw [g3 200 _ (by decide) (by decide) (by omega)]; exact x2, by rw [g3 202 _ (by decide) (by decide) (by omega)]; exact x3, fun j v hj => ?_⟩
  have hl : j < T.length := by
    by_cases p : j < T.length
    · exact p
    · rw [List.getElem?_eq_none (by omega)] at hj; cases hj
  rw [g3 201 _ (by decide) (by decide) (by omega), g4 _ (by omega)]
  exact x4 j v hj
theorem pg_Ti {c : Int} (G : PG h r) (K : KW1 h) (V : VS_ h) (hc : c ≤ h 160 62) (x : isT r c T) : isT h c T := by
  obtain ⟨x1, x2, x3, x4⟩ := x
  obtain ⟨g1, g2, g3, g4⟩ := G
  rw [g3 200 _ (by decide) (by decide) (by omega)] at x2
  rw [g3 202 _ (by decide) (by decide) (by omega)] at x3
  rw [g3 201 _ (by decide) (by decide) (by omega)] at x4
  have q := (K.1 c.toNat (by omega) (by omega)).2 x2
  have v62 := gF_160_62 V
  have v1 := gA_201 V c.toNat (by omega)
  refine ⟨by omega, x2, x3, fun j v hj => ?_⟩
  have hl : j < T.length := by
    by_cases p : j < T.length
    · exact p
    · rw [List.getElem?_eq_none (by omega)] at hj; cases hj
  rw [← g4 _ (by omega)]
  exact x4 j v hj
theorem pg_C {c k a b d : Int} (G : PG h r) (x : isC h c k a b d) : isC r c k a b d := by
  obtain ⟨x1, x2, x3, x4, x5⟩ := x
  obtain ⟨g1, g2, g3, g4⟩ := G
  exact ⟨by omega, by rw [g3 200 _ (by decide) (by decide) (by omega)]; exact x2, by rw [g3 201 _ (by decide) (by decide) (by omega)]; exact x3, by rw [g3 202 _ (by decide) (by decide) (by omega)]; exact x4, by rw [g3 203 _ (by decide) (by decide) (by omega)]; exact x5⟩
/-- a new row that is no text -/
theorem kw_other (G : PG h r) (V : VS_ h) (K : KW1 h) (e62 : r 160 62 = h 160 62 + 1) (hk : ¬ r 200 (h 160 62 + 1).toNat = 1 ∧ KV r (h 160 62 + 1).toNat) : KW1 r := by
  refine ⟨fun c c1 c2 => ?_, fun c d T x y => ?_⟩
  · by_cases q : (c : Int) ≤ h 160 62
    · have := K.1 c c1 q
      refine ⟨kv_eq this.1 (G.2.2.1 200 c (by decide) (by decide) q) (G.2.2.1 201 c (by decide) (by decide) q) (G.2.2.1 202 c (by decide) (by decide) q) (G.2.2.1 203 c (by decide) (by decide) q) G.1, ?_⟩
      rw [G.2.2.1 200 c (by decide) (by decide) q, G.2.2.1 201 c (by decide) (by decide) q, G.2.2.1 202 c (by decide) (by decide) q]
      exact fun z => by have := this.2 z; have := G.2.1; omega
    · rw [show c = (h 160 62 + 1).toNat by omega]
      exact ⟨hk.2, fun z => absurd z hk.1⟩
  · have o : ∀ e, isT r e T → e ≤ h 160 62 := fun e z => by
      by_cases q : e ≤ h 160 62
      · exact q
      · have := z.1
        have z2 := z.2.1
        rw [show e = h 160 62 + 1 by omega] at z2
        exact absurd z2 hk.1
    exact K.2 c d T (pg_Ti G K V (o c x) x) (pg_Ti G K V (o d y) y)
theorem kp_pg {v : Int} (G : PG h r) (V : VS_ h) (K : KP s w h) (K1 : KW1 r) (h1 : r 160 62 ≤ h 160 62 + 1) (hv : 2 * r 160 62 - 2 * h 160 62 + w ≤ v) (h4 : r 160 64 = h 160 64) : KP s v r := by
  obtain ⟨k0, b1, b3, k1, k2, k3, k4⟩ := K
  refine ⟨K1, b1, b3, fun i x y => ?_, fun i x y => ?_, by omega, by omega⟩
  · obtain ⟨c, z⟩ := k1 i x y
    exact ⟨c, pg_T G k0 V z⟩
  · obtain ⟨c, d, z1, z2⟩ := k2 i x y
    exact ⟨c, d, pg_T G k0 V z1, pg_C G z2⟩
/-- a new row -/
theorem kc_71 {l1 l2 l3 l4 : Int} (V : VS_ h) (r1 : 0 ≤ l1 ∧ l1 ≤ 4) (r2 : 0 ≤ l2 ∧ l2 ≤ 2147483647) (r3 : 0 ≤ l3 ∧ l3 ≤ 2000) (r4 : 0 ≤ l4 ∧ l4 ≤ 2000) (hr : h 160 62 ≤ 1998) : Ok_ (qj_X13_constant_71 nn l1 l2 l3 l4 h) (fun u => VS_ u.2 ∧ u.1 = h 160 62 + 1 ∧ u.2 160 62 = h 160 62 + 1 ∧ (u.2 200 u.1.toNat = l1 ∧ u.2 201 u.1.toNat = l2 ∧ u.2 202 u.1.toNat = l3 ∧ u.2 203 u.1.toNat = l4) ∧ (∀ c k : Nat, ¬ (c = 160 ∧ k = 62) → ¬ (200 ≤ c ∧ c ≤ 203 ∧ k = u.1.toNat) → u.2 c k = h c k)) := by
  have g := gF_160_62 V
  unfold qj_X13_constant_71
  refine ok_add (by omega) ?_; intro v2 e2
  refine ok_xl ?_; intro h3 E3
  have V3 : VS_ h3 := by rw [E3]; exact wF_160_62 V (by omega)
  have q3 : h3 160 62 = v2 := by rw [E3]; exact up_s
  refine ok_wA (by omega) ?_; intro h6 E6
  have V6 : VS_ h6 := by rw [E6]; exact wA_200 V3 (by omega)
  have q6 : h6 160 62 = v2 := by rw [E6, up_n (by omega)]; exact q3
  refine ok_wA (by omega) ?_; intro h9 E9
  have V9 : VS_ h9 := by rw [E9]; exact wA_201 V6 (by omega)
  have q9 : h9 160 62 = v2 := by rw [E9, up_n (by omega)]; exact q6
  refine ok_wA (by omega) ?_; intro h12 E12
  have V12 : VS_ h12 := by rw [E12]; exact wA_202 V9 (by omega)
  have q12 : h12 160 62 = v2 := by rw [E12, up_n (by omega)]; exact q9
  refine ok_wA (by omega) ?_; intro h15 E15
  have V15 : VS_ h15 := by rw [E15]; exact wA_203 V12 (by omega)
  have q15 : h15 160 62 = v2 := by rw [E15, up_n (by omega)]; exact q12
  rw [q3] at E6; rw [q6] at E9; rw [q9] at E12; rw [q12] at E15
  refine ok_ret ⟨V15, by show h15 160 62 = _; omega, by show h15 160 62 = _; omega, ?_, fun c k n1 n2 => ?_⟩
  · show h15 200 (h15 160 62).toNat = l1 ∧ h15 201 (h15 160 62).toNat = l2 ∧ h15 202 (h15 160 62).toNat = l3 ∧ h15 203 (h15 160 62).toNat = l4
    rw [q15]
    refine ⟨?_, ?_, ?_, ?_⟩
    · rw [E15, up_n (by omega), E12, up_n (by omega), E9, up_n (by omega), E6, up_s]
    · rw [E15, up_n (by omega), E12, up_n (by omega), E9, up_s]
    · rw [E15, up_n (by omega), E12, up_s]
    · rw [E15, up_s]
  · have n2 : ¬ (200 ≤ c ∧ c ≤ 203 ∧ k = (h15 160 62).toNat) := n2
    rw [q15] at n2
    show h15 c k = h c k
    rw [E15, up_n (by omega), E12, up_n (by omega), E9, up_n (by omega), E6, up_n (by omega), E3, up_n (by omega)]
/-- a row that is looked for, or a new one -/
theorem kc_8 {l1 l2 l3 l4 : Int} (V : VS_ h) (r1 : 0 ≤ l1 ∧ l1 ≤ 4) (r2 : 0 ≤ l2 ∧ l2 ≤ 2147483647) (r3 : 0 ≤ l3 ∧ l3 ≤ 2000) (r4 : 0 ≤ l4 ∧ l4 ≤ 2000) (hr : h 160 62 ≤ 1998) : ∀ (k : Nat) (l5 : Int), 1 ≤ l5 → l5 ≤ h 160 62 + 1 → h 160 62 + 1 - l5 < (k : Int) → (∀ c : Int, c < l5 → ¬ isC h c l1 l2 l3 l4) → Ok_ (qw_X13_constant_8 nn k l1 l2 l3 l4 l5 h) (fun u => (u.2 = h ∧ isC h u.1 l1 l2 l3 l4) ∨ ((∀ c : Int, ¬ isC h c l1 l2 l3 l4) ∧ VS_ u.2 ∧ u.1 = h 160 62 + 1 ∧ u.2 160 62 = h 160 62 + 1 ∧ (u.2 200 u.1.toNat = l1 ∧ u.2 201 u.1.toNat = l2 ∧ u.2 202 u.1.toNat = l3 ∧ u.2 203 u.1.toNat = l4) ∧ (∀ c k : Nat, ¬ (c = 160 ∧ k = 62) → ¬ (200 ≤ c ∧ c ≤ 203 ∧ k = u.1.toNat) → u.2 c k = h c k))) := by
  have g := gF_160_62 V
  intro k
  induction k with
  | zero => intro l5 a1 a2 hm; exfalso; omega
  | succ k ih =>
    intro l5 a1 a2 hm H
    unfold qw_X13_constant_8
    have nx : ∀ v : Int, v = l5 + 1 → ¬ isC h l5 l1 l2 l3 l4 → ∀ c : Int, c < v → ¬ isC h c l1 l2 l3 l4 := fun v ev nc c hc x => by
      by_cases q : c = l5
      · rw [q] at x; exact nc x
      · exact H c (by omega) x
    refine ok_if (fun C => ?_) (fun C => ?_)
    · refine ok_im (kc_71 V r1 r2 r3 r4 hr) (fun u P => .inr ⟨fun c x => H c (by have := x.1; omega) x, P⟩)
    · refine ok_rd (by omega) (gA_200 V) ?_; intro v19 e19 _ _
      refine ok_if (fun C1 => ?_) (fun C1 => ?_)
      · refine ok_add (by omega) ?_; intro v e
        exact ih v (by omega) (by omega) (by omega) (nx v e (fun x => C1 (e19.trans x.2.1)))
      refine ok_rd (by omega) (gA_201 V) ?_; intro v22 e22 _ _
      refine ok_if (fun C2 => ?_) (fun C2 => ?_)
      · refine ok_add (by omega) ?_; intro v e
        exact ih v (by omega) (by omega) (by omega) (nx v e (fun x => C2 (e22.trans x.2.2.1)))
      refine ok_rd (by omega) (gA_202 V) ?_; intro v25 e25 _ _
      refine ok_if (fun C3 => ?_) (fun C3 => ?_)
      · refine ok_add (by omega) ?_; intro v e
        exact ih v (by omega) (by omega) (by omega) (nx v e (fun x => C3 (e25.trans x.2.2.2.1)))
      refine ok_rd (by omega) (gA_203 V) ?_; intro v28 e28 _ _
      refine ok_if (fun C4 => ?_) (fun C4 => ?_)
      · refine ok_add (by omega) ?_; intro v e
        exact ih v (by omega) (by omega) (by omega) (nx v e (fun x => C4 (e28.trans x.2.2.2.2)))
      exact ok_ret (.inl ⟨rfl, ⟨by show 1 ≤ l5; omega, by show l5 ≤ _; omega⟩, by show h 200 l5.toNat = _; omega, by show h 201 l5.toNat = _; omega, by show h 202 l5.toNat = _; omega, by show h 203 l5.toNat = _; omega⟩)
theorem pg_new {u : Int × ms_M} (V : VS_ h) (e1 : u.1 = h 160 62 + 1) (e2 : u.2 160 62 = h 160 62 + 1) (N : ∀ c k : Nat, ¬ (c = 160 ∧ k = 62) → ¬ (200 ≤ c ∧ c ≤ 203 ∧ k = u.1.toNat) → u.2 c k = h c k) : PG h u.2 := by
  have g := gF_160_62 V
  exact ⟨by omega, by rw [N 160 64 (by decide) (by omega)]; exact Int.le_refl _, fun c k a b hk => N c k (by omega) (by omega), fun k _ => N 204 k (by omega) (by omega)⟩
/-- a number or a member -/
theorem kp_word (hn : 1000000 ≤ nn) {l1 l2 l3 l4 : Int} (V : VS_ h) (K : KP s w h) (hw : w ≤ 3000) (r1 : l1 = 2 ∨ l1 = 4) (r2 : 0 ≤ l2 ∧ l2 ≤ 2147483647) (r3 : 0 ≤ l3 ∧ l3 ≤ 2000) (r4 : 0 ≤ l4 ∧ l4 ≤ 2000) (r5 : l1 = 2 ∨ (l2 ≤ h 160 62 ∧ l3 ≤ h 160 62 ∧ l4 ≤ h 160 62)) : Ok_ (qf_X13_constant nn l1 l2 l3 l4 h) (fun u => VS_ u.2 ∧ NP h u.2 ∧ KP s (w + 2) u.2 ∧ (u.2 160 66 = h 160 66 ∧ h 160 62 ≤ u.2 160 62) ∧ (1 ≤ u.1 ∧ u.1 ≤ 1999 ∧ u.1 ≤ u.2 160 62)) := by
  have rm := kp_room K (by omega)
  have g := gF_160_62 V
  unfold qf_X13_constant
  refine ok_if (fun C => by exfalso; omega) (fun C => ?_)
  refine ok_im (kc_8 V (by omega) r2 r3 r4 (by omega) nn 1 (by omega) (by omega) (by omega) (fun c hc x => by have := x.1; omega)) (fun u P => ?_)
  rcases P with ⟨P1, P2⟩ | ⟨_, V2, e1, e2, ⟨e3, e4, e5, e6⟩, N⟩
  · have := P2.1
    rw [P1]
    exact ⟨V, np_rf, kp_le K (by omega), ⟨rfl, by omega⟩, by omega⟩
  · have G := pg_new V e1 e2 N
    refine ⟨V2, fun c k a b => N c k (by omega) (by omega), kp_pg G V K (kw_other G V K.1 e2 ?_) (by omega) (by omega) (N 160 64 (by decide) (by omega)), ⟨N 160 66 (by decide) (by omega), by omega⟩, by omega⟩
    rw [← e1]
    unfold KV
    rw [e3, e4, e5, e6, e2]
    omega
/-- a class -/
theorem kp_class (hn : 1000000 ≤ nn) {a : Int} {i : Nat} (V : VS_ h) (K : KP s w h) (hw : w ≤ 3001) (hi : i < 40) (x : isT h a (srcL s i)) : Ok_ (qf_X13_constant nn 3 a 0 0 h) (fun u => VS_ u.2 ∧ NP h u.2 ∧ KP s w u.2 ∧ (u.2 160 66 = h 160 66 ∧ h 160 62 ≤ u.2 160 62) ∧ (1 ≤ u.1 ∧ u.1 ≤ 1999 ∧ u.1 ≤ u.2 160 62)) := by
  have rm := kp_room K (by omega)
  have g := gF_160_62 V
  have xa := x.1
  unfold qf_X13_constant
  refine ok_if (fun C => by exfalso; omega) (fun C => ?_)
  refine ok_im (kc_8 V (by omega) (by omega) (by omega) (by omega) (by omega) nn 1 (by omega) (by omega) (by omega) (fun c hc x => by have := x.1; omega)) (fun u P => ?_)
  rcases P with ⟨P1, P2⟩ | ⟨no, V2, e1, e2, ⟨e3, e4, e5, e6⟩, N⟩
  · have := P2.1
    rw [P1]
    exact ⟨V, np_rf, K, ⟨rfl, by omega⟩, by omega⟩
  · have G := pg_new V e1 e2 N
    have K1 := kw_other G V K.1 e2 (by rw [← e1]; unfold KV; rw [e3, e4, e5, e6, e2]; omega)
    refine ⟨V2, fun c k a b => N c k (by omega) (by omega), ?_, ⟨N 160 66 (by decide) (by omega), by omega⟩, by omega⟩
    obtain ⟨k0, b1, b3, k1, k2, k3, k4⟩ := K
    have nb : ¬ b3 i = true := fun y => by
      obtain ⟨c, d, z1, z2⟩ := k2 i y hi
      rw [k0.2 d a _ z1 x] at z2
      exact no c z2
    have q := cs_up (f := w1) nb 40
    rw [if_pos hi] at q
    have q1 : w1 i = 1 := rfl
    refine ⟨K1, b1, bu b3 i, fun j y z => ?_, fun j y z => ?_, by omega, by rw [N 160 64 (by decide) (by omega)]; exact k4⟩
    · obtain ⟨c, z⟩ := k1 j y z
      exact ⟨c, pg_T G k0 V z⟩
    · by_cases p : j = i
      · rw [p]
        exact ⟨u.1, a, pg_T G k0 V x, by omega, e3, e4, e5, e6⟩
      · unfold bu at y
        rw [if_neg p] at y
        obtain ⟨c, d, z1, z2⟩ := k2 j y z
        exact ⟨c, d, pg_T G k0 V z1, pg_C G z2⟩
/-- a text that is new -/
theorem kp_109 (hn : 1000000 ≤ nn) {i : Nat} (V : VS_ h) (K : KP s w h) (hw : w ≤ 3001) (I : SI s i) (S : ∀ (j : Nat) (v : Int), (srcL s i)[j]? = some v → h 205 j = v) (no : ∀ c : Int, ¬ isT h c (srcL s i)) : ∀ (k : Nat) (l2 : Int) (g : ms_M), VS_ g → (∀ c k : Nat, c ≠ 204 → g c k = h c k) → (∀ k : Nat, (k : Int) < h 160 64 → g 204 k = h 204 k) → (∀ j : Nat, (j : Int) < l2 → g 204 ((h 160 64).toNat + j) = h 205 j) → 0 ≤ l2 → l2 ≤ ((srcL s i).length : Int) → ((srcL s i).length : Int) - l2 < (k : Int) → Ok_ (qw_X13_spelling_109 nn k ((srcL s i).length : Int) l2 g) (fun u => VS_ u.2 ∧ NP h u.2 ∧ KP s w u.2 ∧ (u.2 160 66 = h 160 66 ∧ h 160 62 ≤ u.2 160 62) ∧ isT u.2 u.1 (srcL s i)) := by
  have rm := kp_room K hw
  have g62 := gF_160_62 V
  have g64 := gF_160_64 V
  have w107 : wS i ≤ 107 := by unfold wS; split; omega; split <;> omega
  have I2 := I.2
  intro k
  induction k with
  | zero => intro l2 g Vg A B D a1 a2 hm; exfalso; omega
  | succ k ih =>
    intro l2 g Vg A B D a1 a2 hm
    have q64 := A 160 64 (by decide)
    have q62 := A 160 62 (by decide)
    unfold qw_X13_spelling_109
    refine ok_if (fun C => ?_) (fun C => ?_)
    · unfold qf_X13_constant
      rw [if_pos (show (1 : Int) ≤ 1 by decide)]
      refine ok_sv (kc_71 Vg (by omega) (by omega) (by omega) (by omega) (by omega)) ?_; intro u3 P
      obtain ⟨V3, e1, e2, ⟨e3, e4, e5, e6⟩, N⟩ := P
      have q3 : u3.2 160 64 = h 160 64 := (N 160 64 (by decide) (by omega)).trans q64
      refine ok_add (by omega) ?_; intro v5 e5'
      refine ok_xl ?_; intro h6 E6
      have N6 : ∀ c k : Nat, ¬ (c = 160 ∧ k = 64) → h6 c k = u3.2 c k := fun c k n => by rw [E6]; exact up_n n
      have V6 : VS_ h6 := by rw [E6]; exact wF_160_64 V3 (by omega)
      have p64 : h6 160 64 = v5 := by rw [E6]; exact up_s
      have p62 : h6 160 62 = h 160 62 + 1 := by rw [N6 160 62 (by decide)]; omega
      have F : ∀ c k : Nat, ¬ (c = 160 ∧ (k = 62 ∨ k = 64)) → ¬ (200 ≤ c ∧ c ≤ 203 ∧ k = u3.1.toNat) → c ≠ 204 → h6 c k = h c k := fun c k a b d => by rw [N6 c k (by omega), N c k (by omega) (by omega), A c k (by omega)]
      have G : PG h h6 := ⟨by omega, by omega, fun c k a b hk => F c k (by omega) (by omega) (by omega), fun k hk => by rw [N6 204 k (by omega), N 204 k (by omega) (by omega)]; exact B k hk⟩
      have new : isT h6 u3.1 (srcL s i) := by
        refine ⟨by omega, by rw [N6 200 _ (by omega)]; exact e3, by rw [N6 202 _ (by omega)]; exact e5, fun j v hj => ?_⟩
        have hl : j < (srcL s i).length := by
          by_cases p : j < (srcL s i).length
          · exact p
          · rw [List.getElem?_eq_none (by omega)] at hj; cases hj
        rw [N6 201 _ (by omega), e4, q64, N6 204 _ (by omega), N 204 _ (by omega) (by omega), D j (by omega)]
        exact S j v hj
      obtain ⟨k0, b1, b3, k1, k2, k3, k4⟩ := K
      have K1 : KW1 h6 := by
        refine ⟨fun c c1 c2 => ?_, fun c d T x y => ?_⟩
        · by_cases q : (c : Int) ≤ h 160 62
          · have := k0.1 c c1 q
            refine ⟨kv_eq this.1 (G.2.2.1 200 c (by decide) (by decide) q) (G.2.2.1 201 c (by decide) (by decide) q) (G.2.2.1 202 c (by decide) (by decide) q) (G.2.2.1 203 c (by decide) (by decide) q) G.1, ?_⟩
            rw [G.2.2.1 200 c (by decide) (by decide) q, G.2.2.1 201 c (by decide) (by decide) q, G.2.2.1 202 c (by decide) (by decide) q]
            exact fun z => by have := this.2 z; omega
          · have ec : c = u3.1.toNat := by omega
            unfold KV
            rw [ec, N6 200 _ (by omega), N6 201 _ (by omega), N6 202 _ (by omega), e3, e4, e5]
            exact ⟨⟨by omega, fun _ => by omega, fun z => by exfalso; omega, fun z => by exfalso; omega⟩, fun _ => by omega⟩
        · have o : ∀ e, isT h6 e T → e ≤ h 160 62 ∨ e = u3.1 := fun e z => by have := z.1; omega
          have m : ∀ e, isT h6 e T → e = u3.1 → T = srcL s i := fun e z ez => by
            rw [ez] at z
            have l1 : T.length = (srcL s i).length := by have := z.2.2.1; have := new.2.2.1; omega
            refine List.ext_getElem? (fun j => ?_)
            by_cases p : j < T.length
            · have t1 : T[j]? = some T[j] := List.getElem?_eq_getElem p
              have t2 : (srcL s i)[j]? = some (srcL s i)[j] := List.getElem?_eq_getElem (by omega)
              rw [t1, t2, ← z.2.2.2 j _ t1, ← new.2.2.2 j _ t2]
            · rw [List.getElem?_eq_none (by omega), List.getElem?_eq_none (by omega)]
          rcases o c x with oc | oc
          · rcases o d y with od | od
            · exact k0.2 c d T (pg_Ti G k0 V oc x) (pg_Ti G k0 V od y)
            · exfalso
              have := m d y od
              rw [this] at x
              exact no c (pg_Ti G k0 V oc x)
          · rcases o d y with od | od
            · exfalso
              have := m c x oc
              rw [this] at y
              exact no d (pg_Ti G k0 V od y)
            · omega
      refine ok_ret ⟨V6, fun c k a b => F c k (by omega) (by omega) (by omega), ?_, ⟨F 160 66 (by decide) (by omega) (by decide), by show h 160 62 ≤ h6 160 62; omega⟩, new⟩
      have nb : ¬ b1 i = true := fun y => by
        obtain ⟨c, z⟩ := k1 i y I.1
        exact no c z
      have q := cs_up (f := w1) nb 424
      have qS := cs_up (f := wS) nb 424
      rw [if_pos I.1] at q qS
      have q1 : w1 i = 1 := rfl
      refine ⟨K1, bu b1 i, b3, fun j y z => ?_, fun j y z => ?_, by show 2 * h6 160 62 ≤ _; omega, by show h6 160 64 ≤ _; omega⟩
      · by_cases p : j = i
        · rw [p]; exact ⟨u3.1, new⟩
        · unfold bu at y
          rw [if_neg p] at y
          obtain ⟨c, z⟩ := k1 j y z
          exact ⟨c, pg_T G k0 V z⟩
      · obtain ⟨c, d, z1, z2⟩ := k2 j y z
        exact ⟨c, d, pg_T G k0 V z1, pg_C G z2⟩
    · refine ok_add (by omega) ?_; intro v9 e9
      refine ok_rd (by omega) (gA_205 Vg) ?_; intro v11 e11 a11 b11
      refine ok_wA (by omega) ?_; intro h12 E12
      refine ok_add (by omega) ?_; intro v13 e13
      refine ih v13 h12 (by rw [E12]; exact wA_204 Vg (by omega)) (fun c k n => by rw [E12, up_n (by omega)]; exact A c k n) (fun k hk => by rw [E12, up_n (by omega)]; exact B k hk) (fun j hj => ?_) (by omega) (by omega) (by omega)
      by_cases p : (j : Int) < l2
      · rw [E12, up_n (by omega)]; exact D j p
      · rw [E12, show (h 160 64).toNat + j = v9.toNat by omega, up_s, e11, A 205 _ (by decide), show l2.toNat = j by omega]
/-- is it this one? -/
theorem kp_49 {Q : Int × ms_M → Prop} {qk : Int → Int → ms_M → Option (Int × ms_M)} {i : Nat} (V : VS_ h) (K : KW1 h) (I : SI s i) (S : ∀ (j : Nat) (v : Int), (srcL s i)[j]? = some v → h 205 j = v) {l2 : Int} (r2 : 1 ≤ l2 ∧ l2 ≤ h 160 62) (hy : isT h l2 (srcL s i) → Q (l2, h)) (hno : ¬ isT h l2 (srcL s i) → Ok_ (qk ((srcL s i).length : Int) (l2 + 1) h) Q) : ∀ (k : Nat) (l3 l4 : Int), 0 ≤ l4 → l4 ≤ ((srcL s i).length : Int) → ((srcL s i).length : Int) - l4 < (k : Int) → ((l3 = 0 ∧ ¬ isT h l2 (srcL s i)) ∨ (l3 = 1 ∧ h 200 l2.toNat = 1 ∧ h 202 l2.toNat = ((srcL s i).length : Int) ∧ ∀ j : Nat, (j : Int) < l4 → h 204 ((h 201 l2.toNat).toNat + j) = h 205 j)) → Ok_ (qw_X13_spelling_49 nn qk k ((srcL s i).length : Int) l2 l3 l4 h) Q := by
  have g62 := gF_160_62 V
  have g64 := gF_160_64 V
  have w107 : wS i ≤ 107 := by unfold wS; split; omega; split <;> omega
  have I2 := I.2
  intro k
  induction k with
  | zero => intro l3 l4 a1 a2 hm; exfalso; omega
  | succ k ih =>
    intro l3 l4 a1 a2 hm D
    have N95 : l3 = 0 → Ok_ (qj_X13_spelling_95 nn qk ((srcL s i).length : Int) l2 l3 h) Q := fun z => by
      unfold qj_X13_spelling_95
      rw [if_pos z]
      refine ok_add (by omega) ?_; intro v e
      rw [e]
      rcases D with D | D
      · exact hno D.2
      · exfalso; omega
    unfold qw_X13_spelling_49
    refine ok_if (fun C => ?_) (fun C => ?_)
    · rcases D with D | ⟨D1, D2, D3, D4⟩
      · exact N95 D.1
      · unfold qj_X13_spelling_95
        rw [if_neg (by omega)]
        refine ok_ret (hy ⟨r2, D2, D3, fun j v hj => ?_⟩)
        have hl : j < (srcL s i).length := by
          by_cases p : j < (srcL s i).length
          · exact p
          · rw [List.getElem?_eq_none (by omega)] at hj; cases hj
        rw [D4 j (by omega)]; exact S j v hj
    · refine ok_if (fun C2 => N95 C2) (fun C2 => ?_)
      rcases D with D | ⟨D1, D2, D3, D4⟩
      · exfalso; omega
      have kq := (K.1 l2.toNat (by omega) (by omega)).2 D2
      refine ok_rd (by omega) (gA_201 V) ?_; intro v19 e19 _ _
      refine ok_add (by omega) ?_; intro v20 e20
      refine ok_rd (by omega) (gA_204 V) ?_; intro v21 e21 _ _
      refine ok_rd (by omega) (gA_205 V) ?_; intro v23 e23 _ _
      have e : v20.toNat = (h 201 l2.toNat).toNat + l4.toNat := by omega
      refine ok_if (fun C3 => ?_) (fun C3 => ?_)
      · refine ok_add (by omega) ?_; intro v24 e24
        refine ih 0 v24 (by omega) (by omega) (by omega) (.inl ⟨rfl, fun x => C3 ?_⟩)
        have t : (srcL s i)[l4.toNat]? = some (srcL s i)[l4.toNat] := List.getElem?_eq_getElem (by omega)
        rw [e21, e23, e, x.2.2.2 _ _ t, S _ _ t]
      · refine ok_add (by omega) ?_; intro v25 e25
        refine ih 1 v25 (by omega) (by omega) (by omega) (.inr ⟨rfl, D2, D3, fun j hj => ?_⟩)
        by_cases p : (j : Int) < l4
        · exact D4 j p
        · rw [show j = l4.toNat by omega, ← e, ← e21, ← e23]; exact Classical.not_not.mp C3
theorem kp_12 (hn : 1000000 ≤ nn) {i : Nat} (V : VS_ h) (K : KP s w h) (hw : w ≤ 3001) (I : SI s i) (S : ∀ (j : Nat) (v : Int), (srcL s i)[j]? = some v → h 205 j = v) : ∀ (k : Nat) (l2 : Int), 1 ≤ l2 → l2 ≤ h 160 62 + 1 → h 160 62 + 1 - l2 < (k : Int) → (∀ c : Int, c < l2 → ¬ isT h c (srcL s i)) → Ok_ (qw_X13_spelling_12 nn k ((srcL s i).length : Int) l2 h) (fun u => VS_ u.2 ∧ NP h u.2 ∧ KP s w u.2 ∧ (u.2 160 66 = h 160 66 ∧ h 160 62 ≤ u.2 160 62) ∧ isT u.2 u.1 (srcL s i)) := by
  have g62 := gF_160_62 V
  have w107 : wS i ≤ 107 := by unfold wS; split; omega; split <;> omega
  have I2 := I.2
  intro k
  induction k with
  | zero => intro l2 a1 a2 hm; exfalso; omega
  | succ k ih =>
    intro l2 a1 a2 hm H
    unfold qw_X13_spelling_12
    refine ok_if (fun C => ?_) (fun C => ?_)
    · exact kp_109 hn V K hw I S (fun c x => H c (by have := x.1; omega) x) nn 0 h V (fun _ _ _ => rfl) (fun _ _ => rfl) (fun j hj => by exfalso; omega) (by omega) (by omega) (by omega)
    · have hy : isT h l2 (srcL s i) → VS_ (l2, h).2 ∧ NP h (l2, h).2 ∧ KP s w (l2, h).2 ∧ ((l2, h).2 160 66 = h 160 66 ∧ h 160 62 ≤ (l2, h).2 160 62) ∧ isT (l2, h).2 (l2, h).1 (srcL s i) := fun x => ⟨V, np_rf, K, ⟨rfl, Int.le_refl _⟩, x⟩
      have hno : ¬ isT h l2 (srcL s i) → Ok_ (qw_X13_spelling_12 nn k ((srcL s i).length : Int) (l2 + 1) h) (fun u => VS_ u.2 ∧ NP h u.2 ∧ KP s w u.2 ∧ (u.2 160 66 = h 160 66 ∧ h 160 62 ≤ u.2 160 62) ∧ isT u.2 u.1 (srcL s i)) := fun x => by
        refine ih (l2 + 1) (by omega) (by omega) (by omega) (fun c hc y => ?_)
        by_cases p : c = l2
        · rw [p] at y; exact x y
        · exact H c (by omega) y
      refine ok_rd (by omega) (gA_200 V) ?_; intro v31 e31 _ _
      refine ok_if (fun C1 => ?_) (fun C1 => ?_)
      · unfold qj_X13_spelling_44
        exact kp_49 V K.1 I S (by omega) hy hno nn 0 0 (by omega) (by omega) (by omega) (.inl ⟨rfl, fun x => C1 (e31.trans x.2.1)⟩)
      refine ok_rd (by omega) (gA_202 V) ?_; intro v33 e33 _ _
      refine ok_if (fun C2 => ?_) (fun C2 => ?_)
      · unfold qj_X13_spelling_44
        exact kp_49 V K.1 I S (by omega) hy hno nn 0 0 (by omega) (by omega) (by omega) (.inl ⟨rfl, fun x => C2 (e33.trans x.2.2.1)⟩)
      · exact kp_49 V K.1 I S (by omega) hy hno nn 1 0 (by omega) (by omega) (by omega) (.inr ⟨rfl, by omega, by omega, fun j hj => by exfalso; omega⟩)
end
end
section
section
variable {nn : Nat} {s h r z : ms_M} {w : Int} {T : List Int}
theorem sl_class (hn : 1000000 ≤ nn) (P : SP s) (Vs : VS_ s) {c : Int} (V : VS_ h) (B : MF s h) (S : SpL h T) (hc : -1000 ≤ c ∧ c < 8 + s 160 24) (hl : (T.length : Int) + 12 ≤ 200) : Ok_ (qf_X13_spellClass nn c h) (fun r => VS_ r ∧ NS h r ∧ SpL r (T ++ clsL s c)) := by
  have cl := cls_len P Vs hc.2
  have g := gF_160_24 Vs
  have p2 := P.2.1
  unfold qf_X13_spellClass
  unfold clsL at cl ⊢
  refine ok_if (fun C => ?_) (fun C => ?_)
  · rw [if_pos C] at cl ⊢
    exact sl_cls24 nn 80 (-1) 0 T h V S (by omega) (by omega) (by omega) (by omega) (by omega)
  · rw [if_neg C] at cl ⊢
    refine ok_sub (by omega) ?_; intro v14 e14
    refine ok_rd (by omega) (gA_178 V) ?_; intro v15 e15 a15 b15
    have q : v15 = s 178 (c - 8).toNat := by rw [e15, e14]; exact B 178 _ (nw_ar rfl _)
    rw [← q] at cl ⊢
    rw [tokL_len] at cl
    have g5 := gA_165 Vs v15.toNat (by omega)
    refine ok_sv (sl_tok hn V B S (by omega) (P.1.1 _ (by omega)) (by omega)) ?_; intro u17 P17
    exact ok_ret P17
theorem sl_kind54 (hn : 1000000 ≤ nn) (P : SP s) (Vs : VS_ s) {t : Int} (V : VS_ h) (B : MF s h) (S : SpL h T) (ht : -1000 ≤ t ∧ t < 24 + 2 * s 160 24) (hl : (T.length : Int) + 14 ≤ 200) : Ok_ (qj_X13_spellKind_54 nn t h) (fun r => VS_ r ∧ NS h r ∧ SpL r (T ++ (if t = 4 then [73] else [76] ++ clsL s (Int.tdiv (t - 8) 2) ++ [59]))) := by
  have g := gF_160_24 Vs
  have p2 := P.2.1
  have cl := cls_len (c := Int.tdiv (t - 8) 2) P Vs (td_lt ht.2 g.1)
  unfold qj_X13_spellKind_54
  refine ok_if (fun C => ?_) (fun C => ?_)
  · rw [if_neg C]
    refine ok_sv (sl_spell V S (by omega) (by omega)) ?_; intro u2 P2
    obtain ⟨V2, N2, S2⟩ := P2
    refine ok_sub (by omega) ?_; intro v3 e3
    refine ok_xl ?_; intro v4 e4
    rw [e3] at e4
    refine ok_sv (sl_class hn P Vs V2 (mf_np B (np_ns N2)) S2 ⟨?_, ?_⟩ (by rw [List.length_append, List.length_singleton]; omega)) ?_
    · rw [e4]
      by_cases q : 8 ≤ t
      · rw [Int.tdiv_eq_ediv_of_nonneg (by omega)]; omega
      · rw [show t - 8 = -(8 - t) by omega, Int.neg_tdiv, Int.tdiv_eq_ediv_of_nonneg (by omega)]; omega
    · rw [e4]; exact td_lt ht.2 g.1
    · intro u6 P6
      obtain ⟨V6, N6, S6⟩ := P6
      rw [e4] at S6
      refine ok_sv (sl_spell V6 S6 (by omega) (by rw [List.length_append, List.length_append, List.length_singleton]; omega)) ?_; intro u8 P8
      obtain ⟨V8, N8, S8⟩ := P8
      refine ok_ret ⟨V8, ns_tr N2 (ns_tr N6 N8), ?_⟩
      rw [List.append_assoc, List.append_assoc] at S8
      rw [List.append_assoc]
      exact S8
  · have C' := Classical.not_not.mp C
    rw [if_pos C']
    refine ok_sv (sl_spell V S (by omega) (by omega)) ?_; intro u10 P
    exact ok_ret P
theorem is_arr {a : Int} : Ok_ (qf_X13_isArray nn a h) (fun u => (u = 0 ∧ ¬ a = 4 ∧ ¬ (8 ≤ a ∧ ¬ Int.tmod a 2 = 0)) ∨ (¬ u = 0 ∧ (a = 4 ∨ (8 ≤ a ∧ ¬ Int.tmod a 2 = 0)))) := by
  unfold qf_X13_isArray
  refine ok_if (fun C => ok_ret (.inr ⟨by decide, .inl C⟩)) (fun C => ?_)
  refine ok_if (fun C2 => ok_ret (.inl ⟨rfl, C, by omega⟩)) (fun C2 => ?_)
  refine ok_xl ?_; intro v1 e1
  by_cases q : 8 ≤ a
  · have t : Int.tmod a 2 = a % 2 := Int.tmod_eq_emod_of_nonneg (by omega)
    rw [t] at e1 ⊢
    refine ok_if (fun C3 => ok_ret ?_) (fun C3 => ok_ret ?_)
    · exact .inl ⟨rfl, C, by omega⟩
    · exact .inr ⟨by decide, .inr ⟨by omega, by omega⟩⟩
  · exfalso; omega
theorem sl_kind (hn : 1000000 ≤ nn) (P : SP s) (Vs : VS_ s) {t : Int} (V : VS_ h) (B : MF s h) (S : SpL h T) (ht : -1000 ≤ t ∧ t < 24 + 2 * s 160 24) (hl : (T.length : Int) + 15 ≤ 200) : Ok_ (qf_X13_spellKind nn t h) (fun r => VS_ r ∧ NS h r ∧ SpL r (T ++ kndL s t)) := by
  unfold qf_X13_spellKind kndL
  refine ok_if (fun C0 => ?_) (fun C0 => ?_)
  · rw [if_neg C0]
    refine ok_if (fun C1 => ?_) (fun C1 => ?_)
    · rw [if_neg C1]
      refine ok_if (fun C3 => ?_) (fun C3 => ?_)
      · rw [if_neg C3]
        refine ok_sv is_arr ?_; intro u12 P12
        refine ok_if (fun C => ?_) (fun C => ?_)
        · rcases P12 with P12 | P12
          · refine ok_im (sl_kind54 hn P Vs V B S ht (by omega)) (fun r Q => ?_)
            rw [if_neg P12.2.1] at Q ⊢
            rw [if_neg P12.2.2, List.nil_append]
            exact Q
          · exact absurd C P12.1
        · rcases P12 with P12 | P12
          · exact absurd P12.1 C
          · refine ok_sv (sl_spell V S (by omega) (by omega)) ?_; intro u14 P14
            obtain ⟨V4, N4, S4⟩ := P14
            refine ok_im (sl_kind54 hn P Vs V4 (mf_np B (np_ns N4)) S4 ht (by rw [List.length_append, List.length_singleton]; omega)) (fun r Q => ⟨Q.1, ns_tr N4 Q.2.1, ?_⟩)
            have Q2 := Q.2.2
            rw [List.append_assoc] at Q2
            by_cases q : t = 4
            · rw [if_pos q] at Q2 ⊢; exact Q2
            · rw [if_neg q] at Q2 ⊢
              rcases P12.2 with z | z
              · exact absurd z q
              · rw [if_pos z]; exact Q2
      · rw [if_pos (Classical.not_not.mp C3)]
        refine ok_sv (sl_spell V S (by omega) (by omega)) ?_; intro u P
        exact ok_ret P
    · rw [if_pos (Classical.not_not.mp C1)]
      refine ok_sv (sl_spell V S (by omega) (by omega)) ?_; intro u P
      exact ok_ret P
  · rw [if_pos (Classical.not_not.mp C0)]
    refine ok_sv (sl_spell V S (by omega) (by omega)) ?_; intro u P
    exact ok_ret P
theorem sp_nil (e : h 160 66 = 0) : SpL h [] := ⟨e, fun j v hj => by cases hj⟩
/-- what is spelled does not count -/
theorem kp_ns (N : NS h r) (K : KP s w h) : KP s w r := by
  have a : ∀ c k, c ≠ 205 → ¬ (c = 160 ∧ k = 66) → r c k = h c k := N
  have tT : ∀ c T, isT r c T ↔ isT h c T := fun c T => by
    unfold isT
    rw [a 160 62 (by decide) (by decide), a 200 _ (by decide) (by omega), a 202 _ (by decide) (by omega), a 201 _ (by decide) (by omega)]
    constructor
    · intro x; exact ⟨x.1, x.2.1, x.2.2.1, fun j v hj => by rw [← a 204 _ (by decide) (by omega)]; exact x.2.2.2 j v hj⟩
    · intro x; exact ⟨x.1, x.2.1, x.2.2.1, fun j v hj => by rw [a 204 _ (by decide) (by omega)]; exact x.2.2.2 j v hj⟩
  obtain ⟨⟨k01, k02⟩, b1, b3, k1, k2, k3, k4⟩ := K
  refine ⟨⟨fun c c1 c2 => ?_, fun c d T x y => k02 c d T ((tT c T).1 x) ((tT d T).1 y)⟩, b1, b3, fun i x y => ?_, fun i x y => ?_, by rw [a 160 62 (by decide) (by decide)]; exact k3, by rw [a 160 64 (by decide) (by decide)]; exact k4⟩
  · rw [a 160 62 (by decide) (by decide)] at c2
    have z := k01 c c1 c2
    refine ⟨kv_eq z.1 (a 200 _ (by decide) (by omega)) (a 201 _ (by decide) (by omega)) (a 202 _ (by decide) (by omega)) (a 203 _ (by decide) (by omega)) (by rw [a 160 62 (by decide) (by decide)]; exact Int.le_refl _), ?_⟩
    rw [a 200 _ (by decide) (by omega), a 201 _ (by decide) (by omega), a 202 _ (by decide) (by omega), a 160 64 (by decide) (by decide)]
    exact z.2
  · obtain ⟨c, z⟩ := k1 i x y
    exact ⟨c, (tT _ _).2 z⟩
  · obtain ⟨c, d, z1, z2⟩ := k2 i x y
    refine ⟨c, d, (tT _ _).2 z1, ?_⟩
    unfold isC
    rw [a 160 62 (by decide) (by decide), a 200 _ (by decide) (by omega), a 201 _ (by decide) (by omega), a 202 _ (by decide) (by omega), a 203 _ (by decide) (by omega)]
    exact z2
theorem kp_spelling (hn : 1000000 ≤ nn) {i : Nat} (V : VS_ h) (K : KP s w h) (hw : w ≤ 3001) (I : SI s i) (S : SpL h (srcL s i)) : Ok_ (qf_X13_spelling nn h) (fun u => VS_ u.2 ∧ NP h u.2 ∧ KP s w u.2 ∧ (u.2 160 66 = 0 ∧ h 160 62 ≤ u.2 160 62) ∧ isT u.2 u.1 (srcL s i)) := by
  unfold qf_X13_spelling
  refine ok_xl ?_; intro h38 E
  have V8 : VS_ h38 := by rw [E]; exact wF_160_66 V (by omega)
  have N : NS h h38 := fun c k a b => by rw [E]; exact up_n b
  have g62 := gF_160_62 V8
  rw [S.1]
  refine ok_im (kp_12 hn V8 (kp_ns N K) hw I (fun j v hj => by rw [E, up_n (by omega)]; exact S.2 j v hj) nn 1 (by omega) (by omega) (by omega) (fun c hc x => by have := x.1; omega)) (fun u P => ?_)
  obtain ⟨p1, p2, p3, p4, p5⟩ := P
  exact ⟨p1, np_tr (np_ns N) p2, p3, ⟨by rw [p4.1, E]; exact up_s, by have := N 160 62 (by decide) (by decide); omega⟩, p5⟩
/-- the code that is being made, and the pool -/
def CW (s : ms_M) (w : Int) (h : ms_M) : Prop := CK s h ∧ KP s w h ∧ h 160 66 = 0
theorem ck_np (C : CK s h) (V : VS_ r) (N : NP h r) : CK s r := by
  obtain ⟨_, B, P, I, J, H, D⟩ := C
  have e : ∀ k : Nat, k ≠ 62 → k ≠ 64 → k ≠ 66 → r 160 k = h 160 k := fun k a b c => N 160 k (by decide) (by omega)
  have e71 := e 71 (by decide) (by decide) (by decide)
  have e72 := e 72 (by decide) (by decide) (by decide)
  have e78 := e 78 (by decide) (by decide) (by decide)
  have e79 := e 79 (by decide) (by decide) (by decide)
  have e84 := e 84 (by decide) (by decide) (by decide)
  have e87 := e 87 (by decide) (by decide) (by decide)
  have e88 := e 88 (by decide) (by decide) (by decide)
  have e68 := e 68 (by decide) (by decide) (by decide)
  refine ⟨V, mf_np B N, fp_eq P (fun k => ⟨N 207 k (by decide) (by omega), N 197 k (by decide) (by omega)⟩) (e 50 (by decide) (by decide) (by decide)) (e 70 (by decide) (by decide) (by decide)) e71 e72 (e 52 (by decide) (by decide) (by decide)), fi_eq I (fun c k a b => N c k (by omega) (by omega)) e71 e72 e78 e79, fun i hi => ?_, fun f hf => ?_, ?_⟩
  · rw [N 218 i (by decide) (by omega), e88]; exact J i (by omega)
  · rw [N 216 f (by decide) (by omega)]; exact H f (by omega)
  · unfold DW
    rw [e87, e68, e79, e72, e71, e84]; exact D
theorem cw_class (hn : 1000000 ≤ nn) (P : SP s) (Vs : VS_ s) {t : Int} (C : CW s w h) (hw : w ≤ 3001) (ht : -1 ≤ t ∧ t < 24 + 2 * s 160 24) : Ok_ (qf_X13_classConstant nn t h) (fun u => CW s w u.2 ∧ NP h u.2 ∧ (1 ≤ u.1 ∧ u.1 ≤ 1999 ∧ u.1 ≤ u.2 160 62 ∧ h 160 62 ≤ u.2 160 62)) := by
  obtain ⟨K, L, e⟩ := C
  have V := K.1
  have B := K.2.1
  have p2 := P.2.1
  have g24 := gF_160_24 Vs
  have I := si_t P Vs ht.2
  have J : ∀ u : ms_M, VS_ u → NS h u → SpL u (srcL s t.toNat) → Ok_ (qj_X13_classConstant_38 nn u) (fun u => CW s w u.2 ∧ NP h u.2 ∧ (1 ≤ u.1 ∧ u.1 ≤ 1999 ∧ u.1 ≤ u.2 160 62 ∧ h 160 62 ≤ u.2 160 62)) := fun u Vu Nu Su => by
    unfold qj_X13_classConstant_38
    refine ok_sv (kp_spelling hn Vu (kp_ns Nu L) hw I Su) ?_; intro u2 P2
    obtain ⟨V2, N2, L2, z2, t2⟩ := P2
    refine ok_sv (kp_class hn V2 L2 hw (by omega) t2) ?_; intro u4 P4
    obtain ⟨V4, N4, L4, z4, t4⟩ := P4
    have N := np_tr (np_ns Nu) (np_tr N2 N4)
    have n62 := Nu 160 62 (by decide) (by decide)
    exact ok_ret ⟨⟨ck_np K V4 N, L4, by show u4.2 160 66 = 0; omega⟩, N, by show 1 ≤ u4.1 ∧ u4.1 ≤ 1999 ∧ u4.1 ≤ u4.2 160 62 ∧ h 160 62 ≤ u4.2 160 62; omega⟩
  have en : Int.tdiv (((t.toNat : Nat) : Int) - 8) 2 = Int.tdiv (t - 8) 2 := by
    by_cases q : t = -1
    · rw [q]; rfl
    · rw [show ((t.toNat : Nat) : Int) = t by omega]
  unfold qf_X13_classConstant
  refine ok_if (fun C4 => ?_) (fun C4 => ?_)
  · refine ok_sv is_arr ?_; intro u5 P5
    refine ok_if (fun C => ?_) (fun C => ?_)
    · rcases P5 with P5 | P5
      · refine ok_sub (by omega) ?_; intro v6 e6
        refine ok_xl ?_; intro v7 e7
        rw [e6] at e7
        have w7 := td_lt (t := t) ht.2 g24.1
        have w8 : -1000 ≤ Int.tdiv (t - 8) 2 := by
          by_cases q : 8 ≤ t
          · rw [Int.tdiv_eq_ediv_of_nonneg (by omega)]; omega
          · rw [show t - 8 = -(8 - t) by omega, Int.neg_tdiv, Int.tdiv_eq_ediv_of_nonneg (by omega)]; omega
        refine ok_sv (sl_class hn P Vs V B (sp_nil e) (c := v7) (by omega) (by decide)) ?_; intro u9 P9
        obtain ⟨V9, N9, S9⟩ := P9
        refine J u9 V9 N9 ?_
        unfold srcL
        rw [if_pos (show t.toNat < 40 by omega), if_neg (show ¬ t.toNat = 4 by omega), if_neg ?_, en, ← e7]
        · rw [List.nil_append] at S9; exact S9
        · by_cases q : 8 ≤ t
          · have m : Int.tmod t 2 = t % 2 := Int.tmod_eq_emod_of_nonneg (by omega)
            have := P5.2.2; omega
          · omega
      · exact absurd C P5.1
    · rcases P5 with P5 | P5
      · exact absurd P5.1 C
      · refine ok_sv (sl_kind hn P Vs V B (sp_nil e) (t := t) (by omega) (by decide)) ?_; intro u11 P11
        obtain ⟨V1, N1, S1⟩ := P11
        refine J u11 V1 N1 ?_
        have m : Int.tmod t 2 = t % 2 := Int.tmod_eq_emod_of_nonneg (by have := P5.2; omega)
        unfold srcL
        rw [if_pos (show t.toNat < 40 by omega), if_neg (show ¬ t.toNat = 4 by omega), if_pos (show (8 ≤ t.toNat ∧ ¬ t.toNat % 2 = 0) by have := P5.2; omega), show ((t.toNat : Nat) : Int) = t by have := P5.2; omega]
        rw [List.nil_append] at S1; exact S1
  · have C' := Classical.not_not.mp C4
    refine ok_sv (sl_kind hn P Vs V B (sp_nil e) (t := t) (by omega) (by decide)) ?_; intro u14 P14
    obtain ⟨V1, N1, S1⟩ := P14
    refine J u14 V1 N1 ?_
    unfold srcL
    rw [if_pos (show t.toNat < 40 by omega), if_pos (show t.toNat = 4 by omega)]
    rw [List.nil_append, C'] at S1; exact S1
theorem cw_text (hn : 1000000 ≤ nn) (P : SP s) (Vs : VS_ s) {m t : Int} (C : CW s w h) (hw : w ≤ 3001) (hm : 0 ≤ m ∧ m < s 160 28) (et : t = s 186 m.toNat) : Ok_ (qf_X13_textOf nn t h) (fun u => CW s w u.2 ∧ NP h u.2 ∧ (1 ≤ u.1 ∧ u.1 ≤ 1999) ∧ (u.1 ≤ u.2 160 62 ∧ h 160 62 ≤ u.2 160 62)) := by
  obtain ⟨K, L, e⟩ := C
  have I := si_n (m := m.toNat) P (by omega)
  have p4 := P.2.2.2.1
  have g := gA_186 Vs m.toNat (by omega)
  have w12 := (P.2.2.2.2 m.toNat (by omega)).1
  rw [← et] at w12
  unfold qf_X13_textOf
  refine ok_sv (sl_tok hn K.1 K.2.1 (sp_nil e) (t := t) (by omega) (P.1.1 _ (by omega)) (by show (0 : Int) + _ ≤ _; omega)) ?_; intro u2 P2
  obtain ⟨V2, N2, S2⟩ := P2
  refine ok_sv (kp_spelling hn V2 (kp_ns N2 L) hw I ?_) ?_
  · unfold srcL
    rw [if_neg (show ¬ 40 + m.toNat < 40 by omega), if_pos (show 40 + m.toNat < 232 by omega), show 40 + m.toNat - 40 = m.toNat by omega, ← et]
    rw [List.nil_append] at S2; exact S2
  · intro u4 P4
    obtain ⟨V4, N4, L4, z4, t4⟩ := P4
    have N := np_tr (np_ns N2) N4
    have rm := kp_room L4 hw
    have t1 := t4.1
    have n62 := N2 160 62 (by decide) (by decide)
    exact ok_ret ⟨⟨ck_np K V4 N, L4, z4.1⟩, N, by show 1 ≤ u4.1 ∧ u4.1 ≤ 1999; omega, t1.2, by show h 160 62 ≤ u4.2 160 62; omega⟩
theorem cw_kind56 (hn : 1000000 ≤ nn) (P : SP s) (Vs : VS_ s) {m : Int} (K : CK s z) (N0 : NS z h) (V : VS_ h) (L : KP s w h) (hw : w ≤ 3001) (hm : 0 ≤ m ∧ m < s 160 28) (S : SpL h (if s 182 m.toNat ≤ 0 then [] else [40] ++ (parL s (s 188 m.toNat).toNat (s 189 m.toNat).toNat ++ [41]))) : Ok_ (qj_X13_kindOf_56 nn m h) (fun u => CW s w u.2 ∧ NP z u.2 ∧ (1 ≤ u.1 ∧ u.1 ≤ 1999) ∧ (u.1 ≤ u.2 160 62 ∧ z 160 62 ≤ u.2 160 62)) := by
  have I := si_k (m := m.toNat) P Vs (by omega)
  have p4 := P.2.2.2.1
  obtain ⟨q1, q2, q3, q4⟩ := P.2.2.2.2 m.toNat (by omega)
  have B := mf_np K.2.1 (np_ns N0)
  have ml := mk_len P Vs (m := m.toNat) (by omega)
  unfold mkL at ml
  rw [List.length_append] at ml
  have g9 := gA_189 Vs m.toNat (by omega)
  unfold qj_X13_kindOf_56
  refine ok_rd (by omega) (gA_187 V) ?_; intro v2 e2 a2 b2
  have e2' : v2 = s 187 m.toNat := by rw [e2]; exact B 187 _ (nw_ar rfl _)
  refine ok_sv (sl_kind hn P Vs V B S (t := v2) (by omega) (by omega)) ?_; intro u4 P4
  obtain ⟨V4, N4, S4⟩ := P4
  refine ok_sv (kp_spelling hn V4 (kp_ns N4 L) hw I ?_) ?_
  · unfold srcL mkL
    rw [if_neg (show ¬ 232 + m.toNat < 40 by omega), if_neg (show ¬ 232 + m.toNat < 232 by omega), show 232 + m.toNat - 232 = m.toNat by omega, ← e2']
    exact S4
  · intro u6 P6
    obtain ⟨V6, N6, L6, z6, t6⟩ := P6
    have N := np_tr (np_ns (ns_tr N0 N4)) N6
    have rm := kp_room L6 hw
    have t1 := t6.1
    have n62 := (ns_tr N0 N4) 160 62 (by decide) (by decide)
    exact ok_ret ⟨⟨ck_np K V6 N, L6, z6.1⟩, N, by show 1 ≤ u6.1 ∧ u6.1 ≤ 1999; omega, t1.2, by show z 160 62 ≤ u6.2 160 62; omega⟩
theorem par_snoc : ∀ (n f : Nat), parL s f (n + 1) = parL s f n ++ kndL s (s 195 (f + n)) := by
  intro n
  induction n with
  | zero => intro f; show kndL s (s 195 f) ++ [] = [] ++ kndL s (s 195 f); rw [List.append_nil, List.nil_append]
  | succ n ih =>
    intro f
    show kndL s (s 195 f) ++ parL s (f + 1) (n + 1) = kndL s (s 195 f) ++ parL s (f + 1) n ++ kndL s (s 195 (f + (n + 1)))
    rw [ih (f + 1), List.append_assoc, show f + 1 + n = f + (n + 1) by omega]
theorem cw_kind17 (hn : 1000000 ≤ nn) (P : SP s) (Vs : VS_ s) {m : Int} (K : CK s z) (hw : w ≤ 3001) (hm : 0 ≤ m ∧ m < s 160 28) (h0 : ¬ s 182 m.toNat ≤ 0) : ∀ (k : Nat) (l2 : Int) (h : ms_M), NS z h → VS_ h → KP s w h → 0 ≤ l2 → l2 ≤ s 189 m.toNat → s 189 m.toNat - l2 < (k : Int) → SpL h ([40] ++ parL s (s 188 m.toNat).toNat l2.toNat) → Ok_ (qw_X13_kindOf_17 nn k m l2 h) (fun u => CW s w u.2 ∧ NP z u.2 ∧ (1 ≤ u.1 ∧ u.1 ≤ 1999) ∧ (u.1 ≤ u.2 160 62 ∧ z 160 62 ≤ u.2 160 62)) := by
  have p4 := P.2.2.2.1
  obtain ⟨q1, q2, q3, q4⟩ := P.2.2.2.2 m.toNat (by omega)
  have g9 := gA_189 Vs m.toNat (by omega)
  have g8 := gA_188 Vs m.toNat (by omega)
  have hw2 := P.1.2 m.toNat (by omega)
  intro k
  induction k with
  | zero => intro l2 h N0 V L a1 a2 hm; exfalso; omega
  | succ k ih =>
    intro l2 h N0 V L a1 a2 hk S
    have B := mf_np K.2.1 (np_ns N0)
    have e9 : h 189 m.toNat = s 189 m.toNat := B 189 _ (nw_ar rfl _)
    have e8 : h 188 m.toNat = s 188 m.toNat := B 188 _ (nw_ar rfl _)
    have pl := par_len P Vs l2.toNat (s 188 m.toNat).toNat (fun k hk => q4 k (by omega))
    have ll : ((([40] ++ parL s (s 188 m.toNat).toNat l2.toNat : List Int).length : Nat) : Int) ≤ 91 := by rw [List.length_append, List.length_singleton]; omega
    unfold qw_X13_kindOf_17
    refine ok_rd (by omega) (gA_189 V) ?_; intro v8 e8' _ _
    refine ok_if (fun C => ?_) (fun C => ?_)
    · refine ok_sv (sl_spell V S (by omega) (by omega)) ?_; intro u10 P10
      obtain ⟨V1, N1, S1⟩ := P10
      refine cw_kind56 hn P Vs K (ns_tr N0 N1) V1 (kp_ns N1 L) hw hm ?_
      rw [if_neg h0, show (s 189 m.toNat).toNat = l2.toNat by omega]
      rw [List.append_assoc] at S1; exact S1
    · refine ok_rd (by omega) (gA_188 V) ?_; intro v13 e13 _ _
      refine ok_add (by omega) ?_; intro v14 e14
      refine ok_rd (by omega) (gA_195 V) ?_; intro v15 e15 a15 b15
      have e15' : v15 = s 195 ((s 188 m.toNat).toNat + l2.toNat) := by rw [e15, B 195 _ (nw_ar rfl _), show v14.toNat = (s 188 m.toNat).toNat + l2.toNat by omega]
      have t15 := q4 l2.toNat (by omega)
      rw [← e15'] at t15
      refine ok_sv (sl_kind hn P Vs V B S (t := v15) (by omega) (by omega)) ?_; intro u17 P17
      obtain ⟨V7, N7, S7⟩ := P17
      refine ok_add (by omega) ?_; intro v18 e18
      refine ih v18 u17 (ns_tr N0 N7) V7 (kp_ns N7 L) (by omega) (by omega) (by omega) ?_
      rw [show v18.toNat = l2.toNat + 1 by omega, par_snoc, ← e15']
      rw [List.append_assoc] at S7; exact S7
theorem cw_kind (hn : 1000000 ≤ nn) (P : SP s) (Vs : VS_ s) {m : Int} (C : CW s w h) (hw : w ≤ 3001) (hm : 0 ≤ m ∧ m < s 160 28) : Ok_ (qf_X13_kindOf nn m h) (fun u => CW s w u.2 ∧ NP h u.2 ∧ (1 ≤ u.1 ∧ u.1 ≤ 1999) ∧ (u.1 ≤ u.2 160 62 ∧ h 160 62 ≤ u.2 160 62)) := by
  obtain ⟨K, L, e⟩ := C
  have p4 := P.2.2.2.1
  have e2 : h 182 m.toNat = s 182 m.toNat := K.2.1 182 _ (nw_ar rfl _)
  have g9 := gA_189 Vs m.toNat (by omega)
  unfold qf_X13_kindOf
  refine ok_rd (by omega) (gA_182 K.1) ?_; intro v21 e21 _ _
  refine ok_if (fun C => ?_) (fun C => ?_)
  · refine cw_kind56 hn P Vs K ns_rf K.1 L hw hm ?_
    rw [if_pos (by omega)]; exact sp_nil e
  · refine ok_sv (sl_spell K.1 (sp_nil e) (by omega) (by decide)) ?_; intro u23 P23
    obtain ⟨V3, N3, S3⟩ := P23
    refine cw_kind17 hn P Vs K hw hm (by omega) nn 0 u23 N3 V3 (kp_ns N3 L) (by omega) (by omega) (by omega) ?_
    exact S3
theorem cw_le {v : Int} (C : CW s w h) (hv : w ≤ v) : CW s v h := ⟨C.1, kp_le C.2.1 hv, C.2.2⟩
theorem cw_member (hn : 1000000 ≤ nn) (P : SP s) (Vs : VS_ s) {c m : Int} (C : CW s w h) (hw : w ≤ 3000) (hc : -4 ≤ c ∧ c < 8 + s 160 24) (hm : 0 ≤ m ∧ m < s 160 28) : Ok_ (qf_X13_memberConstant nn c m h) (fun u => CW s (w + 2) u.2 ∧ NP h u.2 ∧ (1 ≤ u.1 ∧ u.1 ≤ 1999)) := by
  have p2 := P.2.1
  have p4 := P.2.2.2.1
  unfold qf_X13_memberConstant
  refine ok_mul (by omega) ?_; intro v1 e1
  refine ok_add (by omega) ?_; intro v2 e2
  refine ok_sv (cw_class hn P Vs C (by omega) (t := v2) (by omega)) ?_; intro u4 P4
  obtain ⟨C4, N4, t4⟩ := P4
  refine ok_rd (by omega) (gA_186 C4.1.1) ?_; intro v6 e6 _ _
  refine ok_sv (cw_text hn P Vs C4 (by omega) hm (by rw [e6]; exact C4.1.2.1 186 _ (nw_ar rfl _))) ?_; intro u8 P8
  obtain ⟨C8, N8, t8, y8⟩ := P8
  refine ok_sv (cw_kind hn P Vs C8 (by omega) hm) ?_; intro u10 P10
  obtain ⟨C10, N10, t10, y10⟩ := P10
  refine ok_sv (kp_word hn C10.1.1 C10.2.1 hw (.inr rfl) (by omega) (by omega) (by omega) (.inr (by omega))) ?_; intro u12 P12
  obtain ⟨V12, N12, L12, z12, t12⟩ := P12
  have z10 := C10.2.2
  exact ok_ret ⟨⟨ck_np C10.1 V12 N12, L12, by show u12.2 160 66 = 0; omega⟩, np_tr N4 (np_tr N8 (np_tr N10 N12)), t12.1, t12.2.1⟩
theorem cw_int (hn : 1000000 ≤ nn) {a : Int} (C : CW s w h) (hw : w ≤ 3000) (ha : 0 ≤ a ∧ a ≤ 2147483647) : Ok_ (qf_X13_constant nn 2 a 0 0 h) (fun u => CW s (w + 2) u.2 ∧ NP h u.2 ∧ (1 ≤ u.1 ∧ u.1 ≤ 1999)) := by
  refine ok_im (kp_word hn C.1.1 C.2.1 hw (.inl rfl) ha (by omega) (by omega) (.inl rfl)) (fun u P => ?_)
  obtain ⟨V12, N12, L12, z12, t12⟩ := P
  exact ⟨⟨ck_np C.1 V12 N12, L12, by rw [z12.1]; exact C.2.2⟩, N12, t12.1, t12.2.1⟩
end
end
section
section
variable {nn : Nat} {s h r z : ms_M} {w : Int}
theorem kp_pe (K : KP s w h) (A : ∀ c k : Nat, 200 ≤ c → c ≤ 204 → r c k = h c k) (e62 : r 160 62 = h 160 62) (e64 : r 160 64 = h 160 64) : KP s w r := by
  have a : ∀ c k : Nat, 200 ≤ c → c ≤ 204 → r c k = h c k := A
  have tT : ∀ c T, isT r c T ↔ isT h c T := fun c T => by
    unfold isT
    rw [e62, a 200 _ (by decide) (by decide), a 202 _ (by decide) (by decide), a 201 _ (by decide) (by decide)]
    constructor
    · intro x; exact ⟨x.1, x.2.1, x.2.2.1, fun j v hj => by rw [← a 204 _ (by decide) (by decide)]; exact x.2.2.2 j v hj⟩
    · intro x; exact ⟨x.1, x.2.1, x.2.2.1, fun j v hj => by rw [a 204 _ (by decide) (by decide)]; exact x.2.2.2 j v hj⟩
  obtain ⟨⟨k01, k02⟩, b1, b3, k1, k2, k3, k4⟩ := K
  refine ⟨⟨fun c c1 c2 => ?_, fun c d T x y => k02 c d T ((tT c T).1 x) ((tT d T).1 y)⟩, b1, b3, fun i x y => ?_, fun i x y => ?_, by rw [e62]; exact k3, by rw [e64]; exact k4⟩
  · rw [e62] at c2
    have z := k01 c c1 c2
    refine ⟨kv_eq z.1 (a 200 _ (by decide) (by decide)) (a 201 _ (by decide) (by decide)) (a 202 _ (by decide) (by decide)) (a 203 _ (by decide) (by decide)) (by omega), ?_⟩
    rw [a 200 _ (by decide) (by decide), a 201 _ (by decide) (by decide), a 202 _ (by decide) (by decide), e64]
    exact z.2
  · obtain ⟨c, z⟩ := k1 i x y
    exact ⟨c, (tT _ _).2 z⟩
  · obtain ⟨c, d, z1, z2⟩ := k2 i x y
    refine ⟨c, d, (tT _ _).2 z1, ?_⟩
    unfold isC
    rw [e62, a 200 _ (by decide) (by decide), a 201 _ (by decide) (by decide), a 202 _ (by decide) (by decide), a 203 _ (by decide) (by decide)]
    exact z2
theorem cw_of (C : CW s w h) (Ck : CK s r) (A : ∀ c k : Nat, 200 ≤ c → c ≤ 204 → r c k = h c k) (e62 : r 160 62 = h 160 62) (e64 : r 160 64 = h 160 64) (e66 : r 160 66 = h 160 66) : CW s w r := ⟨Ck, kp_pe C.2.1 A e62 e64, e66.trans C.2.2⟩
theorem cw_F {L : List Nat} {LF : List (Nat × Nat)} (C : CW s w h) (Ck : CK s r) (F : ∀ c k, nw_F L LF false false c k = true → r c k = h c k) (h0 : ∀ k, nw_F L LF false false 200 k = true ∧ nw_F L LF false false 201 k = true ∧ nw_F L LF false false 202 k = true ∧ nw_F L LF false false 203 k = true ∧ nw_F L LF false false 204 k = true) (h2 : nw_F L LF false false 160 62 = true) (h4 : nw_F L LF false false 160 64 = true) (h6 : nw_F L LF false false 160 66 = true) : CW s w r := by
  refine cw_of C Ck (fun c k a b => ?_) (F _ _ h2) (F _ _ h4) (F _ _ h6)
  have q : c = 200 ∨ c = 201 ∨ c = 202 ∨ c = 203 ∨ c = 204 := by omega
  obtain ⟨x0, x1, x2, x3, x4⟩ := h0 k
  rcases q with q | q | q | q | q <;> subst q
  · exact F _ _ x0
  · exact F _ _ x1
  · exact F _ _ x2
  · exact F _ _ x3
  · exact F _ _ x4
theorem cw_put (hn : 1000000 ≤ nn) {a : Int} (C : CW s w h) (ra : -2147483645 ≤ a ∧ a ≤ 3001) (h68 : h 160 68 ≤ 900000000) : Ok_ (qf_X13_put nn a h) (fun r => CW s w r ∧ r 160 68 = h 160 68 + 1 ∧ (∀ c k : Nat, c ≠ 206 → ¬ (c = 160 ∧ k = 68) → r c k = h c k)) := ok_im (cm_put hn C.1 ra h68) (fun r P => ⟨cw_of C P.1 (fun c k a b => P.2.2 c k (by omega) (by omega)) (P.2.2 160 62 (by decide) (by decide)) (P.2.2 160 64 (by decide) (by decide)) (P.2.2 160 66 (by decide) (by decide)), P.2⟩)
theorem cw_push {a : Int} (C : CW s w h) (ra : 0 ≤ a ∧ a < 24 + 2 * s 160 24) (h70 : 0 ≤ h 160 70 ∧ h 160 70 ≤ 2999) : Ok_ (qf_X13_push nn a h) (fun r => CW s w r ∧ r 160 70 = h 160 70 + 1 ∧ (∀ c k : Nat, c ≠ 207 → ¬ (c = 160 ∧ (k = 70 ∨ k = 71)) → r c k = h c k)) := ok_im (cm_push C.1 ra h70) (fun r P => ⟨cw_of C P.1 (fun c k a b => P.2.2 c k (by omega) (by omega)) (P.2.2 160 62 (by decide) (by decide)) (P.2.2 160 64 (by decide) (by decide)) (P.2.2 160 66 (by decide) (by decide)), P.2⟩)
theorem cw_pop {v : Int} (C : CW s w h) (E : z = up_M h 160 70 v) (hv : 0 ≤ v ∧ v ≤ h 160 70) : CW s w z ∧ z 160 70 = v ∧ (∀ c k : Nat, ¬ (c = 160 ∧ k = 70) → z c k = h c k) := by
  have P := cm_pop C.1 E hv
  exact ⟨cw_of C P.1 (fun c k a b => P.2.2 c k (by omega)) (P.2.2 160 62 (by decide)) (P.2.2 160 64 (by decide)) (P.2.2 160 66 (by decide)), P.2⟩
theorem cw_label (C : CW s w h) (h88 : h 160 88 ≤ 2000000000) : Ok_ (qf_X13_label nn h) (fun u => CW s w u.2 ∧ u.1 = h 160 88 + 1 ∧ u.2 160 88 = h 160 88 + 1 ∧ (∀ c k : Nat, ¬ (c = 160 ∧ k = 88) → u.2 c k = h c k)) := ok_im (cm_label C.1 h88) (fun r P => ⟨cw_of C P.1 (fun c k a b => P.2.2.2 c k (by omega)) (P.2.2.2 160 62 (by decide)) (P.2.2.2 160 64 (by decide)) (P.2.2.2 160 66 (by decide)), P.2⟩)
theorem cw_jump (hn : 1000000 ≤ nn) {a1 a2 : Int} (C : CW s w h) (r1 : 153 ≤ a1 ∧ a1 ≤ 167) (r2 : 0 ≤ a2 ∧ a2 ≤ h 160 88) (h68 : h 160 68 ≤ 800000000) (h87 : h 160 87 ≤ 2999) : Ok_ (qf_X13_jump nn a1 a2 h) (fun r => CW s w r ∧ r 160 68 = h 160 68 + 3 ∧ r 160 87 = h 160 87 + 1 ∧ r 218 (h 160 87).toNat = a2 ∧ (∀ i : Nat, (i : Int) < h 160 87 → r 217 i = h 217 i ∧ r 218 i = h 218 i) ∧ (∀ c k, nw_F wl_X13_jump wf_X13_jump false false c k = true → r c k = h c k)) := ok_im (cm_jump hn C.1 r1 r2 h68 h87) (fun r P => ⟨cw_F C P.1 P.2.2.2.2.2 (fun k => ⟨nw_ar rfl k, nw_ar rfl k, nw_ar rfl k, nw_ar rfl k, nw_ar rfl k⟩) rfl rfl rfl, P.2⟩)

theorem cw_stands (hn : 1000000 ≤ nn) {l a n : Int} (C : CW s w h) (ra : 0 ≤ a ∧ a ≤ 1000000000) (hN : ∀ i : Nat, (i : Int) < n → ¬ h 218 i = l) (hn2 : 0 ≤ n ∧ n ≤ h 160 87) (h78 : h 160 78 ≤ 6199) : Ok_ (qf_X13_stands nn l a h) (fun r => CW s w r ∧ (n ≤ r 160 87 ∧ r 160 87 ≤ h 160 87) ∧ (h 160 78 ≤ r 160 78 ∧ r 160 78 ≤ h 160 78 + 1) ∧ (∀ i : Nat, (i : Int) < n → r 217 i = h 217 i ∧ r 218 i = h 218 i) ∧ (∀ i : Nat, n ≤ (i : Int) → (i : Int) < r 160 87 → ¬ r 218 i = l ∧ ∃ j : Nat, (n ≤ (j : Int) ∧ (j : Int) < h 160 87) ∧ r 218 i = h 218 j ∧ r 217 i = h 217 j) ∧ (∀ c k, nw_F wl_X13_stands wf_X13_stands false false c k = true → r c k = h c k)) := ok_im (cm_stands hn C.1 ra hN hn2 h78) (fun r P => ⟨cw_F C P.1 P.2.2.2.2.2 (fun k => ⟨nw_ar rfl k, nw_ar rfl k, nw_ar rfl k, nw_ar rfl k, nw_ar rfl k⟩) rfl rfl rfl, P.2⟩)
/-- what the nodes below x take -/
def Cm (s : ms_M) (x : Int) : Int := Cn s x.toNat
theorem wt_1 (k : Int) : 1 ≤ wt k := by unfold wt; split; omega; split <;> omega
theorem cm_at {e : Int} (h0 : 0 ≤ e) : Cm s (e + 1) = Cm s e + wt (s 167 e.toNat) := by
  unfold Cm
  rw [show (e + 1).toNat = e.toNat + 1 by omega]; rfl
theorem cn_mono : ∀ (n k : Nat), Cn s k + n ≤ Cn s (k + n) := by
  intro n
  induction n with
  | zero => intro k; show Cn s k + 0 ≤ Cn s k; omega
  | succ n ih =>
    intro k
    have := ih k
    have w := wt_1 (s 167 (k + n))
    show Cn s k + ((n + 1 : Nat) : Int) ≤ Cn s (k + n) + wt (s 167 (k + n))
    omega
theorem cm_mono {a b : Int} (h0 : 0 ≤ a) (h : a ≤ b) : Cm s a + (b - a) ≤ Cm s b := by
  unfold Cm
  have := cn_mono (s := s) (b - a).toNat a.toNat
  rw [show a.toNat + (b - a).toNat = b.toNat by omega] at this
  omega
/-- what making wants of the memory behind the rules -/
def GZ (s : ms_M) : Prop := VS_ s ∧ SP s ∧ ((8 ≤ s 160 52 ∧ s 160 52 < 8 + s 160 24) ∧ s 160 22 ≤ 3000) ∧ ∀ x : Nat, (x : Int) < s 160 22 → (0 ≤ s 174 x ∧ s 174 x < 24 + 2 * s 160 24) ∧ (20 ≤ s 167 x → s 175 x < s 160 28) ∧ ((s 167 x = 26 ∨ s 167 x = 31) → 0 ≤ s 175 x) ∧ ((s 167 x = 36 ∨ s 167 x = 38) → s 176 x < 24 + 2 * s 160 24) ∧ (s 167 x = 31 → s 176 x < 8 + s 160 24)
/-- how many values an expression leaves -/
def tv (t : Int) : Int := if t = 3 then 0 else 1
def dv (s : ms_M) (e : Int) : Int := tv (s 174 e.toNat)
theorem tv_r {t : Int} : (t = 3 ∧ tv t = 0) ∨ (¬ t = 3 ∧ tv t = 1) := by
  unfold tv
  by_cases q : t = 3
  · exact .inl ⟨q, if_pos q⟩
  · exact .inr ⟨q, if_neg q⟩
/-- what is worked before it -/
def led (s : ms_M) (e : Int) : Prop := s 167 e.toNat = 30 ∨ s 167 e.toNat = 32 ∨ s 167 e.toNat = 37 ∨ s 167 e.toNat = 38 ∨ (s 167 e.toNat = 31 ∧ s 176 e.toNat = -1)
def gv (s : ms_M) (e : Int) : Prop := ¬ s 174 e.toNat = 3 ∨ s 167 e.toNat = 26 ∨ s 167 e.toNat = 31
/-- room: C nodes are still to come, p values lie below -/
def BD (h : ms_M) (C a b d w p : Int) : Prop := (2 * p + d ≤ a + 1500 ∧ 0 ≤ p) ∧ h 160 57 + b ≤ 9000 ∧ h 160 78 + 2 * C ≤ 6190 ∧ h 160 87 + d ≤ 2990 ∧ w + C ≤ 3000 ∧ h 160 68 + 20 * C ≤ 100000 ∧ h 160 88 + 2 * C ≤ 1900000000
/-- what an expression leaves -/
def QG (s h : ms_M) (w p c f : Int) (r : ms_M) : Prop := CW s w r ∧ r 160 70 = p ∧ (h 160 68 ≤ r 160 68 ∧ r 160 68 ≤ h 160 68 + c) ∧ (h 160 78 ≤ r 160 78 ∧ r 160 78 ≤ h 160 78 + f) ∧ (h 160 88 ≤ r 160 88 ∧ r 160 88 ≤ h 160 88 + f) ∧ (r 160 50 = h 160 50 ∧ r 160 54 = h 160 54 ∧ r 160 57 = h 160 57 ∧ r 160 72 = h 160 72 ∧ r 160 84 = h 160 84 ∧ r 160 87 = h 160 87) ∧ (∀ i : Nat, (i : Int) < h 160 87 → r 217 i = h 217 i ∧ r 218 i = h 218 i) ∧ (∀ j : Nat, (j : Int) < h 160 57 → r 199 j = h 199 j)
def QK (s h : ms_M) (w p C : Int) (r : ms_M) : Prop := QG s h w p (20 * C) (2 * C) r
/-- work and its fellows at depth g -/
def WG (s : ms_M) (g : Int) (rc : tq_X13_work) : Prop :=
  (∀ e d a b a2 b2 w h, CW s w h → TE 0 s 0 d a b e → YT s 0 a2 b2 e → gv s e → b ≤ s 160 22 → d + 1 ≤ g → BD h (Cm s b - Cm s a) a b d w (h 160 70) → Ok_ (rc.1 e h) (QK s h (w + (Cm s b - Cm s a) + 1) (h 160 70 + dv s e) (Cm s b - Cm s a))) ∧
  (∀ e d a b a2 b2 w h x q, CW s w h → TE 0 s 0 d a b e → YT s 0 a2 b2 e → gv s e → b ≤ s 160 22 → d ≤ g → ((x = e ∧ q = 1 ∧ led s e) ∨ (x = a ∧ q = 0 ∧ ¬ led s e)) → BD h (Cm s b - Cm s x) a b d (w - q) (h 160 70 - q) → Ok_ (rc.2.1 e h) (QK s h (w + (Cm s b - Cm s x) + 1 - q) (h 160 70 - q + dv s e) (Cm s b - Cm s x))) ∧
  (∀ e c f d a b a2 b2 w h, CW s w h → TE 0 s 0 d a b e → YT s 0 a2 b2 e → (s 167 e.toNat = 26 ∨ s 167 e.toNat = 31) → b ≤ s 160 22 → d - 1 ≤ g → (-4 ≤ c ∧ c < 8 + s 160 24) → (f = 0 ∨ f = 1) → BD h (Cm s b - Cm s (e + 1)) a b d w (h 160 70 - (1 - f)) → Ok_ (rc.2.2.1 e c f h) (QG s h (w + (Cm s b - Cm s (e + 1)) + 2) (h 160 70 - (1 - f) + dv s e) (20 * (Cm s b - Cm s (e + 1)) + 5) (2 * (Cm s b - Cm s (e + 1))))) ∧
  (∀ e d a b a2 b2 w h, CW s w h → TE 0 s 0 d a b e → YT s 0 a2 b2 e → s 167 e.toNat = 37 → ¬ s 174 e.toNat = 3 → b ≤ s 160 22 → d - 1 ≤ g → BD h (Cm s b - Cm s e) a b d (w - 1) (h 160 70 - 1) → Ok_ (rc.2.2.2 e h) (QK s h (w + (Cm s b - Cm s e)) (h 160 70) (Cm s b - Cm s e)))

theorem yo_26 {a b e : Int} (Y : YT s 0 a b e) (hk : s 167 e.toNat = 26) : YT s 1 (e + 1) b (s 171 e.toNat) := by
  obtain ⟨_, x⟩ := yt_o0 Y
  rcases x with x | x | ⟨k, x⟩ | ⟨k, x⟩ | ⟨k, x⟩ | ⟨k, x, y⟩ | ⟨k, x, y⟩ | ⟨k, x⟩ | ⟨k, x, w, wr, y, z⟩
  · exfalso; omega
  · exfalso; omega
  · exact x
  · exfalso; omega
  · exfalso; omega
  · exfalso; omega
  · exfalso; omega
  · exfalso; omega
  · exfalso; omega
theorem yo_28 {a b e : Int} (Y : YT s 0 a b e) (hk : s 167 e.toNat = 28 ∨ s 167 e.toNat = 29) : ¬ s 174 (s 170 e.toNat).toNat = 3 ∧ YT s 0 (e + 1) b (s 170 e.toNat) := by
  obtain ⟨_, x⟩ := yt_o0 Y
  rcases x with x | x | ⟨k, x⟩ | ⟨k, x⟩ | ⟨k, x⟩ | ⟨k, x, y⟩ | ⟨k, x, y⟩ | ⟨k, x⟩ | ⟨k, x, w, wr, y, z⟩
  · exfalso; omega
  · exfalso; omega
  · exfalso; omega
  · exact ⟨x.1.2.2, x.2⟩
  · exfalso; omega
  · exfalso; omega
  · exfalso; omega
  · exfalso; omega
  · exfalso; omega
theorem yo_30 {a b e : Int} (Y : YT s 0 a b e) (hk : s 167 e.toNat = 30 ∨ s 167 e.toNat = 38) : ¬ s 174 (s 170 e.toNat).toNat = 3 ∧ YT s 0 a e (s 170 e.toNat) := by
  obtain ⟨_, x⟩ := yt_o0 Y
  rcases x with x | x | ⟨k, x⟩ | ⟨k, x⟩ | ⟨k, x⟩ | ⟨k, x, y⟩ | ⟨k, x, y⟩ | ⟨k, x⟩ | ⟨k, x, w, wr, y, z⟩
  · exfalso; omega
  · exfalso; omega
  · exfalso; omega
  · exfalso; omega
  · exact ⟨x.1.2.2, x.2⟩
  · exfalso; omega
  · exfalso; omega
  · exfalso; omega
  · exfalso; omega
theorem yo_31 {a b e : Int} (Y : YT s 0 a b e) (hk : s 167 e.toNat = 31) : (¬ s 176 e.toNat = -1 ∨ (¬ s 174 (s 170 e.toNat).toNat = 3 ∧ YT s 0 a e (s 170 e.toNat))) ∧ YT s 1 (e + 1) b (s 171 e.toNat) := by
  obtain ⟨_, x⟩ := yt_o0 Y
  rcases x with x | x | ⟨k, x⟩ | ⟨k, x⟩ | ⟨k, x⟩ | ⟨k, x, y⟩ | ⟨k, x, y⟩ | ⟨k, x⟩ | ⟨k, x, w, wr, y, z⟩
  · exfalso; omega
  · exfalso; omega
  · exfalso; omega
  · exfalso; omega
  · exfalso; omega
  · exact ⟨x.imp id (fun x => ⟨x.1.2.2, x.2⟩), y⟩
  · exfalso; omega
  · exfalso; omega
  · exfalso; omega
theorem yo_32 {a b e : Int} (Y : YT s 0 a b e) (hk : s 167 e.toNat = 32 ∨ s 167 e.toNat = 37) : (¬ s 174 (s 170 e.toNat).toNat = 3 ∧ YT s 0 a e (s 170 e.toNat)) ∧ ¬ s 174 (s 171 e.toNat).toNat = 3 ∧ YT s 0 (e + 1) b (s 171 e.toNat) := by
  obtain ⟨_, x⟩ := yt_o0 Y
  rcases x with x | x | ⟨k, x⟩ | ⟨k, x⟩ | ⟨k, x⟩ | ⟨k, x, y⟩ | ⟨k, x, y⟩ | ⟨k, x⟩ | ⟨k, x, w, wr, y, z⟩
  · exfalso; omega
  · exfalso; omega
  · exfalso; omega
  · exfalso; omega
  · exfalso; omega
  · exfalso; omega
  · exact ⟨⟨x.1.2.2, x.2⟩, ⟨y.1.2.2, y.2⟩⟩
  · exfalso; omega
  · exfalso; omega
theorem yo_33 {a b e : Int} (Y : YT s 0 a b e) (hk : 33 ≤ s 167 e.toNat ∧ s 167 e.toNat ≤ 36) : ¬ s 174 (s 170 e.toNat).toNat = 3 ∧ YT s 0 (e + 1) b (s 170 e.toNat) := by
  obtain ⟨_, x⟩ := yt_o0 Y
  rcases x with x | x | ⟨k, x⟩ | ⟨k, x⟩ | ⟨k, x⟩ | ⟨k, x, y⟩ | ⟨k, x, y⟩ | ⟨k, x⟩ | ⟨k, x, w, wr, y, z⟩
  · exfalso; omega
  · exfalso; omega
  · exfalso; omega
  · exfalso; omega
  · exfalso; omega
  · exfalso; omega
  · exfalso; omega
  · exact ⟨x.1.2.2, x.2⟩
  · exfalso; omega
theorem yo_39 {a b e : Int} (Y : YT s 0 a b e) (hk : s 167 e.toNat = 39) : (¬ s 174 (s 170 e.toNat).toNat = 3 ∧ YT s 0 a e (s 170 e.toNat)) ∧ ∃ c, (¬ s 174 (s 171 e.toNat).toNat = 3 ∧ YT s 0 (e + 1) c (s 171 e.toNat)) ∧ (¬ s 174 (s 172 e.toNat).toNat = 3 ∧ YT s 0 c b (s 172 e.toNat)) := by
  obtain ⟨_, x⟩ := yt_o0 Y
  rcases x with x | x | ⟨k, x⟩ | ⟨k, x⟩ | ⟨k, x⟩ | ⟨k, x, y⟩ | ⟨k, x, y⟩ | ⟨k, x⟩ | ⟨k, x, w, wr, y, z⟩
  · exfalso; omega
  · exfalso; omega
  · exfalso; omega
  · exfalso; omega
  · exfalso; omega
  · exfalso; omega
  · exfalso; omega
  · exfalso; omega
  · exact ⟨⟨x.1.2.2, x.2⟩, w, ⟨y.1.2.2, y.2⟩, ⟨z.1.2.2, z.2⟩⟩
end
end

section
variable {nn : Nat} {h r : ms_M}
theorem pc_c6 {α : Type} {Q : α → Prop} {z : Int} {G : Int → Option α} (k : ∀ v, Pc (G v) Q) : Pc (ck_6 z G) Q := by
  unfold ck_6
  split
  · exact k z
  · exact pc_none
/-- a NAME is at most twelve wide -/
def NW_ (M : ms_M) : Prop := ∀ t : Nat, (t < 3002 ∧ M 163 t = 1) → M 165 t ≤ 12
theorem nw_eq (N : NW_ h) (a : ∀ k, r 163 k = h 163 k) (b : ∀ k, r 165 k = h 165 k) : NW_ r := fun t x => by
  rw [a] at x; rw [b]; exact N t x
theorem nw_token {a1 a2 a3 a4 : Int} (N : NW_ h) (ha : a1 = 1 → a3 ≤ 12) : Pc (qf_X13_token nn a1 a2 a3 a4 h) NW_ := by
  unfold qf_X13_token
  refine pc_wA ?_; intro _ _ h3 E3
  have e3 : h3 160 8 = h 160 8 := by rw [E3, up_n (by omega)]
  refine pc_wA ?_; intro _ _ h6 E6
  have e6 : h6 160 8 = h 160 8 := by rw [E6, up_n (by omega)]; exact e3
  refine pc_wA ?_; intro _ _ h9 E9
  have e9 : h9 160 8 = h 160 8 := by rw [E9, up_n (by omega)]; exact e6
  refine pc_wA ?_; intro _ _ h12 E12
  refine pc_xl ?_; intro v14 _
  refine pc_xl ?_; intro h15 E15
  refine pc_ret (fun t x => ?_)
  rw [e6] at E9
  by_cases q : t = (h 160 8).toNat
  · have a : h15 163 t = a1 := by rw [E15, up_n (by omega), E12, up_n (by omega), E9, up_n (by omega), E6, up_n (by omega), E3, q, up_s]
    have b : h15 165 t = a3 := by rw [E15, up_n (by omega), E12, up_n (by omega), E9, q, up_s]
    rw [a] at x; rw [b]; exact ha x.2
  · have a : h15 163 t = h 163 t := by rw [E15, up_n (by omega), E12, up_n (by omega), E9, up_n (by omega), E6, up_n (by omega), E3, up_n (by omega)]
    have b : h15 165 t = h 165 t := by rw [E15, up_n (by omega), E12, up_n (by omega), E9, up_n (by omega), E6, up_n (by omega), E3, up_n (by omega)]
    rw [a] at x; rw [b]; exact N t x
theorem nw_5 {j : Nat} {z : ms_M} (N : NW_ h) (E : z = up_M h 163 j 5) : NW_ z := fun t x => by
  by_cases q : t = j
  · rw [E, q, up_s] at x; exact absurd x.2 (by decide)
  · rw [E, up_n (by omega)] at x
    rw [E, up_n (by omega)]; exact N t x
theorem nw_400 : ∀ (k : Nat) (l : Int) (h : ms_M), NW_ h → Pc (qw_X13_tokenize_400 nn k l h) NW_ := by
  intro k
  induction k with
  | zero => intros; exact pc_none
  | succ k ih =>
    intro l h N
    unfold qw_X13_tokenize_400
    refine pc_xl ?_; intro v8 _
    refine pc_if (fun _ => pc_ret N) (fun _ => ?_)
    refine pc_wA ?_; intro _ _ h10 E10
    refine pc_xl ?_; intro v11 _
    exact ih v11 h10 (nw_5 N E10)
theorem nw_449 : ∀ (k : Nat) (l : Int) (h : ms_M), NW_ h → Pc (qw_X13_tokenize_449 nn k l h) NW_ := by
  intro k
  induction k with
  | zero => intros; exact pc_none
  | succ k ih =>
    intro l h N
    unfold qw_X13_tokenize_449
    refine pc_xl ?_; intro v8 _
    refine pc_if (fun _ => pc_ret N) (fun _ => ?_)
    refine pc_wA ?_; intro _ _ h10 E10
    refine pc_xl ?_; intro v11 _
    exact ih v11 h10 (nw_5 N E10)
variable {qk : Int → ms_M → Option ms_M}
theorem nw_378 (hk : ∀ l h, NW_ h → Pc (qk l h) NW_) {l1 l3 : Int} (N : NW_ h) : Pc (qj_X13_tokenize_378 nn qk l1 l3 h) NW_ := by
  unfold qj_X13_tokenize_378
  refine pc_xl ?_; intro v15 _
  refine pc_rA ?_; intro _ _ v16 _
  refine pc_if (fun _ => ?_) (fun _ => nw_400 nn _ h N)
  refine pc_xl ?_; intro v17 _
  exact hk v17 h N
theorem nw_169 (hk : ∀ l h, NW_ h → Pc (qk l h) NW_) {l1 l3 l4 s0 : Int} (N : NW_ h) (hs : s0 = 1 → l3 ≤ 12) : Pc (qj_X13_tokenize_169 nn qk l1 l3 l4 s0 h) NW_ := by
  unfold qj_X13_tokenize_169
  refine pc_sv (nw_token N hs) ?_; intro u64 N64
  exact nw_378 hk N64
theorem nw_307 (hk : ∀ l h, NW_ h → Pc (qk l h) NW_) {l1 l3 l4 s0 : Int} (N : NW_ h) (hs : ¬ s0 = 1) : Pc (qj_X13_tokenize_307 nn qk l1 l3 l4 s0 h) NW_ := by
  unfold qj_X13_tokenize_307
  refine pc_xl ?_; intro v30 _
  refine pc_sv (nw_token N (fun x => absurd x hs)) ?_; intro u64 N64
  exact nw_378 hk N64
theorem nw_371 (hk : ∀ l h, NW_ h → Pc (qk l h) NW_) {l1 l3 l4 s0 : Int} (N : NW_ h) (hs : ¬ s0 = 1) : Pc (qj_X13_tokenize_371 nn qk l1 l3 l4 s0 h) NW_ := by
  unfold qj_X13_tokenize_371
  refine pc_sv (nw_token N (fun x => absurd x hs)) ?_; intro u64 N64
  exact nw_378 hk N64
theorem nw_293 (hk : ∀ l h, NW_ h → Pc (qk l h) NW_) {l1 l3 l4 s0 : Int} (N : NW_ h) : Pc (qj_X13_tokenize_293 nn qk l1 l3 l4 s0 h) NW_ := by
  unfold qj_X13_tokenize_293
  exact pc_if (fun _ => nw_307 hk N (by decide)) (fun _ => nw_307 hk N (by decide))
theorem nw_292 (hk : ∀ l h, NW_ h → Pc (qk l h) NW_) {l1 l3 l4 : Int} (N : NW_ h) : Pc (qj_X13_tokenize_292 nn qk l1 l3 l4 h) NW_ := by
  unfold qj_X13_tokenize_292
  exact nw_293 hk N
theorem nw_263 (hk : ∀ l h, NW_ h → Pc (qk l h) NW_) {l1 l3 l4 : Int} (N : NW_ h) : Pc (qj_X13_tokenize_263 nn qk l1 l3 l4 h) NW_ := by
  unfold qj_X13_tokenize_263
  refine pc_xl ?_; intro v34 _
  refine pc_se ?_; intro u36 _
  refine pc_se ?_; intro u37 _
  refine pc_if (fun _ => nw_292 hk N) (fun _ => ?_)
  refine pc_xl ?_; intro v38 _
  refine pc_se ?_; intro u40 _
  exact pc_if (fun _ => nw_292 hk N) (fun _ => nw_293 hk N)
theorem nw_189 (hk : ∀ l h, NW_ h → Pc (qk l h) NW_) (N : NW_ h) : ∀ (k : Nat) (l1 l2 l3 l4 : Int), Pc (qw_X13_tokenize_189 nn qk k l1 l2 l3 l4 h) NW_ := by
  intro k
  induction k with
  | zero => intros; exact pc_none
  | succ k ih =>
    intro l1 l2 l3 l4
    unfold qw_X13_tokenize_189
    refine pc_xl ?_; intro v43 _
    refine pc_se ?_; intro u45 _
    refine pc_se ?_; intro u46 _
    refine pc_if (fun _ => ?_) (fun _ => ?_)
    · refine pc_xl ?_; intro v47 _
      refine pc_if (fun _ => nw_292 hk N) (fun _ => ?_)
      refine pc_if (fun _ => nw_263 hk N) (fun _ => ?_)
      exact pc_if (fun _ => nw_292 hk N) (fun _ => nw_263 hk N)
    · refine pc_xl ?_; intro v51 _
      refine pc_if (fun _ => ?_) (fun _ => ?_)
      · refine pc_c6 ?_; intro v52
        refine pc_xl ?_; intro v53 _
        refine pc_se ?_; intro u55 _
        refine pc_xl ?_; intro v56 _
        refine pc_c6 ?_; intro v57
        refine pc_c6 ?_; intro v58
        refine pc_xl ?_; intro v59 _
        exact ih _ _ _ _
      · refine pc_xl ?_; intro v60 _
        exact ih _ _ _ _
theorem nw_330 (hk : ∀ l h, NW_ h → Pc (qk l h) NW_) (N : NW_ h) : ∀ (k : Nat) (l1 l3 l4 l5 : Int), Pc (qw_X13_tokenize_330 nn qk k l1 l3 l4 l5 h) NW_ := by
  intro k
  induction k with
  | zero => intros; exact pc_none
  | succ k ih =>
    intro l1 l3 l4 l5
    unfold qw_X13_tokenize_330
    refine pc_if (fun _ => ?_) (fun _ => ?_)
    · exact pc_if (fun _ => nw_371 hk N (by decide)) (fun _ => nw_371 hk N (by decide))
    · refine pc_xl ?_; intro v23 _
      refine pc_xl ?_; intro v25 _
      refine pc_rA ?_; intro _ _ v26 _
      refine pc_xl ?_; intro v27 _
      refine pc_xl ?_; intro v28 _
      exact ih _ _ _ _
theorem nw_92 (hk : ∀ l h, NW_ h → Pc (qk l h) NW_) (N : NW_ h) : ∀ (k : Nat) (l1 l3 : Int), Pc (qw_X13_tokenize_92 nn qk k l1 l3 h) NW_ := by
  intro k
  induction k with
  | zero => intros; exact pc_none
  | succ k ih =>
    intro l1 l3
    unfold qw_X13_tokenize_92
    refine pc_xl ?_; intro v65 _
    refine pc_se ?_; intro u67 _
    refine pc_se ?_; intro u68 _
    refine pc_if (fun _ => ?_) (fun _ => ?_)
    · refine pc_xl ?_; intro v69 _
      exact ih _ _
    · refine pc_xl ?_; intro v70 _
      refine pc_se ?_; intro u72 _
      refine pc_se ?_; intro u73 _
      refine pc_if (fun _ => ?_) (fun _ => ?_)
      · refine pc_xl ?_; intro v74 _
        exact ih _ _
      · refine pc_xl ?_; intro v75 _
        refine pc_se ?_; intro u77 _
        refine pc_if (fun _ => ?_) (fun _ => ?_)
        · refine pc_se ?_; intro u79 _
          refine pc_if (fun _ => ?_) (fun _ => nw_169 hk N (fun x => absurd x (by decide)))
          exact pc_if (fun _ => nw_169 hk N (fun x => absurd x (by decide))) (fun C => nw_169 hk N (fun _ => by omega))
        · refine pc_xl ?_; intro v82 _
          exact ih _ _
theorem nw_58 (hk : ∀ l h, NW_ h → Pc (qk l h) NW_) (N : NW_ h) : ∀ (k : Nat) (l1 : Int), Pc (qw_X13_tokenize_58 nn qk k l1 h) NW_ := by
  intro k
  induction k with
  | zero => intros; exact pc_none
  | succ k ih =>
    intro l1
    unfold qw_X13_tokenize_58
    refine pc_if (fun _ => hk _ _ N) (fun _ => ?_)
    refine pc_rA ?_; intro _ _ v94 _
    refine pc_if (fun _ => hk _ _ N) (fun _ => ?_)
    refine pc_xl ?_; intro v95 _
    exact ih _
theorem nw_83 (hk : ∀ l h, NW_ h → Pc (qk l h) NW_) {l1 l2 : Int} (N : NW_ h) : Pc (qj_X13_tokenize_83 nn qk l1 l2 h) NW_ := by
  unfold qj_X13_tokenize_83
  refine pc_se ?_; intro u86 _
  refine pc_if (fun _ => ?_) (fun _ => nw_92 hk N nn _ _)
  refine pc_se ?_; intro u87 _
  refine pc_if (fun _ => ?_) (fun _ => nw_189 hk N nn _ _ _ _)
  refine pc_se ?_; intro u89 _
  exact nw_330 hk N nn _ _ _ _
theorem nw_7 : ∀ (k : Nat) (l1 : Int) (h : ms_M), NW_ h → Pc (qw_X13_tokenize_7 nn k l1 h) NW_ := by
  intro k
  induction k with
  | zero => intros; exact pc_none
  | succ k ih =>
    intro l1 h N
    unfold qw_X13_tokenize_7
    refine pc_if (fun _ => ?_) (fun _ => ?_)
    · refine pc_sv (nw_token N (fun x => absurd x (by decide))) ?_; intro u101 N1
      exact nw_449 nn _ _ N1
    · refine pc_rA ?_; intro _ _ v104 _
      refine pc_if (fun _ => ?_) (fun _ => ?_)
      · refine pc_xl ?_; intro v105 _
        exact ih _ _ N
      · refine pc_if (fun _ => ?_) (fun _ => ?_)
        · refine pc_if (fun _ => nw_83 ih N) (fun _ => ?_)
          refine pc_xl ?_; intro v106 _
          refine pc_se ?_; intro u108 _
          exact pc_if (fun _ => nw_83 ih N) (fun _ => nw_58 ih N nn _)
        · refine pc_xl ?_; intro v111 _
          exact ih _ _ N
theorem nw_tokenize (N : NW_ h) : Pc (qf_X13_tokenize nn h) NW_ := by
  unfold qf_X13_tokenize
  refine pc_xl ?_; intro h115 E
  exact nw_7 nn 0 h115 (nw_eq N (fun k => by rw [E, up_n (by omega)]) (fun k => by rw [E, up_n (by omega)]))
end
section
variable {nn : Nat} {h r z : ms_M}
/-- the names of classes and members are NAMEs -/
def NK (h : ms_M) : Prop := (∀ c : Nat, (c : Int) < h 160 24 → h 163 (h 178 c).toNat = 1) ∧ (∀ m : Nat, (m : Int) < h 160 28 → h 163 (h 186 m).toNat = 1)
theorem nk_eq (N : NK h) (e24 : r 160 24 = h 160 24) (e28 : r 160 28 = h 160 28) (A : ∀ k, r 163 k = h 163 k ∧ r 178 k = h 178 k ∧ r 186 k = h 186 k) : NK r := by
  refine ⟨fun c hc => ?_, fun m hm => ?_⟩
  · rw [(A _).1, (A c).2.1]; exact N.1 c (by omega)
  · rw [(A _).1, (A m).2.2]; exact N.2 m (by omega)
theorem nk_F {L : List Nat} {LF : List (Nat × Nat)} (N : NK h) (F : ∀ c k, nw_F L LF false false c k = true → r c k = h c k) (h0 : ∀ k, nw_F L LF false false 163 k = true ∧ nw_F L LF false false 178 k = true ∧ nw_F L LF false false 186 k = true) (h2 : nw_F L LF false false 160 24 = true) (h3 : nw_F L LF false false 160 28 = true) : NK r := nk_eq N (F _ _ h2) (F _ _ h3) (fun k => ⟨F _ _ (h0 k).1, F _ _ (h0 k).2.1, F _ _ (h0 k).2.2⟩)
theorem nk_up {c k : Nat} {v : Int} (N : NK h) (E : z = up_M h c k v) (hc : c ≠ 163 ∧ c ≠ 178 ∧ c ≠ 186 ∧ ¬ (c = 160 ∧ (k = 24 ∨ k = 28))) : NK z := nk_eq N (by rw [E, up_n (by omega)]) (by rw [E, up_n (by omega)]) (fun x => by rw [E, up_n (by omega), up_n (by omega), up_n (by omega)]; exact ⟨rfl, rfl, rfl⟩)
theorem nk_word {v : Int} (N : NK h) (e : qf_X13_word nn v h = some r) : NK r := nk_F N (fun c k w => (ff_X13_word nn) _ e c k w) (fun k => ⟨nw_ar rfl k, nw_ar rfl k, nw_ar rfl k⟩) rfl rfl
theorem nk_sign {v : Int} (N : NK h) (e : qf_X13_sign_ nn v h = some r) : NK r := nk_F N (fun c k w => (ff_X13_sign_ nn) _ e c k w) (fun k => ⟨nw_ar rfl k, nw_ar rfl k, nw_ar rfl k⟩) rfl rfl
theorem nk_type (N : NK h) (e : qf_X13_type nn h = some r) : NK r := nk_F N (fun c k w => (ff_X13_type nn) _ e c k w) (fun k => ⟨nw_ar rfl k, nw_ar rfl k, nw_ar rfl k⟩) rfl rfl
theorem nk_name {u : Int × ms_M} (N : NK h) (e : qf_X13_name nn h = some u) : NK u.2 := nk_F N (fun c k w => (ff_X13_name nn) _ e c k w) (fun k => ⟨nw_ar rfl k, nw_ar rfl k, nw_ar rfl k⟩) rfl rfl
theorem nk_block {d : Int} {u : Int × ms_M} (N : NK h) (e : qf_X13_block nn d h = some u) : NK u.2 := nk_F N (fun c k w => (ff_X13_block nn) _ e c k w) (fun k => ⟨nw_ar rfl k, nw_ar rfl k, nw_ar rfl k⟩) rfl rfl
theorem pk_name : Pc (qf_X13_name nn h) (fun u => u.2 160 9 = 0 → u.2 163 u.1.toNat = 1) := by
  unfold qf_X13_name
  refine pc_if (fun C => ?_) (fun C => pc_ret (fun y => absurd y C))
  refine pc_rA ?_; intro p1 p2 v4 e4
  refine pc_if (fun C4 => ?_) (fun _ => ?_)
  · refine pc_add (by omega) ?_; intro v6 e6
    refine pc_xl ?_; intro h7 E7
    have q7 : h7 160 23 = v6 := by rw [E7]; exact up_s
    refine pc_sub (by omega) ?_; intro v9 e9
    refine pc_ret (fun _ => ?_)
    show h7 163 v9.toNat = 1
    rw [E7, up_n (by omega), show v9.toNat = (h 160 23).toNat by omega, ← e4]; exact C4
  · refine pc_sv pc_misplaced ?_; intro u11 P
    exact pc_ret (fun y => absurd y P.2)
variable {l : Int}
theorem nm_360 (N : NK h) : Pc (qj_X13_member_360 nn l h) NK := by
  unfold qj_X13_member_360
  refine pc_se ?_; intro u2 e2
  refine pc_se ?_; intro u5 e5
  refine pc_wA ?_; intro _ _ h6 E6
  exact pc_ret (nk_up (nk_block (nk_sign N e2) e5) E6 (by omega))
theorem nm_269 {qk : Int → ms_M → Option ms_M} (ih : ∀ g : ms_M, NK g → Pc (qk l g) NK) (N : NK h) : Pc (qj_X13_member_269 nn qk l h) NK := by
  unfold qj_X13_member_269
  refine pc_se ?_; intro u8 e8
  refine pc_se ?_; intro u10 e10
  have N10 := nk_name (nk_type N e8) e10
  refine pc_if (fun _ => ?_) (fun _ => pc_ret N10)
  refine pc_wA ?_; intro _ _ h15 E15
  have N15 := nk_up N10 E15 (by omega)
  refine pc_wA ?_; intro _ _ h19 E19
  have N19 := nk_up N15 E19 (by omega)
  refine pc_wZ ?_; intro _ _ h23 E23
  have N23 := nk_up N19 E23 (by omega)
  refine pc_wA ?_; intro _ _ h26 E26
  have N26 := nk_up N23 E26 (by omega)
  refine pc_xl ?_; intro v28 _
  refine pc_xl ?_; intro h29 E29
  have N29 := nk_up N26 E29 (by omega)
  refine pc_rA ?_; intro _ _ v31 _
  refine pc_xl ?_; intro v32 _
  refine pc_wA ?_; intro _ _ h33 E33
  exact ih h33 (nk_up N29 E33 (by omega))
theorem nm_234 : ∀ (k : Nat) (h : ms_M), NK h → Pc (qw_X13_member_234 nn k l h) NK := by
  intro k
  induction k with
  | zero => intros; exact pc_none
  | succ k ih =>
    intro h N
    unfold qw_X13_member_234
    refine pc_if (fun _ => nm_360 N) (fun _ => ?_)
    refine pc_se ?_; intro u38 _
    refine pc_if (fun _ => nm_360 N) (fun _ => ?_)
    refine pc_rA ?_; intro _ _ v40 _
    refine pc_if (fun _ => nm_269 ih N) (fun _ => ?_)
    refine pc_se ?_; intro u42 e42
    exact nm_269 ih (nk_sign N e42)
theorem nm_170 {l1 l2 s0 : Int} (N : NK h) (hn : h 160 9 = 0 → h 163 (h 186 (h 160 28).toNat).toNat = 1) (h28 : 0 ≤ h 160 28 ∧ h 160 28 ≤ 799) : Pc (qj_X13_member_170 nn l1 l2 (h 160 28) s0 (h 160 28) h) NK := by
  unfold qj_X13_member_170
  refine pc_wA ?_; intro _ _ h46 E46
  have N46 := nk_up N E46 (by omega)
  have f : ∀ c k : Nat, c ≠ 182 → h46 c k = h c k := fun c k w => by rw [E46, up_n (by omega)]
  refine pc_if (fun C => ?_) (fun _ => pc_ret N46)
  rw [f 160 9 (by decide)] at C
  have q28 := f 160 28 (by decide)
  refine pc_add (by omega) ?_; intro v49 e49
  refine pc_xl ?_; intro h50 E50
  have g : ∀ c k : Nat, ¬ (c = 160 ∧ k = 28) → h50 c k = h46 c k := fun c k w => by rw [E50, up_n w]
  have q50 : h50 160 28 = v49 := by rw [E50, up_s]
  have N50 : NK h50 := by
    refine ⟨fun c hc => ?_, fun m hm => ?_⟩
    · rw [g 160 24 (by decide)] at hc
      rw [g 163 _ (by omega), g 178 _ (by omega)]; exact N46.1 c hc
    · rw [g 163 _ (by omega), g 186 _ (by omega)]
      by_cases q : (m : Int) < h46 160 28
      · exact N46.2 m q
      · rw [f 163 _ (by decide), f 186 _ (by decide), show m = (h 160 28).toNat by omega]; exact hn C
  refine pc_if (fun _ => ?_) (fun _ => ?_)
  · refine pc_se ?_; intro u52 e52
    exact nm_234 nn u52 (nk_sign N50 e52)
  · refine pc_if (fun _ => ?_) (fun _ => ?_)
    · refine pc_se ?_; intro u54 e54
      exact nm_234 nn u54 (nk_sign N50 e54)
    · refine pc_se ?_; intro u57 _
      refine pc_if (fun _ => ?_) (fun _ => ?_)
      · refine pc_se ?_; intro u59 e59
        exact nm_234 nn u59 (nk_sign N50 e59)
      · refine pc_xl ?_; intro v61 _
        refine pc_xl ?_; intro h62 E62
        refine pc_wA ?_; intro _ _ h64 E64
        exact pc_ret (nk_up (nk_up N50 E62 (by omega)) E64 (by omega))
theorem nm_75 {l1 l2 : Int} (N : NK h) : Pc (qj_X13_member_75 nn l1 l2 h) NK := by
  unfold qj_X13_member_75
  refine pc_wA ?_; intro p1 p2 h72 E72
  have N72 := nk_up N E72 (by omega)
  refine pc_wA ?_; intro _ _ h75 E75
  have N75 := nk_up N72 E75 (by omega)
  refine pc_wZ ?_; intro _ _ h78 E78
  have N78 := nk_up N75 E78 (by omega)
  have q78 : h78 160 28 = h 160 28 := by rw [E78, up_n (by omega), E75, up_n (by omega), E72, up_n (by omega)]
  refine pc_se ?_; intro u81 e81
  have N81 := nk_name N78 e81
  have k81 := pk_name u81 e81
  have q81 : u81.2 160 28 = h 160 28 := ((ff_X13_name nn) _ e81 160 28 rfl).trans q78
  refine pc_wA ?_; intro _ _ h82 E82
  have f82 : ∀ c k : Nat, ¬ (c = 186 ∧ k = (h 160 28).toNat) → h82 c k = u81.2 c k := fun c k w => by rw [E82, up_n w]
  have N82 : NK h82 := by
    refine ⟨fun c hc => ?_, fun m hm => ?_⟩
    · rw [f82 160 24 (by omega)] at hc
      rw [f82 163 _ (by omega), f82 178 _ (by omega)]; exact N81.1 c hc
    · rw [f82 160 28 (by omega)] at hm
      rw [f82 163 _ (by omega), f82 186 m (by omega)]; exact N81.2 m hm
  have s82 : h82 186 (h 160 28).toNat = u81.1 := by rw [E82, up_s]
  refine pc_xl ?_; intro v85 _
  refine pc_wA ?_; intro _ _ h86 E86
  have N86 := nk_up N82 E86 (by omega)
  refine pc_wA ?_; intro _ _ h89 E89
  have N89 := nk_up N86 E89 (by omega)
  refine pc_wA ?_; intro _ _ h91 E91
  have N91 := nk_up N89 E91 (by omega)
  refine pc_wA ?_; intro _ _ h93 E93
  have N93 := nk_up N91 E93 (by omega)
  have f93 : ∀ c k : Nat, c ≠ 181 → c ≠ 188 → c ≠ 189 → c ≠ 190 → h93 c k = h82 c k := fun c k a b d e => by rw [E93, up_n (by omega), E91, up_n (by omega), E89, up_n (by omega), E86, up_n (by omega)]
  have q93 : h93 160 28 = h 160 28 := by rw [f93 160 28 (by decide) (by decide) (by decide) (by decide), f82 160 28 (by omega)]; exact q81
  have H : h93 160 9 = 0 → h93 163 (h93 186 (h93 160 28).toNat).toNat = 1 := fun y => by
    rw [f93 160 9 (by decide) (by decide) (by decide) (by decide), f82 160 9 (by omega)] at y
    rw [q93, f93 186 _ (by decide) (by decide) (by decide) (by decide), s82, f93 163 _ (by decide) (by decide) (by decide) (by decide), f82 163 _ (by omega)]
    exact k81 y
  have e : h 160 28 = h93 160 28 := q93.symm
  refine pc_if (fun _ => ?_) (fun _ => ?_)
  · rw [e]; exact nm_170 N93 H (by omega)
  · rw [e]; exact nm_170 N93 H (by omega)
theorem nm_25 {l1 : Int} (N : NK h) : Pc (qj_X13_member_25 nn l1 h) NK := by
  unfold qj_X13_member_25
  refine pc_se ?_; intro u98 _
  refine pc_if (fun _ => ?_) (fun _ => ?_)
  · refine pc_se ?_; intro u100 e100
    exact nm_75 (nk_type N e100)
  · refine pc_xl ?_; intro h101 E101
    refine pc_xl ?_; intro h102 E102
    refine pc_xl ?_; intro h104 E104
    refine pc_xl ?_; intro v106 _
    refine pc_xl ?_; intro h107 E107
    exact nm_75 (nk_up (nk_up (nk_up (nk_up N E101 (by omega)) E102 (by omega)) E104 (by omega)) E107 (by omega))
theorem nm_member (N : NK h) : Pc (qf_X13_member nn h) NK := by
  unfold qf_X13_member
  refine pc_se ?_; intro u111 _
  refine pc_if (fun _ => nm_25 N) (fun _ => ?_)
  refine pc_xl ?_; intro v113 _
  refine pc_xl ?_; intro h114 E114
  exact nm_25 (nk_up N E114 (by omega))
theorem np_143 {qk : ms_M → Option ms_M} (ih : ∀ g : ms_M, NK g → Pc (qk g) NK) (N : NK h) : Pc (qj_X13_program_143 nn qk h) NK := by
  unfold qj_X13_program_143
  refine pc_se ?_; intro u2 e2
  have N2 := nk_sign N e2
  refine pc_if (fun _ => pc_ret N2) (fun _ => ?_)
  refine pc_rA ?_; intro _ _ v6 _
  exact pc_if (fun _ => ih u2 N2) (fun _ => pc_ret N2)
theorem np_116 {qk : ms_M → Option ms_M} (ih : ∀ g : ms_M, NK g → Pc (qk g) NK) : ∀ (k : Nat) (h : ms_M), NK h → Pc (qw_X13_program_116 nn qk k h) NK := by
  intro k
  induction k with
  | zero => intros; exact pc_none
  | succ k ih2 =>
    intro h N
    unfold qw_X13_program_116
    refine pc_if (fun _ => np_143 ih N) (fun _ => ?_)
    refine pc_se ?_; intro u12 _
    refine pc_if (fun _ => np_143 ih N) (fun _ => ?_)
    refine pc_sv (nm_member N) ?_; intro u14 N14
    exact ih2 u14 N14
theorem np_72 {qk : ms_M → Option ms_M} (ih : ∀ g : ms_M, NK g → Pc (qk g) NK) {l1 l2 : Int} (N : NK h) (hl : h 160 9 = 0 → h 163 l1.toNat = 1) : Pc (qj_X13_program_72 nn qk l1 l2 h) NK := by
  unfold qj_X13_program_72
  refine pc_if (fun C => ?_) (fun _ => pc_ret N)
  refine pc_wA ?_; intro p1 p2 h20 E20
  have f20 : ∀ c k : Nat, ¬ (c = 178 ∧ k = (h 160 24).toNat) → h20 c k = h c k := fun c k w => by rw [E20, up_n w]
  refine pc_wA ?_; intro _ _ h23 E23
  have f23 : ∀ c k : Nat, c ≠ 179 → h23 c k = h20 c k := fun c k w => by rw [E23, up_n (by omega)]
  have q24 : h23 160 24 = h 160 24 := by rw [f23 160 24 (by decide), f20 160 24 (by omega)]
  refine pc_add (by omega) ?_; intro v25 e25
  refine pc_xl ?_; intro h26 E26
  have f26 : ∀ c k : Nat, ¬ (c = 160 ∧ k = 24) → h26 c k = h23 c k := fun c k w => by rw [E26, up_n w]
  have q26 : h26 160 24 = v25 := by rw [E26, up_s]
  have N26 : NK h26 := by
    refine ⟨fun c hc => ?_, fun m hm => ?_⟩
    · rw [f26 163 _ (by omega), f23 163 _ (by decide), f20 163 _ (by omega), f26 178 _ (by omega), f23 178 _ (by decide)]
      by_cases q : (c : Int) < h 160 24
      · rw [f20 178 c (by omega)]; exact N.1 c q
      · rw [show c = (h 160 24).toNat by omega, E20, up_s]; exact hl C
    · rw [f26 160 28 (by omega), f23 160 28 (by decide), f20 160 28 (by omega)] at hm
      rw [f26 163 _ (by omega), f23 163 _ (by decide), f20 163 _ (by omega), f26 186 _ (by omega), f23 186 _ (by decide), f20 186 _ (by omega)]
      exact N.2 m hm
  refine pc_se ?_; intro u28 e28
  exact np_116 ih nn u28 (nk_sign N26 e28)
theorem np_25 : ∀ (k : Nat) (h : ms_M), NK h → Pc (qw_X13_program_25 nn k h) NK := by
  intro k
  induction k with
  | zero => intros; exact pc_none
  | succ k ih =>
    intro h N
    unfold qw_X13_program_25
    refine pc_se ?_; intro u31 e31
    refine pc_se ?_; intro u33 e33
    have N33 := nk_name (nk_word N e31) e33
    have k33 := pk_name u33 e33
    refine pc_if (fun _ => np_72 ih N33 k33) (fun C => ?_)
    have C : u33.2 160 9 = 0 := Decidable.not_not.1 C
    refine pc_se ?_; intro u37 _
    refine pc_if (fun _ => np_72 ih N33 k33) (fun _ => ?_)
    refine pc_xl ?_; intro v39 _
    refine pc_xl ?_; intro h40 E40
    have N40 := nk_up N33 E40 (by omega)
    refine pc_se ?_; intro u42 e42
    refine np_72 ih (nk_name N40 e42) (fun _ => ?_)
    rw [show u42.2 163 u33.1.toNat = h40 163 u33.1.toNat from (ff_X13_name nn) _ e42 163 _ (nw_ar rfl _), E40, up_n (by omega)]; exact k33 C
theorem np_program : Pc (qf_X13_program nn h) NK := by
  unfold qf_X13_program
  refine pc_xl ?_; intro h45 E45
  refine pc_xl ?_; intro h46 E46
  refine pc_xl ?_; intro h47 E47
  refine pc_xl ?_; intro h48 E48
  refine pc_xl ?_; intro h49 E49
  have a : h49 160 24 = 0 := by rw [E49, up_n (by decide), E48, up_n (by decide), E47, up_n (by decide), E46, up_n (by decide), E45, up_s]
  have b : h49 160 28 = 0 := by rw [E49, up_n (by decide), E48, up_n (by decide), E47, up_n (by decide), E46, up_s]
  exact np_25 nn h49 ⟨fun c hc => by exfalso; omega, fun m hm => by exfalso; omega⟩
end

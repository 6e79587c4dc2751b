section
variable {nn : Nat} {h r : ms_M}
/-- behind a FAULT overrides are not seen -/
theorem dead_220 (hn : 1000000 ≤ nn) (z : ¬ h 160 9 = 0) {l : Int} : Pc (qw_X13_heads_220 nn nn l h) (fun r => r = h) := by
  obtain ⟨k, hk⟩ : ∃ k, nn = k + 1 := ⟨nn - 1, by omega⟩
  have : Pc (qw_X13_heads_220 nn (k + 1) l h) (fun r => r = h) := by
    unfold qw_X13_heads_220
    exact pc_if (fun _ => pc_ret rfl) (fun _ => pc_if (fun _ => pc_ret rfl) (fun C => absurd (Decidable.not_not.1 C) z))
  rw [← hk] at this
  exact this
def U8 (h r : ms_M) : Prop := (∀ k : Nat, r 180 k = h 180 k) ∧ r 160 24 = h 160 24
theorem u8_rf : U8 h h := ⟨fun _ => rfl, rfl⟩
theorem u8_tr {z : ms_M} (a : U8 h z) (b : U8 z r) : U8 h r := ⟨fun k => (b.1 k).trans (a.1 k), b.2.trans a.2⟩
theorem u8_wrong {a b : Int} (e : qf_X13_wrong nn a b h = some r) : U8 h r := ⟨fun k => (ff_X13_wrong nn) _ e 180 k (nw_ar rfl k), (ff_X13_wrong nn) _ e 160 24 rfl⟩
theorem u8_220 : ∀ (k : Nat) (l : Int) (h : ms_M), Pc (qw_X13_heads_220 nn k l h) (U8 h) := by
  intro k
  induction k with
  | zero => intros; exact pc_none
  | succ k ih =>
    intro l h
    unfold qw_X13_heads_220
    refine pc_if (fun _ => pc_ret u8_rf) (fun _ => ?_)
    refine pc_if (fun _ => pc_ret u8_rf) (fun _ => ?_)
    refine pc_rA ?_; intro _ _ v4 _
    refine pc_if (fun _ => ?_) (fun _ => ?_)
    · refine pc_xl ?_; intro v5 _
      exact ih _ _
    · refine pc_se ?_; intro u7 e7
      refine pc_xl ?_; intro v8 _
      exact pc_imp (ih v8 u7) (fun r q => u8_tr ⟨fun k => (ff_X13_overrides nn) _ e7 180 k (nw_ar rfl k), (ff_X13_overrides nn) _ e7 160 24 rfl⟩ q)
theorem u8_192 : ∀ (k : Nat) (l : Int) (h : ms_M), Pc (qw_X13_heads_192 nn k l h) (U8 h) := by
  intro k
  induction k with
  | zero => intros; exact pc_none
  | succ k ih =>
    intro l h
    unfold qw_X13_heads_192
    refine pc_if (fun _ => u8_220 nn 0 h) (fun _ => ?_)
    refine pc_if (fun _ => u8_220 nn 0 h) (fun _ => ?_)
    refine pc_se ?_; intro u15 e15
    refine pc_xl ?_; intro v16 _
    exact pc_imp (ih v16 u15) (fun r q => u8_tr ⟨fun k => (ff_X13_memberHead nn) _ e15 180 k (nw_ar rfl k), (ff_X13_memberHead nn) _ e15 160 24 rfl⟩ q)
variable {qk : Int → ms_M → Option ms_M}
theorem u8_167 (hk : ∀ l h, Pc (qk l h) (U8 h)) {l1 l2 : Int} : Pc (qj_X13_heads_167 nn qk l1 l2 h) (U8 h) := by
  unfold qj_X13_heads_167
  refine pc_if (fun _ => ?_) (fun _ => ?_)
  · refine pc_xl ?_; intro v19 _
    exact hk _ _
  · refine pc_rA ?_; intro _ _ v21 _
    refine pc_se ?_; intro u23 e23
    refine pc_xl ?_; intro v24 _
    exact pc_imp (hk v24 u23) (fun r q => u8_tr (u8_wrong e23) q)
theorem u8_139 (hk : ∀ l h, Pc (qk l h) (U8 h)) : ∀ (k : Nat) (l1 l2 l3 : Int), Pc (qw_X13_heads_139 nn qk k l1 l2 l3 h) (U8 h) := by
  intro k
  induction k with
  | zero => intros; exact pc_none
  | succ k ih =>
    intro l1 l2 l3
    unfold qw_X13_heads_139
    refine pc_xl ?_; intro v27 _
    refine pc_if (fun _ => u8_167 hk) (fun _ => ?_)
    refine pc_if (fun _ => u8_167 hk) (fun _ => ?_)
    refine pc_se ?_; intro u29 _
    refine pc_xl ?_; intro v30 _
    exact ih _ _ _
theorem u8_132 (hk : ∀ l h, Pc (qk l h) (U8 h)) {l1 : Int} : Pc (qj_X13_heads_132 nn qk l1 h) (U8 h) := by
  unfold qj_X13_heads_132
  refine pc_xl ?_; intro v33 _
  exact u8_139 hk nn _ _ _
theorem u8_111 (hk : ∀ l h, Pc (qk l h) (U8 h)) {l1 : Int} : Pc (qj_X13_heads_111 nn qk l1 h) (U8 h) := by
  unfold qj_X13_heads_111
  refine pc_rA ?_; intro _ _ v35 _
  refine pc_if (fun _ => u8_132 hk) (fun _ => ?_)
  refine pc_rA ?_; intro _ _ v37 _
  refine pc_se ?_; intro u39 e39
  exact pc_imp (u8_132 hk) (fun r q => u8_tr (u8_wrong e39) q)
theorem u8_83 (hk : ∀ l h, Pc (qk l h) (U8 h)) {l1 : Int} : Pc (qj_X13_heads_83 nn qk l1 h) (U8 h) := by
  unfold qj_X13_heads_83
  refine pc_rA ?_; intro _ _ v42 _
  refine pc_se ?_; intro u44 _
  refine pc_xl ?_; intro v45 _
  refine pc_if (fun _ => u8_111 hk) (fun _ => ?_)
  refine pc_rA ?_; intro _ _ v47 _
  refine pc_se ?_; intro u49 e49
  exact pc_imp (u8_111 hk) (fun r q => u8_tr (u8_wrong e49) q)
theorem u8_50 : ∀ (k : Nat) (l : Int) (h : ms_M), Pc (qw_X13_heads_50 nn k l h) (U8 h) := by
  intro k
  induction k with
  | zero => intros; exact pc_none
  | succ k ih =>
    intro l h
    unfold qw_X13_heads_50
    refine pc_if (fun _ => u8_192 nn 0 h) (fun _ => ?_)
    refine pc_if (fun _ => u8_192 nn 0 h) (fun _ => ?_)
    refine pc_if (fun _ => u8_83 ih) (fun _ => ?_)
    refine pc_rA ?_; intro _ _ v54 _
    refine pc_se ?_; intro u56 e56
    exact pc_imp (u8_83 ih) (fun r q => u8_tr (u8_wrong e56) q)
/-- the class above a class is a class -/
def UC (h : ms_M) : Prop := ∀ c : Nat, (c : Int) < h 160 24 → h 180 c < 8 + h 160 24
theorem uc_2 (hn : 1000000 ≤ nn) : ∀ (k : Nat) (l1 : Int) (h : ms_M), VS_ h → HW_ h → 0 ≤ l1 → (∀ c : Nat, (c : Int) < l1 → (c : Int) < h 160 24 → h 180 c < 8 + h 160 24) → Pc (qw_X13_heads_2 nn k l1 h) UC := by
  intro k
  induction k with
  | zero => intros; exact pc_none
  | succ k ih =>
    intro l1 h V W a U
    have g24 := gF_160_24 V
    unfold qw_X13_heads_2
    refine pc_if (fun C => ?_) (fun C => ?_)
    · refine pc_imp (u8_50 nn 0 h) (fun r q => fun c hc => ?_)
      rw [q.2] at hc ⊢
      rw [q.1]; exact U c (by omega) hc
    · have J : ∀ v : Int, (-1 ≤ v ∧ v ≤ 407) → v < 8 + h 160 24 → Pc (qj_X13_heads_34 nn (qw_X13_heads_2 nn k) l1 v h) UC := fun v r1 r2 => by
        unfold qj_X13_heads_34
        refine pc_wA ?_; intro _ _ h61 E61
        refine pc_add (by omega) ?_; intro v62 e62
        have q24 : h61 160 24 = h 160 24 := by rw [E61, up_n (by omega)]
        refine ih v62 h61 (by rw [E61]; exact wA_180 V (by omega)) (by rw [E61]; exact hw_up V W rfl) (by omega) (fun c h1 h2 => ?_)
        rw [q24] at h2 ⊢
        by_cases y : c = l1.toNat
        · rw [E61, y, up_s]; exact r2
        · rw [E61, up_n (by omega)]; exact U c (by omega) h2
      refine pc_rA ?_; intro p1 p2 v65 _
      refine pc_if (fun C1 => ?_) (fun _ => J 0 (by omega) (by omega))
      refine pc_rA ?_; intro _ _ v67 e67
      have g179 := gA_179 V l1.toNat (by omega)
      refine pc_sv (pc_ok (cl_ok hn V W (by omega))) ?_; intro u69 P
      exact J u69 (by omega) P.2.2
theorem uc_heads (hn : 1000000 ≤ nn) (V : VS_ h) (W : HW_ h) : Pc (qf_X13_heads nn h) UC := by
  unfold qf_X13_heads
  exact uc_2 hn nn 0 h V W (by omega) (fun c h1 => by exfalso; omega)
/-- members of one kind of one class before m -/
def sm (h : ms_M) (m : Nat) : Nat → Bool := fun i => decide (h 181 i = h 181 m ∧ (h 182 i ≤ 0 ↔ h 182 m ≤ 0))
def gc (h : ms_M) (m : Nat) : Int := cs w1 (sm h m) m
theorem pd_157 (hn : 1000000 ≤ nn) {l1 : Int} (r1 : 0 ≤ l1 ∧ l1 ≤ 799) : ∀ (k : Nat) (l4 : Int) (h : ms_M), VS_ h → HW_ h → ¬ h 160 9 = 0 → (0 ≤ l4 ∧ l4 ≤ 2000) → Pc (qw_X13_memberHead_157 nn k l1 l4 h) (fun r => ¬ r 160 9 = 0) := by
  intro k
  induction k with
  | zero => intros; exact pc_none
  | succ k ih =>
    intro l4 h V W z r4
    have g189 := gA_189 V l1.toNat (by omega)
    unfold qw_X13_memberHead_157
    refine pc_rA ?_; intro _ _ v19 e19
    refine pc_if (fun _ => pc_ret z) (fun C => ?_)
    refine pc_rA ?_; intro _ _ v21 e21
    refine pc_xl ?_; intro v22 _
    refine pc_rA ?_; intro p1 p2 v25 e25
    have k1 := gA_191 V v22.toNat (by omega)
    refine pc_rA ?_; intro _ _ v27 e27
    have k2 := gA_192 V v22.toNat (by omega)
    refine pc_rA ?_; intro _ _ v29 e29
    have k3 := gA_193 V v22.toNat (by omega)
    refine pc_sv (pt_typeOf hn V W (by omega) (by omega) (by omega)) ?_; intro u31 P
    obtain ⟨q1, q2, q3⟩ := P
    refine pc_wA ?_; intro _ _ h32 E32
    have V32 : VS_ h32 := by rw [E32]; exact wA_195 q3.1 (by omega)
    have W32 : HW_ h32 := by rw [E32]; exact hw_up q3.1 (wr_hw q3 W) rfl
    have z32 : ¬ h32 160 9 = 0 := fun y => by rw [E32, up_n (by omega)] at y; exact z (q3.2.2.2 y)
    have J : ∀ g : ms_M, Wr h32 g → Pc (qj_X13_memberHead_231 nn (qw_X13_memberHead_157 nn k) l1 l4 v22 g) (fun r => ¬ r 160 9 = 0) := fun g X => by
      unfold qj_X13_memberHead_231
      refine pc_rA ?_; intro _ _ v17 _
      exact pm_239 hn (by omega) (fun r Xr => ih (l4 + 1) r Xr.1 (wr_hw Xr W32) (fun y => z32 (Xr.2.2.2 y)) (by omega)) nn _ g X
    refine pc_if (fun _ => J h32 (wr_rf V32)) (fun _ => ?_)
    refine pc_rA ?_; intro _ _ v34 e34
    have k4 := gA_194 V32 v22.toNat (by omega)
    refine pc_sv (pw_wrong hn V32 (by omega) (by omega)) ?_; intro u36 P36
    exact J u36 P36.1
theorem pd_139 (hn : 1000000 ≤ nn) {l1 l3 : Int} (r1 : 0 ≤ l1 ∧ l1 ≤ 799) (V : VS_ h) (W : HW_ h) (z : ¬ h 160 9 = 0) : Pc (qj_X13_memberHead_139 nn l1 l3 h) (fun r => ¬ r 160 9 = 0) := by
  unfold qj_X13_memberHead_139
  refine pc_if (fun _ => pd_157 hn r1 nn 0 h V W z (by omega)) (fun _ => ?_)
  refine pc_rA ?_; intro _ _ v40 e40
  have g := gA_186 V l1.toNat (by omega)
  refine pc_sv (pw_wrong hn V (by omega) (by omega)) ?_; intro u42 P
  exact pd_157 hn r1 nn 0 u42 P.1.1 (wr_hw P.1 W) P.2 (by omega)
theorem pg_35 (hn : 1000000 ≤ nn) {l1 : Int} (r1 : 0 ≤ l1 ∧ l1 ≤ 799) (V : VS_ h) (W : HW_ h) : ∀ (k : Nat) (l2 l3 l4 : Int), (0 ≤ l4 ∧ l4 ≤ l1) → l2 = cs w1 (sm h l1.toNat) l4.toNat → Pc (qw_X13_memberHead_35 nn k l1 l2 l3 l4 h) (fun r => r 160 9 = 0 → ¬ gc h l1.toNat = 12) := by
  intro k
  induction k with
  | zero => intros; exact pc_none
  | succ k ih =>
    intro l2 l3 l4 a e
    have nx : ∀ v : Int, v = l4 + 1 → cs w1 (sm h l1.toNat) v.toNat = l2 + (if sm h l1.toNat l4.toNat = true then w1 l4.toNat else 0) := fun v ev => by
      rw [show v.toNat = l4.toNat + 1 by omega, e]; rfl
    have c0 : 0 ≤ l2 ∧ l2 ≤ 800 := by
      have a1 := cs_le (f := w1) (b := sm h l1.toNat) (fun _ => show (0 : Int) ≤ 1 by decide) l4.toNat
      have a2 := cs_all (b := fun _ => true) l4.toNat (fun _ _ => rfl)
      have a3 : ∀ n : Nat, 0 ≤ cs w1 (sm h l1.toNat) n := fun n => by
        induction n with
        | zero => exact Int.le_refl _
        | succ n ihn =>
          show 0 ≤ cs w1 (sm h l1.toNat) n + _
          have : (0 : Int) ≤ (if sm h l1.toNat n = true then w1 n else 0) := by
            split
            · show (0 : Int) ≤ 1; decide
            · exact Int.le_refl _
          omega
      have := a3 l4.toNat
      omega
    unfold qw_X13_memberHead_35
    refine pc_if (fun C => ?_) (fun C => ?_)
    · have e4 : l4 = l1 := by omega
      have eg : gc h l1.toNat = l2 := by rw [e, e4]; rfl
      refine pc_if (fun D => ?_) (fun D => ?_)
      · exact fun r _ _ => by rw [eg]; exact D
      · refine pc_rA ?_; intro _ _ v59 e59
        have g := gA_186 V l1.toNat (by omega)
        refine pc_sv (pw_wrong hn V (by omega) (by omega)) ?_; intro u61 P
        exact pc_imp (pd_139 hn r1 P.1.1 (wr_hw P.1 W) P.2) (fun r z y => absurd y z)
    · have go : ∀ (v4 x2 x3 : Int), v4 = l4 + 1 → x2 = l2 + (if sm h l1.toNat l4.toNat = true then w1 l4.toNat else 0) → Pc (qw_X13_memberHead_35 nn k l1 x2 x3 v4 h) (fun r => r 160 9 = 0 → ¬ gc h l1.toNat = 12) := fun v4 x2 x3 e4 e2 => ih x2 x3 v4 (by omega) (by rw [nx v4 e4]; exact e2)
      refine pc_rA ?_; intro _ _ v64 e64
      refine pc_rA ?_; intro _ _ v66 e66
      refine pc_if (fun D => ?_) (fun D => ?_)
      · refine pc_add (by omega) ?_; intro v67 e67
        refine go v67 l2 l3 e67 ?_
        rw [if_neg (fun y => by have := of_decide_eq_true y; omega)]; omega
      · have D : v64 = v66 := Decidable.not_not.1 D
        refine pc_rA ?_; intro _ _ v69 e69
        have J : ∀ s0 s1 : Int, (s1 = s0 ↔ (h 182 l4.toNat ≤ 0 ↔ h 182 l1.toNat ≤ 0)) → Pc (qj_X13_memberHead_86 nn (qw_X13_memberHead_35 nn k) l1 l2 l3 l4 s0 s1 h) (fun r => r 160 9 = 0 → ¬ gc h l1.toNat = 12) := fun s0 s1 hs => by
          unfold qj_X13_memberHead_86
          refine pc_if (fun Q => ?_) (fun Q => ?_)
          · refine pc_add (by omega) ?_; intro v44 e44
            refine pc_rA ?_; intro _ _ v46 _
            refine pc_rA ?_; intro _ _ v48 _
            refine pc_se ?_; intro u50 _
            refine pc_xl ?_; intro v51 _
            refine pc_add (by omega) ?_; intro v52 e52
            refine go v52 v44 v51 e52 ?_
            rw [if_pos (show sm h l1.toNat l4.toNat = true from decide_eq_true ⟨by omega, hs.1 Q⟩)]; exact e44
          · refine pc_add (by omega) ?_; intro v53 e53
            refine go v53 l2 l3 e53 ?_
            rw [if_neg (fun y => Q (hs.2 (of_decide_eq_true y).2))]; omega
        have K : ∀ s1 : Int, ((s1 = 0 ∧ h 182 l4.toNat ≤ 0) ∨ (s1 = 1 ∧ ¬ h 182 l4.toNat ≤ 0)) → Pc (qj_X13_memberHead_72 nn (qw_X13_memberHead_35 nn k) l1 l2 l3 l4 s1 h) (fun r => r 160 9 = 0 → ¬ gc h l1.toNat = 12) := fun s1 hs => by
          unfold qj_X13_memberHead_72
          refine pc_rA ?_; intro _ _ v56 e56
          exact pc_if (fun Q => J 0 s1 (by omega)) (fun Q => J 1 s1 (by omega))
        exact pc_if (fun Q => K 0 (.inl ⟨rfl, by omega⟩)) (fun Q => K 1 (.inr ⟨rfl, by omega⟩))
theorem gc_eq {m : Nat} (A : ∀ k : Nat, r 181 k = h 181 k ∧ r 182 k = h 182 k) : gc r m = gc h m := by
  unfold gc
  refine cs_cg m (fun i _ => ?_)
  unfold sm
  rw [(A i).1, (A m).1, (A i).2, (A m).2]
theorem pg_head (hn : 1000000 ≤ nn) (V : VS_ h) (W : HW_ h) {l1 : Int} (r1 : 0 ≤ l1 ∧ l1 ≤ 799) : Pc (qf_X13_memberHead nn l1 h) (fun r => r 160 9 = 0 → ¬ gc h l1.toNat = 12) := by
  have k1 := gA_183 V l1.toNat (by omega)
  have k2 := gA_184 V l1.toNat (by omega)
  have k3 := gA_185 V l1.toNat (by omega)
  unfold qf_X13_memberHead
  refine pc_rA ?_; intro _ _ v75 e75
  refine pc_rA ?_; intro _ _ v77 e77
  refine pc_rA ?_; intro _ _ v79 e79
  refine pc_sv (pt_typeOf hn V W (by omega) (by omega) (by omega)) ?_; intro u81 P
  obtain ⟨q1, q2, q3⟩ := P
  refine pc_wA ?_; intro _ _ h82 E82
  have V82 : VS_ h82 := by rw [E82]; exact wA_187 q3.1 (by omega)
  have W82 : HW_ h82 := by rw [E82]; exact hw_up q3.1 (wr_hw q3 W) rfl
  have A : ∀ k : Nat, h82 181 k = h 181 k ∧ h82 182 k = h 182 k := fun k => by rw [E82, up_n (by omega), up_n (by omega), q3.2.1 181 k (by decide), q3.2.1 182 k (by decide)]; exact ⟨rfl, rfl⟩
  refine pc_imp (pg_35 hn r1 V82 W82 nn 0 0 0 (by omega) rfl) (fun r p z => ?_)
  rw [← gc_eq A]; exact p z
theorem pg_192 (hn : 1000000 ≤ nn) : ∀ (k : Nat) (l1 : Int) (h : ms_M), VS_ h → HW_ h → 0 ≤ l1 → Pc (qw_X13_heads_192 nn k l1 h) (fun r => r 160 9 = 0 → h 160 9 = 0 ∧ ∀ m : Nat, l1 ≤ (m : Int) → (m : Int) < h 160 28 → ¬ gc h m = 12) := by
  intro k
  induction k with
  | zero => intros; exact pc_none
  | succ k ih =>
    intro l1 h V W a
    have g28 := gF_160_28 V
    unfold qw_X13_heads_192
    refine pc_if (fun C => ?_) (fun C => ?_)
    · by_cases z : h 160 9 = 0
      · exact fun r _ _ => ⟨z, fun m h1 h2 => by exfalso; omega⟩
      · exact pc_imp (dead_220 hn z) (fun r e y => by rw [e] at y; exact absurd y z)
    · refine pc_if (fun z => ?_) (fun z => ?_)
      · exact pc_imp (dead_220 hn z) (fun r e y => by rw [e] at y; exact absurd y z)
      · have z : h 160 9 = 0 := Decidable.not_not.1 z
        refine pc_se ?_; intro u15 e15
        have F : ∀ c k, nw_F wl_X13_memberHead wf_X13_memberHead false false c k = true → u15 c k = h c k := fun c k w => (ff_X13_memberHead nn) _ e15 c k w
        obtain ⟨u, eu, Vu⟩ := vf_X13_memberHead hn (a1 := l1) (by omega) (by omega) V W
        rw [e15] at eu; cases eu
        have W15 : HW_ u15 := hw_eq W (fun k => F 164 k (nw_ar rfl k)) (fun k => F 165 k (nw_ar rfl k)) (fun k => F 188 k (nw_ar rfl k)) (fun k => F 189 k (nw_ar rfl k))
        refine pc_add (by omega) ?_; intro v16 e16
        refine pc_imp (ih v16 u15 Vu W15 (by omega)) (fun r p y => ⟨z, fun m h1 h2 => ?_⟩)
        obtain ⟨p1, p2⟩ := p y
        by_cases q : (m : Int) = l1
        · have := pg_head hn V W (l1 := l1) (by omega) u15 e15 p1
          rw [show m = l1.toNat by omega]; exact this
        · rw [← gc_eq (r := u15) (fun k => ⟨F 181 k (nw_ar rfl k), F 182 k (nw_ar rfl k)⟩)]
          exact p2 m (by omega) (by rw [F 160 28 rfl]; exact h2)
end

section
/- PARSE: both sides step by step -/
def KOK (k : Int) : Prop := k = 0 ∨ k = 1 ∨ k = 2 ∨ k = 3 ∨ (10 ≤ k ∧ k ≤ 31) ∨ (40 ≤ k ∧ k ≤ 72)
/-- the tokens: kinds K, places P, c of them -/
def TBn (K : Nat → Int) (c : Nat) : Prop := (∀ i : Nat, c ≤ i → K i = 0) ∧ (1 ≤ c ∧ c ≤ 3001) ∧ K (c - 1) ≤ 1 ∧ ∀ i : Nat, KOK (K i)
def TBc (K P : Nat → Int) (c : Nat) (h : ms_M) : Prop := h 2 3 = (c : Int) ∧ ∀ i : Nat, i < c → h 3 i = K i ∧ h 4 i = P i
def TBq (K P : Nat → Int) (c : Nat) (r : ms_M) : Prop := (∀ i : Nat, i < c + 4 → r 163 i = kd_T (K i)) ∧ (∀ i : Nat, i < c → r 164 i = P i) ∧ (∀ i : Nat, 10 ≤ K i → K i ≤ 31 → r 166 i = K i - 10) ∧ ∀ i : Nat, 40 ≤ K i → r 166 i = sv_T (K i)
/-- both at token p, without a FAULT -/
def JPp (K P : Nat → Int) (c p : Nat) (h r : ms_M) : Prop := TBc K P c h ∧ TBq K P c r ∧ (h 2 10 = (p : Int) ∧ r 160 23 = (p : Int) ∧ p < c) ∧ h 2 11 = 0 ∧ r 160 9 = 0
/-- the same FAULT -/
def SFj (u v : ms_M) : Prop := ¬ u 2 11 = 0 ∧ v 160 9 = u 2 11 ∧ v 160 10 = u 2 12
/-- the nodes that were there stay -/
def NDf (r v : ms_M) : Prop := r 160 22 ≤ v 160 22 ∧ ∀ c x : Nat, 167 ≤ c → c ≤ 177 → (x : Int) < r 160 22 → v c x = r c x
section
variable {α β γ δ : Type}
theorem pc_fl {x : Option α} {y : Option β} {Z : α → β → Prop} (H : Pc y (fun v => Pc x (fun u => Z u v))) : Pc x (fun u => Pc y (fun v => Z u v)) := fun u eu v ev => H v ev u eu
theorem p2_sv {x : Option α} {y : Option β} {F : α → Option γ} {G : β → Option δ} {R : α → β → Prop} {Z : γ → δ → Prop} (hx : Pc x (fun u => Pc y (fun v => R u v))) (H : ∀ a b, R a b → Pc (F a) (fun u => Pc (G b) (fun v => Z u v))) : Pc (mx_sv x F) (fun u => Pc (mx_sv y G) (fun v => Z u v)) := by
  refine pc_se ?_; intro a ea
  refine pc_fl ?_
  refine pc_se ?_; intro b eb
  exact pc_fl (H a b (hx a ea b eb))
end
section
variable {nn : Nat} {K P : Nat → Int} {c p : Nat} {h g r w u v : ms_M}
theorem pj_sf {α β : Type} {x : Option α} {y : Option β} {o : α → ms_M} {q : β → ms_M} {Z : α → β → Prop} (S : SFj h r) (A : Pc x (fun a => FSc h (o a))) (B : Pc y (fun b => FSr r (q b))) (H : ∀ a b, SFj (o a) (q b) → Z a b) : Pc x (fun a => Pc y (fun b => Z a b)) := fun a ea b eb => by
  have fa := A a ea
  have fb := B b eb
  exact H a b ⟨by rw [fa.1]; exact S.1, by rw [fb.1, fa.1]; exact S.2.1, by rw [fb.2, fa.2]; exact S.2.2⟩
theorem sv_inj : (List.range 33).all (fun i => (List.range 33).all (fun j => !(decide (sv_L.getD i 0 = sv_L.getD j 0)) || Nat.beq i j)) = true := by decide
theorem svt_i {a b : Int} (ha : 40 ≤ a ∧ a ≤ 72) (hb : 40 ≤ b ∧ b ≤ 72) (e : sv_T a = sv_T b) : a = b := by
  have q := List.all_eq_true.1 (List.all_eq_true.1 sv_inj (a - 40).toNat (List.mem_range.2 (by omega))) (b - 40).toNat (List.mem_range.2 (by omega))
  unfold sv_T at e
  rw [decide_eq_true e] at q
  have : (a - 40).toNat = (b - 40).toNat := Nat.eq_of_beq_eq_true q
  omega
theorem kd_c {k : Int} (q : KOK k) : (kd_T k = 5 ∧ k = 0) ∨ (kd_T k = 6 ∧ k = 1) ∨ (kd_T k = 1 ∧ k = 2) ∨ (kd_T k = 2 ∧ k = 3) ∨ (kd_T k = 3 ∧ 10 ≤ k ∧ k ≤ 31) ∨ (kd_T k = 4 ∧ 40 ≤ k ∧ k ≤ 72) := by
  unfold KOK at q
  unfold kd_T
  by_cases a : k = 0
  · rw [if_pos a]; omega
  · rw [if_neg a]
    by_cases b : k = 1
    · rw [if_pos b]; omega
    · rw [if_neg b]
      by_cases d : k = 2
      · rw [if_pos d]; omega
      · rw [if_neg d]
        by_cases e : k = 3
        · rw [if_pos e]; omega
        · rw [if_neg e]
          by_cases f : k < 40
          · rw [if_pos f]; omega
          · rw [if_neg f]; omega
/- the reference's tests -/
theorem r_kd (BK : TBn K c) (B : TBq K P c r) {t : Nat} (ht : t < c + 4) : (r 163 t = 5 ∧ K t = 0) ∨ (r 163 t = 6 ∧ K t = 1) ∨ (r 163 t = 1 ∧ K t = 2) ∨ (r 163 t = 2 ∧ K t = 3) ∨ (r 163 t = 3 ∧ 10 ≤ K t ∧ K t ≤ 31) ∨ (r 163 t = 4 ∧ 40 ≤ K t ∧ K t ≤ 72) := by
  have := kd_c (BK.2.2.2 t)
  rw [B.1 t ht]; exact this
theorem r_sgn (BK : TBn K c) (B : TBq K P c r) {t : Nat} {x y k : Int} (hx : x = (t : Int)) (ht : t < c + 4) (hk : 40 ≤ k ∧ k ≤ 72) (hv : sv_T k = y) : Pc (qf_X13_isSign nn x y r) (fun u => (u = 1 ∧ K t = k) ∨ (u = 0 ∧ ¬ K t = k)) := by
  subst hx
  have kd := r_kd BK B ht
  unfold qf_X13_isSign
  refine pc_rA ?_; intro i1 i2 v2 e2
  rw [Int.toNat_natCast] at e2
  refine pc_if (fun z => pc_ret (.inr ⟨rfl, by omega⟩)) (fun z => ?_)
  refine pc_rA ?_; intro j1 j2 v4 e4
  rw [Int.toNat_natCast, B.2.2.2 t (by omega)] at e4
  refine pc_if (fun z2 => pc_ret (.inr ⟨rfl, fun q => z2 (by rw [e4, q]; exact hv)⟩)) (fun z2 => pc_ret (.inl ⟨rfl, ?_⟩))
  refine svt_i (by omega) hk ?_
  rw [← e4, hv]; exact Decidable.not_not.1 z2
theorem r_wrd (BK : TBn K c) (B : TBq K P c r) {t : Nat} {x y : Int} (hx : x = (t : Int)) (ht : t < c + 4) (hk : 0 ≤ y ∧ y ≤ 21) : Pc (qf_X13_isWord nn x y r) (fun u => (u = 1 ∧ K t = y + 10) ∨ (u = 0 ∧ ¬ K t = y + 10)) := by
  subst hx
  have kd := r_kd BK B ht
  unfold qf_X13_isWord
  refine pc_rA ?_; intro i1 i2 v2 e2
  rw [Int.toNat_natCast] at e2
  refine pc_if (fun z => pc_ret (.inr ⟨rfl, by omega⟩)) (fun z => ?_)
  refine pc_rA ?_; intro j1 j2 v4 e4
  rw [Int.toNat_natCast, B.2.2.1 t (by omega) (by omega)] at e4
  exact pc_if (fun z2 => pc_ret (.inr ⟨rfl, by omega⟩)) (fun z2 => pc_ret (.inl ⟨rfl, by omega⟩))
/-- what a reader tells at token p: k, or 1 where no token begins -/
def TLd (K : Nat → Int) (p : Nat) (k : Int) : Int := if K p = 1 then 1 else k
theorem tl_0 {k : Int} (hk : ¬ k = 0) : ¬ TLd K p k = 0 := by
  unfold TLd
  by_cases a : K p = 1
  · rw [if_pos a]; decide
  · rw [if_neg a]; exact hk
theorem r_wrong (B : TBq K P c r) (hp : p < c) (hf : r 160 9 = 0) {k x : Int} (hx : x = (p : Int)) : Pc (qf_X13_wrong nn k x r) (fun v => v 160 9 = k ∧ v 160 10 = P p) := by
  subst hx
  unfold qf_X13_wrong
  refine pc_if (fun _ => ?_) (fun z => absurd hf z)
  refine pc_xl ?_; intro h2 e2
  refine pc_rA ?_; intro i1 i2 v4 e4
  rw [Int.toNat_natCast, e2, up_n (by omega), B.2.1 p hp] at e4
  refine pc_xl ?_; intro h5 e5
  exact pc_ret ⟨by rw [e5, up_n (by omega), e2, up_s], by rw [e5, up_s]; exact e4⟩
theorem r_mis (BK : TBn K c) (B : TBq K P c r) (hp : p < c) (hc : r 160 23 = (p : Int)) (hf : r 160 9 = 0) : Pc (qf_X13_misplaced nn r) (fun v => v 160 9 = TLd K p 2 ∧ v 160 10 = P p) := by
  have kd := r_kd BK B (t := p) (by omega)
  unfold qf_X13_misplaced qj_X13_misplaced_20
  rw [hc]
  refine pc_rA ?_; intro i1 i2 v6 e6
  rw [Int.toNat_natCast] at e6
  refine pc_if (fun z => ?_) (fun z => ?_)
  · refine pc_sv (r_wrong B hp hf rfl) ?_; intro u3 q3
    refine pc_ret ?_
    unfold TLd; rw [if_neg (by omega)]; exact q3
  · refine pc_sv (r_wrong B hp hf rfl) ?_; intro u3 q3
    refine pc_ret ?_
    unfold TLd; rw [if_pos (by omega)]; exact q3
theorem r_deep (BK : TBn K c) (B : TBq K P c r) (hp : p < c) (hc : r 160 23 = (p : Int)) (hf : r 160 9 = 0) {a : Int} : Pc (qf_X13_isDeep nn a r) (fun v => (a < 40 ∧ v = (0, r)) ∨ (40 ≤ a ∧ v.1 = 1 ∧ v.2 160 9 = TLd K p 3 ∧ v.2 160 10 = P p)) := by
  have kd := r_kd BK B (t := p) (by omega)
  unfold qf_X13_isDeep qj_X13_isDeep_37
  refine pc_if (fun _ => ?_) (fun z => absurd hf z)
  refine pc_if (fun y => ?_) (fun y => pc_ret (.inl ⟨by omega, rfl⟩))
  rw [hc]
  refine pc_rA ?_; intro i1 i2 v6 e6
  rw [Int.toNat_natCast] at e6
  refine pc_if (fun z => ?_) (fun z => ?_)
  · refine pc_sv (r_wrong B hp hf rfl) ?_; intro u3 q3
    refine pc_ret (.inr ⟨y, rfl, ?_⟩)
    unfold TLd; rw [if_neg (by omega)]; exact q3
  · refine pc_sv (r_wrong B hp hf rfl) ?_; intro u3 q3
    refine pc_ret (.inr ⟨y, rfl, ?_⟩)
    unfold TLd; rw [if_pos (by omega)]; exact q3
theorem r_sign_ (BK : TBn K c) (B : TBq K P c r) (hp : p < c) (hc : r 160 23 = (p : Int)) (hf : r 160 9 = 0) {k y : Int} (hk : 40 ≤ k ∧ k ≤ 72) (hv : sv_T k = y) : Pc (qf_X13_sign_ nn y r) (fun v => (K p = k ∧ v = up_M r 160 23 ((p + 1 : Nat) : Int)) ∨ (¬ K p = k ∧ v 160 9 = TLd K p 2 ∧ v 160 10 = P p)) := by
  have n3 := BK.2.1
  unfold qf_X13_sign_
  refine pc_if (fun _ => ?_) (fun z => absurd hf z)
  rw [hc]
  refine pc_sv (r_sgn BK B rfl (by omega) hk hv) ?_; intro u4 q4
  refine pc_if (fun z => ?_) (fun z => ?_)
  · refine pc_sv (r_mis BK B hp hc hf) ?_; intro u6 q6
    exact pc_ret (.inr ⟨by omega, q6⟩)
  · refine pc_add (by omega) ?_; intro v8 e8
    refine pc_xl ?_; intro h9 e9
    exact pc_ret (.inl ⟨by omega, by rw [e9, e8]; rfl⟩)
theorem r_word (BK : TBn K c) (B : TBq K P c r) (hp : p < c) (hc : r 160 23 = (p : Int)) (hf : r 160 9 = 0) {y : Int} (hk : 0 ≤ y ∧ y ≤ 21) : Pc (qf_X13_word nn y r) (fun v => (K p = y + 10 ∧ v = up_M r 160 23 ((p + 1 : Nat) : Int)) ∨ (¬ K p = y + 10 ∧ v 160 9 = TLd K p 2 ∧ v 160 10 = P p)) := by
  have n3 := BK.2.1
  unfold qf_X13_word
  refine pc_if (fun _ => ?_) (fun z => absurd hf z)
  rw [hc]
  refine pc_sv (r_wrd BK B rfl (by omega) hk) ?_; intro u4 q4
  refine pc_if (fun z => ?_) (fun z => ?_)
  · refine pc_sv (r_mis BK B hp hc hf) ?_; intro u6 q6
    exact pc_ret (.inr ⟨by omega, q6⟩)
  · refine pc_add (by omega) ?_; intro v8 e8
    refine pc_xl ?_; intro h9 e9
    exact pc_ret (.inl ⟨by omega, by rw [e9, e8]; rfl⟩)
theorem r_nam (BK : TBn K c) (B : TBq K P c r) (hp : p < c) (hc : r 160 23 = (p : Int)) (hf : r 160 9 = 0) : Pc (qf_X13_name nn r) (fun v => (K p = 2 ∧ v = ((p : Int), up_M r 160 23 ((p + 1 : Nat) : Int))) ∨ (¬ K p = 2 ∧ v.1 = 0 ∧ v.2 160 9 = TLd K p 2 ∧ v.2 160 10 = P p)) := by
  have n3 := BK.2.1
  have kd := r_kd BK B (t := p) (by omega)
  unfold qf_X13_name
  refine pc_if (fun _ => ?_) (fun z => absurd hf z)
  rw [hc]
  refine pc_rA ?_; intro i1 i2 v4 e4
  rw [Int.toNat_natCast] at e4
  refine pc_if (fun z => ?_) (fun z => ?_)
  · refine pc_add (by omega) ?_; intro v6 e6
    refine pc_xl ?_; intro h7 e7
    have e7 : h7 = up_M r 160 23 ((p + 1 : Nat) : Int) := by rw [e7, e6]; rfl
    have q7 : h7 160 23 = ((p + 1 : Nat) : Int) := by rw [e7]; exact up_s
    rw [q7]
    refine pc_sub (by omega) ?_; intro v9 e9
    refine pc_ret (.inl ⟨by omega, ?_⟩)
    rw [e7, show v9 = (p : Int) by omega]
  · refine pc_sv (r_mis BK B hp hc hf) ?_; intro u6 q6
    exact pc_ret (.inr ⟨by omega, rfl, q6⟩)
/- the class's -/
theorem c_kind (BK : TBn K c) (B : TBc K P c h) (hp : p < c) (hc : h 2 10 = (p : Int)) (hf : h 2 11 = 0) : Pc (qf_X9_kind nn h) (fun u => u = K p) := by
  have b1 := B.1
  unfold qf_X9_kind
  refine pc_if (fun z => absurd hf z) (fun _ => ?_)
  refine pc_if (fun z => absurd z (by omega)) (fun _ => ?_)
  refine pc_if (fun z => absurd z (by omega)) (fun _ => ?_)
  rw [hc]
  refine pc_rA ?_; intro i1 i2 v7 e7
  rw [Int.toNat_natCast] at e7
  exact pc_ret (by rw [e7]; exact (B.2 p hp).1)
theorem c_kindAt (BK : TBn K c) (B : TBc K P c h) {t : Nat} {x : Int} (hx : x = (t : Int)) : Pc (qf_X9_kindAt nn x h) (fun u => u = K t) := by
  subst hx
  have b1 := B.1
  unfold qf_X9_kindAt
  refine pc_if (fun z => absurd z (by omega)) (fun _ => ?_)
  refine pc_if (fun z => pc_ret (BK.1 t (by omega)).symm) (fun z => ?_)
  refine pc_rA ?_; intro i1 i2 v7 e7
  rw [Int.toNat_natCast] at e7
  exact pc_ret (by rw [e7]; exact (B.2 t (by omega)).1)
theorem c_here (BK : TBn K c) (B : TBc K P c h) (hp : p < c) (hc : h 2 10 = (p : Int)) (hf : h 2 11 = 0) {k : Int} : Pc (qf_X9_tellHere nn k h) (fun u => u 2 11 = TLd K p k ∧ u 2 12 = P p) := by
  have b1 := B.1
  have b2 := B.2 p hp
  unfold qf_X9_tellHere qj_X9_tellHere_44
  refine pc_if (fun z => absurd hf z) (fun _ => ?_)
  refine pc_if (fun z => absurd z (by omega)) (fun _ => ?_)
  refine pc_if (fun z => absurd z (by omega)) (fun _ => ?_)
  refine pc_rA ?_; intro i1 i2 v12 e12
  rw [hc, Int.toNat_natCast, b2.1] at e12
  have Z : ∀ s : Int, s = TLd K p k → Pc (xl (up_M h 2 11 s) fun h1 => rd_A 3001 4 (h1 2 10) h1 fun v4 => xl (up_M h1 2 12 v4) fun h5 => some h5) (fun u => u 2 11 = TLd K p k ∧ u 2 12 = P p) := fun s es => by
    refine pc_xl ?_; intro h1 e1
    have q1 : h1 2 10 = (p : Int) := by rw [e1, up_n (by omega)]; exact hc
    rw [q1]
    refine pc_rA ?_; intro j1 j2 v4 e4
    rw [Int.toNat_natCast, e1, up_n (by omega), b2.2] at e4
    refine pc_xl ?_; intro h5 e5
    exact pc_ret ⟨by rw [e5, up_n (by omega), e1, up_s]; exact es, by rw [e5, up_s]; exact e4⟩
  refine pc_if (fun z => Z k ?_) (fun z => Z 1 ?_)
  · unfold TLd; rw [if_neg (by omega)]
  · unfold TLd; rw [if_pos (by omega)]
theorem c_need (BK : TBn K c) (B : TBc K P c h) (hp : p < c) (hc : h 2 10 = (p : Int)) (hf : h 2 11 = 0) {k : Int} : Pc (qf_X8_need nn k h) (fun u => (K p = k ∧ u = up_M h 2 10 ((p + 1 : Nat) : Int)) ∨ (¬ K p = k ∧ u 2 11 = TLd K p 2 ∧ u 2 12 = P p)) := by
  have n3 := BK.2.1
  unfold qf_X8_need
  refine pc_sv (c_kind BK B hp hc hf) ?_; intro u3 q3
  refine pc_if (fun z => ?_) (fun z => ?_)
  · refine pc_sv (c_here BK B hp hc hf) ?_; intro u6 q6
    exact pc_ret (.inr ⟨by omega, q6⟩)
  · rw [hc]
    refine pc_add (by omega) ?_; intro v9 e9
    refine pc_xl ?_; intro h10 e10
    exact pc_ret (.inl ⟨by omega, by rw [e10, e9]; rfl⟩)
theorem c_acc (BK : TBn K c) (B : TBc K P c h) (hp : p < c) (hc : h 2 10 = (p : Int)) (hf : h 2 11 = 0) {k : Int} : Pc (qf_X8_accept nn k h) (fun u => (K p = k ∧ u = (1, up_M h 2 10 ((p + 1 : Nat) : Int))) ∨ (¬ K p = k ∧ u = (0, h))) := by
  have n3 := BK.2.1
  unfold qf_X8_accept
  refine pc_sv (c_kind BK B hp hc hf) ?_; intro u3 q3
  refine pc_if (fun z => ?_) (fun z => pc_ret (.inr ⟨by omega, rfl⟩))
  rw [hc]
  refine pc_add (by omega) ?_; intro v9 e9
  refine pc_xl ?_; intro h10 e10
  exact pc_ret (.inl ⟨by omega, by rw [e10, e9]; rfl⟩)
theorem c_deep (BK : TBn K c) (B : TBc K P c h) (hp : p < c) (hc : h 2 10 = (p : Int)) (hf : h 2 11 = 0) {a : Int} : Pc (qf_X8_tooDeep nn a h) (fun u => (a < 40 ∧ u = (0, h)) ∨ (40 ≤ a ∧ u.1 = 1 ∧ u.2 2 11 = TLd K p 3 ∧ u.2 2 12 = P p)) := by
  unfold qf_X8_tooDeep qj_X8_tooDeep_14
  refine pc_if (fun z => pc_if (fun _ => pc_ret (.inl ⟨z, rfl⟩)) (fun y => absurd hf y)) (fun z => ?_)
  refine pc_sv (c_here BK B hp hc hf) ?_; intro u6 q6
  have n := tl_0 (K := K) (p := p) (k := 3) (by decide)
  exact pc_if (fun y => absurd y (by rw [q6.1]; exact n)) (fun y => pc_ret (.inr ⟨by omega, rfl, q6⟩))
theorem c_cast (BK : TBn K c) (B : TBc K P c h) (hp : p < c) (hc : h 2 10 = (p : Int)) (hf : h 2 11 = 0) : Pc (qf_X9_beginsCast nn h) (fun u => (u = 1 ∧ CST K (p : Int)) ∨ (u = 0 ∧ ¬ CST K (p : Int))) := by
  have n3 := BK.2.1
  have E1 : ((p : Int) + 1).toNat = p + 1 := by omega
  have E2 : ((p : Int) + 2).toNat = p + 2 := by omega
  have E3 : ((p : Int) + 3).toNat = p + 3 := by omega
  unfold CST CSb
  rw [Int.toNat_natCast, E1, E2, E3]
  unfold qf_X9_beginsCast qj_X9_beginsCast_140
  refine pc_sv (c_kind BK B hp hc hf) ?_; intro u2 q2
  refine pc_if (fun z => pc_ret (.inr ⟨rfl, by omega⟩)) (fun z => ?_)
  rw [hc]
  refine pc_add (by omega) ?_; intro v4 e4
  refine pc_sv (c_kindAt BK B (t := p + 1) (by omega)) ?_; intro u6 q6
  refine pc_if (fun z => pc_ret (.inr ⟨rfl, by omega⟩)) (fun z1 => ?_)
  refine pc_add (by omega) ?_; intro v8 e8
  refine pc_sv (c_kindAt BK B (t := p + 2) (by omega)) ?_; intro u10 q10
  refine pc_if (fun z2 => ?_) (fun z => pc_ret (.inr ⟨rfl, by omega⟩))
  refine pc_add (by omega) ?_; intro v12 e12
  refine pc_sv (c_kindAt BK B (t := p + 3) (by omega)) ?_; intro u14 q14
  refine pc_if (fun y => pc_ret (.inl ⟨rfl, by omega⟩)) (fun y1 => pc_if (fun y => pc_ret (.inl ⟨rfl, by omega⟩)) (fun y2 => pc_if (fun y => pc_ret (.inl ⟨rfl, by omega⟩)) (fun y3 => pc_if (fun y => pc_ret (.inl ⟨rfl, by omega⟩)) (fun y4 => pc_if (fun y => pc_ret (.inl ⟨rfl, by omega⟩)) (fun y5 => pc_if (fun y => pc_ret (.inl ⟨rfl, by omega⟩)) (fun y6 => pc_if (fun y => pc_ret (.inl ⟨rfl, by omega⟩)) (fun y7 => pc_if (fun y => pc_ret (.inl ⟨rfl, by omega⟩)) (fun y8 => pc_if (fun y => pc_ret (.inl ⟨rfl, by omega⟩)) (fun y9 => pc_if (fun y => pc_ret (.inl ⟨rfl, by omega⟩)) (fun y10 => pc_ret (.inr ⟨rfl, by omega⟩)))))))))))
theorem r_cast (BK : TBn K c) (B : TBq K P c r) (hp : p < c) (hc : r 160 23 = (p : Int)) : Pc (qf_X13_isCast nn r) (fun u => (u = 1 ∧ CST K (p : Int)) ∨ (u = 0 ∧ ¬ CST K (p : Int))) := by
  have n3 := BK.2.1
  have E1 : ((p : Int) + 1).toNat = p + 1 := by omega
  have E2 : ((p : Int) + 2).toNat = p + 2 := by omega
  have E3 : ((p : Int) + 3).toNat = p + 3 := by omega
  have k1 := r_kd BK B (t := p + 1) (by omega)
  have k3 := r_kd BK B (t := p + 3) (by omega)
  unfold CST CSb
  rw [Int.toNat_natCast, E1, E2, E3]
  unfold qf_X13_isCast qj_X13_isCast_154
  rw [hc]
  refine pc_sv (r_sgn BK B rfl (by omega) (k := 40) (by decide) (by decide)) ?_; intro u3 q3
  refine pc_if (fun z => pc_ret (.inr ⟨rfl, by omega⟩)) (fun z => ?_)
  refine pc_add (by omega) ?_; intro v6 e6
  refine pc_rA ?_; intro i1 i2 v7 e7
  rw [show v6.toNat = p + 1 by omega] at e7
  refine pc_if (fun z => pc_ret (.inr ⟨rfl, by omega⟩)) (fun z1 => ?_)
  refine pc_add (by omega) ?_; intro v9 e9
  refine pc_sv (r_sgn BK B (t := p + 2) (by omega) (by omega) (k := 41) (by decide) (by decide)) ?_; intro u11 q11
  refine pc_if (fun z2 => ?_) (fun z => pc_ret (.inr ⟨rfl, by omega⟩))
  refine pc_add (by omega) ?_; intro v13 e13
  refine pc_rA ?_; intro j1 j2 v15 e15
  rw [show v13.toNat = p + 3 by omega] at e15
  refine pc_if (fun y => pc_ret (.inl ⟨rfl, by omega⟩)) (fun y1 => ?_)
  refine pc_rA ?_; intro l1 l2 v17 e17
  rw [show v13.toNat = p + 3 by omega] at e17
  refine pc_if (fun y2 => ?_) (fun y => pc_ret (.inl ⟨rfl, by omega⟩))
  refine pc_sv (r_sgn BK B (t := p + 3) (by omega) (by omega) (k := 40) (by decide) (by decide)) ?_; intro a1 b1
  refine pc_if (fun y => pc_ret (.inl ⟨rfl, by omega⟩)) (fun y3 => ?_)
  refine pc_sv (r_sgn BK B (t := p + 3) (by omega) (by omega) (k := 71) (by decide) (by decide)) ?_; intro a2 b2
  refine pc_if (fun y => pc_ret (.inl ⟨rfl, by omega⟩)) (fun y4 => ?_)
  refine pc_sv (r_sgn BK B (t := p + 3) (by omega) (by omega) (k := 72) (by decide) (by decide)) ?_; intro a3 b3
  refine pc_if (fun y => pc_ret (.inl ⟨rfl, by omega⟩)) (fun y5 => ?_)
  refine pc_sv (r_wrd BK B (t := p + 3) (by omega) (by omega) (by decide)) ?_; intro a4 b4
  refine pc_if (fun y => pc_ret (.inl ⟨rfl, by omega⟩)) (fun y6 => ?_)
  refine pc_sv (r_wrd BK B (t := p + 3) (by omega) (by omega) (by decide)) ?_; intro a5 b5
  refine pc_if (fun y => pc_ret (.inl ⟨rfl, by omega⟩)) (fun y7 => ?_)
  refine pc_sv (r_wrd BK B (t := p + 3) (by omega) (by omega) (by decide)) ?_; intro a6 b6
  refine pc_if (fun y => pc_ret (.inl ⟨rfl, by omega⟩)) (fun y8 => ?_)
  refine pc_sv (r_wrd BK B (t := p + 3) (by omega) (by omega) (by decide)) ?_; intro a7 b7
  refine pc_if (fun y => pc_ret (.inl ⟨rfl, by omega⟩)) (fun y9 => ?_)
  refine pc_sv (r_wrd BK B (t := p + 3) (by omega) (by omega) (by decide)) ?_; intro a8 b8
  exact pc_if (fun y => pc_ret (.inr ⟨rfl, by omega⟩)) (fun y => pc_ret (.inl ⟨rfl, by omega⟩))
/- both -/
theorem jp_up (BK : TBn K c) (J : JPp K P c p h r) {q : Nat} (hk : q < c) : JPp K P c q (up_M h 2 10 (q : Int)) (up_M r 160 23 (q : Int)) := by
  obtain ⟨⟨b1, b2⟩, ⟨d1, d2, d3, d4⟩, ⟨e1, e2, e3⟩, f1, f2⟩ := J
  refine ⟨⟨by rw [up_n (by omega)]; exact b1, fun i hi => by rw [up_n (by omega), up_n (by omega)]; exact b2 i hi⟩, ⟨fun i hi => by rw [up_n (by omega)]; exact d1 i hi, fun i hi => by rw [up_n (by omega)]; exact d2 i hi, fun i a b => by rw [up_n (by omega)]; exact d3 i a b, fun i a => by rw [up_n (by omega)]; exact d4 i a⟩, ⟨up_s, up_s, hk⟩, by rw [up_n (by omega)]; exact f1, by rw [up_n (by omega)]; exact f2⟩
theorem jp_lt (BK : TBn K c) (hp : p < c) (hk : 2 ≤ K p) : p + 1 < c := by
  have := BK.2.2.1
  by_cases z : p = c - 1
  · rw [← z] at this; omega
  · omega
/-- the reference's memory may change where the parse does not look -/
theorem jp_r (J : JPp K P c p h r) (e : ∀ c k : Nat, (c = 160 ∧ (k = 9 ∨ k = 23)) ∨ c = 163 ∨ c = 164 ∨ c = 166 → v c k = r c k) : JPp K P c p h v := by
  obtain ⟨b, ⟨d1, d2, d3, d4⟩, ⟨e1, e2, e3⟩, f1, f2⟩ := J
  exact ⟨b, ⟨fun i hi => by rw [e _ _ (by omega)]; exact d1 i hi, fun i hi => by rw [e _ _ (by omega)]; exact d2 i hi, fun i a b => by rw [e _ _ (by omega)]; exact d3 i a b, fun i a => by rw [e _ _ (by omega)]; exact d4 i a⟩, ⟨e1, by rw [e _ _ (by omega)]; exact e2, e3⟩, f1, by rw [e _ _ (by omega)]; exact f2⟩
theorem j_need (BK : TBn K c) (J : JPp K P c p h r) {k y : Int} (hk : 40 ≤ k ∧ k ≤ 72) (hv : sv_T k = y) : Pc (qf_X8_need nn k h) (fun u => Pc (qf_X13_sign_ nn y r) (fun v => (K p = k ∧ v = up_M r 160 23 ((p + 1 : Nat) : Int) ∧ JPp K P c (p + 1) u v) ∨ SFj u v)) := fun u eu v ev => by
  obtain ⟨b, d, ⟨e1, e2, e3⟩, f1, f2⟩ := J
  have A := c_need BK b e3 e1 f1 u eu
  have B := r_sign_ BK d e3 e2 f2 hk hv v ev
  rcases A with ⟨A1, A2⟩ | ⟨A1, A2, A3⟩
  · rcases B with ⟨B1, B2⟩ | ⟨B1, -⟩
    · refine .inl ⟨A1, B2, ?_⟩
      rw [A2, B2]; exact jp_up BK ⟨b, d, ⟨e1, e2, e3⟩, f1, f2⟩ (jp_lt BK e3 (by omega))
    · exact absurd A1 B1
  · rcases B with ⟨B1, B2⟩ | ⟨B1, B2, B3⟩
    · exact absurd B1 A1
    · exact .inr ⟨by rw [A2]; exact tl_0 (by decide), by rw [A2]; exact B2, by rw [A3]; exact B3⟩
theorem j_name (BK : TBn K c) (J : JPp K P c p h r) : Pc (qf_X8_need nn 2 h) (fun u => Pc (qf_X13_name nn r) (fun v => (K p = 2 ∧ v = ((p : Int), up_M r 160 23 ((p + 1 : Nat) : Int)) ∧ JPp K P c (p + 1) u v.2) ∨ SFj u v.2)) := fun u eu v ev => by
  obtain ⟨b, d, ⟨e1, e2, e3⟩, f1, f2⟩ := J
  have A := c_need BK b e3 e1 f1 u eu
  have B := r_nam BK d e3 e2 f2 v ev
  rcases A with ⟨A1, A2⟩ | ⟨A1, A2, A3⟩
  · rcases B with ⟨B1, B2⟩ | ⟨B1, -⟩
    · refine .inl ⟨A1, B2, ?_⟩
      rw [A2, B2]; exact jp_up BK ⟨b, d, ⟨e1, e2, e3⟩, f1, f2⟩ (jp_lt BK e3 (by omega))
    · exact absurd A1 B1
  · rcases B with ⟨B1, B2⟩ | ⟨B1, -, B2, B3⟩
    · exact absurd B1 A1
    · exact .inr ⟨by rw [A2]; exact tl_0 (by decide), by rw [A2]; exact B2, by rw [A3]; exact B3⟩
theorem j_word (BK : TBn K c) (J : JPp K P c p h r) {k y : Int} (hk : 0 ≤ y ∧ y ≤ 21) (hv : k = y + 10) : Pc (qf_X8_need nn k h) (fun u => Pc (qf_X13_word nn y r) (fun v => (K p = k ∧ v = up_M r 160 23 ((p + 1 : Nat) : Int) ∧ JPp K P c (p + 1) u v) ∨ SFj u v)) := fun u eu v ev => by
  obtain ⟨b, d, ⟨e1, e2, e3⟩, f1, f2⟩ := J
  have A := c_need BK b e3 e1 f1 u eu
  have B := r_word BK d e3 e2 f2 hk v ev
  rw [← hv] at B
  rcases A with ⟨A1, A2⟩ | ⟨A1, A2, A3⟩
  · rcases B with ⟨B1, B2⟩ | ⟨B1, -⟩
    · refine .inl ⟨A1, B2, ?_⟩
      rw [A2, B2]; exact jp_up BK ⟨b, d, ⟨e1, e2, e3⟩, f1, f2⟩ (jp_lt BK e3 (by omega))
    · exact absurd A1 B1
  · rcases B with ⟨B1, B2⟩ | ⟨B1, B2, B3⟩
    · exact absurd B1 A1
    · exact .inr ⟨by rw [A2]; exact tl_0 (by decide), by rw [A2]; exact B2, by rw [A3]; exact B3⟩
theorem j_deep (BK : TBn K c) (J : JPp K P c p h r) {a : Int} : Pc (qf_X8_tooDeep nn a h) (fun u => Pc (qf_X13_isDeep nn a r) (fun v => (a < 40 ∧ u = (0, h) ∧ v = (0, r)) ∨ (¬ u.1 = 0 ∧ ¬ v.1 = 0 ∧ SFj u.2 v.2))) := fun u eu v ev => by
  obtain ⟨b, d, ⟨e1, e2, e3⟩, f1, f2⟩ := J
  have A := c_deep BK b e3 e1 f1 u eu
  have B := r_deep BK d e3 e2 f2 v ev
  rcases A with ⟨A1, A2⟩ | ⟨A1, A2, A3, A4⟩
  · rcases B with ⟨B1, B2⟩ | ⟨B1, -⟩
    · exact .inl ⟨A1, A2, B2⟩
    · omega
  · rcases B with ⟨B1, B2⟩ | ⟨B1, B2, B3, B4⟩
    · omega
    · exact .inr ⟨by omega, by omega, by rw [A3]; exact tl_0 (by decide), by rw [A3]; exact B3, by rw [A4]; exact B4⟩
/-- a new node -/
def NDn (v : ms_M) (n k t f o w x y me sl ib : Int) : Prop := (v 167 n.toNat = k ∧ v 168 n.toNat = t ∧ v 169 n.toNat = f) ∧ (v 170 n.toNat = o ∧ v 171 n.toNat = w ∧ v 172 n.toNat = x ∧ v 173 n.toNat = y) ∧ v 175 n.toNat = me ∧ v 176 n.toNat = sl ∧ v 177 n.toNat = ib
theorem r_add {k t f : Int} : Pc (qf_X13_add nn k t f r) (fun u => (0 ≤ r 160 22 ∧ u.1 = r 160 22 ∧ u.2 160 22 = r 160 22 + 1) ∧ NDn u.2 (r 160 22) k t f (-1) (-1) (-1) (-1) 0 0 0 ∧ ∀ c x : Nat, ¬ (167 ≤ c ∧ c ≤ 177 ∧ x = (r 160 22).toNat) → ¬ (c = 160 ∧ x = 22) → u.2 c x = r c x) := by
  unfold qf_X13_add
  refine pc_wA ?_; intro i1 i2 h3 e3
  have c3 : h3 160 22 = r 160 22 := by rw [e3]; exact up_n (by omega)
  rw [c3]
  refine pc_wA ?_; intro _ _ h6 e6
  have c6 : h6 160 22 = r 160 22 := by rw [e6, up_n (by omega)]; exact c3
  rw [c6]
  refine pc_wA ?_; intro _ _ h9 e9
  have c9 : h9 160 22 = r 160 22 := by rw [e9, up_n (by omega)]; exact c6
  rw [c9]
  refine pc_wA ?_; intro _ _ h12 e12
  have c12 : h12 160 22 = r 160 22 := by rw [e12, up_n (by omega)]; exact c9
  rw [c12]
  refine pc_wA ?_; intro _ _ h15 e15
  have c15 : h15 160 22 = r 160 22 := by rw [e15, up_n (by omega)]; exact c12
  rw [c15]
  refine pc_wA ?_; intro _ _ h18 e18
  have c18 : h18 160 22 = r 160 22 := by rw [e18, up_n (by omega)]; exact c15
  rw [c18]
  refine pc_wA ?_; intro _ _ h21 e21
  have c21 : h21 160 22 = r 160 22 := by rw [e21, up_n (by omega)]; exact c18
  rw [c21]
  refine pc_wA ?_; intro _ _ h24 e24
  have c24 : h24 160 22 = r 160 22 := by rw [e24, up_n (by omega)]; exact c21
  rw [c24]
  refine pc_wA ?_; intro _ _ h27 e27
  have c27 : h27 160 22 = r 160 22 := by rw [e27, up_n (by omega)]; exact c24
  rw [c27]
  refine pc_wA ?_; intro _ _ h30 e30
  have c30 : h30 160 22 = r 160 22 := by rw [e30, up_n (by omega)]; exact c27
  rw [c30]
  refine pc_wZ ?_; intro _ _ h33 e33
  have c33 : h33 160 22 = r 160 22 := by rw [e33, up_n (by omega)]; exact c30
  rw [c33]
  refine pc_add (by omega) ?_; intro v35 e35
  refine pc_xl ?_; intro h36 e36
  have c36 : h36 160 22 = r 160 22 + 1 := by rw [e36, up_s]; exact e35
  rw [c36]
  refine pc_sub (by omega) ?_; intro v38 e38
  refine pc_ret ⟨⟨i1, by show v38 = _; omega, c36⟩, ⟨⟨?_, ?_, ?_⟩, ⟨?_, ?_, ?_, ?_⟩, ?_, ?_, ?_⟩, fun c x a b => ?_⟩
  · dsimp only; rw [e36, up_n (by omega), e33, up_n (by omega), e30, up_n (by omega), e27, up_n (by omega), e24, up_n (by omega), e21, up_n (by omega), e18, up_n (by omega), e15, up_n (by omega), e12, up_n (by omega), e9, up_n (by omega), e6, up_n (by omega), e3, up_s]
  · dsimp only; rw [e36, up_n (by omega), e33, up_n (by omega), e30, up_n (by omega), e27, up_n (by omega), e24, up_n (by omega), e21, up_n (by omega), e18, up_n (by omega), e15, up_n (by omega), e12, up_n (by omega), e9, up_n (by omega), e6, up_s]
  · dsimp only; rw [e36, up_n (by omega), e33, up_n (by omega), e30, up_n (by omega), e27, up_n (by omega), e24, up_n (by omega), e21, up_n (by omega), e18, up_n (by omega), e15, up_n (by omega), e12, up_n (by omega), e9, up_s]
  · dsimp only; rw [e36, up_n (by omega), e33, up_n (by omega), e30, up_n (by omega), e27, up_n (by omega), e24, up_n (by omega), e21, up_n (by omega), e18, up_n (by omega), e15, up_n (by omega), e12, up_s]
  · dsimp only; rw [e36, up_n (by omega), e33, up_n (by omega), e30, up_n (by omega), e27, up_n (by omega), e24, up_n (by omega), e21, up_n (by omega), e18, up_n (by omega), e15, up_s]
  · dsimp only; rw [e36, up_n (by omega), e33, up_n (by omega), e30, up_n (by omega), e27, up_n (by omega), e24, up_n (by omega), e21, up_n (by omega), e18, up_s]
  · dsimp only; rw [e36, up_n (by omega), e33, up_n (by omega), e30, up_n (by omega), e27, up_n (by omega), e24, up_n (by omega), e21, up_s]
  · dsimp only; rw [e36, up_n (by omega), e33, up_n (by omega), e30, up_n (by omega), e27, up_s]
  · dsimp only; rw [e36, up_n (by omega), e33, up_n (by omega), e30, up_s]
  · dsimp only; rw [e36, up_n (by omega), e33, up_s]
  · dsimp only; rw [e36, up_n (by omega), e33, up_n (by omega), e30, up_n (by omega), e27, up_n (by omega), e24, up_n (by omega), e21, up_n (by omega), e18, up_n (by omega), e15, up_n (by omega), e12, up_n (by omega), e9, up_n (by omega), e6, up_n (by omega), e3, up_n (by omega)]
end
end
section
/- PARSE: the tree stays where its rows stay -/
section
variable {K : Nat → Int} {T T2 : ms_M}
theorem lk_rg {s : Nat} {d i l a b p q e : Int} (H : LKn d K T s i l a b p q e) : ¬ s = 4 → ¬ s = 7 → 0 ≤ a ∧ a ≤ e ∧ e < b := by
  refine lk_ind (fun d s i l a b p q e => ¬ s = 4 → ¬ s = 7 → 0 ≤ a ∧ a ≤ e ∧ e < b) ?_ ?_ ?_ ?_ ?_ ?_ ?_ ?_ ?_ ?_ ?_ ?_ ?_ ?_ ?_ ?_ ?_ ?_ ?_ ?_ ?_ ?_ ?_ ?_ ?_ ?_ ?_ ?_ ?_ ?_ ?_ ?_ ?_ ?_ ?_ ?_ ?_ ?_ H
  · intro d i a b p q e h0 h1 n4 n7
    exact h0.2 (by decide) (by decide)
  · intro d ix iy iz t u y a b p q e h0 h1 h2 h3 h4 h5 h6 h7 h8 h9 h10 n4 n7
    exact h0
  · intro d i l a b p q e h0 n4 n7
    exact h0.2 (by decide) (by decide)
  · intro d ix iy l s t a b p q e h0 h1 h2 h3 h4 h5 h6 n4 n7
    exact h0
  · intro d ix l t a b p q e h0 h1 h2 h3 h4 n4 n7
    exact h0
  · intro d ix a b p q e h0 h1 h2 h3 n4 n7
    exact h0
  · intro d ix a b p q e h0 h1 h2 h3 n4 n7
    exact h0
  · intro d i a b p q e h0 h1 n4 n7
    exact h0.2 (by decide) (by decide)
  · intro d a b p q e h0 h1 h2 n4 n7
    exact h0
  · intro d a b p q e h0 h1 h2 h3 n4 n7
    exact h0
  · intro d a b p q e h0 h1 h2 h3 h4 n4 n7
    exact h0
  · intro d i t a b p q e h0 h1 n4 n7
    exact h1.2 (by decide) (by decide)
  · intro d ix t a b p q e h0 h1 h2 h3 h4 h5 n4 n7
    exact h0
  · intro d a b p q e h0 h1 h2 h3 n4 n7
    exact h0
  · intro d ix t a b p q e h0 h1 h2 h3 h4 h5 n4 n7
    exact h0
  · intro d ix t a b p q e h0 h1 h2 h3 h4 n4 n7
    exact h0
  · intro d ix t a b p q e h0 h1 h2 h3 h4 h5 n4 n7
    exact h0
  · intro d ix iy t u a b p q e h0 h1 h2 h3 h4 h5 h6 n4 n7
    exact h0
  · intro d a b p q h0 n4 n7
    exact absurd rfl n4
  · intro d a b p q e h0 h1 n4 n7
    exact absurd rfl n4
  · intro d ix t a b p q e h0 h1 h2 h3 n4 n7
    exact h0
  · intro d ix t a b p q e h0 h1 h2 h3 h4 n4 n7
    exact h0
  · intro d a b p q e h0 n4 n7
    exact h0.2 (by decide) (by decide)
  · intro d ix t u bs rw a b p q e h0 h1 h2 h3 h4 h5 n4 n7
    exact h0
  · intro d ix t y a b p q e h0 h1 h2 h3 h4 h5 h6 h7 n4 n7
    exact h0
  · intro d ix t u y z a b p q e h0 h1 h2 h3 h4 h5 h6 h7 h8 n4 n7
    exact h0
  · intro d ix t y a b p q e h0 h1 h2 h3 h4 h5 h6 h7 h8 n4 n7
    exact h0
  · intro d a b p q e h0 h1 h2 h3 n4 n7
    exact h0
  · intro d a b p q e h0 h1 h2 h3 n4 n7
    exact h0
  · intro d ix t a b p q e h0 h1 h2 h3 h4 h5 n4 n7
    exact h0
  · intro d ix t a b p q e h0 h1 h2 h3 h4 h5 n4 n7
    exact h0
  · intro d ix t a b p q e h0 h1 h2 h3 h4 h5 n4 n7
    exact h0
  · intro d t y a b p q e h0 h1 h2 h3 h4 h5 h6 n4 n7
    exact h0
  · intro d ix t a b p q e h0 h1 h2 h3 h4 h5 n4 n7
    exact h0
  · intro d ix iy t u y a b p q e h0 h1 h2 h3 h4 h5 h6 h7 h8 h9 n4 n7
    exact h0
  · intro d a b p h0 h1 n4 n7
    exact absurd rfl n7
  · intro d t y a b p q e h0 h1 h2 h3 n4 n7
    exact absurd rfl n7
  · intro d t a b p q e h0 h1 h2 h3 h4 n4 n7
    exact h0
def AGt (T T2 : ms_M) (s : Nat) (a b e : Int) : Prop := ∀ c x : Nat, 167 ≤ c → c ≤ 177 → ¬ c = 174 → a ≤ (x : Int) → (x : Int) < b → ((c = 169 ∨ c = 177) → (x : Int) = e → ¬ s ≤ 3) → (c = 173 → (x : Int) = e → ¬ (s = 6 ∨ s = 8)) → T2 c x = T c x
theorem lk_map {s : Nat} {d i l a b p q e : Int} (H : LKn d K T s i l a b p q e) : AGt T T2 s a b e → LKn d K T2 s i l a b p q e := by
  refine lk_ind (fun d s i l a b p q e => AGt T T2 s a b e → LKn d K T2 s i l a b p q e) ?_ ?_ ?_ ?_ ?_ ?_ ?_ ?_ ?_ ?_ ?_ ?_ ?_ ?_ ?_ ?_ ?_ ?_ ?_ ?_ ?_ ?_ ?_ ?_ ?_ ?_ ?_ ?_ ?_ ?_ ?_ ?_ ?_ ?_ ?_ ?_ ?_ ?_ H
  · intro d i a b p q e h0 h1 A
    exact lk_es (h0.2 (fun c x c1 c2 c3 x1 x2 x3 x4 => A c x c1 c2 c3 x1 x2 (fun z y => absurd (by decide) (x3 z y)) (fun _ _ => by decide))) h1
  · intro d ix iy iz t u y a b p q e h0 h1 h2 h3 h4 h5 h6 h7 h8 h9 h10 A
    have E167 : T2 167 e.toNat = T 167 e.toNat := A 167 e.toNat (by decide) (by decide) (by decide) (by omega) (by omega) (fun z => absurd z (by decide)) (fun z => absurd z (by decide))
    have E168 : T2 168 e.toNat = T 168 e.toNat := A 168 e.toNat (by decide) (by decide) (by decide) (by omega) (by omega) (fun z => absurd z (by decide)) (fun z => absurd z (by decide))
    have E170 : T2 170 e.toNat = T 170 e.toNat := A 170 e.toNat (by decide) (by decide) (by decide) (by omega) (by omega) (fun z => absurd z (by decide)) (fun z => absurd z (by decide))
    have E171 : T2 171 e.toNat = T 171 e.toNat := A 171 e.toNat (by decide) (by decide) (by decide) (by omega) (by omega) (fun z => absurd z (by decide)) (fun z => absurd z (by decide))
    have E172 : T2 172 e.toNat = T 172 e.toNat := A 172 e.toNat (by decide) (by decide) (by decide) (by omega) (by omega) (fun z => absurd z (by decide)) (fun z => absurd z (by decide))
    have G4 := lk_rg h3.1 (by decide) (by decide)
    have B4 : T2 169 (T 170 e.toNat).toNat = T 169 (T 170 e.toNat).toNat := A 169 (T 170 e.toNat).toNat (by decide) (by decide) (by decide) (by omega) (by omega) (fun _ y => absurd y (by omega)) (fun z => absurd z (by decide))
    have C4 : T2 177 (T 170 e.toNat).toNat = T 177 (T 170 e.toNat).toNat := A 177 (T 170 e.toNat).toNat (by decide) (by decide) (by decide) (by omega) (by omega) (fun _ y => absurd y (by omega)) (fun z => absurd z (by decide))
    have G7 := lk_rg h6.1 (by decide) (by decide)
    have B7 : T2 169 (T 171 e.toNat).toNat = T 169 (T 171 e.toNat).toNat := A 169 (T 171 e.toNat).toNat (by decide) (by decide) (by decide) (by omega) (by omega) (fun _ y => absurd y (by omega)) (fun z => absurd z (by decide))
    have C7 : T2 177 (T 171 e.toNat).toNat = T 177 (T 171 e.toNat).toNat := A 177 (T 171 e.toNat).toNat (by decide) (by decide) (by decide) (by omega) (by omega) (fun _ y => absurd y (by omega)) (fun z => absurd z (by decide))
    have G10 := lk_rg h9.1 (by decide) (by decide)
    have B10 : T2 169 (T 172 e.toNat).toNat = T 169 (T 172 e.toNat).toNat := A 169 (T 172 e.toNat).toNat (by decide) (by decide) (by decide) (by omega) (by omega) (fun _ y => absurd y (by omega)) (fun z => absurd z (by decide))
    have C10 : T2 177 (T 172 e.toNat).toNat = T 177 (T 172 e.toNat).toNat := A 177 (T 172 e.toNat).toNat (by decide) (by decide) (by decide) (by omega) (by omega) (fun _ y => absurd y (by omega)) (fun z => absurd z (by decide))
    exact lk_ec h0 h1 (by rw [E167, E168]; exact h2) (by rw [E170]; exact h3.2 (fun c x c1 c2 c3 x1 x2 x3 x4 => A c x c1 c2 c3 (by omega) (by omega) (fun _ y => absurd y (by omega)) (fun _ _ => by decide))) (by rw [E170, B4, C4]; exact h4) h5 (by rw [E171]; exact h6.2 (fun c x c1 c2 c3 x1 x2 x3 x4 => A c x c1 c2 c3 (by omega) (by omega) (fun _ y => absurd y (by omega)) (fun _ _ => by decide))) (by rw [E171, B7, C7]; exact h7) h8 (by rw [E172]; exact h9.2 (fun c x c1 c2 c3 x1 x2 x3 x4 => A c x c1 c2 c3 (by omega) (by omega) (fun _ y => absurd y (by omega)) (fun _ _ => by decide))) (by rw [E172, B10, C10]; exact h10)
  · intro d i l a b p q e h0 A
    exact lk_su (h0.2 (fun c x c1 c2 c3 x1 x2 x3 x4 => A c x c1 c2 c3 x1 x2 (fun z y => absurd (by decide) (x3 z y)) (fun _ _ => by decide)))
  · intro d ix iy l s t a b p q e h0 h1 h2 h3 h4 h5 h6 A
    have E167 : T2 167 e.toNat = T 167 e.toNat := A 167 e.toNat (by decide) (by decide) (by decide) (by omega) (by omega) (fun z => absurd z (by decide)) (fun z => absurd z (by decide))
    have E168 : T2 168 e.toNat = T 168 e.toNat := A 168 e.toNat (by decide) (by decide) (by decide) (by omega) (by omega) (fun z => absurd z (by decide)) (fun z => absurd z (by decide))
    have E170 : T2 170 e.toNat = T 170 e.toNat := A 170 e.toNat (by decide) (by decide) (by decide) (by omega) (by omega) (fun z => absurd z (by decide)) (fun z => absurd z (by decide))
    have E171 : T2 171 e.toNat = T 171 e.toNat := A 171 e.toNat (by decide) (by decide) (by decide) (by omega) (by omega) (fun z => absurd z (by decide)) (fun z => absurd z (by decide))
    have G4 := lk_rg h3.1 (by decide) (by decide)
    have B4 : T2 169 (T 170 e.toNat).toNat = T 169 (T 170 e.toNat).toNat := A 169 (T 170 e.toNat).toNat (by decide) (by decide) (by decide) (by omega) (by omega) (fun _ y => absurd y (by omega)) (fun z => absurd z (by decide))
    have C4 : T2 177 (T 170 e.toNat).toNat = T 177 (T 170 e.toNat).toNat := A 177 (T 170 e.toNat).toNat (by decide) (by decide) (by decide) (by omega) (by omega) (fun _ y => absurd y (by omega)) (fun z => absurd z (by decide))
    have G6 := lk_rg h5.1 (by decide) (by decide)
    have B6 : T2 169 (T 171 e.toNat).toNat = T 169 (T 171 e.toNat).toNat := A 169 (T 171 e.toNat).toNat (by decide) (by decide) (by decide) (by omega) (by omega) (fun _ y => absurd y (by omega)) (fun z => absurd z (by decide))
    have C6 : T2 177 (T 171 e.toNat).toNat = T 177 (T 171 e.toNat).toNat := A 177 (T 171 e.toNat).toNat (by decide) (by decide) (by decide) (by omega) (by omega) (fun _ y => absurd y (by omega)) (fun z => absurd z (by decide))
    exact lk_sb h0 (by rw [E167, E168]; exact h1) h2 (by rw [E170]; exact h3.2 (fun c x c1 c2 c3 x1 x2 x3 x4 => A c x c1 c2 c3 (by omega) (by omega) (fun _ y => absurd y (by omega)) (fun _ _ => by decide))) (by rw [E170, B4, C4]; exact h4) (by rw [E171]; exact h5.2 (fun c x c1 c2 c3 x1 x2 x3 x4 => A c x c1 c2 c3 (by omega) (by omega) (fun _ y => absurd y (by omega)) (fun _ _ => by decide))) (by rw [E171, B6, C6]; exact h6)
  · intro d ix l t a b p q e h0 h1 h2 h3 h4 A
    have E167 : T2 167 e.toNat = T 167 e.toNat := A 167 e.toNat (by decide) (by decide) (by decide) (by omega) (by omega) (fun z => absurd z (by decide)) (fun z => absurd z (by decide))
    have E168 : T2 168 e.toNat = T 168 e.toNat := A 168 e.toNat (by decide) (by decide) (by decide) (by omega) (by omega) (fun z => absurd z (by decide)) (fun z => absurd z (by decide))
    have E170 : T2 170 e.toNat = T 170 e.toNat := A 170 e.toNat (by decide) (by decide) (by decide) (by omega) (by omega) (fun z => absurd z (by decide)) (fun z => absurd z (by decide))
    have G4 := lk_rg h3.1 (by decide) (by decide)
    have B4 : T2 169 (T 170 e.toNat).toNat = T 169 (T 170 e.toNat).toNat := A 169 (T 170 e.toNat).toNat (by decide) (by decide) (by decide) (by omega) (by omega) (fun _ y => absurd y (by omega)) (fun z => absurd z (by decide))
    have C4 : T2 177 (T 170 e.toNat).toNat = T 177 (T 170 e.toNat).toNat := A 177 (T 170 e.toNat).toNat (by decide) (by decide) (by decide) (by omega) (by omega) (fun _ y => absurd y (by omega)) (fun z => absurd z (by decide))
    exact lk_si h0 (by rw [E167, E168]; exact h1) h2 (by rw [E170]; exact h3.2 (fun c x c1 c2 c3 x1 x2 x3 x4 => A c x c1 c2 c3 (by omega) (by omega) (fun _ y => absurd y (by omega)) (fun _ _ => by decide))) (by rw [E170, B4, C4]; exact h4)
  · intro d ix a b p q e h0 h1 h2 h3 A
    have E167 : T2 167 e.toNat = T 167 e.toNat := A 167 e.toNat (by decide) (by decide) (by decide) (by omega) (by omega) (fun z => absurd z (by decide)) (fun z => absurd z (by decide))
    have E168 : T2 168 e.toNat = T 168 e.toNat := A 168 e.toNat (by decide) (by decide) (by decide) (by omega) (by omega) (fun z => absurd z (by decide)) (fun z => absurd z (by decide))
    have E170 : T2 170 e.toNat = T 170 e.toNat := A 170 e.toNat (by decide) (by decide) (by decide) (by omega) (by omega) (fun z => absurd z (by decide)) (fun z => absurd z (by decide))
    have G3 := lk_rg h2.1 (by decide) (by decide)
    have B3 : T2 169 (T 170 e.toNat).toNat = T 169 (T 170 e.toNat).toNat := A 169 (T 170 e.toNat).toNat (by decide) (by decide) (by decide) (by omega) (by omega) (fun _ y => absurd y (by omega)) (fun z => absurd z (by decide))
    have C3 : T2 177 (T 170 e.toNat).toNat = T 177 (T 170 e.toNat).toNat := A 177 (T 170 e.toNat).toNat (by decide) (by decide) (by decide) (by omega) (by omega) (fun _ y => absurd y (by omega)) (fun z => absurd z (by decide))
    exact lk_us h0 (by rw [E167, E168]; exact h1) (by rw [E170]; exact h2.2 (fun c x c1 c2 c3 x1 x2 x3 x4 => A c x c1 c2 c3 (by omega) (by omega) (fun _ y => absurd y (by omega)) (fun _ _ => by decide))) (by rw [E170, B3, C3]; exact h3)
  · intro d ix a b p q e h0 h1 h2 h3 A
    have E167 : T2 167 e.toNat = T 167 e.toNat := A 167 e.toNat (by decide) (by decide) (by decide) (by omega) (by omega) (fun z => absurd z (by decide)) (fun z => absurd z (by decide))
    have E168 : T2 168 e.toNat = T 168 e.toNat := A 168 e.toNat (by decide) (by decide) (by decide) (by omega) (by omega) (fun z => absurd z (by decide)) (fun z => absurd z (by decide))
    have E170 : T2 170 e.toNat = T 170 e.toNat := A 170 e.toNat (by decide) (by decide) (by decide) (by omega) (by omega) (fun z => absurd z (by decide)) (fun z => absurd z (by decide))
    have G3 := lk_rg h2.1 (by decide) (by decide)
    have B3 : T2 169 (T 170 e.toNat).toNat = T 169 (T 170 e.toNat).toNat := A 169 (T 170 e.toNat).toNat (by decide) (by decide) (by decide) (by omega) (by omega) (fun _ y => absurd y (by omega)) (fun z => absurd z (by decide))
    have C3 : T2 177 (T 170 e.toNat).toNat = T 177 (T 170 e.toNat).toNat := A 177 (T 170 e.toNat).toNat (by decide) (by decide) (by decide) (by omega) (by omega) (fun _ y => absurd y (by omega)) (fun z => absurd z (by decide))
    exact lk_uc h0 (by rw [E167, E168]; exact h1) (by rw [E170]; exact h2.2 (fun c x c1 c2 c3 x1 x2 x3 x4 => A c x c1 c2 c3 (by omega) (by omega) (fun _ y => absurd y (by omega)) (fun _ _ => by decide))) (by rw [E170, B3, C3]; exact h3)
  · intro d i a b p q e h0 h1 A
    exact lk_up (h0.2 (fun c x c1 c2 c3 x1 x2 x3 x4 => A c x c1 c2 c3 x1 x2 (fun z y => absurd (by decide) (x3 z y)) (fun _ _ => by decide))) h1
  · intro d a b p q e h0 h1 h2 A
    have E167 : T2 167 e.toNat = T 167 e.toNat := A 167 e.toNat (by decide) (by decide) (by decide) (by omega) (by omega) (fun z => absurd z (by decide)) (fun z => absurd z (by decide))
    have E168 : T2 168 e.toNat = T 168 e.toNat := A 168 e.toNat (by decide) (by decide) (by decide) (by omega) (by omega) (fun z => absurd z (by decide)) (fun z => absurd z (by decide))
    exact lk_pl h0 (by rw [E167, E168]; exact h1) h2
  · intro d a b p q e h0 h1 h2 h3 A
    have E167 : T2 167 e.toNat = T 167 e.toNat := A 167 e.toNat (by decide) (by decide) (by decide) (by omega) (by omega) (fun z => absurd z (by decide)) (fun z => absurd z (by decide))
    have E168 : T2 168 e.toNat = T 168 e.toNat := A 168 e.toNat (by decide) (by decide) (by decide) (by omega) (by omega) (fun z => absurd z (by decide)) (fun z => absurd z (by decide))
    exact lk_pn h0 (by rw [E167, E168]; exact h1) h2 h3
  · intro d a b p q e h0 h1 h2 h3 h4 A
    have E167 : T2 167 e.toNat = T 167 e.toNat := A 167 e.toNat (by decide) (by decide) (by decide) (by omega) (by omega) (fun z => absurd z (by decide)) (fun z => absurd z (by decide))
    have E168 : T2 168 e.toNat = T 168 e.toNat := A 168 e.toNat (by decide) (by decide) (by decide) (by omega) (by omega) (fun z => absurd z (by decide)) (fun z => absurd z (by decide))
    have E171 : T2 171 e.toNat = T 171 e.toNat := A 171 e.toNat (by decide) (by decide) (by decide) (by omega) (by omega) (fun z => absurd z (by decide)) (fun z => absurd z (by decide))
    exact lk_pc h0 (by rw [E167, E168]; exact h1) h2 (by rw [E171]; exact h3.2 (fun c x c1 c2 c3 x1 x2 x3 x4 => A c x c1 c2 c3 (by omega) (by omega) (fun _ y => absurd y (by omega)) (fun _ _ => by decide))) h4
  · intro d i t a b p q e h0 h1 A
    exact lk_pb h0 (h1.2 (fun c x c1 c2 c3 x1 x2 x3 x4 => A c x c1 c2 c3 x1 x2 (fun z y => absurd (by decide) (x3 z y)) (fun _ _ => by decide)))
  · intro d ix t a b p q e h0 h1 h2 h3 h4 h5 A
    have E167 : T2 167 e.toNat = T 167 e.toNat := A 167 e.toNat (by decide) (by decide) (by decide) (by omega) (by omega) (fun z => absurd z (by decide)) (fun z => absurd z (by decide))
    have E168 : T2 168 e.toNat = T 168 e.toNat := A 168 e.toNat (by decide) (by decide) (by decide) (by omega) (by omega) (fun z => absurd z (by decide)) (fun z => absurd z (by decide))
    have E170 : T2 170 e.toNat = T 170 e.toNat := A 170 e.toNat (by decide) (by decide) (by decide) (by omega) (by omega) (fun z => absurd z (by decide)) (fun z => absurd z (by decide))
    have G4 := lk_rg h3.1 (by decide) (by decide)
    have B4 : T2 169 (T 170 e.toNat).toNat = T 169 (T 170 e.toNat).toNat := A 169 (T 170 e.toNat).toNat (by decide) (by decide) (by decide) (by omega) (by omega) (fun _ y => absurd y (by omega)) (fun z => absurd z (by decide))
    have C4 : T2 177 (T 170 e.toNat).toNat = T 177 (T 170 e.toNat).toNat := A 177 (T 170 e.toNat).toNat (by decide) (by decide) (by decide) (by omega) (by omega) (fun _ y => absurd y (by omega)) (fun z => absurd z (by decide))
    exact lk_pi h0 (by rw [E167, E168]; exact h1) h2 (by rw [E170]; exact h3.2 (fun c x c1 c2 c3 x1 x2 x3 x4 => A c x c1 c2 c3 (by omega) (by omega) (fun _ y => absurd y (by omega)) (fun _ _ => by decide))) (by rw [E170, B4, C4]; exact h4) h5
  · intro d a b p q e h0 h1 h2 h3 A
    have E167 : T2 167 e.toNat = T 167 e.toNat := A 167 e.toNat (by decide) (by decide) (by decide) (by omega) (by omega) (fun z => absurd z (by decide)) (fun z => absurd z (by decide))
    have E168 : T2 168 e.toNat = T 168 e.toNat := A 168 e.toNat (by decide) (by decide) (by decide) (by omega) (by omega) (fun z => absurd z (by decide)) (fun z => absurd z (by decide))
    exact lk_pm h0 (by rw [E167, E168]; exact h1) h2 h3
  · intro d ix t a b p q e h0 h1 h2 h3 h4 h5 A
    have E167 : T2 167 e.toNat = T 167 e.toNat := A 167 e.toNat (by decide) (by decide) (by decide) (by omega) (by omega) (fun z => absurd z (by decide)) (fun z => absurd z (by decide))
    have E168 : T2 168 e.toNat = T 168 e.toNat := A 168 e.toNat (by decide) (by decide) (by decide) (by omega) (by omega) (fun z => absurd z (by decide)) (fun z => absurd z (by decide))
    have E170 : T2 170 e.toNat = T 170 e.toNat := A 170 e.toNat (by decide) (by decide) (by decide) (by omega) (by omega) (fun z => absurd z (by decide)) (fun z => absurd z (by decide))
    have E172 : T2 172 e.toNat = T 172 e.toNat := A 172 e.toNat (by decide) (by decide) (by decide) (by omega) (by omega) (fun z => absurd z (by decide)) (fun z => absurd z (by decide))
    have G4 := lk_rg h3.1 (by decide) (by decide)
    have B4 : T2 169 (T 170 e.toNat).toNat = T 169 (T 170 e.toNat).toNat := A 169 (T 170 e.toNat).toNat (by decide) (by decide) (by decide) (by omega) (by omega) (fun _ y => absurd y (by omega)) (fun z => absurd z (by decide))
    have C4 : T2 177 (T 170 e.toNat).toNat = T 177 (T 170 e.toNat).toNat := A 177 (T 170 e.toNat).toNat (by decide) (by decide) (by decide) (by omega) (by omega) (fun _ y => absurd y (by omega)) (fun z => absurd z (by decide))
    exact lk_pr h0 (by rw [E167, E168, E172]; exact h1) h2 (by rw [E170]; exact h3.2 (fun c x c1 c2 c3 x1 x2 x3 x4 => A c x c1 c2 c3 (by omega) (by omega) (fun _ y => absurd y (by omega)) (fun _ _ => by decide))) (by rw [E170, B4, C4]; exact h4) h5
  · intro d ix t a b p q e h0 h1 h2 h3 h4 A
    have E167 : T2 167 e.toNat = T 167 e.toNat := A 167 e.toNat (by decide) (by decide) (by decide) (by omega) (by omega) (fun z => absurd z (by decide)) (fun z => absurd z (by decide))
    have E168 : T2 168 e.toNat = T 168 e.toNat := A 168 e.toNat (by decide) (by decide) (by decide) (by omega) (by omega) (fun z => absurd z (by decide)) (fun z => absurd z (by decide))
    have E170 : T2 170 e.toNat = T 170 e.toNat := A 170 e.toNat (by decide) (by decide) (by decide) (by omega) (by omega) (fun z => absurd z (by decide)) (fun z => absurd z (by decide))
    have E172 : T2 172 e.toNat = T 172 e.toNat := A 172 e.toNat (by decide) (by decide) (by decide) (by omega) (by omega) (fun z => absurd z (by decide)) (fun z => absurd z (by decide))
    have G4 := lk_rg h3.1 (by decide) (by decide)
    have B4 : T2 169 (T 170 e.toNat).toNat = T 169 (T 170 e.toNat).toNat := A 169 (T 170 e.toNat).toNat (by decide) (by decide) (by decide) (by omega) (by omega) (fun _ y => absurd y (by omega)) (fun z => absurd z (by decide))
    have C4 : T2 177 (T 170 e.toNat).toNat = T 177 (T 170 e.toNat).toNat := A 177 (T 170 e.toNat).toNat (by decide) (by decide) (by decide) (by omega) (by omega) (fun _ y => absurd y (by omega)) (fun z => absurd z (by decide))
    exact lk_pf h0 (by rw [E167, E168, E172]; exact h1) h2 (by rw [E170]; exact h3.2 (fun c x c1 c2 c3 x1 x2 x3 x4 => A c x c1 c2 c3 (by omega) (by omega) (fun _ y => absurd y (by omega)) (fun _ _ => by decide))) (by rw [E170, B4, C4]; exact h4)
  · intro d ix t a b p q e h0 h1 h2 h3 h4 h5 A
    have E167 : T2 167 e.toNat = T 167 e.toNat := A 167 e.toNat (by decide) (by decide) (by decide) (by omega) (by omega) (fun z => absurd z (by decide)) (fun z => absurd z (by decide))
    have E168 : T2 168 e.toNat = T 168 e.toNat := A 168 e.toNat (by decide) (by decide) (by decide) (by omega) (by omega) (fun z => absurd z (by decide)) (fun z => absurd z (by decide))
    have E170 : T2 170 e.toNat = T 170 e.toNat := A 170 e.toNat (by decide) (by decide) (by decide) (by omega) (by omega) (fun z => absurd z (by decide)) (fun z => absurd z (by decide))
    have E171 : T2 171 e.toNat = T 171 e.toNat := A 171 e.toNat (by decide) (by decide) (by decide) (by omega) (by omega) (fun z => absurd z (by decide)) (fun z => absurd z (by decide))
    have E172 : T2 172 e.toNat = T 172 e.toNat := A 172 e.toNat (by decide) (by decide) (by decide) (by omega) (by omega) (fun z => absurd z (by decide)) (fun z => absurd z (by decide))
    have G4 := lk_rg h3.1 (by decide) (by decide)
    have B4 : T2 169 (T 170 e.toNat).toNat = T 169 (T 170 e.toNat).toNat := A 169 (T 170 e.toNat).toNat (by decide) (by decide) (by decide) (by omega) (by omega) (fun _ y => absurd y (by omega)) (fun z => absurd z (by decide))
    have C4 : T2 177 (T 170 e.toNat).toNat = T 177 (T 170 e.toNat).toNat := A 177 (T 170 e.toNat).toNat (by decide) (by decide) (by decide) (by omega) (by omega) (fun _ y => absurd y (by omega)) (fun z => absurd z (by decide))
    exact lk_pd h0 (by rw [E167, E168, E172]; exact h1) h2 (by rw [E170]; exact h3.2 (fun c x c1 c2 c3 x1 x2 x3 x4 => A c x c1 c2 c3 (by omega) (by omega) (fun _ y => absurd y (by omega)) (fun _ _ => by decide))) (by rw [E170, B4, C4]; exact h4) (by rw [E171]; exact h5.2 (fun c x c1 c2 c3 x1 x2 x3 x4 => A c x c1 c2 c3 (by omega) (by omega) (fun _ y => absurd y (by omega)) (fun _ _ => by decide)))
  · intro d ix iy t u a b p q e h0 h1 h2 h3 h4 h5 h6 A
    have E167 : T2 167 e.toNat = T 167 e.toNat := A 167 e.toNat (by decide) (by decide) (by decide) (by omega) (by omega) (fun z => absurd z (by decide)) (fun z => absurd z (by decide))
    have E168 : T2 168 e.toNat = T 168 e.toNat := A 168 e.toNat (by decide) (by decide) (by decide) (by omega) (by omega) (fun z => absurd z (by decide)) (fun z => absurd z (by decide))
    have E170 : T2 170 e.toNat = T 170 e.toNat := A 170 e.toNat (by decide) (by decide) (by decide) (by omega) (by omega) (fun z => absurd z (by decide)) (fun z => absurd z (by decide))
    have E171 : T2 171 e.toNat = T 171 e.toNat := A 171 e.toNat (by decide) (by decide) (by decide) (by omega) (by omega) (fun z => absurd z (by decide)) (fun z => absurd z (by decide))
    have G4 := lk_rg h3.1 (by decide) (by decide)
    have B4 : T2 169 (T 170 e.toNat).toNat = T 169 (T 170 e.toNat).toNat := A 169 (T 170 e.toNat).toNat (by decide) (by decide) (by decide) (by omega) (by omega) (fun _ y => absurd y (by omega)) (fun z => absurd z (by decide))
    have C4 : T2 177 (T 170 e.toNat).toNat = T 177 (T 170 e.toNat).toNat := A 177 (T 170 e.toNat).toNat (by decide) (by decide) (by decide) (by omega) (by omega) (fun _ y => absurd y (by omega)) (fun z => absurd z (by decide))
    have G6 := lk_rg h5.1 (by decide) (by decide)
    have B6 : T2 169 (T 171 e.toNat).toNat = T 169 (T 171 e.toNat).toNat := A 169 (T 171 e.toNat).toNat (by decide) (by decide) (by decide) (by omega) (by omega) (fun _ y => absurd y (by omega)) (fun z => absurd z (by decide))
    have C6 : T2 177 (T 171 e.toNat).toNat = T 177 (T 171 e.toNat).toNat := A 177 (T 171 e.toNat).toNat (by decide) (by decide) (by decide) (by omega) (by omega) (fun _ y => absurd y (by omega)) (fun z => absurd z (by decide))
    exact lk_pe h0 (by rw [E167, E168]; exact h1) h2 (by rw [E170]; exact h3.2 (fun c x c1 c2 c3 x1 x2 x3 x4 => A c x c1 c2 c3 (by omega) (by omega) (fun _ y => absurd y (by omega)) (fun _ _ => by decide))) (by rw [E170, B4, C4]; exact h4) (by rw [E171]; exact h5.2 (fun c x c1 c2 c3 x1 x2 x3 x4 => A c x c1 c2 c3 (by omega) (by omega) (fun _ y => absurd y (by omega)) (fun _ _ => by decide))) (by rw [E171, B6, C6]; exact h6)
  · intro d a b p q h0 A
    exact lk_an h0
  · intro d a b p q e h0 h1 A
    exact lk_al h0 (h1.2 (fun c x c1 c2 c3 x1 x2 x3 x4 => A c x c1 c2 c3 x1 x2 (fun _ _ => by decide) (fun z y => by decide)))
  · intro d ix t a b p q e h0 h1 h2 h3 A
    have E170 : T2 170 e.toNat = T 170 e.toNat := A 170 e.toNat (by decide) (by decide) (by decide) (by omega) (by omega) (fun _ _ => by decide) (fun z => absurd z (by decide))
    have E173 : T2 173 e.toNat = T 173 e.toNat := A 173 e.toNat (by decide) (by decide) (by decide) (by omega) (by omega) (fun _ _ => by decide) (fun _ _ => by decide)
    have G2 := lk_rg h1.1 (by decide) (by decide)
    have B2 : T2 169 (T 170 e.toNat).toNat = T 169 (T 170 e.toNat).toNat := A 169 (T 170 e.toNat).toNat (by decide) (by decide) (by decide) (by omega) (by omega) (fun _ y => by decide) (fun z => absurd z (by decide))
    have C2 : T2 177 (T 170 e.toNat).toNat = T 177 (T 170 e.toNat).toNat := A 177 (T 170 e.toNat).toNat (by decide) (by decide) (by decide) (by omega) (by omega) (fun _ y => by decide) (fun z => absurd z (by decide))
    exact lk_ao h0 (by rw [E170]; exact h1.2 (fun c x c1 c2 c3 x1 x2 x3 x4 => A c x c1 c2 c3 (by omega) (by omega) (fun _ _ => by decide) (fun _ y => by decide))) (by rw [E170, B2, C2]; exact h2) (by rw [E173]; exact h3)
  · intro d ix t a b p q e h0 h1 h2 h3 h4 A
    have E170 : T2 170 e.toNat = T 170 e.toNat := A 170 e.toNat (by decide) (by decide) (by decide) (by omega) (by omega) (fun _ _ => by decide) (fun z => absurd z (by decide))
    have E173 : T2 173 e.toNat = T 173 e.toNat := A 173 e.toNat (by decide) (by decide) (by decide) (by omega) (by omega) (fun _ _ => by decide) (fun _ _ => by decide)
    have G2 := lk_rg h1.1 (by decide) (by decide)
    have B2 : T2 169 (T 170 e.toNat).toNat = T 169 (T 170 e.toNat).toNat := A 169 (T 170 e.toNat).toNat (by decide) (by decide) (by decide) (by omega) (by omega) (fun _ y => by decide) (fun z => absurd z (by decide))
    have C2 : T2 177 (T 170 e.toNat).toNat = T 177 (T 170 e.toNat).toNat := A 177 (T 170 e.toNat).toNat (by decide) (by decide) (by decide) (by omega) (by omega) (fun _ y => by decide) (fun z => absurd z (by decide))
    exact lk_am h0 (by rw [E170]; exact h1.2 (fun c x c1 c2 c3 x1 x2 x3 x4 => A c x c1 c2 c3 (by omega) (by omega) (fun _ _ => by decide) (fun _ y => by decide))) (by rw [E170, B2, C2]; exact h2) h3 (by rw [E173]; exact h4.2 (fun c x c1 c2 c3 x1 x2 x3 x4 => A c x c1 c2 c3 (by omega) (by omega) (fun _ _ => by decide) (fun _ y => by decide)))
  · intro d a b p q e h0 A
    exact lk_tb (h0.2 (fun c x c1 c2 c3 x1 x2 x3 x4 => A c x c1 c2 c3 x1 x2 (fun _ _ => by decide) (fun z y => absurd (by decide) (x4 z y))))
  · intro d ix t u bs rw a b p q e h0 h1 h2 h3 h4 h5 A
    have E167 : T2 167 e.toNat = T 167 e.toNat := A 167 e.toNat (by decide) (by decide) (by decide) (by omega) (by omega) (fun _ _ => by decide) (fun z => absurd z (by decide))
    have E168 : T2 168 e.toNat = T 168 e.toNat := A 168 e.toNat (by decide) (by decide) (by decide) (by omega) (by omega) (fun _ _ => by decide) (fun z => absurd z (by decide))
    have E169 : T2 169 e.toNat = T 169 e.toNat := A 169 e.toNat (by decide) (by decide) (by decide) (by omega) (by omega) (fun _ _ => by decide) (fun z => absurd z (by decide))
    have E170 : T2 170 e.toNat = T 170 e.toNat := A 170 e.toNat (by decide) (by decide) (by decide) (by omega) (by omega) (fun _ _ => by decide) (fun z => absurd z (by decide))
    have E172 : T2 172 e.toNat = T 172 e.toNat := A 172 e.toNat (by decide) (by decide) (by decide) (by omega) (by omega) (fun _ _ => by decide) (fun z => absurd z (by decide))
    have E175 : T2 175 e.toNat = T 175 e.toNat := A 175 e.toNat (by decide) (by decide) (by decide) (by omega) (by omega) (fun _ _ => by decide) (fun z => absurd z (by decide))
    have E176 : T2 176 e.toNat = T 176 e.toNat := A 176 e.toNat (by decide) (by decide) (by decide) (by omega) (by omega) (fun _ _ => by decide) (fun z => absurd z (by decide))
    have G4 := lk_rg h3.1 (by decide) (by decide)
    have B4 : T2 169 (T 170 e.toNat).toNat = T 169 (T 170 e.toNat).toNat := A 169 (T 170 e.toNat).toNat (by decide) (by decide) (by decide) (by omega) (by omega) (fun _ y => by decide) (fun z => absurd z (by decide))
    have C4 : T2 177 (T 170 e.toNat).toNat = T 177 (T 170 e.toNat).toNat := A 177 (T 170 e.toNat).toNat (by decide) (by decide) (by decide) (by omega) (by omega) (fun _ y => by decide) (fun z => absurd z (by decide))
    exact lk_tv h0 (by rw [E167, E168, E169, E172, E175, E176]; exact h1) h2 (by rw [E170]; exact h3.2 (fun c x c1 c2 c3 x1 x2 x3 x4 => A c x c1 c2 c3 (by omega) (by omega) (fun _ _ => by decide) (fun _ y => absurd y (by omega)))) (by rw [E170, B4, C4]; exact h4) h5
  · intro d ix t y a b p q e h0 h1 h2 h3 h4 h5 h6 h7 A
    have E167 : T2 167 e.toNat = T 167 e.toNat := A 167 e.toNat (by decide) (by decide) (by decide) (by omega) (by omega) (fun _ _ => by decide) (fun z => absurd z (by decide))
    have E169 : T2 169 e.toNat = T 169 e.toNat := A 169 e.toNat (by decide) (by decide) (by decide) (by omega) (by omega) (fun _ _ => by decide) (fun z => absurd z (by decide))
    have E170 : T2 170 e.toNat = T 170 e.toNat := A 170 e.toNat (by decide) (by decide) (by decide) (by omega) (by omega) (fun _ _ => by decide) (fun z => absurd z (by decide))
    have E171 : T2 171 e.toNat = T 171 e.toNat := A 171 e.toNat (by decide) (by decide) (by decide) (by omega) (by omega) (fun _ _ => by decide) (fun z => absurd z (by decide))
    have E172 : T2 172 e.toNat = T 172 e.toNat := A 172 e.toNat (by decide) (by decide) (by decide) (by omega) (by omega) (fun _ _ => by decide) (fun z => absurd z (by decide))
    have G5 := lk_rg h4.1 (by decide) (by decide)
    have B5 : T2 169 (T 170 e.toNat).toNat = T 169 (T 170 e.toNat).toNat := A 169 (T 170 e.toNat).toNat (by decide) (by decide) (by decide) (by omega) (by omega) (fun _ y => by decide) (fun z => absurd z (by decide))
    have C5 : T2 177 (T 170 e.toNat).toNat = T 177 (T 170 e.toNat).toNat := A 177 (T 170 e.toNat).toNat (by decide) (by decide) (by decide) (by omega) (by omega) (fun _ y => by decide) (fun z => absurd z (by decide))
    exact lk_ti h0 h1 (by rw [E167, E169, E172]; exact h2) h3 (by rw [E170]; exact h4.2 (fun c x c1 c2 c3 x1 x2 x3 x4 => A c x c1 c2 c3 (by omega) (by omega) (fun _ _ => by decide) (fun _ y => absurd y (by omega)))) (by rw [E170, B5, C5]; exact h5) h6 (by rw [E171]; exact h7.2 (fun c x c1 c2 c3 x1 x2 x3 x4 => A c x c1 c2 c3 (by omega) (by omega) (fun _ _ => by decide) (fun _ y => absurd y (by omega))))
  · intro d ix t u y z a b p q e h0 h1 h2 h3 h4 h5 h6 h7 h8 A
    have E167 : T2 167 e.toNat = T 167 e.toNat := A 167 e.toNat (by decide) (by decide) (by decide) (by omega) (by omega) (fun _ _ => by decide) (fun z => absurd z (by decide))
    have E169 : T2 169 e.toNat = T 169 e.toNat := A 169 e.toNat (by decide) (by decide) (by decide) (by omega) (by omega) (fun _ _ => by decide) (fun z => absurd z (by decide))
    have E170 : T2 170 e.toNat = T 170 e.toNat := A 170 e.toNat (by decide) (by decide) (by decide) (by omega) (by omega) (fun _ _ => by decide) (fun z => absurd z (by decide))
    have E171 : T2 171 e.toNat = T 171 e.toNat := A 171 e.toNat (by decide) (by decide) (by decide) (by omega) (by omega) (fun _ _ => by decide) (fun z => absurd z (by decide))
    have E172 : T2 172 e.toNat = T 172 e.toNat := A 172 e.toNat (by decide) (by decide) (by decide) (by omega) (by omega) (fun _ _ => by decide) (fun z => absurd z (by decide))
    have G5 := lk_rg h4.1 (by decide) (by decide)
    have B5 : T2 169 (T 170 e.toNat).toNat = T 169 (T 170 e.toNat).toNat := A 169 (T 170 e.toNat).toNat (by decide) (by decide) (by decide) (by omega) (by omega) (fun _ y => by decide) (fun z => absurd z (by decide))
    have C5 : T2 177 (T 170 e.toNat).toNat = T 177 (T 170 e.toNat).toNat := A 177 (T 170 e.toNat).toNat (by decide) (by decide) (by decide) (by omega) (by omega) (fun _ y => by decide) (fun z => absurd z (by decide))
    exact lk_tj h0 h1 (by rw [E167, E169]; exact h2) h3 (by rw [E170]; exact h4.2 (fun c x c1 c2 c3 x1 x2 x3 x4 => A c x c1 c2 c3 (by omega) (by omega) (fun _ _ => by decide) (fun _ y => absurd y (by omega)))) (by rw [E170, B5, C5]; exact h5) h6 (by rw [E171]; exact h7.2 (fun c x c1 c2 c3 x1 x2 x3 x4 => A c x c1 c2 c3 (by omega) (by omega) (fun _ _ => by decide) (fun _ y => absurd y (by omega)))) (by rw [E172]; exact h8.2 (fun c x c1 c2 c3 x1 x2 x3 x4 => A c x c1 c2 c3 (by omega) (by omega) (fun _ _ => by decide) (fun _ y => absurd y (by omega))))
  · intro d ix t y a b p q e h0 h1 h2 h3 h4 h5 h6 h7 h8 A
    have E167 : T2 167 e.toNat = T 167 e.toNat := A 167 e.toNat (by decide) (by decide) (by decide) (by omega) (by omega) (fun _ _ => by decide) (fun z => absurd z (by decide))
    have E169 : T2 169 e.toNat = T 169 e.toNat := A 169 e.toNat (by decide) (by decide) (by decide) (by omega) (by omega) (fun _ _ => by decide) (fun z => absurd z (by decide))
    have E170 : T2 170 e.toNat = T 170 e.toNat := A 170 e.toNat (by decide) (by decide) (by decide) (by omega) (by omega) (fun _ _ => by decide) (fun z => absurd z (by decide))
    have E171 : T2 171 e.toNat = T 171 e.toNat := A 171 e.toNat (by decide) (by decide) (by decide) (by omega) (by omega) (fun _ _ => by decide) (fun z => absurd z (by decide))
    have E175 : T2 175 e.toNat = T 175 e.toNat := A 175 e.toNat (by decide) (by decide) (by decide) (by omega) (by omega) (fun _ _ => by decide) (fun z => absurd z (by decide))
    have G6 := lk_rg h5.1 (by decide) (by decide)
    have B6 : T2 169 (T 170 e.toNat).toNat = T 169 (T 170 e.toNat).toNat := A 169 (T 170 e.toNat).toNat (by decide) (by decide) (by decide) (by omega) (by omega) (fun _ y => by decide) (fun z => absurd z (by decide))
    have C6 : T2 177 (T 170 e.toNat).toNat = T 177 (T 170 e.toNat).toNat := A 177 (T 170 e.toNat).toNat (by decide) (by decide) (by decide) (by omega) (by omega) (fun _ y => by decide) (fun z => absurd z (by decide))
    exact lk_tw h0 h1 (by rw [E167, E169]; exact h2) h3 (by rw [E175]; exact h4) (by rw [E170]; exact h5.2 (fun c x c1 c2 c3 x1 x2 x3 x4 => A c x c1 c2 c3 (by omega) (by omega) (fun _ _ => by decide) (fun _ y => absurd y (by omega)))) (by rw [E170, B6, C6]; exact h6) h7 (by rw [E171]; exact h8.2 (fun c x c1 c2 c3 x1 x2 x3 x4 => A c x c1 c2 c3 (by omega) (by omega) (fun _ _ => by decide) (fun _ y => absurd y (by omega))))
  · intro d a b p q e h0 h1 h2 h3 A
    have E167 : T2 167 e.toNat = T 167 e.toNat := A 167 e.toNat (by decide) (by decide) (by decide) (by omega) (by omega) (fun _ _ => by decide) (fun z => absurd z (by decide))
    have E168 : T2 168 e.toNat = T 168 e.toNat := A 168 e.toNat (by decide) (by decide) (by decide) (by omega) (by omega) (fun _ _ => by decide) (fun z => absurd z (by decide))
    have E169 : T2 169 e.toNat = T 169 e.toNat := A 169 e.toNat (by decide) (by decide) (by decide) (by omega) (by omega) (fun _ _ => by decide) (fun z => absurd z (by decide))
    exact lk_tl h0 (by rw [E167, E168, E169]; exact h1) h2 h3
  · intro d a b p q e h0 h1 h2 h3 A
    have E167 : T2 167 e.toNat = T 167 e.toNat := A 167 e.toNat (by decide) (by decide) (by decide) (by omega) (by omega) (fun _ _ => by decide) (fun z => absurd z (by decide))
    have E168 : T2 168 e.toNat = T 168 e.toNat := A 168 e.toNat (by decide) (by decide) (by decide) (by omega) (by omega) (fun _ _ => by decide) (fun z => absurd z (by decide))
    have E169 : T2 169 e.toNat = T 169 e.toNat := A 169 e.toNat (by decide) (by decide) (by decide) (by omega) (by omega) (fun _ _ => by decide) (fun z => absurd z (by decide))
    have E170 : T2 170 e.toNat = T 170 e.toNat := A 170 e.toNat (by decide) (by decide) (by decide) (by omega) (by omega) (fun _ _ => by decide) (fun z => absurd z (by decide))
    exact lk_tg h0 (by rw [E167, E168, E169, E170]; exact h1) h2 h3
  · intro d ix t a b p q e h0 h1 h2 h3 h4 h5 A
    have E167 : T2 167 e.toNat = T 167 e.toNat := A 167 e.toNat (by decide) (by decide) (by decide) (by omega) (by omega) (fun _ _ => by decide) (fun z => absurd z (by decide))
    have E168 : T2 168 e.toNat = T 168 e.toNat := A 168 e.toNat (by decide) (by decide) (by decide) (by omega) (by omega) (fun _ _ => by decide) (fun z => absurd z (by decide))
    have E169 : T2 169 e.toNat = T 169 e.toNat := A 169 e.toNat (by decide) (by decide) (by decide) (by omega) (by omega) (fun _ _ => by decide) (fun z => absurd z (by decide))
    have E170 : T2 170 e.toNat = T 170 e.toNat := A 170 e.toNat (by decide) (by decide) (by decide) (by omega) (by omega) (fun _ _ => by decide) (fun z => absurd z (by decide))
    have G4 := lk_rg h3.1 (by decide) (by decide)
    have B4 : T2 169 (T 170 e.toNat).toNat = T 169 (T 170 e.toNat).toNat := A 169 (T 170 e.toNat).toNat (by decide) (by decide) (by decide) (by omega) (by omega) (fun _ y => by decide) (fun z => absurd z (by decide))
    have C4 : T2 177 (T 170 e.toNat).toNat = T 177 (T 170 e.toNat).toNat := A 177 (T 170 e.toNat).toNat (by decide) (by decide) (by decide) (by omega) (by omega) (fun _ y => by decide) (fun z => absurd z (by decide))
    exact lk_tr h0 (by rw [E167, E168, E169]; exact h1) h2 (by rw [E170]; exact h3.2 (fun c x c1 c2 c3 x1 x2 x3 x4 => A c x c1 c2 c3 (by omega) (by omega) (fun _ _ => by decide) (fun _ y => absurd y (by omega)))) (by rw [E170, B4, C4]; exact h4) h5
  · intro d ix t a b p q e h0 h1 h2 h3 h4 h5 A
    have E167 : T2 167 e.toNat = T 167 e.toNat := A 167 e.toNat (by decide) (by decide) (by decide) (by omega) (by omega) (fun _ _ => by decide) (fun z => absurd z (by decide))
    have E168 : T2 168 e.toNat = T 168 e.toNat := A 168 e.toNat (by decide) (by decide) (by decide) (by omega) (by omega) (fun _ _ => by decide) (fun z => absurd z (by decide))
    have E169 : T2 169 e.toNat = T 169 e.toNat := A 169 e.toNat (by decide) (by decide) (by decide) (by omega) (by omega) (fun _ _ => by decide) (fun z => absurd z (by decide))
    have E170 : T2 170 e.toNat = T 170 e.toNat := A 170 e.toNat (by decide) (by decide) (by decide) (by omega) (by omega) (fun _ _ => by decide) (fun z => absurd z (by decide))
    have G4 := lk_rg h3.1 (by decide) (by decide)
    have B4 : T2 169 (T 170 e.toNat).toNat = T 169 (T 170 e.toNat).toNat := A 169 (T 170 e.toNat).toNat (by decide) (by decide) (by decide) (by omega) (by omega) (fun _ y => by decide) (fun z => absurd z (by decide))
    have C4 : T2 177 (T 170 e.toNat).toNat = T 177 (T 170 e.toNat).toNat := A 177 (T 170 e.toNat).toNat (by decide) (by decide) (by decide) (by omega) (by omega) (fun _ y => by decide) (fun z => absurd z (by decide))
    exact lk_tt h0 (by rw [E167, E168, E169]; exact h1) h2 (by rw [E170]; exact h3.2 (fun c x c1 c2 c3 x1 x2 x3 x4 => A c x c1 c2 c3 (by omega) (by omega) (fun _ _ => by decide) (fun _ y => absurd y (by omega)))) (by rw [E170, B4, C4]; exact h4) h5
  · intro d ix t a b p q e h0 h1 h2 h3 h4 h5 A
    have E167 : T2 167 e.toNat = T 167 e.toNat := A 167 e.toNat (by decide) (by decide) (by decide) (by omega) (by omega) (fun _ _ => by decide) (fun z => absurd z (by decide))
    have E168 : T2 168 e.toNat = T 168 e.toNat := A 168 e.toNat (by decide) (by decide) (by decide) (by omega) (by omega) (fun _ _ => by decide) (fun z => absurd z (by decide))
    have E169 : T2 169 e.toNat = T 169 e.toNat := A 169 e.toNat (by decide) (by decide) (by decide) (by omega) (by omega) (fun _ _ => by decide) (fun z => absurd z (by decide))
    have E170 : T2 170 e.toNat = T 170 e.toNat := A 170 e.toNat (by decide) (by decide) (by decide) (by omega) (by omega) (fun _ _ => by decide) (fun z => absurd z (by decide))
    have G4 := lk_rg h3.1 (by decide) (by decide)
    have B4 : T2 169 (T 170 e.toNat).toNat = T 169 (T 170 e.toNat).toNat := A 169 (T 170 e.toNat).toNat (by decide) (by decide) (by decide) (by omega) (by omega) (fun _ y => by decide) (fun z => absurd z (by decide))
    have C4 : T2 177 (T 170 e.toNat).toNat = T 177 (T 170 e.toNat).toNat := A 177 (T 170 e.toNat).toNat (by decide) (by decide) (by decide) (by omega) (by omega) (fun _ y => by decide) (fun z => absurd z (by decide))
    exact lk_tp h0 (by rw [E167, E168, E169]; exact h1) h2 (by rw [E170]; exact h3.2 (fun c x c1 c2 c3 x1 x2 x3 x4 => A c x c1 c2 c3 (by omega) (by omega) (fun _ _ => by decide) (fun _ y => absurd y (by omega)))) (by rw [E170, B4, C4]; exact h4) h5
  · intro d t y a b p q e h0 h1 h2 h3 h4 h5 h6 A
    have E167 : T2 167 e.toNat = T 167 e.toNat := A 167 e.toNat (by decide) (by decide) (by decide) (by omega) (by omega) (fun _ _ => by decide) (fun z => absurd z (by decide))
    have E168 : T2 168 e.toNat = T 168 e.toNat := A 168 e.toNat (by decide) (by decide) (by decide) (by omega) (by omega) (fun _ _ => by decide) (fun z => absurd z (by decide))
    have E169 : T2 169 e.toNat = T 169 e.toNat := A 169 e.toNat (by decide) (by decide) (by decide) (by omega) (by omega) (fun _ _ => by decide) (fun z => absurd z (by decide))
    have E170 : T2 170 e.toNat = T 170 e.toNat := A 170 e.toNat (by decide) (by decide) (by decide) (by omega) (by omega) (fun _ _ => by decide) (fun z => absurd z (by decide))
    have E171 : T2 171 e.toNat = T 171 e.toNat := A 171 e.toNat (by decide) (by decide) (by decide) (by omega) (by omega) (fun _ _ => by decide) (fun z => absurd z (by decide))
    have E176 : T2 176 e.toNat = T 176 e.toNat := A 176 e.toNat (by decide) (by decide) (by decide) (by omega) (by omega) (fun _ _ => by decide) (fun z => absurd z (by decide))
    exact lk_ty h0 h1 (by rw [E167, E168, E169, E176]; exact h2) h3 (by rw [E170]; exact h4.2 (fun c x c1 c2 c3 x1 x2 x3 x4 => A c x c1 c2 c3 (by omega) (by omega) (fun _ _ => by decide) (fun _ y => absurd y (by omega)))) h5 (by rw [E171]; exact h6.2 (fun c x c1 c2 c3 x1 x2 x3 x4 => A c x c1 c2 c3 (by omega) (by omega) (fun _ _ => by decide) (fun _ y => absurd y (by omega))))
  · intro d ix t a b p q e h0 h1 h2 h3 h4 h5 A
    have E167 : T2 167 e.toNat = T 167 e.toNat := A 167 e.toNat (by decide) (by decide) (by decide) (by omega) (by omega) (fun _ _ => by decide) (fun z => absurd z (by decide))
    have E169 : T2 169 e.toNat = T 169 e.toNat := A 169 e.toNat (by decide) (by decide) (by decide) (by omega) (by omega) (fun _ _ => by decide) (fun z => absurd z (by decide))
    have E170 : T2 170 e.toNat = T 170 e.toNat := A 170 e.toNat (by decide) (by decide) (by decide) (by omega) (by omega) (fun _ _ => by decide) (fun z => absurd z (by decide))
    have G4 := lk_rg h3.1 (by decide) (by decide)
    have B4 : T2 169 (T 170 e.toNat).toNat = T 169 (T 170 e.toNat).toNat := A 169 (T 170 e.toNat).toNat (by decide) (by decide) (by decide) (by omega) (by omega) (fun _ y => by decide) (fun z => absurd z (by decide))
    have C4 : T2 177 (T 170 e.toNat).toNat = T 177 (T 170 e.toNat).toNat := A 177 (T 170 e.toNat).toNat (by decide) (by decide) (by decide) (by omega) (by omega) (fun _ y => by decide) (fun z => absurd z (by decide))
    exact lk_ta h0 (by rw [E167, E169]; exact h1) h2 (by rw [E170]; exact h3.2 (fun c x c1 c2 c3 x1 x2 x3 x4 => A c x c1 c2 c3 (by omega) (by omega) (fun _ _ => by decide) (fun _ y => absurd y (by omega)))) (by rw [E170, B4, C4]; exact h4) h5
  · intro d ix iy t u y a b p q e h0 h1 h2 h3 h4 h5 h6 h7 h8 h9 A
    have E167 : T2 167 e.toNat = T 167 e.toNat := A 167 e.toNat (by decide) (by decide) (by decide) (by omega) (by omega) (fun _ _ => by decide) (fun z => absurd z (by decide))
    have E168 : T2 168 e.toNat = T 168 e.toNat := A 168 e.toNat (by decide) (by decide) (by decide) (by omega) (by omega) (fun _ _ => by decide) (fun z => absurd z (by decide))
    have E169 : T2 169 e.toNat = T 169 e.toNat := A 169 e.toNat (by decide) (by decide) (by decide) (by omega) (by omega) (fun _ _ => by decide) (fun z => absurd z (by decide))
    have E170 : T2 170 e.toNat = T 170 e.toNat := A 170 e.toNat (by decide) (by decide) (by decide) (by omega) (by omega) (fun _ _ => by decide) (fun z => absurd z (by decide))
    have E171 : T2 171 e.toNat = T 171 e.toNat := A 171 e.toNat (by decide) (by decide) (by decide) (by omega) (by omega) (fun _ _ => by decide) (fun z => absurd z (by decide))
    have G5 := lk_rg h4.1 (by decide) (by decide)
    have B5 : T2 169 (T 170 e.toNat).toNat = T 169 (T 170 e.toNat).toNat := A 169 (T 170 e.toNat).toNat (by decide) (by decide) (by decide) (by omega) (by omega) (fun _ y => by decide) (fun z => absurd z (by decide))
    have C5 : T2 177 (T 170 e.toNat).toNat = T 177 (T 170 e.toNat).toNat := A 177 (T 170 e.toNat).toNat (by decide) (by decide) (by decide) (by omega) (by omega) (fun _ y => by decide) (fun z => absurd z (by decide))
    have G8 := lk_rg h7.1 (by decide) (by decide)
    have B8 : T2 169 (T 171 e.toNat).toNat = T 169 (T 171 e.toNat).toNat := A 169 (T 171 e.toNat).toNat (by decide) (by decide) (by decide) (by omega) (by omega) (fun _ y => by decide) (fun z => absurd z (by decide))
    have C8 : T2 177 (T 171 e.toNat).toNat = T 177 (T 171 e.toNat).toNat := A 177 (T 171 e.toNat).toNat (by decide) (by decide) (by decide) (by omega) (by omega) (fun _ y => by decide) (fun z => absurd z (by decide))
    exact lk_te h0 h1 (by rw [E167, E168, E169]; exact h2) h3 (by rw [E170]; exact h4.2 (fun c x c1 c2 c3 x1 x2 x3 x4 => A c x c1 c2 c3 (by omega) (by omega) (fun _ _ => by decide) (fun _ y => absurd y (by omega)))) (by rw [E170, B5, C5]; exact h5) h6 (by rw [E171]; exact h7.2 (fun c x c1 c2 c3 x1 x2 x3 x4 => A c x c1 c2 c3 (by omega) (by omega) (fun _ _ => by decide) (fun _ y => absurd y (by omega)))) (by rw [E171, B8, C8]; exact h8) h9
  · intro d a b p h0 h1 A
    exact lk_ln h0 h1
  · intro d t y a b p q e h0 h1 h2 h3 A
    have E173 : T2 173 e.toNat = T 173 e.toNat := A 173 e.toNat (by decide) (by decide) (by decide) (by omega) (by omega) (fun _ _ => by decide) (fun _ _ => by decide)
    exact lk_lc h0 h1 (h2.2 (fun c x c1 c2 c3 x1 x2 x3 x4 => A c x c1 c2 c3 (by omega) (by omega) (fun _ _ => by decide) (fun _ y => by decide))) (by rw [E173]; exact h3.2 (fun c x c1 c2 c3 x1 x2 x3 x4 => A c x c1 c2 c3 (by omega) (by omega) (fun _ _ => by decide) (fun _ y => by decide)))
  · intro d t a b p q e h0 h1 h2 h3 h4 A
    have E167 : T2 167 e.toNat = T 167 e.toNat := A 167 e.toNat (by decide) (by decide) (by decide) (by omega) (by omega) (fun _ _ => by decide) (fun z => absurd z (by decide))
    have E169 : T2 169 e.toNat = T 169 e.toNat := A 169 e.toNat (by decide) (by decide) (by decide) (by omega) (by omega) (fun _ _ => by decide) (fun z => absurd z (by decide))
    have E170 : T2 170 e.toNat = T 170 e.toNat := A 170 e.toNat (by decide) (by decide) (by decide) (by omega) (by omega) (fun _ _ => by decide) (fun z => absurd z (by decide))
    exact lk_bk h0 (by rw [E167, E169]; exact h1) h2 (by rw [E170]; exact h3.2 (fun c x c1 c2 c3 x1 x2 x3 x4 => A c x c1 c2 c3 (by omega) (by omega) (fun _ _ => by decide) (fun _ y => absurd y (by omega)))) h4
/-- how deep: DEEPEST is 40 -/
theorem lk_dp {s : Nat} {d i l a b p q e : Int} (H : LKn d K T s i l a b p q e) : (¬ s = 4 → ¬ s = 5 → d ≤ 40) ∧ (s = 0 → d ≤ 39) := by
  refine lk_ind (fun d s i l a b p q e => (¬ s = 4 → ¬ s = 5 → d ≤ 40) ∧ (s = 0 → d ≤ 39)) ?_ ?_ ?_ ?_ ?_ ?_ ?_ ?_ ?_ ?_ ?_ ?_ ?_ ?_ ?_ ?_ ?_ ?_ ?_ ?_ ?_ ?_ ?_ ?_ ?_ ?_ ?_ ?_ ?_ ?_ ?_ ?_ ?_ ?_ ?_ ?_ ?_ ?_ H
  · intro d i a b p q e h0 h1
    have k := h0.2.1 (by decide) (by decide)
    exact ⟨fun _ _ => by omega, fun _ => by omega⟩
  · intro d ix iy iz t u y a b p q e h0 h1 h2 h3 h4 h5 h6 h7 h8 h9 h10
    have k := h3.2.1 (by decide) (by decide)
    exact ⟨fun _ _ => by omega, fun _ => by omega⟩
  · intro d i l a b p q e h0
    have k := h0.2.1 (by decide) (by decide)
    exact ⟨fun _ _ => by omega, fun z => absurd z (by decide)⟩
  · intro d ix iy l s t a b p q e h0 h1 h2 h3 h4 h5 h6
    have k := h3.2.1 (by decide) (by decide)
    exact ⟨fun _ _ => by omega, fun z => absurd z (by decide)⟩
  · intro d ix l t a b p q e h0 h1 h2 h3 h4
    have k := h3.2.1 (by decide) (by decide)
    exact ⟨fun _ _ => by omega, fun z => absurd z (by decide)⟩
  · intro d ix a b p q e h0 h1 h2 h3
    have k := h2.2.1 (by decide) (by decide)
    exact ⟨fun _ _ => by omega, fun z => absurd z (by decide)⟩
  · intro d ix a b p q e h0 h1 h2 h3
    have k := h2.2.1 (by decide) (by decide)
    exact ⟨fun _ _ => by omega, fun z => absurd z (by decide)⟩
  · intro d i a b p q e h0 h1
    have k := h0.2.1 (by decide) (by decide)
    exact ⟨fun _ _ => by omega, fun z => absurd z (by decide)⟩
  · intro d a b p q e h0 h1 h2
    exact ⟨fun _ _ => by omega, fun z => absurd z (by decide)⟩
  · intro d a b p q e h0 h1 h2 h3
    exact ⟨fun _ _ => by omega, fun z => absurd z (by decide)⟩
  · intro d a b p q e h0 h1 h2 h3 h4
    exact ⟨fun _ _ => by omega, fun z => absurd z (by decide)⟩
  · intro d i t a b p q e h0 h1
    have k := h1.2.1 (by decide) (by decide)
    exact ⟨fun _ _ => by omega, fun z => absurd z (by decide)⟩
  · intro d ix t a b p q e h0 h1 h2 h3 h4 h5
    have k := h3.2.1 (by decide) (by decide)
    exact ⟨fun _ _ => by omega, fun z => absurd z (by decide)⟩
  · intro d a b p q e h0 h1 h2 h3
    exact ⟨fun _ _ => by omega, fun z => absurd z (by decide)⟩
  · intro d ix t a b p q e h0 h1 h2 h3 h4 h5
    have k := h3.2.1 (by decide) (by decide)
    exact ⟨fun _ _ => by omega, fun z => absurd z (by decide)⟩
  · intro d ix t a b p q e h0 h1 h2 h3 h4
    have k := h3.2.1 (by decide) (by decide)
    exact ⟨fun _ _ => by omega, fun z => absurd z (by decide)⟩
  · intro d ix t a b p q e h0 h1 h2 h3 h4 h5
    have k := h3.2.1 (by decide) (by decide)
    exact ⟨fun _ _ => by omega, fun z => absurd z (by decide)⟩
  · intro d ix iy t u a b p q e h0 h1 h2 h3 h4 h5 h6
    have k := h3.2.1 (by decide) (by decide)
    exact ⟨fun _ _ => by omega, fun z => absurd z (by decide)⟩
  · intro d a b p q h0
    exact ⟨fun x y => absurd rfl x, fun z => absurd z (by decide)⟩
  · intro d a b p q e h0 h1
    exact ⟨fun x y => absurd rfl x, fun z => absurd z (by decide)⟩
  · intro d ix t a b p q e h0 h1 h2 h3
    exact ⟨fun x y => absurd rfl y, fun z => absurd z (by decide)⟩
  · intro d ix t a b p q e h0 h1 h2 h3 h4
    exact ⟨fun x y => absurd rfl y, fun z => absurd z (by decide)⟩
  · intro d a b p q e h0
    have k := h0.2.1 (by decide) (by decide)
    exact ⟨fun _ _ => by omega, fun z => absurd z (by decide)⟩
  · intro d ix t u bs rw a b p q e h0 h1 h2 h3 h4 h5
    have k := h3.2.1 (by decide) (by decide)
    exact ⟨fun _ _ => by omega, fun z => absurd z (by decide)⟩
  · intro d ix t y a b p q e h0 h1 h2 h3 h4 h5 h6 h7
    have k := h4.2.1 (by decide) (by decide)
    exact ⟨fun _ _ => by omega, fun z => absurd z (by decide)⟩
  · intro d ix t u y z a b p q e h0 h1 h2 h3 h4 h5 h6 h7 h8
    have k := h4.2.1 (by decide) (by decide)
    exact ⟨fun _ _ => by omega, fun z => absurd z (by decide)⟩
  · intro d ix t y a b p q e h0 h1 h2 h3 h4 h5 h6 h7 h8
    have k := h5.2.1 (by decide) (by decide)
    exact ⟨fun _ _ => by omega, fun z => absurd z (by decide)⟩
  · intro d a b p q e h0 h1 h2 h3
    exact ⟨fun _ _ => by omega, fun z => absurd z (by decide)⟩
  · intro d a b p q e h0 h1 h2 h3
    exact ⟨fun _ _ => by omega, fun z => absurd z (by decide)⟩
  · intro d ix t a b p q e h0 h1 h2 h3 h4 h5
    have k := h3.2.1 (by decide) (by decide)
    exact ⟨fun _ _ => by omega, fun z => absurd z (by decide)⟩
  · intro d ix t a b p q e h0 h1 h2 h3 h4 h5
    have k := h3.2.1 (by decide) (by decide)
    exact ⟨fun _ _ => by omega, fun z => absurd z (by decide)⟩
  · intro d ix t a b p q e h0 h1 h2 h3 h4 h5
    have k := h3.2.1 (by decide) (by decide)
    exact ⟨fun _ _ => by omega, fun z => absurd z (by decide)⟩
  · intro d t y a b p q e h0 h1 h2 h3 h4 h5 h6
    have k := h4.2.1 (by decide) (by decide)
    exact ⟨fun _ _ => by omega, fun z => absurd z (by decide)⟩
  · intro d ix t a b p q e h0 h1 h2 h3 h4 h5
    have k := h3.2.1 (by decide) (by decide)
    exact ⟨fun _ _ => by omega, fun z => absurd z (by decide)⟩
  · intro d ix iy t u y a b p q e h0 h1 h2 h3 h4 h5 h6 h7 h8 h9
    have k := h4.2.1 (by decide) (by decide)
    exact ⟨fun _ _ => by omega, fun z => absurd z (by decide)⟩
  · intro d a b p h0 h1
    exact ⟨fun _ _ => by omega, fun z => absurd z (by decide)⟩
  · intro d t y a b p q e h0 h1 h2 h3
    have k := h2.2.1 (by decide) (by decide)
    exact ⟨fun _ _ => by omega, fun z => absurd z (by decide)⟩
  · intro d t a b p q e h0 h1 h2 h3 h4
    have k := h3.2.1 (by decide) (by decide)
    exact ⟨fun _ _ => by omega, fun z => absurd z (by decide)⟩
end
end
section
/- PARSE: how strong a sign is -/
section
variable {nn : Nat} {K P : Nat → Int} {c p : Nat} {h g r w u v : ms_M}
theorem st_19 : st_T 19 = 6 := by decide
theorem st_52 : st_T 52 = 5 := by decide
theorem st_53 : st_T 53 = 5 := by decide
theorem st_54 : st_T 54 = 6 := by decide
theorem st_55 : st_T 55 = 6 := by decide
theorem st_56 : st_T 56 = 6 := by decide
theorem st_57 : st_T 57 = 6 := by decide
theorem st_58 : st_T 58 = 7 := by decide
theorem st_59 : st_T 59 = 7 := by decide
theorem st_60 : st_T 60 = 7 := by decide
theorem st_61 : st_T 61 = 8 := by decide
theorem st_62 : st_T 62 = 8 := by decide
theorem st_63 : st_T 63 = 9 := by decide
theorem st_64 : st_T 64 = 9 := by decide
theorem st_65 : st_T 65 = 9 := by decide
theorem st_66 : st_T 66 = 4 := by decide
theorem st_67 : st_T 67 = 1 := by decide
theorem st_68 : st_T 68 = 2 := by decide
theorem st_69 : st_T 69 = 0 := by decide
theorem st_70 : st_T 70 = 3 := by decide
theorem st_no {k : Int} (q : ¬ k = 19 ∧ ¬ k = 52 ∧ ¬ k = 53 ∧ ¬ k = 54 ∧ ¬ k = 55 ∧ ¬ k = 56 ∧ ¬ k = 57 ∧ ¬ k = 58 ∧ ¬ k = 59 ∧ ¬ k = 60 ∧ ¬ k = 61 ∧ ¬ k = 62 ∧ ¬ k = 63 ∧ ¬ k = 64 ∧ ¬ k = 65 ∧ ¬ k = 66 ∧ ¬ k = 67 ∧ ¬ k = 68 ∧ ¬ k = 69 ∧ ¬ k = 70) : st_T k = -1 := by
  unfold st_T
  rw [if_neg (show ¬ k = 19 by omega), if_neg (show ¬ k = 52 by omega), if_neg (show ¬ k = 53 by omega), if_neg (show ¬ k = 54 by omega), if_neg (show ¬ k = 55 by omega), if_neg (show ¬ k = 56 by omega), if_neg (show ¬ k = 57 by omega), if_neg (show ¬ k = 58 by omega), if_neg (show ¬ k = 59 by omega), if_neg (show ¬ k = 60 by omega), if_neg (show ¬ k = 61 by omega), if_neg (show ¬ k = 62 by omega), if_neg (show ¬ k = 63 by omega), if_neg (show ¬ k = 64 by omega), if_neg (show ¬ k = 65 by omega), if_neg (show ¬ k = 66 by omega), if_neg (show ¬ k = 67 by omega), if_neg (show ¬ k = 68 by omega), if_neg (show ¬ k = 69 by omega), if_neg (show ¬ k = 70 by omega)]
theorem st_r (k : Int) : -1 ≤ st_T k ∧ st_T k ≤ 9 := by
  by_cases c0 : k = 19
  · rw [c0]; decide
  by_cases c1 : k = 52
  · rw [c1]; decide
  by_cases c2 : k = 53
  · rw [c2]; decide
  by_cases c3 : k = 54
  · rw [c3]; decide
  by_cases c4 : k = 55
  · rw [c4]; decide
  by_cases c5 : k = 56
  · rw [c5]; decide
  by_cases c6 : k = 57
  · rw [c6]; decide
  by_cases c7 : k = 58
  · rw [c7]; decide
  by_cases c8 : k = 59
  · rw [c8]; decide
  by_cases c9 : k = 60
  · rw [c9]; decide
  by_cases c10 : k = 61
  · rw [c10]; decide
  by_cases c11 : k = 62
  · rw [c11]; decide
  by_cases c12 : k = 63
  · rw [c12]; decide
  by_cases c13 : k = 64
  · rw [c13]; decide
  by_cases c14 : k = 65
  · rw [c14]; decide
  by_cases c15 : k = 66
  · rw [c15]; decide
  by_cases c16 : k = 67
  · rw [c16]; decide
  by_cases c17 : k = 68
  · rw [c17]; decide
  by_cases c18 : k = 69
  · rw [c18]; decide
  by_cases c19 : k = 70
  · rw [c19]; decide
  rw [st_no ⟨c0, c1, c2, c3, c4, c5, c6, c7, c8, c9, c10, c11, c12, c13, c14, c15, c16, c17, c18, c19⟩]; decide
/-- a sign that binds is a word or a sign -/
theorem st_k {k : Int} (q : 0 ≤ st_T k) : 2 ≤ k := by
  by_cases z : 2 ≤ k
  · exact z
  · rw [st_no ⟨by omega, by omega, by omega, by omega, by omega, by omega, by omega, by omega, by omega, by omega, by omega, by omega, by omega, by omega, by omega, by omega, by omega, by omega, by omega, by omega⟩] at q; omega
theorem c_lev {k : Int} : Pc (qf_X9_level nn k h) (fun u => u = st_T k + 1) := by
  unfold qf_X9_level qj_X9_level_237 qj_X9_level_234 qj_X9_level_240 qj_X9_level_243 qj_X9_level_246 qj_X9_level_249
  refine pc_if (fun c => pc_ret (by rw [c]; decide)) (fun c0 => ?_)
  refine pc_if (fun c => pc_ret (by rw [c]; decide)) (fun c1 => ?_)
  refine pc_if (fun c => pc_ret (by rw [c]; decide)) (fun c2 => ?_)
  refine pc_if (fun c => pc_ret (by rw [c]; decide)) (fun c3 => ?_)
  refine pc_if (fun c => pc_ret (by rw [c]; decide)) (fun c4 => ?_)
  refine pc_if (fun c => pc_ret (by rw [c]; decide)) (fun c5 => ?_)
  refine pc_if (fun c => pc_ret (by rw [c]; decide)) (fun c6 => ?_)
  refine pc_if (fun c => pc_ret (by rw [c]; decide)) (fun c7 => ?_)
  refine pc_if (fun c => pc_ret (by rw [c]; decide)) (fun c8 => ?_)
  refine pc_if (fun c => pc_ret (by rw [c]; decide)) (fun c9 => ?_)
  refine pc_if (fun c => pc_ret (by rw [c]; decide)) (fun c10 => ?_)
  refine pc_if (fun c => pc_ret (by rw [c]; decide)) (fun c11 => ?_)
  refine pc_if (fun c => pc_ret (by rw [c]; decide)) (fun c12 => ?_)
  refine pc_if (fun c => pc_ret (by rw [c]; decide)) (fun c13 => ?_)
  refine pc_if (fun c => pc_ret (by rw [c]; decide)) (fun c14 => ?_)
  refine pc_if (fun c => pc_ret (by rw [c]; decide)) (fun c15 => ?_)
  refine pc_if (fun c => pc_ret (by rw [c]; decide)) (fun c16 => ?_)
  refine pc_if (fun c => pc_ret (by rw [c]; decide)) (fun c17 => ?_)
  refine pc_if (fun c => pc_ret (by rw [c]; decide)) (fun c18 => ?_)
  refine pc_if (fun c => pc_ret (by rw [c]; decide)) (fun c19 => ?_)
  exact pc_ret (by rw [st_no ⟨c0, c1, c2, c3, c4, c5, c6, c7, c8, c9, c10, c11, c12, c13, c14, c15, c16, c17, c18, c19⟩]; decide)
theorem r_str (BK : TBn K c) (B : TBq K P c r) {t : Nat} {x : Int} (hx : x = (t : Int)) (ht : t < c + 4) : Pc (qf_X13_strength nn x r) (fun u => u = st_T (K t)) := by
  have kd := r_kd BK B ht
  unfold qf_X13_strength qj_X13_strength_146
  refine pc_sv (r_wrd BK B hx ht (by decide)) ?_; intro u2 q2
  refine pc_if (fun z => ?_) (fun z => pc_ret ?_)
  · refine pc_rA ?_; intro i1 i2 v4 e4
    rw [hx, Int.toNat_natCast] at e4
    refine pc_if (fun z4 => ?_) (fun z4 => pc_ret ?_)
    · refine pc_rA ?_; intro j1 j2 v6 e6
      rw [hx, Int.toNat_natCast, B.2.2.2 t (by omega)] at e6
      have I : ∀ k y : Int, (40 ≤ k ∧ k ≤ 72) → sv_T k = y → v6 = y → K t = k := fun k y a b d => svt_i (by omega) a (by rw [← e6, b]; exact d)
      have N : ∀ k y : Int, sv_T k = y → ¬ v6 = y → ¬ K t = k := fun k y b d z => d (by rw [e6, z]; exact b)
      rw [show qf_X13_sign nn 0 124 124 r = some 15996 from rfl, mx_svs]
      refine pc_if (fun n0 => ?_) (fun z => pc_ret ?_)
      · have m0 := N 69 15996 (by decide) n0
        rw [show qf_X13_sign nn 0 38 38 r = some 4902 from rfl, mx_svs]
        refine pc_if (fun n1 => ?_) (fun z => pc_ret ?_)
        · have m1 := N 67 4902 (by decide) n1
          refine pc_if (fun n2 => ?_) (fun z => pc_ret ?_)
          · have m2 := N 68 124 (by decide) n2
            refine pc_if (fun n3 => ?_) (fun z => pc_ret ?_)
            · have m3 := N 70 94 (by decide) n3
              refine pc_if (fun n4 => ?_) (fun z => pc_ret ?_)
              · have m4 := N 66 38 (by decide) n4
                rw [show qf_X13_sign nn 0 61 61 r = some 7869 from rfl, mx_svs]
                refine pc_if (fun z => pc_ret ?_) (fun n5 => ?_)
                · rw [I 52 7869 (by decide) (by decide) z]; decide
                have m5 := N 52 7869 (by decide) n5
                rw [show qf_X13_sign nn 0 33 61 r = some 4285 from rfl, mx_svs]
                refine pc_if (fun n6 => ?_) (fun z => pc_ret ?_)
                · have m6 := N 53 4285 (by decide) n6
                  refine pc_if (fun z => pc_ret ?_) (fun n7 => ?_)
                  · rw [I 54 60 (by decide) (by decide) z]; decide
                  have m7 := N 54 60 (by decide) n7
                  refine pc_if (fun z => pc_ret ?_) (fun n8 => ?_)
                  · rw [I 56 62 (by decide) (by decide) z]; decide
                  have m8 := N 56 62 (by decide) n8
                  rw [show qf_X13_sign nn 0 60 61 r = some 7741 from rfl, mx_svs]
                  refine pc_if (fun z => pc_ret ?_) (fun n9 => ?_)
                  · rw [I 55 7741 (by decide) (by decide) z]; decide
                  have m9 := N 55 7741 (by decide) n9
                  rw [show qf_X13_sign nn 0 62 61 r = some 7997 from rfl, mx_svs]
                  refine pc_if (fun n10 => ?_) (fun z => pc_ret ?_)
                  · have m10 := N 57 7997 (by decide) n10
                    rw [show qf_X13_sign nn 0 60 60 r = some 7740 from rfl, mx_svs]
                    refine pc_if (fun z => pc_ret ?_) (fun n11 => ?_)
                    · rw [I 58 7740 (by decide) (by decide) z]; decide
                    have m11 := N 58 7740 (by decide) n11
                    rw [show qf_X13_sign nn 0 62 62 r = some 7998 from rfl, mx_svs]
                    refine pc_if (fun z => pc_ret ?_) (fun n12 => ?_)
                    · rw [I 59 7998 (by decide) (by decide) z]; decide
                    have m12 := N 59 7998 (by decide) n12
                    rw [show qf_X13_sign nn 62 62 62 r = some 1023806 from rfl, mx_svs]
                    refine pc_if (fun n13 => ?_) (fun z => pc_ret ?_)
                    · have m13 := N 60 1023806 (by decide) n13
                      refine pc_if (fun z => pc_ret ?_) (fun n14 => ?_)
                      · rw [I 61 43 (by decide) (by decide) z]; decide
                      have m14 := N 61 43 (by decide) n14
                      refine pc_if (fun n15 => ?_) (fun z => pc_ret ?_)
                      · have m15 := N 62 45 (by decide) n15
                        refine pc_if (fun z => pc_ret ?_) (fun n16 => ?_)
                        · rw [I 63 42 (by decide) (by decide) z]; decide
                        have m16 := N 63 42 (by decide) n16
                        refine pc_if (fun z => pc_ret ?_) (fun n17 => ?_)
                        · rw [I 64 47 (by decide) (by decide) z]; decide
                        have m17 := N 64 47 (by decide) n17
                        refine pc_if (fun n18 => ?_) (fun z => pc_ret ?_)
                        · have m18 := N 65 37 (by decide) n18
                          refine pc_ret ?_
                          rw [st_no ⟨by omega, m5, m6, m7, m9, m8, m10, m11, m12, m13, m14, m15, m16, m17, m18, m4, m1, m2, m0, m3⟩]
                        · rw [I 65 37 (by decide) (by decide) (Decidable.not_not.1 z)]; decide
                      · rw [I 62 45 (by decide) (by decide) (Decidable.not_not.1 z)]; decide
                    · rw [I 60 1023806 (by decide) (by decide) (Decidable.not_not.1 z)]; decide
                  · rw [I 57 7997 (by decide) (by decide) (Decidable.not_not.1 z)]; decide
                · rw [I 53 4285 (by decide) (by decide) (Decidable.not_not.1 z)]; decide
              · rw [I 66 38 (by decide) (by decide) (Decidable.not_not.1 z)]; decide
            · rw [I 70 94 (by decide) (by decide) (Decidable.not_not.1 z)]; decide
          · rw [I 68 124 (by decide) (by decide) (Decidable.not_not.1 z)]; decide
        · rw [I 67 4902 (by decide) (by decide) (Decidable.not_not.1 z)]; decide
      · rw [I 69 15996 (by decide) (by decide) (Decidable.not_not.1 z)]; decide
    · rw [st_no ⟨by omega, by omega, by omega, by omega, by omega, by omega, by omega, by omega, by omega, by omega, by omega, by omega, by omega, by omega, by omega, by omega, by omega, by omega, by omega, by omega⟩]
  · rw [show K t = 19 by omega]; decide
end
end
section
/- PARSE: E of both sides -/
/-- what a reader of an expression leaves on both sides -/
def JE (dp : Int) (K P : Nat → Int) (c p s : Nat) (r u : ms_M) (v : Int × ms_M) : Prop := SFj u v.2 ∨ ∃ (q : Nat) (i : Int), (JPp K P c q u v.2 ∧ p < q) ∧ LKn dp K v.2 s i 0 (r 160 22) (v.2 160 22) (p : Int) (q : Int) v.1 ∧ (v.2 169 v.1.toNat = (p : Int) ∧ v.2 177 v.1.toNat = i) ∧ NDf r v.2
def PE (K P : Nat → Int) (c s : Nat) (x : Int → ms_M → Option ms_M) (y : Int → ms_M → Option (Int × ms_M)) : Prop := ∀ (a : Int) (p : Nat) (h r : ms_M), (0 ≤ a ∧ a ≤ 40) → JPp K P c p h r → 0 ≤ r 160 22 → Pc (x a h) (fun u => Pc (y a r) (fun v => JE a K P c p s r u v))
section
variable {nn : Nat} {K P : Nat → Int} {c p : Nat} {h g r w u v : ms_M}
theorem sf_r (S : SFj u v) : ¬ v 160 9 = 0 := by rw [S.2.1]; exact S.1
theorem sf_k (S : SFj u v) (A : FSc u h) (B : FSr v w) : SFj h w := ⟨by rw [A.1]; exact S.1, by rw [B.1, A.1]; exact S.2.1, by rw [B.2, A.2]; exact S.2.2⟩
theorem ndf_r : NDf r r := ⟨Int.le_refl _, fun _ _ _ _ _ => rfl⟩
theorem ndf_t (A : NDf r v) (B : NDf v w) : NDf r w := ⟨Int.le_trans A.1 B.1, fun c x a b d => by rw [B.2 c x a b (by have := A.1; omega)]; exact A.2 c x a b d⟩
/-- a write to a node that is not older -/
theorem ndf_w {m n : Nat} {y : Int} (A : NDf r v) (hm : ¬ m = 160) (hn : r 160 22 ≤ (n : Int)) : NDf r (up_M v m n y) := ⟨by rw [up_n (by omega)]; exact A.1, fun c x a b d => by rw [up_n (by omega)]; exact A.2 c x a b d⟩
theorem ndf_c {k : Nat} {y : Int} (A : NDf r v) (hk : ¬ k = 22) : NDf r (up_M v 160 k y) := ⟨by rw [up_n (by omega)]; exact A.1, fun c x a b d => by rw [up_n (by omega)]; exact A.2 c x a b d⟩
theorem jp_w {m n : Nat} {y : Int} (J : JPp K P c p h r) (hm : 167 ≤ m) : JPp K P c p h (up_M r m n y) := jp_r J (fun c k q => up_n (by omega))
theorem jp_c {k : Nat} {y : Int} (J : JPp K P c p h r) (hk : ¬ k = 9 ∧ ¬ k = 23) : JPp K P c p h (up_M r 160 k y) := jp_r J (fun c k q => up_n (by omega))
/-- the tree under later steps -/
theorem lk_nd {s : Nat} {dp i l a b p q e : Int} (H : LKn dp K v s i l a b p q e) (ha : 0 ≤ a) (hb : b ≤ v 160 22) (N : NDf v w) : LKn dp K w s i l a b p q e := lk_map H (fun c x c1 c2 _ x1 x2 _ _ => N.2 c x c1 c2 (by omega))
theorem lk_w {s m n : Nat} {dp i l a b p q e y : Int} (H : LKn dp K v s i l a b p q e) (hn : ((n : Int) < a ∨ b ≤ (n : Int)) ∨ ¬ (167 ≤ m ∧ m ≤ 177)) : LKn dp K (up_M v m n y) s i l a b p q e := lk_map H (fun c x c1 c2 _ x1 x2 _ _ => up_n (by omega))
/- a node's rows under later steps -/
section
variable {n k t f o w2 x y me sl ib z : Int}
theorem nd_nd (D : NDn v n k t f o w2 x y me sl ib) (h0 : 0 ≤ n) (hn : n < v 160 22) (N : NDf v w) : NDn w n k t f o w2 x y me sl ib := by
  obtain ⟨⟨a1, a2, a3⟩, ⟨b1, b2, b3, b4⟩, d1, d2, d3⟩ := D
  have E : ∀ c : Nat, 167 ≤ c → c ≤ 177 → w c n.toNat = v c n.toNat := fun c c1 c2 => N.2 c n.toNat c1 c2 (by omega)
  exact ⟨⟨by rw [E 167 (by decide) (by decide)]; exact a1, by rw [E 168 (by decide) (by decide)]; exact a2, by rw [E 169 (by decide) (by decide)]; exact a3⟩, ⟨by rw [E 170 (by decide) (by decide)]; exact b1, by rw [E 171 (by decide) (by decide)]; exact b2, by rw [E 172 (by decide) (by decide)]; exact b3, by rw [E 173 (by decide) (by decide)]; exact b4⟩, by rw [E 175 (by decide) (by decide)]; exact d1, by rw [E 176 (by decide) (by decide)]; exact d2, by rw [E 177 (by decide) (by decide)]; exact d3⟩
theorem nd_o {m j : Nat} (D : NDn v n k t f o w2 x y me sl ib) (hj : ¬ j = n.toNat ∨ ¬ (167 ≤ m ∧ m ≤ 177)) : NDn (up_M v m j z) n k t f o w2 x y me sl ib := by
  obtain ⟨⟨a1, a2, a3⟩, ⟨b1, b2, b3, b4⟩, d1, d2, d3⟩ := D
  exact ⟨⟨by rw [up_n (by omega)]; exact a1, by rw [up_n (by omega)]; exact a2, by rw [up_n (by omega)]; exact a3⟩, ⟨by rw [up_n (by omega)]; exact b1, by rw [up_n (by omega)]; exact b2, by rw [up_n (by omega)]; exact b3, by rw [up_n (by omega)]; exact b4⟩, by rw [up_n (by omega)]; exact d1, by rw [up_n (by omega)]; exact d2, by rw [up_n (by omega)]; exact d3⟩
theorem nd_7 (D : NDn v n k t f o w2 x y me sl ib) : NDn (up_M v 167 n.toNat z) n z t f o w2 x y me sl ib := by
  obtain ⟨⟨a1, a2, a3⟩, ⟨b1, b2, b3, b4⟩, d1, d2, d3⟩ := D
  exact ⟨⟨up_s, by rw [up_n (by omega)]; exact a2, by rw [up_n (by omega)]; exact a3⟩, ⟨by rw [up_n (by omega)]; exact b1, by rw [up_n (by omega)]; exact b2, by rw [up_n (by omega)]; exact b3, by rw [up_n (by omega)]; exact b4⟩, by rw [up_n (by omega)]; exact d1, by rw [up_n (by omega)]; exact d2, by rw [up_n (by omega)]; exact d3⟩
theorem nd_8 (D : NDn v n k t f o w2 x y me sl ib) : NDn (up_M v 168 n.toNat z) n k z f o w2 x y me sl ib := by
  obtain ⟨⟨a1, a2, a3⟩, ⟨b1, b2, b3, b4⟩, d1, d2, d3⟩ := D
  exact ⟨⟨by rw [up_n (by omega)]; exact a1, up_s, by rw [up_n (by omega)]; exact a3⟩, ⟨by rw [up_n (by omega)]; exact b1, by rw [up_n (by omega)]; exact b2, by rw [up_n (by omega)]; exact b3, by rw [up_n (by omega)]; exact b4⟩, by rw [up_n (by omega)]; exact d1, by rw [up_n (by omega)]; exact d2, by rw [up_n (by omega)]; exact d3⟩
theorem nd_0 (D : NDn v n k t f o w2 x y me sl ib) : NDn (up_M v 170 n.toNat z) n k t f z w2 x y me sl ib := by
  obtain ⟨⟨a1, a2, a3⟩, ⟨b1, b2, b3, b4⟩, d1, d2, d3⟩ := D
  exact ⟨⟨by rw [up_n (by omega)]; exact a1, by rw [up_n (by omega)]; exact a2, by rw [up_n (by omega)]; exact a3⟩, ⟨up_s, by rw [up_n (by omega)]; exact b2, by rw [up_n (by omega)]; exact b3, by rw [up_n (by omega)]; exact b4⟩, by rw [up_n (by omega)]; exact d1, by rw [up_n (by omega)]; exact d2, by rw [up_n (by omega)]; exact d3⟩
theorem nd_1 (D : NDn v n k t f o w2 x y me sl ib) : NDn (up_M v 171 n.toNat z) n k t f o z x y me sl ib := by
  obtain ⟨⟨a1, a2, a3⟩, ⟨b1, b2, b3, b4⟩, d1, d2, d3⟩ := D
  exact ⟨⟨by rw [up_n (by omega)]; exact a1, by rw [up_n (by omega)]; exact a2, by rw [up_n (by omega)]; exact a3⟩, ⟨by rw [up_n (by omega)]; exact b1, up_s, by rw [up_n (by omega)]; exact b3, by rw [up_n (by omega)]; exact b4⟩, by rw [up_n (by omega)]; exact d1, by rw [up_n (by omega)]; exact d2, by rw [up_n (by omega)]; exact d3⟩
theorem nd_2 (D : NDn v n k t f o w2 x y me sl ib) : NDn (up_M v 172 n.toNat z) n k t f o w2 z y me sl ib := by
  obtain ⟨⟨a1, a2, a3⟩, ⟨b1, b2, b3, b4⟩, d1, d2, d3⟩ := D
  exact ⟨⟨by rw [up_n (by omega)]; exact a1, by rw [up_n (by omega)]; exact a2, by rw [up_n (by omega)]; exact a3⟩, ⟨by rw [up_n (by omega)]; exact b1, by rw [up_n (by omega)]; exact b2, up_s, by rw [up_n (by omega)]; exact b4⟩, by rw [up_n (by omega)]; exact d1, by rw [up_n (by omega)]; exact d2, by rw [up_n (by omega)]; exact d3⟩
theorem nd_3 (D : NDn v n k t f o w2 x y me sl ib) : NDn (up_M v 173 n.toNat z) n k t f o w2 x z me sl ib := by
  obtain ⟨⟨a1, a2, a3⟩, ⟨b1, b2, b3, b4⟩, d1, d2, d3⟩ := D
  exact ⟨⟨by rw [up_n (by omega)]; exact a1, by rw [up_n (by omega)]; exact a2, by rw [up_n (by omega)]; exact a3⟩, ⟨by rw [up_n (by omega)]; exact b1, by rw [up_n (by omega)]; exact b2, by rw [up_n (by omega)]; exact b3, up_s⟩, by rw [up_n (by omega)]; exact d1, by rw [up_n (by omega)]; exact d2, by rw [up_n (by omega)]; exact d3⟩
theorem nd_5 (D : NDn v n k t f o w2 x y me sl ib) : NDn (up_M v 175 n.toNat z) n k t f o w2 x y z sl ib := by
  obtain ⟨⟨a1, a2, a3⟩, ⟨b1, b2, b3, b4⟩, d1, d2, d3⟩ := D
  exact ⟨⟨by rw [up_n (by omega)]; exact a1, by rw [up_n (by omega)]; exact a2, by rw [up_n (by omega)]; exact a3⟩, ⟨by rw [up_n (by omega)]; exact b1, by rw [up_n (by omega)]; exact b2, by rw [up_n (by omega)]; exact b3, by rw [up_n (by omega)]; exact b4⟩, up_s, by rw [up_n (by omega)]; exact d2, by rw [up_n (by omega)]; exact d3⟩
theorem nd_6 (D : NDn v n k t f o w2 x y me sl ib) : NDn (up_M v 176 n.toNat z) n k t f o w2 x y me z ib := by
  obtain ⟨⟨a1, a2, a3⟩, ⟨b1, b2, b3, b4⟩, d1, d2, d3⟩ := D
  exact ⟨⟨by rw [up_n (by omega)]; exact a1, by rw [up_n (by omega)]; exact a2, by rw [up_n (by omega)]; exact a3⟩, ⟨by rw [up_n (by omega)]; exact b1, by rw [up_n (by omega)]; exact b2, by rw [up_n (by omega)]; exact b3, by rw [up_n (by omega)]; exact b4⟩, by rw [up_n (by omega)]; exact d1, up_s, by rw [up_n (by omega)]; exact d3⟩
end
/-- a child: its tree, its label -/
def CHl (dp : Int) (K : Nat → Int) (v : ms_M) (s : Nat) (i l a b p q e : Int) : Prop := LKn dp K v s i l a b p q e ∧ v 169 e.toNat = p ∧ v 177 e.toNat = i ∧ 0 ≤ a ∧ a ≤ e ∧ e < b
theorem ch_mk {s : Nat} {dp i l a b p q e : Int} (H : LKn dp K v s i l a b p q e) (hs : ¬ s = 4 ∧ ¬ s = 7) (L : v 169 e.toNat = p ∧ v 177 e.toNat = i) : CHl dp K v s i l a b p q e := ⟨H, L.1, L.2, lk_rg H hs.1 hs.2⟩
theorem ch_nd {s : Nat} {dp i l a b p q e : Int} (C : CHl dp K v s i l a b p q e) (hb : b ≤ v 160 22) (N : NDf v w) : CHl dp K w s i l a b p q e := by
  obtain ⟨H, l1, l2, g1, g2, g3⟩ := C
  exact ⟨lk_nd H g1 hb N, by rw [N.2 169 e.toNat (by decide) (by decide) (by omega)]; exact l1, by rw [N.2 177 e.toNat (by decide) (by decide) (by omega)]; exact l2, g1, g2, g3⟩
theorem ch_w {s m n : Nat} {dp i l a b p q e y : Int} (C : CHl dp K v s i l a b p q e) (hn : ((n : Int) < a ∨ b ≤ (n : Int)) ∨ ¬ (167 ≤ m ∧ m ≤ 177)) : CHl dp K (up_M v m n y) s i l a b p q e := by
  obtain ⟨H, l1, l2, g1, g2, g3⟩ := C
  exact ⟨lk_w H hn, by rw [up_n (by omega)]; exact l1, by rw [up_n (by omega)]; exact l2, g1, g2, g3⟩
/-- the sides of signs: the class's loop stands where the reference's call has come to -/
def XTe (K : Nat → Int) (l any : Int) (q : Nat) : Prop := (any = 0 ∨ any = 1) ∧ (any = 0 → l ≤ 6) ∧ (st_T (K q) < l ∨ (any = 0 ∧ 6 < st_T (K q)))
def PS (nn : Nat) (K P : Nat → Int) (c : Nat) (rc : tq_X8_readValue) (a l : Int) (y : Int → Int → ms_M → Option (Int × ms_M)) : Prop := ∀ (p : Nat) (h r : ms_M) (f : Nat) (t : Int), JPp K P c p h r → 0 ≤ r 160 22 → (0 ≤ t ∧ t ≤ (p : Int)) → Pc (mx_sv (rc.2.1 (a + 1) h) fun u => qw_X8_readValue_20 nn rc f a 1 t u) (fun uF => Pc (y l (a + 1) r) (fun v => SFj uF v.2 ∨ ∃ (q : Nat) (i any : Int) (f2 : Nat) (t2 : Int) (h2 : ms_M), (JPp K P c q h2 v.2 ∧ p < q) ∧ CHl (a + 1) K v.2 1 i l (r 160 22) (v.2 160 22) (p : Int) (q : Int) v.1 ∧ NDf r v.2 ∧ XTe K l any q ∧ (0 ≤ t2 ∧ t2 < (q : Int)) ∧ qw_X8_readValue_20 nn rc f2 a any t2 h2 = some uF))
/-- the class's loop goes on, or stops -/
theorem c_bin (BK : TBn K c) (B : TBc K P c h) (hp : p < c) (hc : h 2 10 = (p : Int)) (hf : h 2 11 = 0) {any : Int} (ha : any = 0 ∨ any = 1) : Pc (qf_X8_binaryAhead nn any h) (fun u => (u = 1 ∧ 0 ≤ st_T (K p) ∧ (any = 1 ∨ st_T (K p) ≤ 6)) ∨ (u = 0 ∧ ¬ (0 ≤ st_T (K p) ∧ (any = 1 ∨ st_T (K p) ≤ 6)))) := by
  unfold qf_X8_binaryAhead
  refine pc_sv (c_kind BK B hp hc hf) ?_; intro u3 q3
  refine pc_sv c_lev ?_; intro u4 q4
  rw [q3] at q4
  refine pc_if (fun z => pc_ret (.inr ⟨rfl, by omega⟩)) (fun z => ?_)
  refine pc_if (fun z2 => pc_ret (.inl ⟨rfl, by omega⟩)) (fun z2 => ?_)
  exact pc_if (fun z3 => pc_ret (.inr ⟨rfl, by omega⟩)) (fun z3 => pc_ret (.inl ⟨rfl, by omega⟩))
/-- the loop of both -/
theorem ps_37 (BK : TBn K c) {rc : tq_X8_readValue} {rd : tq_X13_expression} {a l : Int} (ha : 0 ≤ a ∧ a < 40) (hl : 0 ≤ l ∧ l ≤ 10) (Gc : FScG_X8_readValue rc) (Gr : FSrG_X13_expression rd) (IH : ∀ s : Int, 0 ≤ s → s ≤ 9 → PS nn K P c rc a (s + 1) rd.2.1) {n0 : Int} (h0 : 0 ≤ n0) {p : Nat} : ∀ (k q : Nat) (h r : ms_M) (left s most i any : Int) (f : Nat) (t : Int), JPp K P c q h r → p < q → s = st_T (K q) → n0 ≤ r 160 22 → (∀ l2 : Int, (l2 ≤ most ∨ l2 = l) → CHl (a + 1) K r 1 i l2 n0 (r 160 22) (p : Int) (q : Int) left) → ((any = 0 ∨ any = 1) ∧ (any = 0 → l ≤ 6) ∧ (any = 1 → s ≤ most) ∧ (any = 0 → most ≤ 6 ∧ (s ≤ most ∨ 6 < s))) → (0 ≤ t ∧ t < (q : Int)) → Pc (qw_X8_readValue_20 nn rc f a any t h) (fun uF => Pc (qw_X13_sides_37 nn rd k l (a + 1) (p : Int) left s most r) (fun v => SFj uF v.2 ∨ ∃ (q2 : Nat) (i any : Int) (f2 : Nat) (t2 : Int) (h2 : ms_M), (JPp K P c q2 h2 v.2 ∧ p < q2) ∧ CHl (a + 1) K v.2 1 i l n0 (v.2 160 22) (p : Int) (q2 : Int) v.1 ∧ (r 160 22 ≤ v.2 160 22 ∧ ∀ c x : Nat, 167 ≤ c → c ≤ 177 → (x : Int) < r 160 22 → v.2 c x = r c x) ∧ XTe K l any q2 ∧ (0 ≤ t2 ∧ t2 < (q2 : Int)) ∧ qw_X8_readValue_20 nn rc f2 a any t2 h2 = some uF)) := by
  have n3 := BK.2.1
  intro k
  induction k with
  | zero => intros; exact fun _ _ => pc_none
  | succ k ih =>
    intro q h r left s most i any f t J pq hs hn LKl R ht
    have J0 := J
    obtain ⟨b, d, ⟨e1, e2, e3⟩, f1, f2⟩ := J
    have sr := st_r (K q)
    by_cases go : l ≤ s ∧ s ≤ most
    · -- a sign more
      have k2 : 2 ≤ K q := st_k (by omega)
      have q1c := jp_lt BK e3 k2
      have J1 : JPp K P c (q + 1) (up_M h 2 10 ((q + 1 : Nat) : Int)) (up_M r 160 23 ((q + 1 : Nat) : Int)) := jp_up BK J0 q1c
      cases f with
      | zero => exact pc_none
      | succ f =>
        rw [qw_X8_readValue_20]
        refine pc_if (fun z => absurd z (by omega)) (fun _ => ?_)
        refine pc_sv (c_bin BK b e3 e1 f1 R.1) ?_; intro u25 q25
        refine pc_if (fun z => absurd z (by omega)) (fun _ => ?_)
        refine pc_sv (c_acc BK b e3 e1 f1) ?_; intro u27 q27
        rcases q27 with ⟨a1, a2⟩ | ⟨a1, a2⟩
        · -- instanceof
          rw [a2]
          refine pc_if (fun _ => ?_) (fun z => absurd (show ¬ (1 : Int) = 0 by decide) z)
          unfold qj_X8_readValue_49
          refine pc_if (fun _ => ?_) (fun z => absurd rfl z)
          refine pc_se ?_; intro u13 e13
          refine pc_add (by omega) ?_; intro v14 e14
          intro uF eF
          unfold qw_X13_sides_37
          refine pc_if (fun z => absurd f2 z) (fun _ => ?_)
          refine pc_if (fun z => absurd z (by omega)) (fun _ => ?_)
          refine pc_if (fun z => absurd z (by omega)) (fun _ => ?_)
          rw [e2]
          refine pc_add (by omega) ?_; intro v9 e9
          refine pc_xl ?_; intro h10 e10
          rw [show v9 = ((q + 1 : Nat) : Int) by omega] at e10
          rw [← e10] at J1
          refine pc_sv (r_wrd BK J1.2.1 (t := q) rfl (by omega) (by decide)) ?_; intro u12 q12
          refine pc_if (fun z => absurd z (by omega)) (fun _ => ?_)
          refine pc_sv (j_name BK J1 u13 e13) ?_; intro u23 q23
          rcases q23 with ⟨c1, c2, J2⟩ | S
          · have m23 : u23.2 = up_M h10 160 23 ((q + 1 + 1 : Nat) : Int) := by rw [c2]
            have w1 : u23.1 = ((q + 1 : Nat) : Int) := by rw [c2]
            have n23 : u23.2 160 22 = r 160 22 := by rw [m23, up_n (by omega), e10, up_n (by omega)]
            have N23 : NDf r u23.2 := by rw [m23, e10]; exact ndf_c (ndf_c ndf_r (by decide)) (by decide)
            refine pc_sv r_add ?_; intro u25 q25
            obtain ⟨⟨x1, x2, x3⟩, ND, FR⟩ := q25
            rw [n23] at x1 x2 x3 ND FR
            refine pc_wA ?_; intro i1 i2 h27 e27
            rw [x2] at e27
            have ND2 := nd_0 (z := left) ND
            rw [← e27] at ND2
            have N25 : NDf u23.2 u25.2 := ⟨by rw [n23, x3]; omega, fun c x c1 c2 c3 => FR c x (by omega) (by omega)⟩
            have N27 : NDf r h27 := by rw [e27]; exact ndf_w (ndf_t N23 N25) (by decide) (by omega)
            have n27 : h27 160 22 = r 160 22 + 1 := by rw [e27, up_n (by omega)]; exact x3
            have J3 : JPp K P c (q + 2) u13 h27 := by
              rw [e27]
              refine jp_w (jp_r (show JPp K P c (q + 2) u13 u23.2 from J2) (fun c k z => FR c k (by omega) (by omega))) (by decide)
            unfold qj_X13_sides_157
            have J3' := J3
            obtain ⟨-, d3, ⟨-, g2, g3⟩, -, g5⟩ := J3'
            refine pc_if (fun z => absurd g5 z) (fun _ => ?_)
            rw [g2]
            refine pc_sv (r_str BK d3 rfl (by omega)) ?_; intro u4 q4
            rw [x2]
            have st6 : s = 6 := by rw [hs, a1]; exact st_19
            have CH : ∀ l2 : Int, (l2 ≤ 6 ∨ l2 = l) → CHl (a + 1) K h27 1 0 l2 n0 (h27 160 22) (p : Int) ((q + 2 : Nat) : Int) (r 160 22) := fun l2 hl2 => by
              have CL := ch_nd (LKl 6 (by omega)) (Int.le_refl _) N27
              have o := ND2.2.1.1
              refine ch_mk (lk_si (ix := i) (t := (q : Int)) ⟨h0, hn, by omega⟩ ⟨ND2.1.1, by rw [ND2.1.2.1, w1]; omega⟩ ⟨by omega, by rw [Int.toNat_natCast]; omega, by rw [show ((q : Int) + 1).toNat = q + 1 by omega]; exact c1, by omega⟩ (by rw [o]; exact CL.1) (by rw [o]; exact ⟨CL.2.1, CL.2.2.1⟩)) (by decide) ⟨ND2.1.2.2, ND2.2.2.2.2⟩
            refine pc_imp (ih (q + 2) u13 h27 (r 160 22) u4 s 0 0 f v14 J3 (by omega) q4 (by omega) (fun l2 hl2 => CH l2 (by omega)) ⟨.inl rfl, fun _ => by omega, fun z => absurd z (by decide), fun _ => by omega⟩ (by omega) uF eF) (fun v z => ?_)
            rcases z with z | ⟨q2, i2, any2, f3, t3, h3, y1, y2, y3, y4⟩
            · exact .inl z
            · exact .inr ⟨q2, i2, any2, f3, t3, h3, ⟨y1.1, by omega⟩, y2, ⟨by omega, fun c x c1 c2 c3 => by rw [y3.2 c x c1 c2 (by omega)]; exact N27.2 c x c1 c2 c3⟩, y4⟩
          · -- the name is none: FAULT
            have FU := fs_qw_X8_readValue_20 Gc _ _ _ _ _ S.1 uF eF
            refine pc_imp (P := fun w : Int × ms_M => FSr u23.2 w.2) ?_ (fun w z => .inl (sf_k S FU z))
            have S1 : ¬ u23.2 160 9 = 0 := sf_r S
            have F : FSr u23.2 u23.2 := ft_r
            refine pc_sv (ft_qf_X13_add (ft_n S1 F)) ?_; intro u25 Qu25
            have Fu25 : FSr u23.2 u25.2 := ft_t F Qu25
            refine pc_wA ?_; intro _ _ h27 Eh27
            have Fh27 : FSr u23.2 h27 := by rw [Eh27]; exact ft_u Fu25 (by omega)
            exact pc_imp (ft_qj_X13_sides_157 Gr (fun _ _ _ _ _ _ _ S => ft_qw_X13_sides_37 Gr _ _ _ _ _ _ _ _ S) (ft_n S1 Fh27)) (fun _ q => ft_t Fh27 q)
        · -- a sign
          rw [a2]
          refine pc_if (fun z => absurd rfl z) (fun _ => ?_)
          unfold qj_X8_readValue_49
          refine pc_if (fun z => absurd z (by decide)) (fun _ => ?_)
          dsimp only
          rw [e1]
          refine pc_add (by omega) ?_; intro v17 e17
          refine pc_xl ?_; intro h18 e18
          rw [show v17 = ((q + 1 : Nat) : Int) by omega] at e18
          refine pc_add (by omega) ?_; intro v19 e19
          rw [e19]
          have eT : oq_add t 1 = t + 1 := oq_add_eq (by omega) (by omega) (by omega)
          show Pc (mx_sv (rc.2.1 (a + 1) h18) fun u21 => qw_X8_readValue_20 nn rc f a 1 (oq_add t 1) u21) _
          rw [eT]
          intro uF eF
          unfold qw_X13_sides_37
          refine pc_if (fun z => absurd f2 z) (fun _ => ?_)
          refine pc_if (fun z => absurd z (by omega)) (fun _ => ?_)
          refine pc_if (fun z => absurd z (by omega)) (fun _ => ?_)
          rw [e2]
          refine pc_add (by omega) ?_; intro v9 e9
          refine pc_xl ?_; intro h10 e10
          rw [show v9 = ((q + 1 : Nat) : Int) by omega] at e10
          rw [← e10, ← e18] at J1
          refine pc_sv (r_wrd BK J1.2.1 (t := q) rfl (by omega) (by decide)) ?_; intro u12 q12
          refine pc_if (fun _ => ?_) (fun z => absurd (by omega) z)
          have n10 : h10 160 22 = r 160 22 := by rw [e10, up_n (by omega)]
          have N10 : NDf r h10 := by rw [e10]; exact ndf_c ndf_r (by decide)
          refine pc_sv r_add ?_; intro u14 q14
          obtain ⟨⟨x1, x2, x3⟩, ND, FR⟩ := q14
          rw [n10] at x1 x2 x3 ND FR
          refine pc_wA ?_; intro i1 i2 h16 e16
          rw [x2] at e16
          have ND2 := nd_0 (z := left) ND
          rw [← e16] at ND2
          have N14 : NDf h10 u14.2 := ⟨by rw [n10, x3]; omega, fun c x c1 c2 c3 => FR c x (by omega) (by omega)⟩
          have N16 : NDf r h16 := by rw [e16]; exact ndf_w (ndf_t N10 N14) (by decide) (by omega)
          have n16 : h16 160 22 = r 160 22 + 1 := by rw [e16, up_n (by omega)]; exact x3
          have J2 : JPp K P c (q + 1) h18 h16 := by
            rw [e16]
            exact jp_w (jp_r J1 (fun c k z => FR c k (by omega) (by omega))) (by decide)
          refine pc_add (by omega) ?_; intro v18 e18'
          rw [e18']
          refine pc_sv (IH s (by omega) (by omega) (q + 1) h18 h16 f (t + 1) J2 (by omega) (by omega) uF eF) ?_; intro u20 q20
          refine pc_wA ?_; intro j1 j2 h21 e21
          rw [x2] at e21
          rcases q20 with S | ⟨q2, iy, any2, f3, t3, h3, ⟨J3, pq2⟩, CR, N20, XT, tt, eF3⟩
          · -- FAULT
            have S2 : SFj uF h21 := by
              refine ⟨S.1, ?_, ?_⟩
              · rw [e21, up_n (by omega)]; exact S.2.1
              · rw [e21, up_n (by omega)]; exact S.2.2
            refine pc_imp (P := fun w : Int × ms_M => FSr h21 w.2) ?_ (fun w z => .inl (sf_k S2 fs_r z))
            have S1 : ¬ h21 160 9 = 0 := (sf_r S2)
            have F : FSr h21 h21 := ft_r
            exact pc_imp (ft_qj_X13_sides_157 Gr (fun _ _ _ _ _ _ _ S => ft_qw_X13_sides_37 Gr _ _ _ _ _ _ _ _ S) (ft_n S1 F)) (fun _ q => ft_t F q)
          · have N21 : NDf r h21 := by rw [e21]; exact ndf_w (ndf_t N16 N20) (by decide) (by omega)
            have ND3 := nd_1 (z := u20.1) (nd_nd ND2 (by omega) (by omega) N20)
            rw [← e21] at ND3
            have n21 : h21 160 22 = u20.2 160 22 := by rw [e21, up_n (by omega)]
            have nn20 := N20.1
            have J4 : JPp K P c q2 h3 h21 := by rw [e21]; exact jp_w J3 (by decide)
            have CR2 : CHl (a + 1) K h21 1 iy (s + 1) (r 160 22 + 1) (h21 160 22) ((q + 1 : Nat) : Int) (q2 : Int) u20.1 := by
              rw [n21, e21, ← n16]; exact ch_w CR (.inl (.inl (by omega)))
            have CL : ∀ l2 : Int, (l2 ≤ most ∨ l2 = l) → CHl (a + 1) K h21 1 i l2 n0 (r 160 22) (p : Int) (q : Int) left := fun l2 hl2 => ch_nd (LKl l2 hl2) (Int.le_refl _) N21
            unfold qj_X13_sides_157
            have J4' := J4
            obtain ⟨-, d3, ⟨-, g2, g3⟩, -, g5⟩ := J4'
            refine pc_if (fun z => absurd g5 z) (fun _ => ?_)
            rw [g2]
            refine pc_sv (r_str BK d3 rfl (by omega)) ?_; intro u4 q4
            rw [x2]
            have o := ND3.2.1.1
            have o2 := ND3.2.1.2.1
            have CH : ∀ l2 : Int, (l2 ≤ s ∨ l2 = l) → CHl (a + 1) K h21 1 0 l2 n0 (h21 160 22) (p : Int) (q2 : Int) (r 160 22) := fun l2 hl2 => by
              have C1 := CL s (.inl go.2)
              refine ch_mk (lk_sb (ix := i) (iy := iy) (s := s) (t := (q : Int)) ⟨h0, hn, by omega⟩ ⟨ND3.1.1, by rw [ND3.1.2.1]⟩ ⟨by rw [Int.toNat_natCast]; exact hs.symm, by omega, by omega, by rw [Int.toNat_natCast]; exact a1⟩ (by rw [o]; exact C1.1) (by rw [o]; exact ⟨C1.2.1, C1.2.2.1⟩) (by rw [o2]; exact CR2.1) (by rw [o2]; exact ⟨CR2.2.1, CR2.2.2.1⟩)) (by decide) ⟨ND3.1.2.2, ND3.2.2.2.2⟩
            obtain ⟨X1, X2, X3⟩ := XT
            refine pc_imp (ih q2 h3 h21 (r 160 22) u4 s 0 any2 f3 t3 J4 (by omega) q4 (by omega) CH ⟨X1, fun z => by have := X2 z; omega, fun z => by omega, fun z => by have := X2 z; omega⟩ tt uF eF3) (fun v z => ?_)
            rcases z with z | ⟨q5, i5, any5, f5, t5, h5, y1, y2, y3, y4⟩
            · exact .inl z
            · exact .inr ⟨q5, i5, any5, f5, t5, h5, ⟨y1.1, by omega⟩, y2, ⟨by omega, fun c x c1 c2 c3 => by rw [y3.2 c x c1 c2 (by omega)]; exact N21.2 c x c1 c2 c3⟩, y4⟩
    · -- the reference stops
      intro uF eF
      have XT : XTe K l any q := ⟨R.1, R.2.1, by
        by_cases z : st_T (K q) < l
        · exact .inl z
        · exact .inr (by omega)⟩
      have E : Pc (some (left, r)) (fun v : Int × ms_M => SFj uF v.2 ∨ ∃ (q2 : Nat) (i any : Int) (f2 : Nat) (t2 : Int) (h2 : ms_M), (JPp K P c q2 h2 v.2 ∧ p < q2) ∧ CHl (a + 1) K v.2 1 i l n0 (v.2 160 22) (p : Int) (q2 : Int) v.1 ∧ (r 160 22 ≤ v.2 160 22 ∧ ∀ c x : Nat, 167 ≤ c → c ≤ 177 → (x : Int) < r 160 22 → v.2 c x = r c x) ∧ XTe K l any q2 ∧ (0 ≤ t2 ∧ t2 < (q2 : Int)) ∧ qw_X8_readValue_20 nn rc f2 a any t2 h2 = some uF) := pc_ret (.inr ⟨q, i, any, f, t, h, ⟨J0, pq⟩, LKl l (.inr rfl), ⟨Int.le_refl _, fun _ _ _ _ _ => rfl⟩, XT, ht, eF⟩)
      unfold qw_X13_sides_37
      exact pc_if (fun z => absurd f2 z) (fun _ => pc_if (fun _ => E) (fun z => pc_if (fun _ => E) (fun z2 => absurd ⟨by omega, by omega⟩ go)))
/-- sides -/
theorem pss_all (BK : TBn K c) {rc : tq_X8_readValue} {a : Int} (ha : 0 ≤ a ∧ a < 40) (Gc : FScG_X8_readValue rc) (IU : ∀ d, PE K P c 2 rc.2.1 (qg_X13_expression nn d).2.2.1) : ∀ (d : Nat) (l : Int), 0 ≤ l → l ≤ 10 → PS nn K P c rc a l (qg_X13_expression nn d).2.1 := by
  intro d
  induction d with
  | zero => intro l l0 l1 p h r f t J hr ht; exact fun _ _ => pc_none
  | succ d ih =>
    intro l l0 l1 p h r f t J hr ht
    show Pc _ (fun uF => Pc (qo_X13_sides nn (qg_X13_expression nn d) l (a + 1) r) _)
    refine pc_se ?_; intro u1 e1
    intro uF eF
    unfold qo_X13_sides
    have U := IU d (a + 1) p h r (by omega) J hr u1 e1
    refine pc_sv U ?_; intro u34 q34
    have Gr := ftg_X13_expression nn d
    rcases q34 with S | ⟨q, i, ⟨J2, pq⟩, L2, lab, N2⟩
    · have FU := fs_qw_X8_readValue_20 Gc _ _ _ _ _ S.1 uF eF
      refine pc_imp (P := fun w : Int × ms_M => FSr u34.2 w.2) ?_ (fun w z => .inl (sf_k S FU z))
      have S1 : ¬ u34.2 160 9 = 0 := sf_r S
      have F : FSr u34.2 u34.2 := ft_r
      refine pc_if (fun _ => ?_) (fun _ => ?_)
      · exact pc_imp (ft_qw_X13_sides_37 Gr _ _ _ _ _ _ _ _ (ft_n S1 F)) (fun _ q => ft_t F q)
      · refine pc_se ?_; intro u38 _
        exact pc_imp (ft_qw_X13_sides_37 Gr _ _ _ _ _ _ _ _ (ft_n S1 F)) (fun _ q => ft_t F q)
    · have J2' := J2
      obtain ⟨b, d2, ⟨g1, g2, g3⟩, g4, g5⟩ := J2'
      have n3 := BK.2.1
      refine pc_if (fun z => absurd g5 z) (fun _ => ?_)
      rw [g2, J.2.2.1.2.1]
      refine pc_sv (r_str BK d2 rfl (by omega)) ?_; intro u38 q38
      have sr := st_r (K q)
      have n2 := N2.1
      refine pc_imp (ps_37 BK ha ⟨l0, l1⟩ Gc Gr (fun s s0 s1 => ih (s + 1) (by omega) (by omega)) hr nn q u1 u34.2 u34.1 u38 9 i 1 f t J2 pq q38 n2 (fun l2 _ => ch_mk (lk_su L2) (by decide) lab) ⟨.inr rfl, fun z => absurd z (by decide), fun _ => by omega, fun z => absurd z (by decide)⟩ (by omega) uF eF) (fun v z => ?_)
      rcases z with z | ⟨q5, i5, any5, f5, t5, h5, y1, y2, y3, y4⟩
      · exact .inl z
      · exact .inr ⟨q5, i5, any5, f5, t5, h5, y1, y2, ⟨by omega, fun c x c1 c2 c3 => by rw [y3.2 c x c1 c2 (by omega)]; exact N2.2 c x c1 c2 c3⟩, y4⟩
end
end

/- PARSE: both sides step by step -/
def KOK (k : Int) : Prop := k = 0 ∨ k = 1 ∨ k = 2 ∨ k = 3 ∨ (10 ≤ k ∧ k ≤ 31) ∨ (40 ≤ k ∧ k ≤ 72)
/-- the tokens: kinds K, places P, c of them -/
def TBn (K : Nat → Int) (c : Nat) : Prop := (∀ i : Nat, c ≤ i → K i = 0) ∧ (1 ≤ c ∧ c ≤ 3001) ∧ K (c - 1) ≤ 1 ∧ ∀ i : Nat, KOK (K i)
def TBc (K P : Nat → Int) (c : Nat) (h : ms_M) : Prop := h 2 3 = (c : Int) ∧ ∀ i : Nat, i < c → h 3 i = K i ∧ h 4 i = P i
def TBq (K P : Nat → Int) (c : Nat) (r : ms_M) : Prop := (∀ i : Nat, i < c + 4 → r 163 i = kd_T (K i)) ∧ (∀ i : Nat, i < c → r 164 i = P i) ∧ (∀ i : Nat, 10 ≤ K i → K i ≤ 31 → r 166 i = K i - 10) ∧ ∀ i : Nat, 40 ≤ K i → r 166 i = sv_T (K i)
/-- both at token p, without a FAULT -/
def JPp (K P : Nat → Int) (c p : Nat) (h r : ms_M) : Prop := TBc K P c h ∧ TBq K P c r ∧ (h 2 10 = (p : Int) ∧ r 160 23 = (p : Int) ∧ p < c) ∧ h 2 11 = 0 ∧ r 160 9 = 0
/-- the same FAULT -/
def SFj (u v : ms_M) : Prop := ¬ u 2 11 = 0 ∧ v 160 9 = u 2 11 ∧ v 160 10 = u 2 12
/-- the nodes that were there stay -/
def NDf (r v : ms_M) : Prop := r 160 22 ≤ v 160 22 ∧ ∀ c x : Nat, 167 ≤ c → c ≤ 177 → (x : Int) < r 160 22 → v c x = r c x
section
variable {α β γ δ : Type}
theorem pc_fl {x : Option α} {y : Option β} {Z : α → β → Prop} (H : Pc y (fun v => Pc x (fun u => Z u v))) : Pc x (fun u => Pc y (fun v => Z u v)) := fun u eu v ev => H v ev u eu
theorem p2_sv {x : Option α} {y : Option β} {F : α → Option γ} {G : β → Option δ} {R : α → β → Prop} {Z : γ → δ → Prop} (hx : Pc x (fun u => Pc y (fun v => R u v))) (H : ∀ a b, R a b → Pc (F a) (fun u => Pc (G b) (fun v => Z u v))) : Pc (mx_sv x F) (fun u => Pc (mx_sv y G) (fun v => Z u v)) := by
  refine pc_se ?_; intro a ea
  refine pc_fl ?_
  refine pc_se ?_; intro b eb
  exact pc_fl (H a b (hx a ea b eb))
end
section
variable {nn : Nat} {K P : Nat → Int} {c p : Nat} {h g r w u v : ms_M}
theorem pj_sf {α β : Type} {x : Option α} {y : Option β} {o : α → ms_M} {q : β → ms_M} {Z : α → β → Prop} (S : SFj h r) (A : Pc x (fun a => FSc h (o a))) (B : Pc y (fun b => FSr r (q b))) (H : ∀ a b, SFj (o a) (q b) → Z a b) : Pc x (fun a => Pc y (fun b => Z a b)) := fun a ea b eb => by
  have fa := A a ea
  have fb := B b eb
  exact H a b ⟨by rw [fa.1]; exact S.1, by rw [fb.1, fa.1]; exact S.2.1, by rw [fb.2, fa.2]; exact S.2.2⟩
theorem sv_inj : (List.range 33).all (fun i => (List.range 33).all (fun j => !(decide (sv_L.getD i 0 = sv_L.getD j 0)) || Nat.beq i j)) = true := by decide
theorem svt_i {a b : Int} (ha : 40 ≤ a ∧ a ≤ 72) (hb : 40 ≤ b ∧ b ≤ 72) (e : sv_T a = sv_T b) : a = b := by
  have q := List.all_eq_true.1 (List.all_eq_true.1 sv_inj (a - 40).toNat (List.mem_range.2 (by omega))) (b - 40).toNat (List.mem_range.2 (by omega))
  unfold sv_T at e
  rw [decide_eq_true e] at q
  have : (a - 40).toNat = (b - 40).toNat := Nat.eq_of_beq_eq_true q
  omega
theorem kd_c {k : Int} (q : KOK k) : (kd_T k = 5 ∧ k = 0) ∨ (kd_T k = 6 ∧ k = 1) ∨ (kd_T k = 1 ∧ k = 2) ∨ (kd_T k = 2 ∧ k = 3) ∨ (kd_T k = 3 ∧ 10 ≤ k ∧ k ≤ 31) ∨ (kd_T k = 4 ∧ 40 ≤ k ∧ k ≤ 72) := by
  unfold KOK at q
  unfold kd_T
  by_cases a : k = 0
  · rw [if_pos a]; omega
  · rw [if_neg a]
    by_cases b : k = 1
    · rw [if_pos b]; omega
    · rw [if_neg b]
      by_cases d : k = 2
      · rw [if_pos d]; omega
      · rw [if_neg d]
        by_cases e : k = 3
        · rw [if_pos e]; omega
        · rw [if_neg e]
          by_cases f : k < 40
          · rw [if_pos f]; omega
          · rw [if_neg f]; omega
/- the reference's tests -/
theorem r_kd (BK : TBn K c) (B : TBq K P c r) {t : Nat} (ht : t < c + 4) : (r 163 t = 5 ∧ K t = 0) ∨ (r 163 t = 6 ∧ K t = 1) ∨ (r 163 t = 1 ∧ K t = 2) ∨ (r 163 t = 2 ∧ K t = 3) ∨ (r 163 t = 3 ∧ 10 ≤ K t ∧ K t ≤ 31) ∨ (r 163 t = 4 ∧ 40 ≤ K t ∧ K t ≤ 72) := by
  have := kd_c (BK.2.2.2 t)
  rw [B.1 t ht]; exact this
theorem r_sgn (BK : TBn K c) (B : TBq K P c r) {t : Nat} {x y k : Int} (hx : x = (t : Int)) (ht : t < c + 4) (hk : 40 ≤ k ∧ k ≤ 72) (hv : sv_T k = y) : Pc (qf_X13_isSign nn x y r) (fun u => (u = 1 ∧ K t = k) ∨ (u = 0 ∧ ¬ K t = k)) := by
  subst hx
  have kd := r_kd BK B ht
  unfold qf_X13_isSign
  refine pc_rA ?_; intro i1 i2 v2 e2
  rw [Int.toNat_natCast] at e2
  refine pc_if (fun z => pc_ret (.inr ⟨rfl, by omega⟩)) (fun z => ?_)
  refine pc_rA ?_; intro j1 j2 v4 e4
  rw [Int.toNat_natCast, B.2.2.2 t (by omega)] at e4
  refine pc_if (fun z2 => pc_ret (.inr ⟨rfl, fun q => z2 (by rw [e4, q]; exact hv)⟩)) (fun z2 => pc_ret (.inl ⟨rfl, ?_⟩))
  refine svt_i (by omega) hk ?_
  rw [← e4, hv]; exact Decidable.not_not.1 z2
theorem r_wrd (BK : TBn K c) (B : TBq K P c r) {t : Nat} {x y : Int} (hx : x = (t : Int)) (ht : t < c + 4) (hk : 0 ≤ y ∧ y ≤ 21) : Pc (qf_X13_isWord nn x y r) (fun u => (u = 1 ∧ K t = y + 10) ∨ (u = 0 ∧ ¬ K t = y + 10)) := by
  subst hx
  have kd := r_kd BK B ht
  unfold qf_X13_isWord
  refine pc_rA ?_; intro i1 i2 v2 e2
  rw [Int.toNat_natCast] at e2
  refine pc_if (fun z => pc_ret (.inr ⟨rfl, by omega⟩)) (fun z => ?_)
  refine pc_rA ?_; intro j1 j2 v4 e4
  rw [Int.toNat_natCast, B.2.2.1 t (by omega) (by omega)] at e4
  exact pc_if (fun z2 => pc_ret (.inr ⟨rfl, by omega⟩)) (fun z2 => pc_ret (.inl ⟨rfl, by omega⟩))
/-- what a reader tells at token p: k, or 1 where no token begins -/
def TLd (K : Nat → Int) (p : Nat) (k : Int) : Int := if K p = 1 then 1 else k
theorem tl_0 {k : Int} (hk : ¬ k = 0) : ¬ TLd K p k = 0 := by
  unfold TLd
  by_cases a : K p = 1
  · rw [if_pos a]; decide
  · rw [if_neg a]; exact hk
theorem r_wrong (B : TBq K P c r) (hp : p < c) (hf : r 160 9 = 0) {k x : Int} (hx : x = (p : Int)) : Pc (qf_X13_wrong nn k x r) (fun v => v 160 9 = k ∧ v 160 10 = P p) := by
  subst hx
  unfold qf_X13_wrong
  refine pc_if (fun _ => ?_) (fun z => absurd hf z)
  refine pc_xl ?_; intro h2 e2
  refine pc_rA ?_; intro i1 i2 v4 e4
  rw [Int.toNat_natCast, e2, up_n (by omega), B.2.1 p hp] at e4
  refine pc_xl ?_; intro h5 e5
  exact pc_ret ⟨by rw [e5, up_n (by omega), e2, up_s], by rw [e5, up_s]; exact e4⟩
theorem r_mis (BK : TBn K c) (B : TBq K P c r) (hp : p < c) (hc : r 160 23 = (p : Int)) (hf : r 160 9 = 0) : Pc (qf_X13_misplaced nn r) (fun v => v 160 9 = TLd K p 2 ∧ v 160 10 = P p) := by
  have kd := r_kd BK B (t := p) (by omega)
  unfold qf_X13_misplaced qj_X13_misplaced_20
  rw [hc]
  refine pc_rA ?_; intro i1 i2 v6 e6
  rw [Int.toNat_natCast] at e6
  refine pc_if (fun z => ?_) (fun z => ?_)
  · refine pc_sv (r_wrong B hp hf rfl) ?_; intro u3 q3
    refine pc_ret ?_
    unfold TLd; rw [if_neg (by omega)]; exact q3
  · refine pc_sv (r_wrong B hp hf rfl) ?_; intro u3 q3
    refine pc_ret ?_
    unfold TLd; rw [if_pos (by omega)]; exact q3
theorem r_deep (BK : TBn K c) (B : TBq K P c r) (hp : p < c) (hc : r 160 23 = (p : Int)) (hf : r 160 9 = 0) {a : Int} : Pc (qf_X13_isDeep nn a r) (fun v => (a < 40 ∧ v = (0, r)) ∨ (40 ≤ a ∧ v.1 = 1 ∧ v.2 160 9 = TLd K p 3 ∧ v.2 160 10 = P p)) := by
  have kd := r_kd BK B (t := p) (by omega)
  unfold qf_X13_isDeep qj_X13_isDeep_37
  refine pc_if (fun _ => ?_) (fun z => absurd hf z)
  refine pc_if (fun y => ?_) (fun y => pc_ret (.inl ⟨by omega, rfl⟩))
  rw [hc]
  refine pc_rA ?_; intro i1 i2 v6 e6
  rw [Int.toNat_natCast] at e6
  refine pc_if (fun z => ?_) (fun z => ?_)
  · refine pc_sv (r_wrong B hp hf rfl) ?_; intro u3 q3
    refine pc_ret (.inr ⟨y, rfl, ?_⟩)
    unfold TLd; rw [if_neg (by omega)]; exact q3
  · refine pc_sv (r_wrong B hp hf rfl) ?_; intro u3 q3
    refine pc_ret (.inr ⟨y, rfl, ?_⟩)
    unfold TLd; rw [if_pos (by omega)]; exact q3
theorem r_sign_ (BK : TBn K c) (B : TBq K P c r) (hp : p < c) (hc : r 160 23 = (p : Int)) (hf : r 160 9 = 0) {k y : Int} (hk : 40 ≤ k ∧ k ≤ 72) (hv : sv_T k = y) : Pc (qf_X13_sign_ nn y r) (fun v => (K p = k ∧ v = up_M r 160 23 ((p + 1 : Nat) : Int)) ∨ (¬ K p = k ∧ v 160 9 = TLd K p 2 ∧ v 160 10 = P p)) := by
  have n3 := BK.2.1
  unfold qf_X13_sign_
  refine pc_if (fun _ => ?_) (fun z => absurd hf z)
  rw [hc]
  refine pc_sv (r_sgn BK B rfl (by omega) hk hv) ?_; intro u4 q4
  refine pc_if (fun z => ?_) (fun z => ?_)
  · refine pc_sv (r_mis BK B hp hc hf) ?_; intro u6 q6
    exact pc_ret (.inr ⟨by omega, q6⟩)
  · refine pc_add (by omega) ?_; intro v8 e8
    refine pc_xl ?_; intro h9 e9
    exact pc_ret (.inl ⟨by omega, by rw [e9, e8]; rfl⟩)
theorem r_word (BK : TBn K c) (B : TBq K P c r) (hp : p < c) (hc : r 160 23 = (p : Int)) (hf : r 160 9 = 0) {y : Int} (hk : 0 ≤ y ∧ y ≤ 21) : Pc (qf_X13_word nn y r) (fun v => (K p = y + 10 ∧ v = up_M r 160 23 ((p + 1 : Nat) : Int)) ∨ (¬ K p = y + 10 ∧ v 160 9 = TLd K p 2 ∧ v 160 10 = P p)) := by
  have n3 := BK.2.1
  unfold qf_X13_word
  refine pc_if (fun _ => ?_) (fun z => absurd hf z)
  rw [hc]
  refine pc_sv (r_wrd BK B rfl (by omega) hk) ?_; intro u4 q4
  refine pc_if (fun z => ?_) (fun z => ?_)
  · refine pc_sv (r_mis BK B hp hc hf) ?_; intro u6 q6
    exact pc_ret (.inr ⟨by omega, q6⟩)
  · refine pc_add (by omega) ?_; intro v8 e8
    refine pc_xl ?_; intro h9 e9
    exact pc_ret (.inl ⟨by omega, by rw [e9, e8]; rfl⟩)
theorem r_nam (BK : TBn K c) (B : TBq K P c r) (hp : p < c) (hc : r 160 23 = (p : Int)) (hf : r 160 9 = 0) : Pc (qf_X13_name nn r) (fun v => (K p = 2 ∧ v = ((p : Int), up_M r 160 23 ((p + 1 : Nat) : Int))) ∨ (¬ K p = 2 ∧ v.1 = 0 ∧ v.2 160 9 = TLd K p 2 ∧ v.2 160 10 = P p)) := by
  have n3 := BK.2.1
  have kd := r_kd BK B (t := p) (by omega)
  unfold qf_X13_name
  refine pc_if (fun _ => ?_) (fun z => absurd hf z)
  rw [hc]
  refine pc_rA ?_; intro i1 i2 v4 e4
  rw [Int.toNat_natCast] at e4
  refine pc_if (fun z => ?_) (fun z => ?_)
  · refine pc_add (by omega) ?_; intro v6 e6
    refine pc_xl ?_; intro h7 e7
    have e7 : h7 = up_M r 160 23 ((p + 1 : Nat) : Int) := by rw [e7, e6]; rfl
    have q7 : h7 160 23 = ((p + 1 : Nat) : Int) := by rw [e7]; exact up_s
    rw [q7]
    refine pc_sub (by omega) ?_; intro v9 e9
    refine pc_ret (.inl ⟨by omega, ?_⟩)
    rw [e7, show v9 = (p : Int) by omega]
  · refine pc_sv (r_mis BK B hp hc hf) ?_; intro u6 q6
    exact pc_ret (.inr ⟨by omega, rfl, q6⟩)
/- the class's -/
theorem c_kind (BK : TBn K c) (B : TBc K P c h) (hp : p < c) (hc : h 2 10 = (p : Int)) (hf : h 2 11 = 0) : Pc (qf_X9_kind nn h) (fun u => u = K p) := by
  have b1 := B.1
  unfold qf_X9_kind
  refine pc_if (fun z => absurd hf z) (fun _ => ?_)
  refine pc_if (fun z => absurd z (by omega)) (fun _ => ?_)
  refine pc_if (fun z => absurd z (by omega)) (fun _ => ?_)
  rw [hc]
  refine pc_rA ?_; intro i1 i2 v7 e7
  rw [Int.toNat_natCast] at e7
  exact pc_ret (by rw [e7]; exact (B.2 p hp).1)
theorem c_kindAt (BK : TBn K c) (B : TBc K P c h) {t : Nat} {x : Int} (hx : x = (t : Int)) : Pc (qf_X9_kindAt nn x h) (fun u => u = K t) := by
  subst hx
  have b1 := B.1
  unfold qf_X9_kindAt
  refine pc_if (fun z => absurd z (by omega)) (fun _ => ?_)
  refine pc_if (fun z => pc_ret (BK.1 t (by omega)).symm) (fun z => ?_)
  refine pc_rA ?_; intro i1 i2 v7 e7
  rw [Int.toNat_natCast] at e7
  exact pc_ret (by rw [e7]; exact (B.2 t (by omega)).1)
theorem c_here (BK : TBn K c) (B : TBc K P c h) (hp : p < c) (hc : h 2 10 = (p : Int)) (hf : h 2 11 = 0) {k : Int} : Pc (qf_X9_tellHere nn k h) (fun u => u 2 11 = TLd K p k ∧ u 2 12 = P p) := by
  have b1 := B.1
  have b2 := B.2 p hp
  unfold qf_X9_tellHere qj_X9_tellHere_44
  refine pc_if (fun z => absurd hf z) (fun _ => ?_)
  refine pc_if (fun z => absurd z (by omega)) (fun _ => ?_)
  refine pc_if (fun z => absurd z (by omega)) (fun _ => ?_)
  refine pc_rA ?_; intro i1 i2 v12 e12
  rw [hc, Int.toNat_natCast, b2.1] at e12
  have Z : ∀ s : Int, s = TLd K p k → Pc (xl (up_M h 2 11 s) fun h1 => rd_A 3001 4 (h1 2 10) h1 fun v4 => xl (up_M h1 2 12 v4) fun h5 => some h5) (fun u => u 2 11 = TLd K p k ∧ u 2 12 = P p) := fun s es => by
    refine pc_xl ?_; intro h1 e1
    have q1 : h1 2 10 = (p : Int) := by rw [e1, up_n (by omega)]; exact hc
    rw [q1]
    refine pc_rA ?_; intro j1 j2 v4 e4
    rw [Int.toNat_natCast, e1, up_n (by omega), b2.2] at e4
    refine pc_xl ?_; intro h5 e5
    exact pc_ret ⟨by rw [e5, up_n (by omega), e1, up_s]; exact es, by rw [e5, up_s]; exact e4⟩
  refine pc_if (fun z => Z k ?_) (fun z => Z 1 ?_)
  · unfold TLd; rw [if_neg (by omega)]
  · unfold TLd; rw [if_pos (by omega)]
theorem c_need (BK : TBn K c) (B : TBc K P c h) (hp : p < c) (hc : h 2 10 = (p : Int)) (hf : h 2 11 = 0) {k : Int} : Pc (qf_X8_need nn k h) (fun u => (K p = k ∧ u = up_M h 2 10 ((p + 1 : Nat) : Int)) ∨ (¬ K p = k ∧ u 2 11 = TLd K p 2 ∧ u 2 12 = P p)) := by
  have n3 := BK.2.1
  unfold qf_X8_need
  refine pc_sv (c_kind BK B hp hc hf) ?_; intro u3 q3
  refine pc_if (fun z => ?_) (fun z => ?_)
  · refine pc_sv (c_here BK B hp hc hf) ?_; intro u6 q6
    exact pc_ret (.inr ⟨by omega, q6⟩)
  · rw [hc]
    refine pc_add (by omega) ?_; intro v9 e9
    refine pc_xl ?_; intro h10 e10
    exact pc_ret (.inl ⟨by omega, by rw [e10, e9]; rfl⟩)
theorem c_acc (BK : TBn K c) (B : TBc K P c h) (hp : p < c) (hc : h 2 10 = (p : Int)) (hf : h 2 11 = 0) {k : Int} : Pc (qf_X8_accept nn k h) (fun u => (K p = k ∧ u = (1, up_M h 2 10 ((p + 1 : Nat) : Int))) ∨ (¬ K p = k ∧ u = (0, h))) := by
  have n3 := BK.2.1
  unfold qf_X8_accept
  refine pc_sv (c_kind BK B hp hc hf) ?_; intro u3 q3
  refine pc_if (fun z => ?_) (fun z => pc_ret (.inr ⟨by omega, rfl⟩))
  rw [hc]
  refine pc_add (by omega) ?_; intro v9 e9
  refine pc_xl ?_; intro h10 e10
  exact pc_ret (.inl ⟨by omega, by rw [e10, e9]; rfl⟩)
theorem c_deep (BK : TBn K c) (B : TBc K P c h) (hp : p < c) (hc : h 2 10 = (p : Int)) (hf : h 2 11 = 0) {a : Int} : Pc (qf_X8_tooDeep nn a h) (fun u => (a < 40 ∧ u = (0, h)) ∨ (40 ≤ a ∧ u.1 = 1 ∧ u.2 2 11 = TLd K p 3 ∧ u.2 2 12 = P p)) := by
  unfold qf_X8_tooDeep qj_X8_tooDeep_14
  refine pc_if (fun z => pc_if (fun _ => pc_ret (.inl ⟨z, rfl⟩)) (fun y => absurd hf y)) (fun z => ?_)
  refine pc_sv (c_here BK B hp hc hf) ?_; intro u6 q6
  have n := tl_0 (K := K) (p := p) (k := 3) (by decide)
  exact pc_if (fun y => absurd y (by rw [q6.1]; exact n)) (fun y => pc_ret (.inr ⟨by omega, rfl, q6⟩))
theorem c_cast (BK : TBn K c) (B : TBc K P c h) (hp : p < c) (hc : h 2 10 = (p : Int)) (hf : h 2 11 = 0) : Pc (qf_X9_beginsCast nn h) (fun u => (u = 1 ∧ CST K (p : Int)) ∨ (u = 0 ∧ ¬ CST K (p : Int))) := by
  have n3 := BK.2.1
  have E1 : ((p : Int) + 1).toNat = p + 1 := by omega
  have E2 : ((p : Int) + 2).toNat = p + 2 := by omega
  have E3 : ((p : Int) + 3).toNat = p + 3 := by omega
  unfold CST CSb
  rw [Int.toNat_natCast, E1, E2, E3]
  unfold qf_X9_beginsCast qj_X9_beginsCast_140
  refine pc_sv (c_kind BK B hp hc hf) ?_; intro u2 q2
  refine pc_if (fun z => pc_ret (.inr ⟨rfl, by omega⟩)) (fun z => ?_)
  rw [hc]
  refine pc_add (by omega) ?_; intro v4 e4
  refine pc_sv (c_kindAt BK B (t := p + 1) (by omega)) ?_; intro u6 q6
  refine pc_if (fun z => pc_ret (.inr ⟨rfl, by omega⟩)) (fun z1 => ?_)
  refine pc_add (by omega) ?_; intro v8 e8
  refine pc_sv (c_kindAt BK B (t := p + 2) (by omega)) ?_; intro u10 q10
  refine pc_if (fun z2 => ?_) (fun z => pc_ret (.inr ⟨rfl, by omega⟩))
  refine pc_add (by omega) ?_; intro v12 e12
  refine pc_sv (c_kindAt BK B (t := p + 3) (by omega)) ?_; intro u14 q14
  refine pc_if (fun y => pc_ret (.inl ⟨rfl, by omega⟩)) (fun y1 => pc_if (fun y => pc_ret (.inl ⟨rfl, by omega⟩)) (fun y2 => pc_if (fun y => pc_ret (.inl ⟨rfl, by omega⟩)) (fun y3 => pc_if (fun y => pc_ret (.inl ⟨rfl, by omega⟩)) (fun y4 => pc_if (fun y => pc_ret (.inl ⟨rfl, by omega⟩)) (fun y5 => pc_if (fun y => pc_ret (.inl ⟨rfl, by omega⟩)) (fun y6 => pc_if (fun y => pc_ret (.inl ⟨rfl, by omega⟩)) (fun y7 => pc_if (fun y => pc_ret (.inl ⟨rfl, by omega⟩)) (fun y8 => pc_if (fun y => pc_ret (.inl ⟨rfl, by omega⟩)) (fun y9 => pc_if (fun y => pc_ret (.inl ⟨rfl, by omega⟩)) (fun y10 => pc_ret (.inr ⟨rfl, by omega⟩)))))))))))
theorem r_cast (BK : TBn K c) (B : TBq K P c r) (hp : p < c) (hc : r 160 23 = (p : Int)) : Pc (qf_X13_isCast nn r) (fun u => (u = 1 ∧ CST K (p : Int)) ∨ (u = 0 ∧ ¬ CST K (p : Int))) := by
  have n3 := BK.2.1
  have E1 : ((p : Int) + 1).toNat = p + 1 := by omega
  have E2 : ((p : Int) + 2).toNat = p + 2 := by omega
  have E3 : ((p : Int) + 3).toNat = p + 3 := by omega
  have k1 := r_kd BK B (t := p + 1) (by omega)
  have k3 := r_kd BK B (t := p + 3) (by omega)
  unfold CST CSb
  rw [Int.toNat_natCast, E1, E2, E3]
  unfold qf_X13_isCast qj_X13_isCast_154
  rw [hc]
  refine pc_sv (r_sgn BK B rfl (by omega) (k := 40) (by decide) (by decide)) ?_; intro u3 q3
  refine pc_if (fun z => pc_ret (.inr ⟨rfl, by omega⟩)) (fun z => ?_)
  refine pc_add (by omega) ?_; intro v6 e6
  refine pc_rA ?_; intro i1 i2 v7 e7
  rw [show v6.toNat = p + 1 by omega] at e7
  refine pc_if (fun z => pc_ret (.inr ⟨rfl, by omega⟩)) (fun z1 => ?_)
  refine pc_add (by omega) ?_; intro v9 e9
  refine pc_sv (r_sgn BK B (t := p + 2) (by omega) (by omega) (k := 41) (by decide) (by decide)) ?_; intro u11 q11
  refine pc_if (fun z2 => ?_) (fun z => pc_ret (.inr ⟨rfl, by omega⟩))
  refine pc_add (by omega) ?_; intro v13 e13
  refine pc_rA ?_; intro j1 j2 v15 e15
  rw [show v13.toNat = p + 3 by omega] at e15
  refine pc_if (fun y => pc_ret (.inl ⟨rfl, by omega⟩)) (fun y1 => ?_)
  refine pc_rA ?_; intro l1 l2 v17 e17
  rw [show v13.toNat = p + 3 by omega] at e17
  refine pc_if (fun y2 => ?_) (fun y => pc_ret (.inl ⟨rfl, by omega⟩))
  refine pc_sv (r_sgn BK B (t := p + 3) (by omega) (by omega) (k := 40) (by decide) (by decide)) ?_; intro a1 b1
  refine pc_if (fun y => pc_ret (.inl ⟨rfl, by omega⟩)) (fun y3 => ?_)
  refine pc_sv (r_sgn BK B (t := p + 3) (by omega) (by omega) (k := 71) (by decide) (by decide)) ?_; intro a2 b2
  refine pc_if (fun y => pc_ret (.inl ⟨rfl, by omega⟩)) (fun y4 => ?_)
  refine pc_sv (r_sgn BK B (t := p + 3) (by omega) (by omega) (k := 72) (by decide) (by decide)) ?_; intro a3 b3
  refine pc_if (fun y => pc_ret (.inl ⟨rfl, by omega⟩)) (fun y5 => ?_)
  refine pc_sv (r_wrd BK B (t := p + 3) (by omega) (by omega) (by decide)) ?_; intro a4 b4
  refine pc_if (fun y => pc_ret (.inl ⟨rfl, by omega⟩)) (fun y6 => ?_)
  refine pc_sv (r_wrd BK B (t := p + 3) (by omega) (by omega) (by decide)) ?_; intro a5 b5
  refine pc_if (fun y => pc_ret (.inl ⟨rfl, by omega⟩)) (fun y7 => ?_)
  refine pc_sv (r_wrd BK B (t := p + 3) (by omega) (by omega) (by decide)) ?_; intro a6 b6
  refine pc_if (fun y => pc_ret (.inl ⟨rfl, by omega⟩)) (fun y8 => ?_)
  refine pc_sv (r_wrd BK B (t := p + 3) (by omega) (by omega) (by decide)) ?_; intro a7 b7
  refine pc_if (fun y => pc_ret (.inl ⟨rfl, by omega⟩)) (fun y9 => ?_)
  refine pc_sv (r_wrd BK B (t := p + 3) (by omega) (by omega) (by decide)) ?_; intro a8 b8
  exact pc_if (fun y => pc_ret (.inr ⟨rfl, by omega⟩)) (fun y => pc_ret (.inl ⟨rfl, by omega⟩))
/- both -/
theorem jp_up (BK : TBn K c) (J : JPp K P c p h r) {q : Nat} (hk : q < c) : JPp K P c q (up_M h 2 10 (q : Int)) (up_M r 160 23 (q : Int)) := by
  obtain ⟨⟨b1, b2⟩, ⟨d1, d2, d3, d4⟩, ⟨e1, e2, e3⟩, f1, f2⟩ := J
  refine ⟨⟨by rw [up_n (by omega)]; exact b1, fun i hi => by rw [up_n (by omega), up_n (by omega)]; exact b2 i hi⟩, ⟨fun i hi => by rw [up_n (by omega)]; exact d1 i hi, fun i hi => by rw [up_n (by omega)]; exact d2 i hi, fun i a b => by rw [up_n (by omega)]; exact d3 i a b, fun i a => by rw [up_n (by omega)]; exact d4 i a⟩, ⟨up_s, up_s, hk⟩, by rw [up_n (by omega)]; exact f1, by rw [up_n (by omega)]; exact f2⟩
theorem jp_lt (BK : TBn K c) (hp : p < c) (hk : 2 ≤ K p) : p + 1 < c := by
  have := BK.2.2.1
  by_cases z : p = c - 1
  · rw [← z] at this; omega
  · omega
/-- the reference's memory may change where the parse does not look -/
theorem jp_r (J : JPp K P c p h r) (e : ∀ c k : Nat, (c = 160 ∧ (k = 9 ∨ k = 23)) ∨ c = 163 ∨ c = 164 ∨ c = 166 → v c k = r c k) : JPp K P c p h v := by
  obtain ⟨b, ⟨d1, d2, d3, d4⟩, ⟨e1, e2, e3⟩, f1, f2⟩ := J
  exact ⟨b, ⟨fun i hi => by rw [e _ _ (by omega)]; exact d1 i hi, fun i hi => by rw [e _ _ (by omega)]; exact d2 i hi, fun i a b => by rw [e _ _ (by omega)]; exact d3 i a b, fun i a => by rw [e _ _ (by omega)]; exact d4 i a⟩, ⟨e1, by rw [e _ _ (by omega)]; exact e2, e3⟩, f1, by rw [e _ _ (by omega)]; exact f2⟩
theorem j_need (BK : TBn K c) (J : JPp K P c p h r) {k y : Int} (hk : 40 ≤ k ∧ k ≤ 72) (hv : sv_T k = y) : Pc (qf_X8_need nn k h) (fun u => Pc (qf_X13_sign_ nn y r) (fun v => (K p = k ∧ v = up_M r 160 23 ((p + 1 : Nat) : Int) ∧ JPp K P c (p + 1) u v) ∨ SFj u v)) := fun u eu v ev => by
  obtain ⟨b, d, ⟨e1, e2, e3⟩, f1, f2⟩ := J
  have A := c_need BK b e3 e1 f1 u eu
  have B := r_sign_ BK d e3 e2 f2 hk hv v ev
  rcases A with ⟨A1, A2⟩ | ⟨A1, A2, A3⟩
  · rcases B with ⟨B1, B2⟩ | ⟨B1, -⟩
    · refine .inl ⟨A1, B2, ?_⟩
      rw [A2, B2]; exact jp_up BK ⟨b, d, ⟨e1, e2, e3⟩, f1, f2⟩ (jp_lt BK e3 (by omega))
    · exact absurd A1 B1
  · rcases B with ⟨B1, B2⟩ | ⟨B1, B2, B3⟩
    · exact absurd B1 A1
    · exact .inr ⟨by rw [A2]; exact tl_0 (by decide), by rw [A2]; exact B2, by rw [A3]; exact B3⟩
theorem j_name (BK : TBn K c) (J : JPp K P c p h r) : Pc (qf_X8_need nn 2 h) (fun u => Pc (qf_X13_name nn r) (fun v => (K p = 2 ∧ v = ((p : Int), up_M r 160 23 ((p + 1 : Nat) : Int)) ∧ JPp K P c (p + 1) u v.2) ∨ SFj u v.2)) := fun u eu v ev => by
  obtain ⟨b, d, ⟨e1, e2, e3⟩, f1, f2⟩ := J
  have A := c_need BK b e3 e1 f1 u eu
  have B := r_nam BK d e3 e2 f2 v ev
  rcases A with ⟨A1, A2⟩ | ⟨A1, A2, A3⟩
  · rcases B with ⟨B1, B2⟩ | ⟨B1, -⟩
    · refine .inl ⟨A1, B2, ?_⟩
      rw [A2, B2]; exact jp_up BK ⟨b, d, ⟨e1, e2, e3⟩, f1, f2⟩ (jp_lt BK e3 (by omega))
    · exact absurd A1 B1
  · rcases B with ⟨B1, B2⟩ | ⟨B1, -, B2, B3⟩
    · exact absurd B1 A1
    · exact .inr ⟨by rw [A2]; exact tl_0 (by decide), by rw [A2]; exact B2, by rw [A3]; exact B3⟩
theorem j_word (BK : TBn K c) (J : JPp K P c p h r) {k y : Int} (hk : 0 ≤ y ∧ y ≤ 21) (hv : k = y + 10) : Pc (qf_X8_need nn k h) (fun u => Pc (qf_X13_word nn y r) (fun v => (K p = k ∧ v = up_M r 160 23 ((p + 1 : Nat) : Int) ∧ JPp K P c (p + 1) u v) ∨ SFj u v)) := fun u eu v ev => by
  obtain ⟨b, d, ⟨e1, e2, e3⟩, f1, f2⟩ := J
  have A := c_need BK b e3 e1 f1 u eu
  have B := r_word BK d e3 e2 f2 hk v ev
  rw [← hv] at B
  rcases A with ⟨A1, A2⟩ | ⟨A1, A2, A3⟩
  · rcases B with ⟨B1, B2⟩ | ⟨B1, -⟩
    · refine .inl ⟨A1, B2, ?_⟩
      rw [A2, B2]; exact jp_up BK ⟨b, d, ⟨e1, e2, e3⟩, f1, f2⟩ (jp_lt BK e3 (by omega))
    · exact absurd A1 B1
  · rcases B with ⟨B1, B2⟩ | ⟨B1, B2, B3⟩
    · exact absurd B1 A1
    · exact .inr ⟨by rw [A2]; exact tl_0 (by decide), by rw [A2]; exact B2, by rw [A3]; exact B3⟩
theorem j_deep (BK : TBn K c) (J : JPp K P c p h r) {a : Int} : Pc (qf_X8_tooDeep nn a h) (fun u => Pc (qf_X13_isDeep nn a r) (fun v => (a < 40 ∧ u = (0, h) ∧ v = (0, r)) ∨ (¬ u.1 = 0 ∧ ¬ v.1 = 0 ∧ SFj u.2 v.2))) := fun u eu v ev => by
  obtain ⟨b, d, ⟨e1, e2, e3⟩, f1, f2⟩ := J
  have A := c_deep BK b e3 e1 f1 u eu
  have B := r_deep BK d e3 e2 f2 v ev
  rcases A with ⟨A1, A2⟩ | ⟨A1, A2, A3, A4⟩
  · rcases B with ⟨B1, B2⟩ | ⟨B1, -⟩
    · exact .inl ⟨A1, A2, B2⟩
    · omega
  · rcases B with ⟨B1, B2⟩ | ⟨B1, B2, B3, B4⟩
    · omega
    · exact .inr ⟨by omega, by omega, by rw [A3]; exact tl_0 (by decide), by rw [A3]; exact B3, by rw [A4]; exact B4⟩
/-- a new node -/
def NDn (v : ms_M) (n k t f o w x y me sl ib : Int) : Prop := (v 167 n.toNat = k ∧ v 168 n.toNat = t ∧ v 169 n.toNat = f) ∧ (v 170 n.toNat = o ∧ v 171 n.toNat = w ∧ v 172 n.toNat = x ∧ v 173 n.toNat = y) ∧ v 175 n.toNat = me ∧ v 176 n.toNat = sl ∧ v 177 n.toNat = ib
theorem r_add {k t f : Int} : Pc (qf_X13_add nn k t f r) (fun u => (0 ≤ r 160 22 ∧ u.1 = r 160 22 ∧ u.2 160 22 = r 160 22 + 1) ∧ NDn u.2 (r 160 22) k t f (-1) (-1) (-1) (-1) 0 0 0 ∧ ∀ c x : Nat, ¬ (167 ≤ c ∧ c ≤ 177 ∧ x = (r 160 22).toNat) → ¬ (c = 160 ∧ x = 22) → u.2 c x = r c x) := by
  unfold qf_X13_add
  refine pc_wA ?_; intro i1 i2 h3 e3
  have c3 : h3 160 22 = r 160 22 := by rw [e3]; exact up_n (by omega)
  rw [c3]
  refine pc_wA ?_; intro _ _ h6 e6
  have c6 : h6 160 22 = r 160 22 := by rw [e6, up_n (by omega)]; exact c3
  rw [c6]
  refine pc_wA ?_; intro _ _ h9 e9
  have c9 : h9 160 22 = r 160 22 := by rw [e9, up_n (by omega)]; exact c6
  rw [c9]
  refine pc_wA ?_; intro _ _ h12 e12
  have c12 : h12 160 22 = r 160 22 := by rw [e12, up_n (by omega)]; exact c9
  rw [c12]
  refine pc_wA ?_; intro _ _ h15 e15
  have c15 : h15 160 22 = r 160 22 := by rw [e15, up_n (by omega)]; exact c12
  rw [c15]
  refine pc_wA ?_; intro _ _ h18 e18
  have c18 : h18 160 22 = r 160 22 := by rw [e18, up_n (by omega)]; exact c15
  rw [c18]
  refine pc_wA ?_; intro _ _ h21 e21
  have c21 : h21 160 22 = r 160 22 := by rw [e21, up_n (by omega)]; exact c18
  rw [c21]
  refine pc_wA ?_; intro _ _ h24 e24
  have c24 : h24 160 22 = r 160 22 := by rw [e24, up_n (by omega)]; exact c21
  rw [c24]
  refine pc_wA ?_; intro _ _ h27 e27
  have c27 : h27 160 22 = r 160 22 := by rw [e27, up_n (by omega)]; exact c24
  rw [c27]
  refine pc_wA ?_; intro _ _ h30 e30
  have c30 : h30 160 22 = r 160 22 := by rw [e30, up_n (by omega)]; exact c27
  rw [c30]
  refine pc_wZ ?_; intro _ _ h33 e33
  have c33 : h33 160 22 = r 160 22 := by rw [e33, up_n (by omega)]; exact c30
  rw [c33]
  refine pc_add (by omega) ?_; intro v35 e35
  refine pc_xl ?_; intro h36 e36
  have c36 : h36 160 22 = r 160 22 + 1 := by rw [e36, up_s]; exact e35
  rw [c36]
  refine pc_sub (by omega) ?_; intro v38 e38
  refine pc_ret ⟨⟨i1, by show v38 = _; omega, c36⟩, ⟨⟨?_, ?_, ?_⟩, ⟨?_, ?_, ?_, ?_⟩, ?_, ?_, ?_⟩, fun c x a b => ?_⟩
  · dsimp only; rw [e36, up_n (by omega), e33, up_n (by omega), e30, up_n (by omega), e27, up_n (by omega), e24, up_n (by omega), e21, up_n (by omega), e18, up_n (by omega), e15, up_n (by omega), e12, up_n (by omega), e9, up_n (by omega), e6, up_n (by omega), e3, up_s]
  · dsimp only; rw [e36, up_n (by omega), e33, up_n (by omega), e30, up_n (by omega), e27, up_n (by omega), e24, up_n (by omega), e21, up_n (by omega), e18, up_n (by omega), e15, up_n (by omega), e12, up_n (by omega), e9, up_n (by omega), e6, up_s]
  · dsimp only; rw [e36, up_n (by omega), e33, up_n (by omega), e30, up_n (by omega), e27, up_n (by omega), e24, up_n (by omega), e21, up_n (by omega), e18, up_n (by omega), e15, up_n (by omega), e12, up_n (by omega), e9, up_s]
  · dsimp only; rw [e36, up_n (by omega), e33, up_n (by omega), e30, up_n (by omega), e27, up_n (by omega), e24, up_n (by omega), e21, up_n (by omega), e18, up_n (by omega), e15, up_n (by omega), e12, up_s]
  · dsimp only; rw [e36, up_n (by omega), e33, up_n (by omega), e30, up_n (by omega), e27, up_n (by omega), e24, up_n (by omega), e21, up_n (by omega), e18, up_n (by omega), e15, up_s]
  · dsimp only; rw [e36, up_n (by omega), e33, up_n (by omega), e30, up_n (by omega), e27, up_n (by omega), e24, up_n (by omega), e21, up_n (by omega), e18, up_s]
  · dsimp only; rw [e36, up_n (by omega), e33, up_n (by omega), e30, up_n (by omega), e27, up_n (by omega), e24, up_n (by omega), e21, up_s]
  · dsimp only; rw [e36, up_n (by omega), e33, up_n (by omega), e30, up_n (by omega), e27, up_s]
  · dsimp only; rw [e36, up_n (by omega), e33, up_n (by omega), e30, up_s]
  · dsimp only; rw [e36, up_n (by omega), e33, up_s]
  · dsimp only; rw [e36, up_n (by omega), e33, up_n (by omega), e30, up_n (by omega), e27, up_n (by omega), e24, up_n (by omega), e21, up_n (by omega), e18, up_n (by omega), e15, up_n (by omega), e12, up_n (by omega), e9, up_n (by omega), e6, up_n (by omega), e3, up_n (by omega)]
end

/- PARSE: E of both sides -/
/-- what a reader of an expression leaves on both sides -/
def JE (dp : Int) (K P : Nat → Int) (c p s : Nat) (r u : ms_M) (v : Int × ms_M) : Prop := SFj u v.2 ∨ ∃ (q : Nat) (i : Int), (JPp K P c q u v.2 ∧ p < q) ∧ LKn dp K v.2 s i 0 (r 160 22) (v.2 160 22) (p : Int) (q : Int) v.1 ∧ (v.2 169 v.1.toNat = (p : Int) ∧ v.2 177 v.1.toNat = i) ∧ NDf r v.2
def PE (K P : Nat → Int) (c s : Nat) (x : Int → ms_M → Option ms_M) (y : Int → ms_M → Option (Int × ms_M)) : Prop := ∀ (a : Int) (p : Nat) (h r : ms_M), (0 ≤ a ∧ a ≤ 40) → JPp K P c p h r → 0 ≤ r 160 22 → Pc (x a h) (fun u => Pc (y a r) (fun v => JE a K P c p s r u v))
section
variable {nn : Nat} {K P : Nat → Int} {c p : Nat} {h g r w u v : ms_M}
theorem sf_r (S : SFj u v) : ¬ v 160 9 = 0 := by rw [S.2.1]; exact S.1
theorem sf_k (S : SFj u v) (A : FSc u h) (B : FSr v w) : SFj h w := ⟨by rw [A.1]; exact S.1, by rw [B.1, A.1]; exact S.2.1, by rw [B.2, A.2]; exact S.2.2⟩
theorem ndf_r : NDf r r := ⟨Int.le_refl _, fun _ _ _ _ _ => rfl⟩
theorem ndf_t (A : NDf r v) (B : NDf v w) : NDf r w := ⟨Int.le_trans A.1 B.1, fun c x a b d => by rw [B.2 c x a b (by have := A.1; omega)]; exact A.2 c x a b d⟩
/-- a write to a node that is not older -/
theorem ndf_w {m n : Nat} {y : Int} (A : NDf r v) (hm : ¬ m = 160) (hn : r 160 22 ≤ (n : Int)) : NDf r (up_M v m n y) := ⟨by rw [up_n (by omega)]; exact A.1, fun c x a b d => by rw [up_n (by omega)]; exact A.2 c x a b d⟩
theorem ndf_c {k : Nat} {y : Int} (A : NDf r v) (hk : ¬ k = 22) : NDf r (up_M v 160 k y) := ⟨by rw [up_n (by omega)]; exact A.1, fun c x a b d => by rw [up_n (by omega)]; exact A.2 c x a b d⟩
theorem jp_w {m n : Nat} {y : Int} (J : JPp K P c p h r) (hm : 167 ≤ m) : JPp K P c p h (up_M r m n y) := jp_r J (fun c k q => up_n (by omega))
theorem jp_c {k : Nat} {y : Int} (J : JPp K P c p h r) (hk : ¬ k = 9 ∧ ¬ k = 23) : JPp K P c p h (up_M r 160 k y) := jp_r J (fun c k q => up_n (by omega))
/-- the tree under later steps -/
theorem lk_nd {s : Nat} {dp i l a b p q e : Int} (H : LKn dp K v s i l a b p q e) (ha : 0 ≤ a) (hb : b ≤ v 160 22) (N : NDf v w) : LKn dp K w s i l a b p q e := lk_map H (fun c x c1 c2 _ x1 x2 _ _ => N.2 c x c1 c2 (by omega))
theorem lk_w {s m n : Nat} {dp i l a b p q e y : Int} (H : LKn dp K v s i l a b p q e) (hn : ((n : Int) < a ∨ b ≤ (n : Int)) ∨ ¬ (167 ≤ m ∧ m ≤ 177)) : LKn dp K (up_M v m n y) s i l a b p q e := lk_map H (fun c x c1 c2 _ x1 x2 _ _ => up_n (by omega))
/- a node's rows under later steps -/
section
variable {n k t f o w2 x y me sl ib z : Int}
theorem nd_nd (D : NDn v n k t f o w2 x y me sl ib) (h0 : 0 ≤ n) (hn : n < v 160 22) (N : NDf v w) : NDn w n k t f o w2 x y me sl ib := by
  obtain ⟨⟨a1, a2, a3⟩, ⟨b1, b2, b3, b4⟩, d1, d2, d3⟩ := D
  have E : ∀ c : Nat, 167 ≤ c → c ≤ 177 → w c n.toNat = v c n.toNat := fun c c1 c2 => N.2 c n.toNat c1 c2 (by omega)
  exact ⟨⟨by rw [E 167 (by decide) (by decide)]; exact a1, by rw [E 168 (by decide) (by decide)]; exact a2, by rw [E 169 (by decide) (by decide)]; exact a3⟩, ⟨by rw [E 170 (by decide) (by decide)]; exact b1, by rw [E 171 (by decide) (by decide)]; exact b2, by rw [E 172 (by decide) (by decide)]; exact b3, by rw [E 173 (by decide) (by decide)]; exact b4⟩, by rw [E 175 (by decide) (by decide)]; exact d1, by rw [E 176 (by decide) (by decide)]; exact d2, by rw [E 177 (by decide) (by decide)]; exact d3⟩
theorem nd_o {m j : Nat} (D : NDn v n k t f o w2 x y me sl ib) (hj : ¬ j = n.toNat ∨ ¬ (167 ≤ m ∧ m ≤ 177)) : NDn (up_M v m j z) n k t f o w2 x y me sl ib := by
  obtain ⟨⟨a1, a2, a3⟩, ⟨b1, b2, b3, b4⟩, d1, d2, d3⟩ := D
  exact ⟨⟨by rw [up_n (by omega)]; exact a1, by rw [up_n (by omega)]; exact a2, by rw [up_n (by omega)]; exact a3⟩, ⟨by rw [up_n (by omega)]; exact b1, by rw [up_n (by omega)]; exact b2, by rw [up_n (by omega)]; exact b3, by rw [up_n (by omega)]; exact b4⟩, by rw [up_n (by omega)]; exact d1, by rw [up_n (by omega)]; exact d2, by rw [up_n (by omega)]; exact d3⟩
theorem nd_7 (D : NDn v n k t f o w2 x y me sl ib) : NDn (up_M v 167 n.toNat z) n z t f o w2 x y me sl ib := by
  obtain ⟨⟨a1, a2, a3⟩, ⟨b1, b2, b3, b4⟩, d1, d2, d3⟩ := D
  exact ⟨⟨up_s, by rw [up_n (by omega)]; exact a2, by rw [up_n (by omega)]; exact a3⟩, ⟨by rw [up_n (by omega)]; exact b1, by rw [up_n (by omega)]; exact b2, by rw [up_n (by omega)]; exact b3, by rw [up_n (by omega)]; exact b4⟩, by rw [up_n (by omega)]; exact d1, by rw [up_n (by omega)]; exact d2, by rw [up_n (by omega)]; exact d3⟩
theorem nd_8 (D : NDn v n k t f o w2 x y me sl ib) : NDn (up_M v 168 n.toNat z) n k z f o w2 x y me sl ib := by
  obtain ⟨⟨a1, a2, a3⟩, ⟨b1, b2, b3, b4⟩, d1, d2, d3⟩ := D
  exact ⟨⟨by rw [up_n (by omega)]; exact a1, up_s, by rw [up_n (by omega)]; exact a3⟩, ⟨by rw [up_n (by omega)]; exact b1, by rw [up_n (by omega)]; exact b2, by rw [up_n (by omega)]; exact b3, by rw [up_n (by omega)]; exact b4⟩, by rw [up_n (by omega)]; exact d1, by rw [up_n (by omega)]; exact d2, by rw [up_n (by omega)]; exact d3⟩
theorem nd_0 (D : NDn v n k t f o w2 x y me sl ib) : NDn (up_M v 170 n.toNat z) n k t f z w2 x y me sl ib := by
  obtain ⟨⟨a1, a2, a3⟩, ⟨b1, b2, b3, b4⟩, d1, d2, d3⟩ := D
  exact ⟨⟨by rw [up_n (by omega)]; exact a1, by rw [up_n (by omega)]; exact a2, by rw [up_n (by omega)]; exact a3⟩, ⟨up_s, by rw [up_n (by omega)]; exact b2, by rw [up_n (by omega)]; exact b3, by rw [up_n (by omega)]; exact b4⟩, by rw [up_n (by omega)]; exact d1, by rw [up_n (by omega)]; exact d2, by rw [up_n (by omega)]; exact d3⟩
theorem nd_1 (D : NDn v n k t f o w2 x y me sl ib) : NDn (up_M v 171 n.toNat z) n k t f o z x y me sl ib := by
  obtain ⟨⟨a1, a2, a3⟩, ⟨b1, b2, b3, b4⟩, d1, d2, d3⟩ := D
  exact ⟨⟨by rw [up_n (by omega)]; exact a1, by rw [up_n (by omega)]; exact a2, by rw [up_n (by omega)]; exact a3⟩, ⟨by rw [up_n (by omega)]; exact b1, up_s, by rw [up_n (by omega)]; exact b3, by rw [up_n (by omega)]; exact b4⟩, by rw [up_n (by omega)]; exact d1, by rw [up_n (by omega)]; exact d2, by rw [up_n (by omega)]; exact d3⟩
theorem nd_2 (D : NDn v n k t f o w2 x y me sl ib) : NDn (up_M v 172 n.toNat z) n k t f o w2 z y me sl ib := by
  obtain ⟨⟨a1, a2, a3⟩, ⟨b1, b2, b3, b4⟩, d1, d2, d3⟩ := D
  exact ⟨⟨by rw [up_n (by omega)]; exact a1, by rw [up_n (by omega)]; exact a2, by rw [up_n (by omega)]; exact a3⟩, ⟨by rw [up_n (by omega)]; exact b1, by rw [up_n (by omega)]; exact b2, up_s, by rw [up_n (by omega)]; exact b4⟩, by rw [up_n (by omega)]; exact d1, by rw [up_n (by omega)]; exact d2, by rw [up_n (by omega)]; exact d3⟩
theorem nd_3 (D : NDn v n k t f o w2 x y me sl ib) : NDn (up_M v 173 n.toNat z) n k t f o w2 x z me sl ib := by
  obtain ⟨⟨a1, a2, a3⟩, ⟨b1, b2, b3, b4⟩, d1, d2, d3⟩ := D
  exact ⟨⟨by rw [up_n (by omega)]; exact a1, by rw [up_n (by omega)]; exact a2, by rw [up_n (by omega)]; exact a3⟩, ⟨by rw [up_n (by omega)]; exact b1, by rw [up_n (by omega)]; exact b2, by rw [up_n (by omega)]; exact b3, up_s⟩, by rw [up_n (by omega)]; exact d1, by rw [up_n (by omega)]; exact d2, by rw [up_n (by omega)]; exact d3⟩
theorem nd_5 (D : NDn v n k t f o w2 x y me sl ib) : NDn (up_M v 175 n.toNat z) n k t f o w2 x y z sl ib := by
  obtain ⟨⟨a1, a2, a3⟩, ⟨b1, b2, b3, b4⟩, d1, d2, d3⟩ := D
  exact ⟨⟨by rw [up_n (by omega)]; exact a1, by rw [up_n (by omega)]; exact a2, by rw [up_n (by omega)]; exact a3⟩, ⟨by rw [up_n (by omega)]; exact b1, by rw [up_n (by omega)]; exact b2, by rw [up_n (by omega)]; exact b3, by rw [up_n (by omega)]; exact b4⟩, up_s, by rw [up_n (by omega)]; exact d2, by rw [up_n (by omega)]; exact d3⟩
theorem nd_6 (D : NDn v n k t f o w2 x y me sl ib) : NDn (up_M v 176 n.toNat z) n k t f o w2 x y me z ib := by
  obtain ⟨⟨a1, a2, a3⟩, ⟨b1, b2, b3, b4⟩, d1, d2, d3⟩ := D
  exact ⟨⟨by rw [up_n (by omega)]; exact a1, by rw [up_n (by omega)]; exact a2, by rw [up_n (by omega)]; exact a3⟩, ⟨by rw [up_n (by omega)]; exact b1, by rw [up_n (by omega)]; exact b2, by rw [up_n (by omega)]; exact b3, by rw [up_n (by omega)]; exact b4⟩, by rw [up_n (by omega)]; exact d1, up_s, by rw [up_n (by omega)]; exact d3⟩
end
/-- a child: its tree, its label -/
def CHl (dp : Int) (K : Nat → Int) (v : ms_M) (s : Nat) (i l a b p q e : Int) : Prop := LKn dp K v s i l a b p q e ∧ v 169 e.toNat = p ∧ v 177 e.toNat = i ∧ 0 ≤ a ∧ a ≤ e ∧ e < b
theorem ch_mk {s : Nat} {dp i l a b p q e : Int} (H : LKn dp K v s i l a b p q e) (hs : ¬ s = 4 ∧ ¬ s = 7) (L : v 169 e.toNat = p ∧ v 177 e.toNat = i) : CHl dp K v s i l a b p q e := ⟨H, L.1, L.2, lk_rg H hs.1 hs.2⟩
theorem ch_nd {s : Nat} {dp i l a b p q e : Int} (C : CHl dp K v s i l a b p q e) (hb : b ≤ v 160 22) (N : NDf v w) : CHl dp K w s i l a b p q e := by
  obtain ⟨H, l1, l2, g1, g2, g3⟩ := C
  exact ⟨lk_nd H g1 hb N, by rw [N.2 169 e.toNat (by decide) (by decide) (by omega)]; exact l1, by rw [N.2 177 e.toNat (by decide) (by decide) (by omega)]; exact l2, g1, g2, g3⟩
theorem ch_w {s m n : Nat} {dp i l a b p q e y : Int} (C : CHl dp K v s i l a b p q e) (hn : ((n : Int) < a ∨ b ≤ (n : Int)) ∨ ¬ (167 ≤ m ∧ m ≤ 177)) : CHl dp K (up_M v m n y) s i l a b p q e := by
  obtain ⟨H, l1, l2, g1, g2, g3⟩ := C
  exact ⟨lk_w H hn, by rw [up_n (by omega)]; exact l1, by rw [up_n (by omega)]; exact l2, g1, g2, g3⟩
/-- the sides of signs: the class's loop stands where the reference's call has come to -/
def XTe (K : Nat → Int) (l any : Int) (q : Nat) : Prop := (any = 0 ∨ any = 1) ∧ (any = 0 → l ≤ 6) ∧ (st_T (K q) < l ∨ (any = 0 ∧ 6 < st_T (K q)))
def PS (nn : Nat) (K P : Nat → Int) (c : Nat) (rc : tq_X8_readValue) (a l : Int) (y : Int → Int → ms_M → Option (Int × ms_M)) : Prop := ∀ (p : Nat) (h r : ms_M) (f : Nat) (t : Int), JPp K P c p h r → 0 ≤ r 160 22 → (0 ≤ t ∧ t ≤ (p : Int)) → Pc (mx_sv (rc.2.1 (a + 1) h) fun u => qw_X8_readValue_20 nn rc f a 1 t u) (fun uF => Pc (y l (a + 1) r) (fun v => SFj uF v.2 ∨ ∃ (q : Nat) (i any : Int) (f2 : Nat) (t2 : Int) (h2 : ms_M), (JPp K P c q h2 v.2 ∧ p < q) ∧ CHl (a + 1) K v.2 1 i l (r 160 22) (v.2 160 22) (p : Int) (q : Int) v.1 ∧ NDf r v.2 ∧ XTe K l any q ∧ (0 ≤ t2 ∧ t2 < (q : Int)) ∧ qw_X8_readValue_20 nn rc f2 a any t2 h2 = some uF))
/-- the class's loop goes on, or stops -/
theorem c_bin (BK : TBn K c) (B : TBc K P c h) (hp : p < c) (hc : h 2 10 = (p : Int)) (hf : h 2 11 = 0) {any : Int} (ha : any = 0 ∨ any = 1) : Pc (qf_X8_binaryAhead nn any h) (fun u => (u = 1 ∧ 0 ≤ st_T (K p) ∧ (any = 1 ∨ st_T (K p) ≤ 6)) ∨ (u = 0 ∧ ¬ (0 ≤ st_T (K p) ∧ (any = 1 ∨ st_T (K p) ≤ 6)))) := by
  unfold qf_X8_binaryAhead
  refine pc_sv (c_kind BK B hp hc hf) ?_; intro u3 q3
  refine pc_sv c_lev ?_; intro u4 q4
  rw [q3] at q4
  refine pc_if (fun z => pc_ret (.inr ⟨rfl, by omega⟩)) (fun z => ?_)
  refine pc_if (fun z2 => pc_ret (.inl ⟨rfl, by omega⟩)) (fun z2 => ?_)
  exact pc_if (fun z3 => pc_ret (.inr ⟨rfl, by omega⟩)) (fun z3 => pc_ret (.inl ⟨rfl, by omega⟩))
/-- the loop of both -/
theorem ps_37 (BK : TBn K c) {rc : tq_X8_readValue} {rd : tq_X13_expression} {a l : Int} (ha : 0 ≤ a ∧ a < 40) (hl : 0 ≤ l ∧ l ≤ 10) (Gc : FScG_X8_readValue rc) (Gr : FSrG_X13_expression rd) (IH : ∀ s : Int, 0 ≤ s → s ≤ 9 → PS nn K P c rc a (s + 1) rd.2.1) {n0 : Int} (h0 : 0 ≤ n0) {p : Nat} : ∀ (k q : Nat) (h r : ms_M) (left s most i any : Int) (f : Nat) (t : Int), JPp K P c q h r → p < q → s = st_T (K q) → n0 ≤ r 160 22 → (∀ l2 : Int, (l2 ≤ most ∨ l2 = l) → CHl (a + 1) K r 1 i l2 n0 (r 160 22) (p : Int) (q : Int) left) → ((any = 0 ∨ any = 1) ∧ (any = 0 → l ≤ 6) ∧ (any = 1 → s ≤ most) ∧ (any = 0 → most ≤ 6 ∧ (s ≤ most ∨ 6 < s))) → (0 ≤ t ∧ t < (q : Int)) → Pc (qw_X8_readValue_20 nn rc f a any t h) (fun uF => Pc (qw_X13_sides_37 nn rd k l (a + 1) (p : Int) left s most r) (fun v => SFj uF v.2 ∨ ∃ (q2 : Nat) (i any : Int) (f2 : Nat) (t2 : Int) (h2 : ms_M), (JPp K P c q2 h2 v.2 ∧ p < q2) ∧ CHl (a + 1) K v.2 1 i l n0 (v.2 160 22) (p : Int) (q2 : Int) v.1 ∧ (r 160 22 ≤ v.2 160 22 ∧ ∀ c x : Nat, 167 ≤ c → c ≤ 177 → (x : Int) < r 160 22 → v.2 c x = r c x) ∧ XTe K l any q2 ∧ (0 ≤ t2 ∧ t2 < (q2 : Int)) ∧ qw_X8_readValue_20 nn rc f2 a any t2 h2 = some uF)) := by
  have n3 := BK.2.1
  intro k
  induction k with
  | zero => intros; exact fun _ _ => pc_none
  | succ k ih =>
    intro q h r left s most i any f t J pq hs hn LKl R ht
    have J0 := J
    obtain ⟨b, d, ⟨e1, e2, e3⟩, f1, f2⟩ := J
    have sr := st_r (K q)
    by_cases go : l ≤ s ∧ s ≤ most
    · -- a sign more
      have k2 : 2 ≤ K q := st_k (by omega)
      have q1c := jp_lt BK e3 k2
      have J1 : JPp K P c (q + 1) (up_M h 2 10 ((q + 1 : Nat) : Int)) (up_M r 160 23 ((q + 1 : Nat) : Int)) := jp_up BK J0 q1c
      cases f with
      | zero => exact pc_none
      | succ f =>
        rw [qw_X8_readValue_20]
        refine pc_if (fun z => absurd z (by omega)) (fun _ => ?_)
        refine pc_sv (c_bin BK b e3 e1 f1 R.1) ?_; intro u25 q25
        refine pc_if (fun z => absurd z (by omega)) (fun _ => ?_)
        refine pc_sv (c_acc BK b e3 e1 f1) ?_; intro u27 q27
        rcases q27 with ⟨a1, a2⟩ | ⟨a1, a2⟩
        · -- instanceof
          rw [a2]
          refine pc_if (fun _ => ?_) (fun z => absurd (show ¬ (1 : Int) = 0 by decide) z)
          unfold qj_X8_readValue_49
          refine pc_if (fun _ => ?_) (fun z => absurd rfl z)
          refine pc_se ?_; intro u13 e13
          refine pc_add (by omega) ?_; intro v14 e14
          intro uF eF
          unfold qw_X13_sides_37
          refine pc_if (fun z => absurd f2 z) (fun _ => ?_)
          refine pc_if (fun z => absurd z (by omega)) (fun _ => ?_)
          refine pc_if (fun z => absurd z (by omega)) (fun _ => ?_)
          rw [e2]
          refine pc_add (by omega) ?_; intro v9 e9
          refine pc_xl ?_; intro h10 e10
          rw [show v9 = ((q + 1 : Nat) : Int) by omega] at e10
          rw [← e10] at J1
          refine pc_sv (r_wrd BK J1.2.1 (t := q) rfl (by omega) (by decide)) ?_; intro u12 q12
          refine pc_if (fun z => absurd z (by omega)) (fun _ => ?_)
          refine pc_sv (j_name BK J1 u13 e13) ?_; intro u23 q23
          rcases q23 with ⟨c1, c2, J2⟩ | S
          · have m23 : u23.2 = up_M h10 160 23 ((q + 1 + 1 : Nat) : Int) := by rw [c2]
            have w1 : u23.1 = ((q + 1 : Nat) : Int) := by rw [c2]
            have n23 : u23.2 160 22 = r 160 22 := by rw [m23, up_n (by omega), e10, up_n (by omega)]
            have N23 : NDf r u23.2 := by rw [m23, e10]; exact ndf_c (ndf_c ndf_r (by decide)) (by decide)
            refine pc_sv r_add ?_; intro u25 q25
            obtain ⟨⟨x1, x2, x3⟩, ND, FR⟩ := q25
            rw [n23] at x1 x2 x3 ND FR
            refine pc_wA ?_; intro i1 i2 h27 e27
            rw [x2] at e27
            have ND2 := nd_0 (z := left) ND
            rw [← e27] at ND2
            have N25 : NDf u23.2 u25.2 := ⟨by rw [n23, x3]; omega, fun c x c1 c2 c3 => FR c x (by omega) (by omega)⟩
            have N27 : NDf r h27 := by rw [e27]; exact ndf_w (ndf_t N23 N25) (by decide) (by omega)
            have n27 : h27 160 22 = r 160 22 + 1 := by rw [e27, up_n (by omega)]; exact x3
            have J3 : JPp K P c (q + 2) u13 h27 := by
              rw [e27]
              refine jp_w (jp_r (show JPp K P c (q + 2) u13 u23.2 from J2) (fun c k z => FR c k (by omega) (by omega))) (by decide)
            unfold qj_X13_sides_157
            have J3' := J3
            obtain ⟨-, d3, ⟨-, g2, g3⟩, -, g5⟩ := J3'
            refine pc_if (fun z => absurd g5 z) (fun _ => ?_)
            rw [g2]
            refine pc_sv (r_str BK d3 rfl (by omega)) ?_; intro u4 q4
            rw [x2]
            have st6 : s = 6 := by rw [hs, a1]; exact st_19
            have CH : ∀ l2 : Int, (l2 ≤ 6 ∨ l2 = l) → CHl (a + 1) K h27 1 0 l2 n0 (h27 160 22) (p : Int) ((q + 2 : Nat) : Int) (r 160 22) := fun l2 hl2 => by
              have CL := ch_nd (LKl 6 (by omega)) (Int.le_refl _) N27
              have o := ND2.2.1.1
              refine ch_mk (lk_si (ix := i) (t := (q : Int)) ⟨h0, hn, by omega⟩ ⟨ND2.1.1, by rw [ND2.1.2.1, w1]; omega⟩ ⟨by omega, by rw [Int.toNat_natCast]; omega, by rw [show ((q : Int) + 1).toNat = q + 1 by omega]; exact c1, by omega⟩ (by rw [o]; exact CL.1) (by rw [o]; exact ⟨CL.2.1, CL.2.2.1⟩)) (by decide) ⟨ND2.1.2.2, ND2.2.2.2.2⟩
            refine pc_imp (ih (q + 2) u13 h27 (r 160 22) u4 s 0 0 f v14 J3 (by omega) q4 (by omega) (fun l2 hl2 => CH l2 (by omega)) ⟨.inl rfl, fun _ => by omega, fun z => absurd z (by decide), fun _ => by omega⟩ (by omega) uF eF) (fun v z => ?_)
            rcases z with z | ⟨q2, i2, any2, f3, t3, h3, y1, y2, y3, y4⟩
            · exact .inl z
            · exact .inr ⟨q2, i2, any2, f3, t3, h3, ⟨y1.1, by omega⟩, y2, ⟨by omega, fun c x c1 c2 c3 => by rw [y3.2 c x c1 c2 (by omega)]; exact N27.2 c x c1 c2 c3⟩, y4⟩
          · -- the name is none: FAULT
            have FU := fs_qw_X8_readValue_20 Gc _ _ _ _ _ S.1 uF eF
            refine pc_imp (P := fun w : Int × ms_M => FSr u23.2 w.2) ?_ (fun w z => .inl (sf_k S FU z))
            have S1 : ¬ u23.2 160 9 = 0 := sf_r S
            have F : FSr u23.2 u23.2 := ft_r
            refine pc_sv (ft_qf_X13_add (ft_n S1 F)) ?_; intro u25 Qu25
            have Fu25 : FSr u23.2 u25.2 := ft_t F Qu25
            refine pc_wA ?_; intro _ _ h27 Eh27
            have Fh27 : FSr u23.2 h27 := by rw [Eh27]; exact ft_u Fu25 (by omega)
            exact pc_imp (ft_qj_X13_sides_157 Gr (fun _ _ _ _ _ _ _ S => ft_qw_X13_sides_37 Gr _ _ _ _ _ _ _ _ S) (ft_n S1 Fh27)) (fun _ q => ft_t Fh27 q)
        · -- a sign
          rw [a2]
          refine pc_if (fun z => absurd rfl z) (fun _ => ?_)
          unfold qj_X8_readValue_49
          refine pc_if (fun z => absurd z (by decide)) (fun _ => ?_)
          dsimp only
          rw [e1]
          refine pc_add (by omega) ?_; intro v17 e17
          refine pc_xl ?_; intro h18 e18
          rw [show v17 = ((q + 1 : Nat) : Int) by omega] at e18
          refine pc_add (by omega) ?_; intro v19 e19
          rw [e19]
          have eT : oq_add t 1 = t + 1 := oq_add_eq (by omega) (by omega) (by omega)
          show Pc (mx_sv (rc.2.1 (a + 1) h18) fun u21 => qw_X8_readValue_20 nn rc f a 1 (oq_add t 1) u21) _
          rw [eT]
          intro uF eF
          unfold qw_X13_sides_37
          refine pc_if (fun z => absurd f2 z) (fun _ => ?_)
          refine pc_if (fun z => absurd z (by omega)) (fun _ => ?_)
          refine pc_if (fun z => absurd z (by omega)) (fun _ => ?_)
          rw [e2]
          refine pc_add (by omega) ?_; intro v9 e9
          refine pc_xl ?_; intro h10 e10
          rw [show v9 = ((q + 1 : Nat) : Int) by omega] at e10
          rw [← e10, ← e18] at J1
          refine pc_sv (r_wrd BK J1.2.1 (t := q) rfl (by omega) (by decide)) ?_; intro u12 q12
          refine pc_if (fun _ => ?_) (fun z => absurd (by omega) z)
          have n10 : h10 160 22 = r 160 22 := by rw [e10, up_n (by omega)]
          have N10 : NDf r h10 := by rw [e10]; exact ndf_c ndf_r (by decide)
          refine pc_sv r_add ?_; intro u14 q14
          obtain ⟨⟨x1, x2, x3⟩, ND, FR⟩ := q14
          rw [n10] at x1 x2 x3 ND FR
          refine pc_wA ?_; intro i1 i2 h16 e16
          rw [x2] at e16
          have ND2 := nd_0 (z := left) ND
          rw [← e16] at ND2
          have N14 : NDf h10 u14.2 := ⟨by rw [n10, x3]; omega, fun c x c1 c2 c3 => FR c x (by omega) (by omega)⟩
          have N16 : NDf r h16 := by rw [e16]; exact ndf_w (ndf_t N10 N14) (by decide) (by omega)
          have n16 : h16 160 22 = r 160 22 + 1 := by rw [e16, up_n (by omega)]; exact x3
          have J2 : JPp K P c (q + 1) h18 h16 := by
            rw [e16]
            exact jp_w (jp_r J1 (fun c k z => FR c k (by omega) (by omega))) (by decide)
          refine pc_add (by omega) ?_; intro v18 e18'
          rw [e18']
          refine pc_sv (IH s (by omega) (by omega) (q + 1) h18 h16 f (t + 1) J2 (by omega) (by omega) uF eF) ?_; intro u20 q20
          refine pc_wA ?_; intro j1 j2 h21 e21
          rw [x2] at e21
          rcases q20 with S | ⟨q2, iy, any2, f3, t3, h3, ⟨J3, pq2⟩, CR, N20, XT, tt, eF3⟩
          · -- FAULT
            have S2 : SFj uF h21 := by
              refine ⟨S.1, ?_, ?_⟩
              · rw [e21, up_n (by omega)]; exact S.2.1
              · rw [e21, up_n (by omega)]; exact S.2.2
            refine pc_imp (P := fun w : Int × ms_M => FSr h21 w.2) ?_ (fun w z => .inl (sf_k S2 fs_r z))
            have S1 : ¬ h21 160 9 = 0 := (sf_r S2)
            have F : FSr h21 h21 := ft_r
            exact pc_imp (ft_qj_X13_sides_157 Gr (fun _ _ _ _ _ _ _ S => ft_qw_X13_sides_37 Gr _ _ _ _ _ _ _ _ S) (ft_n S1 F)) (fun _ q => ft_t F q)
          · have N21 : NDf r h21 := by rw [e21]; exact ndf_w (ndf_t N16 N20) (by decide) (by omega)
            have ND3 := nd_1 (z := u20.1) (nd_nd ND2 (by omega) (by omega) N20)
            rw [← e21] at ND3
            have n21 : h21 160 22 = u20.2 160 22 := by rw [e21, up_n (by omega)]
            have nn20 := N20.1
            have J4 : JPp K P c q2 h3 h21 := by rw [e21]; exact jp_w J3 (by decide)
            have CR2 : CHl (a + 1) K h21 1 iy (s + 1) (r 160 22 + 1) (h21 160 22) ((q + 1 : Nat) : Int) (q2 : Int) u20.1 := by
              rw [n21, e21, ← n16]; exact ch_w CR (.inl (.inl (by omega)))
            have CL : ∀ l2 : Int, (l2 ≤ most ∨ l2 = l) → CHl (a + 1) K h21 1 i l2 n0 (r 160 22) (p : Int) (q : Int) left := fun l2 hl2 => ch_nd (LKl l2 hl2) (Int.le_refl _) N21
            unfold qj_X13_sides_157
            have J4' := J4
            obtain ⟨-, d3, ⟨-, g2, g3⟩, -, g5⟩ := J4'
            refine pc_if (fun z => absurd g5 z) (fun _ => ?_)
            rw [g2]
            refine pc_sv (r_str BK d3 rfl (by omega)) ?_; intro u4 q4
            rw [x2]
            have o := ND3.2.1.1
            have o2 := ND3.2.1.2.1
            have CH : ∀ l2 : Int, (l2 ≤ s ∨ l2 = l) → CHl (a + 1) K h21 1 0 l2 n0 (h21 160 22) (p : Int) (q2 : Int) (r 160 22) := fun l2 hl2 => by
              have C1 := CL s (.inl go.2)
              refine ch_mk (lk_sb (ix := i) (iy := iy) (s := s) (t := (q : Int)) ⟨h0, hn, by omega⟩ ⟨ND3.1.1, by rw [ND3.1.2.1]⟩ ⟨by rw [Int.toNat_natCast]; exact hs.symm, by omega, by omega, by rw [Int.toNat_natCast]; exact a1⟩ (by rw [o]; exact C1.1) (by rw [o]; exact ⟨C1.2.1, C1.2.2.1⟩) (by rw [o2]; exact CR2.1) (by rw [o2]; exact ⟨CR2.2.1, CR2.2.2.1⟩)) (by decide) ⟨ND3.1.2.2, ND3.2.2.2.2⟩
            obtain ⟨X1, X2, X3⟩ := XT
            refine pc_imp (ih q2 h3 h21 (r 160 22) u4 s 0 any2 f3 t3 J4 (by omega) q4 (by omega) CH ⟨X1, fun z => by have := X2 z; omega, fun z => by omega, fun z => by have := X2 z; omega⟩ tt uF eF3) (fun v z => ?_)
            rcases z with z | ⟨q5, i5, any5, f5, t5, h5, y1, y2, y3, y4⟩
            · exact .inl z
            · exact .inr ⟨q5, i5, any5, f5, t5, h5, ⟨y1.1, by omega⟩, y2, ⟨by omega, fun c x c1 c2 c3 => by rw [y3.2 c x c1 c2 (by omega)]; exact N21.2 c x c1 c2 c3⟩, y4⟩
    · -- the reference stops
      intro uF eF
      have XT : XTe K l any q := ⟨R.1, R.2.1, by
        by_cases z : st_T (K q) < l
        · exact .inl z
        · exact .inr (by omega)⟩
      have E : Pc (some (left, r)) (fun v : Int × ms_M => SFj uF v.2 ∨ ∃ (q2 : Nat) (i any : Int) (f2 : Nat) (t2 : Int) (h2 : ms_M), (JPp K P c q2 h2 v.2 ∧ p < q2) ∧ CHl (a + 1) K v.2 1 i l n0 (v.2 160 22) (p : Int) (q2 : Int) v.1 ∧ (r 160 22 ≤ v.2 160 22 ∧ ∀ c x : Nat, 167 ≤ c → c ≤ 177 → (x : Int) < r 160 22 → v.2 c x = r c x) ∧ XTe K l any q2 ∧ (0 ≤ t2 ∧ t2 < (q2 : Int)) ∧ qw_X8_readValue_20 nn rc f2 a any t2 h2 = some uF) := pc_ret (.inr ⟨q, i, any, f, t, h, ⟨J0, pq⟩, LKl l (.inr rfl), ⟨Int.le_refl _, fun _ _ _ _ _ => rfl⟩, XT, ht, eF⟩)
      unfold qw_X13_sides_37
      exact pc_if (fun z => absurd f2 z) (fun _ => pc_if (fun _ => E) (fun z => pc_if (fun _ => E) (fun z2 => absurd ⟨by omega, by omega⟩ go)))
/-- sides -/
theorem pss_all (BK : TBn K c) {rc : tq_X8_readValue} {a : Int} (ha : 0 ≤ a ∧ a < 40) (Gc : FScG_X8_readValue rc) (IU : ∀ d, PE K P c 2 rc.2.1 (qg_X13_expression nn d).2.2.1) : ∀ (d : Nat) (l : Int), 0 ≤ l → l ≤ 10 → PS nn K P c rc a l (qg_X13_expression nn d).2.1 := by
  intro d
  induction d with
  | zero => intro l l0 l1 p h r f t J hr ht; exact fun _ _ => pc_none
  | succ d ih =>
    intro l l0 l1 p h r f t J hr ht
    show Pc _ (fun uF => Pc (qo_X13_sides nn (qg_X13_expression nn d) l (a + 1) r) _)
    refine pc_se ?_; intro u1 e1
    intro uF eF
    unfold qo_X13_sides
    have U := IU d (a + 1) p h r (by omega) J hr u1 e1
    refine pc_sv U ?_; intro u34 q34
    have Gr := ftg_X13_expression nn d
    rcases q34 with S | ⟨q, i, ⟨J2, pq⟩, L2, lab, N2⟩
    · have FU := fs_qw_X8_readValue_20 Gc _ _ _ _ _ S.1 uF eF
      refine pc_imp (P := fun w : Int × ms_M => FSr u34.2 w.2) ?_ (fun w z => .inl (sf_k S FU z))
      have S1 : ¬ u34.2 160 9 = 0 := sf_r S
      have F : FSr u34.2 u34.2 := ft_r
      refine pc_if (fun _ => ?_) (fun _ => ?_)
      · exact pc_imp (ft_qw_X13_sides_37 Gr _ _ _ _ _ _ _ _ (ft_n S1 F)) (fun _ q => ft_t F q)
      · refine pc_se ?_; intro u38 _
        exact pc_imp (ft_qw_X13_sides_37 Gr _ _ _ _ _ _ _ _ (ft_n S1 F)) (fun _ q => ft_t F q)
    · have J2' := J2
      obtain ⟨b, d2, ⟨g1, g2, g3⟩, g4, g5⟩ := J2'
      have n3 := BK.2.1
      refine pc_if (fun z => absurd g5 z) (fun _ => ?_)
      rw [g2, J.2.2.1.2.1]
      refine pc_sv (r_str BK d2 rfl (by omega)) ?_; intro u38 q38
      have sr := st_r (K q)
      have n2 := N2.1
      refine pc_imp (ps_37 BK ha ⟨l0, l1⟩ Gc Gr (fun s s0 s1 => ih (s + 1) (by omega) (by omega)) hr nn q u1 u34.2 u34.1 u38 9 i 1 f t J2 pq q38 n2 (fun l2 _ => ch_mk (lk_su L2) (by decide) lab) ⟨.inr rfl, fun z => absurd z (by decide), fun _ => by omega, fun z => absurd z (by decide)⟩ (by omega) uF eF) (fun v z => ?_)
      rcases z with z | ⟨q5, i5, any5, f5, t5, h5, y1, y2, y3, y4⟩
      · exact .inl z
      · exact .inr ⟨q5, i5, any5, f5, t5, h5, y1, y2, ⟨by omega, fun c x c1 c2 c3 => by rw [y3.2 c x c1 c2 (by omega)]; exact N2.2 c x c1 c2 c3⟩, y4⟩
end

/- HEADS: looking members up, both sides -/
/-- all that heads leave, both sides -/
def HDS (K P V : Nat → Int) (C : Nat → Nat) (c n N mt : Nat) (q : Int) (h r : ms_M) : Prop := (HDc K P V C c n h ∧ NCl V C n N h ∧ HDr K P V C c n r) ∧ (n ≤ 8 ∧ (∀ k : Nat, k < n → UPk K V C n k (r 180 k)) ∧ OKc V C (r 180) n n ∧ KNc (r 180) n h) ∧ MTB V C n mt q h r ∧ (r 160 28 = (mt : Int) ∧ (∀ j : Nat, j < mt → 0 ≤ r 186 j ∧ K (r 186 j).toNat = 2) ∧ (∀ j : Nat, j < mt → 0 ≤ r 181 j ∧ r 181 j < (n : Int)) ∧ ∀ i j : Nat, i < j → j < mt → r 181 i ≤ r 181 j)
/-- what a lookup gives on both sides -/
def LKR (V : Nat → Int) (mt : Nat) (s x : Int) (r : ms_M) (u v : Int) : Prop := (u = -1 ∧ v = -1) ∨ ∃ j k : Nat, j < mt ∧ k < 8 ∧ MSm r k s j ∧ V (r 186 j).toNat = x ∧ v = (j : Int) ∧ u = ((12 * k + mcn_T r k s j : Nat) : Int)
section
variable {nn : Nat} {K P V U : Nat → Int} {C : Nat → Nat} {c n N mt : Nat} {q : Int} {h g r w u v h0 r0 : ms_M}
/-- the reference looks through its members for one of class at - 8 -/
theorem r_12 (BK : TBn K c) (NM : NMr K V c r) (e28 : r 160 28 = (mt : Int)) (HN : ∀ j : Nat, j < mt → 0 ≤ r 186 j ∧ K (r 186 j).toNat = 2) {t : Nat} {s a : Int} (kt : K t = 2) (hs : s = 0 ∨ s = 1) (ha : -1 ≤ a ∧ a ≤ 1000) {qk : Int → Int → Int → ms_M → Option Int} {Q : Int → Prop} (ZF : ∀ j : Nat, j < mt → MSm r (a - 8) s j → V (r 186 j).toNat = V t → Q (j : Int)) (ZN : (∀ j : Nat, j < mt → ¬ (MSm r (a - 8) s j ∧ V (r 186 j).toNat = V t)) → Pc (qk (t : Int) s (uq_T (r 180) a) r) Q) : ∀ (f l : Nat), l ≤ mt → (∀ j : Nat, j < l → ¬ (MSm r (a - 8) s j ∧ V (r 186 j).toNat = V t)) → Pc (qw_X13_memberOf_12 nn qk f (t : Int) s a (l : Int) r) Q := by
  intro f
  induction f with
  | zero => intros; exact pc_none
  | succ f ih =>
    intro l hl A
    unfold qw_X13_memberOf_12
    refine pc_if (fun z => ?_) (fun z => ?_)
    · refine pc_sv (r_up ha) ?_; intro u11 q11
      rw [q11]
      exact ZN (fun j hj => A j (by omega))
    · -- on to the next
      have lm : l < mt := by omega
      refine pc_rA ?_; intro _ l8 v13 e13
      rw [Int.toNat_natCast] at e13
      refine pc_sub (by omega) ?_; intro v14 e14
      have NX : ¬ (MSm r (a - 8) s l ∧ V (r 186 l).toNat = V t) → ∀ v15 : Int, v15 = (l : Int) + 1 → Pc (qw_X13_memberOf_12 nn qk f (t : Int) s a v15 r) Q := fun y v15 e15 => by
        rw [show v15 = ((l + 1 : Nat) : Int) by omega]
        refine ih (l + 1) (by omega) (fun j hj => ?_)
        by_cases jl : j = l
        · rw [jl]; exact y
        · exact A j (by omega)
      refine pc_if (fun y => ?_) (fun y => ?_)
      · refine pc_add (by omega) ?_; intro v15 e15
        exact NX (fun y2 => y (by rw [e13, e14]; exact y2.1.1)) v15 e15
      · have c1 : r 181 l = a - 8 := by omega
        refine pc_rA ?_; intro _ _ v17 e17
        rw [Int.toNat_natCast] at e17
        have HT := HN l lm
        have M51 : ∀ s0 : Int, (MSm r (a - 8) s l ↔ s0 = s) → Pc (qj_X13_memberOf_51 nn qk (qw_X13_memberOf_12 nn qk f) (t : Int) s a (l : Int) s0 r) Q := fun s0 hs0 => by
          unfold qj_X13_memberOf_51
          refine pc_if (fun y0 => ?_) (fun y0 => ?_)
          · refine pc_add (by omega) ?_; intro v1 e1
            exact NX (fun y2 => y0 (hs0.mp y2.1)) v1 e1
          · have y1 : s0 = s := Classical.byContradiction y0
            refine pc_rA ?_; intro _ _ v3 e3
            rw [Int.toNat_natCast] at e3
            refine pc_sv (r_like NM (i := (r 186 l).toNat) (j := t) (tb_lt BK (by omega)) (tb_lt BK (by omega)) HT.2 kt (by omega) rfl) ?_; intro u5 q5
            refine pc_if (fun y5 => ?_) (fun y5 => ?_)
            · refine pc_add (by omega) ?_; intro v6 e6
              refine NX (fun y2 => ?_) v6 e6
              rcases q5 with ⟨a5, b5⟩ | ⟨a5, b5⟩
              · omega
              · exact b5 y2.2
            · refine pc_ret (ZF l lm (hs0.mpr y1) ?_)
              rcases q5 with ⟨a5, b5⟩ | ⟨a5, b5⟩
              · exact b5
              · exact absurd a5 y5
        refine pc_if (fun y7 => ?_) (fun y7 => ?_)
        · refine M51 0 ⟨fun z => ?_, fun z => ⟨c1, by omega⟩⟩
          have := z.2; omega
        · refine M51 1 ⟨fun z => ?_, fun z => ⟨c1, by omega⟩⟩
          have := z.2; omega
/-- below 8 there are no members -/
theorem r_low (BK : TBn K c) (H : HDS K P V C c n N mt q h r) {t : Nat} {s : Int} (kt : K t = 2) (hs : s = 0 ∨ s = 1) : ∀ (f : Nat) (a : Int), (-1 ≤ a ∧ a < 8) → Pc (qw_X13_memberOf_3 nn f (t : Int) s a r) (fun v => v = -1) := by
  obtain ⟨⟨H1, H2, H3⟩, ⟨n8, UP, OK, KN⟩, M, e28, HN, HC, HM⟩ := H
  intro f
  induction f with
  | zero => intros; exact pc_none
  | succ f ih =>
    intro a ha
    unfold qw_X13_memberOf_3
    refine pc_if (fun _ => pc_ret rfl) (fun z => ?_)
    refine r_12 BK H3.2.1 e28 HN kt hs (by omega) (fun j hj y _ => ?_) (fun _ => ?_) nn 0 (by omega) (fun j hj => absurd hj (by omega))
    · have := (HC j hj).1
      have := y.1
      omega
    · refine ih _ ?_
      unfold uq_T
      by_cases q0 : a = 0
      · rw [if_pos q0]; omega
      · rw [if_neg q0]
        by_cases q1 : a = 1
        · rw [if_pos q1]; omega
        · rw [if_neg q1, if_neg (by omega)]; omega
/-- the class has found it -/
theorem c_methodF {x y a : Int} {cnt : Int} (hy : ¬ y = -1) : ∀ f : Nat, Pc (qw_X2_methodOf_8 nn f x y a cnt h) (fun u => u = y) := by
  intro f
  cases f with
  | zero => exact pc_none
  | succ f =>
    unfold qw_X2_methodOf_8
    refine pc_if (fun _ => pc_ret rfl) (fun _ => ?_)
    refine pc_se ?_; intro u1 _
    refine pc_if (fun _ => pc_ret rfl) (fun _ => ?_)
    exact pc_if (fun _ => pc_ret rfl) (fun z => absurd hy z)
theorem j_method8 (BK : TBn K c) (S : CKd K V C n N) (H : HDS K P V C c n N mt q h r) {t : Nat} (kt : K t = 2) : ∀ (d f f2 : Nat) (a cnt : Int), (-1 ≤ a ∧ a < 8 + (n : Int)) → (∃ i : Nat, i ≤ d ∧ ui_T (r 180) a i < 8) → (0 ≤ cnt ∧ cnt + d ≤ 15) → Pc (qw_X2_methodOf_8 nn f (V t) (-1) a cnt h) (fun u => Pc (qw_X13_memberOf_3 nn f2 (t : Int) 1 a r) (fun v => LKR V mt 1 (V t) r u v)) := by
  have H' := H
  obtain ⟨⟨H1, H2, H3⟩, ⟨n8, UP, OK, KN⟩, M, e28, HN, HC, HM⟩ := H'
  intro d
  induction d with
  | zero =>
    intro f f2 a cnt ha E hc
    obtain ⟨i, i1, i2⟩ := E
    have a8 : a < 8 := by
      have i0 : i = 0 := by omega
      rw [i0] at i2; exact i2
    refine pc_imp (P := fun u => u = -1) ?_ (fun u e => pc_imp (r_low BK H kt (by decide) f2 a (by omega)) (fun v e2 => .inl ⟨e, e2⟩))
    cases f with
    | zero => exact pc_none
    | succ f =>
      unfold qw_X2_methodOf_8 qf_X2_isOwn
      refine pc_if (fun _ => pc_ret rfl) (fun _ => ?_)
      refine pc_sv (P := fun y => y = 0) ?_ ?_
      · exact pc_if (fun _ => pc_ret rfl) (fun y => absurd a8 y)
      · intro u1 e1
        exact pc_if (fun _ => pc_ret rfl) (fun y => absurd e1 y)
  | succ d ih =>
    intro f f2 a cnt ha E hc
    by_cases a8 : a < 8
    · refine pc_imp (P := fun u => u = -1) ?_ (fun u e => pc_imp (r_low BK H kt (by decide) f2 a (by omega)) (fun v e2 => .inl ⟨e, e2⟩))
      cases f with
      | zero => exact pc_none
      | succ f =>
        unfold qw_X2_methodOf_8 qf_X2_isOwn
        refine pc_if (fun _ => pc_ret rfl) (fun _ => ?_)
        refine pc_sv (P := fun y => y = 0) ?_ ?_
        · exact pc_if (fun _ => pc_ret rfl) (fun y => absurd a8 y)
        · intro u1 e1
          exact pc_if (fun _ => pc_ret rfl) (fun y => absurd e1 y)
    · cases f with
      | zero => exact pc_none
      | succ f =>
        cases f2 with
        | zero => exact fun _ _ => pc_none
        | succ f2 =>
          obtain ⟨k, ak⟩ : ∃ k : Nat, a = 8 + (k : Int) := ⟨(a - 8).toNat, by omega⟩
          have kn : k < n := by omega
          unfold qw_X2_methodOf_8
          refine pc_if (fun y => absurd y (by omega)) (fun _ => ?_)
          refine pc_sv (P := fun y => y = 1) ?_ ?_
          · unfold qf_X2_isOwn
            refine pc_if (fun y => absurd y a8) (fun _ => ?_)
            exact pc_if (fun y => absurd y (by omega)) (fun _ => pc_ret rfl)
          · intro u1 e1
            refine pc_if (fun y => absurd y (by omega)) (fun _ => ?_)
            refine pc_if (fun y => absurd rfl y) (fun _ => ?_)
            refine pc_sub (by omega) ?_; intro v2 e2
            rw [show v2 = (k : Int) by omega]
            refine pc_sv (c_mIn BK H1.1 H1.2.1 M HN (x := V t) (k := k) (by omega)) ?_; intro u4 q4
            -- the class above
            refine pc_sv (P := fun y => y = uq_T (r 180) a) ?_ ?_
            · unfold qf_X4_above qf_X4_isClass
              refine pc_sv (P := fun y => y = 1) ?_ ?_
              · refine pc_if (fun y => absurd y (by omega)) (fun _ => ?_)
                exact pc_if (fun y => absurd y (by omega)) (fun _ => pc_ret rfl)
              · intro u6 e6
                refine pc_if (fun y => absurd y (by omega)) (fun _ => ?_)
                refine pc_rA ?_; intro _ _ v3 e3
                refine pc_ret ?_
                have e13 : v3 = h 13 a.toNat := e3
                rw [e13, KN.1 a.toNat (by omega), if_neg (by omega), if_pos (by omega), uq_8 (by omega), show a.toNat - 8 = (a - 8).toNat by omega]
            · intro u7 e7
              refine pc_add (by omega) ?_; intro v8 e8
              refine pc_fl ?_
              unfold qw_X13_memberOf_3
              refine pc_if (fun y => absurd y (by omega)) (fun _ => ?_)
              refine r_12 BK H3.2.1 e28 HN kt (by decide) (by omega) (fun j hj y y2 => ?_) (fun y => ?_) nn 0 (by omega) (fun j hj => absurd hj (by omega))
              · -- the reference has found member j
                have y' : MSm r (k : Int) 1 j := by rw [show (k : Int) = a - 8 by omega]; exact y
                rcases q4 with ⟨b1, b2⟩ | ⟨i, b1, b2, b3, b4⟩
                · exact absurd ⟨j, hj, y', y2⟩ b2
                · have ij : i = j := Classical.byContradiction fun ne => by
                    by_cases lt : i < j
                    · exact M.2.2.2.1 i j k 1 lt hj b2 y' (by rw [b3, y2])
                    · exact M.2.2.2.1 j i k 1 (by omega) b1 y' b2 (by rw [b3, y2])
                  rw [ij] at b4
                  have n1 : ¬ u4 = -1 := by omega
                  refine pc_imp (c_methodF n1 f) (fun u eu => .inr ⟨j, k, hj, by omega, y', y2, rfl, by rw [eu]; exact b4⟩)
              · rcases q4 with ⟨b1, b2⟩ | ⟨i, b1, b2, b3, b4⟩
                · rw [b1, e7]
                  refine pc_fl (ih f f2 (uq_T (r 180) a) v8 ?_ ?_ (by omega))
                  · rw [uq_8 (by omega)]
                    exact upk_b S (by omega) (UP (a - 8).toNat (by omega))
                  · obtain ⟨i, i1, i2⟩ := E
                    cases i with
                    | zero => exact absurd i2 a8
                    | succ i =>
                      refine ⟨i, by omega, ?_⟩
                      have := ui_a (U := r 180) (x := a) i 1
                      rw [show 1 + i = i + 1 by omega] at this
                      rw [this] at i2
                      exact i2
                · exact absurd ⟨by rw [show a - 8 = (k : Int) by omega]; exact b2, b3⟩ (y i b1)
/-- a lookup of both sides, from class a up -/
theorem j_methodOf (BK : TBn K c) (S : CKd K V C n N) (H : HDS K P V C c n N mt q h r) {t : Nat} (kt : K t = 2) {a : Int} (ha : -1 ≤ a ∧ a < 8 + (n : Int)) : Pc (qf_X2_methodOf nn a (V t) h) (fun u => Pc (qf_X13_memberOf nn a (t : Int) 1 r) (fun v => LKR V mt 1 (V t) r u v)) := by
  have n8 := H.2.1.1
  have OK := H.2.1.2.2.1
  unfold qf_X2_methodOf qf_X13_memberOf
  refine j_method8 BK S H kt 9 nn nn a 0 ha ?_ (by decide)
  by_cases a8 : a < 8
  · exact ⟨0, by omega, a8⟩
  · obtain ⟨i, i1, i2⟩ := (OK (a - 8).toNat (by omega)).2.2
    rw [show 8 + (((a - 8).toNat : Nat) : Int) = a by omega] at i2
    exact ⟨i, by omega, i2⟩
/-- the class has found it -/
theorem c_fieldF {x y a : Int} {cnt : Int} (hy : ¬ y = -1) : ∀ f : Nat, Pc (qw_X2_fieldOf_8 nn f x y a cnt h) (fun u => u = y) := by
  intro f
  cases f with
  | zero => exact pc_none
  | succ f =>
    unfold qw_X2_fieldOf_8
    refine pc_if (fun _ => pc_ret rfl) (fun _ => ?_)
    refine pc_se ?_; intro u1 _
    refine pc_if (fun _ => pc_ret rfl) (fun _ => ?_)
    exact pc_if (fun _ => pc_ret rfl) (fun z => absurd hy z)
theorem j_field8 (BK : TBn K c) (S : CKd K V C n N) (H : HDS K P V C c n N mt q h r) {t : Nat} (kt : K t = 2) : ∀ (d f f2 : Nat) (a cnt : Int), (-1 ≤ a ∧ a < 8 + (n : Int)) → (∃ i : Nat, i ≤ d ∧ ui_T (r 180) a i < 8) → (0 ≤ cnt ∧ cnt + d ≤ 15) → Pc (qw_X2_fieldOf_8 nn f (V t) (-1) a cnt h) (fun u => Pc (qw_X13_memberOf_3 nn f2 (t : Int) 0 a r) (fun v => LKR V mt 0 (V t) r u v)) := by
  have H' := H
  obtain ⟨⟨H1, H2, H3⟩, ⟨n8, UP, OK, KN⟩, M, e28, HN, HC, HM⟩ := H'
  intro d
  induction d with
  | zero =>
    intro f f2 a cnt ha E hc
    obtain ⟨i, i1, i2⟩ := E
    have a8 : a < 8 := by
      have i0 : i = 0 := by omega
      rw [i0] at i2; exact i2
    refine pc_imp (P := fun u => u = -1) ?_ (fun u e => pc_imp (r_low BK H kt (by decide) f2 a (by omega)) (fun v e2 => .inl ⟨e, e2⟩))
    cases f with
    | zero => exact pc_none
    | succ f =>
      unfold qw_X2_fieldOf_8 qf_X2_isOwn
      refine pc_if (fun _ => pc_ret rfl) (fun _ => ?_)
      refine pc_sv (P := fun y => y = 0) ?_ ?_
      · exact pc_if (fun _ => pc_ret rfl) (fun y => absurd a8 y)
      · intro u1 e1
        exact pc_if (fun _ => pc_ret rfl) (fun y => absurd e1 y)
  | succ d ih =>
    intro f f2 a cnt ha E hc
    by_cases a8 : a < 8
    · refine pc_imp (P := fun u => u = -1) ?_ (fun u e => pc_imp (r_low BK H kt (by decide) f2 a (by omega)) (fun v e2 => .inl ⟨e, e2⟩))
      cases f with
      | zero => exact pc_none
      | succ f =>
        unfold qw_X2_fieldOf_8 qf_X2_isOwn
        refine pc_if (fun _ => pc_ret rfl) (fun _ => ?_)
        refine pc_sv (P := fun y => y = 0) ?_ ?_
        · exact pc_if (fun _ => pc_ret rfl) (fun y => absurd a8 y)
        · intro u1 e1
          exact pc_if (fun _ => pc_ret rfl) (fun y => absurd e1 y)
    · cases f with
      | zero => exact pc_none
      | succ f =>
        cases f2 with
        | zero => exact fun _ _ => pc_none
        | succ f2 =>
          obtain ⟨k, ak⟩ : ∃ k : Nat, a = 8 + (k : Int) := ⟨(a - 8).toNat, by omega⟩
          have kn : k < n := by omega
          unfold qw_X2_fieldOf_8
          refine pc_if (fun y => absurd y (by omega)) (fun _ => ?_)
          refine pc_sv (P := fun y => y = 1) ?_ ?_
          · unfold qf_X2_isOwn
            refine pc_if (fun y => absurd y a8) (fun _ => ?_)
            exact pc_if (fun y => absurd y (by omega)) (fun _ => pc_ret rfl)
          · intro u1 e1
            refine pc_if (fun y => absurd y (by omega)) (fun _ => ?_)
            refine pc_if (fun y => absurd rfl y) (fun _ => ?_)
            refine pc_sub (by omega) ?_; intro v2 e2
            rw [show v2 = (k : Int) by omega]
            refine pc_sv (c_fIn M (x := V t) (k := k) (by omega)) ?_; intro u4 q4
            -- the class above
            refine pc_sv (P := fun y => y = uq_T (r 180) a) ?_ ?_
            · unfold qf_X4_above qf_X4_isClass
              refine pc_sv (P := fun y => y = 1) ?_ ?_
              · refine pc_if (fun y => absurd y (by omega)) (fun _ => ?_)
                exact pc_if (fun y => absurd y (by omega)) (fun _ => pc_ret rfl)
              · intro u6 e6
                refine pc_if (fun y => absurd y (by omega)) (fun _ => ?_)
                refine pc_rA ?_; intro _ _ v3 e3
                refine pc_ret ?_
                have e13 : v3 = h 13 a.toNat := e3
                rw [e13, KN.1 a.toNat (by omega), if_neg (by omega), if_pos (by omega), uq_8 (by omega), show a.toNat - 8 = (a - 8).toNat by omega]
            · intro u7 e7
              refine pc_add (by omega) ?_; intro v8 e8
              refine pc_fl ?_
              unfold qw_X13_memberOf_3
              refine pc_if (fun y => absurd y (by omega)) (fun _ => ?_)
              refine r_12 BK H3.2.1 e28 HN kt (by decide) (by omega) (fun j hj y y2 => ?_) (fun y => ?_) nn 0 (by omega) (fun j hj => absurd hj (by omega))
              · -- the reference has found member j
                have y' : MSm r (k : Int) 0 j := by rw [show (k : Int) = a - 8 by omega]; exact y
                rcases q4 with ⟨b1, b2⟩ | ⟨i, b1, b2, b3, b4⟩
                · exact absurd ⟨j, hj, y', y2⟩ b2
                · have ij : i = j := Classical.byContradiction fun ne => by
                    by_cases lt : i < j
                    · exact M.2.2.2.1 i j k 0 lt hj b2 y' (by rw [b3, y2])
                    · exact M.2.2.2.1 j i k 0 (by omega) b1 y' b2 (by rw [b3, y2])
                  rw [ij] at b4
                  have n1 : ¬ u4 = -1 := by omega
                  refine pc_imp (c_fieldF n1 f) (fun u eu => .inr ⟨j, k, hj, by omega, y', y2, rfl, by rw [eu]; exact b4⟩)
              · rcases q4 with ⟨b1, b2⟩ | ⟨i, b1, b2, b3, b4⟩
                · rw [b1, e7]
                  refine pc_fl (ih f f2 (uq_T (r 180) a) v8 ?_ ?_ (by omega))
                  · rw [uq_8 (by omega)]
                    exact upk_b S (by omega) (UP (a - 8).toNat (by omega))
                  · obtain ⟨i, i1, i2⟩ := E
                    cases i with
                    | zero => exact absurd i2 a8
                    | succ i =>
                      refine ⟨i, by omega, ?_⟩
                      have := ui_a (U := r 180) (x := a) i 1
                      rw [show 1 + i = i + 1 by omega] at this
                      rw [this] at i2
                      exact i2
                · exact absurd ⟨by rw [show a - 8 = (k : Int) by omega]; exact b2, b3⟩ (y i b1)
/-- a lookup of both sides, from class a up -/
theorem j_fieldOf (BK : TBn K c) (S : CKd K V C n N) (H : HDS K P V C c n N mt q h r) {t : Nat} (kt : K t = 2) {a : Int} (ha : -1 ≤ a ∧ a < 8 + (n : Int)) : Pc (qf_X2_fieldOf nn a (V t) h) (fun u => Pc (qf_X13_memberOf nn a (t : Int) 0 r) (fun v => LKR V mt 0 (V t) r u v)) := by
  have n8 := H.2.1.1
  have OK := H.2.1.2.2.1
  unfold qf_X2_fieldOf qf_X13_memberOf
  refine j_field8 BK S H kt 9 nn nn a 0 ha ?_ (by decide)
  by_cases a8 : a < 8
  · exact ⟨0, by omega, a8⟩
  · obtain ⟨i, i1, i2⟩ := (OK (a - 8).toNat (by omega)).2.2
    rw [show 8 + (((a - 8).toNat : Nat) : Int) = a by omega] at i2
    exact ⟨i, by omega, i2⟩
end

section
variable {nn : Nat} {h g r z w v x f R p : ms_M} {c d e k : Int} {ω : Int → ms_M} {N : Nat} {T U : Nat → ms_M} {i t : Int} {a : Nat}
theorem upn_sub : ∀ (n m : Nat) (k a b : Int), UPn nn g n k a → UPn nn g (n + m) k b → UPn nn g m a b := by
  intro n
  induction n with
  | zero => intro m k a b p q; have p : k = a := p; rw [← p]; rw [Nat.zero_add] at q; exact q
  | succ n ih =>
    intro m k a b p q
    obtain ⟨_, y, p2, p3⟩ := p
    rw [show n + 1 + m = (n + m) + 1 by omega] at q
    obtain ⟨_, y2, q2, q3⟩ := q
    rw [← Option.some.inj (p2.symm.trans q2)] at q3
    exact ih m _ _ _ p3 q3
/-- two fields of one object lie apart -/
theorem flv_inj (hn : 1000000 ≤ nn) (X : VRC nn ω g) {a b j l s y u q n : Int} (hk : 0 ≤ k ∧ k < 8 + g 160 98) (F : FO nn g k n) (ua : UNd nn g k a) (ub : UNd nn g k b) (ha : 8 ≤ a ∧ a < 8 + g 160 98) (hb : 8 ≤ b ∧ b < 8 + g 160 98) (hj : 0 ≤ j ∧ j < g 232 (a - 8).toNat) (hl : 0 ≤ l ∧ l < g 232 (b - 8).toNat) (sa : qf_X13_superOf nn a g = some y) (sb : qf_X13_superOf nn b g = some q) (Fa : FO nn g y s) (Fb : FO nn g q u) (e : s + j = u + l) : a = b ∧ j = l := by
  have X0 := X
  obtain ⟨⟨V, S⟩, O, C, _⟩ := X
  obtain ⟨_, n1, u1⟩ := ua
  obtain ⟨_, n2, u2⟩ := ub
  have W : ∀ (a b j l s u y q : Int) (m : Nat), UPn nn g m a b → (8 ≤ a ∧ a < 8 + g 160 98) → (8 ≤ b ∧ b < 8 + g 160 98) → 0 ≤ j → (0 ≤ l ∧ l < g 232 (b - 8).toNat) → qf_X13_superOf nn a g = some y → qf_X13_superOf nn b g = some q → FO nn g y s → FO nn g q u → s + j = u + l → m = 0 := fun a b j l s u y q m up ha hb j0 hl sa sb Fa Fb e => by
    by_cases m0 : m = 0
    · exact m0
    exfalso
    obtain ⟨fa, fa1, _⟩ := fo_ex hn V S O 17 a (by omega) (chn_a C (by omega))
    obtain ⟨tb, t1, t2, t3⟩ := fo_up hn V S O m a b fa (by omega) up ⟨17, fa1⟩
    obtain ⟨y', u', p1, p2, p3⟩ := t3 m0
    rw [← Option.some.inj (sa.symm.trans p1)] at p2
    have e1 := fo_det Fa p2
    have e2 := fo_det Fb (fo_su t1 (by omega) sb)
    have fe : fm g b = g 232 (b - 8).toNat := by unfold fm; rw [if_pos hb.1]
    omega
  by_cases le : n1 ≤ n2
  · obtain ⟨m, em⟩ : ∃ m : Nat, n2 = n1 + m := ⟨n2 - n1, by omega⟩
    rw [em] at u2
    have up := upn_sub n1 m k a b u1 u2
    have m0 := W a b j l s u y q m up ha hb hj.1 hl sa sb Fa Fb e
    rw [m0] at up
    have ab : a = b := up
    rw [ab] at sa
    rw [Option.some.inj (sa.symm.trans sb)] at Fa
    have := fo_det Fa Fb
    exact ⟨ab, by omega⟩
  · obtain ⟨m, em⟩ : ∃ m : Nat, n1 = n2 + m := ⟨n1 - n2, by omega⟩
    rw [em] at u1
    have up := upn_sub n2 m k b a u2 u1
    have m0 := W b a l j u s q y m up hb ha hl.1 hj sb sa Fb Fa e.symm
    rw [m0] at up
    have ab : b = a := up
    rw [ab] at sb
    rw [Option.some.inj (sb.symm.trans sa)] at Fb
    have := fo_det Fa Fb
    exact ⟨ab.symm, by omega⟩
/-- one value of the heap is written -/
theorem hpo_w (hn : 1000000 ≤ nn) (X : VRC nn ω g) (H : HPO nn g ω R) {o y u : Int} (ho : 1 ≤ o ∧ o ≤ R 160 141) (hy : 0 ≤ y ∧ y < R 248 o.toNat) (Nr : ∀ x j : Nat, ¬ (x = 249 ∧ j = (R 247 o.toNat + y).toNat) → (x = 160 → j = 141 ∨ j = 142) → 246 ≤ x ∨ x = 160 → x ≤ 249 → r x j = R x j) (e : r 249 (R 247 o.toNat + y).toNat = u) (ok1 : 100 ≤ R 246 o.toNat → CVt nn g R (4 + 2 * (R 246 o.toNat - 100)) u) (ok2 : R 246 o.toNat < 99 → ∀ a j s t q : Int, UNd nn g (R 246 o.toNat) a → (8 ≤ a ∧ a < 8 + g 160 98) → (0 ≤ j ∧ j < g 232 (a - 8).toNat) → qf_X13_superOf nn a g = some q → FO nn g q s → TKU nn g (a - 8) (ω (a - 8)) (kdT g ω (a - 8) 0 j) t → s + j = y → CVt nn g R t u) : HX R r ∧ HPO nn g ω r := by
  have e141 : r 160 141 = R 160 141 := Nr 160 141 (by omega) (fun _ => .inl rfl) (.inr rfl) (by omega)
  have e142 : r 160 142 = R 160 142 := Nr 160 142 (by omega) (fun _ => .inr rfl) (.inr rfl) (by omega)
  have e6 : ∀ j : Nat, r 246 j = R 246 j := fun j => Nr 246 j (by omega) (by omega) (by omega) (by omega)
  have e7 : ∀ j : Nat, r 247 j = R 247 j := fun j => Nr 247 j (by omega) (by omega) (by omega) (by omega)
  have e8 : ∀ j : Nat, r 248 j = R 248 j := fun j => Nr 248 j (by omega) (by omega) (by omega) (by omega)
  have hx : HX R r := ⟨by omega, fun q _ _ => e6 _⟩
  have val : ∀ q l : Int, 1 ≤ q → q ≤ R 160 141 → 0 ≤ l → l < R 248 q.toNat → ¬ (q = o ∧ l = y) → r 249 (R 247 q.toNat + l).toNat = R 249 (R 247 q.toNat + l).toNat := fun q l q1 q2 l1 l2 ne => by
    have a1 := (H.1 q q1 q2).1
    have a2 := (H.1 o ho.1 ho.2).1
    refine Nr 249 _ (fun z => ?_) (by omega) (by omega) (by omega)
    have z2 := z.2
    by_cases lt : q < o
    · have := H.2 q o q1 lt ho.2; omega
    · by_cases gt : o < q
      · have := H.2 o q ho.1 gt q2; omega
      · have : q = o := by omega
        rw [this] at z2
        exact ne ⟨this, by omega⟩
  refine ⟨hx, fun q q1 q2 => ?_, fun q l q1 q2 q3 => ?_⟩
  · rw [e141] at q2
    obtain ⟨h1, h2⟩ := H.1 q q1 q2
    unfold OBJ FLV
    rw [e6, e7, e8, e142]
    refine ⟨h1, ?_⟩
    rcases h2 with ⟨p1, p2, p3, p4⟩ | p | ⟨p1, p2⟩
    · refine .inl ⟨p1, p2, p3, fun a j s t y2 z1 z2 z3 z4 z5 z6 => ?_⟩
      have rg := flv_rg hn X p2 z1 p3 z2 z3 z4 z5
      by_cases ne : q = o ∧ s + j = y
      · rw [ne.1, show R 247 o.toNat + s + j = R 247 o.toNat + y by omega, e]
        rw [ne.1] at z1 p1
        exact cv_x hx (ok2 p1 a j s t y2 z1 z2 z3 z4 z5 z6 ne.2)
      · rw [show R 247 q.toNat + s + j = R 247 q.toNat + (s + j) by omega, val q (s + j) q1 q2 (by omega) (by omega) ne, show R 247 q.toNat + (s + j) = R 247 q.toNat + s + j by omega]
        exact cv_x hx (p4 a j s t y2 z1 z2 z3 z4 z5 z6)
    · exact .inr (.inl p)
    · refine .inr (.inr ⟨p1, fun l l1 l2 => ?_⟩)
      by_cases ne : q = o ∧ l = y
      · rw [ne.1, ne.2, e]
        rw [ne.1] at p1
        exact cv_x hx (ok1 p1.1)
      · rw [val q l q1 q2 l1 l2 ne]
        exact cv_x hx (p2 l l1 l2)
  · rw [e141] at q3
    rw [e7, e8, e7]
    exact H.2 q l q1 q2 q3
/-- the end of a step that changed the heap: a value has come -/
theorem end_h (hn : 1000000 ≤ nn) (X : RTP nn g ω R i c k N T U t a p) {n y ty : Int} (PS : PS1 (T a) n ty (U a)) (V : VS_ r) (Nr : ∀ x j : Nat, ¬ (246 ≤ x ∧ x ≤ 249) → ¬ (x = 160 ∧ (j = 121 ∨ j = 141 ∨ j = 142)) → ¬ (x = 254 ∧ j = i.toNat) → ¬ (x = 255 ∧ j = (60 * i + 30 + (R 254 i.toNat - n)).toNat) → r x j = R x j) (e1 : r 254 i.toNat = R 254 i.toNat - n + 1) (e2 : r 255 (60 * i + 30 + (R 254 i.toNat - n)).toNat = y) (H : HX R r ∧ HPO nn g ω r) (cv : CVt nn g r ty y) (nt : ¬ (ω c 238 (p 160 134 + bp (ω c) (p 160 134) a).toNat = 167 ∨ ω c 238 (p 160 134 + bp (ω c) (p 160 134) a).toNat = 172 ∨ ω c 238 (p 160 134 + bp (ω c) (p 160 134) a).toNat = 176 ∨ ω c 238 (p 160 134 + bp (ω c) (p 160 134) a).toNat = 177 ∨ ω c 238 (p 160 134 + bp (ω c) (p 160 134) a).toNat = 191)) {b : Int} (hb : b = WD (ω c 238 (p 160 134 + bp (ω c) (p 160 134) a).toNat)) : Ok_ (mx_sv (qf_X13_on nn b r) fun u2 => some u2) (SQ nn g ω R) := by
  have hi := X.hi
  have s := X.s
  have q := PS.2
  have hx := H.1
  refine end_x hn X V (fun x j y1 y2 => Nr x j (by omega) (by omega) (by omega) (by omega)) H.2 hx ⟨fun y y1 y2 => ⟨Nr 251 _ (by omega) (by omega) (by omega) (by omega), Nr 252 _ (by omega) (by omega) (by omega) (by omega), Nr 253 _ (by omega) (by omega) (by omega) (by omega), Nr 254 _ (by omega) (by omega) (by omega) (by omega)⟩, fun y y1 y2 => Nr 255 _ (by omega) (by omega) (by omega) (by omega)⟩ (by rw [Nr 160 149 (by omega) (by omega) (by omega) (by omega)]; exact X.hd) ⟨Nr 251 _ (by omega) (by omega) (by omega) (by omega), Nr 252 _ (by omega) (by omega) (by omega) (by omega), Nr 253 _ (by omega) (by omega) (by omega) (by omega)⟩ ⟨fun u u1 u2 => ?_, by omega, fun u u1 u2 => ?_⟩ nt hb
  · rw [Nr 255 _ (by omega) (by omega) (by omega) (by omega), PS.1 243 _ (by omega) (by decide) (by omega)]
    exact cv_x hx (X.cf.1 u u1 u2)
  · by_cases u0 : u = T a 160 131 - n
    · rw [u0, q.2.2.2, ← s.1, e2]
      exact cv
    · rw [Nr 255 _ (by omega) (by omega) (by omega) (by omega), PS.1 244 _ (by omega) (by decide) (by omega)]
      exact cv_x hx (X.cf.2.2 u u1 (by omega))
/-- the same: no value comes -/
theorem end_hp (hn : 1000000 ≤ nn) (X : RTP nn g ω R i c k N T U t a p) {n : Int} (PO : POP (T a) n (U a)) (V : VS_ r) (Nr : ∀ x j : Nat, ¬ (246 ≤ x ∧ x ≤ 249) → ¬ (x = 160 ∧ (j = 121 ∨ j = 141 ∨ j = 142)) → ¬ (x = 254 ∧ j = i.toNat) → r x j = R x j) (e1 : r 254 i.toNat = R 254 i.toNat - n) (H : HX R r ∧ HPO nn g ω r) (nt : ¬ (ω c 238 (p 160 134 + bp (ω c) (p 160 134) a).toNat = 167 ∨ ω c 238 (p 160 134 + bp (ω c) (p 160 134) a).toNat = 172 ∨ ω c 238 (p 160 134 + bp (ω c) (p 160 134) a).toNat = 176 ∨ ω c 238 (p 160 134 + bp (ω c) (p 160 134) a).toNat = 177 ∨ ω c 238 (p 160 134 + bp (ω c) (p 160 134) a).toNat = 191)) {b : Int} (hb : b = WD (ω c 238 (p 160 134 + bp (ω c) (p 160 134) a).toNat)) : Ok_ (mx_sv (qf_X13_on nn b r) fun u2 => some u2) (SQ nn g ω R) := by
  have hi := X.hi
  have s := X.s
  have q := PO.2
  have hx := H.1
  refine end_x hn X V (fun x j y1 y2 => Nr x j (by omega) (by omega) (by omega)) H.2 hx ⟨fun y y1 y2 => ⟨Nr 251 _ (by omega) (by omega) (by omega), Nr 252 _ (by omega) (by omega) (by omega), Nr 253 _ (by omega) (by omega) (by omega), Nr 254 _ (by omega) (by omega) (by omega)⟩, fun y y1 y2 => Nr 255 _ (by omega) (by omega) (by omega)⟩ (by rw [Nr 160 149 (by omega) (by omega) (by omega)]; exact X.hd) ⟨Nr 251 _ (by omega) (by omega) (by omega), Nr 252 _ (by omega) (by omega) (by omega), Nr 253 _ (by omega) (by omega) (by omega)⟩ ⟨fun u u1 u2 => ?_, by omega, fun u u1 u2 => ?_⟩ nt hb
  · rw [Nr 255 _ (by omega) (by omega) (by omega), PO.1 243 _ (by omega) (by decide)]
    exact cv_x hx (X.cf.1 u u1 u2)
  · rw [Nr 255 _ (by omega) (by omega) (by omega), PO.1 244 _ (by omega) (by decide)]
    exact cv_x hx (X.cf.2.2 u u1 (by omega))
theorem cv_sub {e u y : Int} (hu : 0 ≤ u) (un : UNd nn g e u) (he : 0 ≤ e) (C : CVt nn g R (4 + 2 * e) y) : CVt nn g R (4 + 2 * u) y := by
  rcases C with C | C | C | ⟨C, D⟩
  · exfalso; omega
  · exfalso; omega
  · exact .inr (.inr (.inl C))
  · refine .inr (.inr (.inr ⟨C, .inr (.inl ⟨u, hu, rfl, ?_⟩)⟩))
    rcases D with D | ⟨q, q0, D1, D2⟩ | ⟨q, q0, D1, D2, D3⟩
    · exfalso; omega
    · have eq : q = e := by omega
      rw [eq] at D2
      rcases D2 with D2 | D2
      · rw [D2.2] at un
        exact .inl ⟨D2.1, und_0 un⟩
      · exact .inr ⟨D2.1, und_tr D2.2 un⟩
    · exfalso; omega
/-- a value of a reference's type -/
theorem cv_ref {ty y : Int} (h2 : 2 ≤ ty) (C : CVt nn g R ty y) (y0 : ¬ y = 0) : 1 ≤ y ∧ y ≤ R 160 141 := by
  rcases C with C | C | C | C
  · exfalso; omega
  · exfalso; omega
  · exact absurd C y0
  · exact C.1
/-- rows: reading and writing -/
theorem st_element (hn : 1000000 ≤ nn) (X : RTP nn g ω R i c k N T U t a p) {op o : Int} (eo : op = ω c 238 (p 160 134 + bp (ω c) (p 160 134) a).toNat) (W : WN nn (T a) ω c (ω c) t op o (U a)) (ho : op = 46 ∨ op = 50 ∨ op = 79 ∨ op = 83) : Ok_ (mx_sv (qf_X13_element nn op R) fun u42 => some u42) (SQ nn g ω R) := by
  have V := X.vs
  have hi := X.hi
  have hd := X.hd
  have s := X.s
  have H := X.hp
  have XV := X.rx.1
  have AE := X.rx.2.1
  have g98 := gF_160_98 XV.1.1
  have g141 := gF_160_141 V
  have P0 := rpo_rf V hi
  have nt : ¬ (ω c 238 (p 160 134 + bp (ω c) (p 160 134) a).toNat = 167 ∨ ω c 238 (p 160 134 + bp (ω c) (p 160 134) a).toNat = 172 ∨ ω c 238 (p 160 134 + bp (ω c) (p 160 134) a).toNat = 176 ∨ ω c 238 (p 160 134 + bp (ω c) (p 160 134) a).toNat = 177 ∨ ω c 238 (p 160 134 + bp (ω c) (p 160 134) a).toNat = 191) := by rw [← eo]; omega
  have hb : (1 : Int) = WD (ω c 238 (p 160 134 + bp (ω c) (p 160 134) a).toNat) := by
    rw [← eo]
    rcases ho with q | q | q | q <;> rw [q] <;> decide
  have sv : ∀ y : Option ms_M, (mx_sv y fun u => some u) = y := fun y => by cases y <;> rfl
  -- n: how many values came before the index; q: what is to be stored
  have B : ∀ (n q : Int) (r : ms_M), VS_ r → RPO R i n r → (n = 0 ∨ n = 1) → n + 2 ≤ R 254 i.toNat → (op ≤ 50 → n = 0 ∧ ((op = 46 ∧ (tp (T a) 1 = 3 ∨ tp (T a) 1 = 2) ∧ PS1 (T a) 2 1 (U a)) ∨ (op = 50 ∧ ((tp (T a) 1 = 2 ∧ PS1 (T a) 2 2 (U a)) ∨ ((4 ≤ tp (T a) 1 ∧ tp (T a) 1 % 2 = 1) ∧ PS1 (T a) 2 (tp (T a) 1 - 1) (U a)))))) → (50 < op → n = 1 ∧ POP (T a) 3 (U a) ∧ (-2147483648 ≤ q ∧ q ≤ 2147483647) ∧ ((op = 79 ∧ (tp (T a) 2 = 3 ∨ tp (T a) 2 = 2)) ∨ (op = 83 ∧ (tp (T a) 2 = 2 ∨ (4 ≤ tp (T a) 2 ∧ tp (T a) 2 % 2 = 1)) ∧ (q = 0 ∨ (1 ≤ q ∧ q ≤ R 160 141))))) → Ok_ (mx_sv (qj_X13_element_14 nn op q r) fun u42 => some u42) (SQ nn g ω R) := fun n q r Vr P hn1 hs rd wt => by
    rw [sv]
    unfold qj_X13_element_14
    refine ok_sv (g_drop Vr P hd hi (by omega) (by omega)) ?_; intro u19 P19
    refine ok_sv (g_drop P19.1 P19.2.1 hd hi (by omega) (by omega)) ?_; intro u21 P21
    obtain ⟨V21, Q21, q21⟩ := P21
    have cv := X.tp (y := n + 1) (by omega) (by omega)
    rw [← q21] at cv
    have fl : ∀ m : Int, (0 ≤ m ∧ m < 8) → Ok_ (mx_sv (qf_X13_fails nn m u21.2) fun u => some u) (SQ nn g ω R) := fun m hm => end_fails hn X V21 Q21 hm
    have N21 := Q21.1
    have e21 := Q21.2.1
    refine ok_if (fun o0 => ?_) (fun _ => fl 2 (by decide))
    have tpo : 2 ≤ tp (T a) (n + 1) ∧ ¬ tp (T a) (n + 1) = 2 ∨ tp (T a) (n + 1) = 2 := by
      by_cases l : op ≤ 50
      · obtain ⟨n0, y⟩ := rd l
        rw [n0, show (0 : Int) + 1 = 1 by omega]
        omega
      · obtain ⟨n0, _, _, y⟩ := wt (by omega)
        rw [n0, show (1 : Int) + 1 = 2 by omega]
        omega
    have n2 : ¬ tp (T a) (n + 1) = 2 := fun z => by
      rw [z] at cv
      rcases cv with y | y | y | ⟨_, y⟩
      · omega
      · omega
      · exact o0 y
      · rcases y with y | ⟨u, u0, y, _⟩ | ⟨u, u0, y, _⟩ <;> omega
    have ob := cv_ref (by omega) cv o0
    have hx0 : ∀ x j : Nat, x ≤ 249 → u21.2 x j = R x j := fun x j q => N21 x j (by omega)
    refine ok_if (fun _ => fl 3 (by decide)) (fun id0 => ?_)
    refine ok_rd (by omega) (gA_248 V21) ?_; intro v23 e23 _ _
    rw [hx0 248 _ (by omega)] at e23
    refine ok_if (fun id1 => ?_) (fun _ => fl 3 (by decide))
    obtain ⟨o1, o2⟩ := H.1 u21.1 ob.1 ob.2
    have g142 := gF_160_142 V
    have K99 : (50 < op → 100 ≤ R 246 u21.1.toNat → CVt nn g R (4 + 2 * (R 246 u21.1.toNat - 100)) q) → (50 < op → 99 ≤ R 246 u21.1.toNat) → Ok_ (qj_X13_element_99 nn op q u19.1 u21.1 u21.2) (SQ nn g ω R) := fun okv sr => by
      unfold qj_X13_element_99
      refine ok_if (fun l => ?_) (fun l => ?_)
      · obtain ⟨n0, y⟩ := rd l
        rw [n0, show (0 : Int) + 1 = 1 by omega] at cv
        refine ok_rd (by omega) (gA_247 V21) ?_; intro v5 e5 _ _
        rw [hx0 247 _ (by omega)] at e5
        refine ok_add (by omega) ?_; intro v6 e6
        refine ok_rd (by omega) (gA_249 V21) ?_; intro v7 e7 b1 b2
        rw [hx0 249 _ (by omega)] at e7
        rw [n0, show (0 : Int) + 1 + 1 = 2 by omega] at Q21
        unfold qj_X13_element_141
        rcases y with ⟨oo, tt, ps⟩ | ⟨oo, tt⟩
        · exact end_give hn X ps V21 Q21 ⟨b1, b2⟩ cv_i nt hb
        · rcases tt with ⟨t1, _⟩ | ⟨t1, ps⟩
          · rw [n0, show (0 : Int) + 1 = 1 by omega] at n2; exact absurd t1 n2
          refine end_give hn X ps V21 Q21 ⟨b1, b2⟩ ?_ nt hb
          rcases cv with y | y | y | ⟨_, y⟩
          · exfalso; omega
          · exfalso; omega
          · exact absurd y o0
          · rcases y with y | ⟨u, u0, y, _⟩ | ⟨u, u0, y, z1, z2⟩
            · exfalso; omega
            · exfalso; omega
            · rw [show tp (T a) 1 - 1 = 4 + 2 * u by omega]
              rcases o2 with o2 | o2 | o2
              · exfalso; omega
              · exfalso; omega
              · refine cv_sub u0 z2 (by omega) ?_
                rw [e7, e6, e5]
                exact o2.2 u19.1 (by omega) (by omega)
      · obtain ⟨n0, po, qb, _⟩ := wt (by omega)
        rw [n0, show (1 : Int) + 1 + 1 = 3 by omega] at Q21
        have e21 := Q21.2.1
        refine ok_rd (by omega) (gA_247 V21) ?_; intro v12 e12 _ _
        rw [hx0 247 _ (by omega)] at e12
        refine ok_add (by omega) ?_; intro v13 e13
        refine ok_wA (by omega) ?_; intro h14 E14
        have V14 : VS_ h14 := by rw [E14]; exact wA_249 V21 qb
        rw [show v13.toNat = (R 247 u21.1.toNat + u19.1).toNat by omega] at E14
        have HH := hpo_w hn XV H (r := h14) (y := u19.1) (u := q) ob (by omega) (fun x j y1 y2 y3 y4 => by rw [E14, up_n (by omega)]; exact hx0 x j y4) (by rw [E14, up_s]) (okv (by omega)) (fun z => by have := sr (by omega); exfalso; omega)
        unfold qj_X13_element_141
        exact end_hp hn X po V14 (fun x j y1 y2 y3 => by rw [E14, up_n (by omega)]; exact Q21.1 x j (by omega)) (by rw [E14, up_n (by omega)]; exact e21) HH nt hb
    have sr : 50 < op → 99 ≤ R 246 u21.1.toNat := fun l => by
      obtain ⟨n0, _, _, y⟩ := wt l
      rw [n0, show (1 : Int) + 1 = 2 by omega] at cv n2
      rcases cv with z | z | z | ⟨_, z⟩
      · exfalso; omega
      · exfalso; omega
      · exact absurd z o0
      · rcases z with z | ⟨u, u0, z, _⟩ | ⟨u, u0, z, z1, z2⟩ <;> omega
    refine ok_if (fun o83 => K99 (fun l z => ?_) sr) (fun o83 => ?_)
    · -- 79: a row of ints
      obtain ⟨n0, _, _, y⟩ := wt l
      rw [n0, show (1 : Int) + 1 = 2 by omega] at cv n2
      exfalso
      rcases cv with z2 | z2 | z2 | ⟨_, z2⟩
      · omega
      · omega
      · exact o0 z2
      · rcases z2 with z2 | ⟨u, u0, z2, _⟩ | ⟨u, u0, z2, z3, z4⟩ <;> omega
    have o83 : op = 83 := Decidable.not_not.1 o83
    refine ok_if (fun q0 => K99 (fun _ _ => by rw [q0]; exact cv_0) sr) (fun q0 => ?_)
    obtain ⟨n0, _, _, y⟩ := wt (by omega)
    have qr : 1 ≤ q ∧ q ≤ R 160 141 := by omega
    rw [n0, show (1 : Int) + 1 = 2 by omega] at cv n2
    have s100 : 100 ≤ R 246 u21.1.toNat := by
      rcases cv with z | z | z | ⟨_, z⟩
      · exfalso; omega
      · exfalso; omega
      · exact absurd z o0
      · rcases z with z | ⟨u, u0, z, _⟩ | ⟨u, u0, z, z1, z2⟩ <;> omega
    have s98 : R 246 u21.1.toNat - 100 < 8 + g 160 98 := by
      rcases o2 with o2 | o2 | o2
      · exfalso; omega
      · exfalso; omega
      · exact o2.1.2
    refine ok_rd (by omega) (gA_246 V21) ?_; intro v25 e25 _ _
    rw [hx0 246 _ (by omega)] at e25
    refine ok_sub (by omega) ?_; intro v26 e26
    have AE21 : AGe g u21.2 := (rx_k (rpo_k hi.1 Q21).1.1 V21 X.rx).2.1
    have e246 : u21.2 246 q.toNat = R 246 q.toNat := hx0 246 _ (by omega)
    have ones : Ok_ (qf_X13_storesIn nn q v26 u21.2) (fun u => (u = 1 ∧ ((99 ≤ R 246 q.toNat ∧ v26 = 0) ∨ (R 246 q.toNat < 99 ∧ UNd nn g (R 246 q.toNat) v26))) ∨ u = 0) := by
      unfold qf_X13_storesIn
      refine ok_sv (rt_isOne hn XV AE21 V21 (o := q) (t := v26) (by omega) (by
        rw [e246]
        intro z
        rcases (H.1 q qr.1 qr.2).2 with z1 | z1 | z1
        · exact z1.2.1
        · exfalso; omega
        · exfalso; omega) (by omega)) ?_
      intro u2 P2
      rw [e246] at P2
      refine ok_ck (by omega) (ok_ret ?_)
      rcases P2 with P | P
      · exact .inl P
      · exact .inr P.1
    refine ok_sv ones ?_; intro u28 P28
    refine ok_if (fun n28 => K99 (fun _ _ => ?_) sr) (fun _ => fl 7 (by decide))
    rcases P28 with P | P
    · refine .inr (.inr (.inr ⟨qr, .inr (.inl ⟨R 246 u21.1.toNat - 100, by omega, rfl, ?_⟩)⟩))
      have := P.2
      rw [show v26 = R 246 u21.1.toNat - 100 by omega] at this
      exact this
    · exact absurd P n28
  unfold qf_X13_element
  by_cases l : op ≤ 50
  · rw [if_pos l]
    rcases ho with q | q | q | q
    · obtain ⟨w1, w2, w3⟩ := wnx_6 W q
      exact B 0 0 R V P0 (.inl rfl) (by have := w3.2.2.1; omega) (fun _ => ⟨rfl, .inl ⟨q, w2, w3⟩⟩) (fun z => by exfalso; omega)
    · obtain ⟨w1, w2⟩ := wnx_7 W q
      have ln : 2 ≤ R 254 i.toNat := by
        rcases w2 with w2 | w2
        · have := w2.2.2.2.1; omega
        · have := w2.2.2.2.1; omega
      exact B 0 0 R V P0 (.inl rfl) (by omega) (fun _ => ⟨rfl, .inr ⟨q, w2⟩⟩) (fun z => by exfalso; omega)
    · exfalso; omega
    · exfalso; omega
  · rw [if_neg l]
    rcases ho with q | q | q | q
    · exfalso; omega
    · exfalso; omega
    · obtain ⟨w1, w2, w3, w4⟩ := wnx_8 W q
      have ln := w4.2.2
      rw [sv]
      refine ok_sv (g_drop V P0 hd hi (by omega) (by omega)) ?_; intro u40 P40
      have bq := gA_255 V (60 * i + 30 + (R 254 i.toNat - 1 - 0)).toNat (by omega)
      rw [← P40.2.2] at bq
      have := B 1 u40.1 u40.2 P40.1 P40.2.1 (.inr rfl) (by omega) (fun z => by exfalso; omega) (fun _ => ⟨rfl, w4, bq, .inl ⟨q, w3⟩⟩)
      rw [sv] at this
      exact this
    · obtain ⟨w1, w2, w3, w4⟩ := wnx_9 W q
      have ln := w4.2.2
      rw [sv]
      refine ok_sv (g_drop V P0 hd hi (by omega) (by omega)) ?_; intro u40 P40
      have bq := gA_255 V (60 * i + 30 + (R 254 i.toNat - 1 - 0)).toNat (by omega)
      have cv := X.tp (y := 0) (by omega) (by omega)
      rw [← P40.2.2] at bq cv
      have := B 1 u40.1 u40.2 P40.1 P40.2.1 (.inr rfl) (by omega) (fun z => by exfalso; omega) (fun _ => ⟨rfl, w4, bq, .inr ⟨q, w3, by
        by_cases z : u40.1 = 0
        · exact .inl z
        · exact .inr (cv_ref w1 cv z)⟩⟩)
      rw [sv] at this
      exact this
end

/- HEADS: types of both sides -/
/-- the reference's number of a class's type -/
def ty_T (t : Int) : Int := if t = 301 then 0 else if t = 302 then 1 else if t = 300 then 2 else if t = 303 then 3 else if t = 200 then 4 else if t < 100 then 8 + 2 * t else 2 * t - 191
def VTy (t : Int) : Prop := t = 301 ∨ t = 302 ∨ t = 303 ∨ t = 300 ∨ t = 200 ∨ (0 ≤ t ∧ t < 16) ∨ (100 ≤ t ∧ t < 116)
/-- the type that is spelled at token p -/
def TYS (V : Nat → Int) (C : Nat → Nat) (n : Nat) (p bs rw ty : Int) : Prop := (bs = 1 ∧ ty = 302) ∨ (bs = 0 ∧ rw = 0 ∧ ty = 301) ∨ (bs = 0 ∧ rw = 1 ∧ ty = 200) ∨ (bs = 2 ∧ ty = 303) ∨ (bs = 3 ∧ ∃ cl : Int, CLz (fun k => V (C k)) n (V p.toNat) cl ∧ ¬ cl = -1 ∧ ((rw = 0 ∧ ty = cl) ∨ (rw = 1 ∧ ty = 100 + cl)))
section
variable {nn : Nat} {K P V U : Nat → Int} {C : Nat → Nat} {c n N : Nat} {h g r w u v : ms_M}
theorem ty_c {t : Int} (H : VTy t) : (t = 301 ∧ ty_T t = 0) ∨ (t = 302 ∧ ty_T t = 1) ∨ (t = 300 ∧ ty_T t = 2) ∨ (t = 303 ∧ ty_T t = 3) ∨ (t = 200 ∧ ty_T t = 4) ∨ ((0 ≤ t ∧ t < 16) ∧ ty_T t = 8 + 2 * t) ∨ ((100 ≤ t ∧ t < 116) ∧ ty_T t = 2 * t - 191) := by
  rcases H with e | e | e | e | e | e | e
  · rw [e]; exact .inl ⟨rfl, rfl⟩
  · rw [e]; exact .inr (.inl ⟨rfl, rfl⟩)
  · rw [e]; exact .inr (.inr (.inr (.inl ⟨rfl, rfl⟩)))
  · rw [e]; exact .inr (.inr (.inl ⟨rfl, rfl⟩))
  · rw [e]; exact .inr (.inr (.inr (.inr (.inl ⟨rfl, rfl⟩))))
  · refine .inr (.inr (.inr (.inr (.inr (.inl ⟨e, ?_⟩)))))
    unfold ty_T
    rw [if_neg (by omega), if_neg (by omega), if_neg (by omega), if_neg (by omega), if_neg (by omega), if_pos (by omega)]
  · refine .inr (.inr (.inr (.inr (.inr (.inr ⟨e, ?_⟩)))))
    unfold ty_T
    rw [if_neg (by omega), if_neg (by omega), if_neg (by omega), if_neg (by omega), if_neg (by omega), if_neg (by omega)]
theorem ty_i {a b : Int} (A : VTy a) (B : VTy b) : ty_T a = ty_T b ↔ a = b := by
  have x := ty_c A
  have y := ty_c B
  constructor
  · intro e; omega
  · intro e; rw [e]
theorem tys_d {p bs rw a b : Int} (A : TYS V C n p bs rw a) (B : TYS V C n p bs rw b) : a = b := by
  rcases A with ⟨a1, a2⟩ | ⟨a1, a2, a3⟩ | ⟨a1, a2, a3⟩ | ⟨a1, a2⟩ | ⟨a1, x, a2, a3, a4⟩
  · rcases B with ⟨b1, b2⟩ | ⟨b1, b2, b3⟩ | ⟨b1, b2, b3⟩ | ⟨b1, b2⟩ | ⟨b1, _⟩ <;> omega
  · rcases B with ⟨b1, b2⟩ | ⟨b1, b2, b3⟩ | ⟨b1, b2, b3⟩ | ⟨b1, b2⟩ | ⟨b1, _⟩ <;> omega
  · rcases B with ⟨b1, b2⟩ | ⟨b1, b2, b3⟩ | ⟨b1, b2, b3⟩ | ⟨b1, b2⟩ | ⟨b1, _⟩ <;> omega
  · rcases B with ⟨b1, b2⟩ | ⟨b1, b2, b3⟩ | ⟨b1, b2, b3⟩ | ⟨b1, b2⟩ | ⟨b1, _⟩ <;> omega
  · rcases B with ⟨b1, b2⟩ | ⟨b1, b2, b3⟩ | ⟨b1, b2, b3⟩ | ⟨b1, b2⟩ | ⟨b1, y, b2, b3, b4⟩
    · omega
    · omega
    · omega
    · omega
    · have e := cls_d a2 b2
      omega
theorem tys_v (S : CKd K V C n N) (n8 : n ≤ 8) {p bs rw a : Int} (kp : bs = 3 → K p.toNat = 2) (A : TYS V C n p bs rw a) : VTy a ∧ (bs = 2 ∨ ¬ a = 303) ∧ ¬ a = 300 := by
  rcases A with ⟨a1, a2⟩ | ⟨a1, a2, a3⟩ | ⟨a1, a2, a3⟩ | ⟨a1, a2⟩ | ⟨a1, x, a2, a3, a4⟩
  · exact ⟨.inr (.inl a2), .inr (by omega), by omega⟩
  · exact ⟨.inl a3, .inr (by omega), by omega⟩
  · exact ⟨.inr (.inr (.inr (.inr (.inl a3)))), .inr (by omega), by omega⟩
  · exact ⟨.inr (.inr (.inl a2)), .inl a1, by omega⟩
  · have b := cls_b a2 (S.2.2 _ (kp a1)).1
    rcases a4 with ⟨d1, d2⟩ | ⟨d1, d2⟩
    · exact ⟨.inr (.inr (.inr (.inr (.inr (.inl (by omega)))))), .inr (by omega), by omega⟩
    · exact ⟨.inr (.inr (.inr (.inr (.inr (.inr (by omega)))))), .inr (by omega), by omega⟩
theorem cy_109 {l1 l3 l4 : Int} (hl : -1 ≤ l3 ∧ l3 ≤ 1000) : Pc (qj_X2_readType_109 nn l1 l3 l4 h) (fun u => u.2 = h ∧ ((l1 = 20 ∧ l4 = 0 ∧ u.1 = 301) ∨ (l1 = 20 ∧ ¬ l4 = 0 ∧ u.1 = 200) ∨ (¬ l1 = 20 ∧ l4 = 0 ∧ u.1 = l3) ∨ (¬ l1 = 20 ∧ ¬ l4 = 0 ∧ u.1 = 100 + l3))) := by
  unfold qj_X2_readType_109
  refine pc_if (fun z => ?_) (fun z => ?_)
  · refine pc_if (fun y => ?_) (fun y => ?_)
    · exact pc_ret ⟨rfl, .inr (.inr (.inl ⟨z, y, rfl⟩))⟩
    · refine pc_add (by omega) ?_; intro v1 e1
      exact pc_ret ⟨rfl, .inr (.inr (.inr ⟨z, y, e1⟩))⟩
  · have z1 : l1 = 20 := Classical.byContradiction z
    refine pc_if (fun y => ?_) (fun y => ?_)
    · exact pc_ret ⟨rfl, .inl ⟨z1, y, rfl⟩⟩
    · exact pc_ret ⟨rfl, .inr (.inl ⟨z1, y, rfl⟩)⟩
/-- behind the NAME: [ ] or nothing -/
theorem cy_53 (BK : TBn K c) (B : TBc K P c h) (hf : h 2 11 = 0) {p : Nat} {l1 l2 s0 : Int} (hp : p + 1 < c) (h10 : h 2 10 = ((p + 1 : Nat) : Int)) (hs : -1 ≤ s0 ∧ s0 ≤ 1000) (s1 : ¬ s0 = -1) : Pc (qj_X2_readType_53 nn l1 l2 s0 h) (fun u => (∀ cc y : Nat, ¬ (cc = 2 ∧ y = 10) → u.2 cc y = h cc y) ∧ ((K (p + 1) = 44 ∧ u.2 2 10 = ((p + 3 : Nat) : Int) ∧ ((l1 = 20 ∧ u.1 = 200) ∨ (¬ l1 = 20 ∧ u.1 = 100 + s0))) ∨ (¬ K (p + 1) = 44 ∧ u.2 2 10 = ((p + 1 : Nat) : Int) ∧ ((l1 = 20 ∧ u.1 = 301) ∨ (¬ l1 = 20 ∧ u.1 = s0))))) := by
  have n3 := BK.2.1
  unfold qj_X2_readType_53
  refine pc_if (fun _ => ?_) (fun z => absurd s1 z)
  refine pc_sv (c_kind BK B hp h10 hf) ?_; intro u12 q12
  refine pc_if (fun z => ?_) (fun z => ?_)
  · unfold qj_X2_readType_89
    refine pc_if (fun _ => ?_) (fun y => absurd rfl y)
    refine pc_imp (cy_109 hs) (fun u q => ⟨fun cc y _ => by rw [q.1], .inr ⟨by omega, by rw [q.1]; exact h10, ?_⟩⟩)
    rcases q.2 with ⟨a, b, d⟩ | ⟨a, b, d⟩ | ⟨a, b, d⟩ | ⟨a, b, d⟩
    · exact .inl ⟨a, d⟩
    · exact absurd rfl b
    · exact .inr ⟨a, d⟩
    · exact absurd rfl b
  · unfold qj_X2_readType_89
    refine pc_if (fun y => absurd y (by decide)) (fun _ => ?_)
    rw [h10]
    refine pc_add (by omega) ?_; intro v7 e7
    refine pc_xl ?_; intro h8 e8
    refine pc_imp (cy_109 hs) (fun u q => ⟨fun cc y y2 => by rw [q.1, e8, up_n y2], .inl ⟨by omega, by rw [q.1, e8, up_s]; omega, ?_⟩⟩)
    rcases q.2 with ⟨a, b, d⟩ | ⟨a, b, d⟩ | ⟨a, b, d⟩ | ⟨a, b, d⟩
    · exact absurd b (by decide)
    · exact .inl ⟨a, d⟩
    · exact absurd b (by decide)
    · exact .inr ⟨a, d⟩
theorem c_type (BK : TBn K c) (S : CKd K V C n N) (n8 : n ≤ 8) (B : TBc K P c h) (L : VLc K V c h) (NC : NCl V C n N h) (hf : h 2 11 = 0) {p : Nat} {t bs rw : Int} (h10 : h 2 10 = (p : Int)) (T : TYk K (p : Int) t bs rw) (hc : p + 1 < c) : Pc (qf_X2_readType nn h) (fun u => (TYS V C n (p : Int) bs rw u.1 ∧ u.2 2 10 = t ∧ ∀ cc y : Nat, ¬ (cc = 2 ∧ y = 10) → u.2 cc y = h cc y) ∨ (bs = 3 ∧ CLz (fun k => V (C k)) n (V p) (-1) ∧ u.2 2 11 = 5 ∧ u.2 2 12 = P p)) := by
  have n3 := BK.2.1
  unfold qf_X2_readType
  refine pc_sv (c_kind BK B (p := p) (by omega) h10 hf) ?_; intro u20 q20
  rw [h10]
  refine pc_add (by omega) ?_; intro v25 e25
  refine pc_xl ?_; intro h26 e26
  have F : ∀ cc y : Nat, ¬ (cc = 2 ∧ y = 10) → h26 cc y = h cc y := fun cc y z => by rw [e26, up_n z]
  have F10 : h26 2 10 = ((p + 1 : Nat) : Int) := by rw [e26, up_s]; omega
  have B2 := tbc_k B (fun cc y z => F cc y (by omega))
  have f2 : h26 2 11 = 0 := by rw [F 2 11 (by omega)]; exact hf
  have L2 : VLc K V c h26 := fun i hi ki => by rw [F 5 i (by omega)]; exact L i hi ki
  have NC2 : NCl V C n N h26 := fun x hx => by rw [F 16 x (by omega)]; exact NC x hx
  unfold TYk at T
  rw [show ((p : Int)).toNat = p by omega, show ((p : Int) + 1).toNat = p + 1 by omega, show ((p : Int) + 2).toNat = p + 2 by omega] at T
  rcases T with ⟨k10, a1, a2, a3⟩ | ⟨k, T⟩
  · refine pc_if (fun z => absurd (q20.trans k10) z) (fun _ => ?_)
    exact pc_ret (.inl ⟨.inl ⟨a1, rfl⟩, by show h26 2 10 = t; omega, F⟩)
  · refine pc_if (fun _ => ?_) (fun z => absurd (fun y => by omega) z)
    rcases k with ⟨k20, b0⟩ | ⟨k2, b0⟩
    · refine pc_if (fun _ => ?_) (fun z => absurd (fun y => by omega) z)
      refine pc_imp (cy_53 BK B2 f2 hc F10 (by decide) (by decide)) (fun u q => .inl ?_)
      refine ⟨?_, ?_, fun cc y z => by rw [q.1 cc y z]; exact F cc y z⟩
      · rcases T with ⟨t1, t2, t3, t4⟩ | ⟨t1, t2, t3⟩
        · rcases q.2 with ⟨_, _, ⟨_, d⟩ | ⟨d, _⟩⟩ | ⟨d, _⟩
          · exact .inr (.inr (.inl ⟨b0, t3, d⟩))
          · exact absurd (q20.trans k20) d
          · exact absurd t1 d
        · rcases q.2 with ⟨d, _⟩ | ⟨_, _, ⟨_, d⟩ | ⟨d, _⟩⟩
          · exact absurd d t1
          · exact .inr (.inl ⟨b0, t2, d⟩)
          · exact absurd (q20.trans k20) d
      · rcases q.2 with ⟨d, e, _⟩ | ⟨d, e, _⟩ <;> omega
    · refine pc_if (fun z => absurd (q20.trans k2) z) (fun _ => ?_)
      refine pc_sv (c_classAt BK S B2 L2 NC2 k2 rfl) ?_; intro u28 q28
      have vb := S.2.2 p k2
      have cb := cls_b q28 vb.1
      by_cases m1 : u28 = -1
      · unfold qj_X2_readType_53
        refine pc_if (fun z => absurd m1 z) (fun _ => ?_)
        refine pc_sv (c_tell B2 f2 (t := p) (by omega) rfl) ?_; intro u16 q16
        refine pc_ret (.inr ⟨b0, by rw [← m1]; exact q28, q16.1⟩)
      · refine pc_imp (cy_53 BK B2 f2 hc F10 (by omega) m1) (fun u q => .inl ?_)
        refine ⟨.inr (.inr (.inr (.inr ⟨b0, u28, by rw [Int.toNat_natCast]; exact q28, m1, ?_⟩))), ?_, fun cc y z => by rw [q.1 cc y z]; exact F cc y z⟩
        · rcases T with ⟨t1, t2, t3, t4⟩ | ⟨t1, t2, t3⟩
          · rcases q.2 with ⟨_, _, ⟨d, _⟩ | ⟨_, d⟩⟩ | ⟨d, _⟩
            · omega
            · exact .inr ⟨t3, d⟩
            · exact absurd t1 d
          · rcases q.2 with ⟨d, _⟩ | ⟨_, _, ⟨d, _⟩ | ⟨_, d⟩⟩
            · exact absurd d t1
            · omega
            · exact .inl ⟨t2, d⟩
        · rcases q.2 with ⟨d, e, _⟩ | ⟨d, e, _⟩ <;> omega
theorem r_56 {l3 l4 : Int} (hl : -1 ≤ l4 ∧ l4 ≤ 1000) : Pc (qj_X13_typeOf_56 nn l3 l4 r) (fun v => v.2 = r ∧ ((l3 = 0 ∧ v.1 = 8 + 2 * l4) ∨ (¬ l3 = 0 ∧ v.1 = 9 + 2 * l4))) := by
  unfold qj_X13_typeOf_56
  refine pc_xl ?_; intro v1 e1
  rw [oq_mul_eq (by omega) (by omega) (by omega)] at e1
  refine pc_add (by omega) ?_; intro v2 e2
  refine pc_if (fun z => ?_) (fun z => ?_)
  · refine pc_add (by omega) ?_; intro v3 e3
    exact pc_ret ⟨rfl, .inl ⟨z, by omega⟩⟩
  · refine pc_add (by omega) ?_; intro v4 e4
    exact pc_ret ⟨rfl, .inr ⟨z, by omega⟩⟩
theorem r_type (BK : TBn K c) (S : CKd K V C n N) (n8 : n ≤ 8) (D : HDr K P V C c n r) (rf : r 160 9 = 0) {p : Nat} {bs rw : Int} (hb : bs = 0 ∨ bs = 1 ∨ bs = 2 ∨ (bs = 3 ∧ K p = 2)) (hr : rw = 0 ∨ rw = 1) : Pc (qf_X13_typeOf nn bs (p : Int) rw r) (fun v => ((∃ ty : Int, TYS V C n (p : Int) bs rw ty ∧ v.1 = ty_T ty) ∧ v.2 = r) ∨ (bs = 3 ∧ CLz (fun k => V (C k)) n (V p) (-1) ∧ v.2 160 9 = 5 ∧ v.2 160 10 = P p)) := by
  unfold qf_X13_typeOf
  refine pc_if (fun _ => ?_) (fun z => absurd rf z)
  refine pc_if (fun z0 => ?_) (fun z0 => ?_)
  · refine pc_if (fun z1 => ?_) (fun z1 => ?_)
    · refine pc_if (fun z2 => ?_) (fun z2 => ?_)
      · have k2 : bs = 3 ∧ K p = 2 := by omega
        have vb := S.2.2 p k2.2
        refine pc_sv (r_classOf BK S D k2.2 rfl) ?_; intro u8 q8
        have cb := cls_b q8 vb.1
        refine pc_if (fun m1 => ?_) (fun m1 => ?_)
        · refine pc_imp (r_56 (by omega)) (fun v q => .inl ⟨?_, q.1⟩)
          rcases hr with e | e
          · refine ⟨u8, .inr (.inr (.inr (.inr ⟨k2.1, u8, by rw [Int.toNat_natCast]; exact q8, m1, .inl ⟨e, rfl⟩⟩))), ?_⟩
            have t := ty_c (t := u8) (.inr (.inr (.inr (.inr (.inr (.inl (by omega)))))))
            rcases q.2 with ⟨a, b⟩ | ⟨a, b⟩ <;> omega
          · refine ⟨100 + u8, .inr (.inr (.inr (.inr ⟨k2.1, u8, by rw [Int.toNat_natCast]; exact q8, m1, .inr ⟨e, rfl⟩⟩))), ?_⟩
            have t := ty_c (t := 100 + u8) (.inr (.inr (.inr (.inr (.inr (.inr (by omega)))))))
            rcases q.2 with ⟨a, b⟩ | ⟨a, b⟩ <;> omega
        · have m2 : u8 = -1 := Classical.byContradiction m1
          refine pc_sv (r_wrg D.1 rf (t := p) (tb_lt BK (by omega)) rfl) ?_; intro u10 q10
          refine pc_imp (r_56 (by omega)) (fun v q => .inr ⟨k2.1, by rw [← m2]; exact q8, by rw [q.1]; exact q10.1⟩)
      · exact pc_ret (.inl ⟨⟨303, .inr (.inr (.inr (.inl ⟨by omega, rfl⟩))), rfl⟩, rfl⟩)
    · exact pc_ret (.inl ⟨⟨302, .inl ⟨by omega, rfl⟩, rfl⟩, rfl⟩)
  · refine pc_if (fun z => ?_) (fun z => ?_)
    · exact pc_ret (.inl ⟨⟨301, .inr (.inl ⟨by omega, z, rfl⟩), rfl⟩, rfl⟩)
    · exact pc_ret (.inl ⟨⟨200, .inr (.inr (.inl ⟨by omega, by omega, rfl⟩)), rfl⟩, rfl⟩)
theorem tyk_b {p t bs rw : Int} (T : TYk K p t bs rw) : (bs = 0 ∨ bs = 1 ∨ (bs = 3 ∧ K p.toNat = 2)) ∧ (rw = 0 ∨ rw = 1) ∧ (t = p + 1 ∨ t = p + 3) := by
  rcases T with ⟨a, b, d, e⟩ | ⟨a, ⟨b1, b2, b3, b4⟩ | ⟨b1, b2, b3⟩⟩ <;> omega
end

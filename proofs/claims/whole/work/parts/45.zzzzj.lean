/- IMAGES: the bytes behind the pool, both sides -/
def CPt (v : Int) (h u : ms_M) : Prop := u 45 7 = h 45 7 + 1 ∧ (h 45 7 < 6000 → u 48 (h 45 7).toNat = oq_b v) ∧ ∀ cc x : Nat, ¬ (cc = 45 ∧ x = 7) → ¬ (cc = 48 ∧ x = (h 45 7).toNat) → u cc x = h cc x
def RTl (v : Int) (m w : ms_M) : Prop := w 160 97 = m 160 97 + 1 ∧ (m 160 97 < 40000 → w 225 (m 160 97).toNat = oq_and v 255) ∧ ∀ cc x : Nat, ¬ (cc = 160 ∧ x = 97) → ¬ (cc = 225 ∧ x = (m 160 97).toNat) → w cc x = m cc x
/-- the bytes told so far, while the pool is not over -/
def BYS (B : Int) (h m : ms_M) : Prop := ((0 ≤ h 45 7 ∧ h 45 7 ≤ B) ∧ 0 ≤ m 160 97 ∧ m 160 97 ≤ B) ∧ (h 45 5 = 0 → h 45 7 = m 160 97 ∧ ∀ x : Nat, (x : Int) < h 45 7 → x < 6000 → m 225 x = h 48 x % 256)
/-- pool, texts and bytes -/
def PBX (X : BCx) (B : Int) (h m : ms_M) : Prop := (PLR h m ∧ MBd m ∧ SPL m []) ∧ TXE (bK X) (bV X) (bC X) (bW X) (bn X) (bA X) (bB X) h m ∧ BYS B h m
/-- what is left as it is where bytes are told -/
def WFc (h u : ms_M) : Prop := (h 45 5 = 1 → u 45 5 = 1) ∧ ∀ cc y : Nat, ¬ (cc = 45 ∧ (y = 4 ∨ y = 5 ∨ y = 7)) → ¬ (46 ≤ cc ∧ cc ≤ 48) → u cc y = h cc y
def WFr (m w : ms_M) : Prop := ∀ cc y : Nat, ¬ (cc = 160 ∧ (y = 62 ∨ y = 64 ∨ y = 66 ∨ y = 97)) → ¬ (200 ≤ cc ∧ cc ≤ 205) → ¬ cc = 225 → w cc y = m cc y
/-- the reference's f does from any memory like m0 what the class has done from h to g -/
def RWq (X : BCx) (B B' : Int) (m0 : ms_M) (f : ms_M → Option ms_M) (h g : ms_M) : Prop := WFc h g ∧ ∀ m, WFr m0 m → PBX X B h m → Pc (f m) (fun w => PBX X B' g w ∧ WFr m0 w)
section
variable {nn : Nat} {X : BCx} {B B' B2 v v2 t x : Int} {h g u g2 m m0 w : ms_M} {f f2 : ms_M → Option ms_M}
theorem c_put {v : Int} (hl : 0 ≤ h 45 7 ∧ h 45 7 ≤ 2000000000) : Pc (qf_X6_put nn v h) (fun u => CPt v h u) := by
  have F : ∀ g : ms_M, g 45 7 = h 45 7 → (h 45 7 < 6000 → g 48 (h 45 7).toNat = oq_b v) → (∀ cc x : Nat, ¬ (cc = 48 ∧ x = (h 45 7).toNat) → g cc x = h cc x) → Pc (qj_X6_put_23 nn g) (fun u => CPt v h u) := fun g g1 g2 g3 => by
    unfold qj_X6_put_23
    refine pc_add (by omega) ?_; intro v2 e2
    refine pc_xl ?_; intro h3 e3
    exact pc_ret ⟨by rw [e3, up_s]; omega, fun q => by rw [e3, up_n (by omega)]; exact g2 q, fun cc x z1 z2 => by rw [e3, up_n z1]; exact g3 cc x z2⟩
  unfold qf_X6_put
  refine pc_if (fun z => F h rfl (fun q => absurd q (by omega)) (fun _ _ _ => rfl)) (fun z => ?_)
  refine pc_xl ?_; intro v9 e9
  refine pc_wB ?_; intro _ _ h10 e10
  exact F h10 (by rw [e10, up_n (by omega)]) (fun _ => by rw [e10, up_s, e9, oq_b_b]) (fun cc x z => by rw [e10, up_n z])
theorem r_tellb {v : Int} (hl : 0 ≤ m 160 97 ∧ m 160 97 ≤ 2000000000) : Pc (qf_X13_tell nn v m) (fun w => RTl v m w) := by
  have F : ∀ g : ms_M, g 160 97 = m 160 97 → (m 160 97 < 40000 → g 225 (m 160 97).toNat = oq_and v 255) → (∀ cc x : Nat, ¬ (cc = 225 ∧ x = (m 160 97).toNat) → g cc x = m cc x) → Pc (qj_X13_tell_26 nn g) (fun w => RTl v m w) := fun g g1 g2 g3 => by
    unfold qj_X13_tell_26
    refine pc_add (by omega) ?_; intro v2 e2
    refine pc_xl ?_; intro h3 e3
    exact pc_ret ⟨by rw [e3, up_s]; omega, fun q => by rw [e3, up_n (by omega)]; exact g2 q, fun cc x z1 z2 => by rw [e3, up_n z1]; exact g3 cc x z2⟩
  unfold qf_X13_tell
  refine pc_if (fun z => F m rfl (fun q => absurd q (by omega)) (fun _ _ _ => rfl)) (fun z => ?_)
  refine pc_xl ?_; intro v7 e7
  refine pc_wA ?_; intro _ _ h8 e8
  exact F h8 (by rw [e8, up_n (by omega)]) (fun _ => by rw [e8, up_s, e7]) (fun cc x z => by rw [e8, up_n z])
theorem oq_b_al {x : Int} : oq_b x = Int.bmod x 256 := by
  unfold oq_b
  rw [Int8.toInt_toInt32, Int32.toInt_toInt8, Int32.toInt_ofInt]
  exact Int.bmod_bmod_of_dvd (by decide)
theorem oq_and_al {x : Int} : oq_and x 255 = x % 256 := by
  unfold oq_and
  have h1 : (Int32.ofInt x &&& Int32.ofInt 255).toInt = (Int32.ofInt x &&& Int32.ofInt 255).toBitVec.toInt := rfl
  rw [h1, Int32.toBitVec_and]
  have h2 : ((Int32.ofInt x).toBitVec &&& (Int32.ofInt 255).toBitVec).toNat = (x % 256).toNat := by
    rw [BitVec.toNat_and]
    have h3 : (Int32.ofInt 255).toBitVec.toNat = 2 ^ 8 - 1 := rfl
    rw [h3, Nat.and_two_pow_sub_one_eq_mod]
    have h4 : (Int32.ofInt x).toBitVec.toNat = (x % 4294967296).toNat := by
      show (BitVec.ofInt 32 x).toNat = _
      rw [BitVec.toNat_ofInt]; rfl
    rw [h4]; omega
  have h5 : (x % 256).toNat < 256 := by omega
  rw [BitVec.toInt_eq_toNat_of_lt (by rw [h2]; omega), h2]
  omega
theorem wfc_r : WFc h h := ⟨id, fun _ _ _ _ => rfl⟩
theorem wfc_t (A : WFc h g) (C : WFc g u) : WFc h u := ⟨fun z => C.1 (A.1 z), fun cc y z1 z2 => (C.2 cc y z1 z2).trans (A.2 cc y z1 z2)⟩
theorem wfr_r : WFr m m := fun _ _ _ _ _ => rfl
theorem wfr_t (A : WFr m0 m) (C : WFr m w) : WFr m0 w := fun cc y z1 z2 z3 => (C cc y z1 z2 z3).trans (A cc y z1 z2 z3)
theorem wfc_p (A : CPt v h u) : WFc h u := ⟨fun z => by rw [A.2.2 45 5 (by omega) (by omega)]; exact z, fun cc y z1 z2 => A.2.2 cc y (by omega) (by omega)⟩
theorem wfr_p (A : RTl v m w) : WFr m w := fun cc y z1 z2 z3 => A.2.2 cc y (by omega) (by omega)
/-- a byte of both sides -/
theorem pbx_p (P : PBX X B h m) (e : h 45 5 = 0 → v % 256 = v2 % 256) (A : CPt v h u) (C : RTl v2 m w) : PBX X (B + 1) u w := by
  obtain ⟨⟨p1, p2, p3⟩, p4, ⟨p5, p6⟩, p7⟩ := P
  obtain ⟨a1, a2, a3⟩ := A
  obtain ⟨c1, c2, c3⟩ := C
  refine ⟨⟨plr_k p1 (fun cc y z => a3 cc y (by omega) (by omega)) (fun cc y z => c3 cc y (by omega) (by omega)), ⟨by rw [c3 160 62 (by omega) (by omega)]; exact p2.1, by rw [c3 160 64 (by omega) (by omega)]; exact p2.2⟩, spl_k p3 (fun cc y z => c3 cc y (by omega) (by omega))⟩, txe_k p4 (fun cc y z => a3 cc y (by omega) (by omega)) (fun cc y z => c3 cc y (by omega) (by omega)), ⟨by omega, by omega⟩, fun o => ?_⟩
  rw [a3 45 5 (by omega) (by omega)] at o
  obtain ⟨q1, q2⟩ := p7 o
  have e3 := e o
  refine ⟨by omega, fun x hx h6 => ?_⟩
  by_cases q : (x : Int) = h 45 7
  · rw [show x = (m 160 97).toNat by omega, c2 (by omega), show (m 160 97).toNat = (h 45 7).toNat by omega, a2 (by omega), oq_and_al, oq_b_al, Int.bmod_def]
    split <;> omega
  · rw [c3 225 x (by omega) (by omega), a3 48 x (by omega) (by omega)]
    exact q2 x (by omega) h6
theorem rw_t (A : RWq X B B' m0 f h g) (C : RWq X B' B2 m0 f2 g g2) : RWq X B B2 m0 (fun m => mx_sv (f m) f2) h g2 := ⟨wfc_t A.1 C.1, fun m W P => pc_sv (A.2 m W P) (fun w y => C.2 w y.2 y.1)⟩
/-- put and tell -/
theorem j_put (l : 0 ≤ h 45 7 ∧ h 45 7 ≤ 1000000000) (hB : B ≤ 1000000000) (e : h 45 5 = 0 → v % 256 = v2 % 256) : Pc (qf_X6_put nn v h) (fun g => RWq X B (B + 1) m0 (fun m => qf_X13_tell nn v2 m) h g ∧ g 45 7 = h 45 7 + 1) := by
  refine pc_imp (c_put (by omega)) (fun g A => ⟨⟨wfc_p A, fun m W P => ?_⟩, A.1⟩)
  have b := P.2.2.1.2
  exact pc_imp (r_tellb (by omega)) (fun w C => ⟨pbx_p P e A C, wfr_t W (wfr_p C)⟩)
theorem j_pair (l : 0 ≤ h 45 7 ∧ h 45 7 ≤ 900000000) (hB : B ≤ 900000000) (ev : v2 = v) : Pc (qf_X6_putPair nn v h) (fun g => RWq X B (B + 2) m0 (fun m => qf_X13_tellPair nn v2 m) h g ∧ g 45 7 = h 45 7 + 2) := by
  unfold qf_X6_putPair qf_X13_tellPair
  rw [ev]
  refine pc_xl ?_; intro v1 e1
  refine pc_sv (j_put (X := X) (m0 := m0) (B := B) (v2 := v1) (by omega) (by omega) (fun _ => rfl)) ?_; intro u3 ⟨R1, l1⟩
  refine pc_sv (j_put (X := X) (m0 := m0) (B := B + 1) (v := v) (v2 := v) (by omega) (by omega) (fun _ => rfl)) ?_; intro u5 ⟨R2, l2⟩
  refine pc_ret ⟨⟨wfc_t R1.1 R2.1, fun m W P => ?_⟩, by omega⟩
  refine pc_xl ?_; intro v1' e1'
  rw [e1', ← e1]
  refine pc_sv (R1.2 m W P) ?_; intro w3 y3
  refine pc_sv (R2.2 w3 y3.2 y3.1) ?_; intro w5 y5
  exact pc_ret ⟨by rw [show B + 2 = B + 1 + 1 by omega]; exact y5.1, y5.2⟩
/-- a constant of the pool on both sides -/
theorem pbx_c {u w : Int × ms_M} (P : PBX X B h m) (C : PCo h m u w) (S : SPL w.2 []) : PBX X B u.2 w.2 := by
  obtain ⟨⟨p1, p2, p3⟩, p4, ⟨p5, p6⟩, p7⟩ := P
  have T := txe_p p4 C
  obtain ⟨x1, x2, x3, x4, x5, x6⟩ := C
  refine ⟨⟨x1, x6, S⟩, T, ⟨by rw [x4 45 7 (by omega) (by omega) (by omega)]; exact p5, by rw [x5 160 97 (by omega) (by omega)]; exact p6⟩, fun o => ?_⟩
  have o' : h 45 5 = 0 := by
    rcases p1 with ⟨y, -⟩ | ⟨y, -⟩
    · exact y
    · have := x3 y; omega
  obtain ⟨q1, q2⟩ := p7 o'
  rw [x4 45 7 (by omega) (by omega) (by omega), x5 160 97 (by omega) (by omega)]
  exact ⟨q1, fun y hy h6 => by rw [x5 225 y (by omega) (by omega), x4 48 y (by omega) (by omega) (by omega)]; exact q2 y hy h6⟩
theorem wfc_c {u : Int × ms_M} (E : ∀ cc y : Nat, ¬ (cc = 45 ∧ (y = 4 ∨ y = 5)) → ¬ cc = 46 → ¬ cc = 47 → u.2 cc y = h cc y) (F : h 45 5 = 1 → u.2 45 5 = 1) : WFc h u.2 := ⟨F, fun cc y z1 z2 => E cc y (by omega) (by omega) (by omega)⟩
end
/-- what is told, as a row: how, the class's number, the reference's -/
abbrev WO : Type := Int × Int × Int
/-- a type of the class -/
def oc_T (nn : Nat) (t : Int) (h : ms_M) : Option ms_M := mx_sv (qf_X4_isNumber nn t h) fun u6 => if u6 = 0 then (if ¬ t = 300 then (mx_sv (qf_X6_put nn 3 h) fun u8 => mx_sv (qf_X6_classOf nn t u8) fun u10 => qf_X6_put nn u10.1 u10.2) else (qf_X6_put nn 2 h)) else (qf_X6_put nn 1 h)
def oc_1 (nn : Nat) (o : WO) (h : ms_M) : Option ms_M := if o.1 = 0 then qf_X6_put nn o.2.1 h else if o.1 = 1 then qf_X6_putPair nn o.2.1 h else if o.1 = 2 then oc_T nn o.2.1 h else mx_sv (qf_X6_classOf nn o.2.1 h) fun u => qf_X6_put nn u.1 u.2
def or_1 (nn : Nat) (o : WO) (m : ms_M) : Option ms_M := if o.1 = 0 then qf_X13_tell nn o.2.2 m else if o.1 = 1 then qf_X13_tellPair nn o.2.2 m else if o.1 = 2 then qf_X13_tellType nn o.2.2 m else mx_sv (qf_X13_classConstant nn o.2.2 m) fun w => qf_X13_tell nn w.1 w.2
def oc_L (nn : Nat) : List WO → ms_M → Option ms_M
  | [], h => some h
  | o :: L, h => mx_sv (oc_1 nn o h) (oc_L nn L)
def or_L (nn : Nat) : List WO → ms_M → Option ms_M
  | [], m => some m
  | o :: L, m => mx_sv (or_1 nn o m) (or_L nn L)
/-- such a row tells the same on both sides -/
def WOk (X : BCx) (h0 : ms_M) (o : WO) : Prop := (o.1 = 0 ∧ (¬ h0 45 5 = 1 → o.2.1 % 256 = o.2.2 % 256)) ∨ (o.1 = 1 ∧ o.2.2 = o.2.1) ∨ (o.1 = 2 ∧ TJ (bn X) o.2.2 o.2.1) ∨ (o.1 = 3 ∧ o.2.2 = ty_T o.2.1 ∧ ((0 ≤ o.2.1 ∧ o.2.1 < 8 + (bn X : Int)) ∨ (100 ≤ o.2.1 ∧ o.2.1 < 108 + (bn X : Int)) ∨ o.2.1 = 200))
section
variable {nn : Nat} {X : BCx} {B B' B2 v v2 t x : Int} {h g u g2 m m0 w h0 : ms_M} {f f2 : ms_M → Option ms_M} {Z : ms_M → Prop}
theorem c_k5 : Pc (qf_X6_constant nn t x h) (fun u => h 45 5 = 1 → u.2 45 5 = 1) := fun u eu z => (c_pfull z nn 1 u eu).1
theorem c_cl5 : Pc (qf_X6_classOf nn t h) (fun u => h 45 5 = 1 → u.2 45 5 = 1) := by
  unfold qf_X6_classOf
  refine pc_se ?_; intro u3 _
  refine pc_sv c_k5 ?_; intro u5 q5
  refine pc_sv c_k5 ?_; intro u7 q7
  exact pc_ret (fun z => q7 (q5 z))
theorem j_cls (Y : CXs X) (l : 0 ≤ h 45 7 ∧ h 45 7 ≤ 1000000000) (hB : B ≤ 900000000) (vt : (0 ≤ t ∧ t < 8 + (bn X : Int)) ∨ (100 ≤ t ∧ t < 108 + (bn X : Int)) ∨ t = 200) : Pc (mx_sv (qf_X6_classOf nn t h) fun u => qf_X6_put nn u.1 u.2) (fun g => RWq X B (B + 1) m0 (fun m => mx_sv (qf_X13_classConstant nn (ty_T t) m) fun w => qf_X13_tell nn w.1 w.2) h g ∧ g 45 7 = h 45 7 + 1) := by
  refine pc_se ?_; intro u eu
  have E := c_clf u eu
  have F5 := c_cl5 u eu
  have l7 := E 45 7 (by omega) (by omega) (by omega)
  refine pc_imp (c_put (v := u.1) (by omega)) (fun g A => ⟨⟨wfc_t (wfc_c E F5) (wfc_p A), fun m W P => ?_⟩, by rw [A.1, l7]⟩)
  refine pc_sv (j_classC Y P.2.1 P.1.2.2 P.1.1 P.1.2.1 vt u eu) ?_; intro w ⟨C, S⟩
  have P2 := pbx_c P C S
  have b := P2.2.2.1.2
  refine pc_imp (r_tellb (v := w.1) (by omega)) (fun w2 T => ⟨pbx_p P2 (fun o => ?_) A T, wfr_t W (wfr_t (fun cc y z1 z2 z3 => C.2.2.2.2.1 cc y (by omega) (by omega)) (wfr_p T))⟩)
  obtain ⟨c1, c2, c3⟩ := C.2.1 o
  rw [c1]
theorem j_typ (Y : CXs X) (l : 0 ≤ h 45 7 ∧ h 45 7 ≤ 900000000) (hB : B ≤ 800000000) (T : TJ (bn X) v2 t) : Pc (oc_T nn t h) (fun g => RWq X B (B + 2) m0 (fun m => qf_X13_tellType nn v2 m) h g ∧ h 45 7 ≤ g 45 7 ∧ g 45 7 ≤ h 45 7 + 2) := by
  obtain ⟨t1, t2, t3⟩ := T
  have n8 := Y.2.2.1
  have tc := ty_c (vtn_v n8 t2)
  have UP : ∀ g w : ms_M, PBX X (B + 1) g w → PBX X (B + 2) g w := fun g w P => ⟨P.1, P.2.1, ⟨by have := P.2.2.1; omega, by have := P.2.2.1; omega⟩, P.2.2.2⟩
  unfold oc_T qf_X13_tellType
  refine pc_sv c_isNum ?_; intro u6 q6
  refine pc_if (fun z => ?_) (fun z => ?_)
  · refine pc_if (fun z3 => ?_) (fun z3 => ?_)
    · have vt : (0 ≤ t ∧ t < 8 + (bn X : Int)) ∨ (100 ≤ t ∧ t < 108 + (bn X : Int)) ∨ t = 200 := by unfold VTn at t2; omega
      refine pc_sv (j_put (X := X) (m0 := m0) (B := B) (v := 3) (v2 := 3) (by omega) (by omega) (fun _ => rfl)) ?_; intro u8 ⟨R1, l1⟩
      refine pc_imp (j_cls (X := X) (m0 := m0) (B := B + 1) Y (by omega) (by omega) vt) (fun g ⟨R2, l2⟩ => ⟨⟨wfc_t R1.1 R2.1, fun m W P => ?_⟩, by omega, by omega⟩)
      refine pc_if (fun _ => ?_) (fun y => absurd (show (1 : Int) < v2 by omega) y)
      refine pc_if (fun _ => ?_) (fun y => absurd (show ¬ v2 = 2 by omega) y)
      unfold qj_X13_tellType_20
      refine pc_sv (R1.2 m W P) ?_; intro w2 y2
      refine pc_if (fun y => absurd y (by omega)) (fun _ => ?_)
      have R := R2.2 w2 y2.2 y2.1
      rw [← t1] at R
      intro r er
      refine (show Pc (mx_sv (qf_X13_classConstant nn v2 w2) fun w => qf_X13_tell nn w.1 w.2) (fun w => PBX X (B + 2) g w ∧ WFr m0 w) by rw [show B + 2 = B + 1 + 1 by omega]; exact R) r ?_
      obtain ⟨a, ea, ef⟩ := sv_i er
      obtain ⟨b, eb, eg⟩ := sv_i ef
      rw [ea]
      show qf_X13_tell nn a.1 a.2 = some r
      rw [eb]; exact eg
    · have e3 : t = 300 := Classical.byContradiction z3
      refine pc_imp (j_put (X := X) (m0 := m0) (B := B) (v := 2) (v2 := 2) (by omega) (by omega) (fun _ => rfl)) (fun g ⟨R1, l1⟩ => ⟨⟨R1.1, fun m W P => ?_⟩, by omega, by omega⟩)
      refine pc_if (fun _ => ?_) (fun y => absurd (show (1 : Int) < v2 by omega) y)
      refine pc_if (fun y => absurd (show v2 = 2 by omega) y) (fun _ => ?_)
      unfold qj_X13_tellType_20
      refine pc_sv (R1.2 m W P) ?_; intro w2 y2
      exact pc_if (fun _ => pc_ret ⟨UP _ _ y2.1, y2.2⟩) (fun y => absurd (show v2 ≤ 2 by omega) y)
  · refine pc_imp (j_put (X := X) (m0 := m0) (B := B) (v := 1) (v2 := 1) (by omega) (by omega) (fun _ => rfl)) (fun g ⟨R1, l1⟩ => ⟨⟨R1.1, fun m W P => ?_⟩, by omega, by omega⟩)
    refine pc_if (fun y => absurd y (by omega)) (fun _ => ?_)
    unfold qj_X13_tellType_20
    refine pc_sv (R1.2 m W P) ?_; intro w2 y2
    exact pc_if (fun _ => pc_ret ⟨UP _ _ y2.1, y2.2⟩) (fun y => absurd (show v2 ≤ 2 by omega) y)
/-- one row -/
theorem j_op1 {o : WO} (Y : CXs X) (l : 0 ≤ h 45 7 ∧ h 45 7 ≤ 900000000) (hB : B ≤ 800000000) (H0 : WFc h0 h) (O : WOk X h0 o) : Pc (oc_1 nn o h) (fun g => RWq X B (B + 2) m0 (or_1 nn o) h g ∧ h 45 7 ≤ g 45 7 ∧ g 45 7 ≤ h 45 7 + 2) := by
  have UP : ∀ g w : ms_M, PBX X (B + 1) g w → PBX X (B + 2) g w := fun g w P => ⟨P.1, P.2.1, ⟨by have := P.2.2.1; omega, by have := P.2.2.1; omega⟩, P.2.2.2⟩
  unfold oc_1 RWq or_1
  rcases O with ⟨o1, o2⟩ | ⟨o1, o3⟩ | ⟨o1, o2⟩ | ⟨o1, o2, o3⟩
  · rw [o1]
    refine pc_if (fun _ => ?_) (fun y => absurd rfl y)
    refine pc_imp (j_put (X := X) (m0 := m0) (B := B) (v2 := o.2.2) (by omega) (by omega) (fun z => o2 (fun y => by have := H0.1 y; omega))) (fun g ⟨R, l1⟩ => ⟨⟨R.1, fun m W P => ?_⟩, by omega, by omega⟩)
    exact pc_if (fun _ => pc_imp (R.2 m W P) (fun w y => ⟨UP _ _ y.1, y.2⟩)) (fun y => absurd rfl y)
  · rw [o1]
    refine pc_if (fun y => absurd y (by decide)) (fun _ => ?_)
    refine pc_if (fun _ => ?_) (fun y => absurd rfl y)
    refine pc_imp (j_pair (X := X) (m0 := m0) (B := B) (v2 := o.2.2) (by omega) (by omega) o3) (fun g ⟨R, l1⟩ => ⟨⟨R.1, fun m W P => ?_⟩, by omega, by omega⟩)
    refine pc_if (fun y => absurd y (by decide)) (fun _ => ?_)
    exact pc_if (fun _ => R.2 m W P) (fun y => absurd rfl y)
  · rw [o1]
    refine pc_if (fun y => absurd y (by decide)) (fun _ => ?_)
    refine pc_if (fun y => absurd y (by decide)) (fun _ => ?_)
    refine pc_if (fun _ => ?_) (fun y => absurd rfl y)
    refine pc_imp (j_typ (X := X) (m0 := m0) (B := B) Y (by omega) (by omega) o2) (fun g ⟨R, l1⟩ => ⟨⟨R.1, fun m W P => ?_⟩, by omega, by omega⟩)
    refine pc_if (fun y => absurd y (by decide)) (fun _ => ?_)
    refine pc_if (fun y => absurd y (by decide)) (fun _ => ?_)
    exact pc_if (fun _ => R.2 m W P) (fun y => absurd rfl y)
  · rw [o1]
    refine pc_if (fun y => absurd y (by decide)) (fun _ => ?_)
    refine pc_if (fun y => absurd y (by decide)) (fun _ => ?_)
    refine pc_if (fun y => absurd y (by decide)) (fun _ => ?_)
    refine pc_imp (j_cls (X := X) (m0 := m0) (B := B) Y (by omega) (by omega) o3) (fun g ⟨R, l1⟩ => ⟨⟨R.1, fun m W P => ?_⟩, by omega, by omega⟩)
    refine pc_if (fun y => absurd y (by decide)) (fun _ => ?_)
    refine pc_if (fun y => absurd y (by decide)) (fun _ => ?_)
    refine pc_if (fun y => absurd y (by decide)) (fun _ => ?_)
    rw [o2]
    exact pc_imp (R.2 m W P) (fun w y => ⟨UP _ _ y.1, y.2⟩)
/-- all rows -/
theorem j_opL (Y : CXs X) : ∀ (L : List WO) (B : Int) (h : ms_M), 0 ≤ h 45 7 → h 45 7 + 2 * (L.length : Int) ≤ 900000000 → B + 2 * (L.length : Int) ≤ 800000000 → WFc h0 h → (∀ o ∈ L, WOk X h0 o) → Pc (oc_L nn L h) (fun g => RWq X B (B + 2 * (L.length : Int)) m0 (or_L nn L) h g ∧ h 45 7 ≤ g 45 7 ∧ g 45 7 ≤ h 45 7 + 2 * (L.length : Int)) := by
  intro L
  induction L with
  | nil =>
    intro B h l1 l2 l3 H0 O
    exact pc_ret ⟨⟨wfc_r, fun m W P => pc_ret ⟨by show PBX X (B + 2 * ((0 : Nat) : Int)) h m; rw [show B + 2 * ((0 : Nat) : Int) = B by omega]; exact P, W⟩⟩, Int.le_refl _, by show h 45 7 ≤ h 45 7 + 2 * ((0 : Nat) : Int); omega⟩
  | cons o L ih =>
    intro B h l1 l2 l3 H0 O
    have ll : ((o :: L).length : Int) = (L.length : Int) + 1 := by rw [List.length_cons]; omega
    rw [ll] at l2 l3 ⊢
    show Pc (mx_sv (oc_1 nn o h) (oc_L nn L)) _
    refine pc_sv (j_op1 (X := X) (m0 := m0) (B := B) Y (by omega) (by omega) H0 (O o List.mem_cons_self)) ?_; intro g ⟨R1, g1, g2⟩
    refine pc_imp (ih (B + 2) g (by omega) (by omega) (by omega) (wfc_t H0 R1.1) (fun p hp => O p (List.mem_cons_of_mem _ hp))) (fun u ⟨R2, u1, u2⟩ => ⟨?_, by omega, by omega⟩)
    have R := rw_t R1 R2
    rw [show B + 2 + 2 * (L.length : Int) = B + 2 * ((L.length : Int) + 1) by omega] at R
    exact R
end

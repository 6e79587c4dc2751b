section
variable {nn : Nat} {h r z : ms_M} {c : Int}
def TX (h : ms_M) (c i : Int) : Prop := (1 ≤ i ∧ i ≤ h 229 c.toNat) ∧ h 238 (pl h c i).toNat = 1
def CL (h : ms_M) (c i : Int) : Prop := (1 ≤ i ∧ i ≤ h 229 c.toNat) ∧ h 238 (pl h c i).toNat = 3
/-- what a constant names is there -/
def CK8 (h : ms_M) (c p : Int) : Prop := (h 238 p.toNat = 3 → TX h c (h 238 (p + 1).toNat)) ∧ (h 238 p.toNat = 4 → CL h c (h 238 (p + 1).toNat) ∧ TX h c (h 238 (p + 2).toNat) ∧ TX h c (h 238 (p + 3).toNat))
/-- all constants of image c are there -/
def SI8 (h : ms_M) (c : Int) : Prop := h 160 115 = c ∧ CSn h c (h 229 c.toNat) ∧ ∀ i : Int, 1 ≤ i → i ≤ h 229 c.toNat → CK8 h c (pl h c i)
/-- what these readers leave -/
def KE8 (h r : ms_M) (c : Int) : Prop := (∀ k : Nat, r 238 k = h 238 k ∧ r 228 k = h 228 k) ∧ r 160 113 = h 160 113 ∧ r 160 115 = h 160 115 ∧ r 229 c.toNat = h 229 c.toNat
theorem ke_nb (N : NB h r) : KE8 h r c := ⟨fun k => ⟨N 238 k (by omega), N 228 k (by omega)⟩, N 160 113 (by decide), N 160 115 (by decide), N 229 _ (by omega)⟩
theorem ke8_rf : KE8 h h c := ⟨fun _ => ⟨rfl, rfl⟩, rfl, rfl, rfl⟩
theorem ke8_tr (a : KE8 h z c) (b : KE8 z r c) : KE8 h r c := ⟨fun k => ⟨(b.1 k).1.trans (a.1 k).1, (b.1 k).2.trans (a.1 k).2⟩, b.2.1.trans a.2.1, b.2.2.1.trans a.2.2.1, b.2.2.2.trans a.2.2.2⟩
theorem ke8_up {x k : Nat} {v : Int} (E : z = up_M h x k v) (hx : 230 ≤ x ∧ x ≤ 237) : KE8 h z c := ⟨fun j => ⟨by rw [E, up_n (by omega)], by rw [E, up_n (by omega)]⟩, by rw [E, up_n (by omega)], by rw [E, up_n (by omega)], by rw [E, up_n (by omega)]⟩
theorem pl_ke {i : Int} (K : KE8 h r c) : pl r c i = pl h c i := (K.1 _).2
theorem tx_ke {i : Int} (K : KE8 h r c) (x : TX h c i) : TX r c i := by
  unfold TX at x ⊢
  rw [pl_ke K, (K.1 _).1, K.2.2.2]; exact x
theorem cl_ke {i : Int} (K : KE8 h r c) (x : CL h c i) : CL r c i := by
  unfold CL at x ⊢
  rw [pl_ke K, (K.1 _).1, K.2.2.2]; exact x
theorem cp_ke {p : Int} (K : KE8 h r c) (x : CP h p) : CP r p := by
  unfold CP at x ⊢
  rw [(K.1 _).1, (K.1 _).1, K.2.1]; exact x
theorem cs_ke (K : KE8 h r c) {n : Int} (x : CSn h c n) : CSn r c n := fun i a b => by rw [pl_ke K]; exact cp_ke K (x i a b)
theorem ck_ke {p : Int} (K : KE8 h r c) (x : CK8 h c p) : CK8 r c p := by
  unfold CK8
  rw [(K.1 _).1, (K.1 _).1, (K.1 _).1, (K.1 _).1]
  exact ⟨fun y => tx_ke K (x.1 y), fun y => ⟨cl_ke K (x.2 y).1, tx_ke K (x.2 y).2.1, tx_ke K (x.2 y).2.2⟩⟩
theorem si8_ke (K : KE8 h r c) (x : SI8 h c) : SI8 r c := ⟨K.2.2.1.trans x.1, by rw [K.2.2.2]; exact cs_ke K x.2.1, fun i a b => by rw [pl_ke K]; rw [K.2.2.2] at b; exact ck_ke K (x.2.2 i a b)⟩
theorem live_nb (N : NB h r) (e : r = h) (L : Live h) : Live r := by rw [e]; exact L
/-- the letters of a text -/
theorem sq_77 {p L : Int} (hp : 0 ≤ p ∧ p ≤ 6000) (hL : 0 ≤ L ∧ L ≤ 255) : ∀ (k : Nat) (l3 : Int) (g : ms_M), VS_ g → NB h g → (Live g → p + 2 + l3 ≤ h 160 113) → (0 ≤ l3 ∧ l3 ≤ L) → L - l3 < (k : Int) → Ok_ (qw_X13_scanConstant_77 nn k p L l3 g) (fun u => VS_ u.2 ∧ NB h u.2 ∧ u.1 = p + 2 + L ∧ (Live u.2 → Live g ∧ p + 2 + L ≤ h 160 113)) := by
  intro k
  induction k with
  | zero => intro l3 g V N l a hm; exfalso; omega
  | succ k ih =>
    intro l3 g V N l a hm
    have E : (Live g → p + 2 + L ≤ h 160 113) → Ok_ (qj_X13_scanConstant_147 nn p L g) (fun u => VS_ u.2 ∧ NB h u.2 ∧ u.1 = p + 2 + L ∧ (Live u.2 → Live g ∧ p + 2 + L ≤ h 160 113)) := fun w => by
      unfold qj_X13_scanConstant_147
      refine ok_add (by omega) ?_; intro v1 e1
      refine ok_add (by omega) ?_; intro v2 e2
      exact ok_ret ⟨V, N, by show v2 = _; omega, fun y => ⟨y, w y⟩⟩
    have g113 := gF_160_113 V
    have e113 := N 160 113 (by decide)
    unfold qw_X13_scanConstant_77
    refine ok_if (fun C => E (fun y => by have := l y; omega)) (fun C => ?_)
    refine ok_if (fun D => E (fun y => absurd y D)) (fun D => ?_)
    have D : Live g := Classical.not_not.1 D
    have l := l D
    refine ok_add (by omega) ?_; intro v9 e9
    refine ok_add (by omega) ?_; intro v10 e10
    refine ok_sv (sq_byte V) ?_; intro u12 P12
    obtain ⟨V12, N12, P12⟩ := P12
    refine ok_if (fun F => ?_) (fun F => ?_)
    · refine ok_add (by omega) ?_; intro v13 e13
      rcases P12 with ⟨q, _⟩ | ⟨_, q⟩
      · exfalso; omega
      · exact ok_im (ih v13 u12.2 V12 (nb_tr N N12) (fun y => absurd y q) (by omega) (by omega)) (fun u w => ⟨w.1, w.2.1, w.2.2.1, fun y => absurd (w.2.2.2 y).1 q⟩)
    · rcases P12 with ⟨_, q2, _, q4⟩ | ⟨q, _⟩
      · rw [q2]
        have bad : Ok_ (qj_X13_scanConstant_132 nn (qw_X13_scanConstant_77 nn k) p L l3 g) (fun u => VS_ u.2 ∧ NB h u.2 ∧ u.1 = p + 2 + L ∧ (Live u.2 → Live g ∧ p + 2 + L ≤ h 160 113)) := by
          unfold qj_X13_scanConstant_132
          refine ok_add (by omega) ?_; intro v3 e3
          refine ok_add (by omega) ?_; intro v4 e4
          refine ok_sv (sq_unfit V (by omega)) ?_; intro u6 P6
          refine ok_add (by omega) ?_; intro v7 e7
          exact ok_im (ih v7 u6 P6.1 (nb_tr N P6.2.1) (fun y => absurd y P6.2.2) (by omega) (by omega)) (fun u w => ⟨w.1, w.2.1, w.2.2.1, fun y => absurd (w.2.2.2 y).1 P6.2.2⟩)
        refine ok_add (by omega) ?_; intro v15 e15
        refine ok_add (by omega) ?_; intro v16 e16
        refine ok_rd (by omega) (gA_238 V) ?_; intro v17 _ _ _
        refine ok_if (fun _ => bad) (fun _ => ?_)
        refine ok_add (by omega) ?_; intro v19 e19
        refine ok_add (by omega) ?_; intro v20 e20
        refine ok_rd (by omega) (gA_238 V) ?_; intro v21 _ _ _
        refine ok_if (fun _ => ?_) (fun _ => bad)
        refine ok_add (by omega) ?_; intro v22 e22
        exact ih v22 g V N (fun _ => by omega) (by omega) (by omega)
      · exfalso; omega
theorem sq_scanC (hn : 1000000 ≤ nn) (V : VS_ h) {p : Int} (hp : 3 ≤ p ∧ p < h 160 113) : Ok_ (qf_X13_scanConstant nn p h) (fun u => VS_ u.2 ∧ NB h u.2 ∧ (p ≤ u.1 ∧ u.1 ≤ 6300) ∧ (Live u.2 → Live h ∧ CP h p ∧ 3 ≤ u.1 ∧ u.1 ≤ h 160 113)) := by
  have g113 := gF_160_113 V
  unfold qf_X13_scanConstant
  refine ok_rd (by omega) (gA_238 V) ?_; intro v32 e32 _ _
  refine ok_if (fun C1 => ?_) (fun C1 => ?_)
  · refine ok_add (by omega) ?_; intro v35 e35
    refine ok_sv (sq_byte V) ?_; intro u37 P
    obtain ⟨V37, N37, P⟩ := P
    refine ok_if (fun F => ?_) (fun F => ?_)
    · rcases P with ⟨_, q2, q3, q4⟩ | ⟨q, _⟩
      · rw [q2]
        refine ok_add (by omega) ?_; intro v39 e39
        refine ok_rd (by omega) (gA_238 V) ?_; intro v40 e40 a40 b40
        rw [e39] at e40
        have bad : Ok_ (qj_X13_scanConstant_68 nn p v40 h) (fun u => VS_ u.2 ∧ NB h u.2 ∧ (p ≤ u.1 ∧ u.1 ≤ 6300) ∧ (Live u.2 → Live h ∧ CP h p ∧ 3 ≤ u.1 ∧ u.1 ≤ h 160 113)) := by
          unfold qj_X13_scanConstant_68
          refine ok_add (by omega) ?_; intro v28 e28
          refine ok_sv (sq_unfit V (by omega)) ?_; intro u30 P30
          exact ok_im (sq_77 (h := u30) (by omega) (by omega) nn 0 u30 P30.1 nb_rf (fun y => absurd y P30.2.2) (by omega) (by omega)) (fun u w => ⟨w.1, nb_tr P30.2.1 w.2.1, by have := w.2.2.1; omega, fun y => absurd (w.2.2.2 y).1 P30.2.2⟩)
        refine ok_if (fun _ => bad) (fun D1 => ?_)
        refine ok_if (fun D2 => ?_) (fun _ => bad)
        refine ok_im (sq_77 (h := h) (by omega) (by omega) nn 0 h V nb_rf (fun _ => by omega) (by omega) (by omega)) (fun u w => ⟨w.1, w.2.1, by have := w.2.2.1; omega, fun y => ?_⟩)
        obtain ⟨y1, y2⟩ := w.2.2.2 y
        have := w.2.2.1
        exact ⟨y1, ⟨hp.1, .inl ⟨by omega, by omega, by omega⟩⟩, by omega, by omega⟩
      · exfalso; omega
    · exact ok_ret ⟨V37, N37, by show p ≤ p ∧ p ≤ 6300; omega, fun y => by
        rcases P with ⟨q, _⟩ | ⟨_, q⟩
        · exfalso; omega
        · exact absurd y q⟩
  · refine ok_if (fun C2 => ?_) (fun C2 => ?_)
    · refine ok_add (by omega) ?_; intro v44 e44
      refine ok_sv (sq_byte V) ?_; intro u46 P
      obtain ⟨V46, N46, P⟩ := P
      refine ok_add (by omega) ?_; intro v47 e47
      refine ok_ret ⟨V46, N46, by show p ≤ v47 ∧ v47 ≤ 6300; omega, fun y => ?_⟩
      rcases P with ⟨_, _, q3, q4⟩ | ⟨_, q⟩
      · exact ⟨q3, ⟨hp.1, .inr (.inl ⟨by omega, by omega⟩)⟩, by show 3 ≤ v47; omega, by show v47 ≤ _; omega⟩
      · exact absurd y q
    · refine ok_if (fun C3 => ?_) (fun C3 => ?_)
      · refine ok_add (by omega) ?_; intro v48 e48
        refine ok_sv (sq_byte V) ?_; intro u46 P
        obtain ⟨V46, N46, P⟩ := P
        refine ok_add (by omega) ?_; intro v47 e47
        refine ok_ret ⟨V46, N46, by show p ≤ v47 ∧ v47 ≤ 6300; omega, fun y => ?_⟩
        rcases P with ⟨_, _, q3, q4⟩ | ⟨_, q⟩
        · exact ⟨q3, ⟨hp.1, .inr (.inr (.inl ⟨by omega, by omega⟩))⟩, by show 3 ≤ v47; omega, by show v47 ≤ _; omega⟩
        · exact absurd y q
      · refine ok_if (fun C4 => ?_) (fun C4 => ?_)
        · refine ok_add (by omega) ?_; intro v48 e48
          refine ok_sv (sq_byte V) ?_; intro u46 P
          obtain ⟨V46, N46, P⟩ := P
          refine ok_add (by omega) ?_; intro v47 e47
          refine ok_ret ⟨V46, N46, by show p ≤ v47 ∧ v47 ≤ 6300; omega, fun y => ?_⟩
          rcases P with ⟨_, _, q3, q4⟩ | ⟨_, q⟩
          · exact ⟨q3, ⟨hp.1, .inr (.inr (.inr ⟨by omega, by omega⟩))⟩, by show 3 ≤ v47; omega, by show v47 ≤ _; omega⟩
          · exact absurd y q
        · refine ok_sv (sq_unfit V (by omega)) ?_; intro u34 P34
          exact ok_ret ⟨P34.1, P34.2.1, by show p ≤ p ∧ p ≤ 6300; omega, fun y => absurd y P34.2.2⟩
/-- what a constant names -/
theorem sq_check (hn : 1000000 ≤ nn) (V : VS_ h) (hc : h 160 115 = c) (S : CSn h c (h 229 c.toNat)) {p : Int} (P : CP h p) : Ok_ (qf_X13_checkConstant nn p h) (fun r => VS_ r ∧ NB h r ∧ (Live r → Live h ∧ CK8 h c p)) := by
  have g113 := gF_160_113 V
  obtain ⟨P0, P⟩ := P
  have pn : p + 2 ≤ h 160 113 := by
    rcases P with P | P | P | P <;> omega
  -- the end: the member's kind
  have J105 : ∀ g : ms_M, VS_ g → NB h g → h 238 p.toNat = 4 → (Live g → Live h ∧ CL h c (h 238 (p + 1).toNat) ∧ TX h c (h 238 (p + 2).toNat)) → Ok_ (qj_X13_checkConstant_105 nn p g) (fun r => VS_ r ∧ NB h r ∧ (Live r → Live h ∧ CK8 h c p)) := fun g Vg N k4 lg => by
    have pn4 : p + 4 ≤ h 160 113 := by
      rcases P with P | P | P | P
      · exfalso; omega
      · exfalso; omega
      · exfalso; omega
      · exact P.2
    have K : KE8 h g c := ke_nb N
    unfold qj_X13_checkConstant_105
    refine ok_add (by omega) ?_; intro v2 e2
    refine ok_rd (by omega) (gA_238 Vg) ?_; intro v3 e3 _ _
    rw [e2, N 238 _ (by omega)] at e3
    refine ok_sv (sq_text hn Vg (c := c) (by rw [K.2.2.1]; exact hc) (by rw [K.2.2.2]; exact cs_ke K S)) ?_; intro u5 P5
    refine ok_if (fun F => ?_) (fun F => ?_)
    · refine ok_ret ⟨Vg, N, fun y => ?_⟩
      obtain ⟨y1, y2, y3⟩ := lg y
      have t := P5.2 F
      rw [K.2.2.2, pl_ke K, (K.1 _).1, e3] at t
      exact ⟨y1, fun k => by exfalso; omega, fun _ => ⟨y2, y3, t⟩⟩
    · refine ok_add (by omega) ?_; intro v6 e6
      refine ok_sv (sq_unfit Vg (by omega)) ?_; intro u8 P8
      exact ok_ret ⟨P8.1, nb_tr N P8.2.1, fun y => absurd y P8.2.2⟩
  have J82 : ∀ g : ms_M, VS_ g → NB h g → h 238 p.toNat = 4 → (Live g → Live h ∧ CL h c (h 238 (p + 1).toNat)) → Ok_ (qj_X13_checkConstant_82 nn p g) (fun r => VS_ r ∧ NB h r ∧ (Live r → Live h ∧ CK8 h c p)) := fun g Vg N k4 lg => by
    have pn4 : p + 4 ≤ h 160 113 := by
      rcases P with P | P | P | P
      · exfalso; omega
      · exfalso; omega
      · exfalso; omega
      · exact P.2
    have K : KE8 h g c := ke_nb N
    unfold qj_X13_checkConstant_82
    refine ok_add (by omega) ?_; intro v2 e2
    refine ok_rd (by omega) (gA_238 Vg) ?_; intro v3 e3 _ _
    rw [e2, N 238 _ (by omega)] at e3
    refine ok_sv (sq_text hn Vg (c := c) (by rw [K.2.2.1]; exact hc) (by rw [K.2.2.2]; exact cs_ke K S)) ?_; intro u5 P5
    refine ok_if (fun F => ?_) (fun F => ?_)
    · refine J105 g Vg N k4 (fun y => ?_)
      obtain ⟨y1, y2⟩ := lg y
      have t := P5.2 F
      rw [K.2.2.2, pl_ke K, (K.1 _).1, e3] at t
      exact ⟨y1, y2, t⟩
    · refine ok_add (by omega) ?_; intro v6 e6
      refine ok_sv (sq_unfit Vg (by omega)) ?_; intro u8 P8
      exact J105 u8 P8.1 (nb_tr N P8.2.1) k4 (fun y => absurd y P8.2.2)
  have J75 : ∀ g : ms_M, VS_ g → NB h g → h 238 p.toNat = 4 → Ok_ (qj_X13_checkConstant_75 nn p g) (fun r => VS_ r ∧ NB h r ∧ (Live r → Live h ∧ CK8 h c p)) := fun g Vg N k4 => by
    unfold qj_X13_checkConstant_75
    refine ok_add (by omega) ?_; intro v6 e6
    refine ok_sv (sq_unfit Vg (by omega)) ?_; intro u8 P8
    exact J82 u8 P8.1 (nb_tr N P8.2.1) k4 (fun y => absurd y P8.2.2)
  have J33 : ∀ g : ms_M, VS_ g → NB h g → (Live g → Live h ∧ (h 238 p.toNat = 3 → TX h c (h 238 (p + 1).toNat))) → Ok_ (qj_X13_checkConstant_33 nn p g) (fun r => VS_ r ∧ NB h r ∧ (Live r → Live h ∧ CK8 h c p)) := fun g Vg N lg => by
    have K : KE8 h g c := ke_nb N
    unfold qj_X13_checkConstant_33
    refine ok_rd (by omega) (gA_238 Vg) ?_; intro v23 e23 _ _
    rw [N 238 _ (by omega)] at e23
    refine ok_if (fun F => ?_) (fun F => ok_ret ⟨Vg, N, fun y => ⟨(lg y).1, (lg y).2, fun k => by exfalso; omega⟩⟩)
    have k4 : h 238 p.toNat = 4 := by omega
    refine ok_add (by omega) ?_; intro v26 e26
    refine ok_rd (by omega) (gA_238 Vg) ?_; intro v27 e27 _ _
    rw [e26, N 238 _ (by omega)] at e27
    have g115 := gF_160_115 Vg
    refine ok_sv (sq_const Vg (c := g 160 115) (by omega)) ?_; intro u29 P29
    refine ok_if (fun _ => J75 g Vg N k4) (fun D => ?_)
    rcases P29 with P29 | ⟨P29, P30, P31, P32⟩
    · exfalso; omega
    have ec : g 160 115 = c := by rw [K.2.2.1]; exact hc
    rw [ec] at P29 P30
    rw [K.2.2.2] at P29
    have s := S v27 P29.1 P29.2
    rw [← pl_ke K, ← P30] at s
    have sb : u29 < h 160 113 := by
      obtain ⟨s0, s⟩ := s
      rcases s with s | s | s | s <;> omega
    refine ok_rd (by omega) (gA_238 Vg) ?_; intro v31 e31 _ _
    refine ok_if (fun E => ?_) (fun _ => J75 g Vg N k4)
    refine J82 g Vg N k4 (fun y => ⟨(lg y).1, ?_⟩)
    rw [← e27]
    exact ⟨P29, by rw [← pl_ke K, ← P30, ← N 238 _ (by omega)]; omega⟩
  unfold qf_X13_checkConstant
  refine ok_rd (by omega) (gA_238 V) ?_; intro v36 e36 _ _
  refine ok_if (fun F => J33 h V nb_rf (fun y => ⟨y, fun k => by exfalso; omega⟩)) (fun F => ?_)
  refine ok_add (by omega) ?_; intro v38 e38
  refine ok_rd (by omega) (gA_238 V) ?_; intro v39 e39 _ _
  rw [e38] at e39
  refine ok_sv (sq_text hn V hc S) ?_; intro u41 P41
  refine ok_if (fun G => ?_) (fun G => ?_)
  · refine J33 h V nb_rf (fun y => ⟨y, fun _ => ?_⟩)
    rw [← e39]; exact P41.2 G
  · refine ok_add (by omega) ?_; intro v42 e42
    refine ok_sv (sq_unfit V (by omega)) ?_; intro u44 P44
    exact J33 u44 P44.1 P44.2.1 (fun y => absurd y P44.2.2)
end
